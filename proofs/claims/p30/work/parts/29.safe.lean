abbrev Rm_cX10_refusalOfTable_1b9a2 : Room := { frames := 1, cells := 0, slots := 0, locals := 22 }
abbrev B_cX10_refusalOfTable_1b9a2 (D : va_G) (k : Nat → ClassId) (h0 h1 h4 h18 h19 h20 h21 h2 h3 h5 h6 h7 h8 h9 h10 h11 h12 h13 h14 h46 h47 h48 h49 : Nat) (x1 : Int32) (x2 : Int32) (h0f2 : Int32) (h0f6 : Int32) (h0f8 : Int32) (h0f11 : Int32) (h1f0 : Int32) (h1f1 : Int32) (h1f2 : Int32) (h18f0 : Int32) (h18f1 : Int32) (h19f0 : Int32) (h19f1 : Int32) (h20f0 : Int32) (h20f1 : Int32) (h21f0 : Int32) (h21f1 : Int32) (A : Nat → Prop) (r : Int32) (H : Heap) : Prop := ((-1) = r ∧ TP D A [(h0, ob 7 [.ref h1, .ref h2, .int h0f2, .ref h3, .ref h4, .ref h5, .int h0f6, .ref h6, .int h0f8, .ref h7, .ref h8, .int h0f11, .ref h9, .ref h10, .ref h11, .ref h12, .ref h13]), (h1, ob 4 [.int h1f0, .int h1f1, .int h1f2, .ref h14]), (h4, aQ (k 3) 4 (q4 h18 h19 h20 h21)), (h18, ob 5 [.int h18f0, .int h18f1, .ref h46]), (h19, ob 5 [.int h19f0, .int h19f1, .ref h47]), (h20, ob 5 [.int h20f0, .int h20f1, .ref h48]), (h21, ob 5 [.int h21f0, .int h21f1, .ref h49])] H) ∨ ((-12) = r ∧ TP D A [(h0, ob 7 [.ref h1, .ref h2, .int h0f2, .ref h3, .ref h4, .ref h5, .int h0f6, .ref h6, .int h0f8, .ref h7, .ref h8, .int h0f11, .ref h9, .ref h10, .ref h11, .ref h12, .ref h13]), (h1, ob 4 [.int h1f0, .int h1f1, .int h1f2, .ref h14]), (h4, aQ (k 3) 4 (q4 h18 h19 h20 h21)), (h18, ob 5 [.int h18f0, .int h18f1, .ref h46]), (h19, ob 5 [.int h19f0, .int h19f1, .ref h47]), (h20, ob 5 [.int h20f0, .int h20f1, .ref h48]), (h21, ob 5 [.int h21f0, .int h21f1, .ref h49])] H) ∨ (∃ o0 : Int32, (1 ≤ o0.toInt ∧ o0.toInt ≤ 1) ∧ 0 ≤ x1.toInt ∧ x1.toInt < 4 ∧ x1.toInt = 0 ∧ h18f0.toInt ≠ (-1) ∧ h18f0.toInt ≤ 0 ∧ h1f0.toInt = 1 ∧ o0.toInt = h1f0.toInt ∧ 0 ≤ h1f0.toInt ∧ 0 ≤ x2.toInt ∧ x2.toInt + h1f0.toInt ≤ h18f1.toInt ∧ o0.toInt = h1f0.toInt ∧ 0 = r ∧ TP D A [(h0, ob 7 [.ref h1, .ref h2, .int h0f2, .ref h3, .ref h4, .ref h5, .int h0f6, .ref h6, .int h0f8, .ref h7, .ref h8, .int h0f11, .ref h9, .ref h10, .ref h11, .ref h12, .ref h13]), (h1, ob 4 [.int h1f0, .int h1f1, .int h1f2, .ref h14]), (h4, aQ (k 3) 4 (q4 h18 h19 h20 h21)), (h18, ob 5 [.int h18f0, .int h18f1, .ref h46]), (h19, ob 5 [.int h19f0, .int h19f1, .ref h47]), (h20, ob 5 [.int h20f0, .int h20f1, .ref h48]), (h21, ob 5 [.int h21f0, .int h21f1, .ref h49])] H) ∨ (∃ o0 : Int32, (4 ≤ o0.toInt ∧ o0.toInt ≤ 4) ∧ 0 ≤ x1.toInt ∧ x1.toInt < 4 ∧ x1.toInt = 0 ∧ h18f0.toInt ≠ (-1) ∧ h18f0.toInt ≤ 0 ∧ h1f0.toInt = 2 ∧ o0.toInt = 2 * h1f0.toInt ∧ 0 ≤ 2 * h1f0.toInt ∧ 0 ≤ x2.toInt ∧ x2.toInt + 2 * h1f0.toInt ≤ h18f1.toInt ∧ o0.toInt = 2 * h1f0.toInt ∧ 0 = r ∧ TP D A [(h0, ob 7 [.ref h1, .ref h2, .int h0f2, .ref h3, .ref h4, .ref h5, .int h0f6, .ref h6, .int h0f8, .ref h7, .ref h8, .int h0f11, .ref h9, .ref h10, .ref h11, .ref h12, .ref h13]), (h1, ob 4 [.int h1f0, .int h1f1, .int h1f2, .ref h14]), (h4, aQ (k 3) 4 (q4 h18 h19 h20 h21)), (h18, ob 5 [.int h18f0, .int h18f1, .ref h46]), (h19, ob 5 [.int h19f0, .int h19f1, .ref h47]), (h20, ob 5 [.int h20f0, .int h20f1, .ref h48]), (h21, ob 5 [.int h21f0, .int h21f1, .ref h49])] H) ∨ (∃ o0 : Int32, (9 ≤ o0.toInt ∧ o0.toInt ≤ 9) ∧ 0 ≤ x1.toInt ∧ x1.toInt < 4 ∧ x1.toInt = 0 ∧ h18f0.toInt ≠ (-1) ∧ h18f0.toInt ≤ 0 ∧ h1f0.toInt = 3 ∧ o0.toInt = 3 * h1f0.toInt ∧ 0 ≤ 3 * h1f0.toInt ∧ 0 ≤ x2.toInt ∧ x2.toInt + 3 * h1f0.toInt ≤ h18f1.toInt ∧ o0.toInt = 3 * h1f0.toInt ∧ 0 = r ∧ TP D A [(h0, ob 7 [.ref h1, .ref h2, .int h0f2, .ref h3, .ref h4, .ref h5, .int h0f6, .ref h6, .int h0f8, .ref h7, .ref h8, .int h0f11, .ref h9, .ref h10, .ref h11, .ref h12, .ref h13]), (h1, ob 4 [.int h1f0, .int h1f1, .int h1f2, .ref h14]), (h4, aQ (k 3) 4 (q4 h18 h19 h20 h21)), (h18, ob 5 [.int h18f0, .int h18f1, .ref h46]), (h19, ob 5 [.int h19f0, .int h19f1, .ref h47]), (h20, ob 5 [.int h20f0, .int h20f1, .ref h48]), (h21, ob 5 [.int h21f0, .int h21f1, .ref h49])] H) ∨ ((-13) = r ∧ TP D A [(h0, ob 7 [.ref h1, .ref h2, .int h0f2, .ref h3, .ref h4, .ref h5, .int h0f6, .ref h6, .int h0f8, .ref h7, .ref h8, .int h0f11, .ref h9, .ref h10, .ref h11, .ref h12, .ref h13]), (h1, ob 4 [.int h1f0, .int h1f1, .int h1f2, .ref h14]), (h4, aQ (k 3) 4 (q4 h18 h19 h20 h21)), (h18, ob 5 [.int h18f0, .int h18f1, .ref h46]), (h19, ob 5 [.int h19f0, .int h19f1, .ref h47]), (h20, ob 5 [.int h20f0, .int h20f1, .ref h48]), (h21, ob 5 [.int h21f0, .int h21f1, .ref h49])] H) ∨ ((-11) = r ∧ TP D A [(h0, ob 7 [.ref h1, .ref h2, .int h0f2, .ref h3, .ref h4, .ref h5, .int h0f6, .ref h6, .int h0f8, .ref h7, .ref h8, .int h0f11, .ref h9, .ref h10, .ref h11, .ref h12, .ref h13]), (h1, ob 4 [.int h1f0, .int h1f1, .int h1f2, .ref h14]), (h4, aQ (k 3) 4 (q4 h18 h19 h20 h21)), (h18, ob 5 [.int h18f0, .int h18f1, .ref h46]), (h19, ob 5 [.int h19f0, .int h19f1, .ref h47]), (h20, ob 5 [.int h20f0, .int h20f1, .ref h48]), (h21, ob 5 [.int h21f0, .int h21f1, .ref h49])] H) ∨ (∃ o0 : Int32, (1 ≤ o0.toInt ∧ o0.toInt ≤ 1) ∧ 0 ≤ x1.toInt ∧ x1.toInt < 4 ∧ x1.toInt = 1 ∧ h19f0.toInt ≠ (-1) ∧ h19f0.toInt ≤ 0 ∧ h1f0.toInt = 1 ∧ o0.toInt = h1f0.toInt ∧ 0 ≤ h1f0.toInt ∧ 0 ≤ x2.toInt ∧ x2.toInt + h1f0.toInt ≤ h19f1.toInt ∧ o0.toInt = h1f0.toInt ∧ 0 = r ∧ TP D A [(h0, ob 7 [.ref h1, .ref h2, .int h0f2, .ref h3, .ref h4, .ref h5, .int h0f6, .ref h6, .int h0f8, .ref h7, .ref h8, .int h0f11, .ref h9, .ref h10, .ref h11, .ref h12, .ref h13]), (h1, ob 4 [.int h1f0, .int h1f1, .int h1f2, .ref h14]), (h4, aQ (k 3) 4 (q4 h18 h19 h20 h21)), (h18, ob 5 [.int h18f0, .int h18f1, .ref h46]), (h19, ob 5 [.int h19f0, .int h19f1, .ref h47]), (h20, ob 5 [.int h20f0, .int h20f1, .ref h48]), (h21, ob 5 [.int h21f0, .int h21f1, .ref h49])] H) ∨ (∃ o0 : Int32, (4 ≤ o0.toInt ∧ o0.toInt ≤ 4) ∧ 0 ≤ x1.toInt ∧ x1.toInt < 4 ∧ x1.toInt = 1 ∧ h19f0.toInt ≠ (-1) ∧ h19f0.toInt ≤ 0 ∧ h1f0.toInt = 2 ∧ o0.toInt = 2 * h1f0.toInt ∧ 0 ≤ 2 * h1f0.toInt ∧ 0 ≤ x2.toInt ∧ x2.toInt + 2 * h1f0.toInt ≤ h19f1.toInt ∧ o0.toInt = 2 * h1f0.toInt ∧ 0 = r ∧ TP D A [(h0, ob 7 [.ref h1, .ref h2, .int h0f2, .ref h3, .ref h4, .ref h5, .int h0f6, .ref h6, .int h0f8, .ref h7, .ref h8, .int h0f11, .ref h9, .ref h10, .ref h11, .ref h12, .ref h13]), (h1, ob 4 [.int h1f0, .int h1f1, .int h1f2, .ref h14]), (h4, aQ (k 3) 4 (q4 h18 h19 h20 h21)), (h18, ob 5 [.int h18f0, .int h18f1, .ref h46]), (h19, ob 5 [.int h19f0, .int h19f1, .ref h47]), (h20, ob 5 [.int h20f0, .int h20f1, .ref h48]), (h21, ob 5 [.int h21f0, .int h21f1, .ref h49])] H) ∨ (∃ o0 : Int32, (9 ≤ o0.toInt ∧ o0.toInt ≤ 9) ∧ 0 ≤ x1.toInt ∧ x1.toInt < 4 ∧ x1.toInt = 1 ∧ h19f0.toInt ≠ (-1) ∧ h19f0.toInt ≤ 0 ∧ h1f0.toInt = 3 ∧ o0.toInt = 3 * h1f0.toInt ∧ 0 ≤ 3 * h1f0.toInt ∧ 0 ≤ x2.toInt ∧ x2.toInt + 3 * h1f0.toInt ≤ h19f1.toInt ∧ o0.toInt = 3 * h1f0.toInt ∧ 0 = r ∧ TP D A [(h0, ob 7 [.ref h1, .ref h2, .int h0f2, .ref h3, .ref h4, .ref h5, .int h0f6, .ref h6, .int h0f8, .ref h7, .ref h8, .int h0f11, .ref h9, .ref h10, .ref h11, .ref h12, .ref h13]), (h1, ob 4 [.int h1f0, .int h1f1, .int h1f2, .ref h14]), (h4, aQ (k 3) 4 (q4 h18 h19 h20 h21)), (h18, ob 5 [.int h18f0, .int h18f1, .ref h46]), (h19, ob 5 [.int h19f0, .int h19f1, .ref h47]), (h20, ob 5 [.int h20f0, .int h20f1, .ref h48]), (h21, ob 5 [.int h21f0, .int h21f1, .ref h49])] H) ∨ (∃ o0 : Int32, (1 ≤ o0.toInt ∧ o0.toInt ≤ 1) ∧ 0 ≤ x1.toInt ∧ x1.toInt < 4 ∧ x1.toInt = 2 ∧ h20f0.toInt ≠ (-1) ∧ h20f0.toInt ≤ 0 ∧ h1f0.toInt = 1 ∧ o0.toInt = h1f0.toInt ∧ 0 ≤ h1f0.toInt ∧ 0 ≤ x2.toInt ∧ x2.toInt + h1f0.toInt ≤ h20f1.toInt ∧ o0.toInt = h1f0.toInt ∧ 0 = r ∧ TP D A [(h0, ob 7 [.ref h1, .ref h2, .int h0f2, .ref h3, .ref h4, .ref h5, .int h0f6, .ref h6, .int h0f8, .ref h7, .ref h8, .int h0f11, .ref h9, .ref h10, .ref h11, .ref h12, .ref h13]), (h1, ob 4 [.int h1f0, .int h1f1, .int h1f2, .ref h14]), (h4, aQ (k 3) 4 (q4 h18 h19 h20 h21)), (h18, ob 5 [.int h18f0, .int h18f1, .ref h46]), (h19, ob 5 [.int h19f0, .int h19f1, .ref h47]), (h20, ob 5 [.int h20f0, .int h20f1, .ref h48]), (h21, ob 5 [.int h21f0, .int h21f1, .ref h49])] H) ∨ (∃ o0 : Int32, (4 ≤ o0.toInt ∧ o0.toInt ≤ 4) ∧ 0 ≤ x1.toInt ∧ x1.toInt < 4 ∧ x1.toInt = 2 ∧ h20f0.toInt ≠ (-1) ∧ h20f0.toInt ≤ 0 ∧ h1f0.toInt = 2 ∧ o0.toInt = 2 * h1f0.toInt ∧ 0 ≤ 2 * h1f0.toInt ∧ 0 ≤ x2.toInt ∧ x2.toInt + 2 * h1f0.toInt ≤ h20f1.toInt ∧ o0.toInt = 2 * h1f0.toInt ∧ 0 = r ∧ TP D A [(h0, ob 7 [.ref h1, .ref h2, .int h0f2, .ref h3, .ref h4, .ref h5, .int h0f6, .ref h6, .int h0f8, .ref h7, .ref h8, .int h0f11, .ref h9, .ref h10, .ref h11, .ref h12, .ref h13]), (h1, ob 4 [.int h1f0, .int h1f1, .int h1f2, .ref h14]), (h4, aQ (k 3) 4 (q4 h18 h19 h20 h21)), (h18, ob 5 [.int h18f0, .int h18f1, .ref h46]), (h19, ob 5 [.int h19f0, .int h19f1, .ref h47]), (h20, ob 5 [.int h20f0, .int h20f1, .ref h48]), (h21, ob 5 [.int h21f0, .int h21f1, .ref h49])] H) ∨ (∃ o0 : Int32, (9 ≤ o0.toInt ∧ o0.toInt ≤ 9) ∧ 0 ≤ x1.toInt ∧ x1.toInt < 4 ∧ x1.toInt = 2 ∧ h20f0.toInt ≠ (-1) ∧ h20f0.toInt ≤ 0 ∧ h1f0.toInt = 3 ∧ o0.toInt = 3 * h1f0.toInt ∧ 0 ≤ 3 * h1f0.toInt ∧ 0 ≤ x2.toInt ∧ x2.toInt + 3 * h1f0.toInt ≤ h20f1.toInt ∧ o0.toInt = 3 * h1f0.toInt ∧ 0 = r ∧ TP D A [(h0, ob 7 [.ref h1, .ref h2, .int h0f2, .ref h3, .ref h4, .ref h5, .int h0f6, .ref h6, .int h0f8, .ref h7, .ref h8, .int h0f11, .ref h9, .ref h10, .ref h11, .ref h12, .ref h13]), (h1, ob 4 [.int h1f0, .int h1f1, .int h1f2, .ref h14]), (h4, aQ (k 3) 4 (q4 h18 h19 h20 h21)), (h18, ob 5 [.int h18f0, .int h18f1, .ref h46]), (h19, ob 5 [.int h19f0, .int h19f1, .ref h47]), (h20, ob 5 [.int h20f0, .int h20f1, .ref h48]), (h21, ob 5 [.int h21f0, .int h21f1, .ref h49])] H) ∨ (∃ o0 : Int32, (1 ≤ o0.toInt ∧ o0.toInt ≤ 1) ∧ 0 ≤ x1.toInt ∧ x1.toInt < 4 ∧ x1.toInt = 3 ∧ h21f0.toInt ≠ (-1) ∧ h21f0.toInt ≤ 0 ∧ h1f0.toInt = 1 ∧ o0.toInt = h1f0.toInt ∧ 0 ≤ h1f0.toInt ∧ 0 ≤ x2.toInt ∧ x2.toInt + h1f0.toInt ≤ h21f1.toInt ∧ o0.toInt = h1f0.toInt ∧ 0 = r ∧ TP D A [(h0, ob 7 [.ref h1, .ref h2, .int h0f2, .ref h3, .ref h4, .ref h5, .int h0f6, .ref h6, .int h0f8, .ref h7, .ref h8, .int h0f11, .ref h9, .ref h10, .ref h11, .ref h12, .ref h13]), (h1, ob 4 [.int h1f0, .int h1f1, .int h1f2, .ref h14]), (h4, aQ (k 3) 4 (q4 h18 h19 h20 h21)), (h18, ob 5 [.int h18f0, .int h18f1, .ref h46]), (h19, ob 5 [.int h19f0, .int h19f1, .ref h47]), (h20, ob 5 [.int h20f0, .int h20f1, .ref h48]), (h21, ob 5 [.int h21f0, .int h21f1, .ref h49])] H) ∨ (∃ o0 : Int32, (4 ≤ o0.toInt ∧ o0.toInt ≤ 4) ∧ 0 ≤ x1.toInt ∧ x1.toInt < 4 ∧ x1.toInt = 3 ∧ h21f0.toInt ≠ (-1) ∧ h21f0.toInt ≤ 0 ∧ h1f0.toInt = 2 ∧ o0.toInt = 2 * h1f0.toInt ∧ 0 ≤ 2 * h1f0.toInt ∧ 0 ≤ x2.toInt ∧ x2.toInt + 2 * h1f0.toInt ≤ h21f1.toInt ∧ o0.toInt = 2 * h1f0.toInt ∧ 0 = r ∧ TP D A [(h0, ob 7 [.ref h1, .ref h2, .int h0f2, .ref h3, .ref h4, .ref h5, .int h0f6, .ref h6, .int h0f8, .ref h7, .ref h8, .int h0f11, .ref h9, .ref h10, .ref h11, .ref h12, .ref h13]), (h1, ob 4 [.int h1f0, .int h1f1, .int h1f2, .ref h14]), (h4, aQ (k 3) 4 (q4 h18 h19 h20 h21)), (h18, ob 5 [.int h18f0, .int h18f1, .ref h46]), (h19, ob 5 [.int h19f0, .int h19f1, .ref h47]), (h20, ob 5 [.int h20f0, .int h20f1, .ref h48]), (h21, ob 5 [.int h21f0, .int h21f1, .ref h49])] H) ∨ (∃ o0 : Int32, (9 ≤ o0.toInt ∧ o0.toInt ≤ 9) ∧ 0 ≤ x1.toInt ∧ x1.toInt < 4 ∧ x1.toInt = 3 ∧ h21f0.toInt ≠ (-1) ∧ h21f0.toInt ≤ 0 ∧ h1f0.toInt = 3 ∧ o0.toInt = 3 * h1f0.toInt ∧ 0 ≤ 3 * h1f0.toInt ∧ 0 ≤ x2.toInt ∧ x2.toInt + 3 * h1f0.toInt ≤ h21f1.toInt ∧ o0.toInt = 3 * h1f0.toInt ∧ 0 = r ∧ TP D A [(h0, ob 7 [.ref h1, .ref h2, .int h0f2, .ref h3, .ref h4, .ref h5, .int h0f6, .ref h6, .int h0f8, .ref h7, .ref h8, .int h0f11, .ref h9, .ref h10, .ref h11, .ref h12, .ref h13]), (h1, ob 4 [.int h1f0, .int h1f1, .int h1f2, .ref h14]), (h4, aQ (k 3) 4 (q4 h18 h19 h20 h21)), (h18, ob 5 [.int h18f0, .int h18f1, .ref h46]), (h19, ob 5 [.int h19f0, .int h19f1, .ref h47]), (h20, ob 5 [.int h20f0, .int h20f1, .ref h48]), (h21, ob 5 [.int h21f0, .int h21f1, .ref h49])] H)
set_option maxHeartbeats 4000000 in
set_option maxRecDepth 100000 in
theorem cX10_refusalOfTable_1b9a2 (l : Launch) (D : va_G) (k : Nat → ClassId) (sz : Nat) (h0 h1 h4 h18 h19 h20 h21 h2 h3 h5 h6 h7 h8 h9 h10 h11 h12 h13 h14 h46 h47 h48 h49 : Nat) (x1 : Int32) (x2 : Int32) (h0f2 : Int32) (h0f6 : Int32) (h0f8 : Int32) (h0f11 : Int32) (h1f0 : Int32) (h1f1 : Int32) (h1f2 : Int32) (h18f0 : Int32) (h18f1 : Int32) (h19f0 : Int32) (h19f1 : Int32) (h20f0 : Int32) (h20f1 : Int32) (h21f0 : Int32) (h21f1 : Int32) (b_h0f2 : 0 ≤ h0f2.toInt ∧ h0f2.toInt ≤ 1) (b_h0f6 : 0 ≤ h0f6.toInt ∧ h0f6.toInt ≤ 1) (b_h0f8 : 0 ≤ h0f8.toInt ∧ h0f8.toInt ≤ 1) (b_h0f11 : 0 ≤ h0f11.toInt ∧ h0f11.toInt ≤ 200) (b_h1f0 : 1 ≤ h1f0.toInt ∧ h1f0.toInt ≤ 3) (b_h1f1 : 0 ≤ h1f1.toInt ∧ h1f1.toInt ≤ 4) (b_h18f0 : (-1) ≤ h18f0.toInt ∧ h18f0.toInt ≤ 2) (b_h18f1 : 0 ≤ h18f1.toInt ∧ h18f1.toInt ≤ 40) (b_h19f0 : (-1) ≤ h19f0.toInt ∧ h19f0.toInt ≤ 2) (b_h19f1 : 0 ≤ h19f1.toInt ∧ h19f1.toInt ≤ 40) (b_h20f0 : (-1) ≤ h20f0.toInt ∧ h20f0.toInt ≤ 2) (b_h20f1 : 0 ≤ h20f1.toInt ∧ h20f1.toInt ≤ 40) (b_h21f0 : (-1) ≤ h21f0.toInt ∧ h21f0.toInt ≤ 2) (b_h21f1 : 0 ≤ h21f1.toInt ∧ h21f1.toInt ≤ 40) : Met l yX10_refusalOfTable (Cond.code yX10_refusalOfTable cX10_refusalOfTable 5 (some .int) :: uw) Rm_cX10_refusalOfTable_1b9a2 (pT D k sz [.ref h0, .int x1, .int x2, .int 0] [(h0, ob 7 [.ref h1, .ref h2, .int h0f2, .ref h3, .ref h4, .ref h5, .int h0f6, .ref h6, .int h0f8, .ref h7, .ref h8, .int h0f11, .ref h9, .ref h10, .ref h11, .ref h12, .ref h13]), (h1, ob 4 [.int h1f0, .int h1f1, .int h1f2, .ref h14]), (h4, aQ (k 3) 4 (q4 h18 h19 h20 h21)), (h18, ob 5 [.int h18f0, .int h18f1, .ref h46]), (h19, ob 5 [.int h19f0, .int h19f1, .ref h47]), (h20, ob 5 [.int h20f0, .int h20f1, .ref h48]), (h21, ob 5 [.int h21f0, .int h21f1, .ref h49])]) (qI (B_cX10_refusalOfTable_1b9a2 D k h0 h1 h4 h18 h19 h20 h21 h2 h3 h5 h6 h7 h8 h9 h10 h11 h12 h13 h14 h46 h47 h48 h49 x1 x2 h0f2 h0f6 h0f8 h0f11 h1f0 h1f1 h1f2 h18f0 h18f1 h19f0 h19f1 h20f0 h20f1 h21f0 h21f1 (zA [h0, h1, h4, h18, h19, h20, h21] sz)) (zA [h0, h1, h4, h18, h19, h20, h21] sz)) 0 0 (zA [h0, h1, h4, h18, h19, h20, h21] sz) := by
  refine tz_begin (as := [h0, h1, h4, h18, h19, h20, h21]) (Qc := fun A => qI (B_cX10_refusalOfTable_1b9a2 D k h0 h1 h4 h18 h19 h20 h21 h2 h3 h5 h6 h7 h8 h9 h10 h11 h12 h13 h14 h46 h47 h48 h49 x1 x2 h0f2 h0f6 h0f8 h0f11 h1f0 h1f1 h1f2 h18f0 h18f1 h19f0 h19f1 h20f0 h20f1 h21f0 h21f1 A) A) (by decide +kernel) rfl (Nat.le_of_ble_eq_true rfl) ?_
  intro p e s m args below meth c ls A Q hx hb hr hml hown hlocks hin hU hK hT hS hA hl hQ
  have hl : lv_has ls 5 [(0, .ref h0), (1, .int x1), (2, .int x2), (3, .int 0)] := hl
  have hT : TP D A [(h0, ob 7 [.ref h1, .ref h2, .int h0f2, .ref h3, .ref h4, .ref h5, .int h0f6, .ref h6, .int h0f8, .ref h7, .ref h8, .int h0f11, .ref h9, .ref h10, .ref h11, .ref h12, .ref h13]), (h1, ob 4 [.int h1f0, .int h1f1, .int h1f2, .ref h14]), (h4, aQ (k 3) 4 (q4 h18 h19 h20 h21)), (h18, ob 5 [.int h18f0, .int h18f1, .ref h46]), (h19, ob 5 [.int h19f0, .int h19f1, .ref h47]), (h20, ob 5 [.int h20f0, .int h20f1, .ref h48]), (h21, ob 5 [.int h21f0, .int h21f1, .ref h49])] s.heap := hT
  refine lv_iload_n hx hb dX10_refusalOfTable_0 rfl (lv_at hl 1 rfl) ?_
  refine tcI (Tc := []) (Tr := [(h0, ob 7 [.ref h1, .ref h2, .int h0f2, .ref h3, .ref h4, .ref h5, .int h0f6, .ref h6, .int h0f8, .ref h7, .ref h8, .int h0f11, .ref h9, .ref h10, .ref h11, .ref h12, .ref h13]), (h1, ob 4 [.int h1f0, .int h1f1, .int h1f2, .ref h14]), (h4, aQ (k 3) 4 (q4 h18 h19 h20 h21)), (h18, ob 5 [.int h18f0, .int h18f1, .ref h46]), (h19, ob 5 [.int h19f0, .int h19f1, .ref h47]), (h20, ob 5 [.int h20f0, .int h20f1, .ref h48]), (h21, ob 5 [.int h21f0, .int h21f1, .ref h49])]) (as := []) (zcS (As := [.int x1]) (rest := []) (Tc := []) hx hb hml hown hU hK hT [] rfl (by decide) (cX10_isSheet_f635c l D k _ x1) w640 w638 w639 w63 hdX10_isSheet ⟨rfl, rfl⟩ ⟨Nat.le_of_ble_eq_true rfl, Nat.le_of_ble_eq_true rfl⟩ rfl hl.1 (Nat.le_of_ble_eq_true rfl) dX10_refusalOfTable_1 ⟨Nat.le_of_ble_eq_true rfl, Nat.le_of_ble_eq_true rfl⟩) hT hS hA [] [0, 1, 2, 3, 4, 5, 6] rfl rfl rfl (by decide) (by decide) (fun r1 H locs hB J hS => ?_)
  rcases hB with ⟨rfl, hT1⟩ | ⟨c_2, c_3, rfl, hT1⟩
  · skip
    have hT := J _ hT1
    have hT : TP D A [(h0, ob 7 [.ref h1, .ref h2, .int h0f2, .ref h3, .ref h4, .ref h5, .int h0f6, .ref h6, .int h0f8, .ref h7, .ref h8, .int h0f11, .ref h9, .ref h10, .ref h11, .ref h12, .ref h13]), (h1, ob 4 [.int h1f0, .int h1f1, .int h1f2, .ref h14]), (h4, aQ (k 3) 4 (q4 h18 h19 h20 h21)), (h18, ob 5 [.int h18f0, .int h18f1, .ref h46]), (h19, ob 5 [.int h19f0, .int h19f1, .ref h47]), (h20, ob 5 [.int h20f0, .int h20f1, .ref h48]), (h21, ob 5 [.int h21f0, .int h21f1, .ref h49])] _ := hT
    refine lv_if_ne (tgt := 9) hx hb dX10_refusalOfTable_4 (by decide) (fun cc => absurd (by decide +kernel) cc) (fun _ => ?_)
    refine lv_iconst (v := (-1)) hx hb dX10_refusalOfTable_7 (by decide) ?_
    exact tz_retI (B := B_cX10_refusalOfTable_1b9a2 D k h0 h1 h4 h18 h19 h20 h21 h2 h3 h5 h6 h7 h8 h9 h10 h11 h12 h13 h14 h46 h47 h48 h49 x1 x2 h0f2 h0f6 h0f8 h0f11 h1f0 h1f1 h1f2 h18f0 h18f1 h19f0 h19f1 h20f0 h20f1 h21f0 h21f1) (v := (-1)) hQ hx hb hr hlocks hS (Nat.le_of_ble_eq_true rfl) (Nat.le_of_ble_eq_true rfl) dX10_refusalOfTable_8 (Or.inl ⟨rfl, hT⟩)
  · skip
    have hT := J _ hT1
    have hT : TP D A [(h0, ob 7 [.ref h1, .ref h2, .int h0f2, .ref h3, .ref h4, .ref h5, .int h0f6, .ref h6, .int h0f8, .ref h7, .ref h8, .int h0f11, .ref h9, .ref h10, .ref h11, .ref h12, .ref h13]), (h1, ob 4 [.int h1f0, .int h1f1, .int h1f2, .ref h14]), (h4, aQ (k 3) 4 (q4 h18 h19 h20 h21)), (h18, ob 5 [.int h18f0, .int h18f1, .ref h46]), (h19, ob 5 [.int h19f0, .int h19f1, .ref h47]), (h20, ob 5 [.int h20f0, .int h20f1, .ref h48]), (h21, ob 5 [.int h21f0, .int h21f1, .ref h49])] _ := hT
    refine lv_if_ne (tgt := 9) hx hb dX10_refusalOfTable_4 (by decide) (fun _ => ?_) (fun cc => absurd cc (by decide +kernel))
    refine lv_aload_n hx hb dX10_refusalOfTable_9 rfl (lv_at hl 0 rfl) ?_
    refine tz_get (ci := 7) (v := .ref h4) (C := RX10) (F := TX10) (N := 17) hx hb hU iX10 hown hK hT 0 rfl rfl 4 (by decide) w253 (fun _ h9 => h9) rfl dX10_refusalOfTable_10 ?_
    refine lv_iload_n hx hb dX10_refusalOfTable_13 rfl (lv_at hl 1 rfl) ?_
    rcases (show x1.toInt = 0 ∨ x1.toInt = 1 ∨ x1.toInt = 2 ∨ x1.toInt = 3 by omega) with hq4 | hq4 | hq4 | hq4
    · skip
      refine tz_aldq (b := h18) hx hb hK hT 2 rfl (vp_in_iff.mpr (by have := hq4; omega)) (fun f hf => by rw [cl_of hq4]; exact hf.1) dX10_refusalOfTable_14 ?_
      refine lv_astore (lv' := [(4, .ref h18), (0, .ref h0), (1, .int x1), (2, .int x2), (3, .int 0)]) hx hb dX10_refusalOfTable_15 hl (by decide) rfl (fun ls hl => ?_)
      refine lv_aload hx hb dX10_refusalOfTable_17 (lv_at hl 0 rfl) ?_
      refine tcI (Tc := [(h18, ob 5 [.int h18f0, .int h18f1, .ref h46])]) (Tr := [(h0, ob 7 [.ref h1, .ref h2, .int h0f2, .ref h3, .ref h4, .ref h5, .int h0f6, .ref h6, .int h0f8, .ref h7, .ref h8, .int h0f11, .ref h9, .ref h10, .ref h11, .ref h12, .ref h13]), (h1, ob 4 [.int h1f0, .int h1f1, .int h1f2, .ref h14]), (h4, aQ (k 3) 4 (q4 h18 h19 h20 h21)), (h19, ob 5 [.int h19f0, .int h19f1, .ref h47]), (h20, ob 5 [.int h20f0, .int h20f1, .ref h48]), (h21, ob 5 [.int h21f0, .int h21f1, .ref h49])]) (as := [h18]) (zcV (q0 := 3) (ci := 5) (As := []) (rest := []) (Tc := [(h18, ob 5 [.int h18f0, .int h18f1, .ref h46])]) hx hb hml hown hU hK hT rfl rfl [3] rfl (by decide) (cX6_isMissing_56a93 l D k _ h18 h46 h18f0 h18f1 (by omega) (by omega)) w644 w641 w642 w643 w71 hdX6_isMissing ⟨rfl, rfl⟩ ⟨Nat.le_of_ble_eq_true rfl, Nat.le_of_ble_eq_true rfl⟩ rfl hl.1 (Nat.le_of_ble_eq_true rfl) dX10_refusalOfTable_19 ⟨Nat.le_of_ble_eq_true rfl, Nat.le_of_ble_eq_true rfl⟩) hT hS hA [3] [0, 1, 2, 4, 5, 6] rfl rfl rfl (by decide) (by decide) (fun r5 H locs hB J hS => ?_)
      rcases hB with ⟨c_6, rfl, hT1⟩ | ⟨rfl, hT1⟩
      · skip
        have hT := J _ hT1
        have hT : TP D A [(h0, ob 7 [.ref h1, .ref h2, .int h0f2, .ref h3, .ref h4, .ref h5, .int h0f6, .ref h6, .int h0f8, .ref h7, .ref h8, .int h0f11, .ref h9, .ref h10, .ref h11, .ref h12, .ref h13]), (h1, ob 4 [.int h1f0, .int h1f1, .int h1f2, .ref h14]), (h4, aQ (k 3) 4 (q4 h18 h19 h20 h21)), (h19, ob 5 [.int h19f0, .int h19f1, .ref h47]), (h20, ob 5 [.int h20f0, .int h20f1, .ref h48]), (h21, ob 5 [.int h21f0, .int h21f1, .ref h49]), (h18, ob 5 [.int h18f0, .int h18f1, .ref h46])] _ := hT
        refine lv_if_eq (tgt := 28) hx hb dX10_refusalOfTable_22 (by decide) (fun _ => ?_) (fun cc => absurd (by decide +kernel) cc)
        refine lv_aload hx hb dX10_refusalOfTable_28 (lv_at hl 0 rfl) ?_
        refine tz_get (ci := 5) (v := .int h18f0) (C := RX6) (F := TX6) (N := 3) hx hb hU iX6 hown hK hT 6 rfl rfl 0 (by decide) w238 (fun _ h9 => h9) rfl dX10_refusalOfTable_30 ?_
        refine lv_iload_n hx hb dX10_refusalOfTable_33 rfl (lv_at hl 4 rfl) ?_
        refine lv_icmp_le (tgt := 40) hx hb dX10_refusalOfTable_34 (by decide) (fun c_7 => ?_) (fun c_7 => ?_)
        · skip
          have c_7 := ni_le c_7 rfl li_0
          refine lv_aload hx hb dX10_refusalOfTable_40 (lv_at hl 0 rfl) ?_
          refine lv_iload_n hx hb dX10_refusalOfTable_42 rfl (lv_at hl 3 rfl) ?_
          refine lv_aload_n hx hb dX10_refusalOfTable_43 rfl (lv_at hl 1 rfl) ?_
          refine tz_get (ci := 7) (v := .ref h1) (C := RX10) (F := TX10) (N := 17) hx hb hU iX10 hown hK hT 0 rfl rfl 0 (by decide) w249 (fun _ h9 => h9) rfl dX10_refusalOfTable_44 ?_
          refine tcI (Tc := [(h1, ob 4 [.int h1f0, .int h1f1, .int h1f2, .ref h14])]) (Tr := [(h0, ob 7 [.ref h1, .ref h2, .int h0f2, .ref h3, .ref h4, .ref h5, .int h0f6, .ref h6, .int h0f8, .ref h7, .ref h8, .int h0f11, .ref h9, .ref h10, .ref h11, .ref h12, .ref h13]), (h4, aQ (k 3) 4 (q4 h18 h19 h20 h21)), (h19, ob 5 [.int h19f0, .int h19f1, .ref h47]), (h20, ob 5 [.int h20f0, .int h20f1, .ref h48]), (h21, ob 5 [.int h21f0, .int h21f1, .ref h49]), (h18, ob 5 [.int h18f0, .int h18f1, .ref h46])]) (as := [h1]) (zcV (q0 := 1) (ci := 4) (As := []) (rest := [.int x2, .ref h18]) (Tc := [(h1, ob 4 [.int h1f0, .int h1f1, .int h1f2, .ref h14])]) hx hb hml hown hU hK hT rfl rfl [1] rfl (by decide) (cX5_cellCount_f3983 l D k _ h1 h14 h1f0 h1f1 h1f2 (by omega) (by omega)) w385 w382 w383 w384 w64 hdX5_cellCount ⟨rfl, rfl⟩ ⟨Nat.le_of_ble_eq_true rfl, Nat.le_of_ble_eq_true rfl⟩ rfl hl.1 (Nat.le_of_ble_eq_true rfl) dX10_refusalOfTable_47 ⟨Nat.le_of_ble_eq_true rfl, Nat.le_of_ble_eq_true rfl⟩) hT hS hA [1] [0, 2, 3, 4, 5, 6] rfl rfl rfl (by decide) (by decide) (fun r8 H locs hB J hS => ?_)
          rcases hB with ⟨v9, b_v9, c_10, c_11, rfl, hT1⟩ | ⟨v12, b_v12, c_13, c_14, rfl, hT1⟩ | ⟨v15, b_v15, c_16, c_17, rfl, hT1⟩
          · skip
            have hT := J _ hT1
            have hT : TP D A [(h0, ob 7 [.ref h1, .ref h2, .int h0f2, .ref h3, .ref h4, .ref h5, .int h0f6, .ref h6, .int h0f8, .ref h7, .ref h8, .int h0f11, .ref h9, .ref h10, .ref h11, .ref h12, .ref h13]), (h4, aQ (k 3) 4 (q4 h18 h19 h20 h21)), (h19, ob 5 [.int h19f0, .int h19f1, .ref h47]), (h20, ob 5 [.int h20f0, .int h20f1, .ref h48]), (h21, ob 5 [.int h21f0, .int h21f1, .ref h49]), (h18, ob 5 [.int h18f0, .int h18f1, .ref h46]), (h1, ob 4 [.int h1f0, .int h1f1, .int h1f2, .ref h14])] _ := hT
            refine tcI (Tc := [(h18, ob 5 [.int h18f0, .int h18f1, .ref h46])]) (Tr := [(h0, ob 7 [.ref h1, .ref h2, .int h0f2, .ref h3, .ref h4, .ref h5, .int h0f6, .ref h6, .int h0f8, .ref h7, .ref h8, .int h0f11, .ref h9, .ref h10, .ref h11, .ref h12, .ref h13]), (h4, aQ (k 3) 4 (q4 h18 h19 h20 h21)), (h19, ob 5 [.int h19f0, .int h19f1, .ref h47]), (h20, ob 5 [.int h20f0, .int h20f1, .ref h48]), (h21, ob 5 [.int h21f0, .int h21f1, .ref h49]), (h1, ob 4 [.int h1f0, .int h1f1, .int h1f2, .ref h14])]) (as := [h18]) (zcV (q0 := 5) (ci := 5) (As := [.int x2, .int v9]) (rest := []) (Tc := [(h18, ob 5 [.int h18f0, .int h18f1, .ref h46])]) hx hb hml hown hU hK hT rfl rfl [5] rfl (by decide) (cX6_isOutside_cc85b l D k _ h18 h46 x2 v9 h18f0 h18f1 (by omega) (by omega)) w648 w645 w646 w647 w71 hdX6_isOutside ⟨rfl, rfl⟩ ⟨Nat.le_of_ble_eq_true rfl, Nat.le_of_ble_eq_true rfl⟩ rfl hl.1 (Nat.le_of_ble_eq_true rfl) dX10_refusalOfTable_50 ⟨Nat.le_of_ble_eq_true rfl, Nat.le_of_ble_eq_true rfl⟩) hT hS hA [5] [0, 1, 2, 3, 4, 6] rfl rfl rfl (by decide) (by decide) (fun r18 H locs hB J hS => ?_)
            rcases hB with ⟨rfl, hT1⟩ | ⟨c_19, c_20, c_21, rfl, hT1⟩
            · skip
              have hT := J _ hT1
              have hT : TP D A [(h0, ob 7 [.ref h1, .ref h2, .int h0f2, .ref h3, .ref h4, .ref h5, .int h0f6, .ref h6, .int h0f8, .ref h7, .ref h8, .int h0f11, .ref h9, .ref h10, .ref h11, .ref h12, .ref h13]), (h4, aQ (k 3) 4 (q4 h18 h19 h20 h21)), (h19, ob 5 [.int h19f0, .int h19f1, .ref h47]), (h20, ob 5 [.int h20f0, .int h20f1, .ref h48]), (h21, ob 5 [.int h21f0, .int h21f1, .ref h49]), (h1, ob 4 [.int h1f0, .int h1f1, .int h1f2, .ref h14]), (h18, ob 5 [.int h18f0, .int h18f1, .ref h46])] _ := hT
              refine lv_if_eq (tgt := 61) hx hb dX10_refusalOfTable_53 (by decide) (fun cc => absurd cc (by decide +kernel)) (fun _ => ?_)
              refine lv_bipush (v := (-12)) hx hb dX10_refusalOfTable_56 (by decide) ?_
              refine lv_goto (tgt := 62) hx hb dX10_refusalOfTable_58 (by decide) ?_
              exact tz_retI (B := B_cX10_refusalOfTable_1b9a2 D k h0 h1 h4 h18 h19 h20 h21 h2 h3 h5 h6 h7 h8 h9 h10 h11 h12 h13 h14 h46 h47 h48 h49 x1 x2 h0f2 h0f6 h0f8 h0f11 h1f0 h1f1 h1f2 h18f0 h18f1 h19f0 h19f1 h20f0 h20f1 h21f0 h21f1) (v := (-12)) hQ hx hb hr hlocks hS (Nat.le_of_ble_eq_true rfl) (Nat.le_of_ble_eq_true rfl) dX10_refusalOfTable_62 (Or.inr (Or.inl ⟨rfl, (hT.sub [0, 5, 1, 6, 2, 3, 4] (by decide) rfl)⟩))
            · skip
              have hT := J _ hT1
              have hT : TP D A [(h0, ob 7 [.ref h1, .ref h2, .int h0f2, .ref h3, .ref h4, .ref h5, .int h0f6, .ref h6, .int h0f8, .ref h7, .ref h8, .int h0f11, .ref h9, .ref h10, .ref h11, .ref h12, .ref h13]), (h4, aQ (k 3) 4 (q4 h18 h19 h20 h21)), (h19, ob 5 [.int h19f0, .int h19f1, .ref h47]), (h20, ob 5 [.int h20f0, .int h20f1, .ref h48]), (h21, ob 5 [.int h21f0, .int h21f1, .ref h49]), (h1, ob 4 [.int h1f0, .int h1f1, .int h1f2, .ref h14]), (h18, ob 5 [.int h18f0, .int h18f1, .ref h46])] _ := hT
              refine lv_if_eq (tgt := 61) hx hb dX10_refusalOfTable_53 (by decide) (fun _ => ?_) (fun cc => absurd (by decide +kernel) cc)
              refine lv_iconst (v := 0) hx hb dX10_refusalOfTable_61 (by decide) ?_
              exact tz_retI (B := B_cX10_refusalOfTable_1b9a2 D k h0 h1 h4 h18 h19 h20 h21 h2 h3 h5 h6 h7 h8 h9 h10 h11 h12 h13 h14 h46 h47 h48 h49 x1 x2 h0f2 h0f6 h0f8 h0f11 h1f0 h1f1 h1f2 h18f0 h18f1 h19f0 h19f1 h20f0 h20f1 h21f0 h21f1) (v := 0) hQ hx hb hr hlocks hS (Nat.le_of_ble_eq_true rfl) (Nat.le_of_ble_eq_true rfl) dX10_refusalOfTable_62 (Or.inr (Or.inr (Or.inl ⟨v9, (by have := li_0; omega), (by have := li_0; omega), (by have := li_0; omega), (by have := li_0; omega), (by have := li_0; omega), (by have := li_0; omega), (by have := li_0; omega), (by have := li_0; omega), (by have := li_0; omega), (by have := li_0; omega), (by have := li_0; omega), (by have := li_0; omega), rfl, (hT.sub [0, 5, 1, 6, 2, 3, 4] (by decide) rfl)⟩)))
          · skip
            have hT := J _ hT1
            have hT : TP D A [(h0, ob 7 [.ref h1, .ref h2, .int h0f2, .ref h3, .ref h4, .ref h5, .int h0f6, .ref h6, .int h0f8, .ref h7, .ref h8, .int h0f11, .ref h9, .ref h10, .ref h11, .ref h12, .ref h13]), (h4, aQ (k 3) 4 (q4 h18 h19 h20 h21)), (h19, ob 5 [.int h19f0, .int h19f1, .ref h47]), (h20, ob 5 [.int h20f0, .int h20f1, .ref h48]), (h21, ob 5 [.int h21f0, .int h21f1, .ref h49]), (h18, ob 5 [.int h18f0, .int h18f1, .ref h46]), (h1, ob 4 [.int h1f0, .int h1f1, .int h1f2, .ref h14])] _ := hT
            refine tcI (Tc := [(h18, ob 5 [.int h18f0, .int h18f1, .ref h46])]) (Tr := [(h0, ob 7 [.ref h1, .ref h2, .int h0f2, .ref h3, .ref h4, .ref h5, .int h0f6, .ref h6, .int h0f8, .ref h7, .ref h8, .int h0f11, .ref h9, .ref h10, .ref h11, .ref h12, .ref h13]), (h4, aQ (k 3) 4 (q4 h18 h19 h20 h21)), (h19, ob 5 [.int h19f0, .int h19f1, .ref h47]), (h20, ob 5 [.int h20f0, .int h20f1, .ref h48]), (h21, ob 5 [.int h21f0, .int h21f1, .ref h49]), (h1, ob 4 [.int h1f0, .int h1f1, .int h1f2, .ref h14])]) (as := [h18]) (zcV (q0 := 5) (ci := 5) (As := [.int x2, .int v12]) (rest := []) (Tc := [(h18, ob 5 [.int h18f0, .int h18f1, .ref h46])]) hx hb hml hown hU hK hT rfl rfl [5] rfl (by decide) (cX6_isOutside_cc85b l D k _ h18 h46 x2 v12 h18f0 h18f1 (by omega) (by omega)) w648 w645 w646 w647 w71 hdX6_isOutside ⟨rfl, rfl⟩ ⟨Nat.le_of_ble_eq_true rfl, Nat.le_of_ble_eq_true rfl⟩ rfl hl.1 (Nat.le_of_ble_eq_true rfl) dX10_refusalOfTable_50 ⟨Nat.le_of_ble_eq_true rfl, Nat.le_of_ble_eq_true rfl⟩) hT hS hA [5] [0, 1, 2, 3, 4, 6] rfl rfl rfl (by decide) (by decide) (fun r22 H locs hB J hS => ?_)
            rcases hB with ⟨rfl, hT1⟩ | ⟨c_23, c_24, c_25, rfl, hT1⟩
            · skip
              have hT := J _ hT1
              have hT : TP D A [(h0, ob 7 [.ref h1, .ref h2, .int h0f2, .ref h3, .ref h4, .ref h5, .int h0f6, .ref h6, .int h0f8, .ref h7, .ref h8, .int h0f11, .ref h9, .ref h10, .ref h11, .ref h12, .ref h13]), (h4, aQ (k 3) 4 (q4 h18 h19 h20 h21)), (h19, ob 5 [.int h19f0, .int h19f1, .ref h47]), (h20, ob 5 [.int h20f0, .int h20f1, .ref h48]), (h21, ob 5 [.int h21f0, .int h21f1, .ref h49]), (h1, ob 4 [.int h1f0, .int h1f1, .int h1f2, .ref h14]), (h18, ob 5 [.int h18f0, .int h18f1, .ref h46])] _ := hT
              refine lv_if_eq (tgt := 61) hx hb dX10_refusalOfTable_53 (by decide) (fun cc => absurd cc (by decide +kernel)) (fun _ => ?_)
              refine lv_bipush (v := (-12)) hx hb dX10_refusalOfTable_56 (by decide) ?_
              refine lv_goto (tgt := 62) hx hb dX10_refusalOfTable_58 (by decide) ?_
              exact tz_retI (B := B_cX10_refusalOfTable_1b9a2 D k h0 h1 h4 h18 h19 h20 h21 h2 h3 h5 h6 h7 h8 h9 h10 h11 h12 h13 h14 h46 h47 h48 h49 x1 x2 h0f2 h0f6 h0f8 h0f11 h1f0 h1f1 h1f2 h18f0 h18f1 h19f0 h19f1 h20f0 h20f1 h21f0 h21f1) (v := (-12)) hQ hx hb hr hlocks hS (Nat.le_of_ble_eq_true rfl) (Nat.le_of_ble_eq_true rfl) dX10_refusalOfTable_62 (Or.inr (Or.inl ⟨rfl, (hT.sub [0, 5, 1, 6, 2, 3, 4] (by decide) rfl)⟩))
            · skip
              have hT := J _ hT1
              have hT : TP D A [(h0, ob 7 [.ref h1, .ref h2, .int h0f2, .ref h3, .ref h4, .ref h5, .int h0f6, .ref h6, .int h0f8, .ref h7, .ref h8, .int h0f11, .ref h9, .ref h10, .ref h11, .ref h12, .ref h13]), (h4, aQ (k 3) 4 (q4 h18 h19 h20 h21)), (h19, ob 5 [.int h19f0, .int h19f1, .ref h47]), (h20, ob 5 [.int h20f0, .int h20f1, .ref h48]), (h21, ob 5 [.int h21f0, .int h21f1, .ref h49]), (h1, ob 4 [.int h1f0, .int h1f1, .int h1f2, .ref h14]), (h18, ob 5 [.int h18f0, .int h18f1, .ref h46])] _ := hT
              refine lv_if_eq (tgt := 61) hx hb dX10_refusalOfTable_53 (by decide) (fun _ => ?_) (fun cc => absurd (by decide +kernel) cc)
              refine lv_iconst (v := 0) hx hb dX10_refusalOfTable_61 (by decide) ?_
              exact tz_retI (B := B_cX10_refusalOfTable_1b9a2 D k h0 h1 h4 h18 h19 h20 h21 h2 h3 h5 h6 h7 h8 h9 h10 h11 h12 h13 h14 h46 h47 h48 h49 x1 x2 h0f2 h0f6 h0f8 h0f11 h1f0 h1f1 h1f2 h18f0 h18f1 h19f0 h19f1 h20f0 h20f1 h21f0 h21f1) (v := 0) hQ hx hb hr hlocks hS (Nat.le_of_ble_eq_true rfl) (Nat.le_of_ble_eq_true rfl) dX10_refusalOfTable_62 (Or.inr (Or.inr (Or.inr (Or.inl ⟨v12, (by have := li_0; omega), (by have := li_0; omega), (by have := li_0; omega), (by have := li_0; omega), (by have := li_0; omega), (by have := li_0; omega), (by have := li_0; omega), (by have := li_0; omega), (by have := li_0; omega), (by have := li_0; omega), (by have := li_0; omega), (by have := li_0; omega), rfl, (hT.sub [0, 5, 1, 6, 2, 3, 4] (by decide) rfl)⟩))))
          · skip
            have hT := J _ hT1
            have hT : TP D A [(h0, ob 7 [.ref h1, .ref h2, .int h0f2, .ref h3, .ref h4, .ref h5, .int h0f6, .ref h6, .int h0f8, .ref h7, .ref h8, .int h0f11, .ref h9, .ref h10, .ref h11, .ref h12, .ref h13]), (h4, aQ (k 3) 4 (q4 h18 h19 h20 h21)), (h19, ob 5 [.int h19f0, .int h19f1, .ref h47]), (h20, ob 5 [.int h20f0, .int h20f1, .ref h48]), (h21, ob 5 [.int h21f0, .int h21f1, .ref h49]), (h18, ob 5 [.int h18f0, .int h18f1, .ref h46]), (h1, ob 4 [.int h1f0, .int h1f1, .int h1f2, .ref h14])] _ := hT
            refine tcI (Tc := [(h18, ob 5 [.int h18f0, .int h18f1, .ref h46])]) (Tr := [(h0, ob 7 [.ref h1, .ref h2, .int h0f2, .ref h3, .ref h4, .ref h5, .int h0f6, .ref h6, .int h0f8, .ref h7, .ref h8, .int h0f11, .ref h9, .ref h10, .ref h11, .ref h12, .ref h13]), (h4, aQ (k 3) 4 (q4 h18 h19 h20 h21)), (h19, ob 5 [.int h19f0, .int h19f1, .ref h47]), (h20, ob 5 [.int h20f0, .int h20f1, .ref h48]), (h21, ob 5 [.int h21f0, .int h21f1, .ref h49]), (h1, ob 4 [.int h1f0, .int h1f1, .int h1f2, .ref h14])]) (as := [h18]) (zcV (q0 := 5) (ci := 5) (As := [.int x2, .int v15]) (rest := []) (Tc := [(h18, ob 5 [.int h18f0, .int h18f1, .ref h46])]) hx hb hml hown hU hK hT rfl rfl [5] rfl (by decide) (cX6_isOutside_cc85b l D k _ h18 h46 x2 v15 h18f0 h18f1 (by omega) (by omega)) w648 w645 w646 w647 w71 hdX6_isOutside ⟨rfl, rfl⟩ ⟨Nat.le_of_ble_eq_true rfl, Nat.le_of_ble_eq_true rfl⟩ rfl hl.1 (Nat.le_of_ble_eq_true rfl) dX10_refusalOfTable_50 ⟨Nat.le_of_ble_eq_true rfl, Nat.le_of_ble_eq_true rfl⟩) hT hS hA [5] [0, 1, 2, 3, 4, 6] rfl rfl rfl (by decide) (by decide) (fun r26 H locs hB J hS => ?_)
            rcases hB with ⟨rfl, hT1⟩ | ⟨c_27, c_28, c_29, rfl, hT1⟩
            · skip
              have hT := J _ hT1
              have hT : TP D A [(h0, ob 7 [.ref h1, .ref h2, .int h0f2, .ref h3, .ref h4, .ref h5, .int h0f6, .ref h6, .int h0f8, .ref h7, .ref h8, .int h0f11, .ref h9, .ref h10, .ref h11, .ref h12, .ref h13]), (h4, aQ (k 3) 4 (q4 h18 h19 h20 h21)), (h19, ob 5 [.int h19f0, .int h19f1, .ref h47]), (h20, ob 5 [.int h20f0, .int h20f1, .ref h48]), (h21, ob 5 [.int h21f0, .int h21f1, .ref h49]), (h1, ob 4 [.int h1f0, .int h1f1, .int h1f2, .ref h14]), (h18, ob 5 [.int h18f0, .int h18f1, .ref h46])] _ := hT
              refine lv_if_eq (tgt := 61) hx hb dX10_refusalOfTable_53 (by decide) (fun cc => absurd cc (by decide +kernel)) (fun _ => ?_)
              refine lv_bipush (v := (-12)) hx hb dX10_refusalOfTable_56 (by decide) ?_
              refine lv_goto (tgt := 62) hx hb dX10_refusalOfTable_58 (by decide) ?_
              exact tz_retI (B := B_cX10_refusalOfTable_1b9a2 D k h0 h1 h4 h18 h19 h20 h21 h2 h3 h5 h6 h7 h8 h9 h10 h11 h12 h13 h14 h46 h47 h48 h49 x1 x2 h0f2 h0f6 h0f8 h0f11 h1f0 h1f1 h1f2 h18f0 h18f1 h19f0 h19f1 h20f0 h20f1 h21f0 h21f1) (v := (-12)) hQ hx hb hr hlocks hS (Nat.le_of_ble_eq_true rfl) (Nat.le_of_ble_eq_true rfl) dX10_refusalOfTable_62 (Or.inr (Or.inl ⟨rfl, (hT.sub [0, 5, 1, 6, 2, 3, 4] (by decide) rfl)⟩))
            · skip
              have hT := J _ hT1
              have hT : TP D A [(h0, ob 7 [.ref h1, .ref h2, .int h0f2, .ref h3, .ref h4, .ref h5, .int h0f6, .ref h6, .int h0f8, .ref h7, .ref h8, .int h0f11, .ref h9, .ref h10, .ref h11, .ref h12, .ref h13]), (h4, aQ (k 3) 4 (q4 h18 h19 h20 h21)), (h19, ob 5 [.int h19f0, .int h19f1, .ref h47]), (h20, ob 5 [.int h20f0, .int h20f1, .ref h48]), (h21, ob 5 [.int h21f0, .int h21f1, .ref h49]), (h1, ob 4 [.int h1f0, .int h1f1, .int h1f2, .ref h14]), (h18, ob 5 [.int h18f0, .int h18f1, .ref h46])] _ := hT
              refine lv_if_eq (tgt := 61) hx hb dX10_refusalOfTable_53 (by decide) (fun _ => ?_) (fun cc => absurd (by decide +kernel) cc)
              refine lv_iconst (v := 0) hx hb dX10_refusalOfTable_61 (by decide) ?_
              exact tz_retI (B := B_cX10_refusalOfTable_1b9a2 D k h0 h1 h4 h18 h19 h20 h21 h2 h3 h5 h6 h7 h8 h9 h10 h11 h12 h13 h14 h46 h47 h48 h49 x1 x2 h0f2 h0f6 h0f8 h0f11 h1f0 h1f1 h1f2 h18f0 h18f1 h19f0 h19f1 h20f0 h20f1 h21f0 h21f1) (v := 0) hQ hx hb hr hlocks hS (Nat.le_of_ble_eq_true rfl) (Nat.le_of_ble_eq_true rfl) dX10_refusalOfTable_62 (Or.inr (Or.inr (Or.inr (Or.inr (Or.inl ⟨v15, (by have := li_0; omega), (by have := li_0; omega), (by have := li_0; omega), (by have := li_0; omega), (by have := li_0; omega), (by have := li_0; omega), (by have := li_0; omega), (by have := li_0; omega), (by have := li_0; omega), (by have := li_0; omega), (by have := li_0; omega), (by have := li_0; omega), rfl, (hT.sub [0, 5, 1, 6, 2, 3, 4] (by decide) rfl)⟩)))))
        · skip
          have c_7 := ni_nle c_7 rfl li_0
          refine lv_bipush (v := (-13)) hx hb dX10_refusalOfTable_37 (by decide) ?_
          exact tz_retI (B := B_cX10_refusalOfTable_1b9a2 D k h0 h1 h4 h18 h19 h20 h21 h2 h3 h5 h6 h7 h8 h9 h10 h11 h12 h13 h14 h46 h47 h48 h49 x1 x2 h0f2 h0f6 h0f8 h0f11 h1f0 h1f1 h1f2 h18f0 h18f1 h19f0 h19f1 h20f0 h20f1 h21f0 h21f1) (v := (-13)) hQ hx hb hr hlocks hS (Nat.le_of_ble_eq_true rfl) (Nat.le_of_ble_eq_true rfl) dX10_refusalOfTable_39 (Or.inr (Or.inr (Or.inr (Or.inr (Or.inr (Or.inl ⟨rfl, (hT.sub [0, 1, 2, 6, 3, 4, 5] (by decide) rfl)⟩))))))
      · skip
        have hT := J _ hT1
        have hT : TP D A [(h0, ob 7 [.ref h1, .ref h2, .int h0f2, .ref h3, .ref h4, .ref h5, .int h0f6, .ref h6, .int h0f8, .ref h7, .ref h8, .int h0f11, .ref h9, .ref h10, .ref h11, .ref h12, .ref h13]), (h1, ob 4 [.int h1f0, .int h1f1, .int h1f2, .ref h14]), (h4, aQ (k 3) 4 (q4 h18 h19 h20 h21)), (h19, ob 5 [.int h19f0, .int h19f1, .ref h47]), (h20, ob 5 [.int h20f0, .int h20f1, .ref h48]), (h21, ob 5 [.int h21f0, .int h21f1, .ref h49]), (h18, ob 5 [.int h18f0, .int h18f1, .ref h46])] _ := hT
        refine lv_if_eq (tgt := 28) hx hb dX10_refusalOfTable_22 (by decide) (fun cc => absurd cc (by decide +kernel)) (fun _ => ?_)
        refine lv_bipush (v := (-11)) hx hb dX10_refusalOfTable_25 (by decide) ?_
        exact tz_retI (B := B_cX10_refusalOfTable_1b9a2 D k h0 h1 h4 h18 h19 h20 h21 h2 h3 h5 h6 h7 h8 h9 h10 h11 h12 h13 h14 h46 h47 h48 h49 x1 x2 h0f2 h0f6 h0f8 h0f11 h1f0 h1f1 h1f2 h18f0 h18f1 h19f0 h19f1 h20f0 h20f1 h21f0 h21f1) (v := (-11)) hQ hx hb hr hlocks hS (Nat.le_of_ble_eq_true rfl) (Nat.le_of_ble_eq_true rfl) dX10_refusalOfTable_27 (Or.inr (Or.inr (Or.inr (Or.inr (Or.inr (Or.inr (Or.inl ⟨rfl, (hT.sub [0, 1, 2, 6, 3, 4, 5] (by decide) rfl)⟩)))))))
    · skip
      refine tz_aldq (b := h19) hx hb hK hT 2 rfl (vp_in_iff.mpr (by have := hq4; omega)) (fun f hf => by rw [cl_of hq4]; exact hf.2.1) dX10_refusalOfTable_14 ?_
      refine lv_astore (lv' := [(4, .ref h19), (0, .ref h0), (1, .int x1), (2, .int x2), (3, .int 0)]) hx hb dX10_refusalOfTable_15 hl (by decide) rfl (fun ls hl => ?_)
      refine lv_aload hx hb dX10_refusalOfTable_17 (lv_at hl 0 rfl) ?_
      refine tcI (Tc := [(h19, ob 5 [.int h19f0, .int h19f1, .ref h47])]) (Tr := [(h0, ob 7 [.ref h1, .ref h2, .int h0f2, .ref h3, .ref h4, .ref h5, .int h0f6, .ref h6, .int h0f8, .ref h7, .ref h8, .int h0f11, .ref h9, .ref h10, .ref h11, .ref h12, .ref h13]), (h1, ob 4 [.int h1f0, .int h1f1, .int h1f2, .ref h14]), (h4, aQ (k 3) 4 (q4 h18 h19 h20 h21)), (h18, ob 5 [.int h18f0, .int h18f1, .ref h46]), (h20, ob 5 [.int h20f0, .int h20f1, .ref h48]), (h21, ob 5 [.int h21f0, .int h21f1, .ref h49])]) (as := [h19]) (zcV (q0 := 4) (ci := 5) (As := []) (rest := []) (Tc := [(h19, ob 5 [.int h19f0, .int h19f1, .ref h47])]) hx hb hml hown hU hK hT rfl rfl [4] rfl (by decide) (cX6_isMissing_56a93 l D k _ h19 h47 h19f0 h19f1 (by omega) (by omega)) w644 w641 w642 w643 w71 hdX6_isMissing ⟨rfl, rfl⟩ ⟨Nat.le_of_ble_eq_true rfl, Nat.le_of_ble_eq_true rfl⟩ rfl hl.1 (Nat.le_of_ble_eq_true rfl) dX10_refusalOfTable_19 ⟨Nat.le_of_ble_eq_true rfl, Nat.le_of_ble_eq_true rfl⟩) hT hS hA [4] [0, 1, 2, 3, 5, 6] rfl rfl rfl (by decide) (by decide) (fun r30 H locs hB J hS => ?_)
      rcases hB with ⟨c_31, rfl, hT1⟩ | ⟨rfl, hT1⟩
      · skip
        have hT := J _ hT1
        have hT : TP D A [(h0, ob 7 [.ref h1, .ref h2, .int h0f2, .ref h3, .ref h4, .ref h5, .int h0f6, .ref h6, .int h0f8, .ref h7, .ref h8, .int h0f11, .ref h9, .ref h10, .ref h11, .ref h12, .ref h13]), (h1, ob 4 [.int h1f0, .int h1f1, .int h1f2, .ref h14]), (h4, aQ (k 3) 4 (q4 h18 h19 h20 h21)), (h18, ob 5 [.int h18f0, .int h18f1, .ref h46]), (h20, ob 5 [.int h20f0, .int h20f1, .ref h48]), (h21, ob 5 [.int h21f0, .int h21f1, .ref h49]), (h19, ob 5 [.int h19f0, .int h19f1, .ref h47])] _ := hT
        refine lv_if_eq (tgt := 28) hx hb dX10_refusalOfTable_22 (by decide) (fun _ => ?_) (fun cc => absurd (by decide +kernel) cc)
        refine lv_aload hx hb dX10_refusalOfTable_28 (lv_at hl 0 rfl) ?_
        refine tz_get (ci := 5) (v := .int h19f0) (C := RX6) (F := TX6) (N := 3) hx hb hU iX6 hown hK hT 6 rfl rfl 0 (by decide) w238 (fun _ h9 => h9) rfl dX10_refusalOfTable_30 ?_
        refine lv_iload_n hx hb dX10_refusalOfTable_33 rfl (lv_at hl 4 rfl) ?_
        refine lv_icmp_le (tgt := 40) hx hb dX10_refusalOfTable_34 (by decide) (fun c_32 => ?_) (fun c_32 => ?_)
        · skip
          have c_32 := ni_le c_32 rfl li_0
          refine lv_aload hx hb dX10_refusalOfTable_40 (lv_at hl 0 rfl) ?_
          refine lv_iload_n hx hb dX10_refusalOfTable_42 rfl (lv_at hl 3 rfl) ?_
          refine lv_aload_n hx hb dX10_refusalOfTable_43 rfl (lv_at hl 1 rfl) ?_
          refine tz_get (ci := 7) (v := .ref h1) (C := RX10) (F := TX10) (N := 17) hx hb hU iX10 hown hK hT 0 rfl rfl 0 (by decide) w249 (fun _ h9 => h9) rfl dX10_refusalOfTable_44 ?_
          refine tcI (Tc := [(h1, ob 4 [.int h1f0, .int h1f1, .int h1f2, .ref h14])]) (Tr := [(h0, ob 7 [.ref h1, .ref h2, .int h0f2, .ref h3, .ref h4, .ref h5, .int h0f6, .ref h6, .int h0f8, .ref h7, .ref h8, .int h0f11, .ref h9, .ref h10, .ref h11, .ref h12, .ref h13]), (h4, aQ (k 3) 4 (q4 h18 h19 h20 h21)), (h18, ob 5 [.int h18f0, .int h18f1, .ref h46]), (h20, ob 5 [.int h20f0, .int h20f1, .ref h48]), (h21, ob 5 [.int h21f0, .int h21f1, .ref h49]), (h19, ob 5 [.int h19f0, .int h19f1, .ref h47])]) (as := [h1]) (zcV (q0 := 1) (ci := 4) (As := []) (rest := [.int x2, .ref h19]) (Tc := [(h1, ob 4 [.int h1f0, .int h1f1, .int h1f2, .ref h14])]) hx hb hml hown hU hK hT rfl rfl [1] rfl (by decide) (cX5_cellCount_f3983 l D k _ h1 h14 h1f0 h1f1 h1f2 (by omega) (by omega)) w385 w382 w383 w384 w64 hdX5_cellCount ⟨rfl, rfl⟩ ⟨Nat.le_of_ble_eq_true rfl, Nat.le_of_ble_eq_true rfl⟩ rfl hl.1 (Nat.le_of_ble_eq_true rfl) dX10_refusalOfTable_47 ⟨Nat.le_of_ble_eq_true rfl, Nat.le_of_ble_eq_true rfl⟩) hT hS hA [1] [0, 2, 3, 4, 5, 6] rfl rfl rfl (by decide) (by decide) (fun r33 H locs hB J hS => ?_)
          rcases hB with ⟨v34, b_v34, c_35, c_36, rfl, hT1⟩ | ⟨v37, b_v37, c_38, c_39, rfl, hT1⟩ | ⟨v40, b_v40, c_41, c_42, rfl, hT1⟩
          · skip
            have hT := J _ hT1
            have hT : TP D A [(h0, ob 7 [.ref h1, .ref h2, .int h0f2, .ref h3, .ref h4, .ref h5, .int h0f6, .ref h6, .int h0f8, .ref h7, .ref h8, .int h0f11, .ref h9, .ref h10, .ref h11, .ref h12, .ref h13]), (h4, aQ (k 3) 4 (q4 h18 h19 h20 h21)), (h18, ob 5 [.int h18f0, .int h18f1, .ref h46]), (h20, ob 5 [.int h20f0, .int h20f1, .ref h48]), (h21, ob 5 [.int h21f0, .int h21f1, .ref h49]), (h19, ob 5 [.int h19f0, .int h19f1, .ref h47]), (h1, ob 4 [.int h1f0, .int h1f1, .int h1f2, .ref h14])] _ := hT
            refine tcI (Tc := [(h19, ob 5 [.int h19f0, .int h19f1, .ref h47])]) (Tr := [(h0, ob 7 [.ref h1, .ref h2, .int h0f2, .ref h3, .ref h4, .ref h5, .int h0f6, .ref h6, .int h0f8, .ref h7, .ref h8, .int h0f11, .ref h9, .ref h10, .ref h11, .ref h12, .ref h13]), (h4, aQ (k 3) 4 (q4 h18 h19 h20 h21)), (h18, ob 5 [.int h18f0, .int h18f1, .ref h46]), (h20, ob 5 [.int h20f0, .int h20f1, .ref h48]), (h21, ob 5 [.int h21f0, .int h21f1, .ref h49]), (h1, ob 4 [.int h1f0, .int h1f1, .int h1f2, .ref h14])]) (as := [h19]) (zcV (q0 := 5) (ci := 5) (As := [.int x2, .int v34]) (rest := []) (Tc := [(h19, ob 5 [.int h19f0, .int h19f1, .ref h47])]) hx hb hml hown hU hK hT rfl rfl [5] rfl (by decide) (cX6_isOutside_cc85b l D k _ h19 h47 x2 v34 h19f0 h19f1 (by omega) (by omega)) w648 w645 w646 w647 w71 hdX6_isOutside ⟨rfl, rfl⟩ ⟨Nat.le_of_ble_eq_true rfl, Nat.le_of_ble_eq_true rfl⟩ rfl hl.1 (Nat.le_of_ble_eq_true rfl) dX10_refusalOfTable_50 ⟨Nat.le_of_ble_eq_true rfl, Nat.le_of_ble_eq_true rfl⟩) hT hS hA [5] [0, 1, 2, 3, 4, 6] rfl rfl rfl (by decide) (by decide) (fun r43 H locs hB J hS => ?_)
            rcases hB with ⟨rfl, hT1⟩ | ⟨c_44, c_45, c_46, rfl, hT1⟩
            · skip
              have hT := J _ hT1
              have hT : TP D A [(h0, ob 7 [.ref h1, .ref h2, .int h0f2, .ref h3, .ref h4, .ref h5, .int h0f6, .ref h6, .int h0f8, .ref h7, .ref h8, .int h0f11, .ref h9, .ref h10, .ref h11, .ref h12, .ref h13]), (h4, aQ (k 3) 4 (q4 h18 h19 h20 h21)), (h18, ob 5 [.int h18f0, .int h18f1, .ref h46]), (h20, ob 5 [.int h20f0, .int h20f1, .ref h48]), (h21, ob 5 [.int h21f0, .int h21f1, .ref h49]), (h1, ob 4 [.int h1f0, .int h1f1, .int h1f2, .ref h14]), (h19, ob 5 [.int h19f0, .int h19f1, .ref h47])] _ := hT
              refine lv_if_eq (tgt := 61) hx hb dX10_refusalOfTable_53 (by decide) (fun cc => absurd cc (by decide +kernel)) (fun _ => ?_)
              refine lv_bipush (v := (-12)) hx hb dX10_refusalOfTable_56 (by decide) ?_
              refine lv_goto (tgt := 62) hx hb dX10_refusalOfTable_58 (by decide) ?_
              exact tz_retI (B := B_cX10_refusalOfTable_1b9a2 D k h0 h1 h4 h18 h19 h20 h21 h2 h3 h5 h6 h7 h8 h9 h10 h11 h12 h13 h14 h46 h47 h48 h49 x1 x2 h0f2 h0f6 h0f8 h0f11 h1f0 h1f1 h1f2 h18f0 h18f1 h19f0 h19f1 h20f0 h20f1 h21f0 h21f1) (v := (-12)) hQ hx hb hr hlocks hS (Nat.le_of_ble_eq_true rfl) (Nat.le_of_ble_eq_true rfl) dX10_refusalOfTable_62 (Or.inr (Or.inl ⟨rfl, (hT.sub [0, 5, 1, 2, 6, 3, 4] (by decide) rfl)⟩))
            · skip
              have hT := J _ hT1
              have hT : TP D A [(h0, ob 7 [.ref h1, .ref h2, .int h0f2, .ref h3, .ref h4, .ref h5, .int h0f6, .ref h6, .int h0f8, .ref h7, .ref h8, .int h0f11, .ref h9, .ref h10, .ref h11, .ref h12, .ref h13]), (h4, aQ (k 3) 4 (q4 h18 h19 h20 h21)), (h18, ob 5 [.int h18f0, .int h18f1, .ref h46]), (h20, ob 5 [.int h20f0, .int h20f1, .ref h48]), (h21, ob 5 [.int h21f0, .int h21f1, .ref h49]), (h1, ob 4 [.int h1f0, .int h1f1, .int h1f2, .ref h14]), (h19, ob 5 [.int h19f0, .int h19f1, .ref h47])] _ := hT
              refine lv_if_eq (tgt := 61) hx hb dX10_refusalOfTable_53 (by decide) (fun _ => ?_) (fun cc => absurd (by decide +kernel) cc)
              refine lv_iconst (v := 0) hx hb dX10_refusalOfTable_61 (by decide) ?_
              exact tz_retI (B := B_cX10_refusalOfTable_1b9a2 D k h0 h1 h4 h18 h19 h20 h21 h2 h3 h5 h6 h7 h8 h9 h10 h11 h12 h13 h14 h46 h47 h48 h49 x1 x2 h0f2 h0f6 h0f8 h0f11 h1f0 h1f1 h1f2 h18f0 h18f1 h19f0 h19f1 h20f0 h20f1 h21f0 h21f1) (v := 0) hQ hx hb hr hlocks hS (Nat.le_of_ble_eq_true rfl) (Nat.le_of_ble_eq_true rfl) dX10_refusalOfTable_62 (Or.inr (Or.inr (Or.inr (Or.inr (Or.inr (Or.inr (Or.inr (Or.inl ⟨v34, (by have := li_0; omega), (by have := li_0; omega), (by have := li_0; omega), (by have := li_0; omega), (by have := li_0; omega), (by have := li_0; omega), (by have := li_0; omega), (by have := li_0; omega), (by have := li_0; omega), (by have := li_0; omega), (by have := li_0; omega), (by have := li_0; omega), rfl, (hT.sub [0, 5, 1, 2, 6, 3, 4] (by decide) rfl)⟩))))))))
          · skip
            have hT := J _ hT1
            have hT : TP D A [(h0, ob 7 [.ref h1, .ref h2, .int h0f2, .ref h3, .ref h4, .ref h5, .int h0f6, .ref h6, .int h0f8, .ref h7, .ref h8, .int h0f11, .ref h9, .ref h10, .ref h11, .ref h12, .ref h13]), (h4, aQ (k 3) 4 (q4 h18 h19 h20 h21)), (h18, ob 5 [.int h18f0, .int h18f1, .ref h46]), (h20, ob 5 [.int h20f0, .int h20f1, .ref h48]), (h21, ob 5 [.int h21f0, .int h21f1, .ref h49]), (h19, ob 5 [.int h19f0, .int h19f1, .ref h47]), (h1, ob 4 [.int h1f0, .int h1f1, .int h1f2, .ref h14])] _ := hT
            refine tcI (Tc := [(h19, ob 5 [.int h19f0, .int h19f1, .ref h47])]) (Tr := [(h0, ob 7 [.ref h1, .ref h2, .int h0f2, .ref h3, .ref h4, .ref h5, .int h0f6, .ref h6, .int h0f8, .ref h7, .ref h8, .int h0f11, .ref h9, .ref h10, .ref h11, .ref h12, .ref h13]), (h4, aQ (k 3) 4 (q4 h18 h19 h20 h21)), (h18, ob 5 [.int h18f0, .int h18f1, .ref h46]), (h20, ob 5 [.int h20f0, .int h20f1, .ref h48]), (h21, ob 5 [.int h21f0, .int h21f1, .ref h49]), (h1, ob 4 [.int h1f0, .int h1f1, .int h1f2, .ref h14])]) (as := [h19]) (zcV (q0 := 5) (ci := 5) (As := [.int x2, .int v37]) (rest := []) (Tc := [(h19, ob 5 [.int h19f0, .int h19f1, .ref h47])]) hx hb hml hown hU hK hT rfl rfl [5] rfl (by decide) (cX6_isOutside_cc85b l D k _ h19 h47 x2 v37 h19f0 h19f1 (by omega) (by omega)) w648 w645 w646 w647 w71 hdX6_isOutside ⟨rfl, rfl⟩ ⟨Nat.le_of_ble_eq_true rfl, Nat.le_of_ble_eq_true rfl⟩ rfl hl.1 (Nat.le_of_ble_eq_true rfl) dX10_refusalOfTable_50 ⟨Nat.le_of_ble_eq_true rfl, Nat.le_of_ble_eq_true rfl⟩) hT hS hA [5] [0, 1, 2, 3, 4, 6] rfl rfl rfl (by decide) (by decide) (fun r47 H locs hB J hS => ?_)
            rcases hB with ⟨rfl, hT1⟩ | ⟨c_48, c_49, c_50, rfl, hT1⟩
            · skip
              have hT := J _ hT1
              have hT : TP D A [(h0, ob 7 [.ref h1, .ref h2, .int h0f2, .ref h3, .ref h4, .ref h5, .int h0f6, .ref h6, .int h0f8, .ref h7, .ref h8, .int h0f11, .ref h9, .ref h10, .ref h11, .ref h12, .ref h13]), (h4, aQ (k 3) 4 (q4 h18 h19 h20 h21)), (h18, ob 5 [.int h18f0, .int h18f1, .ref h46]), (h20, ob 5 [.int h20f0, .int h20f1, .ref h48]), (h21, ob 5 [.int h21f0, .int h21f1, .ref h49]), (h1, ob 4 [.int h1f0, .int h1f1, .int h1f2, .ref h14]), (h19, ob 5 [.int h19f0, .int h19f1, .ref h47])] _ := hT
              refine lv_if_eq (tgt := 61) hx hb dX10_refusalOfTable_53 (by decide) (fun cc => absurd cc (by decide +kernel)) (fun _ => ?_)
              refine lv_bipush (v := (-12)) hx hb dX10_refusalOfTable_56 (by decide) ?_
              refine lv_goto (tgt := 62) hx hb dX10_refusalOfTable_58 (by decide) ?_
              exact tz_retI (B := B_cX10_refusalOfTable_1b9a2 D k h0 h1 h4 h18 h19 h20 h21 h2 h3 h5 h6 h7 h8 h9 h10 h11 h12 h13 h14 h46 h47 h48 h49 x1 x2 h0f2 h0f6 h0f8 h0f11 h1f0 h1f1 h1f2 h18f0 h18f1 h19f0 h19f1 h20f0 h20f1 h21f0 h21f1) (v := (-12)) hQ hx hb hr hlocks hS (Nat.le_of_ble_eq_true rfl) (Nat.le_of_ble_eq_true rfl) dX10_refusalOfTable_62 (Or.inr (Or.inl ⟨rfl, (hT.sub [0, 5, 1, 2, 6, 3, 4] (by decide) rfl)⟩))
            · skip
              have hT := J _ hT1
              have hT : TP D A [(h0, ob 7 [.ref h1, .ref h2, .int h0f2, .ref h3, .ref h4, .ref h5, .int h0f6, .ref h6, .int h0f8, .ref h7, .ref h8, .int h0f11, .ref h9, .ref h10, .ref h11, .ref h12, .ref h13]), (h4, aQ (k 3) 4 (q4 h18 h19 h20 h21)), (h18, ob 5 [.int h18f0, .int h18f1, .ref h46]), (h20, ob 5 [.int h20f0, .int h20f1, .ref h48]), (h21, ob 5 [.int h21f0, .int h21f1, .ref h49]), (h1, ob 4 [.int h1f0, .int h1f1, .int h1f2, .ref h14]), (h19, ob 5 [.int h19f0, .int h19f1, .ref h47])] _ := hT
              refine lv_if_eq (tgt := 61) hx hb dX10_refusalOfTable_53 (by decide) (fun _ => ?_) (fun cc => absurd (by decide +kernel) cc)
              refine lv_iconst (v := 0) hx hb dX10_refusalOfTable_61 (by decide) ?_
              exact tz_retI (B := B_cX10_refusalOfTable_1b9a2 D k h0 h1 h4 h18 h19 h20 h21 h2 h3 h5 h6 h7 h8 h9 h10 h11 h12 h13 h14 h46 h47 h48 h49 x1 x2 h0f2 h0f6 h0f8 h0f11 h1f0 h1f1 h1f2 h18f0 h18f1 h19f0 h19f1 h20f0 h20f1 h21f0 h21f1) (v := 0) hQ hx hb hr hlocks hS (Nat.le_of_ble_eq_true rfl) (Nat.le_of_ble_eq_true rfl) dX10_refusalOfTable_62 (Or.inr (Or.inr (Or.inr (Or.inr (Or.inr (Or.inr (Or.inr (Or.inr (Or.inl ⟨v37, (by have := li_0; omega), (by have := li_0; omega), (by have := li_0; omega), (by have := li_0; omega), (by have := li_0; omega), (by have := li_0; omega), (by have := li_0; omega), (by have := li_0; omega), (by have := li_0; omega), (by have := li_0; omega), (by have := li_0; omega), (by have := li_0; omega), rfl, (hT.sub [0, 5, 1, 2, 6, 3, 4] (by decide) rfl)⟩)))))))))
          · skip
            have hT := J _ hT1
            have hT : TP D A [(h0, ob 7 [.ref h1, .ref h2, .int h0f2, .ref h3, .ref h4, .ref h5, .int h0f6, .ref h6, .int h0f8, .ref h7, .ref h8, .int h0f11, .ref h9, .ref h10, .ref h11, .ref h12, .ref h13]), (h4, aQ (k 3) 4 (q4 h18 h19 h20 h21)), (h18, ob 5 [.int h18f0, .int h18f1, .ref h46]), (h20, ob 5 [.int h20f0, .int h20f1, .ref h48]), (h21, ob 5 [.int h21f0, .int h21f1, .ref h49]), (h19, ob 5 [.int h19f0, .int h19f1, .ref h47]), (h1, ob 4 [.int h1f0, .int h1f1, .int h1f2, .ref h14])] _ := hT
            refine tcI (Tc := [(h19, ob 5 [.int h19f0, .int h19f1, .ref h47])]) (Tr := [(h0, ob 7 [.ref h1, .ref h2, .int h0f2, .ref h3, .ref h4, .ref h5, .int h0f6, .ref h6, .int h0f8, .ref h7, .ref h8, .int h0f11, .ref h9, .ref h10, .ref h11, .ref h12, .ref h13]), (h4, aQ (k 3) 4 (q4 h18 h19 h20 h21)), (h18, ob 5 [.int h18f0, .int h18f1, .ref h46]), (h20, ob 5 [.int h20f0, .int h20f1, .ref h48]), (h21, ob 5 [.int h21f0, .int h21f1, .ref h49]), (h1, ob 4 [.int h1f0, .int h1f1, .int h1f2, .ref h14])]) (as := [h19]) (zcV (q0 := 5) (ci := 5) (As := [.int x2, .int v40]) (rest := []) (Tc := [(h19, ob 5 [.int h19f0, .int h19f1, .ref h47])]) hx hb hml hown hU hK hT rfl rfl [5] rfl (by decide) (cX6_isOutside_cc85b l D k _ h19 h47 x2 v40 h19f0 h19f1 (by omega) (by omega)) w648 w645 w646 w647 w71 hdX6_isOutside ⟨rfl, rfl⟩ ⟨Nat.le_of_ble_eq_true rfl, Nat.le_of_ble_eq_true rfl⟩ rfl hl.1 (Nat.le_of_ble_eq_true rfl) dX10_refusalOfTable_50 ⟨Nat.le_of_ble_eq_true rfl, Nat.le_of_ble_eq_true rfl⟩) hT hS hA [5] [0, 1, 2, 3, 4, 6] rfl rfl rfl (by decide) (by decide) (fun r51 H locs hB J hS => ?_)
            rcases hB with ⟨rfl, hT1⟩ | ⟨c_52, c_53, c_54, rfl, hT1⟩
            · skip
              have hT := J _ hT1
              have hT : TP D A [(h0, ob 7 [.ref h1, .ref h2, .int h0f2, .ref h3, .ref h4, .ref h5, .int h0f6, .ref h6, .int h0f8, .ref h7, .ref h8, .int h0f11, .ref h9, .ref h10, .ref h11, .ref h12, .ref h13]), (h4, aQ (k 3) 4 (q4 h18 h19 h20 h21)), (h18, ob 5 [.int h18f0, .int h18f1, .ref h46]), (h20, ob 5 [.int h20f0, .int h20f1, .ref h48]), (h21, ob 5 [.int h21f0, .int h21f1, .ref h49]), (h1, ob 4 [.int h1f0, .int h1f1, .int h1f2, .ref h14]), (h19, ob 5 [.int h19f0, .int h19f1, .ref h47])] _ := hT
              refine lv_if_eq (tgt := 61) hx hb dX10_refusalOfTable_53 (by decide) (fun cc => absurd cc (by decide +kernel)) (fun _ => ?_)
              refine lv_bipush (v := (-12)) hx hb dX10_refusalOfTable_56 (by decide) ?_
              refine lv_goto (tgt := 62) hx hb dX10_refusalOfTable_58 (by decide) ?_
              exact tz_retI (B := B_cX10_refusalOfTable_1b9a2 D k h0 h1 h4 h18 h19 h20 h21 h2 h3 h5 h6 h7 h8 h9 h10 h11 h12 h13 h14 h46 h47 h48 h49 x1 x2 h0f2 h0f6 h0f8 h0f11 h1f0 h1f1 h1f2 h18f0 h18f1 h19f0 h19f1 h20f0 h20f1 h21f0 h21f1) (v := (-12)) hQ hx hb hr hlocks hS (Nat.le_of_ble_eq_true rfl) (Nat.le_of_ble_eq_true rfl) dX10_refusalOfTable_62 (Or.inr (Or.inl ⟨rfl, (hT.sub [0, 5, 1, 2, 6, 3, 4] (by decide) rfl)⟩))
            · skip
              have hT := J _ hT1
              have hT : TP D A [(h0, ob 7 [.ref h1, .ref h2, .int h0f2, .ref h3, .ref h4, .ref h5, .int h0f6, .ref h6, .int h0f8, .ref h7, .ref h8, .int h0f11, .ref h9, .ref h10, .ref h11, .ref h12, .ref h13]), (h4, aQ (k 3) 4 (q4 h18 h19 h20 h21)), (h18, ob 5 [.int h18f0, .int h18f1, .ref h46]), (h20, ob 5 [.int h20f0, .int h20f1, .ref h48]), (h21, ob 5 [.int h21f0, .int h21f1, .ref h49]), (h1, ob 4 [.int h1f0, .int h1f1, .int h1f2, .ref h14]), (h19, ob 5 [.int h19f0, .int h19f1, .ref h47])] _ := hT
              refine lv_if_eq (tgt := 61) hx hb dX10_refusalOfTable_53 (by decide) (fun _ => ?_) (fun cc => absurd (by decide +kernel) cc)
              refine lv_iconst (v := 0) hx hb dX10_refusalOfTable_61 (by decide) ?_
              exact tz_retI (B := B_cX10_refusalOfTable_1b9a2 D k h0 h1 h4 h18 h19 h20 h21 h2 h3 h5 h6 h7 h8 h9 h10 h11 h12 h13 h14 h46 h47 h48 h49 x1 x2 h0f2 h0f6 h0f8 h0f11 h1f0 h1f1 h1f2 h18f0 h18f1 h19f0 h19f1 h20f0 h20f1 h21f0 h21f1) (v := 0) hQ hx hb hr hlocks hS (Nat.le_of_ble_eq_true rfl) (Nat.le_of_ble_eq_true rfl) dX10_refusalOfTable_62 (Or.inr (Or.inr (Or.inr (Or.inr (Or.inr (Or.inr (Or.inr (Or.inr (Or.inr (Or.inl ⟨v40, (by have := li_0; omega), (by have := li_0; omega), (by have := li_0; omega), (by have := li_0; omega), (by have := li_0; omega), (by have := li_0; omega), (by have := li_0; omega), (by have := li_0; omega), (by have := li_0; omega), (by have := li_0; omega), (by have := li_0; omega), (by have := li_0; omega), rfl, (hT.sub [0, 5, 1, 2, 6, 3, 4] (by decide) rfl)⟩))))))))))
        · skip
          have c_32 := ni_nle c_32 rfl li_0
          refine lv_bipush (v := (-13)) hx hb dX10_refusalOfTable_37 (by decide) ?_
          exact tz_retI (B := B_cX10_refusalOfTable_1b9a2 D k h0 h1 h4 h18 h19 h20 h21 h2 h3 h5 h6 h7 h8 h9 h10 h11 h12 h13 h14 h46 h47 h48 h49 x1 x2 h0f2 h0f6 h0f8 h0f11 h1f0 h1f1 h1f2 h18f0 h18f1 h19f0 h19f1 h20f0 h20f1 h21f0 h21f1) (v := (-13)) hQ hx hb hr hlocks hS (Nat.le_of_ble_eq_true rfl) (Nat.le_of_ble_eq_true rfl) dX10_refusalOfTable_39 (Or.inr (Or.inr (Or.inr (Or.inr (Or.inr (Or.inl ⟨rfl, (hT.sub [0, 1, 2, 3, 6, 4, 5] (by decide) rfl)⟩))))))
      · skip
        have hT := J _ hT1
        have hT : TP D A [(h0, ob 7 [.ref h1, .ref h2, .int h0f2, .ref h3, .ref h4, .ref h5, .int h0f6, .ref h6, .int h0f8, .ref h7, .ref h8, .int h0f11, .ref h9, .ref h10, .ref h11, .ref h12, .ref h13]), (h1, ob 4 [.int h1f0, .int h1f1, .int h1f2, .ref h14]), (h4, aQ (k 3) 4 (q4 h18 h19 h20 h21)), (h18, ob 5 [.int h18f0, .int h18f1, .ref h46]), (h20, ob 5 [.int h20f0, .int h20f1, .ref h48]), (h21, ob 5 [.int h21f0, .int h21f1, .ref h49]), (h19, ob 5 [.int h19f0, .int h19f1, .ref h47])] _ := hT
        refine lv_if_eq (tgt := 28) hx hb dX10_refusalOfTable_22 (by decide) (fun cc => absurd cc (by decide +kernel)) (fun _ => ?_)
        refine lv_bipush (v := (-11)) hx hb dX10_refusalOfTable_25 (by decide) ?_
        exact tz_retI (B := B_cX10_refusalOfTable_1b9a2 D k h0 h1 h4 h18 h19 h20 h21 h2 h3 h5 h6 h7 h8 h9 h10 h11 h12 h13 h14 h46 h47 h48 h49 x1 x2 h0f2 h0f6 h0f8 h0f11 h1f0 h1f1 h1f2 h18f0 h18f1 h19f0 h19f1 h20f0 h20f1 h21f0 h21f1) (v := (-11)) hQ hx hb hr hlocks hS (Nat.le_of_ble_eq_true rfl) (Nat.le_of_ble_eq_true rfl) dX10_refusalOfTable_27 (Or.inr (Or.inr (Or.inr (Or.inr (Or.inr (Or.inr (Or.inl ⟨rfl, (hT.sub [0, 1, 2, 3, 6, 4, 5] (by decide) rfl)⟩)))))))
    · skip
      refine tz_aldq (b := h20) hx hb hK hT 2 rfl (vp_in_iff.mpr (by have := hq4; omega)) (fun f hf => by rw [cl_of hq4]; exact hf.2.2.1) dX10_refusalOfTable_14 ?_
      refine lv_astore (lv' := [(4, .ref h20), (0, .ref h0), (1, .int x1), (2, .int x2), (3, .int 0)]) hx hb dX10_refusalOfTable_15 hl (by decide) rfl (fun ls hl => ?_)
      refine lv_aload hx hb dX10_refusalOfTable_17 (lv_at hl 0 rfl) ?_
      refine tcI (Tc := [(h20, ob 5 [.int h20f0, .int h20f1, .ref h48])]) (Tr := [(h0, ob 7 [.ref h1, .ref h2, .int h0f2, .ref h3, .ref h4, .ref h5, .int h0f6, .ref h6, .int h0f8, .ref h7, .ref h8, .int h0f11, .ref h9, .ref h10, .ref h11, .ref h12, .ref h13]), (h1, ob 4 [.int h1f0, .int h1f1, .int h1f2, .ref h14]), (h4, aQ (k 3) 4 (q4 h18 h19 h20 h21)), (h18, ob 5 [.int h18f0, .int h18f1, .ref h46]), (h19, ob 5 [.int h19f0, .int h19f1, .ref h47]), (h21, ob 5 [.int h21f0, .int h21f1, .ref h49])]) (as := [h20]) (zcV (q0 := 5) (ci := 5) (As := []) (rest := []) (Tc := [(h20, ob 5 [.int h20f0, .int h20f1, .ref h48])]) hx hb hml hown hU hK hT rfl rfl [5] rfl (by decide) (cX6_isMissing_56a93 l D k _ h20 h48 h20f0 h20f1 (by omega) (by omega)) w644 w641 w642 w643 w71 hdX6_isMissing ⟨rfl, rfl⟩ ⟨Nat.le_of_ble_eq_true rfl, Nat.le_of_ble_eq_true rfl⟩ rfl hl.1 (Nat.le_of_ble_eq_true rfl) dX10_refusalOfTable_19 ⟨Nat.le_of_ble_eq_true rfl, Nat.le_of_ble_eq_true rfl⟩) hT hS hA [5] [0, 1, 2, 3, 4, 6] rfl rfl rfl (by decide) (by decide) (fun r55 H locs hB J hS => ?_)
      rcases hB with ⟨c_56, rfl, hT1⟩ | ⟨rfl, hT1⟩
      · skip
        have hT := J _ hT1
        have hT : TP D A [(h0, ob 7 [.ref h1, .ref h2, .int h0f2, .ref h3, .ref h4, .ref h5, .int h0f6, .ref h6, .int h0f8, .ref h7, .ref h8, .int h0f11, .ref h9, .ref h10, .ref h11, .ref h12, .ref h13]), (h1, ob 4 [.int h1f0, .int h1f1, .int h1f2, .ref h14]), (h4, aQ (k 3) 4 (q4 h18 h19 h20 h21)), (h18, ob 5 [.int h18f0, .int h18f1, .ref h46]), (h19, ob 5 [.int h19f0, .int h19f1, .ref h47]), (h21, ob 5 [.int h21f0, .int h21f1, .ref h49]), (h20, ob 5 [.int h20f0, .int h20f1, .ref h48])] _ := hT
        refine lv_if_eq (tgt := 28) hx hb dX10_refusalOfTable_22 (by decide) (fun _ => ?_) (fun cc => absurd (by decide +kernel) cc)
        refine lv_aload hx hb dX10_refusalOfTable_28 (lv_at hl 0 rfl) ?_
        refine tz_get (ci := 5) (v := .int h20f0) (C := RX6) (F := TX6) (N := 3) hx hb hU iX6 hown hK hT 6 rfl rfl 0 (by decide) w238 (fun _ h9 => h9) rfl dX10_refusalOfTable_30 ?_
        refine lv_iload_n hx hb dX10_refusalOfTable_33 rfl (lv_at hl 4 rfl) ?_
        refine lv_icmp_le (tgt := 40) hx hb dX10_refusalOfTable_34 (by decide) (fun c_57 => ?_) (fun c_57 => ?_)
        · skip
          have c_57 := ni_le c_57 rfl li_0
          refine lv_aload hx hb dX10_refusalOfTable_40 (lv_at hl 0 rfl) ?_
          refine lv_iload_n hx hb dX10_refusalOfTable_42 rfl (lv_at hl 3 rfl) ?_
          refine lv_aload_n hx hb dX10_refusalOfTable_43 rfl (lv_at hl 1 rfl) ?_
          refine tz_get (ci := 7) (v := .ref h1) (C := RX10) (F := TX10) (N := 17) hx hb hU iX10 hown hK hT 0 rfl rfl 0 (by decide) w249 (fun _ h9 => h9) rfl dX10_refusalOfTable_44 ?_
          refine tcI (Tc := [(h1, ob 4 [.int h1f0, .int h1f1, .int h1f2, .ref h14])]) (Tr := [(h0, ob 7 [.ref h1, .ref h2, .int h0f2, .ref h3, .ref h4, .ref h5, .int h0f6, .ref h6, .int h0f8, .ref h7, .ref h8, .int h0f11, .ref h9, .ref h10, .ref h11, .ref h12, .ref h13]), (h4, aQ (k 3) 4 (q4 h18 h19 h20 h21)), (h18, ob 5 [.int h18f0, .int h18f1, .ref h46]), (h19, ob 5 [.int h19f0, .int h19f1, .ref h47]), (h21, ob 5 [.int h21f0, .int h21f1, .ref h49]), (h20, ob 5 [.int h20f0, .int h20f1, .ref h48])]) (as := [h1]) (zcV (q0 := 1) (ci := 4) (As := []) (rest := [.int x2, .ref h20]) (Tc := [(h1, ob 4 [.int h1f0, .int h1f1, .int h1f2, .ref h14])]) hx hb hml hown hU hK hT rfl rfl [1] rfl (by decide) (cX5_cellCount_f3983 l D k _ h1 h14 h1f0 h1f1 h1f2 (by omega) (by omega)) w385 w382 w383 w384 w64 hdX5_cellCount ⟨rfl, rfl⟩ ⟨Nat.le_of_ble_eq_true rfl, Nat.le_of_ble_eq_true rfl⟩ rfl hl.1 (Nat.le_of_ble_eq_true rfl) dX10_refusalOfTable_47 ⟨Nat.le_of_ble_eq_true rfl, Nat.le_of_ble_eq_true rfl⟩) hT hS hA [1] [0, 2, 3, 4, 5, 6] rfl rfl rfl (by decide) (by decide) (fun r58 H locs hB J hS => ?_)
          rcases hB with ⟨v59, b_v59, c_60, c_61, rfl, hT1⟩ | ⟨v62, b_v62, c_63, c_64, rfl, hT1⟩ | ⟨v65, b_v65, c_66, c_67, rfl, hT1⟩
          · skip
            have hT := J _ hT1
            have hT : TP D A [(h0, ob 7 [.ref h1, .ref h2, .int h0f2, .ref h3, .ref h4, .ref h5, .int h0f6, .ref h6, .int h0f8, .ref h7, .ref h8, .int h0f11, .ref h9, .ref h10, .ref h11, .ref h12, .ref h13]), (h4, aQ (k 3) 4 (q4 h18 h19 h20 h21)), (h18, ob 5 [.int h18f0, .int h18f1, .ref h46]), (h19, ob 5 [.int h19f0, .int h19f1, .ref h47]), (h21, ob 5 [.int h21f0, .int h21f1, .ref h49]), (h20, ob 5 [.int h20f0, .int h20f1, .ref h48]), (h1, ob 4 [.int h1f0, .int h1f1, .int h1f2, .ref h14])] _ := hT
            refine tcI (Tc := [(h20, ob 5 [.int h20f0, .int h20f1, .ref h48])]) (Tr := [(h0, ob 7 [.ref h1, .ref h2, .int h0f2, .ref h3, .ref h4, .ref h5, .int h0f6, .ref h6, .int h0f8, .ref h7, .ref h8, .int h0f11, .ref h9, .ref h10, .ref h11, .ref h12, .ref h13]), (h4, aQ (k 3) 4 (q4 h18 h19 h20 h21)), (h18, ob 5 [.int h18f0, .int h18f1, .ref h46]), (h19, ob 5 [.int h19f0, .int h19f1, .ref h47]), (h21, ob 5 [.int h21f0, .int h21f1, .ref h49]), (h1, ob 4 [.int h1f0, .int h1f1, .int h1f2, .ref h14])]) (as := [h20]) (zcV (q0 := 5) (ci := 5) (As := [.int x2, .int v59]) (rest := []) (Tc := [(h20, ob 5 [.int h20f0, .int h20f1, .ref h48])]) hx hb hml hown hU hK hT rfl rfl [5] rfl (by decide) (cX6_isOutside_cc85b l D k _ h20 h48 x2 v59 h20f0 h20f1 (by omega) (by omega)) w648 w645 w646 w647 w71 hdX6_isOutside ⟨rfl, rfl⟩ ⟨Nat.le_of_ble_eq_true rfl, Nat.le_of_ble_eq_true rfl⟩ rfl hl.1 (Nat.le_of_ble_eq_true rfl) dX10_refusalOfTable_50 ⟨Nat.le_of_ble_eq_true rfl, Nat.le_of_ble_eq_true rfl⟩) hT hS hA [5] [0, 1, 2, 3, 4, 6] rfl rfl rfl (by decide) (by decide) (fun r68 H locs hB J hS => ?_)
            rcases hB with ⟨rfl, hT1⟩ | ⟨c_69, c_70, c_71, rfl, hT1⟩
            · skip
              have hT := J _ hT1
              have hT : TP D A [(h0, ob 7 [.ref h1, .ref h2, .int h0f2, .ref h3, .ref h4, .ref h5, .int h0f6, .ref h6, .int h0f8, .ref h7, .ref h8, .int h0f11, .ref h9, .ref h10, .ref h11, .ref h12, .ref h13]), (h4, aQ (k 3) 4 (q4 h18 h19 h20 h21)), (h18, ob 5 [.int h18f0, .int h18f1, .ref h46]), (h19, ob 5 [.int h19f0, .int h19f1, .ref h47]), (h21, ob 5 [.int h21f0, .int h21f1, .ref h49]), (h1, ob 4 [.int h1f0, .int h1f1, .int h1f2, .ref h14]), (h20, ob 5 [.int h20f0, .int h20f1, .ref h48])] _ := hT
              refine lv_if_eq (tgt := 61) hx hb dX10_refusalOfTable_53 (by decide) (fun cc => absurd cc (by decide +kernel)) (fun _ => ?_)
              refine lv_bipush (v := (-12)) hx hb dX10_refusalOfTable_56 (by decide) ?_
              refine lv_goto (tgt := 62) hx hb dX10_refusalOfTable_58 (by decide) ?_
              exact tz_retI (B := B_cX10_refusalOfTable_1b9a2 D k h0 h1 h4 h18 h19 h20 h21 h2 h3 h5 h6 h7 h8 h9 h10 h11 h12 h13 h14 h46 h47 h48 h49 x1 x2 h0f2 h0f6 h0f8 h0f11 h1f0 h1f1 h1f2 h18f0 h18f1 h19f0 h19f1 h20f0 h20f1 h21f0 h21f1) (v := (-12)) hQ hx hb hr hlocks hS (Nat.le_of_ble_eq_true rfl) (Nat.le_of_ble_eq_true rfl) dX10_refusalOfTable_62 (Or.inr (Or.inl ⟨rfl, (hT.sub [0, 5, 1, 2, 3, 6, 4] (by decide) rfl)⟩))
            · skip
              have hT := J _ hT1
              have hT : TP D A [(h0, ob 7 [.ref h1, .ref h2, .int h0f2, .ref h3, .ref h4, .ref h5, .int h0f6, .ref h6, .int h0f8, .ref h7, .ref h8, .int h0f11, .ref h9, .ref h10, .ref h11, .ref h12, .ref h13]), (h4, aQ (k 3) 4 (q4 h18 h19 h20 h21)), (h18, ob 5 [.int h18f0, .int h18f1, .ref h46]), (h19, ob 5 [.int h19f0, .int h19f1, .ref h47]), (h21, ob 5 [.int h21f0, .int h21f1, .ref h49]), (h1, ob 4 [.int h1f0, .int h1f1, .int h1f2, .ref h14]), (h20, ob 5 [.int h20f0, .int h20f1, .ref h48])] _ := hT
              refine lv_if_eq (tgt := 61) hx hb dX10_refusalOfTable_53 (by decide) (fun _ => ?_) (fun cc => absurd (by decide +kernel) cc)
              refine lv_iconst (v := 0) hx hb dX10_refusalOfTable_61 (by decide) ?_
              exact tz_retI (B := B_cX10_refusalOfTable_1b9a2 D k h0 h1 h4 h18 h19 h20 h21 h2 h3 h5 h6 h7 h8 h9 h10 h11 h12 h13 h14 h46 h47 h48 h49 x1 x2 h0f2 h0f6 h0f8 h0f11 h1f0 h1f1 h1f2 h18f0 h18f1 h19f0 h19f1 h20f0 h20f1 h21f0 h21f1) (v := 0) hQ hx hb hr hlocks hS (Nat.le_of_ble_eq_true rfl) (Nat.le_of_ble_eq_true rfl) dX10_refusalOfTable_62 (Or.inr (Or.inr (Or.inr (Or.inr (Or.inr (Or.inr (Or.inr (Or.inr (Or.inr (Or.inr (Or.inl ⟨v59, (by have := li_0; omega), (by have := li_0; omega), (by have := li_0; omega), (by have := li_0; omega), (by have := li_0; omega), (by have := li_0; omega), (by have := li_0; omega), (by have := li_0; omega), (by have := li_0; omega), (by have := li_0; omega), (by have := li_0; omega), (by have := li_0; omega), rfl, (hT.sub [0, 5, 1, 2, 3, 6, 4] (by decide) rfl)⟩)))))))))))
          · skip
            have hT := J _ hT1
            have hT : TP D A [(h0, ob 7 [.ref h1, .ref h2, .int h0f2, .ref h3, .ref h4, .ref h5, .int h0f6, .ref h6, .int h0f8, .ref h7, .ref h8, .int h0f11, .ref h9, .ref h10, .ref h11, .ref h12, .ref h13]), (h4, aQ (k 3) 4 (q4 h18 h19 h20 h21)), (h18, ob 5 [.int h18f0, .int h18f1, .ref h46]), (h19, ob 5 [.int h19f0, .int h19f1, .ref h47]), (h21, ob 5 [.int h21f0, .int h21f1, .ref h49]), (h20, ob 5 [.int h20f0, .int h20f1, .ref h48]), (h1, ob 4 [.int h1f0, .int h1f1, .int h1f2, .ref h14])] _ := hT
            refine tcI (Tc := [(h20, ob 5 [.int h20f0, .int h20f1, .ref h48])]) (Tr := [(h0, ob 7 [.ref h1, .ref h2, .int h0f2, .ref h3, .ref h4, .ref h5, .int h0f6, .ref h6, .int h0f8, .ref h7, .ref h8, .int h0f11, .ref h9, .ref h10, .ref h11, .ref h12, .ref h13]), (h4, aQ (k 3) 4 (q4 h18 h19 h20 h21)), (h18, ob 5 [.int h18f0, .int h18f1, .ref h46]), (h19, ob 5 [.int h19f0, .int h19f1, .ref h47]), (h21, ob 5 [.int h21f0, .int h21f1, .ref h49]), (h1, ob 4 [.int h1f0, .int h1f1, .int h1f2, .ref h14])]) (as := [h20]) (zcV (q0 := 5) (ci := 5) (As := [.int x2, .int v62]) (rest := []) (Tc := [(h20, ob 5 [.int h20f0, .int h20f1, .ref h48])]) hx hb hml hown hU hK hT rfl rfl [5] rfl (by decide) (cX6_isOutside_cc85b l D k _ h20 h48 x2 v62 h20f0 h20f1 (by omega) (by omega)) w648 w645 w646 w647 w71 hdX6_isOutside ⟨rfl, rfl⟩ ⟨Nat.le_of_ble_eq_true rfl, Nat.le_of_ble_eq_true rfl⟩ rfl hl.1 (Nat.le_of_ble_eq_true rfl) dX10_refusalOfTable_50 ⟨Nat.le_of_ble_eq_true rfl, Nat.le_of_ble_eq_true rfl⟩) hT hS hA [5] [0, 1, 2, 3, 4, 6] rfl rfl rfl (by decide) (by decide) (fun r72 H locs hB J hS => ?_)
            rcases hB with ⟨rfl, hT1⟩ | ⟨c_73, c_74, c_75, rfl, hT1⟩
            · skip
              have hT := J _ hT1
              have hT : TP D A [(h0, ob 7 [.ref h1, .ref h2, .int h0f2, .ref h3, .ref h4, .ref h5, .int h0f6, .ref h6, .int h0f8, .ref h7, .ref h8, .int h0f11, .ref h9, .ref h10, .ref h11, .ref h12, .ref h13]), (h4, aQ (k 3) 4 (q4 h18 h19 h20 h21)), (h18, ob 5 [.int h18f0, .int h18f1, .ref h46]), (h19, ob 5 [.int h19f0, .int h19f1, .ref h47]), (h21, ob 5 [.int h21f0, .int h21f1, .ref h49]), (h1, ob 4 [.int h1f0, .int h1f1, .int h1f2, .ref h14]), (h20, ob 5 [.int h20f0, .int h20f1, .ref h48])] _ := hT
              refine lv_if_eq (tgt := 61) hx hb dX10_refusalOfTable_53 (by decide) (fun cc => absurd cc (by decide +kernel)) (fun _ => ?_)
              refine lv_bipush (v := (-12)) hx hb dX10_refusalOfTable_56 (by decide) ?_
              refine lv_goto (tgt := 62) hx hb dX10_refusalOfTable_58 (by decide) ?_
              exact tz_retI (B := B_cX10_refusalOfTable_1b9a2 D k h0 h1 h4 h18 h19 h20 h21 h2 h3 h5 h6 h7 h8 h9 h10 h11 h12 h13 h14 h46 h47 h48 h49 x1 x2 h0f2 h0f6 h0f8 h0f11 h1f0 h1f1 h1f2 h18f0 h18f1 h19f0 h19f1 h20f0 h20f1 h21f0 h21f1) (v := (-12)) hQ hx hb hr hlocks hS (Nat.le_of_ble_eq_true rfl) (Nat.le_of_ble_eq_true rfl) dX10_refusalOfTable_62 (Or.inr (Or.inl ⟨rfl, (hT.sub [0, 5, 1, 2, 3, 6, 4] (by decide) rfl)⟩))
            · skip
              have hT := J _ hT1
              have hT : TP D A [(h0, ob 7 [.ref h1, .ref h2, .int h0f2, .ref h3, .ref h4, .ref h5, .int h0f6, .ref h6, .int h0f8, .ref h7, .ref h8, .int h0f11, .ref h9, .ref h10, .ref h11, .ref h12, .ref h13]), (h4, aQ (k 3) 4 (q4 h18 h19 h20 h21)), (h18, ob 5 [.int h18f0, .int h18f1, .ref h46]), (h19, ob 5 [.int h19f0, .int h19f1, .ref h47]), (h21, ob 5 [.int h21f0, .int h21f1, .ref h49]), (h1, ob 4 [.int h1f0, .int h1f1, .int h1f2, .ref h14]), (h20, ob 5 [.int h20f0, .int h20f1, .ref h48])] _ := hT
              refine lv_if_eq (tgt := 61) hx hb dX10_refusalOfTable_53 (by decide) (fun _ => ?_) (fun cc => absurd (by decide +kernel) cc)
              refine lv_iconst (v := 0) hx hb dX10_refusalOfTable_61 (by decide) ?_
              exact tz_retI (B := B_cX10_refusalOfTable_1b9a2 D k h0 h1 h4 h18 h19 h20 h21 h2 h3 h5 h6 h7 h8 h9 h10 h11 h12 h13 h14 h46 h47 h48 h49 x1 x2 h0f2 h0f6 h0f8 h0f11 h1f0 h1f1 h1f2 h18f0 h18f1 h19f0 h19f1 h20f0 h20f1 h21f0 h21f1) (v := 0) hQ hx hb hr hlocks hS (Nat.le_of_ble_eq_true rfl) (Nat.le_of_ble_eq_true rfl) dX10_refusalOfTable_62 (Or.inr (Or.inr (Or.inr (Or.inr (Or.inr (Or.inr (Or.inr (Or.inr (Or.inr (Or.inr (Or.inr (Or.inl ⟨v62, (by have := li_0; omega), (by have := li_0; omega), (by have := li_0; omega), (by have := li_0; omega), (by have := li_0; omega), (by have := li_0; omega), (by have := li_0; omega), (by have := li_0; omega), (by have := li_0; omega), (by have := li_0; omega), (by have := li_0; omega), (by have := li_0; omega), rfl, (hT.sub [0, 5, 1, 2, 3, 6, 4] (by decide) rfl)⟩))))))))))))
          · skip
            have hT := J _ hT1
            have hT : TP D A [(h0, ob 7 [.ref h1, .ref h2, .int h0f2, .ref h3, .ref h4, .ref h5, .int h0f6, .ref h6, .int h0f8, .ref h7, .ref h8, .int h0f11, .ref h9, .ref h10, .ref h11, .ref h12, .ref h13]), (h4, aQ (k 3) 4 (q4 h18 h19 h20 h21)), (h18, ob 5 [.int h18f0, .int h18f1, .ref h46]), (h19, ob 5 [.int h19f0, .int h19f1, .ref h47]), (h21, ob 5 [.int h21f0, .int h21f1, .ref h49]), (h20, ob 5 [.int h20f0, .int h20f1, .ref h48]), (h1, ob 4 [.int h1f0, .int h1f1, .int h1f2, .ref h14])] _ := hT
            refine tcI (Tc := [(h20, ob 5 [.int h20f0, .int h20f1, .ref h48])]) (Tr := [(h0, ob 7 [.ref h1, .ref h2, .int h0f2, .ref h3, .ref h4, .ref h5, .int h0f6, .ref h6, .int h0f8, .ref h7, .ref h8, .int h0f11, .ref h9, .ref h10, .ref h11, .ref h12, .ref h13]), (h4, aQ (k 3) 4 (q4 h18 h19 h20 h21)), (h18, ob 5 [.int h18f0, .int h18f1, .ref h46]), (h19, ob 5 [.int h19f0, .int h19f1, .ref h47]), (h21, ob 5 [.int h21f0, .int h21f1, .ref h49]), (h1, ob 4 [.int h1f0, .int h1f1, .int h1f2, .ref h14])]) (as := [h20]) (zcV (q0 := 5) (ci := 5) (As := [.int x2, .int v65]) (rest := []) (Tc := [(h20, ob 5 [.int h20f0, .int h20f1, .ref h48])]) hx hb hml hown hU hK hT rfl rfl [5] rfl (by decide) (cX6_isOutside_cc85b l D k _ h20 h48 x2 v65 h20f0 h20f1 (by omega) (by omega)) w648 w645 w646 w647 w71 hdX6_isOutside ⟨rfl, rfl⟩ ⟨Nat.le_of_ble_eq_true rfl, Nat.le_of_ble_eq_true rfl⟩ rfl hl.1 (Nat.le_of_ble_eq_true rfl) dX10_refusalOfTable_50 ⟨Nat.le_of_ble_eq_true rfl, Nat.le_of_ble_eq_true rfl⟩) hT hS hA [5] [0, 1, 2, 3, 4, 6] rfl rfl rfl (by decide) (by decide) (fun r76 H locs hB J hS => ?_)
            rcases hB with ⟨rfl, hT1⟩ | ⟨c_77, c_78, c_79, rfl, hT1⟩
            · skip
              have hT := J _ hT1
              have hT : TP D A [(h0, ob 7 [.ref h1, .ref h2, .int h0f2, .ref h3, .ref h4, .ref h5, .int h0f6, .ref h6, .int h0f8, .ref h7, .ref h8, .int h0f11, .ref h9, .ref h10, .ref h11, .ref h12, .ref h13]), (h4, aQ (k 3) 4 (q4 h18 h19 h20 h21)), (h18, ob 5 [.int h18f0, .int h18f1, .ref h46]), (h19, ob 5 [.int h19f0, .int h19f1, .ref h47]), (h21, ob 5 [.int h21f0, .int h21f1, .ref h49]), (h1, ob 4 [.int h1f0, .int h1f1, .int h1f2, .ref h14]), (h20, ob 5 [.int h20f0, .int h20f1, .ref h48])] _ := hT
              refine lv_if_eq (tgt := 61) hx hb dX10_refusalOfTable_53 (by decide) (fun cc => absurd cc (by decide +kernel)) (fun _ => ?_)
              refine lv_bipush (v := (-12)) hx hb dX10_refusalOfTable_56 (by decide) ?_
              refine lv_goto (tgt := 62) hx hb dX10_refusalOfTable_58 (by decide) ?_
              exact tz_retI (B := B_cX10_refusalOfTable_1b9a2 D k h0 h1 h4 h18 h19 h20 h21 h2 h3 h5 h6 h7 h8 h9 h10 h11 h12 h13 h14 h46 h47 h48 h49 x1 x2 h0f2 h0f6 h0f8 h0f11 h1f0 h1f1 h1f2 h18f0 h18f1 h19f0 h19f1 h20f0 h20f1 h21f0 h21f1) (v := (-12)) hQ hx hb hr hlocks hS (Nat.le_of_ble_eq_true rfl) (Nat.le_of_ble_eq_true rfl) dX10_refusalOfTable_62 (Or.inr (Or.inl ⟨rfl, (hT.sub [0, 5, 1, 2, 3, 6, 4] (by decide) rfl)⟩))
            · skip
              have hT := J _ hT1
              have hT : TP D A [(h0, ob 7 [.ref h1, .ref h2, .int h0f2, .ref h3, .ref h4, .ref h5, .int h0f6, .ref h6, .int h0f8, .ref h7, .ref h8, .int h0f11, .ref h9, .ref h10, .ref h11, .ref h12, .ref h13]), (h4, aQ (k 3) 4 (q4 h18 h19 h20 h21)), (h18, ob 5 [.int h18f0, .int h18f1, .ref h46]), (h19, ob 5 [.int h19f0, .int h19f1, .ref h47]), (h21, ob 5 [.int h21f0, .int h21f1, .ref h49]), (h1, ob 4 [.int h1f0, .int h1f1, .int h1f2, .ref h14]), (h20, ob 5 [.int h20f0, .int h20f1, .ref h48])] _ := hT
              refine lv_if_eq (tgt := 61) hx hb dX10_refusalOfTable_53 (by decide) (fun _ => ?_) (fun cc => absurd (by decide +kernel) cc)
              refine lv_iconst (v := 0) hx hb dX10_refusalOfTable_61 (by decide) ?_
              exact tz_retI (B := B_cX10_refusalOfTable_1b9a2 D k h0 h1 h4 h18 h19 h20 h21 h2 h3 h5 h6 h7 h8 h9 h10 h11 h12 h13 h14 h46 h47 h48 h49 x1 x2 h0f2 h0f6 h0f8 h0f11 h1f0 h1f1 h1f2 h18f0 h18f1 h19f0 h19f1 h20f0 h20f1 h21f0 h21f1) (v := 0) hQ hx hb hr hlocks hS (Nat.le_of_ble_eq_true rfl) (Nat.le_of_ble_eq_true rfl) dX10_refusalOfTable_62 (Or.inr (Or.inr (Or.inr (Or.inr (Or.inr (Or.inr (Or.inr (Or.inr (Or.inr (Or.inr (Or.inr (Or.inr (Or.inl ⟨v65, (by have := li_0; omega), (by have := li_0; omega), (by have := li_0; omega), (by have := li_0; omega), (by have := li_0; omega), (by have := li_0; omega), (by have := li_0; omega), (by have := li_0; omega), (by have := li_0; omega), (by have := li_0; omega), (by have := li_0; omega), (by have := li_0; omega), rfl, (hT.sub [0, 5, 1, 2, 3, 6, 4] (by decide) rfl)⟩)))))))))))))
        · skip
          have c_57 := ni_nle c_57 rfl li_0
          refine lv_bipush (v := (-13)) hx hb dX10_refusalOfTable_37 (by decide) ?_
          exact tz_retI (B := B_cX10_refusalOfTable_1b9a2 D k h0 h1 h4 h18 h19 h20 h21 h2 h3 h5 h6 h7 h8 h9 h10 h11 h12 h13 h14 h46 h47 h48 h49 x1 x2 h0f2 h0f6 h0f8 h0f11 h1f0 h1f1 h1f2 h18f0 h18f1 h19f0 h19f1 h20f0 h20f1 h21f0 h21f1) (v := (-13)) hQ hx hb hr hlocks hS (Nat.le_of_ble_eq_true rfl) (Nat.le_of_ble_eq_true rfl) dX10_refusalOfTable_39 (Or.inr (Or.inr (Or.inr (Or.inr (Or.inr (Or.inl ⟨rfl, (hT.sub [0, 1, 2, 3, 4, 6, 5] (by decide) rfl)⟩))))))
      · skip
        have hT := J _ hT1
        have hT : TP D A [(h0, ob 7 [.ref h1, .ref h2, .int h0f2, .ref h3, .ref h4, .ref h5, .int h0f6, .ref h6, .int h0f8, .ref h7, .ref h8, .int h0f11, .ref h9, .ref h10, .ref h11, .ref h12, .ref h13]), (h1, ob 4 [.int h1f0, .int h1f1, .int h1f2, .ref h14]), (h4, aQ (k 3) 4 (q4 h18 h19 h20 h21)), (h18, ob 5 [.int h18f0, .int h18f1, .ref h46]), (h19, ob 5 [.int h19f0, .int h19f1, .ref h47]), (h21, ob 5 [.int h21f0, .int h21f1, .ref h49]), (h20, ob 5 [.int h20f0, .int h20f1, .ref h48])] _ := hT
        refine lv_if_eq (tgt := 28) hx hb dX10_refusalOfTable_22 (by decide) (fun cc => absurd cc (by decide +kernel)) (fun _ => ?_)
        refine lv_bipush (v := (-11)) hx hb dX10_refusalOfTable_25 (by decide) ?_
        exact tz_retI (B := B_cX10_refusalOfTable_1b9a2 D k h0 h1 h4 h18 h19 h20 h21 h2 h3 h5 h6 h7 h8 h9 h10 h11 h12 h13 h14 h46 h47 h48 h49 x1 x2 h0f2 h0f6 h0f8 h0f11 h1f0 h1f1 h1f2 h18f0 h18f1 h19f0 h19f1 h20f0 h20f1 h21f0 h21f1) (v := (-11)) hQ hx hb hr hlocks hS (Nat.le_of_ble_eq_true rfl) (Nat.le_of_ble_eq_true rfl) dX10_refusalOfTable_27 (Or.inr (Or.inr (Or.inr (Or.inr (Or.inr (Or.inr (Or.inl ⟨rfl, (hT.sub [0, 1, 2, 3, 4, 6, 5] (by decide) rfl)⟩)))))))
    · skip
      refine tz_aldq (b := h21) hx hb hK hT 2 rfl (vp_in_iff.mpr (by have := hq4; omega)) (fun f hf => by rw [cl_of hq4]; exact hf.2.2.2) dX10_refusalOfTable_14 ?_
      refine lv_astore (lv' := [(4, .ref h21), (0, .ref h0), (1, .int x1), (2, .int x2), (3, .int 0)]) hx hb dX10_refusalOfTable_15 hl (by decide) rfl (fun ls hl => ?_)
      refine lv_aload hx hb dX10_refusalOfTable_17 (lv_at hl 0 rfl) ?_
      refine tcI (Tc := [(h21, ob 5 [.int h21f0, .int h21f1, .ref h49])]) (Tr := [(h0, ob 7 [.ref h1, .ref h2, .int h0f2, .ref h3, .ref h4, .ref h5, .int h0f6, .ref h6, .int h0f8, .ref h7, .ref h8, .int h0f11, .ref h9, .ref h10, .ref h11, .ref h12, .ref h13]), (h1, ob 4 [.int h1f0, .int h1f1, .int h1f2, .ref h14]), (h4, aQ (k 3) 4 (q4 h18 h19 h20 h21)), (h18, ob 5 [.int h18f0, .int h18f1, .ref h46]), (h19, ob 5 [.int h19f0, .int h19f1, .ref h47]), (h20, ob 5 [.int h20f0, .int h20f1, .ref h48])]) (as := [h21]) (zcV (q0 := 6) (ci := 5) (As := []) (rest := []) (Tc := [(h21, ob 5 [.int h21f0, .int h21f1, .ref h49])]) hx hb hml hown hU hK hT rfl rfl [6] rfl (by decide) (cX6_isMissing_56a93 l D k _ h21 h49 h21f0 h21f1 (by omega) (by omega)) w644 w641 w642 w643 w71 hdX6_isMissing ⟨rfl, rfl⟩ ⟨Nat.le_of_ble_eq_true rfl, Nat.le_of_ble_eq_true rfl⟩ rfl hl.1 (Nat.le_of_ble_eq_true rfl) dX10_refusalOfTable_19 ⟨Nat.le_of_ble_eq_true rfl, Nat.le_of_ble_eq_true rfl⟩) hT hS hA [6] [0, 1, 2, 3, 4, 5] rfl rfl rfl (by decide) (by decide) (fun r80 H locs hB J hS => ?_)
      rcases hB with ⟨c_81, rfl, hT1⟩ | ⟨rfl, hT1⟩
      · skip
        have hT := J _ hT1
        have hT : TP D A [(h0, ob 7 [.ref h1, .ref h2, .int h0f2, .ref h3, .ref h4, .ref h5, .int h0f6, .ref h6, .int h0f8, .ref h7, .ref h8, .int h0f11, .ref h9, .ref h10, .ref h11, .ref h12, .ref h13]), (h1, ob 4 [.int h1f0, .int h1f1, .int h1f2, .ref h14]), (h4, aQ (k 3) 4 (q4 h18 h19 h20 h21)), (h18, ob 5 [.int h18f0, .int h18f1, .ref h46]), (h19, ob 5 [.int h19f0, .int h19f1, .ref h47]), (h20, ob 5 [.int h20f0, .int h20f1, .ref h48]), (h21, ob 5 [.int h21f0, .int h21f1, .ref h49])] _ := hT
        refine lv_if_eq (tgt := 28) hx hb dX10_refusalOfTable_22 (by decide) (fun _ => ?_) (fun cc => absurd (by decide +kernel) cc)
        refine lv_aload hx hb dX10_refusalOfTable_28 (lv_at hl 0 rfl) ?_
        refine tz_get (ci := 5) (v := .int h21f0) (C := RX6) (F := TX6) (N := 3) hx hb hU iX6 hown hK hT 6 rfl rfl 0 (by decide) w238 (fun _ h9 => h9) rfl dX10_refusalOfTable_30 ?_
        refine lv_iload_n hx hb dX10_refusalOfTable_33 rfl (lv_at hl 4 rfl) ?_
        refine lv_icmp_le (tgt := 40) hx hb dX10_refusalOfTable_34 (by decide) (fun c_82 => ?_) (fun c_82 => ?_)
        · skip
          have c_82 := ni_le c_82 rfl li_0
          refine lv_aload hx hb dX10_refusalOfTable_40 (lv_at hl 0 rfl) ?_
          refine lv_iload_n hx hb dX10_refusalOfTable_42 rfl (lv_at hl 3 rfl) ?_
          refine lv_aload_n hx hb dX10_refusalOfTable_43 rfl (lv_at hl 1 rfl) ?_
          refine tz_get (ci := 7) (v := .ref h1) (C := RX10) (F := TX10) (N := 17) hx hb hU iX10 hown hK hT 0 rfl rfl 0 (by decide) w249 (fun _ h9 => h9) rfl dX10_refusalOfTable_44 ?_
          refine tcI (Tc := [(h1, ob 4 [.int h1f0, .int h1f1, .int h1f2, .ref h14])]) (Tr := [(h0, ob 7 [.ref h1, .ref h2, .int h0f2, .ref h3, .ref h4, .ref h5, .int h0f6, .ref h6, .int h0f8, .ref h7, .ref h8, .int h0f11, .ref h9, .ref h10, .ref h11, .ref h12, .ref h13]), (h4, aQ (k 3) 4 (q4 h18 h19 h20 h21)), (h18, ob 5 [.int h18f0, .int h18f1, .ref h46]), (h19, ob 5 [.int h19f0, .int h19f1, .ref h47]), (h20, ob 5 [.int h20f0, .int h20f1, .ref h48]), (h21, ob 5 [.int h21f0, .int h21f1, .ref h49])]) (as := [h1]) (zcV (q0 := 1) (ci := 4) (As := []) (rest := [.int x2, .ref h21]) (Tc := [(h1, ob 4 [.int h1f0, .int h1f1, .int h1f2, .ref h14])]) hx hb hml hown hU hK hT rfl rfl [1] rfl (by decide) (cX5_cellCount_f3983 l D k _ h1 h14 h1f0 h1f1 h1f2 (by omega) (by omega)) w385 w382 w383 w384 w64 hdX5_cellCount ⟨rfl, rfl⟩ ⟨Nat.le_of_ble_eq_true rfl, Nat.le_of_ble_eq_true rfl⟩ rfl hl.1 (Nat.le_of_ble_eq_true rfl) dX10_refusalOfTable_47 ⟨Nat.le_of_ble_eq_true rfl, Nat.le_of_ble_eq_true rfl⟩) hT hS hA [1] [0, 2, 3, 4, 5, 6] rfl rfl rfl (by decide) (by decide) (fun r83 H locs hB J hS => ?_)
          rcases hB with ⟨v84, b_v84, c_85, c_86, rfl, hT1⟩ | ⟨v87, b_v87, c_88, c_89, rfl, hT1⟩ | ⟨v90, b_v90, c_91, c_92, rfl, hT1⟩
          · skip
            have hT := J _ hT1
            have hT : TP D A [(h0, ob 7 [.ref h1, .ref h2, .int h0f2, .ref h3, .ref h4, .ref h5, .int h0f6, .ref h6, .int h0f8, .ref h7, .ref h8, .int h0f11, .ref h9, .ref h10, .ref h11, .ref h12, .ref h13]), (h4, aQ (k 3) 4 (q4 h18 h19 h20 h21)), (h18, ob 5 [.int h18f0, .int h18f1, .ref h46]), (h19, ob 5 [.int h19f0, .int h19f1, .ref h47]), (h20, ob 5 [.int h20f0, .int h20f1, .ref h48]), (h21, ob 5 [.int h21f0, .int h21f1, .ref h49]), (h1, ob 4 [.int h1f0, .int h1f1, .int h1f2, .ref h14])] _ := hT
            refine tcI (Tc := [(h21, ob 5 [.int h21f0, .int h21f1, .ref h49])]) (Tr := [(h0, ob 7 [.ref h1, .ref h2, .int h0f2, .ref h3, .ref h4, .ref h5, .int h0f6, .ref h6, .int h0f8, .ref h7, .ref h8, .int h0f11, .ref h9, .ref h10, .ref h11, .ref h12, .ref h13]), (h4, aQ (k 3) 4 (q4 h18 h19 h20 h21)), (h18, ob 5 [.int h18f0, .int h18f1, .ref h46]), (h19, ob 5 [.int h19f0, .int h19f1, .ref h47]), (h20, ob 5 [.int h20f0, .int h20f1, .ref h48]), (h1, ob 4 [.int h1f0, .int h1f1, .int h1f2, .ref h14])]) (as := [h21]) (zcV (q0 := 5) (ci := 5) (As := [.int x2, .int v84]) (rest := []) (Tc := [(h21, ob 5 [.int h21f0, .int h21f1, .ref h49])]) hx hb hml hown hU hK hT rfl rfl [5] rfl (by decide) (cX6_isOutside_cc85b l D k _ h21 h49 x2 v84 h21f0 h21f1 (by omega) (by omega)) w648 w645 w646 w647 w71 hdX6_isOutside ⟨rfl, rfl⟩ ⟨Nat.le_of_ble_eq_true rfl, Nat.le_of_ble_eq_true rfl⟩ rfl hl.1 (Nat.le_of_ble_eq_true rfl) dX10_refusalOfTable_50 ⟨Nat.le_of_ble_eq_true rfl, Nat.le_of_ble_eq_true rfl⟩) hT hS hA [5] [0, 1, 2, 3, 4, 6] rfl rfl rfl (by decide) (by decide) (fun r93 H locs hB J hS => ?_)
            rcases hB with ⟨rfl, hT1⟩ | ⟨c_94, c_95, c_96, rfl, hT1⟩
            · skip
              have hT := J _ hT1
              have hT : TP D A [(h0, ob 7 [.ref h1, .ref h2, .int h0f2, .ref h3, .ref h4, .ref h5, .int h0f6, .ref h6, .int h0f8, .ref h7, .ref h8, .int h0f11, .ref h9, .ref h10, .ref h11, .ref h12, .ref h13]), (h4, aQ (k 3) 4 (q4 h18 h19 h20 h21)), (h18, ob 5 [.int h18f0, .int h18f1, .ref h46]), (h19, ob 5 [.int h19f0, .int h19f1, .ref h47]), (h20, ob 5 [.int h20f0, .int h20f1, .ref h48]), (h1, ob 4 [.int h1f0, .int h1f1, .int h1f2, .ref h14]), (h21, ob 5 [.int h21f0, .int h21f1, .ref h49])] _ := hT
              refine lv_if_eq (tgt := 61) hx hb dX10_refusalOfTable_53 (by decide) (fun cc => absurd cc (by decide +kernel)) (fun _ => ?_)
              refine lv_bipush (v := (-12)) hx hb dX10_refusalOfTable_56 (by decide) ?_
              refine lv_goto (tgt := 62) hx hb dX10_refusalOfTable_58 (by decide) ?_
              exact tz_retI (B := B_cX10_refusalOfTable_1b9a2 D k h0 h1 h4 h18 h19 h20 h21 h2 h3 h5 h6 h7 h8 h9 h10 h11 h12 h13 h14 h46 h47 h48 h49 x1 x2 h0f2 h0f6 h0f8 h0f11 h1f0 h1f1 h1f2 h18f0 h18f1 h19f0 h19f1 h20f0 h20f1 h21f0 h21f1) (v := (-12)) hQ hx hb hr hlocks hS (Nat.le_of_ble_eq_true rfl) (Nat.le_of_ble_eq_true rfl) dX10_refusalOfTable_62 (Or.inr (Or.inl ⟨rfl, (hT.sub [0, 5, 1, 2, 3, 4, 6] (by decide) rfl)⟩))
            · skip
              have hT := J _ hT1
              have hT : TP D A [(h0, ob 7 [.ref h1, .ref h2, .int h0f2, .ref h3, .ref h4, .ref h5, .int h0f6, .ref h6, .int h0f8, .ref h7, .ref h8, .int h0f11, .ref h9, .ref h10, .ref h11, .ref h12, .ref h13]), (h4, aQ (k 3) 4 (q4 h18 h19 h20 h21)), (h18, ob 5 [.int h18f0, .int h18f1, .ref h46]), (h19, ob 5 [.int h19f0, .int h19f1, .ref h47]), (h20, ob 5 [.int h20f0, .int h20f1, .ref h48]), (h1, ob 4 [.int h1f0, .int h1f1, .int h1f2, .ref h14]), (h21, ob 5 [.int h21f0, .int h21f1, .ref h49])] _ := hT
              refine lv_if_eq (tgt := 61) hx hb dX10_refusalOfTable_53 (by decide) (fun _ => ?_) (fun cc => absurd (by decide +kernel) cc)
              refine lv_iconst (v := 0) hx hb dX10_refusalOfTable_61 (by decide) ?_
              exact tz_retI (B := B_cX10_refusalOfTable_1b9a2 D k h0 h1 h4 h18 h19 h20 h21 h2 h3 h5 h6 h7 h8 h9 h10 h11 h12 h13 h14 h46 h47 h48 h49 x1 x2 h0f2 h0f6 h0f8 h0f11 h1f0 h1f1 h1f2 h18f0 h18f1 h19f0 h19f1 h20f0 h20f1 h21f0 h21f1) (v := 0) hQ hx hb hr hlocks hS (Nat.le_of_ble_eq_true rfl) (Nat.le_of_ble_eq_true rfl) dX10_refusalOfTable_62 (Or.inr (Or.inr (Or.inr (Or.inr (Or.inr (Or.inr (Or.inr (Or.inr (Or.inr (Or.inr (Or.inr (Or.inr (Or.inr (Or.inl ⟨v84, (by have := li_0; omega), (by have := li_0; omega), (by have := li_0; omega), (by have := li_0; omega), (by have := li_0; omega), (by have := li_0; omega), (by have := li_0; omega), (by have := li_0; omega), (by have := li_0; omega), (by have := li_0; omega), (by have := li_0; omega), (by have := li_0; omega), rfl, (hT.sub [0, 5, 1, 2, 3, 4, 6] (by decide) rfl)⟩))))))))))))))
          · skip
            have hT := J _ hT1
            have hT : TP D A [(h0, ob 7 [.ref h1, .ref h2, .int h0f2, .ref h3, .ref h4, .ref h5, .int h0f6, .ref h6, .int h0f8, .ref h7, .ref h8, .int h0f11, .ref h9, .ref h10, .ref h11, .ref h12, .ref h13]), (h4, aQ (k 3) 4 (q4 h18 h19 h20 h21)), (h18, ob 5 [.int h18f0, .int h18f1, .ref h46]), (h19, ob 5 [.int h19f0, .int h19f1, .ref h47]), (h20, ob 5 [.int h20f0, .int h20f1, .ref h48]), (h21, ob 5 [.int h21f0, .int h21f1, .ref h49]), (h1, ob 4 [.int h1f0, .int h1f1, .int h1f2, .ref h14])] _ := hT
            refine tcI (Tc := [(h21, ob 5 [.int h21f0, .int h21f1, .ref h49])]) (Tr := [(h0, ob 7 [.ref h1, .ref h2, .int h0f2, .ref h3, .ref h4, .ref h5, .int h0f6, .ref h6, .int h0f8, .ref h7, .ref h8, .int h0f11, .ref h9, .ref h10, .ref h11, .ref h12, .ref h13]), (h4, aQ (k 3) 4 (q4 h18 h19 h20 h21)), (h18, ob 5 [.int h18f0, .int h18f1, .ref h46]), (h19, ob 5 [.int h19f0, .int h19f1, .ref h47]), (h20, ob 5 [.int h20f0, .int h20f1, .ref h48]), (h1, ob 4 [.int h1f0, .int h1f1, .int h1f2, .ref h14])]) (as := [h21]) (zcV (q0 := 5) (ci := 5) (As := [.int x2, .int v87]) (rest := []) (Tc := [(h21, ob 5 [.int h21f0, .int h21f1, .ref h49])]) hx hb hml hown hU hK hT rfl rfl [5] rfl (by decide) (cX6_isOutside_cc85b l D k _ h21 h49 x2 v87 h21f0 h21f1 (by omega) (by omega)) w648 w645 w646 w647 w71 hdX6_isOutside ⟨rfl, rfl⟩ ⟨Nat.le_of_ble_eq_true rfl, Nat.le_of_ble_eq_true rfl⟩ rfl hl.1 (Nat.le_of_ble_eq_true rfl) dX10_refusalOfTable_50 ⟨Nat.le_of_ble_eq_true rfl, Nat.le_of_ble_eq_true rfl⟩) hT hS hA [5] [0, 1, 2, 3, 4, 6] rfl rfl rfl (by decide) (by decide) (fun r97 H locs hB J hS => ?_)
            rcases hB with ⟨rfl, hT1⟩ | ⟨c_98, c_99, c_100, rfl, hT1⟩
            · skip
              have hT := J _ hT1
              have hT : TP D A [(h0, ob 7 [.ref h1, .ref h2, .int h0f2, .ref h3, .ref h4, .ref h5, .int h0f6, .ref h6, .int h0f8, .ref h7, .ref h8, .int h0f11, .ref h9, .ref h10, .ref h11, .ref h12, .ref h13]), (h4, aQ (k 3) 4 (q4 h18 h19 h20 h21)), (h18, ob 5 [.int h18f0, .int h18f1, .ref h46]), (h19, ob 5 [.int h19f0, .int h19f1, .ref h47]), (h20, ob 5 [.int h20f0, .int h20f1, .ref h48]), (h1, ob 4 [.int h1f0, .int h1f1, .int h1f2, .ref h14]), (h21, ob 5 [.int h21f0, .int h21f1, .ref h49])] _ := hT
              refine lv_if_eq (tgt := 61) hx hb dX10_refusalOfTable_53 (by decide) (fun cc => absurd cc (by decide +kernel)) (fun _ => ?_)
              refine lv_bipush (v := (-12)) hx hb dX10_refusalOfTable_56 (by decide) ?_
              refine lv_goto (tgt := 62) hx hb dX10_refusalOfTable_58 (by decide) ?_
              exact tz_retI (B := B_cX10_refusalOfTable_1b9a2 D k h0 h1 h4 h18 h19 h20 h21 h2 h3 h5 h6 h7 h8 h9 h10 h11 h12 h13 h14 h46 h47 h48 h49 x1 x2 h0f2 h0f6 h0f8 h0f11 h1f0 h1f1 h1f2 h18f0 h18f1 h19f0 h19f1 h20f0 h20f1 h21f0 h21f1) (v := (-12)) hQ hx hb hr hlocks hS (Nat.le_of_ble_eq_true rfl) (Nat.le_of_ble_eq_true rfl) dX10_refusalOfTable_62 (Or.inr (Or.inl ⟨rfl, (hT.sub [0, 5, 1, 2, 3, 4, 6] (by decide) rfl)⟩))
            · skip
              have hT := J _ hT1
              have hT : TP D A [(h0, ob 7 [.ref h1, .ref h2, .int h0f2, .ref h3, .ref h4, .ref h5, .int h0f6, .ref h6, .int h0f8, .ref h7, .ref h8, .int h0f11, .ref h9, .ref h10, .ref h11, .ref h12, .ref h13]), (h4, aQ (k 3) 4 (q4 h18 h19 h20 h21)), (h18, ob 5 [.int h18f0, .int h18f1, .ref h46]), (h19, ob 5 [.int h19f0, .int h19f1, .ref h47]), (h20, ob 5 [.int h20f0, .int h20f1, .ref h48]), (h1, ob 4 [.int h1f0, .int h1f1, .int h1f2, .ref h14]), (h21, ob 5 [.int h21f0, .int h21f1, .ref h49])] _ := hT
              refine lv_if_eq (tgt := 61) hx hb dX10_refusalOfTable_53 (by decide) (fun _ => ?_) (fun cc => absurd (by decide +kernel) cc)
              refine lv_iconst (v := 0) hx hb dX10_refusalOfTable_61 (by decide) ?_
              exact tz_retI (B := B_cX10_refusalOfTable_1b9a2 D k h0 h1 h4 h18 h19 h20 h21 h2 h3 h5 h6 h7 h8 h9 h10 h11 h12 h13 h14 h46 h47 h48 h49 x1 x2 h0f2 h0f6 h0f8 h0f11 h1f0 h1f1 h1f2 h18f0 h18f1 h19f0 h19f1 h20f0 h20f1 h21f0 h21f1) (v := 0) hQ hx hb hr hlocks hS (Nat.le_of_ble_eq_true rfl) (Nat.le_of_ble_eq_true rfl) dX10_refusalOfTable_62 (Or.inr (Or.inr (Or.inr (Or.inr (Or.inr (Or.inr (Or.inr (Or.inr (Or.inr (Or.inr (Or.inr (Or.inr (Or.inr (Or.inr (Or.inl ⟨v87, (by have := li_0; omega), (by have := li_0; omega), (by have := li_0; omega), (by have := li_0; omega), (by have := li_0; omega), (by have := li_0; omega), (by have := li_0; omega), (by have := li_0; omega), (by have := li_0; omega), (by have := li_0; omega), (by have := li_0; omega), (by have := li_0; omega), rfl, (hT.sub [0, 5, 1, 2, 3, 4, 6] (by decide) rfl)⟩)))))))))))))))
          · skip
            have hT := J _ hT1
            have hT : TP D A [(h0, ob 7 [.ref h1, .ref h2, .int h0f2, .ref h3, .ref h4, .ref h5, .int h0f6, .ref h6, .int h0f8, .ref h7, .ref h8, .int h0f11, .ref h9, .ref h10, .ref h11, .ref h12, .ref h13]), (h4, aQ (k 3) 4 (q4 h18 h19 h20 h21)), (h18, ob 5 [.int h18f0, .int h18f1, .ref h46]), (h19, ob 5 [.int h19f0, .int h19f1, .ref h47]), (h20, ob 5 [.int h20f0, .int h20f1, .ref h48]), (h21, ob 5 [.int h21f0, .int h21f1, .ref h49]), (h1, ob 4 [.int h1f0, .int h1f1, .int h1f2, .ref h14])] _ := hT
            refine tcI (Tc := [(h21, ob 5 [.int h21f0, .int h21f1, .ref h49])]) (Tr := [(h0, ob 7 [.ref h1, .ref h2, .int h0f2, .ref h3, .ref h4, .ref h5, .int h0f6, .ref h6, .int h0f8, .ref h7, .ref h8, .int h0f11, .ref h9, .ref h10, .ref h11, .ref h12, .ref h13]), (h4, aQ (k 3) 4 (q4 h18 h19 h20 h21)), (h18, ob 5 [.int h18f0, .int h18f1, .ref h46]), (h19, ob 5 [.int h19f0, .int h19f1, .ref h47]), (h20, ob 5 [.int h20f0, .int h20f1, .ref h48]), (h1, ob 4 [.int h1f0, .int h1f1, .int h1f2, .ref h14])]) (as := [h21]) (zcV (q0 := 5) (ci := 5) (As := [.int x2, .int v90]) (rest := []) (Tc := [(h21, ob 5 [.int h21f0, .int h21f1, .ref h49])]) hx hb hml hown hU hK hT rfl rfl [5] rfl (by decide) (cX6_isOutside_cc85b l D k _ h21 h49 x2 v90 h21f0 h21f1 (by omega) (by omega)) w648 w645 w646 w647 w71 hdX6_isOutside ⟨rfl, rfl⟩ ⟨Nat.le_of_ble_eq_true rfl, Nat.le_of_ble_eq_true rfl⟩ rfl hl.1 (Nat.le_of_ble_eq_true rfl) dX10_refusalOfTable_50 ⟨Nat.le_of_ble_eq_true rfl, Nat.le_of_ble_eq_true rfl⟩) hT hS hA [5] [0, 1, 2, 3, 4, 6] rfl rfl rfl (by decide) (by decide) (fun r101 H locs hB J hS => ?_)
            rcases hB with ⟨rfl, hT1⟩ | ⟨c_102, c_103, c_104, rfl, hT1⟩
            · skip
              have hT := J _ hT1
              have hT : TP D A [(h0, ob 7 [.ref h1, .ref h2, .int h0f2, .ref h3, .ref h4, .ref h5, .int h0f6, .ref h6, .int h0f8, .ref h7, .ref h8, .int h0f11, .ref h9, .ref h10, .ref h11, .ref h12, .ref h13]), (h4, aQ (k 3) 4 (q4 h18 h19 h20 h21)), (h18, ob 5 [.int h18f0, .int h18f1, .ref h46]), (h19, ob 5 [.int h19f0, .int h19f1, .ref h47]), (h20, ob 5 [.int h20f0, .int h20f1, .ref h48]), (h1, ob 4 [.int h1f0, .int h1f1, .int h1f2, .ref h14]), (h21, ob 5 [.int h21f0, .int h21f1, .ref h49])] _ := hT
              refine lv_if_eq (tgt := 61) hx hb dX10_refusalOfTable_53 (by decide) (fun cc => absurd cc (by decide +kernel)) (fun _ => ?_)
              refine lv_bipush (v := (-12)) hx hb dX10_refusalOfTable_56 (by decide) ?_
              refine lv_goto (tgt := 62) hx hb dX10_refusalOfTable_58 (by decide) ?_
              exact tz_retI (B := B_cX10_refusalOfTable_1b9a2 D k h0 h1 h4 h18 h19 h20 h21 h2 h3 h5 h6 h7 h8 h9 h10 h11 h12 h13 h14 h46 h47 h48 h49 x1 x2 h0f2 h0f6 h0f8 h0f11 h1f0 h1f1 h1f2 h18f0 h18f1 h19f0 h19f1 h20f0 h20f1 h21f0 h21f1) (v := (-12)) hQ hx hb hr hlocks hS (Nat.le_of_ble_eq_true rfl) (Nat.le_of_ble_eq_true rfl) dX10_refusalOfTable_62 (Or.inr (Or.inl ⟨rfl, (hT.sub [0, 5, 1, 2, 3, 4, 6] (by decide) rfl)⟩))
            · skip
              have hT := J _ hT1
              have hT : TP D A [(h0, ob 7 [.ref h1, .ref h2, .int h0f2, .ref h3, .ref h4, .ref h5, .int h0f6, .ref h6, .int h0f8, .ref h7, .ref h8, .int h0f11, .ref h9, .ref h10, .ref h11, .ref h12, .ref h13]), (h4, aQ (k 3) 4 (q4 h18 h19 h20 h21)), (h18, ob 5 [.int h18f0, .int h18f1, .ref h46]), (h19, ob 5 [.int h19f0, .int h19f1, .ref h47]), (h20, ob 5 [.int h20f0, .int h20f1, .ref h48]), (h1, ob 4 [.int h1f0, .int h1f1, .int h1f2, .ref h14]), (h21, ob 5 [.int h21f0, .int h21f1, .ref h49])] _ := hT
              refine lv_if_eq (tgt := 61) hx hb dX10_refusalOfTable_53 (by decide) (fun _ => ?_) (fun cc => absurd (by decide +kernel) cc)
              refine lv_iconst (v := 0) hx hb dX10_refusalOfTable_61 (by decide) ?_
              exact tz_retI (B := B_cX10_refusalOfTable_1b9a2 D k h0 h1 h4 h18 h19 h20 h21 h2 h3 h5 h6 h7 h8 h9 h10 h11 h12 h13 h14 h46 h47 h48 h49 x1 x2 h0f2 h0f6 h0f8 h0f11 h1f0 h1f1 h1f2 h18f0 h18f1 h19f0 h19f1 h20f0 h20f1 h21f0 h21f1) (v := 0) hQ hx hb hr hlocks hS (Nat.le_of_ble_eq_true rfl) (Nat.le_of_ble_eq_true rfl) dX10_refusalOfTable_62 (Or.inr (Or.inr (Or.inr (Or.inr (Or.inr (Or.inr (Or.inr (Or.inr (Or.inr (Or.inr (Or.inr (Or.inr (Or.inr (Or.inr (Or.inr (⟨v90, (by have := li_0; omega), (by have := li_0; omega), (by have := li_0; omega), (by have := li_0; omega), (by have := li_0; omega), (by have := li_0; omega), (by have := li_0; omega), (by have := li_0; omega), (by have := li_0; omega), (by have := li_0; omega), (by have := li_0; omega), (by have := li_0; omega), rfl, (hT.sub [0, 5, 1, 2, 3, 4, 6] (by decide) rfl)⟩))))))))))))))))
        · skip
          have c_82 := ni_nle c_82 rfl li_0
          refine lv_bipush (v := (-13)) hx hb dX10_refusalOfTable_37 (by decide) ?_
          exact tz_retI (B := B_cX10_refusalOfTable_1b9a2 D k h0 h1 h4 h18 h19 h20 h21 h2 h3 h5 h6 h7 h8 h9 h10 h11 h12 h13 h14 h46 h47 h48 h49 x1 x2 h0f2 h0f6 h0f8 h0f11 h1f0 h1f1 h1f2 h18f0 h18f1 h19f0 h19f1 h20f0 h20f1 h21f0 h21f1) (v := (-13)) hQ hx hb hr hlocks hS (Nat.le_of_ble_eq_true rfl) (Nat.le_of_ble_eq_true rfl) dX10_refusalOfTable_39 (Or.inr (Or.inr (Or.inr (Or.inr (Or.inr (Or.inl ⟨rfl, hT⟩))))))
      · skip
        have hT := J _ hT1
        have hT : TP D A [(h0, ob 7 [.ref h1, .ref h2, .int h0f2, .ref h3, .ref h4, .ref h5, .int h0f6, .ref h6, .int h0f8, .ref h7, .ref h8, .int h0f11, .ref h9, .ref h10, .ref h11, .ref h12, .ref h13]), (h1, ob 4 [.int h1f0, .int h1f1, .int h1f2, .ref h14]), (h4, aQ (k 3) 4 (q4 h18 h19 h20 h21)), (h18, ob 5 [.int h18f0, .int h18f1, .ref h46]), (h19, ob 5 [.int h19f0, .int h19f1, .ref h47]), (h20, ob 5 [.int h20f0, .int h20f1, .ref h48]), (h21, ob 5 [.int h21f0, .int h21f1, .ref h49])] _ := hT
        refine lv_if_eq (tgt := 28) hx hb dX10_refusalOfTable_22 (by decide) (fun cc => absurd cc (by decide +kernel)) (fun _ => ?_)
        refine lv_bipush (v := (-11)) hx hb dX10_refusalOfTable_25 (by decide) ?_
        exact tz_retI (B := B_cX10_refusalOfTable_1b9a2 D k h0 h1 h4 h18 h19 h20 h21 h2 h3 h5 h6 h7 h8 h9 h10 h11 h12 h13 h14 h46 h47 h48 h49 x1 x2 h0f2 h0f6 h0f8 h0f11 h1f0 h1f1 h1f2 h18f0 h18f1 h19f0 h19f1 h20f0 h20f1 h21f0 h21f1) (v := (-11)) hQ hx hb hr hlocks hS (Nat.le_of_ble_eq_true rfl) (Nat.le_of_ble_eq_true rfl) dX10_refusalOfTable_27 (Or.inr (Or.inr (Or.inr (Or.inr (Or.inr (Or.inr (Or.inl ⟨rfl, hT⟩)))))))
abbrev Rm_cX10_isPositiveForm_ec5e0 : Room := { frames := 2, cells := 0, slots := 0, locals := 54 }
abbrev B_cX10_isPositiveForm_ec5e0 (D : va_G) (k : Nat → ClassId) (h0 h1 h12 h13 h2 h3 h4 h5 h6 h7 h8 h9 h10 h11 h14 : Nat) (h0f2 : Int32) (h0f6 : Int32) (h0f8 : Int32) (h0f11 : Int32) (h1f0 : Int32) (h1f1 : Int32) (h1f2 : Int32) (A : Nat → Prop) (r : Int32) (H : Heap) : Prop := (0 ≤ r.toInt ∧ r.toInt ≤ 1) ∧ TP D A [(h0, ob 7 [.ref h1, .ref h2, .int h0f2, .ref h3, .ref h4, .ref h5, .int h0f6, .ref h6, .int h0f8, .ref h7, .ref h8, .int h0f11, .ref h9, .ref h10, .ref h11, .ref h12, .ref h13]), (h1, ob 4 [.int h1f0, .int h1f1, .int h1f2, .ref h14]), (h12, aJ (k 1) 9 anJ), (h13, aJ (k 1) 9 anJ)] H
set_option maxHeartbeats 4000000 in
set_option maxRecDepth 100000 in
theorem cX10_isPositiveForm_ec5e0 (l : Launch) (D : va_G) (k : Nat → ClassId) (sz : Nat) (h0 h1 h12 h13 h2 h3 h4 h5 h6 h7 h8 h9 h10 h11 h14 : Nat) (h0f2 : Int32) (h0f6 : Int32) (h0f8 : Int32) (h0f11 : Int32) (h1f0 : Int32) (h1f1 : Int32) (h1f2 : Int32) (b_h0f2 : 0 ≤ h0f2.toInt ∧ h0f2.toInt ≤ 1) (b_h0f6 : 0 ≤ h0f6.toInt ∧ h0f6.toInt ≤ 1) (b_h0f8 : 0 ≤ h0f8.toInt ∧ h0f8.toInt ≤ 1) (b_h0f11 : 0 ≤ h0f11.toInt ∧ h0f11.toInt ≤ 200) (b_h1f0 : 1 ≤ h1f0.toInt ∧ h1f0.toInt ≤ 3) (b_h1f1 : 0 ≤ h1f1.toInt ∧ h1f1.toInt ≤ 4) : Met l yX10_isPositiveForm (Cond.code yX10_isPositiveForm cX10_isPositiveForm 2 (some .boolean) :: uw) Rm_cX10_isPositiveForm_ec5e0 (pT D k sz [.ref h0] [(h0, ob 7 [.ref h1, .ref h2, .int h0f2, .ref h3, .ref h4, .ref h5, .int h0f6, .ref h6, .int h0f8, .ref h7, .ref h8, .int h0f11, .ref h9, .ref h10, .ref h11, .ref h12, .ref h13]), (h1, ob 4 [.int h1f0, .int h1f1, .int h1f2, .ref h14]), (h12, aJ (k 1) 9 anJ), (h13, aJ (k 1) 9 anJ)]) (qI (B_cX10_isPositiveForm_ec5e0 D k h0 h1 h12 h13 h2 h3 h4 h5 h6 h7 h8 h9 h10 h11 h14 h0f2 h0f6 h0f8 h0f11 h1f0 h1f1 h1f2 (zA [h0, h1, h12, h13] sz)) (zA [h0, h1, h12, h13] sz)) 0 0 (zA [h0, h1, h12, h13] sz) := by
  refine tz_begin (as := [h0, h1, h12, h13]) (Qc := fun A => qI (B_cX10_isPositiveForm_ec5e0 D k h0 h1 h12 h13 h2 h3 h4 h5 h6 h7 h8 h9 h10 h11 h14 h0f2 h0f6 h0f8 h0f11 h1f0 h1f1 h1f2 A) A) (by decide +kernel) rfl (Nat.le_of_ble_eq_true rfl) ?_
  intro p e s m args below meth c ls A Q hx hb hr hml hown hlocks hin hU hK hT hS hA hl hQ
  have hl : lv_has ls 2 [(0, .ref h0)] := hl
  have hT : TP D A [(h0, ob 7 [.ref h1, .ref h2, .int h0f2, .ref h3, .ref h4, .ref h5, .int h0f6, .ref h6, .int h0f8, .ref h7, .ref h8, .int h0f11, .ref h9, .ref h10, .ref h11, .ref h12, .ref h13]), (h1, ob 4 [.int h1f0, .int h1f1, .int h1f2, .ref h14]), (h12, aJ (k 1) 9 anJ), (h13, aJ (k 1) 9 anJ)] s.heap := hT
  refine lv_aload_n hx hb dX10_isPositiveForm_0 rfl (lv_at hl 0 rfl) ?_
  refine tz_get (ci := 7) (v := .ref h12) (C := RX10) (F := TX10) (N := 17) hx hb hU iX10 hown hK hT 0 rfl rfl 15 (by decide) w264 (fun _ h9 => h9) rfl dX10_isPositiveForm_1 ?_
  refine lv_iconst (v := 0) hx hb dX10_isPositiveForm_4 (by decide) ?_
  refine lv_aload_n hx hb dX10_isPositiveForm_5 rfl (lv_at hl 0 rfl) ?_
  refine tz_get (ci := 7) (v := .ref h13) (C := RX10) (F := TX10) (N := 17) hx hb hU iX10 hown hK hT 0 rfl rfl 16 (by decide) w265 (fun _ h9 => h9) rfl dX10_isPositiveForm_6 ?_
  refine lv_aload_n hx hb dX10_isPositiveForm_9 rfl (lv_at hl 0 rfl) ?_
  refine tz_get (ci := 7) (v := .ref h1) (C := RX10) (F := TX10) (N := 17) hx hb hU iX10 hown hK hT 0 rfl rfl 0 (by decide) w249 (fun _ h9 => h9) rfl dX10_isPositiveForm_10 ?_
  refine tz_get (ci := 4) (v := .int h1f0) (C := RX5) (F := TX5) (N := 4) hx hb hU iX5 hown hK hT 1 rfl rfl 0 (by decide) w93 (fun _ h9 => h9) rfl dX10_isPositiveForm_13 ?_
  have q_q2 := li_0
  refine tcV (Tc := [(h12, aJ (k 1) 9 anJ), (h13, aJ (k 1) 9 anJ)]) (Tr := [(h0, ob 7 [.ref h1, .ref h2, .int h0f2, .ref h3, .ref h4, .ref h5, .int h0f6, .ref h6, .int h0f8, .ref h7, .ref h8, .int h0f11, .ref h9, .ref h10, .ref h11, .ref h12, .ref h13]), (h1, ob 4 [.int h1f0, .int h1f1, .int h1f2, .ref h14])]) (as := [h12, h13]) (zcS (As := [.ref h12, .int 0, .ref h13, .int h1f0]) (rest := []) (Tc := [(h12, aJ (k 1) 9 anJ), (h13, aJ (k 1) 9 anJ)]) hx hb hml hown hU hK hT [2, 3] rfl (by decide) (cX7_turn_4a21f l D k _ h12 h13 (0) h1f0 (by have := li_0; omega) (by omega)) w378 w376 w377 w74 hdX7_turn ⟨rfl, rfl⟩ ⟨Nat.le_of_ble_eq_true rfl, Nat.le_of_ble_eq_true rfl⟩ rfl hl.1 (Nat.le_of_ble_eq_true rfl) dX10_isPositiveForm_16 ⟨Nat.le_of_ble_eq_true rfl, Nat.le_of_ble_eq_true rfl⟩) hT hS hA [2, 3] [0, 1] rfl rfl rfl (by decide) (by decide) (fun H locs hB J hS => ?_)
  have hT1 := hB
  have hT := J _ hT1
  have hT : TP D A [(h0, ob 7 [.ref h1, .ref h2, .int h0f2, .ref h3, .ref h4, .ref h5, .int h0f6, .ref h6, .int h0f8, .ref h7, .ref h8, .int h0f11, .ref h9, .ref h10, .ref h11, .ref h12, .ref h13]), (h1, ob 4 [.int h1f0, .int h1f1, .int h1f2, .ref h14]), (h12, aJ (k 1) 9 anJ), (h13, aJ (k 1) 9 anJ)] _ := hT
  refine lv_aload_n hx hb dX10_isPositiveForm_19 rfl (lv_at hl 0 rfl) ?_
  refine tz_get (ci := 7) (v := .ref h12) (C := RX10) (F := TX10) (N := 17) hx hb hU iX10 hown hK hT 0 rfl rfl 15 (by decide) w264 (fun _ h9 => h9) rfl dX10_isPositiveForm_20 ?_
  refine lv_aload_n hx hb dX10_isPositiveForm_23 rfl (lv_at hl 0 rfl) ?_
  refine tz_get (ci := 7) (v := .ref h13) (C := RX10) (F := TX10) (N := 17) hx hb hU iX10 hown hK hT 0 rfl rfl 16 (by decide) w265 (fun _ h9 => h9) rfl dX10_isPositiveForm_24 ?_
  refine lv_aload_n hx hb dX10_isPositiveForm_27 rfl (lv_at hl 0 rfl) ?_
  refine tz_get (ci := 7) (v := .ref h1) (C := RX10) (F := TX10) (N := 17) hx hb hU iX10 hown hK hT 0 rfl rfl 0 (by decide) w249 (fun _ h9 => h9) rfl dX10_isPositiveForm_28 ?_
  refine tcI (Tc := [(h1, ob 4 [.int h1f0, .int h1f1, .int h1f2, .ref h14])]) (Tr := [(h0, ob 7 [.ref h1, .ref h2, .int h0f2, .ref h3, .ref h4, .ref h5, .int h0f6, .ref h6, .int h0f8, .ref h7, .ref h8, .int h0f11, .ref h9, .ref h10, .ref h11, .ref h12, .ref h13]), (h12, aJ (k 1) 9 anJ), (h13, aJ (k 1) 9 anJ)]) (as := [h1]) (zcV (q0 := 1) (ci := 4) (As := []) (rest := [.ref h13, .ref h12]) (Tc := [(h1, ob 4 [.int h1f0, .int h1f1, .int h1f2, .ref h14])]) hx hb hml hown hU hK hT rfl rfl [1] rfl (by decide) (cX5_cellCount_642c9 l D k _ h1 h14 h1f0 h1f1 h1f2 (by omega) (by omega)) w385 w382 w383 w384 w64 hdX5_cellCount ⟨rfl, rfl⟩ ⟨Nat.le_of_ble_eq_true rfl, Nat.le_of_ble_eq_true rfl⟩ rfl hl.1 (Nat.le_of_ble_eq_true rfl) dX10_isPositiveForm_31 ⟨Nat.le_of_ble_eq_true rfl, Nat.le_of_ble_eq_true rfl⟩) hT hS hA [1] [0, 2, 3] rfl rfl rfl (by decide) (by decide) (fun r3 H locs hB J hS => ?_)
  obtain ⟨b_r3, hT1⟩ := hB
  have hT := J _ hT1
  have hT : TP D A [(h0, ob 7 [.ref h1, .ref h2, .int h0f2, .ref h3, .ref h4, .ref h5, .int h0f6, .ref h6, .int h0f8, .ref h7, .ref h8, .int h0f11, .ref h9, .ref h10, .ref h11, .ref h12, .ref h13]), (h12, aJ (k 1) 9 anJ), (h13, aJ (k 1) 9 anJ), (h1, ob 4 [.int h1f0, .int h1f1, .int h1f2, .ref h14])] _ := hT
  refine tcI (Tc := [(h12, aJ (k 1) 9 anJ), (h13, aJ (k 1) 9 anJ)]) (Tr := [(h0, ob 7 [.ref h1, .ref h2, .int h0f2, .ref h3, .ref h4, .ref h5, .int h0f6, .ref h6, .int h0f8, .ref h7, .ref h8, .int h0f11, .ref h9, .ref h10, .ref h11, .ref h12, .ref h13]), (h1, ob 4 [.int h1f0, .int h1f1, .int h1f2, .ref h14])]) (as := [h12, h13]) (zcS (As := [.ref h12, .ref h13, .int r3]) (rest := []) (Tc := [(h12, aJ (k 1) 9 anJ), (h13, aJ (k 1) 9 anJ)]) hx hb hml hown hU hK hT [1, 2] rfl (by decide) (cX7_areAlike_339bc l D k _ h12 h13 r3 (by omega)) w608 w606 w607 w74 hdX7_areAlike ⟨rfl, rfl⟩ ⟨Nat.le_of_ble_eq_true rfl, Nat.le_of_ble_eq_true rfl⟩ rfl hl.1 (Nat.le_of_ble_eq_true rfl) dX10_isPositiveForm_34 ⟨Nat.le_of_ble_eq_true rfl, Nat.le_of_ble_eq_true rfl⟩) hT hS hA [1, 2] [0, 3] rfl rfl rfl (by decide) (by decide) (fun r4 H locs hB J hS => ?_)
  obtain ⟨b_r4, hT1⟩ := hB
  have hT := J _ hT1
  have hT : TP D A [(h0, ob 7 [.ref h1, .ref h2, .int h0f2, .ref h3, .ref h4, .ref h5, .int h0f6, .ref h6, .int h0f8, .ref h7, .ref h8, .int h0f11, .ref h9, .ref h10, .ref h11, .ref h12, .ref h13]), (h1, ob 4 [.int h1f0, .int h1f1, .int h1f2, .ref h14]), (h12, aJ (k 1) 9 anJ), (h13, aJ (k 1) 9 anJ)] _ := hT
  refine lv_if_ne (tgt := 42) hx hb dX10_isPositiveForm_37 (by decide) (fun c_5 => ?_) (fun c_5 => ?_)
  · skip
    have c_5 := ni_ne c_5 rfl li_0
    refine lv_iconst (v := 1) hx hb dX10_isPositiveForm_42 (by decide) ?_
    refine lv_istore_n (lv' := [(1, .int 1), (0, .ref h0)]) hx hb dX10_isPositiveForm_43 rfl hl (by decide) rfl (fun ls hl => ?_)
    have lp44_9 : ∀ (n : Nat) (y8 : Int32) (H : Heap) (locs : List Loc) (ls : Array Slot), (1 ≤ y8.toInt ∧ y8.toInt ≤ 4) → (h1f0.toInt + (-1) * y8.toInt + 1).toNat < n → TP D A [(h0, ob 7 [.ref h1, .ref h2, .int h0f2, .ref h3, .ref h4, .ref h5, .int h0f6, .ref h6, .int h0f8, .ref h7, .ref h8, .int h0f11, .ref h9, .ref h10, .ref h11, .ref h12, .ref h13]), (h1, ob 4 [.int h1f0, .int h1f1, .int h1f2, .ref h14]), (h12, aJ (k 1) 9 anJ), (h13, aJ (k 1) 9 anJ)] H → va_S A s.heap H locs → lv_has ls 2 [(0, .ref h0), (1, .int y8)] → W p l e Rm_cX10_isPositiveForm_ec5e0 s m args below meth c H locs 0 0 Q (F0 m 44 ls []) := by
      intro n
      induction n with
      | zero => intro y8 H locs ls b_y8 hm hT hS hl; exact absurd hm (Nat.not_lt_zero _)
      | succ n ih =>
        intro y8 H locs ls b_y8 hm hT hS hl
        have ih44_9 := ih
        clear ih
        refine lv_iload_n hx hb dX10_isPositiveForm_44 rfl (lv_at hl 1 rfl) ?_
        refine lv_aload_n hx hb dX10_isPositiveForm_45 rfl (lv_at hl 0 rfl) ?_
        refine tz_get (ci := 7) (v := .ref h1) (C := RX10) (F := TX10) (N := 17) hx hb hU iX10 hown hK hT 0 rfl rfl 0 (by decide) w249 (fun _ h9 => h9) rfl dX10_isPositiveForm_46 ?_
        refine tz_get (ci := 4) (v := .int h1f0) (C := RX5) (F := TX5) (N := 4) hx hb hU iX5 hown hK hT 1 rfl rfl 0 (by decide) w93 (fun _ h9 => h9) rfl dX10_isPositiveForm_49 ?_
        refine lv_icmp_gt (tgt := 84) hx hb dX10_isPositiveForm_52 (by decide) (fun c_10 => ?_) (fun c_10 => ?_)
        · skip
          have c_10 := ni_lt c_10 rfl rfl
          refine lv_iconst (v := 1) hx hb dX10_isPositiveForm_84 (by decide) ?_
          exact tz_retZ (B := B_cX10_isPositiveForm_ec5e0 D k h0 h1 h12 h13 h2 h3 h4 h5 h6 h7 h8 h9 h10 h11 h14 h0f2 h0f6 h0f8 h0f11 h1f0 h1f1 h1f2) (v := 1) hQ hx hb hr hlocks hS (Nat.le_of_ble_eq_true rfl) (Nat.le_of_ble_eq_true rfl) dX10_isPositiveForm_85 (by have := li_1; omega) (⟨(by have := li_1; omega), hT⟩)
        · skip
          have c_10 := ni_nlt c_10 rfl rfl
          refine lv_aload_n hx hb dX10_isPositiveForm_55 rfl (lv_at hl 0 rfl) ?_
          refine tz_get (ci := 7) (v := .ref h12) (C := RX10) (F := TX10) (N := 17) hx hb hU iX10 hown hK hT 0 rfl rfl 15 (by decide) w264 (fun _ h9 => h9) rfl dX10_isPositiveForm_56 ?_
          refine lv_iconst (v := 0) hx hb dX10_isPositiveForm_59 (by decide) ?_
          refine lv_aload_n hx hb dX10_isPositiveForm_60 rfl (lv_at hl 0 rfl) ?_
          refine tz_get (ci := 7) (v := .ref h1) (C := RX10) (F := TX10) (N := 17) hx hb hU iX10 hown hK hT 0 rfl rfl 0 (by decide) w249 (fun _ h9 => h9) rfl dX10_isPositiveForm_61 ?_
          refine tz_get (ci := 4) (v := .int h1f0) (C := RX5) (F := TX5) (N := 4) hx hb hU iX5 hown hK hT 1 rfl rfl 0 (by decide) w93 (fun _ h9 => h9) rfl dX10_isPositiveForm_64 ?_
          refine lv_iload_n hx hb dX10_isPositiveForm_67 rfl (lv_at hl 1 rfl) ?_
          refine tcL (Tc := [(h12, aJ (k 1) 9 anJ)]) (Tr := [(h0, ob 7 [.ref h1, .ref h2, .int h0f2, .ref h3, .ref h4, .ref h5, .int h0f6, .ref h6, .int h0f8, .ref h7, .ref h8, .int h0f11, .ref h9, .ref h10, .ref h11, .ref h12, .ref h13]), (h1, ob 4 [.int h1f0, .int h1f1, .int h1f2, .ref h14]), (h13, aJ (k 1) 9 anJ)]) (as := [h12]) (zcS (As := [.ref h12, .int 0, .int h1f0, .int y8]) (rest := []) (Tc := [(h12, aJ (k 1) 9 anJ)]) hx hb hml hown hU hK hT [2] rfl (by decide) (cX7_determinant_a44b2 l D k _ h12 h1f0 y8 (by omega) (by omega)) w372 w402 w371 w74 hdX7_determinant ⟨rfl, rfl⟩ ⟨Nat.le_of_ble_eq_true rfl, Nat.le_of_ble_eq_true rfl⟩ rfl hl.1 (Nat.le_of_ble_eq_true rfl) dX10_isPositiveForm_68 ⟨Nat.le_of_ble_eq_true rfl, Nat.le_of_ble_eq_true rfl⟩) hT hS hA [2] [0, 1, 3] rfl rfl rfl (by decide) (by decide) (fun r11 H locs hB J hS => ?_)
          have hT1 := hB
          have hT := J _ hT1
          have hT : TP D A [(h0, ob 7 [.ref h1, .ref h2, .int h0f2, .ref h3, .ref h4, .ref h5, .int h0f6, .ref h6, .int h0f8, .ref h7, .ref h8, .int h0f11, .ref h9, .ref h10, .ref h11, .ref h12, .ref h13]), (h1, ob 4 [.int h1f0, .int h1f1, .int h1f2, .ref h14]), (h13, aJ (k 1) 9 anJ), (h12, aJ (k 1) 9 anJ)] _ := hT
          refine lv_lconst (v := 0) hx hb dX10_isPositiveForm_71 (by decide) ?_
          refine W.lcmp hx hb dX10_isPositiveForm_72 ?_
          refine lv_if_gt (tgt := 78) hx hb dX10_isPositiveForm_73 (by decide) (fun c_12 => ?_) (fun c_12 => ?_)
          · skip
            have c_12 := nl_gt c_12 rfl ll_0
            obtain ⟨v13, e_v13⟩ : ∃ x : Int32, x = y8 + Int32.ofInt 1 := ⟨_, rfl⟩
            have f_v13 := e_v13.symm
            have e_v13 : v13.toInt = y8.toInt + 1 := ai_add e_v13 rfl (show (Int32.ofInt 1).toInt = 1 from (by decide +kernel)) (by omega)
            refine lv_iinc (v := v13) (lv' := [(1, .int v13), (0, .ref h0)]) hx hb dX10_isPositiveForm_78 hl (k := 1) rfl f_v13 (by decide) rfl (fun ls hl => ?_)
            refine lv_goto (tgt := 44) hx hb dX10_isPositiveForm_81 (by decide) ?_
            exact ih44_9 v13 _ _ _ (by omega)  (by omega) (hT.sub [0, 1, 3, 2] (by decide) rfl) hS (lv_sub hl [1, 0] rfl)
          · skip
            have c_12 := nl_ngt c_12 rfl ll_0
            refine lv_iconst (v := 0) hx hb dX10_isPositiveForm_76 (by decide) ?_
            exact tz_retZ (B := B_cX10_isPositiveForm_ec5e0 D k h0 h1 h12 h13 h2 h3 h4 h5 h6 h7 h8 h9 h10 h11 h14 h0f2 h0f6 h0f8 h0f11 h1f0 h1f1 h1f2) (v := 0) hQ hx hb hr hlocks hS (Nat.le_of_ble_eq_true rfl) (Nat.le_of_ble_eq_true rfl) dX10_isPositiveForm_77 (by have := li_0; omega) (⟨(by have := li_0; omega), (hT.sub [0, 1, 3, 2] (by decide) rfl)⟩)
    exact lp44_9 ((h1f0.toInt + (-1) * (1 : Int32).toInt + 1).toNat + 1) (1) _ _ _ (by have := li_1; omega)  (Nat.lt_succ_self _) hT hS (lv_sub hl [1, 0] rfl)
  · skip
    have c_5 := ni_eq c_5 rfl li_0
    refine lv_iconst (v := 0) hx hb dX10_isPositiveForm_40 (by decide) ?_
    exact tz_retZ (B := B_cX10_isPositiveForm_ec5e0 D k h0 h1 h12 h13 h2 h3 h4 h5 h6 h7 h8 h9 h10 h11 h14 h0f2 h0f6 h0f8 h0f11 h1f0 h1f1 h1f2) (v := 0) hQ hx hb hr hlocks hS (Nat.le_of_ble_eq_true rfl) (Nat.le_of_ble_eq_true rfl) dX10_isPositiveForm_41 (by have := li_0; omega) (⟨(by have := li_0; omega), hT⟩)
abbrev Rm_cX10_noGeneratorChangesForm_03344 : Room := { frames := 2, cells := 1, slots := 9, locals := 56 }
abbrev B_cX10_noGeneratorChangesForm_03344 (D : va_G) (k : Nat → ClassId) (h0 h1 h12 h13 h14 h2 h3 h4 h5 h6 h7 h8 h9 h10 h11 : Nat) (h0f2 : Int32) (h0f6 : Int32) (h0f8 : Int32) (h0f11 : Int32) (h1f0 : Int32) (h1f1 : Int32) (h1f2 : Int32) (A : Nat → Prop) (r : Int32) (H : Heap) : Prop := (0 ≤ r.toInt ∧ r.toInt ≤ 1) ∧ TP D A [(h0, ob 7 [.ref h1, .ref h2, .int h0f2, .ref h3, .ref h4, .ref h5, .int h0f6, .ref h6, .int h0f8, .ref h7, .ref h8, .int h0f11, .ref h9, .ref h10, .ref h11, .ref h12, .ref h13]), (h1, ob 4 [.int h1f0, .int h1f1, .int h1f2, .ref h14]), (h12, aJ (k 1) 9 anJ), (h13, aJ (k 1) 9 anJ), (h14, aJ (k 1) 36 anJ)] H
set_option maxHeartbeats 4000000 in
set_option maxRecDepth 100000 in
theorem cX10_noGeneratorChangesForm_03344 (l : Launch) (D : va_G) (k : Nat → ClassId) (sz : Nat) (h0 h1 h12 h13 h14 h2 h3 h4 h5 h6 h7 h8 h9 h10 h11 : Nat) (h0f2 : Int32) (h0f6 : Int32) (h0f8 : Int32) (h0f11 : Int32) (h1f0 : Int32) (h1f1 : Int32) (h1f2 : Int32) (b_h0f2 : 0 ≤ h0f2.toInt ∧ h0f2.toInt ≤ 1) (b_h0f6 : 0 ≤ h0f6.toInt ∧ h0f6.toInt ≤ 1) (b_h0f8 : 0 ≤ h0f8.toInt ∧ h0f8.toInt ≤ 1) (b_h0f11 : 0 ≤ h0f11.toInt ∧ h0f11.toInt ≤ 200) (b_h1f0 : 1 ≤ h1f0.toInt ∧ h1f0.toInt ≤ 3) (b_h1f1 : 0 ≤ h1f1.toInt ∧ h1f1.toInt ≤ 4) : Met l yX10_noGeneratorChangesForm (Cond.code yX10_noGeneratorChangesForm cX10_noGeneratorChangesForm 3 (some .boolean) :: uw) Rm_cX10_noGeneratorChangesForm_03344 (pT D k sz [.ref h0] [(h0, ob 7 [.ref h1, .ref h2, .int h0f2, .ref h3, .ref h4, .ref h5, .int h0f6, .ref h6, .int h0f8, .ref h7, .ref h8, .int h0f11, .ref h9, .ref h10, .ref h11, .ref h12, .ref h13]), (h1, ob 4 [.int h1f0, .int h1f1, .int h1f2, .ref h14]), (h12, aJ (k 1) 9 anJ), (h13, aJ (k 1) 9 anJ), (h14, aJ (k 1) 36 anJ)]) (qI (B_cX10_noGeneratorChangesForm_03344 D k h0 h1 h12 h13 h14 h2 h3 h4 h5 h6 h7 h8 h9 h10 h11 h0f2 h0f6 h0f8 h0f11 h1f0 h1f1 h1f2 (zA [h0, h1, h12, h13, h14] sz)) (zA [h0, h1, h12, h13, h14] sz)) 1 9 (zA [h0, h1, h12, h13, h14] sz) := by
  refine tz_begin (as := [h0, h1, h12, h13, h14]) (Qc := fun A => qI (B_cX10_noGeneratorChangesForm_03344 D k h0 h1 h12 h13 h14 h2 h3 h4 h5 h6 h7 h8 h9 h10 h11 h0f2 h0f6 h0f8 h0f11 h1f0 h1f1 h1f2 A) A) (by decide +kernel) rfl (Nat.le_of_ble_eq_true rfl) ?_
  intro p e s m args below meth c ls A Q hx hb hr hml hown hlocks hin hU hK hT hS hA hl hQ
  have hl : lv_has ls 3 [(0, .ref h0)] := hl
  have hT : TP D A [(h0, ob 7 [.ref h1, .ref h2, .int h0f2, .ref h3, .ref h4, .ref h5, .int h0f6, .ref h6, .int h0f8, .ref h7, .ref h8, .int h0f11, .ref h9, .ref h10, .ref h11, .ref h12, .ref h13]), (h1, ob 4 [.int h1f0, .int h1f1, .int h1f2, .ref h14]), (h12, aJ (k 1) 9 anJ), (h13, aJ (k 1) 9 anJ), (h14, aJ (k 1) 36 anJ)] s.heap := hT
  refine lv_bipush (v := 9) hx hb dX10_noGeneratorChangesForm_0 (by decide) ?_
  refine tz_nal (N := 9) hx hb hU w113 hK hT hS hA (by decide +kernel) (by decide +kernel) (Nat.le_of_ble_eq_true rfl) (Nat.le_of_ble_eq_true rfl) (Nat.le_of_ble_eq_true rfl) dX10_noGeneratorChangesForm_2 (fun q1 H hT hS => ?_)
  have hT : TP D A [(h0, ob 7 [.ref h1, .ref h2, .int h0f2, .ref h3, .ref h4, .ref h5, .int h0f6, .ref h6, .int h0f8, .ref h7, .ref h8, .int h0f11, .ref h9, .ref h10, .ref h11, .ref h12, .ref h13]), (h1, ob 4 [.int h1f0, .int h1f1, .int h1f2, .ref h14]), (h12, aJ (k 1) 9 anJ), (h13, aJ (k 1) 9 anJ), (h14, aJ (k 1) 36 anJ), (q1, aJ (k 1) 9 anJ)] _ := hT
  refine lv_astore_n (lv' := [(1, .ref q1), (0, .ref h0)]) hx hb dX10_noGeneratorChangesForm_4 rfl hl (by decide) rfl (fun ls hl => ?_)
  refine lv_iconst (v := 0) hx hb dX10_noGeneratorChangesForm_5 (by decide) ?_
  refine lv_istore_n (lv' := [(2, .int 0), (1, .ref q1), (0, .ref h0)]) hx hb dX10_noGeneratorChangesForm_6 rfl hl (by decide) rfl (fun ls hl => ?_)
  have lp7_6 : ∀ (n : Nat) (y5 : Int32) (H : Heap) (locs : List Loc) (ls : Array Slot), (0 ≤ y5.toInt ∧ y5.toInt ≤ 4) → (h1f1.toInt + (-1) * y5.toInt + 1).toNat < n → TP D A [(h0, ob 7 [.ref h1, .ref h2, .int h0f2, .ref h3, .ref h4, .ref h5, .int h0f6, .ref h6, .int h0f8, .ref h7, .ref h8, .int h0f11, .ref h9, .ref h10, .ref h11, .ref h12, .ref h13]), (h1, ob 4 [.int h1f0, .int h1f1, .int h1f2, .ref h14]), (h12, aJ (k 1) 9 anJ), (h13, aJ (k 1) 9 anJ), (h14, aJ (k 1) 36 anJ), (q1, aJ (k 1) 9 anJ)] H → va_S A s.heap H locs → lv_has ls 3 [(0, .ref h0), (1, .ref q1), (2, .int y5)] → W p l e Rm_cX10_noGeneratorChangesForm_03344 s m args below meth c H locs 1 9 Q (F0 m 7 ls []) := by
    intro n
    induction n with
    | zero => intro y5 H locs ls b_y5 hm hT hS hl; exact absurd hm (Nat.not_lt_zero _)
    | succ n ih =>
      intro y5 H locs ls b_y5 hm hT hS hl
      have ih7_6 := ih
      clear ih
      refine lv_iload_n hx hb dX10_noGeneratorChangesForm_7 rfl (lv_at hl 2 rfl) ?_
      refine lv_aload_n hx hb dX10_noGeneratorChangesForm_8 rfl (lv_at hl 0 rfl) ?_
      refine tz_get (ci := 7) (v := .ref h1) (C := RX10) (F := TX10) (N := 17) hx hb hU iX10 hown hK hT 0 rfl rfl 0 (by decide) w249 (fun _ h9 => h9) rfl dX10_noGeneratorChangesForm_9 ?_
      refine tz_get (ci := 4) (v := .int h1f1) (C := RX5) (F := TX5) (N := 4) hx hb hU iX5 hown hK hT 1 rfl rfl 1 (by decide) w97 (fun _ h9 => h9) rfl dX10_noGeneratorChangesForm_12 ?_
      refine lv_icmp_ge (tgt := 101) hx hb dX10_noGeneratorChangesForm_15 (by decide) (fun c_7 => ?_) (fun c_7 => ?_)
      · skip
        have c_7 := ni_le c_7 rfl rfl
        refine lv_iconst (v := 1) hx hb dX10_noGeneratorChangesForm_101 (by decide) ?_
        exact tz_retZ (B := B_cX10_noGeneratorChangesForm_03344 D k h0 h1 h12 h13 h14 h2 h3 h4 h5 h6 h7 h8 h9 h10 h11 h0f2 h0f6 h0f8 h0f11 h1f0 h1f1 h1f2) (v := 1) hQ hx hb hr hlocks hS (Nat.le_of_ble_eq_true rfl) (Nat.le_of_ble_eq_true rfl) dX10_noGeneratorChangesForm_102 (by have := li_1; omega) (⟨(by have := li_1; omega), (hT.sub [0, 1, 2, 3, 4] (by decide) rfl)⟩)
      · skip
        have c_7 := ni_nle c_7 rfl rfl
        refine lv_aload_n hx hb dX10_noGeneratorChangesForm_18 rfl (lv_at hl 0 rfl) ?_
        refine tz_get (ci := 7) (v := .ref h1) (C := RX10) (F := TX10) (N := 17) hx hb hU iX10 hown hK hT 0 rfl rfl 0 (by decide) w249 (fun _ h9 => h9) rfl dX10_noGeneratorChangesForm_19 ?_
        refine tz_get (ci := 4) (v := .ref h14) (C := RX5) (F := TX5) (N := 4) hx hb hU iX5 hown hK hT 1 rfl rfl 3 (by decide) w103 (fun _ h9 => h9) rfl dX10_noGeneratorChangesForm_22 ?_
        refine lv_iload_n hx hb dX10_noGeneratorChangesForm_25 rfl (lv_at hl 2 rfl) ?_
        refine lv_bipush (v := 9) hx hb dX10_noGeneratorChangesForm_26 (by decide) ?_
        refine lv_imul hx hb dX10_noGeneratorChangesForm_28 (lv_topi (fun v8 e_v8 => ?_))
        have e_v8 := ai_mul e_v8 rfl li_9 (by omega)
        refine lv_aload_n hx hb dX10_noGeneratorChangesForm_29 rfl (lv_at hl 0 rfl) ?_
        refine tz_get (ci := 7) (v := .ref h12) (C := RX10) (F := TX10) (N := 17) hx hb hU iX10 hown hK hT 0 rfl rfl 15 (by decide) w264 (fun _ h9 => h9) rfl dX10_noGeneratorChangesForm_30 ?_
        refine lv_iconst (v := 0) hx hb dX10_noGeneratorChangesForm_33 (by decide) ?_
        refine lv_aload_n hx hb dX10_noGeneratorChangesForm_34 rfl (lv_at hl 0 rfl) ?_
        refine tz_get (ci := 7) (v := .ref h13) (C := RX10) (F := TX10) (N := 17) hx hb hU iX10 hown hK hT 0 rfl rfl 16 (by decide) w265 (fun _ h9 => h9) rfl dX10_noGeneratorChangesForm_35 ?_
        refine lv_aload_n hx hb dX10_noGeneratorChangesForm_38 rfl (lv_at hl 0 rfl) ?_
        refine tz_get (ci := 7) (v := .ref h1) (C := RX10) (F := TX10) (N := 17) hx hb hU iX10 hown hK hT 0 rfl rfl 0 (by decide) w249 (fun _ h9 => h9) rfl dX10_noGeneratorChangesForm_39 ?_
        refine tz_get (ci := 4) (v := .int h1f0) (C := RX5) (F := TX5) (N := 4) hx hb hU iX5 hown hK hT 1 rfl rfl 0 (by decide) w93 (fun _ h9 => h9) rfl dX10_noGeneratorChangesForm_42 ?_
        have q_q10 := li_0
        refine tcV (Tc := [(h14, aJ (k 1) 36 anJ), (h12, aJ (k 1) 9 anJ), (h13, aJ (k 1) 9 anJ)]) (Tr := [(h0, ob 7 [.ref h1, .ref h2, .int h0f2, .ref h3, .ref h4, .ref h5, .int h0f6, .ref h6, .int h0f8, .ref h7, .ref h8, .int h0f11, .ref h9, .ref h10, .ref h11, .ref h12, .ref h13]), (h1, ob 4 [.int h1f0, .int h1f1, .int h1f2, .ref h14]), (q1, aJ (k 1) 9 anJ)]) (as := [h14, h12, h13]) (zcS (As := [.ref h14, .int v8, .ref h12, .int 0, .ref h13, .int h1f0]) (rest := []) (Tc := [(h14, aJ (k 1) 36 anJ), (h12, aJ (k 1) 9 anJ), (h13, aJ (k 1) 9 anJ)]) hx hb hml hown hU hK hT [4, 2, 3] rfl (by decide) (cX7_multiplyTurned_e6aef l D k _ h14 h12 h13 v8 (0) h1f0 (by omega) (by have := li_0; omega) (by omega)) w620 w618 w619 w74 hdX7_multiplyTurned ⟨rfl, rfl⟩ ⟨Nat.le_of_ble_eq_true rfl, Nat.le_of_ble_eq_true rfl⟩ rfl hl.1 (Nat.le_of_ble_eq_true rfl) dX10_noGeneratorChangesForm_45 ⟨Nat.le_of_ble_eq_true rfl, Nat.le_of_ble_eq_true rfl⟩) hT hS hA [4, 2, 3] [0, 1, 5] rfl rfl rfl (by decide) (by decide) (fun H locs hB J hS => ?_)
        have hT1 := hB
        have hT := J _ hT1
        have hT : TP D A [(h0, ob 7 [.ref h1, .ref h2, .int h0f2, .ref h3, .ref h4, .ref h5, .int h0f6, .ref h6, .int h0f8, .ref h7, .ref h8, .int h0f11, .ref h9, .ref h10, .ref h11, .ref h12, .ref h13]), (h1, ob 4 [.int h1f0, .int h1f1, .int h1f2, .ref h14]), (q1, aJ (k 1) 9 anJ), (h14, aJ (k 1) 36 anJ), (h12, aJ (k 1) 9 anJ), (h13, aJ (k 1) 9 anJ)] _ := hT
        refine lv_aload_n hx hb dX10_noGeneratorChangesForm_48 rfl (lv_at hl 0 rfl) ?_
        refine tz_get (ci := 7) (v := .ref h13) (C := RX10) (F := TX10) (N := 17) hx hb hU iX10 hown hK hT 0 rfl rfl 16 (by decide) w265 (fun _ h9 => h9) rfl dX10_noGeneratorChangesForm_49 ?_
        refine lv_iconst (v := 0) hx hb dX10_noGeneratorChangesForm_52 (by decide) ?_
        refine lv_aload_n hx hb dX10_noGeneratorChangesForm_53 rfl (lv_at hl 0 rfl) ?_
        refine tz_get (ci := 7) (v := .ref h1) (C := RX10) (F := TX10) (N := 17) hx hb hU iX10 hown hK hT 0 rfl rfl 0 (by decide) w249 (fun _ h9 => h9) rfl dX10_noGeneratorChangesForm_54 ?_
        refine tz_get (ci := 4) (v := .ref h14) (C := RX5) (F := TX5) (N := 4) hx hb hU iX5 hown hK hT 1 rfl rfl 3 (by decide) w103 (fun _ h9 => h9) rfl dX10_noGeneratorChangesForm_57 ?_
        refine lv_iload_n hx hb dX10_noGeneratorChangesForm_60 rfl (lv_at hl 2 rfl) ?_
        refine lv_bipush (v := 9) hx hb dX10_noGeneratorChangesForm_61 (by decide) ?_
        refine lv_imul hx hb dX10_noGeneratorChangesForm_63 (lv_topi (fun v11 e_v11 => ?_))
        have e_v11 := ai_mul e_v11 rfl li_9 (by omega)
        refine lv_aload_n hx hb dX10_noGeneratorChangesForm_64 rfl (lv_at hl 1 rfl) ?_
        refine lv_aload_n hx hb dX10_noGeneratorChangesForm_65 rfl (lv_at hl 0 rfl) ?_
        refine tz_get (ci := 7) (v := .ref h1) (C := RX10) (F := TX10) (N := 17) hx hb hU iX10 hown hK hT 0 rfl rfl 0 (by decide) w249 (fun _ h9 => h9) rfl dX10_noGeneratorChangesForm_66 ?_
        refine tz_get (ci := 4) (v := .int h1f0) (C := RX5) (F := TX5) (N := 4) hx hb hU iX5 hown hK hT 1 rfl rfl 0 (by decide) w93 (fun _ h9 => h9) rfl dX10_noGeneratorChangesForm_69 ?_
        have q_q13 := li_0
        refine tcV (Tc := [(h13, aJ (k 1) 9 anJ), (h14, aJ (k 1) 36 anJ), (q1, aJ (k 1) 9 anJ)]) (Tr := [(h0, ob 7 [.ref h1, .ref h2, .int h0f2, .ref h3, .ref h4, .ref h5, .int h0f6, .ref h6, .int h0f8, .ref h7, .ref h8, .int h0f11, .ref h9, .ref h10, .ref h11, .ref h12, .ref h13]), (h1, ob 4 [.int h1f0, .int h1f1, .int h1f2, .ref h14]), (h12, aJ (k 1) 9 anJ)]) (as := [h13, h14, q1]) (zcS (As := [.ref h13, .int 0, .ref h14, .int v11, .ref q1, .int h1f0]) (rest := []) (Tc := [(h13, aJ (k 1) 9 anJ), (h14, aJ (k 1) 36 anJ), (q1, aJ (k 1) 9 anJ)]) hx hb hml hown hU hK hT [5, 3, 2] rfl (by decide) (cX7_multiply_a4f9f l D k _ h13 h14 q1 (0) v11 h1f0 (by have := li_0; omega) (by omega) (by omega)) w363 w361 w362 w74 hdX7_multiply ⟨rfl, rfl⟩ ⟨Nat.le_of_ble_eq_true rfl, Nat.le_of_ble_eq_true rfl⟩ rfl hl.1 (Nat.le_of_ble_eq_true rfl) dX10_noGeneratorChangesForm_72 ⟨Nat.le_of_ble_eq_true rfl, Nat.le_of_ble_eq_true rfl⟩) hT hS hA [5, 3, 2] [0, 1, 4] rfl rfl rfl (by decide) (by decide) (fun H locs hB J hS => ?_)
        have hT1 := hB
        have hT := J _ hT1
        have hT : TP D A [(h0, ob 7 [.ref h1, .ref h2, .int h0f2, .ref h3, .ref h4, .ref h5, .int h0f6, .ref h6, .int h0f8, .ref h7, .ref h8, .int h0f11, .ref h9, .ref h10, .ref h11, .ref h12, .ref h13]), (h1, ob 4 [.int h1f0, .int h1f1, .int h1f2, .ref h14]), (h12, aJ (k 1) 9 anJ), (h13, aJ (k 1) 9 anJ), (h14, aJ (k 1) 36 anJ), (q1, aJ (k 1) 9 anJ)] _ := hT
        refine lv_aload_n hx hb dX10_noGeneratorChangesForm_75 rfl (lv_at hl 0 rfl) ?_
        refine tz_get (ci := 7) (v := .ref h12) (C := RX10) (F := TX10) (N := 17) hx hb hU iX10 hown hK hT 0 rfl rfl 15 (by decide) w264 (fun _ h9 => h9) rfl dX10_noGeneratorChangesForm_76 ?_
        refine lv_aload_n hx hb dX10_noGeneratorChangesForm_79 rfl (lv_at hl 1 rfl) ?_
        refine lv_aload_n hx hb dX10_noGeneratorChangesForm_80 rfl (lv_at hl 0 rfl) ?_
        refine tz_get (ci := 7) (v := .ref h1) (C := RX10) (F := TX10) (N := 17) hx hb hU iX10 hown hK hT 0 rfl rfl 0 (by decide) w249 (fun _ h9 => h9) rfl dX10_noGeneratorChangesForm_81 ?_
        refine tcI (Tc := [(h1, ob 4 [.int h1f0, .int h1f1, .int h1f2, .ref h14])]) (Tr := [(h0, ob 7 [.ref h1, .ref h2, .int h0f2, .ref h3, .ref h4, .ref h5, .int h0f6, .ref h6, .int h0f8, .ref h7, .ref h8, .int h0f11, .ref h9, .ref h10, .ref h11, .ref h12, .ref h13]), (h12, aJ (k 1) 9 anJ), (h13, aJ (k 1) 9 anJ), (h14, aJ (k 1) 36 anJ), (q1, aJ (k 1) 9 anJ)]) (as := [h1]) (zcV (q0 := 1) (ci := 4) (As := []) (rest := [.ref q1, .ref h12]) (Tc := [(h1, ob 4 [.int h1f0, .int h1f1, .int h1f2, .ref h14])]) hx hb hml hown hU hK hT rfl rfl [1] rfl (by decide) (cX5_cellCount_642c9 l D k _ h1 h14 h1f0 h1f1 h1f2 (by omega) (by omega)) w385 w382 w383 w384 w64 hdX5_cellCount ⟨rfl, rfl⟩ ⟨Nat.le_of_ble_eq_true rfl, Nat.le_of_ble_eq_true rfl⟩ rfl hl.1 (Nat.le_of_ble_eq_true rfl) dX10_noGeneratorChangesForm_84 ⟨Nat.le_of_ble_eq_true rfl, Nat.le_of_ble_eq_true rfl⟩) hT hS hA [1] [0, 2, 3, 4, 5] rfl rfl rfl (by decide) (by decide) (fun r14 H locs hB J hS => ?_)
        obtain ⟨b_r14, hT1⟩ := hB
        have hT := J _ hT1
        have hT : TP D A [(h0, ob 7 [.ref h1, .ref h2, .int h0f2, .ref h3, .ref h4, .ref h5, .int h0f6, .ref h6, .int h0f8, .ref h7, .ref h8, .int h0f11, .ref h9, .ref h10, .ref h11, .ref h12, .ref h13]), (h12, aJ (k 1) 9 anJ), (h13, aJ (k 1) 9 anJ), (h14, aJ (k 1) 36 anJ), (q1, aJ (k 1) 9 anJ), (h1, ob 4 [.int h1f0, .int h1f1, .int h1f2, .ref h14])] _ := hT
        refine tcI (Tc := [(h12, aJ (k 1) 9 anJ), (q1, aJ (k 1) 9 anJ)]) (Tr := [(h0, ob 7 [.ref h1, .ref h2, .int h0f2, .ref h3, .ref h4, .ref h5, .int h0f6, .ref h6, .int h0f8, .ref h7, .ref h8, .int h0f11, .ref h9, .ref h10, .ref h11, .ref h12, .ref h13]), (h13, aJ (k 1) 9 anJ), (h14, aJ (k 1) 36 anJ), (h1, ob 4 [.int h1f0, .int h1f1, .int h1f2, .ref h14])]) (as := [h12, q1]) (zcS (As := [.ref h12, .ref q1, .int r14]) (rest := []) (Tc := [(h12, aJ (k 1) 9 anJ), (q1, aJ (k 1) 9 anJ)]) hx hb hml hown hU hK hT [1, 4] rfl (by decide) (cX7_areAlike_339bc l D k _ h12 q1 r14 (by omega)) w608 w606 w607 w74 hdX7_areAlike ⟨rfl, rfl⟩ ⟨Nat.le_of_ble_eq_true rfl, Nat.le_of_ble_eq_true rfl⟩ rfl hl.1 (Nat.le_of_ble_eq_true rfl) dX10_noGeneratorChangesForm_87 ⟨Nat.le_of_ble_eq_true rfl, Nat.le_of_ble_eq_true rfl⟩) hT hS hA [1, 4] [0, 2, 3, 5] rfl rfl rfl (by decide) (by decide) (fun r15 H locs hB J hS => ?_)
        obtain ⟨b_r15, hT1⟩ := hB
        have hT := J _ hT1
        have hT : TP D A [(h0, ob 7 [.ref h1, .ref h2, .int h0f2, .ref h3, .ref h4, .ref h5, .int h0f6, .ref h6, .int h0f8, .ref h7, .ref h8, .int h0f11, .ref h9, .ref h10, .ref h11, .ref h12, .ref h13]), (h13, aJ (k 1) 9 anJ), (h14, aJ (k 1) 36 anJ), (h1, ob 4 [.int h1f0, .int h1f1, .int h1f2, .ref h14]), (h12, aJ (k 1) 9 anJ), (q1, aJ (k 1) 9 anJ)] _ := hT
        refine lv_if_ne (tgt := 95) hx hb dX10_noGeneratorChangesForm_90 (by decide) (fun c_16 => ?_) (fun c_16 => ?_)
        · skip
          have c_16 := ni_ne c_16 rfl li_0
          obtain ⟨v17, e_v17⟩ : ∃ x : Int32, x = y5 + Int32.ofInt 1 := ⟨_, rfl⟩
          have f_v17 := e_v17.symm
          have e_v17 : v17.toInt = y5.toInt + 1 := ai_add e_v17 rfl (show (Int32.ofInt 1).toInt = 1 from (by decide +kernel)) (by omega)
          refine lv_iinc (v := v17) (lv' := [(2, .int v17), (0, .ref h0), (1, .ref q1)]) hx hb dX10_noGeneratorChangesForm_95 hl (k := 2) rfl f_v17 (by decide) rfl (fun ls hl => ?_)
          refine lv_goto (tgt := 7) hx hb dX10_noGeneratorChangesForm_98 (by decide) ?_
          exact ih7_6 v17 _ _ _ (by omega)  (by omega) (hT.sub [0, 3, 4, 1, 2, 5] (by decide) rfl) hS (lv_sub hl [1, 2, 0] rfl)
        · skip
          have c_16 := ni_eq c_16 rfl li_0
          refine lv_iconst (v := 0) hx hb dX10_noGeneratorChangesForm_93 (by decide) ?_
          exact tz_retZ (B := B_cX10_noGeneratorChangesForm_03344 D k h0 h1 h12 h13 h14 h2 h3 h4 h5 h6 h7 h8 h9 h10 h11 h0f2 h0f6 h0f8 h0f11 h1f0 h1f1 h1f2) (v := 0) hQ hx hb hr hlocks hS (Nat.le_of_ble_eq_true rfl) (Nat.le_of_ble_eq_true rfl) dX10_noGeneratorChangesForm_94 (by have := li_0; omega) (⟨(by have := li_0; omega), (hT.sub [0, 3, 4, 1, 2] (by decide) rfl)⟩)
  exact lp7_6 ((h1f1.toInt + (-1) * (0 : Int32).toInt + 1).toNat + 1) (0) _ _ _ (by have := li_0; omega)  (Nat.lt_succ_self _) hT hS (lv_sub hl [2, 1, 0] rfl)
abbrev Rm_cX10_keeps_56b43 : Room := { frames := 3, cells := 1, slots := 9, locals := 78 }
abbrev B_cX10_keeps_56b43 (D : va_G) (k : Nat → ClassId) (h0 h1 h4 h12 h13 h14 h18 h19 h20 h21 h46 h47 h48 h49 h2 h3 h5 h6 h7 h8 h9 h10 h11 : Nat) (x1 : Int32) (x2 : Int32) (h0f2 : Int32) (h0f6 : Int32) (h0f8 : Int32) (h0f11 : Int32) (h1f0 : Int32) (h1f1 : Int32) (h1f2 : Int32) (h18f0 : Int32) (h18f1 : Int32) (h19f0 : Int32) (h19f1 : Int32) (h20f0 : Int32) (h20f1 : Int32) (h21f0 : Int32) (h21f1 : Int32) (A : Nat → Prop) (r : Int32) (H : Heap) : Prop := ((-16) ≤ r.toInt ∧ r.toInt ≤ 1) ∧ TP D A [(h0, ob 7 [.ref h1, .ref h2, .int h0f2, .ref h3, .ref h4, .ref h5, .int h0f6, .ref h6, .int h0f8, .ref h7, .ref h8, .int h0f11, .ref h9, .ref h10, .ref h11, .ref h12, .ref h13]), (h1, ob 4 [.int h1f0, .int h1f1, .int h1f2, .ref h14]), (h4, aQ (k 3) 4 (q4 h18 h19 h20 h21)), (h12, aJ (k 1) 9 anJ), (h13, aJ (k 1) 9 anJ), (h14, aJ (k 1) 36 anJ), (h18, ob 5 [.int h18f0, .int h18f1, .ref h46]), (h19, ob 5 [.int h19f0, .int h19f1, .ref h47]), (h20, ob 5 [.int h20f0, .int h20f1, .ref h48]), (h21, ob 5 [.int h21f0, .int h21f1, .ref h49]), (h46, aJ (k 1) 40 anJ), (h47, aJ (k 1) 40 anJ), (h48, aJ (k 1) 40 anJ), (h49, aJ (k 1) 40 anJ)] H
set_option maxHeartbeats 4000000 in
set_option maxRecDepth 100000 in
theorem cX10_keeps_56b43 (l : Launch) (D : va_G) (k : Nat → ClassId) (sz : Nat) (h0 h1 h4 h12 h13 h14 h18 h19 h20 h21 h46 h47 h48 h49 h2 h3 h5 h6 h7 h8 h9 h10 h11 : Nat) (x1 : Int32) (x2 : Int32) (h0f2 : Int32) (h0f6 : Int32) (h0f8 : Int32) (h0f11 : Int32) (h1f0 : Int32) (h1f1 : Int32) (h1f2 : Int32) (h18f0 : Int32) (h18f1 : Int32) (h19f0 : Int32) (h19f1 : Int32) (h20f0 : Int32) (h20f1 : Int32) (h21f0 : Int32) (h21f1 : Int32) (b_h0f2 : 0 ≤ h0f2.toInt ∧ h0f2.toInt ≤ 1) (b_h0f6 : 0 ≤ h0f6.toInt ∧ h0f6.toInt ≤ 1) (b_h0f8 : 0 ≤ h0f8.toInt ∧ h0f8.toInt ≤ 1) (b_h0f11 : 0 ≤ h0f11.toInt ∧ h0f11.toInt ≤ 200) (b_h1f0 : 1 ≤ h1f0.toInt ∧ h1f0.toInt ≤ 3) (b_h1f1 : 0 ≤ h1f1.toInt ∧ h1f1.toInt ≤ 4) (b_h18f0 : (-1) ≤ h18f0.toInt ∧ h18f0.toInt ≤ 2) (b_h18f1 : 0 ≤ h18f1.toInt ∧ h18f1.toInt ≤ 40) (b_h19f0 : (-1) ≤ h19f0.toInt ∧ h19f0.toInt ≤ 2) (b_h19f1 : 0 ≤ h19f1.toInt ∧ h19f1.toInt ≤ 40) (b_h20f0 : (-1) ≤ h20f0.toInt ∧ h20f0.toInt ≤ 2) (b_h20f1 : 0 ≤ h20f1.toInt ∧ h20f1.toInt ≤ 40) (b_h21f0 : (-1) ≤ h21f0.toInt ∧ h21f0.toInt ≤ 2) (b_h21f1 : 0 ≤ h21f1.toInt ∧ h21f1.toInt ≤ 40) : Met l yX10_keeps (Cond.code yX10_keeps cX10_keeps 4 (some .int) :: uw) Rm_cX10_keeps_56b43 (pT D k sz [.ref h0, .int x1, .int x2] [(h0, ob 7 [.ref h1, .ref h2, .int h0f2, .ref h3, .ref h4, .ref h5, .int h0f6, .ref h6, .int h0f8, .ref h7, .ref h8, .int h0f11, .ref h9, .ref h10, .ref h11, .ref h12, .ref h13]), (h1, ob 4 [.int h1f0, .int h1f1, .int h1f2, .ref h14]), (h4, aQ (k 3) 4 (q4 h18 h19 h20 h21)), (h12, aJ (k 1) 9 anJ), (h13, aJ (k 1) 9 anJ), (h14, aJ (k 1) 36 anJ), (h18, ob 5 [.int h18f0, .int h18f1, .ref h46]), (h19, ob 5 [.int h19f0, .int h19f1, .ref h47]), (h20, ob 5 [.int h20f0, .int h20f1, .ref h48]), (h21, ob 5 [.int h21f0, .int h21f1, .ref h49]), (h46, aJ (k 1) 40 anJ), (h47, aJ (k 1) 40 anJ), (h48, aJ (k 1) 40 anJ), (h49, aJ (k 1) 40 anJ)]) (qI (B_cX10_keeps_56b43 D k h0 h1 h4 h12 h13 h14 h18 h19 h20 h21 h46 h47 h48 h49 h2 h3 h5 h6 h7 h8 h9 h10 h11 x1 x2 h0f2 h0f6 h0f8 h0f11 h1f0 h1f1 h1f2 h18f0 h18f1 h19f0 h19f1 h20f0 h20f1 h21f0 h21f1 (zA [h0, h1, h4, h12, h13, h14, h18, h19, h20, h21, h46, h47, h48, h49] sz)) (zA [h0, h1, h4, h12, h13, h14, h18, h19, h20, h21, h46, h47, h48, h49] sz)) 1 9 (zA [h0, h1, h4, h12, h13, h14, h18, h19, h20, h21, h46, h47, h48, h49] sz) := by
  refine tz_begin (as := [h0, h1, h4, h12, h13, h14, h18, h19, h20, h21, h46, h47, h48, h49]) (Qc := fun A => qI (B_cX10_keeps_56b43 D k h0 h1 h4 h12 h13 h14 h18 h19 h20 h21 h46 h47 h48 h49 h2 h3 h5 h6 h7 h8 h9 h10 h11 x1 x2 h0f2 h0f6 h0f8 h0f11 h1f0 h1f1 h1f2 h18f0 h18f1 h19f0 h19f1 h20f0 h20f1 h21f0 h21f1 A) A) (by decide +kernel) rfl (Nat.le_of_ble_eq_true rfl) ?_
  intro p e s m args below meth c ls A Q hx hb hr hml hown hlocks hin hU hK hT hS hA hl hQ
  have hl : lv_has ls 4 [(0, .ref h0), (1, .int x1), (2, .int x2)] := hl
  have hT : TP D A [(h0, ob 7 [.ref h1, .ref h2, .int h0f2, .ref h3, .ref h4, .ref h5, .int h0f6, .ref h6, .int h0f8, .ref h7, .ref h8, .int h0f11, .ref h9, .ref h10, .ref h11, .ref h12, .ref h13]), (h1, ob 4 [.int h1f0, .int h1f1, .int h1f2, .ref h14]), (h4, aQ (k 3) 4 (q4 h18 h19 h20 h21)), (h12, aJ (k 1) 9 anJ), (h13, aJ (k 1) 9 anJ), (h14, aJ (k 1) 36 anJ), (h18, ob 5 [.int h18f0, .int h18f1, .ref h46]), (h19, ob 5 [.int h19f0, .int h19f1, .ref h47]), (h20, ob 5 [.int h20f0, .int h20f1, .ref h48]), (h21, ob 5 [.int h21f0, .int h21f1, .ref h49]), (h46, aJ (k 1) 40 anJ), (h47, aJ (k 1) 40 anJ), (h48, aJ (k 1) 40 anJ), (h49, aJ (k 1) 40 anJ)] s.heap := hT
  refine lv_aload_n hx hb dX10_keeps_0 rfl (lv_at hl 0 rfl) ?_
  refine lv_iload_n hx hb dX10_keeps_1 rfl (lv_at hl 1 rfl) ?_
  refine lv_iload_n hx hb dX10_keeps_2 rfl (lv_at hl 2 rfl) ?_
  refine lv_iconst (v := 0) hx hb dX10_keeps_3 (by decide) ?_
  refine tcI (Tc := [(h0, ob 7 [.ref h1, .ref h2, .int h0f2, .ref h3, .ref h4, .ref h5, .int h0f6, .ref h6, .int h0f8, .ref h7, .ref h8, .int h0f11, .ref h9, .ref h10, .ref h11, .ref h12, .ref h13]), (h1, ob 4 [.int h1f0, .int h1f1, .int h1f2, .ref h14]), (h4, aQ (k 3) 4 (q4 h18 h19 h20 h21)), (h18, ob 5 [.int h18f0, .int h18f1, .ref h46]), (h19, ob 5 [.int h19f0, .int h19f1, .ref h47]), (h20, ob 5 [.int h20f0, .int h20f1, .ref h48]), (h21, ob 5 [.int h21f0, .int h21f1, .ref h49])]) (Tr := [(h12, aJ (k 1) 9 anJ), (h13, aJ (k 1) 9 anJ), (h14, aJ (k 1) 36 anJ), (h46, aJ (k 1) 40 anJ), (h47, aJ (k 1) 40 anJ), (h48, aJ (k 1) 40 anJ), (h49, aJ (k 1) 40 anJ)]) (as := [h0, h1, h4, h18, h19, h20, h21]) (zcV (q0 := 0) (ci := 7) (As := [.int x1, .int x2, .int 0]) (rest := []) (Tc := [(h0, ob 7 [.ref h1, .ref h2, .int h0f2, .ref h3, .ref h4, .ref h5, .int h0f6, .ref h6, .int h0f8, .ref h7, .ref h8, .int h0f11, .ref h9, .ref h10, .ref h11, .ref h12, .ref h13]), (h1, ob 4 [.int h1f0, .int h1f1, .int h1f2, .ref h14]), (h4, aQ (k 3) 4 (q4 h18 h19 h20 h21)), (h18, ob 5 [.int h18f0, .int h18f1, .ref h46]), (h19, ob 5 [.int h19f0, .int h19f1, .ref h47]), (h20, ob 5 [.int h20f0, .int h20f1, .ref h48]), (h21, ob 5 [.int h21f0, .int h21f1, .ref h49])]) hx hb hml hown hU hK hT rfl rfl [0, 1, 2, 6, 7, 8, 9] rfl (by decide) (cX10_refusalOfTable_1b9a2 l D k _ h0 h1 h4 h18 h19 h20 h21 h2 h3 h5 h6 h7 h8 h9 h10 h11 h12 h13 h14 h46 h47 h48 h49 x1 x2 h0f2 h0f6 h0f8 h0f11 h1f0 h1f1 h1f2 h18f0 h18f1 h19f0 h19f1 h20f0 h20f1 h21f0 h21f1 (by omega) (by omega) (by omega) (by omega) (by omega) (by omega) (by omega) (by omega) (by omega) (by omega) (by omega) (by omega) (by omega) (by omega)) w637 w634 w636 w18 w63 hdX10_refusalOfTable ⟨rfl, rfl⟩ ⟨Nat.le_of_ble_eq_true rfl, Nat.le_of_ble_eq_true rfl⟩ rfl hl.1 (Nat.le_of_ble_eq_true rfl) dX10_keeps_4 ⟨Nat.le_of_ble_eq_true rfl, Nat.le_of_ble_eq_true rfl⟩) hT hS hA [0, 1, 2, 6, 7, 8, 9] [3, 4, 5, 10, 11, 12, 13] rfl rfl rfl (by decide) (by decide) (fun r1 H locs hB J hS => ?_)
  rcases hB with ⟨rfl, hT1⟩ | ⟨rfl, hT1⟩ | ⟨v2, b_v2, c_3, c_4, c_5, c_6, c_7, c_8, c_9, c_10, c_11, c_12, c_13, rfl, hT1⟩ | ⟨v14, b_v14, c_15, c_16, c_17, c_18, c_19, c_20, c_21, c_22, c_23, c_24, c_25, rfl, hT1⟩ | ⟨v26, b_v26, c_27, c_28, c_29, c_30, c_31, c_32, c_33, c_34, c_35, c_36, c_37, rfl, hT1⟩ | ⟨rfl, hT1⟩ | ⟨rfl, hT1⟩ | ⟨v38, b_v38, c_39, c_40, c_41, c_42, c_43, c_44, c_45, c_46, c_47, c_48, c_49, rfl, hT1⟩ | ⟨v50, b_v50, c_51, c_52, c_53, c_54, c_55, c_56, c_57, c_58, c_59, c_60, c_61, rfl, hT1⟩ | ⟨v62, b_v62, c_63, c_64, c_65, c_66, c_67, c_68, c_69, c_70, c_71, c_72, c_73, rfl, hT1⟩ | ⟨v74, b_v74, c_75, c_76, c_77, c_78, c_79, c_80, c_81, c_82, c_83, c_84, c_85, rfl, hT1⟩ | ⟨v86, b_v86, c_87, c_88, c_89, c_90, c_91, c_92, c_93, c_94, c_95, c_96, c_97, rfl, hT1⟩ | ⟨v98, b_v98, c_99, c_100, c_101, c_102, c_103, c_104, c_105, c_106, c_107, c_108, c_109, rfl, hT1⟩ | ⟨v110, b_v110, c_111, c_112, c_113, c_114, c_115, c_116, c_117, c_118, c_119, c_120, c_121, rfl, hT1⟩ | ⟨v122, b_v122, c_123, c_124, c_125, c_126, c_127, c_128, c_129, c_130, c_131, c_132, c_133, rfl, hT1⟩ | ⟨v134, b_v134, c_135, c_136, c_137, c_138, c_139, c_140, c_141, c_142, c_143, c_144, c_145, rfl, hT1⟩
  · skip
    have hT := J _ hT1
    have hT : TP D A [(h12, aJ (k 1) 9 anJ), (h13, aJ (k 1) 9 anJ), (h14, aJ (k 1) 36 anJ), (h46, aJ (k 1) 40 anJ), (h47, aJ (k 1) 40 anJ), (h48, aJ (k 1) 40 anJ), (h49, aJ (k 1) 40 anJ), (h0, ob 7 [.ref h1, .ref h2, .int h0f2, .ref h3, .ref h4, .ref h5, .int h0f6, .ref h6, .int h0f8, .ref h7, .ref h8, .int h0f11, .ref h9, .ref h10, .ref h11, .ref h12, .ref h13]), (h1, ob 4 [.int h1f0, .int h1f1, .int h1f2, .ref h14]), (h4, aQ (k 3) 4 (q4 h18 h19 h20 h21)), (h18, ob 5 [.int h18f0, .int h18f1, .ref h46]), (h19, ob 5 [.int h19f0, .int h19f1, .ref h47]), (h20, ob 5 [.int h20f0, .int h20f1, .ref h48]), (h21, ob 5 [.int h21f0, .int h21f1, .ref h49])] _ := hT
    refine lv_istore_n (lv' := [(3, .int (-1)), (0, .ref h0), (1, .int x1), (2, .int x2)]) hx hb dX10_keeps_7 rfl hl (by decide) rfl (fun ls hl => ?_)
    refine lv_iload_n hx hb dX10_keeps_8 rfl (lv_at hl 0 rfl) ?_
    refine lv_if_eq (tgt := 14) hx hb dX10_keeps_9 (by decide) (fun cc => absurd cc (by decide +kernel)) (fun _ => ?_)
    refine lv_iload_n hx hb dX10_keeps_12 rfl (lv_at hl 0 rfl) ?_
    exact tz_retI (B := B_cX10_keeps_56b43 D k h0 h1 h4 h12 h13 h14 h18 h19 h20 h21 h46 h47 h48 h49 h2 h3 h5 h6 h7 h8 h9 h10 h11 x1 x2 h0f2 h0f6 h0f8 h0f11 h1f0 h1f1 h1f2 h18f0 h18f1 h19f0 h19f1 h20f0 h20f1 h21f0 h21f1) (v := (-1)) hQ hx hb hr hlocks hS (Nat.le_of_ble_eq_true rfl) (Nat.le_of_ble_eq_true rfl) dX10_keeps_13 (⟨(by have := li_m1; omega), (hT.sub [7, 8, 9, 0, 1, 2, 10, 11, 12, 13, 3, 4, 5, 6] (by decide) rfl)⟩)
  · skip
    have hT := J _ hT1
    have hT : TP D A [(h12, aJ (k 1) 9 anJ), (h13, aJ (k 1) 9 anJ), (h14, aJ (k 1) 36 anJ), (h46, aJ (k 1) 40 anJ), (h47, aJ (k 1) 40 anJ), (h48, aJ (k 1) 40 anJ), (h49, aJ (k 1) 40 anJ), (h0, ob 7 [.ref h1, .ref h2, .int h0f2, .ref h3, .ref h4, .ref h5, .int h0f6, .ref h6, .int h0f8, .ref h7, .ref h8, .int h0f11, .ref h9, .ref h10, .ref h11, .ref h12, .ref h13]), (h1, ob 4 [.int h1f0, .int h1f1, .int h1f2, .ref h14]), (h4, aQ (k 3) 4 (q4 h18 h19 h20 h21)), (h18, ob 5 [.int h18f0, .int h18f1, .ref h46]), (h19, ob 5 [.int h19f0, .int h19f1, .ref h47]), (h20, ob 5 [.int h20f0, .int h20f1, .ref h48]), (h21, ob 5 [.int h21f0, .int h21f1, .ref h49])] _ := hT
    refine lv_istore_n (lv' := [(3, .int (-12)), (0, .ref h0), (1, .int x1), (2, .int x2)]) hx hb dX10_keeps_7 rfl hl (by decide) rfl (fun ls hl => ?_)
    refine lv_iload_n hx hb dX10_keeps_8 rfl (lv_at hl 0 rfl) ?_
    refine lv_if_eq (tgt := 14) hx hb dX10_keeps_9 (by decide) (fun cc => absurd cc (by decide +kernel)) (fun _ => ?_)
    refine lv_iload_n hx hb dX10_keeps_12 rfl (lv_at hl 0 rfl) ?_
    exact tz_retI (B := B_cX10_keeps_56b43 D k h0 h1 h4 h12 h13 h14 h18 h19 h20 h21 h46 h47 h48 h49 h2 h3 h5 h6 h7 h8 h9 h10 h11 x1 x2 h0f2 h0f6 h0f8 h0f11 h1f0 h1f1 h1f2 h18f0 h18f1 h19f0 h19f1 h20f0 h20f1 h21f0 h21f1) (v := (-12)) hQ hx hb hr hlocks hS (Nat.le_of_ble_eq_true rfl) (Nat.le_of_ble_eq_true rfl) dX10_keeps_13 (⟨(by have := li_m12; omega), (hT.sub [7, 8, 9, 0, 1, 2, 10, 11, 12, 13, 3, 4, 5, 6] (by decide) rfl)⟩)
  · skip
    have hT := J _ hT1
    have hT : TP D A [(h12, aJ (k 1) 9 anJ), (h13, aJ (k 1) 9 anJ), (h14, aJ (k 1) 36 anJ), (h46, aJ (k 1) 40 anJ), (h47, aJ (k 1) 40 anJ), (h48, aJ (k 1) 40 anJ), (h49, aJ (k 1) 40 anJ), (h0, ob 7 [.ref h1, .ref h2, .int h0f2, .ref h3, .ref h4, .ref h5, .int h0f6, .ref h6, .int h0f8, .ref h7, .ref h8, .int h0f11, .ref h9, .ref h10, .ref h11, .ref h12, .ref h13]), (h1, ob 4 [.int h1f0, .int h1f1, .int h1f2, .ref h14]), (h4, aQ (k 3) 4 (q4 h18 h19 h20 h21)), (h18, ob 5 [.int h18f0, .int h18f1, .ref h46]), (h19, ob 5 [.int h19f0, .int h19f1, .ref h47]), (h20, ob 5 [.int h20f0, .int h20f1, .ref h48]), (h21, ob 5 [.int h21f0, .int h21f1, .ref h49])] _ := hT
    refine lv_istore_n (lv' := [(3, .int 0), (0, .ref h0), (1, .int x1), (2, .int x2)]) hx hb dX10_keeps_7 rfl hl (by decide) rfl (fun ls hl => ?_)
    refine lv_iload_n hx hb dX10_keeps_8 rfl (lv_at hl 0 rfl) ?_
    refine lv_if_eq (tgt := 14) hx hb dX10_keeps_9 (by decide) (fun _ => ?_) (fun cc => absurd (by decide +kernel) cc)
    refine lv_aload_n hx hb dX10_keeps_14 rfl (lv_at hl 1 rfl) ?_
    refine tz_get (ci := 7) (v := .ref h4) (C := RX10) (F := TX10) (N := 17) hx hb hU iX10 hown hK hT 7 rfl rfl 4 (by decide) w253 (fun _ h9 => h9) rfl dX10_keeps_15 ?_
    refine lv_iload_n hx hb dX10_keeps_18 rfl (lv_at hl 2 rfl) ?_
    have hq146 : x1.toInt = 0 := by omega
    refine tz_aldq (b := h18) hx hb hK hT 9 rfl (vp_in_iff.mpr (by have := hq146; omega)) (fun f hf => by rw [cl_of hq146]; exact hf.1) dX10_keeps_19 ?_
    refine tz_get (ci := 5) (v := .ref h46) (C := RX6) (F := TX6) (N := 3) hx hb hU iX6 hown hK hT 10 rfl rfl 2 (by decide) w241 (fun _ h9 => h9) rfl dX10_keeps_20 ?_
    refine lv_iload_n hx hb dX10_keeps_23 rfl (lv_at hl 3 rfl) ?_
    refine lv_aload_n hx hb dX10_keeps_24 rfl (lv_at hl 1 rfl) ?_
    refine tz_get (ci := 7) (v := .ref h12) (C := RX10) (F := TX10) (N := 17) hx hb hU iX10 hown hK hT 7 rfl rfl 15 (by decide) w264 (fun _ h9 => h9) rfl dX10_keeps_25 ?_
    refine lv_iconst (v := 0) hx hb dX10_keeps_28 (by decide) ?_
    refine lv_aload_n hx hb dX10_keeps_29 rfl (lv_at hl 1 rfl) ?_
    refine tz_get (ci := 7) (v := .ref h1) (C := RX10) (F := TX10) (N := 17) hx hb hU iX10 hown hK hT 7 rfl rfl 0 (by decide) w249 (fun _ h9 => h9) rfl dX10_keeps_30 ?_
    refine tcI (Tc := [(h1, ob 4 [.int h1f0, .int h1f1, .int h1f2, .ref h14])]) (Tr := [(h12, aJ (k 1) 9 anJ), (h13, aJ (k 1) 9 anJ), (h14, aJ (k 1) 36 anJ), (h46, aJ (k 1) 40 anJ), (h47, aJ (k 1) 40 anJ), (h48, aJ (k 1) 40 anJ), (h49, aJ (k 1) 40 anJ), (h0, ob 7 [.ref h1, .ref h2, .int h0f2, .ref h3, .ref h4, .ref h5, .int h0f6, .ref h6, .int h0f8, .ref h7, .ref h8, .int h0f11, .ref h9, .ref h10, .ref h11, .ref h12, .ref h13]), (h4, aQ (k 3) 4 (q4 h18 h19 h20 h21)), (h18, ob 5 [.int h18f0, .int h18f1, .ref h46]), (h19, ob 5 [.int h19f0, .int h19f1, .ref h47]), (h20, ob 5 [.int h20f0, .int h20f1, .ref h48]), (h21, ob 5 [.int h21f0, .int h21f1, .ref h49])]) (as := [h1]) (zcV (q0 := 8) (ci := 4) (As := []) (rest := [.int 0, .ref h12, .int x2, .ref h46]) (Tc := [(h1, ob 4 [.int h1f0, .int h1f1, .int h1f2, .ref h14])]) hx hb hml hown hU hK hT rfl rfl [8] rfl (by decide) (cX5_cellCount_f3983 l D k _ h1 h14 h1f0 h1f1 h1f2 (by omega) (by omega)) w385 w382 w383 w384 w64 hdX5_cellCount ⟨rfl, rfl⟩ ⟨Nat.le_of_ble_eq_true rfl, Nat.le_of_ble_eq_true rfl⟩ rfl hl.1 (Nat.le_of_ble_eq_true rfl) dX10_keeps_33 ⟨Nat.le_of_ble_eq_true rfl, Nat.le_of_ble_eq_true rfl⟩) hT hS hA [8] [0, 1, 2, 3, 4, 5, 6, 7, 9, 10, 11, 12, 13] rfl rfl rfl (by decide) (by decide) (fun r147 H locs hB J hS => ?_)
    rcases hB with ⟨v148, b_v148, c_149, c_150, rfl, hT1⟩ | ⟨v151, b_v151, c_152, c_153, rfl, hT1⟩ | ⟨v154, b_v154, c_155, c_156, rfl, hT1⟩
    · skip
      have hT := J _ hT1
      have hT : TP D A [(h12, aJ (k 1) 9 anJ), (h13, aJ (k 1) 9 anJ), (h14, aJ (k 1) 36 anJ), (h46, aJ (k 1) 40 anJ), (h47, aJ (k 1) 40 anJ), (h48, aJ (k 1) 40 anJ), (h49, aJ (k 1) 40 anJ), (h0, ob 7 [.ref h1, .ref h2, .int h0f2, .ref h3, .ref h4, .ref h5, .int h0f6, .ref h6, .int h0f8, .ref h7, .ref h8, .int h0f11, .ref h9, .ref h10, .ref h11, .ref h12, .ref h13]), (h4, aQ (k 3) 4 (q4 h18 h19 h20 h21)), (h18, ob 5 [.int h18f0, .int h18f1, .ref h46]), (h19, ob 5 [.int h19f0, .int h19f1, .ref h47]), (h20, ob 5 [.int h20f0, .int h20f1, .ref h48]), (h21, ob 5 [.int h21f0, .int h21f1, .ref h49]), (h1, ob 4 [.int h1f0, .int h1f1, .int h1f2, .ref h14])] _ := hT
      refine tz_copyl hx hb (by rw [hml]; exact hl.1.symm) hown hU w410 w348 w347 w75 hK hT hS 3 0 rfl rfl (by have := li_0; omega) (fun _ _ _ _ => trivial) (Nat.le_of_ble_eq_true rfl) (Nat.le_of_ble_eq_true rfl) dX10_keeps_36 (fun H locs hT hS => ?_)
      refine lv_aload_n hx hb dX10_keeps_39 rfl (lv_at hl 1 rfl) ?_
      refine tz_get (ci := 7) (v := .ref h12) (C := RX10) (F := TX10) (N := 17) hx hb hU iX10 hown hK hT 7 rfl rfl 15 (by decide) w264 (fun _ h9 => h9) rfl dX10_keeps_40 ?_
      refine lv_aload_n hx hb dX10_keeps_43 rfl (lv_at hl 1 rfl) ?_
      refine tz_get (ci := 7) (v := .ref h1) (C := RX10) (F := TX10) (N := 17) hx hb hU iX10 hown hK hT 7 rfl rfl 0 (by decide) w249 (fun _ h9 => h9) rfl dX10_keeps_44 ?_
      refine tcI (Tc := [(h1, ob 4 [.int h1f0, .int h1f1, .int h1f2, .ref h14])]) (Tr := [(h12, aJ (k 1) 9 anJ), (h13, aJ (k 1) 9 anJ), (h14, aJ (k 1) 36 anJ), (h46, aJ (k 1) 40 anJ), (h47, aJ (k 1) 40 anJ), (h48, aJ (k 1) 40 anJ), (h49, aJ (k 1) 40 anJ), (h0, ob 7 [.ref h1, .ref h2, .int h0f2, .ref h3, .ref h4, .ref h5, .int h0f6, .ref h6, .int h0f8, .ref h7, .ref h8, .int h0f11, .ref h9, .ref h10, .ref h11, .ref h12, .ref h13]), (h4, aQ (k 3) 4 (q4 h18 h19 h20 h21)), (h18, ob 5 [.int h18f0, .int h18f1, .ref h46]), (h19, ob 5 [.int h19f0, .int h19f1, .ref h47]), (h20, ob 5 [.int h20f0, .int h20f1, .ref h48]), (h21, ob 5 [.int h21f0, .int h21f1, .ref h49])]) (as := [h1]) (zcV (q0 := 13) (ci := 4) (As := []) (rest := [.ref h12]) (Tc := [(h1, ob 4 [.int h1f0, .int h1f1, .int h1f2, .ref h14])]) hx hb hml hown hU hK hT rfl rfl [13] rfl (by decide) (cX5_cellCount_f3983 l D k _ h1 h14 h1f0 h1f1 h1f2 (by omega) (by omega)) w385 w382 w383 w384 w64 hdX5_cellCount ⟨rfl, rfl⟩ ⟨Nat.le_of_ble_eq_true rfl, Nat.le_of_ble_eq_true rfl⟩ rfl hl.1 (Nat.le_of_ble_eq_true rfl) dX10_keeps_47 ⟨Nat.le_of_ble_eq_true rfl, Nat.le_of_ble_eq_true rfl⟩) hT hS hA [13] [0, 1, 2, 3, 4, 5, 6, 7, 8, 9, 10, 11, 12] rfl rfl rfl (by decide) (by decide) (fun r157 H locs hB J hS => ?_)
      rcases hB with ⟨v158, b_v158, c_159, c_160, rfl, hT1⟩ | ⟨v161, b_v161, c_162, c_163, rfl, hT1⟩ | ⟨v164, b_v164, c_165, c_166, rfl, hT1⟩
      · skip
        have hT := J _ hT1
        have hT : TP D A [(h12, aJ (k 1) 9 anJ), (h13, aJ (k 1) 9 anJ), (h14, aJ (k 1) 36 anJ), (h46, aJ (k 1) 40 anJ), (h47, aJ (k 1) 40 anJ), (h48, aJ (k 1) 40 anJ), (h49, aJ (k 1) 40 anJ), (h0, ob 7 [.ref h1, .ref h2, .int h0f2, .ref h3, .ref h4, .ref h5, .int h0f6, .ref h6, .int h0f8, .ref h7, .ref h8, .int h0f11, .ref h9, .ref h10, .ref h11, .ref h12, .ref h13]), (h4, aQ (k 3) 4 (q4 h18 h19 h20 h21)), (h18, ob 5 [.int h18f0, .int h18f1, .ref h46]), (h19, ob 5 [.int h19f0, .int h19f1, .ref h47]), (h20, ob 5 [.int h20f0, .int h20f1, .ref h48]), (h21, ob 5 [.int h21f0, .int h21f1, .ref h49]), (h1, ob 4 [.int h1f0, .int h1f1, .int h1f2, .ref h14])] _ := hT
        refine lv_ldc2 hx hb hown (hU _ w649) dX10_keeps_50 ?_
        have q_q168 := ll_1000000
        refine tcI (Tc := [(h12, aJ (k 1) 9 anJ)]) (Tr := [(h13, aJ (k 1) 9 anJ), (h14, aJ (k 1) 36 anJ), (h46, aJ (k 1) 40 anJ), (h47, aJ (k 1) 40 anJ), (h48, aJ (k 1) 40 anJ), (h49, aJ (k 1) 40 anJ), (h0, ob 7 [.ref h1, .ref h2, .int h0f2, .ref h3, .ref h4, .ref h5, .int h0f6, .ref h6, .int h0f8, .ref h7, .ref h8, .int h0f11, .ref h9, .ref h10, .ref h11, .ref h12, .ref h13]), (h4, aQ (k 3) 4 (q4 h18 h19 h20 h21)), (h18, ob 5 [.int h18f0, .int h18f1, .ref h46]), (h19, ob 5 [.int h19f0, .int h19f1, .ref h47]), (h20, ob 5 [.int h20f0, .int h20f1, .ref h48]), (h21, ob 5 [.int h21f0, .int h21f1, .ref h49]), (h1, ob 4 [.int h1f0, .int h1f1, .int h1f2, .ref h14])]) (as := [h12]) (zcS (As := [.ref h12, .int v158, .long 1000000]) (rest := []) (Tc := [(h12, aJ (k 1) 9 anJ)]) hx hb hml hown hU hK hT [0] rfl (by decide) (cX7_isWithin_443ab l D k _ h12 v158 (1000000) (by omega) (by have := ll_1000000; omega)) w389 w387 w388 w74 hdX7_isWithin ⟨rfl, rfl⟩ ⟨Nat.le_of_ble_eq_true rfl, Nat.le_of_ble_eq_true rfl⟩ rfl hl.1 (Nat.le_of_ble_eq_true rfl) dX10_keeps_53 ⟨Nat.le_of_ble_eq_true rfl, Nat.le_of_ble_eq_true rfl⟩) hT hS hA [0] [1, 2, 3, 4, 5, 6, 7, 8, 9, 10, 11, 12, 13] rfl rfl rfl (by decide) (by decide) (fun r167 H locs hB J hS => ?_)
        obtain ⟨b_r167, hT1⟩ := hB
        have hT := J _ hT1
        have hT : TP D A [(h13, aJ (k 1) 9 anJ), (h14, aJ (k 1) 36 anJ), (h46, aJ (k 1) 40 anJ), (h47, aJ (k 1) 40 anJ), (h48, aJ (k 1) 40 anJ), (h49, aJ (k 1) 40 anJ), (h0, ob 7 [.ref h1, .ref h2, .int h0f2, .ref h3, .ref h4, .ref h5, .int h0f6, .ref h6, .int h0f8, .ref h7, .ref h8, .int h0f11, .ref h9, .ref h10, .ref h11, .ref h12, .ref h13]), (h4, aQ (k 3) 4 (q4 h18 h19 h20 h21)), (h18, ob 5 [.int h18f0, .int h18f1, .ref h46]), (h19, ob 5 [.int h19f0, .int h19f1, .ref h47]), (h20, ob 5 [.int h20f0, .int h20f1, .ref h48]), (h21, ob 5 [.int h21f0, .int h21f1, .ref h49]), (h1, ob 4 [.int h1f0, .int h1f1, .int h1f2, .ref h14]), (h12, aJ (k 1) 9 anJ)] _ := hT
        refine lv_if_ne (tgt := 62) hx hb dX10_keeps_56 (by decide) (fun c_169 => ?_) (fun c_169 => ?_)
        · skip
          have c_169 := ni_ne c_169 rfl li_0
          refine lv_aload_n hx hb dX10_keeps_62 rfl (lv_at hl 1 rfl) ?_
          refine tcI (Tc := [(h0, ob 7 [.ref h1, .ref h2, .int h0f2, .ref h3, .ref h4, .ref h5, .int h0f6, .ref h6, .int h0f8, .ref h7, .ref h8, .int h0f11, .ref h9, .ref h10, .ref h11, .ref h12, .ref h13]), (h1, ob 4 [.int h1f0, .int h1f1, .int h1f2, .ref h14]), (h12, aJ (k 1) 9 anJ), (h13, aJ (k 1) 9 anJ)]) (Tr := [(h14, aJ (k 1) 36 anJ), (h46, aJ (k 1) 40 anJ), (h47, aJ (k 1) 40 anJ), (h48, aJ (k 1) 40 anJ), (h49, aJ (k 1) 40 anJ), (h4, aQ (k 3) 4 (q4 h18 h19 h20 h21)), (h18, ob 5 [.int h18f0, .int h18f1, .ref h46]), (h19, ob 5 [.int h19f0, .int h19f1, .ref h47]), (h20, ob 5 [.int h20f0, .int h20f1, .ref h48]), (h21, ob 5 [.int h21f0, .int h21f1, .ref h49])]) (as := [h0, h1, h12, h13]) (zcV (q0 := 6) (ci := 7) (As := []) (rest := []) (Tc := [(h0, ob 7 [.ref h1, .ref h2, .int h0f2, .ref h3, .ref h4, .ref h5, .int h0f6, .ref h6, .int h0f8, .ref h7, .ref h8, .int h0f11, .ref h9, .ref h10, .ref h11, .ref h12, .ref h13]), (h1, ob 4 [.int h1f0, .int h1f1, .int h1f2, .ref h14]), (h12, aJ (k 1) 9 anJ), (h13, aJ (k 1) 9 anJ)]) hx hb hml hown hU hK hT rfl rfl [6, 12, 13, 0] rfl (by decide) (cX10_isPositiveForm_ec5e0 l D k _ h0 h1 h12 h13 h2 h3 h4 h5 h6 h7 h8 h9 h10 h11 h14 h0f2 h0f6 h0f8 h0f11 h1f0 h1f1 h1f2 (by omega) (by omega) (by omega) (by omega) (by omega) (by omega)) w653 w650 w652 w19 w63 hdX10_isPositiveForm ⟨rfl, rfl⟩ ⟨Nat.le_of_ble_eq_true rfl, Nat.le_of_ble_eq_true rfl⟩ rfl hl.1 (Nat.le_of_ble_eq_true rfl) dX10_keeps_63 ⟨Nat.le_of_ble_eq_true rfl, Nat.le_of_ble_eq_true rfl⟩) hT hS hA [6, 12, 13, 0] [1, 2, 3, 4, 5, 7, 8, 9, 10, 11] rfl rfl rfl (by decide) (by decide) (fun r170 H locs hB J hS => ?_)
          obtain ⟨b_r170, hT1⟩ := hB
          have hT := J _ hT1
          have hT : TP D A [(h14, aJ (k 1) 36 anJ), (h46, aJ (k 1) 40 anJ), (h47, aJ (k 1) 40 anJ), (h48, aJ (k 1) 40 anJ), (h49, aJ (k 1) 40 anJ), (h4, aQ (k 3) 4 (q4 h18 h19 h20 h21)), (h18, ob 5 [.int h18f0, .int h18f1, .ref h46]), (h19, ob 5 [.int h19f0, .int h19f1, .ref h47]), (h20, ob 5 [.int h20f0, .int h20f1, .ref h48]), (h21, ob 5 [.int h21f0, .int h21f1, .ref h49]), (h0, ob 7 [.ref h1, .ref h2, .int h0f2, .ref h3, .ref h4, .ref h5, .int h0f6, .ref h6, .int h0f8, .ref h7, .ref h8, .int h0f11, .ref h9, .ref h10, .ref h11, .ref h12, .ref h13]), (h1, ob 4 [.int h1f0, .int h1f1, .int h1f2, .ref h14]), (h12, aJ (k 1) 9 anJ), (h13, aJ (k 1) 9 anJ)] _ := hT
          refine lv_if_eq (tgt := 80) hx hb dX10_keeps_66 (by decide) (fun c_171 => ?_) (fun c_171 => ?_)
          · skip
            have c_171 := ni_eq c_171 rfl li_0
            refine lv_iconst (v := 0) hx hb dX10_keeps_80 (by decide) ?_
            exact tz_retI (B := B_cX10_keeps_56b43 D k h0 h1 h4 h12 h13 h14 h18 h19 h20 h21 h46 h47 h48 h49 h2 h3 h5 h6 h7 h8 h9 h10 h11 x1 x2 h0f2 h0f6 h0f8 h0f11 h1f0 h1f1 h1f2 h18f0 h18f1 h19f0 h19f1 h20f0 h20f1 h21f0 h21f1) (v := 0) hQ hx hb hr hlocks hS (Nat.le_of_ble_eq_true rfl) (Nat.le_of_ble_eq_true rfl) dX10_keeps_81 (⟨(by have := li_0; omega), (hT.sub [10, 11, 5, 12, 13, 0, 6, 7, 8, 9, 1, 2, 3, 4] (by decide) rfl)⟩)
          · skip
            have c_171 := ni_ne c_171 rfl li_0
            refine lv_aload_n hx hb dX10_keeps_69 rfl (lv_at hl 1 rfl) ?_
            refine tcI (Tc := [(h0, ob 7 [.ref h1, .ref h2, .int h0f2, .ref h3, .ref h4, .ref h5, .int h0f6, .ref h6, .int h0f8, .ref h7, .ref h8, .int h0f11, .ref h9, .ref h10, .ref h11, .ref h12, .ref h13]), (h1, ob 4 [.int h1f0, .int h1f1, .int h1f2, .ref h14]), (h12, aJ (k 1) 9 anJ), (h13, aJ (k 1) 9 anJ), (h14, aJ (k 1) 36 anJ)]) (Tr := [(h46, aJ (k 1) 40 anJ), (h47, aJ (k 1) 40 anJ), (h48, aJ (k 1) 40 anJ), (h49, aJ (k 1) 40 anJ), (h4, aQ (k 3) 4 (q4 h18 h19 h20 h21)), (h18, ob 5 [.int h18f0, .int h18f1, .ref h46]), (h19, ob 5 [.int h19f0, .int h19f1, .ref h47]), (h20, ob 5 [.int h20f0, .int h20f1, .ref h48]), (h21, ob 5 [.int h21f0, .int h21f1, .ref h49])]) (as := [h0, h1, h12, h13, h14]) (zcV (q0 := 10) (ci := 7) (As := []) (rest := []) (Tc := [(h0, ob 7 [.ref h1, .ref h2, .int h0f2, .ref h3, .ref h4, .ref h5, .int h0f6, .ref h6, .int h0f8, .ref h7, .ref h8, .int h0f11, .ref h9, .ref h10, .ref h11, .ref h12, .ref h13]), (h1, ob 4 [.int h1f0, .int h1f1, .int h1f2, .ref h14]), (h12, aJ (k 1) 9 anJ), (h13, aJ (k 1) 9 anJ), (h14, aJ (k 1) 36 anJ)]) hx hb hml hown hU hK hT rfl rfl [10, 11, 12, 13, 0] rfl (by decide) (cX10_noGeneratorChangesForm_03344 l D k _ h0 h1 h12 h13 h14 h2 h3 h4 h5 h6 h7 h8 h9 h10 h11 h0f2 h0f6 h0f8 h0f11 h1f0 h1f1 h1f2 (by omega) (by omega) (by omega) (by omega) (by omega) (by omega)) w657 w654 w656 w20 w63 hdX10_noGeneratorChangesForm ⟨rfl, rfl⟩ ⟨Nat.le_of_ble_eq_true rfl, Nat.le_of_ble_eq_true rfl⟩ rfl hl.1 (Nat.le_of_ble_eq_true rfl) dX10_keeps_70 ⟨Nat.le_of_ble_eq_true rfl, Nat.le_of_ble_eq_true rfl⟩) hT hS hA [10, 11, 12, 13, 0] [1, 2, 3, 4, 5, 6, 7, 8, 9] rfl rfl rfl (by decide) (by decide) (fun r172 H locs hB J hS => ?_)
            obtain ⟨b_r172, hT1⟩ := hB
            have hT := J _ hT1
            have hT : TP D A [(h46, aJ (k 1) 40 anJ), (h47, aJ (k 1) 40 anJ), (h48, aJ (k 1) 40 anJ), (h49, aJ (k 1) 40 anJ), (h4, aQ (k 3) 4 (q4 h18 h19 h20 h21)), (h18, ob 5 [.int h18f0, .int h18f1, .ref h46]), (h19, ob 5 [.int h19f0, .int h19f1, .ref h47]), (h20, ob 5 [.int h20f0, .int h20f1, .ref h48]), (h21, ob 5 [.int h21f0, .int h21f1, .ref h49]), (h0, ob 7 [.ref h1, .ref h2, .int h0f2, .ref h3, .ref h4, .ref h5, .int h0f6, .ref h6, .int h0f8, .ref h7, .ref h8, .int h0f11, .ref h9, .ref h10, .ref h11, .ref h12, .ref h13]), (h1, ob 4 [.int h1f0, .int h1f1, .int h1f2, .ref h14]), (h12, aJ (k 1) 9 anJ), (h13, aJ (k 1) 9 anJ), (h14, aJ (k 1) 36 anJ)] _ := hT
            refine lv_if_eq (tgt := 80) hx hb dX10_keeps_73 (by decide) (fun c_173 => ?_) (fun c_173 => ?_)
            · skip
              have c_173 := ni_eq c_173 rfl li_0
              refine lv_iconst (v := 0) hx hb dX10_keeps_80 (by decide) ?_
              exact tz_retI (B := B_cX10_keeps_56b43 D k h0 h1 h4 h12 h13 h14 h18 h19 h20 h21 h46 h47 h48 h49 h2 h3 h5 h6 h7 h8 h9 h10 h11 x1 x2 h0f2 h0f6 h0f8 h0f11 h1f0 h1f1 h1f2 h18f0 h18f1 h19f0 h19f1 h20f0 h20f1 h21f0 h21f1) (v := 0) hQ hx hb hr hlocks hS (Nat.le_of_ble_eq_true rfl) (Nat.le_of_ble_eq_true rfl) dX10_keeps_81 (⟨(by have := li_0; omega), (hT.sub [9, 10, 4, 11, 12, 13, 5, 6, 7, 8, 0, 1, 2, 3] (by decide) rfl)⟩)
            · skip
              have c_173 := ni_ne c_173 rfl li_0
              refine lv_iconst (v := 1) hx hb dX10_keeps_76 (by decide) ?_
              refine lv_goto (tgt := 81) hx hb dX10_keeps_77 (by decide) ?_
              exact tz_retI (B := B_cX10_keeps_56b43 D k h0 h1 h4 h12 h13 h14 h18 h19 h20 h21 h46 h47 h48 h49 h2 h3 h5 h6 h7 h8 h9 h10 h11 x1 x2 h0f2 h0f6 h0f8 h0f11 h1f0 h1f1 h1f2 h18f0 h18f1 h19f0 h19f1 h20f0 h20f1 h21f0 h21f1) (v := 1) hQ hx hb hr hlocks hS (Nat.le_of_ble_eq_true rfl) (Nat.le_of_ble_eq_true rfl) dX10_keeps_81 (⟨(by have := li_1; omega), (hT.sub [9, 10, 4, 11, 12, 13, 5, 6, 7, 8, 0, 1, 2, 3] (by decide) rfl)⟩)
        · skip
          have c_169 := ni_eq c_169 rfl li_0
          refine lv_bipush (v := (-16)) hx hb dX10_keeps_59 (by decide) ?_
          exact tz_retI (B := B_cX10_keeps_56b43 D k h0 h1 h4 h12 h13 h14 h18 h19 h20 h21 h46 h47 h48 h49 h2 h3 h5 h6 h7 h8 h9 h10 h11 x1 x2 h0f2 h0f6 h0f8 h0f11 h1f0 h1f1 h1f2 h18f0 h18f1 h19f0 h19f1 h20f0 h20f1 h21f0 h21f1) (v := (-16)) hQ hx hb hr hlocks hS (Nat.le_of_ble_eq_true rfl) (Nat.le_of_ble_eq_true rfl) dX10_keeps_61 (⟨(by have := li_m16; omega), (hT.sub [6, 12, 7, 13, 0, 1, 8, 9, 10, 11, 2, 3, 4, 5] (by decide) rfl)⟩)
      · skip
        have hT := J _ hT1
        have hT : TP D A [(h12, aJ (k 1) 9 anJ), (h13, aJ (k 1) 9 anJ), (h14, aJ (k 1) 36 anJ), (h46, aJ (k 1) 40 anJ), (h47, aJ (k 1) 40 anJ), (h48, aJ (k 1) 40 anJ), (h49, aJ (k 1) 40 anJ), (h0, ob 7 [.ref h1, .ref h2, .int h0f2, .ref h3, .ref h4, .ref h5, .int h0f6, .ref h6, .int h0f8, .ref h7, .ref h8, .int h0f11, .ref h9, .ref h10, .ref h11, .ref h12, .ref h13]), (h4, aQ (k 3) 4 (q4 h18 h19 h20 h21)), (h18, ob 5 [.int h18f0, .int h18f1, .ref h46]), (h19, ob 5 [.int h19f0, .int h19f1, .ref h47]), (h20, ob 5 [.int h20f0, .int h20f1, .ref h48]), (h21, ob 5 [.int h21f0, .int h21f1, .ref h49]), (h1, ob 4 [.int h1f0, .int h1f1, .int h1f2, .ref h14])] _ := hT
        exfalso; omega
      · skip
        have hT := J _ hT1
        have hT : TP D A [(h12, aJ (k 1) 9 anJ), (h13, aJ (k 1) 9 anJ), (h14, aJ (k 1) 36 anJ), (h46, aJ (k 1) 40 anJ), (h47, aJ (k 1) 40 anJ), (h48, aJ (k 1) 40 anJ), (h49, aJ (k 1) 40 anJ), (h0, ob 7 [.ref h1, .ref h2, .int h0f2, .ref h3, .ref h4, .ref h5, .int h0f6, .ref h6, .int h0f8, .ref h7, .ref h8, .int h0f11, .ref h9, .ref h10, .ref h11, .ref h12, .ref h13]), (h4, aQ (k 3) 4 (q4 h18 h19 h20 h21)), (h18, ob 5 [.int h18f0, .int h18f1, .ref h46]), (h19, ob 5 [.int h19f0, .int h19f1, .ref h47]), (h20, ob 5 [.int h20f0, .int h20f1, .ref h48]), (h21, ob 5 [.int h21f0, .int h21f1, .ref h49]), (h1, ob 4 [.int h1f0, .int h1f1, .int h1f2, .ref h14])] _ := hT
        exfalso; omega
    · skip
      have hT := J _ hT1
      have hT : TP D A [(h12, aJ (k 1) 9 anJ), (h13, aJ (k 1) 9 anJ), (h14, aJ (k 1) 36 anJ), (h46, aJ (k 1) 40 anJ), (h47, aJ (k 1) 40 anJ), (h48, aJ (k 1) 40 anJ), (h49, aJ (k 1) 40 anJ), (h0, ob 7 [.ref h1, .ref h2, .int h0f2, .ref h3, .ref h4, .ref h5, .int h0f6, .ref h6, .int h0f8, .ref h7, .ref h8, .int h0f11, .ref h9, .ref h10, .ref h11, .ref h12, .ref h13]), (h4, aQ (k 3) 4 (q4 h18 h19 h20 h21)), (h18, ob 5 [.int h18f0, .int h18f1, .ref h46]), (h19, ob 5 [.int h19f0, .int h19f1, .ref h47]), (h20, ob 5 [.int h20f0, .int h20f1, .ref h48]), (h21, ob 5 [.int h21f0, .int h21f1, .ref h49]), (h1, ob 4 [.int h1f0, .int h1f1, .int h1f2, .ref h14])] _ := hT
      exfalso; omega
    · skip
      have hT := J _ hT1
      have hT : TP D A [(h12, aJ (k 1) 9 anJ), (h13, aJ (k 1) 9 anJ), (h14, aJ (k 1) 36 anJ), (h46, aJ (k 1) 40 anJ), (h47, aJ (k 1) 40 anJ), (h48, aJ (k 1) 40 anJ), (h49, aJ (k 1) 40 anJ), (h0, ob 7 [.ref h1, .ref h2, .int h0f2, .ref h3, .ref h4, .ref h5, .int h0f6, .ref h6, .int h0f8, .ref h7, .ref h8, .int h0f11, .ref h9, .ref h10, .ref h11, .ref h12, .ref h13]), (h4, aQ (k 3) 4 (q4 h18 h19 h20 h21)), (h18, ob 5 [.int h18f0, .int h18f1, .ref h46]), (h19, ob 5 [.int h19f0, .int h19f1, .ref h47]), (h20, ob 5 [.int h20f0, .int h20f1, .ref h48]), (h21, ob 5 [.int h21f0, .int h21f1, .ref h49]), (h1, ob 4 [.int h1f0, .int h1f1, .int h1f2, .ref h14])] _ := hT
      exfalso; omega
  · skip
    have hT := J _ hT1
    have hT : TP D A [(h12, aJ (k 1) 9 anJ), (h13, aJ (k 1) 9 anJ), (h14, aJ (k 1) 36 anJ), (h46, aJ (k 1) 40 anJ), (h47, aJ (k 1) 40 anJ), (h48, aJ (k 1) 40 anJ), (h49, aJ (k 1) 40 anJ), (h0, ob 7 [.ref h1, .ref h2, .int h0f2, .ref h3, .ref h4, .ref h5, .int h0f6, .ref h6, .int h0f8, .ref h7, .ref h8, .int h0f11, .ref h9, .ref h10, .ref h11, .ref h12, .ref h13]), (h1, ob 4 [.int h1f0, .int h1f1, .int h1f2, .ref h14]), (h4, aQ (k 3) 4 (q4 h18 h19 h20 h21)), (h18, ob 5 [.int h18f0, .int h18f1, .ref h46]), (h19, ob 5 [.int h19f0, .int h19f1, .ref h47]), (h20, ob 5 [.int h20f0, .int h20f1, .ref h48]), (h21, ob 5 [.int h21f0, .int h21f1, .ref h49])] _ := hT
    refine lv_istore_n (lv' := [(3, .int 0), (0, .ref h0), (1, .int x1), (2, .int x2)]) hx hb dX10_keeps_7 rfl hl (by decide) rfl (fun ls hl => ?_)
    refine lv_iload_n hx hb dX10_keeps_8 rfl (lv_at hl 0 rfl) ?_
    refine lv_if_eq (tgt := 14) hx hb dX10_keeps_9 (by decide) (fun _ => ?_) (fun cc => absurd (by decide +kernel) cc)
    refine lv_aload_n hx hb dX10_keeps_14 rfl (lv_at hl 1 rfl) ?_
    refine tz_get (ci := 7) (v := .ref h4) (C := RX10) (F := TX10) (N := 17) hx hb hU iX10 hown hK hT 7 rfl rfl 4 (by decide) w253 (fun _ h9 => h9) rfl dX10_keeps_15 ?_
    refine lv_iload_n hx hb dX10_keeps_18 rfl (lv_at hl 2 rfl) ?_
    have hq174 : x1.toInt = 0 := by omega
    refine tz_aldq (b := h18) hx hb hK hT 9 rfl (vp_in_iff.mpr (by have := hq174; omega)) (fun f hf => by rw [cl_of hq174]; exact hf.1) dX10_keeps_19 ?_
    refine tz_get (ci := 5) (v := .ref h46) (C := RX6) (F := TX6) (N := 3) hx hb hU iX6 hown hK hT 10 rfl rfl 2 (by decide) w241 (fun _ h9 => h9) rfl dX10_keeps_20 ?_
    refine lv_iload_n hx hb dX10_keeps_23 rfl (lv_at hl 3 rfl) ?_
    refine lv_aload_n hx hb dX10_keeps_24 rfl (lv_at hl 1 rfl) ?_
    refine tz_get (ci := 7) (v := .ref h12) (C := RX10) (F := TX10) (N := 17) hx hb hU iX10 hown hK hT 7 rfl rfl 15 (by decide) w264 (fun _ h9 => h9) rfl dX10_keeps_25 ?_
    refine lv_iconst (v := 0) hx hb dX10_keeps_28 (by decide) ?_
    refine lv_aload_n hx hb dX10_keeps_29 rfl (lv_at hl 1 rfl) ?_
    refine tz_get (ci := 7) (v := .ref h1) (C := RX10) (F := TX10) (N := 17) hx hb hU iX10 hown hK hT 7 rfl rfl 0 (by decide) w249 (fun _ h9 => h9) rfl dX10_keeps_30 ?_
    refine tcI (Tc := [(h1, ob 4 [.int h1f0, .int h1f1, .int h1f2, .ref h14])]) (Tr := [(h12, aJ (k 1) 9 anJ), (h13, aJ (k 1) 9 anJ), (h14, aJ (k 1) 36 anJ), (h46, aJ (k 1) 40 anJ), (h47, aJ (k 1) 40 anJ), (h48, aJ (k 1) 40 anJ), (h49, aJ (k 1) 40 anJ), (h0, ob 7 [.ref h1, .ref h2, .int h0f2, .ref h3, .ref h4, .ref h5, .int h0f6, .ref h6, .int h0f8, .ref h7, .ref h8, .int h0f11, .ref h9, .ref h10, .ref h11, .ref h12, .ref h13]), (h4, aQ (k 3) 4 (q4 h18 h19 h20 h21)), (h18, ob 5 [.int h18f0, .int h18f1, .ref h46]), (h19, ob 5 [.int h19f0, .int h19f1, .ref h47]), (h20, ob 5 [.int h20f0, .int h20f1, .ref h48]), (h21, ob 5 [.int h21f0, .int h21f1, .ref h49])]) (as := [h1]) (zcV (q0 := 8) (ci := 4) (As := []) (rest := [.int 0, .ref h12, .int x2, .ref h46]) (Tc := [(h1, ob 4 [.int h1f0, .int h1f1, .int h1f2, .ref h14])]) hx hb hml hown hU hK hT rfl rfl [8] rfl (by decide) (cX5_cellCount_f3983 l D k _ h1 h14 h1f0 h1f1 h1f2 (by omega) (by omega)) w385 w382 w383 w384 w64 hdX5_cellCount ⟨rfl, rfl⟩ ⟨Nat.le_of_ble_eq_true rfl, Nat.le_of_ble_eq_true rfl⟩ rfl hl.1 (Nat.le_of_ble_eq_true rfl) dX10_keeps_33 ⟨Nat.le_of_ble_eq_true rfl, Nat.le_of_ble_eq_true rfl⟩) hT hS hA [8] [0, 1, 2, 3, 4, 5, 6, 7, 9, 10, 11, 12, 13] rfl rfl rfl (by decide) (by decide) (fun r175 H locs hB J hS => ?_)
    rcases hB with ⟨v176, b_v176, c_177, c_178, rfl, hT1⟩ | ⟨v179, b_v179, c_180, c_181, rfl, hT1⟩ | ⟨v182, b_v182, c_183, c_184, rfl, hT1⟩
    · skip
      have hT := J _ hT1
      have hT : TP D A [(h12, aJ (k 1) 9 anJ), (h13, aJ (k 1) 9 anJ), (h14, aJ (k 1) 36 anJ), (h46, aJ (k 1) 40 anJ), (h47, aJ (k 1) 40 anJ), (h48, aJ (k 1) 40 anJ), (h49, aJ (k 1) 40 anJ), (h0, ob 7 [.ref h1, .ref h2, .int h0f2, .ref h3, .ref h4, .ref h5, .int h0f6, .ref h6, .int h0f8, .ref h7, .ref h8, .int h0f11, .ref h9, .ref h10, .ref h11, .ref h12, .ref h13]), (h4, aQ (k 3) 4 (q4 h18 h19 h20 h21)), (h18, ob 5 [.int h18f0, .int h18f1, .ref h46]), (h19, ob 5 [.int h19f0, .int h19f1, .ref h47]), (h20, ob 5 [.int h20f0, .int h20f1, .ref h48]), (h21, ob 5 [.int h21f0, .int h21f1, .ref h49]), (h1, ob 4 [.int h1f0, .int h1f1, .int h1f2, .ref h14])] _ := hT
      exfalso; omega
    · skip
      have hT := J _ hT1
      have hT : TP D A [(h12, aJ (k 1) 9 anJ), (h13, aJ (k 1) 9 anJ), (h14, aJ (k 1) 36 anJ), (h46, aJ (k 1) 40 anJ), (h47, aJ (k 1) 40 anJ), (h48, aJ (k 1) 40 anJ), (h49, aJ (k 1) 40 anJ), (h0, ob 7 [.ref h1, .ref h2, .int h0f2, .ref h3, .ref h4, .ref h5, .int h0f6, .ref h6, .int h0f8, .ref h7, .ref h8, .int h0f11, .ref h9, .ref h10, .ref h11, .ref h12, .ref h13]), (h4, aQ (k 3) 4 (q4 h18 h19 h20 h21)), (h18, ob 5 [.int h18f0, .int h18f1, .ref h46]), (h19, ob 5 [.int h19f0, .int h19f1, .ref h47]), (h20, ob 5 [.int h20f0, .int h20f1, .ref h48]), (h21, ob 5 [.int h21f0, .int h21f1, .ref h49]), (h1, ob 4 [.int h1f0, .int h1f1, .int h1f2, .ref h14])] _ := hT
      refine tz_copyl hx hb (by rw [hml]; exact hl.1.symm) hown hU w410 w348 w347 w75 hK hT hS 3 0 rfl rfl (by have := li_0; omega) (fun _ _ _ _ => trivial) (Nat.le_of_ble_eq_true rfl) (Nat.le_of_ble_eq_true rfl) dX10_keeps_36 (fun H locs hT hS => ?_)
      refine lv_aload_n hx hb dX10_keeps_39 rfl (lv_at hl 1 rfl) ?_
      refine tz_get (ci := 7) (v := .ref h12) (C := RX10) (F := TX10) (N := 17) hx hb hU iX10 hown hK hT 7 rfl rfl 15 (by decide) w264 (fun _ h9 => h9) rfl dX10_keeps_40 ?_
      refine lv_aload_n hx hb dX10_keeps_43 rfl (lv_at hl 1 rfl) ?_
      refine tz_get (ci := 7) (v := .ref h1) (C := RX10) (F := TX10) (N := 17) hx hb hU iX10 hown hK hT 7 rfl rfl 0 (by decide) w249 (fun _ h9 => h9) rfl dX10_keeps_44 ?_
      refine tcI (Tc := [(h1, ob 4 [.int h1f0, .int h1f1, .int h1f2, .ref h14])]) (Tr := [(h12, aJ (k 1) 9 anJ), (h13, aJ (k 1) 9 anJ), (h14, aJ (k 1) 36 anJ), (h46, aJ (k 1) 40 anJ), (h47, aJ (k 1) 40 anJ), (h48, aJ (k 1) 40 anJ), (h49, aJ (k 1) 40 anJ), (h0, ob 7 [.ref h1, .ref h2, .int h0f2, .ref h3, .ref h4, .ref h5, .int h0f6, .ref h6, .int h0f8, .ref h7, .ref h8, .int h0f11, .ref h9, .ref h10, .ref h11, .ref h12, .ref h13]), (h4, aQ (k 3) 4 (q4 h18 h19 h20 h21)), (h18, ob 5 [.int h18f0, .int h18f1, .ref h46]), (h19, ob 5 [.int h19f0, .int h19f1, .ref h47]), (h20, ob 5 [.int h20f0, .int h20f1, .ref h48]), (h21, ob 5 [.int h21f0, .int h21f1, .ref h49])]) (as := [h1]) (zcV (q0 := 13) (ci := 4) (As := []) (rest := [.ref h12]) (Tc := [(h1, ob 4 [.int h1f0, .int h1f1, .int h1f2, .ref h14])]) hx hb hml hown hU hK hT rfl rfl [13] rfl (by decide) (cX5_cellCount_f3983 l D k _ h1 h14 h1f0 h1f1 h1f2 (by omega) (by omega)) w385 w382 w383 w384 w64 hdX5_cellCount ⟨rfl, rfl⟩ ⟨Nat.le_of_ble_eq_true rfl, Nat.le_of_ble_eq_true rfl⟩ rfl hl.1 (Nat.le_of_ble_eq_true rfl) dX10_keeps_47 ⟨Nat.le_of_ble_eq_true rfl, Nat.le_of_ble_eq_true rfl⟩) hT hS hA [13] [0, 1, 2, 3, 4, 5, 6, 7, 8, 9, 10, 11, 12] rfl rfl rfl (by decide) (by decide) (fun r185 H locs hB J hS => ?_)
      rcases hB with ⟨v186, b_v186, c_187, c_188, rfl, hT1⟩ | ⟨v189, b_v189, c_190, c_191, rfl, hT1⟩ | ⟨v192, b_v192, c_193, c_194, rfl, hT1⟩
      · skip
        have hT := J _ hT1
        have hT : TP D A [(h12, aJ (k 1) 9 anJ), (h13, aJ (k 1) 9 anJ), (h14, aJ (k 1) 36 anJ), (h46, aJ (k 1) 40 anJ), (h47, aJ (k 1) 40 anJ), (h48, aJ (k 1) 40 anJ), (h49, aJ (k 1) 40 anJ), (h0, ob 7 [.ref h1, .ref h2, .int h0f2, .ref h3, .ref h4, .ref h5, .int h0f6, .ref h6, .int h0f8, .ref h7, .ref h8, .int h0f11, .ref h9, .ref h10, .ref h11, .ref h12, .ref h13]), (h4, aQ (k 3) 4 (q4 h18 h19 h20 h21)), (h18, ob 5 [.int h18f0, .int h18f1, .ref h46]), (h19, ob 5 [.int h19f0, .int h19f1, .ref h47]), (h20, ob 5 [.int h20f0, .int h20f1, .ref h48]), (h21, ob 5 [.int h21f0, .int h21f1, .ref h49]), (h1, ob 4 [.int h1f0, .int h1f1, .int h1f2, .ref h14])] _ := hT
        exfalso; omega
      · skip
        have hT := J _ hT1
        have hT : TP D A [(h12, aJ (k 1) 9 anJ), (h13, aJ (k 1) 9 anJ), (h14, aJ (k 1) 36 anJ), (h46, aJ (k 1) 40 anJ), (h47, aJ (k 1) 40 anJ), (h48, aJ (k 1) 40 anJ), (h49, aJ (k 1) 40 anJ), (h0, ob 7 [.ref h1, .ref h2, .int h0f2, .ref h3, .ref h4, .ref h5, .int h0f6, .ref h6, .int h0f8, .ref h7, .ref h8, .int h0f11, .ref h9, .ref h10, .ref h11, .ref h12, .ref h13]), (h4, aQ (k 3) 4 (q4 h18 h19 h20 h21)), (h18, ob 5 [.int h18f0, .int h18f1, .ref h46]), (h19, ob 5 [.int h19f0, .int h19f1, .ref h47]), (h20, ob 5 [.int h20f0, .int h20f1, .ref h48]), (h21, ob 5 [.int h21f0, .int h21f1, .ref h49]), (h1, ob 4 [.int h1f0, .int h1f1, .int h1f2, .ref h14])] _ := hT
        refine lv_ldc2 hx hb hown (hU _ w649) dX10_keeps_50 ?_
        have q_q196 := ll_1000000
        refine tcI (Tc := [(h12, aJ (k 1) 9 anJ)]) (Tr := [(h13, aJ (k 1) 9 anJ), (h14, aJ (k 1) 36 anJ), (h46, aJ (k 1) 40 anJ), (h47, aJ (k 1) 40 anJ), (h48, aJ (k 1) 40 anJ), (h49, aJ (k 1) 40 anJ), (h0, ob 7 [.ref h1, .ref h2, .int h0f2, .ref h3, .ref h4, .ref h5, .int h0f6, .ref h6, .int h0f8, .ref h7, .ref h8, .int h0f11, .ref h9, .ref h10, .ref h11, .ref h12, .ref h13]), (h4, aQ (k 3) 4 (q4 h18 h19 h20 h21)), (h18, ob 5 [.int h18f0, .int h18f1, .ref h46]), (h19, ob 5 [.int h19f0, .int h19f1, .ref h47]), (h20, ob 5 [.int h20f0, .int h20f1, .ref h48]), (h21, ob 5 [.int h21f0, .int h21f1, .ref h49]), (h1, ob 4 [.int h1f0, .int h1f1, .int h1f2, .ref h14])]) (as := [h12]) (zcS (As := [.ref h12, .int v189, .long 1000000]) (rest := []) (Tc := [(h12, aJ (k 1) 9 anJ)]) hx hb hml hown hU hK hT [0] rfl (by decide) (cX7_isWithin_443ab l D k _ h12 v189 (1000000) (by omega) (by have := ll_1000000; omega)) w389 w387 w388 w74 hdX7_isWithin ⟨rfl, rfl⟩ ⟨Nat.le_of_ble_eq_true rfl, Nat.le_of_ble_eq_true rfl⟩ rfl hl.1 (Nat.le_of_ble_eq_true rfl) dX10_keeps_53 ⟨Nat.le_of_ble_eq_true rfl, Nat.le_of_ble_eq_true rfl⟩) hT hS hA [0] [1, 2, 3, 4, 5, 6, 7, 8, 9, 10, 11, 12, 13] rfl rfl rfl (by decide) (by decide) (fun r195 H locs hB J hS => ?_)
        obtain ⟨b_r195, hT1⟩ := hB
        have hT := J _ hT1
        have hT : TP D A [(h13, aJ (k 1) 9 anJ), (h14, aJ (k 1) 36 anJ), (h46, aJ (k 1) 40 anJ), (h47, aJ (k 1) 40 anJ), (h48, aJ (k 1) 40 anJ), (h49, aJ (k 1) 40 anJ), (h0, ob 7 [.ref h1, .ref h2, .int h0f2, .ref h3, .ref h4, .ref h5, .int h0f6, .ref h6, .int h0f8, .ref h7, .ref h8, .int h0f11, .ref h9, .ref h10, .ref h11, .ref h12, .ref h13]), (h4, aQ (k 3) 4 (q4 h18 h19 h20 h21)), (h18, ob 5 [.int h18f0, .int h18f1, .ref h46]), (h19, ob 5 [.int h19f0, .int h19f1, .ref h47]), (h20, ob 5 [.int h20f0, .int h20f1, .ref h48]), (h21, ob 5 [.int h21f0, .int h21f1, .ref h49]), (h1, ob 4 [.int h1f0, .int h1f1, .int h1f2, .ref h14]), (h12, aJ (k 1) 9 anJ)] _ := hT
        refine lv_if_ne (tgt := 62) hx hb dX10_keeps_56 (by decide) (fun c_197 => ?_) (fun c_197 => ?_)
        · skip
          have c_197 := ni_ne c_197 rfl li_0
          refine lv_aload_n hx hb dX10_keeps_62 rfl (lv_at hl 1 rfl) ?_
          refine tcI (Tc := [(h0, ob 7 [.ref h1, .ref h2, .int h0f2, .ref h3, .ref h4, .ref h5, .int h0f6, .ref h6, .int h0f8, .ref h7, .ref h8, .int h0f11, .ref h9, .ref h10, .ref h11, .ref h12, .ref h13]), (h1, ob 4 [.int h1f0, .int h1f1, .int h1f2, .ref h14]), (h12, aJ (k 1) 9 anJ), (h13, aJ (k 1) 9 anJ)]) (Tr := [(h14, aJ (k 1) 36 anJ), (h46, aJ (k 1) 40 anJ), (h47, aJ (k 1) 40 anJ), (h48, aJ (k 1) 40 anJ), (h49, aJ (k 1) 40 anJ), (h4, aQ (k 3) 4 (q4 h18 h19 h20 h21)), (h18, ob 5 [.int h18f0, .int h18f1, .ref h46]), (h19, ob 5 [.int h19f0, .int h19f1, .ref h47]), (h20, ob 5 [.int h20f0, .int h20f1, .ref h48]), (h21, ob 5 [.int h21f0, .int h21f1, .ref h49])]) (as := [h0, h1, h12, h13]) (zcV (q0 := 6) (ci := 7) (As := []) (rest := []) (Tc := [(h0, ob 7 [.ref h1, .ref h2, .int h0f2, .ref h3, .ref h4, .ref h5, .int h0f6, .ref h6, .int h0f8, .ref h7, .ref h8, .int h0f11, .ref h9, .ref h10, .ref h11, .ref h12, .ref h13]), (h1, ob 4 [.int h1f0, .int h1f1, .int h1f2, .ref h14]), (h12, aJ (k 1) 9 anJ), (h13, aJ (k 1) 9 anJ)]) hx hb hml hown hU hK hT rfl rfl [6, 12, 13, 0] rfl (by decide) (cX10_isPositiveForm_ec5e0 l D k _ h0 h1 h12 h13 h2 h3 h4 h5 h6 h7 h8 h9 h10 h11 h14 h0f2 h0f6 h0f8 h0f11 h1f0 h1f1 h1f2 (by omega) (by omega) (by omega) (by omega) (by omega) (by omega)) w653 w650 w652 w19 w63 hdX10_isPositiveForm ⟨rfl, rfl⟩ ⟨Nat.le_of_ble_eq_true rfl, Nat.le_of_ble_eq_true rfl⟩ rfl hl.1 (Nat.le_of_ble_eq_true rfl) dX10_keeps_63 ⟨Nat.le_of_ble_eq_true rfl, Nat.le_of_ble_eq_true rfl⟩) hT hS hA [6, 12, 13, 0] [1, 2, 3, 4, 5, 7, 8, 9, 10, 11] rfl rfl rfl (by decide) (by decide) (fun r198 H locs hB J hS => ?_)
          obtain ⟨b_r198, hT1⟩ := hB
          have hT := J _ hT1
          have hT : TP D A [(h14, aJ (k 1) 36 anJ), (h46, aJ (k 1) 40 anJ), (h47, aJ (k 1) 40 anJ), (h48, aJ (k 1) 40 anJ), (h49, aJ (k 1) 40 anJ), (h4, aQ (k 3) 4 (q4 h18 h19 h20 h21)), (h18, ob 5 [.int h18f0, .int h18f1, .ref h46]), (h19, ob 5 [.int h19f0, .int h19f1, .ref h47]), (h20, ob 5 [.int h20f0, .int h20f1, .ref h48]), (h21, ob 5 [.int h21f0, .int h21f1, .ref h49]), (h0, ob 7 [.ref h1, .ref h2, .int h0f2, .ref h3, .ref h4, .ref h5, .int h0f6, .ref h6, .int h0f8, .ref h7, .ref h8, .int h0f11, .ref h9, .ref h10, .ref h11, .ref h12, .ref h13]), (h1, ob 4 [.int h1f0, .int h1f1, .int h1f2, .ref h14]), (h12, aJ (k 1) 9 anJ), (h13, aJ (k 1) 9 anJ)] _ := hT
          refine lv_if_eq (tgt := 80) hx hb dX10_keeps_66 (by decide) (fun c_199 => ?_) (fun c_199 => ?_)
          · skip
            have c_199 := ni_eq c_199 rfl li_0
            refine lv_iconst (v := 0) hx hb dX10_keeps_80 (by decide) ?_
            exact tz_retI (B := B_cX10_keeps_56b43 D k h0 h1 h4 h12 h13 h14 h18 h19 h20 h21 h46 h47 h48 h49 h2 h3 h5 h6 h7 h8 h9 h10 h11 x1 x2 h0f2 h0f6 h0f8 h0f11 h1f0 h1f1 h1f2 h18f0 h18f1 h19f0 h19f1 h20f0 h20f1 h21f0 h21f1) (v := 0) hQ hx hb hr hlocks hS (Nat.le_of_ble_eq_true rfl) (Nat.le_of_ble_eq_true rfl) dX10_keeps_81 (⟨(by have := li_0; omega), (hT.sub [10, 11, 5, 12, 13, 0, 6, 7, 8, 9, 1, 2, 3, 4] (by decide) rfl)⟩)
          · skip
            have c_199 := ni_ne c_199 rfl li_0
            refine lv_aload_n hx hb dX10_keeps_69 rfl (lv_at hl 1 rfl) ?_
            refine tcI (Tc := [(h0, ob 7 [.ref h1, .ref h2, .int h0f2, .ref h3, .ref h4, .ref h5, .int h0f6, .ref h6, .int h0f8, .ref h7, .ref h8, .int h0f11, .ref h9, .ref h10, .ref h11, .ref h12, .ref h13]), (h1, ob 4 [.int h1f0, .int h1f1, .int h1f2, .ref h14]), (h12, aJ (k 1) 9 anJ), (h13, aJ (k 1) 9 anJ), (h14, aJ (k 1) 36 anJ)]) (Tr := [(h46, aJ (k 1) 40 anJ), (h47, aJ (k 1) 40 anJ), (h48, aJ (k 1) 40 anJ), (h49, aJ (k 1) 40 anJ), (h4, aQ (k 3) 4 (q4 h18 h19 h20 h21)), (h18, ob 5 [.int h18f0, .int h18f1, .ref h46]), (h19, ob 5 [.int h19f0, .int h19f1, .ref h47]), (h20, ob 5 [.int h20f0, .int h20f1, .ref h48]), (h21, ob 5 [.int h21f0, .int h21f1, .ref h49])]) (as := [h0, h1, h12, h13, h14]) (zcV (q0 := 10) (ci := 7) (As := []) (rest := []) (Tc := [(h0, ob 7 [.ref h1, .ref h2, .int h0f2, .ref h3, .ref h4, .ref h5, .int h0f6, .ref h6, .int h0f8, .ref h7, .ref h8, .int h0f11, .ref h9, .ref h10, .ref h11, .ref h12, .ref h13]), (h1, ob 4 [.int h1f0, .int h1f1, .int h1f2, .ref h14]), (h12, aJ (k 1) 9 anJ), (h13, aJ (k 1) 9 anJ), (h14, aJ (k 1) 36 anJ)]) hx hb hml hown hU hK hT rfl rfl [10, 11, 12, 13, 0] rfl (by decide) (cX10_noGeneratorChangesForm_03344 l D k _ h0 h1 h12 h13 h14 h2 h3 h4 h5 h6 h7 h8 h9 h10 h11 h0f2 h0f6 h0f8 h0f11 h1f0 h1f1 h1f2 (by omega) (by omega) (by omega) (by omega) (by omega) (by omega)) w657 w654 w656 w20 w63 hdX10_noGeneratorChangesForm ⟨rfl, rfl⟩ ⟨Nat.le_of_ble_eq_true rfl, Nat.le_of_ble_eq_true rfl⟩ rfl hl.1 (Nat.le_of_ble_eq_true rfl) dX10_keeps_70 ⟨Nat.le_of_ble_eq_true rfl, Nat.le_of_ble_eq_true rfl⟩) hT hS hA [10, 11, 12, 13, 0] [1, 2, 3, 4, 5, 6, 7, 8, 9] rfl rfl rfl (by decide) (by decide) (fun r200 H locs hB J hS => ?_)
            obtain ⟨b_r200, hT1⟩ := hB
            have hT := J _ hT1
            have hT : TP D A [(h46, aJ (k 1) 40 anJ), (h47, aJ (k 1) 40 anJ), (h48, aJ (k 1) 40 anJ), (h49, aJ (k 1) 40 anJ), (h4, aQ (k 3) 4 (q4 h18 h19 h20 h21)), (h18, ob 5 [.int h18f0, .int h18f1, .ref h46]), (h19, ob 5 [.int h19f0, .int h19f1, .ref h47]), (h20, ob 5 [.int h20f0, .int h20f1, .ref h48]), (h21, ob 5 [.int h21f0, .int h21f1, .ref h49]), (h0, ob 7 [.ref h1, .ref h2, .int h0f2, .ref h3, .ref h4, .ref h5, .int h0f6, .ref h6, .int h0f8, .ref h7, .ref h8, .int h0f11, .ref h9, .ref h10, .ref h11, .ref h12, .ref h13]), (h1, ob 4 [.int h1f0, .int h1f1, .int h1f2, .ref h14]), (h12, aJ (k 1) 9 anJ), (h13, aJ (k 1) 9 anJ), (h14, aJ (k 1) 36 anJ)] _ := hT
            refine lv_if_eq (tgt := 80) hx hb dX10_keeps_73 (by decide) (fun c_201 => ?_) (fun c_201 => ?_)
            · skip
              have c_201 := ni_eq c_201 rfl li_0
              refine lv_iconst (v := 0) hx hb dX10_keeps_80 (by decide) ?_
              exact tz_retI (B := B_cX10_keeps_56b43 D k h0 h1 h4 h12 h13 h14 h18 h19 h20 h21 h46 h47 h48 h49 h2 h3 h5 h6 h7 h8 h9 h10 h11 x1 x2 h0f2 h0f6 h0f8 h0f11 h1f0 h1f1 h1f2 h18f0 h18f1 h19f0 h19f1 h20f0 h20f1 h21f0 h21f1) (v := 0) hQ hx hb hr hlocks hS (Nat.le_of_ble_eq_true rfl) (Nat.le_of_ble_eq_true rfl) dX10_keeps_81 (⟨(by have := li_0; omega), (hT.sub [9, 10, 4, 11, 12, 13, 5, 6, 7, 8, 0, 1, 2, 3] (by decide) rfl)⟩)
            · skip
              have c_201 := ni_ne c_201 rfl li_0
              refine lv_iconst (v := 1) hx hb dX10_keeps_76 (by decide) ?_
              refine lv_goto (tgt := 81) hx hb dX10_keeps_77 (by decide) ?_
              exact tz_retI (B := B_cX10_keeps_56b43 D k h0 h1 h4 h12 h13 h14 h18 h19 h20 h21 h46 h47 h48 h49 h2 h3 h5 h6 h7 h8 h9 h10 h11 x1 x2 h0f2 h0f6 h0f8 h0f11 h1f0 h1f1 h1f2 h18f0 h18f1 h19f0 h19f1 h20f0 h20f1 h21f0 h21f1) (v := 1) hQ hx hb hr hlocks hS (Nat.le_of_ble_eq_true rfl) (Nat.le_of_ble_eq_true rfl) dX10_keeps_81 (⟨(by have := li_1; omega), (hT.sub [9, 10, 4, 11, 12, 13, 5, 6, 7, 8, 0, 1, 2, 3] (by decide) rfl)⟩)
        · skip
          have c_197 := ni_eq c_197 rfl li_0
          refine lv_bipush (v := (-16)) hx hb dX10_keeps_59 (by decide) ?_
          exact tz_retI (B := B_cX10_keeps_56b43 D k h0 h1 h4 h12 h13 h14 h18 h19 h20 h21 h46 h47 h48 h49 h2 h3 h5 h6 h7 h8 h9 h10 h11 x1 x2 h0f2 h0f6 h0f8 h0f11 h1f0 h1f1 h1f2 h18f0 h18f1 h19f0 h19f1 h20f0 h20f1 h21f0 h21f1) (v := (-16)) hQ hx hb hr hlocks hS (Nat.le_of_ble_eq_true rfl) (Nat.le_of_ble_eq_true rfl) dX10_keeps_61 (⟨(by have := li_m16; omega), (hT.sub [6, 12, 7, 13, 0, 1, 8, 9, 10, 11, 2, 3, 4, 5] (by decide) rfl)⟩)
      · skip
        have hT := J _ hT1
        have hT : TP D A [(h12, aJ (k 1) 9 anJ), (h13, aJ (k 1) 9 anJ), (h14, aJ (k 1) 36 anJ), (h46, aJ (k 1) 40 anJ), (h47, aJ (k 1) 40 anJ), (h48, aJ (k 1) 40 anJ), (h49, aJ (k 1) 40 anJ), (h0, ob 7 [.ref h1, .ref h2, .int h0f2, .ref h3, .ref h4, .ref h5, .int h0f6, .ref h6, .int h0f8, .ref h7, .ref h8, .int h0f11, .ref h9, .ref h10, .ref h11, .ref h12, .ref h13]), (h4, aQ (k 3) 4 (q4 h18 h19 h20 h21)), (h18, ob 5 [.int h18f0, .int h18f1, .ref h46]), (h19, ob 5 [.int h19f0, .int h19f1, .ref h47]), (h20, ob 5 [.int h20f0, .int h20f1, .ref h48]), (h21, ob 5 [.int h21f0, .int h21f1, .ref h49]), (h1, ob 4 [.int h1f0, .int h1f1, .int h1f2, .ref h14])] _ := hT
        exfalso; omega
    · skip
      have hT := J _ hT1
      have hT : TP D A [(h12, aJ (k 1) 9 anJ), (h13, aJ (k 1) 9 anJ), (h14, aJ (k 1) 36 anJ), (h46, aJ (k 1) 40 anJ), (h47, aJ (k 1) 40 anJ), (h48, aJ (k 1) 40 anJ), (h49, aJ (k 1) 40 anJ), (h0, ob 7 [.ref h1, .ref h2, .int h0f2, .ref h3, .ref h4, .ref h5, .int h0f6, .ref h6, .int h0f8, .ref h7, .ref h8, .int h0f11, .ref h9, .ref h10, .ref h11, .ref h12, .ref h13]), (h4, aQ (k 3) 4 (q4 h18 h19 h20 h21)), (h18, ob 5 [.int h18f0, .int h18f1, .ref h46]), (h19, ob 5 [.int h19f0, .int h19f1, .ref h47]), (h20, ob 5 [.int h20f0, .int h20f1, .ref h48]), (h21, ob 5 [.int h21f0, .int h21f1, .ref h49]), (h1, ob 4 [.int h1f0, .int h1f1, .int h1f2, .ref h14])] _ := hT
      exfalso; omega
  · skip
    have hT := J _ hT1
    have hT : TP D A [(h12, aJ (k 1) 9 anJ), (h13, aJ (k 1) 9 anJ), (h14, aJ (k 1) 36 anJ), (h46, aJ (k 1) 40 anJ), (h47, aJ (k 1) 40 anJ), (h48, aJ (k 1) 40 anJ), (h49, aJ (k 1) 40 anJ), (h0, ob 7 [.ref h1, .ref h2, .int h0f2, .ref h3, .ref h4, .ref h5, .int h0f6, .ref h6, .int h0f8, .ref h7, .ref h8, .int h0f11, .ref h9, .ref h10, .ref h11, .ref h12, .ref h13]), (h1, ob 4 [.int h1f0, .int h1f1, .int h1f2, .ref h14]), (h4, aQ (k 3) 4 (q4 h18 h19 h20 h21)), (h18, ob 5 [.int h18f0, .int h18f1, .ref h46]), (h19, ob 5 [.int h19f0, .int h19f1, .ref h47]), (h20, ob 5 [.int h20f0, .int h20f1, .ref h48]), (h21, ob 5 [.int h21f0, .int h21f1, .ref h49])] _ := hT
    refine lv_istore_n (lv' := [(3, .int 0), (0, .ref h0), (1, .int x1), (2, .int x2)]) hx hb dX10_keeps_7 rfl hl (by decide) rfl (fun ls hl => ?_)
    refine lv_iload_n hx hb dX10_keeps_8 rfl (lv_at hl 0 rfl) ?_
    refine lv_if_eq (tgt := 14) hx hb dX10_keeps_9 (by decide) (fun _ => ?_) (fun cc => absurd (by decide +kernel) cc)
    refine lv_aload_n hx hb dX10_keeps_14 rfl (lv_at hl 1 rfl) ?_
    refine tz_get (ci := 7) (v := .ref h4) (C := RX10) (F := TX10) (N := 17) hx hb hU iX10 hown hK hT 7 rfl rfl 4 (by decide) w253 (fun _ h9 => h9) rfl dX10_keeps_15 ?_
    refine lv_iload_n hx hb dX10_keeps_18 rfl (lv_at hl 2 rfl) ?_
    have hq202 : x1.toInt = 0 := by omega
    refine tz_aldq (b := h18) hx hb hK hT 9 rfl (vp_in_iff.mpr (by have := hq202; omega)) (fun f hf => by rw [cl_of hq202]; exact hf.1) dX10_keeps_19 ?_
    refine tz_get (ci := 5) (v := .ref h46) (C := RX6) (F := TX6) (N := 3) hx hb hU iX6 hown hK hT 10 rfl rfl 2 (by decide) w241 (fun _ h9 => h9) rfl dX10_keeps_20 ?_
    refine lv_iload_n hx hb dX10_keeps_23 rfl (lv_at hl 3 rfl) ?_
    refine lv_aload_n hx hb dX10_keeps_24 rfl (lv_at hl 1 rfl) ?_
    refine tz_get (ci := 7) (v := .ref h12) (C := RX10) (F := TX10) (N := 17) hx hb hU iX10 hown hK hT 7 rfl rfl 15 (by decide) w264 (fun _ h9 => h9) rfl dX10_keeps_25 ?_
    refine lv_iconst (v := 0) hx hb dX10_keeps_28 (by decide) ?_
    refine lv_aload_n hx hb dX10_keeps_29 rfl (lv_at hl 1 rfl) ?_
    refine tz_get (ci := 7) (v := .ref h1) (C := RX10) (F := TX10) (N := 17) hx hb hU iX10 hown hK hT 7 rfl rfl 0 (by decide) w249 (fun _ h9 => h9) rfl dX10_keeps_30 ?_
    refine tcI (Tc := [(h1, ob 4 [.int h1f0, .int h1f1, .int h1f2, .ref h14])]) (Tr := [(h12, aJ (k 1) 9 anJ), (h13, aJ (k 1) 9 anJ), (h14, aJ (k 1) 36 anJ), (h46, aJ (k 1) 40 anJ), (h47, aJ (k 1) 40 anJ), (h48, aJ (k 1) 40 anJ), (h49, aJ (k 1) 40 anJ), (h0, ob 7 [.ref h1, .ref h2, .int h0f2, .ref h3, .ref h4, .ref h5, .int h0f6, .ref h6, .int h0f8, .ref h7, .ref h8, .int h0f11, .ref h9, .ref h10, .ref h11, .ref h12, .ref h13]), (h4, aQ (k 3) 4 (q4 h18 h19 h20 h21)), (h18, ob 5 [.int h18f0, .int h18f1, .ref h46]), (h19, ob 5 [.int h19f0, .int h19f1, .ref h47]), (h20, ob 5 [.int h20f0, .int h20f1, .ref h48]), (h21, ob 5 [.int h21f0, .int h21f1, .ref h49])]) (as := [h1]) (zcV (q0 := 8) (ci := 4) (As := []) (rest := [.int 0, .ref h12, .int x2, .ref h46]) (Tc := [(h1, ob 4 [.int h1f0, .int h1f1, .int h1f2, .ref h14])]) hx hb hml hown hU hK hT rfl rfl [8] rfl (by decide) (cX5_cellCount_f3983 l D k _ h1 h14 h1f0 h1f1 h1f2 (by omega) (by omega)) w385 w382 w383 w384 w64 hdX5_cellCount ⟨rfl, rfl⟩ ⟨Nat.le_of_ble_eq_true rfl, Nat.le_of_ble_eq_true rfl⟩ rfl hl.1 (Nat.le_of_ble_eq_true rfl) dX10_keeps_33 ⟨Nat.le_of_ble_eq_true rfl, Nat.le_of_ble_eq_true rfl⟩) hT hS hA [8] [0, 1, 2, 3, 4, 5, 6, 7, 9, 10, 11, 12, 13] rfl rfl rfl (by decide) (by decide) (fun r203 H locs hB J hS => ?_)
    rcases hB with ⟨v204, b_v204, c_205, c_206, rfl, hT1⟩ | ⟨v207, b_v207, c_208, c_209, rfl, hT1⟩ | ⟨v210, b_v210, c_211, c_212, rfl, hT1⟩
    · skip
      have hT := J _ hT1
      have hT : TP D A [(h12, aJ (k 1) 9 anJ), (h13, aJ (k 1) 9 anJ), (h14, aJ (k 1) 36 anJ), (h46, aJ (k 1) 40 anJ), (h47, aJ (k 1) 40 anJ), (h48, aJ (k 1) 40 anJ), (h49, aJ (k 1) 40 anJ), (h0, ob 7 [.ref h1, .ref h2, .int h0f2, .ref h3, .ref h4, .ref h5, .int h0f6, .ref h6, .int h0f8, .ref h7, .ref h8, .int h0f11, .ref h9, .ref h10, .ref h11, .ref h12, .ref h13]), (h4, aQ (k 3) 4 (q4 h18 h19 h20 h21)), (h18, ob 5 [.int h18f0, .int h18f1, .ref h46]), (h19, ob 5 [.int h19f0, .int h19f1, .ref h47]), (h20, ob 5 [.int h20f0, .int h20f1, .ref h48]), (h21, ob 5 [.int h21f0, .int h21f1, .ref h49]), (h1, ob 4 [.int h1f0, .int h1f1, .int h1f2, .ref h14])] _ := hT
      exfalso; omega
    · skip
      have hT := J _ hT1
      have hT : TP D A [(h12, aJ (k 1) 9 anJ), (h13, aJ (k 1) 9 anJ), (h14, aJ (k 1) 36 anJ), (h46, aJ (k 1) 40 anJ), (h47, aJ (k 1) 40 anJ), (h48, aJ (k 1) 40 anJ), (h49, aJ (k 1) 40 anJ), (h0, ob 7 [.ref h1, .ref h2, .int h0f2, .ref h3, .ref h4, .ref h5, .int h0f6, .ref h6, .int h0f8, .ref h7, .ref h8, .int h0f11, .ref h9, .ref h10, .ref h11, .ref h12, .ref h13]), (h4, aQ (k 3) 4 (q4 h18 h19 h20 h21)), (h18, ob 5 [.int h18f0, .int h18f1, .ref h46]), (h19, ob 5 [.int h19f0, .int h19f1, .ref h47]), (h20, ob 5 [.int h20f0, .int h20f1, .ref h48]), (h21, ob 5 [.int h21f0, .int h21f1, .ref h49]), (h1, ob 4 [.int h1f0, .int h1f1, .int h1f2, .ref h14])] _ := hT
      exfalso; omega
    · skip
      have hT := J _ hT1
      have hT : TP D A [(h12, aJ (k 1) 9 anJ), (h13, aJ (k 1) 9 anJ), (h14, aJ (k 1) 36 anJ), (h46, aJ (k 1) 40 anJ), (h47, aJ (k 1) 40 anJ), (h48, aJ (k 1) 40 anJ), (h49, aJ (k 1) 40 anJ), (h0, ob 7 [.ref h1, .ref h2, .int h0f2, .ref h3, .ref h4, .ref h5, .int h0f6, .ref h6, .int h0f8, .ref h7, .ref h8, .int h0f11, .ref h9, .ref h10, .ref h11, .ref h12, .ref h13]), (h4, aQ (k 3) 4 (q4 h18 h19 h20 h21)), (h18, ob 5 [.int h18f0, .int h18f1, .ref h46]), (h19, ob 5 [.int h19f0, .int h19f1, .ref h47]), (h20, ob 5 [.int h20f0, .int h20f1, .ref h48]), (h21, ob 5 [.int h21f0, .int h21f1, .ref h49]), (h1, ob 4 [.int h1f0, .int h1f1, .int h1f2, .ref h14])] _ := hT
      refine tz_copyl hx hb (by rw [hml]; exact hl.1.symm) hown hU w410 w348 w347 w75 hK hT hS 3 0 rfl rfl (by have := li_0; omega) (fun _ _ _ _ => trivial) (Nat.le_of_ble_eq_true rfl) (Nat.le_of_ble_eq_true rfl) dX10_keeps_36 (fun H locs hT hS => ?_)
      refine lv_aload_n hx hb dX10_keeps_39 rfl (lv_at hl 1 rfl) ?_
      refine tz_get (ci := 7) (v := .ref h12) (C := RX10) (F := TX10) (N := 17) hx hb hU iX10 hown hK hT 7 rfl rfl 15 (by decide) w264 (fun _ h9 => h9) rfl dX10_keeps_40 ?_
      refine lv_aload_n hx hb dX10_keeps_43 rfl (lv_at hl 1 rfl) ?_
      refine tz_get (ci := 7) (v := .ref h1) (C := RX10) (F := TX10) (N := 17) hx hb hU iX10 hown hK hT 7 rfl rfl 0 (by decide) w249 (fun _ h9 => h9) rfl dX10_keeps_44 ?_
      refine tcI (Tc := [(h1, ob 4 [.int h1f0, .int h1f1, .int h1f2, .ref h14])]) (Tr := [(h12, aJ (k 1) 9 anJ), (h13, aJ (k 1) 9 anJ), (h14, aJ (k 1) 36 anJ), (h46, aJ (k 1) 40 anJ), (h47, aJ (k 1) 40 anJ), (h48, aJ (k 1) 40 anJ), (h49, aJ (k 1) 40 anJ), (h0, ob 7 [.ref h1, .ref h2, .int h0f2, .ref h3, .ref h4, .ref h5, .int h0f6, .ref h6, .int h0f8, .ref h7, .ref h8, .int h0f11, .ref h9, .ref h10, .ref h11, .ref h12, .ref h13]), (h4, aQ (k 3) 4 (q4 h18 h19 h20 h21)), (h18, ob 5 [.int h18f0, .int h18f1, .ref h46]), (h19, ob 5 [.int h19f0, .int h19f1, .ref h47]), (h20, ob 5 [.int h20f0, .int h20f1, .ref h48]), (h21, ob 5 [.int h21f0, .int h21f1, .ref h49])]) (as := [h1]) (zcV (q0 := 13) (ci := 4) (As := []) (rest := [.ref h12]) (Tc := [(h1, ob 4 [.int h1f0, .int h1f1, .int h1f2, .ref h14])]) hx hb hml hown hU hK hT rfl rfl [13] rfl (by decide) (cX5_cellCount_f3983 l D k _ h1 h14 h1f0 h1f1 h1f2 (by omega) (by omega)) w385 w382 w383 w384 w64 hdX5_cellCount ⟨rfl, rfl⟩ ⟨Nat.le_of_ble_eq_true rfl, Nat.le_of_ble_eq_true rfl⟩ rfl hl.1 (Nat.le_of_ble_eq_true rfl) dX10_keeps_47 ⟨Nat.le_of_ble_eq_true rfl, Nat.le_of_ble_eq_true rfl⟩) hT hS hA [13] [0, 1, 2, 3, 4, 5, 6, 7, 8, 9, 10, 11, 12] rfl rfl rfl (by decide) (by decide) (fun r213 H locs hB J hS => ?_)
      rcases hB with ⟨v214, b_v214, c_215, c_216, rfl, hT1⟩ | ⟨v217, b_v217, c_218, c_219, rfl, hT1⟩ | ⟨v220, b_v220, c_221, c_222, rfl, hT1⟩
      · skip
        have hT := J _ hT1
        have hT : TP D A [(h12, aJ (k 1) 9 anJ), (h13, aJ (k 1) 9 anJ), (h14, aJ (k 1) 36 anJ), (h46, aJ (k 1) 40 anJ), (h47, aJ (k 1) 40 anJ), (h48, aJ (k 1) 40 anJ), (h49, aJ (k 1) 40 anJ), (h0, ob 7 [.ref h1, .ref h2, .int h0f2, .ref h3, .ref h4, .ref h5, .int h0f6, .ref h6, .int h0f8, .ref h7, .ref h8, .int h0f11, .ref h9, .ref h10, .ref h11, .ref h12, .ref h13]), (h4, aQ (k 3) 4 (q4 h18 h19 h20 h21)), (h18, ob 5 [.int h18f0, .int h18f1, .ref h46]), (h19, ob 5 [.int h19f0, .int h19f1, .ref h47]), (h20, ob 5 [.int h20f0, .int h20f1, .ref h48]), (h21, ob 5 [.int h21f0, .int h21f1, .ref h49]), (h1, ob 4 [.int h1f0, .int h1f1, .int h1f2, .ref h14])] _ := hT
        exfalso; omega
      · skip
        have hT := J _ hT1
        have hT : TP D A [(h12, aJ (k 1) 9 anJ), (h13, aJ (k 1) 9 anJ), (h14, aJ (k 1) 36 anJ), (h46, aJ (k 1) 40 anJ), (h47, aJ (k 1) 40 anJ), (h48, aJ (k 1) 40 anJ), (h49, aJ (k 1) 40 anJ), (h0, ob 7 [.ref h1, .ref h2, .int h0f2, .ref h3, .ref h4, .ref h5, .int h0f6, .ref h6, .int h0f8, .ref h7, .ref h8, .int h0f11, .ref h9, .ref h10, .ref h11, .ref h12, .ref h13]), (h4, aQ (k 3) 4 (q4 h18 h19 h20 h21)), (h18, ob 5 [.int h18f0, .int h18f1, .ref h46]), (h19, ob 5 [.int h19f0, .int h19f1, .ref h47]), (h20, ob 5 [.int h20f0, .int h20f1, .ref h48]), (h21, ob 5 [.int h21f0, .int h21f1, .ref h49]), (h1, ob 4 [.int h1f0, .int h1f1, .int h1f2, .ref h14])] _ := hT
        exfalso; omega
      · skip
        have hT := J _ hT1
        have hT : TP D A [(h12, aJ (k 1) 9 anJ), (h13, aJ (k 1) 9 anJ), (h14, aJ (k 1) 36 anJ), (h46, aJ (k 1) 40 anJ), (h47, aJ (k 1) 40 anJ), (h48, aJ (k 1) 40 anJ), (h49, aJ (k 1) 40 anJ), (h0, ob 7 [.ref h1, .ref h2, .int h0f2, .ref h3, .ref h4, .ref h5, .int h0f6, .ref h6, .int h0f8, .ref h7, .ref h8, .int h0f11, .ref h9, .ref h10, .ref h11, .ref h12, .ref h13]), (h4, aQ (k 3) 4 (q4 h18 h19 h20 h21)), (h18, ob 5 [.int h18f0, .int h18f1, .ref h46]), (h19, ob 5 [.int h19f0, .int h19f1, .ref h47]), (h20, ob 5 [.int h20f0, .int h20f1, .ref h48]), (h21, ob 5 [.int h21f0, .int h21f1, .ref h49]), (h1, ob 4 [.int h1f0, .int h1f1, .int h1f2, .ref h14])] _ := hT
        refine lv_ldc2 hx hb hown (hU _ w649) dX10_keeps_50 ?_
        have q_q224 := ll_1000000
        refine tcI (Tc := [(h12, aJ (k 1) 9 anJ)]) (Tr := [(h13, aJ (k 1) 9 anJ), (h14, aJ (k 1) 36 anJ), (h46, aJ (k 1) 40 anJ), (h47, aJ (k 1) 40 anJ), (h48, aJ (k 1) 40 anJ), (h49, aJ (k 1) 40 anJ), (h0, ob 7 [.ref h1, .ref h2, .int h0f2, .ref h3, .ref h4, .ref h5, .int h0f6, .ref h6, .int h0f8, .ref h7, .ref h8, .int h0f11, .ref h9, .ref h10, .ref h11, .ref h12, .ref h13]), (h4, aQ (k 3) 4 (q4 h18 h19 h20 h21)), (h18, ob 5 [.int h18f0, .int h18f1, .ref h46]), (h19, ob 5 [.int h19f0, .int h19f1, .ref h47]), (h20, ob 5 [.int h20f0, .int h20f1, .ref h48]), (h21, ob 5 [.int h21f0, .int h21f1, .ref h49]), (h1, ob 4 [.int h1f0, .int h1f1, .int h1f2, .ref h14])]) (as := [h12]) (zcS (As := [.ref h12, .int v220, .long 1000000]) (rest := []) (Tc := [(h12, aJ (k 1) 9 anJ)]) hx hb hml hown hU hK hT [0] rfl (by decide) (cX7_isWithin_443ab l D k _ h12 v220 (1000000) (by omega) (by have := ll_1000000; omega)) w389 w387 w388 w74 hdX7_isWithin ⟨rfl, rfl⟩ ⟨Nat.le_of_ble_eq_true rfl, Nat.le_of_ble_eq_true rfl⟩ rfl hl.1 (Nat.le_of_ble_eq_true rfl) dX10_keeps_53 ⟨Nat.le_of_ble_eq_true rfl, Nat.le_of_ble_eq_true rfl⟩) hT hS hA [0] [1, 2, 3, 4, 5, 6, 7, 8, 9, 10, 11, 12, 13] rfl rfl rfl (by decide) (by decide) (fun r223 H locs hB J hS => ?_)
        obtain ⟨b_r223, hT1⟩ := hB
        have hT := J _ hT1
        have hT : TP D A [(h13, aJ (k 1) 9 anJ), (h14, aJ (k 1) 36 anJ), (h46, aJ (k 1) 40 anJ), (h47, aJ (k 1) 40 anJ), (h48, aJ (k 1) 40 anJ), (h49, aJ (k 1) 40 anJ), (h0, ob 7 [.ref h1, .ref h2, .int h0f2, .ref h3, .ref h4, .ref h5, .int h0f6, .ref h6, .int h0f8, .ref h7, .ref h8, .int h0f11, .ref h9, .ref h10, .ref h11, .ref h12, .ref h13]), (h4, aQ (k 3) 4 (q4 h18 h19 h20 h21)), (h18, ob 5 [.int h18f0, .int h18f1, .ref h46]), (h19, ob 5 [.int h19f0, .int h19f1, .ref h47]), (h20, ob 5 [.int h20f0, .int h20f1, .ref h48]), (h21, ob 5 [.int h21f0, .int h21f1, .ref h49]), (h1, ob 4 [.int h1f0, .int h1f1, .int h1f2, .ref h14]), (h12, aJ (k 1) 9 anJ)] _ := hT
        refine lv_if_ne (tgt := 62) hx hb dX10_keeps_56 (by decide) (fun c_225 => ?_) (fun c_225 => ?_)
        · skip
          have c_225 := ni_ne c_225 rfl li_0
          refine lv_aload_n hx hb dX10_keeps_62 rfl (lv_at hl 1 rfl) ?_
          refine tcI (Tc := [(h0, ob 7 [.ref h1, .ref h2, .int h0f2, .ref h3, .ref h4, .ref h5, .int h0f6, .ref h6, .int h0f8, .ref h7, .ref h8, .int h0f11, .ref h9, .ref h10, .ref h11, .ref h12, .ref h13]), (h1, ob 4 [.int h1f0, .int h1f1, .int h1f2, .ref h14]), (h12, aJ (k 1) 9 anJ), (h13, aJ (k 1) 9 anJ)]) (Tr := [(h14, aJ (k 1) 36 anJ), (h46, aJ (k 1) 40 anJ), (h47, aJ (k 1) 40 anJ), (h48, aJ (k 1) 40 anJ), (h49, aJ (k 1) 40 anJ), (h4, aQ (k 3) 4 (q4 h18 h19 h20 h21)), (h18, ob 5 [.int h18f0, .int h18f1, .ref h46]), (h19, ob 5 [.int h19f0, .int h19f1, .ref h47]), (h20, ob 5 [.int h20f0, .int h20f1, .ref h48]), (h21, ob 5 [.int h21f0, .int h21f1, .ref h49])]) (as := [h0, h1, h12, h13]) (zcV (q0 := 6) (ci := 7) (As := []) (rest := []) (Tc := [(h0, ob 7 [.ref h1, .ref h2, .int h0f2, .ref h3, .ref h4, .ref h5, .int h0f6, .ref h6, .int h0f8, .ref h7, .ref h8, .int h0f11, .ref h9, .ref h10, .ref h11, .ref h12, .ref h13]), (h1, ob 4 [.int h1f0, .int h1f1, .int h1f2, .ref h14]), (h12, aJ (k 1) 9 anJ), (h13, aJ (k 1) 9 anJ)]) hx hb hml hown hU hK hT rfl rfl [6, 12, 13, 0] rfl (by decide) (cX10_isPositiveForm_ec5e0 l D k _ h0 h1 h12 h13 h2 h3 h4 h5 h6 h7 h8 h9 h10 h11 h14 h0f2 h0f6 h0f8 h0f11 h1f0 h1f1 h1f2 (by omega) (by omega) (by omega) (by omega) (by omega) (by omega)) w653 w650 w652 w19 w63 hdX10_isPositiveForm ⟨rfl, rfl⟩ ⟨Nat.le_of_ble_eq_true rfl, Nat.le_of_ble_eq_true rfl⟩ rfl hl.1 (Nat.le_of_ble_eq_true rfl) dX10_keeps_63 ⟨Nat.le_of_ble_eq_true rfl, Nat.le_of_ble_eq_true rfl⟩) hT hS hA [6, 12, 13, 0] [1, 2, 3, 4, 5, 7, 8, 9, 10, 11] rfl rfl rfl (by decide) (by decide) (fun r226 H locs hB J hS => ?_)
          obtain ⟨b_r226, hT1⟩ := hB
          have hT := J _ hT1
          have hT : TP D A [(h14, aJ (k 1) 36 anJ), (h46, aJ (k 1) 40 anJ), (h47, aJ (k 1) 40 anJ), (h48, aJ (k 1) 40 anJ), (h49, aJ (k 1) 40 anJ), (h4, aQ (k 3) 4 (q4 h18 h19 h20 h21)), (h18, ob 5 [.int h18f0, .int h18f1, .ref h46]), (h19, ob 5 [.int h19f0, .int h19f1, .ref h47]), (h20, ob 5 [.int h20f0, .int h20f1, .ref h48]), (h21, ob 5 [.int h21f0, .int h21f1, .ref h49]), (h0, ob 7 [.ref h1, .ref h2, .int h0f2, .ref h3, .ref h4, .ref h5, .int h0f6, .ref h6, .int h0f8, .ref h7, .ref h8, .int h0f11, .ref h9, .ref h10, .ref h11, .ref h12, .ref h13]), (h1, ob 4 [.int h1f0, .int h1f1, .int h1f2, .ref h14]), (h12, aJ (k 1) 9 anJ), (h13, aJ (k 1) 9 anJ)] _ := hT
          refine lv_if_eq (tgt := 80) hx hb dX10_keeps_66 (by decide) (fun c_227 => ?_) (fun c_227 => ?_)
          · skip
            have c_227 := ni_eq c_227 rfl li_0
            refine lv_iconst (v := 0) hx hb dX10_keeps_80 (by decide) ?_
            exact tz_retI (B := B_cX10_keeps_56b43 D k h0 h1 h4 h12 h13 h14 h18 h19 h20 h21 h46 h47 h48 h49 h2 h3 h5 h6 h7 h8 h9 h10 h11 x1 x2 h0f2 h0f6 h0f8 h0f11 h1f0 h1f1 h1f2 h18f0 h18f1 h19f0 h19f1 h20f0 h20f1 h21f0 h21f1) (v := 0) hQ hx hb hr hlocks hS (Nat.le_of_ble_eq_true rfl) (Nat.le_of_ble_eq_true rfl) dX10_keeps_81 (⟨(by have := li_0; omega), (hT.sub [10, 11, 5, 12, 13, 0, 6, 7, 8, 9, 1, 2, 3, 4] (by decide) rfl)⟩)
          · skip
            have c_227 := ni_ne c_227 rfl li_0
            refine lv_aload_n hx hb dX10_keeps_69 rfl (lv_at hl 1 rfl) ?_
            refine tcI (Tc := [(h0, ob 7 [.ref h1, .ref h2, .int h0f2, .ref h3, .ref h4, .ref h5, .int h0f6, .ref h6, .int h0f8, .ref h7, .ref h8, .int h0f11, .ref h9, .ref h10, .ref h11, .ref h12, .ref h13]), (h1, ob 4 [.int h1f0, .int h1f1, .int h1f2, .ref h14]), (h12, aJ (k 1) 9 anJ), (h13, aJ (k 1) 9 anJ), (h14, aJ (k 1) 36 anJ)]) (Tr := [(h46, aJ (k 1) 40 anJ), (h47, aJ (k 1) 40 anJ), (h48, aJ (k 1) 40 anJ), (h49, aJ (k 1) 40 anJ), (h4, aQ (k 3) 4 (q4 h18 h19 h20 h21)), (h18, ob 5 [.int h18f0, .int h18f1, .ref h46]), (h19, ob 5 [.int h19f0, .int h19f1, .ref h47]), (h20, ob 5 [.int h20f0, .int h20f1, .ref h48]), (h21, ob 5 [.int h21f0, .int h21f1, .ref h49])]) (as := [h0, h1, h12, h13, h14]) (zcV (q0 := 10) (ci := 7) (As := []) (rest := []) (Tc := [(h0, ob 7 [.ref h1, .ref h2, .int h0f2, .ref h3, .ref h4, .ref h5, .int h0f6, .ref h6, .int h0f8, .ref h7, .ref h8, .int h0f11, .ref h9, .ref h10, .ref h11, .ref h12, .ref h13]), (h1, ob 4 [.int h1f0, .int h1f1, .int h1f2, .ref h14]), (h12, aJ (k 1) 9 anJ), (h13, aJ (k 1) 9 anJ), (h14, aJ (k 1) 36 anJ)]) hx hb hml hown hU hK hT rfl rfl [10, 11, 12, 13, 0] rfl (by decide) (cX10_noGeneratorChangesForm_03344 l D k _ h0 h1 h12 h13 h14 h2 h3 h4 h5 h6 h7 h8 h9 h10 h11 h0f2 h0f6 h0f8 h0f11 h1f0 h1f1 h1f2 (by omega) (by omega) (by omega) (by omega) (by omega) (by omega)) w657 w654 w656 w20 w63 hdX10_noGeneratorChangesForm ⟨rfl, rfl⟩ ⟨Nat.le_of_ble_eq_true rfl, Nat.le_of_ble_eq_true rfl⟩ rfl hl.1 (Nat.le_of_ble_eq_true rfl) dX10_keeps_70 ⟨Nat.le_of_ble_eq_true rfl, Nat.le_of_ble_eq_true rfl⟩) hT hS hA [10, 11, 12, 13, 0] [1, 2, 3, 4, 5, 6, 7, 8, 9] rfl rfl rfl (by decide) (by decide) (fun r228 H locs hB J hS => ?_)
            obtain ⟨b_r228, hT1⟩ := hB
            have hT := J _ hT1
            have hT : TP D A [(h46, aJ (k 1) 40 anJ), (h47, aJ (k 1) 40 anJ), (h48, aJ (k 1) 40 anJ), (h49, aJ (k 1) 40 anJ), (h4, aQ (k 3) 4 (q4 h18 h19 h20 h21)), (h18, ob 5 [.int h18f0, .int h18f1, .ref h46]), (h19, ob 5 [.int h19f0, .int h19f1, .ref h47]), (h20, ob 5 [.int h20f0, .int h20f1, .ref h48]), (h21, ob 5 [.int h21f0, .int h21f1, .ref h49]), (h0, ob 7 [.ref h1, .ref h2, .int h0f2, .ref h3, .ref h4, .ref h5, .int h0f6, .ref h6, .int h0f8, .ref h7, .ref h8, .int h0f11, .ref h9, .ref h10, .ref h11, .ref h12, .ref h13]), (h1, ob 4 [.int h1f0, .int h1f1, .int h1f2, .ref h14]), (h12, aJ (k 1) 9 anJ), (h13, aJ (k 1) 9 anJ), (h14, aJ (k 1) 36 anJ)] _ := hT
            refine lv_if_eq (tgt := 80) hx hb dX10_keeps_73 (by decide) (fun c_229 => ?_) (fun c_229 => ?_)
            · skip
              have c_229 := ni_eq c_229 rfl li_0
              refine lv_iconst (v := 0) hx hb dX10_keeps_80 (by decide) ?_
              exact tz_retI (B := B_cX10_keeps_56b43 D k h0 h1 h4 h12 h13 h14 h18 h19 h20 h21 h46 h47 h48 h49 h2 h3 h5 h6 h7 h8 h9 h10 h11 x1 x2 h0f2 h0f6 h0f8 h0f11 h1f0 h1f1 h1f2 h18f0 h18f1 h19f0 h19f1 h20f0 h20f1 h21f0 h21f1) (v := 0) hQ hx hb hr hlocks hS (Nat.le_of_ble_eq_true rfl) (Nat.le_of_ble_eq_true rfl) dX10_keeps_81 (⟨(by have := li_0; omega), (hT.sub [9, 10, 4, 11, 12, 13, 5, 6, 7, 8, 0, 1, 2, 3] (by decide) rfl)⟩)
            · skip
              have c_229 := ni_ne c_229 rfl li_0
              refine lv_iconst (v := 1) hx hb dX10_keeps_76 (by decide) ?_
              refine lv_goto (tgt := 81) hx hb dX10_keeps_77 (by decide) ?_
              exact tz_retI (B := B_cX10_keeps_56b43 D k h0 h1 h4 h12 h13 h14 h18 h19 h20 h21 h46 h47 h48 h49 h2 h3 h5 h6 h7 h8 h9 h10 h11 x1 x2 h0f2 h0f6 h0f8 h0f11 h1f0 h1f1 h1f2 h18f0 h18f1 h19f0 h19f1 h20f0 h20f1 h21f0 h21f1) (v := 1) hQ hx hb hr hlocks hS (Nat.le_of_ble_eq_true rfl) (Nat.le_of_ble_eq_true rfl) dX10_keeps_81 (⟨(by have := li_1; omega), (hT.sub [9, 10, 4, 11, 12, 13, 5, 6, 7, 8, 0, 1, 2, 3] (by decide) rfl)⟩)
        · skip
          have c_225 := ni_eq c_225 rfl li_0
          refine lv_bipush (v := (-16)) hx hb dX10_keeps_59 (by decide) ?_
          exact tz_retI (B := B_cX10_keeps_56b43 D k h0 h1 h4 h12 h13 h14 h18 h19 h20 h21 h46 h47 h48 h49 h2 h3 h5 h6 h7 h8 h9 h10 h11 x1 x2 h0f2 h0f6 h0f8 h0f11 h1f0 h1f1 h1f2 h18f0 h18f1 h19f0 h19f1 h20f0 h20f1 h21f0 h21f1) (v := (-16)) hQ hx hb hr hlocks hS (Nat.le_of_ble_eq_true rfl) (Nat.le_of_ble_eq_true rfl) dX10_keeps_61 (⟨(by have := li_m16; omega), (hT.sub [6, 12, 7, 13, 0, 1, 8, 9, 10, 11, 2, 3, 4, 5] (by decide) rfl)⟩)
  · skip
    have hT := J _ hT1
    have hT : TP D A [(h12, aJ (k 1) 9 anJ), (h13, aJ (k 1) 9 anJ), (h14, aJ (k 1) 36 anJ), (h46, aJ (k 1) 40 anJ), (h47, aJ (k 1) 40 anJ), (h48, aJ (k 1) 40 anJ), (h49, aJ (k 1) 40 anJ), (h0, ob 7 [.ref h1, .ref h2, .int h0f2, .ref h3, .ref h4, .ref h5, .int h0f6, .ref h6, .int h0f8, .ref h7, .ref h8, .int h0f11, .ref h9, .ref h10, .ref h11, .ref h12, .ref h13]), (h1, ob 4 [.int h1f0, .int h1f1, .int h1f2, .ref h14]), (h4, aQ (k 3) 4 (q4 h18 h19 h20 h21)), (h18, ob 5 [.int h18f0, .int h18f1, .ref h46]), (h19, ob 5 [.int h19f0, .int h19f1, .ref h47]), (h20, ob 5 [.int h20f0, .int h20f1, .ref h48]), (h21, ob 5 [.int h21f0, .int h21f1, .ref h49])] _ := hT
    refine lv_istore_n (lv' := [(3, .int (-13)), (0, .ref h0), (1, .int x1), (2, .int x2)]) hx hb dX10_keeps_7 rfl hl (by decide) rfl (fun ls hl => ?_)
    refine lv_iload_n hx hb dX10_keeps_8 rfl (lv_at hl 0 rfl) ?_
    refine lv_if_eq (tgt := 14) hx hb dX10_keeps_9 (by decide) (fun cc => absurd cc (by decide +kernel)) (fun _ => ?_)
    refine lv_iload_n hx hb dX10_keeps_12 rfl (lv_at hl 0 rfl) ?_
    exact tz_retI (B := B_cX10_keeps_56b43 D k h0 h1 h4 h12 h13 h14 h18 h19 h20 h21 h46 h47 h48 h49 h2 h3 h5 h6 h7 h8 h9 h10 h11 x1 x2 h0f2 h0f6 h0f8 h0f11 h1f0 h1f1 h1f2 h18f0 h18f1 h19f0 h19f1 h20f0 h20f1 h21f0 h21f1) (v := (-13)) hQ hx hb hr hlocks hS (Nat.le_of_ble_eq_true rfl) (Nat.le_of_ble_eq_true rfl) dX10_keeps_13 (⟨(by have := li_m13; omega), (hT.sub [7, 8, 9, 0, 1, 2, 10, 11, 12, 13, 3, 4, 5, 6] (by decide) rfl)⟩)
  · skip
    have hT := J _ hT1
    have hT : TP D A [(h12, aJ (k 1) 9 anJ), (h13, aJ (k 1) 9 anJ), (h14, aJ (k 1) 36 anJ), (h46, aJ (k 1) 40 anJ), (h47, aJ (k 1) 40 anJ), (h48, aJ (k 1) 40 anJ), (h49, aJ (k 1) 40 anJ), (h0, ob 7 [.ref h1, .ref h2, .int h0f2, .ref h3, .ref h4, .ref h5, .int h0f6, .ref h6, .int h0f8, .ref h7, .ref h8, .int h0f11, .ref h9, .ref h10, .ref h11, .ref h12, .ref h13]), (h1, ob 4 [.int h1f0, .int h1f1, .int h1f2, .ref h14]), (h4, aQ (k 3) 4 (q4 h18 h19 h20 h21)), (h18, ob 5 [.int h18f0, .int h18f1, .ref h46]), (h19, ob 5 [.int h19f0, .int h19f1, .ref h47]), (h20, ob 5 [.int h20f0, .int h20f1, .ref h48]), (h21, ob 5 [.int h21f0, .int h21f1, .ref h49])] _ := hT
    refine lv_istore_n (lv' := [(3, .int (-11)), (0, .ref h0), (1, .int x1), (2, .int x2)]) hx hb dX10_keeps_7 rfl hl (by decide) rfl (fun ls hl => ?_)
    refine lv_iload_n hx hb dX10_keeps_8 rfl (lv_at hl 0 rfl) ?_
    refine lv_if_eq (tgt := 14) hx hb dX10_keeps_9 (by decide) (fun cc => absurd cc (by decide +kernel)) (fun _ => ?_)
    refine lv_iload_n hx hb dX10_keeps_12 rfl (lv_at hl 0 rfl) ?_
    exact tz_retI (B := B_cX10_keeps_56b43 D k h0 h1 h4 h12 h13 h14 h18 h19 h20 h21 h46 h47 h48 h49 h2 h3 h5 h6 h7 h8 h9 h10 h11 x1 x2 h0f2 h0f6 h0f8 h0f11 h1f0 h1f1 h1f2 h18f0 h18f1 h19f0 h19f1 h20f0 h20f1 h21f0 h21f1) (v := (-11)) hQ hx hb hr hlocks hS (Nat.le_of_ble_eq_true rfl) (Nat.le_of_ble_eq_true rfl) dX10_keeps_13 (⟨(by have := li_m11; omega), (hT.sub [7, 8, 9, 0, 1, 2, 10, 11, 12, 13, 3, 4, 5, 6] (by decide) rfl)⟩)
  · skip
    have hT := J _ hT1
    have hT : TP D A [(h12, aJ (k 1) 9 anJ), (h13, aJ (k 1) 9 anJ), (h14, aJ (k 1) 36 anJ), (h46, aJ (k 1) 40 anJ), (h47, aJ (k 1) 40 anJ), (h48, aJ (k 1) 40 anJ), (h49, aJ (k 1) 40 anJ), (h0, ob 7 [.ref h1, .ref h2, .int h0f2, .ref h3, .ref h4, .ref h5, .int h0f6, .ref h6, .int h0f8, .ref h7, .ref h8, .int h0f11, .ref h9, .ref h10, .ref h11, .ref h12, .ref h13]), (h1, ob 4 [.int h1f0, .int h1f1, .int h1f2, .ref h14]), (h4, aQ (k 3) 4 (q4 h18 h19 h20 h21)), (h18, ob 5 [.int h18f0, .int h18f1, .ref h46]), (h19, ob 5 [.int h19f0, .int h19f1, .ref h47]), (h20, ob 5 [.int h20f0, .int h20f1, .ref h48]), (h21, ob 5 [.int h21f0, .int h21f1, .ref h49])] _ := hT
    refine lv_istore_n (lv' := [(3, .int 0), (0, .ref h0), (1, .int x1), (2, .int x2)]) hx hb dX10_keeps_7 rfl hl (by decide) rfl (fun ls hl => ?_)
    refine lv_iload_n hx hb dX10_keeps_8 rfl (lv_at hl 0 rfl) ?_
    refine lv_if_eq (tgt := 14) hx hb dX10_keeps_9 (by decide) (fun _ => ?_) (fun cc => absurd (by decide +kernel) cc)
    refine lv_aload_n hx hb dX10_keeps_14 rfl (lv_at hl 1 rfl) ?_
    refine tz_get (ci := 7) (v := .ref h4) (C := RX10) (F := TX10) (N := 17) hx hb hU iX10 hown hK hT 7 rfl rfl 4 (by decide) w253 (fun _ h9 => h9) rfl dX10_keeps_15 ?_
    refine lv_iload_n hx hb dX10_keeps_18 rfl (lv_at hl 2 rfl) ?_
    have hq230 : x1.toInt = 1 := by omega
    refine tz_aldq (b := h19) hx hb hK hT 9 rfl (vp_in_iff.mpr (by have := hq230; omega)) (fun f hf => by rw [cl_of hq230]; exact hf.2.1) dX10_keeps_19 ?_
    refine tz_get (ci := 5) (v := .ref h47) (C := RX6) (F := TX6) (N := 3) hx hb hU iX6 hown hK hT 11 rfl rfl 2 (by decide) w241 (fun _ h9 => h9) rfl dX10_keeps_20 ?_
    refine lv_iload_n hx hb dX10_keeps_23 rfl (lv_at hl 3 rfl) ?_
    refine lv_aload_n hx hb dX10_keeps_24 rfl (lv_at hl 1 rfl) ?_
    refine tz_get (ci := 7) (v := .ref h12) (C := RX10) (F := TX10) (N := 17) hx hb hU iX10 hown hK hT 7 rfl rfl 15 (by decide) w264 (fun _ h9 => h9) rfl dX10_keeps_25 ?_
    refine lv_iconst (v := 0) hx hb dX10_keeps_28 (by decide) ?_
    refine lv_aload_n hx hb dX10_keeps_29 rfl (lv_at hl 1 rfl) ?_
    refine tz_get (ci := 7) (v := .ref h1) (C := RX10) (F := TX10) (N := 17) hx hb hU iX10 hown hK hT 7 rfl rfl 0 (by decide) w249 (fun _ h9 => h9) rfl dX10_keeps_30 ?_
    refine tcI (Tc := [(h1, ob 4 [.int h1f0, .int h1f1, .int h1f2, .ref h14])]) (Tr := [(h12, aJ (k 1) 9 anJ), (h13, aJ (k 1) 9 anJ), (h14, aJ (k 1) 36 anJ), (h46, aJ (k 1) 40 anJ), (h47, aJ (k 1) 40 anJ), (h48, aJ (k 1) 40 anJ), (h49, aJ (k 1) 40 anJ), (h0, ob 7 [.ref h1, .ref h2, .int h0f2, .ref h3, .ref h4, .ref h5, .int h0f6, .ref h6, .int h0f8, .ref h7, .ref h8, .int h0f11, .ref h9, .ref h10, .ref h11, .ref h12, .ref h13]), (h4, aQ (k 3) 4 (q4 h18 h19 h20 h21)), (h18, ob 5 [.int h18f0, .int h18f1, .ref h46]), (h19, ob 5 [.int h19f0, .int h19f1, .ref h47]), (h20, ob 5 [.int h20f0, .int h20f1, .ref h48]), (h21, ob 5 [.int h21f0, .int h21f1, .ref h49])]) (as := [h1]) (zcV (q0 := 8) (ci := 4) (As := []) (rest := [.int 0, .ref h12, .int x2, .ref h47]) (Tc := [(h1, ob 4 [.int h1f0, .int h1f1, .int h1f2, .ref h14])]) hx hb hml hown hU hK hT rfl rfl [8] rfl (by decide) (cX5_cellCount_f3983 l D k _ h1 h14 h1f0 h1f1 h1f2 (by omega) (by omega)) w385 w382 w383 w384 w64 hdX5_cellCount ⟨rfl, rfl⟩ ⟨Nat.le_of_ble_eq_true rfl, Nat.le_of_ble_eq_true rfl⟩ rfl hl.1 (Nat.le_of_ble_eq_true rfl) dX10_keeps_33 ⟨Nat.le_of_ble_eq_true rfl, Nat.le_of_ble_eq_true rfl⟩) hT hS hA [8] [0, 1, 2, 3, 4, 5, 6, 7, 9, 10, 11, 12, 13] rfl rfl rfl (by decide) (by decide) (fun r231 H locs hB J hS => ?_)
    rcases hB with ⟨v232, b_v232, c_233, c_234, rfl, hT1⟩ | ⟨v235, b_v235, c_236, c_237, rfl, hT1⟩ | ⟨v238, b_v238, c_239, c_240, rfl, hT1⟩
    · skip
      have hT := J _ hT1
      have hT : TP D A [(h12, aJ (k 1) 9 anJ), (h13, aJ (k 1) 9 anJ), (h14, aJ (k 1) 36 anJ), (h46, aJ (k 1) 40 anJ), (h47, aJ (k 1) 40 anJ), (h48, aJ (k 1) 40 anJ), (h49, aJ (k 1) 40 anJ), (h0, ob 7 [.ref h1, .ref h2, .int h0f2, .ref h3, .ref h4, .ref h5, .int h0f6, .ref h6, .int h0f8, .ref h7, .ref h8, .int h0f11, .ref h9, .ref h10, .ref h11, .ref h12, .ref h13]), (h4, aQ (k 3) 4 (q4 h18 h19 h20 h21)), (h18, ob 5 [.int h18f0, .int h18f1, .ref h46]), (h19, ob 5 [.int h19f0, .int h19f1, .ref h47]), (h20, ob 5 [.int h20f0, .int h20f1, .ref h48]), (h21, ob 5 [.int h21f0, .int h21f1, .ref h49]), (h1, ob 4 [.int h1f0, .int h1f1, .int h1f2, .ref h14])] _ := hT
      refine tz_copyl hx hb (by rw [hml]; exact hl.1.symm) hown hU w410 w348 w347 w75 hK hT hS 4 0 rfl rfl (by have := li_0; omega) (fun _ _ _ _ => trivial) (Nat.le_of_ble_eq_true rfl) (Nat.le_of_ble_eq_true rfl) dX10_keeps_36 (fun H locs hT hS => ?_)
      refine lv_aload_n hx hb dX10_keeps_39 rfl (lv_at hl 1 rfl) ?_
      refine tz_get (ci := 7) (v := .ref h12) (C := RX10) (F := TX10) (N := 17) hx hb hU iX10 hown hK hT 7 rfl rfl 15 (by decide) w264 (fun _ h9 => h9) rfl dX10_keeps_40 ?_
      refine lv_aload_n hx hb dX10_keeps_43 rfl (lv_at hl 1 rfl) ?_
      refine tz_get (ci := 7) (v := .ref h1) (C := RX10) (F := TX10) (N := 17) hx hb hU iX10 hown hK hT 7 rfl rfl 0 (by decide) w249 (fun _ h9 => h9) rfl dX10_keeps_44 ?_
      refine tcI (Tc := [(h1, ob 4 [.int h1f0, .int h1f1, .int h1f2, .ref h14])]) (Tr := [(h12, aJ (k 1) 9 anJ), (h13, aJ (k 1) 9 anJ), (h14, aJ (k 1) 36 anJ), (h46, aJ (k 1) 40 anJ), (h47, aJ (k 1) 40 anJ), (h48, aJ (k 1) 40 anJ), (h49, aJ (k 1) 40 anJ), (h0, ob 7 [.ref h1, .ref h2, .int h0f2, .ref h3, .ref h4, .ref h5, .int h0f6, .ref h6, .int h0f8, .ref h7, .ref h8, .int h0f11, .ref h9, .ref h10, .ref h11, .ref h12, .ref h13]), (h4, aQ (k 3) 4 (q4 h18 h19 h20 h21)), (h18, ob 5 [.int h18f0, .int h18f1, .ref h46]), (h19, ob 5 [.int h19f0, .int h19f1, .ref h47]), (h20, ob 5 [.int h20f0, .int h20f1, .ref h48]), (h21, ob 5 [.int h21f0, .int h21f1, .ref h49])]) (as := [h1]) (zcV (q0 := 13) (ci := 4) (As := []) (rest := [.ref h12]) (Tc := [(h1, ob 4 [.int h1f0, .int h1f1, .int h1f2, .ref h14])]) hx hb hml hown hU hK hT rfl rfl [13] rfl (by decide) (cX5_cellCount_f3983 l D k _ h1 h14 h1f0 h1f1 h1f2 (by omega) (by omega)) w385 w382 w383 w384 w64 hdX5_cellCount ⟨rfl, rfl⟩ ⟨Nat.le_of_ble_eq_true rfl, Nat.le_of_ble_eq_true rfl⟩ rfl hl.1 (Nat.le_of_ble_eq_true rfl) dX10_keeps_47 ⟨Nat.le_of_ble_eq_true rfl, Nat.le_of_ble_eq_true rfl⟩) hT hS hA [13] [0, 1, 2, 3, 4, 5, 6, 7, 8, 9, 10, 11, 12] rfl rfl rfl (by decide) (by decide) (fun r241 H locs hB J hS => ?_)
      rcases hB with ⟨v242, b_v242, c_243, c_244, rfl, hT1⟩ | ⟨v245, b_v245, c_246, c_247, rfl, hT1⟩ | ⟨v248, b_v248, c_249, c_250, rfl, hT1⟩
      · skip
        have hT := J _ hT1
        have hT : TP D A [(h12, aJ (k 1) 9 anJ), (h13, aJ (k 1) 9 anJ), (h14, aJ (k 1) 36 anJ), (h46, aJ (k 1) 40 anJ), (h47, aJ (k 1) 40 anJ), (h48, aJ (k 1) 40 anJ), (h49, aJ (k 1) 40 anJ), (h0, ob 7 [.ref h1, .ref h2, .int h0f2, .ref h3, .ref h4, .ref h5, .int h0f6, .ref h6, .int h0f8, .ref h7, .ref h8, .int h0f11, .ref h9, .ref h10, .ref h11, .ref h12, .ref h13]), (h4, aQ (k 3) 4 (q4 h18 h19 h20 h21)), (h18, ob 5 [.int h18f0, .int h18f1, .ref h46]), (h19, ob 5 [.int h19f0, .int h19f1, .ref h47]), (h20, ob 5 [.int h20f0, .int h20f1, .ref h48]), (h21, ob 5 [.int h21f0, .int h21f1, .ref h49]), (h1, ob 4 [.int h1f0, .int h1f1, .int h1f2, .ref h14])] _ := hT
        refine lv_ldc2 hx hb hown (hU _ w649) dX10_keeps_50 ?_
        have q_q252 := ll_1000000
        refine tcI (Tc := [(h12, aJ (k 1) 9 anJ)]) (Tr := [(h13, aJ (k 1) 9 anJ), (h14, aJ (k 1) 36 anJ), (h46, aJ (k 1) 40 anJ), (h47, aJ (k 1) 40 anJ), (h48, aJ (k 1) 40 anJ), (h49, aJ (k 1) 40 anJ), (h0, ob 7 [.ref h1, .ref h2, .int h0f2, .ref h3, .ref h4, .ref h5, .int h0f6, .ref h6, .int h0f8, .ref h7, .ref h8, .int h0f11, .ref h9, .ref h10, .ref h11, .ref h12, .ref h13]), (h4, aQ (k 3) 4 (q4 h18 h19 h20 h21)), (h18, ob 5 [.int h18f0, .int h18f1, .ref h46]), (h19, ob 5 [.int h19f0, .int h19f1, .ref h47]), (h20, ob 5 [.int h20f0, .int h20f1, .ref h48]), (h21, ob 5 [.int h21f0, .int h21f1, .ref h49]), (h1, ob 4 [.int h1f0, .int h1f1, .int h1f2, .ref h14])]) (as := [h12]) (zcS (As := [.ref h12, .int v242, .long 1000000]) (rest := []) (Tc := [(h12, aJ (k 1) 9 anJ)]) hx hb hml hown hU hK hT [0] rfl (by decide) (cX7_isWithin_443ab l D k _ h12 v242 (1000000) (by omega) (by have := ll_1000000; omega)) w389 w387 w388 w74 hdX7_isWithin ⟨rfl, rfl⟩ ⟨Nat.le_of_ble_eq_true rfl, Nat.le_of_ble_eq_true rfl⟩ rfl hl.1 (Nat.le_of_ble_eq_true rfl) dX10_keeps_53 ⟨Nat.le_of_ble_eq_true rfl, Nat.le_of_ble_eq_true rfl⟩) hT hS hA [0] [1, 2, 3, 4, 5, 6, 7, 8, 9, 10, 11, 12, 13] rfl rfl rfl (by decide) (by decide) (fun r251 H locs hB J hS => ?_)
        obtain ⟨b_r251, hT1⟩ := hB
        have hT := J _ hT1
        have hT : TP D A [(h13, aJ (k 1) 9 anJ), (h14, aJ (k 1) 36 anJ), (h46, aJ (k 1) 40 anJ), (h47, aJ (k 1) 40 anJ), (h48, aJ (k 1) 40 anJ), (h49, aJ (k 1) 40 anJ), (h0, ob 7 [.ref h1, .ref h2, .int h0f2, .ref h3, .ref h4, .ref h5, .int h0f6, .ref h6, .int h0f8, .ref h7, .ref h8, .int h0f11, .ref h9, .ref h10, .ref h11, .ref h12, .ref h13]), (h4, aQ (k 3) 4 (q4 h18 h19 h20 h21)), (h18, ob 5 [.int h18f0, .int h18f1, .ref h46]), (h19, ob 5 [.int h19f0, .int h19f1, .ref h47]), (h20, ob 5 [.int h20f0, .int h20f1, .ref h48]), (h21, ob 5 [.int h21f0, .int h21f1, .ref h49]), (h1, ob 4 [.int h1f0, .int h1f1, .int h1f2, .ref h14]), (h12, aJ (k 1) 9 anJ)] _ := hT
        refine lv_if_ne (tgt := 62) hx hb dX10_keeps_56 (by decide) (fun c_253 => ?_) (fun c_253 => ?_)
        · skip
          have c_253 := ni_ne c_253 rfl li_0
          refine lv_aload_n hx hb dX10_keeps_62 rfl (lv_at hl 1 rfl) ?_
          refine tcI (Tc := [(h0, ob 7 [.ref h1, .ref h2, .int h0f2, .ref h3, .ref h4, .ref h5, .int h0f6, .ref h6, .int h0f8, .ref h7, .ref h8, .int h0f11, .ref h9, .ref h10, .ref h11, .ref h12, .ref h13]), (h1, ob 4 [.int h1f0, .int h1f1, .int h1f2, .ref h14]), (h12, aJ (k 1) 9 anJ), (h13, aJ (k 1) 9 anJ)]) (Tr := [(h14, aJ (k 1) 36 anJ), (h46, aJ (k 1) 40 anJ), (h47, aJ (k 1) 40 anJ), (h48, aJ (k 1) 40 anJ), (h49, aJ (k 1) 40 anJ), (h4, aQ (k 3) 4 (q4 h18 h19 h20 h21)), (h18, ob 5 [.int h18f0, .int h18f1, .ref h46]), (h19, ob 5 [.int h19f0, .int h19f1, .ref h47]), (h20, ob 5 [.int h20f0, .int h20f1, .ref h48]), (h21, ob 5 [.int h21f0, .int h21f1, .ref h49])]) (as := [h0, h1, h12, h13]) (zcV (q0 := 6) (ci := 7) (As := []) (rest := []) (Tc := [(h0, ob 7 [.ref h1, .ref h2, .int h0f2, .ref h3, .ref h4, .ref h5, .int h0f6, .ref h6, .int h0f8, .ref h7, .ref h8, .int h0f11, .ref h9, .ref h10, .ref h11, .ref h12, .ref h13]), (h1, ob 4 [.int h1f0, .int h1f1, .int h1f2, .ref h14]), (h12, aJ (k 1) 9 anJ), (h13, aJ (k 1) 9 anJ)]) hx hb hml hown hU hK hT rfl rfl [6, 12, 13, 0] rfl (by decide) (cX10_isPositiveForm_ec5e0 l D k _ h0 h1 h12 h13 h2 h3 h4 h5 h6 h7 h8 h9 h10 h11 h14 h0f2 h0f6 h0f8 h0f11 h1f0 h1f1 h1f2 (by omega) (by omega) (by omega) (by omega) (by omega) (by omega)) w653 w650 w652 w19 w63 hdX10_isPositiveForm ⟨rfl, rfl⟩ ⟨Nat.le_of_ble_eq_true rfl, Nat.le_of_ble_eq_true rfl⟩ rfl hl.1 (Nat.le_of_ble_eq_true rfl) dX10_keeps_63 ⟨Nat.le_of_ble_eq_true rfl, Nat.le_of_ble_eq_true rfl⟩) hT hS hA [6, 12, 13, 0] [1, 2, 3, 4, 5, 7, 8, 9, 10, 11] rfl rfl rfl (by decide) (by decide) (fun r254 H locs hB J hS => ?_)
          obtain ⟨b_r254, hT1⟩ := hB
          have hT := J _ hT1
          have hT : TP D A [(h14, aJ (k 1) 36 anJ), (h46, aJ (k 1) 40 anJ), (h47, aJ (k 1) 40 anJ), (h48, aJ (k 1) 40 anJ), (h49, aJ (k 1) 40 anJ), (h4, aQ (k 3) 4 (q4 h18 h19 h20 h21)), (h18, ob 5 [.int h18f0, .int h18f1, .ref h46]), (h19, ob 5 [.int h19f0, .int h19f1, .ref h47]), (h20, ob 5 [.int h20f0, .int h20f1, .ref h48]), (h21, ob 5 [.int h21f0, .int h21f1, .ref h49]), (h0, ob 7 [.ref h1, .ref h2, .int h0f2, .ref h3, .ref h4, .ref h5, .int h0f6, .ref h6, .int h0f8, .ref h7, .ref h8, .int h0f11, .ref h9, .ref h10, .ref h11, .ref h12, .ref h13]), (h1, ob 4 [.int h1f0, .int h1f1, .int h1f2, .ref h14]), (h12, aJ (k 1) 9 anJ), (h13, aJ (k 1) 9 anJ)] _ := hT
          refine lv_if_eq (tgt := 80) hx hb dX10_keeps_66 (by decide) (fun c_255 => ?_) (fun c_255 => ?_)
          · skip
            have c_255 := ni_eq c_255 rfl li_0
            refine lv_iconst (v := 0) hx hb dX10_keeps_80 (by decide) ?_
            exact tz_retI (B := B_cX10_keeps_56b43 D k h0 h1 h4 h12 h13 h14 h18 h19 h20 h21 h46 h47 h48 h49 h2 h3 h5 h6 h7 h8 h9 h10 h11 x1 x2 h0f2 h0f6 h0f8 h0f11 h1f0 h1f1 h1f2 h18f0 h18f1 h19f0 h19f1 h20f0 h20f1 h21f0 h21f1) (v := 0) hQ hx hb hr hlocks hS (Nat.le_of_ble_eq_true rfl) (Nat.le_of_ble_eq_true rfl) dX10_keeps_81 (⟨(by have := li_0; omega), (hT.sub [10, 11, 5, 12, 13, 0, 6, 7, 8, 9, 1, 2, 3, 4] (by decide) rfl)⟩)
          · skip
            have c_255 := ni_ne c_255 rfl li_0
            refine lv_aload_n hx hb dX10_keeps_69 rfl (lv_at hl 1 rfl) ?_
            refine tcI (Tc := [(h0, ob 7 [.ref h1, .ref h2, .int h0f2, .ref h3, .ref h4, .ref h5, .int h0f6, .ref h6, .int h0f8, .ref h7, .ref h8, .int h0f11, .ref h9, .ref h10, .ref h11, .ref h12, .ref h13]), (h1, ob 4 [.int h1f0, .int h1f1, .int h1f2, .ref h14]), (h12, aJ (k 1) 9 anJ), (h13, aJ (k 1) 9 anJ), (h14, aJ (k 1) 36 anJ)]) (Tr := [(h46, aJ (k 1) 40 anJ), (h47, aJ (k 1) 40 anJ), (h48, aJ (k 1) 40 anJ), (h49, aJ (k 1) 40 anJ), (h4, aQ (k 3) 4 (q4 h18 h19 h20 h21)), (h18, ob 5 [.int h18f0, .int h18f1, .ref h46]), (h19, ob 5 [.int h19f0, .int h19f1, .ref h47]), (h20, ob 5 [.int h20f0, .int h20f1, .ref h48]), (h21, ob 5 [.int h21f0, .int h21f1, .ref h49])]) (as := [h0, h1, h12, h13, h14]) (zcV (q0 := 10) (ci := 7) (As := []) (rest := []) (Tc := [(h0, ob 7 [.ref h1, .ref h2, .int h0f2, .ref h3, .ref h4, .ref h5, .int h0f6, .ref h6, .int h0f8, .ref h7, .ref h8, .int h0f11, .ref h9, .ref h10, .ref h11, .ref h12, .ref h13]), (h1, ob 4 [.int h1f0, .int h1f1, .int h1f2, .ref h14]), (h12, aJ (k 1) 9 anJ), (h13, aJ (k 1) 9 anJ), (h14, aJ (k 1) 36 anJ)]) hx hb hml hown hU hK hT rfl rfl [10, 11, 12, 13, 0] rfl (by decide) (cX10_noGeneratorChangesForm_03344 l D k _ h0 h1 h12 h13 h14 h2 h3 h4 h5 h6 h7 h8 h9 h10 h11 h0f2 h0f6 h0f8 h0f11 h1f0 h1f1 h1f2 (by omega) (by omega) (by omega) (by omega) (by omega) (by omega)) w657 w654 w656 w20 w63 hdX10_noGeneratorChangesForm ⟨rfl, rfl⟩ ⟨Nat.le_of_ble_eq_true rfl, Nat.le_of_ble_eq_true rfl⟩ rfl hl.1 (Nat.le_of_ble_eq_true rfl) dX10_keeps_70 ⟨Nat.le_of_ble_eq_true rfl, Nat.le_of_ble_eq_true rfl⟩) hT hS hA [10, 11, 12, 13, 0] [1, 2, 3, 4, 5, 6, 7, 8, 9] rfl rfl rfl (by decide) (by decide) (fun r256 H locs hB J hS => ?_)
            obtain ⟨b_r256, hT1⟩ := hB
            have hT := J _ hT1
            have hT : TP D A [(h46, aJ (k 1) 40 anJ), (h47, aJ (k 1) 40 anJ), (h48, aJ (k 1) 40 anJ), (h49, aJ (k 1) 40 anJ), (h4, aQ (k 3) 4 (q4 h18 h19 h20 h21)), (h18, ob 5 [.int h18f0, .int h18f1, .ref h46]), (h19, ob 5 [.int h19f0, .int h19f1, .ref h47]), (h20, ob 5 [.int h20f0, .int h20f1, .ref h48]), (h21, ob 5 [.int h21f0, .int h21f1, .ref h49]), (h0, ob 7 [.ref h1, .ref h2, .int h0f2, .ref h3, .ref h4, .ref h5, .int h0f6, .ref h6, .int h0f8, .ref h7, .ref h8, .int h0f11, .ref h9, .ref h10, .ref h11, .ref h12, .ref h13]), (h1, ob 4 [.int h1f0, .int h1f1, .int h1f2, .ref h14]), (h12, aJ (k 1) 9 anJ), (h13, aJ (k 1) 9 anJ), (h14, aJ (k 1) 36 anJ)] _ := hT
            refine lv_if_eq (tgt := 80) hx hb dX10_keeps_73 (by decide) (fun c_257 => ?_) (fun c_257 => ?_)
            · skip
              have c_257 := ni_eq c_257 rfl li_0
              refine lv_iconst (v := 0) hx hb dX10_keeps_80 (by decide) ?_
              exact tz_retI (B := B_cX10_keeps_56b43 D k h0 h1 h4 h12 h13 h14 h18 h19 h20 h21 h46 h47 h48 h49 h2 h3 h5 h6 h7 h8 h9 h10 h11 x1 x2 h0f2 h0f6 h0f8 h0f11 h1f0 h1f1 h1f2 h18f0 h18f1 h19f0 h19f1 h20f0 h20f1 h21f0 h21f1) (v := 0) hQ hx hb hr hlocks hS (Nat.le_of_ble_eq_true rfl) (Nat.le_of_ble_eq_true rfl) dX10_keeps_81 (⟨(by have := li_0; omega), (hT.sub [9, 10, 4, 11, 12, 13, 5, 6, 7, 8, 0, 1, 2, 3] (by decide) rfl)⟩)
            · skip
              have c_257 := ni_ne c_257 rfl li_0
              refine lv_iconst (v := 1) hx hb dX10_keeps_76 (by decide) ?_
              refine lv_goto (tgt := 81) hx hb dX10_keeps_77 (by decide) ?_
              exact tz_retI (B := B_cX10_keeps_56b43 D k h0 h1 h4 h12 h13 h14 h18 h19 h20 h21 h46 h47 h48 h49 h2 h3 h5 h6 h7 h8 h9 h10 h11 x1 x2 h0f2 h0f6 h0f8 h0f11 h1f0 h1f1 h1f2 h18f0 h18f1 h19f0 h19f1 h20f0 h20f1 h21f0 h21f1) (v := 1) hQ hx hb hr hlocks hS (Nat.le_of_ble_eq_true rfl) (Nat.le_of_ble_eq_true rfl) dX10_keeps_81 (⟨(by have := li_1; omega), (hT.sub [9, 10, 4, 11, 12, 13, 5, 6, 7, 8, 0, 1, 2, 3] (by decide) rfl)⟩)
        · skip
          have c_253 := ni_eq c_253 rfl li_0
          refine lv_bipush (v := (-16)) hx hb dX10_keeps_59 (by decide) ?_
          exact tz_retI (B := B_cX10_keeps_56b43 D k h0 h1 h4 h12 h13 h14 h18 h19 h20 h21 h46 h47 h48 h49 h2 h3 h5 h6 h7 h8 h9 h10 h11 x1 x2 h0f2 h0f6 h0f8 h0f11 h1f0 h1f1 h1f2 h18f0 h18f1 h19f0 h19f1 h20f0 h20f1 h21f0 h21f1) (v := (-16)) hQ hx hb hr hlocks hS (Nat.le_of_ble_eq_true rfl) (Nat.le_of_ble_eq_true rfl) dX10_keeps_61 (⟨(by have := li_m16; omega), (hT.sub [6, 12, 7, 13, 0, 1, 8, 9, 10, 11, 2, 3, 4, 5] (by decide) rfl)⟩)
      · skip
        have hT := J _ hT1
        have hT : TP D A [(h12, aJ (k 1) 9 anJ), (h13, aJ (k 1) 9 anJ), (h14, aJ (k 1) 36 anJ), (h46, aJ (k 1) 40 anJ), (h47, aJ (k 1) 40 anJ), (h48, aJ (k 1) 40 anJ), (h49, aJ (k 1) 40 anJ), (h0, ob 7 [.ref h1, .ref h2, .int h0f2, .ref h3, .ref h4, .ref h5, .int h0f6, .ref h6, .int h0f8, .ref h7, .ref h8, .int h0f11, .ref h9, .ref h10, .ref h11, .ref h12, .ref h13]), (h4, aQ (k 3) 4 (q4 h18 h19 h20 h21)), (h18, ob 5 [.int h18f0, .int h18f1, .ref h46]), (h19, ob 5 [.int h19f0, .int h19f1, .ref h47]), (h20, ob 5 [.int h20f0, .int h20f1, .ref h48]), (h21, ob 5 [.int h21f0, .int h21f1, .ref h49]), (h1, ob 4 [.int h1f0, .int h1f1, .int h1f2, .ref h14])] _ := hT
        exfalso; omega
      · skip
        have hT := J _ hT1
        have hT : TP D A [(h12, aJ (k 1) 9 anJ), (h13, aJ (k 1) 9 anJ), (h14, aJ (k 1) 36 anJ), (h46, aJ (k 1) 40 anJ), (h47, aJ (k 1) 40 anJ), (h48, aJ (k 1) 40 anJ), (h49, aJ (k 1) 40 anJ), (h0, ob 7 [.ref h1, .ref h2, .int h0f2, .ref h3, .ref h4, .ref h5, .int h0f6, .ref h6, .int h0f8, .ref h7, .ref h8, .int h0f11, .ref h9, .ref h10, .ref h11, .ref h12, .ref h13]), (h4, aQ (k 3) 4 (q4 h18 h19 h20 h21)), (h18, ob 5 [.int h18f0, .int h18f1, .ref h46]), (h19, ob 5 [.int h19f0, .int h19f1, .ref h47]), (h20, ob 5 [.int h20f0, .int h20f1, .ref h48]), (h21, ob 5 [.int h21f0, .int h21f1, .ref h49]), (h1, ob 4 [.int h1f0, .int h1f1, .int h1f2, .ref h14])] _ := hT
        exfalso; omega
    · skip
      have hT := J _ hT1
      have hT : TP D A [(h12, aJ (k 1) 9 anJ), (h13, aJ (k 1) 9 anJ), (h14, aJ (k 1) 36 anJ), (h46, aJ (k 1) 40 anJ), (h47, aJ (k 1) 40 anJ), (h48, aJ (k 1) 40 anJ), (h49, aJ (k 1) 40 anJ), (h0, ob 7 [.ref h1, .ref h2, .int h0f2, .ref h3, .ref h4, .ref h5, .int h0f6, .ref h6, .int h0f8, .ref h7, .ref h8, .int h0f11, .ref h9, .ref h10, .ref h11, .ref h12, .ref h13]), (h4, aQ (k 3) 4 (q4 h18 h19 h20 h21)), (h18, ob 5 [.int h18f0, .int h18f1, .ref h46]), (h19, ob 5 [.int h19f0, .int h19f1, .ref h47]), (h20, ob 5 [.int h20f0, .int h20f1, .ref h48]), (h21, ob 5 [.int h21f0, .int h21f1, .ref h49]), (h1, ob 4 [.int h1f0, .int h1f1, .int h1f2, .ref h14])] _ := hT
      exfalso; omega
    · skip
      have hT := J _ hT1
      have hT : TP D A [(h12, aJ (k 1) 9 anJ), (h13, aJ (k 1) 9 anJ), (h14, aJ (k 1) 36 anJ), (h46, aJ (k 1) 40 anJ), (h47, aJ (k 1) 40 anJ), (h48, aJ (k 1) 40 anJ), (h49, aJ (k 1) 40 anJ), (h0, ob 7 [.ref h1, .ref h2, .int h0f2, .ref h3, .ref h4, .ref h5, .int h0f6, .ref h6, .int h0f8, .ref h7, .ref h8, .int h0f11, .ref h9, .ref h10, .ref h11, .ref h12, .ref h13]), (h4, aQ (k 3) 4 (q4 h18 h19 h20 h21)), (h18, ob 5 [.int h18f0, .int h18f1, .ref h46]), (h19, ob 5 [.int h19f0, .int h19f1, .ref h47]), (h20, ob 5 [.int h20f0, .int h20f1, .ref h48]), (h21, ob 5 [.int h21f0, .int h21f1, .ref h49]), (h1, ob 4 [.int h1f0, .int h1f1, .int h1f2, .ref h14])] _ := hT
      exfalso; omega
  · skip
    have hT := J _ hT1
    have hT : TP D A [(h12, aJ (k 1) 9 anJ), (h13, aJ (k 1) 9 anJ), (h14, aJ (k 1) 36 anJ), (h46, aJ (k 1) 40 anJ), (h47, aJ (k 1) 40 anJ), (h48, aJ (k 1) 40 anJ), (h49, aJ (k 1) 40 anJ), (h0, ob 7 [.ref h1, .ref h2, .int h0f2, .ref h3, .ref h4, .ref h5, .int h0f6, .ref h6, .int h0f8, .ref h7, .ref h8, .int h0f11, .ref h9, .ref h10, .ref h11, .ref h12, .ref h13]), (h1, ob 4 [.int h1f0, .int h1f1, .int h1f2, .ref h14]), (h4, aQ (k 3) 4 (q4 h18 h19 h20 h21)), (h18, ob 5 [.int h18f0, .int h18f1, .ref h46]), (h19, ob 5 [.int h19f0, .int h19f1, .ref h47]), (h20, ob 5 [.int h20f0, .int h20f1, .ref h48]), (h21, ob 5 [.int h21f0, .int h21f1, .ref h49])] _ := hT
    refine lv_istore_n (lv' := [(3, .int 0), (0, .ref h0), (1, .int x1), (2, .int x2)]) hx hb dX10_keeps_7 rfl hl (by decide) rfl (fun ls hl => ?_)
    refine lv_iload_n hx hb dX10_keeps_8 rfl (lv_at hl 0 rfl) ?_
    refine lv_if_eq (tgt := 14) hx hb dX10_keeps_9 (by decide) (fun _ => ?_) (fun cc => absurd (by decide +kernel) cc)
    refine lv_aload_n hx hb dX10_keeps_14 rfl (lv_at hl 1 rfl) ?_
    refine tz_get (ci := 7) (v := .ref h4) (C := RX10) (F := TX10) (N := 17) hx hb hU iX10 hown hK hT 7 rfl rfl 4 (by decide) w253 (fun _ h9 => h9) rfl dX10_keeps_15 ?_
    refine lv_iload_n hx hb dX10_keeps_18 rfl (lv_at hl 2 rfl) ?_
    have hq258 : x1.toInt = 1 := by omega
    refine tz_aldq (b := h19) hx hb hK hT 9 rfl (vp_in_iff.mpr (by have := hq258; omega)) (fun f hf => by rw [cl_of hq258]; exact hf.2.1) dX10_keeps_19 ?_
    refine tz_get (ci := 5) (v := .ref h47) (C := RX6) (F := TX6) (N := 3) hx hb hU iX6 hown hK hT 11 rfl rfl 2 (by decide) w241 (fun _ h9 => h9) rfl dX10_keeps_20 ?_
    refine lv_iload_n hx hb dX10_keeps_23 rfl (lv_at hl 3 rfl) ?_
    refine lv_aload_n hx hb dX10_keeps_24 rfl (lv_at hl 1 rfl) ?_
    refine tz_get (ci := 7) (v := .ref h12) (C := RX10) (F := TX10) (N := 17) hx hb hU iX10 hown hK hT 7 rfl rfl 15 (by decide) w264 (fun _ h9 => h9) rfl dX10_keeps_25 ?_
    refine lv_iconst (v := 0) hx hb dX10_keeps_28 (by decide) ?_
    refine lv_aload_n hx hb dX10_keeps_29 rfl (lv_at hl 1 rfl) ?_
    refine tz_get (ci := 7) (v := .ref h1) (C := RX10) (F := TX10) (N := 17) hx hb hU iX10 hown hK hT 7 rfl rfl 0 (by decide) w249 (fun _ h9 => h9) rfl dX10_keeps_30 ?_
    refine tcI (Tc := [(h1, ob 4 [.int h1f0, .int h1f1, .int h1f2, .ref h14])]) (Tr := [(h12, aJ (k 1) 9 anJ), (h13, aJ (k 1) 9 anJ), (h14, aJ (k 1) 36 anJ), (h46, aJ (k 1) 40 anJ), (h47, aJ (k 1) 40 anJ), (h48, aJ (k 1) 40 anJ), (h49, aJ (k 1) 40 anJ), (h0, ob 7 [.ref h1, .ref h2, .int h0f2, .ref h3, .ref h4, .ref h5, .int h0f6, .ref h6, .int h0f8, .ref h7, .ref h8, .int h0f11, .ref h9, .ref h10, .ref h11, .ref h12, .ref h13]), (h4, aQ (k 3) 4 (q4 h18 h19 h20 h21)), (h18, ob 5 [.int h18f0, .int h18f1, .ref h46]), (h19, ob 5 [.int h19f0, .int h19f1, .ref h47]), (h20, ob 5 [.int h20f0, .int h20f1, .ref h48]), (h21, ob 5 [.int h21f0, .int h21f1, .ref h49])]) (as := [h1]) (zcV (q0 := 8) (ci := 4) (As := []) (rest := [.int 0, .ref h12, .int x2, .ref h47]) (Tc := [(h1, ob 4 [.int h1f0, .int h1f1, .int h1f2, .ref h14])]) hx hb hml hown hU hK hT rfl rfl [8] rfl (by decide) (cX5_cellCount_f3983 l D k _ h1 h14 h1f0 h1f1 h1f2 (by omega) (by omega)) w385 w382 w383 w384 w64 hdX5_cellCount ⟨rfl, rfl⟩ ⟨Nat.le_of_ble_eq_true rfl, Nat.le_of_ble_eq_true rfl⟩ rfl hl.1 (Nat.le_of_ble_eq_true rfl) dX10_keeps_33 ⟨Nat.le_of_ble_eq_true rfl, Nat.le_of_ble_eq_true rfl⟩) hT hS hA [8] [0, 1, 2, 3, 4, 5, 6, 7, 9, 10, 11, 12, 13] rfl rfl rfl (by decide) (by decide) (fun r259 H locs hB J hS => ?_)
    rcases hB with ⟨v260, b_v260, c_261, c_262, rfl, hT1⟩ | ⟨v263, b_v263, c_264, c_265, rfl, hT1⟩ | ⟨v266, b_v266, c_267, c_268, rfl, hT1⟩
    · skip
      have hT := J _ hT1
      have hT : TP D A [(h12, aJ (k 1) 9 anJ), (h13, aJ (k 1) 9 anJ), (h14, aJ (k 1) 36 anJ), (h46, aJ (k 1) 40 anJ), (h47, aJ (k 1) 40 anJ), (h48, aJ (k 1) 40 anJ), (h49, aJ (k 1) 40 anJ), (h0, ob 7 [.ref h1, .ref h2, .int h0f2, .ref h3, .ref h4, .ref h5, .int h0f6, .ref h6, .int h0f8, .ref h7, .ref h8, .int h0f11, .ref h9, .ref h10, .ref h11, .ref h12, .ref h13]), (h4, aQ (k 3) 4 (q4 h18 h19 h20 h21)), (h18, ob 5 [.int h18f0, .int h18f1, .ref h46]), (h19, ob 5 [.int h19f0, .int h19f1, .ref h47]), (h20, ob 5 [.int h20f0, .int h20f1, .ref h48]), (h21, ob 5 [.int h21f0, .int h21f1, .ref h49]), (h1, ob 4 [.int h1f0, .int h1f1, .int h1f2, .ref h14])] _ := hT
      exfalso; omega
    · skip
      have hT := J _ hT1
      have hT : TP D A [(h12, aJ (k 1) 9 anJ), (h13, aJ (k 1) 9 anJ), (h14, aJ (k 1) 36 anJ), (h46, aJ (k 1) 40 anJ), (h47, aJ (k 1) 40 anJ), (h48, aJ (k 1) 40 anJ), (h49, aJ (k 1) 40 anJ), (h0, ob 7 [.ref h1, .ref h2, .int h0f2, .ref h3, .ref h4, .ref h5, .int h0f6, .ref h6, .int h0f8, .ref h7, .ref h8, .int h0f11, .ref h9, .ref h10, .ref h11, .ref h12, .ref h13]), (h4, aQ (k 3) 4 (q4 h18 h19 h20 h21)), (h18, ob 5 [.int h18f0, .int h18f1, .ref h46]), (h19, ob 5 [.int h19f0, .int h19f1, .ref h47]), (h20, ob 5 [.int h20f0, .int h20f1, .ref h48]), (h21, ob 5 [.int h21f0, .int h21f1, .ref h49]), (h1, ob 4 [.int h1f0, .int h1f1, .int h1f2, .ref h14])] _ := hT
      refine tz_copyl hx hb (by rw [hml]; exact hl.1.symm) hown hU w410 w348 w347 w75 hK hT hS 4 0 rfl rfl (by have := li_0; omega) (fun _ _ _ _ => trivial) (Nat.le_of_ble_eq_true rfl) (Nat.le_of_ble_eq_true rfl) dX10_keeps_36 (fun H locs hT hS => ?_)
      refine lv_aload_n hx hb dX10_keeps_39 rfl (lv_at hl 1 rfl) ?_
      refine tz_get (ci := 7) (v := .ref h12) (C := RX10) (F := TX10) (N := 17) hx hb hU iX10 hown hK hT 7 rfl rfl 15 (by decide) w264 (fun _ h9 => h9) rfl dX10_keeps_40 ?_
      refine lv_aload_n hx hb dX10_keeps_43 rfl (lv_at hl 1 rfl) ?_
      refine tz_get (ci := 7) (v := .ref h1) (C := RX10) (F := TX10) (N := 17) hx hb hU iX10 hown hK hT 7 rfl rfl 0 (by decide) w249 (fun _ h9 => h9) rfl dX10_keeps_44 ?_
      refine tcI (Tc := [(h1, ob 4 [.int h1f0, .int h1f1, .int h1f2, .ref h14])]) (Tr := [(h12, aJ (k 1) 9 anJ), (h13, aJ (k 1) 9 anJ), (h14, aJ (k 1) 36 anJ), (h46, aJ (k 1) 40 anJ), (h47, aJ (k 1) 40 anJ), (h48, aJ (k 1) 40 anJ), (h49, aJ (k 1) 40 anJ), (h0, ob 7 [.ref h1, .ref h2, .int h0f2, .ref h3, .ref h4, .ref h5, .int h0f6, .ref h6, .int h0f8, .ref h7, .ref h8, .int h0f11, .ref h9, .ref h10, .ref h11, .ref h12, .ref h13]), (h4, aQ (k 3) 4 (q4 h18 h19 h20 h21)), (h18, ob 5 [.int h18f0, .int h18f1, .ref h46]), (h19, ob 5 [.int h19f0, .int h19f1, .ref h47]), (h20, ob 5 [.int h20f0, .int h20f1, .ref h48]), (h21, ob 5 [.int h21f0, .int h21f1, .ref h49])]) (as := [h1]) (zcV (q0 := 13) (ci := 4) (As := []) (rest := [.ref h12]) (Tc := [(h1, ob 4 [.int h1f0, .int h1f1, .int h1f2, .ref h14])]) hx hb hml hown hU hK hT rfl rfl [13] rfl (by decide) (cX5_cellCount_f3983 l D k _ h1 h14 h1f0 h1f1 h1f2 (by omega) (by omega)) w385 w382 w383 w384 w64 hdX5_cellCount ⟨rfl, rfl⟩ ⟨Nat.le_of_ble_eq_true rfl, Nat.le_of_ble_eq_true rfl⟩ rfl hl.1 (Nat.le_of_ble_eq_true rfl) dX10_keeps_47 ⟨Nat.le_of_ble_eq_true rfl, Nat.le_of_ble_eq_true rfl⟩) hT hS hA [13] [0, 1, 2, 3, 4, 5, 6, 7, 8, 9, 10, 11, 12] rfl rfl rfl (by decide) (by decide) (fun r269 H locs hB J hS => ?_)
      rcases hB with ⟨v270, b_v270, c_271, c_272, rfl, hT1⟩ | ⟨v273, b_v273, c_274, c_275, rfl, hT1⟩ | ⟨v276, b_v276, c_277, c_278, rfl, hT1⟩
      · skip
        have hT := J _ hT1
        have hT : TP D A [(h12, aJ (k 1) 9 anJ), (h13, aJ (k 1) 9 anJ), (h14, aJ (k 1) 36 anJ), (h46, aJ (k 1) 40 anJ), (h47, aJ (k 1) 40 anJ), (h48, aJ (k 1) 40 anJ), (h49, aJ (k 1) 40 anJ), (h0, ob 7 [.ref h1, .ref h2, .int h0f2, .ref h3, .ref h4, .ref h5, .int h0f6, .ref h6, .int h0f8, .ref h7, .ref h8, .int h0f11, .ref h9, .ref h10, .ref h11, .ref h12, .ref h13]), (h4, aQ (k 3) 4 (q4 h18 h19 h20 h21)), (h18, ob 5 [.int h18f0, .int h18f1, .ref h46]), (h19, ob 5 [.int h19f0, .int h19f1, .ref h47]), (h20, ob 5 [.int h20f0, .int h20f1, .ref h48]), (h21, ob 5 [.int h21f0, .int h21f1, .ref h49]), (h1, ob 4 [.int h1f0, .int h1f1, .int h1f2, .ref h14])] _ := hT
        exfalso; omega
      · skip
        have hT := J _ hT1
        have hT : TP D A [(h12, aJ (k 1) 9 anJ), (h13, aJ (k 1) 9 anJ), (h14, aJ (k 1) 36 anJ), (h46, aJ (k 1) 40 anJ), (h47, aJ (k 1) 40 anJ), (h48, aJ (k 1) 40 anJ), (h49, aJ (k 1) 40 anJ), (h0, ob 7 [.ref h1, .ref h2, .int h0f2, .ref h3, .ref h4, .ref h5, .int h0f6, .ref h6, .int h0f8, .ref h7, .ref h8, .int h0f11, .ref h9, .ref h10, .ref h11, .ref h12, .ref h13]), (h4, aQ (k 3) 4 (q4 h18 h19 h20 h21)), (h18, ob 5 [.int h18f0, .int h18f1, .ref h46]), (h19, ob 5 [.int h19f0, .int h19f1, .ref h47]), (h20, ob 5 [.int h20f0, .int h20f1, .ref h48]), (h21, ob 5 [.int h21f0, .int h21f1, .ref h49]), (h1, ob 4 [.int h1f0, .int h1f1, .int h1f2, .ref h14])] _ := hT
        refine lv_ldc2 hx hb hown (hU _ w649) dX10_keeps_50 ?_
        have q_q280 := ll_1000000
        refine tcI (Tc := [(h12, aJ (k 1) 9 anJ)]) (Tr := [(h13, aJ (k 1) 9 anJ), (h14, aJ (k 1) 36 anJ), (h46, aJ (k 1) 40 anJ), (h47, aJ (k 1) 40 anJ), (h48, aJ (k 1) 40 anJ), (h49, aJ (k 1) 40 anJ), (h0, ob 7 [.ref h1, .ref h2, .int h0f2, .ref h3, .ref h4, .ref h5, .int h0f6, .ref h6, .int h0f8, .ref h7, .ref h8, .int h0f11, .ref h9, .ref h10, .ref h11, .ref h12, .ref h13]), (h4, aQ (k 3) 4 (q4 h18 h19 h20 h21)), (h18, ob 5 [.int h18f0, .int h18f1, .ref h46]), (h19, ob 5 [.int h19f0, .int h19f1, .ref h47]), (h20, ob 5 [.int h20f0, .int h20f1, .ref h48]), (h21, ob 5 [.int h21f0, .int h21f1, .ref h49]), (h1, ob 4 [.int h1f0, .int h1f1, .int h1f2, .ref h14])]) (as := [h12]) (zcS (As := [.ref h12, .int v273, .long 1000000]) (rest := []) (Tc := [(h12, aJ (k 1) 9 anJ)]) hx hb hml hown hU hK hT [0] rfl (by decide) (cX7_isWithin_443ab l D k _ h12 v273 (1000000) (by omega) (by have := ll_1000000; omega)) w389 w387 w388 w74 hdX7_isWithin ⟨rfl, rfl⟩ ⟨Nat.le_of_ble_eq_true rfl, Nat.le_of_ble_eq_true rfl⟩ rfl hl.1 (Nat.le_of_ble_eq_true rfl) dX10_keeps_53 ⟨Nat.le_of_ble_eq_true rfl, Nat.le_of_ble_eq_true rfl⟩) hT hS hA [0] [1, 2, 3, 4, 5, 6, 7, 8, 9, 10, 11, 12, 13] rfl rfl rfl (by decide) (by decide) (fun r279 H locs hB J hS => ?_)
        obtain ⟨b_r279, hT1⟩ := hB
        have hT := J _ hT1
        have hT : TP D A [(h13, aJ (k 1) 9 anJ), (h14, aJ (k 1) 36 anJ), (h46, aJ (k 1) 40 anJ), (h47, aJ (k 1) 40 anJ), (h48, aJ (k 1) 40 anJ), (h49, aJ (k 1) 40 anJ), (h0, ob 7 [.ref h1, .ref h2, .int h0f2, .ref h3, .ref h4, .ref h5, .int h0f6, .ref h6, .int h0f8, .ref h7, .ref h8, .int h0f11, .ref h9, .ref h10, .ref h11, .ref h12, .ref h13]), (h4, aQ (k 3) 4 (q4 h18 h19 h20 h21)), (h18, ob 5 [.int h18f0, .int h18f1, .ref h46]), (h19, ob 5 [.int h19f0, .int h19f1, .ref h47]), (h20, ob 5 [.int h20f0, .int h20f1, .ref h48]), (h21, ob 5 [.int h21f0, .int h21f1, .ref h49]), (h1, ob 4 [.int h1f0, .int h1f1, .int h1f2, .ref h14]), (h12, aJ (k 1) 9 anJ)] _ := hT
        refine lv_if_ne (tgt := 62) hx hb dX10_keeps_56 (by decide) (fun c_281 => ?_) (fun c_281 => ?_)
        · skip
          have c_281 := ni_ne c_281 rfl li_0
          refine lv_aload_n hx hb dX10_keeps_62 rfl (lv_at hl 1 rfl) ?_
          refine tcI (Tc := [(h0, ob 7 [.ref h1, .ref h2, .int h0f2, .ref h3, .ref h4, .ref h5, .int h0f6, .ref h6, .int h0f8, .ref h7, .ref h8, .int h0f11, .ref h9, .ref h10, .ref h11, .ref h12, .ref h13]), (h1, ob 4 [.int h1f0, .int h1f1, .int h1f2, .ref h14]), (h12, aJ (k 1) 9 anJ), (h13, aJ (k 1) 9 anJ)]) (Tr := [(h14, aJ (k 1) 36 anJ), (h46, aJ (k 1) 40 anJ), (h47, aJ (k 1) 40 anJ), (h48, aJ (k 1) 40 anJ), (h49, aJ (k 1) 40 anJ), (h4, aQ (k 3) 4 (q4 h18 h19 h20 h21)), (h18, ob 5 [.int h18f0, .int h18f1, .ref h46]), (h19, ob 5 [.int h19f0, .int h19f1, .ref h47]), (h20, ob 5 [.int h20f0, .int h20f1, .ref h48]), (h21, ob 5 [.int h21f0, .int h21f1, .ref h49])]) (as := [h0, h1, h12, h13]) (zcV (q0 := 6) (ci := 7) (As := []) (rest := []) (Tc := [(h0, ob 7 [.ref h1, .ref h2, .int h0f2, .ref h3, .ref h4, .ref h5, .int h0f6, .ref h6, .int h0f8, .ref h7, .ref h8, .int h0f11, .ref h9, .ref h10, .ref h11, .ref h12, .ref h13]), (h1, ob 4 [.int h1f0, .int h1f1, .int h1f2, .ref h14]), (h12, aJ (k 1) 9 anJ), (h13, aJ (k 1) 9 anJ)]) hx hb hml hown hU hK hT rfl rfl [6, 12, 13, 0] rfl (by decide) (cX10_isPositiveForm_ec5e0 l D k _ h0 h1 h12 h13 h2 h3 h4 h5 h6 h7 h8 h9 h10 h11 h14 h0f2 h0f6 h0f8 h0f11 h1f0 h1f1 h1f2 (by omega) (by omega) (by omega) (by omega) (by omega) (by omega)) w653 w650 w652 w19 w63 hdX10_isPositiveForm ⟨rfl, rfl⟩ ⟨Nat.le_of_ble_eq_true rfl, Nat.le_of_ble_eq_true rfl⟩ rfl hl.1 (Nat.le_of_ble_eq_true rfl) dX10_keeps_63 ⟨Nat.le_of_ble_eq_true rfl, Nat.le_of_ble_eq_true rfl⟩) hT hS hA [6, 12, 13, 0] [1, 2, 3, 4, 5, 7, 8, 9, 10, 11] rfl rfl rfl (by decide) (by decide) (fun r282 H locs hB J hS => ?_)
          obtain ⟨b_r282, hT1⟩ := hB
          have hT := J _ hT1
          have hT : TP D A [(h14, aJ (k 1) 36 anJ), (h46, aJ (k 1) 40 anJ), (h47, aJ (k 1) 40 anJ), (h48, aJ (k 1) 40 anJ), (h49, aJ (k 1) 40 anJ), (h4, aQ (k 3) 4 (q4 h18 h19 h20 h21)), (h18, ob 5 [.int h18f0, .int h18f1, .ref h46]), (h19, ob 5 [.int h19f0, .int h19f1, .ref h47]), (h20, ob 5 [.int h20f0, .int h20f1, .ref h48]), (h21, ob 5 [.int h21f0, .int h21f1, .ref h49]), (h0, ob 7 [.ref h1, .ref h2, .int h0f2, .ref h3, .ref h4, .ref h5, .int h0f6, .ref h6, .int h0f8, .ref h7, .ref h8, .int h0f11, .ref h9, .ref h10, .ref h11, .ref h12, .ref h13]), (h1, ob 4 [.int h1f0, .int h1f1, .int h1f2, .ref h14]), (h12, aJ (k 1) 9 anJ), (h13, aJ (k 1) 9 anJ)] _ := hT
          refine lv_if_eq (tgt := 80) hx hb dX10_keeps_66 (by decide) (fun c_283 => ?_) (fun c_283 => ?_)
          · skip
            have c_283 := ni_eq c_283 rfl li_0
            refine lv_iconst (v := 0) hx hb dX10_keeps_80 (by decide) ?_
            exact tz_retI (B := B_cX10_keeps_56b43 D k h0 h1 h4 h12 h13 h14 h18 h19 h20 h21 h46 h47 h48 h49 h2 h3 h5 h6 h7 h8 h9 h10 h11 x1 x2 h0f2 h0f6 h0f8 h0f11 h1f0 h1f1 h1f2 h18f0 h18f1 h19f0 h19f1 h20f0 h20f1 h21f0 h21f1) (v := 0) hQ hx hb hr hlocks hS (Nat.le_of_ble_eq_true rfl) (Nat.le_of_ble_eq_true rfl) dX10_keeps_81 (⟨(by have := li_0; omega), (hT.sub [10, 11, 5, 12, 13, 0, 6, 7, 8, 9, 1, 2, 3, 4] (by decide) rfl)⟩)
          · skip
            have c_283 := ni_ne c_283 rfl li_0
            refine lv_aload_n hx hb dX10_keeps_69 rfl (lv_at hl 1 rfl) ?_
            refine tcI (Tc := [(h0, ob 7 [.ref h1, .ref h2, .int h0f2, .ref h3, .ref h4, .ref h5, .int h0f6, .ref h6, .int h0f8, .ref h7, .ref h8, .int h0f11, .ref h9, .ref h10, .ref h11, .ref h12, .ref h13]), (h1, ob 4 [.int h1f0, .int h1f1, .int h1f2, .ref h14]), (h12, aJ (k 1) 9 anJ), (h13, aJ (k 1) 9 anJ), (h14, aJ (k 1) 36 anJ)]) (Tr := [(h46, aJ (k 1) 40 anJ), (h47, aJ (k 1) 40 anJ), (h48, aJ (k 1) 40 anJ), (h49, aJ (k 1) 40 anJ), (h4, aQ (k 3) 4 (q4 h18 h19 h20 h21)), (h18, ob 5 [.int h18f0, .int h18f1, .ref h46]), (h19, ob 5 [.int h19f0, .int h19f1, .ref h47]), (h20, ob 5 [.int h20f0, .int h20f1, .ref h48]), (h21, ob 5 [.int h21f0, .int h21f1, .ref h49])]) (as := [h0, h1, h12, h13, h14]) (zcV (q0 := 10) (ci := 7) (As := []) (rest := []) (Tc := [(h0, ob 7 [.ref h1, .ref h2, .int h0f2, .ref h3, .ref h4, .ref h5, .int h0f6, .ref h6, .int h0f8, .ref h7, .ref h8, .int h0f11, .ref h9, .ref h10, .ref h11, .ref h12, .ref h13]), (h1, ob 4 [.int h1f0, .int h1f1, .int h1f2, .ref h14]), (h12, aJ (k 1) 9 anJ), (h13, aJ (k 1) 9 anJ), (h14, aJ (k 1) 36 anJ)]) hx hb hml hown hU hK hT rfl rfl [10, 11, 12, 13, 0] rfl (by decide) (cX10_noGeneratorChangesForm_03344 l D k _ h0 h1 h12 h13 h14 h2 h3 h4 h5 h6 h7 h8 h9 h10 h11 h0f2 h0f6 h0f8 h0f11 h1f0 h1f1 h1f2 (by omega) (by omega) (by omega) (by omega) (by omega) (by omega)) w657 w654 w656 w20 w63 hdX10_noGeneratorChangesForm ⟨rfl, rfl⟩ ⟨Nat.le_of_ble_eq_true rfl, Nat.le_of_ble_eq_true rfl⟩ rfl hl.1 (Nat.le_of_ble_eq_true rfl) dX10_keeps_70 ⟨Nat.le_of_ble_eq_true rfl, Nat.le_of_ble_eq_true rfl⟩) hT hS hA [10, 11, 12, 13, 0] [1, 2, 3, 4, 5, 6, 7, 8, 9] rfl rfl rfl (by decide) (by decide) (fun r284 H locs hB J hS => ?_)
            obtain ⟨b_r284, hT1⟩ := hB
            have hT := J _ hT1
            have hT : TP D A [(h46, aJ (k 1) 40 anJ), (h47, aJ (k 1) 40 anJ), (h48, aJ (k 1) 40 anJ), (h49, aJ (k 1) 40 anJ), (h4, aQ (k 3) 4 (q4 h18 h19 h20 h21)), (h18, ob 5 [.int h18f0, .int h18f1, .ref h46]), (h19, ob 5 [.int h19f0, .int h19f1, .ref h47]), (h20, ob 5 [.int h20f0, .int h20f1, .ref h48]), (h21, ob 5 [.int h21f0, .int h21f1, .ref h49]), (h0, ob 7 [.ref h1, .ref h2, .int h0f2, .ref h3, .ref h4, .ref h5, .int h0f6, .ref h6, .int h0f8, .ref h7, .ref h8, .int h0f11, .ref h9, .ref h10, .ref h11, .ref h12, .ref h13]), (h1, ob 4 [.int h1f0, .int h1f1, .int h1f2, .ref h14]), (h12, aJ (k 1) 9 anJ), (h13, aJ (k 1) 9 anJ), (h14, aJ (k 1) 36 anJ)] _ := hT
            refine lv_if_eq (tgt := 80) hx hb dX10_keeps_73 (by decide) (fun c_285 => ?_) (fun c_285 => ?_)
            · skip
              have c_285 := ni_eq c_285 rfl li_0
              refine lv_iconst (v := 0) hx hb dX10_keeps_80 (by decide) ?_
              exact tz_retI (B := B_cX10_keeps_56b43 D k h0 h1 h4 h12 h13 h14 h18 h19 h20 h21 h46 h47 h48 h49 h2 h3 h5 h6 h7 h8 h9 h10 h11 x1 x2 h0f2 h0f6 h0f8 h0f11 h1f0 h1f1 h1f2 h18f0 h18f1 h19f0 h19f1 h20f0 h20f1 h21f0 h21f1) (v := 0) hQ hx hb hr hlocks hS (Nat.le_of_ble_eq_true rfl) (Nat.le_of_ble_eq_true rfl) dX10_keeps_81 (⟨(by have := li_0; omega), (hT.sub [9, 10, 4, 11, 12, 13, 5, 6, 7, 8, 0, 1, 2, 3] (by decide) rfl)⟩)
            · skip
              have c_285 := ni_ne c_285 rfl li_0
              refine lv_iconst (v := 1) hx hb dX10_keeps_76 (by decide) ?_
              refine lv_goto (tgt := 81) hx hb dX10_keeps_77 (by decide) ?_
              exact tz_retI (B := B_cX10_keeps_56b43 D k h0 h1 h4 h12 h13 h14 h18 h19 h20 h21 h46 h47 h48 h49 h2 h3 h5 h6 h7 h8 h9 h10 h11 x1 x2 h0f2 h0f6 h0f8 h0f11 h1f0 h1f1 h1f2 h18f0 h18f1 h19f0 h19f1 h20f0 h20f1 h21f0 h21f1) (v := 1) hQ hx hb hr hlocks hS (Nat.le_of_ble_eq_true rfl) (Nat.le_of_ble_eq_true rfl) dX10_keeps_81 (⟨(by have := li_1; omega), (hT.sub [9, 10, 4, 11, 12, 13, 5, 6, 7, 8, 0, 1, 2, 3] (by decide) rfl)⟩)
        · skip
          have c_281 := ni_eq c_281 rfl li_0
          refine lv_bipush (v := (-16)) hx hb dX10_keeps_59 (by decide) ?_
          exact tz_retI (B := B_cX10_keeps_56b43 D k h0 h1 h4 h12 h13 h14 h18 h19 h20 h21 h46 h47 h48 h49 h2 h3 h5 h6 h7 h8 h9 h10 h11 x1 x2 h0f2 h0f6 h0f8 h0f11 h1f0 h1f1 h1f2 h18f0 h18f1 h19f0 h19f1 h20f0 h20f1 h21f0 h21f1) (v := (-16)) hQ hx hb hr hlocks hS (Nat.le_of_ble_eq_true rfl) (Nat.le_of_ble_eq_true rfl) dX10_keeps_61 (⟨(by have := li_m16; omega), (hT.sub [6, 12, 7, 13, 0, 1, 8, 9, 10, 11, 2, 3, 4, 5] (by decide) rfl)⟩)
      · skip
        have hT := J _ hT1
        have hT : TP D A [(h12, aJ (k 1) 9 anJ), (h13, aJ (k 1) 9 anJ), (h14, aJ (k 1) 36 anJ), (h46, aJ (k 1) 40 anJ), (h47, aJ (k 1) 40 anJ), (h48, aJ (k 1) 40 anJ), (h49, aJ (k 1) 40 anJ), (h0, ob 7 [.ref h1, .ref h2, .int h0f2, .ref h3, .ref h4, .ref h5, .int h0f6, .ref h6, .int h0f8, .ref h7, .ref h8, .int h0f11, .ref h9, .ref h10, .ref h11, .ref h12, .ref h13]), (h4, aQ (k 3) 4 (q4 h18 h19 h20 h21)), (h18, ob 5 [.int h18f0, .int h18f1, .ref h46]), (h19, ob 5 [.int h19f0, .int h19f1, .ref h47]), (h20, ob 5 [.int h20f0, .int h20f1, .ref h48]), (h21, ob 5 [.int h21f0, .int h21f1, .ref h49]), (h1, ob 4 [.int h1f0, .int h1f1, .int h1f2, .ref h14])] _ := hT
        exfalso; omega
    · skip
      have hT := J _ hT1
      have hT : TP D A [(h12, aJ (k 1) 9 anJ), (h13, aJ (k 1) 9 anJ), (h14, aJ (k 1) 36 anJ), (h46, aJ (k 1) 40 anJ), (h47, aJ (k 1) 40 anJ), (h48, aJ (k 1) 40 anJ), (h49, aJ (k 1) 40 anJ), (h0, ob 7 [.ref h1, .ref h2, .int h0f2, .ref h3, .ref h4, .ref h5, .int h0f6, .ref h6, .int h0f8, .ref h7, .ref h8, .int h0f11, .ref h9, .ref h10, .ref h11, .ref h12, .ref h13]), (h4, aQ (k 3) 4 (q4 h18 h19 h20 h21)), (h18, ob 5 [.int h18f0, .int h18f1, .ref h46]), (h19, ob 5 [.int h19f0, .int h19f1, .ref h47]), (h20, ob 5 [.int h20f0, .int h20f1, .ref h48]), (h21, ob 5 [.int h21f0, .int h21f1, .ref h49]), (h1, ob 4 [.int h1f0, .int h1f1, .int h1f2, .ref h14])] _ := hT
      exfalso; omega
  · skip
    have hT := J _ hT1
    have hT : TP D A [(h12, aJ (k 1) 9 anJ), (h13, aJ (k 1) 9 anJ), (h14, aJ (k 1) 36 anJ), (h46, aJ (k 1) 40 anJ), (h47, aJ (k 1) 40 anJ), (h48, aJ (k 1) 40 anJ), (h49, aJ (k 1) 40 anJ), (h0, ob 7 [.ref h1, .ref h2, .int h0f2, .ref h3, .ref h4, .ref h5, .int h0f6, .ref h6, .int h0f8, .ref h7, .ref h8, .int h0f11, .ref h9, .ref h10, .ref h11, .ref h12, .ref h13]), (h1, ob 4 [.int h1f0, .int h1f1, .int h1f2, .ref h14]), (h4, aQ (k 3) 4 (q4 h18 h19 h20 h21)), (h18, ob 5 [.int h18f0, .int h18f1, .ref h46]), (h19, ob 5 [.int h19f0, .int h19f1, .ref h47]), (h20, ob 5 [.int h20f0, .int h20f1, .ref h48]), (h21, ob 5 [.int h21f0, .int h21f1, .ref h49])] _ := hT
    refine lv_istore_n (lv' := [(3, .int 0), (0, .ref h0), (1, .int x1), (2, .int x2)]) hx hb dX10_keeps_7 rfl hl (by decide) rfl (fun ls hl => ?_)
    refine lv_iload_n hx hb dX10_keeps_8 rfl (lv_at hl 0 rfl) ?_
    refine lv_if_eq (tgt := 14) hx hb dX10_keeps_9 (by decide) (fun _ => ?_) (fun cc => absurd (by decide +kernel) cc)
    refine lv_aload_n hx hb dX10_keeps_14 rfl (lv_at hl 1 rfl) ?_
    refine tz_get (ci := 7) (v := .ref h4) (C := RX10) (F := TX10) (N := 17) hx hb hU iX10 hown hK hT 7 rfl rfl 4 (by decide) w253 (fun _ h9 => h9) rfl dX10_keeps_15 ?_
    refine lv_iload_n hx hb dX10_keeps_18 rfl (lv_at hl 2 rfl) ?_
    have hq286 : x1.toInt = 1 := by omega
    refine tz_aldq (b := h19) hx hb hK hT 9 rfl (vp_in_iff.mpr (by have := hq286; omega)) (fun f hf => by rw [cl_of hq286]; exact hf.2.1) dX10_keeps_19 ?_
    refine tz_get (ci := 5) (v := .ref h47) (C := RX6) (F := TX6) (N := 3) hx hb hU iX6 hown hK hT 11 rfl rfl 2 (by decide) w241 (fun _ h9 => h9) rfl dX10_keeps_20 ?_
    refine lv_iload_n hx hb dX10_keeps_23 rfl (lv_at hl 3 rfl) ?_
    refine lv_aload_n hx hb dX10_keeps_24 rfl (lv_at hl 1 rfl) ?_
    refine tz_get (ci := 7) (v := .ref h12) (C := RX10) (F := TX10) (N := 17) hx hb hU iX10 hown hK hT 7 rfl rfl 15 (by decide) w264 (fun _ h9 => h9) rfl dX10_keeps_25 ?_
    refine lv_iconst (v := 0) hx hb dX10_keeps_28 (by decide) ?_
    refine lv_aload_n hx hb dX10_keeps_29 rfl (lv_at hl 1 rfl) ?_
    refine tz_get (ci := 7) (v := .ref h1) (C := RX10) (F := TX10) (N := 17) hx hb hU iX10 hown hK hT 7 rfl rfl 0 (by decide) w249 (fun _ h9 => h9) rfl dX10_keeps_30 ?_
    refine tcI (Tc := [(h1, ob 4 [.int h1f0, .int h1f1, .int h1f2, .ref h14])]) (Tr := [(h12, aJ (k 1) 9 anJ), (h13, aJ (k 1) 9 anJ), (h14, aJ (k 1) 36 anJ), (h46, aJ (k 1) 40 anJ), (h47, aJ (k 1) 40 anJ), (h48, aJ (k 1) 40 anJ), (h49, aJ (k 1) 40 anJ), (h0, ob 7 [.ref h1, .ref h2, .int h0f2, .ref h3, .ref h4, .ref h5, .int h0f6, .ref h6, .int h0f8, .ref h7, .ref h8, .int h0f11, .ref h9, .ref h10, .ref h11, .ref h12, .ref h13]), (h4, aQ (k 3) 4 (q4 h18 h19 h20 h21)), (h18, ob 5 [.int h18f0, .int h18f1, .ref h46]), (h19, ob 5 [.int h19f0, .int h19f1, .ref h47]), (h20, ob 5 [.int h20f0, .int h20f1, .ref h48]), (h21, ob 5 [.int h21f0, .int h21f1, .ref h49])]) (as := [h1]) (zcV (q0 := 8) (ci := 4) (As := []) (rest := [.int 0, .ref h12, .int x2, .ref h47]) (Tc := [(h1, ob 4 [.int h1f0, .int h1f1, .int h1f2, .ref h14])]) hx hb hml hown hU hK hT rfl rfl [8] rfl (by decide) (cX5_cellCount_f3983 l D k _ h1 h14 h1f0 h1f1 h1f2 (by omega) (by omega)) w385 w382 w383 w384 w64 hdX5_cellCount ⟨rfl, rfl⟩ ⟨Nat.le_of_ble_eq_true rfl, Nat.le_of_ble_eq_true rfl⟩ rfl hl.1 (Nat.le_of_ble_eq_true rfl) dX10_keeps_33 ⟨Nat.le_of_ble_eq_true rfl, Nat.le_of_ble_eq_true rfl⟩) hT hS hA [8] [0, 1, 2, 3, 4, 5, 6, 7, 9, 10, 11, 12, 13] rfl rfl rfl (by decide) (by decide) (fun r287 H locs hB J hS => ?_)
    rcases hB with ⟨v288, b_v288, c_289, c_290, rfl, hT1⟩ | ⟨v291, b_v291, c_292, c_293, rfl, hT1⟩ | ⟨v294, b_v294, c_295, c_296, rfl, hT1⟩
    · skip
      have hT := J _ hT1
      have hT : TP D A [(h12, aJ (k 1) 9 anJ), (h13, aJ (k 1) 9 anJ), (h14, aJ (k 1) 36 anJ), (h46, aJ (k 1) 40 anJ), (h47, aJ (k 1) 40 anJ), (h48, aJ (k 1) 40 anJ), (h49, aJ (k 1) 40 anJ), (h0, ob 7 [.ref h1, .ref h2, .int h0f2, .ref h3, .ref h4, .ref h5, .int h0f6, .ref h6, .int h0f8, .ref h7, .ref h8, .int h0f11, .ref h9, .ref h10, .ref h11, .ref h12, .ref h13]), (h4, aQ (k 3) 4 (q4 h18 h19 h20 h21)), (h18, ob 5 [.int h18f0, .int h18f1, .ref h46]), (h19, ob 5 [.int h19f0, .int h19f1, .ref h47]), (h20, ob 5 [.int h20f0, .int h20f1, .ref h48]), (h21, ob 5 [.int h21f0, .int h21f1, .ref h49]), (h1, ob 4 [.int h1f0, .int h1f1, .int h1f2, .ref h14])] _ := hT
      exfalso; omega
    · skip
      have hT := J _ hT1
      have hT : TP D A [(h12, aJ (k 1) 9 anJ), (h13, aJ (k 1) 9 anJ), (h14, aJ (k 1) 36 anJ), (h46, aJ (k 1) 40 anJ), (h47, aJ (k 1) 40 anJ), (h48, aJ (k 1) 40 anJ), (h49, aJ (k 1) 40 anJ), (h0, ob 7 [.ref h1, .ref h2, .int h0f2, .ref h3, .ref h4, .ref h5, .int h0f6, .ref h6, .int h0f8, .ref h7, .ref h8, .int h0f11, .ref h9, .ref h10, .ref h11, .ref h12, .ref h13]), (h4, aQ (k 3) 4 (q4 h18 h19 h20 h21)), (h18, ob 5 [.int h18f0, .int h18f1, .ref h46]), (h19, ob 5 [.int h19f0, .int h19f1, .ref h47]), (h20, ob 5 [.int h20f0, .int h20f1, .ref h48]), (h21, ob 5 [.int h21f0, .int h21f1, .ref h49]), (h1, ob 4 [.int h1f0, .int h1f1, .int h1f2, .ref h14])] _ := hT
      exfalso; omega
    · skip
      have hT := J _ hT1
      have hT : TP D A [(h12, aJ (k 1) 9 anJ), (h13, aJ (k 1) 9 anJ), (h14, aJ (k 1) 36 anJ), (h46, aJ (k 1) 40 anJ), (h47, aJ (k 1) 40 anJ), (h48, aJ (k 1) 40 anJ), (h49, aJ (k 1) 40 anJ), (h0, ob 7 [.ref h1, .ref h2, .int h0f2, .ref h3, .ref h4, .ref h5, .int h0f6, .ref h6, .int h0f8, .ref h7, .ref h8, .int h0f11, .ref h9, .ref h10, .ref h11, .ref h12, .ref h13]), (h4, aQ (k 3) 4 (q4 h18 h19 h20 h21)), (h18, ob 5 [.int h18f0, .int h18f1, .ref h46]), (h19, ob 5 [.int h19f0, .int h19f1, .ref h47]), (h20, ob 5 [.int h20f0, .int h20f1, .ref h48]), (h21, ob 5 [.int h21f0, .int h21f1, .ref h49]), (h1, ob 4 [.int h1f0, .int h1f1, .int h1f2, .ref h14])] _ := hT
      refine tz_copyl hx hb (by rw [hml]; exact hl.1.symm) hown hU w410 w348 w347 w75 hK hT hS 4 0 rfl rfl (by have := li_0; omega) (fun _ _ _ _ => trivial) (Nat.le_of_ble_eq_true rfl) (Nat.le_of_ble_eq_true rfl) dX10_keeps_36 (fun H locs hT hS => ?_)
      refine lv_aload_n hx hb dX10_keeps_39 rfl (lv_at hl 1 rfl) ?_
      refine tz_get (ci := 7) (v := .ref h12) (C := RX10) (F := TX10) (N := 17) hx hb hU iX10 hown hK hT 7 rfl rfl 15 (by decide) w264 (fun _ h9 => h9) rfl dX10_keeps_40 ?_
      refine lv_aload_n hx hb dX10_keeps_43 rfl (lv_at hl 1 rfl) ?_
      refine tz_get (ci := 7) (v := .ref h1) (C := RX10) (F := TX10) (N := 17) hx hb hU iX10 hown hK hT 7 rfl rfl 0 (by decide) w249 (fun _ h9 => h9) rfl dX10_keeps_44 ?_
      refine tcI (Tc := [(h1, ob 4 [.int h1f0, .int h1f1, .int h1f2, .ref h14])]) (Tr := [(h12, aJ (k 1) 9 anJ), (h13, aJ (k 1) 9 anJ), (h14, aJ (k 1) 36 anJ), (h46, aJ (k 1) 40 anJ), (h47, aJ (k 1) 40 anJ), (h48, aJ (k 1) 40 anJ), (h49, aJ (k 1) 40 anJ), (h0, ob 7 [.ref h1, .ref h2, .int h0f2, .ref h3, .ref h4, .ref h5, .int h0f6, .ref h6, .int h0f8, .ref h7, .ref h8, .int h0f11, .ref h9, .ref h10, .ref h11, .ref h12, .ref h13]), (h4, aQ (k 3) 4 (q4 h18 h19 h20 h21)), (h18, ob 5 [.int h18f0, .int h18f1, .ref h46]), (h19, ob 5 [.int h19f0, .int h19f1, .ref h47]), (h20, ob 5 [.int h20f0, .int h20f1, .ref h48]), (h21, ob 5 [.int h21f0, .int h21f1, .ref h49])]) (as := [h1]) (zcV (q0 := 13) (ci := 4) (As := []) (rest := [.ref h12]) (Tc := [(h1, ob 4 [.int h1f0, .int h1f1, .int h1f2, .ref h14])]) hx hb hml hown hU hK hT rfl rfl [13] rfl (by decide) (cX5_cellCount_f3983 l D k _ h1 h14 h1f0 h1f1 h1f2 (by omega) (by omega)) w385 w382 w383 w384 w64 hdX5_cellCount ⟨rfl, rfl⟩ ⟨Nat.le_of_ble_eq_true rfl, Nat.le_of_ble_eq_true rfl⟩ rfl hl.1 (Nat.le_of_ble_eq_true rfl) dX10_keeps_47 ⟨Nat.le_of_ble_eq_true rfl, Nat.le_of_ble_eq_true rfl⟩) hT hS hA [13] [0, 1, 2, 3, 4, 5, 6, 7, 8, 9, 10, 11, 12] rfl rfl rfl (by decide) (by decide) (fun r297 H locs hB J hS => ?_)
      rcases hB with ⟨v298, b_v298, c_299, c_300, rfl, hT1⟩ | ⟨v301, b_v301, c_302, c_303, rfl, hT1⟩ | ⟨v304, b_v304, c_305, c_306, rfl, hT1⟩
      · skip
        have hT := J _ hT1
        have hT : TP D A [(h12, aJ (k 1) 9 anJ), (h13, aJ (k 1) 9 anJ), (h14, aJ (k 1) 36 anJ), (h46, aJ (k 1) 40 anJ), (h47, aJ (k 1) 40 anJ), (h48, aJ (k 1) 40 anJ), (h49, aJ (k 1) 40 anJ), (h0, ob 7 [.ref h1, .ref h2, .int h0f2, .ref h3, .ref h4, .ref h5, .int h0f6, .ref h6, .int h0f8, .ref h7, .ref h8, .int h0f11, .ref h9, .ref h10, .ref h11, .ref h12, .ref h13]), (h4, aQ (k 3) 4 (q4 h18 h19 h20 h21)), (h18, ob 5 [.int h18f0, .int h18f1, .ref h46]), (h19, ob 5 [.int h19f0, .int h19f1, .ref h47]), (h20, ob 5 [.int h20f0, .int h20f1, .ref h48]), (h21, ob 5 [.int h21f0, .int h21f1, .ref h49]), (h1, ob 4 [.int h1f0, .int h1f1, .int h1f2, .ref h14])] _ := hT
        exfalso; omega
      · skip
        have hT := J _ hT1
        have hT : TP D A [(h12, aJ (k 1) 9 anJ), (h13, aJ (k 1) 9 anJ), (h14, aJ (k 1) 36 anJ), (h46, aJ (k 1) 40 anJ), (h47, aJ (k 1) 40 anJ), (h48, aJ (k 1) 40 anJ), (h49, aJ (k 1) 40 anJ), (h0, ob 7 [.ref h1, .ref h2, .int h0f2, .ref h3, .ref h4, .ref h5, .int h0f6, .ref h6, .int h0f8, .ref h7, .ref h8, .int h0f11, .ref h9, .ref h10, .ref h11, .ref h12, .ref h13]), (h4, aQ (k 3) 4 (q4 h18 h19 h20 h21)), (h18, ob 5 [.int h18f0, .int h18f1, .ref h46]), (h19, ob 5 [.int h19f0, .int h19f1, .ref h47]), (h20, ob 5 [.int h20f0, .int h20f1, .ref h48]), (h21, ob 5 [.int h21f0, .int h21f1, .ref h49]), (h1, ob 4 [.int h1f0, .int h1f1, .int h1f2, .ref h14])] _ := hT
        exfalso; omega
      · skip
        have hT := J _ hT1
        have hT : TP D A [(h12, aJ (k 1) 9 anJ), (h13, aJ (k 1) 9 anJ), (h14, aJ (k 1) 36 anJ), (h46, aJ (k 1) 40 anJ), (h47, aJ (k 1) 40 anJ), (h48, aJ (k 1) 40 anJ), (h49, aJ (k 1) 40 anJ), (h0, ob 7 [.ref h1, .ref h2, .int h0f2, .ref h3, .ref h4, .ref h5, .int h0f6, .ref h6, .int h0f8, .ref h7, .ref h8, .int h0f11, .ref h9, .ref h10, .ref h11, .ref h12, .ref h13]), (h4, aQ (k 3) 4 (q4 h18 h19 h20 h21)), (h18, ob 5 [.int h18f0, .int h18f1, .ref h46]), (h19, ob 5 [.int h19f0, .int h19f1, .ref h47]), (h20, ob 5 [.int h20f0, .int h20f1, .ref h48]), (h21, ob 5 [.int h21f0, .int h21f1, .ref h49]), (h1, ob 4 [.int h1f0, .int h1f1, .int h1f2, .ref h14])] _ := hT
        refine lv_ldc2 hx hb hown (hU _ w649) dX10_keeps_50 ?_
        have q_q308 := ll_1000000
        refine tcI (Tc := [(h12, aJ (k 1) 9 anJ)]) (Tr := [(h13, aJ (k 1) 9 anJ), (h14, aJ (k 1) 36 anJ), (h46, aJ (k 1) 40 anJ), (h47, aJ (k 1) 40 anJ), (h48, aJ (k 1) 40 anJ), (h49, aJ (k 1) 40 anJ), (h0, ob 7 [.ref h1, .ref h2, .int h0f2, .ref h3, .ref h4, .ref h5, .int h0f6, .ref h6, .int h0f8, .ref h7, .ref h8, .int h0f11, .ref h9, .ref h10, .ref h11, .ref h12, .ref h13]), (h4, aQ (k 3) 4 (q4 h18 h19 h20 h21)), (h18, ob 5 [.int h18f0, .int h18f1, .ref h46]), (h19, ob 5 [.int h19f0, .int h19f1, .ref h47]), (h20, ob 5 [.int h20f0, .int h20f1, .ref h48]), (h21, ob 5 [.int h21f0, .int h21f1, .ref h49]), (h1, ob 4 [.int h1f0, .int h1f1, .int h1f2, .ref h14])]) (as := [h12]) (zcS (As := [.ref h12, .int v304, .long 1000000]) (rest := []) (Tc := [(h12, aJ (k 1) 9 anJ)]) hx hb hml hown hU hK hT [0] rfl (by decide) (cX7_isWithin_443ab l D k _ h12 v304 (1000000) (by omega) (by have := ll_1000000; omega)) w389 w387 w388 w74 hdX7_isWithin ⟨rfl, rfl⟩ ⟨Nat.le_of_ble_eq_true rfl, Nat.le_of_ble_eq_true rfl⟩ rfl hl.1 (Nat.le_of_ble_eq_true rfl) dX10_keeps_53 ⟨Nat.le_of_ble_eq_true rfl, Nat.le_of_ble_eq_true rfl⟩) hT hS hA [0] [1, 2, 3, 4, 5, 6, 7, 8, 9, 10, 11, 12, 13] rfl rfl rfl (by decide) (by decide) (fun r307 H locs hB J hS => ?_)
        obtain ⟨b_r307, hT1⟩ := hB
        have hT := J _ hT1
        have hT : TP D A [(h13, aJ (k 1) 9 anJ), (h14, aJ (k 1) 36 anJ), (h46, aJ (k 1) 40 anJ), (h47, aJ (k 1) 40 anJ), (h48, aJ (k 1) 40 anJ), (h49, aJ (k 1) 40 anJ), (h0, ob 7 [.ref h1, .ref h2, .int h0f2, .ref h3, .ref h4, .ref h5, .int h0f6, .ref h6, .int h0f8, .ref h7, .ref h8, .int h0f11, .ref h9, .ref h10, .ref h11, .ref h12, .ref h13]), (h4, aQ (k 3) 4 (q4 h18 h19 h20 h21)), (h18, ob 5 [.int h18f0, .int h18f1, .ref h46]), (h19, ob 5 [.int h19f0, .int h19f1, .ref h47]), (h20, ob 5 [.int h20f0, .int h20f1, .ref h48]), (h21, ob 5 [.int h21f0, .int h21f1, .ref h49]), (h1, ob 4 [.int h1f0, .int h1f1, .int h1f2, .ref h14]), (h12, aJ (k 1) 9 anJ)] _ := hT
        refine lv_if_ne (tgt := 62) hx hb dX10_keeps_56 (by decide) (fun c_309 => ?_) (fun c_309 => ?_)
        · skip
          have c_309 := ni_ne c_309 rfl li_0
          refine lv_aload_n hx hb dX10_keeps_62 rfl (lv_at hl 1 rfl) ?_
          refine tcI (Tc := [(h0, ob 7 [.ref h1, .ref h2, .int h0f2, .ref h3, .ref h4, .ref h5, .int h0f6, .ref h6, .int h0f8, .ref h7, .ref h8, .int h0f11, .ref h9, .ref h10, .ref h11, .ref h12, .ref h13]), (h1, ob 4 [.int h1f0, .int h1f1, .int h1f2, .ref h14]), (h12, aJ (k 1) 9 anJ), (h13, aJ (k 1) 9 anJ)]) (Tr := [(h14, aJ (k 1) 36 anJ), (h46, aJ (k 1) 40 anJ), (h47, aJ (k 1) 40 anJ), (h48, aJ (k 1) 40 anJ), (h49, aJ (k 1) 40 anJ), (h4, aQ (k 3) 4 (q4 h18 h19 h20 h21)), (h18, ob 5 [.int h18f0, .int h18f1, .ref h46]), (h19, ob 5 [.int h19f0, .int h19f1, .ref h47]), (h20, ob 5 [.int h20f0, .int h20f1, .ref h48]), (h21, ob 5 [.int h21f0, .int h21f1, .ref h49])]) (as := [h0, h1, h12, h13]) (zcV (q0 := 6) (ci := 7) (As := []) (rest := []) (Tc := [(h0, ob 7 [.ref h1, .ref h2, .int h0f2, .ref h3, .ref h4, .ref h5, .int h0f6, .ref h6, .int h0f8, .ref h7, .ref h8, .int h0f11, .ref h9, .ref h10, .ref h11, .ref h12, .ref h13]), (h1, ob 4 [.int h1f0, .int h1f1, .int h1f2, .ref h14]), (h12, aJ (k 1) 9 anJ), (h13, aJ (k 1) 9 anJ)]) hx hb hml hown hU hK hT rfl rfl [6, 12, 13, 0] rfl (by decide) (cX10_isPositiveForm_ec5e0 l D k _ h0 h1 h12 h13 h2 h3 h4 h5 h6 h7 h8 h9 h10 h11 h14 h0f2 h0f6 h0f8 h0f11 h1f0 h1f1 h1f2 (by omega) (by omega) (by omega) (by omega) (by omega) (by omega)) w653 w650 w652 w19 w63 hdX10_isPositiveForm ⟨rfl, rfl⟩ ⟨Nat.le_of_ble_eq_true rfl, Nat.le_of_ble_eq_true rfl⟩ rfl hl.1 (Nat.le_of_ble_eq_true rfl) dX10_keeps_63 ⟨Nat.le_of_ble_eq_true rfl, Nat.le_of_ble_eq_true rfl⟩) hT hS hA [6, 12, 13, 0] [1, 2, 3, 4, 5, 7, 8, 9, 10, 11] rfl rfl rfl (by decide) (by decide) (fun r310 H locs hB J hS => ?_)
          obtain ⟨b_r310, hT1⟩ := hB
          have hT := J _ hT1
          have hT : TP D A [(h14, aJ (k 1) 36 anJ), (h46, aJ (k 1) 40 anJ), (h47, aJ (k 1) 40 anJ), (h48, aJ (k 1) 40 anJ), (h49, aJ (k 1) 40 anJ), (h4, aQ (k 3) 4 (q4 h18 h19 h20 h21)), (h18, ob 5 [.int h18f0, .int h18f1, .ref h46]), (h19, ob 5 [.int h19f0, .int h19f1, .ref h47]), (h20, ob 5 [.int h20f0, .int h20f1, .ref h48]), (h21, ob 5 [.int h21f0, .int h21f1, .ref h49]), (h0, ob 7 [.ref h1, .ref h2, .int h0f2, .ref h3, .ref h4, .ref h5, .int h0f6, .ref h6, .int h0f8, .ref h7, .ref h8, .int h0f11, .ref h9, .ref h10, .ref h11, .ref h12, .ref h13]), (h1, ob 4 [.int h1f0, .int h1f1, .int h1f2, .ref h14]), (h12, aJ (k 1) 9 anJ), (h13, aJ (k 1) 9 anJ)] _ := hT
          refine lv_if_eq (tgt := 80) hx hb dX10_keeps_66 (by decide) (fun c_311 => ?_) (fun c_311 => ?_)
          · skip
            have c_311 := ni_eq c_311 rfl li_0
            refine lv_iconst (v := 0) hx hb dX10_keeps_80 (by decide) ?_
            exact tz_retI (B := B_cX10_keeps_56b43 D k h0 h1 h4 h12 h13 h14 h18 h19 h20 h21 h46 h47 h48 h49 h2 h3 h5 h6 h7 h8 h9 h10 h11 x1 x2 h0f2 h0f6 h0f8 h0f11 h1f0 h1f1 h1f2 h18f0 h18f1 h19f0 h19f1 h20f0 h20f1 h21f0 h21f1) (v := 0) hQ hx hb hr hlocks hS (Nat.le_of_ble_eq_true rfl) (Nat.le_of_ble_eq_true rfl) dX10_keeps_81 (⟨(by have := li_0; omega), (hT.sub [10, 11, 5, 12, 13, 0, 6, 7, 8, 9, 1, 2, 3, 4] (by decide) rfl)⟩)
          · skip
            have c_311 := ni_ne c_311 rfl li_0
            refine lv_aload_n hx hb dX10_keeps_69 rfl (lv_at hl 1 rfl) ?_
            refine tcI (Tc := [(h0, ob 7 [.ref h1, .ref h2, .int h0f2, .ref h3, .ref h4, .ref h5, .int h0f6, .ref h6, .int h0f8, .ref h7, .ref h8, .int h0f11, .ref h9, .ref h10, .ref h11, .ref h12, .ref h13]), (h1, ob 4 [.int h1f0, .int h1f1, .int h1f2, .ref h14]), (h12, aJ (k 1) 9 anJ), (h13, aJ (k 1) 9 anJ), (h14, aJ (k 1) 36 anJ)]) (Tr := [(h46, aJ (k 1) 40 anJ), (h47, aJ (k 1) 40 anJ), (h48, aJ (k 1) 40 anJ), (h49, aJ (k 1) 40 anJ), (h4, aQ (k 3) 4 (q4 h18 h19 h20 h21)), (h18, ob 5 [.int h18f0, .int h18f1, .ref h46]), (h19, ob 5 [.int h19f0, .int h19f1, .ref h47]), (h20, ob 5 [.int h20f0, .int h20f1, .ref h48]), (h21, ob 5 [.int h21f0, .int h21f1, .ref h49])]) (as := [h0, h1, h12, h13, h14]) (zcV (q0 := 10) (ci := 7) (As := []) (rest := []) (Tc := [(h0, ob 7 [.ref h1, .ref h2, .int h0f2, .ref h3, .ref h4, .ref h5, .int h0f6, .ref h6, .int h0f8, .ref h7, .ref h8, .int h0f11, .ref h9, .ref h10, .ref h11, .ref h12, .ref h13]), (h1, ob 4 [.int h1f0, .int h1f1, .int h1f2, .ref h14]), (h12, aJ (k 1) 9 anJ), (h13, aJ (k 1) 9 anJ), (h14, aJ (k 1) 36 anJ)]) hx hb hml hown hU hK hT rfl rfl [10, 11, 12, 13, 0] rfl (by decide) (cX10_noGeneratorChangesForm_03344 l D k _ h0 h1 h12 h13 h14 h2 h3 h4 h5 h6 h7 h8 h9 h10 h11 h0f2 h0f6 h0f8 h0f11 h1f0 h1f1 h1f2 (by omega) (by omega) (by omega) (by omega) (by omega) (by omega)) w657 w654 w656 w20 w63 hdX10_noGeneratorChangesForm ⟨rfl, rfl⟩ ⟨Nat.le_of_ble_eq_true rfl, Nat.le_of_ble_eq_true rfl⟩ rfl hl.1 (Nat.le_of_ble_eq_true rfl) dX10_keeps_70 ⟨Nat.le_of_ble_eq_true rfl, Nat.le_of_ble_eq_true rfl⟩) hT hS hA [10, 11, 12, 13, 0] [1, 2, 3, 4, 5, 6, 7, 8, 9] rfl rfl rfl (by decide) (by decide) (fun r312 H locs hB J hS => ?_)
            obtain ⟨b_r312, hT1⟩ := hB
            have hT := J _ hT1
            have hT : TP D A [(h46, aJ (k 1) 40 anJ), (h47, aJ (k 1) 40 anJ), (h48, aJ (k 1) 40 anJ), (h49, aJ (k 1) 40 anJ), (h4, aQ (k 3) 4 (q4 h18 h19 h20 h21)), (h18, ob 5 [.int h18f0, .int h18f1, .ref h46]), (h19, ob 5 [.int h19f0, .int h19f1, .ref h47]), (h20, ob 5 [.int h20f0, .int h20f1, .ref h48]), (h21, ob 5 [.int h21f0, .int h21f1, .ref h49]), (h0, ob 7 [.ref h1, .ref h2, .int h0f2, .ref h3, .ref h4, .ref h5, .int h0f6, .ref h6, .int h0f8, .ref h7, .ref h8, .int h0f11, .ref h9, .ref h10, .ref h11, .ref h12, .ref h13]), (h1, ob 4 [.int h1f0, .int h1f1, .int h1f2, .ref h14]), (h12, aJ (k 1) 9 anJ), (h13, aJ (k 1) 9 anJ), (h14, aJ (k 1) 36 anJ)] _ := hT
            refine lv_if_eq (tgt := 80) hx hb dX10_keeps_73 (by decide) (fun c_313 => ?_) (fun c_313 => ?_)
            · skip
              have c_313 := ni_eq c_313 rfl li_0
              refine lv_iconst (v := 0) hx hb dX10_keeps_80 (by decide) ?_
              exact tz_retI (B := B_cX10_keeps_56b43 D k h0 h1 h4 h12 h13 h14 h18 h19 h20 h21 h46 h47 h48 h49 h2 h3 h5 h6 h7 h8 h9 h10 h11 x1 x2 h0f2 h0f6 h0f8 h0f11 h1f0 h1f1 h1f2 h18f0 h18f1 h19f0 h19f1 h20f0 h20f1 h21f0 h21f1) (v := 0) hQ hx hb hr hlocks hS (Nat.le_of_ble_eq_true rfl) (Nat.le_of_ble_eq_true rfl) dX10_keeps_81 (⟨(by have := li_0; omega), (hT.sub [9, 10, 4, 11, 12, 13, 5, 6, 7, 8, 0, 1, 2, 3] (by decide) rfl)⟩)
            · skip
              have c_313 := ni_ne c_313 rfl li_0
              refine lv_iconst (v := 1) hx hb dX10_keeps_76 (by decide) ?_
              refine lv_goto (tgt := 81) hx hb dX10_keeps_77 (by decide) ?_
              exact tz_retI (B := B_cX10_keeps_56b43 D k h0 h1 h4 h12 h13 h14 h18 h19 h20 h21 h46 h47 h48 h49 h2 h3 h5 h6 h7 h8 h9 h10 h11 x1 x2 h0f2 h0f6 h0f8 h0f11 h1f0 h1f1 h1f2 h18f0 h18f1 h19f0 h19f1 h20f0 h20f1 h21f0 h21f1) (v := 1) hQ hx hb hr hlocks hS (Nat.le_of_ble_eq_true rfl) (Nat.le_of_ble_eq_true rfl) dX10_keeps_81 (⟨(by have := li_1; omega), (hT.sub [9, 10, 4, 11, 12, 13, 5, 6, 7, 8, 0, 1, 2, 3] (by decide) rfl)⟩)
        · skip
          have c_309 := ni_eq c_309 rfl li_0
          refine lv_bipush (v := (-16)) hx hb dX10_keeps_59 (by decide) ?_
          exact tz_retI (B := B_cX10_keeps_56b43 D k h0 h1 h4 h12 h13 h14 h18 h19 h20 h21 h46 h47 h48 h49 h2 h3 h5 h6 h7 h8 h9 h10 h11 x1 x2 h0f2 h0f6 h0f8 h0f11 h1f0 h1f1 h1f2 h18f0 h18f1 h19f0 h19f1 h20f0 h20f1 h21f0 h21f1) (v := (-16)) hQ hx hb hr hlocks hS (Nat.le_of_ble_eq_true rfl) (Nat.le_of_ble_eq_true rfl) dX10_keeps_61 (⟨(by have := li_m16; omega), (hT.sub [6, 12, 7, 13, 0, 1, 8, 9, 10, 11, 2, 3, 4, 5] (by decide) rfl)⟩)
  · skip
    have hT := J _ hT1
    have hT : TP D A [(h12, aJ (k 1) 9 anJ), (h13, aJ (k 1) 9 anJ), (h14, aJ (k 1) 36 anJ), (h46, aJ (k 1) 40 anJ), (h47, aJ (k 1) 40 anJ), (h48, aJ (k 1) 40 anJ), (h49, aJ (k 1) 40 anJ), (h0, ob 7 [.ref h1, .ref h2, .int h0f2, .ref h3, .ref h4, .ref h5, .int h0f6, .ref h6, .int h0f8, .ref h7, .ref h8, .int h0f11, .ref h9, .ref h10, .ref h11, .ref h12, .ref h13]), (h1, ob 4 [.int h1f0, .int h1f1, .int h1f2, .ref h14]), (h4, aQ (k 3) 4 (q4 h18 h19 h20 h21)), (h18, ob 5 [.int h18f0, .int h18f1, .ref h46]), (h19, ob 5 [.int h19f0, .int h19f1, .ref h47]), (h20, ob 5 [.int h20f0, .int h20f1, .ref h48]), (h21, ob 5 [.int h21f0, .int h21f1, .ref h49])] _ := hT
    refine lv_istore_n (lv' := [(3, .int 0), (0, .ref h0), (1, .int x1), (2, .int x2)]) hx hb dX10_keeps_7 rfl hl (by decide) rfl (fun ls hl => ?_)
    refine lv_iload_n hx hb dX10_keeps_8 rfl (lv_at hl 0 rfl) ?_
    refine lv_if_eq (tgt := 14) hx hb dX10_keeps_9 (by decide) (fun _ => ?_) (fun cc => absurd (by decide +kernel) cc)
    refine lv_aload_n hx hb dX10_keeps_14 rfl (lv_at hl 1 rfl) ?_
    refine tz_get (ci := 7) (v := .ref h4) (C := RX10) (F := TX10) (N := 17) hx hb hU iX10 hown hK hT 7 rfl rfl 4 (by decide) w253 (fun _ h9 => h9) rfl dX10_keeps_15 ?_
    refine lv_iload_n hx hb dX10_keeps_18 rfl (lv_at hl 2 rfl) ?_
    have hq314 : x1.toInt = 2 := by omega
    refine tz_aldq (b := h20) hx hb hK hT 9 rfl (vp_in_iff.mpr (by have := hq314; omega)) (fun f hf => by rw [cl_of hq314]; exact hf.2.2.1) dX10_keeps_19 ?_
    refine tz_get (ci := 5) (v := .ref h48) (C := RX6) (F := TX6) (N := 3) hx hb hU iX6 hown hK hT 12 rfl rfl 2 (by decide) w241 (fun _ h9 => h9) rfl dX10_keeps_20 ?_
    refine lv_iload_n hx hb dX10_keeps_23 rfl (lv_at hl 3 rfl) ?_
    refine lv_aload_n hx hb dX10_keeps_24 rfl (lv_at hl 1 rfl) ?_
    refine tz_get (ci := 7) (v := .ref h12) (C := RX10) (F := TX10) (N := 17) hx hb hU iX10 hown hK hT 7 rfl rfl 15 (by decide) w264 (fun _ h9 => h9) rfl dX10_keeps_25 ?_
    refine lv_iconst (v := 0) hx hb dX10_keeps_28 (by decide) ?_
    refine lv_aload_n hx hb dX10_keeps_29 rfl (lv_at hl 1 rfl) ?_
    refine tz_get (ci := 7) (v := .ref h1) (C := RX10) (F := TX10) (N := 17) hx hb hU iX10 hown hK hT 7 rfl rfl 0 (by decide) w249 (fun _ h9 => h9) rfl dX10_keeps_30 ?_
    refine tcI (Tc := [(h1, ob 4 [.int h1f0, .int h1f1, .int h1f2, .ref h14])]) (Tr := [(h12, aJ (k 1) 9 anJ), (h13, aJ (k 1) 9 anJ), (h14, aJ (k 1) 36 anJ), (h46, aJ (k 1) 40 anJ), (h47, aJ (k 1) 40 anJ), (h48, aJ (k 1) 40 anJ), (h49, aJ (k 1) 40 anJ), (h0, ob 7 [.ref h1, .ref h2, .int h0f2, .ref h3, .ref h4, .ref h5, .int h0f6, .ref h6, .int h0f8, .ref h7, .ref h8, .int h0f11, .ref h9, .ref h10, .ref h11, .ref h12, .ref h13]), (h4, aQ (k 3) 4 (q4 h18 h19 h20 h21)), (h18, ob 5 [.int h18f0, .int h18f1, .ref h46]), (h19, ob 5 [.int h19f0, .int h19f1, .ref h47]), (h20, ob 5 [.int h20f0, .int h20f1, .ref h48]), (h21, ob 5 [.int h21f0, .int h21f1, .ref h49])]) (as := [h1]) (zcV (q0 := 8) (ci := 4) (As := []) (rest := [.int 0, .ref h12, .int x2, .ref h48]) (Tc := [(h1, ob 4 [.int h1f0, .int h1f1, .int h1f2, .ref h14])]) hx hb hml hown hU hK hT rfl rfl [8] rfl (by decide) (cX5_cellCount_f3983 l D k _ h1 h14 h1f0 h1f1 h1f2 (by omega) (by omega)) w385 w382 w383 w384 w64 hdX5_cellCount ⟨rfl, rfl⟩ ⟨Nat.le_of_ble_eq_true rfl, Nat.le_of_ble_eq_true rfl⟩ rfl hl.1 (Nat.le_of_ble_eq_true rfl) dX10_keeps_33 ⟨Nat.le_of_ble_eq_true rfl, Nat.le_of_ble_eq_true rfl⟩) hT hS hA [8] [0, 1, 2, 3, 4, 5, 6, 7, 9, 10, 11, 12, 13] rfl rfl rfl (by decide) (by decide) (fun r315 H locs hB J hS => ?_)
    rcases hB with ⟨v316, b_v316, c_317, c_318, rfl, hT1⟩ | ⟨v319, b_v319, c_320, c_321, rfl, hT1⟩ | ⟨v322, b_v322, c_323, c_324, rfl, hT1⟩
    · skip
      have hT := J _ hT1
      have hT : TP D A [(h12, aJ (k 1) 9 anJ), (h13, aJ (k 1) 9 anJ), (h14, aJ (k 1) 36 anJ), (h46, aJ (k 1) 40 anJ), (h47, aJ (k 1) 40 anJ), (h48, aJ (k 1) 40 anJ), (h49, aJ (k 1) 40 anJ), (h0, ob 7 [.ref h1, .ref h2, .int h0f2, .ref h3, .ref h4, .ref h5, .int h0f6, .ref h6, .int h0f8, .ref h7, .ref h8, .int h0f11, .ref h9, .ref h10, .ref h11, .ref h12, .ref h13]), (h4, aQ (k 3) 4 (q4 h18 h19 h20 h21)), (h18, ob 5 [.int h18f0, .int h18f1, .ref h46]), (h19, ob 5 [.int h19f0, .int h19f1, .ref h47]), (h20, ob 5 [.int h20f0, .int h20f1, .ref h48]), (h21, ob 5 [.int h21f0, .int h21f1, .ref h49]), (h1, ob 4 [.int h1f0, .int h1f1, .int h1f2, .ref h14])] _ := hT
      refine tz_copyl hx hb (by rw [hml]; exact hl.1.symm) hown hU w410 w348 w347 w75 hK hT hS 5 0 rfl rfl (by have := li_0; omega) (fun _ _ _ _ => trivial) (Nat.le_of_ble_eq_true rfl) (Nat.le_of_ble_eq_true rfl) dX10_keeps_36 (fun H locs hT hS => ?_)
      refine lv_aload_n hx hb dX10_keeps_39 rfl (lv_at hl 1 rfl) ?_
      refine tz_get (ci := 7) (v := .ref h12) (C := RX10) (F := TX10) (N := 17) hx hb hU iX10 hown hK hT 7 rfl rfl 15 (by decide) w264 (fun _ h9 => h9) rfl dX10_keeps_40 ?_
      refine lv_aload_n hx hb dX10_keeps_43 rfl (lv_at hl 1 rfl) ?_
      refine tz_get (ci := 7) (v := .ref h1) (C := RX10) (F := TX10) (N := 17) hx hb hU iX10 hown hK hT 7 rfl rfl 0 (by decide) w249 (fun _ h9 => h9) rfl dX10_keeps_44 ?_
      refine tcI (Tc := [(h1, ob 4 [.int h1f0, .int h1f1, .int h1f2, .ref h14])]) (Tr := [(h12, aJ (k 1) 9 anJ), (h13, aJ (k 1) 9 anJ), (h14, aJ (k 1) 36 anJ), (h46, aJ (k 1) 40 anJ), (h47, aJ (k 1) 40 anJ), (h48, aJ (k 1) 40 anJ), (h49, aJ (k 1) 40 anJ), (h0, ob 7 [.ref h1, .ref h2, .int h0f2, .ref h3, .ref h4, .ref h5, .int h0f6, .ref h6, .int h0f8, .ref h7, .ref h8, .int h0f11, .ref h9, .ref h10, .ref h11, .ref h12, .ref h13]), (h4, aQ (k 3) 4 (q4 h18 h19 h20 h21)), (h18, ob 5 [.int h18f0, .int h18f1, .ref h46]), (h19, ob 5 [.int h19f0, .int h19f1, .ref h47]), (h20, ob 5 [.int h20f0, .int h20f1, .ref h48]), (h21, ob 5 [.int h21f0, .int h21f1, .ref h49])]) (as := [h1]) (zcV (q0 := 13) (ci := 4) (As := []) (rest := [.ref h12]) (Tc := [(h1, ob 4 [.int h1f0, .int h1f1, .int h1f2, .ref h14])]) hx hb hml hown hU hK hT rfl rfl [13] rfl (by decide) (cX5_cellCount_f3983 l D k _ h1 h14 h1f0 h1f1 h1f2 (by omega) (by omega)) w385 w382 w383 w384 w64 hdX5_cellCount ⟨rfl, rfl⟩ ⟨Nat.le_of_ble_eq_true rfl, Nat.le_of_ble_eq_true rfl⟩ rfl hl.1 (Nat.le_of_ble_eq_true rfl) dX10_keeps_47 ⟨Nat.le_of_ble_eq_true rfl, Nat.le_of_ble_eq_true rfl⟩) hT hS hA [13] [0, 1, 2, 3, 4, 5, 6, 7, 8, 9, 10, 11, 12] rfl rfl rfl (by decide) (by decide) (fun r325 H locs hB J hS => ?_)
      rcases hB with ⟨v326, b_v326, c_327, c_328, rfl, hT1⟩ | ⟨v329, b_v329, c_330, c_331, rfl, hT1⟩ | ⟨v332, b_v332, c_333, c_334, rfl, hT1⟩
      · skip
        have hT := J _ hT1
        have hT : TP D A [(h12, aJ (k 1) 9 anJ), (h13, aJ (k 1) 9 anJ), (h14, aJ (k 1) 36 anJ), (h46, aJ (k 1) 40 anJ), (h47, aJ (k 1) 40 anJ), (h48, aJ (k 1) 40 anJ), (h49, aJ (k 1) 40 anJ), (h0, ob 7 [.ref h1, .ref h2, .int h0f2, .ref h3, .ref h4, .ref h5, .int h0f6, .ref h6, .int h0f8, .ref h7, .ref h8, .int h0f11, .ref h9, .ref h10, .ref h11, .ref h12, .ref h13]), (h4, aQ (k 3) 4 (q4 h18 h19 h20 h21)), (h18, ob 5 [.int h18f0, .int h18f1, .ref h46]), (h19, ob 5 [.int h19f0, .int h19f1, .ref h47]), (h20, ob 5 [.int h20f0, .int h20f1, .ref h48]), (h21, ob 5 [.int h21f0, .int h21f1, .ref h49]), (h1, ob 4 [.int h1f0, .int h1f1, .int h1f2, .ref h14])] _ := hT
        refine lv_ldc2 hx hb hown (hU _ w649) dX10_keeps_50 ?_
        have q_q336 := ll_1000000
        refine tcI (Tc := [(h12, aJ (k 1) 9 anJ)]) (Tr := [(h13, aJ (k 1) 9 anJ), (h14, aJ (k 1) 36 anJ), (h46, aJ (k 1) 40 anJ), (h47, aJ (k 1) 40 anJ), (h48, aJ (k 1) 40 anJ), (h49, aJ (k 1) 40 anJ), (h0, ob 7 [.ref h1, .ref h2, .int h0f2, .ref h3, .ref h4, .ref h5, .int h0f6, .ref h6, .int h0f8, .ref h7, .ref h8, .int h0f11, .ref h9, .ref h10, .ref h11, .ref h12, .ref h13]), (h4, aQ (k 3) 4 (q4 h18 h19 h20 h21)), (h18, ob 5 [.int h18f0, .int h18f1, .ref h46]), (h19, ob 5 [.int h19f0, .int h19f1, .ref h47]), (h20, ob 5 [.int h20f0, .int h20f1, .ref h48]), (h21, ob 5 [.int h21f0, .int h21f1, .ref h49]), (h1, ob 4 [.int h1f0, .int h1f1, .int h1f2, .ref h14])]) (as := [h12]) (zcS (As := [.ref h12, .int v326, .long 1000000]) (rest := []) (Tc := [(h12, aJ (k 1) 9 anJ)]) hx hb hml hown hU hK hT [0] rfl (by decide) (cX7_isWithin_443ab l D k _ h12 v326 (1000000) (by omega) (by have := ll_1000000; omega)) w389 w387 w388 w74 hdX7_isWithin ⟨rfl, rfl⟩ ⟨Nat.le_of_ble_eq_true rfl, Nat.le_of_ble_eq_true rfl⟩ rfl hl.1 (Nat.le_of_ble_eq_true rfl) dX10_keeps_53 ⟨Nat.le_of_ble_eq_true rfl, Nat.le_of_ble_eq_true rfl⟩) hT hS hA [0] [1, 2, 3, 4, 5, 6, 7, 8, 9, 10, 11, 12, 13] rfl rfl rfl (by decide) (by decide) (fun r335 H locs hB J hS => ?_)
        obtain ⟨b_r335, hT1⟩ := hB
        have hT := J _ hT1
        have hT : TP D A [(h13, aJ (k 1) 9 anJ), (h14, aJ (k 1) 36 anJ), (h46, aJ (k 1) 40 anJ), (h47, aJ (k 1) 40 anJ), (h48, aJ (k 1) 40 anJ), (h49, aJ (k 1) 40 anJ), (h0, ob 7 [.ref h1, .ref h2, .int h0f2, .ref h3, .ref h4, .ref h5, .int h0f6, .ref h6, .int h0f8, .ref h7, .ref h8, .int h0f11, .ref h9, .ref h10, .ref h11, .ref h12, .ref h13]), (h4, aQ (k 3) 4 (q4 h18 h19 h20 h21)), (h18, ob 5 [.int h18f0, .int h18f1, .ref h46]), (h19, ob 5 [.int h19f0, .int h19f1, .ref h47]), (h20, ob 5 [.int h20f0, .int h20f1, .ref h48]), (h21, ob 5 [.int h21f0, .int h21f1, .ref h49]), (h1, ob 4 [.int h1f0, .int h1f1, .int h1f2, .ref h14]), (h12, aJ (k 1) 9 anJ)] _ := hT
        refine lv_if_ne (tgt := 62) hx hb dX10_keeps_56 (by decide) (fun c_337 => ?_) (fun c_337 => ?_)
        · skip
          have c_337 := ni_ne c_337 rfl li_0
          refine lv_aload_n hx hb dX10_keeps_62 rfl (lv_at hl 1 rfl) ?_
          refine tcI (Tc := [(h0, ob 7 [.ref h1, .ref h2, .int h0f2, .ref h3, .ref h4, .ref h5, .int h0f6, .ref h6, .int h0f8, .ref h7, .ref h8, .int h0f11, .ref h9, .ref h10, .ref h11, .ref h12, .ref h13]), (h1, ob 4 [.int h1f0, .int h1f1, .int h1f2, .ref h14]), (h12, aJ (k 1) 9 anJ), (h13, aJ (k 1) 9 anJ)]) (Tr := [(h14, aJ (k 1) 36 anJ), (h46, aJ (k 1) 40 anJ), (h47, aJ (k 1) 40 anJ), (h48, aJ (k 1) 40 anJ), (h49, aJ (k 1) 40 anJ), (h4, aQ (k 3) 4 (q4 h18 h19 h20 h21)), (h18, ob 5 [.int h18f0, .int h18f1, .ref h46]), (h19, ob 5 [.int h19f0, .int h19f1, .ref h47]), (h20, ob 5 [.int h20f0, .int h20f1, .ref h48]), (h21, ob 5 [.int h21f0, .int h21f1, .ref h49])]) (as := [h0, h1, h12, h13]) (zcV (q0 := 6) (ci := 7) (As := []) (rest := []) (Tc := [(h0, ob 7 [.ref h1, .ref h2, .int h0f2, .ref h3, .ref h4, .ref h5, .int h0f6, .ref h6, .int h0f8, .ref h7, .ref h8, .int h0f11, .ref h9, .ref h10, .ref h11, .ref h12, .ref h13]), (h1, ob 4 [.int h1f0, .int h1f1, .int h1f2, .ref h14]), (h12, aJ (k 1) 9 anJ), (h13, aJ (k 1) 9 anJ)]) hx hb hml hown hU hK hT rfl rfl [6, 12, 13, 0] rfl (by decide) (cX10_isPositiveForm_ec5e0 l D k _ h0 h1 h12 h13 h2 h3 h4 h5 h6 h7 h8 h9 h10 h11 h14 h0f2 h0f6 h0f8 h0f11 h1f0 h1f1 h1f2 (by omega) (by omega) (by omega) (by omega) (by omega) (by omega)) w653 w650 w652 w19 w63 hdX10_isPositiveForm ⟨rfl, rfl⟩ ⟨Nat.le_of_ble_eq_true rfl, Nat.le_of_ble_eq_true rfl⟩ rfl hl.1 (Nat.le_of_ble_eq_true rfl) dX10_keeps_63 ⟨Nat.le_of_ble_eq_true rfl, Nat.le_of_ble_eq_true rfl⟩) hT hS hA [6, 12, 13, 0] [1, 2, 3, 4, 5, 7, 8, 9, 10, 11] rfl rfl rfl (by decide) (by decide) (fun r338 H locs hB J hS => ?_)
          obtain ⟨b_r338, hT1⟩ := hB
          have hT := J _ hT1
          have hT : TP D A [(h14, aJ (k 1) 36 anJ), (h46, aJ (k 1) 40 anJ), (h47, aJ (k 1) 40 anJ), (h48, aJ (k 1) 40 anJ), (h49, aJ (k 1) 40 anJ), (h4, aQ (k 3) 4 (q4 h18 h19 h20 h21)), (h18, ob 5 [.int h18f0, .int h18f1, .ref h46]), (h19, ob 5 [.int h19f0, .int h19f1, .ref h47]), (h20, ob 5 [.int h20f0, .int h20f1, .ref h48]), (h21, ob 5 [.int h21f0, .int h21f1, .ref h49]), (h0, ob 7 [.ref h1, .ref h2, .int h0f2, .ref h3, .ref h4, .ref h5, .int h0f6, .ref h6, .int h0f8, .ref h7, .ref h8, .int h0f11, .ref h9, .ref h10, .ref h11, .ref h12, .ref h13]), (h1, ob 4 [.int h1f0, .int h1f1, .int h1f2, .ref h14]), (h12, aJ (k 1) 9 anJ), (h13, aJ (k 1) 9 anJ)] _ := hT
          refine lv_if_eq (tgt := 80) hx hb dX10_keeps_66 (by decide) (fun c_339 => ?_) (fun c_339 => ?_)
          · skip
            have c_339 := ni_eq c_339 rfl li_0
            refine lv_iconst (v := 0) hx hb dX10_keeps_80 (by decide) ?_
            exact tz_retI (B := B_cX10_keeps_56b43 D k h0 h1 h4 h12 h13 h14 h18 h19 h20 h21 h46 h47 h48 h49 h2 h3 h5 h6 h7 h8 h9 h10 h11 x1 x2 h0f2 h0f6 h0f8 h0f11 h1f0 h1f1 h1f2 h18f0 h18f1 h19f0 h19f1 h20f0 h20f1 h21f0 h21f1) (v := 0) hQ hx hb hr hlocks hS (Nat.le_of_ble_eq_true rfl) (Nat.le_of_ble_eq_true rfl) dX10_keeps_81 (⟨(by have := li_0; omega), (hT.sub [10, 11, 5, 12, 13, 0, 6, 7, 8, 9, 1, 2, 3, 4] (by decide) rfl)⟩)
          · skip
            have c_339 := ni_ne c_339 rfl li_0
            refine lv_aload_n hx hb dX10_keeps_69 rfl (lv_at hl 1 rfl) ?_
            refine tcI (Tc := [(h0, ob 7 [.ref h1, .ref h2, .int h0f2, .ref h3, .ref h4, .ref h5, .int h0f6, .ref h6, .int h0f8, .ref h7, .ref h8, .int h0f11, .ref h9, .ref h10, .ref h11, .ref h12, .ref h13]), (h1, ob 4 [.int h1f0, .int h1f1, .int h1f2, .ref h14]), (h12, aJ (k 1) 9 anJ), (h13, aJ (k 1) 9 anJ), (h14, aJ (k 1) 36 anJ)]) (Tr := [(h46, aJ (k 1) 40 anJ), (h47, aJ (k 1) 40 anJ), (h48, aJ (k 1) 40 anJ), (h49, aJ (k 1) 40 anJ), (h4, aQ (k 3) 4 (q4 h18 h19 h20 h21)), (h18, ob 5 [.int h18f0, .int h18f1, .ref h46]), (h19, ob 5 [.int h19f0, .int h19f1, .ref h47]), (h20, ob 5 [.int h20f0, .int h20f1, .ref h48]), (h21, ob 5 [.int h21f0, .int h21f1, .ref h49])]) (as := [h0, h1, h12, h13, h14]) (zcV (q0 := 10) (ci := 7) (As := []) (rest := []) (Tc := [(h0, ob 7 [.ref h1, .ref h2, .int h0f2, .ref h3, .ref h4, .ref h5, .int h0f6, .ref h6, .int h0f8, .ref h7, .ref h8, .int h0f11, .ref h9, .ref h10, .ref h11, .ref h12, .ref h13]), (h1, ob 4 [.int h1f0, .int h1f1, .int h1f2, .ref h14]), (h12, aJ (k 1) 9 anJ), (h13, aJ (k 1) 9 anJ), (h14, aJ (k 1) 36 anJ)]) hx hb hml hown hU hK hT rfl rfl [10, 11, 12, 13, 0] rfl (by decide) (cX10_noGeneratorChangesForm_03344 l D k _ h0 h1 h12 h13 h14 h2 h3 h4 h5 h6 h7 h8 h9 h10 h11 h0f2 h0f6 h0f8 h0f11 h1f0 h1f1 h1f2 (by omega) (by omega) (by omega) (by omega) (by omega) (by omega)) w657 w654 w656 w20 w63 hdX10_noGeneratorChangesForm ⟨rfl, rfl⟩ ⟨Nat.le_of_ble_eq_true rfl, Nat.le_of_ble_eq_true rfl⟩ rfl hl.1 (Nat.le_of_ble_eq_true rfl) dX10_keeps_70 ⟨Nat.le_of_ble_eq_true rfl, Nat.le_of_ble_eq_true rfl⟩) hT hS hA [10, 11, 12, 13, 0] [1, 2, 3, 4, 5, 6, 7, 8, 9] rfl rfl rfl (by decide) (by decide) (fun r340 H locs hB J hS => ?_)
            obtain ⟨b_r340, hT1⟩ := hB
            have hT := J _ hT1
            have hT : TP D A [(h46, aJ (k 1) 40 anJ), (h47, aJ (k 1) 40 anJ), (h48, aJ (k 1) 40 anJ), (h49, aJ (k 1) 40 anJ), (h4, aQ (k 3) 4 (q4 h18 h19 h20 h21)), (h18, ob 5 [.int h18f0, .int h18f1, .ref h46]), (h19, ob 5 [.int h19f0, .int h19f1, .ref h47]), (h20, ob 5 [.int h20f0, .int h20f1, .ref h48]), (h21, ob 5 [.int h21f0, .int h21f1, .ref h49]), (h0, ob 7 [.ref h1, .ref h2, .int h0f2, .ref h3, .ref h4, .ref h5, .int h0f6, .ref h6, .int h0f8, .ref h7, .ref h8, .int h0f11, .ref h9, .ref h10, .ref h11, .ref h12, .ref h13]), (h1, ob 4 [.int h1f0, .int h1f1, .int h1f2, .ref h14]), (h12, aJ (k 1) 9 anJ), (h13, aJ (k 1) 9 anJ), (h14, aJ (k 1) 36 anJ)] _ := hT
            refine lv_if_eq (tgt := 80) hx hb dX10_keeps_73 (by decide) (fun c_341 => ?_) (fun c_341 => ?_)
            · skip
              have c_341 := ni_eq c_341 rfl li_0
              refine lv_iconst (v := 0) hx hb dX10_keeps_80 (by decide) ?_
              exact tz_retI (B := B_cX10_keeps_56b43 D k h0 h1 h4 h12 h13 h14 h18 h19 h20 h21 h46 h47 h48 h49 h2 h3 h5 h6 h7 h8 h9 h10 h11 x1 x2 h0f2 h0f6 h0f8 h0f11 h1f0 h1f1 h1f2 h18f0 h18f1 h19f0 h19f1 h20f0 h20f1 h21f0 h21f1) (v := 0) hQ hx hb hr hlocks hS (Nat.le_of_ble_eq_true rfl) (Nat.le_of_ble_eq_true rfl) dX10_keeps_81 (⟨(by have := li_0; omega), (hT.sub [9, 10, 4, 11, 12, 13, 5, 6, 7, 8, 0, 1, 2, 3] (by decide) rfl)⟩)
            · skip
              have c_341 := ni_ne c_341 rfl li_0
              refine lv_iconst (v := 1) hx hb dX10_keeps_76 (by decide) ?_
              refine lv_goto (tgt := 81) hx hb dX10_keeps_77 (by decide) ?_
              exact tz_retI (B := B_cX10_keeps_56b43 D k h0 h1 h4 h12 h13 h14 h18 h19 h20 h21 h46 h47 h48 h49 h2 h3 h5 h6 h7 h8 h9 h10 h11 x1 x2 h0f2 h0f6 h0f8 h0f11 h1f0 h1f1 h1f2 h18f0 h18f1 h19f0 h19f1 h20f0 h20f1 h21f0 h21f1) (v := 1) hQ hx hb hr hlocks hS (Nat.le_of_ble_eq_true rfl) (Nat.le_of_ble_eq_true rfl) dX10_keeps_81 (⟨(by have := li_1; omega), (hT.sub [9, 10, 4, 11, 12, 13, 5, 6, 7, 8, 0, 1, 2, 3] (by decide) rfl)⟩)
        · skip
          have c_337 := ni_eq c_337 rfl li_0
          refine lv_bipush (v := (-16)) hx hb dX10_keeps_59 (by decide) ?_
          exact tz_retI (B := B_cX10_keeps_56b43 D k h0 h1 h4 h12 h13 h14 h18 h19 h20 h21 h46 h47 h48 h49 h2 h3 h5 h6 h7 h8 h9 h10 h11 x1 x2 h0f2 h0f6 h0f8 h0f11 h1f0 h1f1 h1f2 h18f0 h18f1 h19f0 h19f1 h20f0 h20f1 h21f0 h21f1) (v := (-16)) hQ hx hb hr hlocks hS (Nat.le_of_ble_eq_true rfl) (Nat.le_of_ble_eq_true rfl) dX10_keeps_61 (⟨(by have := li_m16; omega), (hT.sub [6, 12, 7, 13, 0, 1, 8, 9, 10, 11, 2, 3, 4, 5] (by decide) rfl)⟩)
      · skip
        have hT := J _ hT1
        have hT : TP D A [(h12, aJ (k 1) 9 anJ), (h13, aJ (k 1) 9 anJ), (h14, aJ (k 1) 36 anJ), (h46, aJ (k 1) 40 anJ), (h47, aJ (k 1) 40 anJ), (h48, aJ (k 1) 40 anJ), (h49, aJ (k 1) 40 anJ), (h0, ob 7 [.ref h1, .ref h2, .int h0f2, .ref h3, .ref h4, .ref h5, .int h0f6, .ref h6, .int h0f8, .ref h7, .ref h8, .int h0f11, .ref h9, .ref h10, .ref h11, .ref h12, .ref h13]), (h4, aQ (k 3) 4 (q4 h18 h19 h20 h21)), (h18, ob 5 [.int h18f0, .int h18f1, .ref h46]), (h19, ob 5 [.int h19f0, .int h19f1, .ref h47]), (h20, ob 5 [.int h20f0, .int h20f1, .ref h48]), (h21, ob 5 [.int h21f0, .int h21f1, .ref h49]), (h1, ob 4 [.int h1f0, .int h1f1, .int h1f2, .ref h14])] _ := hT
        exfalso; omega
      · skip
        have hT := J _ hT1
        have hT : TP D A [(h12, aJ (k 1) 9 anJ), (h13, aJ (k 1) 9 anJ), (h14, aJ (k 1) 36 anJ), (h46, aJ (k 1) 40 anJ), (h47, aJ (k 1) 40 anJ), (h48, aJ (k 1) 40 anJ), (h49, aJ (k 1) 40 anJ), (h0, ob 7 [.ref h1, .ref h2, .int h0f2, .ref h3, .ref h4, .ref h5, .int h0f6, .ref h6, .int h0f8, .ref h7, .ref h8, .int h0f11, .ref h9, .ref h10, .ref h11, .ref h12, .ref h13]), (h4, aQ (k 3) 4 (q4 h18 h19 h20 h21)), (h18, ob 5 [.int h18f0, .int h18f1, .ref h46]), (h19, ob 5 [.int h19f0, .int h19f1, .ref h47]), (h20, ob 5 [.int h20f0, .int h20f1, .ref h48]), (h21, ob 5 [.int h21f0, .int h21f1, .ref h49]), (h1, ob 4 [.int h1f0, .int h1f1, .int h1f2, .ref h14])] _ := hT
        exfalso; omega
    · skip
      have hT := J _ hT1
      have hT : TP D A [(h12, aJ (k 1) 9 anJ), (h13, aJ (k 1) 9 anJ), (h14, aJ (k 1) 36 anJ), (h46, aJ (k 1) 40 anJ), (h47, aJ (k 1) 40 anJ), (h48, aJ (k 1) 40 anJ), (h49, aJ (k 1) 40 anJ), (h0, ob 7 [.ref h1, .ref h2, .int h0f2, .ref h3, .ref h4, .ref h5, .int h0f6, .ref h6, .int h0f8, .ref h7, .ref h8, .int h0f11, .ref h9, .ref h10, .ref h11, .ref h12, .ref h13]), (h4, aQ (k 3) 4 (q4 h18 h19 h20 h21)), (h18, ob 5 [.int h18f0, .int h18f1, .ref h46]), (h19, ob 5 [.int h19f0, .int h19f1, .ref h47]), (h20, ob 5 [.int h20f0, .int h20f1, .ref h48]), (h21, ob 5 [.int h21f0, .int h21f1, .ref h49]), (h1, ob 4 [.int h1f0, .int h1f1, .int h1f2, .ref h14])] _ := hT
      exfalso; omega
    · skip
      have hT := J _ hT1
      have hT : TP D A [(h12, aJ (k 1) 9 anJ), (h13, aJ (k 1) 9 anJ), (h14, aJ (k 1) 36 anJ), (h46, aJ (k 1) 40 anJ), (h47, aJ (k 1) 40 anJ), (h48, aJ (k 1) 40 anJ), (h49, aJ (k 1) 40 anJ), (h0, ob 7 [.ref h1, .ref h2, .int h0f2, .ref h3, .ref h4, .ref h5, .int h0f6, .ref h6, .int h0f8, .ref h7, .ref h8, .int h0f11, .ref h9, .ref h10, .ref h11, .ref h12, .ref h13]), (h4, aQ (k 3) 4 (q4 h18 h19 h20 h21)), (h18, ob 5 [.int h18f0, .int h18f1, .ref h46]), (h19, ob 5 [.int h19f0, .int h19f1, .ref h47]), (h20, ob 5 [.int h20f0, .int h20f1, .ref h48]), (h21, ob 5 [.int h21f0, .int h21f1, .ref h49]), (h1, ob 4 [.int h1f0, .int h1f1, .int h1f2, .ref h14])] _ := hT
      exfalso; omega
  · skip
    have hT := J _ hT1
    have hT : TP D A [(h12, aJ (k 1) 9 anJ), (h13, aJ (k 1) 9 anJ), (h14, aJ (k 1) 36 anJ), (h46, aJ (k 1) 40 anJ), (h47, aJ (k 1) 40 anJ), (h48, aJ (k 1) 40 anJ), (h49, aJ (k 1) 40 anJ), (h0, ob 7 [.ref h1, .ref h2, .int h0f2, .ref h3, .ref h4, .ref h5, .int h0f6, .ref h6, .int h0f8, .ref h7, .ref h8, .int h0f11, .ref h9, .ref h10, .ref h11, .ref h12, .ref h13]), (h1, ob 4 [.int h1f0, .int h1f1, .int h1f2, .ref h14]), (h4, aQ (k 3) 4 (q4 h18 h19 h20 h21)), (h18, ob 5 [.int h18f0, .int h18f1, .ref h46]), (h19, ob 5 [.int h19f0, .int h19f1, .ref h47]), (h20, ob 5 [.int h20f0, .int h20f1, .ref h48]), (h21, ob 5 [.int h21f0, .int h21f1, .ref h49])] _ := hT
    refine lv_istore_n (lv' := [(3, .int 0), (0, .ref h0), (1, .int x1), (2, .int x2)]) hx hb dX10_keeps_7 rfl hl (by decide) rfl (fun ls hl => ?_)
    refine lv_iload_n hx hb dX10_keeps_8 rfl (lv_at hl 0 rfl) ?_
    refine lv_if_eq (tgt := 14) hx hb dX10_keeps_9 (by decide) (fun _ => ?_) (fun cc => absurd (by decide +kernel) cc)
    refine lv_aload_n hx hb dX10_keeps_14 rfl (lv_at hl 1 rfl) ?_
    refine tz_get (ci := 7) (v := .ref h4) (C := RX10) (F := TX10) (N := 17) hx hb hU iX10 hown hK hT 7 rfl rfl 4 (by decide) w253 (fun _ h9 => h9) rfl dX10_keeps_15 ?_
    refine lv_iload_n hx hb dX10_keeps_18 rfl (lv_at hl 2 rfl) ?_
    have hq342 : x1.toInt = 2 := by omega
    refine tz_aldq (b := h20) hx hb hK hT 9 rfl (vp_in_iff.mpr (by have := hq342; omega)) (fun f hf => by rw [cl_of hq342]; exact hf.2.2.1) dX10_keeps_19 ?_
    refine tz_get (ci := 5) (v := .ref h48) (C := RX6) (F := TX6) (N := 3) hx hb hU iX6 hown hK hT 12 rfl rfl 2 (by decide) w241 (fun _ h9 => h9) rfl dX10_keeps_20 ?_
    refine lv_iload_n hx hb dX10_keeps_23 rfl (lv_at hl 3 rfl) ?_
    refine lv_aload_n hx hb dX10_keeps_24 rfl (lv_at hl 1 rfl) ?_
    refine tz_get (ci := 7) (v := .ref h12) (C := RX10) (F := TX10) (N := 17) hx hb hU iX10 hown hK hT 7 rfl rfl 15 (by decide) w264 (fun _ h9 => h9) rfl dX10_keeps_25 ?_
    refine lv_iconst (v := 0) hx hb dX10_keeps_28 (by decide) ?_
    refine lv_aload_n hx hb dX10_keeps_29 rfl (lv_at hl 1 rfl) ?_
    refine tz_get (ci := 7) (v := .ref h1) (C := RX10) (F := TX10) (N := 17) hx hb hU iX10 hown hK hT 7 rfl rfl 0 (by decide) w249 (fun _ h9 => h9) rfl dX10_keeps_30 ?_
    refine tcI (Tc := [(h1, ob 4 [.int h1f0, .int h1f1, .int h1f2, .ref h14])]) (Tr := [(h12, aJ (k 1) 9 anJ), (h13, aJ (k 1) 9 anJ), (h14, aJ (k 1) 36 anJ), (h46, aJ (k 1) 40 anJ), (h47, aJ (k 1) 40 anJ), (h48, aJ (k 1) 40 anJ), (h49, aJ (k 1) 40 anJ), (h0, ob 7 [.ref h1, .ref h2, .int h0f2, .ref h3, .ref h4, .ref h5, .int h0f6, .ref h6, .int h0f8, .ref h7, .ref h8, .int h0f11, .ref h9, .ref h10, .ref h11, .ref h12, .ref h13]), (h4, aQ (k 3) 4 (q4 h18 h19 h20 h21)), (h18, ob 5 [.int h18f0, .int h18f1, .ref h46]), (h19, ob 5 [.int h19f0, .int h19f1, .ref h47]), (h20, ob 5 [.int h20f0, .int h20f1, .ref h48]), (h21, ob 5 [.int h21f0, .int h21f1, .ref h49])]) (as := [h1]) (zcV (q0 := 8) (ci := 4) (As := []) (rest := [.int 0, .ref h12, .int x2, .ref h48]) (Tc := [(h1, ob 4 [.int h1f0, .int h1f1, .int h1f2, .ref h14])]) hx hb hml hown hU hK hT rfl rfl [8] rfl (by decide) (cX5_cellCount_f3983 l D k _ h1 h14 h1f0 h1f1 h1f2 (by omega) (by omega)) w385 w382 w383 w384 w64 hdX5_cellCount ⟨rfl, rfl⟩ ⟨Nat.le_of_ble_eq_true rfl, Nat.le_of_ble_eq_true rfl⟩ rfl hl.1 (Nat.le_of_ble_eq_true rfl) dX10_keeps_33 ⟨Nat.le_of_ble_eq_true rfl, Nat.le_of_ble_eq_true rfl⟩) hT hS hA [8] [0, 1, 2, 3, 4, 5, 6, 7, 9, 10, 11, 12, 13] rfl rfl rfl (by decide) (by decide) (fun r343 H locs hB J hS => ?_)
    rcases hB with ⟨v344, b_v344, c_345, c_346, rfl, hT1⟩ | ⟨v347, b_v347, c_348, c_349, rfl, hT1⟩ | ⟨v350, b_v350, c_351, c_352, rfl, hT1⟩
    · skip
      have hT := J _ hT1
      have hT : TP D A [(h12, aJ (k 1) 9 anJ), (h13, aJ (k 1) 9 anJ), (h14, aJ (k 1) 36 anJ), (h46, aJ (k 1) 40 anJ), (h47, aJ (k 1) 40 anJ), (h48, aJ (k 1) 40 anJ), (h49, aJ (k 1) 40 anJ), (h0, ob 7 [.ref h1, .ref h2, .int h0f2, .ref h3, .ref h4, .ref h5, .int h0f6, .ref h6, .int h0f8, .ref h7, .ref h8, .int h0f11, .ref h9, .ref h10, .ref h11, .ref h12, .ref h13]), (h4, aQ (k 3) 4 (q4 h18 h19 h20 h21)), (h18, ob 5 [.int h18f0, .int h18f1, .ref h46]), (h19, ob 5 [.int h19f0, .int h19f1, .ref h47]), (h20, ob 5 [.int h20f0, .int h20f1, .ref h48]), (h21, ob 5 [.int h21f0, .int h21f1, .ref h49]), (h1, ob 4 [.int h1f0, .int h1f1, .int h1f2, .ref h14])] _ := hT
      exfalso; omega
    · skip
      have hT := J _ hT1
      have hT : TP D A [(h12, aJ (k 1) 9 anJ), (h13, aJ (k 1) 9 anJ), (h14, aJ (k 1) 36 anJ), (h46, aJ (k 1) 40 anJ), (h47, aJ (k 1) 40 anJ), (h48, aJ (k 1) 40 anJ), (h49, aJ (k 1) 40 anJ), (h0, ob 7 [.ref h1, .ref h2, .int h0f2, .ref h3, .ref h4, .ref h5, .int h0f6, .ref h6, .int h0f8, .ref h7, .ref h8, .int h0f11, .ref h9, .ref h10, .ref h11, .ref h12, .ref h13]), (h4, aQ (k 3) 4 (q4 h18 h19 h20 h21)), (h18, ob 5 [.int h18f0, .int h18f1, .ref h46]), (h19, ob 5 [.int h19f0, .int h19f1, .ref h47]), (h20, ob 5 [.int h20f0, .int h20f1, .ref h48]), (h21, ob 5 [.int h21f0, .int h21f1, .ref h49]), (h1, ob 4 [.int h1f0, .int h1f1, .int h1f2, .ref h14])] _ := hT
      refine tz_copyl hx hb (by rw [hml]; exact hl.1.symm) hown hU w410 w348 w347 w75 hK hT hS 5 0 rfl rfl (by have := li_0; omega) (fun _ _ _ _ => trivial) (Nat.le_of_ble_eq_true rfl) (Nat.le_of_ble_eq_true rfl) dX10_keeps_36 (fun H locs hT hS => ?_)
      refine lv_aload_n hx hb dX10_keeps_39 rfl (lv_at hl 1 rfl) ?_
      refine tz_get (ci := 7) (v := .ref h12) (C := RX10) (F := TX10) (N := 17) hx hb hU iX10 hown hK hT 7 rfl rfl 15 (by decide) w264 (fun _ h9 => h9) rfl dX10_keeps_40 ?_
      refine lv_aload_n hx hb dX10_keeps_43 rfl (lv_at hl 1 rfl) ?_
      refine tz_get (ci := 7) (v := .ref h1) (C := RX10) (F := TX10) (N := 17) hx hb hU iX10 hown hK hT 7 rfl rfl 0 (by decide) w249 (fun _ h9 => h9) rfl dX10_keeps_44 ?_
      refine tcI (Tc := [(h1, ob 4 [.int h1f0, .int h1f1, .int h1f2, .ref h14])]) (Tr := [(h12, aJ (k 1) 9 anJ), (h13, aJ (k 1) 9 anJ), (h14, aJ (k 1) 36 anJ), (h46, aJ (k 1) 40 anJ), (h47, aJ (k 1) 40 anJ), (h48, aJ (k 1) 40 anJ), (h49, aJ (k 1) 40 anJ), (h0, ob 7 [.ref h1, .ref h2, .int h0f2, .ref h3, .ref h4, .ref h5, .int h0f6, .ref h6, .int h0f8, .ref h7, .ref h8, .int h0f11, .ref h9, .ref h10, .ref h11, .ref h12, .ref h13]), (h4, aQ (k 3) 4 (q4 h18 h19 h20 h21)), (h18, ob 5 [.int h18f0, .int h18f1, .ref h46]), (h19, ob 5 [.int h19f0, .int h19f1, .ref h47]), (h20, ob 5 [.int h20f0, .int h20f1, .ref h48]), (h21, ob 5 [.int h21f0, .int h21f1, .ref h49])]) (as := [h1]) (zcV (q0 := 13) (ci := 4) (As := []) (rest := [.ref h12]) (Tc := [(h1, ob 4 [.int h1f0, .int h1f1, .int h1f2, .ref h14])]) hx hb hml hown hU hK hT rfl rfl [13] rfl (by decide) (cX5_cellCount_f3983 l D k _ h1 h14 h1f0 h1f1 h1f2 (by omega) (by omega)) w385 w382 w383 w384 w64 hdX5_cellCount ⟨rfl, rfl⟩ ⟨Nat.le_of_ble_eq_true rfl, Nat.le_of_ble_eq_true rfl⟩ rfl hl.1 (Nat.le_of_ble_eq_true rfl) dX10_keeps_47 ⟨Nat.le_of_ble_eq_true rfl, Nat.le_of_ble_eq_true rfl⟩) hT hS hA [13] [0, 1, 2, 3, 4, 5, 6, 7, 8, 9, 10, 11, 12] rfl rfl rfl (by decide) (by decide) (fun r353 H locs hB J hS => ?_)
      rcases hB with ⟨v354, b_v354, c_355, c_356, rfl, hT1⟩ | ⟨v357, b_v357, c_358, c_359, rfl, hT1⟩ | ⟨v360, b_v360, c_361, c_362, rfl, hT1⟩
      · skip
        have hT := J _ hT1
        have hT : TP D A [(h12, aJ (k 1) 9 anJ), (h13, aJ (k 1) 9 anJ), (h14, aJ (k 1) 36 anJ), (h46, aJ (k 1) 40 anJ), (h47, aJ (k 1) 40 anJ), (h48, aJ (k 1) 40 anJ), (h49, aJ (k 1) 40 anJ), (h0, ob 7 [.ref h1, .ref h2, .int h0f2, .ref h3, .ref h4, .ref h5, .int h0f6, .ref h6, .int h0f8, .ref h7, .ref h8, .int h0f11, .ref h9, .ref h10, .ref h11, .ref h12, .ref h13]), (h4, aQ (k 3) 4 (q4 h18 h19 h20 h21)), (h18, ob 5 [.int h18f0, .int h18f1, .ref h46]), (h19, ob 5 [.int h19f0, .int h19f1, .ref h47]), (h20, ob 5 [.int h20f0, .int h20f1, .ref h48]), (h21, ob 5 [.int h21f0, .int h21f1, .ref h49]), (h1, ob 4 [.int h1f0, .int h1f1, .int h1f2, .ref h14])] _ := hT
        exfalso; omega
      · skip
        have hT := J _ hT1
        have hT : TP D A [(h12, aJ (k 1) 9 anJ), (h13, aJ (k 1) 9 anJ), (h14, aJ (k 1) 36 anJ), (h46, aJ (k 1) 40 anJ), (h47, aJ (k 1) 40 anJ), (h48, aJ (k 1) 40 anJ), (h49, aJ (k 1) 40 anJ), (h0, ob 7 [.ref h1, .ref h2, .int h0f2, .ref h3, .ref h4, .ref h5, .int h0f6, .ref h6, .int h0f8, .ref h7, .ref h8, .int h0f11, .ref h9, .ref h10, .ref h11, .ref h12, .ref h13]), (h4, aQ (k 3) 4 (q4 h18 h19 h20 h21)), (h18, ob 5 [.int h18f0, .int h18f1, .ref h46]), (h19, ob 5 [.int h19f0, .int h19f1, .ref h47]), (h20, ob 5 [.int h20f0, .int h20f1, .ref h48]), (h21, ob 5 [.int h21f0, .int h21f1, .ref h49]), (h1, ob 4 [.int h1f0, .int h1f1, .int h1f2, .ref h14])] _ := hT
        refine lv_ldc2 hx hb hown (hU _ w649) dX10_keeps_50 ?_
        have q_q364 := ll_1000000
        refine tcI (Tc := [(h12, aJ (k 1) 9 anJ)]) (Tr := [(h13, aJ (k 1) 9 anJ), (h14, aJ (k 1) 36 anJ), (h46, aJ (k 1) 40 anJ), (h47, aJ (k 1) 40 anJ), (h48, aJ (k 1) 40 anJ), (h49, aJ (k 1) 40 anJ), (h0, ob 7 [.ref h1, .ref h2, .int h0f2, .ref h3, .ref h4, .ref h5, .int h0f6, .ref h6, .int h0f8, .ref h7, .ref h8, .int h0f11, .ref h9, .ref h10, .ref h11, .ref h12, .ref h13]), (h4, aQ (k 3) 4 (q4 h18 h19 h20 h21)), (h18, ob 5 [.int h18f0, .int h18f1, .ref h46]), (h19, ob 5 [.int h19f0, .int h19f1, .ref h47]), (h20, ob 5 [.int h20f0, .int h20f1, .ref h48]), (h21, ob 5 [.int h21f0, .int h21f1, .ref h49]), (h1, ob 4 [.int h1f0, .int h1f1, .int h1f2, .ref h14])]) (as := [h12]) (zcS (As := [.ref h12, .int v357, .long 1000000]) (rest := []) (Tc := [(h12, aJ (k 1) 9 anJ)]) hx hb hml hown hU hK hT [0] rfl (by decide) (cX7_isWithin_443ab l D k _ h12 v357 (1000000) (by omega) (by have := ll_1000000; omega)) w389 w387 w388 w74 hdX7_isWithin ⟨rfl, rfl⟩ ⟨Nat.le_of_ble_eq_true rfl, Nat.le_of_ble_eq_true rfl⟩ rfl hl.1 (Nat.le_of_ble_eq_true rfl) dX10_keeps_53 ⟨Nat.le_of_ble_eq_true rfl, Nat.le_of_ble_eq_true rfl⟩) hT hS hA [0] [1, 2, 3, 4, 5, 6, 7, 8, 9, 10, 11, 12, 13] rfl rfl rfl (by decide) (by decide) (fun r363 H locs hB J hS => ?_)
        obtain ⟨b_r363, hT1⟩ := hB
        have hT := J _ hT1
        have hT : TP D A [(h13, aJ (k 1) 9 anJ), (h14, aJ (k 1) 36 anJ), (h46, aJ (k 1) 40 anJ), (h47, aJ (k 1) 40 anJ), (h48, aJ (k 1) 40 anJ), (h49, aJ (k 1) 40 anJ), (h0, ob 7 [.ref h1, .ref h2, .int h0f2, .ref h3, .ref h4, .ref h5, .int h0f6, .ref h6, .int h0f8, .ref h7, .ref h8, .int h0f11, .ref h9, .ref h10, .ref h11, .ref h12, .ref h13]), (h4, aQ (k 3) 4 (q4 h18 h19 h20 h21)), (h18, ob 5 [.int h18f0, .int h18f1, .ref h46]), (h19, ob 5 [.int h19f0, .int h19f1, .ref h47]), (h20, ob 5 [.int h20f0, .int h20f1, .ref h48]), (h21, ob 5 [.int h21f0, .int h21f1, .ref h49]), (h1, ob 4 [.int h1f0, .int h1f1, .int h1f2, .ref h14]), (h12, aJ (k 1) 9 anJ)] _ := hT
        refine lv_if_ne (tgt := 62) hx hb dX10_keeps_56 (by decide) (fun c_365 => ?_) (fun c_365 => ?_)
        · skip
          have c_365 := ni_ne c_365 rfl li_0
          refine lv_aload_n hx hb dX10_keeps_62 rfl (lv_at hl 1 rfl) ?_
          refine tcI (Tc := [(h0, ob 7 [.ref h1, .ref h2, .int h0f2, .ref h3, .ref h4, .ref h5, .int h0f6, .ref h6, .int h0f8, .ref h7, .ref h8, .int h0f11, .ref h9, .ref h10, .ref h11, .ref h12, .ref h13]), (h1, ob 4 [.int h1f0, .int h1f1, .int h1f2, .ref h14]), (h12, aJ (k 1) 9 anJ), (h13, aJ (k 1) 9 anJ)]) (Tr := [(h14, aJ (k 1) 36 anJ), (h46, aJ (k 1) 40 anJ), (h47, aJ (k 1) 40 anJ), (h48, aJ (k 1) 40 anJ), (h49, aJ (k 1) 40 anJ), (h4, aQ (k 3) 4 (q4 h18 h19 h20 h21)), (h18, ob 5 [.int h18f0, .int h18f1, .ref h46]), (h19, ob 5 [.int h19f0, .int h19f1, .ref h47]), (h20, ob 5 [.int h20f0, .int h20f1, .ref h48]), (h21, ob 5 [.int h21f0, .int h21f1, .ref h49])]) (as := [h0, h1, h12, h13]) (zcV (q0 := 6) (ci := 7) (As := []) (rest := []) (Tc := [(h0, ob 7 [.ref h1, .ref h2, .int h0f2, .ref h3, .ref h4, .ref h5, .int h0f6, .ref h6, .int h0f8, .ref h7, .ref h8, .int h0f11, .ref h9, .ref h10, .ref h11, .ref h12, .ref h13]), (h1, ob 4 [.int h1f0, .int h1f1, .int h1f2, .ref h14]), (h12, aJ (k 1) 9 anJ), (h13, aJ (k 1) 9 anJ)]) hx hb hml hown hU hK hT rfl rfl [6, 12, 13, 0] rfl (by decide) (cX10_isPositiveForm_ec5e0 l D k _ h0 h1 h12 h13 h2 h3 h4 h5 h6 h7 h8 h9 h10 h11 h14 h0f2 h0f6 h0f8 h0f11 h1f0 h1f1 h1f2 (by omega) (by omega) (by omega) (by omega) (by omega) (by omega)) w653 w650 w652 w19 w63 hdX10_isPositiveForm ⟨rfl, rfl⟩ ⟨Nat.le_of_ble_eq_true rfl, Nat.le_of_ble_eq_true rfl⟩ rfl hl.1 (Nat.le_of_ble_eq_true rfl) dX10_keeps_63 ⟨Nat.le_of_ble_eq_true rfl, Nat.le_of_ble_eq_true rfl⟩) hT hS hA [6, 12, 13, 0] [1, 2, 3, 4, 5, 7, 8, 9, 10, 11] rfl rfl rfl (by decide) (by decide) (fun r366 H locs hB J hS => ?_)
          obtain ⟨b_r366, hT1⟩ := hB
          have hT := J _ hT1
          have hT : TP D A [(h14, aJ (k 1) 36 anJ), (h46, aJ (k 1) 40 anJ), (h47, aJ (k 1) 40 anJ), (h48, aJ (k 1) 40 anJ), (h49, aJ (k 1) 40 anJ), (h4, aQ (k 3) 4 (q4 h18 h19 h20 h21)), (h18, ob 5 [.int h18f0, .int h18f1, .ref h46]), (h19, ob 5 [.int h19f0, .int h19f1, .ref h47]), (h20, ob 5 [.int h20f0, .int h20f1, .ref h48]), (h21, ob 5 [.int h21f0, .int h21f1, .ref h49]), (h0, ob 7 [.ref h1, .ref h2, .int h0f2, .ref h3, .ref h4, .ref h5, .int h0f6, .ref h6, .int h0f8, .ref h7, .ref h8, .int h0f11, .ref h9, .ref h10, .ref h11, .ref h12, .ref h13]), (h1, ob 4 [.int h1f0, .int h1f1, .int h1f2, .ref h14]), (h12, aJ (k 1) 9 anJ), (h13, aJ (k 1) 9 anJ)] _ := hT
          refine lv_if_eq (tgt := 80) hx hb dX10_keeps_66 (by decide) (fun c_367 => ?_) (fun c_367 => ?_)
          · skip
            have c_367 := ni_eq c_367 rfl li_0
            refine lv_iconst (v := 0) hx hb dX10_keeps_80 (by decide) ?_
            exact tz_retI (B := B_cX10_keeps_56b43 D k h0 h1 h4 h12 h13 h14 h18 h19 h20 h21 h46 h47 h48 h49 h2 h3 h5 h6 h7 h8 h9 h10 h11 x1 x2 h0f2 h0f6 h0f8 h0f11 h1f0 h1f1 h1f2 h18f0 h18f1 h19f0 h19f1 h20f0 h20f1 h21f0 h21f1) (v := 0) hQ hx hb hr hlocks hS (Nat.le_of_ble_eq_true rfl) (Nat.le_of_ble_eq_true rfl) dX10_keeps_81 (⟨(by have := li_0; omega), (hT.sub [10, 11, 5, 12, 13, 0, 6, 7, 8, 9, 1, 2, 3, 4] (by decide) rfl)⟩)
          · skip
            have c_367 := ni_ne c_367 rfl li_0
            refine lv_aload_n hx hb dX10_keeps_69 rfl (lv_at hl 1 rfl) ?_
            refine tcI (Tc := [(h0, ob 7 [.ref h1, .ref h2, .int h0f2, .ref h3, .ref h4, .ref h5, .int h0f6, .ref h6, .int h0f8, .ref h7, .ref h8, .int h0f11, .ref h9, .ref h10, .ref h11, .ref h12, .ref h13]), (h1, ob 4 [.int h1f0, .int h1f1, .int h1f2, .ref h14]), (h12, aJ (k 1) 9 anJ), (h13, aJ (k 1) 9 anJ), (h14, aJ (k 1) 36 anJ)]) (Tr := [(h46, aJ (k 1) 40 anJ), (h47, aJ (k 1) 40 anJ), (h48, aJ (k 1) 40 anJ), (h49, aJ (k 1) 40 anJ), (h4, aQ (k 3) 4 (q4 h18 h19 h20 h21)), (h18, ob 5 [.int h18f0, .int h18f1, .ref h46]), (h19, ob 5 [.int h19f0, .int h19f1, .ref h47]), (h20, ob 5 [.int h20f0, .int h20f1, .ref h48]), (h21, ob 5 [.int h21f0, .int h21f1, .ref h49])]) (as := [h0, h1, h12, h13, h14]) (zcV (q0 := 10) (ci := 7) (As := []) (rest := []) (Tc := [(h0, ob 7 [.ref h1, .ref h2, .int h0f2, .ref h3, .ref h4, .ref h5, .int h0f6, .ref h6, .int h0f8, .ref h7, .ref h8, .int h0f11, .ref h9, .ref h10, .ref h11, .ref h12, .ref h13]), (h1, ob 4 [.int h1f0, .int h1f1, .int h1f2, .ref h14]), (h12, aJ (k 1) 9 anJ), (h13, aJ (k 1) 9 anJ), (h14, aJ (k 1) 36 anJ)]) hx hb hml hown hU hK hT rfl rfl [10, 11, 12, 13, 0] rfl (by decide) (cX10_noGeneratorChangesForm_03344 l D k _ h0 h1 h12 h13 h14 h2 h3 h4 h5 h6 h7 h8 h9 h10 h11 h0f2 h0f6 h0f8 h0f11 h1f0 h1f1 h1f2 (by omega) (by omega) (by omega) (by omega) (by omega) (by omega)) w657 w654 w656 w20 w63 hdX10_noGeneratorChangesForm ⟨rfl, rfl⟩ ⟨Nat.le_of_ble_eq_true rfl, Nat.le_of_ble_eq_true rfl⟩ rfl hl.1 (Nat.le_of_ble_eq_true rfl) dX10_keeps_70 ⟨Nat.le_of_ble_eq_true rfl, Nat.le_of_ble_eq_true rfl⟩) hT hS hA [10, 11, 12, 13, 0] [1, 2, 3, 4, 5, 6, 7, 8, 9] rfl rfl rfl (by decide) (by decide) (fun r368 H locs hB J hS => ?_)
            obtain ⟨b_r368, hT1⟩ := hB
            have hT := J _ hT1
            have hT : TP D A [(h46, aJ (k 1) 40 anJ), (h47, aJ (k 1) 40 anJ), (h48, aJ (k 1) 40 anJ), (h49, aJ (k 1) 40 anJ), (h4, aQ (k 3) 4 (q4 h18 h19 h20 h21)), (h18, ob 5 [.int h18f0, .int h18f1, .ref h46]), (h19, ob 5 [.int h19f0, .int h19f1, .ref h47]), (h20, ob 5 [.int h20f0, .int h20f1, .ref h48]), (h21, ob 5 [.int h21f0, .int h21f1, .ref h49]), (h0, ob 7 [.ref h1, .ref h2, .int h0f2, .ref h3, .ref h4, .ref h5, .int h0f6, .ref h6, .int h0f8, .ref h7, .ref h8, .int h0f11, .ref h9, .ref h10, .ref h11, .ref h12, .ref h13]), (h1, ob 4 [.int h1f0, .int h1f1, .int h1f2, .ref h14]), (h12, aJ (k 1) 9 anJ), (h13, aJ (k 1) 9 anJ), (h14, aJ (k 1) 36 anJ)] _ := hT
            refine lv_if_eq (tgt := 80) hx hb dX10_keeps_73 (by decide) (fun c_369 => ?_) (fun c_369 => ?_)
            · skip
              have c_369 := ni_eq c_369 rfl li_0
              refine lv_iconst (v := 0) hx hb dX10_keeps_80 (by decide) ?_
              exact tz_retI (B := B_cX10_keeps_56b43 D k h0 h1 h4 h12 h13 h14 h18 h19 h20 h21 h46 h47 h48 h49 h2 h3 h5 h6 h7 h8 h9 h10 h11 x1 x2 h0f2 h0f6 h0f8 h0f11 h1f0 h1f1 h1f2 h18f0 h18f1 h19f0 h19f1 h20f0 h20f1 h21f0 h21f1) (v := 0) hQ hx hb hr hlocks hS (Nat.le_of_ble_eq_true rfl) (Nat.le_of_ble_eq_true rfl) dX10_keeps_81 (⟨(by have := li_0; omega), (hT.sub [9, 10, 4, 11, 12, 13, 5, 6, 7, 8, 0, 1, 2, 3] (by decide) rfl)⟩)
            · skip
              have c_369 := ni_ne c_369 rfl li_0
              refine lv_iconst (v := 1) hx hb dX10_keeps_76 (by decide) ?_
              refine lv_goto (tgt := 81) hx hb dX10_keeps_77 (by decide) ?_
              exact tz_retI (B := B_cX10_keeps_56b43 D k h0 h1 h4 h12 h13 h14 h18 h19 h20 h21 h46 h47 h48 h49 h2 h3 h5 h6 h7 h8 h9 h10 h11 x1 x2 h0f2 h0f6 h0f8 h0f11 h1f0 h1f1 h1f2 h18f0 h18f1 h19f0 h19f1 h20f0 h20f1 h21f0 h21f1) (v := 1) hQ hx hb hr hlocks hS (Nat.le_of_ble_eq_true rfl) (Nat.le_of_ble_eq_true rfl) dX10_keeps_81 (⟨(by have := li_1; omega), (hT.sub [9, 10, 4, 11, 12, 13, 5, 6, 7, 8, 0, 1, 2, 3] (by decide) rfl)⟩)
        · skip
          have c_365 := ni_eq c_365 rfl li_0
          refine lv_bipush (v := (-16)) hx hb dX10_keeps_59 (by decide) ?_
          exact tz_retI (B := B_cX10_keeps_56b43 D k h0 h1 h4 h12 h13 h14 h18 h19 h20 h21 h46 h47 h48 h49 h2 h3 h5 h6 h7 h8 h9 h10 h11 x1 x2 h0f2 h0f6 h0f8 h0f11 h1f0 h1f1 h1f2 h18f0 h18f1 h19f0 h19f1 h20f0 h20f1 h21f0 h21f1) (v := (-16)) hQ hx hb hr hlocks hS (Nat.le_of_ble_eq_true rfl) (Nat.le_of_ble_eq_true rfl) dX10_keeps_61 (⟨(by have := li_m16; omega), (hT.sub [6, 12, 7, 13, 0, 1, 8, 9, 10, 11, 2, 3, 4, 5] (by decide) rfl)⟩)
      · skip
        have hT := J _ hT1
        have hT : TP D A [(h12, aJ (k 1) 9 anJ), (h13, aJ (k 1) 9 anJ), (h14, aJ (k 1) 36 anJ), (h46, aJ (k 1) 40 anJ), (h47, aJ (k 1) 40 anJ), (h48, aJ (k 1) 40 anJ), (h49, aJ (k 1) 40 anJ), (h0, ob 7 [.ref h1, .ref h2, .int h0f2, .ref h3, .ref h4, .ref h5, .int h0f6, .ref h6, .int h0f8, .ref h7, .ref h8, .int h0f11, .ref h9, .ref h10, .ref h11, .ref h12, .ref h13]), (h4, aQ (k 3) 4 (q4 h18 h19 h20 h21)), (h18, ob 5 [.int h18f0, .int h18f1, .ref h46]), (h19, ob 5 [.int h19f0, .int h19f1, .ref h47]), (h20, ob 5 [.int h20f0, .int h20f1, .ref h48]), (h21, ob 5 [.int h21f0, .int h21f1, .ref h49]), (h1, ob 4 [.int h1f0, .int h1f1, .int h1f2, .ref h14])] _ := hT
        exfalso; omega
    · skip
      have hT := J _ hT1
      have hT : TP D A [(h12, aJ (k 1) 9 anJ), (h13, aJ (k 1) 9 anJ), (h14, aJ (k 1) 36 anJ), (h46, aJ (k 1) 40 anJ), (h47, aJ (k 1) 40 anJ), (h48, aJ (k 1) 40 anJ), (h49, aJ (k 1) 40 anJ), (h0, ob 7 [.ref h1, .ref h2, .int h0f2, .ref h3, .ref h4, .ref h5, .int h0f6, .ref h6, .int h0f8, .ref h7, .ref h8, .int h0f11, .ref h9, .ref h10, .ref h11, .ref h12, .ref h13]), (h4, aQ (k 3) 4 (q4 h18 h19 h20 h21)), (h18, ob 5 [.int h18f0, .int h18f1, .ref h46]), (h19, ob 5 [.int h19f0, .int h19f1, .ref h47]), (h20, ob 5 [.int h20f0, .int h20f1, .ref h48]), (h21, ob 5 [.int h21f0, .int h21f1, .ref h49]), (h1, ob 4 [.int h1f0, .int h1f1, .int h1f2, .ref h14])] _ := hT
      exfalso; omega
  · skip
    have hT := J _ hT1
    have hT : TP D A [(h12, aJ (k 1) 9 anJ), (h13, aJ (k 1) 9 anJ), (h14, aJ (k 1) 36 anJ), (h46, aJ (k 1) 40 anJ), (h47, aJ (k 1) 40 anJ), (h48, aJ (k 1) 40 anJ), (h49, aJ (k 1) 40 anJ), (h0, ob 7 [.ref h1, .ref h2, .int h0f2, .ref h3, .ref h4, .ref h5, .int h0f6, .ref h6, .int h0f8, .ref h7, .ref h8, .int h0f11, .ref h9, .ref h10, .ref h11, .ref h12, .ref h13]), (h1, ob 4 [.int h1f0, .int h1f1, .int h1f2, .ref h14]), (h4, aQ (k 3) 4 (q4 h18 h19 h20 h21)), (h18, ob 5 [.int h18f0, .int h18f1, .ref h46]), (h19, ob 5 [.int h19f0, .int h19f1, .ref h47]), (h20, ob 5 [.int h20f0, .int h20f1, .ref h48]), (h21, ob 5 [.int h21f0, .int h21f1, .ref h49])] _ := hT
    refine lv_istore_n (lv' := [(3, .int 0), (0, .ref h0), (1, .int x1), (2, .int x2)]) hx hb dX10_keeps_7 rfl hl (by decide) rfl (fun ls hl => ?_)
    refine lv_iload_n hx hb dX10_keeps_8 rfl (lv_at hl 0 rfl) ?_
    refine lv_if_eq (tgt := 14) hx hb dX10_keeps_9 (by decide) (fun _ => ?_) (fun cc => absurd (by decide +kernel) cc)
    refine lv_aload_n hx hb dX10_keeps_14 rfl (lv_at hl 1 rfl) ?_
    refine tz_get (ci := 7) (v := .ref h4) (C := RX10) (F := TX10) (N := 17) hx hb hU iX10 hown hK hT 7 rfl rfl 4 (by decide) w253 (fun _ h9 => h9) rfl dX10_keeps_15 ?_
    refine lv_iload_n hx hb dX10_keeps_18 rfl (lv_at hl 2 rfl) ?_
    have hq370 : x1.toInt = 2 := by omega
    refine tz_aldq (b := h20) hx hb hK hT 9 rfl (vp_in_iff.mpr (by have := hq370; omega)) (fun f hf => by rw [cl_of hq370]; exact hf.2.2.1) dX10_keeps_19 ?_
    refine tz_get (ci := 5) (v := .ref h48) (C := RX6) (F := TX6) (N := 3) hx hb hU iX6 hown hK hT 12 rfl rfl 2 (by decide) w241 (fun _ h9 => h9) rfl dX10_keeps_20 ?_
    refine lv_iload_n hx hb dX10_keeps_23 rfl (lv_at hl 3 rfl) ?_
    refine lv_aload_n hx hb dX10_keeps_24 rfl (lv_at hl 1 rfl) ?_
    refine tz_get (ci := 7) (v := .ref h12) (C := RX10) (F := TX10) (N := 17) hx hb hU iX10 hown hK hT 7 rfl rfl 15 (by decide) w264 (fun _ h9 => h9) rfl dX10_keeps_25 ?_
    refine lv_iconst (v := 0) hx hb dX10_keeps_28 (by decide) ?_
    refine lv_aload_n hx hb dX10_keeps_29 rfl (lv_at hl 1 rfl) ?_
    refine tz_get (ci := 7) (v := .ref h1) (C := RX10) (F := TX10) (N := 17) hx hb hU iX10 hown hK hT 7 rfl rfl 0 (by decide) w249 (fun _ h9 => h9) rfl dX10_keeps_30 ?_
    refine tcI (Tc := [(h1, ob 4 [.int h1f0, .int h1f1, .int h1f2, .ref h14])]) (Tr := [(h12, aJ (k 1) 9 anJ), (h13, aJ (k 1) 9 anJ), (h14, aJ (k 1) 36 anJ), (h46, aJ (k 1) 40 anJ), (h47, aJ (k 1) 40 anJ), (h48, aJ (k 1) 40 anJ), (h49, aJ (k 1) 40 anJ), (h0, ob 7 [.ref h1, .ref h2, .int h0f2, .ref h3, .ref h4, .ref h5, .int h0f6, .ref h6, .int h0f8, .ref h7, .ref h8, .int h0f11, .ref h9, .ref h10, .ref h11, .ref h12, .ref h13]), (h4, aQ (k 3) 4 (q4 h18 h19 h20 h21)), (h18, ob 5 [.int h18f0, .int h18f1, .ref h46]), (h19, ob 5 [.int h19f0, .int h19f1, .ref h47]), (h20, ob 5 [.int h20f0, .int h20f1, .ref h48]), (h21, ob 5 [.int h21f0, .int h21f1, .ref h49])]) (as := [h1]) (zcV (q0 := 8) (ci := 4) (As := []) (rest := [.int 0, .ref h12, .int x2, .ref h48]) (Tc := [(h1, ob 4 [.int h1f0, .int h1f1, .int h1f2, .ref h14])]) hx hb hml hown hU hK hT rfl rfl [8] rfl (by decide) (cX5_cellCount_f3983 l D k _ h1 h14 h1f0 h1f1 h1f2 (by omega) (by omega)) w385 w382 w383 w384 w64 hdX5_cellCount ⟨rfl, rfl⟩ ⟨Nat.le_of_ble_eq_true rfl, Nat.le_of_ble_eq_true rfl⟩ rfl hl.1 (Nat.le_of_ble_eq_true rfl) dX10_keeps_33 ⟨Nat.le_of_ble_eq_true rfl, Nat.le_of_ble_eq_true rfl⟩) hT hS hA [8] [0, 1, 2, 3, 4, 5, 6, 7, 9, 10, 11, 12, 13] rfl rfl rfl (by decide) (by decide) (fun r371 H locs hB J hS => ?_)
    rcases hB with ⟨v372, b_v372, c_373, c_374, rfl, hT1⟩ | ⟨v375, b_v375, c_376, c_377, rfl, hT1⟩ | ⟨v378, b_v378, c_379, c_380, rfl, hT1⟩
    · skip
      have hT := J _ hT1
      have hT : TP D A [(h12, aJ (k 1) 9 anJ), (h13, aJ (k 1) 9 anJ), (h14, aJ (k 1) 36 anJ), (h46, aJ (k 1) 40 anJ), (h47, aJ (k 1) 40 anJ), (h48, aJ (k 1) 40 anJ), (h49, aJ (k 1) 40 anJ), (h0, ob 7 [.ref h1, .ref h2, .int h0f2, .ref h3, .ref h4, .ref h5, .int h0f6, .ref h6, .int h0f8, .ref h7, .ref h8, .int h0f11, .ref h9, .ref h10, .ref h11, .ref h12, .ref h13]), (h4, aQ (k 3) 4 (q4 h18 h19 h20 h21)), (h18, ob 5 [.int h18f0, .int h18f1, .ref h46]), (h19, ob 5 [.int h19f0, .int h19f1, .ref h47]), (h20, ob 5 [.int h20f0, .int h20f1, .ref h48]), (h21, ob 5 [.int h21f0, .int h21f1, .ref h49]), (h1, ob 4 [.int h1f0, .int h1f1, .int h1f2, .ref h14])] _ := hT
      exfalso; omega
    · skip
      have hT := J _ hT1
      have hT : TP D A [(h12, aJ (k 1) 9 anJ), (h13, aJ (k 1) 9 anJ), (h14, aJ (k 1) 36 anJ), (h46, aJ (k 1) 40 anJ), (h47, aJ (k 1) 40 anJ), (h48, aJ (k 1) 40 anJ), (h49, aJ (k 1) 40 anJ), (h0, ob 7 [.ref h1, .ref h2, .int h0f2, .ref h3, .ref h4, .ref h5, .int h0f6, .ref h6, .int h0f8, .ref h7, .ref h8, .int h0f11, .ref h9, .ref h10, .ref h11, .ref h12, .ref h13]), (h4, aQ (k 3) 4 (q4 h18 h19 h20 h21)), (h18, ob 5 [.int h18f0, .int h18f1, .ref h46]), (h19, ob 5 [.int h19f0, .int h19f1, .ref h47]), (h20, ob 5 [.int h20f0, .int h20f1, .ref h48]), (h21, ob 5 [.int h21f0, .int h21f1, .ref h49]), (h1, ob 4 [.int h1f0, .int h1f1, .int h1f2, .ref h14])] _ := hT
      exfalso; omega
    · skip
      have hT := J _ hT1
      have hT : TP D A [(h12, aJ (k 1) 9 anJ), (h13, aJ (k 1) 9 anJ), (h14, aJ (k 1) 36 anJ), (h46, aJ (k 1) 40 anJ), (h47, aJ (k 1) 40 anJ), (h48, aJ (k 1) 40 anJ), (h49, aJ (k 1) 40 anJ), (h0, ob 7 [.ref h1, .ref h2, .int h0f2, .ref h3, .ref h4, .ref h5, .int h0f6, .ref h6, .int h0f8, .ref h7, .ref h8, .int h0f11, .ref h9, .ref h10, .ref h11, .ref h12, .ref h13]), (h4, aQ (k 3) 4 (q4 h18 h19 h20 h21)), (h18, ob 5 [.int h18f0, .int h18f1, .ref h46]), (h19, ob 5 [.int h19f0, .int h19f1, .ref h47]), (h20, ob 5 [.int h20f0, .int h20f1, .ref h48]), (h21, ob 5 [.int h21f0, .int h21f1, .ref h49]), (h1, ob 4 [.int h1f0, .int h1f1, .int h1f2, .ref h14])] _ := hT
      refine tz_copyl hx hb (by rw [hml]; exact hl.1.symm) hown hU w410 w348 w347 w75 hK hT hS 5 0 rfl rfl (by have := li_0; omega) (fun _ _ _ _ => trivial) (Nat.le_of_ble_eq_true rfl) (Nat.le_of_ble_eq_true rfl) dX10_keeps_36 (fun H locs hT hS => ?_)
      refine lv_aload_n hx hb dX10_keeps_39 rfl (lv_at hl 1 rfl) ?_
      refine tz_get (ci := 7) (v := .ref h12) (C := RX10) (F := TX10) (N := 17) hx hb hU iX10 hown hK hT 7 rfl rfl 15 (by decide) w264 (fun _ h9 => h9) rfl dX10_keeps_40 ?_
      refine lv_aload_n hx hb dX10_keeps_43 rfl (lv_at hl 1 rfl) ?_
      refine tz_get (ci := 7) (v := .ref h1) (C := RX10) (F := TX10) (N := 17) hx hb hU iX10 hown hK hT 7 rfl rfl 0 (by decide) w249 (fun _ h9 => h9) rfl dX10_keeps_44 ?_
      refine tcI (Tc := [(h1, ob 4 [.int h1f0, .int h1f1, .int h1f2, .ref h14])]) (Tr := [(h12, aJ (k 1) 9 anJ), (h13, aJ (k 1) 9 anJ), (h14, aJ (k 1) 36 anJ), (h46, aJ (k 1) 40 anJ), (h47, aJ (k 1) 40 anJ), (h48, aJ (k 1) 40 anJ), (h49, aJ (k 1) 40 anJ), (h0, ob 7 [.ref h1, .ref h2, .int h0f2, .ref h3, .ref h4, .ref h5, .int h0f6, .ref h6, .int h0f8, .ref h7, .ref h8, .int h0f11, .ref h9, .ref h10, .ref h11, .ref h12, .ref h13]), (h4, aQ (k 3) 4 (q4 h18 h19 h20 h21)), (h18, ob 5 [.int h18f0, .int h18f1, .ref h46]), (h19, ob 5 [.int h19f0, .int h19f1, .ref h47]), (h20, ob 5 [.int h20f0, .int h20f1, .ref h48]), (h21, ob 5 [.int h21f0, .int h21f1, .ref h49])]) (as := [h1]) (zcV (q0 := 13) (ci := 4) (As := []) (rest := [.ref h12]) (Tc := [(h1, ob 4 [.int h1f0, .int h1f1, .int h1f2, .ref h14])]) hx hb hml hown hU hK hT rfl rfl [13] rfl (by decide) (cX5_cellCount_f3983 l D k _ h1 h14 h1f0 h1f1 h1f2 (by omega) (by omega)) w385 w382 w383 w384 w64 hdX5_cellCount ⟨rfl, rfl⟩ ⟨Nat.le_of_ble_eq_true rfl, Nat.le_of_ble_eq_true rfl⟩ rfl hl.1 (Nat.le_of_ble_eq_true rfl) dX10_keeps_47 ⟨Nat.le_of_ble_eq_true rfl, Nat.le_of_ble_eq_true rfl⟩) hT hS hA [13] [0, 1, 2, 3, 4, 5, 6, 7, 8, 9, 10, 11, 12] rfl rfl rfl (by decide) (by decide) (fun r381 H locs hB J hS => ?_)
      rcases hB with ⟨v382, b_v382, c_383, c_384, rfl, hT1⟩ | ⟨v385, b_v385, c_386, c_387, rfl, hT1⟩ | ⟨v388, b_v388, c_389, c_390, rfl, hT1⟩
      · skip
        have hT := J _ hT1
        have hT : TP D A [(h12, aJ (k 1) 9 anJ), (h13, aJ (k 1) 9 anJ), (h14, aJ (k 1) 36 anJ), (h46, aJ (k 1) 40 anJ), (h47, aJ (k 1) 40 anJ), (h48, aJ (k 1) 40 anJ), (h49, aJ (k 1) 40 anJ), (h0, ob 7 [.ref h1, .ref h2, .int h0f2, .ref h3, .ref h4, .ref h5, .int h0f6, .ref h6, .int h0f8, .ref h7, .ref h8, .int h0f11, .ref h9, .ref h10, .ref h11, .ref h12, .ref h13]), (h4, aQ (k 3) 4 (q4 h18 h19 h20 h21)), (h18, ob 5 [.int h18f0, .int h18f1, .ref h46]), (h19, ob 5 [.int h19f0, .int h19f1, .ref h47]), (h20, ob 5 [.int h20f0, .int h20f1, .ref h48]), (h21, ob 5 [.int h21f0, .int h21f1, .ref h49]), (h1, ob 4 [.int h1f0, .int h1f1, .int h1f2, .ref h14])] _ := hT
        exfalso; omega
      · skip
        have hT := J _ hT1
        have hT : TP D A [(h12, aJ (k 1) 9 anJ), (h13, aJ (k 1) 9 anJ), (h14, aJ (k 1) 36 anJ), (h46, aJ (k 1) 40 anJ), (h47, aJ (k 1) 40 anJ), (h48, aJ (k 1) 40 anJ), (h49, aJ (k 1) 40 anJ), (h0, ob 7 [.ref h1, .ref h2, .int h0f2, .ref h3, .ref h4, .ref h5, .int h0f6, .ref h6, .int h0f8, .ref h7, .ref h8, .int h0f11, .ref h9, .ref h10, .ref h11, .ref h12, .ref h13]), (h4, aQ (k 3) 4 (q4 h18 h19 h20 h21)), (h18, ob 5 [.int h18f0, .int h18f1, .ref h46]), (h19, ob 5 [.int h19f0, .int h19f1, .ref h47]), (h20, ob 5 [.int h20f0, .int h20f1, .ref h48]), (h21, ob 5 [.int h21f0, .int h21f1, .ref h49]), (h1, ob 4 [.int h1f0, .int h1f1, .int h1f2, .ref h14])] _ := hT
        exfalso; omega
      · skip
        have hT := J _ hT1
        have hT : TP D A [(h12, aJ (k 1) 9 anJ), (h13, aJ (k 1) 9 anJ), (h14, aJ (k 1) 36 anJ), (h46, aJ (k 1) 40 anJ), (h47, aJ (k 1) 40 anJ), (h48, aJ (k 1) 40 anJ), (h49, aJ (k 1) 40 anJ), (h0, ob 7 [.ref h1, .ref h2, .int h0f2, .ref h3, .ref h4, .ref h5, .int h0f6, .ref h6, .int h0f8, .ref h7, .ref h8, .int h0f11, .ref h9, .ref h10, .ref h11, .ref h12, .ref h13]), (h4, aQ (k 3) 4 (q4 h18 h19 h20 h21)), (h18, ob 5 [.int h18f0, .int h18f1, .ref h46]), (h19, ob 5 [.int h19f0, .int h19f1, .ref h47]), (h20, ob 5 [.int h20f0, .int h20f1, .ref h48]), (h21, ob 5 [.int h21f0, .int h21f1, .ref h49]), (h1, ob 4 [.int h1f0, .int h1f1, .int h1f2, .ref h14])] _ := hT
        refine lv_ldc2 hx hb hown (hU _ w649) dX10_keeps_50 ?_
        have q_q392 := ll_1000000
        refine tcI (Tc := [(h12, aJ (k 1) 9 anJ)]) (Tr := [(h13, aJ (k 1) 9 anJ), (h14, aJ (k 1) 36 anJ), (h46, aJ (k 1) 40 anJ), (h47, aJ (k 1) 40 anJ), (h48, aJ (k 1) 40 anJ), (h49, aJ (k 1) 40 anJ), (h0, ob 7 [.ref h1, .ref h2, .int h0f2, .ref h3, .ref h4, .ref h5, .int h0f6, .ref h6, .int h0f8, .ref h7, .ref h8, .int h0f11, .ref h9, .ref h10, .ref h11, .ref h12, .ref h13]), (h4, aQ (k 3) 4 (q4 h18 h19 h20 h21)), (h18, ob 5 [.int h18f0, .int h18f1, .ref h46]), (h19, ob 5 [.int h19f0, .int h19f1, .ref h47]), (h20, ob 5 [.int h20f0, .int h20f1, .ref h48]), (h21, ob 5 [.int h21f0, .int h21f1, .ref h49]), (h1, ob 4 [.int h1f0, .int h1f1, .int h1f2, .ref h14])]) (as := [h12]) (zcS (As := [.ref h12, .int v388, .long 1000000]) (rest := []) (Tc := [(h12, aJ (k 1) 9 anJ)]) hx hb hml hown hU hK hT [0] rfl (by decide) (cX7_isWithin_443ab l D k _ h12 v388 (1000000) (by omega) (by have := ll_1000000; omega)) w389 w387 w388 w74 hdX7_isWithin ⟨rfl, rfl⟩ ⟨Nat.le_of_ble_eq_true rfl, Nat.le_of_ble_eq_true rfl⟩ rfl hl.1 (Nat.le_of_ble_eq_true rfl) dX10_keeps_53 ⟨Nat.le_of_ble_eq_true rfl, Nat.le_of_ble_eq_true rfl⟩) hT hS hA [0] [1, 2, 3, 4, 5, 6, 7, 8, 9, 10, 11, 12, 13] rfl rfl rfl (by decide) (by decide) (fun r391 H locs hB J hS => ?_)
        obtain ⟨b_r391, hT1⟩ := hB
        have hT := J _ hT1
        have hT : TP D A [(h13, aJ (k 1) 9 anJ), (h14, aJ (k 1) 36 anJ), (h46, aJ (k 1) 40 anJ), (h47, aJ (k 1) 40 anJ), (h48, aJ (k 1) 40 anJ), (h49, aJ (k 1) 40 anJ), (h0, ob 7 [.ref h1, .ref h2, .int h0f2, .ref h3, .ref h4, .ref h5, .int h0f6, .ref h6, .int h0f8, .ref h7, .ref h8, .int h0f11, .ref h9, .ref h10, .ref h11, .ref h12, .ref h13]), (h4, aQ (k 3) 4 (q4 h18 h19 h20 h21)), (h18, ob 5 [.int h18f0, .int h18f1, .ref h46]), (h19, ob 5 [.int h19f0, .int h19f1, .ref h47]), (h20, ob 5 [.int h20f0, .int h20f1, .ref h48]), (h21, ob 5 [.int h21f0, .int h21f1, .ref h49]), (h1, ob 4 [.int h1f0, .int h1f1, .int h1f2, .ref h14]), (h12, aJ (k 1) 9 anJ)] _ := hT
        refine lv_if_ne (tgt := 62) hx hb dX10_keeps_56 (by decide) (fun c_393 => ?_) (fun c_393 => ?_)
        · skip
          have c_393 := ni_ne c_393 rfl li_0
          refine lv_aload_n hx hb dX10_keeps_62 rfl (lv_at hl 1 rfl) ?_
          refine tcI (Tc := [(h0, ob 7 [.ref h1, .ref h2, .int h0f2, .ref h3, .ref h4, .ref h5, .int h0f6, .ref h6, .int h0f8, .ref h7, .ref h8, .int h0f11, .ref h9, .ref h10, .ref h11, .ref h12, .ref h13]), (h1, ob 4 [.int h1f0, .int h1f1, .int h1f2, .ref h14]), (h12, aJ (k 1) 9 anJ), (h13, aJ (k 1) 9 anJ)]) (Tr := [(h14, aJ (k 1) 36 anJ), (h46, aJ (k 1) 40 anJ), (h47, aJ (k 1) 40 anJ), (h48, aJ (k 1) 40 anJ), (h49, aJ (k 1) 40 anJ), (h4, aQ (k 3) 4 (q4 h18 h19 h20 h21)), (h18, ob 5 [.int h18f0, .int h18f1, .ref h46]), (h19, ob 5 [.int h19f0, .int h19f1, .ref h47]), (h20, ob 5 [.int h20f0, .int h20f1, .ref h48]), (h21, ob 5 [.int h21f0, .int h21f1, .ref h49])]) (as := [h0, h1, h12, h13]) (zcV (q0 := 6) (ci := 7) (As := []) (rest := []) (Tc := [(h0, ob 7 [.ref h1, .ref h2, .int h0f2, .ref h3, .ref h4, .ref h5, .int h0f6, .ref h6, .int h0f8, .ref h7, .ref h8, .int h0f11, .ref h9, .ref h10, .ref h11, .ref h12, .ref h13]), (h1, ob 4 [.int h1f0, .int h1f1, .int h1f2, .ref h14]), (h12, aJ (k 1) 9 anJ), (h13, aJ (k 1) 9 anJ)]) hx hb hml hown hU hK hT rfl rfl [6, 12, 13, 0] rfl (by decide) (cX10_isPositiveForm_ec5e0 l D k _ h0 h1 h12 h13 h2 h3 h4 h5 h6 h7 h8 h9 h10 h11 h14 h0f2 h0f6 h0f8 h0f11 h1f0 h1f1 h1f2 (by omega) (by omega) (by omega) (by omega) (by omega) (by omega)) w653 w650 w652 w19 w63 hdX10_isPositiveForm ⟨rfl, rfl⟩ ⟨Nat.le_of_ble_eq_true rfl, Nat.le_of_ble_eq_true rfl⟩ rfl hl.1 (Nat.le_of_ble_eq_true rfl) dX10_keeps_63 ⟨Nat.le_of_ble_eq_true rfl, Nat.le_of_ble_eq_true rfl⟩) hT hS hA [6, 12, 13, 0] [1, 2, 3, 4, 5, 7, 8, 9, 10, 11] rfl rfl rfl (by decide) (by decide) (fun r394 H locs hB J hS => ?_)
          obtain ⟨b_r394, hT1⟩ := hB
          have hT := J _ hT1
          have hT : TP D A [(h14, aJ (k 1) 36 anJ), (h46, aJ (k 1) 40 anJ), (h47, aJ (k 1) 40 anJ), (h48, aJ (k 1) 40 anJ), (h49, aJ (k 1) 40 anJ), (h4, aQ (k 3) 4 (q4 h18 h19 h20 h21)), (h18, ob 5 [.int h18f0, .int h18f1, .ref h46]), (h19, ob 5 [.int h19f0, .int h19f1, .ref h47]), (h20, ob 5 [.int h20f0, .int h20f1, .ref h48]), (h21, ob 5 [.int h21f0, .int h21f1, .ref h49]), (h0, ob 7 [.ref h1, .ref h2, .int h0f2, .ref h3, .ref h4, .ref h5, .int h0f6, .ref h6, .int h0f8, .ref h7, .ref h8, .int h0f11, .ref h9, .ref h10, .ref h11, .ref h12, .ref h13]), (h1, ob 4 [.int h1f0, .int h1f1, .int h1f2, .ref h14]), (h12, aJ (k 1) 9 anJ), (h13, aJ (k 1) 9 anJ)] _ := hT
          refine lv_if_eq (tgt := 80) hx hb dX10_keeps_66 (by decide) (fun c_395 => ?_) (fun c_395 => ?_)
          · skip
            have c_395 := ni_eq c_395 rfl li_0
            refine lv_iconst (v := 0) hx hb dX10_keeps_80 (by decide) ?_
            exact tz_retI (B := B_cX10_keeps_56b43 D k h0 h1 h4 h12 h13 h14 h18 h19 h20 h21 h46 h47 h48 h49 h2 h3 h5 h6 h7 h8 h9 h10 h11 x1 x2 h0f2 h0f6 h0f8 h0f11 h1f0 h1f1 h1f2 h18f0 h18f1 h19f0 h19f1 h20f0 h20f1 h21f0 h21f1) (v := 0) hQ hx hb hr hlocks hS (Nat.le_of_ble_eq_true rfl) (Nat.le_of_ble_eq_true rfl) dX10_keeps_81 (⟨(by have := li_0; omega), (hT.sub [10, 11, 5, 12, 13, 0, 6, 7, 8, 9, 1, 2, 3, 4] (by decide) rfl)⟩)
          · skip
            have c_395 := ni_ne c_395 rfl li_0
            refine lv_aload_n hx hb dX10_keeps_69 rfl (lv_at hl 1 rfl) ?_
            refine tcI (Tc := [(h0, ob 7 [.ref h1, .ref h2, .int h0f2, .ref h3, .ref h4, .ref h5, .int h0f6, .ref h6, .int h0f8, .ref h7, .ref h8, .int h0f11, .ref h9, .ref h10, .ref h11, .ref h12, .ref h13]), (h1, ob 4 [.int h1f0, .int h1f1, .int h1f2, .ref h14]), (h12, aJ (k 1) 9 anJ), (h13, aJ (k 1) 9 anJ), (h14, aJ (k 1) 36 anJ)]) (Tr := [(h46, aJ (k 1) 40 anJ), (h47, aJ (k 1) 40 anJ), (h48, aJ (k 1) 40 anJ), (h49, aJ (k 1) 40 anJ), (h4, aQ (k 3) 4 (q4 h18 h19 h20 h21)), (h18, ob 5 [.int h18f0, .int h18f1, .ref h46]), (h19, ob 5 [.int h19f0, .int h19f1, .ref h47]), (h20, ob 5 [.int h20f0, .int h20f1, .ref h48]), (h21, ob 5 [.int h21f0, .int h21f1, .ref h49])]) (as := [h0, h1, h12, h13, h14]) (zcV (q0 := 10) (ci := 7) (As := []) (rest := []) (Tc := [(h0, ob 7 [.ref h1, .ref h2, .int h0f2, .ref h3, .ref h4, .ref h5, .int h0f6, .ref h6, .int h0f8, .ref h7, .ref h8, .int h0f11, .ref h9, .ref h10, .ref h11, .ref h12, .ref h13]), (h1, ob 4 [.int h1f0, .int h1f1, .int h1f2, .ref h14]), (h12, aJ (k 1) 9 anJ), (h13, aJ (k 1) 9 anJ), (h14, aJ (k 1) 36 anJ)]) hx hb hml hown hU hK hT rfl rfl [10, 11, 12, 13, 0] rfl (by decide) (cX10_noGeneratorChangesForm_03344 l D k _ h0 h1 h12 h13 h14 h2 h3 h4 h5 h6 h7 h8 h9 h10 h11 h0f2 h0f6 h0f8 h0f11 h1f0 h1f1 h1f2 (by omega) (by omega) (by omega) (by omega) (by omega) (by omega)) w657 w654 w656 w20 w63 hdX10_noGeneratorChangesForm ⟨rfl, rfl⟩ ⟨Nat.le_of_ble_eq_true rfl, Nat.le_of_ble_eq_true rfl⟩ rfl hl.1 (Nat.le_of_ble_eq_true rfl) dX10_keeps_70 ⟨Nat.le_of_ble_eq_true rfl, Nat.le_of_ble_eq_true rfl⟩) hT hS hA [10, 11, 12, 13, 0] [1, 2, 3, 4, 5, 6, 7, 8, 9] rfl rfl rfl (by decide) (by decide) (fun r396 H locs hB J hS => ?_)
            obtain ⟨b_r396, hT1⟩ := hB
            have hT := J _ hT1
            have hT : TP D A [(h46, aJ (k 1) 40 anJ), (h47, aJ (k 1) 40 anJ), (h48, aJ (k 1) 40 anJ), (h49, aJ (k 1) 40 anJ), (h4, aQ (k 3) 4 (q4 h18 h19 h20 h21)), (h18, ob 5 [.int h18f0, .int h18f1, .ref h46]), (h19, ob 5 [.int h19f0, .int h19f1, .ref h47]), (h20, ob 5 [.int h20f0, .int h20f1, .ref h48]), (h21, ob 5 [.int h21f0, .int h21f1, .ref h49]), (h0, ob 7 [.ref h1, .ref h2, .int h0f2, .ref h3, .ref h4, .ref h5, .int h0f6, .ref h6, .int h0f8, .ref h7, .ref h8, .int h0f11, .ref h9, .ref h10, .ref h11, .ref h12, .ref h13]), (h1, ob 4 [.int h1f0, .int h1f1, .int h1f2, .ref h14]), (h12, aJ (k 1) 9 anJ), (h13, aJ (k 1) 9 anJ), (h14, aJ (k 1) 36 anJ)] _ := hT
            refine lv_if_eq (tgt := 80) hx hb dX10_keeps_73 (by decide) (fun c_397 => ?_) (fun c_397 => ?_)
            · skip
              have c_397 := ni_eq c_397 rfl li_0
              refine lv_iconst (v := 0) hx hb dX10_keeps_80 (by decide) ?_
              exact tz_retI (B := B_cX10_keeps_56b43 D k h0 h1 h4 h12 h13 h14 h18 h19 h20 h21 h46 h47 h48 h49 h2 h3 h5 h6 h7 h8 h9 h10 h11 x1 x2 h0f2 h0f6 h0f8 h0f11 h1f0 h1f1 h1f2 h18f0 h18f1 h19f0 h19f1 h20f0 h20f1 h21f0 h21f1) (v := 0) hQ hx hb hr hlocks hS (Nat.le_of_ble_eq_true rfl) (Nat.le_of_ble_eq_true rfl) dX10_keeps_81 (⟨(by have := li_0; omega), (hT.sub [9, 10, 4, 11, 12, 13, 5, 6, 7, 8, 0, 1, 2, 3] (by decide) rfl)⟩)
            · skip
              have c_397 := ni_ne c_397 rfl li_0
              refine lv_iconst (v := 1) hx hb dX10_keeps_76 (by decide) ?_
              refine lv_goto (tgt := 81) hx hb dX10_keeps_77 (by decide) ?_
              exact tz_retI (B := B_cX10_keeps_56b43 D k h0 h1 h4 h12 h13 h14 h18 h19 h20 h21 h46 h47 h48 h49 h2 h3 h5 h6 h7 h8 h9 h10 h11 x1 x2 h0f2 h0f6 h0f8 h0f11 h1f0 h1f1 h1f2 h18f0 h18f1 h19f0 h19f1 h20f0 h20f1 h21f0 h21f1) (v := 1) hQ hx hb hr hlocks hS (Nat.le_of_ble_eq_true rfl) (Nat.le_of_ble_eq_true rfl) dX10_keeps_81 (⟨(by have := li_1; omega), (hT.sub [9, 10, 4, 11, 12, 13, 5, 6, 7, 8, 0, 1, 2, 3] (by decide) rfl)⟩)
        · skip
          have c_393 := ni_eq c_393 rfl li_0
          refine lv_bipush (v := (-16)) hx hb dX10_keeps_59 (by decide) ?_
          exact tz_retI (B := B_cX10_keeps_56b43 D k h0 h1 h4 h12 h13 h14 h18 h19 h20 h21 h46 h47 h48 h49 h2 h3 h5 h6 h7 h8 h9 h10 h11 x1 x2 h0f2 h0f6 h0f8 h0f11 h1f0 h1f1 h1f2 h18f0 h18f1 h19f0 h19f1 h20f0 h20f1 h21f0 h21f1) (v := (-16)) hQ hx hb hr hlocks hS (Nat.le_of_ble_eq_true rfl) (Nat.le_of_ble_eq_true rfl) dX10_keeps_61 (⟨(by have := li_m16; omega), (hT.sub [6, 12, 7, 13, 0, 1, 8, 9, 10, 11, 2, 3, 4, 5] (by decide) rfl)⟩)
  · skip
    have hT := J _ hT1
    have hT : TP D A [(h12, aJ (k 1) 9 anJ), (h13, aJ (k 1) 9 anJ), (h14, aJ (k 1) 36 anJ), (h46, aJ (k 1) 40 anJ), (h47, aJ (k 1) 40 anJ), (h48, aJ (k 1) 40 anJ), (h49, aJ (k 1) 40 anJ), (h0, ob 7 [.ref h1, .ref h2, .int h0f2, .ref h3, .ref h4, .ref h5, .int h0f6, .ref h6, .int h0f8, .ref h7, .ref h8, .int h0f11, .ref h9, .ref h10, .ref h11, .ref h12, .ref h13]), (h1, ob 4 [.int h1f0, .int h1f1, .int h1f2, .ref h14]), (h4, aQ (k 3) 4 (q4 h18 h19 h20 h21)), (h18, ob 5 [.int h18f0, .int h18f1, .ref h46]), (h19, ob 5 [.int h19f0, .int h19f1, .ref h47]), (h20, ob 5 [.int h20f0, .int h20f1, .ref h48]), (h21, ob 5 [.int h21f0, .int h21f1, .ref h49])] _ := hT
    refine lv_istore_n (lv' := [(3, .int 0), (0, .ref h0), (1, .int x1), (2, .int x2)]) hx hb dX10_keeps_7 rfl hl (by decide) rfl (fun ls hl => ?_)
    refine lv_iload_n hx hb dX10_keeps_8 rfl (lv_at hl 0 rfl) ?_
    refine lv_if_eq (tgt := 14) hx hb dX10_keeps_9 (by decide) (fun _ => ?_) (fun cc => absurd (by decide +kernel) cc)
    refine lv_aload_n hx hb dX10_keeps_14 rfl (lv_at hl 1 rfl) ?_
    refine tz_get (ci := 7) (v := .ref h4) (C := RX10) (F := TX10) (N := 17) hx hb hU iX10 hown hK hT 7 rfl rfl 4 (by decide) w253 (fun _ h9 => h9) rfl dX10_keeps_15 ?_
    refine lv_iload_n hx hb dX10_keeps_18 rfl (lv_at hl 2 rfl) ?_
    have hq398 : x1.toInt = 3 := by omega
    refine tz_aldq (b := h21) hx hb hK hT 9 rfl (vp_in_iff.mpr (by have := hq398; omega)) (fun f hf => by rw [cl_of hq398]; exact hf.2.2.2) dX10_keeps_19 ?_
    refine tz_get (ci := 5) (v := .ref h49) (C := RX6) (F := TX6) (N := 3) hx hb hU iX6 hown hK hT 13 rfl rfl 2 (by decide) w241 (fun _ h9 => h9) rfl dX10_keeps_20 ?_
    refine lv_iload_n hx hb dX10_keeps_23 rfl (lv_at hl 3 rfl) ?_
    refine lv_aload_n hx hb dX10_keeps_24 rfl (lv_at hl 1 rfl) ?_
    refine tz_get (ci := 7) (v := .ref h12) (C := RX10) (F := TX10) (N := 17) hx hb hU iX10 hown hK hT 7 rfl rfl 15 (by decide) w264 (fun _ h9 => h9) rfl dX10_keeps_25 ?_
    refine lv_iconst (v := 0) hx hb dX10_keeps_28 (by decide) ?_
    refine lv_aload_n hx hb dX10_keeps_29 rfl (lv_at hl 1 rfl) ?_
    refine tz_get (ci := 7) (v := .ref h1) (C := RX10) (F := TX10) (N := 17) hx hb hU iX10 hown hK hT 7 rfl rfl 0 (by decide) w249 (fun _ h9 => h9) rfl dX10_keeps_30 ?_
    refine tcI (Tc := [(h1, ob 4 [.int h1f0, .int h1f1, .int h1f2, .ref h14])]) (Tr := [(h12, aJ (k 1) 9 anJ), (h13, aJ (k 1) 9 anJ), (h14, aJ (k 1) 36 anJ), (h46, aJ (k 1) 40 anJ), (h47, aJ (k 1) 40 anJ), (h48, aJ (k 1) 40 anJ), (h49, aJ (k 1) 40 anJ), (h0, ob 7 [.ref h1, .ref h2, .int h0f2, .ref h3, .ref h4, .ref h5, .int h0f6, .ref h6, .int h0f8, .ref h7, .ref h8, .int h0f11, .ref h9, .ref h10, .ref h11, .ref h12, .ref h13]), (h4, aQ (k 3) 4 (q4 h18 h19 h20 h21)), (h18, ob 5 [.int h18f0, .int h18f1, .ref h46]), (h19, ob 5 [.int h19f0, .int h19f1, .ref h47]), (h20, ob 5 [.int h20f0, .int h20f1, .ref h48]), (h21, ob 5 [.int h21f0, .int h21f1, .ref h49])]) (as := [h1]) (zcV (q0 := 8) (ci := 4) (As := []) (rest := [.int 0, .ref h12, .int x2, .ref h49]) (Tc := [(h1, ob 4 [.int h1f0, .int h1f1, .int h1f2, .ref h14])]) hx hb hml hown hU hK hT rfl rfl [8] rfl (by decide) (cX5_cellCount_f3983 l D k _ h1 h14 h1f0 h1f1 h1f2 (by omega) (by omega)) w385 w382 w383 w384 w64 hdX5_cellCount ⟨rfl, rfl⟩ ⟨Nat.le_of_ble_eq_true rfl, Nat.le_of_ble_eq_true rfl⟩ rfl hl.1 (Nat.le_of_ble_eq_true rfl) dX10_keeps_33 ⟨Nat.le_of_ble_eq_true rfl, Nat.le_of_ble_eq_true rfl⟩) hT hS hA [8] [0, 1, 2, 3, 4, 5, 6, 7, 9, 10, 11, 12, 13] rfl rfl rfl (by decide) (by decide) (fun r399 H locs hB J hS => ?_)
    rcases hB with ⟨v400, b_v400, c_401, c_402, rfl, hT1⟩ | ⟨v403, b_v403, c_404, c_405, rfl, hT1⟩ | ⟨v406, b_v406, c_407, c_408, rfl, hT1⟩
    · skip
      have hT := J _ hT1
      have hT : TP D A [(h12, aJ (k 1) 9 anJ), (h13, aJ (k 1) 9 anJ), (h14, aJ (k 1) 36 anJ), (h46, aJ (k 1) 40 anJ), (h47, aJ (k 1) 40 anJ), (h48, aJ (k 1) 40 anJ), (h49, aJ (k 1) 40 anJ), (h0, ob 7 [.ref h1, .ref h2, .int h0f2, .ref h3, .ref h4, .ref h5, .int h0f6, .ref h6, .int h0f8, .ref h7, .ref h8, .int h0f11, .ref h9, .ref h10, .ref h11, .ref h12, .ref h13]), (h4, aQ (k 3) 4 (q4 h18 h19 h20 h21)), (h18, ob 5 [.int h18f0, .int h18f1, .ref h46]), (h19, ob 5 [.int h19f0, .int h19f1, .ref h47]), (h20, ob 5 [.int h20f0, .int h20f1, .ref h48]), (h21, ob 5 [.int h21f0, .int h21f1, .ref h49]), (h1, ob 4 [.int h1f0, .int h1f1, .int h1f2, .ref h14])] _ := hT
      refine tz_copyl hx hb (by rw [hml]; exact hl.1.symm) hown hU w410 w348 w347 w75 hK hT hS 6 0 rfl rfl (by have := li_0; omega) (fun _ _ _ _ => trivial) (Nat.le_of_ble_eq_true rfl) (Nat.le_of_ble_eq_true rfl) dX10_keeps_36 (fun H locs hT hS => ?_)
      refine lv_aload_n hx hb dX10_keeps_39 rfl (lv_at hl 1 rfl) ?_
      refine tz_get (ci := 7) (v := .ref h12) (C := RX10) (F := TX10) (N := 17) hx hb hU iX10 hown hK hT 7 rfl rfl 15 (by decide) w264 (fun _ h9 => h9) rfl dX10_keeps_40 ?_
      refine lv_aload_n hx hb dX10_keeps_43 rfl (lv_at hl 1 rfl) ?_
      refine tz_get (ci := 7) (v := .ref h1) (C := RX10) (F := TX10) (N := 17) hx hb hU iX10 hown hK hT 7 rfl rfl 0 (by decide) w249 (fun _ h9 => h9) rfl dX10_keeps_44 ?_
      refine tcI (Tc := [(h1, ob 4 [.int h1f0, .int h1f1, .int h1f2, .ref h14])]) (Tr := [(h12, aJ (k 1) 9 anJ), (h13, aJ (k 1) 9 anJ), (h14, aJ (k 1) 36 anJ), (h46, aJ (k 1) 40 anJ), (h47, aJ (k 1) 40 anJ), (h48, aJ (k 1) 40 anJ), (h49, aJ (k 1) 40 anJ), (h0, ob 7 [.ref h1, .ref h2, .int h0f2, .ref h3, .ref h4, .ref h5, .int h0f6, .ref h6, .int h0f8, .ref h7, .ref h8, .int h0f11, .ref h9, .ref h10, .ref h11, .ref h12, .ref h13]), (h4, aQ (k 3) 4 (q4 h18 h19 h20 h21)), (h18, ob 5 [.int h18f0, .int h18f1, .ref h46]), (h19, ob 5 [.int h19f0, .int h19f1, .ref h47]), (h20, ob 5 [.int h20f0, .int h20f1, .ref h48]), (h21, ob 5 [.int h21f0, .int h21f1, .ref h49])]) (as := [h1]) (zcV (q0 := 13) (ci := 4) (As := []) (rest := [.ref h12]) (Tc := [(h1, ob 4 [.int h1f0, .int h1f1, .int h1f2, .ref h14])]) hx hb hml hown hU hK hT rfl rfl [13] rfl (by decide) (cX5_cellCount_f3983 l D k _ h1 h14 h1f0 h1f1 h1f2 (by omega) (by omega)) w385 w382 w383 w384 w64 hdX5_cellCount ⟨rfl, rfl⟩ ⟨Nat.le_of_ble_eq_true rfl, Nat.le_of_ble_eq_true rfl⟩ rfl hl.1 (Nat.le_of_ble_eq_true rfl) dX10_keeps_47 ⟨Nat.le_of_ble_eq_true rfl, Nat.le_of_ble_eq_true rfl⟩) hT hS hA [13] [0, 1, 2, 3, 4, 5, 6, 7, 8, 9, 10, 11, 12] rfl rfl rfl (by decide) (by decide) (fun r409 H locs hB J hS => ?_)
      rcases hB with ⟨v410, b_v410, c_411, c_412, rfl, hT1⟩ | ⟨v413, b_v413, c_414, c_415, rfl, hT1⟩ | ⟨v416, b_v416, c_417, c_418, rfl, hT1⟩
      · skip
        have hT := J _ hT1
        have hT : TP D A [(h12, aJ (k 1) 9 anJ), (h13, aJ (k 1) 9 anJ), (h14, aJ (k 1) 36 anJ), (h46, aJ (k 1) 40 anJ), (h47, aJ (k 1) 40 anJ), (h48, aJ (k 1) 40 anJ), (h49, aJ (k 1) 40 anJ), (h0, ob 7 [.ref h1, .ref h2, .int h0f2, .ref h3, .ref h4, .ref h5, .int h0f6, .ref h6, .int h0f8, .ref h7, .ref h8, .int h0f11, .ref h9, .ref h10, .ref h11, .ref h12, .ref h13]), (h4, aQ (k 3) 4 (q4 h18 h19 h20 h21)), (h18, ob 5 [.int h18f0, .int h18f1, .ref h46]), (h19, ob 5 [.int h19f0, .int h19f1, .ref h47]), (h20, ob 5 [.int h20f0, .int h20f1, .ref h48]), (h21, ob 5 [.int h21f0, .int h21f1, .ref h49]), (h1, ob 4 [.int h1f0, .int h1f1, .int h1f2, .ref h14])] _ := hT
        refine lv_ldc2 hx hb hown (hU _ w649) dX10_keeps_50 ?_
        have q_q420 := ll_1000000
        refine tcI (Tc := [(h12, aJ (k 1) 9 anJ)]) (Tr := [(h13, aJ (k 1) 9 anJ), (h14, aJ (k 1) 36 anJ), (h46, aJ (k 1) 40 anJ), (h47, aJ (k 1) 40 anJ), (h48, aJ (k 1) 40 anJ), (h49, aJ (k 1) 40 anJ), (h0, ob 7 [.ref h1, .ref h2, .int h0f2, .ref h3, .ref h4, .ref h5, .int h0f6, .ref h6, .int h0f8, .ref h7, .ref h8, .int h0f11, .ref h9, .ref h10, .ref h11, .ref h12, .ref h13]), (h4, aQ (k 3) 4 (q4 h18 h19 h20 h21)), (h18, ob 5 [.int h18f0, .int h18f1, .ref h46]), (h19, ob 5 [.int h19f0, .int h19f1, .ref h47]), (h20, ob 5 [.int h20f0, .int h20f1, .ref h48]), (h21, ob 5 [.int h21f0, .int h21f1, .ref h49]), (h1, ob 4 [.int h1f0, .int h1f1, .int h1f2, .ref h14])]) (as := [h12]) (zcS (As := [.ref h12, .int v410, .long 1000000]) (rest := []) (Tc := [(h12, aJ (k 1) 9 anJ)]) hx hb hml hown hU hK hT [0] rfl (by decide) (cX7_isWithin_443ab l D k _ h12 v410 (1000000) (by omega) (by have := ll_1000000; omega)) w389 w387 w388 w74 hdX7_isWithin ⟨rfl, rfl⟩ ⟨Nat.le_of_ble_eq_true rfl, Nat.le_of_ble_eq_true rfl⟩ rfl hl.1 (Nat.le_of_ble_eq_true rfl) dX10_keeps_53 ⟨Nat.le_of_ble_eq_true rfl, Nat.le_of_ble_eq_true rfl⟩) hT hS hA [0] [1, 2, 3, 4, 5, 6, 7, 8, 9, 10, 11, 12, 13] rfl rfl rfl (by decide) (by decide) (fun r419 H locs hB J hS => ?_)
        obtain ⟨b_r419, hT1⟩ := hB
        have hT := J _ hT1
        have hT : TP D A [(h13, aJ (k 1) 9 anJ), (h14, aJ (k 1) 36 anJ), (h46, aJ (k 1) 40 anJ), (h47, aJ (k 1) 40 anJ), (h48, aJ (k 1) 40 anJ), (h49, aJ (k 1) 40 anJ), (h0, ob 7 [.ref h1, .ref h2, .int h0f2, .ref h3, .ref h4, .ref h5, .int h0f6, .ref h6, .int h0f8, .ref h7, .ref h8, .int h0f11, .ref h9, .ref h10, .ref h11, .ref h12, .ref h13]), (h4, aQ (k 3) 4 (q4 h18 h19 h20 h21)), (h18, ob 5 [.int h18f0, .int h18f1, .ref h46]), (h19, ob 5 [.int h19f0, .int h19f1, .ref h47]), (h20, ob 5 [.int h20f0, .int h20f1, .ref h48]), (h21, ob 5 [.int h21f0, .int h21f1, .ref h49]), (h1, ob 4 [.int h1f0, .int h1f1, .int h1f2, .ref h14]), (h12, aJ (k 1) 9 anJ)] _ := hT
        refine lv_if_ne (tgt := 62) hx hb dX10_keeps_56 (by decide) (fun c_421 => ?_) (fun c_421 => ?_)
        · skip
          have c_421 := ni_ne c_421 rfl li_0
          refine lv_aload_n hx hb dX10_keeps_62 rfl (lv_at hl 1 rfl) ?_
          refine tcI (Tc := [(h0, ob 7 [.ref h1, .ref h2, .int h0f2, .ref h3, .ref h4, .ref h5, .int h0f6, .ref h6, .int h0f8, .ref h7, .ref h8, .int h0f11, .ref h9, .ref h10, .ref h11, .ref h12, .ref h13]), (h1, ob 4 [.int h1f0, .int h1f1, .int h1f2, .ref h14]), (h12, aJ (k 1) 9 anJ), (h13, aJ (k 1) 9 anJ)]) (Tr := [(h14, aJ (k 1) 36 anJ), (h46, aJ (k 1) 40 anJ), (h47, aJ (k 1) 40 anJ), (h48, aJ (k 1) 40 anJ), (h49, aJ (k 1) 40 anJ), (h4, aQ (k 3) 4 (q4 h18 h19 h20 h21)), (h18, ob 5 [.int h18f0, .int h18f1, .ref h46]), (h19, ob 5 [.int h19f0, .int h19f1, .ref h47]), (h20, ob 5 [.int h20f0, .int h20f1, .ref h48]), (h21, ob 5 [.int h21f0, .int h21f1, .ref h49])]) (as := [h0, h1, h12, h13]) (zcV (q0 := 6) (ci := 7) (As := []) (rest := []) (Tc := [(h0, ob 7 [.ref h1, .ref h2, .int h0f2, .ref h3, .ref h4, .ref h5, .int h0f6, .ref h6, .int h0f8, .ref h7, .ref h8, .int h0f11, .ref h9, .ref h10, .ref h11, .ref h12, .ref h13]), (h1, ob 4 [.int h1f0, .int h1f1, .int h1f2, .ref h14]), (h12, aJ (k 1) 9 anJ), (h13, aJ (k 1) 9 anJ)]) hx hb hml hown hU hK hT rfl rfl [6, 12, 13, 0] rfl (by decide) (cX10_isPositiveForm_ec5e0 l D k _ h0 h1 h12 h13 h2 h3 h4 h5 h6 h7 h8 h9 h10 h11 h14 h0f2 h0f6 h0f8 h0f11 h1f0 h1f1 h1f2 (by omega) (by omega) (by omega) (by omega) (by omega) (by omega)) w653 w650 w652 w19 w63 hdX10_isPositiveForm ⟨rfl, rfl⟩ ⟨Nat.le_of_ble_eq_true rfl, Nat.le_of_ble_eq_true rfl⟩ rfl hl.1 (Nat.le_of_ble_eq_true rfl) dX10_keeps_63 ⟨Nat.le_of_ble_eq_true rfl, Nat.le_of_ble_eq_true rfl⟩) hT hS hA [6, 12, 13, 0] [1, 2, 3, 4, 5, 7, 8, 9, 10, 11] rfl rfl rfl (by decide) (by decide) (fun r422 H locs hB J hS => ?_)
          obtain ⟨b_r422, hT1⟩ := hB
          have hT := J _ hT1
          have hT : TP D A [(h14, aJ (k 1) 36 anJ), (h46, aJ (k 1) 40 anJ), (h47, aJ (k 1) 40 anJ), (h48, aJ (k 1) 40 anJ), (h49, aJ (k 1) 40 anJ), (h4, aQ (k 3) 4 (q4 h18 h19 h20 h21)), (h18, ob 5 [.int h18f0, .int h18f1, .ref h46]), (h19, ob 5 [.int h19f0, .int h19f1, .ref h47]), (h20, ob 5 [.int h20f0, .int h20f1, .ref h48]), (h21, ob 5 [.int h21f0, .int h21f1, .ref h49]), (h0, ob 7 [.ref h1, .ref h2, .int h0f2, .ref h3, .ref h4, .ref h5, .int h0f6, .ref h6, .int h0f8, .ref h7, .ref h8, .int h0f11, .ref h9, .ref h10, .ref h11, .ref h12, .ref h13]), (h1, ob 4 [.int h1f0, .int h1f1, .int h1f2, .ref h14]), (h12, aJ (k 1) 9 anJ), (h13, aJ (k 1) 9 anJ)] _ := hT
          refine lv_if_eq (tgt := 80) hx hb dX10_keeps_66 (by decide) (fun c_423 => ?_) (fun c_423 => ?_)
          · skip
            have c_423 := ni_eq c_423 rfl li_0
            refine lv_iconst (v := 0) hx hb dX10_keeps_80 (by decide) ?_
            exact tz_retI (B := B_cX10_keeps_56b43 D k h0 h1 h4 h12 h13 h14 h18 h19 h20 h21 h46 h47 h48 h49 h2 h3 h5 h6 h7 h8 h9 h10 h11 x1 x2 h0f2 h0f6 h0f8 h0f11 h1f0 h1f1 h1f2 h18f0 h18f1 h19f0 h19f1 h20f0 h20f1 h21f0 h21f1) (v := 0) hQ hx hb hr hlocks hS (Nat.le_of_ble_eq_true rfl) (Nat.le_of_ble_eq_true rfl) dX10_keeps_81 (⟨(by have := li_0; omega), (hT.sub [10, 11, 5, 12, 13, 0, 6, 7, 8, 9, 1, 2, 3, 4] (by decide) rfl)⟩)
          · skip
            have c_423 := ni_ne c_423 rfl li_0
            refine lv_aload_n hx hb dX10_keeps_69 rfl (lv_at hl 1 rfl) ?_
            refine tcI (Tc := [(h0, ob 7 [.ref h1, .ref h2, .int h0f2, .ref h3, .ref h4, .ref h5, .int h0f6, .ref h6, .int h0f8, .ref h7, .ref h8, .int h0f11, .ref h9, .ref h10, .ref h11, .ref h12, .ref h13]), (h1, ob 4 [.int h1f0, .int h1f1, .int h1f2, .ref h14]), (h12, aJ (k 1) 9 anJ), (h13, aJ (k 1) 9 anJ), (h14, aJ (k 1) 36 anJ)]) (Tr := [(h46, aJ (k 1) 40 anJ), (h47, aJ (k 1) 40 anJ), (h48, aJ (k 1) 40 anJ), (h49, aJ (k 1) 40 anJ), (h4, aQ (k 3) 4 (q4 h18 h19 h20 h21)), (h18, ob 5 [.int h18f0, .int h18f1, .ref h46]), (h19, ob 5 [.int h19f0, .int h19f1, .ref h47]), (h20, ob 5 [.int h20f0, .int h20f1, .ref h48]), (h21, ob 5 [.int h21f0, .int h21f1, .ref h49])]) (as := [h0, h1, h12, h13, h14]) (zcV (q0 := 10) (ci := 7) (As := []) (rest := []) (Tc := [(h0, ob 7 [.ref h1, .ref h2, .int h0f2, .ref h3, .ref h4, .ref h5, .int h0f6, .ref h6, .int h0f8, .ref h7, .ref h8, .int h0f11, .ref h9, .ref h10, .ref h11, .ref h12, .ref h13]), (h1, ob 4 [.int h1f0, .int h1f1, .int h1f2, .ref h14]), (h12, aJ (k 1) 9 anJ), (h13, aJ (k 1) 9 anJ), (h14, aJ (k 1) 36 anJ)]) hx hb hml hown hU hK hT rfl rfl [10, 11, 12, 13, 0] rfl (by decide) (cX10_noGeneratorChangesForm_03344 l D k _ h0 h1 h12 h13 h14 h2 h3 h4 h5 h6 h7 h8 h9 h10 h11 h0f2 h0f6 h0f8 h0f11 h1f0 h1f1 h1f2 (by omega) (by omega) (by omega) (by omega) (by omega) (by omega)) w657 w654 w656 w20 w63 hdX10_noGeneratorChangesForm ⟨rfl, rfl⟩ ⟨Nat.le_of_ble_eq_true rfl, Nat.le_of_ble_eq_true rfl⟩ rfl hl.1 (Nat.le_of_ble_eq_true rfl) dX10_keeps_70 ⟨Nat.le_of_ble_eq_true rfl, Nat.le_of_ble_eq_true rfl⟩) hT hS hA [10, 11, 12, 13, 0] [1, 2, 3, 4, 5, 6, 7, 8, 9] rfl rfl rfl (by decide) (by decide) (fun r424 H locs hB J hS => ?_)
            obtain ⟨b_r424, hT1⟩ := hB
            have hT := J _ hT1
            have hT : TP D A [(h46, aJ (k 1) 40 anJ), (h47, aJ (k 1) 40 anJ), (h48, aJ (k 1) 40 anJ), (h49, aJ (k 1) 40 anJ), (h4, aQ (k 3) 4 (q4 h18 h19 h20 h21)), (h18, ob 5 [.int h18f0, .int h18f1, .ref h46]), (h19, ob 5 [.int h19f0, .int h19f1, .ref h47]), (h20, ob 5 [.int h20f0, .int h20f1, .ref h48]), (h21, ob 5 [.int h21f0, .int h21f1, .ref h49]), (h0, ob 7 [.ref h1, .ref h2, .int h0f2, .ref h3, .ref h4, .ref h5, .int h0f6, .ref h6, .int h0f8, .ref h7, .ref h8, .int h0f11, .ref h9, .ref h10, .ref h11, .ref h12, .ref h13]), (h1, ob 4 [.int h1f0, .int h1f1, .int h1f2, .ref h14]), (h12, aJ (k 1) 9 anJ), (h13, aJ (k 1) 9 anJ), (h14, aJ (k 1) 36 anJ)] _ := hT
            refine lv_if_eq (tgt := 80) hx hb dX10_keeps_73 (by decide) (fun c_425 => ?_) (fun c_425 => ?_)
            · skip
              have c_425 := ni_eq c_425 rfl li_0
              refine lv_iconst (v := 0) hx hb dX10_keeps_80 (by decide) ?_
              exact tz_retI (B := B_cX10_keeps_56b43 D k h0 h1 h4 h12 h13 h14 h18 h19 h20 h21 h46 h47 h48 h49 h2 h3 h5 h6 h7 h8 h9 h10 h11 x1 x2 h0f2 h0f6 h0f8 h0f11 h1f0 h1f1 h1f2 h18f0 h18f1 h19f0 h19f1 h20f0 h20f1 h21f0 h21f1) (v := 0) hQ hx hb hr hlocks hS (Nat.le_of_ble_eq_true rfl) (Nat.le_of_ble_eq_true rfl) dX10_keeps_81 (⟨(by have := li_0; omega), (hT.sub [9, 10, 4, 11, 12, 13, 5, 6, 7, 8, 0, 1, 2, 3] (by decide) rfl)⟩)
            · skip
              have c_425 := ni_ne c_425 rfl li_0
              refine lv_iconst (v := 1) hx hb dX10_keeps_76 (by decide) ?_
              refine lv_goto (tgt := 81) hx hb dX10_keeps_77 (by decide) ?_
              exact tz_retI (B := B_cX10_keeps_56b43 D k h0 h1 h4 h12 h13 h14 h18 h19 h20 h21 h46 h47 h48 h49 h2 h3 h5 h6 h7 h8 h9 h10 h11 x1 x2 h0f2 h0f6 h0f8 h0f11 h1f0 h1f1 h1f2 h18f0 h18f1 h19f0 h19f1 h20f0 h20f1 h21f0 h21f1) (v := 1) hQ hx hb hr hlocks hS (Nat.le_of_ble_eq_true rfl) (Nat.le_of_ble_eq_true rfl) dX10_keeps_81 (⟨(by have := li_1; omega), (hT.sub [9, 10, 4, 11, 12, 13, 5, 6, 7, 8, 0, 1, 2, 3] (by decide) rfl)⟩)
        · skip
          have c_421 := ni_eq c_421 rfl li_0
          refine lv_bipush (v := (-16)) hx hb dX10_keeps_59 (by decide) ?_
          exact tz_retI (B := B_cX10_keeps_56b43 D k h0 h1 h4 h12 h13 h14 h18 h19 h20 h21 h46 h47 h48 h49 h2 h3 h5 h6 h7 h8 h9 h10 h11 x1 x2 h0f2 h0f6 h0f8 h0f11 h1f0 h1f1 h1f2 h18f0 h18f1 h19f0 h19f1 h20f0 h20f1 h21f0 h21f1) (v := (-16)) hQ hx hb hr hlocks hS (Nat.le_of_ble_eq_true rfl) (Nat.le_of_ble_eq_true rfl) dX10_keeps_61 (⟨(by have := li_m16; omega), (hT.sub [6, 12, 7, 13, 0, 1, 8, 9, 10, 11, 2, 3, 4, 5] (by decide) rfl)⟩)
      · skip
        have hT := J _ hT1
        have hT : TP D A [(h12, aJ (k 1) 9 anJ), (h13, aJ (k 1) 9 anJ), (h14, aJ (k 1) 36 anJ), (h46, aJ (k 1) 40 anJ), (h47, aJ (k 1) 40 anJ), (h48, aJ (k 1) 40 anJ), (h49, aJ (k 1) 40 anJ), (h0, ob 7 [.ref h1, .ref h2, .int h0f2, .ref h3, .ref h4, .ref h5, .int h0f6, .ref h6, .int h0f8, .ref h7, .ref h8, .int h0f11, .ref h9, .ref h10, .ref h11, .ref h12, .ref h13]), (h4, aQ (k 3) 4 (q4 h18 h19 h20 h21)), (h18, ob 5 [.int h18f0, .int h18f1, .ref h46]), (h19, ob 5 [.int h19f0, .int h19f1, .ref h47]), (h20, ob 5 [.int h20f0, .int h20f1, .ref h48]), (h21, ob 5 [.int h21f0, .int h21f1, .ref h49]), (h1, ob 4 [.int h1f0, .int h1f1, .int h1f2, .ref h14])] _ := hT
        exfalso; omega
      · skip
        have hT := J _ hT1
        have hT : TP D A [(h12, aJ (k 1) 9 anJ), (h13, aJ (k 1) 9 anJ), (h14, aJ (k 1) 36 anJ), (h46, aJ (k 1) 40 anJ), (h47, aJ (k 1) 40 anJ), (h48, aJ (k 1) 40 anJ), (h49, aJ (k 1) 40 anJ), (h0, ob 7 [.ref h1, .ref h2, .int h0f2, .ref h3, .ref h4, .ref h5, .int h0f6, .ref h6, .int h0f8, .ref h7, .ref h8, .int h0f11, .ref h9, .ref h10, .ref h11, .ref h12, .ref h13]), (h4, aQ (k 3) 4 (q4 h18 h19 h20 h21)), (h18, ob 5 [.int h18f0, .int h18f1, .ref h46]), (h19, ob 5 [.int h19f0, .int h19f1, .ref h47]), (h20, ob 5 [.int h20f0, .int h20f1, .ref h48]), (h21, ob 5 [.int h21f0, .int h21f1, .ref h49]), (h1, ob 4 [.int h1f0, .int h1f1, .int h1f2, .ref h14])] _ := hT
        exfalso; omega
    · skip
      have hT := J _ hT1
      have hT : TP D A [(h12, aJ (k 1) 9 anJ), (h13, aJ (k 1) 9 anJ), (h14, aJ (k 1) 36 anJ), (h46, aJ (k 1) 40 anJ), (h47, aJ (k 1) 40 anJ), (h48, aJ (k 1) 40 anJ), (h49, aJ (k 1) 40 anJ), (h0, ob 7 [.ref h1, .ref h2, .int h0f2, .ref h3, .ref h4, .ref h5, .int h0f6, .ref h6, .int h0f8, .ref h7, .ref h8, .int h0f11, .ref h9, .ref h10, .ref h11, .ref h12, .ref h13]), (h4, aQ (k 3) 4 (q4 h18 h19 h20 h21)), (h18, ob 5 [.int h18f0, .int h18f1, .ref h46]), (h19, ob 5 [.int h19f0, .int h19f1, .ref h47]), (h20, ob 5 [.int h20f0, .int h20f1, .ref h48]), (h21, ob 5 [.int h21f0, .int h21f1, .ref h49]), (h1, ob 4 [.int h1f0, .int h1f1, .int h1f2, .ref h14])] _ := hT
      exfalso; omega
    · skip
      have hT := J _ hT1
      have hT : TP D A [(h12, aJ (k 1) 9 anJ), (h13, aJ (k 1) 9 anJ), (h14, aJ (k 1) 36 anJ), (h46, aJ (k 1) 40 anJ), (h47, aJ (k 1) 40 anJ), (h48, aJ (k 1) 40 anJ), (h49, aJ (k 1) 40 anJ), (h0, ob 7 [.ref h1, .ref h2, .int h0f2, .ref h3, .ref h4, .ref h5, .int h0f6, .ref h6, .int h0f8, .ref h7, .ref h8, .int h0f11, .ref h9, .ref h10, .ref h11, .ref h12, .ref h13]), (h4, aQ (k 3) 4 (q4 h18 h19 h20 h21)), (h18, ob 5 [.int h18f0, .int h18f1, .ref h46]), (h19, ob 5 [.int h19f0, .int h19f1, .ref h47]), (h20, ob 5 [.int h20f0, .int h20f1, .ref h48]), (h21, ob 5 [.int h21f0, .int h21f1, .ref h49]), (h1, ob 4 [.int h1f0, .int h1f1, .int h1f2, .ref h14])] _ := hT
      exfalso; omega
  · skip
    have hT := J _ hT1
    have hT : TP D A [(h12, aJ (k 1) 9 anJ), (h13, aJ (k 1) 9 anJ), (h14, aJ (k 1) 36 anJ), (h46, aJ (k 1) 40 anJ), (h47, aJ (k 1) 40 anJ), (h48, aJ (k 1) 40 anJ), (h49, aJ (k 1) 40 anJ), (h0, ob 7 [.ref h1, .ref h2, .int h0f2, .ref h3, .ref h4, .ref h5, .int h0f6, .ref h6, .int h0f8, .ref h7, .ref h8, .int h0f11, .ref h9, .ref h10, .ref h11, .ref h12, .ref h13]), (h1, ob 4 [.int h1f0, .int h1f1, .int h1f2, .ref h14]), (h4, aQ (k 3) 4 (q4 h18 h19 h20 h21)), (h18, ob 5 [.int h18f0, .int h18f1, .ref h46]), (h19, ob 5 [.int h19f0, .int h19f1, .ref h47]), (h20, ob 5 [.int h20f0, .int h20f1, .ref h48]), (h21, ob 5 [.int h21f0, .int h21f1, .ref h49])] _ := hT
    refine lv_istore_n (lv' := [(3, .int 0), (0, .ref h0), (1, .int x1), (2, .int x2)]) hx hb dX10_keeps_7 rfl hl (by decide) rfl (fun ls hl => ?_)
    refine lv_iload_n hx hb dX10_keeps_8 rfl (lv_at hl 0 rfl) ?_
    refine lv_if_eq (tgt := 14) hx hb dX10_keeps_9 (by decide) (fun _ => ?_) (fun cc => absurd (by decide +kernel) cc)
    refine lv_aload_n hx hb dX10_keeps_14 rfl (lv_at hl 1 rfl) ?_
    refine tz_get (ci := 7) (v := .ref h4) (C := RX10) (F := TX10) (N := 17) hx hb hU iX10 hown hK hT 7 rfl rfl 4 (by decide) w253 (fun _ h9 => h9) rfl dX10_keeps_15 ?_
    refine lv_iload_n hx hb dX10_keeps_18 rfl (lv_at hl 2 rfl) ?_
    have hq426 : x1.toInt = 3 := by omega
    refine tz_aldq (b := h21) hx hb hK hT 9 rfl (vp_in_iff.mpr (by have := hq426; omega)) (fun f hf => by rw [cl_of hq426]; exact hf.2.2.2) dX10_keeps_19 ?_
    refine tz_get (ci := 5) (v := .ref h49) (C := RX6) (F := TX6) (N := 3) hx hb hU iX6 hown hK hT 13 rfl rfl 2 (by decide) w241 (fun _ h9 => h9) rfl dX10_keeps_20 ?_
    refine lv_iload_n hx hb dX10_keeps_23 rfl (lv_at hl 3 rfl) ?_
    refine lv_aload_n hx hb dX10_keeps_24 rfl (lv_at hl 1 rfl) ?_
    refine tz_get (ci := 7) (v := .ref h12) (C := RX10) (F := TX10) (N := 17) hx hb hU iX10 hown hK hT 7 rfl rfl 15 (by decide) w264 (fun _ h9 => h9) rfl dX10_keeps_25 ?_
    refine lv_iconst (v := 0) hx hb dX10_keeps_28 (by decide) ?_
    refine lv_aload_n hx hb dX10_keeps_29 rfl (lv_at hl 1 rfl) ?_
    refine tz_get (ci := 7) (v := .ref h1) (C := RX10) (F := TX10) (N := 17) hx hb hU iX10 hown hK hT 7 rfl rfl 0 (by decide) w249 (fun _ h9 => h9) rfl dX10_keeps_30 ?_
    refine tcI (Tc := [(h1, ob 4 [.int h1f0, .int h1f1, .int h1f2, .ref h14])]) (Tr := [(h12, aJ (k 1) 9 anJ), (h13, aJ (k 1) 9 anJ), (h14, aJ (k 1) 36 anJ), (h46, aJ (k 1) 40 anJ), (h47, aJ (k 1) 40 anJ), (h48, aJ (k 1) 40 anJ), (h49, aJ (k 1) 40 anJ), (h0, ob 7 [.ref h1, .ref h2, .int h0f2, .ref h3, .ref h4, .ref h5, .int h0f6, .ref h6, .int h0f8, .ref h7, .ref h8, .int h0f11, .ref h9, .ref h10, .ref h11, .ref h12, .ref h13]), (h4, aQ (k 3) 4 (q4 h18 h19 h20 h21)), (h18, ob 5 [.int h18f0, .int h18f1, .ref h46]), (h19, ob 5 [.int h19f0, .int h19f1, .ref h47]), (h20, ob 5 [.int h20f0, .int h20f1, .ref h48]), (h21, ob 5 [.int h21f0, .int h21f1, .ref h49])]) (as := [h1]) (zcV (q0 := 8) (ci := 4) (As := []) (rest := [.int 0, .ref h12, .int x2, .ref h49]) (Tc := [(h1, ob 4 [.int h1f0, .int h1f1, .int h1f2, .ref h14])]) hx hb hml hown hU hK hT rfl rfl [8] rfl (by decide) (cX5_cellCount_f3983 l D k _ h1 h14 h1f0 h1f1 h1f2 (by omega) (by omega)) w385 w382 w383 w384 w64 hdX5_cellCount ⟨rfl, rfl⟩ ⟨Nat.le_of_ble_eq_true rfl, Nat.le_of_ble_eq_true rfl⟩ rfl hl.1 (Nat.le_of_ble_eq_true rfl) dX10_keeps_33 ⟨Nat.le_of_ble_eq_true rfl, Nat.le_of_ble_eq_true rfl⟩) hT hS hA [8] [0, 1, 2, 3, 4, 5, 6, 7, 9, 10, 11, 12, 13] rfl rfl rfl (by decide) (by decide) (fun r427 H locs hB J hS => ?_)
    rcases hB with ⟨v428, b_v428, c_429, c_430, rfl, hT1⟩ | ⟨v431, b_v431, c_432, c_433, rfl, hT1⟩ | ⟨v434, b_v434, c_435, c_436, rfl, hT1⟩
    · skip
      have hT := J _ hT1
      have hT : TP D A [(h12, aJ (k 1) 9 anJ), (h13, aJ (k 1) 9 anJ), (h14, aJ (k 1) 36 anJ), (h46, aJ (k 1) 40 anJ), (h47, aJ (k 1) 40 anJ), (h48, aJ (k 1) 40 anJ), (h49, aJ (k 1) 40 anJ), (h0, ob 7 [.ref h1, .ref h2, .int h0f2, .ref h3, .ref h4, .ref h5, .int h0f6, .ref h6, .int h0f8, .ref h7, .ref h8, .int h0f11, .ref h9, .ref h10, .ref h11, .ref h12, .ref h13]), (h4, aQ (k 3) 4 (q4 h18 h19 h20 h21)), (h18, ob 5 [.int h18f0, .int h18f1, .ref h46]), (h19, ob 5 [.int h19f0, .int h19f1, .ref h47]), (h20, ob 5 [.int h20f0, .int h20f1, .ref h48]), (h21, ob 5 [.int h21f0, .int h21f1, .ref h49]), (h1, ob 4 [.int h1f0, .int h1f1, .int h1f2, .ref h14])] _ := hT
      exfalso; omega
    · skip
      have hT := J _ hT1
      have hT : TP D A [(h12, aJ (k 1) 9 anJ), (h13, aJ (k 1) 9 anJ), (h14, aJ (k 1) 36 anJ), (h46, aJ (k 1) 40 anJ), (h47, aJ (k 1) 40 anJ), (h48, aJ (k 1) 40 anJ), (h49, aJ (k 1) 40 anJ), (h0, ob 7 [.ref h1, .ref h2, .int h0f2, .ref h3, .ref h4, .ref h5, .int h0f6, .ref h6, .int h0f8, .ref h7, .ref h8, .int h0f11, .ref h9, .ref h10, .ref h11, .ref h12, .ref h13]), (h4, aQ (k 3) 4 (q4 h18 h19 h20 h21)), (h18, ob 5 [.int h18f0, .int h18f1, .ref h46]), (h19, ob 5 [.int h19f0, .int h19f1, .ref h47]), (h20, ob 5 [.int h20f0, .int h20f1, .ref h48]), (h21, ob 5 [.int h21f0, .int h21f1, .ref h49]), (h1, ob 4 [.int h1f0, .int h1f1, .int h1f2, .ref h14])] _ := hT
      refine tz_copyl hx hb (by rw [hml]; exact hl.1.symm) hown hU w410 w348 w347 w75 hK hT hS 6 0 rfl rfl (by have := li_0; omega) (fun _ _ _ _ => trivial) (Nat.le_of_ble_eq_true rfl) (Nat.le_of_ble_eq_true rfl) dX10_keeps_36 (fun H locs hT hS => ?_)
      refine lv_aload_n hx hb dX10_keeps_39 rfl (lv_at hl 1 rfl) ?_
      refine tz_get (ci := 7) (v := .ref h12) (C := RX10) (F := TX10) (N := 17) hx hb hU iX10 hown hK hT 7 rfl rfl 15 (by decide) w264 (fun _ h9 => h9) rfl dX10_keeps_40 ?_
      refine lv_aload_n hx hb dX10_keeps_43 rfl (lv_at hl 1 rfl) ?_
      refine tz_get (ci := 7) (v := .ref h1) (C := RX10) (F := TX10) (N := 17) hx hb hU iX10 hown hK hT 7 rfl rfl 0 (by decide) w249 (fun _ h9 => h9) rfl dX10_keeps_44 ?_
      refine tcI (Tc := [(h1, ob 4 [.int h1f0, .int h1f1, .int h1f2, .ref h14])]) (Tr := [(h12, aJ (k 1) 9 anJ), (h13, aJ (k 1) 9 anJ), (h14, aJ (k 1) 36 anJ), (h46, aJ (k 1) 40 anJ), (h47, aJ (k 1) 40 anJ), (h48, aJ (k 1) 40 anJ), (h49, aJ (k 1) 40 anJ), (h0, ob 7 [.ref h1, .ref h2, .int h0f2, .ref h3, .ref h4, .ref h5, .int h0f6, .ref h6, .int h0f8, .ref h7, .ref h8, .int h0f11, .ref h9, .ref h10, .ref h11, .ref h12, .ref h13]), (h4, aQ (k 3) 4 (q4 h18 h19 h20 h21)), (h18, ob 5 [.int h18f0, .int h18f1, .ref h46]), (h19, ob 5 [.int h19f0, .int h19f1, .ref h47]), (h20, ob 5 [.int h20f0, .int h20f1, .ref h48]), (h21, ob 5 [.int h21f0, .int h21f1, .ref h49])]) (as := [h1]) (zcV (q0 := 13) (ci := 4) (As := []) (rest := [.ref h12]) (Tc := [(h1, ob 4 [.int h1f0, .int h1f1, .int h1f2, .ref h14])]) hx hb hml hown hU hK hT rfl rfl [13] rfl (by decide) (cX5_cellCount_f3983 l D k _ h1 h14 h1f0 h1f1 h1f2 (by omega) (by omega)) w385 w382 w383 w384 w64 hdX5_cellCount ⟨rfl, rfl⟩ ⟨Nat.le_of_ble_eq_true rfl, Nat.le_of_ble_eq_true rfl⟩ rfl hl.1 (Nat.le_of_ble_eq_true rfl) dX10_keeps_47 ⟨Nat.le_of_ble_eq_true rfl, Nat.le_of_ble_eq_true rfl⟩) hT hS hA [13] [0, 1, 2, 3, 4, 5, 6, 7, 8, 9, 10, 11, 12] rfl rfl rfl (by decide) (by decide) (fun r437 H locs hB J hS => ?_)
      rcases hB with ⟨v438, b_v438, c_439, c_440, rfl, hT1⟩ | ⟨v441, b_v441, c_442, c_443, rfl, hT1⟩ | ⟨v444, b_v444, c_445, c_446, rfl, hT1⟩
      · skip
        have hT := J _ hT1
        have hT : TP D A [(h12, aJ (k 1) 9 anJ), (h13, aJ (k 1) 9 anJ), (h14, aJ (k 1) 36 anJ), (h46, aJ (k 1) 40 anJ), (h47, aJ (k 1) 40 anJ), (h48, aJ (k 1) 40 anJ), (h49, aJ (k 1) 40 anJ), (h0, ob 7 [.ref h1, .ref h2, .int h0f2, .ref h3, .ref h4, .ref h5, .int h0f6, .ref h6, .int h0f8, .ref h7, .ref h8, .int h0f11, .ref h9, .ref h10, .ref h11, .ref h12, .ref h13]), (h4, aQ (k 3) 4 (q4 h18 h19 h20 h21)), (h18, ob 5 [.int h18f0, .int h18f1, .ref h46]), (h19, ob 5 [.int h19f0, .int h19f1, .ref h47]), (h20, ob 5 [.int h20f0, .int h20f1, .ref h48]), (h21, ob 5 [.int h21f0, .int h21f1, .ref h49]), (h1, ob 4 [.int h1f0, .int h1f1, .int h1f2, .ref h14])] _ := hT
        exfalso; omega
      · skip
        have hT := J _ hT1
        have hT : TP D A [(h12, aJ (k 1) 9 anJ), (h13, aJ (k 1) 9 anJ), (h14, aJ (k 1) 36 anJ), (h46, aJ (k 1) 40 anJ), (h47, aJ (k 1) 40 anJ), (h48, aJ (k 1) 40 anJ), (h49, aJ (k 1) 40 anJ), (h0, ob 7 [.ref h1, .ref h2, .int h0f2, .ref h3, .ref h4, .ref h5, .int h0f6, .ref h6, .int h0f8, .ref h7, .ref h8, .int h0f11, .ref h9, .ref h10, .ref h11, .ref h12, .ref h13]), (h4, aQ (k 3) 4 (q4 h18 h19 h20 h21)), (h18, ob 5 [.int h18f0, .int h18f1, .ref h46]), (h19, ob 5 [.int h19f0, .int h19f1, .ref h47]), (h20, ob 5 [.int h20f0, .int h20f1, .ref h48]), (h21, ob 5 [.int h21f0, .int h21f1, .ref h49]), (h1, ob 4 [.int h1f0, .int h1f1, .int h1f2, .ref h14])] _ := hT
        refine lv_ldc2 hx hb hown (hU _ w649) dX10_keeps_50 ?_
        have q_q448 := ll_1000000
        refine tcI (Tc := [(h12, aJ (k 1) 9 anJ)]) (Tr := [(h13, aJ (k 1) 9 anJ), (h14, aJ (k 1) 36 anJ), (h46, aJ (k 1) 40 anJ), (h47, aJ (k 1) 40 anJ), (h48, aJ (k 1) 40 anJ), (h49, aJ (k 1) 40 anJ), (h0, ob 7 [.ref h1, .ref h2, .int h0f2, .ref h3, .ref h4, .ref h5, .int h0f6, .ref h6, .int h0f8, .ref h7, .ref h8, .int h0f11, .ref h9, .ref h10, .ref h11, .ref h12, .ref h13]), (h4, aQ (k 3) 4 (q4 h18 h19 h20 h21)), (h18, ob 5 [.int h18f0, .int h18f1, .ref h46]), (h19, ob 5 [.int h19f0, .int h19f1, .ref h47]), (h20, ob 5 [.int h20f0, .int h20f1, .ref h48]), (h21, ob 5 [.int h21f0, .int h21f1, .ref h49]), (h1, ob 4 [.int h1f0, .int h1f1, .int h1f2, .ref h14])]) (as := [h12]) (zcS (As := [.ref h12, .int v441, .long 1000000]) (rest := []) (Tc := [(h12, aJ (k 1) 9 anJ)]) hx hb hml hown hU hK hT [0] rfl (by decide) (cX7_isWithin_443ab l D k _ h12 v441 (1000000) (by omega) (by have := ll_1000000; omega)) w389 w387 w388 w74 hdX7_isWithin ⟨rfl, rfl⟩ ⟨Nat.le_of_ble_eq_true rfl, Nat.le_of_ble_eq_true rfl⟩ rfl hl.1 (Nat.le_of_ble_eq_true rfl) dX10_keeps_53 ⟨Nat.le_of_ble_eq_true rfl, Nat.le_of_ble_eq_true rfl⟩) hT hS hA [0] [1, 2, 3, 4, 5, 6, 7, 8, 9, 10, 11, 12, 13] rfl rfl rfl (by decide) (by decide) (fun r447 H locs hB J hS => ?_)
        obtain ⟨b_r447, hT1⟩ := hB
        have hT := J _ hT1
        have hT : TP D A [(h13, aJ (k 1) 9 anJ), (h14, aJ (k 1) 36 anJ), (h46, aJ (k 1) 40 anJ), (h47, aJ (k 1) 40 anJ), (h48, aJ (k 1) 40 anJ), (h49, aJ (k 1) 40 anJ), (h0, ob 7 [.ref h1, .ref h2, .int h0f2, .ref h3, .ref h4, .ref h5, .int h0f6, .ref h6, .int h0f8, .ref h7, .ref h8, .int h0f11, .ref h9, .ref h10, .ref h11, .ref h12, .ref h13]), (h4, aQ (k 3) 4 (q4 h18 h19 h20 h21)), (h18, ob 5 [.int h18f0, .int h18f1, .ref h46]), (h19, ob 5 [.int h19f0, .int h19f1, .ref h47]), (h20, ob 5 [.int h20f0, .int h20f1, .ref h48]), (h21, ob 5 [.int h21f0, .int h21f1, .ref h49]), (h1, ob 4 [.int h1f0, .int h1f1, .int h1f2, .ref h14]), (h12, aJ (k 1) 9 anJ)] _ := hT
        refine lv_if_ne (tgt := 62) hx hb dX10_keeps_56 (by decide) (fun c_449 => ?_) (fun c_449 => ?_)
        · skip
          have c_449 := ni_ne c_449 rfl li_0
          refine lv_aload_n hx hb dX10_keeps_62 rfl (lv_at hl 1 rfl) ?_
          refine tcI (Tc := [(h0, ob 7 [.ref h1, .ref h2, .int h0f2, .ref h3, .ref h4, .ref h5, .int h0f6, .ref h6, .int h0f8, .ref h7, .ref h8, .int h0f11, .ref h9, .ref h10, .ref h11, .ref h12, .ref h13]), (h1, ob 4 [.int h1f0, .int h1f1, .int h1f2, .ref h14]), (h12, aJ (k 1) 9 anJ), (h13, aJ (k 1) 9 anJ)]) (Tr := [(h14, aJ (k 1) 36 anJ), (h46, aJ (k 1) 40 anJ), (h47, aJ (k 1) 40 anJ), (h48, aJ (k 1) 40 anJ), (h49, aJ (k 1) 40 anJ), (h4, aQ (k 3) 4 (q4 h18 h19 h20 h21)), (h18, ob 5 [.int h18f0, .int h18f1, .ref h46]), (h19, ob 5 [.int h19f0, .int h19f1, .ref h47]), (h20, ob 5 [.int h20f0, .int h20f1, .ref h48]), (h21, ob 5 [.int h21f0, .int h21f1, .ref h49])]) (as := [h0, h1, h12, h13]) (zcV (q0 := 6) (ci := 7) (As := []) (rest := []) (Tc := [(h0, ob 7 [.ref h1, .ref h2, .int h0f2, .ref h3, .ref h4, .ref h5, .int h0f6, .ref h6, .int h0f8, .ref h7, .ref h8, .int h0f11, .ref h9, .ref h10, .ref h11, .ref h12, .ref h13]), (h1, ob 4 [.int h1f0, .int h1f1, .int h1f2, .ref h14]), (h12, aJ (k 1) 9 anJ), (h13, aJ (k 1) 9 anJ)]) hx hb hml hown hU hK hT rfl rfl [6, 12, 13, 0] rfl (by decide) (cX10_isPositiveForm_ec5e0 l D k _ h0 h1 h12 h13 h2 h3 h4 h5 h6 h7 h8 h9 h10 h11 h14 h0f2 h0f6 h0f8 h0f11 h1f0 h1f1 h1f2 (by omega) (by omega) (by omega) (by omega) (by omega) (by omega)) w653 w650 w652 w19 w63 hdX10_isPositiveForm ⟨rfl, rfl⟩ ⟨Nat.le_of_ble_eq_true rfl, Nat.le_of_ble_eq_true rfl⟩ rfl hl.1 (Nat.le_of_ble_eq_true rfl) dX10_keeps_63 ⟨Nat.le_of_ble_eq_true rfl, Nat.le_of_ble_eq_true rfl⟩) hT hS hA [6, 12, 13, 0] [1, 2, 3, 4, 5, 7, 8, 9, 10, 11] rfl rfl rfl (by decide) (by decide) (fun r450 H locs hB J hS => ?_)
          obtain ⟨b_r450, hT1⟩ := hB
          have hT := J _ hT1
          have hT : TP D A [(h14, aJ (k 1) 36 anJ), (h46, aJ (k 1) 40 anJ), (h47, aJ (k 1) 40 anJ), (h48, aJ (k 1) 40 anJ), (h49, aJ (k 1) 40 anJ), (h4, aQ (k 3) 4 (q4 h18 h19 h20 h21)), (h18, ob 5 [.int h18f0, .int h18f1, .ref h46]), (h19, ob 5 [.int h19f0, .int h19f1, .ref h47]), (h20, ob 5 [.int h20f0, .int h20f1, .ref h48]), (h21, ob 5 [.int h21f0, .int h21f1, .ref h49]), (h0, ob 7 [.ref h1, .ref h2, .int h0f2, .ref h3, .ref h4, .ref h5, .int h0f6, .ref h6, .int h0f8, .ref h7, .ref h8, .int h0f11, .ref h9, .ref h10, .ref h11, .ref h12, .ref h13]), (h1, ob 4 [.int h1f0, .int h1f1, .int h1f2, .ref h14]), (h12, aJ (k 1) 9 anJ), (h13, aJ (k 1) 9 anJ)] _ := hT
          refine lv_if_eq (tgt := 80) hx hb dX10_keeps_66 (by decide) (fun c_451 => ?_) (fun c_451 => ?_)
          · skip
            have c_451 := ni_eq c_451 rfl li_0
            refine lv_iconst (v := 0) hx hb dX10_keeps_80 (by decide) ?_
            exact tz_retI (B := B_cX10_keeps_56b43 D k h0 h1 h4 h12 h13 h14 h18 h19 h20 h21 h46 h47 h48 h49 h2 h3 h5 h6 h7 h8 h9 h10 h11 x1 x2 h0f2 h0f6 h0f8 h0f11 h1f0 h1f1 h1f2 h18f0 h18f1 h19f0 h19f1 h20f0 h20f1 h21f0 h21f1) (v := 0) hQ hx hb hr hlocks hS (Nat.le_of_ble_eq_true rfl) (Nat.le_of_ble_eq_true rfl) dX10_keeps_81 (⟨(by have := li_0; omega), (hT.sub [10, 11, 5, 12, 13, 0, 6, 7, 8, 9, 1, 2, 3, 4] (by decide) rfl)⟩)
          · skip
            have c_451 := ni_ne c_451 rfl li_0
            refine lv_aload_n hx hb dX10_keeps_69 rfl (lv_at hl 1 rfl) ?_
            refine tcI (Tc := [(h0, ob 7 [.ref h1, .ref h2, .int h0f2, .ref h3, .ref h4, .ref h5, .int h0f6, .ref h6, .int h0f8, .ref h7, .ref h8, .int h0f11, .ref h9, .ref h10, .ref h11, .ref h12, .ref h13]), (h1, ob 4 [.int h1f0, .int h1f1, .int h1f2, .ref h14]), (h12, aJ (k 1) 9 anJ), (h13, aJ (k 1) 9 anJ), (h14, aJ (k 1) 36 anJ)]) (Tr := [(h46, aJ (k 1) 40 anJ), (h47, aJ (k 1) 40 anJ), (h48, aJ (k 1) 40 anJ), (h49, aJ (k 1) 40 anJ), (h4, aQ (k 3) 4 (q4 h18 h19 h20 h21)), (h18, ob 5 [.int h18f0, .int h18f1, .ref h46]), (h19, ob 5 [.int h19f0, .int h19f1, .ref h47]), (h20, ob 5 [.int h20f0, .int h20f1, .ref h48]), (h21, ob 5 [.int h21f0, .int h21f1, .ref h49])]) (as := [h0, h1, h12, h13, h14]) (zcV (q0 := 10) (ci := 7) (As := []) (rest := []) (Tc := [(h0, ob 7 [.ref h1, .ref h2, .int h0f2, .ref h3, .ref h4, .ref h5, .int h0f6, .ref h6, .int h0f8, .ref h7, .ref h8, .int h0f11, .ref h9, .ref h10, .ref h11, .ref h12, .ref h13]), (h1, ob 4 [.int h1f0, .int h1f1, .int h1f2, .ref h14]), (h12, aJ (k 1) 9 anJ), (h13, aJ (k 1) 9 anJ), (h14, aJ (k 1) 36 anJ)]) hx hb hml hown hU hK hT rfl rfl [10, 11, 12, 13, 0] rfl (by decide) (cX10_noGeneratorChangesForm_03344 l D k _ h0 h1 h12 h13 h14 h2 h3 h4 h5 h6 h7 h8 h9 h10 h11 h0f2 h0f6 h0f8 h0f11 h1f0 h1f1 h1f2 (by omega) (by omega) (by omega) (by omega) (by omega) (by omega)) w657 w654 w656 w20 w63 hdX10_noGeneratorChangesForm ⟨rfl, rfl⟩ ⟨Nat.le_of_ble_eq_true rfl, Nat.le_of_ble_eq_true rfl⟩ rfl hl.1 (Nat.le_of_ble_eq_true rfl) dX10_keeps_70 ⟨Nat.le_of_ble_eq_true rfl, Nat.le_of_ble_eq_true rfl⟩) hT hS hA [10, 11, 12, 13, 0] [1, 2, 3, 4, 5, 6, 7, 8, 9] rfl rfl rfl (by decide) (by decide) (fun r452 H locs hB J hS => ?_)
            obtain ⟨b_r452, hT1⟩ := hB
            have hT := J _ hT1
            have hT : TP D A [(h46, aJ (k 1) 40 anJ), (h47, aJ (k 1) 40 anJ), (h48, aJ (k 1) 40 anJ), (h49, aJ (k 1) 40 anJ), (h4, aQ (k 3) 4 (q4 h18 h19 h20 h21)), (h18, ob 5 [.int h18f0, .int h18f1, .ref h46]), (h19, ob 5 [.int h19f0, .int h19f1, .ref h47]), (h20, ob 5 [.int h20f0, .int h20f1, .ref h48]), (h21, ob 5 [.int h21f0, .int h21f1, .ref h49]), (h0, ob 7 [.ref h1, .ref h2, .int h0f2, .ref h3, .ref h4, .ref h5, .int h0f6, .ref h6, .int h0f8, .ref h7, .ref h8, .int h0f11, .ref h9, .ref h10, .ref h11, .ref h12, .ref h13]), (h1, ob 4 [.int h1f0, .int h1f1, .int h1f2, .ref h14]), (h12, aJ (k 1) 9 anJ), (h13, aJ (k 1) 9 anJ), (h14, aJ (k 1) 36 anJ)] _ := hT
            refine lv_if_eq (tgt := 80) hx hb dX10_keeps_73 (by decide) (fun c_453 => ?_) (fun c_453 => ?_)
            · skip
              have c_453 := ni_eq c_453 rfl li_0
              refine lv_iconst (v := 0) hx hb dX10_keeps_80 (by decide) ?_
              exact tz_retI (B := B_cX10_keeps_56b43 D k h0 h1 h4 h12 h13 h14 h18 h19 h20 h21 h46 h47 h48 h49 h2 h3 h5 h6 h7 h8 h9 h10 h11 x1 x2 h0f2 h0f6 h0f8 h0f11 h1f0 h1f1 h1f2 h18f0 h18f1 h19f0 h19f1 h20f0 h20f1 h21f0 h21f1) (v := 0) hQ hx hb hr hlocks hS (Nat.le_of_ble_eq_true rfl) (Nat.le_of_ble_eq_true rfl) dX10_keeps_81 (⟨(by have := li_0; omega), (hT.sub [9, 10, 4, 11, 12, 13, 5, 6, 7, 8, 0, 1, 2, 3] (by decide) rfl)⟩)
            · skip
              have c_453 := ni_ne c_453 rfl li_0
              refine lv_iconst (v := 1) hx hb dX10_keeps_76 (by decide) ?_
              refine lv_goto (tgt := 81) hx hb dX10_keeps_77 (by decide) ?_
              exact tz_retI (B := B_cX10_keeps_56b43 D k h0 h1 h4 h12 h13 h14 h18 h19 h20 h21 h46 h47 h48 h49 h2 h3 h5 h6 h7 h8 h9 h10 h11 x1 x2 h0f2 h0f6 h0f8 h0f11 h1f0 h1f1 h1f2 h18f0 h18f1 h19f0 h19f1 h20f0 h20f1 h21f0 h21f1) (v := 1) hQ hx hb hr hlocks hS (Nat.le_of_ble_eq_true rfl) (Nat.le_of_ble_eq_true rfl) dX10_keeps_81 (⟨(by have := li_1; omega), (hT.sub [9, 10, 4, 11, 12, 13, 5, 6, 7, 8, 0, 1, 2, 3] (by decide) rfl)⟩)
        · skip
          have c_449 := ni_eq c_449 rfl li_0
          refine lv_bipush (v := (-16)) hx hb dX10_keeps_59 (by decide) ?_
          exact tz_retI (B := B_cX10_keeps_56b43 D k h0 h1 h4 h12 h13 h14 h18 h19 h20 h21 h46 h47 h48 h49 h2 h3 h5 h6 h7 h8 h9 h10 h11 x1 x2 h0f2 h0f6 h0f8 h0f11 h1f0 h1f1 h1f2 h18f0 h18f1 h19f0 h19f1 h20f0 h20f1 h21f0 h21f1) (v := (-16)) hQ hx hb hr hlocks hS (Nat.le_of_ble_eq_true rfl) (Nat.le_of_ble_eq_true rfl) dX10_keeps_61 (⟨(by have := li_m16; omega), (hT.sub [6, 12, 7, 13, 0, 1, 8, 9, 10, 11, 2, 3, 4, 5] (by decide) rfl)⟩)
      · skip
        have hT := J _ hT1
        have hT : TP D A [(h12, aJ (k 1) 9 anJ), (h13, aJ (k 1) 9 anJ), (h14, aJ (k 1) 36 anJ), (h46, aJ (k 1) 40 anJ), (h47, aJ (k 1) 40 anJ), (h48, aJ (k 1) 40 anJ), (h49, aJ (k 1) 40 anJ), (h0, ob 7 [.ref h1, .ref h2, .int h0f2, .ref h3, .ref h4, .ref h5, .int h0f6, .ref h6, .int h0f8, .ref h7, .ref h8, .int h0f11, .ref h9, .ref h10, .ref h11, .ref h12, .ref h13]), (h4, aQ (k 3) 4 (q4 h18 h19 h20 h21)), (h18, ob 5 [.int h18f0, .int h18f1, .ref h46]), (h19, ob 5 [.int h19f0, .int h19f1, .ref h47]), (h20, ob 5 [.int h20f0, .int h20f1, .ref h48]), (h21, ob 5 [.int h21f0, .int h21f1, .ref h49]), (h1, ob 4 [.int h1f0, .int h1f1, .int h1f2, .ref h14])] _ := hT
        exfalso; omega
    · skip
      have hT := J _ hT1
      have hT : TP D A [(h12, aJ (k 1) 9 anJ), (h13, aJ (k 1) 9 anJ), (h14, aJ (k 1) 36 anJ), (h46, aJ (k 1) 40 anJ), (h47, aJ (k 1) 40 anJ), (h48, aJ (k 1) 40 anJ), (h49, aJ (k 1) 40 anJ), (h0, ob 7 [.ref h1, .ref h2, .int h0f2, .ref h3, .ref h4, .ref h5, .int h0f6, .ref h6, .int h0f8, .ref h7, .ref h8, .int h0f11, .ref h9, .ref h10, .ref h11, .ref h12, .ref h13]), (h4, aQ (k 3) 4 (q4 h18 h19 h20 h21)), (h18, ob 5 [.int h18f0, .int h18f1, .ref h46]), (h19, ob 5 [.int h19f0, .int h19f1, .ref h47]), (h20, ob 5 [.int h20f0, .int h20f1, .ref h48]), (h21, ob 5 [.int h21f0, .int h21f1, .ref h49]), (h1, ob 4 [.int h1f0, .int h1f1, .int h1f2, .ref h14])] _ := hT
      exfalso; omega
  · skip
    have hT := J _ hT1
    have hT : TP D A [(h12, aJ (k 1) 9 anJ), (h13, aJ (k 1) 9 anJ), (h14, aJ (k 1) 36 anJ), (h46, aJ (k 1) 40 anJ), (h47, aJ (k 1) 40 anJ), (h48, aJ (k 1) 40 anJ), (h49, aJ (k 1) 40 anJ), (h0, ob 7 [.ref h1, .ref h2, .int h0f2, .ref h3, .ref h4, .ref h5, .int h0f6, .ref h6, .int h0f8, .ref h7, .ref h8, .int h0f11, .ref h9, .ref h10, .ref h11, .ref h12, .ref h13]), (h1, ob 4 [.int h1f0, .int h1f1, .int h1f2, .ref h14]), (h4, aQ (k 3) 4 (q4 h18 h19 h20 h21)), (h18, ob 5 [.int h18f0, .int h18f1, .ref h46]), (h19, ob 5 [.int h19f0, .int h19f1, .ref h47]), (h20, ob 5 [.int h20f0, .int h20f1, .ref h48]), (h21, ob 5 [.int h21f0, .int h21f1, .ref h49])] _ := hT
    refine lv_istore_n (lv' := [(3, .int 0), (0, .ref h0), (1, .int x1), (2, .int x2)]) hx hb dX10_keeps_7 rfl hl (by decide) rfl (fun ls hl => ?_)
    refine lv_iload_n hx hb dX10_keeps_8 rfl (lv_at hl 0 rfl) ?_
    refine lv_if_eq (tgt := 14) hx hb dX10_keeps_9 (by decide) (fun _ => ?_) (fun cc => absurd (by decide +kernel) cc)
    refine lv_aload_n hx hb dX10_keeps_14 rfl (lv_at hl 1 rfl) ?_
    refine tz_get (ci := 7) (v := .ref h4) (C := RX10) (F := TX10) (N := 17) hx hb hU iX10 hown hK hT 7 rfl rfl 4 (by decide) w253 (fun _ h9 => h9) rfl dX10_keeps_15 ?_
    refine lv_iload_n hx hb dX10_keeps_18 rfl (lv_at hl 2 rfl) ?_
    have hq454 : x1.toInt = 3 := by omega
    refine tz_aldq (b := h21) hx hb hK hT 9 rfl (vp_in_iff.mpr (by have := hq454; omega)) (fun f hf => by rw [cl_of hq454]; exact hf.2.2.2) dX10_keeps_19 ?_
    refine tz_get (ci := 5) (v := .ref h49) (C := RX6) (F := TX6) (N := 3) hx hb hU iX6 hown hK hT 13 rfl rfl 2 (by decide) w241 (fun _ h9 => h9) rfl dX10_keeps_20 ?_
    refine lv_iload_n hx hb dX10_keeps_23 rfl (lv_at hl 3 rfl) ?_
    refine lv_aload_n hx hb dX10_keeps_24 rfl (lv_at hl 1 rfl) ?_
    refine tz_get (ci := 7) (v := .ref h12) (C := RX10) (F := TX10) (N := 17) hx hb hU iX10 hown hK hT 7 rfl rfl 15 (by decide) w264 (fun _ h9 => h9) rfl dX10_keeps_25 ?_
    refine lv_iconst (v := 0) hx hb dX10_keeps_28 (by decide) ?_
    refine lv_aload_n hx hb dX10_keeps_29 rfl (lv_at hl 1 rfl) ?_
    refine tz_get (ci := 7) (v := .ref h1) (C := RX10) (F := TX10) (N := 17) hx hb hU iX10 hown hK hT 7 rfl rfl 0 (by decide) w249 (fun _ h9 => h9) rfl dX10_keeps_30 ?_
    refine tcI (Tc := [(h1, ob 4 [.int h1f0, .int h1f1, .int h1f2, .ref h14])]) (Tr := [(h12, aJ (k 1) 9 anJ), (h13, aJ (k 1) 9 anJ), (h14, aJ (k 1) 36 anJ), (h46, aJ (k 1) 40 anJ), (h47, aJ (k 1) 40 anJ), (h48, aJ (k 1) 40 anJ), (h49, aJ (k 1) 40 anJ), (h0, ob 7 [.ref h1, .ref h2, .int h0f2, .ref h3, .ref h4, .ref h5, .int h0f6, .ref h6, .int h0f8, .ref h7, .ref h8, .int h0f11, .ref h9, .ref h10, .ref h11, .ref h12, .ref h13]), (h4, aQ (k 3) 4 (q4 h18 h19 h20 h21)), (h18, ob 5 [.int h18f0, .int h18f1, .ref h46]), (h19, ob 5 [.int h19f0, .int h19f1, .ref h47]), (h20, ob 5 [.int h20f0, .int h20f1, .ref h48]), (h21, ob 5 [.int h21f0, .int h21f1, .ref h49])]) (as := [h1]) (zcV (q0 := 8) (ci := 4) (As := []) (rest := [.int 0, .ref h12, .int x2, .ref h49]) (Tc := [(h1, ob 4 [.int h1f0, .int h1f1, .int h1f2, .ref h14])]) hx hb hml hown hU hK hT rfl rfl [8] rfl (by decide) (cX5_cellCount_f3983 l D k _ h1 h14 h1f0 h1f1 h1f2 (by omega) (by omega)) w385 w382 w383 w384 w64 hdX5_cellCount ⟨rfl, rfl⟩ ⟨Nat.le_of_ble_eq_true rfl, Nat.le_of_ble_eq_true rfl⟩ rfl hl.1 (Nat.le_of_ble_eq_true rfl) dX10_keeps_33 ⟨Nat.le_of_ble_eq_true rfl, Nat.le_of_ble_eq_true rfl⟩) hT hS hA [8] [0, 1, 2, 3, 4, 5, 6, 7, 9, 10, 11, 12, 13] rfl rfl rfl (by decide) (by decide) (fun r455 H locs hB J hS => ?_)
    rcases hB with ⟨v456, b_v456, c_457, c_458, rfl, hT1⟩ | ⟨v459, b_v459, c_460, c_461, rfl, hT1⟩ | ⟨v462, b_v462, c_463, c_464, rfl, hT1⟩
    · skip
      have hT := J _ hT1
      have hT : TP D A [(h12, aJ (k 1) 9 anJ), (h13, aJ (k 1) 9 anJ), (h14, aJ (k 1) 36 anJ), (h46, aJ (k 1) 40 anJ), (h47, aJ (k 1) 40 anJ), (h48, aJ (k 1) 40 anJ), (h49, aJ (k 1) 40 anJ), (h0, ob 7 [.ref h1, .ref h2, .int h0f2, .ref h3, .ref h4, .ref h5, .int h0f6, .ref h6, .int h0f8, .ref h7, .ref h8, .int h0f11, .ref h9, .ref h10, .ref h11, .ref h12, .ref h13]), (h4, aQ (k 3) 4 (q4 h18 h19 h20 h21)), (h18, ob 5 [.int h18f0, .int h18f1, .ref h46]), (h19, ob 5 [.int h19f0, .int h19f1, .ref h47]), (h20, ob 5 [.int h20f0, .int h20f1, .ref h48]), (h21, ob 5 [.int h21f0, .int h21f1, .ref h49]), (h1, ob 4 [.int h1f0, .int h1f1, .int h1f2, .ref h14])] _ := hT
      exfalso; omega
    · skip
      have hT := J _ hT1
      have hT : TP D A [(h12, aJ (k 1) 9 anJ), (h13, aJ (k 1) 9 anJ), (h14, aJ (k 1) 36 anJ), (h46, aJ (k 1) 40 anJ), (h47, aJ (k 1) 40 anJ), (h48, aJ (k 1) 40 anJ), (h49, aJ (k 1) 40 anJ), (h0, ob 7 [.ref h1, .ref h2, .int h0f2, .ref h3, .ref h4, .ref h5, .int h0f6, .ref h6, .int h0f8, .ref h7, .ref h8, .int h0f11, .ref h9, .ref h10, .ref h11, .ref h12, .ref h13]), (h4, aQ (k 3) 4 (q4 h18 h19 h20 h21)), (h18, ob 5 [.int h18f0, .int h18f1, .ref h46]), (h19, ob 5 [.int h19f0, .int h19f1, .ref h47]), (h20, ob 5 [.int h20f0, .int h20f1, .ref h48]), (h21, ob 5 [.int h21f0, .int h21f1, .ref h49]), (h1, ob 4 [.int h1f0, .int h1f1, .int h1f2, .ref h14])] _ := hT
      exfalso; omega
    · skip
      have hT := J _ hT1
      have hT : TP D A [(h12, aJ (k 1) 9 anJ), (h13, aJ (k 1) 9 anJ), (h14, aJ (k 1) 36 anJ), (h46, aJ (k 1) 40 anJ), (h47, aJ (k 1) 40 anJ), (h48, aJ (k 1) 40 anJ), (h49, aJ (k 1) 40 anJ), (h0, ob 7 [.ref h1, .ref h2, .int h0f2, .ref h3, .ref h4, .ref h5, .int h0f6, .ref h6, .int h0f8, .ref h7, .ref h8, .int h0f11, .ref h9, .ref h10, .ref h11, .ref h12, .ref h13]), (h4, aQ (k 3) 4 (q4 h18 h19 h20 h21)), (h18, ob 5 [.int h18f0, .int h18f1, .ref h46]), (h19, ob 5 [.int h19f0, .int h19f1, .ref h47]), (h20, ob 5 [.int h20f0, .int h20f1, .ref h48]), (h21, ob 5 [.int h21f0, .int h21f1, .ref h49]), (h1, ob 4 [.int h1f0, .int h1f1, .int h1f2, .ref h14])] _ := hT
      refine tz_copyl hx hb (by rw [hml]; exact hl.1.symm) hown hU w410 w348 w347 w75 hK hT hS 6 0 rfl rfl (by have := li_0; omega) (fun _ _ _ _ => trivial) (Nat.le_of_ble_eq_true rfl) (Nat.le_of_ble_eq_true rfl) dX10_keeps_36 (fun H locs hT hS => ?_)
      refine lv_aload_n hx hb dX10_keeps_39 rfl (lv_at hl 1 rfl) ?_
      refine tz_get (ci := 7) (v := .ref h12) (C := RX10) (F := TX10) (N := 17) hx hb hU iX10 hown hK hT 7 rfl rfl 15 (by decide) w264 (fun _ h9 => h9) rfl dX10_keeps_40 ?_
      refine lv_aload_n hx hb dX10_keeps_43 rfl (lv_at hl 1 rfl) ?_
      refine tz_get (ci := 7) (v := .ref h1) (C := RX10) (F := TX10) (N := 17) hx hb hU iX10 hown hK hT 7 rfl rfl 0 (by decide) w249 (fun _ h9 => h9) rfl dX10_keeps_44 ?_
      refine tcI (Tc := [(h1, ob 4 [.int h1f0, .int h1f1, .int h1f2, .ref h14])]) (Tr := [(h12, aJ (k 1) 9 anJ), (h13, aJ (k 1) 9 anJ), (h14, aJ (k 1) 36 anJ), (h46, aJ (k 1) 40 anJ), (h47, aJ (k 1) 40 anJ), (h48, aJ (k 1) 40 anJ), (h49, aJ (k 1) 40 anJ), (h0, ob 7 [.ref h1, .ref h2, .int h0f2, .ref h3, .ref h4, .ref h5, .int h0f6, .ref h6, .int h0f8, .ref h7, .ref h8, .int h0f11, .ref h9, .ref h10, .ref h11, .ref h12, .ref h13]), (h4, aQ (k 3) 4 (q4 h18 h19 h20 h21)), (h18, ob 5 [.int h18f0, .int h18f1, .ref h46]), (h19, ob 5 [.int h19f0, .int h19f1, .ref h47]), (h20, ob 5 [.int h20f0, .int h20f1, .ref h48]), (h21, ob 5 [.int h21f0, .int h21f1, .ref h49])]) (as := [h1]) (zcV (q0 := 13) (ci := 4) (As := []) (rest := [.ref h12]) (Tc := [(h1, ob 4 [.int h1f0, .int h1f1, .int h1f2, .ref h14])]) hx hb hml hown hU hK hT rfl rfl [13] rfl (by decide) (cX5_cellCount_f3983 l D k _ h1 h14 h1f0 h1f1 h1f2 (by omega) (by omega)) w385 w382 w383 w384 w64 hdX5_cellCount ⟨rfl, rfl⟩ ⟨Nat.le_of_ble_eq_true rfl, Nat.le_of_ble_eq_true rfl⟩ rfl hl.1 (Nat.le_of_ble_eq_true rfl) dX10_keeps_47 ⟨Nat.le_of_ble_eq_true rfl, Nat.le_of_ble_eq_true rfl⟩) hT hS hA [13] [0, 1, 2, 3, 4, 5, 6, 7, 8, 9, 10, 11, 12] rfl rfl rfl (by decide) (by decide) (fun r465 H locs hB J hS => ?_)
      rcases hB with ⟨v466, b_v466, c_467, c_468, rfl, hT1⟩ | ⟨v469, b_v469, c_470, c_471, rfl, hT1⟩ | ⟨v472, b_v472, c_473, c_474, rfl, hT1⟩
      · skip
        have hT := J _ hT1
        have hT : TP D A [(h12, aJ (k 1) 9 anJ), (h13, aJ (k 1) 9 anJ), (h14, aJ (k 1) 36 anJ), (h46, aJ (k 1) 40 anJ), (h47, aJ (k 1) 40 anJ), (h48, aJ (k 1) 40 anJ), (h49, aJ (k 1) 40 anJ), (h0, ob 7 [.ref h1, .ref h2, .int h0f2, .ref h3, .ref h4, .ref h5, .int h0f6, .ref h6, .int h0f8, .ref h7, .ref h8, .int h0f11, .ref h9, .ref h10, .ref h11, .ref h12, .ref h13]), (h4, aQ (k 3) 4 (q4 h18 h19 h20 h21)), (h18, ob 5 [.int h18f0, .int h18f1, .ref h46]), (h19, ob 5 [.int h19f0, .int h19f1, .ref h47]), (h20, ob 5 [.int h20f0, .int h20f1, .ref h48]), (h21, ob 5 [.int h21f0, .int h21f1, .ref h49]), (h1, ob 4 [.int h1f0, .int h1f1, .int h1f2, .ref h14])] _ := hT
        exfalso; omega
      · skip
        have hT := J _ hT1
        have hT : TP D A [(h12, aJ (k 1) 9 anJ), (h13, aJ (k 1) 9 anJ), (h14, aJ (k 1) 36 anJ), (h46, aJ (k 1) 40 anJ), (h47, aJ (k 1) 40 anJ), (h48, aJ (k 1) 40 anJ), (h49, aJ (k 1) 40 anJ), (h0, ob 7 [.ref h1, .ref h2, .int h0f2, .ref h3, .ref h4, .ref h5, .int h0f6, .ref h6, .int h0f8, .ref h7, .ref h8, .int h0f11, .ref h9, .ref h10, .ref h11, .ref h12, .ref h13]), (h4, aQ (k 3) 4 (q4 h18 h19 h20 h21)), (h18, ob 5 [.int h18f0, .int h18f1, .ref h46]), (h19, ob 5 [.int h19f0, .int h19f1, .ref h47]), (h20, ob 5 [.int h20f0, .int h20f1, .ref h48]), (h21, ob 5 [.int h21f0, .int h21f1, .ref h49]), (h1, ob 4 [.int h1f0, .int h1f1, .int h1f2, .ref h14])] _ := hT
        exfalso; omega
      · skip
        have hT := J _ hT1
        have hT : TP D A [(h12, aJ (k 1) 9 anJ), (h13, aJ (k 1) 9 anJ), (h14, aJ (k 1) 36 anJ), (h46, aJ (k 1) 40 anJ), (h47, aJ (k 1) 40 anJ), (h48, aJ (k 1) 40 anJ), (h49, aJ (k 1) 40 anJ), (h0, ob 7 [.ref h1, .ref h2, .int h0f2, .ref h3, .ref h4, .ref h5, .int h0f6, .ref h6, .int h0f8, .ref h7, .ref h8, .int h0f11, .ref h9, .ref h10, .ref h11, .ref h12, .ref h13]), (h4, aQ (k 3) 4 (q4 h18 h19 h20 h21)), (h18, ob 5 [.int h18f0, .int h18f1, .ref h46]), (h19, ob 5 [.int h19f0, .int h19f1, .ref h47]), (h20, ob 5 [.int h20f0, .int h20f1, .ref h48]), (h21, ob 5 [.int h21f0, .int h21f1, .ref h49]), (h1, ob 4 [.int h1f0, .int h1f1, .int h1f2, .ref h14])] _ := hT
        refine lv_ldc2 hx hb hown (hU _ w649) dX10_keeps_50 ?_
        have q_q476 := ll_1000000
        refine tcI (Tc := [(h12, aJ (k 1) 9 anJ)]) (Tr := [(h13, aJ (k 1) 9 anJ), (h14, aJ (k 1) 36 anJ), (h46, aJ (k 1) 40 anJ), (h47, aJ (k 1) 40 anJ), (h48, aJ (k 1) 40 anJ), (h49, aJ (k 1) 40 anJ), (h0, ob 7 [.ref h1, .ref h2, .int h0f2, .ref h3, .ref h4, .ref h5, .int h0f6, .ref h6, .int h0f8, .ref h7, .ref h8, .int h0f11, .ref h9, .ref h10, .ref h11, .ref h12, .ref h13]), (h4, aQ (k 3) 4 (q4 h18 h19 h20 h21)), (h18, ob 5 [.int h18f0, .int h18f1, .ref h46]), (h19, ob 5 [.int h19f0, .int h19f1, .ref h47]), (h20, ob 5 [.int h20f0, .int h20f1, .ref h48]), (h21, ob 5 [.int h21f0, .int h21f1, .ref h49]), (h1, ob 4 [.int h1f0, .int h1f1, .int h1f2, .ref h14])]) (as := [h12]) (zcS (As := [.ref h12, .int v472, .long 1000000]) (rest := []) (Tc := [(h12, aJ (k 1) 9 anJ)]) hx hb hml hown hU hK hT [0] rfl (by decide) (cX7_isWithin_443ab l D k _ h12 v472 (1000000) (by omega) (by have := ll_1000000; omega)) w389 w387 w388 w74 hdX7_isWithin ⟨rfl, rfl⟩ ⟨Nat.le_of_ble_eq_true rfl, Nat.le_of_ble_eq_true rfl⟩ rfl hl.1 (Nat.le_of_ble_eq_true rfl) dX10_keeps_53 ⟨Nat.le_of_ble_eq_true rfl, Nat.le_of_ble_eq_true rfl⟩) hT hS hA [0] [1, 2, 3, 4, 5, 6, 7, 8, 9, 10, 11, 12, 13] rfl rfl rfl (by decide) (by decide) (fun r475 H locs hB J hS => ?_)
        obtain ⟨b_r475, hT1⟩ := hB
        have hT := J _ hT1
        have hT : TP D A [(h13, aJ (k 1) 9 anJ), (h14, aJ (k 1) 36 anJ), (h46, aJ (k 1) 40 anJ), (h47, aJ (k 1) 40 anJ), (h48, aJ (k 1) 40 anJ), (h49, aJ (k 1) 40 anJ), (h0, ob 7 [.ref h1, .ref h2, .int h0f2, .ref h3, .ref h4, .ref h5, .int h0f6, .ref h6, .int h0f8, .ref h7, .ref h8, .int h0f11, .ref h9, .ref h10, .ref h11, .ref h12, .ref h13]), (h4, aQ (k 3) 4 (q4 h18 h19 h20 h21)), (h18, ob 5 [.int h18f0, .int h18f1, .ref h46]), (h19, ob 5 [.int h19f0, .int h19f1, .ref h47]), (h20, ob 5 [.int h20f0, .int h20f1, .ref h48]), (h21, ob 5 [.int h21f0, .int h21f1, .ref h49]), (h1, ob 4 [.int h1f0, .int h1f1, .int h1f2, .ref h14]), (h12, aJ (k 1) 9 anJ)] _ := hT
        refine lv_if_ne (tgt := 62) hx hb dX10_keeps_56 (by decide) (fun c_477 => ?_) (fun c_477 => ?_)
        · skip
          have c_477 := ni_ne c_477 rfl li_0
          refine lv_aload_n hx hb dX10_keeps_62 rfl (lv_at hl 1 rfl) ?_
          refine tcI (Tc := [(h0, ob 7 [.ref h1, .ref h2, .int h0f2, .ref h3, .ref h4, .ref h5, .int h0f6, .ref h6, .int h0f8, .ref h7, .ref h8, .int h0f11, .ref h9, .ref h10, .ref h11, .ref h12, .ref h13]), (h1, ob 4 [.int h1f0, .int h1f1, .int h1f2, .ref h14]), (h12, aJ (k 1) 9 anJ), (h13, aJ (k 1) 9 anJ)]) (Tr := [(h14, aJ (k 1) 36 anJ), (h46, aJ (k 1) 40 anJ), (h47, aJ (k 1) 40 anJ), (h48, aJ (k 1) 40 anJ), (h49, aJ (k 1) 40 anJ), (h4, aQ (k 3) 4 (q4 h18 h19 h20 h21)), (h18, ob 5 [.int h18f0, .int h18f1, .ref h46]), (h19, ob 5 [.int h19f0, .int h19f1, .ref h47]), (h20, ob 5 [.int h20f0, .int h20f1, .ref h48]), (h21, ob 5 [.int h21f0, .int h21f1, .ref h49])]) (as := [h0, h1, h12, h13]) (zcV (q0 := 6) (ci := 7) (As := []) (rest := []) (Tc := [(h0, ob 7 [.ref h1, .ref h2, .int h0f2, .ref h3, .ref h4, .ref h5, .int h0f6, .ref h6, .int h0f8, .ref h7, .ref h8, .int h0f11, .ref h9, .ref h10, .ref h11, .ref h12, .ref h13]), (h1, ob 4 [.int h1f0, .int h1f1, .int h1f2, .ref h14]), (h12, aJ (k 1) 9 anJ), (h13, aJ (k 1) 9 anJ)]) hx hb hml hown hU hK hT rfl rfl [6, 12, 13, 0] rfl (by decide) (cX10_isPositiveForm_ec5e0 l D k _ h0 h1 h12 h13 h2 h3 h4 h5 h6 h7 h8 h9 h10 h11 h14 h0f2 h0f6 h0f8 h0f11 h1f0 h1f1 h1f2 (by omega) (by omega) (by omega) (by omega) (by omega) (by omega)) w653 w650 w652 w19 w63 hdX10_isPositiveForm ⟨rfl, rfl⟩ ⟨Nat.le_of_ble_eq_true rfl, Nat.le_of_ble_eq_true rfl⟩ rfl hl.1 (Nat.le_of_ble_eq_true rfl) dX10_keeps_63 ⟨Nat.le_of_ble_eq_true rfl, Nat.le_of_ble_eq_true rfl⟩) hT hS hA [6, 12, 13, 0] [1, 2, 3, 4, 5, 7, 8, 9, 10, 11] rfl rfl rfl (by decide) (by decide) (fun r478 H locs hB J hS => ?_)
          obtain ⟨b_r478, hT1⟩ := hB
          have hT := J _ hT1
          have hT : TP D A [(h14, aJ (k 1) 36 anJ), (h46, aJ (k 1) 40 anJ), (h47, aJ (k 1) 40 anJ), (h48, aJ (k 1) 40 anJ), (h49, aJ (k 1) 40 anJ), (h4, aQ (k 3) 4 (q4 h18 h19 h20 h21)), (h18, ob 5 [.int h18f0, .int h18f1, .ref h46]), (h19, ob 5 [.int h19f0, .int h19f1, .ref h47]), (h20, ob 5 [.int h20f0, .int h20f1, .ref h48]), (h21, ob 5 [.int h21f0, .int h21f1, .ref h49]), (h0, ob 7 [.ref h1, .ref h2, .int h0f2, .ref h3, .ref h4, .ref h5, .int h0f6, .ref h6, .int h0f8, .ref h7, .ref h8, .int h0f11, .ref h9, .ref h10, .ref h11, .ref h12, .ref h13]), (h1, ob 4 [.int h1f0, .int h1f1, .int h1f2, .ref h14]), (h12, aJ (k 1) 9 anJ), (h13, aJ (k 1) 9 anJ)] _ := hT
          refine lv_if_eq (tgt := 80) hx hb dX10_keeps_66 (by decide) (fun c_479 => ?_) (fun c_479 => ?_)
          · skip
            have c_479 := ni_eq c_479 rfl li_0
            refine lv_iconst (v := 0) hx hb dX10_keeps_80 (by decide) ?_
            exact tz_retI (B := B_cX10_keeps_56b43 D k h0 h1 h4 h12 h13 h14 h18 h19 h20 h21 h46 h47 h48 h49 h2 h3 h5 h6 h7 h8 h9 h10 h11 x1 x2 h0f2 h0f6 h0f8 h0f11 h1f0 h1f1 h1f2 h18f0 h18f1 h19f0 h19f1 h20f0 h20f1 h21f0 h21f1) (v := 0) hQ hx hb hr hlocks hS (Nat.le_of_ble_eq_true rfl) (Nat.le_of_ble_eq_true rfl) dX10_keeps_81 (⟨(by have := li_0; omega), (hT.sub [10, 11, 5, 12, 13, 0, 6, 7, 8, 9, 1, 2, 3, 4] (by decide) rfl)⟩)
          · skip
            have c_479 := ni_ne c_479 rfl li_0
            refine lv_aload_n hx hb dX10_keeps_69 rfl (lv_at hl 1 rfl) ?_
            refine tcI (Tc := [(h0, ob 7 [.ref h1, .ref h2, .int h0f2, .ref h3, .ref h4, .ref h5, .int h0f6, .ref h6, .int h0f8, .ref h7, .ref h8, .int h0f11, .ref h9, .ref h10, .ref h11, .ref h12, .ref h13]), (h1, ob 4 [.int h1f0, .int h1f1, .int h1f2, .ref h14]), (h12, aJ (k 1) 9 anJ), (h13, aJ (k 1) 9 anJ), (h14, aJ (k 1) 36 anJ)]) (Tr := [(h46, aJ (k 1) 40 anJ), (h47, aJ (k 1) 40 anJ), (h48, aJ (k 1) 40 anJ), (h49, aJ (k 1) 40 anJ), (h4, aQ (k 3) 4 (q4 h18 h19 h20 h21)), (h18, ob 5 [.int h18f0, .int h18f1, .ref h46]), (h19, ob 5 [.int h19f0, .int h19f1, .ref h47]), (h20, ob 5 [.int h20f0, .int h20f1, .ref h48]), (h21, ob 5 [.int h21f0, .int h21f1, .ref h49])]) (as := [h0, h1, h12, h13, h14]) (zcV (q0 := 10) (ci := 7) (As := []) (rest := []) (Tc := [(h0, ob 7 [.ref h1, .ref h2, .int h0f2, .ref h3, .ref h4, .ref h5, .int h0f6, .ref h6, .int h0f8, .ref h7, .ref h8, .int h0f11, .ref h9, .ref h10, .ref h11, .ref h12, .ref h13]), (h1, ob 4 [.int h1f0, .int h1f1, .int h1f2, .ref h14]), (h12, aJ (k 1) 9 anJ), (h13, aJ (k 1) 9 anJ), (h14, aJ (k 1) 36 anJ)]) hx hb hml hown hU hK hT rfl rfl [10, 11, 12, 13, 0] rfl (by decide) (cX10_noGeneratorChangesForm_03344 l D k _ h0 h1 h12 h13 h14 h2 h3 h4 h5 h6 h7 h8 h9 h10 h11 h0f2 h0f6 h0f8 h0f11 h1f0 h1f1 h1f2 (by omega) (by omega) (by omega) (by omega) (by omega) (by omega)) w657 w654 w656 w20 w63 hdX10_noGeneratorChangesForm ⟨rfl, rfl⟩ ⟨Nat.le_of_ble_eq_true rfl, Nat.le_of_ble_eq_true rfl⟩ rfl hl.1 (Nat.le_of_ble_eq_true rfl) dX10_keeps_70 ⟨Nat.le_of_ble_eq_true rfl, Nat.le_of_ble_eq_true rfl⟩) hT hS hA [10, 11, 12, 13, 0] [1, 2, 3, 4, 5, 6, 7, 8, 9] rfl rfl rfl (by decide) (by decide) (fun r480 H locs hB J hS => ?_)
            obtain ⟨b_r480, hT1⟩ := hB
            have hT := J _ hT1
            have hT : TP D A [(h46, aJ (k 1) 40 anJ), (h47, aJ (k 1) 40 anJ), (h48, aJ (k 1) 40 anJ), (h49, aJ (k 1) 40 anJ), (h4, aQ (k 3) 4 (q4 h18 h19 h20 h21)), (h18, ob 5 [.int h18f0, .int h18f1, .ref h46]), (h19, ob 5 [.int h19f0, .int h19f1, .ref h47]), (h20, ob 5 [.int h20f0, .int h20f1, .ref h48]), (h21, ob 5 [.int h21f0, .int h21f1, .ref h49]), (h0, ob 7 [.ref h1, .ref h2, .int h0f2, .ref h3, .ref h4, .ref h5, .int h0f6, .ref h6, .int h0f8, .ref h7, .ref h8, .int h0f11, .ref h9, .ref h10, .ref h11, .ref h12, .ref h13]), (h1, ob 4 [.int h1f0, .int h1f1, .int h1f2, .ref h14]), (h12, aJ (k 1) 9 anJ), (h13, aJ (k 1) 9 anJ), (h14, aJ (k 1) 36 anJ)] _ := hT
            refine lv_if_eq (tgt := 80) hx hb dX10_keeps_73 (by decide) (fun c_481 => ?_) (fun c_481 => ?_)
            · skip
              have c_481 := ni_eq c_481 rfl li_0
              refine lv_iconst (v := 0) hx hb dX10_keeps_80 (by decide) ?_
              exact tz_retI (B := B_cX10_keeps_56b43 D k h0 h1 h4 h12 h13 h14 h18 h19 h20 h21 h46 h47 h48 h49 h2 h3 h5 h6 h7 h8 h9 h10 h11 x1 x2 h0f2 h0f6 h0f8 h0f11 h1f0 h1f1 h1f2 h18f0 h18f1 h19f0 h19f1 h20f0 h20f1 h21f0 h21f1) (v := 0) hQ hx hb hr hlocks hS (Nat.le_of_ble_eq_true rfl) (Nat.le_of_ble_eq_true rfl) dX10_keeps_81 (⟨(by have := li_0; omega), (hT.sub [9, 10, 4, 11, 12, 13, 5, 6, 7, 8, 0, 1, 2, 3] (by decide) rfl)⟩)
            · skip
              have c_481 := ni_ne c_481 rfl li_0
              refine lv_iconst (v := 1) hx hb dX10_keeps_76 (by decide) ?_
              refine lv_goto (tgt := 81) hx hb dX10_keeps_77 (by decide) ?_
              exact tz_retI (B := B_cX10_keeps_56b43 D k h0 h1 h4 h12 h13 h14 h18 h19 h20 h21 h46 h47 h48 h49 h2 h3 h5 h6 h7 h8 h9 h10 h11 x1 x2 h0f2 h0f6 h0f8 h0f11 h1f0 h1f1 h1f2 h18f0 h18f1 h19f0 h19f1 h20f0 h20f1 h21f0 h21f1) (v := 1) hQ hx hb hr hlocks hS (Nat.le_of_ble_eq_true rfl) (Nat.le_of_ble_eq_true rfl) dX10_keeps_81 (⟨(by have := li_1; omega), (hT.sub [9, 10, 4, 11, 12, 13, 5, 6, 7, 8, 0, 1, 2, 3] (by decide) rfl)⟩)
        · skip
          have c_477 := ni_eq c_477 rfl li_0
          refine lv_bipush (v := (-16)) hx hb dX10_keeps_59 (by decide) ?_
          exact tz_retI (B := B_cX10_keeps_56b43 D k h0 h1 h4 h12 h13 h14 h18 h19 h20 h21 h46 h47 h48 h49 h2 h3 h5 h6 h7 h8 h9 h10 h11 x1 x2 h0f2 h0f6 h0f8 h0f11 h1f0 h1f1 h1f2 h18f0 h18f1 h19f0 h19f1 h20f0 h20f1 h21f0 h21f1) (v := (-16)) hQ hx hb hr hlocks hS (Nat.le_of_ble_eq_true rfl) (Nat.le_of_ble_eq_true rfl) dX10_keeps_61 (⟨(by have := li_m16; omega), (hT.sub [6, 12, 7, 13, 0, 1, 8, 9, 10, 11, 2, 3, 4, 5] (by decide) rfl)⟩)
abbrev Rm_cX11_isSheet_2c130 : Room := { frames := 1, cells := 0, slots := 0, locals := 25 }
abbrev B_cX11_isSheet_2c130 (D : va_G) (k : Nat → ClassId) (x0 : Int32) (A : Nat → Prop) (r : Int32) (H : Heap) : Prop := (0 = r ∧ TP D A [] H) ∨ (0 ≤ x0.toInt ∧ x0.toInt ≤ 3 ∧ 1 = r ∧ TP D A [] H)
set_option maxHeartbeats 4000000 in
set_option maxRecDepth 100000 in
theorem cX11_isSheet_2c130 (l : Launch) (D : va_G) (k : Nat → ClassId) (sz : Nat) (x0 : Int32) : Met l yX11_isSheet (Cond.code yX11_isSheet cX11_isSheet 1 (some .boolean) :: uw) Rm_cX11_isSheet_2c130 (pT D k sz [.int x0] []) (qI (B_cX11_isSheet_2c130 D k x0 (zA [] sz)) (zA [] sz)) 0 0 (zA [] sz) := by
  refine tz_begin (as := []) (Qc := fun A => qI (B_cX11_isSheet_2c130 D k x0 A) A) (by decide +kernel) rfl (Nat.le_of_ble_eq_true rfl) ?_
  intro p e s m args below meth c ls A Q hx hb hr hml hown hlocks hin hU hK hT hS hA hl hQ
  have hl : lv_has ls 1 [(0, .int x0)] := hl
  have hT : TP D A [] s.heap := hT
  refine lv_iload_n hx hb dX11_isSheet_0 rfl (lv_at hl 0 rfl) ?_
  have tb_x0 := i32b x0
  obtain ⟨v1, e_v1⟩ : ∃ x : Int64, x0.toInt64 = x := ⟨_, rfl⟩
  refine lv_i2l (v := v1) hx hb dX11_isSheet_1 e_v1 ?_
  have e_v1 := ai_i2l e_v1 rfl
  refine lv_lconst (v := 0) hx hb dX11_isSheet_2 (by decide) ?_
  refine lv_ldc2 hx hb hown (hU _ w898) dX11_isSheet_3 ?_
  have q_q3 := ll_0
  have q_q4 := ll_3
  refine tcI (Tc := []) (Tr := []) (as := []) (zcS (As := [.long v1, .long 0, .long 3]) (rest := []) (Tc := []) hx hb hml hown hU hK hT [] rfl (by decide) (cX11_in_ca3b9 l D k _ v1 (0) (3) (by have := ll_0; omega) (by have := ll_3; omega)) w901 w899 w900 w72 hdX11_in ⟨rfl, rfl⟩ ⟨Nat.le_of_ble_eq_true rfl, Nat.le_of_ble_eq_true rfl⟩ rfl hl.1 (Nat.le_of_ble_eq_true rfl) dX11_isSheet_6 ⟨Nat.le_of_ble_eq_true rfl, Nat.le_of_ble_eq_true rfl⟩) hT hS hA [] [] rfl rfl rfl (by decide) (by decide) (fun r2 H locs hB J hS => ?_)
  rcases hB with ⟨rfl, hT1⟩ | ⟨c_5, c_6, rfl, hT1⟩
  · skip
    have hT := J _ hT1
    have hT : TP D A [] _ := hT
    exact tz_retZ (B := B_cX11_isSheet_2c130 D k x0) (v := 0) hQ hx hb hr hlocks hS (Nat.le_of_ble_eq_true rfl) (Nat.le_of_ble_eq_true rfl) dX11_isSheet_9 (by have := li_0; omega) (Or.inl ⟨rfl, hT⟩)
  · skip
    have hT := J _ hT1
    have hT : TP D A [] _ := hT
    exact tz_retZ (B := B_cX11_isSheet_2c130 D k x0) (v := 1) hQ hx hb hr hlocks hS (Nat.le_of_ble_eq_true rfl) (Nat.le_of_ble_eq_true rfl) dX11_isSheet_9 (by have := li_1; omega) (Or.inr (⟨(by have := li_1; omega), (by have := li_1; omega), rfl, hT⟩))
abbrev Rm_cX11_isOutside_e242f : Room := { frames := 0, cells := 0, slots := 0, locals := 0 }
abbrev B_cX11_isOutside_e242f (D : va_G) (k : Nat → ClassId) (h0 h19 h1 h2 h3 h4 h5 h6 h7 h8 h9 h10 h11 h12 h13 h14 h15 h16 h17 h18 h20 h21 : Nat) (x1 : Int32) (x2 : Int32) (x3 : Int32) (h0f0 : Int32) (h0f1 : Int32) (h0f2 : Int32) (h0f3 : Int32) (h0f4 : Int32) (h0f5 : Int32) (h0f8 : Int32) (h0f9 : Int32) (h0f17 : Int32) (h0f18 : Int32) (h0f19 : Int32) (h0f24 : Int32) (h0f25 : Int32) (h0f30 : Int32) (h0f31 : Int32) (h19f0 : Int32) (h19f1 : Int32) (h19f2 : Int32) (h19f3 : Int32) (A : Nat → Prop) (r : Int32) (H : Heap) : Prop := (1 = r ∧ TP D A [(h0, ob 8 [.int h0f0, .int h0f1, .int h0f2, .int h0f3, .int h0f4, .int h0f5, .ref h1, .ref h2, .int h0f8, .int h0f9, .ref h3, .ref h4, .ref h5, .ref h6, .ref h7, .ref h8, .ref h9, .int h0f17, .int h0f18, .int h0f19, .ref h10, .ref h11, .ref h12, .ref h13, .int h0f24, .int h0f25, .ref h14, .ref h15, .ref h16, .ref h17, .int h0f30, .int h0f31, .ref h18, .ref h19, .ref h20, .ref h21]), (h19, aI (k 0) 4 (vec4 h19f0 h19f1 h19f2 h19f3))] H) ∨ (∃ o0 : Int32, (0 ≤ o0.toInt ∧ o0.toInt ≤ 40) ∧ h0f8.toInt ≤ h0f3.toInt ∧ h0f9.toInt ≤ h0f24.toInt ∧ 0 ≤ x3.toInt ∧ 0 ≤ x2.toInt ∧ x2.toInt + x3.toInt ≤ o0.toInt ∧ 0 = r ∧ TP D A [(h0, ob 8 [.int h0f0, .int h0f1, .int h0f2, .int h0f3, .int h0f4, .int h0f5, .ref h1, .ref h2, .int h0f8, .int h0f9, .ref h3, .ref h4, .ref h5, .ref h6, .ref h7, .ref h8, .ref h9, .int h0f17, .int h0f18, .int h0f19, .ref h10, .ref h11, .ref h12, .ref h13, .int h0f24, .int h0f25, .ref h14, .ref h15, .ref h16, .ref h17, .int h0f30, .int h0f31, .ref h18, .ref h19, .ref h20, .ref h21]), (h19, aI (k 0) 4 (vec4 h19f0 h19f1 h19f2 h19f3))] H)
set_option maxHeartbeats 4000000 in
set_option maxRecDepth 100000 in
theorem cX11_isOutside_e242f (l : Launch) (D : va_G) (k : Nat → ClassId) (sz : Nat) (h0 h19 h1 h2 h3 h4 h5 h6 h7 h8 h9 h10 h11 h12 h13 h14 h15 h16 h17 h18 h20 h21 : Nat) (x1 : Int32) (x2 : Int32) (x3 : Int32) (h0f0 : Int32) (h0f1 : Int32) (h0f2 : Int32) (h0f3 : Int32) (h0f4 : Int32) (h0f5 : Int32) (h0f8 : Int32) (h0f9 : Int32) (h0f17 : Int32) (h0f18 : Int32) (h0f19 : Int32) (h0f24 : Int32) (h0f25 : Int32) (h0f30 : Int32) (h0f31 : Int32) (h19f0 : Int32) (h19f1 : Int32) (h19f2 : Int32) (h19f3 : Int32) (b_x1 : 0 ≤ x1.toInt ∧ x1.toInt ≤ 3) (b_h0f0 : 1 ≤ h0f0.toInt ∧ h0f0.toInt ≤ 3) (b_h0f1 : 0 ≤ h0f1.toInt ∧ h0f1.toInt ≤ 4) (b_h0f3 : 0 ≤ h0f3.toInt ∧ h0f3.toInt ≤ 3) (b_h0f4 : 0 ≤ h0f4.toInt ∧ h0f4.toInt ≤ 4) (b_h0f8 : 0 ≤ h0f8.toInt ∧ h0f8.toInt ≤ 1) (b_h0f9 : 0 ≤ h0f9.toInt ∧ h0f9.toInt ≤ 1) (b_h0f17 : 0 ≤ h0f17.toInt ∧ h0f17.toInt ≤ 120) (b_h0f18 : 0 ≤ h0f18.toInt ∧ h0f18.toInt ≤ 120) (b_h0f19 : 0 ≤ h0f19.toInt ∧ h0f19.toInt ≤ 4) (b_h0f24 : 0 ≤ h0f24.toInt ∧ h0f24.toInt ≤ 100) (b_h0f25 : 0 ≤ h0f25.toInt ∧ h0f25.toInt ≤ 1) (b_h0f30 : 0 ≤ h0f30.toInt ∧ h0f30.toInt ≤ 60) (b_h0f31 : 0 ≤ h0f31.toInt ∧ h0f31.toInt ≤ 1) (b_h19f0 : 0 ≤ h19f0.toInt ∧ h19f0.toInt ≤ 40) (b_h19f1 : 0 ≤ h19f1.toInt ∧ h19f1.toInt ≤ 40) (b_h19f2 : 0 ≤ h19f2.toInt ∧ h19f2.toInt ≤ 40) (b_h19f3 : 0 ≤ h19f3.toInt ∧ h19f3.toInt ≤ 40) (i_0 : h0f8.toInt ≤ h0f3.toInt) (i_1 : h0f9.toInt ≤ h0f24.toInt) : Met l yX11_isOutside (Cond.code yX11_isOutside cX11_isOutside 4 (some .boolean) :: uw) Rm_cX11_isOutside_e242f (pT D k sz [.ref h0, .int x1, .int x2, .int x3] [(h0, ob 8 [.int h0f0, .int h0f1, .int h0f2, .int h0f3, .int h0f4, .int h0f5, .ref h1, .ref h2, .int h0f8, .int h0f9, .ref h3, .ref h4, .ref h5, .ref h6, .ref h7, .ref h8, .ref h9, .int h0f17, .int h0f18, .int h0f19, .ref h10, .ref h11, .ref h12, .ref h13, .int h0f24, .int h0f25, .ref h14, .ref h15, .ref h16, .ref h17, .int h0f30, .int h0f31, .ref h18, .ref h19, .ref h20, .ref h21]), (h19, aI (k 0) 4 (vec4 h19f0 h19f1 h19f2 h19f3))]) (qI (B_cX11_isOutside_e242f D k h0 h19 h1 h2 h3 h4 h5 h6 h7 h8 h9 h10 h11 h12 h13 h14 h15 h16 h17 h18 h20 h21 x1 x2 x3 h0f0 h0f1 h0f2 h0f3 h0f4 h0f5 h0f8 h0f9 h0f17 h0f18 h0f19 h0f24 h0f25 h0f30 h0f31 h19f0 h19f1 h19f2 h19f3 (zA [h0, h19] sz)) (zA [h0, h19] sz)) 0 0 (zA [h0, h19] sz) := by
  refine tz_begin (as := [h0, h19]) (Qc := fun A => qI (B_cX11_isOutside_e242f D k h0 h19 h1 h2 h3 h4 h5 h6 h7 h8 h9 h10 h11 h12 h13 h14 h15 h16 h17 h18 h20 h21 x1 x2 x3 h0f0 h0f1 h0f2 h0f3 h0f4 h0f5 h0f8 h0f9 h0f17 h0f18 h0f19 h0f24 h0f25 h0f30 h0f31 h19f0 h19f1 h19f2 h19f3 A) A) (by decide +kernel) rfl (Nat.le_of_ble_eq_true rfl) ?_
  intro p e s m args below meth c ls A Q hx hb hr hml hown hlocks hin hU hK hT hS hA hl hQ
  have hl : lv_has ls 4 [(0, .ref h0), (1, .int x1), (2, .int x2), (3, .int x3)] := hl
  have hT : TP D A [(h0, ob 8 [.int h0f0, .int h0f1, .int h0f2, .int h0f3, .int h0f4, .int h0f5, .ref h1, .ref h2, .int h0f8, .int h0f9, .ref h3, .ref h4, .ref h5, .ref h6, .ref h7, .ref h8, .ref h9, .int h0f17, .int h0f18, .int h0f19, .ref h10, .ref h11, .ref h12, .ref h13, .int h0f24, .int h0f25, .ref h14, .ref h15, .ref h16, .ref h17, .int h0f30, .int h0f31, .ref h18, .ref h19, .ref h20, .ref h21]), (h19, aI (k 0) 4 (vec4 h19f0 h19f1 h19f2 h19f3))] s.heap := hT
  refine lv_iload_n hx hb dX11_isOutside_0 rfl (lv_at hl 3 rfl) ?_
  refine lv_if_lt (tgt := 24) hx hb dX11_isOutside_1 (by decide) (fun c_1 => ?_) (fun c_1 => ?_)
  · skip
    have c_1 := ni_lt c_1 rfl li_0
    refine lv_iconst (v := 1) hx hb dX11_isOutside_24 (by decide) ?_
    refine lv_goto (tgt := 29) hx hb dX11_isOutside_25 (by decide) ?_
    exact tz_retZ (B := B_cX11_isOutside_e242f D k h0 h19 h1 h2 h3 h4 h5 h6 h7 h8 h9 h10 h11 h12 h13 h14 h15 h16 h17 h18 h20 h21 x1 x2 x3 h0f0 h0f1 h0f2 h0f3 h0f4 h0f5 h0f8 h0f9 h0f17 h0f18 h0f19 h0f24 h0f25 h0f30 h0f31 h19f0 h19f1 h19f2 h19f3) (v := 1) hQ hx hb hr hlocks hS (Nat.le_of_ble_eq_true rfl) (Nat.le_of_ble_eq_true rfl) dX11_isOutside_29 (by have := li_1; omega) (Or.inl ⟨rfl, hT⟩)
  · skip
    have c_1 := ni_nlt c_1 rfl li_0
    refine lv_iload_n hx hb dX11_isOutside_4 rfl (lv_at hl 2 rfl) ?_
    refine lv_if_lt (tgt := 24) hx hb dX11_isOutside_5 (by decide) (fun c_2 => ?_) (fun c_2 => ?_)
    · skip
      have c_2 := ni_lt c_2 rfl li_0
      refine lv_iconst (v := 1) hx hb dX11_isOutside_24 (by decide) ?_
      refine lv_goto (tgt := 29) hx hb dX11_isOutside_25 (by decide) ?_
      exact tz_retZ (B := B_cX11_isOutside_e242f D k h0 h19 h1 h2 h3 h4 h5 h6 h7 h8 h9 h10 h11 h12 h13 h14 h15 h16 h17 h18 h20 h21 x1 x2 x3 h0f0 h0f1 h0f2 h0f3 h0f4 h0f5 h0f8 h0f9 h0f17 h0f18 h0f19 h0f24 h0f25 h0f30 h0f31 h19f0 h19f1 h19f2 h19f3) (v := 1) hQ hx hb hr hlocks hS (Nat.le_of_ble_eq_true rfl) (Nat.le_of_ble_eq_true rfl) dX11_isOutside_29 (by have := li_1; omega) (Or.inl ⟨rfl, hT⟩)
    · skip
      have c_2 := ni_nlt c_2 rfl li_0
      refine lv_iload_n hx hb dX11_isOutside_8 rfl (lv_at hl 2 rfl) ?_
      have tb_x2 := i32b x2
      obtain ⟨v3, e_v3⟩ : ∃ x : Int64, x2.toInt64 = x := ⟨_, rfl⟩
      refine lv_i2l (v := v3) hx hb dX11_isOutside_9 e_v3 ?_
      have e_v3 := ai_i2l e_v3 rfl
      refine lv_iload_n hx hb dX11_isOutside_10 rfl (lv_at hl 3 rfl) ?_
      have tb_x3 := i32b x3
      obtain ⟨v4, e_v4⟩ : ∃ x : Int64, x3.toInt64 = x := ⟨_, rfl⟩
      refine lv_i2l (v := v4) hx hb dX11_isOutside_11 e_v4 ?_
      have e_v4 := ai_i2l e_v4 rfl
      refine lv_ladd hx hb dX11_isOutside_12 (lv_topl (fun v5 e_v5 => ?_))
      have e_v5 := al_add e_v5 rfl rfl (by omega)
      refine lv_aload_n hx hb dX11_isOutside_13 rfl (lv_at hl 0 rfl) ?_
      refine tz_get (ci := 8) (v := .ref h19) (C := RX11) (F := TX11) (N := 36) hx hb hU iX11 hown hK hT 0 rfl rfl 33 (by decide) w818 (fun _ h9 => h9) rfl dX11_isOutside_14 ?_
      refine lv_iload_n hx hb dX11_isOutside_17 rfl (lv_at hl 1 rfl) ?_
      refine tz_iald hx hb hK hT 1 rfl (by omega) dX11_isOutside_18 (fun v6 e_v6 => ?_)
      have e_v6 := x4_rg (lo := 0) (hi := 40) e_v6 (by omega) (by omega)
      obtain ⟨v7, e_v7⟩ : ∃ x : Int64, v6.toInt64 = x := ⟨_, rfl⟩
      refine lv_i2l (v := v7) hx hb dX11_isOutside_19 e_v7 ?_
      have e_v7 := ai_i2l e_v7 rfl
      refine W.lcmp hx hb dX11_isOutside_20 ?_
      refine lv_if_le (tgt := 28) hx hb dX11_isOutside_21 (by decide) (fun c_8 => ?_) (fun c_8 => ?_)
      · skip
        have c_8 := nl_le c_8 rfl rfl
        refine lv_iconst (v := 0) hx hb dX11_isOutside_28 (by decide) ?_
        exact tz_retZ (B := B_cX11_isOutside_e242f D k h0 h19 h1 h2 h3 h4 h5 h6 h7 h8 h9 h10 h11 h12 h13 h14 h15 h16 h17 h18 h20 h21 x1 x2 x3 h0f0 h0f1 h0f2 h0f3 h0f4 h0f5 h0f8 h0f9 h0f17 h0f18 h0f19 h0f24 h0f25 h0f30 h0f31 h19f0 h19f1 h19f2 h19f3) (v := 0) hQ hx hb hr hlocks hS (Nat.le_of_ble_eq_true rfl) (Nat.le_of_ble_eq_true rfl) dX11_isOutside_29 (by have := li_0; omega) (Or.inr (⟨v6, (by have := li_0; omega), (by have := li_0; omega), (by have := li_0; omega), (by have := li_0; omega), (by have := li_0; omega), (by have := li_0; omega), rfl, hT⟩))
      · skip
        have c_8 := nl_nle c_8 rfl rfl
        refine lv_iconst (v := 1) hx hb dX11_isOutside_24 (by decide) ?_
        refine lv_goto (tgt := 29) hx hb dX11_isOutside_25 (by decide) ?_
        exact tz_retZ (B := B_cX11_isOutside_e242f D k h0 h19 h1 h2 h3 h4 h5 h6 h7 h8 h9 h10 h11 h12 h13 h14 h15 h16 h17 h18 h20 h21 x1 x2 x3 h0f0 h0f1 h0f2 h0f3 h0f4 h0f5 h0f8 h0f9 h0f17 h0f18 h0f19 h0f24 h0f25 h0f30 h0f31 h19f0 h19f1 h19f2 h19f3) (v := 1) hQ hx hb hr hlocks hS (Nat.le_of_ble_eq_true rfl) (Nat.le_of_ble_eq_true rfl) dX11_isOutside_29 (by have := li_1; omega) (Or.inl ⟨rfl, hT⟩)
abbrev Rm_cX11_times_a1754 : Room := { frames := 1, cells := 0, slots := 0, locals := 22 }
abbrev B_cX11_times_a1754 (D : va_G) (k : Nat → ClassId) (h0 h1 h2 h3 h4 h5 h6 h7 h8 h9 h10 h11 h12 h13 h14 h15 h16 h17 h18 h19 h20 h21 : Nat) (h0f0 : Int32) (h0f1 : Int32) (h0f2 : Int32) (h0f3 : Int32) (h0f4 : Int32) (h0f5 : Int32) (h0f8 : Int32) (h0f9 : Int32) (h0f17 : Int32) (h0f18 : Int32) (h0f19 : Int32) (h0f24 : Int32) (h0f25 : Int32) (h0f30 : Int32) (h0f31 : Int32) (A : Nat → Prop) (H : Heap) : Prop := TP D A [(h0, ob 8 [.int h0f0, .int h0f1, .int h0f2, .int h0f3, .int h0f4, .int h0f5, .ref h4, .ref h5, .int h0f8, .int h0f9, .ref h1, .ref h2, .ref h3, .ref h6, .ref h7, .ref h8, .ref h9, .int h0f17, .int h0f18, .int h0f19, .ref h10, .ref h11, .ref h12, .ref h13, .int h0f24, .int h0f25, .ref h14, .ref h15, .ref h16, .ref h17, .int h0f30, .int h0f31, .ref h18, .ref h19, .ref h20, .ref h21]), (h1, aJ (k 1) 9 anJ), (h2, aJ (k 1) 9 anJ), (h3, aJ (k 1) 9 anJ)] H
set_option maxHeartbeats 4000000 in
set_option maxRecDepth 100000 in
theorem cX11_times_a1754 (l : Launch) (D : va_G) (k : Nat → ClassId) (sz : Nat) (h0 h1 h2 h3 h4 h5 h6 h7 h8 h9 h10 h11 h12 h13 h14 h15 h16 h17 h18 h19 h20 h21 : Nat) (h0f0 : Int32) (h0f1 : Int32) (h0f2 : Int32) (h0f3 : Int32) (h0f4 : Int32) (h0f5 : Int32) (h0f8 : Int32) (h0f9 : Int32) (h0f17 : Int32) (h0f18 : Int32) (h0f19 : Int32) (h0f24 : Int32) (h0f25 : Int32) (h0f30 : Int32) (h0f31 : Int32) (b_h0f0 : 1 ≤ h0f0.toInt ∧ h0f0.toInt ≤ 3) (b_h0f1 : 1 ≤ h0f1.toInt ∧ h0f1.toInt ≤ 4) (b_h0f3 : 0 ≤ h0f3.toInt ∧ h0f3.toInt ≤ 3) (b_h0f4 : 0 ≤ h0f4.toInt ∧ h0f4.toInt ≤ 4) (b_h0f8 : 0 ≤ h0f8.toInt ∧ h0f8.toInt ≤ 1) (b_h0f9 : 0 ≤ h0f9.toInt ∧ h0f9.toInt ≤ 1) (b_h0f17 : 0 ≤ h0f17.toInt ∧ h0f17.toInt ≤ 120) (b_h0f18 : 0 ≤ h0f18.toInt ∧ h0f18.toInt ≤ 120) (b_h0f19 : 0 ≤ h0f19.toInt ∧ h0f19.toInt ≤ 4) (b_h0f24 : 0 ≤ h0f24.toInt ∧ h0f24.toInt ≤ 100) (b_h0f25 : 0 ≤ h0f25.toInt ∧ h0f25.toInt ≤ 1) (b_h0f30 : 0 ≤ h0f30.toInt ∧ h0f30.toInt ≤ 60) (b_h0f31 : 0 ≤ h0f31.toInt ∧ h0f31.toInt ≤ 1) (i_0 : h0f8.toInt ≤ h0f3.toInt) (i_1 : h0f9.toInt ≤ h0f24.toInt) : Met l yX11_times (Cond.code yX11_times cX11_times 7 none :: uw) Rm_cX11_times_a1754 (pT D k sz [.ref h0, .ref h1, .ref h2, .ref h3] [(h0, ob 8 [.int h0f0, .int h0f1, .int h0f2, .int h0f3, .int h0f4, .int h0f5, .ref h4, .ref h5, .int h0f8, .int h0f9, .ref h1, .ref h2, .ref h3, .ref h6, .ref h7, .ref h8, .ref h9, .int h0f17, .int h0f18, .int h0f19, .ref h10, .ref h11, .ref h12, .ref h13, .int h0f24, .int h0f25, .ref h14, .ref h15, .ref h16, .ref h17, .int h0f30, .int h0f31, .ref h18, .ref h19, .ref h20, .ref h21]), (h1, aJ (k 1) 9 anJ), (h2, aJ (k 1) 9 anJ), (h3, aJ (k 1) 9 anJ)]) (qV (B_cX11_times_a1754 D k h0 h1 h2 h3 h4 h5 h6 h7 h8 h9 h10 h11 h12 h13 h14 h15 h16 h17 h18 h19 h20 h21 h0f0 h0f1 h0f2 h0f3 h0f4 h0f5 h0f8 h0f9 h0f17 h0f18 h0f19 h0f24 h0f25 h0f30 h0f31 (zA [h0, h1, h2, h3] sz)) (zA [h0, h1, h2, h3] sz)) 0 0 (zA [h0, h1, h2, h3] sz) := by
  refine tz_begin (as := [h0, h1, h2, h3]) (Qc := fun A => qV (B_cX11_times_a1754 D k h0 h1 h2 h3 h4 h5 h6 h7 h8 h9 h10 h11 h12 h13 h14 h15 h16 h17 h18 h19 h20 h21 h0f0 h0f1 h0f2 h0f3 h0f4 h0f5 h0f8 h0f9 h0f17 h0f18 h0f19 h0f24 h0f25 h0f30 h0f31 A) A) (by decide +kernel) rfl (Nat.le_of_ble_eq_true rfl) ?_
  intro p e s m args below meth c ls A Q hx hb hr hml hown hlocks hin hU hK hT hS hA hl hQ
  have hl : lv_has ls 7 [(0, .ref h0), (1, .ref h1), (2, .ref h2), (3, .ref h3)] := hl
  have hT : TP D A [(h0, ob 8 [.int h0f0, .int h0f1, .int h0f2, .int h0f3, .int h0f4, .int h0f5, .ref h4, .ref h5, .int h0f8, .int h0f9, .ref h1, .ref h2, .ref h3, .ref h6, .ref h7, .ref h8, .ref h9, .int h0f17, .int h0f18, .int h0f19, .ref h10, .ref h11, .ref h12, .ref h13, .int h0f24, .int h0f25, .ref h14, .ref h15, .ref h16, .ref h17, .int h0f30, .int h0f31, .ref h18, .ref h19, .ref h20, .ref h21]), (h1, aJ (k 1) 9 anJ), (h2, aJ (k 1) 9 anJ), (h3, aJ (k 1) 9 anJ)] s.heap := hT
  refine lv_aload_n hx hb dX11_times_0 rfl (lv_at hl 0 rfl) ?_
  refine lv_aload_n hx hb dX11_times_1 rfl (lv_at hl 3 rfl) ?_
  refine tcV (Tc := [(h0, ob 8 [.int h0f0, .int h0f1, .int h0f2, .int h0f3, .int h0f4, .int h0f5, .ref h4, .ref h5, .int h0f8, .int h0f9, .ref h1, .ref h2, .ref h3, .ref h6, .ref h7, .ref h8, .ref h9, .int h0f17, .int h0f18, .int h0f19, .ref h10, .ref h11, .ref h12, .ref h13, .int h0f24, .int h0f25, .ref h14, .ref h15, .ref h16, .ref h17, .int h0f30, .int h0f31, .ref h18, .ref h19, .ref h20, .ref h21]), (h3, aJ (k 1) 9 anJ)]) (Tr := [(h1, aJ (k 1) 9 anJ), (h2, aJ (k 1) 9 anJ)]) (as := [h0, h3]) (zcV (q0 := 0) (ci := 8) (As := [.ref h3]) (rest := []) (Tc := [(h0, ob 8 [.int h0f0, .int h0f1, .int h0f2, .int h0f3, .int h0f4, .int h0f5, .ref h4, .ref h5, .int h0f8, .int h0f9, .ref h1, .ref h2, .ref h3, .ref h6, .ref h7, .ref h8, .ref h9, .int h0f17, .int h0f18, .int h0f19, .ref h10, .ref h11, .ref h12, .ref h13, .int h0f24, .int h0f25, .ref h14, .ref h15, .ref h16, .ref h17, .int h0f30, .int h0f31, .ref h18, .ref h19, .ref h20, .ref h21]), (h3, aJ (k 1) 9 anJ)]) hx hb hml hown hU hK hT rfl rfl [0, 3] rfl (by decide) (cX11_clears_b1b4b l D k _ h0 h3 h4 h5 h1 h2 h6 h7 h8 h9 h10 h11 h12 h13 h14 h15 h16 h17 h18 h19 h20 h21 h0f0 h0f1 h0f2 h0f3 h0f4 h0f5 h0f8 h0f9 h0f17 h0f18 h0f19 h0f24 h0f25 h0f30 h0f31 (by omega) (by omega) (by omega) (by omega) (by omega) (by omega) (by omega) (by omega) (by omega) (by omega) (by omega) (by omega) (by omega) (by omega) (by omega)) w923 w920 w922 w29 w72 hdX11_clears ⟨rfl, rfl⟩ ⟨Nat.le_of_ble_eq_true rfl, Nat.le_of_ble_eq_true rfl⟩ rfl hl.1 (Nat.le_of_ble_eq_true rfl) dX11_times_2 ⟨Nat.le_of_ble_eq_true rfl, Nat.le_of_ble_eq_true rfl⟩) hT hS hA [0, 3] [1, 2] rfl rfl rfl (by decide) (by decide) (fun H locs hB J hS => ?_)
  have hT1 := hB
  have hT := J _ hT1
  have hT : TP D A [(h1, aJ (k 1) 9 anJ), (h2, aJ (k 1) 9 anJ), (h0, ob 8 [.int h0f0, .int h0f1, .int h0f2, .int h0f3, .int h0f4, .int h0f5, .ref h4, .ref h5, .int h0f8, .int h0f9, .ref h1, .ref h2, .ref h3, .ref h6, .ref h7, .ref h8, .ref h9, .int h0f17, .int h0f18, .int h0f19, .ref h10, .ref h11, .ref h12, .ref h13, .int h0f24, .int h0f25, .ref h14, .ref h15, .ref h16, .ref h17, .int h0f30, .int h0f31, .ref h18, .ref h19, .ref h20, .ref h21]), (h3, aJ (k 1) 9 anJ)] _ := hT
  refine lv_iconst (v := 0) hx hb dX11_times_5 (by decide) ?_
  refine lv_istore (lv' := [(4, .int 0), (0, .ref h0), (1, .ref h1), (2, .ref h2), (3, .ref h3)]) hx hb dX11_times_6 hl (by decide) rfl (fun ls hl => ?_)
  have lp8_5 : ∀ (n : Nat) (y4 : Int32) (H : Heap) (locs : List Loc) (ls : Array Slot), (0 ≤ y4.toInt ∧ y4.toInt ≤ 3) → (h0f0.toInt + (-1) * y4.toInt + 1).toNat < n → TP D A [(h1, aJ (k 1) 9 anJ), (h2, aJ (k 1) 9 anJ), (h0, ob 8 [.int h0f0, .int h0f1, .int h0f2, .int h0f3, .int h0f4, .int h0f5, .ref h4, .ref h5, .int h0f8, .int h0f9, .ref h1, .ref h2, .ref h3, .ref h6, .ref h7, .ref h8, .ref h9, .int h0f17, .int h0f18, .int h0f19, .ref h10, .ref h11, .ref h12, .ref h13, .int h0f24, .int h0f25, .ref h14, .ref h15, .ref h16, .ref h17, .int h0f30, .int h0f31, .ref h18, .ref h19, .ref h20, .ref h21]), (h3, aJ (k 1) 9 anJ)] H → va_S A s.heap H locs → lv_has ls 7 [(0, .ref h0), (1, .ref h1), (2, .ref h2), (3, .ref h3), (4, .int y4)] → W p l e Rm_cX11_times_a1754 s m args below meth c H locs 0 0 Q (F0 m 8 ls []) := by
    intro n
    induction n with
    | zero => intro y4 H locs ls b_y4 hm hT hS hl; exact absurd hm (Nat.not_lt_zero _)
    | succ n ih =>
      intro y4 H locs ls b_y4 hm hT hS hl
      have ih8_5 := ih
      clear ih
      refine lv_iload hx hb dX11_times_8 (lv_at hl 4 rfl) ?_
      refine lv_aload_n hx hb dX11_times_10 rfl (lv_at hl 0 rfl) ?_
      refine tz_get (ci := 8) (v := .int h0f0) (C := RX11) (F := TX11) (N := 36) hx hb hU iX11 hown hK hT 2 rfl rfl 0 (by decide) w785 (fun _ h9 => h9) rfl dX11_times_11 ?_
      refine lv_icmp_ge (tgt := 90) hx hb dX11_times_14 (by decide) (fun c_6 => ?_) (fun c_6 => ?_)
      · skip
        have c_6 := ni_le c_6 rfl rfl
        exact tz_retV (B := B_cX11_times_a1754 D k h0 h1 h2 h3 h4 h5 h6 h7 h8 h9 h10 h11 h12 h13 h14 h15 h16 h17 h18 h19 h20 h21 h0f0 h0f1 h0f2 h0f3 h0f4 h0f5 h0f8 h0f9 h0f17 h0f18 h0f19 h0f24 h0f25 h0f30 h0f31) hQ hx hb hr hlocks hS (Nat.le_of_ble_eq_true rfl) (Nat.le_of_ble_eq_true rfl) dX11_times_90 ((hT.sub [2, 0, 1, 3] (by decide) rfl))
      · skip
        have c_6 := ni_nle c_6 rfl rfl
        refine lv_iconst (v := 0) hx hb dX11_times_17 (by decide) ?_
        refine lv_istore (lv' := [(5, .int 0), (0, .ref h0), (1, .ref h1), (2, .ref h2), (3, .ref h3), (4, .int y4)]) hx hb dX11_times_18 hl (by decide) rfl (fun ls hl => ?_)
        have lp20_10 : ∀ (n : Nat) (y9 : Int32) (H : Heap) (locs : List Loc) (ls : Array Slot), (0 ≤ y9.toInt ∧ y9.toInt ≤ 3) → (h0f0.toInt + (-1) * y9.toInt + 1).toNat < n → TP D A [(h1, aJ (k 1) 9 anJ), (h2, aJ (k 1) 9 anJ), (h0, ob 8 [.int h0f0, .int h0f1, .int h0f2, .int h0f3, .int h0f4, .int h0f5, .ref h4, .ref h5, .int h0f8, .int h0f9, .ref h1, .ref h2, .ref h3, .ref h6, .ref h7, .ref h8, .ref h9, .int h0f17, .int h0f18, .int h0f19, .ref h10, .ref h11, .ref h12, .ref h13, .int h0f24, .int h0f25, .ref h14, .ref h15, .ref h16, .ref h17, .int h0f30, .int h0f31, .ref h18, .ref h19, .ref h20, .ref h21]), (h3, aJ (k 1) 9 anJ)] H → va_S A s.heap H locs → lv_has ls 7 [(0, .ref h0), (1, .ref h1), (2, .ref h2), (3, .ref h3), (4, .int y4), (5, .int y9)] → W p l e Rm_cX11_times_a1754 s m args below meth c H locs 0 0 Q (F0 m 20 ls []) := by
          intro n
          induction n with
          | zero => intro y9 H locs ls b_y9 hm hT hS hl; exact absurd hm (Nat.not_lt_zero _)
          | succ n ih =>
            intro y9 H locs ls b_y9 hm hT hS hl
            have ih20_10 := ih
            clear ih
            refine lv_iload hx hb dX11_times_20 (lv_at hl 5 rfl) ?_
            refine lv_aload_n hx hb dX11_times_22 rfl (lv_at hl 0 rfl) ?_
            refine tz_get (ci := 8) (v := .int h0f0) (C := RX11) (F := TX11) (N := 36) hx hb hU iX11 hown hK hT 2 rfl rfl 0 (by decide) w785 (fun _ h9 => h9) rfl dX11_times_23 ?_
            refine lv_icmp_ge (tgt := 84) hx hb dX11_times_26 (by decide) (fun c_11 => ?_) (fun c_11 => ?_)
            · skip
              have c_11 := ni_le c_11 rfl rfl
              obtain ⟨v12, e_v12⟩ : ∃ x : Int32, x = y4 + Int32.ofInt 1 := ⟨_, rfl⟩
              have f_v12 := e_v12.symm
              have e_v12 : v12.toInt = y4.toInt + 1 := ai_add e_v12 rfl (show (Int32.ofInt 1).toInt = 1 from (by decide +kernel)) (by omega)
              refine lv_iinc (v := v12) (lv' := [(4, .int v12), (0, .ref h0), (1, .ref h1), (2, .ref h2), (3, .ref h3), (5, .int y9)]) hx hb dX11_times_84 hl (k := 4) rfl f_v12 (by decide) rfl (fun ls hl => ?_)
              refine lv_goto (tgt := 8) hx hb dX11_times_87 (by decide) ?_
              exact ih8_5 v12 _ _ _ (by omega)  (by omega) hT hS (lv_sub hl [1, 2, 3, 4, 0] rfl)
            · skip
              have c_11 := ni_nle c_11 rfl rfl
              refine lv_iconst (v := 0) hx hb dX11_times_29 (by decide) ?_
              refine lv_istore (lv' := [(6, .int 0), (0, .ref h0), (1, .ref h1), (2, .ref h2), (3, .ref h3), (4, .int y4), (5, .int y9)]) hx hb dX11_times_30 hl (by decide) rfl (fun ls hl => ?_)
              have lp32_16 : ∀ (n : Nat) (y15 : Int32) (H : Heap) (locs : List Loc) (ls : Array Slot), (0 ≤ y15.toInt ∧ y15.toInt ≤ 3) → (h0f0.toInt + (-1) * y15.toInt + 1).toNat < n → TP D A [(h1, aJ (k 1) 9 anJ), (h2, aJ (k 1) 9 anJ), (h0, ob 8 [.int h0f0, .int h0f1, .int h0f2, .int h0f3, .int h0f4, .int h0f5, .ref h4, .ref h5, .int h0f8, .int h0f9, .ref h1, .ref h2, .ref h3, .ref h6, .ref h7, .ref h8, .ref h9, .int h0f17, .int h0f18, .int h0f19, .ref h10, .ref h11, .ref h12, .ref h13, .int h0f24, .int h0f25, .ref h14, .ref h15, .ref h16, .ref h17, .int h0f30, .int h0f31, .ref h18, .ref h19, .ref h20, .ref h21]), (h3, aJ (k 1) 9 anJ)] H → va_S A s.heap H locs → lv_has ls 7 [(0, .ref h0), (1, .ref h1), (2, .ref h2), (3, .ref h3), (4, .int y4), (5, .int y9), (6, .int y15)] → W p l e Rm_cX11_times_a1754 s m args below meth c H locs 0 0 Q (F0 m 32 ls []) := by
                intro n
                induction n with
                | zero => intro y15 H locs ls b_y15 hm hT hS hl; exact absurd hm (Nat.not_lt_zero _)
                | succ n ih =>
                  intro y15 H locs ls b_y15 hm hT hS hl
                  have ih32_16 := ih
                  clear ih
                  refine lv_iload hx hb dX11_times_32 (lv_at hl 6 rfl) ?_
                  refine lv_aload_n hx hb dX11_times_34 rfl (lv_at hl 0 rfl) ?_
                  refine tz_get (ci := 8) (v := .int h0f0) (C := RX11) (F := TX11) (N := 36) hx hb hU iX11 hown hK hT 2 rfl rfl 0 (by decide) w785 (fun _ h9 => h9) rfl dX11_times_35 ?_
                  refine lv_icmp_ge (tgt := 78) hx hb dX11_times_38 (by decide) (fun c_17 => ?_) (fun c_17 => ?_)
                  · skip
                    have c_17 := ni_le c_17 rfl rfl
                    obtain ⟨v18, e_v18⟩ : ∃ x : Int32, x = y9 + Int32.ofInt 1 := ⟨_, rfl⟩
                    have f_v18 := e_v18.symm
                    have e_v18 : v18.toInt = y9.toInt + 1 := ai_add e_v18 rfl (show (Int32.ofInt 1).toInt = 1 from (by decide +kernel)) (by omega)
                    refine lv_iinc (v := v18) (lv' := [(5, .int v18), (0, .ref h0), (1, .ref h1), (2, .ref h2), (3, .ref h3), (4, .int y4), (6, .int y15)]) hx hb dX11_times_78 hl (k := 5) rfl f_v18 (by decide) rfl (fun ls hl => ?_)
                    refine lv_goto (tgt := 20) hx hb dX11_times_81 (by decide) ?_
                    exact ih20_10 v18 _ _ _ (by omega)  (by omega) hT hS (lv_sub hl [1, 2, 3, 4, 5, 0] rfl)
                  · skip
                    have c_17 := ni_nle c_17 rfl rfl
                    refine lv_aload_n hx hb dX11_times_41 rfl (lv_at hl 3 rfl) ?_
                    refine lv_iconst (v := 3) hx hb dX11_times_42 (by decide) ?_
                    refine lv_iload hx hb dX11_times_43 (lv_at hl 4 rfl) ?_
                    refine lv_imul hx hb dX11_times_45 (lv_topi (fun v19 e_v19 => ?_))
                    have e_v19 := ai_mul e_v19 li_3 rfl (by omega)
                    refine lv_iload hx hb dX11_times_46 (lv_at hl 5 rfl) ?_
                    refine lv_iadd hx hb dX11_times_48 (lv_topi (fun v20 e_v20 => ?_))
                    have e_v20 := ai_add e_v20 rfl rfl (by omega)
                    refine lv_dup2_11 hx hb dX11_times_49 rfl rfl ?_
                    refine tz_lald hx hb hK hT 3 rfl (by omega) dX11_times_50 (fun v21 e_v21 => ?_)
                    clear e_v21
                    refine lv_aload_n hx hb dX11_times_51 rfl (lv_at hl 1 rfl) ?_
                    refine lv_iconst (v := 3) hx hb dX11_times_52 (by decide) ?_
                    refine lv_iload hx hb dX11_times_53 (lv_at hl 4 rfl) ?_
                    refine lv_imul hx hb dX11_times_55 (lv_topi (fun v22 e_v22 => ?_))
                    have e_v22 := ai_mul e_v22 li_3 rfl (by omega)
                    refine lv_iload hx hb dX11_times_56 (lv_at hl 6 rfl) ?_
                    refine lv_iadd hx hb dX11_times_58 (lv_topi (fun v23 e_v23 => ?_))
                    have e_v23 := ai_add e_v23 rfl rfl (by omega)
                    refine tz_lald hx hb hK hT 0 rfl (by omega) dX11_times_59 (fun v24 e_v24 => ?_)
                    clear e_v24
                    refine lv_aload_n hx hb dX11_times_60 rfl (lv_at hl 2 rfl) ?_
                    refine lv_iconst (v := 3) hx hb dX11_times_61 (by decide) ?_
                    refine lv_iload hx hb dX11_times_62 (lv_at hl 6 rfl) ?_
                    refine lv_imul hx hb dX11_times_64 (lv_topi (fun v25 e_v25 => ?_))
                    have e_v25 := ai_mul e_v25 li_3 rfl (by omega)
                    refine lv_iload hx hb dX11_times_65 (lv_at hl 5 rfl) ?_
                    refine lv_iadd hx hb dX11_times_67 (lv_topi (fun v26 e_v26 => ?_))
                    have e_v26 := ai_add e_v26 rfl rfl (by omega)
                    refine tz_lald hx hb hK hT 1 rfl (by omega) dX11_times_68 (fun v27 e_v27 => ?_)
                    clear e_v27
                    refine lv_lmul hx hb dX11_times_69 (lv_topl (fun v28 e_v28 => ?_))
                    refine lv_ladd hx hb dX11_times_70 (lv_topl (fun v29 e_v29 => ?_))
                    refine tz_last hx hb hK hT hS 3 rfl (by omega) (fun _ _ => trivial) dX11_times_71 (fun H locs hT hS => ?_)
                    obtain ⟨v30, e_v30⟩ : ∃ x : Int32, x = y15 + Int32.ofInt 1 := ⟨_, rfl⟩
                    have f_v30 := e_v30.symm
                    have e_v30 : v30.toInt = y15.toInt + 1 := ai_add e_v30 rfl (show (Int32.ofInt 1).toInt = 1 from (by decide +kernel)) (by omega)
                    refine lv_iinc (v := v30) (lv' := [(6, .int v30), (0, .ref h0), (1, .ref h1), (2, .ref h2), (3, .ref h3), (4, .int y4), (5, .int y9)]) hx hb dX11_times_72 hl (k := 6) rfl f_v30 (by decide) rfl (fun ls hl => ?_)
                    refine lv_goto (tgt := 32) hx hb dX11_times_75 (by decide) ?_
                    exact ih32_16 v30 _ _ _ (by omega)  (by omega) hT hS (lv_sub hl [1, 2, 3, 4, 5, 6, 0] rfl)
              exact lp32_16 ((h0f0.toInt + (-1) * (0 : Int32).toInt + 1).toNat + 1) (0) _ _ _ (by have := li_0; omega)  (Nat.lt_succ_self _) hT hS (lv_sub hl [1, 2, 3, 4, 5, 6, 0] rfl)
        exact lp20_10 ((h0f0.toInt + (-1) * (0 : Int32).toInt + 1).toNat + 1) (0) _ _ _ (by have := li_0; omega)  (Nat.lt_succ_self _) hT hS (lv_sub hl [1, 2, 3, 4, 5, 0] rfl)
  exact lp8_5 ((h0f0.toInt + (-1) * (0 : Int32).toInt + 1).toNat + 1) (0) _ _ _ (by have := li_0; omega)  (Nat.lt_succ_self _) hT hS (lv_sub hl [1, 2, 3, 4, 0] rfl)
abbrev Rm_cX11_keepsAll_09e70 : Room := { frames := 2, cells := 0, slots := 0, locals := 48 }
abbrev B_cX11_keepsAll_09e70 (D : va_G) (k : Nat → ClassId) (h0 h1 h3 h4 h5 h6 h2 h7 h8 h9 h10 h11 h12 h13 h14 h15 h16 h17 h18 h19 h20 h21 : Nat) (h0f0 : Int32) (h0f1 : Int32) (h0f2 : Int32) (h0f3 : Int32) (h0f4 : Int32) (h0f5 : Int32) (h0f8 : Int32) (h0f9 : Int32) (h0f17 : Int32) (h0f18 : Int32) (h0f19 : Int32) (h0f24 : Int32) (h0f25 : Int32) (h0f30 : Int32) (h0f31 : Int32) (A : Nat → Prop) (r : Int32) (H : Heap) : Prop := (0 ≤ r.toInt ∧ r.toInt ≤ 1) ∧ TP D A [(h0, ob 8 [.int h0f0, .int h0f1, .int h0f2, .int h0f3, .int h0f4, .int h0f5, .ref h1, .ref h2, .int h0f8, .int h0f9, .ref h3, .ref h4, .ref h5, .ref h6, .ref h7, .ref h8, .ref h9, .int h0f17, .int h0f18, .int h0f19, .ref h10, .ref h11, .ref h12, .ref h13, .int h0f24, .int h0f25, .ref h14, .ref h15, .ref h16, .ref h17, .int h0f30, .int h0f31, .ref h18, .ref h19, .ref h20, .ref h21]), (h1, aI (k 0) 36 anI), (h3, aJ (k 1) 9 anJ), (h4, aJ (k 1) 9 anJ), (h5, aJ (k 1) 9 anJ), (h6, aJ (k 1) 9 anJ)] H
set_option maxHeartbeats 4000000 in
set_option maxRecDepth 100000 in
theorem cX11_keepsAll_09e70 (l : Launch) (D : va_G) (k : Nat → ClassId) (sz : Nat) (h0 h1 h3 h4 h5 h6 h2 h7 h8 h9 h10 h11 h12 h13 h14 h15 h16 h17 h18 h19 h20 h21 : Nat) (h0f0 : Int32) (h0f1 : Int32) (h0f2 : Int32) (h0f3 : Int32) (h0f4 : Int32) (h0f5 : Int32) (h0f8 : Int32) (h0f9 : Int32) (h0f17 : Int32) (h0f18 : Int32) (h0f19 : Int32) (h0f24 : Int32) (h0f25 : Int32) (h0f30 : Int32) (h0f31 : Int32) (b_h0f0 : 1 ≤ h0f0.toInt ∧ h0f0.toInt ≤ 3) (b_h0f1 : 0 ≤ h0f1.toInt ∧ h0f1.toInt ≤ 4) (b_h0f3 : 0 ≤ h0f3.toInt ∧ h0f3.toInt ≤ 3) (b_h0f4 : 0 ≤ h0f4.toInt ∧ h0f4.toInt ≤ 4) (b_h0f8 : 0 ≤ h0f8.toInt ∧ h0f8.toInt ≤ 1) (b_h0f9 : 0 ≤ h0f9.toInt ∧ h0f9.toInt ≤ 1) (b_h0f17 : 0 ≤ h0f17.toInt ∧ h0f17.toInt ≤ 120) (b_h0f18 : 0 ≤ h0f18.toInt ∧ h0f18.toInt ≤ 120) (b_h0f19 : 0 ≤ h0f19.toInt ∧ h0f19.toInt ≤ 4) (b_h0f24 : 0 ≤ h0f24.toInt ∧ h0f24.toInt ≤ 100) (b_h0f25 : 0 ≤ h0f25.toInt ∧ h0f25.toInt ≤ 1) (b_h0f30 : 0 ≤ h0f30.toInt ∧ h0f30.toInt ≤ 60) (b_h0f31 : 0 ≤ h0f31.toInt ∧ h0f31.toInt ≤ 1) (i_0 : h0f8.toInt ≤ h0f3.toInt) (i_1 : h0f9.toInt ≤ h0f24.toInt) : Met l yX11_keepsAll (Cond.code yX11_keepsAll cX11_keepsAll 6 (some .boolean) :: uw) Rm_cX11_keepsAll_09e70 (pT D k sz [.ref h0] [(h0, ob 8 [.int h0f0, .int h0f1, .int h0f2, .int h0f3, .int h0f4, .int h0f5, .ref h1, .ref h2, .int h0f8, .int h0f9, .ref h3, .ref h4, .ref h5, .ref h6, .ref h7, .ref h8, .ref h9, .int h0f17, .int h0f18, .int h0f19, .ref h10, .ref h11, .ref h12, .ref h13, .int h0f24, .int h0f25, .ref h14, .ref h15, .ref h16, .ref h17, .int h0f30, .int h0f31, .ref h18, .ref h19, .ref h20, .ref h21]), (h1, aI (k 0) 36 anI), (h3, aJ (k 1) 9 anJ), (h4, aJ (k 1) 9 anJ), (h5, aJ (k 1) 9 anJ), (h6, aJ (k 1) 9 anJ)]) (qI (B_cX11_keepsAll_09e70 D k h0 h1 h3 h4 h5 h6 h2 h7 h8 h9 h10 h11 h12 h13 h14 h15 h16 h17 h18 h19 h20 h21 h0f0 h0f1 h0f2 h0f3 h0f4 h0f5 h0f8 h0f9 h0f17 h0f18 h0f19 h0f24 h0f25 h0f30 h0f31 (zA [h0, h1, h3, h4, h5, h6] sz)) (zA [h0, h1, h3, h4, h5, h6] sz)) 0 0 (zA [h0, h1, h3, h4, h5, h6] sz) := by
  refine tz_begin (as := [h0, h1, h3, h4, h5, h6]) (Qc := fun A => qI (B_cX11_keepsAll_09e70 D k h0 h1 h3 h4 h5 h6 h2 h7 h8 h9 h10 h11 h12 h13 h14 h15 h16 h17 h18 h19 h20 h21 h0f0 h0f1 h0f2 h0f3 h0f4 h0f5 h0f8 h0f9 h0f17 h0f18 h0f19 h0f24 h0f25 h0f30 h0f31 A) A) (by decide +kernel) rfl (Nat.le_of_ble_eq_true rfl) ?_
  intro p e s m args below meth c ls A Q hx hb hr hml hown hlocks hin hU hK hT hS hA hl hQ
  have hl : lv_has ls 6 [(0, .ref h0)] := hl
  have hT : TP D A [(h0, ob 8 [.int h0f0, .int h0f1, .int h0f2, .int h0f3, .int h0f4, .int h0f5, .ref h1, .ref h2, .int h0f8, .int h0f9, .ref h3, .ref h4, .ref h5, .ref h6, .ref h7, .ref h8, .ref h9, .int h0f17, .int h0f18, .int h0f19, .ref h10, .ref h11, .ref h12, .ref h13, .int h0f24, .int h0f25, .ref h14, .ref h15, .ref h16, .ref h17, .int h0f30, .int h0f31, .ref h18, .ref h19, .ref h20, .ref h21]), (h1, aI (k 0) 36 anI), (h3, aJ (k 1) 9 anJ), (h4, aJ (k 1) 9 anJ), (h5, aJ (k 1) 9 anJ), (h6, aJ (k 1) 9 anJ)] s.heap := hT
  have lp90_8 : ∀ (n : Nat) (y6 : Int32) (y7 : Int32) (H : Heap) (locs : List Loc) (ls : Array Slot), (0 ≤ y6.toInt ∧ y6.toInt ≤ 3) → (0 ≤ y7.toInt ∧ y7.toInt ≤ 1) → (h0f0.toInt + (-1) * y6.toInt + 1).toNat < n → TP D A [(h0, ob 8 [.int h0f0, .int h0f1, .int h0f2, .int h0f3, .int h0f4, .int h0f5, .ref h1, .ref h2, .int h0f8, .int h0f9, .ref h3, .ref h4, .ref h5, .ref h6, .ref h7, .ref h8, .ref h9, .int h0f17, .int h0f18, .int h0f19, .ref h10, .ref h11, .ref h12, .ref h13, .int h0f24, .int h0f25, .ref h14, .ref h15, .ref h16, .ref h17, .int h0f30, .int h0f31, .ref h18, .ref h19, .ref h20, .ref h21]), (h1, aI (k 0) 36 anI), (h3, aJ (k 1) 9 anJ), (h4, aJ (k 1) 9 anJ), (h5, aJ (k 1) 9 anJ), (h6, aJ (k 1) 9 anJ)] H → va_S A s.heap H locs → lv_has ls 6 [(0, .ref h0), (1, .int y7), (2, .int y6)] → W p l e Rm_cX11_keepsAll_09e70 s m args below meth c H locs 0 0 Q (F0 m 90 ls []) := by
    intro n
    induction n with
    | zero => intro y6 y7 H locs ls b_y6 b_y7 hm hT hS hl; exact absurd hm (Nat.not_lt_zero _)
    | succ n ih =>
      intro y6 y7 H locs ls b_y6 b_y7 hm hT hS hl
      have ih90_8 := ih
      clear ih
      refine lv_iload_n hx hb dX11_keepsAll_90 rfl (lv_at hl 2 rfl) ?_
      refine lv_aload_n hx hb dX11_keepsAll_91 rfl (lv_at hl 0 rfl) ?_
      refine tz_get (ci := 8) (v := .int h0f0) (C := RX11) (F := TX11) (N := 36) hx hb hU iX11 hown hK hT 0 rfl rfl 0 (by decide) w785 (fun _ h9 => h9) rfl dX11_keepsAll_92 ?_
      refine lv_icmp_ge (tgt := 154) hx hb dX11_keepsAll_95 (by decide) (fun c_9 => ?_) (fun c_9 => ?_)
      · skip
        have c_9 := ni_le c_9 rfl rfl
        refine lv_iconst (v := 0) hx hb dX11_keepsAll_154 (by decide) ?_
        refine lv_istore_n (lv' := [(2, .int 0), (0, .ref h0), (1, .int y7)]) hx hb dX11_keepsAll_155 rfl hl (by decide) rfl (fun ls hl => ?_)
        have lp156_18 : ∀ (n : Nat) (y16 : Int32) (y17 : Int32) (H : Heap) (locs : List Loc) (ls : Array Slot), (0 ≤ y16.toInt ∧ y16.toInt ≤ 4) → (0 ≤ y17.toInt ∧ y17.toInt ≤ 1) → (h0f1.toInt + (-1) * y16.toInt + 1).toNat < n → TP D A [(h0, ob 8 [.int h0f0, .int h0f1, .int h0f2, .int h0f3, .int h0f4, .int h0f5, .ref h1, .ref h2, .int h0f8, .int h0f9, .ref h3, .ref h4, .ref h5, .ref h6, .ref h7, .ref h8, .ref h9, .int h0f17, .int h0f18, .int h0f19, .ref h10, .ref h11, .ref h12, .ref h13, .int h0f24, .int h0f25, .ref h14, .ref h15, .ref h16, .ref h17, .int h0f30, .int h0f31, .ref h18, .ref h19, .ref h20, .ref h21]), (h1, aI (k 0) 36 anI), (h3, aJ (k 1) 9 anJ), (h4, aJ (k 1) 9 anJ), (h5, aJ (k 1) 9 anJ), (h6, aJ (k 1) 9 anJ)] H → va_S A s.heap H locs → lv_has ls 6 [(0, .ref h0), (1, .int y17), (2, .int y16)] → W p l e Rm_cX11_keepsAll_09e70 s m args below meth c H locs 0 0 Q (F0 m 156 ls []) := by
          intro n
          induction n with
          | zero => intro y16 y17 H locs ls b_y16 b_y17 hm hT hS hl; exact absurd hm (Nat.not_lt_zero _)
          | succ n ih =>
            intro y16 y17 H locs ls b_y16 b_y17 hm hT hS hl
            have ih156_18 := ih
            clear ih
            refine lv_iload_n hx hb dX11_keepsAll_156 rfl (lv_at hl 2 rfl) ?_
            refine lv_aload_n hx hb dX11_keepsAll_157 rfl (lv_at hl 0 rfl) ?_
            refine tz_get (ci := 8) (v := .int h0f1) (C := RX11) (F := TX11) (N := 36) hx hb hU iX11 hown hK hT 0 rfl rfl 1 (by decide) w786 (fun _ h9 => h9) rfl dX11_keepsAll_158 ?_
            refine lv_icmp_ge (tgt := 329) hx hb dX11_keepsAll_161 (by decide) (fun c_19 => ?_) (fun c_19 => ?_)
            · skip
              have c_19 := ni_le c_19 rfl rfl
              refine lv_iload_n hx hb dX11_keepsAll_329 rfl (lv_at hl 1 rfl) ?_
              exact tz_retZ (B := B_cX11_keepsAll_09e70 D k h0 h1 h3 h4 h5 h6 h2 h7 h8 h9 h10 h11 h12 h13 h14 h15 h16 h17 h18 h19 h20 h21 h0f0 h0f1 h0f2 h0f3 h0f4 h0f5 h0f8 h0f9 h0f17 h0f18 h0f19 h0f24 h0f25 h0f30 h0f31) (v := y17) hQ hx hb hr hlocks hS (Nat.le_of_ble_eq_true rfl) (Nat.le_of_ble_eq_true rfl) dX11_keepsAll_330 (by omega) (⟨(by omega), hT⟩)
            · skip
              have c_19 := ni_nle c_19 rfl rfl
              refine lv_aload_n hx hb dX11_keepsAll_164 rfl (lv_at hl 0 rfl) ?_
              refine lv_iload_n hx hb dX11_keepsAll_165 rfl (lv_at hl 2 rfl) ?_
              refine lv_aload_n hx hb dX11_keepsAll_166 rfl (lv_at hl 0 rfl) ?_
              refine tz_get (ci := 8) (v := .ref h4) (C := RX11) (F := TX11) (N := 36) hx hb hU iX11 hown hK hT 0 rfl rfl 11 (by decide) w796 (fun _ h9 => h9) rfl dX11_keepsAll_167 ?_
              refine tcV (Tc := [(h0, ob 8 [.int h0f0, .int h0f1, .int h0f2, .int h0f3, .int h0f4, .int h0f5, .ref h1, .ref h2, .int h0f8, .int h0f9, .ref h3, .ref h4, .ref h5, .ref h6, .ref h7, .ref h8, .ref h9, .int h0f17, .int h0f18, .int h0f19, .ref h10, .ref h11, .ref h12, .ref h13, .int h0f24, .int h0f25, .ref h14, .ref h15, .ref h16, .ref h17, .int h0f30, .int h0f31, .ref h18, .ref h19, .ref h20, .ref h21]), (h4, aJ (k 1) 9 anJ), (h1, aI (k 0) 36 anI)]) (Tr := [(h3, aJ (k 1) 9 anJ), (h5, aJ (k 1) 9 anJ), (h6, aJ (k 1) 9 anJ)]) (as := [h0, h4, h1]) (zcV (q0 := 0) (ci := 8) (As := [.int y16, .ref h4]) (rest := []) (Tc := [(h0, ob 8 [.int h0f0, .int h0f1, .int h0f2, .int h0f3, .int h0f4, .int h0f5, .ref h1, .ref h2, .int h0f8, .int h0f9, .ref h3, .ref h4, .ref h5, .ref h6, .ref h7, .ref h8, .ref h9, .int h0f17, .int h0f18, .int h0f19, .ref h10, .ref h11, .ref h12, .ref h13, .int h0f24, .int h0f25, .ref h14, .ref h15, .ref h16, .ref h17, .int h0f30, .int h0f31, .ref h18, .ref h19, .ref h20, .ref h21]), (h4, aJ (k 1) 9 anJ), (h1, aI (k 0) 36 anI)]) hx hb hml hown hU hK hT rfl rfl [0, 3, 1] rfl (by decide) (cX11_takes_35579 l D k _ h0 h4 h1 h2 h3 h5 h6 h7 h8 h9 h10 h11 h12 h13 h14 h15 h16 h17 h18 h19 h20 h21 y16 h0f0 h0f1 h0f2 h0f3 h0f4 h0f5 h0f8 h0f9 h0f17 h0f18 h0f19 h0f24 h0f25 h0f30 h0f31 (by omega) (by omega) (by omega) (by omega) (by omega) (by omega) (by omega) (by omega) (by omega) (by omega) (by omega) (by omega) (by omega) (by omega) (by omega) (by omega)) w939 w936 w938 w32 w72 hdX11_takes ⟨rfl, rfl⟩ ⟨Nat.le_of_ble_eq_true rfl, Nat.le_of_ble_eq_true rfl⟩ rfl hl.1 (Nat.le_of_ble_eq_true rfl) dX11_keepsAll_170 ⟨Nat.le_of_ble_eq_true rfl, Nat.le_of_ble_eq_true rfl⟩) hT hS hA [0, 3, 1] [2, 4, 5] rfl rfl rfl (by decide) (by decide) (fun H locs hB J hS => ?_)
              have hT1 := hB
              have hT := J _ hT1
              have hT : TP D A [(h3, aJ (k 1) 9 anJ), (h5, aJ (k 1) 9 anJ), (h6, aJ (k 1) 9 anJ), (h0, ob 8 [.int h0f0, .int h0f1, .int h0f2, .int h0f3, .int h0f4, .int h0f5, .ref h1, .ref h2, .int h0f8, .int h0f9, .ref h3, .ref h4, .ref h5, .ref h6, .ref h7, .ref h8, .ref h9, .int h0f17, .int h0f18, .int h0f19, .ref h10, .ref h11, .ref h12, .ref h13, .int h0f24, .int h0f25, .ref h14, .ref h15, .ref h16, .ref h17, .int h0f30, .int h0f31, .ref h18, .ref h19, .ref h20, .ref h21]), (h4, aJ (k 1) 9 anJ), (h1, aI (k 0) 36 anI)] _ := hT
              refine lv_aload_n hx hb dX11_keepsAll_173 rfl (lv_at hl 0 rfl) ?_
              refine lv_aload_n hx hb dX11_keepsAll_174 rfl (lv_at hl 0 rfl) ?_
              refine tz_get (ci := 8) (v := .ref h3) (C := RX11) (F := TX11) (N := 36) hx hb hU iX11 hown hK hT 3 rfl rfl 10 (by decide) w795 (fun _ h9 => h9) rfl dX11_keepsAll_175 ?_
              refine lv_aload_n hx hb dX11_keepsAll_178 rfl (lv_at hl 0 rfl) ?_
              refine tz_get (ci := 8) (v := .ref h4) (C := RX11) (F := TX11) (N := 36) hx hb hU iX11 hown hK hT 3 rfl rfl 11 (by decide) w796 (fun _ h9 => h9) rfl dX11_keepsAll_179 ?_
              refine lv_aload_n hx hb dX11_keepsAll_182 rfl (lv_at hl 0 rfl) ?_
              refine tz_get (ci := 8) (v := .ref h5) (C := RX11) (F := TX11) (N := 36) hx hb hU iX11 hown hK hT 3 rfl rfl 12 (by decide) w797 (fun _ h9 => h9) rfl dX11_keepsAll_183 ?_
              refine tcV (Tc := [(h0, ob 8 [.int h0f0, .int h0f1, .int h0f2, .int h0f3, .int h0f4, .int h0f5, .ref h1, .ref h2, .int h0f8, .int h0f9, .ref h3, .ref h4, .ref h5, .ref h6, .ref h7, .ref h8, .ref h9, .int h0f17, .int h0f18, .int h0f19, .ref h10, .ref h11, .ref h12, .ref h13, .int h0f24, .int h0f25, .ref h14, .ref h15, .ref h16, .ref h17, .int h0f30, .int h0f31, .ref h18, .ref h19, .ref h20, .ref h21]), (h3, aJ (k 1) 9 anJ), (h4, aJ (k 1) 9 anJ), (h5, aJ (k 1) 9 anJ)]) (Tr := [(h6, aJ (k 1) 9 anJ), (h1, aI (k 0) 36 anI)]) (as := [h0, h3, h4, h5]) (zcV (q0 := 3) (ci := 8) (As := [.ref h3, .ref h4, .ref h5]) (rest := []) (Tc := [(h0, ob 8 [.int h0f0, .int h0f1, .int h0f2, .int h0f3, .int h0f4, .int h0f5, .ref h1, .ref h2, .int h0f8, .int h0f9, .ref h3, .ref h4, .ref h5, .ref h6, .ref h7, .ref h8, .ref h9, .int h0f17, .int h0f18, .int h0f19, .ref h10, .ref h11, .ref h12, .ref h13, .int h0f24, .int h0f25, .ref h14, .ref h15, .ref h16, .ref h17, .int h0f30, .int h0f31, .ref h18, .ref h19, .ref h20, .ref h21]), (h3, aJ (k 1) 9 anJ), (h4, aJ (k 1) 9 anJ), (h5, aJ (k 1) 9 anJ)]) hx hb hml hown hU hK hT rfl rfl [3, 0, 4, 1] rfl (by decide) (cX11_times_a1754 l D k _ h0 h3 h4 h5 h1 h2 h6 h7 h8 h9 h10 h11 h12 h13 h14 h15 h16 h17 h18 h19 h20 h21 h0f0 h0f1 h0f2 h0f3 h0f4 h0f5 h0f8 h0f9 h0f17 h0f18 h0f19 h0f24 h0f25 h0f30 h0f31 (by omega) (by omega) (by omega) (by omega) (by omega) (by omega) (by omega) (by omega) (by omega) (by omega) (by omega) (by omega) (by omega) (by omega) (by omega)) w943 w940 w942 w33 w72 hdX11_times ⟨rfl, rfl⟩ ⟨Nat.le_of_ble_eq_true rfl, Nat.le_of_ble_eq_true rfl⟩ rfl hl.1 (Nat.le_of_ble_eq_true rfl) dX11_keepsAll_186 ⟨Nat.le_of_ble_eq_true rfl, Nat.le_of_ble_eq_true rfl⟩) hT hS hA [3, 0, 4, 1] [2, 5] rfl rfl rfl (by decide) (by decide) (fun H locs hB J hS => ?_)
              have hT1 := hB
              have hT := J _ hT1
              have hT : TP D A [(h6, aJ (k 1) 9 anJ), (h1, aI (k 0) 36 anI), (h0, ob 8 [.int h0f0, .int h0f1, .int h0f2, .int h0f3, .int h0f4, .int h0f5, .ref h1, .ref h2, .int h0f8, .int h0f9, .ref h3, .ref h4, .ref h5, .ref h6, .ref h7, .ref h8, .ref h9, .int h0f17, .int h0f18, .int h0f19, .ref h10, .ref h11, .ref h12, .ref h13, .int h0f24, .int h0f25, .ref h14, .ref h15, .ref h16, .ref h17, .int h0f30, .int h0f31, .ref h18, .ref h19, .ref h20, .ref h21]), (h3, aJ (k 1) 9 anJ), (h4, aJ (k 1) 9 anJ), (h5, aJ (k 1) 9 anJ)] _ := hT
              refine lv_aload_n hx hb dX11_keepsAll_189 rfl (lv_at hl 0 rfl) ?_
              refine lv_aload_n hx hb dX11_keepsAll_190 rfl (lv_at hl 0 rfl) ?_
              refine tz_get (ci := 8) (v := .ref h6) (C := RX11) (F := TX11) (N := 36) hx hb hU iX11 hown hK hT 2 rfl rfl 13 (by decide) w798 (fun _ h9 => h9) rfl dX11_keepsAll_191 ?_
              refine tcV (Tc := [(h0, ob 8 [.int h0f0, .int h0f1, .int h0f2, .int h0f3, .int h0f4, .int h0f5, .ref h1, .ref h2, .int h0f8, .int h0f9, .ref h3, .ref h4, .ref h5, .ref h6, .ref h7, .ref h8, .ref h9, .int h0f17, .int h0f18, .int h0f19, .ref h10, .ref h11, .ref h12, .ref h13, .int h0f24, .int h0f25, .ref h14, .ref h15, .ref h16, .ref h17, .int h0f30, .int h0f31, .ref h18, .ref h19, .ref h20, .ref h21]), (h6, aJ (k 1) 9 anJ)]) (Tr := [(h1, aI (k 0) 36 anI), (h3, aJ (k 1) 9 anJ), (h4, aJ (k 1) 9 anJ), (h5, aJ (k 1) 9 anJ)]) (as := [h0, h6]) (zcV (q0 := 2) (ci := 8) (As := [.ref h6]) (rest := []) (Tc := [(h0, ob 8 [.int h0f0, .int h0f1, .int h0f2, .int h0f3, .int h0f4, .int h0f5, .ref h1, .ref h2, .int h0f8, .int h0f9, .ref h3, .ref h4, .ref h5, .ref h6, .ref h7, .ref h8, .ref h9, .int h0f17, .int h0f18, .int h0f19, .ref h10, .ref h11, .ref h12, .ref h13, .int h0f24, .int h0f25, .ref h14, .ref h15, .ref h16, .ref h17, .int h0f30, .int h0f31, .ref h18, .ref h19, .ref h20, .ref h21]), (h6, aJ (k 1) 9 anJ)]) hx hb hml hown hU hK hT rfl rfl [2, 0] rfl (by decide) (cX11_clears_8948d l D k _ h0 h6 h1 h2 h3 h4 h5 h7 h8 h9 h10 h11 h12 h13 h14 h15 h16 h17 h18 h19 h20 h21 h0f0 h0f1 h0f2 h0f3 h0f4 h0f5 h0f8 h0f9 h0f17 h0f18 h0f19 h0f24 h0f25 h0f30 h0f31 (by omega) (by omega) (by omega) (by omega) (by omega) (by omega) (by omega) (by omega) (by omega) (by omega) (by omega) (by omega) (by omega) (by omega) (by omega)) w923 w920 w922 w29 w72 hdX11_clears ⟨rfl, rfl⟩ ⟨Nat.le_of_ble_eq_true rfl, Nat.le_of_ble_eq_true rfl⟩ rfl hl.1 (Nat.le_of_ble_eq_true rfl) dX11_keepsAll_194 ⟨Nat.le_of_ble_eq_true rfl, Nat.le_of_ble_eq_true rfl⟩) hT hS hA [2, 0] [1, 3, 4, 5] rfl rfl rfl (by decide) (by decide) (fun H locs hB J hS => ?_)
              have hT1 := hB
              have hT := J _ hT1
              have hT : TP D A [(h1, aI (k 0) 36 anI), (h3, aJ (k 1) 9 anJ), (h4, aJ (k 1) 9 anJ), (h5, aJ (k 1) 9 anJ), (h0, ob 8 [.int h0f0, .int h0f1, .int h0f2, .int h0f3, .int h0f4, .int h0f5, .ref h1, .ref h2, .int h0f8, .int h0f9, .ref h3, .ref h4, .ref h5, .ref h6, .ref h7, .ref h8, .ref h9, .int h0f17, .int h0f18, .int h0f19, .ref h10, .ref h11, .ref h12, .ref h13, .int h0f24, .int h0f25, .ref h14, .ref h15, .ref h16, .ref h17, .int h0f30, .int h0f31, .ref h18, .ref h19, .ref h20, .ref h21]), (h6, aJ (k 1) 9 anJ)] _ := hT
              refine lv_iconst (v := 0) hx hb dX11_keepsAll_197 (by decide) ?_
              refine lv_istore_n (lv' := [(3, .int 0), (0, .ref h0), (1, .int y17), (2, .int y16)]) hx hb dX11_keepsAll_198 rfl hl (by decide) rfl (fun ls hl => ?_)
              have lp199_29 : ∀ (n : Nat) (y27 : Int32) (y28 : Int32) (H : Heap) (locs : List Loc) (ls : Array Slot), (0 ≤ y27.toInt ∧ y27.toInt ≤ 3) → (0 ≤ y28.toInt ∧ y28.toInt ≤ 1) → (h0f0.toInt + (-1) * y27.toInt + 1).toNat < n → TP D A [(h1, aI (k 0) 36 anI), (h3, aJ (k 1) 9 anJ), (h4, aJ (k 1) 9 anJ), (h5, aJ (k 1) 9 anJ), (h0, ob 8 [.int h0f0, .int h0f1, .int h0f2, .int h0f3, .int h0f4, .int h0f5, .ref h1, .ref h2, .int h0f8, .int h0f9, .ref h3, .ref h4, .ref h5, .ref h6, .ref h7, .ref h8, .ref h9, .int h0f17, .int h0f18, .int h0f19, .ref h10, .ref h11, .ref h12, .ref h13, .int h0f24, .int h0f25, .ref h14, .ref h15, .ref h16, .ref h17, .int h0f30, .int h0f31, .ref h18, .ref h19, .ref h20, .ref h21]), (h6, aJ (k 1) 9 anJ)] H → va_S A s.heap H locs → lv_has ls 6 [(0, .ref h0), (1, .int y28), (2, .int y16), (3, .int y27)] → W p l e Rm_cX11_keepsAll_09e70 s m args below meth c H locs 0 0 Q (F0 m 199 ls []) := by
                intro n
                induction n with
                | zero => intro y27 y28 H locs ls b_y27 b_y28 hm hT hS hl; exact absurd hm (Nat.not_lt_zero _)
                | succ n ih =>
                  intro y27 y28 H locs ls b_y27 b_y28 hm hT hS hl
                  have ih199_29 := ih
                  clear ih
                  refine lv_iload_n hx hb dX11_keepsAll_199 rfl (lv_at hl 3 rfl) ?_
                  refine lv_aload_n hx hb dX11_keepsAll_200 rfl (lv_at hl 0 rfl) ?_
                  refine tz_get (ci := 8) (v := .int h0f0) (C := RX11) (F := TX11) (N := 36) hx hb hU iX11 hown hK hT 4 rfl rfl 0 (by decide) w785 (fun _ h9 => h9) rfl dX11_keepsAll_201 ?_
                  refine lv_icmp_ge (tgt := 323) hx hb dX11_keepsAll_204 (by decide) (fun c_30 => ?_) (fun c_30 => ?_)
                  · skip
                    have c_30 := ni_le c_30 rfl rfl
                    obtain ⟨v31, e_v31⟩ : ∃ x : Int32, x = y16 + Int32.ofInt 1 := ⟨_, rfl⟩
                    have f_v31 := e_v31.symm
                    have e_v31 : v31.toInt = y16.toInt + 1 := ai_add e_v31 rfl (show (Int32.ofInt 1).toInt = 1 from (by decide +kernel)) (by omega)
                    refine lv_iinc (v := v31) (lv' := [(2, .int v31), (0, .ref h0), (1, .int y28), (3, .int y27)]) hx hb dX11_keepsAll_323 hl (k := 2) rfl f_v31 (by decide) rfl (fun ls hl => ?_)
                    refine lv_goto (tgt := 156) hx hb dX11_keepsAll_326 (by decide) ?_
                    exact ih156_18 v31 y28 _ _ _ (by omega) (by omega)  (by omega) (hT.sub [4, 0, 1, 2, 3, 5] (by decide) rfl) hS (lv_sub hl [1, 2, 0] rfl)
                  · skip
                    have c_30 := ni_nle c_30 rfl rfl
                    refine lv_iconst (v := 0) hx hb dX11_keepsAll_207 (by decide) ?_
                    refine lv_istore (lv' := [(4, .int 0), (0, .ref h0), (1, .int y28), (2, .int y16), (3, .int y27)]) hx hb dX11_keepsAll_208 hl (by decide) rfl (fun ls hl => ?_)
                    have lp210_38 : ∀ (n : Nat) (y36 : Int32) (y37 : Int32) (H : Heap) (locs : List Loc) (ls : Array Slot), (0 ≤ y36.toInt ∧ y36.toInt ≤ 3) → (0 ≤ y37.toInt ∧ y37.toInt ≤ 1) → (h0f0.toInt + (-1) * y36.toInt + 1).toNat < n → TP D A [(h1, aI (k 0) 36 anI), (h3, aJ (k 1) 9 anJ), (h4, aJ (k 1) 9 anJ), (h5, aJ (k 1) 9 anJ), (h0, ob 8 [.int h0f0, .int h0f1, .int h0f2, .int h0f3, .int h0f4, .int h0f5, .ref h1, .ref h2, .int h0f8, .int h0f9, .ref h3, .ref h4, .ref h5, .ref h6, .ref h7, .ref h8, .ref h9, .int h0f17, .int h0f18, .int h0f19, .ref h10, .ref h11, .ref h12, .ref h13, .int h0f24, .int h0f25, .ref h14, .ref h15, .ref h16, .ref h17, .int h0f30, .int h0f31, .ref h18, .ref h19, .ref h20, .ref h21]), (h6, aJ (k 1) 9 anJ)] H → va_S A s.heap H locs → lv_has ls 6 [(0, .ref h0), (1, .int y37), (2, .int y16), (3, .int y27), (4, .int y36)] → W p l e Rm_cX11_keepsAll_09e70 s m args below meth c H locs 0 0 Q (F0 m 210 ls []) := by
                      intro n
                      induction n with
                      | zero => intro y36 y37 H locs ls b_y36 b_y37 hm hT hS hl; exact absurd hm (Nat.not_lt_zero _)
                      | succ n ih =>
                        intro y36 y37 H locs ls b_y36 b_y37 hm hT hS hl
                        have ih210_38 := ih
                        clear ih
                        refine lv_iload hx hb dX11_keepsAll_210 (lv_at hl 4 rfl) ?_
                        refine lv_aload_n hx hb dX11_keepsAll_212 rfl (lv_at hl 0 rfl) ?_
                        refine tz_get (ci := 8) (v := .int h0f0) (C := RX11) (F := TX11) (N := 36) hx hb hU iX11 hown hK hT 4 rfl rfl 0 (by decide) w785 (fun _ h9 => h9) rfl dX11_keepsAll_213 ?_
                        refine lv_icmp_ge (tgt := 317) hx hb dX11_keepsAll_216 (by decide) (fun c_39 => ?_) (fun c_39 => ?_)
                        · skip
                          have c_39 := ni_le c_39 rfl rfl
                          obtain ⟨v40, e_v40⟩ : ∃ x : Int32, x = y27 + Int32.ofInt 1 := ⟨_, rfl⟩
                          have f_v40 := e_v40.symm
                          have e_v40 : v40.toInt = y27.toInt + 1 := ai_add e_v40 rfl (show (Int32.ofInt 1).toInt = 1 from (by decide +kernel)) (by omega)
                          refine lv_iinc (v := v40) (lv' := [(3, .int v40), (0, .ref h0), (1, .int y37), (2, .int y16), (4, .int y36)]) hx hb dX11_keepsAll_317 hl (k := 3) rfl f_v40 (by decide) rfl (fun ls hl => ?_)
                          refine lv_goto (tgt := 199) hx hb dX11_keepsAll_320 (by decide) ?_
                          exact ih199_29 v40 y37 _ _ _ (by omega) (by omega)  (by omega) hT hS (lv_sub hl [1, 2, 3, 0] rfl)
                        · skip
                          have c_39 := ni_nle c_39 rfl rfl
                          refine lv_iconst (v := 0) hx hb dX11_keepsAll_219 (by decide) ?_
                          refine lv_istore (lv' := [(5, .int 0), (0, .ref h0), (1, .int y37), (2, .int y16), (3, .int y27), (4, .int y36)]) hx hb dX11_keepsAll_220 hl (by decide) rfl (fun ls hl => ?_)
                          have lp222_44 : ∀ (n : Nat) (y43 : Int32) (H : Heap) (locs : List Loc) (ls : Array Slot), (0 ≤ y43.toInt ∧ y43.toInt ≤ 3) → (h0f0.toInt + (-1) * y43.toInt + 1).toNat < n → TP D A [(h1, aI (k 0) 36 anI), (h3, aJ (k 1) 9 anJ), (h4, aJ (k 1) 9 anJ), (h5, aJ (k 1) 9 anJ), (h0, ob 8 [.int h0f0, .int h0f1, .int h0f2, .int h0f3, .int h0f4, .int h0f5, .ref h1, .ref h2, .int h0f8, .int h0f9, .ref h3, .ref h4, .ref h5, .ref h6, .ref h7, .ref h8, .ref h9, .int h0f17, .int h0f18, .int h0f19, .ref h10, .ref h11, .ref h12, .ref h13, .int h0f24, .int h0f25, .ref h14, .ref h15, .ref h16, .ref h17, .int h0f30, .int h0f31, .ref h18, .ref h19, .ref h20, .ref h21]), (h6, aJ (k 1) 9 anJ)] H → va_S A s.heap H locs → lv_has ls 6 [(0, .ref h0), (1, .int y37), (2, .int y16), (3, .int y27), (4, .int y36), (5, .int y43)] → W p l e Rm_cX11_keepsAll_09e70 s m args below meth c H locs 0 0 Q (F0 m 222 ls []) := by
                            intro n
                            induction n with
                            | zero => intro y43 H locs ls b_y43 hm hT hS hl; exact absurd hm (Nat.not_lt_zero _)
                            | succ n ih =>
                              intro y43 H locs ls b_y43 hm hT hS hl
                              have ih222_44 := ih
                              clear ih
                              refine lv_iload hx hb dX11_keepsAll_222 (lv_at hl 5 rfl) ?_
                              refine lv_aload_n hx hb dX11_keepsAll_224 rfl (lv_at hl 0 rfl) ?_
                              refine tz_get (ci := 8) (v := .int h0f0) (C := RX11) (F := TX11) (N := 36) hx hb hU iX11 hown hK hT 4 rfl rfl 0 (by decide) w785 (fun _ h9 => h9) rfl dX11_keepsAll_225 ?_
                              refine lv_icmp_ge (tgt := 275) hx hb dX11_keepsAll_228 (by decide) (fun c_45 => ?_) (fun c_45 => ?_)
                              · skip
                                have c_45 := ni_le c_45 rfl rfl
                                refine lv_iload_n hx hb dX11_keepsAll_275 rfl (lv_at hl 1 rfl) ?_
                                refine lv_if_eq (tgt := 309) hx hb dX11_keepsAll_276 (by decide) (fun c_46 => ?_) (fun c_46 => ?_)
                                · skip
                                  have c_46 := ni_eq c_46 rfl li_0
                                  refine lv_iconst (v := 0) hx hb dX11_keepsAll_309 (by decide) ?_
                                  refine lv_istore_n (lv' := [(1, .int 0), (0, .ref h0), (2, .int y16), (3, .int y27), (4, .int y36), (5, .int y43)]) hx hb dX11_keepsAll_310 rfl hl (by decide) rfl (fun ls hl => ?_)
                                  obtain ⟨v47, e_v47⟩ : ∃ x : Int32, x = y36 + Int32.ofInt 1 := ⟨_, rfl⟩
                                  have f_v47 := e_v47.symm
                                  have e_v47 : v47.toInt = y36.toInt + 1 := ai_add e_v47 rfl (show (Int32.ofInt 1).toInt = 1 from (by decide +kernel)) (by omega)
                                  refine lv_iinc (v := v47) (lv' := [(4, .int v47), (1, .int 0), (0, .ref h0), (2, .int y16), (3, .int y27), (5, .int y43)]) hx hb dX11_keepsAll_311 hl (k := 4) rfl f_v47 (by decide) rfl (fun ls hl => ?_)
                                  refine lv_goto (tgt := 210) hx hb dX11_keepsAll_314 (by decide) ?_
                                  exact ih210_38 v47 (0) _ _ _ (by have := li_0; omega) (by have := li_0; omega)  (by have := li_0; omega) hT hS (lv_sub hl [2, 1, 3, 4, 0] rfl)
                                · skip
                                  have c_46 := ni_ne c_46 rfl li_0
                                  refine lv_aload_n hx hb dX11_keepsAll_279 rfl (lv_at hl 0 rfl) ?_
                                  refine tz_get (ci := 8) (v := .ref h6) (C := RX11) (F := TX11) (N := 36) hx hb hU iX11 hown hK hT 4 rfl rfl 13 (by decide) w798 (fun _ h9 => h9) rfl dX11_keepsAll_280 ?_
                                  refine lv_iconst (v := 3) hx hb dX11_keepsAll_283 (by decide) ?_
                                  refine lv_iload_n hx hb dX11_keepsAll_284 rfl (lv_at hl 3 rfl) ?_
                                  refine lv_imul hx hb dX11_keepsAll_285 (lv_topi (fun v48 e_v48 => ?_))
                                  have e_v48 := ai_mul e_v48 li_3 rfl (by omega)
                                  refine lv_iload hx hb dX11_keepsAll_286 (lv_at hl 4 rfl) ?_
                                  refine lv_iadd hx hb dX11_keepsAll_288 (lv_topi (fun v49 e_v49 => ?_))
                                  have e_v49 := ai_add e_v49 rfl rfl (by omega)
                                  refine tz_lald hx hb hK hT 5 rfl (by omega) dX11_keepsAll_289 (fun v50 e_v50 => ?_)
                                  clear e_v50
                                  refine lv_aload_n hx hb dX11_keepsAll_290 rfl (lv_at hl 0 rfl) ?_
                                  refine tz_get (ci := 8) (v := .ref h3) (C := RX11) (F := TX11) (N := 36) hx hb hU iX11 hown hK hT 4 rfl rfl 10 (by decide) w795 (fun _ h9 => h9) rfl dX11_keepsAll_291 ?_
                                  refine lv_iconst (v := 3) hx hb dX11_keepsAll_294 (by decide) ?_
                                  refine lv_iload_n hx hb dX11_keepsAll_295 rfl (lv_at hl 3 rfl) ?_
                                  refine lv_imul hx hb dX11_keepsAll_296 (lv_topi (fun v51 e_v51 => ?_))
                                  have e_v51 := ai_mul e_v51 li_3 rfl (by omega)
                                  refine lv_iload hx hb dX11_keepsAll_297 (lv_at hl 4 rfl) ?_
                                  refine lv_iadd hx hb dX11_keepsAll_299 (lv_topi (fun v52 e_v52 => ?_))
                                  have e_v52 := ai_add e_v52 rfl rfl (by omega)
                                  refine tz_lald hx hb hK hT 1 rfl (by omega) dX11_keepsAll_300 (fun v53 e_v53 => ?_)
                                  clear e_v53
                                  refine W.lcmp hx hb dX11_keepsAll_301 ?_
                                  refine lv_if_ne (tgt := 309) hx hb dX11_keepsAll_302 (by decide) (fun c_54 => ?_) (fun c_54 => ?_)
                                  · skip
                                    have c_54 := nl_ne c_54 rfl rfl
                                    refine lv_iconst (v := 0) hx hb dX11_keepsAll_309 (by decide) ?_
                                    refine lv_istore_n (lv' := [(1, .int 0), (0, .ref h0), (2, .int y16), (3, .int y27), (4, .int y36), (5, .int y43)]) hx hb dX11_keepsAll_310 rfl hl (by decide) rfl (fun ls hl => ?_)
                                    obtain ⟨v55, e_v55⟩ : ∃ x : Int32, x = y36 + Int32.ofInt 1 := ⟨_, rfl⟩
                                    have f_v55 := e_v55.symm
                                    have e_v55 : v55.toInt = y36.toInt + 1 := ai_add e_v55 rfl (show (Int32.ofInt 1).toInt = 1 from (by decide +kernel)) (by omega)
                                    refine lv_iinc (v := v55) (lv' := [(4, .int v55), (1, .int 0), (0, .ref h0), (2, .int y16), (3, .int y27), (5, .int y43)]) hx hb dX11_keepsAll_311 hl (k := 4) rfl f_v55 (by decide) rfl (fun ls hl => ?_)
                                    refine lv_goto (tgt := 210) hx hb dX11_keepsAll_314 (by decide) ?_
                                    exact ih210_38 v55 (0) _ _ _ (by have := li_0; omega) (by have := li_0; omega)  (by have := li_0; omega) hT hS (lv_sub hl [2, 1, 3, 4, 0] rfl)
                                  · skip
                                    have c_54 := nl_eq c_54 rfl rfl
                                    refine lv_iconst (v := 1) hx hb dX11_keepsAll_305 (by decide) ?_
                                    refine lv_goto (tgt := 310) hx hb dX11_keepsAll_306 (by decide) ?_
                                    refine lv_istore_n (lv' := [(1, .int 1), (0, .ref h0), (2, .int y16), (3, .int y27), (4, .int y36), (5, .int y43)]) hx hb dX11_keepsAll_310 rfl hl (by decide) rfl (fun ls hl => ?_)
                                    obtain ⟨v56, e_v56⟩ : ∃ x : Int32, x = y36 + Int32.ofInt 1 := ⟨_, rfl⟩
                                    have f_v56 := e_v56.symm
                                    have e_v56 : v56.toInt = y36.toInt + 1 := ai_add e_v56 rfl (show (Int32.ofInt 1).toInt = 1 from (by decide +kernel)) (by omega)
                                    refine lv_iinc (v := v56) (lv' := [(4, .int v56), (1, .int 1), (0, .ref h0), (2, .int y16), (3, .int y27), (5, .int y43)]) hx hb dX11_keepsAll_311 hl (k := 4) rfl f_v56 (by decide) rfl (fun ls hl => ?_)
                                    refine lv_goto (tgt := 210) hx hb dX11_keepsAll_314 (by decide) ?_
                                    exact ih210_38 v56 (1) _ _ _ (by have := li_1; omega) (by have := li_1; omega)  (by have := li_1; omega) hT hS (lv_sub hl [2, 1, 3, 4, 0] rfl)
                              · skip
                                have c_45 := ni_nle c_45 rfl rfl
                                refine lv_aload_n hx hb dX11_keepsAll_231 rfl (lv_at hl 0 rfl) ?_
                                refine tz_get (ci := 8) (v := .ref h6) (C := RX11) (F := TX11) (N := 36) hx hb hU iX11 hown hK hT 4 rfl rfl 13 (by decide) w798 (fun _ h9 => h9) rfl dX11_keepsAll_232 ?_
                                refine lv_iconst (v := 3) hx hb dX11_keepsAll_235 (by decide) ?_
                                refine lv_iload_n hx hb dX11_keepsAll_236 rfl (lv_at hl 3 rfl) ?_
                                refine lv_imul hx hb dX11_keepsAll_237 (lv_topi (fun v57 e_v57 => ?_))
                                have e_v57 := ai_mul e_v57 li_3 rfl (by omega)
                                refine lv_iload hx hb dX11_keepsAll_238 (lv_at hl 4 rfl) ?_
                                refine lv_iadd hx hb dX11_keepsAll_240 (lv_topi (fun v58 e_v58 => ?_))
                                have e_v58 := ai_add e_v58 rfl rfl (by omega)
                                refine lv_dup2_11 hx hb dX11_keepsAll_241 rfl rfl ?_
                                refine tz_lald hx hb hK hT 5 rfl (by omega) dX11_keepsAll_242 (fun v59 e_v59 => ?_)
                                clear e_v59
                                refine lv_aload_n hx hb dX11_keepsAll_243 rfl (lv_at hl 0 rfl) ?_
                                refine tz_get (ci := 8) (v := .ref h4) (C := RX11) (F := TX11) (N := 36) hx hb hU iX11 hown hK hT 4 rfl rfl 11 (by decide) w796 (fun _ h9 => h9) rfl dX11_keepsAll_244 ?_
                                refine lv_iconst (v := 3) hx hb dX11_keepsAll_247 (by decide) ?_
                                refine lv_iload hx hb dX11_keepsAll_248 (lv_at hl 5 rfl) ?_
                                refine lv_imul hx hb dX11_keepsAll_250 (lv_topi (fun v60 e_v60 => ?_))
                                have e_v60 := ai_mul e_v60 li_3 rfl (by omega)
                                refine lv_iload_n hx hb dX11_keepsAll_251 rfl (lv_at hl 3 rfl) ?_
                                refine lv_iadd hx hb dX11_keepsAll_252 (lv_topi (fun v61 e_v61 => ?_))
                                have e_v61 := ai_add e_v61 rfl rfl (by omega)
                                refine tz_lald hx hb hK hT 2 rfl (by omega) dX11_keepsAll_253 (fun v62 e_v62 => ?_)
                                clear e_v62
                                refine lv_aload_n hx hb dX11_keepsAll_254 rfl (lv_at hl 0 rfl) ?_
                                refine tz_get (ci := 8) (v := .ref h5) (C := RX11) (F := TX11) (N := 36) hx hb hU iX11 hown hK hT 4 rfl rfl 12 (by decide) w797 (fun _ h9 => h9) rfl dX11_keepsAll_255 ?_
                                refine lv_iconst (v := 3) hx hb dX11_keepsAll_258 (by decide) ?_
                                refine lv_iload hx hb dX11_keepsAll_259 (lv_at hl 5 rfl) ?_
                                refine lv_imul hx hb dX11_keepsAll_261 (lv_topi (fun v63 e_v63 => ?_))
                                have e_v63 := ai_mul e_v63 li_3 rfl (by omega)
                                refine lv_iload hx hb dX11_keepsAll_262 (lv_at hl 4 rfl) ?_
                                refine lv_iadd hx hb dX11_keepsAll_264 (lv_topi (fun v64 e_v64 => ?_))
                                have e_v64 := ai_add e_v64 rfl rfl (by omega)
                                refine tz_lald hx hb hK hT 3 rfl (by omega) dX11_keepsAll_265 (fun v65 e_v65 => ?_)
                                clear e_v65
                                refine lv_lmul hx hb dX11_keepsAll_266 (lv_topl (fun v66 e_v66 => ?_))
                                refine lv_ladd hx hb dX11_keepsAll_267 (lv_topl (fun v67 e_v67 => ?_))
                                refine tz_last hx hb hK hT hS 5 rfl (by omega) (fun _ _ => trivial) dX11_keepsAll_268 (fun H locs hT hS => ?_)
                                obtain ⟨v68, e_v68⟩ : ∃ x : Int32, x = y43 + Int32.ofInt 1 := ⟨_, rfl⟩
                                have f_v68 := e_v68.symm
                                have e_v68 : v68.toInt = y43.toInt + 1 := ai_add e_v68 rfl (show (Int32.ofInt 1).toInt = 1 from (by decide +kernel)) (by omega)
                                refine lv_iinc (v := v68) (lv' := [(5, .int v68), (0, .ref h0), (1, .int y37), (2, .int y16), (3, .int y27), (4, .int y36)]) hx hb dX11_keepsAll_269 hl (k := 5) rfl f_v68 (by decide) rfl (fun ls hl => ?_)
                                refine lv_goto (tgt := 222) hx hb dX11_keepsAll_272 (by decide) ?_
                                exact ih222_44 v68 _ _ _ (by omega)  (by omega) hT hS (lv_sub hl [1, 2, 3, 4, 5, 0] rfl)
                          exact lp222_44 ((h0f0.toInt + (-1) * (0 : Int32).toInt + 1).toNat + 1) (0) _ _ _ (by have := li_0; omega)  (Nat.lt_succ_self _) hT hS (lv_sub hl [1, 2, 3, 4, 5, 0] rfl)
                    exact lp210_38 ((h0f0.toInt + (-1) * (0 : Int32).toInt + 1).toNat + 1) (0) y28 _ _ _ (by have := li_0; omega) (by have := li_0; omega)  (Nat.lt_succ_self _) hT hS (lv_sub hl [1, 2, 3, 4, 0] rfl)
              exact lp199_29 ((h0f0.toInt + (-1) * (0 : Int32).toInt + 1).toNat + 1) (0) y17 _ _ _ (by have := li_0; omega) (by have := li_0; omega)  (Nat.lt_succ_self _) hT hS (lv_sub hl [1, 2, 3, 0] rfl)
        exact lp156_18 ((h0f1.toInt + (-1) * (0 : Int32).toInt + 1).toNat + 1) (0) y7 _ _ _ (by have := li_0; omega) (by have := li_0; omega)  (Nat.lt_succ_self _) hT hS (lv_sub hl [1, 2, 0] rfl)
      · skip
        have c_9 := ni_nle c_9 rfl rfl
        refine lv_iconst (v := 0) hx hb dX11_keepsAll_98 (by decide) ?_
        refine lv_istore_n (lv' := [(3, .int 0), (0, .ref h0), (1, .int y7), (2, .int y6)]) hx hb dX11_keepsAll_99 rfl hl (by decide) rfl (fun ls hl => ?_)
        have lp100_75 : ∀ (n : Nat) (y73 : Int32) (y74 : Int32) (H : Heap) (locs : List Loc) (ls : Array Slot), (0 ≤ y73.toInt ∧ y73.toInt ≤ 3) → (0 ≤ y74.toInt ∧ y74.toInt ≤ 1) → (h0f0.toInt + (-1) * y73.toInt + 1).toNat < n → TP D A [(h0, ob 8 [.int h0f0, .int h0f1, .int h0f2, .int h0f3, .int h0f4, .int h0f5, .ref h1, .ref h2, .int h0f8, .int h0f9, .ref h3, .ref h4, .ref h5, .ref h6, .ref h7, .ref h8, .ref h9, .int h0f17, .int h0f18, .int h0f19, .ref h10, .ref h11, .ref h12, .ref h13, .int h0f24, .int h0f25, .ref h14, .ref h15, .ref h16, .ref h17, .int h0f30, .int h0f31, .ref h18, .ref h19, .ref h20, .ref h21]), (h1, aI (k 0) 36 anI), (h3, aJ (k 1) 9 anJ), (h4, aJ (k 1) 9 anJ), (h5, aJ (k 1) 9 anJ), (h6, aJ (k 1) 9 anJ)] H → va_S A s.heap H locs → lv_has ls 6 [(0, .ref h0), (1, .int y74), (2, .int y6), (3, .int y73)] → W p l e Rm_cX11_keepsAll_09e70 s m args below meth c H locs 0 0 Q (F0 m 100 ls []) := by
          intro n
          induction n with
          | zero => intro y73 y74 H locs ls b_y73 b_y74 hm hT hS hl; exact absurd hm (Nat.not_lt_zero _)
          | succ n ih =>
            intro y73 y74 H locs ls b_y73 b_y74 hm hT hS hl
            have ih100_75 := ih
            clear ih
            refine lv_iload_n hx hb dX11_keepsAll_100 rfl (lv_at hl 3 rfl) ?_
            refine lv_aload_n hx hb dX11_keepsAll_101 rfl (lv_at hl 0 rfl) ?_
            refine tz_get (ci := 8) (v := .int h0f0) (C := RX11) (F := TX11) (N := 36) hx hb hU iX11 hown hK hT 0 rfl rfl 0 (by decide) w785 (fun _ h9 => h9) rfl dX11_keepsAll_102 ?_
            refine lv_icmp_ge (tgt := 148) hx hb dX11_keepsAll_105 (by decide) (fun c_76 => ?_) (fun c_76 => ?_)
            · skip
              have c_76 := ni_le c_76 rfl rfl
              obtain ⟨v77, e_v77⟩ : ∃ x : Int32, x = y6 + Int32.ofInt 1 := ⟨_, rfl⟩
              have f_v77 := e_v77.symm
              have e_v77 : v77.toInt = y6.toInt + 1 := ai_add e_v77 rfl (show (Int32.ofInt 1).toInt = 1 from (by decide +kernel)) (by omega)
              refine lv_iinc (v := v77) (lv' := [(2, .int v77), (0, .ref h0), (1, .int y74), (3, .int y73)]) hx hb dX11_keepsAll_148 hl (k := 2) rfl f_v77 (by decide) rfl (fun ls hl => ?_)
              refine lv_goto (tgt := 90) hx hb dX11_keepsAll_151 (by decide) ?_
              exact ih90_8 v77 y74 _ _ _ (by omega) (by omega)  (by omega) hT hS (lv_sub hl [1, 2, 0] rfl)
            · skip
              have c_76 := ni_nle c_76 rfl rfl
              refine lv_iload_n hx hb dX11_keepsAll_108 rfl (lv_at hl 1 rfl) ?_
              refine lv_if_eq (tgt := 140) hx hb dX11_keepsAll_109 (by decide) (fun c_78 => ?_) (fun c_78 => ?_)
              · skip
                have c_78 := ni_eq c_78 rfl li_0
                refine lv_iconst (v := 0) hx hb dX11_keepsAll_140 (by decide) ?_
                refine lv_istore_n (lv' := [(1, .int 0), (0, .ref h0), (2, .int y6), (3, .int y73)]) hx hb dX11_keepsAll_141 rfl hl (by decide) rfl (fun ls hl => ?_)
                obtain ⟨v79, e_v79⟩ : ∃ x : Int32, x = y73 + Int32.ofInt 1 := ⟨_, rfl⟩
                have f_v79 := e_v79.symm
                have e_v79 : v79.toInt = y73.toInt + 1 := ai_add e_v79 rfl (show (Int32.ofInt 1).toInt = 1 from (by decide +kernel)) (by omega)
                refine lv_iinc (v := v79) (lv' := [(3, .int v79), (1, .int 0), (0, .ref h0), (2, .int y6)]) hx hb dX11_keepsAll_142 hl (k := 3) rfl f_v79 (by decide) rfl (fun ls hl => ?_)
                refine lv_goto (tgt := 100) hx hb dX11_keepsAll_145 (by decide) ?_
                exact ih100_75 v79 (0) _ _ _ (by have := li_0; omega) (by have := li_0; omega)  (by have := li_0; omega) hT hS (lv_sub hl [2, 1, 3, 0] rfl)
              · skip
                have c_78 := ni_ne c_78 rfl li_0
                refine lv_aload_n hx hb dX11_keepsAll_112 rfl (lv_at hl 0 rfl) ?_
                refine tz_get (ci := 8) (v := .ref h3) (C := RX11) (F := TX11) (N := 36) hx hb hU iX11 hown hK hT 0 rfl rfl 10 (by decide) w795 (fun _ h9 => h9) rfl dX11_keepsAll_113 ?_
                refine lv_iconst (v := 3) hx hb dX11_keepsAll_116 (by decide) ?_
                refine lv_iload_n hx hb dX11_keepsAll_117 rfl (lv_at hl 2 rfl) ?_
                refine lv_imul hx hb dX11_keepsAll_118 (lv_topi (fun v80 e_v80 => ?_))
                have e_v80 := ai_mul e_v80 li_3 rfl (by omega)
                refine lv_iload_n hx hb dX11_keepsAll_119 rfl (lv_at hl 3 rfl) ?_
                refine lv_iadd hx hb dX11_keepsAll_120 (lv_topi (fun v81 e_v81 => ?_))
                have e_v81 := ai_add e_v81 rfl rfl (by omega)
                refine tz_lald hx hb hK hT 2 rfl (by omega) dX11_keepsAll_121 (fun v82 e_v82 => ?_)
                clear e_v82
                refine lv_aload_n hx hb dX11_keepsAll_122 rfl (lv_at hl 0 rfl) ?_
                refine tz_get (ci := 8) (v := .ref h3) (C := RX11) (F := TX11) (N := 36) hx hb hU iX11 hown hK hT 0 rfl rfl 10 (by decide) w795 (fun _ h9 => h9) rfl dX11_keepsAll_123 ?_
                refine lv_iconst (v := 3) hx hb dX11_keepsAll_126 (by decide) ?_
                refine lv_iload_n hx hb dX11_keepsAll_127 rfl (lv_at hl 3 rfl) ?_
                refine lv_imul hx hb dX11_keepsAll_128 (lv_topi (fun v83 e_v83 => ?_))
                have e_v83 := ai_mul e_v83 li_3 rfl (by omega)
                refine lv_iload_n hx hb dX11_keepsAll_129 rfl (lv_at hl 2 rfl) ?_
                refine lv_iadd hx hb dX11_keepsAll_130 (lv_topi (fun v84 e_v84 => ?_))
                have e_v84 := ai_add e_v84 rfl rfl (by omega)
                refine tz_lald hx hb hK hT 2 rfl (by omega) dX11_keepsAll_131 (fun v85 e_v85 => ?_)
                clear e_v85
                refine W.lcmp hx hb dX11_keepsAll_132 ?_
                refine lv_if_ne (tgt := 140) hx hb dX11_keepsAll_133 (by decide) (fun c_86 => ?_) (fun c_86 => ?_)
                · skip
                  have c_86 := nl_ne c_86 rfl rfl
                  refine lv_iconst (v := 0) hx hb dX11_keepsAll_140 (by decide) ?_
                  refine lv_istore_n (lv' := [(1, .int 0), (0, .ref h0), (2, .int y6), (3, .int y73)]) hx hb dX11_keepsAll_141 rfl hl (by decide) rfl (fun ls hl => ?_)
                  obtain ⟨v87, e_v87⟩ : ∃ x : Int32, x = y73 + Int32.ofInt 1 := ⟨_, rfl⟩
                  have f_v87 := e_v87.symm
                  have e_v87 : v87.toInt = y73.toInt + 1 := ai_add e_v87 rfl (show (Int32.ofInt 1).toInt = 1 from (by decide +kernel)) (by omega)
                  refine lv_iinc (v := v87) (lv' := [(3, .int v87), (1, .int 0), (0, .ref h0), (2, .int y6)]) hx hb dX11_keepsAll_142 hl (k := 3) rfl f_v87 (by decide) rfl (fun ls hl => ?_)
                  refine lv_goto (tgt := 100) hx hb dX11_keepsAll_145 (by decide) ?_
                  exact ih100_75 v87 (0) _ _ _ (by have := li_0; omega) (by have := li_0; omega)  (by have := li_0; omega) hT hS (lv_sub hl [2, 1, 3, 0] rfl)
                · skip
                  have c_86 := nl_eq c_86 rfl rfl
                  refine lv_iconst (v := 1) hx hb dX11_keepsAll_136 (by decide) ?_
                  refine lv_goto (tgt := 141) hx hb dX11_keepsAll_137 (by decide) ?_
                  refine lv_istore_n (lv' := [(1, .int 1), (0, .ref h0), (2, .int y6), (3, .int y73)]) hx hb dX11_keepsAll_141 rfl hl (by decide) rfl (fun ls hl => ?_)
                  obtain ⟨v88, e_v88⟩ : ∃ x : Int32, x = y73 + Int32.ofInt 1 := ⟨_, rfl⟩
                  have f_v88 := e_v88.symm
                  have e_v88 : v88.toInt = y73.toInt + 1 := ai_add e_v88 rfl (show (Int32.ofInt 1).toInt = 1 from (by decide +kernel)) (by omega)
                  refine lv_iinc (v := v88) (lv' := [(3, .int v88), (1, .int 1), (0, .ref h0), (2, .int y6)]) hx hb dX11_keepsAll_142 hl (k := 3) rfl f_v88 (by decide) rfl (fun ls hl => ?_)
                  refine lv_goto (tgt := 100) hx hb dX11_keepsAll_145 (by decide) ?_
                  exact ih100_75 v88 (1) _ _ _ (by have := li_1; omega) (by have := li_1; omega)  (by have := li_1; omega) hT hS (lv_sub hl [2, 1, 3, 0] rfl)
        exact lp100_75 ((h0f0.toInt + (-1) * (0 : Int32).toInt + 1).toNat + 1) (0) y7 _ _ _ (by have := li_0; omega) (by have := li_0; omega)  (Nat.lt_succ_self _) hT hS (lv_sub hl [1, 2, 3, 0] rfl)
  refine lv_aload_n hx hb dX11_keepsAll_0 rfl (lv_at hl 0 rfl) ?_
  refine tz_get (ci := 8) (v := .ref h3) (C := RX11) (F := TX11) (N := 36) hx hb hU iX11 hown hK hT 0 rfl rfl 10 (by decide) w795 (fun _ h9 => h9) rfl dX11_keepsAll_1 ?_
  refine lv_iconst (v := 0) hx hb dX11_keepsAll_4 (by decide) ?_
  refine tz_lald hx hb hK hT 2 rfl (by have := li_0; omega) dX11_keepsAll_5 (fun v89 e_v89 => ?_)
  clear e_v89
  refine lv_lconst (v := 0) hx hb dX11_keepsAll_6 (by decide) ?_
  refine W.lcmp hx hb dX11_keepsAll_7 ?_
  refine lv_if_le (tgt := 15) hx hb dX11_keepsAll_8 (by decide) (fun c_90 => ?_) (fun c_90 => ?_)
  · skip
    have c_90 := nl_le c_90 rfl ll_0
    refine lv_iconst (v := 0) hx hb dX11_keepsAll_15 (by decide) ?_
    refine lv_istore_n (lv' := [(1, .int 0), (0, .ref h0)]) hx hb dX11_keepsAll_16 rfl hl (by decide) rfl (fun ls hl => ?_)
    refine lv_iload_n hx hb dX11_keepsAll_17 rfl (lv_at hl 0 rfl) ?_
    refine lv_if_eq (tgt := 86) hx hb dX11_keepsAll_18 (by decide) (fun _ => ?_) (fun cc => absurd (by decide +kernel) cc)
    refine lv_iconst (v := 0) hx hb dX11_keepsAll_86 (by decide) ?_
    refine lv_istore_n (lv' := [(1, .int 0), (0, .ref h0)]) hx hb dX11_keepsAll_87 rfl hl (by decide) rfl (fun ls hl => ?_)
    refine lv_iconst (v := 0) hx hb dX11_keepsAll_88 (by decide) ?_
    refine lv_istore_n (lv' := [(2, .int 0), (1, .int 0), (0, .ref h0)]) hx hb dX11_keepsAll_89 rfl hl (by decide) rfl (fun ls hl => ?_)
    exact lp90_8 ((h0f0.toInt + (-1) * (0 : Int32).toInt + 1).toNat + 1) (0) (0) _ _ _ (by have := li_0; omega) (by have := li_0; omega)  (Nat.lt_succ_self _) hT hS (lv_sub hl [2, 1, 0] rfl)
  · skip
    have c_90 := nl_nle c_90 rfl ll_0
    refine lv_iconst (v := 1) hx hb dX11_keepsAll_11 (by decide) ?_
    refine lv_goto (tgt := 16) hx hb dX11_keepsAll_12 (by decide) ?_
    refine lv_istore_n (lv' := [(1, .int 1), (0, .ref h0)]) hx hb dX11_keepsAll_16 rfl hl (by decide) rfl (fun ls hl => ?_)
    refine lv_iload_n hx hb dX11_keepsAll_17 rfl (lv_at hl 0 rfl) ?_
    refine lv_if_eq (tgt := 86) hx hb dX11_keepsAll_18 (by decide) (fun cc => absurd cc (by decide +kernel)) (fun _ => ?_)
    refine lv_aload_n hx hb dX11_keepsAll_21 rfl (lv_at hl 1 rfl) ?_
    refine tz_get (ci := 8) (v := .int h0f0) (C := RX11) (F := TX11) (N := 36) hx hb hU iX11 hown hK hT 0 rfl rfl 0 (by decide) w785 (fun _ h9 => h9) rfl dX11_keepsAll_22 ?_
    refine lv_iconst (v := 2) hx hb dX11_keepsAll_25 (by decide) ?_
    refine lv_icmp_lt (tgt := 61) hx hb dX11_keepsAll_26 (by decide) (fun c_91 => ?_) (fun c_91 => ?_)
    · skip
      have c_91 := ni_lt c_91 rfl li_2
      refine lv_aload_n hx hb dX11_keepsAll_61 rfl (lv_at hl 1 rfl) ?_
      refine tz_get (ci := 8) (v := .int h0f0) (C := RX11) (F := TX11) (N := 36) hx hb hU iX11 hown hK hT 0 rfl rfl 0 (by decide) w785 (fun _ h9 => h9) rfl dX11_keepsAll_62 ?_
      refine lv_iconst (v := 3) hx hb dX11_keepsAll_65 (by decide) ?_
      refine lv_icmp_lt (tgt := 82) hx hb dX11_keepsAll_66 (by decide) (fun c_92 => ?_) (fun c_92 => ?_)
      · skip
        have c_92 := ni_lt c_92 rfl li_3
        refine lv_iconst (v := 1) hx hb dX11_keepsAll_82 (by decide) ?_
        refine lv_goto (tgt := 87) hx hb dX11_keepsAll_83 (by decide) ?_
        refine lv_istore_n (lv' := [(1, .int 1), (0, .ref h0)]) hx hb dX11_keepsAll_87 rfl hl (by decide) rfl (fun ls hl => ?_)
        refine lv_iconst (v := 0) hx hb dX11_keepsAll_88 (by decide) ?_
        refine lv_istore_n (lv' := [(2, .int 0), (1, .int 1), (0, .ref h0)]) hx hb dX11_keepsAll_89 rfl hl (by decide) rfl (fun ls hl => ?_)
        exact lp90_8 ((h0f0.toInt + (-1) * (0 : Int32).toInt + 1).toNat + 1) (0) (1) _ _ _ (by have := li_0; have := li_1; omega) (by have := li_0; have := li_1; omega)  (Nat.lt_succ_self _) hT hS (lv_sub hl [2, 1, 0] rfl)
      · skip
        have c_92 := ni_nlt c_92 rfl li_3
        exfalso; omega
    · skip
      have c_91 := ni_nlt c_91 rfl li_2
      refine lv_aload_n hx hb dX11_keepsAll_29 rfl (lv_at hl 1 rfl) ?_
      refine tz_get (ci := 8) (v := .ref h3) (C := RX11) (F := TX11) (N := 36) hx hb hU iX11 hown hK hT 0 rfl rfl 10 (by decide) w795 (fun _ h9 => h9) rfl dX11_keepsAll_30 ?_
      refine lv_iconst (v := 0) hx hb dX11_keepsAll_33 (by decide) ?_
      refine tz_lald hx hb hK hT 2 rfl (by have := li_0; omega) dX11_keepsAll_34 (fun v93 e_v93 => ?_)
      clear e_v93
      refine lv_aload_n hx hb dX11_keepsAll_35 rfl (lv_at hl 1 rfl) ?_
      refine tz_get (ci := 8) (v := .ref h3) (C := RX11) (F := TX11) (N := 36) hx hb hU iX11 hown hK hT 0 rfl rfl 10 (by decide) w795 (fun _ h9 => h9) rfl dX11_keepsAll_36 ?_
      refine lv_iconst (v := 4) hx hb dX11_keepsAll_39 (by decide) ?_
      refine tz_lald hx hb hK hT 2 rfl (by have := li_4; omega) dX11_keepsAll_40 (fun v94 e_v94 => ?_)
      clear e_v94
      refine lv_lmul hx hb dX11_keepsAll_41 (lv_topl (fun v95 e_v95 => ?_))
      refine lv_aload_n hx hb dX11_keepsAll_42 rfl (lv_at hl 1 rfl) ?_
      refine tz_get (ci := 8) (v := .ref h3) (C := RX11) (F := TX11) (N := 36) hx hb hU iX11 hown hK hT 0 rfl rfl 10 (by decide) w795 (fun _ h9 => h9) rfl dX11_keepsAll_43 ?_
      refine lv_iconst (v := 1) hx hb dX11_keepsAll_46 (by decide) ?_
      refine tz_lald hx hb hK hT 2 rfl (by have := li_1; omega) dX11_keepsAll_47 (fun v96 e_v96 => ?_)
      clear e_v96
      refine lv_aload_n hx hb dX11_keepsAll_48 rfl (lv_at hl 1 rfl) ?_
      refine tz_get (ci := 8) (v := .ref h3) (C := RX11) (F := TX11) (N := 36) hx hb hU iX11 hown hK hT 0 rfl rfl 10 (by decide) w795 (fun _ h9 => h9) rfl dX11_keepsAll_49 ?_
      refine lv_iconst (v := 3) hx hb dX11_keepsAll_52 (by decide) ?_
      refine tz_lald hx hb hK hT 2 rfl (by have := li_3; omega) dX11_keepsAll_53 (fun v97 e_v97 => ?_)
      clear e_v97
      refine lv_lmul hx hb dX11_keepsAll_54 (lv_topl (fun v98 e_v98 => ?_))
      refine lv_lsub hx hb dX11_keepsAll_55 (lv_topl (fun v99 e_v99 => ?_))
      refine lv_lconst (v := 0) hx hb dX11_keepsAll_56 (by decide) ?_
      refine W.lcmp hx hb dX11_keepsAll_57 ?_
      refine lv_if_le (tgt := 86) hx hb dX11_keepsAll_58 (by decide) (fun c_100 => ?_) (fun c_100 => ?_)
      · skip
        have c_100 := nl_le c_100 rfl ll_0
        refine lv_iconst (v := 0) hx hb dX11_keepsAll_86 (by decide) ?_
        refine lv_istore_n (lv' := [(1, .int 0), (0, .ref h0)]) hx hb dX11_keepsAll_87 rfl hl (by decide) rfl (fun ls hl => ?_)
        refine lv_iconst (v := 0) hx hb dX11_keepsAll_88 (by decide) ?_
        refine lv_istore_n (lv' := [(2, .int 0), (1, .int 0), (0, .ref h0)]) hx hb dX11_keepsAll_89 rfl hl (by decide) rfl (fun ls hl => ?_)
        exact lp90_8 ((h0f0.toInt + (-1) * (0 : Int32).toInt + 1).toNat + 1) (0) (0) _ _ _ (by have := li_0; omega) (by have := li_0; omega)  (Nat.lt_succ_self _) hT hS (lv_sub hl [2, 1, 0] rfl)
      · skip
        have c_100 := nl_nle c_100 rfl ll_0
        refine lv_aload_n hx hb dX11_keepsAll_61 rfl (lv_at hl 1 rfl) ?_
        refine tz_get (ci := 8) (v := .int h0f0) (C := RX11) (F := TX11) (N := 36) hx hb hU iX11 hown hK hT 0 rfl rfl 0 (by decide) w785 (fun _ h9 => h9) rfl dX11_keepsAll_62 ?_
        refine lv_iconst (v := 3) hx hb dX11_keepsAll_65 (by decide) ?_
        refine lv_icmp_lt (tgt := 82) hx hb dX11_keepsAll_66 (by decide) (fun c_101 => ?_) (fun c_101 => ?_)
        · skip
          have c_101 := ni_lt c_101 rfl li_3
          refine lv_iconst (v := 1) hx hb dX11_keepsAll_82 (by decide) ?_
          refine lv_goto (tgt := 87) hx hb dX11_keepsAll_83 (by decide) ?_
          refine lv_istore_n (lv' := [(1, .int 1), (0, .ref h0)]) hx hb dX11_keepsAll_87 rfl hl (by decide) rfl (fun ls hl => ?_)
          refine lv_iconst (v := 0) hx hb dX11_keepsAll_88 (by decide) ?_
          refine lv_istore_n (lv' := [(2, .int 0), (1, .int 1), (0, .ref h0)]) hx hb dX11_keepsAll_89 rfl hl (by decide) rfl (fun ls hl => ?_)
          exact lp90_8 ((h0f0.toInt + (-1) * (0 : Int32).toInt + 1).toNat + 1) (0) (1) _ _ _ (by have := li_0; have := li_1; omega) (by have := li_0; have := li_1; omega)  (Nat.lt_succ_self _) hT hS (lv_sub hl [2, 1, 0] rfl)
        · skip
          have c_101 := ni_nlt c_101 rfl li_3
          refine lv_aload_n hx hb dX11_keepsAll_69 rfl (lv_at hl 1 rfl) ?_
          refine lv_aload_n hx hb dX11_keepsAll_70 rfl (lv_at hl 1 rfl) ?_
          refine tz_get (ci := 8) (v := .ref h3) (C := RX11) (F := TX11) (N := 36) hx hb hU iX11 hown hK hT 0 rfl rfl 10 (by decide) w795 (fun _ h9 => h9) rfl dX11_keepsAll_71 ?_
          refine tcL (Tc := [(h0, ob 8 [.int h0f0, .int h0f1, .int h0f2, .int h0f3, .int h0f4, .int h0f5, .ref h1, .ref h2, .int h0f8, .int h0f9, .ref h3, .ref h4, .ref h5, .ref h6, .ref h7, .ref h8, .ref h9, .int h0f17, .int h0f18, .int h0f19, .ref h10, .ref h11, .ref h12, .ref h13, .int h0f24, .int h0f25, .ref h14, .ref h15, .ref h16, .ref h17, .int h0f30, .int h0f31, .ref h18, .ref h19, .ref h20, .ref h21]), (h3, aJ (k 1) 9 anJ)]) (Tr := [(h1, aI (k 0) 36 anI), (h4, aJ (k 1) 9 anJ), (h5, aJ (k 1) 9 anJ), (h6, aJ (k 1) 9 anJ)]) (as := [h0, h3]) (zcV (q0 := 0) (ci := 8) (As := [.ref h3]) (rest := []) (Tc := [(h0, ob 8 [.int h0f0, .int h0f1, .int h0f2, .int h0f3, .int h0f4, .int h0f5, .ref h1, .ref h2, .int h0f8, .int h0f9, .ref h3, .ref h4, .ref h5, .ref h6, .ref h7, .ref h8, .ref h9, .int h0f17, .int h0f18, .int h0f19, .ref h10, .ref h11, .ref h12, .ref h13, .int h0f24, .int h0f25, .ref h14, .ref h15, .ref h16, .ref h17, .int h0f30, .int h0f31, .ref h18, .ref h19, .ref h20, .ref h21]), (h3, aJ (k 1) 9 anJ)]) hx hb hml hown hU hK hT rfl rfl [0, 2] rfl (by decide) (cX11_det_62049 l D k _ h0 h3 h1 h2 h4 h5 h6 h7 h8 h9 h10 h11 h12 h13 h14 h15 h16 h17 h18 h19 h20 h21 h0f0 h0f1 h0f2 h0f3 h0f4 h0f5 h0f8 h0f9 h0f17 h0f18 h0f19 h0f24 h0f25 h0f30 h0f31 (by omega) (by omega) (by omega) (by omega) (by omega) (by omega) (by omega) (by omega) (by omega) (by omega) (by omega) (by omega) (by omega) (by omega) (by omega)) w952 w949 w951 w35 w72 hdX11_det ⟨rfl, rfl⟩ ⟨Nat.le_of_ble_eq_true rfl, Nat.le_of_ble_eq_true rfl⟩ rfl hl.1 (Nat.le_of_ble_eq_true rfl) dX11_keepsAll_74 ⟨Nat.le_of_ble_eq_true rfl, Nat.le_of_ble_eq_true rfl⟩) hT hS hA [0, 2] [1, 3, 4, 5] rfl rfl rfl (by decide) (by decide) (fun r102 H locs hB J hS => ?_)
          have hT1 := hB
          have hT := J _ hT1
          have hT : TP D A [(h1, aI (k 0) 36 anI), (h4, aJ (k 1) 9 anJ), (h5, aJ (k 1) 9 anJ), (h6, aJ (k 1) 9 anJ), (h0, ob 8 [.int h0f0, .int h0f1, .int h0f2, .int h0f3, .int h0f4, .int h0f5, .ref h1, .ref h2, .int h0f8, .int h0f9, .ref h3, .ref h4, .ref h5, .ref h6, .ref h7, .ref h8, .ref h9, .int h0f17, .int h0f18, .int h0f19, .ref h10, .ref h11, .ref h12, .ref h13, .int h0f24, .int h0f25, .ref h14, .ref h15, .ref h16, .ref h17, .int h0f30, .int h0f31, .ref h18, .ref h19, .ref h20, .ref h21]), (h3, aJ (k 1) 9 anJ)] _ := hT
          refine lv_lconst (v := 0) hx hb dX11_keepsAll_77 (by decide) ?_
          refine W.lcmp hx hb dX11_keepsAll_78 ?_
          refine lv_if_le (tgt := 86) hx hb dX11_keepsAll_79 (by decide) (fun c_103 => ?_) (fun c_103 => ?_)
          · skip
            have c_103 := nl_le c_103 rfl ll_0
            refine lv_iconst (v := 0) hx hb dX11_keepsAll_86 (by decide) ?_
            refine lv_istore_n (lv' := [(1, .int 0), (0, .ref h0)]) hx hb dX11_keepsAll_87 rfl hl (by decide) rfl (fun ls hl => ?_)
            refine lv_iconst (v := 0) hx hb dX11_keepsAll_88 (by decide) ?_
            refine lv_istore_n (lv' := [(2, .int 0), (1, .int 0), (0, .ref h0)]) hx hb dX11_keepsAll_89 rfl hl (by decide) rfl (fun ls hl => ?_)
            exact lp90_8 ((h0f0.toInt + (-1) * (0 : Int32).toInt + 1).toNat + 1) (0) (0) _ _ _ (by have := li_0; omega) (by have := li_0; omega)  (Nat.lt_succ_self _) (hT.sub [4, 0, 5, 1, 2, 3] (by decide) rfl) hS (lv_sub hl [2, 1, 0] rfl)
          · skip
            have c_103 := nl_nle c_103 rfl ll_0
            refine lv_iconst (v := 1) hx hb dX11_keepsAll_82 (by decide) ?_
            refine lv_goto (tgt := 87) hx hb dX11_keepsAll_83 (by decide) ?_
            refine lv_istore_n (lv' := [(1, .int 1), (0, .ref h0)]) hx hb dX11_keepsAll_87 rfl hl (by decide) rfl (fun ls hl => ?_)
            refine lv_iconst (v := 0) hx hb dX11_keepsAll_88 (by decide) ?_
            refine lv_istore_n (lv' := [(2, .int 0), (1, .int 1), (0, .ref h0)]) hx hb dX11_keepsAll_89 rfl hl (by decide) rfl (fun ls hl => ?_)
            exact lp90_8 ((h0f0.toInt + (-1) * (0 : Int32).toInt + 1).toNat + 1) (0) (1) _ _ _ (by have := li_0; have := li_1; omega) (by have := li_0; have := li_1; omega)  (Nat.lt_succ_self _) (hT.sub [4, 0, 5, 1, 2, 3] (by decide) rfl) hS (lv_sub hl [2, 1, 0] rfl)
abbrev Rm_cX11_keeps_4c286 : Room := { frames := 3, cells := 0, slots := 0, locals := 73 }
abbrev B_cX11_keeps_4c286 (D : va_G) (k : Nat → ClassId) (h0 h1 h3 h4 h5 h6 h18 h19 h20 h2 h7 h8 h9 h10 h11 h12 h13 h14 h15 h16 h17 h21 : Nat) (x1 : Int32) (x2 : Int32) (h0f0 : Int32) (h0f1 : Int32) (h0f2 : Int32) (h0f3 : Int32) (h0f4 : Int32) (h0f5 : Int32) (h0f8 : Int32) (h0f9 : Int32) (h0f17 : Int32) (h0f18 : Int32) (h0f19 : Int32) (h0f24 : Int32) (h0f25 : Int32) (h0f30 : Int32) (h0f31 : Int32) (h18f0 : Int32) (h18f1 : Int32) (h18f2 : Int32) (h18f3 : Int32) (h19f0 : Int32) (h19f1 : Int32) (h19f2 : Int32) (h19f3 : Int32) (A : Nat → Prop) (r : Int32) (H : Heap) : Prop := ((-16) ≤ r.toInt ∧ r.toInt ≤ 1) ∧ TP D A [(h0, ob 8 [.int h0f0, .int h0f1, .int h0f2, .int h0f3, .int h0f4, .int h0f5, .ref h1, .ref h2, .int h0f8, .int h0f9, .ref h3, .ref h4, .ref h5, .ref h6, .ref h7, .ref h8, .ref h9, .int h0f17, .int h0f18, .int h0f19, .ref h10, .ref h11, .ref h12, .ref h13, .int h0f24, .int h0f25, .ref h14, .ref h15, .ref h16, .ref h17, .int h0f30, .int h0f31, .ref h18, .ref h19, .ref h20, .ref h21]), (h1, aI (k 0) 36 anI), (h3, aJ (k 1) 9 anJ), (h4, aJ (k 1) 9 anJ), (h5, aJ (k 1) 9 anJ), (h6, aJ (k 1) 9 anJ), (h18, aI (k 0) 4 (vec4 h18f0 h18f1 h18f2 h18f3)), (h19, aI (k 0) 4 (vec4 h19f0 h19f1 h19f2 h19f3)), (h20, aJ (k 1) 160 anJ)] H
set_option maxHeartbeats 4000000 in
set_option maxRecDepth 100000 in
theorem cX11_keeps_4c286 (l : Launch) (D : va_G) (k : Nat → ClassId) (sz : Nat) (h0 h1 h3 h4 h5 h6 h18 h19 h20 h2 h7 h8 h9 h10 h11 h12 h13 h14 h15 h16 h17 h21 : Nat) (x1 : Int32) (x2 : Int32) (h0f0 : Int32) (h0f1 : Int32) (h0f2 : Int32) (h0f3 : Int32) (h0f4 : Int32) (h0f5 : Int32) (h0f8 : Int32) (h0f9 : Int32) (h0f17 : Int32) (h0f18 : Int32) (h0f19 : Int32) (h0f24 : Int32) (h0f25 : Int32) (h0f30 : Int32) (h0f31 : Int32) (h18f0 : Int32) (h18f1 : Int32) (h18f2 : Int32) (h18f3 : Int32) (h19f0 : Int32) (h19f1 : Int32) (h19f2 : Int32) (h19f3 : Int32) (b_h0f0 : 1 ≤ h0f0.toInt ∧ h0f0.toInt ≤ 3) (b_h0f1 : 0 ≤ h0f1.toInt ∧ h0f1.toInt ≤ 4) (b_h0f3 : 0 ≤ h0f3.toInt ∧ h0f3.toInt ≤ 3) (b_h0f4 : 0 ≤ h0f4.toInt ∧ h0f4.toInt ≤ 4) (b_h0f8 : 0 ≤ h0f8.toInt ∧ h0f8.toInt ≤ 1) (b_h0f9 : 0 ≤ h0f9.toInt ∧ h0f9.toInt ≤ 1) (b_h0f17 : 0 ≤ h0f17.toInt ∧ h0f17.toInt ≤ 120) (b_h0f18 : 0 ≤ h0f18.toInt ∧ h0f18.toInt ≤ 120) (b_h0f19 : 0 ≤ h0f19.toInt ∧ h0f19.toInt ≤ 4) (b_h0f24 : 0 ≤ h0f24.toInt ∧ h0f24.toInt ≤ 100) (b_h0f25 : 0 ≤ h0f25.toInt ∧ h0f25.toInt ≤ 1) (b_h0f30 : 0 ≤ h0f30.toInt ∧ h0f30.toInt ≤ 60) (b_h0f31 : 0 ≤ h0f31.toInt ∧ h0f31.toInt ≤ 1) (b_h18f0 : (-1) ≤ h18f0.toInt ∧ h18f0.toInt ≤ 2) (b_h18f1 : (-1) ≤ h18f1.toInt ∧ h18f1.toInt ≤ 2) (b_h18f2 : (-1) ≤ h18f2.toInt ∧ h18f2.toInt ≤ 2) (b_h18f3 : (-1) ≤ h18f3.toInt ∧ h18f3.toInt ≤ 2) (b_h19f0 : 0 ≤ h19f0.toInt ∧ h19f0.toInt ≤ 40) (b_h19f1 : 0 ≤ h19f1.toInt ∧ h19f1.toInt ≤ 40) (b_h19f2 : 0 ≤ h19f2.toInt ∧ h19f2.toInt ≤ 40) (b_h19f3 : 0 ≤ h19f3.toInt ∧ h19f3.toInt ≤ 40) (i_0 : h0f8.toInt ≤ h0f3.toInt) (i_1 : h0f9.toInt ≤ h0f24.toInt) : Met l yX11_keeps (Cond.code yX11_keeps cX11_keeps 5 (some .int) :: uw) Rm_cX11_keeps_4c286 (pT D k sz [.ref h0, .int x1, .int x2] [(h0, ob 8 [.int h0f0, .int h0f1, .int h0f2, .int h0f3, .int h0f4, .int h0f5, .ref h1, .ref h2, .int h0f8, .int h0f9, .ref h3, .ref h4, .ref h5, .ref h6, .ref h7, .ref h8, .ref h9, .int h0f17, .int h0f18, .int h0f19, .ref h10, .ref h11, .ref h12, .ref h13, .int h0f24, .int h0f25, .ref h14, .ref h15, .ref h16, .ref h17, .int h0f30, .int h0f31, .ref h18, .ref h19, .ref h20, .ref h21]), (h1, aI (k 0) 36 anI), (h3, aJ (k 1) 9 anJ), (h4, aJ (k 1) 9 anJ), (h5, aJ (k 1) 9 anJ), (h6, aJ (k 1) 9 anJ), (h18, aI (k 0) 4 (vec4 h18f0 h18f1 h18f2 h18f3)), (h19, aI (k 0) 4 (vec4 h19f0 h19f1 h19f2 h19f3)), (h20, aJ (k 1) 160 anJ)]) (qI (B_cX11_keeps_4c286 D k h0 h1 h3 h4 h5 h6 h18 h19 h20 h2 h7 h8 h9 h10 h11 h12 h13 h14 h15 h16 h17 h21 x1 x2 h0f0 h0f1 h0f2 h0f3 h0f4 h0f5 h0f8 h0f9 h0f17 h0f18 h0f19 h0f24 h0f25 h0f30 h0f31 h18f0 h18f1 h18f2 h18f3 h19f0 h19f1 h19f2 h19f3 (zA [h0, h1, h3, h4, h5, h6, h18, h19, h20] sz)) (zA [h0, h1, h3, h4, h5, h6, h18, h19, h20] sz)) 0 0 (zA [h0, h1, h3, h4, h5, h6, h18, h19, h20] sz) := by
  refine tz_begin (as := [h0, h1, h3, h4, h5, h6, h18, h19, h20]) (Qc := fun A => qI (B_cX11_keeps_4c286 D k h0 h1 h3 h4 h5 h6 h18 h19 h20 h2 h7 h8 h9 h10 h11 h12 h13 h14 h15 h16 h17 h21 x1 x2 h0f0 h0f1 h0f2 h0f3 h0f4 h0f5 h0f8 h0f9 h0f17 h0f18 h0f19 h0f24 h0f25 h0f30 h0f31 h18f0 h18f1 h18f2 h18f3 h19f0 h19f1 h19f2 h19f3 A) A) (by decide +kernel) rfl (Nat.le_of_ble_eq_true rfl) ?_
  intro p e s m args below meth c ls A Q hx hb hr hml hown hlocks hin hU hK hT hS hA hl hQ
  have hl : lv_has ls 5 [(0, .ref h0), (1, .int x1), (2, .int x2)] := hl
  have hT : TP D A [(h0, ob 8 [.int h0f0, .int h0f1, .int h0f2, .int h0f3, .int h0f4, .int h0f5, .ref h1, .ref h2, .int h0f8, .int h0f9, .ref h3, .ref h4, .ref h5, .ref h6, .ref h7, .ref h8, .ref h9, .int h0f17, .int h0f18, .int h0f19, .ref h10, .ref h11, .ref h12, .ref h13, .int h0f24, .int h0f25, .ref h14, .ref h15, .ref h16, .ref h17, .int h0f30, .int h0f31, .ref h18, .ref h19, .ref h20, .ref h21]), (h1, aI (k 0) 36 anI), (h3, aJ (k 1) 9 anJ), (h4, aJ (k 1) 9 anJ), (h5, aJ (k 1) 9 anJ), (h6, aJ (k 1) 9 anJ), (h18, aI (k 0) 4 (vec4 h18f0 h18f1 h18f2 h18f3)), (h19, aI (k 0) 4 (vec4 h19f0 h19f1 h19f2 h19f3)), (h20, aJ (k 1) 160 anJ)] s.heap := hT
  rcases (show h0f0.toInt = 1 ∨ h0f0.toInt = 2 ∨ h0f0.toInt = 3 by omega) with hq1 | hq1 | hq1
  · skip
    refine lv_iload_n hx hb dX11_keeps_0 rfl (lv_at hl 1 rfl) ?_
    refine tcI (Tc := []) (Tr := [(h0, ob 8 [.int h0f0, .int h0f1, .int h0f2, .int h0f3, .int h0f4, .int h0f5, .ref h1, .ref h2, .int h0f8, .int h0f9, .ref h3, .ref h4, .ref h5, .ref h6, .ref h7, .ref h8, .ref h9, .int h0f17, .int h0f18, .int h0f19, .ref h10, .ref h11, .ref h12, .ref h13, .int h0f24, .int h0f25, .ref h14, .ref h15, .ref h16, .ref h17, .int h0f30, .int h0f31, .ref h18, .ref h19, .ref h20, .ref h21]), (h1, aI (k 0) 36 anI), (h3, aJ (k 1) 9 anJ), (h4, aJ (k 1) 9 anJ), (h5, aJ (k 1) 9 anJ), (h6, aJ (k 1) 9 anJ), (h18, aI (k 0) 4 (vec4 h18f0 h18f1 h18f2 h18f3)), (h19, aI (k 0) 4 (vec4 h19f0 h19f1 h19f2 h19f3)), (h20, aJ (k 1) 160 anJ)]) (as := []) (zcS (As := [.int x1]) (rest := []) (Tc := []) hx hb hml hown hU hK hT [] rfl (by decide) (cX11_isSheet_2c130 l D k _ x1) w1101 w1099 w1100 w72 hdX11_isSheet ⟨rfl, rfl⟩ ⟨Nat.le_of_ble_eq_true rfl, Nat.le_of_ble_eq_true rfl⟩ rfl hl.1 (Nat.le_of_ble_eq_true rfl) dX11_keeps_1 ⟨Nat.le_of_ble_eq_true rfl, Nat.le_of_ble_eq_true rfl⟩) hT hS hA [] [0, 1, 2, 3, 4, 5, 6, 7, 8] rfl rfl rfl (by decide) (by decide) (fun r2 H locs hB J hS => ?_)
    rcases hB with ⟨rfl, hT1⟩ | ⟨c_3, c_4, rfl, hT1⟩
    · skip
      have hT := J _ hT1
      have hT : TP D A [(h0, ob 8 [.int h0f0, .int h0f1, .int h0f2, .int h0f3, .int h0f4, .int h0f5, .ref h1, .ref h2, .int h0f8, .int h0f9, .ref h3, .ref h4, .ref h5, .ref h6, .ref h7, .ref h8, .ref h9, .int h0f17, .int h0f18, .int h0f19, .ref h10, .ref h11, .ref h12, .ref h13, .int h0f24, .int h0f25, .ref h14, .ref h15, .ref h16, .ref h17, .int h0f30, .int h0f31, .ref h18, .ref h19, .ref h20, .ref h21]), (h1, aI (k 0) 36 anI), (h3, aJ (k 1) 9 anJ), (h4, aJ (k 1) 9 anJ), (h5, aJ (k 1) 9 anJ), (h6, aJ (k 1) 9 anJ), (h18, aI (k 0) 4 (vec4 h18f0 h18f1 h18f2 h18f3)), (h19, aI (k 0) 4 (vec4 h19f0 h19f1 h19f2 h19f3)), (h20, aJ (k 1) 160 anJ)] _ := hT
      refine lv_if_ne (tgt := 9) hx hb dX11_keeps_4 (by decide) (fun cc => absurd (by decide +kernel) cc) (fun _ => ?_)
      refine lv_iconst (v := (-1)) hx hb dX11_keeps_7 (by decide) ?_
      exact tz_retI (B := B_cX11_keeps_4c286 D k h0 h1 h3 h4 h5 h6 h18 h19 h20 h2 h7 h8 h9 h10 h11 h12 h13 h14 h15 h16 h17 h21 x1 x2 h0f0 h0f1 h0f2 h0f3 h0f4 h0f5 h0f8 h0f9 h0f17 h0f18 h0f19 h0f24 h0f25 h0f30 h0f31 h18f0 h18f1 h18f2 h18f3 h19f0 h19f1 h19f2 h19f3) (v := (-1)) hQ hx hb hr hlocks hS (Nat.le_of_ble_eq_true rfl) (Nat.le_of_ble_eq_true rfl) dX11_keeps_8 (⟨(by have := li_m1; omega), hT⟩)
    · skip
      have hT := J _ hT1
      have hT : TP D A [(h0, ob 8 [.int h0f0, .int h0f1, .int h0f2, .int h0f3, .int h0f4, .int h0f5, .ref h1, .ref h2, .int h0f8, .int h0f9, .ref h3, .ref h4, .ref h5, .ref h6, .ref h7, .ref h8, .ref h9, .int h0f17, .int h0f18, .int h0f19, .ref h10, .ref h11, .ref h12, .ref h13, .int h0f24, .int h0f25, .ref h14, .ref h15, .ref h16, .ref h17, .int h0f30, .int h0f31, .ref h18, .ref h19, .ref h20, .ref h21]), (h1, aI (k 0) 36 anI), (h3, aJ (k 1) 9 anJ), (h4, aJ (k 1) 9 anJ), (h5, aJ (k 1) 9 anJ), (h6, aJ (k 1) 9 anJ), (h18, aI (k 0) 4 (vec4 h18f0 h18f1 h18f2 h18f3)), (h19, aI (k 0) 4 (vec4 h19f0 h19f1 h19f2 h19f3)), (h20, aJ (k 1) 160 anJ)] _ := hT
      refine lv_if_ne (tgt := 9) hx hb dX11_keeps_4 (by decide) (fun _ => ?_) (fun cc => absurd cc (by decide +kernel))
      refine lv_aload_n hx hb dX11_keeps_9 rfl (lv_at hl 0 rfl) ?_
      refine tz_get (ci := 8) (v := .ref h18) (C := RX11) (F := TX11) (N := 36) hx hb hU iX11 hown hK hT 0 rfl rfl 32 (by decide) w817 (fun _ h9 => h9) rfl dX11_keeps_10 ?_
      refine lv_iload_n hx hb dX11_keeps_13 rfl (lv_at hl 1 rfl) ?_
      refine tz_iald hx hb hK hT 6 rfl (by omega) dX11_keeps_14 (fun v5 e_v5 => ?_)
      have e_v5 := x4_rg (lo := (-1)) (hi := 2) e_v5 (by omega) (by omega)
      refine lv_if_eq (tgt := 35) hx hb dX11_keeps_15 (by decide) (fun c_6 => ?_) (fun c_6 => ?_)
      · skip
        have c_6 := ni_eq c_6 rfl li_0
        refine lv_aload_n hx hb dX11_keeps_35 rfl (lv_at hl 0 rfl) ?_
        refine lv_iload_n hx hb dX11_keeps_36 rfl (lv_at hl 1 rfl) ?_
        refine lv_iload_n hx hb dX11_keeps_37 rfl (lv_at hl 2 rfl) ?_
        refine lv_aload_n hx hb dX11_keeps_38 rfl (lv_at hl 0 rfl) ?_
        refine tz_get (ci := 8) (v := .int h0f0) (C := RX11) (F := TX11) (N := 36) hx hb hU iX11 hown hK hT 0 rfl rfl 0 (by decide) w785 (fun _ h9 => h9) rfl dX11_keeps_39 ?_
        refine lv_aload_n hx hb dX11_keeps_42 rfl (lv_at hl 0 rfl) ?_
        refine tz_get (ci := 8) (v := .int h0f0) (C := RX11) (F := TX11) (N := 36) hx hb hU iX11 hown hK hT 0 rfl rfl 0 (by decide) w785 (fun _ h9 => h9) rfl dX11_keeps_43 ?_
        refine lv_imul hx hb dX11_keeps_46 (lv_topi (fun v7 e_v7 => ?_))
        have e_v7 := ai_mul e_v7 hq1 hq1 (by omega)
        refine tcI (Tc := [(h0, ob 8 [.int h0f0, .int h0f1, .int h0f2, .int h0f3, .int h0f4, .int h0f5, .ref h1, .ref h2, .int h0f8, .int h0f9, .ref h3, .ref h4, .ref h5, .ref h6, .ref h7, .ref h8, .ref h9, .int h0f17, .int h0f18, .int h0f19, .ref h10, .ref h11, .ref h12, .ref h13, .int h0f24, .int h0f25, .ref h14, .ref h15, .ref h16, .ref h17, .int h0f30, .int h0f31, .ref h18, .ref h19, .ref h20, .ref h21]), (h19, aI (k 0) 4 (vec4 h19f0 h19f1 h19f2 h19f3))]) (Tr := [(h1, aI (k 0) 36 anI), (h3, aJ (k 1) 9 anJ), (h4, aJ (k 1) 9 anJ), (h5, aJ (k 1) 9 anJ), (h6, aJ (k 1) 9 anJ), (h18, aI (k 0) 4 (vec4 h18f0 h18f1 h18f2 h18f3)), (h20, aJ (k 1) 160 anJ)]) (as := [h0, h19]) (zcV (q0 := 0) (ci := 8) (As := [.int x1, .int x2, .int v7]) (rest := []) (Tc := [(h0, ob 8 [.int h0f0, .int h0f1, .int h0f2, .int h0f3, .int h0f4, .int h0f5, .ref h1, .ref h2, .int h0f8, .int h0f9, .ref h3, .ref h4, .ref h5, .ref h6, .ref h7, .ref h8, .ref h9, .int h0f17, .int h0f18, .int h0f19, .ref h10, .ref h11, .ref h12, .ref h13, .int h0f24, .int h0f25, .ref h14, .ref h15, .ref h16, .ref h17, .int h0f30, .int h0f31, .ref h18, .ref h19, .ref h20, .ref h21]), (h19, aI (k 0) 4 (vec4 h19f0 h19f1 h19f2 h19f3))]) hx hb hml hown hU hK hT rfl rfl [0, 7] rfl (by decide) (cX11_isOutside_e242f l D k _ h0 h19 h1 h2 h3 h4 h5 h6 h7 h8 h9 h10 h11 h12 h13 h14 h15 h16 h17 h18 h20 h21 x1 x2 v7 h0f0 h0f1 h0f2 h0f3 h0f4 h0f5 h0f8 h0f9 h0f17 h0f18 h0f19 h0f24 h0f25 h0f30 h0f31 h19f0 h19f1 h19f2 h19f3 (by omega) (by omega) (by omega) (by omega) (by omega) (by omega) (by omega) (by omega) (by omega) (by omega) (by omega) (by omega) (by omega) (by omega) (by omega) (by omega) (by omega) (by omega) (by omega) (by omega)) w1105 w1102 w1104 w53 w72 hdX11_isOutside ⟨rfl, rfl⟩ ⟨Nat.le_of_ble_eq_true rfl, Nat.le_of_ble_eq_true rfl⟩ rfl hl.1 (Nat.le_of_ble_eq_true rfl) dX11_keeps_47 ⟨Nat.le_of_ble_eq_true rfl, Nat.le_of_ble_eq_true rfl⟩) hT hS hA [0, 7] [1, 2, 3, 4, 5, 6, 8] rfl rfl rfl (by decide) (by decide) (fun r8 H locs hB J hS => ?_)
        rcases hB with ⟨rfl, hT1⟩ | ⟨v9, b_v9, c_10, c_11, c_12, c_13, c_14, rfl, hT1⟩
        · skip
          have hT := J _ hT1
          have hT : TP D A [(h1, aI (k 0) 36 anI), (h3, aJ (k 1) 9 anJ), (h4, aJ (k 1) 9 anJ), (h5, aJ (k 1) 9 anJ), (h6, aJ (k 1) 9 anJ), (h18, aI (k 0) 4 (vec4 h18f0 h18f1 h18f2 h18f3)), (h20, aJ (k 1) 160 anJ), (h0, ob 8 [.int h0f0, .int h0f1, .int h0f2, .int h0f3, .int h0f4, .int h0f5, .ref h1, .ref h2, .int h0f8, .int h0f9, .ref h3, .ref h4, .ref h5, .ref h6, .ref h7, .ref h8, .ref h9, .int h0f17, .int h0f18, .int h0f19, .ref h10, .ref h11, .ref h12, .ref h13, .int h0f24, .int h0f25, .ref h14, .ref h15, .ref h16, .ref h17, .int h0f30, .int h0f31, .ref h18, .ref h19, .ref h20, .ref h21]), (h19, aI (k 0) 4 (vec4 h19f0 h19f1 h19f2 h19f3))] _ := hT
          refine lv_if_eq (tgt := 56) hx hb dX11_keeps_50 (by decide) (fun cc => absurd cc (by decide +kernel)) (fun _ => ?_)
          refine lv_bipush (v := (-12)) hx hb dX11_keeps_53 (by decide) ?_
          exact tz_retI (B := B_cX11_keeps_4c286 D k h0 h1 h3 h4 h5 h6 h18 h19 h20 h2 h7 h8 h9 h10 h11 h12 h13 h14 h15 h16 h17 h21 x1 x2 h0f0 h0f1 h0f2 h0f3 h0f4 h0f5 h0f8 h0f9 h0f17 h0f18 h0f19 h0f24 h0f25 h0f30 h0f31 h18f0 h18f1 h18f2 h18f3 h19f0 h19f1 h19f2 h19f3) (v := (-12)) hQ hx hb hr hlocks hS (Nat.le_of_ble_eq_true rfl) (Nat.le_of_ble_eq_true rfl) dX11_keeps_55 (⟨(by have := li_m12; omega), (hT.sub [7, 0, 1, 2, 3, 4, 5, 8, 6] (by decide) rfl)⟩)
        · skip
          have hT := J _ hT1
          have hT : TP D A [(h1, aI (k 0) 36 anI), (h3, aJ (k 1) 9 anJ), (h4, aJ (k 1) 9 anJ), (h5, aJ (k 1) 9 anJ), (h6, aJ (k 1) 9 anJ), (h18, aI (k 0) 4 (vec4 h18f0 h18f1 h18f2 h18f3)), (h20, aJ (k 1) 160 anJ), (h0, ob 8 [.int h0f0, .int h0f1, .int h0f2, .int h0f3, .int h0f4, .int h0f5, .ref h1, .ref h2, .int h0f8, .int h0f9, .ref h3, .ref h4, .ref h5, .ref h6, .ref h7, .ref h8, .ref h9, .int h0f17, .int h0f18, .int h0f19, .ref h10, .ref h11, .ref h12, .ref h13, .int h0f24, .int h0f25, .ref h14, .ref h15, .ref h16, .ref h17, .int h0f30, .int h0f31, .ref h18, .ref h19, .ref h20, .ref h21]), (h19, aI (k 0) 4 (vec4 h19f0 h19f1 h19f2 h19f3))] _ := hT
          refine lv_if_eq (tgt := 56) hx hb dX11_keeps_50 (by decide) (fun _ => ?_) (fun cc => absurd (by decide +kernel) cc)
          refine lv_aload_n hx hb dX11_keeps_56 rfl (lv_at hl 0 rfl) ?_
          refine lv_aload_n hx hb dX11_keeps_57 rfl (lv_at hl 0 rfl) ?_
          refine tz_get (ci := 8) (v := .ref h3) (C := RX11) (F := TX11) (N := 36) hx hb hU iX11 hown hK hT 7 rfl rfl 10 (by decide) w795 (fun _ h9 => h9) rfl dX11_keeps_58 ?_
          refine tcV (Tc := [(h0, ob 8 [.int h0f0, .int h0f1, .int h0f2, .int h0f3, .int h0f4, .int h0f5, .ref h1, .ref h2, .int h0f8, .int h0f9, .ref h3, .ref h4, .ref h5, .ref h6, .ref h7, .ref h8, .ref h9, .int h0f17, .int h0f18, .int h0f19, .ref h10, .ref h11, .ref h12, .ref h13, .int h0f24, .int h0f25, .ref h14, .ref h15, .ref h16, .ref h17, .int h0f30, .int h0f31, .ref h18, .ref h19, .ref h20, .ref h21]), (h3, aJ (k 1) 9 anJ)]) (Tr := [(h1, aI (k 0) 36 anI), (h4, aJ (k 1) 9 anJ), (h5, aJ (k 1) 9 anJ), (h6, aJ (k 1) 9 anJ), (h18, aI (k 0) 4 (vec4 h18f0 h18f1 h18f2 h18f3)), (h20, aJ (k 1) 160 anJ), (h19, aI (k 0) 4 (vec4 h19f0 h19f1 h19f2 h19f3))]) (as := [h0, h3]) (zcV (q0 := 7) (ci := 8) (As := [.ref h3]) (rest := []) (Tc := [(h0, ob 8 [.int h0f0, .int h0f1, .int h0f2, .int h0f3, .int h0f4, .int h0f5, .ref h1, .ref h2, .int h0f8, .int h0f9, .ref h3, .ref h4, .ref h5, .ref h6, .ref h7, .ref h8, .ref h9, .int h0f17, .int h0f18, .int h0f19, .ref h10, .ref h11, .ref h12, .ref h13, .int h0f24, .int h0f25, .ref h14, .ref h15, .ref h16, .ref h17, .int h0f30, .int h0f31, .ref h18, .ref h19, .ref h20, .ref h21]), (h3, aJ (k 1) 9 anJ)]) hx hb hml hown hU hK hT rfl rfl [7, 1] rfl (by decide) (cX11_clears_d395b l D k _ h0 h3 h1 h2 h4 h5 h6 h7 h8 h9 h10 h11 h12 h13 h14 h15 h16 h17 h18 h19 h20 h21 h0f0 h0f1 h0f2 h0f3 h0f4 h0f5 h0f8 h0f9 h0f17 h0f18 h0f19 h0f24 h0f25 h0f30 h0f31 (by omega) (by omega) (by omega) (by omega) (by omega) (by omega) (by omega) (by omega) (by omega) (by omega) (by omega) (by omega) (by omega) (by omega) (by omega)) w923 w920 w922 w29 w72 hdX11_clears ⟨rfl, rfl⟩ ⟨Nat.le_of_ble_eq_true rfl, Nat.le_of_ble_eq_true rfl⟩ rfl hl.1 (Nat.le_of_ble_eq_true rfl) dX11_keeps_61 ⟨Nat.le_of_ble_eq_true rfl, Nat.le_of_ble_eq_true rfl⟩) hT hS hA [7, 1] [0, 2, 3, 4, 5, 6, 8] rfl rfl rfl (by decide) (by decide) (fun H locs hB J hS => ?_)
          have hT1 := hB
          have hT := J _ hT1
          have hT : TP D A [(h1, aI (k 0) 36 anI), (h4, aJ (k 1) 9 anJ), (h5, aJ (k 1) 9 anJ), (h6, aJ (k 1) 9 anJ), (h18, aI (k 0) 4 (vec4 h18f0 h18f1 h18f2 h18f3)), (h20, aJ (k 1) 160 anJ), (h19, aI (k 0) 4 (vec4 h19f0 h19f1 h19f2 h19f3)), (h0, ob 8 [.int h0f0, .int h0f1, .int h0f2, .int h0f3, .int h0f4, .int h0f5, .ref h1, .ref h2, .int h0f8, .int h0f9, .ref h3, .ref h4, .ref h5, .ref h6, .ref h7, .ref h8, .ref h9, .int h0f17, .int h0f18, .int h0f19, .ref h10, .ref h11, .ref h12, .ref h13, .int h0f24, .int h0f25, .ref h14, .ref h15, .ref h16, .ref h17, .int h0f30, .int h0f31, .ref h18, .ref h19, .ref h20, .ref h21]), (h3, aJ (k 1) 9 anJ)] _ := hT
          refine lv_iconst (v := 1) hx hb dX11_keeps_64 (by decide) ?_
          refine lv_istore_n (lv' := [(3, .int 1), (0, .ref h0), (1, .int x1), (2, .int x2)]) hx hb dX11_keeps_65 rfl hl (by decide) rfl (fun ls hl => ?_)
          refine lv_iconst (v := 0) hx hb dX11_keeps_66 (by decide) ?_
          refine lv_istore (lv' := [(4, .int 0), (3, .int 1), (0, .ref h0), (1, .int x1), (2, .int x2)]) hx hb dX11_keeps_67 hl (by decide) rfl (fun ls hl => ?_)
          have lp69_18 : ∀ (n : Nat) (y16 : Int32) (y17 : Int32) (H : Heap) (locs : List Loc) (ls : Array Slot), (0 ≤ y16.toInt ∧ y16.toInt ≤ 1) → (0 ≤ y17.toInt ∧ y17.toInt ≤ 1) → (h0f0.toInt + (-1) * y16.toInt + 1).toNat < n → TP D A [(h1, aI (k 0) 36 anI), (h4, aJ (k 1) 9 anJ), (h5, aJ (k 1) 9 anJ), (h6, aJ (k 1) 9 anJ), (h18, aI (k 0) 4 (vec4 h18f0 h18f1 h18f2 h18f3)), (h20, aJ (k 1) 160 anJ), (h19, aI (k 0) 4 (vec4 h19f0 h19f1 h19f2 h19f3)), (h0, ob 8 [.int h0f0, .int h0f1, .int h0f2, .int h0f3, .int h0f4, .int h0f5, .ref h1, .ref h2, .int h0f8, .int h0f9, .ref h3, .ref h4, .ref h5, .ref h6, .ref h7, .ref h8, .ref h9, .int h0f17, .int h0f18, .int h0f19, .ref h10, .ref h11, .ref h12, .ref h13, .int h0f24, .int h0f25, .ref h14, .ref h15, .ref h16, .ref h17, .int h0f30, .int h0f31, .ref h18, .ref h19, .ref h20, .ref h21]), (h3, aJ (k 1) 9 anJ)] H → va_S A s.heap H locs → lv_has ls 5 [(0, .ref h0), (1, .int x1), (2, .int x2), (3, .int y17), (4, .int y16)] → W p l e Rm_cX11_keeps_4c286 s m args below meth c H locs 0 0 Q (F0 m 69 ls []) := by
            intro n
            induction n with
            | zero => intro y16 y17 H locs ls b_y16 b_y17 hm hT hS hl; exact absurd hm (Nat.not_lt_zero _)
            | succ n ih =>
              intro y16 y17 H locs ls b_y16 b_y17 hm hT hS hl
              have ih69_18 := ih
              clear ih
              refine lv_iload hx hb dX11_keeps_69 (lv_at hl 4 rfl) ?_
              refine lv_aload_n hx hb dX11_keeps_71 rfl (lv_at hl 0 rfl) ?_
              refine tz_get (ci := 8) (v := .int h0f0) (C := RX11) (F := TX11) (N := 36) hx hb hU iX11 hown hK hT 7 rfl rfl 0 (by decide) w785 (fun _ h9 => h9) rfl dX11_keeps_72 ?_
              refine lv_aload_n hx hb dX11_keeps_75 rfl (lv_at hl 0 rfl) ?_
              refine tz_get (ci := 8) (v := .int h0f0) (C := RX11) (F := TX11) (N := 36) hx hb hU iX11 hown hK hT 7 rfl rfl 0 (by decide) w785 (fun _ h9 => h9) rfl dX11_keeps_76 ?_
              refine lv_imul hx hb dX11_keeps_79 (lv_topi (fun v19 e_v19 => ?_))
              have e_v19 := ai_mul e_v19 hq1 hq1 (by omega)
              refine lv_icmp_ge (tgt := 161) hx hb dX11_keeps_80 (by decide) (fun c_20 => ?_) (fun c_20 => ?_)
              · skip
                have c_20 := ni_le c_20 rfl rfl
                refine lv_iload_n hx hb dX11_keeps_161 rfl (lv_at hl 3 rfl) ?_
                refine lv_if_ne (tgt := 170) hx hb dX11_keeps_162 (by decide) (fun c_21 => ?_) (fun c_21 => ?_)
                · skip
                  have c_21 := ni_ne c_21 rfl li_0
                  refine lv_aload_n hx hb dX11_keeps_170 rfl (lv_at hl 0 rfl) ?_
                  refine tcI (Tc := [(h0, ob 8 [.int h0f0, .int h0f1, .int h0f2, .int h0f3, .int h0f4, .int h0f5, .ref h1, .ref h2, .int h0f8, .int h0f9, .ref h3, .ref h4, .ref h5, .ref h6, .ref h7, .ref h8, .ref h9, .int h0f17, .int h0f18, .int h0f19, .ref h10, .ref h11, .ref h12, .ref h13, .int h0f24, .int h0f25, .ref h14, .ref h15, .ref h16, .ref h17, .int h0f30, .int h0f31, .ref h18, .ref h19, .ref h20, .ref h21]), (h1, aI (k 0) 36 anI), (h3, aJ (k 1) 9 anJ), (h4, aJ (k 1) 9 anJ), (h5, aJ (k 1) 9 anJ), (h6, aJ (k 1) 9 anJ)]) (Tr := [(h18, aI (k 0) 4 (vec4 h18f0 h18f1 h18f2 h18f3)), (h20, aJ (k 1) 160 anJ), (h19, aI (k 0) 4 (vec4 h19f0 h19f1 h19f2 h19f3))]) (as := [h0, h1, h3, h4, h5, h6]) (zcV (q0 := 7) (ci := 8) (As := []) (rest := []) (Tc := [(h0, ob 8 [.int h0f0, .int h0f1, .int h0f2, .int h0f3, .int h0f4, .int h0f5, .ref h1, .ref h2, .int h0f8, .int h0f9, .ref h3, .ref h4, .ref h5, .ref h6, .ref h7, .ref h8, .ref h9, .int h0f17, .int h0f18, .int h0f19, .ref h10, .ref h11, .ref h12, .ref h13, .int h0f24, .int h0f25, .ref h14, .ref h15, .ref h16, .ref h17, .int h0f30, .int h0f31, .ref h18, .ref h19, .ref h20, .ref h21]), (h1, aI (k 0) 36 anI), (h3, aJ (k 1) 9 anJ), (h4, aJ (k 1) 9 anJ), (h5, aJ (k 1) 9 anJ), (h6, aJ (k 1) 9 anJ)]) hx hb hml hown hU hK hT rfl rfl [7, 0, 8, 1, 2, 3] rfl (by decide) (cX11_keepsAll_09e70 l D k _ h0 h1 h3 h4 h5 h6 h2 h7 h8 h9 h10 h11 h12 h13 h14 h15 h16 h17 h18 h19 h20 h21 h0f0 h0f1 h0f2 h0f3 h0f4 h0f5 h0f8 h0f9 h0f17 h0f18 h0f19 h0f24 h0f25 h0f30 h0f31 (by omega) (by omega) (by omega) (by omega) (by omega) (by omega) (by omega) (by omega) (by omega) (by omega) (by omega) (by omega) (by omega) (by omega) (by omega)) w1111 w1108 w1110 w54 w72 hdX11_keepsAll ⟨rfl, rfl⟩ ⟨Nat.le_of_ble_eq_true rfl, Nat.le_of_ble_eq_true rfl⟩ rfl hl.1 (Nat.le_of_ble_eq_true rfl) dX11_keeps_171 ⟨Nat.le_of_ble_eq_true rfl, Nat.le_of_ble_eq_true rfl⟩) hT hS hA [7, 0, 8, 1, 2, 3] [4, 5, 6] rfl rfl rfl (by decide) (by decide) (fun r22 H locs hB J hS => ?_)
                  obtain ⟨b_r22, hT1⟩ := hB
                  have hT := J _ hT1
                  have hT : TP D A [(h18, aI (k 0) 4 (vec4 h18f0 h18f1 h18f2 h18f3)), (h20, aJ (k 1) 160 anJ), (h19, aI (k 0) 4 (vec4 h19f0 h19f1 h19f2 h19f3)), (h0, ob 8 [.int h0f0, .int h0f1, .int h0f2, .int h0f3, .int h0f4, .int h0f5, .ref h1, .ref h2, .int h0f8, .int h0f9, .ref h3, .ref h4, .ref h5, .ref h6, .ref h7, .ref h8, .ref h9, .int h0f17, .int h0f18, .int h0f19, .ref h10, .ref h11, .ref h12, .ref h13, .int h0f24, .int h0f25, .ref h14, .ref h15, .ref h16, .ref h17, .int h0f30, .int h0f31, .ref h18, .ref h19, .ref h20, .ref h21]), (h1, aI (k 0) 36 anI), (h3, aJ (k 1) 9 anJ), (h4, aJ (k 1) 9 anJ), (h5, aJ (k 1) 9 anJ), (h6, aJ (k 1) 9 anJ)] _ := hT
                  refine lv_if_eq (tgt := 181) hx hb dX11_keeps_174 (by decide) (fun c_23 => ?_) (fun c_23 => ?_)
                  · skip
                    have c_23 := ni_eq c_23 rfl li_0
                    refine lv_iconst (v := 0) hx hb dX11_keeps_181 (by decide) ?_
                    exact tz_retI (B := B_cX11_keeps_4c286 D k h0 h1 h3 h4 h5 h6 h18 h19 h20 h2 h7 h8 h9 h10 h11 h12 h13 h14 h15 h16 h17 h21 x1 x2 h0f0 h0f1 h0f2 h0f3 h0f4 h0f5 h0f8 h0f9 h0f17 h0f18 h0f19 h0f24 h0f25 h0f30 h0f31 h18f0 h18f1 h18f2 h18f3 h19f0 h19f1 h19f2 h19f3) (v := 0) hQ hx hb hr hlocks hS (Nat.le_of_ble_eq_true rfl) (Nat.le_of_ble_eq_true rfl) dX11_keeps_182 (⟨(by have := li_0; omega), (hT.sub [3, 4, 5, 6, 7, 8, 0, 2, 1] (by decide) rfl)⟩)
                  · skip
                    have c_23 := ni_ne c_23 rfl li_0
                    refine lv_iconst (v := 1) hx hb dX11_keeps_177 (by decide) ?_
                    refine lv_goto (tgt := 182) hx hb dX11_keeps_178 (by decide) ?_
                    exact tz_retI (B := B_cX11_keeps_4c286 D k h0 h1 h3 h4 h5 h6 h18 h19 h20 h2 h7 h8 h9 h10 h11 h12 h13 h14 h15 h16 h17 h21 x1 x2 h0f0 h0f1 h0f2 h0f3 h0f4 h0f5 h0f8 h0f9 h0f17 h0f18 h0f19 h0f24 h0f25 h0f30 h0f31 h18f0 h18f1 h18f2 h18f3 h19f0 h19f1 h19f2 h19f3) (v := 1) hQ hx hb hr hlocks hS (Nat.le_of_ble_eq_true rfl) (Nat.le_of_ble_eq_true rfl) dX11_keeps_182 (⟨(by have := li_1; omega), (hT.sub [3, 4, 5, 6, 7, 8, 0, 2, 1] (by decide) rfl)⟩)
                · skip
                  have c_21 := ni_eq c_21 rfl li_0
                  refine lv_bipush (v := (-16)) hx hb dX11_keeps_165 (by decide) ?_
                  refine lv_goto (tgt := 182) hx hb dX11_keeps_167 (by decide) ?_
                  exact tz_retI (B := B_cX11_keeps_4c286 D k h0 h1 h3 h4 h5 h6 h18 h19 h20 h2 h7 h8 h9 h10 h11 h12 h13 h14 h15 h16 h17 h21 x1 x2 h0f0 h0f1 h0f2 h0f3 h0f4 h0f5 h0f8 h0f9 h0f17 h0f18 h0f19 h0f24 h0f25 h0f30 h0f31 h18f0 h18f1 h18f2 h18f3 h19f0 h19f1 h19f2 h19f3) (v := (-16)) hQ hx hb hr hlocks hS (Nat.le_of_ble_eq_true rfl) (Nat.le_of_ble_eq_true rfl) dX11_keeps_182 (⟨(by have := li_m16; omega), (hT.sub [7, 0, 8, 1, 2, 3, 4, 6, 5] (by decide) rfl)⟩)
              · skip
                have c_20 := ni_nle c_20 rfl rfl
                refine lv_aload_n hx hb dX11_keeps_83 rfl (lv_at hl 0 rfl) ?_
                refine tz_get (ci := 8) (v := .ref h3) (C := RX11) (F := TX11) (N := 36) hx hb hU iX11 hown hK hT 7 rfl rfl 10 (by decide) w795 (fun _ h9 => h9) rfl dX11_keeps_84 ?_
                refine lv_iconst (v := 3) hx hb dX11_keeps_87 (by decide) ?_
                refine lv_iload hx hb dX11_keeps_88 (lv_at hl 4 rfl) ?_
                refine lv_aload_n hx hb dX11_keeps_90 rfl (lv_at hl 0 rfl) ?_
                refine tz_get (ci := 8) (v := .int h0f0) (C := RX11) (F := TX11) (N := 36) hx hb hU iX11 hown hK hT 7 rfl rfl 0 (by decide) w785 (fun _ h9 => h9) rfl dX11_keeps_91 ?_
                have hq24 : y16.toInt = 0 := by omega
                refine lv_idiv hx hb dX11_keeps_94 (nz32 (y := 1) hq1 (by omega)) (lv_topi (fun v25 e_v25 => ?_))
                have e_v25 := ai_div e_v25 hq24 hq1 (by omega)
                have hq26 : v25.toInt = 0 := by omega
                refine lv_imul hx hb dX11_keeps_95 (lv_topi (fun v27 e_v27 => ?_))
                have e_v27 := ai_mul e_v27 li_3 hq26 (by omega)
                refine lv_iload hx hb dX11_keeps_96 (lv_at hl 4 rfl) ?_
                refine lv_aload_n hx hb dX11_keeps_98 rfl (lv_at hl 0 rfl) ?_
                refine tz_get (ci := 8) (v := .int h0f0) (C := RX11) (F := TX11) (N := 36) hx hb hU iX11 hown hK hT 7 rfl rfl 0 (by decide) w785 (fun _ h9 => h9) rfl dX11_keeps_99 ?_
                refine lv_irem hx hb dX11_keeps_102 (nz32 (y := 1) hq1 (by omega)) (lv_topi (fun v28 e_v28 => ?_))
                have e_v28 := ai_rem e_v28 hq24 hq1 (by omega)
                have hq29 : v27.toInt = 0 := by omega
                have hq30 : v28.toInt = 0 := by omega
                refine lv_iadd hx hb dX11_keeps_103 (lv_topi (fun v31 e_v31 => ?_))
                have e_v31 := ai_add e_v31 hq29 hq30 (by omega)
                refine lv_aload_n hx hb dX11_keeps_104 rfl (lv_at hl 0 rfl) ?_
                refine tz_get (ci := 8) (v := .ref h20) (C := RX11) (F := TX11) (N := 36) hx hb hU iX11 hown hK hT 7 rfl rfl 34 (by decide) w819 (fun _ h9 => h9) rfl dX11_keeps_105 ?_
                refine lv_bipush (v := 40) hx hb dX11_keeps_108 (by decide) ?_
                refine lv_iload_n hx hb dX11_keeps_110 rfl (lv_at hl 1 rfl) ?_
                refine lv_imul hx hb dX11_keeps_111 (lv_topi (fun v32 e_v32 => ?_))
                have e_v32 := ai_mul e_v32 li_40 rfl (by omega)
                refine lv_iload_n hx hb dX11_keeps_112 rfl (lv_at hl 2 rfl) ?_
                refine lv_iadd hx hb dX11_keeps_113 (lv_topi (fun v33 e_v33 => ?_))
                have e_v33 := ai_add e_v33 rfl rfl (by omega)
                refine lv_iload hx hb dX11_keeps_114 (lv_at hl 4 rfl) ?_
                refine lv_iadd hx hb dX11_keeps_116 (lv_topi (fun v34 e_v34 => ?_))
                have e_v34 := ai_add e_v34 rfl hq24 (by omega)
                refine tz_lald hx hb hK hT 5 rfl (by omega) dX11_keeps_117 (fun v35 e_v35 => ?_)
                clear e_v35
                refine tz_last hx hb hK hT hS 8 rfl (by omega) (fun _ _ => trivial) dX11_keeps_118 (fun H locs hT hS => ?_)
                refine lv_iload_n hx hb dX11_keeps_119 rfl (lv_at hl 3 rfl) ?_
                refine lv_if_eq (tgt := 153) hx hb dX11_keeps_120 (by decide) (fun c_36 => ?_) (fun c_36 => ?_)
                · skip
                  have c_36 := ni_eq c_36 rfl li_0
                  refine lv_iconst (v := 0) hx hb dX11_keeps_153 (by decide) ?_
                  refine lv_istore_n (lv' := [(3, .int 0), (0, .ref h0), (1, .int x1), (2, .int x2), (4, .int y16)]) hx hb dX11_keeps_154 rfl hl (by decide) rfl (fun ls hl => ?_)
                  obtain ⟨v37, e_v37⟩ : ∃ x : Int32, x = y16 + Int32.ofInt 1 := ⟨_, rfl⟩
                  have f_v37 := e_v37.symm
                  have e_v37 : v37.toInt = 0 + 1 := ai_add e_v37 hq24 (show (Int32.ofInt 1).toInt = 1 from (by decide +kernel)) (by omega)
                  refine lv_iinc (v := v37) (lv' := [(4, .int v37), (3, .int 0), (0, .ref h0), (1, .int x1), (2, .int x2)]) hx hb dX11_keeps_155 hl (k := 4) rfl f_v37 (by decide) rfl (fun ls hl => ?_)
                  refine lv_goto (tgt := 69) hx hb dX11_keeps_158 (by decide) ?_
                  exact ih69_18 v37 (0) _ _ _ (by have := li_0; omega) (by have := li_0; omega)  (by have := li_0; omega) hT hS (lv_sub hl [2, 3, 4, 1, 0] rfl)
                · skip
                  have c_36 := ni_ne c_36 rfl li_0
                  refine lv_aload_n hx hb dX11_keeps_123 rfl (lv_at hl 0 rfl) ?_
                  refine tz_get (ci := 8) (v := .ref h20) (C := RX11) (F := TX11) (N := 36) hx hb hU iX11 hown hK hT 7 rfl rfl 34 (by decide) w819 (fun _ h9 => h9) rfl dX11_keeps_124 ?_
                  refine lv_bipush (v := 40) hx hb dX11_keeps_127 (by decide) ?_
                  refine lv_iload_n hx hb dX11_keeps_129 rfl (lv_at hl 1 rfl) ?_
                  refine lv_imul hx hb dX11_keeps_130 (lv_topi (fun v38 e_v38 => ?_))
                  have e_v38 := ai_mul e_v38 li_40 rfl (by omega)
                  refine lv_iload_n hx hb dX11_keeps_131 rfl (lv_at hl 2 rfl) ?_
                  refine lv_iadd hx hb dX11_keeps_132 (lv_topi (fun v39 e_v39 => ?_))
                  have e_v39 := ai_add e_v39 rfl rfl (by omega)
                  refine lv_iload hx hb dX11_keeps_133 (lv_at hl 4 rfl) ?_
                  refine lv_iadd hx hb dX11_keeps_135 (lv_topi (fun v40 e_v40 => ?_))
                  have e_v40 := ai_add e_v40 rfl hq24 (by omega)
                  refine tz_lald hx hb hK hT 5 rfl (by omega) dX11_keeps_136 (fun v41 e_v41 => ?_)
                  clear e_v41
                  refine lv_ldc2 hx hb hown (hU _ w1106) dX11_keeps_137 ?_
                  refine lv_ldc2 hx hb hown (hU _ w1107) dX11_keeps_140 ?_
                  have q_q43 := ll_m1000000
                  have q_q44 := ll_1000000
                  refine tcI (Tc := []) (Tr := [(h1, aI (k 0) 36 anI), (h4, aJ (k 1) 9 anJ), (h5, aJ (k 1) 9 anJ), (h6, aJ (k 1) 9 anJ), (h18, aI (k 0) 4 (vec4 h18f0 h18f1 h18f2 h18f3)), (h20, aJ (k 1) 160 anJ), (h19, aI (k 0) 4 (vec4 h19f0 h19f1 h19f2 h19f3)), (h0, ob 8 [.int h0f0, .int h0f1, .int h0f2, .int h0f3, .int h0f4, .int h0f5, .ref h1, .ref h2, .int h0f8, .int h0f9, .ref h3, .ref h4, .ref h5, .ref h6, .ref h7, .ref h8, .ref h9, .int h0f17, .int h0f18, .int h0f19, .ref h10, .ref h11, .ref h12, .ref h13, .int h0f24, .int h0f25, .ref h14, .ref h15, .ref h16, .ref h17, .int h0f30, .int h0f31, .ref h18, .ref h19, .ref h20, .ref h21]), (h3, aJ (k 1) 9 anJ)]) (as := []) (zcS (As := [.long v41, .long (-1000000), .long 1000000]) (rest := []) (Tc := []) hx hb hml hown hU hK hT [] rfl (by decide) (cX11_in_ca3b9 l D k _ v41 ((-1000000)) (1000000) (by have := ll_m1000000; omega) (by have := ll_1000000; omega)) w901 w899 w900 w72 hdX11_in ⟨rfl, rfl⟩ ⟨Nat.le_of_ble_eq_true rfl, Nat.le_of_ble_eq_true rfl⟩ rfl hl.1 (Nat.le_of_ble_eq_true rfl) dX11_keeps_143 ⟨Nat.le_of_ble_eq_true rfl, Nat.le_of_ble_eq_true rfl⟩) hT hS hA [] [0, 1, 2, 3, 4, 5, 6, 7, 8] rfl rfl rfl (by decide) (by decide) (fun r42 H locs hB J hS => ?_)
                  rcases hB with ⟨rfl, hT1⟩ | ⟨c_45, c_46, rfl, hT1⟩
                  · skip
                    have hT := J _ hT1
                    have hT : TP D A [(h1, aI (k 0) 36 anI), (h4, aJ (k 1) 9 anJ), (h5, aJ (k 1) 9 anJ), (h6, aJ (k 1) 9 anJ), (h18, aI (k 0) 4 (vec4 h18f0 h18f1 h18f2 h18f3)), (h20, aJ (k 1) 160 anJ), (h19, aI (k 0) 4 (vec4 h19f0 h19f1 h19f2 h19f3)), (h0, ob 8 [.int h0f0, .int h0f1, .int h0f2, .int h0f3, .int h0f4, .int h0f5, .ref h1, .ref h2, .int h0f8, .int h0f9, .ref h3, .ref h4, .ref h5, .ref h6, .ref h7, .ref h8, .ref h9, .int h0f17, .int h0f18, .int h0f19, .ref h10, .ref h11, .ref h12, .ref h13, .int h0f24, .int h0f25, .ref h14, .ref h15, .ref h16, .ref h17, .int h0f30, .int h0f31, .ref h18, .ref h19, .ref h20, .ref h21]), (h3, aJ (k 1) 9 anJ)] _ := hT
                    refine lv_if_eq (tgt := 153) hx hb dX11_keeps_146 (by decide) (fun _ => ?_) (fun cc => absurd (by decide +kernel) cc)
                    refine lv_iconst (v := 0) hx hb dX11_keeps_153 (by decide) ?_
                    refine lv_istore_n (lv' := [(3, .int 0), (0, .ref h0), (1, .int x1), (2, .int x2), (4, .int y16)]) hx hb dX11_keeps_154 rfl hl (by decide) rfl (fun ls hl => ?_)
                    obtain ⟨v47, e_v47⟩ : ∃ x : Int32, x = y16 + Int32.ofInt 1 := ⟨_, rfl⟩
                    have f_v47 := e_v47.symm
                    have e_v47 : v47.toInt = 0 + 1 := ai_add e_v47 hq24 (show (Int32.ofInt 1).toInt = 1 from (by decide +kernel)) (by omega)
                    refine lv_iinc (v := v47) (lv' := [(4, .int v47), (3, .int 0), (0, .ref h0), (1, .int x1), (2, .int x2)]) hx hb dX11_keeps_155 hl (k := 4) rfl f_v47 (by decide) rfl (fun ls hl => ?_)
                    refine lv_goto (tgt := 69) hx hb dX11_keeps_158 (by decide) ?_
                    exact ih69_18 v47 (0) _ _ _ (by have := li_0; omega) (by have := li_0; omega)  (by have := li_0; omega) hT hS (lv_sub hl [2, 3, 4, 1, 0] rfl)
                  · skip
                    have hT := J _ hT1
                    have hT : TP D A [(h1, aI (k 0) 36 anI), (h4, aJ (k 1) 9 anJ), (h5, aJ (k 1) 9 anJ), (h6, aJ (k 1) 9 anJ), (h18, aI (k 0) 4 (vec4 h18f0 h18f1 h18f2 h18f3)), (h20, aJ (k 1) 160 anJ), (h19, aI (k 0) 4 (vec4 h19f0 h19f1 h19f2 h19f3)), (h0, ob 8 [.int h0f0, .int h0f1, .int h0f2, .int h0f3, .int h0f4, .int h0f5, .ref h1, .ref h2, .int h0f8, .int h0f9, .ref h3, .ref h4, .ref h5, .ref h6, .ref h7, .ref h8, .ref h9, .int h0f17, .int h0f18, .int h0f19, .ref h10, .ref h11, .ref h12, .ref h13, .int h0f24, .int h0f25, .ref h14, .ref h15, .ref h16, .ref h17, .int h0f30, .int h0f31, .ref h18, .ref h19, .ref h20, .ref h21]), (h3, aJ (k 1) 9 anJ)] _ := hT
                    refine lv_if_eq (tgt := 153) hx hb dX11_keeps_146 (by decide) (fun cc => absurd cc (by decide +kernel)) (fun _ => ?_)
                    refine lv_iconst (v := 1) hx hb dX11_keeps_149 (by decide) ?_
                    refine lv_goto (tgt := 154) hx hb dX11_keeps_150 (by decide) ?_
                    refine lv_istore_n (lv' := [(3, .int 1), (0, .ref h0), (1, .int x1), (2, .int x2), (4, .int y16)]) hx hb dX11_keeps_154 rfl hl (by decide) rfl (fun ls hl => ?_)
                    obtain ⟨v48, e_v48⟩ : ∃ x : Int32, x = y16 + Int32.ofInt 1 := ⟨_, rfl⟩
                    have f_v48 := e_v48.symm
                    have e_v48 : v48.toInt = 0 + 1 := ai_add e_v48 hq24 (show (Int32.ofInt 1).toInt = 1 from (by decide +kernel)) (by omega)
                    refine lv_iinc (v := v48) (lv' := [(4, .int v48), (3, .int 1), (0, .ref h0), (1, .int x1), (2, .int x2)]) hx hb dX11_keeps_155 hl (k := 4) rfl f_v48 (by decide) rfl (fun ls hl => ?_)
                    refine lv_goto (tgt := 69) hx hb dX11_keeps_158 (by decide) ?_
                    exact ih69_18 v48 (1) _ _ _ (by have := li_1; omega) (by have := li_1; omega)  (by have := li_1; omega) hT hS (lv_sub hl [2, 3, 4, 1, 0] rfl)
          exact lp69_18 ((h0f0.toInt + (-1) * (0 : Int32).toInt + 1).toNat + 1) (0) (1) _ _ _ (by have := li_0; have := li_1; omega) (by have := li_0; have := li_1; omega)  (Nat.lt_succ_self _) hT hS (lv_sub hl [2, 3, 4, 1, 0] rfl)
      · skip
        have c_6 := ni_ne c_6 rfl li_0
        refine lv_aload_n hx hb dX11_keeps_18 rfl (lv_at hl 0 rfl) ?_
        refine tz_get (ci := 8) (v := .ref h18) (C := RX11) (F := TX11) (N := 36) hx hb hU iX11 hown hK hT 0 rfl rfl 32 (by decide) w817 (fun _ h9 => h9) rfl dX11_keeps_19 ?_
        refine lv_iload_n hx hb dX11_keeps_22 rfl (lv_at hl 1 rfl) ?_
        refine tz_iald hx hb hK hT 6 rfl (by omega) dX11_keeps_23 (fun v49 e_v49 => ?_)
        have e_v49 := x4_rg (lo := (-1)) (hi := 2) e_v49 (by omega) (by omega)
        refine lv_if_ge (tgt := 32) hx hb dX11_keeps_24 (by decide) (fun c_50 => ?_) (fun c_50 => ?_)
        · skip
          have c_50 := ni_le c_50 li_0 rfl
          refine lv_bipush (v := (-13)) hx hb dX11_keeps_32 (by decide) ?_
          exact tz_retI (B := B_cX11_keeps_4c286 D k h0 h1 h3 h4 h5 h6 h18 h19 h20 h2 h7 h8 h9 h10 h11 h12 h13 h14 h15 h16 h17 h21 x1 x2 h0f0 h0f1 h0f2 h0f3 h0f4 h0f5 h0f8 h0f9 h0f17 h0f18 h0f19 h0f24 h0f25 h0f30 h0f31 h18f0 h18f1 h18f2 h18f3 h19f0 h19f1 h19f2 h19f3) (v := (-13)) hQ hx hb hr hlocks hS (Nat.le_of_ble_eq_true rfl) (Nat.le_of_ble_eq_true rfl) dX11_keeps_34 (⟨(by have := li_m13; omega), hT⟩)
        · skip
          have c_50 := ni_nle c_50 li_0 rfl
          refine lv_bipush (v := (-11)) hx hb dX11_keeps_27 (by decide) ?_
          refine lv_goto (tgt := 34) hx hb dX11_keeps_29 (by decide) ?_
          exact tz_retI (B := B_cX11_keeps_4c286 D k h0 h1 h3 h4 h5 h6 h18 h19 h20 h2 h7 h8 h9 h10 h11 h12 h13 h14 h15 h16 h17 h21 x1 x2 h0f0 h0f1 h0f2 h0f3 h0f4 h0f5 h0f8 h0f9 h0f17 h0f18 h0f19 h0f24 h0f25 h0f30 h0f31 h18f0 h18f1 h18f2 h18f3 h19f0 h19f1 h19f2 h19f3) (v := (-11)) hQ hx hb hr hlocks hS (Nat.le_of_ble_eq_true rfl) (Nat.le_of_ble_eq_true rfl) dX11_keeps_34 (⟨(by have := li_m11; omega), hT⟩)
  · skip
    refine lv_iload_n hx hb dX11_keeps_0 rfl (lv_at hl 1 rfl) ?_
    refine tcI (Tc := []) (Tr := [(h0, ob 8 [.int h0f0, .int h0f1, .int h0f2, .int h0f3, .int h0f4, .int h0f5, .ref h1, .ref h2, .int h0f8, .int h0f9, .ref h3, .ref h4, .ref h5, .ref h6, .ref h7, .ref h8, .ref h9, .int h0f17, .int h0f18, .int h0f19, .ref h10, .ref h11, .ref h12, .ref h13, .int h0f24, .int h0f25, .ref h14, .ref h15, .ref h16, .ref h17, .int h0f30, .int h0f31, .ref h18, .ref h19, .ref h20, .ref h21]), (h1, aI (k 0) 36 anI), (h3, aJ (k 1) 9 anJ), (h4, aJ (k 1) 9 anJ), (h5, aJ (k 1) 9 anJ), (h6, aJ (k 1) 9 anJ), (h18, aI (k 0) 4 (vec4 h18f0 h18f1 h18f2 h18f3)), (h19, aI (k 0) 4 (vec4 h19f0 h19f1 h19f2 h19f3)), (h20, aJ (k 1) 160 anJ)]) (as := []) (zcS (As := [.int x1]) (rest := []) (Tc := []) hx hb hml hown hU hK hT [] rfl (by decide) (cX11_isSheet_2c130 l D k _ x1) w1101 w1099 w1100 w72 hdX11_isSheet ⟨rfl, rfl⟩ ⟨Nat.le_of_ble_eq_true rfl, Nat.le_of_ble_eq_true rfl⟩ rfl hl.1 (Nat.le_of_ble_eq_true rfl) dX11_keeps_1 ⟨Nat.le_of_ble_eq_true rfl, Nat.le_of_ble_eq_true rfl⟩) hT hS hA [] [0, 1, 2, 3, 4, 5, 6, 7, 8] rfl rfl rfl (by decide) (by decide) (fun r51 H locs hB J hS => ?_)
    rcases hB with ⟨rfl, hT1⟩ | ⟨c_52, c_53, rfl, hT1⟩
    · skip
      have hT := J _ hT1
      have hT : TP D A [(h0, ob 8 [.int h0f0, .int h0f1, .int h0f2, .int h0f3, .int h0f4, .int h0f5, .ref h1, .ref h2, .int h0f8, .int h0f9, .ref h3, .ref h4, .ref h5, .ref h6, .ref h7, .ref h8, .ref h9, .int h0f17, .int h0f18, .int h0f19, .ref h10, .ref h11, .ref h12, .ref h13, .int h0f24, .int h0f25, .ref h14, .ref h15, .ref h16, .ref h17, .int h0f30, .int h0f31, .ref h18, .ref h19, .ref h20, .ref h21]), (h1, aI (k 0) 36 anI), (h3, aJ (k 1) 9 anJ), (h4, aJ (k 1) 9 anJ), (h5, aJ (k 1) 9 anJ), (h6, aJ (k 1) 9 anJ), (h18, aI (k 0) 4 (vec4 h18f0 h18f1 h18f2 h18f3)), (h19, aI (k 0) 4 (vec4 h19f0 h19f1 h19f2 h19f3)), (h20, aJ (k 1) 160 anJ)] _ := hT
      refine lv_if_ne (tgt := 9) hx hb dX11_keeps_4 (by decide) (fun cc => absurd (by decide +kernel) cc) (fun _ => ?_)
      refine lv_iconst (v := (-1)) hx hb dX11_keeps_7 (by decide) ?_
      exact tz_retI (B := B_cX11_keeps_4c286 D k h0 h1 h3 h4 h5 h6 h18 h19 h20 h2 h7 h8 h9 h10 h11 h12 h13 h14 h15 h16 h17 h21 x1 x2 h0f0 h0f1 h0f2 h0f3 h0f4 h0f5 h0f8 h0f9 h0f17 h0f18 h0f19 h0f24 h0f25 h0f30 h0f31 h18f0 h18f1 h18f2 h18f3 h19f0 h19f1 h19f2 h19f3) (v := (-1)) hQ hx hb hr hlocks hS (Nat.le_of_ble_eq_true rfl) (Nat.le_of_ble_eq_true rfl) dX11_keeps_8 (⟨(by have := li_m1; omega), hT⟩)
    · skip
      have hT := J _ hT1
      have hT : TP D A [(h0, ob 8 [.int h0f0, .int h0f1, .int h0f2, .int h0f3, .int h0f4, .int h0f5, .ref h1, .ref h2, .int h0f8, .int h0f9, .ref h3, .ref h4, .ref h5, .ref h6, .ref h7, .ref h8, .ref h9, .int h0f17, .int h0f18, .int h0f19, .ref h10, .ref h11, .ref h12, .ref h13, .int h0f24, .int h0f25, .ref h14, .ref h15, .ref h16, .ref h17, .int h0f30, .int h0f31, .ref h18, .ref h19, .ref h20, .ref h21]), (h1, aI (k 0) 36 anI), (h3, aJ (k 1) 9 anJ), (h4, aJ (k 1) 9 anJ), (h5, aJ (k 1) 9 anJ), (h6, aJ (k 1) 9 anJ), (h18, aI (k 0) 4 (vec4 h18f0 h18f1 h18f2 h18f3)), (h19, aI (k 0) 4 (vec4 h19f0 h19f1 h19f2 h19f3)), (h20, aJ (k 1) 160 anJ)] _ := hT
      refine lv_if_ne (tgt := 9) hx hb dX11_keeps_4 (by decide) (fun _ => ?_) (fun cc => absurd cc (by decide +kernel))
      refine lv_aload_n hx hb dX11_keeps_9 rfl (lv_at hl 0 rfl) ?_
      refine tz_get (ci := 8) (v := .ref h18) (C := RX11) (F := TX11) (N := 36) hx hb hU iX11 hown hK hT 0 rfl rfl 32 (by decide) w817 (fun _ h9 => h9) rfl dX11_keeps_10 ?_
      refine lv_iload_n hx hb dX11_keeps_13 rfl (lv_at hl 1 rfl) ?_
      refine tz_iald hx hb hK hT 6 rfl (by omega) dX11_keeps_14 (fun v54 e_v54 => ?_)
      have e_v54 := x4_rg (lo := (-1)) (hi := 2) e_v54 (by omega) (by omega)
      refine lv_if_eq (tgt := 35) hx hb dX11_keeps_15 (by decide) (fun c_55 => ?_) (fun c_55 => ?_)
      · skip
        have c_55 := ni_eq c_55 rfl li_0
        refine lv_aload_n hx hb dX11_keeps_35 rfl (lv_at hl 0 rfl) ?_
        refine lv_iload_n hx hb dX11_keeps_36 rfl (lv_at hl 1 rfl) ?_
        refine lv_iload_n hx hb dX11_keeps_37 rfl (lv_at hl 2 rfl) ?_
        refine lv_aload_n hx hb dX11_keeps_38 rfl (lv_at hl 0 rfl) ?_
        refine tz_get (ci := 8) (v := .int h0f0) (C := RX11) (F := TX11) (N := 36) hx hb hU iX11 hown hK hT 0 rfl rfl 0 (by decide) w785 (fun _ h9 => h9) rfl dX11_keeps_39 ?_
        refine lv_aload_n hx hb dX11_keeps_42 rfl (lv_at hl 0 rfl) ?_
        refine tz_get (ci := 8) (v := .int h0f0) (C := RX11) (F := TX11) (N := 36) hx hb hU iX11 hown hK hT 0 rfl rfl 0 (by decide) w785 (fun _ h9 => h9) rfl dX11_keeps_43 ?_
        refine lv_imul hx hb dX11_keeps_46 (lv_topi (fun v56 e_v56 => ?_))
        have e_v56 := ai_mul e_v56 hq1 hq1 (by omega)
        refine tcI (Tc := [(h0, ob 8 [.int h0f0, .int h0f1, .int h0f2, .int h0f3, .int h0f4, .int h0f5, .ref h1, .ref h2, .int h0f8, .int h0f9, .ref h3, .ref h4, .ref h5, .ref h6, .ref h7, .ref h8, .ref h9, .int h0f17, .int h0f18, .int h0f19, .ref h10, .ref h11, .ref h12, .ref h13, .int h0f24, .int h0f25, .ref h14, .ref h15, .ref h16, .ref h17, .int h0f30, .int h0f31, .ref h18, .ref h19, .ref h20, .ref h21]), (h19, aI (k 0) 4 (vec4 h19f0 h19f1 h19f2 h19f3))]) (Tr := [(h1, aI (k 0) 36 anI), (h3, aJ (k 1) 9 anJ), (h4, aJ (k 1) 9 anJ), (h5, aJ (k 1) 9 anJ), (h6, aJ (k 1) 9 anJ), (h18, aI (k 0) 4 (vec4 h18f0 h18f1 h18f2 h18f3)), (h20, aJ (k 1) 160 anJ)]) (as := [h0, h19]) (zcV (q0 := 0) (ci := 8) (As := [.int x1, .int x2, .int v56]) (rest := []) (Tc := [(h0, ob 8 [.int h0f0, .int h0f1, .int h0f2, .int h0f3, .int h0f4, .int h0f5, .ref h1, .ref h2, .int h0f8, .int h0f9, .ref h3, .ref h4, .ref h5, .ref h6, .ref h7, .ref h8, .ref h9, .int h0f17, .int h0f18, .int h0f19, .ref h10, .ref h11, .ref h12, .ref h13, .int h0f24, .int h0f25, .ref h14, .ref h15, .ref h16, .ref h17, .int h0f30, .int h0f31, .ref h18, .ref h19, .ref h20, .ref h21]), (h19, aI (k 0) 4 (vec4 h19f0 h19f1 h19f2 h19f3))]) hx hb hml hown hU hK hT rfl rfl [0, 7] rfl (by decide) (cX11_isOutside_e242f l D k _ h0 h19 h1 h2 h3 h4 h5 h6 h7 h8 h9 h10 h11 h12 h13 h14 h15 h16 h17 h18 h20 h21 x1 x2 v56 h0f0 h0f1 h0f2 h0f3 h0f4 h0f5 h0f8 h0f9 h0f17 h0f18 h0f19 h0f24 h0f25 h0f30 h0f31 h19f0 h19f1 h19f2 h19f3 (by omega) (by omega) (by omega) (by omega) (by omega) (by omega) (by omega) (by omega) (by omega) (by omega) (by omega) (by omega) (by omega) (by omega) (by omega) (by omega) (by omega) (by omega) (by omega) (by omega)) w1105 w1102 w1104 w53 w72 hdX11_isOutside ⟨rfl, rfl⟩ ⟨Nat.le_of_ble_eq_true rfl, Nat.le_of_ble_eq_true rfl⟩ rfl hl.1 (Nat.le_of_ble_eq_true rfl) dX11_keeps_47 ⟨Nat.le_of_ble_eq_true rfl, Nat.le_of_ble_eq_true rfl⟩) hT hS hA [0, 7] [1, 2, 3, 4, 5, 6, 8] rfl rfl rfl (by decide) (by decide) (fun r57 H locs hB J hS => ?_)
        rcases hB with ⟨rfl, hT1⟩ | ⟨v58, b_v58, c_59, c_60, c_61, c_62, c_63, rfl, hT1⟩
        · skip
          have hT := J _ hT1
          have hT : TP D A [(h1, aI (k 0) 36 anI), (h3, aJ (k 1) 9 anJ), (h4, aJ (k 1) 9 anJ), (h5, aJ (k 1) 9 anJ), (h6, aJ (k 1) 9 anJ), (h18, aI (k 0) 4 (vec4 h18f0 h18f1 h18f2 h18f3)), (h20, aJ (k 1) 160 anJ), (h0, ob 8 [.int h0f0, .int h0f1, .int h0f2, .int h0f3, .int h0f4, .int h0f5, .ref h1, .ref h2, .int h0f8, .int h0f9, .ref h3, .ref h4, .ref h5, .ref h6, .ref h7, .ref h8, .ref h9, .int h0f17, .int h0f18, .int h0f19, .ref h10, .ref h11, .ref h12, .ref h13, .int h0f24, .int h0f25, .ref h14, .ref h15, .ref h16, .ref h17, .int h0f30, .int h0f31, .ref h18, .ref h19, .ref h20, .ref h21]), (h19, aI (k 0) 4 (vec4 h19f0 h19f1 h19f2 h19f3))] _ := hT
          refine lv_if_eq (tgt := 56) hx hb dX11_keeps_50 (by decide) (fun cc => absurd cc (by decide +kernel)) (fun _ => ?_)
          refine lv_bipush (v := (-12)) hx hb dX11_keeps_53 (by decide) ?_
          exact tz_retI (B := B_cX11_keeps_4c286 D k h0 h1 h3 h4 h5 h6 h18 h19 h20 h2 h7 h8 h9 h10 h11 h12 h13 h14 h15 h16 h17 h21 x1 x2 h0f0 h0f1 h0f2 h0f3 h0f4 h0f5 h0f8 h0f9 h0f17 h0f18 h0f19 h0f24 h0f25 h0f30 h0f31 h18f0 h18f1 h18f2 h18f3 h19f0 h19f1 h19f2 h19f3) (v := (-12)) hQ hx hb hr hlocks hS (Nat.le_of_ble_eq_true rfl) (Nat.le_of_ble_eq_true rfl) dX11_keeps_55 (⟨(by have := li_m12; omega), (hT.sub [7, 0, 1, 2, 3, 4, 5, 8, 6] (by decide) rfl)⟩)
        · skip
          have hT := J _ hT1
          have hT : TP D A [(h1, aI (k 0) 36 anI), (h3, aJ (k 1) 9 anJ), (h4, aJ (k 1) 9 anJ), (h5, aJ (k 1) 9 anJ), (h6, aJ (k 1) 9 anJ), (h18, aI (k 0) 4 (vec4 h18f0 h18f1 h18f2 h18f3)), (h20, aJ (k 1) 160 anJ), (h0, ob 8 [.int h0f0, .int h0f1, .int h0f2, .int h0f3, .int h0f4, .int h0f5, .ref h1, .ref h2, .int h0f8, .int h0f9, .ref h3, .ref h4, .ref h5, .ref h6, .ref h7, .ref h8, .ref h9, .int h0f17, .int h0f18, .int h0f19, .ref h10, .ref h11, .ref h12, .ref h13, .int h0f24, .int h0f25, .ref h14, .ref h15, .ref h16, .ref h17, .int h0f30, .int h0f31, .ref h18, .ref h19, .ref h20, .ref h21]), (h19, aI (k 0) 4 (vec4 h19f0 h19f1 h19f2 h19f3))] _ := hT
          refine lv_if_eq (tgt := 56) hx hb dX11_keeps_50 (by decide) (fun _ => ?_) (fun cc => absurd (by decide +kernel) cc)
          refine lv_aload_n hx hb dX11_keeps_56 rfl (lv_at hl 0 rfl) ?_
          refine lv_aload_n hx hb dX11_keeps_57 rfl (lv_at hl 0 rfl) ?_
          refine tz_get (ci := 8) (v := .ref h3) (C := RX11) (F := TX11) (N := 36) hx hb hU iX11 hown hK hT 7 rfl rfl 10 (by decide) w795 (fun _ h9 => h9) rfl dX11_keeps_58 ?_
          refine tcV (Tc := [(h0, ob 8 [.int h0f0, .int h0f1, .int h0f2, .int h0f3, .int h0f4, .int h0f5, .ref h1, .ref h2, .int h0f8, .int h0f9, .ref h3, .ref h4, .ref h5, .ref h6, .ref h7, .ref h8, .ref h9, .int h0f17, .int h0f18, .int h0f19, .ref h10, .ref h11, .ref h12, .ref h13, .int h0f24, .int h0f25, .ref h14, .ref h15, .ref h16, .ref h17, .int h0f30, .int h0f31, .ref h18, .ref h19, .ref h20, .ref h21]), (h3, aJ (k 1) 9 anJ)]) (Tr := [(h1, aI (k 0) 36 anI), (h4, aJ (k 1) 9 anJ), (h5, aJ (k 1) 9 anJ), (h6, aJ (k 1) 9 anJ), (h18, aI (k 0) 4 (vec4 h18f0 h18f1 h18f2 h18f3)), (h20, aJ (k 1) 160 anJ), (h19, aI (k 0) 4 (vec4 h19f0 h19f1 h19f2 h19f3))]) (as := [h0, h3]) (zcV (q0 := 7) (ci := 8) (As := [.ref h3]) (rest := []) (Tc := [(h0, ob 8 [.int h0f0, .int h0f1, .int h0f2, .int h0f3, .int h0f4, .int h0f5, .ref h1, .ref h2, .int h0f8, .int h0f9, .ref h3, .ref h4, .ref h5, .ref h6, .ref h7, .ref h8, .ref h9, .int h0f17, .int h0f18, .int h0f19, .ref h10, .ref h11, .ref h12, .ref h13, .int h0f24, .int h0f25, .ref h14, .ref h15, .ref h16, .ref h17, .int h0f30, .int h0f31, .ref h18, .ref h19, .ref h20, .ref h21]), (h3, aJ (k 1) 9 anJ)]) hx hb hml hown hU hK hT rfl rfl [7, 1] rfl (by decide) (cX11_clears_d395b l D k _ h0 h3 h1 h2 h4 h5 h6 h7 h8 h9 h10 h11 h12 h13 h14 h15 h16 h17 h18 h19 h20 h21 h0f0 h0f1 h0f2 h0f3 h0f4 h0f5 h0f8 h0f9 h0f17 h0f18 h0f19 h0f24 h0f25 h0f30 h0f31 (by omega) (by omega) (by omega) (by omega) (by omega) (by omega) (by omega) (by omega) (by omega) (by omega) (by omega) (by omega) (by omega) (by omega) (by omega)) w923 w920 w922 w29 w72 hdX11_clears ⟨rfl, rfl⟩ ⟨Nat.le_of_ble_eq_true rfl, Nat.le_of_ble_eq_true rfl⟩ rfl hl.1 (Nat.le_of_ble_eq_true rfl) dX11_keeps_61 ⟨Nat.le_of_ble_eq_true rfl, Nat.le_of_ble_eq_true rfl⟩) hT hS hA [7, 1] [0, 2, 3, 4, 5, 6, 8] rfl rfl rfl (by decide) (by decide) (fun H locs hB J hS => ?_)
          have hT1 := hB
          have hT := J _ hT1
          have hT : TP D A [(h1, aI (k 0) 36 anI), (h4, aJ (k 1) 9 anJ), (h5, aJ (k 1) 9 anJ), (h6, aJ (k 1) 9 anJ), (h18, aI (k 0) 4 (vec4 h18f0 h18f1 h18f2 h18f3)), (h20, aJ (k 1) 160 anJ), (h19, aI (k 0) 4 (vec4 h19f0 h19f1 h19f2 h19f3)), (h0, ob 8 [.int h0f0, .int h0f1, .int h0f2, .int h0f3, .int h0f4, .int h0f5, .ref h1, .ref h2, .int h0f8, .int h0f9, .ref h3, .ref h4, .ref h5, .ref h6, .ref h7, .ref h8, .ref h9, .int h0f17, .int h0f18, .int h0f19, .ref h10, .ref h11, .ref h12, .ref h13, .int h0f24, .int h0f25, .ref h14, .ref h15, .ref h16, .ref h17, .int h0f30, .int h0f31, .ref h18, .ref h19, .ref h20, .ref h21]), (h3, aJ (k 1) 9 anJ)] _ := hT
          refine lv_iconst (v := 1) hx hb dX11_keeps_64 (by decide) ?_
          refine lv_istore_n (lv' := [(3, .int 1), (0, .ref h0), (1, .int x1), (2, .int x2)]) hx hb dX11_keeps_65 rfl hl (by decide) rfl (fun ls hl => ?_)
          refine lv_iconst (v := 0) hx hb dX11_keeps_66 (by decide) ?_
          refine lv_istore (lv' := [(4, .int 0), (3, .int 1), (0, .ref h0), (1, .int x1), (2, .int x2)]) hx hb dX11_keeps_67 hl (by decide) rfl (fun ls hl => ?_)
          have lp69_73 : ∀ (n : Nat) (y71 : Int32) (y72 : Int32) (H : Heap) (locs : List Loc) (ls : Array Slot), (0 ≤ y71.toInt ∧ y71.toInt ≤ 4) → (0 ≤ y72.toInt ∧ y72.toInt ≤ 1) → (2 * h0f0.toInt + (-1) * y71.toInt + 1).toNat < n → TP D A [(h1, aI (k 0) 36 anI), (h4, aJ (k 1) 9 anJ), (h5, aJ (k 1) 9 anJ), (h6, aJ (k 1) 9 anJ), (h18, aI (k 0) 4 (vec4 h18f0 h18f1 h18f2 h18f3)), (h20, aJ (k 1) 160 anJ), (h19, aI (k 0) 4 (vec4 h19f0 h19f1 h19f2 h19f3)), (h0, ob 8 [.int h0f0, .int h0f1, .int h0f2, .int h0f3, .int h0f4, .int h0f5, .ref h1, .ref h2, .int h0f8, .int h0f9, .ref h3, .ref h4, .ref h5, .ref h6, .ref h7, .ref h8, .ref h9, .int h0f17, .int h0f18, .int h0f19, .ref h10, .ref h11, .ref h12, .ref h13, .int h0f24, .int h0f25, .ref h14, .ref h15, .ref h16, .ref h17, .int h0f30, .int h0f31, .ref h18, .ref h19, .ref h20, .ref h21]), (h3, aJ (k 1) 9 anJ)] H → va_S A s.heap H locs → lv_has ls 5 [(0, .ref h0), (1, .int x1), (2, .int x2), (3, .int y72), (4, .int y71)] → W p l e Rm_cX11_keeps_4c286 s m args below meth c H locs 0 0 Q (F0 m 69 ls []) := by
            intro n
            induction n with
            | zero => intro y71 y72 H locs ls b_y71 b_y72 hm hT hS hl; exact absurd hm (Nat.not_lt_zero _)
            | succ n ih =>
              intro y71 y72 H locs ls b_y71 b_y72 hm hT hS hl
              have ih69_73 := ih
              clear ih
              refine lv_iload hx hb dX11_keeps_69 (lv_at hl 4 rfl) ?_
              refine lv_aload_n hx hb dX11_keeps_71 rfl (lv_at hl 0 rfl) ?_
              refine tz_get (ci := 8) (v := .int h0f0) (C := RX11) (F := TX11) (N := 36) hx hb hU iX11 hown hK hT 7 rfl rfl 0 (by decide) w785 (fun _ h9 => h9) rfl dX11_keeps_72 ?_
              refine lv_aload_n hx hb dX11_keeps_75 rfl (lv_at hl 0 rfl) ?_
              refine tz_get (ci := 8) (v := .int h0f0) (C := RX11) (F := TX11) (N := 36) hx hb hU iX11 hown hK hT 7 rfl rfl 0 (by decide) w785 (fun _ h9 => h9) rfl dX11_keeps_76 ?_
              refine lv_imul hx hb dX11_keeps_79 (lv_topi (fun v74 e_v74 => ?_))
              have e_v74 := ai_mul e_v74 hq1 hq1 (by omega)
              refine lv_icmp_ge (tgt := 161) hx hb dX11_keeps_80 (by decide) (fun c_75 => ?_) (fun c_75 => ?_)
              · skip
                have c_75 := ni_le c_75 rfl rfl
                refine lv_iload_n hx hb dX11_keeps_161 rfl (lv_at hl 3 rfl) ?_
                refine lv_if_ne (tgt := 170) hx hb dX11_keeps_162 (by decide) (fun c_76 => ?_) (fun c_76 => ?_)
                · skip
                  have c_76 := ni_ne c_76 rfl li_0
                  refine lv_aload_n hx hb dX11_keeps_170 rfl (lv_at hl 0 rfl) ?_
                  refine tcI (Tc := [(h0, ob 8 [.int h0f0, .int h0f1, .int h0f2, .int h0f3, .int h0f4, .int h0f5, .ref h1, .ref h2, .int h0f8, .int h0f9, .ref h3, .ref h4, .ref h5, .ref h6, .ref h7, .ref h8, .ref h9, .int h0f17, .int h0f18, .int h0f19, .ref h10, .ref h11, .ref h12, .ref h13, .int h0f24, .int h0f25, .ref h14, .ref h15, .ref h16, .ref h17, .int h0f30, .int h0f31, .ref h18, .ref h19, .ref h20, .ref h21]), (h1, aI (k 0) 36 anI), (h3, aJ (k 1) 9 anJ), (h4, aJ (k 1) 9 anJ), (h5, aJ (k 1) 9 anJ), (h6, aJ (k 1) 9 anJ)]) (Tr := [(h18, aI (k 0) 4 (vec4 h18f0 h18f1 h18f2 h18f3)), (h20, aJ (k 1) 160 anJ), (h19, aI (k 0) 4 (vec4 h19f0 h19f1 h19f2 h19f3))]) (as := [h0, h1, h3, h4, h5, h6]) (zcV (q0 := 7) (ci := 8) (As := []) (rest := []) (Tc := [(h0, ob 8 [.int h0f0, .int h0f1, .int h0f2, .int h0f3, .int h0f4, .int h0f5, .ref h1, .ref h2, .int h0f8, .int h0f9, .ref h3, .ref h4, .ref h5, .ref h6, .ref h7, .ref h8, .ref h9, .int h0f17, .int h0f18, .int h0f19, .ref h10, .ref h11, .ref h12, .ref h13, .int h0f24, .int h0f25, .ref h14, .ref h15, .ref h16, .ref h17, .int h0f30, .int h0f31, .ref h18, .ref h19, .ref h20, .ref h21]), (h1, aI (k 0) 36 anI), (h3, aJ (k 1) 9 anJ), (h4, aJ (k 1) 9 anJ), (h5, aJ (k 1) 9 anJ), (h6, aJ (k 1) 9 anJ)]) hx hb hml hown hU hK hT rfl rfl [7, 0, 8, 1, 2, 3] rfl (by decide) (cX11_keepsAll_09e70 l D k _ h0 h1 h3 h4 h5 h6 h2 h7 h8 h9 h10 h11 h12 h13 h14 h15 h16 h17 h18 h19 h20 h21 h0f0 h0f1 h0f2 h0f3 h0f4 h0f5 h0f8 h0f9 h0f17 h0f18 h0f19 h0f24 h0f25 h0f30 h0f31 (by omega) (by omega) (by omega) (by omega) (by omega) (by omega) (by omega) (by omega) (by omega) (by omega) (by omega) (by omega) (by omega) (by omega) (by omega)) w1111 w1108 w1110 w54 w72 hdX11_keepsAll ⟨rfl, rfl⟩ ⟨Nat.le_of_ble_eq_true rfl, Nat.le_of_ble_eq_true rfl⟩ rfl hl.1 (Nat.le_of_ble_eq_true rfl) dX11_keeps_171 ⟨Nat.le_of_ble_eq_true rfl, Nat.le_of_ble_eq_true rfl⟩) hT hS hA [7, 0, 8, 1, 2, 3] [4, 5, 6] rfl rfl rfl (by decide) (by decide) (fun r77 H locs hB J hS => ?_)
                  obtain ⟨b_r77, hT1⟩ := hB
                  have hT := J _ hT1
                  have hT : TP D A [(h18, aI (k 0) 4 (vec4 h18f0 h18f1 h18f2 h18f3)), (h20, aJ (k 1) 160 anJ), (h19, aI (k 0) 4 (vec4 h19f0 h19f1 h19f2 h19f3)), (h0, ob 8 [.int h0f0, .int h0f1, .int h0f2, .int h0f3, .int h0f4, .int h0f5, .ref h1, .ref h2, .int h0f8, .int h0f9, .ref h3, .ref h4, .ref h5, .ref h6, .ref h7, .ref h8, .ref h9, .int h0f17, .int h0f18, .int h0f19, .ref h10, .ref h11, .ref h12, .ref h13, .int h0f24, .int h0f25, .ref h14, .ref h15, .ref h16, .ref h17, .int h0f30, .int h0f31, .ref h18, .ref h19, .ref h20, .ref h21]), (h1, aI (k 0) 36 anI), (h3, aJ (k 1) 9 anJ), (h4, aJ (k 1) 9 anJ), (h5, aJ (k 1) 9 anJ), (h6, aJ (k 1) 9 anJ)] _ := hT
                  refine lv_if_eq (tgt := 181) hx hb dX11_keeps_174 (by decide) (fun c_78 => ?_) (fun c_78 => ?_)
                  · skip
                    have c_78 := ni_eq c_78 rfl li_0
                    refine lv_iconst (v := 0) hx hb dX11_keeps_181 (by decide) ?_
                    exact tz_retI (B := B_cX11_keeps_4c286 D k h0 h1 h3 h4 h5 h6 h18 h19 h20 h2 h7 h8 h9 h10 h11 h12 h13 h14 h15 h16 h17 h21 x1 x2 h0f0 h0f1 h0f2 h0f3 h0f4 h0f5 h0f8 h0f9 h0f17 h0f18 h0f19 h0f24 h0f25 h0f30 h0f31 h18f0 h18f1 h18f2 h18f3 h19f0 h19f1 h19f2 h19f3) (v := 0) hQ hx hb hr hlocks hS (Nat.le_of_ble_eq_true rfl) (Nat.le_of_ble_eq_true rfl) dX11_keeps_182 (⟨(by have := li_0; omega), (hT.sub [3, 4, 5, 6, 7, 8, 0, 2, 1] (by decide) rfl)⟩)
                  · skip
                    have c_78 := ni_ne c_78 rfl li_0
                    refine lv_iconst (v := 1) hx hb dX11_keeps_177 (by decide) ?_
                    refine lv_goto (tgt := 182) hx hb dX11_keeps_178 (by decide) ?_
                    exact tz_retI (B := B_cX11_keeps_4c286 D k h0 h1 h3 h4 h5 h6 h18 h19 h20 h2 h7 h8 h9 h10 h11 h12 h13 h14 h15 h16 h17 h21 x1 x2 h0f0 h0f1 h0f2 h0f3 h0f4 h0f5 h0f8 h0f9 h0f17 h0f18 h0f19 h0f24 h0f25 h0f30 h0f31 h18f0 h18f1 h18f2 h18f3 h19f0 h19f1 h19f2 h19f3) (v := 1) hQ hx hb hr hlocks hS (Nat.le_of_ble_eq_true rfl) (Nat.le_of_ble_eq_true rfl) dX11_keeps_182 (⟨(by have := li_1; omega), (hT.sub [3, 4, 5, 6, 7, 8, 0, 2, 1] (by decide) rfl)⟩)
                · skip
                  have c_76 := ni_eq c_76 rfl li_0
                  refine lv_bipush (v := (-16)) hx hb dX11_keeps_165 (by decide) ?_
                  refine lv_goto (tgt := 182) hx hb dX11_keeps_167 (by decide) ?_
                  exact tz_retI (B := B_cX11_keeps_4c286 D k h0 h1 h3 h4 h5 h6 h18 h19 h20 h2 h7 h8 h9 h10 h11 h12 h13 h14 h15 h16 h17 h21 x1 x2 h0f0 h0f1 h0f2 h0f3 h0f4 h0f5 h0f8 h0f9 h0f17 h0f18 h0f19 h0f24 h0f25 h0f30 h0f31 h18f0 h18f1 h18f2 h18f3 h19f0 h19f1 h19f2 h19f3) (v := (-16)) hQ hx hb hr hlocks hS (Nat.le_of_ble_eq_true rfl) (Nat.le_of_ble_eq_true rfl) dX11_keeps_182 (⟨(by have := li_m16; omega), (hT.sub [7, 0, 8, 1, 2, 3, 4, 6, 5] (by decide) rfl)⟩)
              · skip
                have c_75 := ni_nle c_75 rfl rfl
                refine lv_aload_n hx hb dX11_keeps_83 rfl (lv_at hl 0 rfl) ?_
                refine tz_get (ci := 8) (v := .ref h3) (C := RX11) (F := TX11) (N := 36) hx hb hU iX11 hown hK hT 7 rfl rfl 10 (by decide) w795 (fun _ h9 => h9) rfl dX11_keeps_84 ?_
                refine lv_iconst (v := 3) hx hb dX11_keeps_87 (by decide) ?_
                refine lv_iload hx hb dX11_keeps_88 (lv_at hl 4 rfl) ?_
                refine lv_aload_n hx hb dX11_keeps_90 rfl (lv_at hl 0 rfl) ?_
                refine tz_get (ci := 8) (v := .int h0f0) (C := RX11) (F := TX11) (N := 36) hx hb hU iX11 hown hK hT 7 rfl rfl 0 (by decide) w785 (fun _ h9 => h9) rfl dX11_keeps_91 ?_
                refine lv_idiv hx hb dX11_keeps_94 (nz32 (y := 2) hq1 (by omega)) (lv_topi (fun v79 e_v79 => ?_))
                have e_v79 := ai_div e_v79 rfl hq1 (by omega)
                refine lv_imul hx hb dX11_keeps_95 (lv_topi (fun v80 e_v80 => ?_))
                have e_v80 := ai_mul e_v80 li_3 rfl (by omega)
                refine lv_iload hx hb dX11_keeps_96 (lv_at hl 4 rfl) ?_
                refine lv_aload_n hx hb dX11_keeps_98 rfl (lv_at hl 0 rfl) ?_
                refine tz_get (ci := 8) (v := .int h0f0) (C := RX11) (F := TX11) (N := 36) hx hb hU iX11 hown hK hT 7 rfl rfl 0 (by decide) w785 (fun _ h9 => h9) rfl dX11_keeps_99 ?_
                refine lv_irem hx hb dX11_keeps_102 (nz32 (y := 2) hq1 (by omega)) (lv_topi (fun v81 e_v81 => ?_))
                have e_v81 := ai_rem e_v81 rfl hq1 (by omega)
                refine lv_iadd hx hb dX11_keeps_103 (lv_topi (fun v82 e_v82 => ?_))
                have e_v82 := ai_add e_v82 rfl rfl (by omega)
                refine lv_aload_n hx hb dX11_keeps_104 rfl (lv_at hl 0 rfl) ?_
                refine tz_get (ci := 8) (v := .ref h20) (C := RX11) (F := TX11) (N := 36) hx hb hU iX11 hown hK hT 7 rfl rfl 34 (by decide) w819 (fun _ h9 => h9) rfl dX11_keeps_105 ?_
                refine lv_bipush (v := 40) hx hb dX11_keeps_108 (by decide) ?_
                refine lv_iload_n hx hb dX11_keeps_110 rfl (lv_at hl 1 rfl) ?_
                refine lv_imul hx hb dX11_keeps_111 (lv_topi (fun v83 e_v83 => ?_))
                have e_v83 := ai_mul e_v83 li_40 rfl (by omega)
                refine lv_iload_n hx hb dX11_keeps_112 rfl (lv_at hl 2 rfl) ?_
                refine lv_iadd hx hb dX11_keeps_113 (lv_topi (fun v84 e_v84 => ?_))
                have e_v84 := ai_add e_v84 rfl rfl (by omega)
                refine lv_iload hx hb dX11_keeps_114 (lv_at hl 4 rfl) ?_
                refine lv_iadd hx hb dX11_keeps_116 (lv_topi (fun v85 e_v85 => ?_))
                have e_v85 := ai_add e_v85 rfl rfl (by omega)
                refine tz_lald hx hb hK hT 5 rfl (by omega) dX11_keeps_117 (fun v86 e_v86 => ?_)
                clear e_v86
                refine tz_last hx hb hK hT hS 8 rfl (by omega) (fun _ _ => trivial) dX11_keeps_118 (fun H locs hT hS => ?_)
                refine lv_iload_n hx hb dX11_keeps_119 rfl (lv_at hl 3 rfl) ?_
                refine lv_if_eq (tgt := 153) hx hb dX11_keeps_120 (by decide) (fun c_87 => ?_) (fun c_87 => ?_)
                · skip
                  have c_87 := ni_eq c_87 rfl li_0
                  refine lv_iconst (v := 0) hx hb dX11_keeps_153 (by decide) ?_
                  refine lv_istore_n (lv' := [(3, .int 0), (0, .ref h0), (1, .int x1), (2, .int x2), (4, .int y71)]) hx hb dX11_keeps_154 rfl hl (by decide) rfl (fun ls hl => ?_)
                  obtain ⟨v88, e_v88⟩ : ∃ x : Int32, x = y71 + Int32.ofInt 1 := ⟨_, rfl⟩
                  have f_v88 := e_v88.symm
                  have e_v88 : v88.toInt = y71.toInt + 1 := ai_add e_v88 rfl (show (Int32.ofInt 1).toInt = 1 from (by decide +kernel)) (by omega)
                  refine lv_iinc (v := v88) (lv' := [(4, .int v88), (3, .int 0), (0, .ref h0), (1, .int x1), (2, .int x2)]) hx hb dX11_keeps_155 hl (k := 4) rfl f_v88 (by decide) rfl (fun ls hl => ?_)
                  refine lv_goto (tgt := 69) hx hb dX11_keeps_158 (by decide) ?_
                  exact ih69_73 v88 (0) _ _ _ (by have := li_0; omega) (by have := li_0; omega)  (by have := li_0; omega) hT hS (lv_sub hl [2, 3, 4, 1, 0] rfl)
                · skip
                  have c_87 := ni_ne c_87 rfl li_0
                  refine lv_aload_n hx hb dX11_keeps_123 rfl (lv_at hl 0 rfl) ?_
                  refine tz_get (ci := 8) (v := .ref h20) (C := RX11) (F := TX11) (N := 36) hx hb hU iX11 hown hK hT 7 rfl rfl 34 (by decide) w819 (fun _ h9 => h9) rfl dX11_keeps_124 ?_
                  refine lv_bipush (v := 40) hx hb dX11_keeps_127 (by decide) ?_
                  refine lv_iload_n hx hb dX11_keeps_129 rfl (lv_at hl 1 rfl) ?_
                  refine lv_imul hx hb dX11_keeps_130 (lv_topi (fun v89 e_v89 => ?_))
                  have e_v89 := ai_mul e_v89 li_40 rfl (by omega)
                  refine lv_iload_n hx hb dX11_keeps_131 rfl (lv_at hl 2 rfl) ?_
                  refine lv_iadd hx hb dX11_keeps_132 (lv_topi (fun v90 e_v90 => ?_))
                  have e_v90 := ai_add e_v90 rfl rfl (by omega)
                  refine lv_iload hx hb dX11_keeps_133 (lv_at hl 4 rfl) ?_
                  refine lv_iadd hx hb dX11_keeps_135 (lv_topi (fun v91 e_v91 => ?_))
                  have e_v91 := ai_add e_v91 rfl rfl (by omega)
                  refine tz_lald hx hb hK hT 5 rfl (by omega) dX11_keeps_136 (fun v92 e_v92 => ?_)
                  clear e_v92
                  refine lv_ldc2 hx hb hown (hU _ w1106) dX11_keeps_137 ?_
                  refine lv_ldc2 hx hb hown (hU _ w1107) dX11_keeps_140 ?_
                  have q_q94 := ll_m1000000
                  have q_q95 := ll_1000000
                  refine tcI (Tc := []) (Tr := [(h1, aI (k 0) 36 anI), (h4, aJ (k 1) 9 anJ), (h5, aJ (k 1) 9 anJ), (h6, aJ (k 1) 9 anJ), (h18, aI (k 0) 4 (vec4 h18f0 h18f1 h18f2 h18f3)), (h20, aJ (k 1) 160 anJ), (h19, aI (k 0) 4 (vec4 h19f0 h19f1 h19f2 h19f3)), (h0, ob 8 [.int h0f0, .int h0f1, .int h0f2, .int h0f3, .int h0f4, .int h0f5, .ref h1, .ref h2, .int h0f8, .int h0f9, .ref h3, .ref h4, .ref h5, .ref h6, .ref h7, .ref h8, .ref h9, .int h0f17, .int h0f18, .int h0f19, .ref h10, .ref h11, .ref h12, .ref h13, .int h0f24, .int h0f25, .ref h14, .ref h15, .ref h16, .ref h17, .int h0f30, .int h0f31, .ref h18, .ref h19, .ref h20, .ref h21]), (h3, aJ (k 1) 9 anJ)]) (as := []) (zcS (As := [.long v92, .long (-1000000), .long 1000000]) (rest := []) (Tc := []) hx hb hml hown hU hK hT [] rfl (by decide) (cX11_in_ca3b9 l D k _ v92 ((-1000000)) (1000000) (by have := ll_m1000000; omega) (by have := ll_1000000; omega)) w901 w899 w900 w72 hdX11_in ⟨rfl, rfl⟩ ⟨Nat.le_of_ble_eq_true rfl, Nat.le_of_ble_eq_true rfl⟩ rfl hl.1 (Nat.le_of_ble_eq_true rfl) dX11_keeps_143 ⟨Nat.le_of_ble_eq_true rfl, Nat.le_of_ble_eq_true rfl⟩) hT hS hA [] [0, 1, 2, 3, 4, 5, 6, 7, 8] rfl rfl rfl (by decide) (by decide) (fun r93 H locs hB J hS => ?_)
                  rcases hB with ⟨rfl, hT1⟩ | ⟨c_96, c_97, rfl, hT1⟩
                  · skip
                    have hT := J _ hT1
                    have hT : TP D A [(h1, aI (k 0) 36 anI), (h4, aJ (k 1) 9 anJ), (h5, aJ (k 1) 9 anJ), (h6, aJ (k 1) 9 anJ), (h18, aI (k 0) 4 (vec4 h18f0 h18f1 h18f2 h18f3)), (h20, aJ (k 1) 160 anJ), (h19, aI (k 0) 4 (vec4 h19f0 h19f1 h19f2 h19f3)), (h0, ob 8 [.int h0f0, .int h0f1, .int h0f2, .int h0f3, .int h0f4, .int h0f5, .ref h1, .ref h2, .int h0f8, .int h0f9, .ref h3, .ref h4, .ref h5, .ref h6, .ref h7, .ref h8, .ref h9, .int h0f17, .int h0f18, .int h0f19, .ref h10, .ref h11, .ref h12, .ref h13, .int h0f24, .int h0f25, .ref h14, .ref h15, .ref h16, .ref h17, .int h0f30, .int h0f31, .ref h18, .ref h19, .ref h20, .ref h21]), (h3, aJ (k 1) 9 anJ)] _ := hT
                    refine lv_if_eq (tgt := 153) hx hb dX11_keeps_146 (by decide) (fun _ => ?_) (fun cc => absurd (by decide +kernel) cc)
                    refine lv_iconst (v := 0) hx hb dX11_keeps_153 (by decide) ?_
                    refine lv_istore_n (lv' := [(3, .int 0), (0, .ref h0), (1, .int x1), (2, .int x2), (4, .int y71)]) hx hb dX11_keeps_154 rfl hl (by decide) rfl (fun ls hl => ?_)
                    obtain ⟨v98, e_v98⟩ : ∃ x : Int32, x = y71 + Int32.ofInt 1 := ⟨_, rfl⟩
                    have f_v98 := e_v98.symm
                    have e_v98 : v98.toInt = y71.toInt + 1 := ai_add e_v98 rfl (show (Int32.ofInt 1).toInt = 1 from (by decide +kernel)) (by omega)
                    refine lv_iinc (v := v98) (lv' := [(4, .int v98), (3, .int 0), (0, .ref h0), (1, .int x1), (2, .int x2)]) hx hb dX11_keeps_155 hl (k := 4) rfl f_v98 (by decide) rfl (fun ls hl => ?_)
                    refine lv_goto (tgt := 69) hx hb dX11_keeps_158 (by decide) ?_
                    exact ih69_73 v98 (0) _ _ _ (by have := li_0; omega) (by have := li_0; omega)  (by have := li_0; omega) hT hS (lv_sub hl [2, 3, 4, 1, 0] rfl)
                  · skip
                    have hT := J _ hT1
                    have hT : TP D A [(h1, aI (k 0) 36 anI), (h4, aJ (k 1) 9 anJ), (h5, aJ (k 1) 9 anJ), (h6, aJ (k 1) 9 anJ), (h18, aI (k 0) 4 (vec4 h18f0 h18f1 h18f2 h18f3)), (h20, aJ (k 1) 160 anJ), (h19, aI (k 0) 4 (vec4 h19f0 h19f1 h19f2 h19f3)), (h0, ob 8 [.int h0f0, .int h0f1, .int h0f2, .int h0f3, .int h0f4, .int h0f5, .ref h1, .ref h2, .int h0f8, .int h0f9, .ref h3, .ref h4, .ref h5, .ref h6, .ref h7, .ref h8, .ref h9, .int h0f17, .int h0f18, .int h0f19, .ref h10, .ref h11, .ref h12, .ref h13, .int h0f24, .int h0f25, .ref h14, .ref h15, .ref h16, .ref h17, .int h0f30, .int h0f31, .ref h18, .ref h19, .ref h20, .ref h21]), (h3, aJ (k 1) 9 anJ)] _ := hT
                    refine lv_if_eq (tgt := 153) hx hb dX11_keeps_146 (by decide) (fun cc => absurd cc (by decide +kernel)) (fun _ => ?_)
                    refine lv_iconst (v := 1) hx hb dX11_keeps_149 (by decide) ?_
                    refine lv_goto (tgt := 154) hx hb dX11_keeps_150 (by decide) ?_
                    refine lv_istore_n (lv' := [(3, .int 1), (0, .ref h0), (1, .int x1), (2, .int x2), (4, .int y71)]) hx hb dX11_keeps_154 rfl hl (by decide) rfl (fun ls hl => ?_)
                    obtain ⟨v99, e_v99⟩ : ∃ x : Int32, x = y71 + Int32.ofInt 1 := ⟨_, rfl⟩
                    have f_v99 := e_v99.symm
                    have e_v99 : v99.toInt = y71.toInt + 1 := ai_add e_v99 rfl (show (Int32.ofInt 1).toInt = 1 from (by decide +kernel)) (by omega)
                    refine lv_iinc (v := v99) (lv' := [(4, .int v99), (3, .int 1), (0, .ref h0), (1, .int x1), (2, .int x2)]) hx hb dX11_keeps_155 hl (k := 4) rfl f_v99 (by decide) rfl (fun ls hl => ?_)
                    refine lv_goto (tgt := 69) hx hb dX11_keeps_158 (by decide) ?_
                    exact ih69_73 v99 (1) _ _ _ (by have := li_1; omega) (by have := li_1; omega)  (by have := li_1; omega) hT hS (lv_sub hl [2, 3, 4, 1, 0] rfl)
          exact lp69_73 ((2 * h0f0.toInt + (-1) * (0 : Int32).toInt + 1).toNat + 1) (0) (1) _ _ _ (by have := li_0; have := li_1; omega) (by have := li_0; have := li_1; omega)  (Nat.lt_succ_self _) hT hS (lv_sub hl [2, 3, 4, 1, 0] rfl)
      · skip
        have c_55 := ni_ne c_55 rfl li_0
        refine lv_aload_n hx hb dX11_keeps_18 rfl (lv_at hl 0 rfl) ?_
        refine tz_get (ci := 8) (v := .ref h18) (C := RX11) (F := TX11) (N := 36) hx hb hU iX11 hown hK hT 0 rfl rfl 32 (by decide) w817 (fun _ h9 => h9) rfl dX11_keeps_19 ?_
        refine lv_iload_n hx hb dX11_keeps_22 rfl (lv_at hl 1 rfl) ?_
        refine tz_iald hx hb hK hT 6 rfl (by omega) dX11_keeps_23 (fun v100 e_v100 => ?_)
        have e_v100 := x4_rg (lo := (-1)) (hi := 2) e_v100 (by omega) (by omega)
        refine lv_if_ge (tgt := 32) hx hb dX11_keeps_24 (by decide) (fun c_101 => ?_) (fun c_101 => ?_)
        · skip
          have c_101 := ni_le c_101 li_0 rfl
          refine lv_bipush (v := (-13)) hx hb dX11_keeps_32 (by decide) ?_
          exact tz_retI (B := B_cX11_keeps_4c286 D k h0 h1 h3 h4 h5 h6 h18 h19 h20 h2 h7 h8 h9 h10 h11 h12 h13 h14 h15 h16 h17 h21 x1 x2 h0f0 h0f1 h0f2 h0f3 h0f4 h0f5 h0f8 h0f9 h0f17 h0f18 h0f19 h0f24 h0f25 h0f30 h0f31 h18f0 h18f1 h18f2 h18f3 h19f0 h19f1 h19f2 h19f3) (v := (-13)) hQ hx hb hr hlocks hS (Nat.le_of_ble_eq_true rfl) (Nat.le_of_ble_eq_true rfl) dX11_keeps_34 (⟨(by have := li_m13; omega), hT⟩)
        · skip
          have c_101 := ni_nle c_101 li_0 rfl
          refine lv_bipush (v := (-11)) hx hb dX11_keeps_27 (by decide) ?_
          refine lv_goto (tgt := 34) hx hb dX11_keeps_29 (by decide) ?_
          exact tz_retI (B := B_cX11_keeps_4c286 D k h0 h1 h3 h4 h5 h6 h18 h19 h20 h2 h7 h8 h9 h10 h11 h12 h13 h14 h15 h16 h17 h21 x1 x2 h0f0 h0f1 h0f2 h0f3 h0f4 h0f5 h0f8 h0f9 h0f17 h0f18 h0f19 h0f24 h0f25 h0f30 h0f31 h18f0 h18f1 h18f2 h18f3 h19f0 h19f1 h19f2 h19f3) (v := (-11)) hQ hx hb hr hlocks hS (Nat.le_of_ble_eq_true rfl) (Nat.le_of_ble_eq_true rfl) dX11_keeps_34 (⟨(by have := li_m11; omega), hT⟩)
  · skip
    refine lv_iload_n hx hb dX11_keeps_0 rfl (lv_at hl 1 rfl) ?_
    refine tcI (Tc := []) (Tr := [(h0, ob 8 [.int h0f0, .int h0f1, .int h0f2, .int h0f3, .int h0f4, .int h0f5, .ref h1, .ref h2, .int h0f8, .int h0f9, .ref h3, .ref h4, .ref h5, .ref h6, .ref h7, .ref h8, .ref h9, .int h0f17, .int h0f18, .int h0f19, .ref h10, .ref h11, .ref h12, .ref h13, .int h0f24, .int h0f25, .ref h14, .ref h15, .ref h16, .ref h17, .int h0f30, .int h0f31, .ref h18, .ref h19, .ref h20, .ref h21]), (h1, aI (k 0) 36 anI), (h3, aJ (k 1) 9 anJ), (h4, aJ (k 1) 9 anJ), (h5, aJ (k 1) 9 anJ), (h6, aJ (k 1) 9 anJ), (h18, aI (k 0) 4 (vec4 h18f0 h18f1 h18f2 h18f3)), (h19, aI (k 0) 4 (vec4 h19f0 h19f1 h19f2 h19f3)), (h20, aJ (k 1) 160 anJ)]) (as := []) (zcS (As := [.int x1]) (rest := []) (Tc := []) hx hb hml hown hU hK hT [] rfl (by decide) (cX11_isSheet_2c130 l D k _ x1) w1101 w1099 w1100 w72 hdX11_isSheet ⟨rfl, rfl⟩ ⟨Nat.le_of_ble_eq_true rfl, Nat.le_of_ble_eq_true rfl⟩ rfl hl.1 (Nat.le_of_ble_eq_true rfl) dX11_keeps_1 ⟨Nat.le_of_ble_eq_true rfl, Nat.le_of_ble_eq_true rfl⟩) hT hS hA [] [0, 1, 2, 3, 4, 5, 6, 7, 8] rfl rfl rfl (by decide) (by decide) (fun r102 H locs hB J hS => ?_)
    rcases hB with ⟨rfl, hT1⟩ | ⟨c_103, c_104, rfl, hT1⟩
    · skip
      have hT := J _ hT1
      have hT : TP D A [(h0, ob 8 [.int h0f0, .int h0f1, .int h0f2, .int h0f3, .int h0f4, .int h0f5, .ref h1, .ref h2, .int h0f8, .int h0f9, .ref h3, .ref h4, .ref h5, .ref h6, .ref h7, .ref h8, .ref h9, .int h0f17, .int h0f18, .int h0f19, .ref h10, .ref h11, .ref h12, .ref h13, .int h0f24, .int h0f25, .ref h14, .ref h15, .ref h16, .ref h17, .int h0f30, .int h0f31, .ref h18, .ref h19, .ref h20, .ref h21]), (h1, aI (k 0) 36 anI), (h3, aJ (k 1) 9 anJ), (h4, aJ (k 1) 9 anJ), (h5, aJ (k 1) 9 anJ), (h6, aJ (k 1) 9 anJ), (h18, aI (k 0) 4 (vec4 h18f0 h18f1 h18f2 h18f3)), (h19, aI (k 0) 4 (vec4 h19f0 h19f1 h19f2 h19f3)), (h20, aJ (k 1) 160 anJ)] _ := hT
      refine lv_if_ne (tgt := 9) hx hb dX11_keeps_4 (by decide) (fun cc => absurd (by decide +kernel) cc) (fun _ => ?_)
      refine lv_iconst (v := (-1)) hx hb dX11_keeps_7 (by decide) ?_
      exact tz_retI (B := B_cX11_keeps_4c286 D k h0 h1 h3 h4 h5 h6 h18 h19 h20 h2 h7 h8 h9 h10 h11 h12 h13 h14 h15 h16 h17 h21 x1 x2 h0f0 h0f1 h0f2 h0f3 h0f4 h0f5 h0f8 h0f9 h0f17 h0f18 h0f19 h0f24 h0f25 h0f30 h0f31 h18f0 h18f1 h18f2 h18f3 h19f0 h19f1 h19f2 h19f3) (v := (-1)) hQ hx hb hr hlocks hS (Nat.le_of_ble_eq_true rfl) (Nat.le_of_ble_eq_true rfl) dX11_keeps_8 (⟨(by have := li_m1; omega), hT⟩)
    · skip
      have hT := J _ hT1
      have hT : TP D A [(h0, ob 8 [.int h0f0, .int h0f1, .int h0f2, .int h0f3, .int h0f4, .int h0f5, .ref h1, .ref h2, .int h0f8, .int h0f9, .ref h3, .ref h4, .ref h5, .ref h6, .ref h7, .ref h8, .ref h9, .int h0f17, .int h0f18, .int h0f19, .ref h10, .ref h11, .ref h12, .ref h13, .int h0f24, .int h0f25, .ref h14, .ref h15, .ref h16, .ref h17, .int h0f30, .int h0f31, .ref h18, .ref h19, .ref h20, .ref h21]), (h1, aI (k 0) 36 anI), (h3, aJ (k 1) 9 anJ), (h4, aJ (k 1) 9 anJ), (h5, aJ (k 1) 9 anJ), (h6, aJ (k 1) 9 anJ), (h18, aI (k 0) 4 (vec4 h18f0 h18f1 h18f2 h18f3)), (h19, aI (k 0) 4 (vec4 h19f0 h19f1 h19f2 h19f3)), (h20, aJ (k 1) 160 anJ)] _ := hT
      refine lv_if_ne (tgt := 9) hx hb dX11_keeps_4 (by decide) (fun _ => ?_) (fun cc => absurd cc (by decide +kernel))
      refine lv_aload_n hx hb dX11_keeps_9 rfl (lv_at hl 0 rfl) ?_
      refine tz_get (ci := 8) (v := .ref h18) (C := RX11) (F := TX11) (N := 36) hx hb hU iX11 hown hK hT 0 rfl rfl 32 (by decide) w817 (fun _ h9 => h9) rfl dX11_keeps_10 ?_
      refine lv_iload_n hx hb dX11_keeps_13 rfl (lv_at hl 1 rfl) ?_
      refine tz_iald hx hb hK hT 6 rfl (by omega) dX11_keeps_14 (fun v105 e_v105 => ?_)
      have e_v105 := x4_rg (lo := (-1)) (hi := 2) e_v105 (by omega) (by omega)
      refine lv_if_eq (tgt := 35) hx hb dX11_keeps_15 (by decide) (fun c_106 => ?_) (fun c_106 => ?_)
      · skip
        have c_106 := ni_eq c_106 rfl li_0
        refine lv_aload_n hx hb dX11_keeps_35 rfl (lv_at hl 0 rfl) ?_
        refine lv_iload_n hx hb dX11_keeps_36 rfl (lv_at hl 1 rfl) ?_
        refine lv_iload_n hx hb dX11_keeps_37 rfl (lv_at hl 2 rfl) ?_
        refine lv_aload_n hx hb dX11_keeps_38 rfl (lv_at hl 0 rfl) ?_
        refine tz_get (ci := 8) (v := .int h0f0) (C := RX11) (F := TX11) (N := 36) hx hb hU iX11 hown hK hT 0 rfl rfl 0 (by decide) w785 (fun _ h9 => h9) rfl dX11_keeps_39 ?_
        refine lv_aload_n hx hb dX11_keeps_42 rfl (lv_at hl 0 rfl) ?_
        refine tz_get (ci := 8) (v := .int h0f0) (C := RX11) (F := TX11) (N := 36) hx hb hU iX11 hown hK hT 0 rfl rfl 0 (by decide) w785 (fun _ h9 => h9) rfl dX11_keeps_43 ?_
        refine lv_imul hx hb dX11_keeps_46 (lv_topi (fun v107 e_v107 => ?_))
        have e_v107 := ai_mul e_v107 hq1 hq1 (by omega)
        refine tcI (Tc := [(h0, ob 8 [.int h0f0, .int h0f1, .int h0f2, .int h0f3, .int h0f4, .int h0f5, .ref h1, .ref h2, .int h0f8, .int h0f9, .ref h3, .ref h4, .ref h5, .ref h6, .ref h7, .ref h8, .ref h9, .int h0f17, .int h0f18, .int h0f19, .ref h10, .ref h11, .ref h12, .ref h13, .int h0f24, .int h0f25, .ref h14, .ref h15, .ref h16, .ref h17, .int h0f30, .int h0f31, .ref h18, .ref h19, .ref h20, .ref h21]), (h19, aI (k 0) 4 (vec4 h19f0 h19f1 h19f2 h19f3))]) (Tr := [(h1, aI (k 0) 36 anI), (h3, aJ (k 1) 9 anJ), (h4, aJ (k 1) 9 anJ), (h5, aJ (k 1) 9 anJ), (h6, aJ (k 1) 9 anJ), (h18, aI (k 0) 4 (vec4 h18f0 h18f1 h18f2 h18f3)), (h20, aJ (k 1) 160 anJ)]) (as := [h0, h19]) (zcV (q0 := 0) (ci := 8) (As := [.int x1, .int x2, .int v107]) (rest := []) (Tc := [(h0, ob 8 [.int h0f0, .int h0f1, .int h0f2, .int h0f3, .int h0f4, .int h0f5, .ref h1, .ref h2, .int h0f8, .int h0f9, .ref h3, .ref h4, .ref h5, .ref h6, .ref h7, .ref h8, .ref h9, .int h0f17, .int h0f18, .int h0f19, .ref h10, .ref h11, .ref h12, .ref h13, .int h0f24, .int h0f25, .ref h14, .ref h15, .ref h16, .ref h17, .int h0f30, .int h0f31, .ref h18, .ref h19, .ref h20, .ref h21]), (h19, aI (k 0) 4 (vec4 h19f0 h19f1 h19f2 h19f3))]) hx hb hml hown hU hK hT rfl rfl [0, 7] rfl (by decide) (cX11_isOutside_e242f l D k _ h0 h19 h1 h2 h3 h4 h5 h6 h7 h8 h9 h10 h11 h12 h13 h14 h15 h16 h17 h18 h20 h21 x1 x2 v107 h0f0 h0f1 h0f2 h0f3 h0f4 h0f5 h0f8 h0f9 h0f17 h0f18 h0f19 h0f24 h0f25 h0f30 h0f31 h19f0 h19f1 h19f2 h19f3 (by omega) (by omega) (by omega) (by omega) (by omega) (by omega) (by omega) (by omega) (by omega) (by omega) (by omega) (by omega) (by omega) (by omega) (by omega) (by omega) (by omega) (by omega) (by omega) (by omega)) w1105 w1102 w1104 w53 w72 hdX11_isOutside ⟨rfl, rfl⟩ ⟨Nat.le_of_ble_eq_true rfl, Nat.le_of_ble_eq_true rfl⟩ rfl hl.1 (Nat.le_of_ble_eq_true rfl) dX11_keeps_47 ⟨Nat.le_of_ble_eq_true rfl, Nat.le_of_ble_eq_true rfl⟩) hT hS hA [0, 7] [1, 2, 3, 4, 5, 6, 8] rfl rfl rfl (by decide) (by decide) (fun r108 H locs hB J hS => ?_)
        rcases hB with ⟨rfl, hT1⟩ | ⟨v109, b_v109, c_110, c_111, c_112, c_113, c_114, rfl, hT1⟩
        · skip
          have hT := J _ hT1
          have hT : TP D A [(h1, aI (k 0) 36 anI), (h3, aJ (k 1) 9 anJ), (h4, aJ (k 1) 9 anJ), (h5, aJ (k 1) 9 anJ), (h6, aJ (k 1) 9 anJ), (h18, aI (k 0) 4 (vec4 h18f0 h18f1 h18f2 h18f3)), (h20, aJ (k 1) 160 anJ), (h0, ob 8 [.int h0f0, .int h0f1, .int h0f2, .int h0f3, .int h0f4, .int h0f5, .ref h1, .ref h2, .int h0f8, .int h0f9, .ref h3, .ref h4, .ref h5, .ref h6, .ref h7, .ref h8, .ref h9, .int h0f17, .int h0f18, .int h0f19, .ref h10, .ref h11, .ref h12, .ref h13, .int h0f24, .int h0f25, .ref h14, .ref h15, .ref h16, .ref h17, .int h0f30, .int h0f31, .ref h18, .ref h19, .ref h20, .ref h21]), (h19, aI (k 0) 4 (vec4 h19f0 h19f1 h19f2 h19f3))] _ := hT
          refine lv_if_eq (tgt := 56) hx hb dX11_keeps_50 (by decide) (fun cc => absurd cc (by decide +kernel)) (fun _ => ?_)
          refine lv_bipush (v := (-12)) hx hb dX11_keeps_53 (by decide) ?_
          exact tz_retI (B := B_cX11_keeps_4c286 D k h0 h1 h3 h4 h5 h6 h18 h19 h20 h2 h7 h8 h9 h10 h11 h12 h13 h14 h15 h16 h17 h21 x1 x2 h0f0 h0f1 h0f2 h0f3 h0f4 h0f5 h0f8 h0f9 h0f17 h0f18 h0f19 h0f24 h0f25 h0f30 h0f31 h18f0 h18f1 h18f2 h18f3 h19f0 h19f1 h19f2 h19f3) (v := (-12)) hQ hx hb hr hlocks hS (Nat.le_of_ble_eq_true rfl) (Nat.le_of_ble_eq_true rfl) dX11_keeps_55 (⟨(by have := li_m12; omega), (hT.sub [7, 0, 1, 2, 3, 4, 5, 8, 6] (by decide) rfl)⟩)
        · skip
          have hT := J _ hT1
          have hT : TP D A [(h1, aI (k 0) 36 anI), (h3, aJ (k 1) 9 anJ), (h4, aJ (k 1) 9 anJ), (h5, aJ (k 1) 9 anJ), (h6, aJ (k 1) 9 anJ), (h18, aI (k 0) 4 (vec4 h18f0 h18f1 h18f2 h18f3)), (h20, aJ (k 1) 160 anJ), (h0, ob 8 [.int h0f0, .int h0f1, .int h0f2, .int h0f3, .int h0f4, .int h0f5, .ref h1, .ref h2, .int h0f8, .int h0f9, .ref h3, .ref h4, .ref h5, .ref h6, .ref h7, .ref h8, .ref h9, .int h0f17, .int h0f18, .int h0f19, .ref h10, .ref h11, .ref h12, .ref h13, .int h0f24, .int h0f25, .ref h14, .ref h15, .ref h16, .ref h17, .int h0f30, .int h0f31, .ref h18, .ref h19, .ref h20, .ref h21]), (h19, aI (k 0) 4 (vec4 h19f0 h19f1 h19f2 h19f3))] _ := hT
          refine lv_if_eq (tgt := 56) hx hb dX11_keeps_50 (by decide) (fun _ => ?_) (fun cc => absurd (by decide +kernel) cc)
          refine lv_aload_n hx hb dX11_keeps_56 rfl (lv_at hl 0 rfl) ?_
          refine lv_aload_n hx hb dX11_keeps_57 rfl (lv_at hl 0 rfl) ?_
          refine tz_get (ci := 8) (v := .ref h3) (C := RX11) (F := TX11) (N := 36) hx hb hU iX11 hown hK hT 7 rfl rfl 10 (by decide) w795 (fun _ h9 => h9) rfl dX11_keeps_58 ?_
          refine tcV (Tc := [(h0, ob 8 [.int h0f0, .int h0f1, .int h0f2, .int h0f3, .int h0f4, .int h0f5, .ref h1, .ref h2, .int h0f8, .int h0f9, .ref h3, .ref h4, .ref h5, .ref h6, .ref h7, .ref h8, .ref h9, .int h0f17, .int h0f18, .int h0f19, .ref h10, .ref h11, .ref h12, .ref h13, .int h0f24, .int h0f25, .ref h14, .ref h15, .ref h16, .ref h17, .int h0f30, .int h0f31, .ref h18, .ref h19, .ref h20, .ref h21]), (h3, aJ (k 1) 9 anJ)]) (Tr := [(h1, aI (k 0) 36 anI), (h4, aJ (k 1) 9 anJ), (h5, aJ (k 1) 9 anJ), (h6, aJ (k 1) 9 anJ), (h18, aI (k 0) 4 (vec4 h18f0 h18f1 h18f2 h18f3)), (h20, aJ (k 1) 160 anJ), (h19, aI (k 0) 4 (vec4 h19f0 h19f1 h19f2 h19f3))]) (as := [h0, h3]) (zcV (q0 := 7) (ci := 8) (As := [.ref h3]) (rest := []) (Tc := [(h0, ob 8 [.int h0f0, .int h0f1, .int h0f2, .int h0f3, .int h0f4, .int h0f5, .ref h1, .ref h2, .int h0f8, .int h0f9, .ref h3, .ref h4, .ref h5, .ref h6, .ref h7, .ref h8, .ref h9, .int h0f17, .int h0f18, .int h0f19, .ref h10, .ref h11, .ref h12, .ref h13, .int h0f24, .int h0f25, .ref h14, .ref h15, .ref h16, .ref h17, .int h0f30, .int h0f31, .ref h18, .ref h19, .ref h20, .ref h21]), (h3, aJ (k 1) 9 anJ)]) hx hb hml hown hU hK hT rfl rfl [7, 1] rfl (by decide) (cX11_clears_d395b l D k _ h0 h3 h1 h2 h4 h5 h6 h7 h8 h9 h10 h11 h12 h13 h14 h15 h16 h17 h18 h19 h20 h21 h0f0 h0f1 h0f2 h0f3 h0f4 h0f5 h0f8 h0f9 h0f17 h0f18 h0f19 h0f24 h0f25 h0f30 h0f31 (by omega) (by omega) (by omega) (by omega) (by omega) (by omega) (by omega) (by omega) (by omega) (by omega) (by omega) (by omega) (by omega) (by omega) (by omega)) w923 w920 w922 w29 w72 hdX11_clears ⟨rfl, rfl⟩ ⟨Nat.le_of_ble_eq_true rfl, Nat.le_of_ble_eq_true rfl⟩ rfl hl.1 (Nat.le_of_ble_eq_true rfl) dX11_keeps_61 ⟨Nat.le_of_ble_eq_true rfl, Nat.le_of_ble_eq_true rfl⟩) hT hS hA [7, 1] [0, 2, 3, 4, 5, 6, 8] rfl rfl rfl (by decide) (by decide) (fun H locs hB J hS => ?_)
          have hT1 := hB
          have hT := J _ hT1
          have hT : TP D A [(h1, aI (k 0) 36 anI), (h4, aJ (k 1) 9 anJ), (h5, aJ (k 1) 9 anJ), (h6, aJ (k 1) 9 anJ), (h18, aI (k 0) 4 (vec4 h18f0 h18f1 h18f2 h18f3)), (h20, aJ (k 1) 160 anJ), (h19, aI (k 0) 4 (vec4 h19f0 h19f1 h19f2 h19f3)), (h0, ob 8 [.int h0f0, .int h0f1, .int h0f2, .int h0f3, .int h0f4, .int h0f5, .ref h1, .ref h2, .int h0f8, .int h0f9, .ref h3, .ref h4, .ref h5, .ref h6, .ref h7, .ref h8, .ref h9, .int h0f17, .int h0f18, .int h0f19, .ref h10, .ref h11, .ref h12, .ref h13, .int h0f24, .int h0f25, .ref h14, .ref h15, .ref h16, .ref h17, .int h0f30, .int h0f31, .ref h18, .ref h19, .ref h20, .ref h21]), (h3, aJ (k 1) 9 anJ)] _ := hT
          refine lv_iconst (v := 1) hx hb dX11_keeps_64 (by decide) ?_
          refine lv_istore_n (lv' := [(3, .int 1), (0, .ref h0), (1, .int x1), (2, .int x2)]) hx hb dX11_keeps_65 rfl hl (by decide) rfl (fun ls hl => ?_)
          refine lv_iconst (v := 0) hx hb dX11_keeps_66 (by decide) ?_
          refine lv_istore (lv' := [(4, .int 0), (3, .int 1), (0, .ref h0), (1, .int x1), (2, .int x2)]) hx hb dX11_keeps_67 hl (by decide) rfl (fun ls hl => ?_)
          have lp69_130 : ∀ (n : Nat) (y128 : Int32) (y129 : Int32) (H : Heap) (locs : List Loc) (ls : Array Slot), (0 ≤ y128.toInt ∧ y128.toInt ≤ 9) → (0 ≤ y129.toInt ∧ y129.toInt ≤ 1) → (3 * h0f0.toInt + (-1) * y128.toInt + 1).toNat < n → TP D A [(h1, aI (k 0) 36 anI), (h4, aJ (k 1) 9 anJ), (h5, aJ (k 1) 9 anJ), (h6, aJ (k 1) 9 anJ), (h18, aI (k 0) 4 (vec4 h18f0 h18f1 h18f2 h18f3)), (h20, aJ (k 1) 160 anJ), (h19, aI (k 0) 4 (vec4 h19f0 h19f1 h19f2 h19f3)), (h0, ob 8 [.int h0f0, .int h0f1, .int h0f2, .int h0f3, .int h0f4, .int h0f5, .ref h1, .ref h2, .int h0f8, .int h0f9, .ref h3, .ref h4, .ref h5, .ref h6, .ref h7, .ref h8, .ref h9, .int h0f17, .int h0f18, .int h0f19, .ref h10, .ref h11, .ref h12, .ref h13, .int h0f24, .int h0f25, .ref h14, .ref h15, .ref h16, .ref h17, .int h0f30, .int h0f31, .ref h18, .ref h19, .ref h20, .ref h21]), (h3, aJ (k 1) 9 anJ)] H → va_S A s.heap H locs → lv_has ls 5 [(0, .ref h0), (1, .int x1), (2, .int x2), (3, .int y129), (4, .int y128)] → W p l e Rm_cX11_keeps_4c286 s m args below meth c H locs 0 0 Q (F0 m 69 ls []) := by
            intro n
            induction n with
            | zero => intro y128 y129 H locs ls b_y128 b_y129 hm hT hS hl; exact absurd hm (Nat.not_lt_zero _)
            | succ n ih =>
              intro y128 y129 H locs ls b_y128 b_y129 hm hT hS hl
              have ih69_130 := ih
              clear ih
              refine lv_iload hx hb dX11_keeps_69 (lv_at hl 4 rfl) ?_
              refine lv_aload_n hx hb dX11_keeps_71 rfl (lv_at hl 0 rfl) ?_
              refine tz_get (ci := 8) (v := .int h0f0) (C := RX11) (F := TX11) (N := 36) hx hb hU iX11 hown hK hT 7 rfl rfl 0 (by decide) w785 (fun _ h9 => h9) rfl dX11_keeps_72 ?_
              refine lv_aload_n hx hb dX11_keeps_75 rfl (lv_at hl 0 rfl) ?_
              refine tz_get (ci := 8) (v := .int h0f0) (C := RX11) (F := TX11) (N := 36) hx hb hU iX11 hown hK hT 7 rfl rfl 0 (by decide) w785 (fun _ h9 => h9) rfl dX11_keeps_76 ?_
              refine lv_imul hx hb dX11_keeps_79 (lv_topi (fun v131 e_v131 => ?_))
              have e_v131 := ai_mul e_v131 hq1 hq1 (by omega)
              refine lv_icmp_ge (tgt := 161) hx hb dX11_keeps_80 (by decide) (fun c_132 => ?_) (fun c_132 => ?_)
              · skip
                have c_132 := ni_le c_132 rfl rfl
                refine lv_iload_n hx hb dX11_keeps_161 rfl (lv_at hl 3 rfl) ?_
                refine lv_if_ne (tgt := 170) hx hb dX11_keeps_162 (by decide) (fun c_133 => ?_) (fun c_133 => ?_)
                · skip
                  have c_133 := ni_ne c_133 rfl li_0
                  refine lv_aload_n hx hb dX11_keeps_170 rfl (lv_at hl 0 rfl) ?_
                  refine tcI (Tc := [(h0, ob 8 [.int h0f0, .int h0f1, .int h0f2, .int h0f3, .int h0f4, .int h0f5, .ref h1, .ref h2, .int h0f8, .int h0f9, .ref h3, .ref h4, .ref h5, .ref h6, .ref h7, .ref h8, .ref h9, .int h0f17, .int h0f18, .int h0f19, .ref h10, .ref h11, .ref h12, .ref h13, .int h0f24, .int h0f25, .ref h14, .ref h15, .ref h16, .ref h17, .int h0f30, .int h0f31, .ref h18, .ref h19, .ref h20, .ref h21]), (h1, aI (k 0) 36 anI), (h3, aJ (k 1) 9 anJ), (h4, aJ (k 1) 9 anJ), (h5, aJ (k 1) 9 anJ), (h6, aJ (k 1) 9 anJ)]) (Tr := [(h18, aI (k 0) 4 (vec4 h18f0 h18f1 h18f2 h18f3)), (h20, aJ (k 1) 160 anJ), (h19, aI (k 0) 4 (vec4 h19f0 h19f1 h19f2 h19f3))]) (as := [h0, h1, h3, h4, h5, h6]) (zcV (q0 := 7) (ci := 8) (As := []) (rest := []) (Tc := [(h0, ob 8 [.int h0f0, .int h0f1, .int h0f2, .int h0f3, .int h0f4, .int h0f5, .ref h1, .ref h2, .int h0f8, .int h0f9, .ref h3, .ref h4, .ref h5, .ref h6, .ref h7, .ref h8, .ref h9, .int h0f17, .int h0f18, .int h0f19, .ref h10, .ref h11, .ref h12, .ref h13, .int h0f24, .int h0f25, .ref h14, .ref h15, .ref h16, .ref h17, .int h0f30, .int h0f31, .ref h18, .ref h19, .ref h20, .ref h21]), (h1, aI (k 0) 36 anI), (h3, aJ (k 1) 9 anJ), (h4, aJ (k 1) 9 anJ), (h5, aJ (k 1) 9 anJ), (h6, aJ (k 1) 9 anJ)]) hx hb hml hown hU hK hT rfl rfl [7, 0, 8, 1, 2, 3] rfl (by decide) (cX11_keepsAll_09e70 l D k _ h0 h1 h3 h4 h5 h6 h2 h7 h8 h9 h10 h11 h12 h13 h14 h15 h16 h17 h18 h19 h20 h21 h0f0 h0f1 h0f2 h0f3 h0f4 h0f5 h0f8 h0f9 h0f17 h0f18 h0f19 h0f24 h0f25 h0f30 h0f31 (by omega) (by omega) (by omega) (by omega) (by omega) (by omega) (by omega) (by omega) (by omega) (by omega) (by omega) (by omega) (by omega) (by omega) (by omega)) w1111 w1108 w1110 w54 w72 hdX11_keepsAll ⟨rfl, rfl⟩ ⟨Nat.le_of_ble_eq_true rfl, Nat.le_of_ble_eq_true rfl⟩ rfl hl.1 (Nat.le_of_ble_eq_true rfl) dX11_keeps_171 ⟨Nat.le_of_ble_eq_true rfl, Nat.le_of_ble_eq_true rfl⟩) hT hS hA [7, 0, 8, 1, 2, 3] [4, 5, 6] rfl rfl rfl (by decide) (by decide) (fun r134 H locs hB J hS => ?_)
                  obtain ⟨b_r134, hT1⟩ := hB
                  have hT := J _ hT1
                  have hT : TP D A [(h18, aI (k 0) 4 (vec4 h18f0 h18f1 h18f2 h18f3)), (h20, aJ (k 1) 160 anJ), (h19, aI (k 0) 4 (vec4 h19f0 h19f1 h19f2 h19f3)), (h0, ob 8 [.int h0f0, .int h0f1, .int h0f2, .int h0f3, .int h0f4, .int h0f5, .ref h1, .ref h2, .int h0f8, .int h0f9, .ref h3, .ref h4, .ref h5, .ref h6, .ref h7, .ref h8, .ref h9, .int h0f17, .int h0f18, .int h0f19, .ref h10, .ref h11, .ref h12, .ref h13, .int h0f24, .int h0f25, .ref h14, .ref h15, .ref h16, .ref h17, .int h0f30, .int h0f31, .ref h18, .ref h19, .ref h20, .ref h21]), (h1, aI (k 0) 36 anI), (h3, aJ (k 1) 9 anJ), (h4, aJ (k 1) 9 anJ), (h5, aJ (k 1) 9 anJ), (h6, aJ (k 1) 9 anJ)] _ := hT
                  refine lv_if_eq (tgt := 181) hx hb dX11_keeps_174 (by decide) (fun c_135 => ?_) (fun c_135 => ?_)
                  · skip
                    have c_135 := ni_eq c_135 rfl li_0
                    refine lv_iconst (v := 0) hx hb dX11_keeps_181 (by decide) ?_
                    exact tz_retI (B := B_cX11_keeps_4c286 D k h0 h1 h3 h4 h5 h6 h18 h19 h20 h2 h7 h8 h9 h10 h11 h12 h13 h14 h15 h16 h17 h21 x1 x2 h0f0 h0f1 h0f2 h0f3 h0f4 h0f5 h0f8 h0f9 h0f17 h0f18 h0f19 h0f24 h0f25 h0f30 h0f31 h18f0 h18f1 h18f2 h18f3 h19f0 h19f1 h19f2 h19f3) (v := 0) hQ hx hb hr hlocks hS (Nat.le_of_ble_eq_true rfl) (Nat.le_of_ble_eq_true rfl) dX11_keeps_182 (⟨(by have := li_0; omega), (hT.sub [3, 4, 5, 6, 7, 8, 0, 2, 1] (by decide) rfl)⟩)
                  · skip
                    have c_135 := ni_ne c_135 rfl li_0
                    refine lv_iconst (v := 1) hx hb dX11_keeps_177 (by decide) ?_
                    refine lv_goto (tgt := 182) hx hb dX11_keeps_178 (by decide) ?_
                    exact tz_retI (B := B_cX11_keeps_4c286 D k h0 h1 h3 h4 h5 h6 h18 h19 h20 h2 h7 h8 h9 h10 h11 h12 h13 h14 h15 h16 h17 h21 x1 x2 h0f0 h0f1 h0f2 h0f3 h0f4 h0f5 h0f8 h0f9 h0f17 h0f18 h0f19 h0f24 h0f25 h0f30 h0f31 h18f0 h18f1 h18f2 h18f3 h19f0 h19f1 h19f2 h19f3) (v := 1) hQ hx hb hr hlocks hS (Nat.le_of_ble_eq_true rfl) (Nat.le_of_ble_eq_true rfl) dX11_keeps_182 (⟨(by have := li_1; omega), (hT.sub [3, 4, 5, 6, 7, 8, 0, 2, 1] (by decide) rfl)⟩)
                · skip
                  have c_133 := ni_eq c_133 rfl li_0
                  refine lv_bipush (v := (-16)) hx hb dX11_keeps_165 (by decide) ?_
                  refine lv_goto (tgt := 182) hx hb dX11_keeps_167 (by decide) ?_
                  exact tz_retI (B := B_cX11_keeps_4c286 D k h0 h1 h3 h4 h5 h6 h18 h19 h20 h2 h7 h8 h9 h10 h11 h12 h13 h14 h15 h16 h17 h21 x1 x2 h0f0 h0f1 h0f2 h0f3 h0f4 h0f5 h0f8 h0f9 h0f17 h0f18 h0f19 h0f24 h0f25 h0f30 h0f31 h18f0 h18f1 h18f2 h18f3 h19f0 h19f1 h19f2 h19f3) (v := (-16)) hQ hx hb hr hlocks hS (Nat.le_of_ble_eq_true rfl) (Nat.le_of_ble_eq_true rfl) dX11_keeps_182 (⟨(by have := li_m16; omega), (hT.sub [7, 0, 8, 1, 2, 3, 4, 6, 5] (by decide) rfl)⟩)
              · skip
                have c_132 := ni_nle c_132 rfl rfl
                refine lv_aload_n hx hb dX11_keeps_83 rfl (lv_at hl 0 rfl) ?_
                refine tz_get (ci := 8) (v := .ref h3) (C := RX11) (F := TX11) (N := 36) hx hb hU iX11 hown hK hT 7 rfl rfl 10 (by decide) w795 (fun _ h9 => h9) rfl dX11_keeps_84 ?_
                refine lv_iconst (v := 3) hx hb dX11_keeps_87 (by decide) ?_
                refine lv_iload hx hb dX11_keeps_88 (lv_at hl 4 rfl) ?_
                refine lv_aload_n hx hb dX11_keeps_90 rfl (lv_at hl 0 rfl) ?_
                refine tz_get (ci := 8) (v := .int h0f0) (C := RX11) (F := TX11) (N := 36) hx hb hU iX11 hown hK hT 7 rfl rfl 0 (by decide) w785 (fun _ h9 => h9) rfl dX11_keeps_91 ?_
                refine lv_idiv hx hb dX11_keeps_94 (nz32 (y := 3) hq1 (by omega)) (lv_topi (fun v136 e_v136 => ?_))
                have e_v136 := ai_div e_v136 rfl hq1 (by omega)
                refine lv_imul hx hb dX11_keeps_95 (lv_topi (fun v137 e_v137 => ?_))
                have e_v137 := ai_mul e_v137 li_3 rfl (by omega)
                refine lv_iload hx hb dX11_keeps_96 (lv_at hl 4 rfl) ?_
                refine lv_aload_n hx hb dX11_keeps_98 rfl (lv_at hl 0 rfl) ?_
                refine tz_get (ci := 8) (v := .int h0f0) (C := RX11) (F := TX11) (N := 36) hx hb hU iX11 hown hK hT 7 rfl rfl 0 (by decide) w785 (fun _ h9 => h9) rfl dX11_keeps_99 ?_
                refine lv_irem hx hb dX11_keeps_102 (nz32 (y := 3) hq1 (by omega)) (lv_topi (fun v138 e_v138 => ?_))
                have e_v138 := ai_rem e_v138 rfl hq1 (by omega)
                refine lv_iadd hx hb dX11_keeps_103 (lv_topi (fun v139 e_v139 => ?_))
                have e_v139 := ai_add e_v139 rfl rfl (by omega)
                refine lv_aload_n hx hb dX11_keeps_104 rfl (lv_at hl 0 rfl) ?_
                refine tz_get (ci := 8) (v := .ref h20) (C := RX11) (F := TX11) (N := 36) hx hb hU iX11 hown hK hT 7 rfl rfl 34 (by decide) w819 (fun _ h9 => h9) rfl dX11_keeps_105 ?_
                refine lv_bipush (v := 40) hx hb dX11_keeps_108 (by decide) ?_
                refine lv_iload_n hx hb dX11_keeps_110 rfl (lv_at hl 1 rfl) ?_
                refine lv_imul hx hb dX11_keeps_111 (lv_topi (fun v140 e_v140 => ?_))
                have e_v140 := ai_mul e_v140 li_40 rfl (by omega)
                refine lv_iload_n hx hb dX11_keeps_112 rfl (lv_at hl 2 rfl) ?_
                refine lv_iadd hx hb dX11_keeps_113 (lv_topi (fun v141 e_v141 => ?_))
                have e_v141 := ai_add e_v141 rfl rfl (by omega)
                refine lv_iload hx hb dX11_keeps_114 (lv_at hl 4 rfl) ?_
                refine lv_iadd hx hb dX11_keeps_116 (lv_topi (fun v142 e_v142 => ?_))
                have e_v142 := ai_add e_v142 rfl rfl (by omega)
                refine tz_lald hx hb hK hT 5 rfl (by omega) dX11_keeps_117 (fun v143 e_v143 => ?_)
                clear e_v143
                refine tz_last hx hb hK hT hS 8 rfl (by omega) (fun _ _ => trivial) dX11_keeps_118 (fun H locs hT hS => ?_)
                refine lv_iload_n hx hb dX11_keeps_119 rfl (lv_at hl 3 rfl) ?_
                refine lv_if_eq (tgt := 153) hx hb dX11_keeps_120 (by decide) (fun c_144 => ?_) (fun c_144 => ?_)
                · skip
                  have c_144 := ni_eq c_144 rfl li_0
                  refine lv_iconst (v := 0) hx hb dX11_keeps_153 (by decide) ?_
                  refine lv_istore_n (lv' := [(3, .int 0), (0, .ref h0), (1, .int x1), (2, .int x2), (4, .int y128)]) hx hb dX11_keeps_154 rfl hl (by decide) rfl (fun ls hl => ?_)
                  obtain ⟨v145, e_v145⟩ : ∃ x : Int32, x = y128 + Int32.ofInt 1 := ⟨_, rfl⟩
                  have f_v145 := e_v145.symm
                  have e_v145 : v145.toInt = y128.toInt + 1 := ai_add e_v145 rfl (show (Int32.ofInt 1).toInt = 1 from (by decide +kernel)) (by omega)
                  refine lv_iinc (v := v145) (lv' := [(4, .int v145), (3, .int 0), (0, .ref h0), (1, .int x1), (2, .int x2)]) hx hb dX11_keeps_155 hl (k := 4) rfl f_v145 (by decide) rfl (fun ls hl => ?_)
                  refine lv_goto (tgt := 69) hx hb dX11_keeps_158 (by decide) ?_
                  exact ih69_130 v145 (0) _ _ _ (by have := li_0; omega) (by have := li_0; omega)  (by have := li_0; omega) hT hS (lv_sub hl [2, 3, 4, 1, 0] rfl)
                · skip
                  have c_144 := ni_ne c_144 rfl li_0
                  refine lv_aload_n hx hb dX11_keeps_123 rfl (lv_at hl 0 rfl) ?_
                  refine tz_get (ci := 8) (v := .ref h20) (C := RX11) (F := TX11) (N := 36) hx hb hU iX11 hown hK hT 7 rfl rfl 34 (by decide) w819 (fun _ h9 => h9) rfl dX11_keeps_124 ?_
                  refine lv_bipush (v := 40) hx hb dX11_keeps_127 (by decide) ?_
                  refine lv_iload_n hx hb dX11_keeps_129 rfl (lv_at hl 1 rfl) ?_
                  refine lv_imul hx hb dX11_keeps_130 (lv_topi (fun v146 e_v146 => ?_))
                  have e_v146 := ai_mul e_v146 li_40 rfl (by omega)
                  refine lv_iload_n hx hb dX11_keeps_131 rfl (lv_at hl 2 rfl) ?_
                  refine lv_iadd hx hb dX11_keeps_132 (lv_topi (fun v147 e_v147 => ?_))
                  have e_v147 := ai_add e_v147 rfl rfl (by omega)
                  refine lv_iload hx hb dX11_keeps_133 (lv_at hl 4 rfl) ?_
                  refine lv_iadd hx hb dX11_keeps_135 (lv_topi (fun v148 e_v148 => ?_))
                  have e_v148 := ai_add e_v148 rfl rfl (by omega)
                  refine tz_lald hx hb hK hT 5 rfl (by omega) dX11_keeps_136 (fun v149 e_v149 => ?_)
                  clear e_v149
                  refine lv_ldc2 hx hb hown (hU _ w1106) dX11_keeps_137 ?_
                  refine lv_ldc2 hx hb hown (hU _ w1107) dX11_keeps_140 ?_
                  have q_q151 := ll_m1000000
                  have q_q152 := ll_1000000
                  refine tcI (Tc := []) (Tr := [(h1, aI (k 0) 36 anI), (h4, aJ (k 1) 9 anJ), (h5, aJ (k 1) 9 anJ), (h6, aJ (k 1) 9 anJ), (h18, aI (k 0) 4 (vec4 h18f0 h18f1 h18f2 h18f3)), (h20, aJ (k 1) 160 anJ), (h19, aI (k 0) 4 (vec4 h19f0 h19f1 h19f2 h19f3)), (h0, ob 8 [.int h0f0, .int h0f1, .int h0f2, .int h0f3, .int h0f4, .int h0f5, .ref h1, .ref h2, .int h0f8, .int h0f9, .ref h3, .ref h4, .ref h5, .ref h6, .ref h7, .ref h8, .ref h9, .int h0f17, .int h0f18, .int h0f19, .ref h10, .ref h11, .ref h12, .ref h13, .int h0f24, .int h0f25, .ref h14, .ref h15, .ref h16, .ref h17, .int h0f30, .int h0f31, .ref h18, .ref h19, .ref h20, .ref h21]), (h3, aJ (k 1) 9 anJ)]) (as := []) (zcS (As := [.long v149, .long (-1000000), .long 1000000]) (rest := []) (Tc := []) hx hb hml hown hU hK hT [] rfl (by decide) (cX11_in_ca3b9 l D k _ v149 ((-1000000)) (1000000) (by have := ll_m1000000; omega) (by have := ll_1000000; omega)) w901 w899 w900 w72 hdX11_in ⟨rfl, rfl⟩ ⟨Nat.le_of_ble_eq_true rfl, Nat.le_of_ble_eq_true rfl⟩ rfl hl.1 (Nat.le_of_ble_eq_true rfl) dX11_keeps_143 ⟨Nat.le_of_ble_eq_true rfl, Nat.le_of_ble_eq_true rfl⟩) hT hS hA [] [0, 1, 2, 3, 4, 5, 6, 7, 8] rfl rfl rfl (by decide) (by decide) (fun r150 H locs hB J hS => ?_)
                  rcases hB with ⟨rfl, hT1⟩ | ⟨c_153, c_154, rfl, hT1⟩
                  · skip
                    have hT := J _ hT1
                    have hT : TP D A [(h1, aI (k 0) 36 anI), (h4, aJ (k 1) 9 anJ), (h5, aJ (k 1) 9 anJ), (h6, aJ (k 1) 9 anJ), (h18, aI (k 0) 4 (vec4 h18f0 h18f1 h18f2 h18f3)), (h20, aJ (k 1) 160 anJ), (h19, aI (k 0) 4 (vec4 h19f0 h19f1 h19f2 h19f3)), (h0, ob 8 [.int h0f0, .int h0f1, .int h0f2, .int h0f3, .int h0f4, .int h0f5, .ref h1, .ref h2, .int h0f8, .int h0f9, .ref h3, .ref h4, .ref h5, .ref h6, .ref h7, .ref h8, .ref h9, .int h0f17, .int h0f18, .int h0f19, .ref h10, .ref h11, .ref h12, .ref h13, .int h0f24, .int h0f25, .ref h14, .ref h15, .ref h16, .ref h17, .int h0f30, .int h0f31, .ref h18, .ref h19, .ref h20, .ref h21]), (h3, aJ (k 1) 9 anJ)] _ := hT
                    refine lv_if_eq (tgt := 153) hx hb dX11_keeps_146 (by decide) (fun _ => ?_) (fun cc => absurd (by decide +kernel) cc)
                    refine lv_iconst (v := 0) hx hb dX11_keeps_153 (by decide) ?_
                    refine lv_istore_n (lv' := [(3, .int 0), (0, .ref h0), (1, .int x1), (2, .int x2), (4, .int y128)]) hx hb dX11_keeps_154 rfl hl (by decide) rfl (fun ls hl => ?_)
                    obtain ⟨v155, e_v155⟩ : ∃ x : Int32, x = y128 + Int32.ofInt 1 := ⟨_, rfl⟩
                    have f_v155 := e_v155.symm
                    have e_v155 : v155.toInt = y128.toInt + 1 := ai_add e_v155 rfl (show (Int32.ofInt 1).toInt = 1 from (by decide +kernel)) (by omega)
                    refine lv_iinc (v := v155) (lv' := [(4, .int v155), (3, .int 0), (0, .ref h0), (1, .int x1), (2, .int x2)]) hx hb dX11_keeps_155 hl (k := 4) rfl f_v155 (by decide) rfl (fun ls hl => ?_)
                    refine lv_goto (tgt := 69) hx hb dX11_keeps_158 (by decide) ?_
                    exact ih69_130 v155 (0) _ _ _ (by have := li_0; omega) (by have := li_0; omega)  (by have := li_0; omega) hT hS (lv_sub hl [2, 3, 4, 1, 0] rfl)
                  · skip
                    have hT := J _ hT1
                    have hT : TP D A [(h1, aI (k 0) 36 anI), (h4, aJ (k 1) 9 anJ), (h5, aJ (k 1) 9 anJ), (h6, aJ (k 1) 9 anJ), (h18, aI (k 0) 4 (vec4 h18f0 h18f1 h18f2 h18f3)), (h20, aJ (k 1) 160 anJ), (h19, aI (k 0) 4 (vec4 h19f0 h19f1 h19f2 h19f3)), (h0, ob 8 [.int h0f0, .int h0f1, .int h0f2, .int h0f3, .int h0f4, .int h0f5, .ref h1, .ref h2, .int h0f8, .int h0f9, .ref h3, .ref h4, .ref h5, .ref h6, .ref h7, .ref h8, .ref h9, .int h0f17, .int h0f18, .int h0f19, .ref h10, .ref h11, .ref h12, .ref h13, .int h0f24, .int h0f25, .ref h14, .ref h15, .ref h16, .ref h17, .int h0f30, .int h0f31, .ref h18, .ref h19, .ref h20, .ref h21]), (h3, aJ (k 1) 9 anJ)] _ := hT
                    refine lv_if_eq (tgt := 153) hx hb dX11_keeps_146 (by decide) (fun cc => absurd cc (by decide +kernel)) (fun _ => ?_)
                    refine lv_iconst (v := 1) hx hb dX11_keeps_149 (by decide) ?_
                    refine lv_goto (tgt := 154) hx hb dX11_keeps_150 (by decide) ?_
                    refine lv_istore_n (lv' := [(3, .int 1), (0, .ref h0), (1, .int x1), (2, .int x2), (4, .int y128)]) hx hb dX11_keeps_154 rfl hl (by decide) rfl (fun ls hl => ?_)
                    obtain ⟨v156, e_v156⟩ : ∃ x : Int32, x = y128 + Int32.ofInt 1 := ⟨_, rfl⟩
                    have f_v156 := e_v156.symm
                    have e_v156 : v156.toInt = y128.toInt + 1 := ai_add e_v156 rfl (show (Int32.ofInt 1).toInt = 1 from (by decide +kernel)) (by omega)
                    refine lv_iinc (v := v156) (lv' := [(4, .int v156), (3, .int 1), (0, .ref h0), (1, .int x1), (2, .int x2)]) hx hb dX11_keeps_155 hl (k := 4) rfl f_v156 (by decide) rfl (fun ls hl => ?_)
                    refine lv_goto (tgt := 69) hx hb dX11_keeps_158 (by decide) ?_
                    exact ih69_130 v156 (1) _ _ _ (by have := li_1; omega) (by have := li_1; omega)  (by have := li_1; omega) hT hS (lv_sub hl [2, 3, 4, 1, 0] rfl)
          exact lp69_130 ((3 * h0f0.toInt + (-1) * (0 : Int32).toInt + 1).toNat + 1) (0) (1) _ _ _ (by have := li_0; have := li_1; omega) (by have := li_0; have := li_1; omega)  (Nat.lt_succ_self _) hT hS (lv_sub hl [2, 3, 4, 1, 0] rfl)
      · skip
        have c_106 := ni_ne c_106 rfl li_0
        refine lv_aload_n hx hb dX11_keeps_18 rfl (lv_at hl 0 rfl) ?_
        refine tz_get (ci := 8) (v := .ref h18) (C := RX11) (F := TX11) (N := 36) hx hb hU iX11 hown hK hT 0 rfl rfl 32 (by decide) w817 (fun _ h9 => h9) rfl dX11_keeps_19 ?_
        refine lv_iload_n hx hb dX11_keeps_22 rfl (lv_at hl 1 rfl) ?_
        refine tz_iald hx hb hK hT 6 rfl (by omega) dX11_keeps_23 (fun v157 e_v157 => ?_)
        have e_v157 := x4_rg (lo := (-1)) (hi := 2) e_v157 (by omega) (by omega)
        refine lv_if_ge (tgt := 32) hx hb dX11_keeps_24 (by decide) (fun c_158 => ?_) (fun c_158 => ?_)
        · skip
          have c_158 := ni_le c_158 li_0 rfl
          refine lv_bipush (v := (-13)) hx hb dX11_keeps_32 (by decide) ?_
          exact tz_retI (B := B_cX11_keeps_4c286 D k h0 h1 h3 h4 h5 h6 h18 h19 h20 h2 h7 h8 h9 h10 h11 h12 h13 h14 h15 h16 h17 h21 x1 x2 h0f0 h0f1 h0f2 h0f3 h0f4 h0f5 h0f8 h0f9 h0f17 h0f18 h0f19 h0f24 h0f25 h0f30 h0f31 h18f0 h18f1 h18f2 h18f3 h19f0 h19f1 h19f2 h19f3) (v := (-13)) hQ hx hb hr hlocks hS (Nat.le_of_ble_eq_true rfl) (Nat.le_of_ble_eq_true rfl) dX11_keeps_34 (⟨(by have := li_m13; omega), hT⟩)
        · skip
          have c_158 := ni_nle c_158 li_0 rfl
          refine lv_bipush (v := (-11)) hx hb dX11_keeps_27 (by decide) ?_
          refine lv_goto (tgt := 34) hx hb dX11_keeps_29 (by decide) ?_
          exact tz_retI (B := B_cX11_keeps_4c286 D k h0 h1 h3 h4 h5 h6 h18 h19 h20 h2 h7 h8 h9 h10 h11 h12 h13 h14 h15 h16 h17 h21 x1 x2 h0f0 h0f1 h0f2 h0f3 h0f4 h0f5 h0f8 h0f9 h0f17 h0f18 h0f19 h0f24 h0f25 h0f30 h0f31 h18f0 h18f1 h18f2 h18f3 h19f0 h19f1 h19f2 h19f3) (v := (-11)) hQ hx hb hr hlocks hS (Nat.le_of_ble_eq_true rfl) (Nat.le_of_ble_eq_true rfl) dX11_keeps_34 (⟨(by have := li_m11; omega), hT⟩)
