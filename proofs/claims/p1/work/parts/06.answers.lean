def F_size (x0 : Int32) : Int32 := if x0.toInt < 1 ∨ 3 < x0.toInt then -1 else 2
def F_unit (x0 : Int32) (x1 : Int32) (x2 : Int32) : Int32 := if (0 ≤ x0.toInt ∧ x0.toInt < 2 ∧ 0 ≤ x1.toInt ∧ x1.toInt < 2) ∧ ((x0.toInt = x1.toInt ∧ (x2.toInt = 1 ∨ x2.toInt = -1)) ∨ (¬ x0.toInt = x1.toInt ∧ -99 ≤ x2.toInt ∧ x2.toInt ≤ 99)) then 0 else -1
def F_made (x0 : Int32) (x1 : Int32) (x2 : Int32) : Int32 := -1
def F_drop : Int32 := -3
def F_at (x0 : Int32) (x1 : Int32) (x2 : Int32) : Int32 := -1
def F_of (x0 : Int32) (x1 : Int32) : Int32 := -1
def F_character (x0 : Int32) (x1 : Int32) : Int32 := -1
def F_factor (x0 : Int32) (x1 : Int32) : Int32 := -1
def F_feed (x0 : Int64) (x1 : Int32) : Int32 := if 1 ≤ x1.toInt ∧ x1.toInt ≤ 8 then x1 else -1
def F_text : Int32 := 0
def F_listed : Int32 := 1
def F_whole : Int32 := 1
def F_element (x0 : Int32) (x1 : Int32) (x2 : Int32) : Int64 := if x0.toInt = 0 ∧ (0 ≤ x1.toInt ∧ x1.toInt < 2 ∧ 0 ≤ x2.toInt ∧ x2.toInt < 2) then (if x1.toInt = x2.toInt then 1 else 0) else (-4000000000000000001)
def F_about (x0 : Int32) (x1 : Int32) : Int32 := if x0.toInt = 0 then (if x1.toInt = 0 ∨ x1.toInt = 1 then -3 else if x1.toInt = 2 then 0 else if x1.toInt = 3 then 1 else -1) else -1
def F_witness : Int32 := -3
def F_found (x0 : Int32) : Int32 := if x0.toInt = 0 then 0 else -1
def F_middle : Int32 := 1
def F_form (x0 : Int32) (x1 : Int32) : Int64 := if (0 ≤ x0.toInt ∧ x0.toInt < 2 ∧ 0 ≤ x1.toInt ∧ x1.toInt < 2) then (if x0.toInt = x1.toInt then 1 else 0) else (-4000000000000000001)
def F_keeps (x0 : Int32) (x1 : Int32) : Int32 := if (0 ≤ x0.toInt ∧ x0.toInt < 4) then -11 else -1
def F_image (x0 : Int32) : Int32 := if (x0.toInt = 2 ∨ x0.toInt = 3 ∨ x0.toInt = 5 ∨ x0.toInt = 7) then 1 else -1
def F_faithful (x0 : Int32) : Int32 := if (x0.toInt = 2 ∨ x0.toInt = 3 ∨ x0.toInt = 5 ∨ x0.toInt = 7) then 1 else -1
def F_orbit (x0 : Int32) (x1 : Int32) (x2 : Int32) : Int32 := if (-1000 ≤ x0.toInt ∧ x0.toInt ≤ 1000) ∧ (-1000 ≤ x1.toInt ∧ x1.toInt ≤ 1000) ∧ (-1000 ≤ x2.toInt ∧ x2.toInt ≤ 1000) then 1 else -1
def F_point (x0 : Int32) (x1 : Int32) : Int64 := (-4000000000000000001)
def F_round (x0 : Int32) : Int32 := if 0 ≤ x0.toInt ∧ x0.toInt ≤ 2 then -3 else -1
def F_still (x0 : Int32) (x1 : Int32) (x2 : Int32) : Int32 := if (-1000 ≤ x0.toInt ∧ x0.toInt ≤ 1000) ∧ (-1000 ≤ x1.toInt ∧ x1.toInt ≤ 1000) ∧ (-1000 ≤ x2.toInt ∧ x2.toInt ≤ 1000) then 1 else -1
def F_seed (x0 : Int32) : Int32 := 1
def F_lot (x0 : Int32) : Int32 := if 1 ≤ x0.toInt ∧ x0.toInt ≤ 4 then x0 else -1
def F_sheet (x0 : Int32) (x1 : Int32) (x2 : Int32) : Int32 := if (0 ≤ x0.toInt ∧ x0.toInt < 4) then (if x1.toInt = -1 then 1 else if x1.toInt < -1 ∨ 2 < x1.toInt then -1 else if 40 < x2.toInt then -1 else if x2.toInt < 0 then -14 else 1) else -1
def F_put (x0 : Int32) (x1 : Int32) (x2 : Int64) : Int32 := if (0 ≤ x0.toInt ∧ x0.toInt < 4) then -11 else -1
def F_item (x0 : Int32) (x1 : Int32) (x2 : Int32) : Int32 := if (0 ≤ x0.toInt ∧ x0.toInt < 4) ∧ 0 ≤ x1.toInt ∧ x1.toInt ≤ 2 then -11 else -1
def F_copy (x0 : Int32) (x1 : Int32) (x2 : Int32) (x3 : Int32) (x4 : Int32) : Int32 := if (0 ≤ x0.toInt ∧ x0.toInt < 4) ∧ (0 ≤ x2.toInt ∧ x2.toInt < 4) then -11 else -1
def F_lay (x0 : Int32) (x1 : Int32) (x2 : Int32) : Int32 := if x0.toInt = 0 ∧ (0 ≤ x1.toInt ∧ x1.toInt < 4) then -11 else -1
def F_take (x0 : Int32) (x1 : Int32) : Int32 := if (0 ≤ x0.toInt ∧ x0.toInt < 4) then -11 else -1
def F_many (x0 : Int32) : Int32 := if x0.toInt = 0 then 2 else if x0.toInt = 1 ∨ x0.toInt = 2 then 0 else -1
def F_keep : Int32 := 1
def F_again : Int32 := -3
