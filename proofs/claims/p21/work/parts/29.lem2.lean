theorem bitI_s (t : Int) : bitI t 1 = t / 2 % 2 ∧ bitI t 2 = t / 4 % 2 ∧ bitI t 3 = t / 8 % 2 ∧ bitI t 4 = t / 16 % 2 ∧ bitI t 5 = t / 32 % 2 := ⟨rfl, rfl, rfl, rfl, rfl⟩
def GB (a b : Int32) : Int32 := if 0 ≤ a.toInt ∧ a.toInt ≤ 1 ∧ 1 ≤ b.toInt ∧ b.toInt ≤ 100 then (if a = 0 then (b - 1) / 3 else (b - 1) / 4) else -1
