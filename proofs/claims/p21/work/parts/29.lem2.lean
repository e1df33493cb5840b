theorem bitI_s (t : Int) : bitI t 1 = t / 2 % 2 ∧ bitI t 2 = t / 4 % 2 ∧ bitI t 3 = t / 8 % 2 ∧ bitI t 4 = t / 16 % 2 ∧ bitI t 5 = t / 32 % 2 := ⟨rfl, rfl, rfl, rfl, rfl⟩
