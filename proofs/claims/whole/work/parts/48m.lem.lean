theorem bitne {b : Bool} (h : (if b then (1 : Int) else 0) ≠ 0) : b = true := by cases b; exact absurd rfl h; rfl
theorem bitez {b : Bool} (h : (if b then (1 : Int) else 0) = 0) : ¬ b = true := by cases b; decide; exact absurd h (by decide)
