/-! THE REFERENCE: its rules, its lots, its orders -/
def sr_mo2 (x : Int32) : Int32 := if x = 0 then 30 else if x = 6 then 30 else if x = 1 then 5 else if x = 3 then 9 else if x = 4 then 9 else 99
theorem sr_mo2_e {j : Nat} (h : j < 7) : sr_mo2 (nI j) = sr_tM_ j := by
  rcases (show j = 0 ∨ j = 1 ∨ j = 2 ∨ j = 3 ∨ j = 4 ∨ j = 5 ∨ j = 6 by omega) with rfl | rfl | rfl | rfl | rfl | rfl | rfl <;> decide
theorem sr_tL_z {j : Nat} (h : j = 0) : sr_tL j = 5 := by subst h; rfl
theorem sr_tL_p {j : Nat} (h : j < 7) (h0 : ¬ j = 0) : sr_tL j = 0 := by
  rcases (show j = 1 ∨ j = 2 ∨ j = 3 ∨ j = 4 ∨ j = 5 ∨ j = 6 by omega) with rfl | rfl | rfl | rfl | rfl | rfl <;> rfl
