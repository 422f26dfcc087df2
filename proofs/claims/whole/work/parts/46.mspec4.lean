/-! THE REFERENCE: its rules, its lots, its orders -/
def sr_mo2 (x : Int32) : Int32 := if x = 0 then 30 else if x = 6 then 30 else if x = 1 then 5 else if x = 3 then 9 else if x = 4 then 9 else 99
theorem sr_mo2_e {j : Nat} (h : j < 7) : sr_mo2 (nI j) = sr_tM_ j := by
  rcases (show j = 0 ∨ j = 1 ∨ j = 2 ∨ j = 3 ∨ j = 4 ∨ j = 5 ∨ j = 6 by omega) with rfl | rfl | rfl | rfl | rfl | rfl | rfl <;> decide
theorem sr_tL_z {j : Nat} (h : j = 0) : sr_tL j = 5 := by subst h; rfl
theorem sr_tL_p {j : Nat} (h : j < 7) (h0 : ¬ j = 0) : sr_tL j = 0 := by
  rcases (show j = 1 ∨ j = 2 ∨ j = 3 ∨ j = 4 ∨ j = 5 ∨ j = 6 by omega) with rfl | rfl | rfl | rfl | rfl | rfl <;> rfl
def sr_tPn (j : Nat) : Int32 := if j = 0 then -2 else if 5 ≤ j then (if 11 ≤ j then (if 15 ≤ j then 2 else 1) else 0) else -1
theorem sr_tPe {j : Nat} (h : j < 16) : sr_tP j = sr_tPn j := by
  rcases (show j = 0 ∨ j = 1 ∨ j = 2 ∨ j = 3 ∨ j = 4 ∨ j = 5 ∨ j = 6 ∨ j = 7 ∨ j = 8 ∨ j = 9 ∨ j = 10 ∨ j = 11 ∨ j = 12 ∨ j = 13 ∨ j = 14 ∨ j = 15 by omega) with rfl | rfl | rfl | rfl | rfl | rfl | rfl | rfl | rfl | rfl | rfl | rfl | rfl | rfl | rfl | rfl <;> rfl
theorem sr_l3b {kp : sr_M} (h : sr_IK kp) (x : Int32) : ∀ c, c < 3 → sr_bs (sr_l3 (kp 2 6) x c) := by
  intro c _
  unfold sr_l3
  split
  · exact sr_lsb h _
  · split
    · exact sr_lsb h _
    · exact sr_lsb h _
theorem sr_or3 {A B C : Prop} [Decidable A] [Decidable B] [Decidable C] {x y : Int32} : (if A then x else if B then x else if C then x else y) = if (A ∨ B) ∨ C then x else y := by
  by_cases a : A
  · rw [if_pos a, if_pos (Or.inl (Or.inl a))]
  · by_cases b : B
    · rw [if_neg a, if_pos b, if_pos (Or.inl (Or.inr b))]
    · by_cases c : C
      · rw [if_neg a, if_neg b, if_pos c, if_pos (Or.inr c)]
      · rw [if_neg a, if_neg b, if_neg c, if_neg (fun q => q.elim (fun z => z.elim a b) c)]
theorem sr_ro_g (T a b c : Int32) : 0 + a + b + c + T = T + a + b + c := by grind
theorem sr_l30 (st x : Int32) : sr_l3 st x 0 = sr_ls st (sr_nx x) := if_pos rfl
theorem sr_l31 (st x : Int32) : sr_l3 st x 1 = sr_ls st (sr_nx (sr_nx x)) := by
  unfold sr_l3
  rw [if_neg (by decide), if_pos rfl]
theorem sr_l32 (st x : Int32) : sr_l3 st x 2 = sr_ls st (sr_nx (sr_nx (sr_nx x))) := by
  unfold sr_l3
  rw [if_neg (by decide), if_neg (by decide)]
theorem sr_rt_e {kp : sr_M} (h : sr_IK kp) (hT : sr_th kp) (x : Int32) : sr_rt kp x = if (sr_mt kp (sr_ru kp 0) (sr_ru kp (0 + 1)) 0 (kp 3 0) (sr_ls (kp 2 6) (sr_nx x)) = -1 ∨ sr_mt kp (sr_ru kp 1) (sr_ru kp (1 + 1)) 1 (kp 3 1) (sr_ls (kp 2 6) (sr_nx (sr_nx x))) = -1) ∨ sr_mt kp (sr_ru kp 2) (sr_ru kp (2 + 1)) 2 (kp 3 2) (sr_ls (kp 2 6) (sr_nx (sr_nx (sr_nx x)))) = -1 then -1 else sr_T kp (sr_ru kp 3) 3 100 + (sr_Dl kp (sr_ru kp 0) 0 (kp 3 0) (sr_ls (kp 2 6) (sr_nx x)) + sr_bu kp (sr_mt kp (sr_ru kp 0) (sr_ru kp (0 + 1)) 0 (kp 3 0) (sr_ls (kp 2 6) (sr_nx x)))) + (sr_Dl kp (sr_ru kp 1) 1 (kp 3 1) (sr_ls (kp 2 6) (sr_nx (sr_nx x))) + sr_bu kp (sr_mt kp (sr_ru kp 1) (sr_ru kp (1 + 1)) 1 (kp 3 1) (sr_ls (kp 2 6) (sr_nx (sr_nx x))))) + (sr_Dl kp (sr_ru kp 2) 2 (kp 3 2) (sr_ls (kp 2 6) (sr_nx (sr_nx (sr_nx x)))) + sr_bu kp (sr_mt kp (sr_ru kp 2) (sr_ru kp (2 + 1)) 2 (kp 3 2) (sr_ls (kp 2 6) (sr_nx (sr_nx (sr_nx x)))))) := by
  unfold sr_rt
  rw [sr_ti_m h hT (sr_l3b h x), sr_or3]
  unfold sr_ms sr_dm
  rw [sr_l30, sr_l31, sr_l32, sr_ro_g]
