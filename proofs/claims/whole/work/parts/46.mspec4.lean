/-! THE REFERENCE: its rules, its lots, its orders -/
def sr_mo2 (x : Int32) : Int32 := if x = 0 then 30 else if x = 6 then 30 else if x = 1 then 5 else if x = 3 then 9 else if x = 4 then 9 else 99
theorem sr_mo2_e {j : Nat} (h : j < 7) : sr_mo2 (nI j) = sr_tM_ j := by
  rcases (show j = 0 ∨ j = 1 ∨ j = 2 ∨ j = 3 ∨ j = 4 ∨ j = 5 ∨ j = 6 by omega) with rfl | rfl | rfl | rfl | rfl | rfl | rfl <;> decide
theorem sr_tL_z {j : Nat} (h : j = 0) : sr_tL j = 5 := by subst h; rfl
theorem sr_tL_p {j : Nat} (h : j < 7) (h0 : ¬ j = 0) : sr_tL j = 0 := by
  rcases (show j = 1 ∨ j = 2 ∨ j = 3 ∨ j = 4 ∨ j = 5 ∨ j = 6 by omega) with rfl | rfl | rfl | rfl | rfl | rfl <;> rfl
def sr_tPn (j : Nat) : Int32 := if j = 0 then -2 else if 5 ≤ j then (if 11 ≤ j then (if 15 ≤ j then 2 else 1) else 0) else -1
theorem sr_tPe {j : Nat} (h : j < 16) : sr_tP j = sr_tPn j := by
  rcases (show j = 0 ∨ j = 1 ∨ j = 2 ∨ j = 3 ∨ j = 4 ∨ j = 5 ∨ j = 6 ∨ j = 7 ∨ j = 8 ∨ j = 9 ∨ j = 10 ∨ j = 11 ∨ j = 12 ∨ j = 13 ∨ j = 14 ∨ j = 15 by omega) with rfl | rfl | rfl | rfl | rfl | rfl | rfl | rfl | rfl | rfl | rfl | rfl | rfl | rfl | rfl | rfl <;> rfl
theorem sr_l3b {kp : sr_M} (h : sr_IK kp) (x : Int32) : ∀ c, c < 3 → sr_bs (sr_l3 (kp 2 6) x c) := by
  intro c _
  unfold sr_l3
  split
  · exact sr_lsb h _
  · split
    · exact sr_lsb h _
    · exact sr_lsb h _
theorem sr_or3 {A B C : Prop} [Decidable A] [Decidable B] [Decidable C] {x y : Int32} : (if A then x else if B then x else if C then x else y) = if (A ∨ B) ∨ C then x else y := by
  by_cases a : A
  · rw [if_pos a, if_pos (Or.inl (Or.inl a))]
  · by_cases b : B
    · rw [if_neg a, if_pos b, if_pos (Or.inl (Or.inr b))]
    · by_cases c : C
      · rw [if_neg a, if_neg b, if_pos c, if_pos (Or.inr c)]
      · rw [if_neg a, if_neg b, if_neg c, if_neg (fun q => q.elim (fun z => z.elim a b) c)]
theorem sr_ro_g (T a b c : Int32) : 0 + a + b + c + T = T + a + b + c := by grind
theorem sr_l30 (st x : Int32) : sr_l3 st x 0 = sr_ls st (sr_nx x) := if_pos rfl
theorem sr_l31 (st x : Int32) : sr_l3 st x 1 = sr_ls st (sr_nx (sr_nx x)) := by
  unfold sr_l3
  rw [if_neg (by decide), if_pos rfl]
theorem sr_l32 (st x : Int32) : sr_l3 st x 2 = sr_ls st (sr_nx (sr_nx (sr_nx x))) := by
  unfold sr_l3
  rw [if_neg (by decide), if_neg (by decide)]
theorem sr_rt_e {kp : sr_M} (h : sr_IK kp) (hT : sr_th kp) (x : Int32) : sr_rt kp x = if (sr_mt kp (sr_ru kp 0) (sr_ru kp (0 + 1)) 0 (kp 3 0) (sr_ls (kp 2 6) (sr_nx x)) = -1 ∨ sr_mt kp (sr_ru kp 1) (sr_ru kp (1 + 1)) 1 (kp 3 1) (sr_ls (kp 2 6) (sr_nx (sr_nx x))) = -1) ∨ sr_mt kp (sr_ru kp 2) (sr_ru kp (2 + 1)) 2 (kp 3 2) (sr_ls (kp 2 6) (sr_nx (sr_nx (sr_nx x)))) = -1 then -1 else sr_T kp (sr_ru kp 3) 3 100 + (sr_Dl kp (sr_ru kp 0) 0 (kp 3 0) (sr_ls (kp 2 6) (sr_nx x)) + sr_bu kp (sr_mt kp (sr_ru kp 0) (sr_ru kp (0 + 1)) 0 (kp 3 0) (sr_ls (kp 2 6) (sr_nx x)))) + (sr_Dl kp (sr_ru kp 1) 1 (kp 3 1) (sr_ls (kp 2 6) (sr_nx (sr_nx x))) + sr_bu kp (sr_mt kp (sr_ru kp 1) (sr_ru kp (1 + 1)) 1 (kp 3 1) (sr_ls (kp 2 6) (sr_nx (sr_nx x))))) + (sr_Dl kp (sr_ru kp 2) 2 (kp 3 2) (sr_ls (kp 2 6) (sr_nx (sr_nx (sr_nx x)))) + sr_bu kp (sr_mt kp (sr_ru kp 2) (sr_ru kp (2 + 1)) 2 (kp 3 2) (sr_ls (kp 2 6) (sr_nx (sr_nx (sr_nx x)))))) := by
  unfold sr_rt
  rw [sr_ti_m h hT (sr_l3b h x), sr_or3]
  unfold sr_ms sr_dm
  rw [sr_l30, sr_l31, sr_l32, sr_ro_g]
theorem sr_buI {kp : sr_M} (h : sr_IK kp) (x : Int32) : 0 ≤ (sr_bu kp x).toInt ∧ (sr_bu kp x).toInt ≤ 99 := by
  have r5 := sr_IK_r h (j := 5) (by omega) (by omega)
  have m5 : sr_mo 5 = 99 := rfl
  have e0 : (0 : Int32).toInt = 0 := rfl
  unfold sr_bu
  split <;> omega
theorem sr_add4 {T a b c : Int32} (ht : 0 ≤ T.toInt ∧ T.toInt ≤ 50000) (h0 : 0 ≤ a.toInt ∧ a.toInt ≤ 70000) (h1 : 0 ≤ b.toInt ∧ b.toInt ≤ 70000) (h2 : 0 ≤ c.toInt ∧ c.toInt ≤ 70000) : 0 ≤ (T + a + b + c).toInt := by
  have e1 := sr_addI (x := T) (y := a) (by omega) (by omega)
  have e2 := sr_addI (x := T + a) (y := b) (by omega) (by omega)
  have e3 := sr_addI (x := T + a + b) (y := c) (by omega) (by omega)
  omega
theorem sr_rtI {kp : sr_M} (h : sr_IK kp) (hT : sr_th kp) (x : Int32) : sr_rt kp x = -1 ∨ 0 ≤ (sr_rt kp x).toInt := by
  have l := sr_l3b h x
  have l0 := l 0 (by omega)
  have l1 := l 1 (by omega)
  have l2 := l 2 (by omega)
  rw [sr_l30] at l0
  rw [sr_l31] at l1
  rw [sr_l32] at l2
  have d0 := sr_DlI h (sr_th_at hT (s := 0) (by omega)) 0 (sr_IK_mb h (c := 0) (by omega)) l0
  have d1 := sr_DlI h (sr_th_at hT (s := 1) (by omega)) 1 (sr_IK_mb h (c := 1) (by omega)) l1
  have d2 := sr_DlI h (sr_th_at hT (s := 2) (by omega)) 2 (sr_IK_mb h (c := 2) (by omega)) l2
  have b0 := sr_buI h (sr_mt kp (sr_ru kp 0) (sr_ru kp (0 + 1)) 0 (kp 3 0) (sr_ls (kp 2 6) (sr_nx x)))
  have b1 := sr_buI h (sr_mt kp (sr_ru kp 1) (sr_ru kp (1 + 1)) 1 (kp 3 1) (sr_ls (kp 2 6) (sr_nx (sr_nx x))))
  have b2 := sr_buI h (sr_mt kp (sr_ru kp 2) (sr_ru kp (2 + 1)) 2 (kp 3 2) (sr_ls (kp 2 6) (sr_nx (sr_nx (sr_nx x)))))
  have t := (sr_TI h (sr_th_at hT (s := 3) (by omega)) 3 (y := 100) ⟨by decide, by decide⟩).2
  unfold sr_b0 at t
  rw [sr_rt_e h hT x]
  by_cases q : (sr_mt kp (sr_ru kp 0) (sr_ru kp (0 + 1)) 0 (kp 3 0) (sr_ls (kp 2 6) (sr_nx x)) = -1 ∨ sr_mt kp (sr_ru kp 1) (sr_ru kp (1 + 1)) 1 (kp 3 1) (sr_ls (kp 2 6) (sr_nx (sr_nx x))) = -1) ∨ sr_mt kp (sr_ru kp 2) (sr_ru kp (2 + 1)) 2 (kp 3 2) (sr_ls (kp 2 6) (sr_nx (sr_nx (sr_nx x)))) = -1
  · rw [if_pos q]
    exact Or.inl rfl
  · rw [if_neg q]
    refine Or.inr ?_
    have a0 := sr_addI (x := sr_Dl kp (sr_ru kp 0) 0 (kp 3 0) (sr_ls (kp 2 6) (sr_nx x))) (y := sr_bu kp (sr_mt kp (sr_ru kp 0) (sr_ru kp (0 + 1)) 0 (kp 3 0) (sr_ls (kp 2 6) (sr_nx x)))) (by omega) (by omega)
    have a1 := sr_addI (x := sr_Dl kp (sr_ru kp 1) 1 (kp 3 1) (sr_ls (kp 2 6) (sr_nx (sr_nx x)))) (y := sr_bu kp (sr_mt kp (sr_ru kp 1) (sr_ru kp (1 + 1)) 1 (kp 3 1) (sr_ls (kp 2 6) (sr_nx (sr_nx x))))) (by omega) (by omega)
    have a2 := sr_addI (x := sr_Dl kp (sr_ru kp 2) 2 (kp 3 2) (sr_ls (kp 2 6) (sr_nx (sr_nx (sr_nx x))))) (y := sr_bu kp (sr_mt kp (sr_ru kp 2) (sr_ru kp (2 + 1)) 2 (kp 3 2) (sr_ls (kp 2 6) (sr_nx (sr_nx (sr_nx x)))))) (by omega) (by omega)
    exact sr_add4 ⟨t.1, t.2⟩ (by omega) (by omega) (by omega)
theorem sr_rtm {kp : sr_M} (h : sr_IK kp) (hT : sr_th kp) (x most : Int32) : (if ¬ (sr_rt kp x < 0 ∨ most < sr_rt kp x) then 1 else 0) = (if sr_rt kp x = -1 then 0 else if most < sr_rt kp x then 0 else 1) := by
  have e0 : (0 : Int32).toInt = 0 := rfl
  have em : (-1 : Int32).toInt = -1 := rfl
  rcases sr_rtI h hT x with q | q
  · rw [if_pos q, if_neg (fun z => z (Or.inl (by rw [q]; decide)))]
  · have n1 : ¬ sr_rt kp x = -1 := fun z => by rw [z, em] at q; omega
    have n0 : ¬ sr_rt kp x < 0 := fun z => by rw [Int32.lt_iff_toInt_lt] at z; omega
    rw [if_neg n1]
    by_cases m : most < sr_rt kp x
    · rw [if_pos m, if_neg (fun z => z (Or.inr m))]
    · rw [if_neg m, if_pos (fun z => z.elim n0 m)]
def sn_races (kp : sr_M) (sd : Int32) (n : Nat) (most : Int32) : Int32 := if ¬ sr_th kp then -3 else nI (sr_rc kp most n sd)
theorem sr_kng : ∀ m, m < 32 → 0 < m → (nI m &&& (nI m - 1)) = nI (m &&& (m - 1)) ∧ sr_pop (nI m) = 1 + sr_pop (nI (m &&& (m - 1))) ∧ (m &&& (m - 1)) < m := by decide +kernel
theorem sr_bit5 : ∀ x, x < 5 → ∀ y, y < 5 → ∀ z, z < 5 → ∀ t, t < 5 → (0 ||| ((1 : Int32) <<< (nI x &&& 31)) ||| ((1 : Int32) <<< (nI y &&& 31)) ||| ((1 : Int32) <<< (nI z &&& 31)) ||| ((1 : Int32) <<< (nI t &&& 31))).toBitVec.toNat < 32 := by decide +kernel
theorem sr_bitsN {kp : sr_M} (h : sr_IK kp) : ∃ m, m < 32 ∧ sr_bits kp = nI m := by
  have b := sr_bit5 _ (sr_IK_ru5 h (s := 0) (by omega)) _ (sr_IK_ru5 h (s := 1) (by omega)) _ (sr_IK_ru5 h (s := 2) (by omega)) _ (sr_IK_ru5 h (s := 3) (by omega))
  refine ⟨(sr_bits kp).toBitVec.toNat, b, ?_⟩
  have e : (nI (sr_bits kp).toBitVec.toNat).toBitVec = (sr_bits kp).toBitVec := by
    apply BitVec.eq_of_toNat_eq
    rw [show (nI (sr_bits kp).toBitVec.toNat).toBitVec.toNat = (sr_bits kp).toBitVec.toNat % 2 ^ 32 from rfl]
    exact Nat.mod_eq_of_lt (sr_bits kp).toBitVec.isLt
  exact (Int32.toBitVec_inj.mp e).symm
