/-! LONGS, AND THE BEST MARK BY TRYING ALL -/
theorem sr_LI {n : Nat} (h : n < 2147483648) : (nI n).toInt64.toInt = (n : Int) := by rw [Int32.toInt_toInt64, nI_toInt h]
theorem sr_Li {x : Int64} {n : Nat} (h : n < 2147483648) (e : x.toInt = (n : Int)) : x = (nI n).toInt64 := Int64.toInt_inj.mp (by rw [sr_LI h]; exact e)
theorem sr_Lmul {a b : Nat} (ha : a < 32768) (hb : b < 32768) : (nI a).toInt64 * (nI b).toInt64 = (nI (a * b)).toInt64 := by
  have h1 : a * b < 2147483648 := Nat.lt_of_lt_of_le (Nat.mul_lt_mul'' ha hb) (by omega)
  refine sr_Li h1 ?_
  rw [Int64.toInt_mul, sr_LI (by omega), sr_LI (by omega), ← Int.natCast_mul]
  exact Int.bmod_eq_of_le (by omega) (by omega)
theorem sr_Ldiv {a b : Nat} (ha : a < 2147483648) (hb : b < 2147483648) : (nI a).toInt64 / (nI b).toInt64 = (nI (a / b)).toInt64 := by
  have h1 : a / b < 2147483648 := Nat.lt_of_le_of_lt (Nat.div_le_self a b) ha
  refine sr_Li h1 ?_
  rw [Int64.toInt_div, sr_LI ha, sr_LI hb, show Int.tdiv (a : Int) (b : Int) = ((a / b : Nat) : Int) from rfl]
  generalize a / b = q at h1 ⊢
  exact Int.bmod_eq_of_le (by omega) (by omega)
theorem sr_Lrem {a b : Nat} (ha : a < 32768) (hb : b < 32768) : (nI a).toInt64 - (nI a).toInt64 / (nI b).toInt64 * (nI b).toInt64 = (nI (a % b)).toInt64 := by
  have h0 : a / b ≤ a := Nat.div_le_self a b
  have h2 : a / b * b ≤ a := Nat.div_mul_le_self a b
  have h3 : a % b ≤ a := Nat.mod_le a b
  have h4 := Nat.div_add_mod' a b
  rw [sr_Ldiv (by omega) (by omega), sr_Lmul (by omega) hb]
  refine sr_Li (by omega) ?_
  rw [Int64.toInt_sub, sr_LI (by omega), sr_LI (by omega)]
  rw [Int.bmod_eq_of_le (by omega) (by omega)]
  omega
theorem sr_Lz {b : Nat} (hb : b < 32768) : (nI b).toInt64 = 0 ↔ b = 0 := by
  constructor
  · intro h
    have := sr_LI (n := b) (by omega)
    rw [h] at this
    have e0 : (0 : Int64).toInt = 0 := rfl
    omega
  · intro h
    subst h
    rfl
theorem sr_hv_g : ∀ (k A : Nat), sr_hv k A (2 ^ k) = (A / Nat.gcd A (2 ^ k), 2 ^ k / Nat.gcd A (2 ^ k))
  | 0, A => by
    show (A, 2 ^ 0) = _
    rw [show (2 : Nat) ^ 0 = 1 from rfl, Nat.gcd_one_right, Nat.div_one]
  | k + 1, A => by
    by_cases h : A % 2 = 0
    · have e1 : sr_hv (k + 1) A (2 ^ (k + 1)) = sr_hv k (A / 2) (2 ^ (k + 1) / 2) := if_pos h
      have e2 : 2 ^ (k + 1) = 2 * 2 ^ k := by rw [Nat.pow_succ, Nat.mul_comm]
      obtain ⟨c, rfl⟩ : ∃ c, A = 2 * c := ⟨A / 2, by omega⟩
      rw [e1, e2, Nat.mul_div_cancel_left _ (by omega), Nat.mul_div_cancel_left _ (by omega), sr_hv_g k c, Nat.gcd_mul_left, Nat.mul_div_mul_left _ _ (by omega), Nat.mul_div_mul_left _ _ (by omega)]
    · have e1 : sr_hv (k + 1) A (2 ^ (k + 1)) = (A, 2 ^ (k + 1)) := if_neg h
      have c2 : Nat.Coprime A 2 := by
        show Nat.gcd A 2 = 1
        rw [Nat.gcd_comm, Nat.gcd_rec, show A % 2 = 1 by omega]
        rfl
      have c3 : Nat.gcd A (2 ^ (k + 1)) = 1 := Nat.Coprime.pow_right (k + 1) c2
      rw [e1, c3, Nat.div_one, Nat.div_one]
theorem sr_fo_g (kp : sr_M) (w : Int32) : (if w = 0 then sr_c3 kp else 4096) / Nat.gcd (sr_c3 kp) 4096 = sr_fo kp w := by
  have h := sr_hv_g 12 (sr_c3 kp)
  rw [show (2 : Nat) ^ 12 = 4096 from rfl] at h
  unfold sr_fo
  rw [h]
  by_cases q : w = 0
  · rw [if_pos q, if_pos q]
  · rw [if_neg q, if_neg q]
theorem sr_gcd_step {a b : Nat} : Nat.gcd b (a % b) = Nat.gcd a b := by
  rw [Nat.gcd_comm b (a % b), ← Nat.gcd_rec b a, Nat.gcd_comm]
theorem sr_ifL (p : Prop) [Decidable p] (a b : Nat) : (if p then (nI a).toInt64 else (nI b).toInt64) = (nI (if p then a else b)).toInt64 := by
  by_cases h : p
  · rw [if_pos h, if_pos h]
  · rw [if_neg h, if_neg h]
def sn_all (kp : sr_M) (w : Int32) : Int64 := if ¬ sr_th kp then -9223372036854775805 else (nI (sr_fo kp w)).toInt64
-- the best mark
def sr_nw (kp : sr_M) (co go c : Nat) (sl : Int32) (m : Nat) : Int32 := sr_Dl kp co c (nI m) sl + sr_bu kp (sr_mt kp co go c (nI m) sl)
theorem sr_100I {m : Nat} (hm : m ≤ 40) : (100 - nI m).toInt = 100 - (m : Int) := by
  have e : (100 : Int32).toInt = 100 := rfl
  rw [sr_subI (by rw [sr_nIi (by omega)]; omega) (by rw [sr_nIi (by omega)]; omega), sr_nIi (by omega), e]
theorem sr_nwlt {kp : sr_M} (h : sr_IK kp) {co go c : Nat} (h1 : co < sr_cnt kp) (h2 : go < sr_cnt kp) {sl : Int32} (hs : sr_bs sl) {m : Nat} (hm : m + 1 ≤ 40) : sr_nw kp co go c sl (m + 1) < sr_nw kp co go c sl m := by
  have a0 := sr_100I (m := m) (by omega)
  have a1 := sr_100I (m := m + 1) (by omega)
  have hT := sr_Tfull h h1 c (y := 100 - nI m) (z := 100 - nI (m + 1)) (by omega) (by omega)
  have hp := sr_pcI h h1 c
  have t0 := sr_TI h h1 c (y := 100 - nI m) ⟨by omega, by omega⟩
  have t1 := sr_TI h h1 c (y := 100 - nI (m + 1)) ⟨by omega, by omega⟩
  have hd0 := sr_DlI h h1 c (mk := nI m) (sl := sl) (sr_b0n (by omega)) hs
  have hd1 := sr_DlI h h1 c (mk := nI (m + 1)) (sl := sl) (sr_b0n (by omega)) hs
  have hw := sr_waI h hs
  have b0 := sr_buI h (sr_mt kp co go c (nI m) sl)
  have b1 := sr_buI h (sr_mt kp co go c (nI (m + 1)) sl)
  have eD0 : (sr_Dl kp co c (nI m) sl).toInt = (sr_T kp co c (100 - nI m)).toInt + (sr_wa kp sl).toInt := sr_addI (by have := hw.1; have := hw.2; omega) (by have := hw.1; have := hw.2; omega)
  have eD1 : (sr_Dl kp co c (nI (m + 1)) sl).toInt = (sr_T kp co c (100 - nI (m + 1))).toInt + (sr_wa kp sl).toInt := sr_addI (by have := hw.1; have := hw.2; omega) (by have := hw.1; have := hw.2; omega)
  have hb : (sr_bu kp (sr_mt kp co go c (nI (m + 1)) sl)).toInt ≤ (sr_bu kp (sr_mt kp co go c (nI m) sl)).toInt := by
    by_cases q : sr_mt kp co go c (nI (m + 1)) sl = 0
    · have q2 : sr_mt kp co go c (nI m) sl = 0 := by
        have g1 := (sr_hd h h1 h2 (sr_b0n (m := m + 1) (by omega)) hs (x := 0) (by omega)).mpr ((sr_mt0' h).mp q)
        refine (sr_mt0' h).mpr ((sr_hd h h1 h2 (sr_b0n (m := m) (by omega)) hs (x := 0) (by omega)).mp ?_)
        rw [Int32.le_iff_toInt_le] at g1 ⊢
        rw [sr_mulI 40 117 (by rw [sr_nIi (by omega)]; omega) (by rw [sr_nIi (by omega)]; omega) (by omega) (by omega) (by decide), sr_nIi (by omega)] at g1 ⊢
        have e1 : ((m + 1 : Nat) : Int) * (sr_pc kp co c).toInt = (m : Int) * (sr_pc kp co c).toInt + (sr_pc kp co c).toInt := by rw [Int.natCast_add, Int.add_mul]; omega
        omega
      rw [q, q2]
      exact Int.le_refl _
    · have e : sr_bu kp (sr_mt kp co go c (nI (m + 1)) sl) = 0 := if_neg q
      rw [e]
      exact b0.1
  unfold sr_nw
  rw [Int32.lt_iff_toInt_lt, sr_addI (by omega) (by omega), sr_addI (by omega) (by omega), eD0, eD1]
  rw [a0, a1] at hT
  have e3 : (100 - (m : Int) - (100 - ((m + 1 : Nat) : Int))) = 1 := by omega
  rw [e3, Int.one_mul] at hT
  omega
def sr_mn (i b : Nat) : Nat := if i ≤ b then i - 1 else b
def sr_bb (kp : sr_M) (co go c : Nat) (sl : Int32) (i : Nat) : Int32 := if i = 0 then -1 else nI (sr_mn i (sr_best kp co go c sl))
def sr_bl (kp : sr_M) (co go c : Nat) (sl : Int32) (i : Nat) : Int32 := if i = 0 then 0 else sr_nw kp co go c sl (sr_mn i (sr_best kp co go c sl))
theorem sr_bb_no {kp : sr_M} {co go c : Nat} {sl : Int32} {i : Nat} (h : ¬ i ≤ sr_best kp co go c sl) : sr_bb kp co go c sl (i + 1) = sr_bb kp co go c sl i ∧ sr_bl kp co go c sl (i + 1) = sr_bl kp co go c sl i := by
  have e : sr_mn (i + 1) (sr_best kp co go c sl) = sr_mn i (sr_best kp co go c sl) := by
    unfold sr_mn
    rw [if_neg (by omega), if_neg h]
  unfold sr_bb sr_bl
  rw [if_neg (by omega), if_neg (by omega), if_neg (by omega), if_neg (by omega), e]
  exact ⟨rfl, rfl⟩
theorem sr_bb_yes {kp : sr_M} {co go c : Nat} {sl : Int32} {i : Nat} (h : i ≤ sr_best kp co go c sl) : sr_bb kp co go c sl (i + 1) = nI i ∧ sr_bl kp co go c sl (i + 1) = sr_nw kp co go c sl i := by
  have e : sr_mn (i + 1) (sr_best kp co go c sl) = i := by
    unfold sr_mn
    split <;> omega
  unfold sr_bb sr_bl
  rw [if_neg (by omega), if_neg (by omega), e]
  exact ⟨rfl, rfl⟩
theorem sr_bb_lt {kp : sr_M} (hI : sr_IK kp) {co go c : Nat} (h1 : co < sr_cnt kp) (h2 : go < sr_cnt kp) {sl : Int32} (hs : sr_bs sl) {i : Nat} (h : i ≤ sr_best kp co go c sl) (h0 : 0 < i) : sr_nw kp co go c sl i < sr_bl kp co go c sl i := by
  have h40 := sr_best40 kp co go c sl
  obtain ⟨j, rfl⟩ : ∃ j, i = j + 1 := ⟨i - 1, by omega⟩
  have e : sr_mn (j + 1) (sr_best kp co go c sl) = j := by
    unfold sr_mn
    rw [if_pos h]
    rfl
  unfold sr_bl
  rw [if_neg (by omega), e]
  exact sr_nwlt hI h1 h2 hs (by omega)
theorem sr_bb_0 {kp : sr_M} {co go c : Nat} {sl : Int32} {i : Nat} (hi : i ≤ 41) (h : sr_bb kp co go c sl i = -1) : i = 0 := by
  rcases Nat.eq_zero_or_pos i with q | q
  · exact q
  · have h40 := sr_best40 kp co go c sl
    unfold sr_bb at h
    rw [if_neg (by omega)] at h
    exact absurd h (sr_m1 (by unfold sr_mn; split <;> omega))
theorem sr_bb_e (kp : sr_M) (co go c : Nat) (sl : Int32) : sr_bb kp co go c sl 41 = nI (sr_best kp co go c sl) := by
  have h40 := sr_best40 kp co go c sl
  unfold sr_bb sr_mn
  rw [if_neg (by omega), if_neg (by omega)]
theorem sr_Lmul1 {b : Nat} (hb : b < 32768) : 1 * (nI b).toInt64 = (nI (1 * b)).toInt64 := by
  rw [Nat.one_mul]
  exact Int64.one_mul _
