/-! NUMBERS: no sum here wraps; what the class says of a meeting is what the reference says -/
theorem sr_addI {x y : Int32} (h1 : -2147483648 ≤ x.toInt + y.toInt) (h2 : x.toInt + y.toInt < 2147483648) : (x + y).toInt = x.toInt + y.toInt := by
  rw [Int32.toInt_add]
  exact Int.bmod_eq_of_le (by omega) (by omega)
theorem sr_subI {x y : Int32} (h1 : -2147483648 ≤ x.toInt - y.toInt) (h2 : x.toInt - y.toInt < 2147483648) : (x - y).toInt = x.toInt - y.toInt := by
  rw [Int32.toInt_sub]
  exact Int.bmod_eq_of_le (by omega) (by omega)
theorem sr_mulb {x y A B : Int} (hx1 : -A ≤ x) (hx2 : x ≤ A) (hy1 : -B ≤ y) (hy2 : y ≤ B) : -(A * B) ≤ x * y ∧ x * y ≤ A * B := by
  have h1 : x.natAbs ≤ A.natAbs := by omega
  have h2 : y.natAbs ≤ B.natAbs := by omega
  have h3 := Nat.mul_le_mul h1 h2
  rw [← Int.natAbs_mul, ← Int.natAbs_mul] at h3
  have h4 : 0 ≤ A * B := Int.mul_nonneg (by omega) (by omega)
  omega
theorem sr_mulI {x y : Int32} (A B : Int) (hx1 : -A ≤ x.toInt) (hx2 : x.toInt ≤ A) (hy1 : -B ≤ y.toInt) (hy2 : y.toInt ≤ B) (hAB : A * B < 2147483648) : (x * y).toInt = x.toInt * y.toInt := by
  have h := sr_mulb hx1 hx2 hy1 hy2
  rw [Int32.toInt_mul]
  exact Int.bmod_eq_of_le (by omega) (by omega)
theorem sr_nIi {n : Nat} (h : n < 2147483648) : (nI n).toInt = (n : Int) := nI_toInt h
def sr_b0 (x : Int32) (n : Int) : Prop := 0 ≤ x.toInt ∧ x.toInt ≤ n
def sr_bs (x : Int32) : Prop := -60 ≤ x.toInt ∧ x.toInt ≤ 60
-- the figures of one who is there
theorem sr_goA {kp : sr_M} {r : Nat} (h : r < sr_cnt kp) (j : Nat) (hj : j < 6) : sr_go (kp 0) (7 * r + j) = true := by
  obtain ⟨h1, h2⟩ := sr_cnt7 h
  unfold sr_pl at h2
  exact sr_run_go (kp 0) (sr_n kp) 0 _ (by omega) (by omega)
theorem sr_goD {t : Nat → Int32} {r j : Nat} (hj : j < 6) (h : sr_go t (7 * r + j) = true) : 48 ≤ (t (7 * r + j)).toInt ∧ (t (7 * r + j)).toInt ≤ 57 := by
  unfold sr_go at h
  split at h
  · cases h
  · rw [if_neg (by omega)] at h
    split at h
    · cases h
    · rename_i h1
      rw [not_or] at h1
      obtain ⟨h2, h3⟩ := h1
      rw [Int32.lt_iff_toInt_lt] at h2 h3
      have e1 : (48 : Int32).toInt = 48 := rfl
      have e2 : (57 : Int32).toInt = 57 := rfl
      omega
theorem sr_twoI {t : Nat → Int32} {p : Nat} (h1 : 48 ≤ (t p).toInt ∧ (t p).toInt ≤ 57) (h2 : 48 ≤ (t (p + 1)).toInt ∧ (t (p + 1)).toInt ≤ 57) : (sr_two t p).toInt = 10 * ((t p).toInt - 48) + ((t (p + 1)).toInt - 48) := by
  have e48 : (48 : Int32).toInt = 48 := rfl
  have e10 : (10 : Int32).toInt = 10 := rfl
  have a1 : (t p - 48).toInt = (t p).toInt - 48 := by rw [sr_subI] <;> omega
  have a2 : (10 * (t p - 48)).toInt = 10 * ((t p).toInt - 48) := by rw [sr_mulI 10 9, a1, e10] <;> omega
  have a3 : (10 * (t p - 48) + t (p + 1)).toInt = 10 * ((t p).toInt - 48) + (t (p + 1)).toInt := by rw [sr_addI, a2] <;> omega
  unfold sr_two
  rw [sr_subI, a3, e48] <;> omega
theorem sr_figb {kp : sr_M} {r : Nat} (h : r < sr_cnt kp) : 1 ≤ (sr_fig kp r 0).toInt ∧ (sr_fig kp r 0).toInt ≤ (sr_fig kp r 1).toInt ∧ (sr_fig kp r 1).toInt ≤ 99 ∧ sr_b0 (sr_fig kp r 2) 9 ∧ 1 ≤ (sr_fig kp r 3).toInt ∧ (sr_fig kp r 3).toInt ≤ 3 := by
  have d0 := sr_goD (by omega) (sr_goA h 0 (by omega))
  have d1 := sr_goD (by omega) (sr_goA h 1 (by omega))
  have d2 := sr_goD (by omega) (sr_goA h 2 (by omega))
  have d3 := sr_goD (by omega) (sr_goA h 3 (by omega))
  have d4 := sr_goD (by omega) (sr_goA h 4 (by omega))
  have d5 := sr_goD (by omega) (sr_goA h 5 (by omega))
  have t0 := sr_twoI (t := kp 0) (p := 7 * r) d0 d1
  have t2 := sr_twoI (t := kp 0) (p := 7 * r + 2) d2 d3
  have g1 := sr_goA h 1 (by omega)
  have g3 := sr_goA h 3 (by omega)
  have g5 := sr_goA h 5 (by omega)
  have e48 : (48 : Int32).toInt = 48 := rfl
  have e51 : (51 : Int32).toInt = 51 := rfl
  have e0 : (0 : Int32).toInt = 0 := rfl
  have s4 : (kp 0 (7 * r + 4) - 48).toInt = (kp 0 (7 * r + 4)).toInt - 48 := by rw [sr_subI] <;> omega
  have s5 : (kp 0 (7 * r + 5) - 48).toInt = (kp 0 (7 * r + 5)).toInt - 48 := by rw [sr_subI] <;> omega
  have k1 : 0 < (sr_two (kp 0) (7 * r)).toInt := by
    unfold sr_go at g1
    split at g1
    · cases g1
    · rw [if_neg (by omega)] at g1
      split at g1
      · cases g1
      · rw [if_pos (by omega)] at g1
        have := of_decide_eq_true g1
        rw [Int32.lt_iff_toInt_lt] at this
        exact this
  have k3 : (sr_two (kp 0) (7 * r)).toInt ≤ (sr_two (kp 0) (7 * r + 2)).toInt := by
    unfold sr_go at g3
    split at g3
    · cases g3
    · rw [if_neg (by omega)] at g3
      split at g3
      · cases g3
      · rw [if_neg (by omega), if_pos (by omega)] at g3
        have := of_decide_eq_true g3
        rw [Int32.le_iff_toInt_le] at this
        exact this
  have k5 : 48 < (kp 0 (7 * r + 5)).toInt ∧ (kp 0 (7 * r + 5)).toInt ≤ 51 := by
    unfold sr_go at g5
    split at g5
    · cases g5
    · rw [if_neg (by omega)] at g5
      split at g5
      · cases g5
      · rw [if_neg (by omega), if_neg (by omega), if_pos (by omega)] at g5
        have := of_decide_eq_true g5
        rw [Int32.lt_iff_toInt_lt, Int32.le_iff_toInt_le] at this
        exact this
  have f0 : sr_fig kp r 0 = sr_two (kp 0) (7 * r) := rfl
  have f1 : sr_fig kp r 1 = sr_two (kp 0) (7 * r + 2) := rfl
  have f2 : sr_fig kp r 2 = kp 0 (7 * r + 4) - 48 := rfl
  have f3 : sr_fig kp r 3 = kp 0 (7 * r + 5) - 48 := rfl
  unfold sr_b0
  rw [f0, f1, f2, f3]
  refine ⟨by omega, k3, ?_, ⟨by omega, by omega⟩, by omega, by omega⟩
  have e3 : (kp 0 (7 * r + 2 + 1)) = kp 0 (7 * r + 3) := rfl
  rw [e3] at t2
  omega
theorem sr_IK_r {kp : sr_M} (h : sr_IK kp) {j : Nat} (h1 : 1 ≤ j) (h2 : j < 7) : 0 ≤ (kp 2 j).toInt ∧ (kp 2 j).toInt ≤ sr_mo j := h.2.2.2.1 j h1 h2
theorem sr_IK_sl {kp : sr_M} (h : sr_IK kp) {c : Nat} (hc : c < 3) : sr_bs (kp 4 c) := h.2.2.2.2.2.1 c hc
theorem sr_IK_mb {kp : sr_M} (h : sr_IK kp) {c : Nat} (hc : c < 3) : sr_b0 (kp 3 c) 40 := by
  rw [sr_IK_mk h hc]
  have := sr_IK_mk40 h hc
  unfold sr_b0
  rw [sr_nIi (by omega)]
  omega
theorem sr_exb {kp : sr_M} (h : sr_IK kp) (s : Nat) : sr_b0 (sr_ex kp s) 18 := by
  have h3 := sr_IK_r h (j := 3) (by omega) (by omega)
  have h4 := sr_IK_r h (j := 4) (by omega) (by omega)
  have m3 : sr_mo 3 = 9 := rfl
  have m4 : sr_mo 4 = 9 := rfl
  have e0 : (0 : Int32).toInt = 0 := rfl
  unfold sr_b0 sr_ex
  split
  · rw [sr_addI] <;> omega
  · rw [sr_addI] <;> omega
theorem sr_pcI {kp : sr_M} (h : sr_IK kp) {r : Nat} (hr : r < sr_cnt kp) (s : Nat) : (sr_pc kp r s).toInt = (sr_fig kp r 0).toInt + (sr_ex kp s).toInt ∧ 1 ≤ (sr_pc kp r s).toInt ∧ (sr_pc kp r s).toInt ≤ 117 := by
  have h1 := sr_figb hr
  have h2 := sr_exb h s
  unfold sr_b0 at h2
  have h3 : (sr_pc kp r s).toInt = (sr_fig kp r 0).toInt + (sr_ex kp s).toInt := by
    unfold sr_pc
    rw [sr_addI] <;> omega
  omega
theorem sr_waI {kp : sr_M} (h : sr_IK kp) {sl : Int32} (hs : sr_bs sl) : sr_b0 (sr_wa kp sl) 159 := by
  have h2 := sr_IK_r h (j := 2) (by omega) (by omega)
  have m2 : sr_mo 2 = 99 := rfl
  have e0 : (0 : Int32).toInt = 0 := rfl
  unfold sr_bs at hs
  have h3 : (kp 2 2 + sl).toInt = (kp 2 2).toInt + sl.toInt := by rw [sr_addI] <;> omega
  unfold sr_b0 sr_wa
  split <;> rename_i h4
  · omega
  · rw [Int32.lt_iff_toInt_lt] at h4
    omega
/-- the time for some yards, as a number -/
theorem sr_TI {kp : sr_M} (h : sr_IK kp) {r : Nat} (hr : r < sr_cnt kp) (s : Nat) {y : Int32} (hy : sr_b0 y 200) :
    (sr_T kp r s y).toInt = (if y.toInt < 4 * (sr_fig kp r 2).toInt then y.toInt else 4 * (sr_fig kp r 2).toInt) * (sr_fig kp r 1).toInt + (y.toInt - (if y.toInt < 4 * (sr_fig kp r 2).toInt then y.toInt else 4 * (sr_fig kp r 2).toInt)) * (sr_fig kp r 0).toInt + y.toInt * (sr_ex kp s).toInt ∧ 0 ≤ (sr_T kp r s y).toInt ∧ (sr_T kp r s y).toInt ≤ 50000 := by
  obtain ⟨f0, f01, f1, f2, f3, f4⟩ := sr_figb hr
  have hx := sr_exb h s
  unfold sr_b0 at hx hy f2
  have e4 : (4 : Int32).toInt = 4 := rfl
  have q4 : (4 * sr_fig kp r 2).toInt = 4 * (sr_fig kp r 2).toInt := by rw [sr_mulI 4 9, e4] <;> omega
  have hsl : (sr_sl kp r y).toInt = (if y.toInt < 4 * (sr_fig kp r 2).toInt then y.toInt else 4 * (sr_fig kp r 2).toInt) := by
    unfold sr_sl
    split <;> rename_i h9 <;> rw [Int32.lt_iff_toInt_lt, q4] at h9
    · rw [if_pos h9]
    · rw [if_neg h9]
      exact q4
  have hb : 0 ≤ (sr_sl kp r y).toInt ∧ (sr_sl kp r y).toInt ≤ 36 ∧ (sr_sl kp r y).toInt ≤ y.toInt := by
    rw [hsl]
    split <;> omega
  rw [← hsl]
  have p1 : (sr_sl kp r y * sr_fig kp r 1).toInt = (sr_sl kp r y).toInt * (sr_fig kp r 1).toInt := by rw [sr_mulI 36 99] <;> omega
  have p2 : (y - sr_sl kp r y).toInt = y.toInt - (sr_sl kp r y).toInt := by rw [sr_subI] <;> omega
  have p3 : ((y - sr_sl kp r y) * sr_fig kp r 0).toInt = (y.toInt - (sr_sl kp r y).toInt) * (sr_fig kp r 0).toInt := by rw [sr_mulI 200 99, p2] <;> omega
  have p4 : (y * sr_ex kp s).toInt = y.toInt * (sr_ex kp s).toInt := by rw [sr_mulI 200 18] <;> omega
  have b1 := sr_mulb (x := (sr_sl kp r y).toInt) (y := (sr_fig kp r 1).toInt) (A := 36) (B := 99) (by omega) (by omega) (by omega) (by omega)
  have b2 := sr_mulb (x := y.toInt - (sr_sl kp r y).toInt) (y := (sr_fig kp r 0).toInt) (A := 200) (B := 99) (by omega) (by omega) (by omega) (by omega)
  have b3 := sr_mulb (x := y.toInt) (y := (sr_ex kp s).toInt) (A := 200) (B := 18) (by omega) (by omega) (by omega) (by omega)
  have c1 : 0 ≤ (sr_sl kp r y).toInt * (sr_fig kp r 1).toInt := Int.mul_nonneg (by omega) (by omega)
  have c2 : 0 ≤ (y.toInt - (sr_sl kp r y).toInt) * (sr_fig kp r 0).toInt := Int.mul_nonneg (by omega) (by omega)
  have c3 : 0 ≤ y.toInt * (sr_ex kp s).toInt := Int.mul_nonneg (by omega) (by omega)
  have s1 : (sr_sl kp r y * sr_fig kp r 1 + (y - sr_sl kp r y) * sr_fig kp r 0).toInt = (sr_sl kp r y).toInt * (sr_fig kp r 1).toInt + (y.toInt - (sr_sl kp r y).toInt) * (sr_fig kp r 0).toInt := by rw [sr_addI, p1, p3] <;> omega
  have s2 : (sr_T kp r s y).toInt = (sr_sl kp r y).toInt * (sr_fig kp r 1).toInt + (y.toInt - (sr_sl kp r y).toInt) * (sr_fig kp r 0).toInt + y.toInt * (sr_ex kp s).toInt := by
    unfold sr_T
    rw [sr_addI, s1, p4] <;> omega
  omega
/-- at full tilt, each yard takes a pace -/
theorem sr_Tfull {kp : sr_M} (h : sr_IK kp) {r : Nat} (hr : r < sr_cnt kp) (s : Nat) {y z : Int32} (hy : 36 ≤ y.toInt ∧ y.toInt ≤ 200) (hz : 36 ≤ z.toInt ∧ z.toInt ≤ 200) : (sr_T kp r s y).toInt - (sr_T kp r s z).toInt = (y.toInt - z.toInt) * (sr_pc kp r s).toInt := by
  obtain ⟨f0, f01, f1, f2, f3, f4⟩ := sr_figb hr
  unfold sr_b0 at f2
  rw [(sr_TI h hr s (y := y) ⟨by omega, by omega⟩).1, (sr_TI h hr s (y := z) ⟨by omega, by omega⟩).1, (sr_pcI h hr s).1, if_neg (by omega), if_neg (by omega)]
  generalize (sr_fig kp r 0).toInt = a
  generalize (sr_fig kp r 1).toInt = b
  generalize (sr_fig kp r 2).toInt = c
  generalize (sr_ex kp s).toInt = d
  generalize y.toInt = y
  generalize z.toInt = z
  grind
def sr_hr (kp : sr_M) (co go c : Nat) (sl : Int32) (x : Nat) : Int32 := sr_wa kp sl + sr_T kp go (c + 1) (nI x) - (nI x - kp 2 1) * sr_pc kp co c
theorem sr_hrI {kp : sr_M} (h : sr_IK kp) {co go c : Nat} (h1 : co < sr_cnt kp) (h2 : go < sr_cnt kp) {sl : Int32} (hs : sr_bs sl) {x : Nat} (hx : x ≤ 30) : (sr_hr kp co go c sl x).toInt = (sr_wa kp sl).toInt + (sr_T kp go (c + 1) (nI x)).toInt - ((x : Int) - (kp 2 1).toInt) * (sr_pc kp co c).toInt ∧ -4000 ≤ (sr_hr kp co go c sl x).toInt ∧ (sr_hr kp co go c sl x).toInt ≤ 60000 := by
  have w := sr_waI h hs
  have x1 : (nI x).toInt = (x : Int) := sr_nIi (by omega)
  have t := (sr_TI h h2 (c + 1) (y := nI x) ⟨by omega, by omega⟩).2
  have p := sr_pcI h h1 c
  have r1 := sr_IK_r h (j := 1) (by omega) (by omega)
  have m1 : sr_mo 1 = 5 := rfl
  unfold sr_b0 at w
  have a1 : (nI x - kp 2 1).toInt = (x : Int) - (kp 2 1).toInt := by rw [sr_subI] <;> omega
  have a2 : ((nI x - kp 2 1) * sr_pc kp co c).toInt = ((x : Int) - (kp 2 1).toInt) * (sr_pc kp co c).toInt := by rw [sr_mulI 30 117, a1] <;> omega
  have b := sr_mulb (x := (x : Int) - (kp 2 1).toInt) (y := (sr_pc kp co c).toInt) (A := 30) (B := 117) (by omega) (by omega) (by omega) (by omega)
  have a3 : (sr_wa kp sl + sr_T kp go (c + 1) (nI x)).toInt = (sr_wa kp sl).toInt + (sr_T kp go (c + 1) (nI x)).toInt := by rw [sr_addI] <;> omega
  have a4 : (sr_hr kp co go c sl x).toInt = (sr_wa kp sl).toInt + (sr_T kp go (c + 1) (nI x)).toInt - ((x : Int) - (kp 2 1).toInt) * (sr_pc kp co c).toInt := by
    unfold sr_hr
    rw [sr_subI, a3, a2] <;> omega
  omega
/-- where they meet: the class's question is the reference's -/
theorem sr_hd {kp : sr_M} (h : sr_IK kp) {co go c : Nat} (h1 : co < sr_cnt kp) (h2 : go < sr_cnt kp) {mk sl : Int32} (hm : sr_b0 mk 40) (hs : sr_bs sl) {x : Nat} (hx : x ≤ 30) : (mk * sr_pc kp co c ≤ sr_hr kp co go c sl x) ↔ sr_mp kp co go c mk sl x = true := by
  have w := sr_waI h hs
  have x1 : (nI x).toInt = (x : Int) := sr_nIi (by omega)
  have t := (sr_TI h h2 (c + 1) (y := nI x) ⟨by omega, by omega⟩).2
  have p := sr_pcI h h1 c
  have r1 := sr_IK_r h (j := 1) (by omega) (by omega)
  have m1 : sr_mo 1 = 5 := rfl
  have e100 : (100 : Int32).toInt = 100 := rfl
  have hh := sr_hrI h h1 h2 (c := c) hs hx
  unfold sr_b0 at w hm
  have a0 : (100 + nI x).toInt = 100 + (x : Int) := by rw [sr_addI, x1, e100] <;> omega
  have a1 : (100 + nI x - kp 2 1).toInt = 100 + (x : Int) - (kp 2 1).toInt := by rw [sr_subI, a0] <;> omega
  have a2 : (100 - mk).toInt = 100 - mk.toInt := by rw [sr_subI, e100] <;> omega
  have t1 := (sr_TI h h1 c (y := 100 + nI x - kp 2 1) ⟨by omega, by omega⟩).2
  have t2 := (sr_TI h h1 c (y := 100 - mk) ⟨by omega, by omega⟩).2
  have tf := sr_Tfull h h1 c (y := 100 + nI x - kp 2 1) (z := 100 - mk) ⟨by omega, by omega⟩ ⟨by omega, by omega⟩
  have d1 : (sr_Dl kp co c mk sl).toInt = (sr_T kp co c (100 - mk)).toInt + (sr_wa kp sl).toInt := by
    unfold sr_Dl
    rw [sr_addI] <;> omega
  have d2 : (sr_Dl kp co c mk sl + sr_T kp go (c + 1) (nI x)).toInt = (sr_Dl kp co c mk sl).toInt + (sr_T kp go (c + 1) (nI x)).toInt := by rw [sr_addI] <;> omega
  have k1 : (mk * sr_pc kp co c).toInt = mk.toInt * (sr_pc kp co c).toInt := by rw [sr_mulI 40 117] <;> omega
  unfold sr_mp
  rw [decide_eq_true_iff, Int32.le_iff_toInt_le, Int32.le_iff_toInt_le, hh.1, k1, d2, d1]
  rw [a1, a2] at tf
  have e : (100 + (x : Int) - (kp 2 1).toInt - (100 - mk.toInt)) * (sr_pc kp co c).toInt = ((x : Int) - (kp 2 1).toInt) * (sr_pc kp co c).toInt + mk.toInt * (sr_pc kp co c).toInt := by
    rw [← Int.add_mul]
    congr 1
    omega
  rw [e] at tf
  omega

theorem sr_fx_p {p : Nat → Bool} : ∀ (k i : Nat), i + k < 2147483648 → (sr_fx p k i = -1 ∧ ∀ x, i ≤ x → x < i + k → p x = false) ∨ ∃ x, i ≤ x ∧ x < i + k ∧ p x = true ∧ sr_fx p k i = nI x
  | 0, i, _ => Or.inl ⟨rfl, fun x h1 h2 => by omega⟩
  | k + 1, i, hk => by
    unfold sr_fx
    split <;> rename_i h
    · exact Or.inr ⟨i, Nat.le_refl _, by omega, h, rfl⟩
    · rcases sr_fx_p (p := p) k (i + 1) (by omega) with ⟨h1, h2⟩ | ⟨x, h1, h2, h3, h4⟩
      · refine Or.inl ⟨h1, fun x h3 h4 => ?_⟩
        rcases Nat.lt_or_ge i x with q | q
        · exact h2 x q (by omega)
        · rw [show x = i by omega]
          exact Bool.eq_false_iff.mpr h
      · exact Or.inr ⟨x, by omega, by omega, h3, h4⟩
theorem sr_m1 {x : Nat} (h : x < 2147483648) : nI x ≠ -1 := fun q => by
  have h1 := congrArg Int32.toInt q
  rw [sr_nIi h] at h1
  have e : (-1 : Int32).toInt = -1 := rfl
  omega
/-- they meet somewhere -/
theorem sr_mtE {kp : sr_M} (h : sr_IK kp) {co go c : Nat} {mk sl : Int32} : sr_mt kp co go c mk sl ≠ -1 ↔ ∃ x, x ≤ sr_zo kp ∧ sr_mp kp co go c mk sl x = true := by
  have hz := sr_IK_zo5 h
  unfold sr_mt
  rcases sr_fx_p (p := sr_mp kp co go c mk sl) (sr_zo kp + 1) 0 (by omega) with ⟨h1, h2⟩ | ⟨x, h1, h2, h3, h4⟩
  · rw [h1]
    refine ⟨fun q => absurd rfl q, fun ⟨x, h3, h4⟩ => ?_⟩
    rw [h2 x (by omega) (by omega)] at h4
    cases h4
  · rw [h4]
    exact ⟨fun _ => ⟨x, by omega, h3⟩, fun _ => sr_m1 (by omega)⟩
theorem sr_mt0 {kp : sr_M} {co go c : Nat} {mk sl : Int32} : sr_mp kp co go c mk sl 0 = true → sr_mt kp co go c mk sl = 0 := by
  intro h
  unfold sr_mt
  unfold sr_fx
  rw [if_pos h]
  rfl
theorem sr_mt0' {kp : sr_M} (h : sr_IK kp) {co go c : Nat} {mk sl : Int32} : sr_mt kp co go c mk sl = 0 ↔ sr_mp kp co go c mk sl 0 = true := by
  refine ⟨fun q => ?_, sr_mt0⟩
  have hz := sr_IK_zo5 h
  unfold sr_mt at q
  rcases sr_fx_p (p := sr_mp kp co go c mk sl) (sr_zo kp + 1) 0 (by omega) with ⟨h1, h2⟩ | ⟨x, h1, h2, h3, h4⟩
  · rw [h1] at q
    exact absurd q (by decide)
  · rw [h4] at q
    have h5 := congrArg Int32.toInt q
    rw [sr_nIi (by omega)] at h5
    have e : (0 : Int32).toInt = 0 := rfl
    rw [show x = 0 by omega] at h3
    exact h3
/-- where they meet is a number -/
theorem sr_mtN {kp : sr_M} (h : sr_IK kp) {co go c : Nat} {mk sl : Int32} : sr_mt kp co go c mk sl = -1 ∨ ∃ x, x ≤ sr_zo kp ∧ sr_mt kp co go c mk sl = nI x := by
  have hz := sr_IK_zo5 h
  unfold sr_mt
  rcases sr_fx_p (p := sr_mp kp co go c mk sl) (sr_zo kp + 1) 0 (by omega) with ⟨h1, _⟩ | ⟨x, h1, h2, h3, h4⟩
  · exact Or.inl h1
  · exact Or.inr ⟨x, by omega, h4⟩
-- the best mark: the greatest that is not out
def sr_gr (p : Nat → Bool) : Nat → Nat
  | 0 => 0
  | m + 1 => if p (m + 1) = true then m + 1 else sr_gr p m
theorem sr_gr_le (p : Nat → Bool) : ∀ m, sr_gr p m ≤ m
  | 0 => Nat.le_refl _
  | m + 1 => by
    unfold sr_gr
    split
    · exact Nat.le_refl _
    · exact Nat.le_succ_of_le (sr_gr_le p m)
theorem sr_gr_i {p : Nat → Bool} {q : Nat} (hp : ∀ m, m ≤ 40 → (p m = true ↔ m ≤ q)) : ∀ m, m ≤ 40 → sr_gr p m = if q < m then q else m
  | 0, _ => by
    unfold sr_gr
    split <;> omega
  | m + 1, h => by
    unfold sr_gr
    have h1 := hp (m + 1) h
    have h2 := sr_gr_i hp m (by omega)
    split <;> rename_i h3
    · have := h1.mp h3
      rw [if_neg (by omega)]
    · have : ¬ m + 1 ≤ q := fun z => h3 (h1.mpr z)
      rw [h2]
      split <;> split <;> omega
def sr_pm (kp : sr_M) (co go c : Nat) (sl : Int32) (m : Nat) : Bool := decide (sr_mt kp co go c (nI m) sl ≠ -1)
def sr_best (kp : sr_M) (co go c : Nat) (sl : Int32) : Nat := sr_gr (sr_pm kp co go c sl) 40
/-- the greatest headroom of the yards ahead of i -/
def sr_mx (kp : sr_M) (co go c : Nat) (sl : Int32) : Nat → Int32
  | 0 => 0
  | i + 1 => if sr_mx kp co go c sl i < sr_hr kp co go c sl i then sr_hr kp co go c sl i else sr_mx kp co go c sl i
theorem sr_mxI {kp : sr_M} (h : sr_IK kp) {co go c : Nat} (h1 : co < sr_cnt kp) (h2 : go < sr_cnt kp) {sl : Int32} (hs : sr_bs sl) : ∀ i, i ≤ 31 → 0 ≤ (sr_mx kp co go c sl i).toInt ∧ (sr_mx kp co go c sl i).toInt ≤ 60000 ∧ ((sr_mx kp co go c sl i).toInt = 0 ∨ ∃ x, x < i ∧ sr_mx kp co go c sl i = sr_hr kp co go c sl x) ∧ ∀ x, x < i → (sr_hr kp co go c sl x).toInt ≤ (sr_mx kp co go c sl i).toInt
  | 0, _ => by
    have e : (0 : Int32).toInt = 0 := rfl
    unfold sr_mx
    exact ⟨by omega, by omega, Or.inl e, fun x hx => by omega⟩
  | i + 1, hi => by
    obtain ⟨a1, a2, a3, a4⟩ := sr_mxI h h1 h2 (c := c) hs i (by omega)
    have hh := (sr_hrI h h1 h2 (c := c) hs (x := i) (by omega)).2
    unfold sr_mx
    split <;> rename_i h3 <;> rw [Int32.lt_iff_toInt_lt] at h3
    · refine ⟨by omega, by omega, Or.inr ⟨i, by omega, rfl⟩, fun x hx => ?_⟩
      rcases Nat.lt_or_ge x i with q | q
      · have := a4 x q
        omega
      · rw [show x = i by omega]
        exact Int.le_refl _
    · refine ⟨a1, a2, a3.elim Or.inl (fun ⟨x, hx, e⟩ => Or.inr ⟨x, by omega, e⟩), fun x hx => ?_⟩
      rcases Nat.lt_or_ge x i with q | q
      · exact a4 x q
      · rw [show x = i by omega]
        omega
theorem sr_pmI {kp : sr_M} (h : sr_IK kp) {co go c : Nat} (h1 : co < sr_cnt kp) (h2 : go < sr_cnt kp) {sl : Int32} (hs : sr_bs sl) {m : Nat} (hm : m ≤ 40) : sr_pm kp co go c sl m = true ↔ (m : Int) * (sr_pc kp co c).toInt ≤ (sr_mx kp co go c sl (sr_zo kp + 1)).toInt := by
  have hz := sr_IK_zo5 h
  have p := sr_pcI h h1 c
  obtain ⟨a1, a2, a3, a4⟩ := sr_mxI h h1 h2 (c := c) hs (sr_zo kp + 1) (by omega)
  have hmb : sr_b0 (nI m) 40 := by
    unfold sr_b0
    rw [sr_nIi (by omega)]
    omega
  have hmI : (nI m).toInt = (m : Int) := sr_nIi (by omega)
  have k1 : (nI m * sr_pc kp co c).toInt = (m : Int) * (sr_pc kp co c).toInt := by rw [sr_mulI 40 117, hmI] <;> omega
  unfold sr_pm
  rw [decide_eq_true_iff, sr_mtE h]
  constructor
  · rintro ⟨x, hx, hp⟩
    have := (sr_hd h h1 h2 hmb hs (x := x) (by omega)).mpr hp
    rw [Int32.le_iff_toInt_le, k1] at this
    have := a4 x (by omega)
    omega
  · intro hp
    rcases a3 with e | ⟨x, hx, e⟩
    · refine ⟨0, by omega, (sr_hd h h1 h2 hmb hs (x := 0) (by omega)).mp ?_⟩
      rw [Int32.le_iff_toInt_le, k1]
      have hh := sr_hrI h h1 h2 (c := c) hs (x := 0) (by omega)
      have t := (sr_TI h h2 (c + 1) (y := nI 0) ⟨by decide, by decide⟩).2
      have w := sr_waI h hs
      have r1 := sr_IK_r h (j := 1) (by omega) (by omega)
      have m1 : sr_mo 1 = 5 := rfl
      unfold sr_b0 at w
      have b : 0 ≤ (kp 2 1).toInt * (sr_pc kp co c).toInt := Int.mul_nonneg (by omega) (by omega)
      have e2 : ((0 : Nat) : Int) - (kp 2 1).toInt = -(kp 2 1).toInt := by omega
      rw [hh.1, e2, Int.neg_mul]
      omega
    · refine ⟨x, by omega, (sr_hd h h1 h2 hmb hs (x := x) (by omega)).mp ?_⟩
      rw [Int32.le_iff_toInt_le, k1, ← e]
      exact hp
/-- the class's greatest mark -/
theorem sr_far {kp : sr_M} (h : sr_IK kp) {co go c : Nat} (h1 : co < sr_cnt kp) (h2 : go < sr_cnt kp) {sl : Int32} (hs : sr_bs sl) : (if sr_mx kp co go c sl (sr_zo kp + 1) / sr_pc kp co c < 40 then sr_mx kp co go c sl (sr_zo kp + 1) / sr_pc kp co c else 40) = nI (sr_best kp co go c sl) := by
  have hz := sr_IK_zo5 h
  have p := sr_pcI h h1 c
  obtain ⟨a1, a2, a3, a4⟩ := sr_mxI h h1 h2 (c := c) hs (sr_zo kp + 1) (by omega)
  have hq : (sr_mx kp co go c sl (sr_zo kp + 1) / sr_pc kp co c).toInt = (sr_mx kp co go c sl (sr_zo kp + 1)).toInt / (sr_pc kp co c).toInt := by
    rw [Int32.toInt_div, Int.tdiv_eq_ediv_of_nonneg a1]
    have g1 : 0 ≤ (sr_mx kp co go c sl (sr_zo kp + 1)).toInt / (sr_pc kp co c).toInt := Int.ediv_nonneg a1 (by omega)
    have g2 : (sr_mx kp co go c sl (sr_zo kp + 1)).toInt / (sr_pc kp co c).toInt ≤ (sr_mx kp co go c sl (sr_zo kp + 1)).toInt := Int.ediv_le_self _ a1
    exact Int.bmod_eq_of_le (by omega) (by omega)
  generalize hM : (sr_mx kp co go c sl (sr_zo kp + 1)).toInt = M at *
  generalize hpc : (sr_pc kp co c).toInt = pp at *
  have hq0 : 0 ≤ M / pp := Int.ediv_nonneg a1 (by omega)
  have key : ∀ m : Nat, m ≤ 40 → (sr_pm kp co go c sl m = true ↔ m ≤ (M / pp).toNat) := by
    intro m hm
    rw [sr_pmI h h1 h2 hs hm, hM, hpc, ← Int.le_ediv_iff_mul_le (by omega)]
    omega
  have hb := sr_gr_i key 40 (by omega)
  have e40 : (40 : Int32).toInt = 40 := rfl
  unfold sr_best
  refine Int32.toInt_inj.mp ?_
  rw [sr_nIi (by have := sr_gr_le (sr_pm kp co go c sl) 40; omega), hb]
  split <;> rename_i h9 <;> rw [Int32.lt_iff_toInt_lt, hq] at h9
  · rw [hq]
    split <;> omega
  · rw [e40]
    split <;> omega
theorem sr_best40 (kp : sr_M) (co go c : Nat) (sl : Int32) : sr_best kp co go c sl ≤ 40 := sr_gr_le _ _
/-- a mark is not out just where it is no greater than the best -/
theorem sr_bestE {kp : sr_M} (h : sr_IK kp) {co go c : Nat} (h1 : co < sr_cnt kp) (h2 : go < sr_cnt kp) {sl : Int32} (hs : sr_bs sl) {m : Nat} (hm : m ≤ 40) : sr_mt kp co go c (nI m) sl ≠ -1 ↔ m ≤ sr_best kp co go c sl := by
  have hz := sr_IK_zo5 h
  have p := sr_pcI h h1 c
  obtain ⟨a1, a2, a3, a4⟩ := sr_mxI h h1 h2 (c := c) hs (sr_zo kp + 1) (by omega)
  have key : ∀ m : Nat, m ≤ 40 → (sr_pm kp co go c sl m = true ↔ m ≤ ((sr_mx kp co go c sl (sr_zo kp + 1)).toInt / (sr_pc kp co c).toInt).toNat) := by
    intro m hm
    rw [sr_pmI h h1 h2 hs hm, ← Int.le_ediv_iff_mul_le (by omega)]
    have hq0 : 0 ≤ (sr_mx kp co go c sl (sr_zo kp + 1)).toInt / (sr_pc kp co c).toInt := Int.ediv_nonneg a1 (by omega)
    omega
  have hb := sr_gr_i key 40 (by omega)
  have k := key m hm
  unfold sr_pm at k
  rw [decide_eq_true_iff] at k
  rw [k]
  unfold sr_best
  unfold sr_pm at hb ⊢
  rw [hb]
  split <;> omega
theorem sr_maxwa (kp : sr_M) (sl : Int32) : (if 0 < kp 2 2 + sl then kp 2 2 + sl else 0) = sr_wa kp sl := by
  unfold sr_wa
  have e0 : (0 : Int32).toInt = 0 := rfl
  by_cases h1 : 0 < kp 2 2 + sl <;> by_cases h2 : kp 2 2 + sl < 0
  · rw [Int32.lt_iff_toInt_lt] at h1 h2
    omega
  · rw [if_pos h1, if_neg h2]
  · rw [if_neg h1, if_pos h2]
  · rw [if_neg h1, if_neg h2]
    rw [Int32.lt_iff_toInt_lt] at h1 h2
    exact Int32.toInt_inj.mp (by omega)
def sr_leg (kp : sr_M) (co go c : Nat) (mk sl : Int32) : Int32 := if sr_mt kp co go c mk sl = -1 then -1 else sr_Dl kp co c mk sl + (if sr_mt kp co go c mk sl = 0 then kp 2 5 else 0)
def sr_kd (kp : sr_M) (m : Int32) : Int32 := if m = -1 then 3 else if m = 0 then 2 else if m < nI (sr_zo kp) - 2 then 0 else 1
theorem sr_pc1 {kp : sr_M} (h : sr_IK kp) {r : Nat} (hr : r < sr_cnt kp) (s : Nat) : (1 : Int32) ≤ sr_pc kp r s := by
  have := (sr_pcI h hr s).2.1
  rw [Int32.le_iff_toInt_le]
  exact this
theorem sr_pcz {kp : sr_M} (h : sr_IK kp) {r : Nat} (hr : r < sr_cnt kp) (s : Nat) : ¬ sr_pc kp r s = 0 := fun q => by
  have h1 := (sr_pcI h hr s).2.1
  rw [q] at h1
  exact absurd h1 (by decide)
theorem sr_b0n {m : Nat} (h : m ≤ 40) : sr_b0 (nI m) 40 := by
  unfold sr_b0
  rw [sr_nIi (by omega)]
  omega
theorem sr_bs0 : sr_bs 0 := by unfold sr_bs; decide
theorem sr_bsp {kp : sr_M} (h : sr_IK kp) {i : Nat} (hi : i < 5) : sr_bs ((nI i - 2) * kp 2 6) := by
  have r := sr_IK_r h (j := 6) (by omega) (by omega)
  have m6 : sr_mo 6 = 30 := rfl
  have e2 : (2 : Int32).toInt = 2 := rfl
  have a1 : (nI i - 2).toInt = (i : Int) - 2 := by rw [sr_subI, sr_nIi (by omega), e2] <;> rw [sr_nIi (by omega)] <;> omega
  have b := sr_mulb (x := (i : Int) - 2) (y := (kp 2 6).toInt) (A := 2) (B := 30) (by omega) (by omega) (by omega) (by omega)
  unfold sr_bs
  rw [sr_mulI 2 30, a1] <;> omega
