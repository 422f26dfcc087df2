/-! THE REFERENCE: its own memory; cx: 0 forms, 1 sizes, 2 items; sg: 1 [at, runners, now], 2 figures -/
theorem sr_cmpL (a b : Int32) : a.toInt64 < b.toInt64 ↔ a < b := by
  rw [Int64.lt_iff_toInt_lt, Int32.lt_iff_toInt_lt, Int32.toInt_toInt64, Int32.toInt_toInt64]
theorem sr_in64 (x lo hi : Int32) : (¬ x.toInt64 < lo.toInt64 ∧ ¬ hi.toInt64 < x.toInt64) ↔ ¬ (x < lo ∨ hi < x) := by
  rw [sr_cmpL, sr_cmpL, not_or]
theorem sr_ifc {A B : Prop} [Decidable A] [Decidable B] (h : A ↔ B) : (if A then (1 : Int32) else 0) = if B then 1 else 0 := by
  by_cases a : A
  · rw [if_pos a, if_pos (h.mp a)]
  · rw [if_neg a, if_neg (fun b => a (h.mpr b))]
def sr_SM (cx : sr_M) : Prop := ∀ s, s < 4 → (0 ≤ (cx 1 s).toInt ∧ (cx 1 s).toInt ≤ 60)
def sr_IM (kp cx : sr_M) : Prop := sr_IK kp ∧ sr_SM cx
theorem sr_IM_K {kp cx : sr_M} (h : sr_IM kp cx) : sr_IK kp := h.1
/-- the runners have been read -/
def sr_RD (kp sg : sr_M) : Prop := sg 1 1 = nI (sr_cnt kp) ∧ ∀ r, r < sr_cnt kp → ∀ j, j < 4 → sg 2 (4 * r + j) = sr_fig kp r j
/-- a byte here, if any -/
def sr_he (kp : sr_M) (p : Nat) : Int32 := if sr_n kp ≤ p then -1 else kp 0 p
theorem sr_he_y {kp : sr_M} (hI : sr_IK kp) {p : Nat} {lo hi : Int32} (h0 : 0 ≤ lo.toInt) (h9 : hi.toInt ≤ 9) (h : ¬ (sr_he kp p - 48 < lo ∨ hi < sr_he kp p - 48)) : p < sr_n kp ∧ sr_he kp p = kp 0 p ∧ 48 + lo.toInt ≤ (kp 0 p).toInt ∧ (kp 0 p).toInt ≤ 48 + hi.toInt := by
  rw [not_or, Int32.lt_iff_toInt_lt, Int32.lt_iff_toInt_lt] at h
  have e48 : (48 : Int32).toInt = 48 := rfl
  have em : (-1 : Int32).toInt = -1 := rfl
  unfold sr_he at h ⊢
  split at h <;> rename_i q
  · rw [sr_subI (by omega) (by omega)] at h
    omega
  · have b := hI.2.2.2.2.2.2 p (by omega)
    rw [sr_subI (by omega) (by omega)] at h
    rw [if_neg q]
    exact ⟨by omega, rfl, by omega, by omega⟩
theorem sr_he_n {kp : sr_M} (hI : sr_IK kp) {p : Nat} {lo hi : Int32} (h0 : 0 ≤ lo.toInt) (h9 : hi.toInt ≤ 9) (h : sr_he kp p - 48 < lo ∨ hi < sr_he kp p - 48) : sr_n kp ≤ p ∨ (kp 0 p).toInt < 48 + lo.toInt ∨ 48 + hi.toInt < (kp 0 p).toInt := by
  rw [Int32.lt_iff_toInt_lt, Int32.lt_iff_toInt_lt] at h
  have e48 : (48 : Int32).toInt = 48 := rfl
  unfold sr_he at h
  split at h <;> rename_i q
  · exact Or.inl q
  · have b := hI.2.2.2.2.2.2 p (by omega)
    rw [sr_subI (by omega) (by omega)] at h
    omega
/-- the places of one who is told from 7 R on -/
theorem sr_go_d {t : Nat → Int32} {R k : Nat} (hR : R < 5) (hk : k < 6) : sr_go t (7 * R + k) = true ↔ (48 ≤ (t (7 * R + k)).toInt ∧ (t (7 * R + k)).toInt ≤ 57) ∧ (k = 1 → 0 < sr_two t (7 * R + k - 1)) ∧ (k = 3 → sr_two t (7 * R + k - 3) ≤ sr_two t (7 * R + k - 1)) ∧ (k = 5 → 48 < (t (7 * R + k)).toInt ∧ (t (7 * R + k)).toInt ≤ 51) := by
  have e48 : (48 : Int32).toInt = 48 := rfl
  have e57 : (57 : Int32).toInt = 57 := rfl
  have e51 : (51 : Int32).toInt = 51 := rfl
  unfold sr_go
  rw [if_neg (by omega), if_neg (by omega)]
  have m : (7 * R + k) % 7 = k := by omega
  rw [m]
  by_cases q : t (7 * R + k) < 48 ∨ 57 < t (7 * R + k)
  · rw [if_pos q]
    rw [Int32.lt_iff_toInt_lt, Int32.lt_iff_toInt_lt] at q
    exact ⟨fun z => absurd z (by decide), fun z => absurd z.1 (by omega)⟩
  · rw [if_neg q]
    rw [not_or, Int32.lt_iff_toInt_lt, Int32.lt_iff_toInt_lt] at q
    rcases (show k = 0 ∨ k = 1 ∨ k = 2 ∨ k = 3 ∨ k = 4 ∨ k = 5 by omega) with rfl | rfl | rfl | rfl | rfl | rfl
    · exact ⟨fun _ => ⟨by omega, fun z => absurd z (by decide), fun z => absurd z (by decide), fun z => absurd z (by decide)⟩, fun _ => rfl⟩
    · rw [if_pos rfl, decide_eq_true_iff]
      exact ⟨fun z => ⟨by omega, fun _ => z, fun z => absurd z (by decide), fun z => absurd z (by decide)⟩, fun z => z.2.1 rfl⟩
    · exact ⟨fun _ => ⟨by omega, fun z => absurd z (by decide), fun z => absurd z (by decide), fun z => absurd z (by decide)⟩, fun _ => rfl⟩
    · rw [if_neg (by decide), if_pos rfl, decide_eq_true_iff]
      exact ⟨fun z => ⟨by omega, fun z => absurd z (by decide), fun _ => z, fun z => absurd z (by decide)⟩, fun z => z.2.2.1 rfl⟩
    · exact ⟨fun _ => ⟨by omega, fun z => absurd z (by decide), fun z => absurd z (by decide), fun z => absurd z (by decide)⟩, fun _ => rfl⟩
    · rw [if_neg (by decide), if_neg (by decide), if_pos rfl, decide_eq_true_iff, Int32.lt_iff_toInt_lt, Int32.le_iff_toInt_le]
      exact ⟨fun z => ⟨by omega, fun z => absurd z (by decide), fun z => absurd z (by decide), fun _ => by omega⟩, fun z => by have := z.2.2.2 rfl; omega⟩
theorem sr_two_e (t : Nat → Int32) (p : Nat) : 10 * (0 + (t p - 48)) + (t (p + 1) - 48) = sr_two t p := by
  unfold sr_two
  grind
theorem sr_les (x y : Int32) : (if y ≤ x then y else x) = if x < y then x else y := by
  by_cases h : x < y
  · rw [if_pos h, if_neg (Int32.not_le.mpr h)]
  · rw [if_neg h, if_pos (Int32.not_lt.mp h)]
def sr_Rp (kp sg : sr_M) (R : Nat) (u : sr_M × Bool) : Prop :=
  (u.2 = true → R < 5 ∧ (∀ j, j < 6 → 7 * R + j < sr_n kp ∧ sr_go (kp 0) (7 * R + j) = true) ∧ u.1 1 0 = nI (7 * R + 6) ∧ u.1 1 1 = nI (R + 1) ∧ (∀ j, j < 4 → u.1 2 (4 * R + j) = sr_fig kp R j) ∧ ∀ i, i < 4 * R → u.1 2 i = sg 2 i) ∧
  (u.2 = false → ∃ k, k < 6 ∧ (∀ j, j < k → 7 * R + j < sr_n kp ∧ sr_go (kp 0) (7 * R + j) = true) ∧ (sr_n kp ≤ 7 * R + k ∨ sr_go (kp 0) (7 * R + k) = false) ∧ u.1 1 0 = nI (7 * R + k))
theorem sr_go_x {kp : sr_M} {R k : Nat} (hR : R < 5) (hk : k < 6) (h : sr_n kp ≤ 7 * R + k ∨ (kp 0 (7 * R + k)).toInt < 48 ∨ 57 < (kp 0 (7 * R + k)).toInt ∨ (k = 5 ∧ ((kp 0 (7 * R + k)).toInt ≤ 48 ∨ 51 < (kp 0 (7 * R + k)).toInt))) : sr_n kp ≤ 7 * R + k ∨ sr_go (kp 0) (7 * R + k) = false := by
  rcases h with h | h
  · exact Or.inl h
  · refine Or.inr (Bool.eq_false_iff.mpr (fun q => ?_))
    have := (sr_go_d hR hk).mp q
    rcases h with h | h | ⟨rfl, h⟩
    · omega
    · omega
    · have := this.2.2.2 rfl
      omega
theorem sr_Rp_f {kp sg : sr_M} {R : Nat} {u : sr_M} (k : Nat) (hk : k < 6) (h1 : ∀ j, j < k → 7 * R + j < sr_n kp ∧ sr_go (kp 0) (7 * R + j) = true) (h2 : sr_n kp ≤ 7 * R + k ∨ sr_go (kp 0) (7 * R + k) = false) (h3 : u 1 0 = nI (7 * R + k)) : sr_Rp kp sg R (u, false) := ⟨fun q => absurd q Bool.false_ne_true, fun _ => ⟨k, hk, h1, h2, h3⟩⟩
theorem sr_two_i {kp : sr_M} {p : Nat} (h1 : 48 ≤ (kp 0 p).toInt ∧ (kp 0 p).toInt ≤ 57) (h2 : 48 ≤ (kp 0 (p + 1)).toInt ∧ (kp 0 (p + 1)).toInt ≤ 57) : 0 ≤ (sr_two (kp 0) p).toInt := by
  rw [sr_twoI h1 h2]
  omega
theorem sr_pos2 {x : Int32} (h : 0 ≤ x.toInt) (h2 : ¬ x = 0) : 0 < x := by
  rw [Int32.lt_iff_toInt_lt]
  have e0 : (0 : Int32).toInt = 0 := rfl
  have : x.toInt ≠ 0 := fun q => h2 (Int32.toInt_inj.mp (by rw [q, e0]))
  omega
theorem sr_u6 (f : Nat → Int32) (b : Nat) (x0 x1 x2 x3 x4 x5 : Int32) : upd (upd (upd (upd (upd (upd f (b + 0) x0) (b + 0) x1) (b + 1) x2) (b + 1) x3) (b + 2) x4) (b + 3) x5 (b + 0) = x1 ∧ upd (upd (upd (upd (upd (upd f (b + 0) x0) (b + 0) x1) (b + 1) x2) (b + 1) x3) (b + 2) x4) (b + 3) x5 (b + 1) = x3 ∧ upd (upd (upd (upd (upd (upd f (b + 0) x0) (b + 0) x1) (b + 1) x2) (b + 1) x3) (b + 2) x4) (b + 3) x5 (b + 2) = x4 ∧ upd (upd (upd (upd (upd (upd f (b + 0) x0) (b + 0) x1) (b + 1) x2) (b + 1) x3) (b + 2) x4) (b + 3) x5 (b + 3) = x5 ∧ ∀ i, i < b → upd (upd (upd (upd (upd (upd f (b + 0) x0) (b + 0) x1) (b + 1) x2) (b + 1) x3) (b + 2) x4) (b + 3) x5 i = f i := by
  refine ⟨?_, ?_, ?_, ?_, fun i hi => ?_⟩
  · rw [pk_un (by omega), pk_un (by omega), pk_un (by omega), pk_un (by omega), pk_us]
  · rw [pk_un (by omega), pk_un (by omega), pk_us]
  · rw [pk_un (by omega), pk_us]
  · rw [pk_us]
  · rw [pk_un (by omega), pk_un (by omega), pk_un (by omega), pk_un (by omega), pk_un (by omega), pk_un (by omega)]
theorem sr_pl_bad {kp : sr_M} {a : Nat} (hg : ∀ p, p < a → sr_go (kp 0) p = true) (ha : a ≤ sr_n kp) (hb : sr_n kp ≤ a ∨ sr_go (kp 0) a = false) : sr_pl kp = a := by
  unfold sr_pl
  rw [sr_run_at (kp 0) (sr_n kp) 0 a ha (fun q _ h => hg q (by omega)), Nat.zero_add]
  rcases Nat.lt_or_ge a (sr_n kp) with q | q
  · rw [show sr_n kp - a = (sr_n kp - a - 1) + 1 by omega]
    exact if_neg (fun z => by rcases hb with h | h; omega; rw [h] at z; exact absurd z (by decide))
  · rw [show sr_n kp - a = 0 by omega]
    rfl
theorem sr_rd_bad {kp : sr_M} {a : Nat} (hg : ∀ p, p < a → sr_go (kp 0) p = true) (ha : a ≤ sr_n kp) (hb : sr_n kp ≤ a ∨ sr_go (kp 0) a = false) (h0 : 0 < sr_n kp) (h6 : a < sr_n kp ∨ a % 7 ≠ 6) : sr_flt kp = nI a ∧ sr_cnt kp = 0 := by
  have e := sr_pl_bad hg ha hb
  have w : ¬ sr_well kp := by
    unfold sr_well
    omega
  unfold sr_flt sr_cnt
  rw [if_neg w, if_neg w, e]
  exact ⟨rfl, rfl⟩
theorem sr_rd_ok {kp : sr_M} {R : Nat} (hg : ∀ p, p < sr_n kp → sr_go (kp 0) p = true) (h : (sr_n kp = 0 ∧ R = 0) ∨ sr_n kp + 1 = 7 * R) : sr_flt kp = -1 ∧ sr_cnt kp = R := by
  have e := sr_pl_bad hg (Nat.le_refl _) (Or.inl (Nat.le_refl _))
  have w : sr_well kp := by
    unfold sr_well
    omega
  unfold sr_flt sr_cnt
  rw [if_pos w, if_pos w]
  exact ⟨rfl, by omega⟩
theorem sr_go_s {t : Nat → Int32} {R : Nat} (hR : R < 5) : sr_go t (7 * R + 6) = decide (t (7 * R + 6) = 59) := by
  unfold sr_go
  rw [if_neg (by omega), if_pos (by omega)]
theorem sr_mb0 {x n : Nat} (h : n ≤ 40) (hx : x ≤ 41) : (if ¬ nI n ≤ nI x then (1 : Int32) else 0) = if decide (x < n) = true then 1 else 0 := by
  refine sr_ifc ?_
  rw [decide_eq_true_iff, nI_leI (by omega) (by omega)]
  omega
