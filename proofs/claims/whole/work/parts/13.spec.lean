/-! WHAT THE SIDES SAY: numbers out of kp alone -/
def sr_n (kp : sr_M) : Nat := (kp 5 0).toNatClampNeg
def sr_ru (kp : sr_M) (s : Nat) : Nat := (kp 1 s).toNatClampNeg
def sr_zo (kp : sr_M) : Nat := (kp 2 0).toNatClampNeg
def sr_mk (kp : sr_M) (c : Nat) : Nat := (kp 3 c).toNatClampNeg
def sr_mo (j : Nat) : Int := if j = 1 then 5 else if j = 3 ∨ j = 4 then 9 else if j = 6 then 30 else 99
def sr_IK (kp : sr_M) : Prop :=
  (kp 5 0 = nI (sr_n kp) ∧ sr_n kp ≤ 40) ∧ (∀ s, s < 4 → kp 1 s = nI (sr_ru kp s) ∧ sr_ru kp s < 5) ∧ (kp 2 0 = nI (sr_zo kp) ∧ 5 ≤ sr_zo kp ∧ sr_zo kp ≤ 30) ∧
  (∀ j, 1 ≤ j → j < 7 → 0 ≤ (kp 2 j).toInt ∧ (kp 2 j).toInt ≤ sr_mo j) ∧ (∀ c, c < 3 → kp 3 c = nI (sr_mk kp c) ∧ sr_mk kp c ≤ 40) ∧ (∀ c, c < 3 → -60 ≤ (kp 4 c).toInt ∧ (kp 4 c).toInt ≤ 60) ∧ (∀ i, i < sr_n kp → 0 ≤ (kp 0 i).toInt ∧ (kp 0 i).toInt ≤ 255)
theorem sr_IK_n {kp : sr_M} (h : sr_IK kp) : kp 5 0 = nI (sr_n kp) := h.1.1
theorem sr_IK_n40 {kp : sr_M} (h : sr_IK kp) : sr_n kp ≤ 40 := h.1.2
theorem sr_IK_ru {kp : sr_M} (h : sr_IK kp) {s : Nat} (hs : s < 4) : kp 1 s = nI (sr_ru kp s) := (h.2.1 s hs).1
theorem sr_IK_ru5 {kp : sr_M} (h : sr_IK kp) {s : Nat} (hs : s < 4) : sr_ru kp s < 5 := (h.2.1 s hs).2
theorem sr_IK_zo {kp : sr_M} (h : sr_IK kp) : kp 2 0 = nI (sr_zo kp) := h.2.2.1.1
theorem sr_IK_zo5 {kp : sr_M} (h : sr_IK kp) : 5 ≤ sr_zo kp ∧ sr_zo kp ≤ 30 := h.2.2.1.2
theorem sr_IK_mk {kp : sr_M} (h : sr_IK kp) {c : Nat} (hc : c < 3) : kp 3 c = nI (sr_mk kp c) := (h.2.2.2.2.1 c hc).1
theorem sr_IK_mk40 {kp : sr_M} (h : sr_IK kp) {c : Nat} (hc : c < 3) : sr_mk kp c ≤ 40 := (h.2.2.2.2.1 c hc).2
-- the text
def sr_two (t : Nat → Int32) (p : Nat) : Int32 := 10 * (t p - 48) + t (p + 1) - 48
def sr_fig (kp : sr_M) (r j : Nat) : Int32 := if j = 0 then sr_two (kp 0) (7 * r) else if j = 1 then sr_two (kp 0) (7 * r + 2) else if j = 2 then kp 0 (7 * r + 4) - 48 else kp 0 (7 * r + 5) - 48
def sr_go (t : Nat → Int32) (p : Nat) : Bool :=
  if 5 ≤ p / 7 then false else if p % 7 = 6 then decide (t p = 59) else if t p < 48 ∨ 57 < t p then false else if p % 7 = 1 then decide (0 < sr_two t (p - 1)) else if p % 7 = 3 then decide (sr_two t (p - 3) ≤ sr_two t (p - 1)) else if p % 7 = 5 then decide (48 < t p ∧ t p ≤ 51) else true
def sr_run (t : Nat → Int32) : Nat → Nat → Nat
  | p, 0 => p
  | p, k + 1 => if sr_go t p = true then sr_run t (p + 1) k else p
def sr_pl (kp : sr_M) : Nat := sr_run (kp 0) 0 (sr_n kp)
abbrev sr_well (kp : sr_M) : Prop := sr_pl kp = sr_n kp ∧ (sr_n kp = 0 ∨ sr_n kp % 7 = 6)
def sr_cnt (kp : sr_M) : Nat := if sr_well kp then (sr_n kp + 1) / 7 else 0
def sr_flt (kp : sr_M) : Int32 := if sr_well kp then -1 else nI (sr_pl kp)
theorem sr_go35 {t : Nat → Int32} {p : Nat} (h : sr_go t p = true) : p < 35 := by
  unfold sr_go at h
  rcases Nat.lt_or_ge p 35 with q | q
  · exact q
  · rw [if_pos (by omega)] at h
    cases h
theorem sr_run_le (t : Nat → Int32) : ∀ (k p : Nat), p ≤ sr_run t p k ∧ sr_run t p k ≤ p + k
  | 0, p => ⟨Nat.le_refl _, Nat.le_refl _⟩
  | k + 1, p => by
    unfold sr_run
    split
    · obtain ⟨h1, h2⟩ := sr_run_le t k (p + 1)
      omega
    · omega
theorem sr_run_go (t : Nat → Int32) : ∀ (k p q : Nat), p ≤ q → q < sr_run t p k → sr_go t q = true
  | 0, p, q, h1, h2 => by unfold sr_run at h2; omega
  | k + 1, p, q, h1, h2 => by
    unfold sr_run at h2
    split at h2
    · rename_i h3
      rcases Nat.lt_or_ge p q with h4 | h4
      · exact sr_run_go t k (p + 1) q h4 h2
      · rw [show q = p by omega]
        exact h3
    · omega
theorem sr_run_no (t : Nat → Int32) : ∀ (k p : Nat), sr_run t p k < p + k → sr_go t (sr_run t p k) = false
  | 0, p, h => by unfold sr_run at h; omega
  | k + 1, p, h => by
    unfold sr_run at h ⊢
    split at h
    · rename_i h3
      rw [if_pos h3]
      exact sr_run_no t k (p + 1) (by omega)
    · rename_i h3
      rw [if_neg h3]
      exact Bool.eq_false_iff.mpr h3
/-- the run, met again at a later place -/
theorem sr_run_at (t : Nat → Int32) : ∀ (k p j : Nat), j ≤ k → (∀ q, p ≤ q → q < p + j → sr_go t q = true) → sr_run t p k = sr_run t (p + j) (k - j)
  | k, p, 0, _, _ => rfl
  | 0, p, j + 1, h, _ => by omega
  | k + 1, p, j + 1, h, hq => by
    have h1 : sr_run t p (k + 1) = sr_run t (p + 1) k := by
      show (if sr_go t p = true then sr_run t (p + 1) k else p) = _
      rw [if_pos (hq p (Nat.le_refl _) (by omega))]
    rw [h1, sr_run_at t k (p + 1) j (by omega) (fun q a b => hq q (by omega) (by omega)), show p + 1 + j = p + (j + 1) by omega, show k + 1 - (j + 1) = k - j by omega]
theorem sr_cnt5 (kp : sr_M) : sr_cnt kp ≤ 5 := by
  unfold sr_cnt
  split
  · rename_i h
    rcases Nat.lt_or_ge (sr_n kp) 35 with q | q
    · omega
    · have h1 := sr_go35 (sr_run_go (kp 0) (sr_n kp) 0 (sr_n kp - 1) (by omega) (by have := h.1; unfold sr_pl at this; omega))
      omega
  · omega
theorem sr_cnt7 {kp : sr_M} {r : Nat} (h : r < sr_cnt kp) : 7 * r + 6 ≤ sr_n kp ∧ sr_pl kp = sr_n kp := by
  unfold sr_cnt at h
  split at h
  · rename_i h1
    exact ⟨by omega, h1.1⟩
  · omega
abbrev sr_th (kp : sr_M) : Prop := sr_ru kp 0 < sr_cnt kp ∧ sr_ru kp 1 < sr_cnt kp ∧ sr_ru kp 2 < sr_cnt kp ∧ sr_ru kp 3 < sr_cnt kp
theorem sr_th_at {kp : sr_M} (h : sr_th kp) {s : Nat} (hs : s < 4) : sr_ru kp s < sr_cnt kp := by
  rcases (show s = 0 ∨ s = 1 ∨ s = 2 ∨ s = 3 by omega) with rfl | rfl | rfl | rfl
  · exact h.1
  · exact h.2.1
  · exact h.2.2.1
  · exact h.2.2.2
-- times
def sr_ex (kp : sr_M) (s : Nat) : Int32 := kp 2 3 + (if s % 2 = 0 then kp 2 4 else 0)
def sr_sl (kp : sr_M) (r : Nat) (y : Int32) : Int32 := if y < 4 * sr_fig kp r 2 then y else 4 * sr_fig kp r 2
def sr_T (kp : sr_M) (r s : Nat) (y : Int32) : Int32 := sr_sl kp r y * sr_fig kp r 1 + (y - sr_sl kp r y) * sr_fig kp r 0 + y * sr_ex kp s
def sr_wa (kp : sr_M) (sl : Int32) : Int32 := if kp 2 2 + sl < 0 then 0 else kp 2 2 + sl
def sr_Dl (kp : sr_M) (r s : Nat) (mk sl : Int32) : Int32 := sr_T kp r s (100 - mk) + sr_wa kp sl
def sr_fx (p : Nat → Bool) : Nat → Nat → Int32
  | 0, _ => -1
  | k + 1, i => if p i = true then nI i else sr_fx p k (i + 1)
def sr_mp (kp : sr_M) (co go c : Nat) (mk sl : Int32) (x : Nat) : Bool := decide (sr_T kp co c (100 + nI x - kp 2 1) ≤ sr_Dl kp co c mk sl + sr_T kp go (c + 1) (nI x))
def sr_mt (kp : sr_M) (co go c : Nat) (mk sl : Int32) : Int32 := sr_fx (sr_mp kp co go c mk sl) (sr_zo kp + 1) 0
theorem sr_fx_s {p : Nat → Bool} {k i : Nat} (h : i ≤ k) : sr_fx p (k + 1 - i) i = if p i = true then nI i else sr_fx p (k + 1 - (i + 1)) (i + 1) := by
  rw [show k + 1 - i = (k - i) + 1 by omega, show k + 1 - (i + 1) = k - i by omega]
  rfl
theorem sr_fx_c {p q : Nat → Bool} : ∀ (k i : Nat), (∀ j, i ≤ j → j < i + k → p j = q j) → sr_fx p k i = sr_fx q k i
  | 0, _, _ => rfl
  | k + 1, i, h => by
    unfold sr_fx
    rw [h i (Nat.le_refl _) (by omega), sr_fx_c k (i + 1) (fun j a b => h j (by omega) (by omega))]
-- the class: its own memory against kp
def sr_IC (kp cx : sr_M) : Prop := sr_IK kp ∧ cx 4 0 = sr_flt kp ∧ cx 4 1 = nI (sr_cnt kp) ∧ (∀ r, r < sr_cnt kp → cx 0 r = sr_fig kp r 0 ∧ cx 1 r = sr_fig kp r 1 ∧ cx 2 r = sr_fig kp r 2 ∧ cx 3 r = sr_fig kp r 3) ∧ (∀ s, s < 4 → cx 5 s = sr_ex kp s)
theorem sr_IC_K {kp cx : sr_M} (h : sr_IC kp cx) : sr_IK kp := h.1
theorem sr_IC_0 {kp cx : sr_M} (h : sr_IC kp cx) : cx 4 0 = sr_flt kp := h.2.1
theorem sr_IC_1 {kp cx : sr_M} (h : sr_IC kp cx) : cx 4 1 = nI (sr_cnt kp) := h.2.2.1
theorem sr_IC_f0 {kp cx : sr_M} (h : sr_IC kp cx) {r : Nat} (hr : r < sr_cnt kp) : cx 0 r = sr_fig kp r 0 := (h.2.2.2.1 r hr).1
theorem sr_IC_f1 {kp cx : sr_M} (h : sr_IC kp cx) {r : Nat} (hr : r < sr_cnt kp) : cx 1 r = sr_fig kp r 1 := (h.2.2.2.1 r hr).2.1
theorem sr_IC_f2 {kp cx : sr_M} (h : sr_IC kp cx) {r : Nat} (hr : r < sr_cnt kp) : cx 2 r = sr_fig kp r 2 := (h.2.2.2.1 r hr).2.2.1
theorem sr_IC_f3 {kp cx : sr_M} (h : sr_IC kp cx) {r : Nat} (hr : r < sr_cnt kp) : cx 3 r = sr_fig kp r 3 := (h.2.2.2.1 r hr).2.2.2
theorem sr_IC_ex {kp cx : sr_M} (h : sr_IC kp cx) {s : Nat} (hs : s < 4) : cx 5 s = sr_ex kp s := h.2.2.2.2 s hs
def sr_pc (kp : sr_M) (r s : Nat) : Int32 := sr_fig kp r 0 + sr_ex kp s
theorem sr_spanT (kp : sr_M) (r s : Nat) (y : Int32) : y * sr_ex kp s + (if 4 * sr_fig kp r 2 ≤ y then 4 * sr_fig kp r 2 else y) * sr_fig kp r 1 + (y - (if 4 * sr_fig kp r 2 ≤ y then 4 * sr_fig kp r 2 else y)) * sr_fig kp r 0 = sr_T kp r s y := by
  have h : (if 4 * sr_fig kp r 2 ≤ y then 4 * sr_fig kp r 2 else y) = sr_sl kp r y := by
    unfold sr_sl
    split <;> rename_i h1 <;> split <;> rename_i h2
    · exact absurd h2 (Int32.not_lt.mpr h1)
    · rfl
    · rfl
    · exact absurd (Int32.not_lt.mp h2) h1
  rw [h]
  unfold sr_T
  grind
