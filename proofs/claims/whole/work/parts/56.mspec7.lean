/-! THE SHEETS OF THE REFERENCE, told by those of the class: X the class's memory, c the reference's -/
def sr_R1 (X c : sr_M) (s : Nat) : Prop := (X 11 s = -1 ∧ c 0 s = -1) ∨ (¬ X 11 s = -1 ∧ ¬ c 0 s < 0 ∧ c 0 s = X 10 s ∧ c 1 s = X 11 s ∧ ∀ j, j < sr_sz X s → c 2 (60 * s + j) = X (6 + s) j)
def sr_RX (X c : sr_M) : Prop := ∀ s, s < 4 → sr_R1 X c s
theorem sr_R1l {X c : sr_M} {s : Nat} (h : sr_R1 X c s) (q : c 0 s < 0) : X 11 s = -1 := by
  rcases h with h | h
  · exact h.1
  · exact absurd q h.2.1
theorem sr_R1n {X c : sr_M} {s : Nat} (h : sr_R1 X c s) (q : ¬ c 0 s < 0) : ¬ X 11 s = -1 ∧ c 0 s = X 10 s ∧ c 1 s = X 11 s ∧ ∀ j, j < sr_sz X s → c 2 (60 * s + j) = X (6 + s) j := by
  rcases h with h | h
  · exact absurd (by rw [h.2]; decide) q
  · exact ⟨h.1, h.2.2⟩
/-- one sheet alone is changed -/
theorem sr_RXo {X c X2 c2 : sr_M} (h : sr_RX X c) {s : Nat} (hX : ∀ t, t < 4 → t ≠ s → X2 11 t = X 11 t ∧ X2 10 t = X 10 t ∧ X2 (6 + t) = X (6 + t)) (hc : ∀ t, t < 4 → t ≠ s → c2 0 t = c 0 t ∧ c2 1 t = c 1 t ∧ ∀ j, j < 60 → c2 2 (60 * t + j) = c 2 (60 * t + j)) (hz : ∀ t, t < 4 → sr_sz X t ≤ 60) (hs : sr_R1 X2 c2 s) : sr_RX X2 c2 := by
  intro t ht
  by_cases e : t = s
  · rw [e]
    exact hs
  · obtain ⟨a1, a2, a3⟩ := hX t ht e
    obtain ⟨b1, b2, b3⟩ := hc t ht e
    have hz2 : sr_sz X2 t = sr_sz X t := by unfold sr_sz; rw [a1]
    have hzt := hz t ht
    unfold sr_R1
    rw [a1, a2, a3, b1, b2, hz2]
    rcases h t ht with q | q
    · exact Or.inl q
    · exact Or.inr ⟨q.1, q.2.1, q.2.2.1, q.2.2.2.1, fun j hj => by rw [b3 j (by omega)]; exact q.2.2.2.2 j hj⟩
theorem sr_szB {X : sr_M} (h : sr_SC X) {s : Nat} (hs : s < 4) : sr_sz X s ≤ 60 := by
  have hb := h s hs
  by_cases e : X 11 s = -1
  · have e2 : sr_sz X s = 0 := by unfold sr_sz; rw [e]; decide
    omega
  · exact (sr_szI h hs e).2
-- findings
def sp_ck (X : sr_M) (s : Nat) (fo i : Int32) : Int32 := if sr_ck X s fo i = 0 then 0 else -10 - sr_ck X s fo i
def sk_ck (kp X : sr_M) (s : Nat) (fo i : Int32) : sr_M := if sr_ck X s fo i = 0 then kp else sr_fd kp (sr_ck X s fo i)
theorem sr_ck_c (X : sr_M) (s : Nat) (fo i : Int32) : sr_ck X s fo i = 0 ∨ sr_ck X s fo i = 1 ∨ sr_ck X s fo i = 2 ∨ sr_ck X s fo i = 3 := by
  unfold sr_ck
  split
  · exact Or.inr (Or.inl rfl)
  · split
    · split
      · exact Or.inr (Or.inr (Or.inl rfl))
      · exact Or.inl rfl
    · exact Or.inr (Or.inr (Or.inr rfl))
theorem sr_ck_z {X : sr_M} {s : Nat} {fo i : Int32} : sp_ck X s fo i = 0 ↔ sr_ck X s fo i = 0 := by
  unfold sp_ck
  rcases sr_ck_c X s fo i with h | h | h | h <;> rw [h] <;> decide
theorem sr_ck_1 {kp X : sr_M} {s : Nat} {fo i : Int32} (h : X 11 s = -1) : sk_ck kp X s fo i = sr_fd kp 1 ∧ sp_ck X s fo i = -10 - 1 := by
  have e : sr_ck X s fo i = 1 := if_pos h
  unfold sk_ck sp_ck
  rw [e]
  exact ⟨rfl, rfl⟩
theorem sr_ck_3 {kp X : sr_M} {s : Nat} {fo i : Int32} (h : ¬ X 11 s = -1) (h2 : ¬ X 10 s = fo) : sk_ck kp X s fo i = sr_fd kp 3 ∧ sp_ck X s fo i = -10 - 3 := by
  have e : sr_ck X s fo i = 3 := by unfold sr_ck; rw [if_neg h, if_neg h2]
  unfold sk_ck sp_ck
  rw [e]
  exact ⟨rfl, rfl⟩
theorem sr_ck_2 {kp X : sr_M} {s : Nat} {fo i : Int32} (h : ¬ X 11 s = -1) (h2 : X 10 s = fo) (h3 : i < 0 ∨ X 11 s - 1 < i) : sk_ck kp X s fo i = sr_fd kp 2 ∧ sp_ck X s fo i = -10 - 2 := by
  have e : sr_ck X s fo i = 2 := by unfold sr_ck; rw [if_neg h, if_pos h2, if_pos h3]
  unfold sk_ck sp_ck
  rw [e]
  exact ⟨rfl, rfl⟩
theorem sr_ck_0 {kp X : sr_M} {s : Nat} {fo i : Int32} (h : ¬ X 11 s = -1) (h2 : X 10 s = fo) (h3 : ¬ (i < 0 ∨ X 11 s - 1 < i)) : sk_ck kp X s fo i = kp ∧ sp_ck X s fo i = 0 := by
  have e : sr_ck X s fo i = 0 := by unfold sr_ck; rw [if_neg h, if_pos h2, if_neg h3]
  unfold sk_ck sp_ck
  rw [e]
  exact ⟨rfl, rfl⟩
/-- nothing found: the sheet is there, of that form, and has the item -/
theorem sr_ckY {X : sr_M} (hS : sr_SC X) {s : Nat} (hs : s < 4) {fo i : Int32} (h : sr_ck X s fo i = 0) : ¬ X 11 s = -1 ∧ X 10 s = fo ∧ ∃ j, j < sr_sz X s ∧ i = nI j := by
  have h0 := h
  unfold sr_ck at h
  split at h
  · exact absurd h (by decide)
  · rename_i h1
    split at h
    · rename_i h2
      split at h
      · exact absurd h (by decide)
      · rename_i h3
        obtain ⟨hsz, hsz60⟩ := sr_szI hS hs h1
        obtain ⟨j, hj, rfl⟩ := sr_ck0 hS hs h0
        refine ⟨h1, h2, j, ?_, rfl⟩
        rw [not_or, hsz, Int32.lt_iff_toInt_lt, Int32.lt_iff_toInt_lt, sr_subI (by rw [sr_nIi (by omega)]; show _ ≤ ((sr_sz X s : Nat) : Int) - 1; omega) (by rw [sr_nIi (by omega)]; show ((sr_sz X s : Nat) : Int) - 1 < _; omega), sr_nIi (by omega), sr_nIi (by omega)] at h3
        have e1 : (1 : Int32).toInt = 1 := rfl
        have e0 : (0 : Int32).toInt = 0 := rfl
        omega
    · exact absurd h (by decide)
theorem sr_RX_put {X c : sr_M} (h : sr_RX X c) (hS : sr_SC X) {s i : Nat} (hs : s < 4) (hi : i < 60) (hl : ¬ X 11 s = -1) (f v : Int32) (hf : f = X 10 s) : sr_RX (sr_put1 X s i v) (va_up c 2 (upd (c 2) (60 * s + i) (sr_cut f v))) := by
  have e11 : sr_put1 X s i v 11 = X 11 := by unfold sr_put1 va_up; rw [if_neg (by omega)]
  have e10 : sr_put1 X s i v 10 = X 10 := by unfold sr_put1 va_up; rw [if_neg (by omega)]
  refine sr_RXo h (s := s) (fun t ht e => ?_) (fun t ht e => ?_) (fun t ht => sr_szB hS ht) ?_
  · refine ⟨by rw [e11], by rw [e10], ?_⟩
    unfold sr_put1 va_up
    rw [if_neg (by omega)]
  · exact ⟨rfl, rfl, fun j hj => pk_un (by omega)⟩
  · have hn : ¬ c 0 s < 0 := by
      rcases h s hs with q | q
      · exact absurd q.1 hl
      · exact q.2.1
    obtain ⟨h1, h2, h3, h4⟩ := sr_R1n (h s hs) hn
    refine Or.inr ⟨by rw [e11]; exact hl, hn, by rw [e10]; exact h2, by rw [e11]; exact h3, fun j hj => ?_⟩
    have hj2 : j < sr_sz X s := by
      unfold sr_sz at hj ⊢
      rw [e11] at hj
      exact hj
    show upd (c 2) (60 * s + i) (sr_cut f v) (60 * s + j) = va_up X (6 + s) (upd (X (6 + s)) i (sr_cut (X 10 s) v)) (6 + s) j
    have e6 : va_up X (6 + s) (upd (X (6 + s)) i (sr_cut (X 10 s) v)) (6 + s) = upd (X (6 + s)) i (sr_cut (X 10 s) v) := if_pos rfl
    rw [e6, hf]
    by_cases q : j = i
    · rw [q, pk_us, pk_us]
    · rw [pk_un (by omega), pk_un q]
      exact h4 j hj2
theorem sr_RX_lose {X c : sr_M} (h : sr_RX X c) (hS : sr_SC X) {s : Nat} (hs : s < 4) : sr_RX (va_up X 11 (upd (X 11) s (-1))) (va_up c 0 (upd (c 0) s (-1))) := by
  refine sr_RXo h (s := s) (fun t ht e => ?_) (fun t ht e => ?_) (fun t ht => sr_szB hS ht) ?_
  · refine ⟨pk_un e, rfl, ?_⟩
    unfold va_up
    rw [if_neg (by omega)]
  · exact ⟨pk_un e, rfl, fun j hj => rfl⟩
  · exact Or.inl ⟨pk_us, pk_us⟩
def sr_Zi (c : sr_M) (s : Nat) (fo n : Int32) (i : Nat) (u : sr_M) : Prop := u 0 = upd (c 0) s fo ∧ u 1 = upd (c 1) s n ∧ (∀ j, j < i → u 2 (60 * s + j) = 0) ∧ ∀ k, (k < 60 * s ∨ 60 * s + 60 ≤ k) → u 2 k = c 2 k
theorem sr_Zi_0 {c : sr_M} {s : Nat} {fo n : Int32} : sr_Zi c s fo n 0 (va_up (va_up c 0 (upd (c 0) s fo)) 1 (upd (c 1) s n)) := ⟨rfl, rfl, fun j hj => absurd hj (by omega), fun k _ => rfl⟩
theorem sr_Zi_s {c u : sr_M} {s : Nat} {fo n : Int32} {i : Nat} (hi : i < 60) (h : sr_Zi c s fo n i u) : sr_Zi c s fo n (i + 1) (va_up u 2 (upd (u 2) (60 * s + i) 0)) := by
  refine ⟨h.1, h.2.1, fun j hj => ?_, fun k hk => ?_⟩
  · show upd (u 2) (60 * s + i) 0 (60 * s + j) = 0
    by_cases q : j = i
    · rw [q, pk_us]
    · rw [pk_un (by omega)]
      exact h.2.2.1 j (by omega)
  · show upd (u 2) (60 * s + i) 0 k = c 2 k
    rw [pk_un (by omega)]
    exact h.2.2.2 k hk
theorem sr_RX_sheet {X c u Y : sr_M} (h : sr_RX X c) (hS : sr_SC X) {s n : Nat} (hs : s < 4) (hn : n ≤ 60) {fo : Int32} (hfo : ¬ fo < 0) (hz : sr_Zi c s fo (nI n) n u)
    (hY : (∀ j, j < 60 → Y (6 + s) j = 0) ∧ Y 10 = upd (X 10) s fo ∧ Y 11 = upd (X 11) s (nI n) ∧ ∀ k, k ≠ 6 + s → k ≠ 10 → k ≠ 11 → Y k = X k) : sr_RX Y u := by
  obtain ⟨y1, y2, y3, y4⟩ := hY
  obtain ⟨z1, z2, z3, z4⟩ := hz
  refine sr_RXo h (s := s) (fun t ht e => ?_) (fun t ht e => ?_) (fun t ht => sr_szB hS ht) ?_
  · exact ⟨by rw [y3, pk_un e], by rw [y2, pk_un e], y4 _ (by omega) (by omega) (by omega)⟩
  · exact ⟨by rw [z1, pk_un e], by rw [z2, pk_un e], fun j hj => z4 _ (by omega)⟩
  · have e : sr_sz Y s = n := by
      unfold sr_sz
      rw [y3, pk_us, nI_clamp (by omega)]
    unfold sr_R1
    rw [e, y3, y2, z1, z2, pk_us, pk_us, pk_us, pk_us]
    exact Or.inr ⟨sr_m1 (by omega), hfo, rfl, rfl, fun j hj => by rw [z3 j hj, y1 j (by omega)]⟩
-- copy
theorem sr_lle (z i n : Int32) : (z.toInt64 < i.toInt64 + n.toInt64) ↔ z.toInt < i.toInt + n.toInt := by
  have h1 := Int32.toInt_lt i
  have h2 := Int32.le_toInt i
  have h3 := Int32.toInt_lt n
  have h4 := Int32.le_toInt n
  rw [Int64.lt_iff_toInt_lt, Int64.toInt_add, Int32.toInt_toInt64, Int32.toInt_toInt64, Int32.toInt_toInt64, Int.bmod_eq_of_le (by omega) (by omega)]
theorem sr_llq (z i n : Int32) : (i.toInt64 + n.toInt64 ≤ z.toInt64) ↔ i.toInt + n.toInt ≤ z.toInt := by
  have h1 := Int32.toInt_lt i
  have h2 := Int32.le_toInt i
  have h3 := Int32.toInt_lt n
  have h4 := Int32.le_toInt n
  rw [Int64.le_iff_toInt_le, Int64.toInt_add, Int32.toInt_toInt64, Int32.toInt_toInt64, Int32.toInt_toInt64, Int.bmod_eq_of_le (by omega) (by omega)]
theorem sr_hoE {X : sr_M} (hS : sr_SC X) {s : Nat} (hs : s < 4) (hn : ¬ X 11 s = -1) {i n : Int32} : (¬ i < 0 ∧ ¬ n < 0 ∧ i.toInt + n.toInt ≤ (X 11 s).toInt) ↔ sr_ho X s i n := by
  obtain ⟨hz, hz6⟩ := sr_szI hS hs hn
  have hb := hS s hs
  have e0 : (0 : Int32).toInt = 0 := rfl
  have h1 := Int32.toInt_lt i
  unfold sr_ho
  by_cases qi : i < 0
  · exact ⟨fun h => absurd qi h.1, fun h => absurd qi h.1⟩
  · by_cases qn : n < 0
    · exact ⟨fun h => absurd qn h.2.1, fun h => absurd qn h.2.1⟩
    · have gi := qi
      have gn := qn
      rw [Int32.lt_iff_toInt_lt] at gi gn
      have es : (X 11 s - i).toInt = (X 11 s).toInt - i.toInt := sr_subI (by omega) (by omega)
      rw [Int32.lt_iff_toInt_lt (x := X 11 s) (y := i), Int32.lt_iff_toInt_lt (x := X 11 s - i) (y := n), es]
      constructor
      · intro h
        exact ⟨qi, qn, by omega, by omega⟩
      · intro h
        exact ⟨qi, qn, by omega⟩
theorem sr_cpE {X : sr_M} (hS : sr_SC X) {s t : Nat} (hs : s < 4) (ht : t < 4) (hn : ¬ X 11 s = -1) (hm : ¬ X 11 t = -1) {i j n : Int32} : (¬ i < 0 ∧ ¬ j < 0 ∧ ¬ n < 0 ∧ ¬ ((X 11 s).toInt64 < i.toInt64 + n.toInt64) ∧ (j.toInt64 + n.toInt64 ≤ (X 11 t).toInt64)) ↔ sr_cpX X s t i j n := by
  rw [sr_lle, sr_llq]
  have h1 := sr_hoE hS hs hn (i := i) (n := n)
  have h2 := sr_hoE hS ht hm (i := j) (n := n)
  constructor
  · intro h
    exact ⟨h1.mp ⟨h.1, h.2.2.1, by omega⟩, h2.mp ⟨h.2.1, h.2.2.1, h.2.2.2.2⟩⟩
  · intro h
    obtain ⟨a1, a2, a3⟩ := h1.mpr h.1
    obtain ⟨b1, b2, b3⟩ := h2.mpr h.2
    exact ⟨a1, b1, a2, by omega, b3⟩
theorem sr_cpN {X : sr_M} (hS : sr_SC X) {s t : Nat} (hs : s < 4) (ht : t < 4) (hn : ¬ X 11 s = -1) (hm : ¬ X 11 t = -1) {i j n : Int32} (h : sr_cpX X s t i j n) : ∃ ji jj jn, i = nI ji ∧ j = nI jj ∧ n = nI jn ∧ ji + jn ≤ sr_sz X s ∧ jj + jn ≤ sr_sz X t := by
  obtain ⟨a1, a2, a3⟩ := (sr_hoE hS hs hn).mpr h.1
  obtain ⟨b1, b2, b3⟩ := (sr_hoE hS ht hm).mpr h.2
  obtain ⟨hz, hz6⟩ := sr_szI hS hs hn
  obtain ⟨hy, hy6⟩ := sr_szI hS ht hm
  obtain ⟨ji, hji, rfl⟩ := nI_of a1
  obtain ⟨jj, hjj, rfl⟩ := nI_of b1
  obtain ⟨jn, hjn, rfl⟩ := nI_of a2
  rw [hz, sr_nIi (by omega), sr_nIi (by omega), sr_nIi (by omega)] at a3
  rw [hy, sr_nIi (by omega), sr_nIi (by omega), sr_nIi (by omega)] at b3
  exact ⟨ji, jj, jn, rfl, rfl, rfl, by omega, by omega⟩
theorem sr_mv_s {f g : Nat → Int32} {b0 i : Nat} (h : ∀ b, b < i → f b = g (b0 + b)) : ∀ b, b < i + 1 → upd f i (g (b0 + i)) b = g (b0 + b) := by
  intro b hb
  by_cases q : b = i
  · rw [q, pk_us]
  · rw [pk_un q]
    exact h b (by omega)
def sr_Ci (c : sr_M) (g : Nat → Int32) (b0 i : Nat) (u : sr_M) : Prop := u 0 = c 0 ∧ u 1 = c 1 ∧ (∀ b, b < i → u 2 (b0 + b) = g b) ∧ ∀ k, (k < b0 ∨ b0 + i ≤ k) → u 2 k = c 2 k
theorem sr_Ci_0 {c : sr_M} {g : Nat → Int32} {b0 : Nat} : sr_Ci c g b0 0 c := ⟨rfl, rfl, fun b hb => absurd hb (by omega), fun k _ => rfl⟩
theorem sr_Ci_s {c u : sr_M} {g : Nat → Int32} {b0 i : Nat} (h : sr_Ci c g b0 i u) : sr_Ci c g b0 (i + 1) (va_up u 2 (upd (u 2) (b0 + i) (g i))) := by
  refine ⟨h.1, h.2.1, fun b hb => ?_, fun k hk => ?_⟩
  · show upd (u 2) (b0 + i) (g i) (b0 + b) = g b
    by_cases q : b = i
    · rw [q, pk_us]
    · rw [pk_un (by omega)]
      exact h.2.2.1 b (by omega)
  · show upd (u 2) (b0 + i) (g i) k = c 2 k
    rw [pk_un (by omega)]
    exact h.2.2.2 k (by omega)
theorem sr_RX_copy {X c u : sr_M} (h : sr_RX X c) (hS : sr_SC X) {s t i j n : Nat} (hs : s < 4) (ht : t < 4) (hls : ¬ X 11 s = -1) (hlt : ¬ X 11 t = -1) (h1 : i + n ≤ sr_sz X s) (h2 : j + n ≤ sr_sz X t) {g : Nat → Int32} (hg : ∀ b, b < n → g b = c 2 (60 * s + i + b)) (hu : sr_Ci c g (60 * t + j) n u) : sr_RX (sr_cp1 X s t i j n) u := by
  obtain ⟨u1, u2, u3, u4⟩ := hu
  have nl : ∀ {s}, s < 4 → ¬ X 11 s = -1 → ¬ c 0 s < 0 := by
    intro s hs hl
    rcases h s hs with q | q
    · exact absurd q.1 hl
    · exact q.2.1
  have e11 : sr_cp1 X s t i j n 11 = X 11 := by unfold sr_cp1 va_up; rw [if_neg (by omega)]
  have e10 : sr_cp1 X s t i j n 10 = X 10 := by unfold sr_cp1 va_up; rw [if_neg (by omega)]
  have b1 := sr_szB hS hs
  have b2 := sr_szB hS ht
  refine sr_RXo h (s := t) (fun t' ht' e => ?_) (fun t' ht' e => ?_) (fun t ht => sr_szB hS ht) ?_
  · refine ⟨by rw [e11], by rw [e10], ?_⟩
    unfold sr_cp1 va_up
    rw [if_neg (by omega)]
  · exact ⟨by rw [u1], by rw [u2], fun q hq => u4 _ (by omega)⟩
  · obtain ⟨s1, s2, s3, s4⟩ := sr_R1n (h s hs) (nl hs hls)
    obtain ⟨t1, t2, t3, t4⟩ := sr_R1n (h t ht) (nl ht hlt)
    have ez : sr_sz (sr_cp1 X s t i j n) t = sr_sz X t := by unfold sr_sz; rw [e11]
    unfold sr_R1
    rw [e11, e10, u1, u2, ez]
    refine Or.inr ⟨hlt, nl ht hlt, t2, t3, fun q hq => ?_⟩
    have e6 : sr_cp1 X s t i j n (6 + t) = va_cpy (X (6 + s)) (X (6 + t)) i j n := if_pos rfl
    rw [e6]
    unfold va_cpy
    by_cases w : j ≤ q ∧ q < j + n
    · rw [if_pos w, show 60 * t + q = 60 * t + j + (q - j) by omega, u3 _ (by omega), hg _ (by omega), show 60 * s + i + (q - j) = 60 * s + (i + (q - j)) by omega]
      exact s4 _ (by omega)
    · rw [if_neg w, u4 _ (by omega)]
      exact t4 q hq
-- read
theorem sr_up_up (m : sr_M) (k : Nat) (f g : Nat → Int32) : va_up (va_up m k f) k g = va_up m k g := by
  funext j
  unfold va_up
  by_cases q : j = k
  · rw [if_pos q, if_pos q]
  · rw [if_neg q, if_neg q, if_neg q]
theorem sr_mi_k (f M : Nat → Int32) : ∀ (i k : Nat), i ≤ k → sr_mi f M i k = M k
  | 0, k, _ => rfl
  | i + 1, k, h => by
    show upd (sr_mi f M i) i (f i) k = M k
    rw [pk_un (by omega)]
    exact sr_mi_k f M i k (by omega)
theorem sr_n2x {i : Nat} (h : i ≤ 60) : (nI i < 0 ∨ 2 < nI i) ↔ 2 < i := by
  rw [Int32.lt_iff_toInt_lt, Int32.lt_iff_toInt_lt, sr_nIi (by omega)]
  have e3 : (2 : Int32).toInt = 2 := rfl
  have e0 : (0 : Int32).toInt = 0 := rfl
  omega
theorem sr_mk_lt {kp : sr_M} (hK : sr_IK kp) {f : Nat → Int32} {i : Nat} (hi : i ≤ 60) (h : sp_mark (va_up kp 3 (sr_mi f (kp 3) i)) (nI i) (f i) < 0) : (2 < i ∨ (f i < 0 ∨ 40 < f i)) ∧ sk_mark (va_up kp 3 (sr_mi f (kp 3) i)) (nI i) (f i) = va_up kp 3 (sr_mi f (kp 3) i) := by
  unfold sp_mark at h
  unfold sk_mark
  by_cases q : nI i < 0 ∨ 2 < nI i
  · rw [if_pos q]
    exact ⟨Or.inl ((sr_n2x hi).mp q), rfl⟩
  · rw [if_neg q] at h ⊢
    by_cases w : f i < 0 ∨ 40 < f i
    · rw [if_pos w]
      exact ⟨Or.inr w, rfl⟩
    · rw [if_neg w, nI_clamp (by omega)] at h
      have h3 : ¬ 2 < i := fun z => q ((sr_n2x hi).mpr z)
      have e : va_up kp 3 (sr_mi f (kp 3) i) 3 i = kp 3 i := sr_mi_k f (kp 3) i i (Nat.le_refl _)
      rw [e, Int32.lt_iff_toInt_lt] at h
      have := (sr_IK_mb hK (c := i) (by omega)).1
      have e0 : (0 : Int32).toInt = 0 := rfl
      omega
theorem sr_mk_ge {kp : sr_M} {f : Nat → Int32} {i : Nat} (hi : i ≤ 60) (h : ¬ sp_mark (va_up kp 3 (sr_mi f (kp 3) i)) (nI i) (f i) < 0) : i < 3 ∧ ¬ (f i < 0 ∨ 40 < f i) ∧ sk_mark (va_up kp 3 (sr_mi f (kp 3) i)) (nI i) (f i) = va_up kp 3 (sr_mi f (kp 3) (i + 1)) := by
  unfold sp_mark at h
  unfold sk_mark
  by_cases q : nI i < 0 ∨ 2 < nI i
  · rw [if_pos q] at h
    exact absurd (show (-2 : Int32) < 0 by decide) h
  · rw [if_neg q] at h ⊢
    by_cases w : f i < 0 ∨ 40 < f i
    · rw [if_pos w] at h
      exact absurd (show (-2 : Int32) < 0 by decide) h
    · rw [if_neg w, nI_clamp (by omega), sr_up_up]
      have h3 : ¬ 2 < i := fun z => q ((sr_n2x hi).mpr z)
      exact ⟨by omega, w, rfl⟩
section SRLE
variable {p : Program} {l : Launch} {e : Env} {R : Room} {s : State} {m : MethodId} {args : Array Value} {below : List Frame} {meth : Method} {c : Code} {H : Heap} {locs : List Loc} {cells slots : Nat} {Q : State → Prop}
variable {cc : ByteArray} {pc nL : Nat} {ls : Array Slot} {rest st0 : List Value} {D : va_G} {A : Nat → Prop} {own : String}
theorem sr_lcle {x y : Int64} (C0 : CallFix p m c cc nL s args sr_ws own) {off : Int} {tgt : Nat} (hdg : decode cc pc = .ok (.ifCond .le off, 3)) (ht : (pc : Int) + off = (tgt : Int)) (kt : x ≤ y → W p l e R s m args below meth c H locs cells slots Q (F0 m tgt ls rest)) (kf : ¬ x ≤ y → W p l e R s m args below meth c H locs cells slots Q (F0 m (pc + 3) ls rest)) : W p l e R s m args below meth c H locs cells slots Q (F0 m pc ls (.int (lg_cmp x y) :: rest)) :=
  lv_if_le C0.1 C0.2.1 hdg ht (fun q => kt (Int64.not_lt.mp (fun z => Int32.not_lt.mpr q ((sr_cmp_gt x y).mpr z)))) (fun q => kf (fun z => Int64.not_lt.mpr z ((sr_cmp_gt x y).mp (Int32.not_le.mp q))))
end SRLE
theorem sr_m43 (z : Nat) : sr_m4 z 3 = z ∨ sr_m4 z 3 = 3 := by
  unfold sr_m4
  split
  · exact Or.inl rfl
  · exact Or.inr rfl
theorem sr_SC_wr {kp X : sr_M} (h : sr_SC X) {s : Nat} (hs : s < 4) (i : Nat) : sr_SC (sr_wr kp X s i) := by
  intro t ht
  rw [sr_wr_k kp X hs i 11 (Or.inr (by omega))]
  exact h t ht
theorem sr_RX_wr {kp X c : sr_M} (hS : sr_SC X) {s i : Nat} (hs : s < 4) (hi : i < 60) (hl : ¬ X 11 s = -1) (h : sr_RX (sr_wr kp X s i) c) : sr_RX (sr_wr kp X s (i + 1)) (va_up c 2 (upd (c 2) (60 * s + i) (sr_cut (c 0 s) (sr_ca kp i)))) := by
  have e11 := sr_wr_k kp X hs i 11 (Or.inr (by omega))
  have hl2 : ¬ sr_wr kp X s i 11 s = -1 := by rw [e11]; exact hl
  have hf : c 0 s = sr_wr kp X s i 10 s := by
    rcases h s hs with q | q
    · exact absurd q.1 hl2
    · exact q.2.2.1
  exact sr_RX_put h (sr_SC_wr hS hs i) hs hi hl2 _ _ hf
