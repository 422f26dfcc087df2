/-! THE TEXT, THE SHEETS, THE LOTS -/
theorem sr_run_end {t : Nat → Int32} {n i : Nat} (hi : i ≤ n) (h : sr_run t 0 n = sr_run t i (n - i)) (e : i = n ∨ ¬ sr_go t i = true) : sr_run t 0 n = i := by
  rw [h]
  rcases Nat.lt_or_ge i n with q | q
  · rw [show n - i = (n - i - 1) + 1 by omega]
    exact if_neg (e.elim (fun z => by omega) id)
  · rw [show n - i = 0 by omega]
    rfl
theorem sr_run_step {t : Nat → Int32} {n i : Nat} (hi : i < n) (h : sr_run t 0 n = sr_run t i (n - i)) (g : sr_go t i = true) : sr_run t 0 n = sr_run t (i + 1) (n - (i + 1)) := by
  rw [h, show n - i = (n - (i + 1)) + 1 by omega]
  exact if_pos g
theorem sr_flt_e {kp : sr_M} (h : sr_n kp ≤ 40) {i : Nat} (hi : sr_pl kp = i) : (if nI i = nI (sr_n kp) then (if nI (sr_n kp) = 0 ∨ nI (sr_n kp % 7) = 6 then -1 else nI i) else nI i) = sr_flt kp := by
  have hle := (sr_run_le (kp 0) (sr_n kp) 0).2
  have hi2 : i ≤ sr_n kp := by rw [← hi]; unfold sr_pl; omega
  have e1 : nI i = nI (sr_n kp) ↔ i = sr_n kp := nI_eq (by omega) (by omega)
  have e2 : nI (sr_n kp) = 0 ↔ sr_n kp = 0 := nI_eq (b := 0) (by omega) (by omega)
  have e3 : nI (sr_n kp % 7) = 6 ↔ sr_n kp % 7 = 6 := nI_eq (b := 6) (by omega) (by omega)
  unfold sr_flt sr_well
  simp only [e1, e2, e3, hi]
  split <;> rename_i h1
  · split <;> rename_i h2
    · rw [if_pos ⟨h1, h2⟩]
    · rw [if_neg (fun q => h2 q.2)]
  · rw [if_neg (fun q => h1 q.1)]
theorem sr_cnt_e {kp : sr_M} (h : sr_n kp ≤ 40) : (if sr_flt kp = -1 then nI ((sr_n kp + 1) / 7) else 0) = nI (sr_cnt kp) := by
  have hle := (sr_run_le (kp 0) (sr_n kp) 0).2
  unfold sr_flt sr_cnt
  by_cases q : sr_well kp
  · rw [if_pos q, if_pos rfl, if_pos q]
  · rw [if_neg q, if_neg q, if_neg (sr_m1 (by unfold sr_pl; omega))]
    rfl
/-- a byte more -/
def sr_ty1 (kp : sr_M) (b : Int32) : sr_M := va_up (va_up kp 0 (upd (kp 0) (sr_n kp) b)) 5 (upd (kp 5) 0 (nI (sr_n kp + 1)))
def sr_ty (kp : sr_M) (b : Int32) : sr_M := if sr_n kp < 40 then sr_ty1 kp b else kp
/-- its length told anew -/
def sr_ln (kp : sr_M) (n : Nat) : sr_M := va_up kp 5 (upd (kp 5) 0 (nI n))
theorem sr_IK_mv {kp k2 : sr_M} (h : sr_IK kp) (e : ∀ k, 1 ≤ k → k < 5 → k2 k = kp k) (hn : k2 5 0 = nI (sr_n k2) ∧ sr_n k2 ≤ 40) (ht : ∀ i, i < sr_n k2 → 0 ≤ (k2 0 i).toInt ∧ (k2 0 i).toInt ≤ 255) : sr_IK k2 := by
  obtain ⟨-, h2, h3, h4, h5, h6, -⟩ := h
  unfold sr_IK sr_ru sr_zo sr_mk at *
  rw [e 1 (by omega) (by omega), e 2 (by omega) (by omega), e 3 (by omega) (by omega), e 4 (by omega) (by omega)]
  exact ⟨hn, h2, h3, h4, h5, h6, ht⟩
theorem sr_n_ln {kp : sr_M} {n : Nat} (hn : n ≤ 40) : sr_n (sr_ln kp n) = n := nI_clamp (by omega)
theorem sr_IK_ln {kp : sr_M} (h : sr_IK kp) {n : Nat} (hn : n ≤ sr_n kp) : sr_IK (sr_ln kp n) := by
  have h40 := sr_IK_n40 h
  have e := sr_n_ln (kp := kp) (n := n) (by omega)
  refine sr_IK_mv h (fun k h1 h2 => by rcases (show k = 1 ∨ k = 2 ∨ k = 3 ∨ k = 4 by omega) with rfl | rfl | rfl | rfl <;> rfl) ⟨by rw [e]; rfl, by omega⟩ (fun i hi => h.2.2.2.2.2.2 i (by omega))
theorem sr_n_ty1 {kp : sr_M} {b : Int32} (hn : sr_n kp < 40) : sr_n (sr_ty1 kp b) = sr_n kp + 1 := nI_clamp (by omega)
theorem sr_IK_ty1 {kp : sr_M} (h : sr_IK kp) {b : Int32} (hb : 0 ≤ b.toInt ∧ b.toInt ≤ 255) (hn : sr_n kp < 40) : sr_IK (sr_ty1 kp b) := by
  have e := sr_n_ty1 (b := b) hn
  refine sr_IK_mv h (fun k h1 h2 => by rcases (show k = 1 ∨ k = 2 ∨ k = 3 ∨ k = 4 by omega) with rfl | rfl | rfl | rfl <;> rfl) ⟨by rw [e]; rfl, by omega⟩ (fun i hi => ?_)
  have e0 : sr_ty1 kp b 0 i = upd (kp 0) (sr_n kp) b i := rfl
  rw [e0]
  by_cases q : i = sr_n kp
  · rw [q, pk_us]
    exact hb
  · rw [pk_un q]
    exact h.2.2.2.2.2.2 i (by omega)
theorem sr_IK_ty {kp : sr_M} (h : sr_IK kp) {b : Int32} (hb : 0 ≤ b.toInt ∧ b.toInt ≤ 255) : sr_IK (sr_ty kp b) := by
  unfold sr_ty
  split <;> rename_i q
  · exact sr_IK_ty1 h hb q
  · exact h
/-- what scan leaves -/
def sr_Sc (kp cx u : sr_M) : Prop := u 4 0 = sr_flt kp ∧ u 4 1 = nI (sr_cnt kp) ∧ (∀ r, r < sr_cnt kp → ∀ j, j < 4 → u j r = sr_fig kp r j) ∧ ∀ k, 5 ≤ k → u k = cx k
theorem sr_Sc_IC {kp k2 cx u : sr_M} (h : sr_IC kp cx) (hk : sr_IK k2) (e : k2 2 = kp 2) (hS : sr_Sc k2 cx u) : sr_IC k2 u := by
  obtain ⟨s1, s2, s3, s4⟩ := hS
  refine ⟨hk, s1, s2, fun r hr => ⟨s3 r hr 0 (by omega), s3 r hr 1 (by omega), s3 r hr 2 (by omega), s3 r hr 3 (by omega)⟩, fun s hs => ?_⟩
  rw [s4 5 (by omega), sr_IC_ex h hs]
  unfold sr_ex
  rw [e]
-- sheets of the class
def sr_SC (cx : sr_M) : Prop := ∀ s, s < 4 → -1 ≤ (cx 11 s).toInt ∧ (cx 11 s).toInt ≤ 60
def sr_ck (cx : sr_M) (s : Nat) (fo i : Int32) : Int32 := if cx 11 s = -1 then 1 else if cx 10 s = fo then (if i < 0 ∨ cx 11 s - 1 < i then 2 else 0) else 3
abbrev sr_ho (cx : sr_M) (s : Nat) (i n : Int32) : Prop := ¬ i < 0 ∧ ¬ n < 0 ∧ ¬ cx 11 s < i ∧ ¬ cx 11 s - i < n
def sr_cut (f v : Int32) : Int32 := if f = 0 then v.toInt8.toInt32 else if f = 1 then v.toInt16.toInt32 else v
def sr_fl (f : Nat → Int32) (v : Int32) (n : Nat) : Nat → Int32 := fun j => if j < n then v else f j
theorem sr_fl_s (f : Nat → Int32) (v : Int32) (i : Nat) : upd (sr_fl f v i) i v = sr_fl f v (i + 1) := by
  funext j
  unfold sr_fl
  by_cases q : j = i
  · rw [q, pk_us, if_pos (by omega)]
  · rw [pk_un q]
    by_cases z : j < i
    · rw [if_pos z, if_pos (by omega)]
    · rw [if_neg z, if_neg (by omega)]
-- lots
def sr_nx (x : Int32) : Int32 := 1103515245 * x + 12345
def sr_hi (x : Int32) : Nat := x.toBitVec.toNat / 65536
theorem sr_hi_lt (x : Int32) : sr_hi x < 65536 := by
  unfold sr_hi
  have := x.toBitVec.isLt
  omega
theorem sr_hi_e (x : Int32) : ((x : Int32).toUInt32 >>> ((16 : Int32).toUInt32 &&& Int32.toUInt32 31)).toInt32 = nI (sr_hi x) := by
  apply Int32.toBitVec_inj.mp
  apply BitVec.eq_of_toNat_eq
  have := sr_hi_lt x
  rw [pk_ushr x 16 16 (by decide), pk_tn (by omega)]
  rfl
def sr_lo (x : Int32) : Nat := sr_hi x % 16
def sr_ls (st x : Int32) : Int32 := sr_tP (sr_lo x) * st
theorem sr_ln_0 {kp : sr_M} (h : sr_IK kp) (e : sr_n kp = 0) : sr_ln kp (sr_n kp - 1) = kp := by
  rw [e]
  unfold sr_ln
  have h5 := sr_IK_n h
  rw [e] at h5
  funext k j
  unfold va_up upd
  by_cases q : k = 5
  · subst q
    rw [if_pos rfl]
    by_cases z : j = 0
    · subst z
      rw [if_pos rfl]
      exact h5.symm
    · rw [if_neg z]
  · rw [if_neg q]
