/-! WHAT EVERY CALL KEEPS -/
theorem sr_cn_c {kp k2 : sr_M} (e0 : k2 0 = kp 0) (e5 : k2 5 0 = kp 5 0) : sr_n k2 = sr_n kp ∧ sr_flt k2 = sr_flt kp ∧ sr_cnt k2 = sr_cnt kp := by
  have en : sr_n k2 = sr_n kp := by unfold sr_n; rw [e5]
  have ep : sr_pl k2 = sr_pl kp := by unfold sr_pl; rw [e0, en]
  exact ⟨en, by simp only [sr_flt, sr_well, en, ep], by simp only [sr_cnt, sr_well, en, ep]⟩
theorem sr_fig_c {kp k2 : sr_M} (e0 : k2 0 = kp 0) (r j : Nat) : sr_fig k2 r j = sr_fig kp r j := by
  unfold sr_fig
  rw [e0]
theorem sr_IC_mv {kp k2 X : sr_M} (h : sr_IC kp X) (hK : sr_IK k2) (e0 : k2 0 = kp 0) (e2 : k2 2 = kp 2) (e5 : k2 5 0 = kp 5 0) : sr_IC k2 X := by
  obtain ⟨en, ef, ec⟩ := sr_cn_c e0 e5
  refine ⟨hK, by rw [ef]; exact h.2.1, by rw [ec]; exact h.2.2.1, fun r hr => ?_, fun s hs => ?_⟩
  · rw [ec] at hr
    rw [sr_fig_c e0, sr_fig_c e0, sr_fig_c e0, sr_fig_c e0]
    exact h.2.2.2.1 r hr
  · have e : sr_ex k2 s = sr_ex kp s := by unfold sr_ex; rw [e2]
    rw [e]
    exact h.2.2.2.2 s hs
theorem sr_IK_1 {kp : sr_M} (h : sr_IK kp) {f : Nat → Int32} (hf : ∀ t, t < 4 → ∃ j, j < 5 ∧ f t = nI j) : sr_IK (va_up kp 1 f) := by
  refine ⟨h.1, fun t ht => ?_, h.2.2⟩
  obtain ⟨j, hj, e⟩ := hf t ht
  show f t = nI (f t).toNatClampNeg ∧ (f t).toNatClampNeg < 5
  rw [e, nI_clamp (by omega)]
  exact ⟨rfl, hj⟩
theorem sr_IK_3 {kp : sr_M} (h : sr_IK kp) {f : Nat → Int32} (hf : ∀ t, t < 3 → ∃ j, j ≤ 40 ∧ f t = nI j) : sr_IK (va_up kp 3 f) := by
  refine ⟨h.1, h.2.1, h.2.2.1, h.2.2.2.1, fun t ht => ?_, h.2.2.2.2.2⟩
  obtain ⟨j, hj, e⟩ := hf t ht
  show f t = nI (f t).toNatClampNeg ∧ (f t).toNatClampNeg ≤ 40
  rw [e, nI_clamp (by omega)]
  exact ⟨rfl, hj⟩
theorem sr_IK_4 {kp : sr_M} (h : sr_IK kp) {f : Nat → Int32} (hf : ∀ t, t < 3 → sr_bs (f t)) : sr_IK (va_up kp 4 f) := ⟨h.1, h.2.1, h.2.2.1, h.2.2.2.1, h.2.2.2.2.1, hf, h.2.2.2.2.2.2⟩
theorem sr_IK_2 {kp : sr_M} (h : sr_IK kp) {f : Nat → Int32} (h0 : ∃ j, 5 ≤ j ∧ j ≤ 30 ∧ f 0 = nI j) (hf : ∀ j, 1 ≤ j → j < 7 → 0 ≤ (f j).toInt ∧ (f j).toInt ≤ sr_mo j) : sr_IK (va_up kp 2 f) := by
  refine ⟨h.1, h.2.1, ?_, hf, h.2.2.2.2⟩
  obtain ⟨j, h5, h30, e⟩ := h0
  show f 0 = nI (f 0).toNatClampNeg ∧ 5 ≤ (f 0).toNatClampNeg ∧ (f 0).toNatClampNeg ≤ 30
  rw [e, nI_clamp (by omega)]
  exact ⟨rfl, h5, h30⟩
theorem sr_fd50 (kp : sr_M) (k : Int32) : sr_fd kp k 5 0 = kp 5 0 := rfl
theorem sr_IK_fd {kp : sr_M} (h : sr_IK kp) (k : Int32) : sr_IK (sr_fd kp k) := by
  have e5 := sr_fd50 kp k
  have en : sr_n (sr_fd kp k) = sr_n kp := (sr_cn_c (kp := kp) (k2 := sr_fd kp k) rfl e5).1
  refine sr_IK_mv h (fun q h1 h2 => sr_upN (by omega)) ⟨?_, ?_⟩ (fun i hi => ?_)
  · rw [e5, en]
    exact h.1.1
  · rw [en]
    exact h.1.2
  · rw [en] at hi
    exact h.2.2.2.2.2.2 i hi
theorem sr_clN {x : Int32} {j : Nat} (h : j < 2147483648) (e : x = nI j) : x.toNatClampNeg = j := by rw [e, nI_clamp h]
theorem sr_IK_runs {kp : sr_M} (h : sr_IK kp) (s r : Int32) : sr_IK (sk_runs kp s r) := by
  unfold sk_runs
  split
  · exact h
  · split
    · exact h
    · rename_i h1 h2
      refine sr_IK_1 h (fun t ht => ?_)
      by_cases q : t = s.toNatClampNeg
      · rw [q, pk_us]
        exact sr_rg4 h2
      · rw [pk_un q]
        exact ⟨_, sr_IK_ru5 h ht, sr_IK_ru h ht⟩
theorem sr_IK_mark {kp : sr_M} (h : sr_IK kp) (c v : Int32) : sr_IK (sk_mark kp c v) := by
  unfold sk_mark
  split
  · exact h
  · split
    · exact h
    · rename_i h1 h2
      refine sr_IK_3 h (fun t ht => ?_)
      by_cases q : t = c.toNatClampNeg
      · rw [q, pk_us]
        obtain ⟨j, hj, e⟩ := sr_rg40 h2
        exact ⟨j, by omega, e⟩
      · rw [pk_un q]
        exact ⟨_, sr_IK_mk40 h ht, sr_IK_mk h ht⟩
theorem sr_IK_slip {kp : sr_M} (h : sr_IK kp) (c v : Int32) : sr_IK (sk_slip kp c v) := by
  unfold sk_slip
  split
  · exact h
  · split
    · exact h
    · rename_i h1 h2
      refine sr_IK_4 h (fun t ht => ?_)
      by_cases q : t = c.toNatClampNeg
      · rw [q, pk_us]
        rw [not_or, Int32.lt_iff_toInt_lt, Int32.lt_iff_toInt_lt] at h2
        have e1 : (-60 : Int32).toInt = -60 := rfl
        have e2 : (60 : Int32).toInt = 60 := rfl
        exact ⟨by omega, by omega⟩
      · rw [pk_un q]
        exact sr_IK_sl h ht
theorem sr_tLM {j : Nat} (h1 : 1 ≤ j) (h2 : j < 7) : (sr_tL j).toInt = 0 ∧ (sr_tM_ j).toInt = sr_mo j := by
  rcases (show j = 1 ∨ j = 2 ∨ j = 3 ∨ j = 4 ∨ j = 5 ∨ j = 6 by omega) with rfl | rfl | rfl | rfl | rfl | rfl <;> decide
theorem sr_IK_set {kp : sr_M} (h : sr_IK kp) (w v : Int32) : sr_IK (sk_set kp w v) := by
  unfold sk_set
  split
  · exact h
  · split
    · exact h
    · rename_i h1 h2
      obtain ⟨jw, hjw, rfl⟩ := sr_rg6 h1
      rw [nI_clamp (by omega)] at h2 ⊢
      rw [not_or, Int32.lt_iff_toInt_lt, Int32.lt_iff_toInt_lt] at h2
      refine sr_IK_2 h ?_ (fun j j1 j7 => ?_)
      · by_cases q : 0 = jw
        · subst q
          rw [pk_us]
          have e1 : (sr_tL 0).toInt = 5 := rfl
          have e2 : (sr_tM_ 0).toInt = 30 := rfl
          obtain ⟨j, hj, e⟩ := nI_of (x := v) (by rw [Int32.lt_iff_toInt_lt]; have e0 : (0 : Int32).toInt = 0 := rfl; omega)
          rw [e, sr_nIi (by omega)] at h2
          exact ⟨j, by omega, by omega, e⟩
        · rw [pk_un q]
          have := sr_IK_zo5 h
          exact ⟨_, this.1, this.2, sr_IK_zo h⟩
      · by_cases q : j = jw
        · subst q
          rw [pk_us]
          have := sr_tLM j1 j7
          omega
        · rw [pk_un q]
          exact sr_IK_r h j1 j7
theorem sr_sk0 {kp : sr_M} {k : Nat} {P Q : Prop} [Decidable P] [Decidable Q] {f : Nat → Int32} (j : Nat) (hj : j ≠ k) : (if P then kp else if Q then kp else va_up kp k f) j = kp j := by
  split
  · rfl
  · split
    · rfl
    · exact sr_upN hj
theorem sr_mi_in {kp : sr_M} (h : sr_IK kp) {f : Nat → Int32} : ∀ (i : Nat), (∀ q, q < i → ¬ (f q < 0 ∨ 40 < f q)) → ∀ t, t < 3 → ∃ j, j ≤ 40 ∧ sr_mi f (kp 3) i t = nI j
  | 0, _, t, ht => ⟨_, sr_IK_mk40 h ht, sr_IK_mk h ht⟩
  | i + 1, hf, t, ht => by
    show ∃ j, j ≤ 40 ∧ upd (sr_mi f (kp 3) i) i (f i) t = nI j
    by_cases q : t = i
    · rw [q, pk_us]
      obtain ⟨j, hj, e⟩ := sr_rg40 (hf i (by omega))
      exact ⟨j, by omega, e⟩
    · rw [pk_un q]
      exact sr_mi_in h i (fun q hq => hf q (by omega)) t ht
theorem sr_rn_in {f : Nat → Int32} : ∀ (k i q : Nat), i ≤ q → q < sr_rn f k i → ¬ (f q < 0 ∨ 40 < f q)
  | 0, i, q, h1, h2 => by
    have e : sr_rn f 0 i = i := rfl
    omega
  | k + 1, i, q, h1, h2 => by
    have e : sr_rn f (k + 1) i = if f i < 0 ∨ 40 < f i then i else sr_rn f k (i + 1) := rfl
    rw [e] at h2
    split at h2
    · omega
    · rename_i w
      rcases Nat.lt_or_ge i q with z | z
      · exact sr_rn_in k (i + 1) q z h2
      · rw [show q = i by omega]
        exact w
theorem sr_IK_read {kp X : sr_M} (h : sr_IK kp) (s : Int32) : sr_IK (sk_read kp X s) := by
  unfold sk_read
  split
  · exact h
  · split
    · exact sr_IK_fd h _
    · exact sr_IK_3 h (sr_mi_in h _ (fun q hq => sr_rn_in _ 0 q (by omega) hq))
theorem sr_rd_0 {kp X : sr_M} (s : Int32) : sk_read kp X s 0 = kp 0 ∧ sk_read kp X s 2 = kp 2 ∧ sk_read kp X s 5 0 = kp 5 0 := by
  unfold sk_read
  split
  · exact ⟨rfl, rfl, rfl⟩
  · split
    · exact ⟨rfl, rfl, sr_fd50 _ _⟩
    · exact ⟨rfl, rfl, rfl⟩
-- the sheets
def sr_fk (kp k2 : sr_M) : Prop := k2 = kp ∨ ∃ k, k2 = sr_fd kp k
theorem sr_IC_fk {kp k2 X : sr_M} (h : sr_IC kp X) (e : sr_fk kp k2) : sr_IC k2 X := by
  rcases e with rfl | ⟨k, rfl⟩
  · exact h
  · exact sr_IC_mv h (sr_IK_fd (sr_IC_K h) k) rfl rfl (sr_fd50 _ _)
theorem sr_fk_sheet (kp : sr_M) (s fo n : Int32) : sr_fk kp (sk_sheet kp s fo n) := by
  unfold sk_sheet
  repeat' split
  all_goals first | exact Or.inl rfl | exact Or.inr ⟨_, rfl⟩
theorem sr_fk_lose (kp X : sr_M) (s : Int32) : sr_fk kp (sk_lose kp X s) := by
  unfold sk_lose
  repeat' split
  all_goals first | exact Or.inl rfl | exact Or.inr ⟨_, rfl⟩
theorem sr_fk_lay (kp X : sr_M) (s fo i : Int32) : sr_fk kp (sk_lay kp X s fo i) := by
  unfold sk_lay
  repeat' split
  all_goals first | exact Or.inl rfl | exact Or.inr ⟨_, rfl⟩
theorem sr_fk_get (kp X : sr_M) (s fo i : Int32) : sr_fk kp (sk_get kp X s fo i) := by
  unfold sk_get
  repeat' split
  all_goals first | exact Or.inl rfl | exact Or.inr ⟨_, rfl⟩
theorem sr_fk_copy (kp X : sr_M) (s i t j n : Int32) : sr_fk kp (sk_copy kp X s i t j n) := by
  unfold sk_copy
  repeat' split
  all_goals first | exact Or.inl rfl | exact Or.inr ⟨_, rfl⟩
theorem sr_fk_write (kp X : sr_M) (s : Int32) : sr_fk kp (sk_write kp X s) := by
  unfold sk_write
  repeat' split
  all_goals first | exact Or.inl rfl | exact Or.inr ⟨_, rfl⟩
def sr_Xk (X X2 : sr_M) : Prop := (∀ k, k < 6 → X2 k = X k) ∧ sr_SC X2
theorem sr_s4 {s : Int32} (h : ¬ (s < 0 ∨ 3 < s)) : s.toNatClampNeg < 4 := by
  obtain ⟨j, hj, e⟩ := sr_rg3 h
  rw [sr_clN (by omega) e]
  exact hj
theorem sr_Xk_row {X : sr_M} (h : sr_SC X) {s : Nat} (hs : s < 4) (f : Nat → Int32) : sr_Xk X (va_up X (6 + s) f) := by
  refine ⟨fun k hk => sr_upN (by omega), fun t ht => ?_⟩
  rw [sr_upN (show (11 : Nat) ≠ 6 + s by omega)]
  exact h t ht
theorem sr_Xk_r {X : sr_M} (h : sr_SC X) : sr_Xk X X := ⟨fun _ _ => rfl, h⟩
theorem sr_Xk_lose {X : sr_M} (h : sr_SC X) (s : Int32) : sr_Xk X (sc_lose X s) := by
  unfold sc_lose
  split
  · exact sr_Xk_r h
  · split
    · exact sr_Xk_r h
    · refine ⟨fun k hk => sr_upN (by omega), fun t ht => ?_⟩
      rw [sr_upS]
      by_cases q : t = s.toNatClampNeg
      · rw [q, pk_us]
        decide
      · rw [pk_un q]
        exact h t ht
theorem sr_Xk_lay {X : sr_M} (h : sr_SC X) (s fo i v : Int32) : sr_Xk X (sc_lay X s fo i v) := by
  unfold sc_lay
  split
  · exact sr_Xk_r h
  · rename_i h1
    split
    · exact sr_Xk_r h
    · split
      · exact sr_Xk_row h (sr_s4 h1) _
      · exact sr_Xk_r h
theorem sr_Xk_copy {X : sr_M} (h : sr_SC X) (s i t j n : Int32) : sr_Xk X (sc_copy X s i t j n) := by
  unfold sc_copy
  split
  · exact sr_Xk_r h
  · split
    · exact sr_Xk_r h
    · rename_i h2
      split
      · exact sr_Xk_r h
      · split
        · split
          · exact sr_Xk_row h (sr_s4 h2) _
          · exact sr_Xk_r h
        · exact sr_Xk_r h
theorem sr_Xk_write {kp X : sr_M} (h : sr_SC X) (s : Int32) : sr_Xk X (sc_write kp X s) := by
  unfold sc_write
  split
  · exact sr_Xk_r h
  · rename_i h1
    split
    · exact sr_Xk_r h
    · split
      · exact sr_Xk_r h
      · exact ⟨fun k hk => sr_wr_k kp X (sr_s4 h1) _ k (Or.inl hk), sr_SC_wr h (sr_s4 h1) _⟩
theorem sr_Xk_sheet {X u : sr_M} (h : sr_SC X) {s fo n : Int32} (hu : sr_shC X s fo n u) : sr_Xk X u := by
  by_cases q : sr_shk s fo n
  · obtain ⟨h1, h2, h3, h4⟩ := hu.2 q
    have hs := sr_s4 q.1
    refine ⟨fun k hk => h4 k (by omega) (by omega) (by omega), fun t ht => ?_⟩
    rw [h3]
    by_cases w : t = s.toNatClampNeg
    · rw [w, pk_us]
      have q1 := q.2.2.1
      have q2 := q.2.2.2
      rw [Int32.le_iff_toInt_le] at q1 q2
      have e0 : (0 : Int32).toInt = 0 := rfl
      have e60 : (60 : Int32).toInt = 60 := rfl
      omega
    · rw [pk_un w]
      exact h t ht
  · rw [hu.1 q]
    exact sr_Xk_r h
/-! the law's state: class and reference -/
def sr_LJ (kp X c : sr_M) : Prop := sr_IC kp X ∧ sr_SC X ∧ sr_RX X c
theorem sr_LJ_6 {kp k2 X u c : sr_M} (h : sr_LJ kp X c) (hI : sr_IC k2 u) (e : ∀ k, 6 ≤ k → u k = X k) : sr_LJ k2 u c := by
  refine ⟨hI, fun s hs => by rw [e 11 (by omega)]; exact h.2.1 s hs, fun s hs => ?_⟩
  have hz : sr_sz u s = sr_sz X s := by unfold sr_sz; rw [e 11 (by omega)]
  unfold sr_R1
  rw [e 11 (by omega), e 10 (by omega), e (6 + s) (by omega), hz]
  exact h.2.2 s hs
theorem sr_LJ_kp {kp k2 X c : sr_M} (h : sr_LJ kp X c) (hK : sr_IK k2) (e0 : k2 0 = kp 0) (e2 : k2 2 = kp 2) (e5 : k2 5 0 = kp 5 0) : sr_LJ k2 X c := ⟨sr_IC_mv h.1 hK e0 e2 e5, h.2⟩
theorem sr_LJ_set {kp X u c : sr_M} (h : sr_LJ kp X c) (w v : Int32) (hu : (∀ k, k ≠ 5 → u k = X k) ∧ ∀ s, s < 4 → u 5 s = sr_ex (sk_set kp w v) s) : sr_LJ (sk_set kp w v) u c := by
  have e0 : sk_set kp w v 0 = kp 0 := sr_sk0 0 (by omega)
  have e5 : sk_set kp w v 5 0 = kp 5 0 := congrFun (sr_sk0 5 (by omega)) 0
  obtain ⟨en, ef, ec⟩ := sr_cn_c e0 e5
  refine sr_LJ_6 h ?_ (fun k hk => hu.1 k (by omega))
  refine ⟨sr_IK_set (sr_IC_K h.1) w v, ?_, ?_, fun r hr => ?_, hu.2⟩
  · rw [hu.1 4 (by omega), ef]
    exact h.1.2.1
  · rw [hu.1 4 (by omega), ec]
    exact h.1.2.2.1
  · rw [ec] at hr
    rw [hu.1 0 (by omega), hu.1 1 (by omega), hu.1 2 (by omega), hu.1 3 (by omega), sr_fig_c e0, sr_fig_c e0, sr_fig_c e0, sr_fig_c e0]
    exact h.1.2.2.2.1 r hr
theorem sr_LJ_x {kp k2 X X2 c c2 : sr_M} (h : sr_LJ kp X c) (e : sr_fk kp k2) (hX : sr_Xk X X2) (hR : sr_RX X2 c2) : sr_LJ k2 X2 c2 := ⟨sr_IC_fk (sr_IC_c h.1 hX.1) e, hX.2, hR⟩
