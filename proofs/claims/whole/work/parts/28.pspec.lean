/-! ANSWERS, out of kp and raw numbers -/
theorem sr_rg3 {x : Int32} (h : ¬ (x < 0 ∨ 3 < x)) : ∃ j, j < 4 ∧ x = nI j := by
  obtain ⟨j, h1, h2⟩ := nI_of2 (M := 3) (n := 3) rfl (fun q => h (Or.inl q)) (Int32.not_lt.mp (fun q => h (Or.inr q)))
  exact ⟨j, by omega, h2⟩
theorem sr_rg2 {x : Int32} (h : ¬ (x < 0 ∨ 2 < x)) : ∃ j, j < 3 ∧ x = nI j := by
  obtain ⟨j, h1, h2⟩ := nI_of2 (M := 2) (n := 2) rfl (fun q => h (Or.inl q)) (Int32.not_lt.mp (fun q => h (Or.inr q)))
  exact ⟨j, by omega, h2⟩
theorem sr_rg4 {x : Int32} (h : ¬ (x < 0 ∨ 4 < x)) : ∃ j, j < 5 ∧ x = nI j := by
  obtain ⟨j, h1, h2⟩ := nI_of2 (M := 4) (n := 4) rfl (fun q => h (Or.inl q)) (Int32.not_lt.mp (fun q => h (Or.inr q)))
  exact ⟨j, by omega, h2⟩
theorem sr_rg6 {x : Int32} (h : ¬ (x < 0 ∨ 6 < x)) : ∃ j, j < 7 ∧ x = nI j := by
  obtain ⟨j, h1, h2⟩ := nI_of2 (M := 6) (n := 6) rfl (fun q => h (Or.inl q)) (Int32.not_lt.mp (fun q => h (Or.inr q)))
  exact ⟨j, by omega, h2⟩
theorem sr_rg7 {x : Int32} (h : ¬ (x < 0 ∨ 7 < x)) : ∃ j, j < 8 ∧ x = nI j := by
  obtain ⟨j, h1, h2⟩ := nI_of2 (M := 7) (n := 7) rfl (fun q => h (Or.inl q)) (Int32.not_lt.mp (fun q => h (Or.inr q)))
  exact ⟨j, by omega, h2⟩
theorem sr_rg40 {x : Int32} (h : ¬ (x < 0 ∨ 40 < x)) : ∃ j, j < 41 ∧ x = nI j := by
  obtain ⟨j, h1, h2⟩ := nI_of2 (M := 40) (n := 40) rfl (fun q => h (Or.inl q)) (Int32.not_lt.mp (fun q => h (Or.inr q)))
  exact ⟨j, by omega, h2⟩
theorem sr_rg60 {x : Int32} (h : ¬ (x < 0 ∨ 60 < x)) : ∃ j, j < 61 ∧ x = nI j := by
  obtain ⟨j, h1, h2⟩ := nI_of2 (M := 60) (n := 60) rfl (fun q => h (Or.inl q)) (Int32.not_lt.mp (fun q => h (Or.inr q)))
  exact ⟨j, by omega, h2⟩
theorem sr_rgc {n : Nat} (hn : n ≤ 5) {x : Int32} (h : ¬ (x < 0 ∨ nI n - 1 < x)) : ∃ j, j < n ∧ x = nI j := by
  obtain ⟨j, h1, h2⟩ := nI_of (x := x) (fun q => h (Or.inl q))
  refine ⟨j, ?_, h2⟩
  have h3 : ¬ (nI n - 1 < x) := fun q => h (Or.inr q)
  rw [h2, Int32.lt_iff_toInt_lt, sr_nIi (by omega), sr_subI (by rw [sr_nIi (by omega)]; show _ ≤ (n : Int) - 1; omega) (by rw [sr_nIi (by omega)]; show (n : Int) - 1 < _; omega), sr_nIi (by omega)] at h3
  have e1 : (1 : Int32).toInt = 1 := rfl
  omega
-- answers of both sides
def sp_type (kp : sr_M) (b : Int32) : Int32 := if b < 0 ∨ 255 < b then -2 else if sr_n kp < 40 then nI (sr_n kp + 1) else -4
def sk_type (kp : sr_M) (b : Int32) : sr_M := if b < 0 ∨ 255 < b then kp else sr_ty kp b
def sp_undo (kp : sr_M) : Int32 := if ¬ sr_n kp = 0 then nI (sr_n kp - 1) else -3
def sp_runner (kp : sr_M) (r w : Int32) : Int32 := if r < 0 ∨ nI (sr_cnt kp) - 1 < r then -2 else if w < 0 ∨ 3 < w then -2 else sr_fig kp r.toNatClampNeg w.toNatClampNeg
def sp_runs (kp : sr_M) (s r : Int32) : Int32 := if s < 0 ∨ 3 < s then -2 else if r < 0 ∨ 4 < r then -2 else kp 1 s.toNatClampNeg
def sk_runs (kp : sr_M) (s r : Int32) : sr_M := if s < 0 ∨ 3 < s then kp else if r < 0 ∨ 4 < r then kp else va_up kp 1 (upd (kp 1) s.toNatClampNeg r)
def sp_set (kp : sr_M) (w v : Int32) : Int32 := if w < 0 ∨ 6 < w then -2 else if v < sr_tL w.toNatClampNeg ∨ sr_tM_ w.toNatClampNeg < v then -2 else kp 2 w.toNatClampNeg
def sk_set (kp : sr_M) (w v : Int32) : sr_M := if w < 0 ∨ 6 < w then kp else if v < sr_tL w.toNatClampNeg ∨ sr_tM_ w.toNatClampNeg < v then kp else va_up kp 2 (upd (kp 2) w.toNatClampNeg v)
def sp_mark (kp : sr_M) (c v : Int32) : Int32 := if c < 0 ∨ 2 < c then -2 else if v < 0 ∨ 40 < v then -2 else kp 3 c.toNatClampNeg
def sk_mark (kp : sr_M) (c v : Int32) : sr_M := if c < 0 ∨ 2 < c then kp else if v < 0 ∨ 40 < v then kp else va_up kp 3 (upd (kp 3) c.toNatClampNeg v)
def sp_slip (kp : sr_M) (c v : Int32) : Int32 := if c < 0 ∨ 2 < c then -1002 else if v < -60 ∨ 60 < v then -1002 else kp 4 c.toNatClampNeg
def sk_slip (kp : sr_M) (c v : Int32) : sr_M := if c < 0 ∨ 2 < c then kp else if v < -60 ∨ 60 < v then kp else va_up kp 4 (upd (kp 4) c.toNatClampNeg v)
def sp_takes (kp : sr_M) (r s y : Int32) : Int32 := if r < 0 ∨ nI (sr_cnt kp) - 1 < r then -2 else if s < 0 ∨ 3 < s then -2 else if y < 0 ∨ 100 < y then -2 else sr_T kp r.toNatClampNeg s.toNatClampNeg y
def sp_when (kp : sr_M) (s w : Int32) : Int32 := if s < 0 ∨ 3 < s then -2 else if w < 0 ∨ 1 < w then -2 else if ¬ sr_th kp then -3 else if w = 0 then sr_gs kp s.toNatClampNeg else sr_gs kp s.toNatClampNeg + sr_T kp (sr_ru kp s.toNatClampNeg) s.toNatClampNeg 100
def sr_me (kp : sr_M) (c : Nat) : Int32 := sr_mt kp (sr_ru kp c) (sr_ru kp (c + 1)) c (kp 3 c) (kp 4 c)
def sp_meet (kp : sr_M) (c : Int32) : Int32 := if c < 0 ∨ 2 < c then -2 else if ¬ sr_th kp then -3 else sr_me kp c.toNatClampNeg
def sp_kind (kp : sr_M) (c : Int32) : Int32 := if c < 0 ∨ 2 < c then -2 else if ¬ sr_th kp then -3 else sr_kd kp (sr_me kp c.toNatClampNeg)
def sp_time (kp : sr_M) : Int32 := if ¬ sr_th kp then -3 else sr_ti kp (kp 4)
def sp_carries (kp : sr_M) (s : Int32) : Int32 := if s < 0 ∨ 3 < s then -2 else if ¬ sr_th kp then -3 else sr_ca kp s.toNatClampNeg
def sr_cH (kp : sr_M) (c : Nat) : Nat := sr_cN kp (sr_ru kp c) (sr_ru kp (c + 1)) c (sr_mk kp c)
def sp_chance (kp : sr_M) (c : Int32) : Int32 := if c < 0 ∨ 2 < c then -2 else if ¬ sr_th kp then -3 else nI (sr_cH kp c.toNatClampNeg)
def sp_all (kp : sr_M) (w : Int32) : Int64 := if w < 0 ∨ 1 < w then -9223372036854775806 else if ¬ sr_th kp then -9223372036854775805 else (nI (sr_fo kp w)).toInt64
def sp_safe (kp : sr_M) (c k : Int32) : Int32 := if c < 0 ∨ 2 < c then -2 else if k < 0 ∨ 16 < k then -2 else if ¬ sr_th kp then -3 else sr_sf kp (sr_ru kp c.toNatClampNeg) (sr_ru kp (c.toNatClampNeg + 1)) c.toNatClampNeg k
def sp_best (kp : sr_M) (c : Int32) : Int32 := if c < 0 ∨ 2 < c then -2 else if ¬ sr_th kp then -3 else nI (sr_best kp (sr_ru kp c.toNatClampNeg) (sr_ru kp (c.toNatClampNeg + 1)) c.toNatClampNeg (kp 4 c.toNatClampNeg))
def sr_od (kp : sr_M) (wo : Int32) (j : Nat) : Int32 := sr_so kp (sr_bar wo) (fun _ => 0) j
def sp_order (kp : sr_M) (wo w : Int32) : Int32 := if wo < -1 ∨ 4 < wo then -2 else if w < 0 ∨ 7 < w then -2 else sr_od kp wo w.toNatClampNeg
def sp_blame (kp : sr_M) (c x : Int32) : Int32 := if c < 0 ∨ 2 < c then -2 else if x < 0 ∨ nI (sr_zo kp) < x then -2 else if ¬ sr_th kp then -3 else sr_gu kp c.toNatClampNeg x
def sr_l3 (st sd : Int32) (c : Nat) : Int32 := if c = 0 then sr_ls st (sr_nx sd) else if c = 1 then sr_ls st (sr_nx (sr_nx sd)) else sr_ls st (sr_nx (sr_nx (sr_nx sd)))
def sr_rt (kp : sr_M) (sd : Int32) : Int32 := sr_ti kp (sr_l3 (kp 2 6) sd)
def sp_lot (kp : sr_M) (sd : Int32) : Int32 := if ¬ sr_th kp then -3 else sr_rt kp sd
def sr_rc (kp : sr_M) (most : Int32) : Nat → Int32 → Nat
  | 0, _ => 0
  | k + 1, sd => (if sr_rt kp sd = -1 then 0 else if most < sr_rt kp sd then 0 else 1) + sr_rc kp most k (sr_nx (sr_nx (sr_nx sd)))
def sp_races (kp : sr_M) (sd n most : Int32) : Int32 := if n < 0 ∨ 60 < n then -2 else if most < 0 ∨ 99999 < most then -2 else if ¬ sr_th kp then -3 else nI (sr_rc kp most n.toNatClampNeg sd)
theorem sr_rc_le (kp : sr_M) (most : Int32) : ∀ k sd, sr_rc kp most k sd ≤ k
  | 0, _ => Nat.le_refl _
  | k + 1, sd => by
    unfold sr_rc
    have := sr_rc_le kp most k (sr_nx (sr_nx (sr_nx sd)))
    split
    · omega
    · split <;> omega
def sp_count (kp : sr_M) (w : Int32) : Int32 := if w = 0 then nI (sr_cnt kp) else if w = 1 then nI (sr_n kp) else if w = 2 then nI (sr_zo kp) else if w = 3 then kp 3 0 else if w = 4 then kp 3 1 else if w = 5 then kp 3 2 else if w = 6 then sr_pop (sr_bits kp) else if w = 7 then kp 2 2 else if w = 8 then kp 5 1 else -2
theorem sr_ti_c {kp : sr_M} {f g : Nat → Int32} (h0 : f 0 = g 0) (h1 : f 1 = g 1) (h2 : f 2 = g 2) : sr_ti kp f = sr_ti kp g := by
  unfold sr_ti sr_lg
  rw [h0, h1, h2]
theorem sr_Ds_ti {kp u : sr_M} {sd : Int32} (h : sr_Ds sd (kp 2 6) u) : sr_ti kp (u 8) = sr_rt kp sd := sr_ti_c h.2.1 h.2.2.1 h.2.2.2
theorem sr_tPb (j : Nat) (hj : j < 16) : -2 ≤ (sr_tP j).toInt ∧ (sr_tP j).toInt ≤ 2 := by
  rcases (show j = 0 ∨ j = 1 ∨ j = 2 ∨ j = 3 ∨ j = 4 ∨ j = 5 ∨ j = 6 ∨ j = 7 ∨ j = 8 ∨ j = 9 ∨ j = 10 ∨ j = 11 ∨ j = 12 ∨ j = 13 ∨ j = 14 ∨ j = 15 by omega) with rfl | rfl | rfl | rfl | rfl | rfl | rfl | rfl | rfl | rfl | rfl | rfl | rfl | rfl | rfl | rfl <;> decide
theorem sr_lsb {kp : sr_M} (h : sr_IK kp) (x : Int32) : sr_bs (sr_ls (kp 2 6) x) := by
  have r := sr_IK_r h (j := 6) (by omega) (by omega)
  have m6 : sr_mo 6 = 30 := rfl
  have b := sr_tPb (sr_lo x) (sr_lo_lt x)
  have p := sr_mulb (x := (sr_tP (sr_lo x)).toInt) (y := (kp 2 6).toInt) (A := 2) (B := 30) (by omega) (by omega) (by omega) (by omega)
  unfold sr_bs sr_ls
  rw [sr_mulI 2 30] <;> omega
theorem sr_Ds_b {kp u : sr_M} (h : sr_IK kp) {sd : Int32} (hd : sr_Ds sd (kp 2 6) u) : ∀ c, c < 3 → sr_bs (u 8 c) := by
  intro c hc
  rcases (show c = 0 ∨ c = 1 ∨ c = 2 by omega) with rfl | rfl | rfl
  · rw [hd.2.1]; exact sr_lsb h _
  · rw [hd.2.2.1]; exact sr_lsb h _
  · rw [hd.2.2.2]; exact sr_lsb h _
-- what an order tells doesn't hang on what was told before
theorem sr_L_r (R : (Nat → Int32) → (Nat → Int32) → Prop) {f : (Nat → Int32) → Nat → Nat → Int32} (hf : ∀ T U i, R T U → R (f T i) (f U i)) : ∀ k i T U, R T U → R (sr_L f k i T) (sr_L f k i U)
  | 0, _, _, _, h => h
  | k + 1, i, T, U, h => sr_L_r R hf k (i + 1) _ _ (hf T U i h)
def sr_ag (T U : Nat → Int32) : Prop := ∀ j, j < 8 → T j = U j
theorem sr_cw_r {kp : sr_M} {T U : Nat → Int32} (a b c d : Nat) : sr_ag (sr_cw kp T a b c d) (sr_cw kp U a b c d) := by
  intro j hj
  rcases (show j = 0 ∨ j = 1 ∨ j = 2 ∨ j = 3 ∨ j = 4 ∨ j = 5 ∨ j = 6 ∨ j = 7 by omega) with rfl | rfl | rfl | rfl | rfl | rfl | rfl | rfl <;> rfl
theorem sr_cons_r {kp : sr_M} {T U : Nat → Int32} (h : sr_ag T U) (a b c d : Nat) : sr_ag (sr_cons kp T a b c d) (sr_cons kp U a b c d) := by
  have h0 := h 0 (by omega)
  unfold sr_cons
  rw [h0]
  split
  · exact sr_cw_r a b c d
  · split
    · exact sr_cw_r a b c d
    · exact h
theorem sr_so_r (kp : sr_M) (br : Int32) (g g' : Nat → Int32) : sr_ag (sr_so kp br g) (sr_so kp br g') := by
  unfold sr_so
  refine sr_L_r sr_ag (fun T U a h => ?_) _ _ _ _ (fun j hj => by unfold sr_fl; rw [if_pos hj, if_pos hj])
  refine sr_L_r sr_ag (fun T U b h => ?_) _ _ _ _ h
  refine sr_L_r sr_ag (fun T U c h => ?_) _ _ _ _ h
  refine sr_L_r sr_ag (fun T U d h => ?_) _ _ _ _ h
  unfold sr_st4
  split
  · split
    · exact sr_cons_r h a b c d
    · exact h
  · exact h
theorem sr_so_od {kp : sr_M} {wo : Int32} {g : Nat → Int32} {j : Nat} (hj : j < 8) : sr_so kp (sr_bar wo) g j = sr_od kp wo j := sr_so_r kp _ g _ j hj
theorem sr_sw9 (x : Int32) : x = 0 ∨ x = 1 ∨ x = 2 ∨ x = 3 ∨ x = 4 ∨ x = 5 ∨ x = 6 ∨ x = 7 ∨ x = 8 ∨ (x.toInt < 0 ∨ 8 < x.toInt) := by
  have h : ∀ k : Nat, k < 9 → x.toInt = k → x = nI k := fun k hk e => Int32.toInt_inj.mp (by rw [e, sr_nIi (by omega)])
  by_cases q : x.toInt < 0
  · exact Or.inr (Or.inr (Or.inr (Or.inr (Or.inr (Or.inr (Or.inr (Or.inr (Or.inr (Or.inl q)))))))))
  · by_cases z : 8 < x.toInt
    · exact Or.inr (Or.inr (Or.inr (Or.inr (Or.inr (Or.inr (Or.inr (Or.inr (Or.inr (Or.inr z)))))))))
    · obtain ⟨k, hk⟩ : ∃ k : Nat, x.toInt = k := ⟨x.toInt.toNat, by omega⟩
      have h9 := h k (by omega) hk
      rcases (show k = 0 ∨ k = 1 ∨ k = 2 ∨ k = 3 ∨ k = 4 ∨ k = 5 ∨ k = 6 ∨ k = 7 ∨ k = 8 by omega) with rfl | rfl | rfl | rfl | rfl | rfl | rfl | rfl | rfl <;> (rw [h9]; decide)
theorem sr_by {b : Int32} (h : ¬ (b < 0 ∨ 255 < b)) : 0 ≤ b.toInt ∧ b.toInt ≤ 255 := by
  rw [not_or, Int32.lt_iff_toInt_lt, Int32.lt_iff_toInt_lt] at h
  have e0 : (0 : Int32).toInt = 0 := rfl
  have e1 : (255 : Int32).toInt = 255 := rfl
  omega
theorem sr_ty_n {kp : sr_M} {b : Int32} (h : sr_n kp < 40) : sr_ty kp b 5 0 = nI (sr_n kp + 1) := by
  unfold sr_ty
  rw [if_pos h]
  rfl
theorem sr_ctd {kp : sr_M} {w : Int32} (h : w.toInt < 0 ∨ 8 < w.toInt) : -2 = sp_count kp w := by
  have k : ∀ j : Nat, j < 9 → w ≠ nI j := fun j hj e => by
    rw [e, sr_nIi (by omega)] at h
    omega
  unfold sp_count
  rw [if_neg (show ¬ w = 0 from k 0 (by omega)), if_neg (show ¬ w = 1 from k 1 (by omega)), if_neg (show ¬ w = 2 from k 2 (by omega)), if_neg (show ¬ w = 3 from k 3 (by omega)), if_neg (show ¬ w = 4 from k 4 (by omega)), if_neg (show ¬ w = 5 from k 5 (by omega)), if_neg (show ¬ w = 6 from k 6 (by omega)), if_neg (show ¬ w = 7 from k 7 (by omega)), if_neg (show ¬ w = 8 from k 8 (by omega))]
theorem sr_rc_s (kp : sr_M) (most : Int32) (k : Nat) (sd : Int32) : sr_rc kp most (k + 1) sd = (if sr_rt kp sd = -1 then 0 else if most < sr_rt kp sd then 0 else 1) + sr_rc kp most k (sr_nx (sr_nx (sr_nx sd))) := rfl
