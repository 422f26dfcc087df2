theorem sr_ev {u : Nat} (a b : Int32) : (if nI (u % 2) = 0 then a else b) = if u % 2 = 0 then a else b := by
  have e : nI (u % 2) = 0 ↔ u % 2 = 0 := nI_eq (b := 0) (by omega) (by omega)
  by_cases h : u % 2 = 0
  · rw [if_pos h, if_pos (e.mpr h)]
  · rw [if_neg h, if_neg (fun q => h (e.mp q))]
theorem sr_wa_e (kp : sr_M) (sl : Int32) : (if 0 ≤ kp 2 2 + sl then kp 2 2 + sl else 0) = sr_wa kp sl := by
  unfold sr_wa
  by_cases h : kp 2 2 + sl < 0
  · rw [if_pos h, if_neg (Int32.not_le.mpr h)]
  · rw [if_neg h, if_pos (Int32.not_lt.mp h)]
def sn_meet (kp : sr_M) (c : Nat) : Int32 := if ¬ sr_th kp then -3 else sr_me kp c
def sn_kind (kp : sr_M) (c : Nat) : Int32 := if ¬ sr_th kp then -3 else sr_kd kp (sr_me kp c)
def sn_carries (kp : sr_M) (s : Nat) : Int32 := if ¬ sr_th kp then -3 else sr_ca kp s
theorem sr_me3 {kp : sr_M} (h : sr_IK kp) (c : Nat) : sr_me kp c ≠ -3 := by
  have hz := sr_IK_zo5 h
  unfold sr_me
  rcases sr_mtN h (co := sr_ru kp c) (go := sr_ru kp (c + 1)) (c := c) (mk := kp 3 c) (sl := kp 4 c) with e | ⟨x, h1, e⟩
  · rw [e]; decide
  · rw [e]
    intro q
    have := congrArg Int32.toInt q
    rw [sr_nIi (by omega)] at this
    have e3 : (-3 : Int32).toInt = -3 := rfl
    omega
theorem sr_kn {kp : sr_M} (h : sr_IK kp) (c : Nat) : (if sn_meet kp c = -3 then -3 else if sn_meet kp c = -1 then 3 else if sn_meet kp c = 0 then 2 else if sn_meet kp c < nI (sr_zo kp) - 2 then 0 else 1) = sn_kind kp c := by
  unfold sn_kind
  by_cases t : sr_th kp
  · have e : sn_meet kp c = sr_me kp c := if_neg (fun q => q t)
    rw [e, if_neg (sr_me3 h c), if_neg (show ¬ ¬ sr_th kp from fun q => q t)]
    rfl
  · have e : sn_meet kp c = -3 := if_pos t
    rw [e, if_pos rfl, if_pos t]
theorem sr_DlI {kp : sr_M} (h : sr_IK kp) {r : Nat} (hr : r < sr_cnt kp) (s : Nat) {mk sl : Int32} (hm : sr_b0 mk 40) (hs : sr_bs sl) : 0 ≤ (sr_Dl kp r s mk sl).toInt ∧ (sr_Dl kp r s mk sl).toInt ≤ 60000 := by
  have w := sr_waI h hs
  have e100 : (100 : Int32).toInt = 100 := rfl
  unfold sr_b0 at w hm
  have a2 : (100 - mk).toInt = 100 - mk.toInt := by rw [sr_subI, e100] <;> omega
  have t2 := (sr_TI h hr s (y := 100 - mk) ⟨by omega, by omega⟩).2
  unfold sr_Dl
  rw [sr_addI] <;> omega
theorem sr_legN {kp : sr_M} (h : sr_IK kp) {co go c : Nat} (h1 : co < sr_cnt kp) {mk sl : Int32} (hm : sr_b0 mk 40) (hs : sr_bs sl) : sr_leg kp co go c mk sl = -1 ↔ sr_mt kp co go c mk sl = -1 := by
  have d := sr_DlI h h1 c hm hs
  have r5 := sr_IK_r h (j := 5) (by omega) (by omega)
  have m5 : sr_mo 5 = 99 := rfl
  have em : (-1 : Int32).toInt = -1 := rfl
  have e0 : (0 : Int32).toInt = 0 := rfl
  unfold sr_leg
  by_cases q : sr_mt kp co go c mk sl = -1
  · rw [if_pos q]
    exact ⟨fun _ => q, fun _ => rfl⟩
  · rw [if_neg q]
    refine ⟨fun z => ?_, fun z => absurd z q⟩
    exfalso
    have z2 := congrArg Int32.toInt z
    split at z2
    · rw [sr_addI (by omega) (by omega)] at z2
      omega
    · rw [sr_addI (by omega) (by omega)] at z2
      omega
def sr_ms (kp : sr_M) (f : Nat → Int32) (c : Nat) : Int32 := sr_mt kp (sr_ru kp c) (sr_ru kp (c + 1)) c (kp 3 c) (f c)
def sr_dm (kp : sr_M) (f : Nat → Int32) (c : Nat) : Int32 := sr_Dl kp (sr_ru kp c) c (kp 3 c) (f c)
def sr_bu (kp : sr_M) (x : Int32) : Int32 := if x = 0 then kp 2 5 else 0
theorem sr_lgm {kp : sr_M} {f : Nat → Int32} {c : Nat} (q : ¬ sr_ms kp f c = -1) : sr_lg kp f c = sr_dm kp f c + sr_bu kp (sr_ms kp f c) := if_neg q
/-- a race's time, as the reference has it -/
theorem sr_ti_m {kp : sr_M} (h : sr_IK kp) (hT : sr_th kp) {f : Nat → Int32} (hf : ∀ c, c < 3 → sr_bs (f c)) : sr_ti kp f = if sr_ms kp f 0 = -1 then -1 else if sr_ms kp f 1 = -1 then -1 else if sr_ms kp f 2 = -1 then -1 else 0 + (sr_dm kp f 0 + sr_bu kp (sr_ms kp f 0)) + (sr_dm kp f 1 + sr_bu kp (sr_ms kp f 1)) + (sr_dm kp f 2 + sr_bu kp (sr_ms kp f 2)) + sr_T kp (sr_ru kp 3) 3 100 := by
  have k : ∀ c, c < 3 → (sr_lg kp f c = -1 ↔ sr_ms kp f c = -1) := fun c hc => sr_legN h (sr_th_at hT (by omega)) (sr_IK_mb h hc) (hf c hc)
  unfold sr_ti
  by_cases q0 : sr_ms kp f 0 = -1
  · rw [if_pos q0, if_pos ((k 0 (by omega)).mpr q0)]
  · rw [if_neg q0, if_neg (fun z => q0 ((k 0 (by omega)).mp z))]
    by_cases q1 : sr_ms kp f 1 = -1
    · rw [if_pos q1, if_pos ((k 1 (by omega)).mpr q1)]
    · rw [if_neg q1, if_neg (fun z => q1 ((k 1 (by omega)).mp z))]
      by_cases q2 : sr_ms kp f 2 = -1
      · rw [if_pos q2, if_pos ((k 2 (by omega)).mpr q2)]
      · rw [if_neg q2, if_neg (fun z => q2 ((k 2 (by omega)).mp z)), sr_lgm q0, sr_lgm q1, sr_lgm q2]
theorem sr_w01 {w : Int32} (h : ¬ (w < 0 ∨ 1 < w)) (h1 : ¬ w = 1) : w = 0 := by
  obtain ⟨j, h2, h3⟩ := nI_of2 (M := 1) (n := 1) rfl (fun q => h (Or.inl q)) (Int32.not_lt.mp (fun q => h (Or.inr q)))
  rcases (show j = 0 ∨ j = 1 by omega) with rfl | rfl
  · exact h3
  · exact absurd h3 h1
