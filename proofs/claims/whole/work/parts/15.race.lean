/-! WHAT A RACE SAYS -/
def sr_gs (kp : sr_M) : Nat → Int32
  | 0 => 0
  | i + 1 => sr_gs kp i + sr_Dl kp (sr_ru kp i) i (kp 3 i) (kp 4 i)
def sr_fr (kp : sr_M) (u : Nat) : Int32 := if u = 0 then 0 else sr_mt kp (sr_ru kp (u - 1)) (sr_ru kp u) (u - 1) (kp 3 (u - 1)) (kp 4 (u - 1))
def sr_tt (kp : sr_M) (u : Nat) : Int32 := if u = 3 then 0 else sr_mt kp (sr_ru kp u) (sr_ru kp (u + 1)) u (kp 3 u) (kp 4 u)
def sr_ca (kp : sr_M) (u : Nat) : Int32 := if sr_fr kp u = -1 then -1 else if sr_tt kp u = -1 then -1 else 100 + sr_tt kp u - sr_fr kp u
theorem sr_fr_e {kp : sr_M} {u : Nat} (h : u < 4) : (if nI u = 0 then 0 else sr_mt kp (sr_ru kp (u - 1)) (sr_ru kp (u - 1 + 1)) (u - 1) (kp 3 (u - 1)) (kp 4 (u - 1))) = sr_fr kp u := by
  unfold sr_fr
  rcases (show u = 0 ∨ 0 < u by omega) with q | q
  · subst q
    rw [if_pos (show nI 0 = 0 from nI_0), if_pos rfl]
  · rw [if_neg (nI_ne0 q (by omega)), if_neg (by omega), show u - 1 + 1 = u by omega]
theorem sr_tt_e {kp : sr_M} {u : Nat} (h : u < 4) : (if nI u = 3 then 0 else sr_mt kp (sr_ru kp u) (sr_ru kp (u + 1)) u (kp 3 u) (kp 4 u)) = sr_tt kp u := by
  unfold sr_tt
  have e : nI u = 3 ↔ u = 3 := nI_eq (b := 3) (by omega) (by omega)
  by_cases q : u = 3
  · rw [if_pos (e.mpr q), if_pos q]
  · rw [if_neg (fun z => q (e.mp z)), if_neg q]
def sr_lg (kp : sr_M) (f : Nat → Int32) (c : Nat) : Int32 := sr_leg kp (sr_ru kp c) (sr_ru kp (c + 1)) c (kp 3 c) (f c)
def sr_ti (kp : sr_M) (f : Nat → Int32) : Int32 := if sr_lg kp f 0 = -1 then -1 else if sr_lg kp f 1 = -1 then -1 else if sr_lg kp f 2 = -1 then -1 else 0 + sr_lg kp f 0 + sr_lg kp f 1 + sr_lg kp f 2 + sr_T kp (sr_ru kp 3) 3 100
def sr_bits (kp : sr_M) : Int32 := 0 ||| ((1 : Int32) <<< (nI (sr_ru kp 0) &&& 31)) ||| ((1 : Int32) <<< (nI (sr_ru kp 1) &&& 31)) ||| ((1 : Int32) <<< (nI (sr_ru kp 2) &&& 31)) ||| ((1 : Int32) <<< (nI (sr_ru kp 3) &&& 31))
def sr_us (x s : Int32) : Int32 := (x.toUInt32 >>> (s.toUInt32 &&& Int32.toUInt32 31)).toInt32
def sr_p1 (x : Int32) : Int32 := x - (sr_us x 1 &&& 1431655765)
def sr_p2 (x : Int32) : Int32 := (x &&& 858993459) + (sr_us x 2 &&& 858993459)
def sr_p3 (x : Int32) : Int32 := (x + sr_us x 4) &&& 252645135
def sr_p4 (x : Int32) : Int32 := x + sr_us x 8
def sr_p5 (x : Int32) : Int32 := x + sr_us x 16
def sr_pop (x : Int32) : Int32 := sr_p5 (sr_p4 (sr_p3 (sr_p2 (sr_p1 x)))) &&& 63
-- odds
def sr_sp (kp : sr_M) (i : Nat) : Int32 := (nI i - 2) * kp 2 6
def sr_c1 (kp : sr_M) (co go c m k o : Nat) : Nat := if sr_mt kp co go c (nI m) (sr_sp kp k) = -1 then 0 else o
def sr_cN (kp : sr_M) (co go c m : Nat) : Nat := sr_c1 kp co go c m 0 1 + sr_c1 kp co go c m 1 4 + sr_c1 kp co go c m 2 6 + sr_c1 kp co go c m 3 4 + sr_c1 kp co go c m 4 1
theorem sr_c1_le (kp : sr_M) (co go c m k o : Nat) : sr_c1 kp co go c m k o ≤ o := by
  unfold sr_c1
  split <;> omega
theorem sr_cN16 (kp : sr_M) (co go c m : Nat) : sr_cN kp co go c m ≤ 16 := by
  unfold sr_cN
  have h0 := sr_c1_le kp co go c m 0 1
  have h1 := sr_c1_le kp co go c m 1 4
  have h2 := sr_c1_le kp co go c m 2 6
  have h3 := sr_c1_le kp co go c m 3 4
  have h4 := sr_c1_le kp co go c m 4 1
  omega
/-- one slip's share, as the class has it -/
theorem sr_sh1 {kp : sr_M} (h : sr_IK kp) {co go c : Nat} (h1 : co < sr_cnt kp) (h2 : go < sr_cnt kp) {m : Nat} (hm : m ≤ 40) {k : Nat} (hk : k < 5) (a o : Nat) : (if nI (sr_best kp co go c (sr_sp kp k)) < nI m then nI a else nI a + nI o) = nI (a + sr_c1 kp co go c m k o) := by
  have hb := sr_bestE h h1 h2 (c := c) (sl := sr_sp kp k) (sr_bsp h hk) hm
  have hl := sr_best40 kp co go c (sr_sp kp k)
  have e : (nI (sr_best kp co go c (sr_sp kp k)) < nI m) ↔ sr_best kp co go c (sr_sp kp k) < m := nI_ltI (by omega) (by omega)
  unfold sr_c1
  by_cases q : sr_mt kp co go c (nI m) (sr_sp kp k) = -1
  · rw [if_pos q, if_pos (e.mpr (by rcases Nat.lt_or_ge (sr_best kp co go c (sr_sp kp k)) m with z | z; exact z; exact absurd q (hb.mpr z)))]
    rfl
  · rw [if_neg q, if_neg (fun z => by have := hb.mp q; have := e.mp z; omega), nI_add]
theorem sr_shA {kp : sr_M} (h : sr_IK kp) {co go c : Nat} (h1 : co < sr_cnt kp) (h2 : go < sr_cnt kp) {m : Nat} (hm : m ≤ 40) {x0 x1 x2 x3 x4 : Int32}
    (e0 : x0 = if nI (sr_best kp co go c (sr_sp kp 0)) < nI m then 0 else 0 + sr_tS 0) (e1 : x1 = if nI (sr_best kp co go c (sr_sp kp 1)) < nI m then x0 else x0 + sr_tS 1) (e2 : x2 = if nI (sr_best kp co go c (sr_sp kp 2)) < nI m then x1 else x1 + sr_tS 2) (e3 : x3 = if nI (sr_best kp co go c (sr_sp kp 3)) < nI m then x2 else x2 + sr_tS 3) (e4 : x4 = if nI (sr_best kp co go c (sr_sp kp 4)) < nI m then x3 else x3 + sr_tS 4) : x4 = nI (sr_cN kp co go c m) := by
  have g0 := sr_sh1 h h1 h2 (c := c) hm (k := 0) (by omega) 0 1
  rw [e0] at e1
  rw [show (if nI (sr_best kp co go c (sr_sp kp 0)) < nI m then (0 : Int32) else 0 + sr_tS 0) = nI (0 + sr_c1 kp co go c m 0 1) from g0] at e1
  have g1 := sr_sh1 h h1 h2 (c := c) hm (k := 1) (by omega) (0 + sr_c1 kp co go c m 0 1) 4
  rw [e1, show (if nI (sr_best kp co go c (sr_sp kp 1)) < nI m then nI (0 + sr_c1 kp co go c m 0 1) else nI (0 + sr_c1 kp co go c m 0 1) + sr_tS 1) = nI (0 + sr_c1 kp co go c m 0 1 + sr_c1 kp co go c m 1 4) from g1] at e2
  have g2 := sr_sh1 h h1 h2 (c := c) hm (k := 2) (by omega) (0 + sr_c1 kp co go c m 0 1 + sr_c1 kp co go c m 1 4) 6
  rw [e2, show (if nI (sr_best kp co go c (sr_sp kp 2)) < nI m then nI (0 + sr_c1 kp co go c m 0 1 + sr_c1 kp co go c m 1 4) else nI (0 + sr_c1 kp co go c m 0 1 + sr_c1 kp co go c m 1 4) + sr_tS 2) = nI (0 + sr_c1 kp co go c m 0 1 + sr_c1 kp co go c m 1 4 + sr_c1 kp co go c m 2 6) from g2] at e3
  have g3 := sr_sh1 h h1 h2 (c := c) hm (k := 3) (by omega) (0 + sr_c1 kp co go c m 0 1 + sr_c1 kp co go c m 1 4 + sr_c1 kp co go c m 2 6) 4
  rw [e3, show (if nI (sr_best kp co go c (sr_sp kp 3)) < nI m then nI (0 + sr_c1 kp co go c m 0 1 + sr_c1 kp co go c m 1 4 + sr_c1 kp co go c m 2 6) else nI (0 + sr_c1 kp co go c m 0 1 + sr_c1 kp co go c m 1 4 + sr_c1 kp co go c m 2 6) + sr_tS 3) = nI (0 + sr_c1 kp co go c m 0 1 + sr_c1 kp co go c m 1 4 + sr_c1 kp co go c m 2 6 + sr_c1 kp co go c m 3 4) from g3] at e4
  have g4 := sr_sh1 h h1 h2 (c := c) hm (k := 4) (by omega) (0 + sr_c1 kp co go c m 0 1 + sr_c1 kp co go c m 1 4 + sr_c1 kp co go c m 2 6 + sr_c1 kp co go c m 3 4) 1
  rw [e4, show (if nI (sr_best kp co go c (sr_sp kp 4)) < nI m then nI (0 + sr_c1 kp co go c m 0 1 + sr_c1 kp co go c m 1 4 + sr_c1 kp co go c m 2 6 + sr_c1 kp co go c m 3 4) else nI (0 + sr_c1 kp co go c m 0 1 + sr_c1 kp co go c m 1 4 + sr_c1 kp co go c m 2 6 + sr_c1 kp co go c m 3 4) + sr_tS 4) = nI (0 + sr_c1 kp co go c m 0 1 + sr_c1 kp co go c m 1 4 + sr_c1 kp co go c m 2 6 + sr_c1 kp co go c m 3 4 + sr_c1 kp co go c m 4 1) from g4]
  unfold sr_cN
  rw [Nat.zero_add]
def sr_hv : Nat → Nat → Nat → Nat × Nat
  | 0, A, B => (A, B)
  | k + 1, A, B => if A % 2 = 0 then sr_hv k (A / 2) (B / 2) else (A, B)
theorem sr_hv_e {i A B : Nat} (hi : i < 12) (h : A % 2 = 0) : sr_hv (12 - i) A B = sr_hv (12 - (i + 1)) (A / 2) (B / 2) := by
  rw [show 12 - i = (12 - (i + 1)) + 1 by omega]
  exact if_pos h
theorem sr_hv_o {i A B : Nat} (hi : i < 12) (h : ¬ A % 2 = 0) : sr_hv (12 - i) A B = (A, B) := by
  rw [show 12 - i = (12 - (i + 1)) + 1 by omega]
  exact if_neg h
def sr_c3 (kp : sr_M) : Nat := 1 * sr_cN kp (sr_ru kp 0) (sr_ru kp 1) 0 (sr_mk kp 0) * sr_cN kp (sr_ru kp 1) (sr_ru kp 2) 1 (sr_mk kp 1) * sr_cN kp (sr_ru kp 2) (sr_ru kp 3) 2 (sr_mk kp 2)
theorem sr_c3_le (kp : sr_M) : sr_c3 kp ≤ 4096 := by
  unfold sr_c3
  have h0 := sr_cN16 kp (sr_ru kp 0) (sr_ru kp 1) 0 (sr_mk kp 0)
  have h1 := sr_cN16 kp (sr_ru kp 1) (sr_ru kp 2) 1 (sr_mk kp 1)
  have h2 := sr_cN16 kp (sr_ru kp 2) (sr_ru kp 3) 2 (sr_mk kp 2)
  have := Nat.mul_le_mul (Nat.mul_le_mul (Nat.mul_le_mul (Nat.le_refl 1) h0) h1) h2
  omega
def sr_fo (kp : sr_M) (what : Int32) : Nat := if what = 0 then (sr_hv 12 (sr_c3 kp) 4096).1 else (sr_hv 12 (sr_c3 kp) 4096).2
def sr_dn (p : Nat → Bool) : Nat → Int32
  | 0 => -1
  | j + 1 => if p j = true then nI j else sr_dn p j
def sr_sf (kp : sr_M) (co go c : Nat) (k : Int32) : Int32 := sr_dn (fun m => decide (k ≤ nI (sr_cN kp co go c m))) 41
def sr_g1 (x y b m : Int32) : Int32 := if x = y then b ||| m else b
def sr_gu (kp : sr_M) (c : Nat) (x : Int32) : Int32 :=
  sr_g1 (sr_mt kp (sr_ru kp c) (sr_ru kp (c + 1)) c (kp 3 c) (sr_sp kp 4)) x (sr_g1 (sr_mt kp (sr_ru kp c) (sr_ru kp (c + 1)) c (kp 3 c) (sr_sp kp 3)) x (sr_g1 (sr_mt kp (sr_ru kp c) (sr_ru kp (c + 1)) c (kp 3 c) (sr_sp kp 2)) x (sr_g1 (sr_mt kp (sr_ru kp c) (sr_ru kp (c + 1)) c (kp 3 c) (sr_sp kp 1)) x (sr_g1 (sr_mt kp (sr_ru kp c) (sr_ru kp (c + 1)) c (kp 3 c) (sr_sp kp 0)) x 0 1) 2) 4) 8) 16
