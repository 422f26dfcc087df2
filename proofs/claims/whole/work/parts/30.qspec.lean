/-! SHEETS, as the class answers -/
def sp_sheet (s fo n : Int32) : Int32 := if s < 0 ∨ 3 < s then -2 else if fo < 0 ∨ 2 < fo then -2 else if n ≤ 60 then (if 0 ≤ n then n else -10 - 5) else -2
def sk_sheet (kp : sr_M) (s fo n : Int32) : sr_M := if s < 0 ∨ 3 < s then kp else if fo < 0 ∨ 2 < fo then kp else if n ≤ 60 then (if 0 ≤ n then kp else sr_fd kp 5) else kp
abbrev sr_shk (s fo n : Int32) : Prop := ¬ (s < 0 ∨ 3 < s) ∧ ¬ (fo < 0 ∨ 2 < fo) ∧ n ≤ 60 ∧ 0 ≤ n
def sr_shC (cx : sr_M) (s fo n : Int32) (u : sr_M) : Prop := (¬ sr_shk s fo n → u = cx) ∧ (sr_shk s fo n → (∀ j, j < 60 → u (6 + s.toNatClampNeg) j = 0) ∧ u 10 = upd (cx 10) s.toNatClampNeg fo ∧ u 11 = upd (cx 11) s.toNatClampNeg n ∧ ∀ k, k ≠ 6 + s.toNatClampNeg → k ≠ 10 → k ≠ 11 → u k = cx k)
def sp_lose (cx : sr_M) (s : Int32) : Int32 := if s < 0 ∨ 3 < s then -2 else if cx 11 s.toNatClampNeg = -1 then -10 - 1 else cx 11 s.toNatClampNeg
def sk_lose (kp cx : sr_M) (s : Int32) : sr_M := if s < 0 ∨ 3 < s then kp else if cx 11 s.toNatClampNeg = -1 then sr_fd kp 1 else kp
def sc_lose (cx : sr_M) (s : Int32) : sr_M := if s < 0 ∨ 3 < s then cx else if cx 11 s.toNatClampNeg = -1 then cx else va_up cx 11 (upd (cx 11) s.toNatClampNeg (-1))
def sp_lay (cx : sr_M) (s fo i : Int32) : Int32 := if s < 0 ∨ 3 < s then -2 else if fo < 0 ∨ 2 < fo then -2 else if sr_ck cx s.toNatClampNeg fo i = 0 then 1 else -10 - sr_ck cx s.toNatClampNeg fo i
def sk_lay (kp cx : sr_M) (s fo i : Int32) : sr_M := if s < 0 ∨ 3 < s then kp else if fo < 0 ∨ 2 < fo then kp else if sr_ck cx s.toNatClampNeg fo i = 0 then kp else sr_fd kp (sr_ck cx s.toNatClampNeg fo i)
def sc_lay (cx : sr_M) (s fo i v : Int32) : sr_M := if s < 0 ∨ 3 < s then cx else if fo < 0 ∨ 2 < fo then cx else if sr_ck cx s.toNatClampNeg fo i = 0 then sr_put1 cx s.toNatClampNeg i.toNatClampNeg v else cx
def sp_get (cx : sr_M) (s fo i : Int32) : Int32 := if s < 0 ∨ 3 < s then -2147483648 else if fo < 0 ∨ 2 < fo then -2147483648 else if sr_ck cx s.toNatClampNeg fo i = 0 then cx (6 + s.toNatClampNeg) i.toNatClampNeg else -2147483648
def sk_get (kp cx : sr_M) (s fo i : Int32) : sr_M := if s < 0 ∨ 3 < s then kp else if fo < 0 ∨ 2 < fo then kp else if sr_ck cx s.toNatClampNeg fo i = 0 then kp else sr_fd kp (sr_ck cx s.toNatClampNeg fo i)
theorem sr_ck0 {cx : sr_M} (h : sr_SC cx) {s : Nat} (hs : s < 4) {fo i : Int32} (e : sr_ck cx s fo i = 0) : ∃ j, j < 60 ∧ i = nI j := by
  unfold sr_ck at e
  split at e
  · exact absurd e (by decide)
  · split at e
    · split at e
      · exact absurd e (by decide)
      · rename_i h1 h2 h3
        have hb := h s hs
        have e1 : (1 : Int32).toInt = 1 := rfl
        rw [not_or, Int32.lt_iff_toInt_lt, Int32.lt_iff_toInt_lt, sr_subI (by omega) (by omega)] at h3
        have e0 : (0 : Int32).toInt = 0 := rfl
        refine ⟨i.toInt.toNat, by omega, Int32.toInt_inj.mp ?_⟩
        rw [sr_nIi (by omega)]
        omega
    · exact absurd e (by decide)
abbrev sr_cpL (cx : sr_M) (s t : Nat) : Prop := cx 11 s = -1 ∨ cx 11 t = -1
abbrev sr_cpX (cx : sr_M) (s t : Nat) (i j n : Int32) : Prop := sr_ho cx s i n ∧ sr_ho cx t j n
def sp_copy (cx : sr_M) (s i t j n : Int32) : Int32 := if s < 0 ∨ 3 < s then -2 else if t < 0 ∨ 3 < t then -2 else if sr_cpL cx s.toNatClampNeg t.toNatClampNeg then -10 - 1 else if cx 10 s.toNatClampNeg = cx 10 t.toNatClampNeg then (if sr_cpX cx s.toNatClampNeg t.toNatClampNeg i j n then 1 else -10 - 2) else -10 - 4
def sk_copy (kp cx : sr_M) (s i t j n : Int32) : sr_M := if s < 0 ∨ 3 < s then kp else if t < 0 ∨ 3 < t then kp else if sr_cpL cx s.toNatClampNeg t.toNatClampNeg then sr_fd kp 1 else if cx 10 s.toNatClampNeg = cx 10 t.toNatClampNeg then (if sr_cpX cx s.toNatClampNeg t.toNatClampNeg i j n then kp else sr_fd kp 2) else sr_fd kp 4
def sr_cp1 (cx : sr_M) (s t i j n : Nat) : sr_M := va_up cx (6 + t) (va_cpy (cx (6 + s)) (cx (6 + t)) i j n)
def sc_copy (cx : sr_M) (s i t j n : Int32) : sr_M := if s < 0 ∨ 3 < s then cx else if t < 0 ∨ 3 < t then cx else if sr_cpL cx s.toNatClampNeg t.toNatClampNeg then cx else if cx 10 s.toNatClampNeg = cx 10 t.toNatClampNeg then (if sr_cpX cx s.toNatClampNeg t.toNatClampNeg i j n then sr_cp1 cx s.toNatClampNeg t.toNatClampNeg i.toNatClampNeg j.toNatClampNeg n.toNatClampNeg else cx) else cx
theorem sr_clI {x : Int32} (h : ¬ x < 0) : (x.toNatClampNeg : Int) = x.toInt := by
  rw [Int32.lt_iff_toInt_lt] at h
  have e0 : (0 : Int32).toInt = 0 := rfl
  obtain ⟨j, h1, h2⟩ := nI_of (x := x) (by rw [Int32.lt_iff_toInt_lt]; exact h)
  rw [h2, nI_clamp (by omega), sr_nIi (by omega)]
theorem sr_hoB {cx : sr_M} (h : sr_SC cx) {s : Nat} (hs : s < 4) {i n : Int32} (e : sr_ho cx s i n) : i.toNatClampNeg + n.toNatClampNeg ≤ 60 := by
  obtain ⟨h1, h2, h3, h4⟩ := e
  have hb := h s hs
  have k1 := sr_clI h1
  have k2 := sr_clI h2
  rw [Int32.lt_iff_toInt_lt] at h1 h2 h3 h4
  have e0 : (0 : Int32).toInt = 0 := rfl
  rw [sr_subI (by omega) (by omega)] at h4
  omega
/-- carries written item by item -/
def sr_wr (kp cx : sr_M) (s : Nat) : Nat → sr_M
  | 0 => cx
  | i + 1 => sr_put1 (sr_wr kp cx s i) s i (sr_ca kp i)
def sr_m4 (z m : Nat) : Nat := if z < m then z else m
theorem sr_m4_e {z m : Nat} (hz : z ≤ 60) (hm : m < 60) : (if nI z < nI m then nI z else nI m) = nI (sr_m4 z m) := by
  have e : (nI z < nI m) ↔ z < m := nI_ltI (by omega) (by omega)
  unfold sr_m4
  by_cases q : z < m
  · rw [if_pos (e.mpr q), if_pos q]
  · rw [if_neg (fun t => q (e.mp t)), if_neg q]
theorem sr_m4_le (z m : Nat) : sr_m4 z m ≤ m ∧ sr_m4 z m ≤ z := by
  unfold sr_m4
  split <;> omega
def sr_sz (cx : sr_M) (s : Nat) : Nat := (cx 11 s).toNatClampNeg
theorem sr_szI {cx : sr_M} (h : sr_SC cx) {s : Nat} (hs : s < 4) (e : ¬ cx 11 s = -1) : cx 11 s = nI (sr_sz cx s) ∧ sr_sz cx s ≤ 60 := by
  have hb := h s hs
  have em : (-1 : Int32).toInt = -1 := rfl
  have hne : (cx 11 s).toInt ≠ -1 := fun q => e (Int32.toInt_inj.mp (by rw [q, em]))
  have e0 : (0 : Int32).toInt = 0 := rfl
  have k := sr_clI (x := cx 11 s) (by rw [Int32.lt_iff_toInt_lt]; omega)
  unfold sr_sz
  refine ⟨Int32.toInt_inj.mp ?_, by omega⟩
  rw [sr_nIi (by omega)]
  omega
theorem sr_wr_k (kp cx : sr_M) {s : Nat} (hs : s < 4) : ∀ (i k : Nat), (k < 6 ∨ 9 < k) → sr_wr kp cx s i k = cx k
  | 0, _, _ => rfl
  | i + 1, k, h => by
    show va_up (sr_wr kp cx s i) (6 + s) _ k = _
    unfold va_up
    rw [if_neg (by omega)]
    exact sr_wr_k kp cx hs i k h
theorem sr_IC_c {kp cx c2 : sr_M} (h : sr_IC kp cx) (e : ∀ k, k < 6 → c2 k = cx k) : sr_IC kp c2 := by
  obtain ⟨h1, h2, h3, h4, h5⟩ := h
  unfold sr_IC
  rw [e 0 (by omega), e 1 (by omega), e 2 (by omega), e 3 (by omega), e 4 (by omega), e 5 (by omega)]
  exact ⟨h1, h2, h3, h4, h5⟩
theorem sr_IC_wr {kp cx : sr_M} (h : sr_IC kp cx) {s : Nat} (hs : s < 4) (i : Nat) : sr_IC kp (sr_wr kp cx s i) := sr_IC_c h (fun k hk => sr_wr_k kp cx hs i k (Or.inl hk))
def sp_write (kp cx : sr_M) (s : Int32) : Int32 := if s < 0 ∨ 3 < s then -2 else if cx 11 s.toNatClampNeg = -1 then -10 - 1 else if ¬ sr_th kp then -3 else nI (sr_m4 (sr_sz cx s.toNatClampNeg) 4)
def sk_write (kp cx : sr_M) (s : Int32) : sr_M := if s < 0 ∨ 3 < s then kp else if cx 11 s.toNatClampNeg = -1 then sr_fd kp 1 else if ¬ sr_th kp then kp else kp
def sc_write (kp cx : sr_M) (s : Int32) : sr_M := if s < 0 ∨ 3 < s then cx else if cx 11 s.toNatClampNeg = -1 then cx else if ¬ sr_th kp then cx else sr_wr kp cx s.toNatClampNeg (sr_m4 (sr_sz cx s.toNatClampNeg) 4)
/-- marks read item by item -/
def sr_mi (f M : Nat → Int32) : Nat → Nat → Int32
  | 0 => M
  | i + 1 => upd (sr_mi f M i) i (f i)
def sr_rn (f : Nat → Int32) : Nat → Nat → Nat
  | 0, i => i
  | k + 1, i => if f i < 0 ∨ 40 < f i then i else sr_rn f k (i + 1)
theorem sr_rn_s {f : Nat → Int32} {m i : Nat} (h : i < m) : sr_rn f (m - i) i = if f i < 0 ∨ 40 < f i then i else sr_rn f (m - (i + 1)) (i + 1) := by
  rw [show m - i = (m - (i + 1)) + 1 by omega]
  rfl
def sr_rdc (cx : sr_M) (s : Nat) : Nat := sr_rn (cx (6 + s)) (sr_m4 (sr_sz cx s) 3) 0
def sp_read (cx : sr_M) (s : Int32) : Int32 := if s < 0 ∨ 3 < s then -2 else if cx 11 s.toNatClampNeg = -1 then -10 - 1 else nI (sr_rdc cx s.toNatClampNeg)
def sk_read (kp cx : sr_M) (s : Int32) : sr_M := if s < 0 ∨ 3 < s then kp else if cx 11 s.toNatClampNeg = -1 then sr_fd kp 1 else va_up kp 3 (sr_mi (cx (6 + s.toNatClampNeg)) (kp 3) (sr_rdc cx s.toNatClampNeg))
