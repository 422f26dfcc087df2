/-! ORDERS, as the class looks for them -/
def sr_lb (kp : sr_M) (x y c : Nat) : Int32 := sr_leg kp x y c (nI (sr_best kp x y c 0)) 0
def sr_Wp (kp sg : sr_M) : Prop := ∀ c, c < 3 → ∀ x y, x < sr_cnt kp → y < sr_cnt kp → sg (1 + c) (5 * x + y) = nI (sr_best kp x y c 0) ∧ sg (4 + c) (5 * x + y) = sr_lb kp x y c
theorem sr_wp_step {sgy : sr_M} {F G : Nat → Nat → Int32} {n c x y : Nat} (hn : n ≤ 5) (hx : x < n) (hy : y < n) {v w : Int32} (old : ∀ q z, (q < x ∨ (q = x ∧ z < y)) → z < n → sgy (1 + c) (5 * q + z) = F q z ∧ sgy (4 + c) (5 * q + z) = G q z) (hv : v = F x y) (hw : w = G x y) :
    ∀ q z, (q < x ∨ (q = x ∧ z < y + 1)) → z < n → (va_up (va_up sgy (1 + c) (upd (sgy (1 + c)) (5 * x + y) v)) (4 + c) (upd ((va_up sgy (1 + c) (upd (sgy (1 + c)) (5 * x + y) v)) (4 + c)) (5 * x + y) w)) (1 + c) (5 * q + z) = F q z ∧ (va_up (va_up sgy (1 + c) (upd (sgy (1 + c)) (5 * x + y) v)) (4 + c) (upd ((va_up sgy (1 + c) (upd (sgy (1 + c)) (5 * x + y) v)) (4 + c)) (5 * x + y) w)) (4 + c) (5 * q + z) = G q z := by
  intro q z hq hz
  have h1 : ¬ (1 + c = 4 + c) := by omega
  have h2 : ¬ (4 + c = 1 + c) := by omega
  simp only [va_up, if_neg h1, if_neg h2, if_pos]
  by_cases e : q = x ∧ z = y
  · obtain ⟨rfl, rfl⟩ := e
    exact ⟨by rw [pk_us]; exact hv, by rw [pk_us]; exact hw⟩
  · have hne : 5 * q + z ≠ 5 * x + y := by omega
    rw [pk_un hne, pk_un hne]
    exact old q z (by omega) hz
theorem sr_wp_keep {sgy sg : sr_M} {c : Nat} {f g : Nat → Int32} (h : ∀ k, k ≠ 1 + c → k ≠ 4 + c → sgy k = sg k) : ∀ k, k ≠ 1 + c → k ≠ 4 + c → (va_up (va_up sgy (1 + c) f) (4 + c) g) k = sg k := by
  intro k h1 h2
  simp only [va_up, if_neg h1, if_neg h2]
  exact h k h1 h2
def sr_bt4 (a b c d : Nat) : Int32 := ((((1 : Int32) <<< (nI a &&& 31)) ||| ((1 : Int32) <<< (nI b &&& 31))) ||| ((1 : Int32) <<< (nI c &&& 31))) ||| ((1 : Int32) <<< (nI d &&& 31))
abbrev sr_ul (br : Int32) (a b c d : Nat) : Prop := sr_pop (sr_bt4 a b c d) = 4 ∧ sr_bt4 a b c d &&& br = 0
abbrev sr_hc (kp : sr_M) (a b c d : Nat) : Prop := (¬ (sr_fig kp a 3 &&& sr_fig kp c 3) &&& 1 = 0 ∧ ¬ (sr_fig kp b 3 &&& sr_fig kp d 3) &&& 2 = 0) ∨ (¬ (sr_fig kp a 3 &&& sr_fig kp c 3) &&& 2 = 0 ∧ ¬ (sr_fig kp b 3 &&& sr_fig kp d 3) &&& 1 = 0)
def sr_tm (kp : sr_M) (a b c d : Nat) : Int32 := sr_lb kp a b 0 + sr_lb kp b c 1 + sr_lb kp c d 2 + sr_T kp d 3 100
def sr_cw (kp : sr_M) (T : Nat → Int32) (a b c d : Nat) : Nat → Int32 := upd (upd (upd (upd (upd (upd (upd (upd T 0 (sr_tm kp a b c d)) 1 (nI a)) 2 (nI b)) 3 (nI c)) 4 (nI d)) 5 (nI (sr_best kp a b 0 0))) 6 (nI (sr_best kp b c 1 0))) 7 (nI (sr_best kp c d 2 0))
def sr_cons (kp : sr_M) (T : Nat → Int32) (a b c d : Nat) : Nat → Int32 := if T 0 = -1 then sr_cw kp T a b c d else if sr_tm kp a b c d < T 0 then sr_cw kp T a b c d else T
def sr_bar (wo : Int32) : Int32 := if wo = -1 then 0 else ((1 : Int32) <<< (wo &&& 31))
def sr_st4 (kp : sr_M) (br : Int32) (a b c : Nat) (T : Nat → Int32) (d : Nat) : Nat → Int32 := if sr_ul br a b c d then (if sr_hc kp a b c d then sr_cons kp T a b c d else T) else T
def sr_L (f : (Nat → Int32) → Nat → Nat → Int32) : Nat → Nat → (Nat → Int32) → Nat → Int32
  | 0, _, T => T
  | k + 1, i, T => sr_L f k (i + 1) (f T i)
theorem sr_L_s {f : (Nat → Int32) → Nat → Nat → Int32} {n i : Nat} {T : Nat → Int32} (h : i < n) : sr_L f (n - i) i T = sr_L f (n - (i + 1)) (i + 1) (f T i) := by
  rw [show n - i = (n - (i + 1)) + 1 by omega]
  rfl
theorem sr_L_e {f : (Nat → Int32) → Nat → Nat → Int32} {n i : Nat} {T : Nat → Int32} (h : n ≤ i) : sr_L f (n - i) i T = T := by
  rw [show n - i = 0 by omega]
  rfl
def sr_fc (kp : sr_M) (br : Int32) (a b : Nat) (T : Nat → Int32) (c : Nat) : Nat → Int32 := sr_L (sr_st4 kp br a b c) (sr_cnt kp) 0 T
def sr_fb (kp : sr_M) (br : Int32) (a : Nat) (T : Nat → Int32) (b : Nat) : Nat → Int32 := sr_L (sr_fc kp br a b) (sr_cnt kp) 0 T
def sr_fa (kp : sr_M) (br : Int32) (T : Nat → Int32) (a : Nat) : Nat → Int32 := sr_L (sr_fb kp br a) (sr_cnt kp) 0 T
def sr_so (kp : sr_M) (br : Int32) (g : Nat → Int32) : Nat → Int32 := sr_L (sr_fa kp br) (sr_cnt kp) 0 (sr_fl g (-1) 8)
