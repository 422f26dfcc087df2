/-! THE BEST ORDER BY TRYING 625 CODES -/
theorem sr_fgh {kp : sr_M} {r : Nat} (h : r < sr_cnt kp) : sr_fig kp r 3 = 1 ∨ sr_fig kp r 3 = 2 ∨ sr_fig kp r 3 = 3 := by
  have hb := sr_figb h
  have h1 := hb.2.2.2.2.1
  have h3 := hb.2.2.2.2.2
  have e1 : (1 : Int32).toInt = 1 := rfl
  have e2 : (2 : Int32).toInt = 2 := rfl
  have e3 : (3 : Int32).toInt = 3 := rfl
  rcases (show (sr_fig kp r 3).toInt = 1 ∨ (sr_fig kp r 3).toInt = 2 ∨ (sr_fig kp r 3).toInt = 3 by omega) with q | q | q
  · exact Or.inl (Int32.toInt_inj.mp (by rw [q, e1]))
  · exact Or.inr (Or.inl (Int32.toInt_inj.mp (by rw [q, e2])))
  · exact Or.inr (Or.inr (Int32.toInt_inj.mp (by rw [q, e3])))
theorem sr_hcE {x y z t : Int32} (hx : x = 1 ∨ x = 2 ∨ x = 3) (hy : y = 1 ∨ y = 2 ∨ y = 3) (hz : z = 1 ∨ z = 2 ∨ z = 3) (ht : t = 1 ∨ t = 2 ∨ t = 3) : ((¬ (x &&& z) &&& 1 = 0 ∧ ¬ (y &&& t) &&& 2 = 0) ∨ (¬ (x &&& z) &&& 2 = 0 ∧ ¬ (y &&& t) &&& 1 = 0)) ↔ ((((¬ x &&& 1 = 0) ∧ (¬ y &&& 2 = 0)) ∧ (¬ z &&& 1 = 0)) ∧ (¬ t &&& 2 = 0)) ∨ ((((¬ x &&& 2 = 0) ∧ (¬ y &&& 1 = 0)) ∧ (¬ z &&& 2 = 0)) ∧ (¬ t &&& 1 = 0)) := by
  rcases hx with rfl | rfl | rfl <;> rcases hy with rfl | rfl | rfl <;> rcases hz with rfl | rfl | rfl <;> rcases ht with rfl | rfl | rfl <;> decide
theorem sr_lbE {kp : sr_M} (h : sr_IK kp) {x y : Nat} (hx : x < sr_cnt kp) (hy : y < sr_cnt kp) (c : Nat) : sr_lb kp x y c = sr_Dl kp x c (nI (sr_best kp x y c 0)) 0 + sr_bu kp (sr_mt kp x y c (nI (sr_best kp x y c 0)) 0) :=
  if_neg ((sr_bestE h hx hy sr_bs0 (sr_best40 kp x y c 0)).mpr (Nat.le_refl _))
theorem sr_tm_g (T a b c : Int32) : T + a + b + c = a + b + c + T := by grind
theorem sr_tm_e {kp : sr_M} (h : sr_IK kp) {a b c d : Nat} (ha : a < sr_cnt kp) (hb : b < sr_cnt kp) (hc : c < sr_cnt kp) (hd : d < sr_cnt kp) : sr_T kp d 3 100 + (sr_Dl kp a 0 (nI (sr_best kp a b 0 0)) 0 + sr_bu kp (sr_mt kp a b 0 (nI (sr_best kp a b 0 0)) 0)) + (sr_Dl kp b 1 (nI (sr_best kp b c 1 0)) 0 + sr_bu kp (sr_mt kp b c 1 (nI (sr_best kp b c 1 0)) 0)) + (sr_Dl kp c 2 (nI (sr_best kp c d 2 0)) 0 + sr_bu kp (sr_mt kp c d 2 (nI (sr_best kp c d 2 0)) 0)) = sr_tm kp a b c d := by
  unfold sr_tm
  rw [sr_lbE h ha hb, sr_lbE h hb hc, sr_lbE h hc hd]
  exact sr_tm_g _ _ _ _
theorem sr_fl8 (g : Nat → Int32) : upd (upd (upd (upd (upd (upd (upd (upd g 0 (-1)) 1 (-1)) 2 (-1)) 3 (-1)) 4 (-1)) 5 (-1)) 6 (-1)) 7 (-1) = sr_fl g (-1) 8 := by
  rw [← sr_fl_s g (-1) 7, ← sr_fl_s g (-1) 6, ← sr_fl_s g (-1) 5, ← sr_fl_s g (-1) 4, ← sr_fl_s g (-1) 3, ← sr_fl_s g (-1) 2, ← sr_fl_s g (-1) 1, ← sr_fl_s g (-1) 0, sr_fl_0]
abbrev sr_sh (x : Nat) : Int32 := (1 : Int32) <<< (nI x &&& 31)
abbrev sr_wl (n : Nat) (wo : Int32) (a b c d : Nat) : Prop :=
  (((¬ (nI n ≤ nI d) ∧ (¬ (nI d = wo) ∧ ((((0 : Int32) >>> (nI d &&& 31)) &&& 1) = 0))) ∧ (¬ (nI n ≤ nI c) ∧ (¬ (nI c = wo) ∧ ((((0 ||| ((1 : Int32) <<< (nI d &&& 31))) >>> (nI c &&& 31)) &&& 1) = 0)))) ∧ (¬ (nI n ≤ nI b) ∧ (¬ (nI b = wo) ∧ (((((0 ||| ((1 : Int32) <<< (nI d &&& 31))) ||| ((1 : Int32) <<< (nI c &&& 31))) >>> (nI b &&& 31)) &&& 1) = 0)))) ∧ (¬ (nI n ≤ nI a) ∧ (¬ (nI a = wo) ∧ ((((((0 ||| ((1 : Int32) <<< (nI d &&& 31))) ||| ((1 : Int32) <<< (nI c &&& 31))) ||| ((1 : Int32) <<< (nI b &&& 31))) >>> (nI a &&& 31)) &&& 1) = 0)))
theorem sr_ec1 : ∀ d, d < 5 → (((0 : Int32) >>> (nI d &&& 31)) &&& 1) = 0 := by decide +kernel
def sr_eq4 (a b c d : Nat) : Bool := decide (((((0 ||| ((1 : Int32) <<< (nI d &&& 31))) >>> (nI c &&& 31)) &&& 1) = 0 ∧ (((((0 ||| ((1 : Int32) <<< (nI d &&& 31))) ||| ((1 : Int32) <<< (nI c &&& 31))) >>> (nI b &&& 31)) &&& 1) = 0) ∧ ((((((0 ||| ((1 : Int32) <<< (nI d &&& 31))) ||| ((1 : Int32) <<< (nI c &&& 31))) ||| ((1 : Int32) <<< (nI b &&& 31))) >>> (nI a &&& 31)) &&& 1) = 0))) == decide (sr_pop (sr_bt4 a b c d) = 4)
theorem sr_eq4a : ∀ a, a < 5 → ∀ b, b < 5 → ∀ c, c < 5 → ∀ d, d < 5 → sr_eq4 a b c d = true := by decide +kernel
theorem sr_ec4 (a : Nat) (ha : a < 5) (b : Nat) (hb : b < 5) (c : Nat) (hc : c < 5) (d : Nat) (hd : d < 5) : ((((0 ||| ((1 : Int32) <<< (nI d &&& 31))) >>> (nI c &&& 31)) &&& 1) = 0 ∧ (((((0 ||| ((1 : Int32) <<< (nI d &&& 31))) ||| ((1 : Int32) <<< (nI c &&& 31))) >>> (nI b &&& 31)) &&& 1) = 0) ∧ ((((((0 ||| ((1 : Int32) <<< (nI d &&& 31))) ||| ((1 : Int32) <<< (nI c &&& 31))) ||| ((1 : Int32) <<< (nI b &&& 31))) >>> (nI a &&& 31)) &&& 1) = 0)) ↔ sr_pop (sr_bt4 a b c d) = 4 := decide_eq_decide.mp (eq_of_beq (sr_eq4a a ha b hb c hc d hd))
def sr_eqb (w a b c d : Nat) : Bool := decide (¬ d = w ∧ ¬ c = w ∧ ¬ b = w ∧ ¬ a = w) == decide (sr_bt4 a b c d &&& ((1 : Int32) <<< (nI w &&& 31)) = 0)
theorem sr_eqba : ∀ w, w < 5 → ∀ a, a < 5 → ∀ b, b < 5 → ∀ c, c < 5 → ∀ d, d < 5 → sr_eqb w a b c d = true := by decide +kernel
theorem sr_bar4 (w : Nat) (hw : w < 5) (a : Nat) (ha : a < 5) (b : Nat) (hb : b < 5) (c : Nat) (hc : c < 5) (d : Nat) (hd : d < 5) : (¬ d = w ∧ ¬ c = w ∧ ¬ b = w ∧ ¬ a = w) ↔ sr_bt4 a b c d &&& ((1 : Int32) <<< (nI w &&& 31)) = 0 := decide_eq_decide.mp (eq_of_beq (sr_eqba w hw a ha b hb c hc d hd))
theorem sr_nIn {a w : Nat} (ha : a < 5) (hw : w < 5) : (nI a = nI w) ↔ a = w := nI_eq (by omega) (by omega)
theorem sr_barE {wo : Int32} (hwo : wo = -1 ∨ ∃ w, w < 5 ∧ wo = nI w) {a b c d : Nat} (ha : a < 5) (hb : b < 5) (hc : c < 5) (hd : d < 5) : (¬ nI d = wo ∧ ¬ nI c = wo ∧ ¬ nI b = wo ∧ ¬ nI a = wo) ↔ sr_bt4 a b c d &&& sr_bar wo = 0 := by
  rcases hwo with rfl | ⟨w, hw, rfl⟩
  · have e : sr_bar (-1) = 0 := if_pos rfl
    rw [e, Int32.and_zero]
    exact ⟨fun _ => rfl, fun _ => ⟨sr_m1 (by omega), sr_m1 (by omega), sr_m1 (by omega), sr_m1 (by omega)⟩⟩
  · have e : sr_bar (nI w) = ((1 : Int32) <<< (nI w &&& 31)) := if_neg (sr_m1 (by omega))
    rw [e, sr_nIn ha hw, sr_nIn hb hw, sr_nIn hc hw, sr_nIn hd hw]
    exact sr_bar4 w hw a ha b hb c hc d hd
theorem sr_wlE {n : Nat} (hn : n ≤ 5) {wo : Int32} {a b c d : Nat} (ha : a < 5) (hb : b < 5) (hc : c < 5) (hd : d < 5) (hwo : wo = -1 ∨ ∃ w, w < 5 ∧ wo = nI w) : sr_wl n wo a b c d ↔ (a < n ∧ b < n ∧ c < n ∧ d < n) ∧ sr_ul (sr_bar wo) a b c d := by
  have ea : ¬ (nI n ≤ nI a) ↔ a < n := by rw [nI_leI (by omega) (by omega)]; omega
  have eb : ¬ (nI n ≤ nI b) ↔ b < n := by rw [nI_leI (by omega) (by omega)]; omega
  have ec : ¬ (nI n ≤ nI c) ↔ c < n := by rw [nI_leI (by omega) (by omega)]; omega
  have ed : ¬ (nI n ≤ nI d) ↔ d < n := by rw [nI_leI (by omega) (by omega)]; omega
  have h4 := sr_ec4 a ha b hb c hc d hd
  have hB := sr_barE hwo ha hb hc hd
  constructor
  · intro h
    exact ⟨⟨ea.mp h.2.1, eb.mp h.1.2.1, ec.mp h.1.1.2.1, ed.mp h.1.1.1.1⟩, h4.mp ⟨h.1.1.2.2.2, h.1.2.2.2, h.2.2.2⟩, hB.mp ⟨h.1.1.1.2.1, h.1.1.2.2.1, h.1.2.2.1, h.2.2.1⟩⟩
  · intro h
    obtain ⟨q1, q2, q3⟩ := h4.mpr h.2.1
    obtain ⟨r1, r2, r3, r4⟩ := hB.mpr h.2.2
    exact ⟨⟨⟨⟨ed.mpr h.1.2.2.2, r1, sr_ec1 d hd⟩, ec.mpr h.1.2.2.1, r2, q1⟩, eb.mpr h.1.2.1, r3, q2⟩, ea.mpr h.1.1, r4, q3⟩
def sr_g5 (kp : sr_M) (wo : Int32) (T : Nat → Int32) (a b c d : Nat) : Nat → Int32 := if sr_wl (sr_cnt kp) wo a b c d then (if sr_hc kp a b c d then sr_cons kp T a b c d else T) else T
def sr_f5 (kp : sr_M) (wo : Int32) (T : Nat → Int32) (i : Nat) : Nat → Int32 := sr_g5 kp wo T (i / 5 / 5 / 5 % 5) (i / 5 / 5 % 5) (i / 5 % 5) (i % 5)
theorem sr_g5_no {kp : sr_M} {wo : Int32} (hwo : wo = -1 ∨ ∃ w, w < 5 ∧ wo = nI w) {T : Nat → Int32} {a b c d : Nat} (ha : a < 5) (hb : b < 5) (hc : c < 5) (hd : d < 5) (h : sr_cnt kp ≤ a ∨ sr_cnt kp ≤ b ∨ sr_cnt kp ≤ c ∨ sr_cnt kp ≤ d) : sr_g5 kp wo T a b c d = T :=
  if_neg (fun q => by have := ((sr_wlE (sr_cnt5 kp) ha hb hc hd hwo).mp q).1; omega)
theorem sr_g5_yes {kp : sr_M} {wo : Int32} (hwo : wo = -1 ∨ ∃ w, w < 5 ∧ wo = nI w) {T : Nat → Int32} {a b c d : Nat} (ha : a < sr_cnt kp) (hb : b < sr_cnt kp) (hc : c < sr_cnt kp) (hd : d < sr_cnt kp) : sr_g5 kp wo T a b c d = sr_st4 kp (sr_bar wo) a b c T d := by
  have h5 := sr_cnt5 kp
  have e := sr_wlE h5 (show a < 5 by omega) (show b < 5 by omega) (show c < 5 by omega) (show d < 5 by omega) hwo
  unfold sr_g5 sr_st4
  by_cases q : sr_ul (sr_bar wo) a b c d
  · rw [if_pos q, if_pos (e.mpr ⟨⟨ha, hb, hc, hd⟩, q⟩)]
  · rw [if_neg q, if_neg (fun z => q (e.mp z).2)]
theorem sr_L_app {f : (Nat → Int32) → Nat → Nat → Int32} : ∀ (j k i : Nat) (T : Nat → Int32), sr_L f (j + k) i T = sr_L f k (i + j) (sr_L f j i T)
  | 0, k, i, T => by rw [Nat.zero_add]; rfl
  | j + 1, k, i, T => by
    rw [show j + 1 + k = (j + k) + 1 by omega]
    show sr_L f (j + k) (i + 1) (f T i) = sr_L f k (i + (j + 1)) (sr_L f j (i + 1) (f T i))
    rw [sr_L_app j k (i + 1) (f T i), show i + 1 + j = i + (j + 1) by omega]
theorem sr_L_cg {f g : (Nat → Int32) → Nat → Nat → Int32} : ∀ (k i : Nat) (T : Nat → Int32), (∀ T j, i ≤ j → j < i + k → f T j = g T j) → sr_L f k i T = sr_L g k i T
  | 0, i, T, h => rfl
  | k + 1, i, T, h => by
    show sr_L f k (i + 1) (f T i) = sr_L g k (i + 1) (g T i)
    rw [h T i (Nat.le_refl _) (by omega)]
    exact sr_L_cg k (i + 1) _ (fun T j a b => h T j (by omega) (by omega))
theorem sr_L_id {f : (Nat → Int32) → Nat → Nat → Int32} : ∀ (k i : Nat) (T : Nat → Int32), (∀ T j, i ≤ j → j < i + k → f T j = T) → sr_L f k i T = T
  | 0, i, T, h => rfl
  | k + 1, i, T, h => by
    show sr_L f k (i + 1) (f T i) = T
    rw [h T i (Nat.le_refl _) (by omega)]
    exact sr_L_id k (i + 1) _ (fun T j a b => h T j (by omega) (by omega))
theorem sr_L_sh {f : (Nat → Int32) → Nat → Nat → Int32} (q : Nat) : ∀ (k i : Nat) (T : Nat → Int32), sr_L f k (q + i) T = sr_L (fun T r => f T (q + r)) k i T
  | 0, i, T => rfl
  | k + 1, i, T => by
    show sr_L f k (q + (i + 1)) (f T (q + i)) = sr_L (fun T r => f T (q + r)) k (i + 1) (f T (q + i))
    exact sr_L_sh q k (i + 1) _
theorem sr_L_5 {f : (Nat → Int32) → Nat → Nat → Int32} : ∀ (m q : Nat) (T : Nat → Int32), sr_L f (5 * m) (5 * q) T = sr_L (fun T x => sr_L (fun T r => f T (5 * x + r)) 5 0 T) m q T
  | 0, q, T => rfl
  | m + 1, q, T => by
    rw [show 5 * (m + 1) = 5 + 5 * m by omega, sr_L_app 5 (5 * m) (5 * q) T, show 5 * q + 5 = 5 * (q + 1) by omega, sr_L_5 m (q + 1) _]
    show _ = sr_L (fun T x => sr_L (fun T r => f T (5 * x + r)) 5 0 T) m (q + 1) (sr_L (fun T r => f T (5 * q + r)) 5 0 T)
    rw [← sr_L_sh (5 * q) 5 0 T]
    rfl
theorem sr_L_cut {f : (Nat → Int32) → Nat → Nat → Int32} {n : Nat} (hn : n ≤ 5) (T : Nat → Int32) (h : ∀ T j, n ≤ j → j < 5 → f T j = T) : sr_L f 5 0 T = sr_L f n 0 T := by
  have e : sr_L f 5 0 T = sr_L f (n + (5 - n)) 0 T := by rw [show n + (5 - n) = 5 by omega]
  rw [e, sr_L_app, Nat.zero_add]
  exact sr_L_id _ _ _ (fun T j a b => h T j a (by omega))
def sr_w3 (kp : sr_M) (wo : Int32) (T : Nat → Int32) (a b c : Nat) : Nat → Int32 := sr_L (fun T d => sr_g5 kp wo T a b c d) 5 0 T
def sr_w2 (kp : sr_M) (wo : Int32) (T : Nat → Int32) (a b : Nat) : Nat → Int32 := sr_L (fun T c => sr_w3 kp wo T a b c) 5 0 T
def sr_w1 (kp : sr_M) (wo : Int32) (T : Nat → Int32) (a : Nat) : Nat → Int32 := sr_L (fun T b => sr_w2 kp wo T a b) 5 0 T
theorem sr_f5_w (kp : sr_M) (wo : Int32) (T : Nat → Int32) : sr_L (sr_f5 kp wo) 625 0 T = sr_L (fun T a => sr_w1 kp wo T a) 5 0 T := by
  have e1 : sr_L (sr_f5 kp wo) 625 0 T = sr_L (fun T x => sr_w3 kp wo T (x / 5 / 5 % 5) (x / 5 % 5) (x % 5)) 125 0 T := by
    rw [show (625 : Nat) = 5 * 125 from rfl]
    refine (sr_L_5 (f := sr_f5 kp wo) 125 0 T).trans (sr_L_cg _ _ _ (fun T x _ _ => sr_L_cg _ _ _ (fun T r _ hr => ?_)))
    show sr_g5 kp wo T ((5 * x + r) / 5 / 5 / 5 % 5) ((5 * x + r) / 5 / 5 % 5) ((5 * x + r) / 5 % 5) ((5 * x + r) % 5) = sr_g5 kp wo T (x / 5 / 5 % 5) (x / 5 % 5) (x % 5) r
    rw [show (5 * x + r) / 5 = x by omega, show (5 * x + r) % 5 = r by omega]
  have e2 : sr_L (fun T x => sr_w3 kp wo T (x / 5 / 5 % 5) (x / 5 % 5) (x % 5)) 125 0 T = sr_L (fun T x => sr_w2 kp wo T (x / 5 % 5) (x % 5)) 25 0 T := by
    rw [show (125 : Nat) = 5 * 25 from rfl]
    refine (sr_L_5 (f := fun T x => sr_w3 kp wo T (x / 5 / 5 % 5) (x / 5 % 5) (x % 5)) 25 0 T).trans (sr_L_cg _ _ _ (fun T x _ _ => sr_L_cg _ _ _ (fun T r _ hr => ?_)))
    show sr_w3 kp wo T ((5 * x + r) / 5 / 5 % 5) ((5 * x + r) / 5 % 5) ((5 * x + r) % 5) = sr_w3 kp wo T (x / 5 % 5) (x % 5) r
    rw [show (5 * x + r) / 5 = x by omega, show (5 * x + r) % 5 = r by omega]
  have e3 : sr_L (fun T x => sr_w2 kp wo T (x / 5 % 5) (x % 5)) 25 0 T = sr_L (fun T a => sr_w1 kp wo T a) 5 0 T := by
    rw [show (25 : Nat) = 5 * 5 from rfl]
    refine (sr_L_5 (f := fun T x => sr_w2 kp wo T (x / 5 % 5) (x % 5)) 5 0 T).trans (sr_L_cg _ _ _ (fun T x _ hx => sr_L_cg _ _ _ (fun T r _ hr => ?_)))
    show sr_w2 kp wo T ((5 * x + r) / 5 % 5) ((5 * x + r) % 5) = sr_w2 kp wo T x r
    rw [show (5 * x + r) / 5 % 5 = x by omega, show (5 * x + r) % 5 = r by omega]
  rw [e1, e2, e3]
theorem sr_f5E (kp : sr_M) {wo : Int32} (hwo : wo = -1 ∨ ∃ w, w < 5 ∧ wo = nI w) {T : Nat → Int32} : sr_L (sr_f5 kp wo) 625 0 T = sr_L (sr_fa kp (sr_bar wo)) (sr_cnt kp) 0 T := by
  have h5 := sr_cnt5 kp
  have w3 : ∀ (T : Nat → Int32) (a b c : Nat), a < sr_cnt kp → b < sr_cnt kp → c < sr_cnt kp → sr_w3 kp wo T a b c = sr_fc kp (sr_bar wo) a b T c := by
    intro T a b c ha hb hc
    refine (sr_L_cut h5 T (fun T j h1 h2 => ?_)).trans (sr_L_cg _ _ _ (fun T d _ hd => ?_))
    · exact sr_g5_no hwo (by omega) (by omega) (by omega) h2 (Or.inr (Or.inr (Or.inr h1)))
    · exact sr_g5_yes hwo ha hb hc (by omega)
  have w3n : ∀ (T : Nat → Int32) (a b c : Nat), a < 5 → b < 5 → c < 5 → (sr_cnt kp ≤ a ∨ sr_cnt kp ≤ b ∨ sr_cnt kp ≤ c) → sr_w3 kp wo T a b c = T := by
    intro T a b c ha hb hc h
    exact sr_L_id _ _ _ (fun T d _ hd => sr_g5_no hwo ha hb hc (by omega) (by omega))
  have w2 : ∀ (T : Nat → Int32) (a b : Nat), a < sr_cnt kp → b < sr_cnt kp → sr_w2 kp wo T a b = sr_fb kp (sr_bar wo) a T b := by
    intro T a b ha hb
    refine (sr_L_cut h5 T (fun T j h1 h2 => ?_)).trans (sr_L_cg _ _ _ (fun T c _ hc => ?_))
    · exact w3n T a b j (by omega) (by omega) h2 (Or.inr (Or.inr h1))
    · exact w3 T a b c ha hb (by omega)
  have w2n : ∀ (T : Nat → Int32) (a b : Nat), a < 5 → b < 5 → (sr_cnt kp ≤ a ∨ sr_cnt kp ≤ b) → sr_w2 kp wo T a b = T := by
    intro T a b ha hb h
    exact sr_L_id _ _ _ (fun T c _ hc => w3n T a b c ha hb (by omega) (by omega))
  have w1 : ∀ (T : Nat → Int32) (a : Nat), a < sr_cnt kp → sr_w1 kp wo T a = sr_fa kp (sr_bar wo) T a := by
    intro T a ha
    refine (sr_L_cut h5 T (fun T j h1 h2 => ?_)).trans (sr_L_cg _ _ _ (fun T b _ hb => ?_))
    · exact w2n T a j (by omega) h2 (Or.inr h1)
    · exact w2 T a b ha (by omega)
  have w1n : ∀ (T : Nat → Int32) (a : Nat), a < 5 → sr_cnt kp ≤ a → sr_w1 kp wo T a = T := by
    intro T a ha h
    exact sr_L_id _ _ _ (fun T b _ hb => w2n T a b ha (by omega) (Or.inl h))
  rw [sr_f5_w]
  refine (sr_L_cut h5 T (fun T j h1 h2 => w1n T j h2 h1)).trans (sr_L_cg _ _ _ (fun T a _ ha => w1 T a (by omega)))
theorem sr_rwo {x : Int32} (h : ¬ (x < -1 ∨ 4 < x)) : x = -1 ∨ ∃ w, w < 5 ∧ x = nI w := by
  by_cases q : x < 0
  · refine Or.inl (Int32.toInt_inj.mp ?_)
    rw [not_or, Int32.lt_iff_toInt_lt] at h
    rw [Int32.lt_iff_toInt_lt] at q
    have e1 : (-1 : Int32).toInt = -1 := rfl
    have e0 : (0 : Int32).toInt = 0 := rfl
    omega
  · exact Or.inr (sr_rg4 (fun z => z.elim q (fun z => h (Or.inr z))))
theorem sr_n3 {s : Nat} (h : s < 4) : ¬ (nI s < 0 ∨ 3 < nI s) := by
  rw [not_or, Int32.lt_iff_toInt_lt, Int32.lt_iff_toInt_lt, sr_nIi (by omega)]
  have e3 : (3 : Int32).toInt = 3 := rfl
  have e0 : (0 : Int32).toInt = 0 := rfl
  omega
theorem sr_n2 {s : Nat} (h : s < 3) : ¬ (nI s < 0 ∨ 2 < nI s) := by
  rw [not_or, Int32.lt_iff_toInt_lt, Int32.lt_iff_toInt_lt, sr_nIi (by omega)]
  have e3 : (2 : Int32).toInt = 2 := rfl
  have e0 : (0 : Int32).toInt = 0 := rfl
  omega
theorem sr_cv_carries {kp : sr_M} {s : Nat} (h : s < 4) : sn_carries kp s = sp_carries kp (nI s) := by unfold sn_carries sp_carries; rw [if_neg (sr_n3 h), nI_clamp (by omega)]
theorem sr_cv_meet {kp : sr_M} {s : Nat} (h : s < 3) : sn_meet kp s = sp_meet kp (nI s) := by unfold sn_meet sp_meet; rw [if_neg (sr_n2 h), nI_clamp (by omega)]
theorem sr_cv_kind {kp : sr_M} {s : Nat} (h : s < 3) : sn_kind kp s = sp_kind kp (nI s) := by unfold sn_kind sp_kind; rw [if_neg (sr_n2 h), nI_clamp (by omega)]
theorem sr_cv_chance {kp : sr_M} {s : Nat} (h : s < 3) : sn_chance kp s = sp_chance kp (nI s) := by unfold sn_chance sp_chance; rw [if_neg (sr_n2 h), nI_clamp (by omega)]
theorem sr_cv_safe {kp : sr_M} {s : Nat} (h : s < 3) : sn_safe kp s 10 = sp_safe kp (nI s) 10 := by unfold sn_safe sp_safe; rw [if_neg (sr_n2 h), nI_clamp (by omega), if_neg (show ¬ ((10 : Int32) < 0 ∨ 16 < (10 : Int32)) by decide)]
theorem sr_cv_best {kp : sr_M} {s : Nat} (h : s < 3) : sn_best kp s = sp_best kp (nI s) := by unfold sn_best sp_best; rw [if_neg (sr_n2 h), nI_clamp (by omega)]
theorem sr_cv_all0 (kp : sr_M) : sn_all kp 0 = sp_all kp 0 := by unfold sn_all sp_all; rw [if_neg (show ¬ ((0 : Int32) < 0 ∨ 1 < (0 : Int32)) by decide)]
theorem sr_cv_all1 (kp : sr_M) : sn_all kp 1 = sp_all kp 1 := by unfold sn_all sp_all; rw [if_neg (show ¬ ((1 : Int32) < 0 ∨ 1 < (1 : Int32)) by decide)]
theorem sr_upS (m : sr_M) (k : Nat) (f : Nat → Int32) : va_up m k f k = f := if_pos rfl
theorem sr_upN {m : sr_M} {k j : Nat} {f : Nat → Int32} (h : j ≠ k) : va_up m k f j = m j := if_neg h
theorem sr_RDu {kp m : sr_M} {k : Nat} {f : Nat → Int32} (h1 : (1 : Nat) ≠ k) (h2 : (2 : Nat) ≠ k) (h : sr_RD kp m) : sr_RD kp (va_up m k f) := by
  unfold sr_RD
  rw [sr_upN h1, sr_upN h2]
  exact h
def sr_dg (a b c d j : Nat) : Nat := if j = 0 then a else if j = 1 then b else if j = 2 then c else d
theorem sr_dgc {kp : sr_M} {a b c d : Nat} (ha : a < sr_cnt kp) (hb : b < sr_cnt kp) (hc : c < sr_cnt kp) (hd : d < sr_cnt kp) (j : Nat) : sr_dg a b c d j < sr_cnt kp := by
  unfold sr_dg
  split
  · exact ha
  · split
    · exact hb
    · split
      · exact hc
      · exact hd
def sr_sm (kp : sr_M) (f : Nat → Nat) : Nat → Int32
  | 0 => sr_T kp (f 3) 3 100
  | c + 1 => sr_sm kp f c + (sr_Dl kp (f c) c (nI (sr_best kp (f c) (f (c + 1)) c 0)) 0 + sr_bu kp (sr_mt kp (f c) (f (c + 1)) c (nI (sr_best kp (f c) (f (c + 1)) c 0)) 0))
theorem sr_sm_e {kp : sr_M} (h : sr_IK kp) {a b c d : Nat} (ha : a < sr_cnt kp) (hb : b < sr_cnt kp) (hc : c < sr_cnt kp) (hd : d < sr_cnt kp) : sr_sm kp (sr_dg a b c d) 3 = sr_tm kp a b c d := by
  have d0 : sr_dg a b c d 0 = a := rfl
  have d1 : sr_dg a b c d 1 = b := rfl
  have d2 : sr_dg a b c d 2 = c := rfl
  have d3 : sr_dg a b c d 3 = d := rfl
  show sr_T kp (sr_dg a b c d 3) 3 100 + (sr_Dl kp (sr_dg a b c d 0) 0 (nI (sr_best kp (sr_dg a b c d 0) (sr_dg a b c d 1) 0 0)) 0 + sr_bu kp (sr_mt kp (sr_dg a b c d 0) (sr_dg a b c d 1) 0 (nI (sr_best kp (sr_dg a b c d 0) (sr_dg a b c d 1) 0 0)) 0)) + (sr_Dl kp (sr_dg a b c d 1) 1 (nI (sr_best kp (sr_dg a b c d 1) (sr_dg a b c d 2) 1 0)) 0 + sr_bu kp (sr_mt kp (sr_dg a b c d 1) (sr_dg a b c d 2) 1 (nI (sr_best kp (sr_dg a b c d 1) (sr_dg a b c d 2) 1 0)) 0)) + (sr_Dl kp (sr_dg a b c d 2) 2 (nI (sr_best kp (sr_dg a b c d 2) (sr_dg a b c d 3) 2 0)) 0 + sr_bu kp (sr_mt kp (sr_dg a b c d 2) (sr_dg a b c d 3) 2 (nI (sr_best kp (sr_dg a b c d 2) (sr_dg a b c d 3) 2 0)) 0)) = _
  rw [d0, d1, d2, d3]
  exact sr_tm_e h ha hb hc hd
theorem sr_hd1 {f : Nat → Int32} {g : Nat → Nat} (h : ∀ j, j < 4 → f (1 + j) = nI (g j)) (c : Nat) (hc : c < 3) : f (2 + c) = nI (g (c + 1)) := by
  rw [show 2 + c = 1 + (c + 1) by omega]
  exact h (c + 1) (by omega)
theorem sr_lk0 {m : sr_M} {a b c d : Nat} {x : Int32} (h1 : m 4 1 = nI a) (h2 : m 4 2 = nI b) (h3 : m 4 3 = nI c) (h4 : m 4 4 = nI d) : ∀ j, j < 4 → (va_up m 4 (upd (m 4) 0 x)) 4 (1 + j) = nI (sr_dg a b c d j) := by
  intro j hj
  rw [sr_upS, pk_un (by omega)]
  rcases (show j = 0 ∨ j = 1 ∨ j = 2 ∨ j = 3 by omega) with rfl | rfl | rfl | rfl
  · exact h1
  · exact h2
  · exact h3
  · exact h4
theorem sr_lkd {m : sr_M} {g : Nat → Nat} {c : Nat} {x y : Int32} (hc : c < 3) (h : ∀ j, j < 4 → m 4 (1 + j) = nI (g j)) : ∀ j, j < 4 → (va_up m 4 (upd (upd (m 4) (5 + c) x) 0 y)) 4 (1 + j) = nI (g j) := by
  intro j hj
  rw [sr_upS, pk_un (by omega), pk_un (by omega)]
  exact h j hj
theorem sr_lkb {m : sr_M} {F : Nat → Nat} {c : Nat} {y : Int32} (hc : c < 3) (h : ∀ j, j < c → m 4 (5 + j) = nI (F j)) : ∀ j, j < c + 1 → (va_up m 4 (upd (upd (m 4) (5 + c) (nI (F c))) 0 y)) 4 (5 + j) = nI (F j) := by
  intro j hj
  rw [sr_upS, pk_un (by omega)]
  by_cases q : j = c
  · rw [q, pk_us]
  · rw [pk_un (by omega)]
    exact h j (by omega)
theorem sr_lks {m : sr_M} {f : Nat → Int32} {y : Int32} : (va_up m 4 (upd f 0 y)) 4 0 = y := by rw [sr_upS, pk_us]
theorem sr_rdu {m : sr_M} {k j : Nat} {x : Int32} (h : j ≠ k) : (va_up m 4 (upd (m 4) k x)) 4 j = m 4 j := by rw [sr_upS, pk_un h]
theorem sr_sm0 (kp : sr_M) (a b c d : Nat) : sr_sm kp (sr_dg a b c d) 0 = sr_T kp d 3 100 := rfl
theorem sr_sm_s (kp : sr_M) (f : Nat → Nat) (c : Nat) : sr_sm kp f (c + 1) = sr_sm kp f c + (sr_Dl kp (f c) c (nI (sr_best kp (f c) (f (c + 1)) c 0)) 0 + sr_bu kp (sr_mt kp (f c) (f (c + 1)) c (nI (sr_best kp (f c) (f (c + 1)) c 0)) 0)) := rfl
