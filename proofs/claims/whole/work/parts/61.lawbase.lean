/-! THE LAW: calls out of its frame, the two worlds side by side -/
section SRLAW
variable {p : Program} {l : Launch} {e : Env} {R : Room} {s : State} {m : MethodId} {args : Array Value} {below : List Frame} {meth : Method} {c : Code} {H : Heap} {locs : List Loc} {cells slots : Nat} {Q : State → Prop}
variable {cc : ByteArray} {pc nL : Nat} {ls : Array Slot} {rest st0 : List Value} {D : va_G} {A : Nat → Prop} {tys : List (ClassId × FieldType)} {Z : State → Heap → Prop} {w : va_W} {own : String}
variable {y : MethodName} {b : ByteArray} {n na fr lo index : Nat} {ret : Option FieldType} {As : List Value} {S : Type} {P : S → Prop} {w2 : S → va_W} {A0 : Nat → Prop}
theorem sr_lVi (C0 : CallFix p m c cc nL s args sr_ws own) (hK : va_K D vwCl tys s) (hP : va_P D vwCl w H) (hZ : sr_Zok A Z) (hZs : Z s H) {q : Addr} {f : S → Int32} (hM : sr_G l D tys Z A w y b n ret fr lo (.ref q :: As) P w2 (fun u => some (.int (f u)))) (hk : sr_ok y b n ret na) (hkV : sr_okV y) (hl : Cond.methodLink own index y ∈ sr_ws) {ci q0 N : Nat} {T : u_T} {fs : List Value} (hc : vwCl[ci]? = some (y.cls, T, N)) (he : w[q0]? = some (q, .inr (ci, fs))) (hst : st0 = As.reverse ++ .ref q :: rest) (hn : As.length = na) (hsz : ls.size = nL) (hfr : fr + 1 ≤ R.frames) (hlo : 8 + (n + 11) + lo ≤ R.locals) (hW : (rest.map fun v => v.category).sum ≤ 8) (hdg : decode cc pc = .ok (.invokevirtual index, 3)) (hcs : cells ≤ R.cells ∧ slots ≤ R.slots) (hS : va_S A0 s.heap H locs) (hA : ∀ q, A q → A0 q)
    (kk : ∀ (u : S) (H1 : Heap) (locs1 : List Loc), P u → va_P D vwCl (w2 u) H1 → va_S A0 s.heap H1 locs1 → (∀ q : Nat, q < H.size → ¬ A q → H1[q]? = H[q]?) → W p l e R s m args below meth c H1 locs1 cells slots Q (F0 m (pc + 3) ls (.int (f u) :: rest))) : W p l e R s m args below meth c H locs cells slots Q (F0 m pc ls st0) :=
  sr_goG (sr_rV C0 hK hP hZ hZs hM hk hkV hl hc he hst hn hsz hfr hlo hW hdg hcs) hS hA (fun u H1 l1 h1 h2 h3 _ h5 => kk u H1 l1 h1 h2 h3 h5)
theorem sr_lVl (C0 : CallFix p m c cc nL s args sr_ws own) (hK : va_K D vwCl tys s) (hP : va_P D vwCl w H) (hZ : sr_Zok A Z) (hZs : Z s H) {q : Addr} {f : S → Int64} (hM : sr_G l D tys Z A w y b n ret fr lo (.ref q :: As) P w2 (fun u => some (.long (f u)))) (hk : sr_ok y b n ret na) (hkV : sr_okV y) (hl : Cond.methodLink own index y ∈ sr_ws) {ci q0 N : Nat} {T : u_T} {fs : List Value} (hc : vwCl[ci]? = some (y.cls, T, N)) (he : w[q0]? = some (q, .inr (ci, fs))) (hst : st0 = As.reverse ++ .ref q :: rest) (hn : As.length = na) (hsz : ls.size = nL) (hfr : fr + 1 ≤ R.frames) (hlo : 8 + (n + 11) + lo ≤ R.locals) (hW : (rest.map fun v => v.category).sum ≤ 8) (hdg : decode cc pc = .ok (.invokevirtual index, 3)) (hcs : cells ≤ R.cells ∧ slots ≤ R.slots) (hS : va_S A0 s.heap H locs) (hA : ∀ q, A q → A0 q)
    (kk : ∀ (u : S) (H1 : Heap) (locs1 : List Loc), P u → va_P D vwCl (w2 u) H1 → va_S A0 s.heap H1 locs1 → (∀ q : Nat, q < H.size → ¬ A q → H1[q]? = H[q]?) → W p l e R s m args below meth c H1 locs1 cells slots Q (F0 m (pc + 3) ls (.long (f u) :: rest))) : W p l e R s m args below meth c H locs cells slots Q (F0 m pc ls st0) :=
  sr_goG (sr_rV C0 hK hP hZ hZs hM hk hkV hl hc he hst hn hsz hfr hlo hW hdg hcs) hS hA (fun u H1 l1 h1 h2 h3 _ h5 => kk u H1 l1 h1 h2 h3 h5)
end SRLAW
def sr_LC (D : va_G) (cI cR : ClassId) (aC aM : Nat → Nat) (b L : Nat) (xs : Nat → Int32) (p : Program) (s : State) (m : MethodId) (args : Array Value) (c : Code) : Prop :=
  CallFix p m c cL_law 4 s args sr_ws RL ∧ va_K D vwCl (sr_tC cI cR) s ∧ sr_ZC aC s s.heap ∧ (∀ i j, i < 36 → j < 36 → aC i = aC j → i = j) ∧ (∀ i j, i < 13 → j < 13 → aM i = aM j → i = j) ∧ (∀ i j, i < 36 → j < 13 → aC i ≠ aM j) ∧ (∀ i, i < 36 → s.heap.size ≤ aC i) ∧ (∀ j, j < 13 → s.heap.size ≤ aM j) ∧ va_X b L xs s s.heap ∧ b < s.heap.size
def sr_LH (D : va_G) (cI cR : ClassId) (aC aM : Nat → Nat) (s : State) (H : Heap) (locs : List Loc) (kp X g cM r : sr_M) : Prop :=
  sr_LJ kp X cM ∧ va_P D vwCl (sr_WC cI cR aC kp X g) H ∧ va_P D vwCl (sr_WM cI aM kp cM r) H ∧ va_S (fun q : Nat => s.heap.size ≤ q) s.heap H locs
theorem sr_ZCl {aC : Nat → Nat} {s : State} {H : Heap} {locs : List Loc} (hS : va_S (fun q : Nat => s.heap.size ≤ q) s.heap H locs) (h0 : sr_ZC aC s s.heap) : sr_ZC aC s H := (sr_ZCok aC).2.2 s s.heap H (fun q hq _ => hS.2.1 q hq (Nat.not_le.mpr hq)) h0
theorem sr_loC {s : State} {aC : Nat → Nat} (h : ∀ i, i < 36 → s.heap.size ≤ aC i) {q : Nat} (hq : sr_AC aC q) : (fun q : Nat => s.heap.size ≤ q) q := by
  obtain ⟨k, hk, rfl⟩ := hq
  exact h k hk
theorem sr_loM {s : State} {aM : Nat → Nat} (h : ∀ i, i < 13 → s.heap.size ≤ aM i) {q : Nat} (hq : sr_AM aM q) : (fun q : Nat => s.heap.size ≤ q) q := by
  obtain ⟨k, hk, rfl⟩ := hq
  exact h k hk
theorem sr_keepM {D : va_G} {cI : ClassId} {aC aM : Nat → Nat} {kp c r : sr_M} {H H1 : Heap} (hdis : ∀ i j, i < 36 → j < 13 → aC i ≠ aM j) (hP : va_P D vwCl (sr_WM cI aM kp c r) H) (hk : ∀ q : Nat, q < H.size → ¬ sr_AC aC q → H1[q]? = H[q]?) : va_P D vwCl (sr_WM cI aM kp c r) H1 := by
  refine hP.kept (fun k q hq => hk q.1 (hP k q hq).lt (fun ⟨i, hi, e⟩ => ?_))
  obtain ⟨h1, h2⟩ := sr_adM hq
  exact hdis i k hi h1 (by rw [← e, h2])
theorem sr_keepC {D : va_G} {cI cR : ClassId} {aC aM : Nat → Nat} {kp c r : sr_M} {H H1 : Heap} (hdis : ∀ i j, i < 36 → j < 13 → aC i ≠ aM j) (hP : va_P D vwCl (sr_WC cI cR aC kp c r) H) (hk : ∀ q : Nat, q < H.size → ¬ sr_AM aM q → H1[q]? = H[q]?) : va_P D vwCl (sr_WC cI cR aC kp c r) H1 := by
  refine hP.kept (fun k q hq => hk q.1 (hP k q hq).lt (fun ⟨i, hi, e⟩ => ?_))
  obtain ⟨h1, h2⟩ := sr_adC hq
  exact hdis k i h1 hi (by rw [← h2, e])
theorem sr_and31 (x : Int32) : ∃ k, k < 32 ∧ x &&& 31 = nI k := by
  refine ⟨x.toBitVec.toNat % 32, Nat.mod_lt _ (by decide), ?_⟩
  have h1 : x.toBitVec.toNat % 32 < 32 := Nat.mod_lt _ (by decide)
  apply Int32.toBitVec_inj.mp
  apply BitVec.eq_of_toNat_eq
  rw [Int32.toBitVec_and, BitVec.toNat_and, show (31 : Int32).toBitVec.toNat = 2 ^ 5 - 1 from rfl, Nat.and_two_pow_sub_one_eq_mod]
  show x.toBitVec.toNat % 32 = (x.toBitVec.toNat % 32) % 2 ^ 32
  exact (Nat.mod_eq_of_lt (by omega)).symm
theorem sr_k32 : ∀ k, k < 32 → k = 0 ∨ k = 1 ∨ k = 2 ∨ k = 3 ∨ k = 4 ∨ k = 5 ∨ k = 6 ∨ k = 7 ∨ k = 8 ∨ k = 9 ∨ k = 10 ∨ k = 11 ∨ k = 12 ∨ k = 13 ∨ k = 14 ∨ k = 15 ∨ k = 16 ∨ k = 17 ∨ k = 18 ∨ k = 19 ∨ k = 20 ∨ k = 21 ∨ k = 22 ∨ k = 23 ∨ k = 24 ∨ k = 25 ∨ k = 26 ∨ k = 27 ∨ k = 28 ∨ k = 29 ∨ k = 30 ∨ k = 31 := by
  intro k hk
  rcases Nat.lt_or_ge k 16 with h | h
  · rcases Nat.lt_or_ge k 8 with h2 | h2
    · omega
    · omega
  · rcases Nat.lt_or_ge k 24 with h2 | h2
    · omega
    · omega
theorem sr_ix6 {ix L : Nat} (hi : ix ≤ 384) (hL : L ≤ 384) (h : ¬ (nI L - 6 < nI ix)) : ix + 6 ≤ L := by
  have e6 : (6 : Int32).toInt = 6 := rfl
  rw [Int32.lt_iff_toInt_lt, sr_subI (by rw [sr_nIi (by omega), e6]; omega) (by rw [sr_nIi (by omega), e6]; omega), sr_nIi (by omega), sr_nIi (by omega), e6] at h
  omega
