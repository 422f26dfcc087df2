/-! THE START: what the first calls find -/
theorem sr_IK0 : sr_IK sr_k0 := by
  refine ⟨⟨by decide, by decide⟩, fun s hs => ?_, ⟨by decide, by decide, by decide⟩, fun j h1 h7 => ?_, fun c hc => ?_, fun c hc => ?_, fun i hi => ?_⟩
  · rcases (show s = 0 ∨ s = 1 ∨ s = 2 ∨ s = 3 by omega) with rfl | rfl | rfl | rfl <;> decide
  · rcases (show j = 1 ∨ j = 2 ∨ j = 3 ∨ j = 4 ∨ j = 5 ∨ j = 6 by omega) with rfl | rfl | rfl | rfl | rfl | rfl <;> decide
  · rcases (show c = 0 ∨ c = 1 ∨ c = 2 by omega) with rfl | rfl | rfl <;> decide
  · rcases (show c = 0 ∨ c = 1 ∨ c = 2 by omega) with rfl | rfl | rfl <;> (unfold sr_k0; decide)
  · have e : sr_n sr_k0 = 0 := by decide
    omega
theorem sr_cnt0 : sr_cnt sr_k0 = 0 := by decide
theorem sr_LJ0 : sr_LJ sr_k0 sr_x0 sr_c0 := by
  refine ⟨⟨sr_IK0, by decide, by rw [sr_cnt0]; decide, fun r hr => ?_, fun s hs => ?_⟩, fun s hs => ?_, fun s hs => Or.inl ?_⟩
  · rw [sr_cnt0] at hr
    exact absurd hr (Nat.not_lt_zero _)
  · rcases (show s = 0 ∨ s = 1 ∨ s = 2 ∨ s = 3 by omega) with rfl | rfl | rfl | rfl <;> decide
  · rcases (show s = 0 ∨ s = 1 ∨ s = 2 ∨ s = 3 by omega) with rfl | rfl | rfl | rfl <;> decide
  · rcases (show s = 0 ∨ s = 1 ∨ s = 2 ∨ s = 3 by omega) with rfl | rfl | rfl | rfl <;> decide
theorem sr_Zst_of {C n : String} {N : Nat} {f : Nat → Int32} {A : Nat → Prop} {args : Array Value} {s : State} (hl : (Cond.laysStatic C n "[I").before args s = true) (hini : (Cond.initialized C).before args s = true) (harr : (Cond.arrayOf (.static C n "[I") .int).before args s = true) (hlen : (Cond.eq (.length (.static C n "[I")) (.int (Int32.ofNat N))).before args s = true) (hel : ∀ j : Nat, j < N → (Cond.eq (.elem (.static C n "[I") (.int (Int32.ofNat j))) (.int (f j))).before args s = true) (hN : N < 2 ^ 31) (hA : ∀ a : Nat, a < s.heap.size → ¬ A a) : sr_Zst C n N f A s s.heap := by
  obtain ⟨t, ht, hT⟩ := va_Tof (f := fun j => .int (f j)) hN harr (va_eqt hlen) (fun j hj => va_eqt (hel j hj)) hA
  exact ⟨t, va_Zof hl hini ht hA, hT⟩
theorem sr_PL {D : va_G} {a b : va_W} {H : Heap} (h : va_P D vwCl (a ++ b) H) : va_P D vwCl a H := fun k q hk => h k q (by rw [List.getElem?_append_left (List.getElem?_eq_some_iff.mp hk).1]; exact hk)
theorem sr_PR {D : va_G} {a b : va_W} {H : Heap} (h : va_P D vwCl (a ++ b) H) : va_P D vwCl b H := fun k q hk => h (a.length + k) q (by rw [List.getElem?_append_right (Nat.le_add_right _ _), Nat.add_sub_cancel_left]; exact hk)
theorem sr_atC {cI cR : ClassId} {a : Nat → Nat} {kp cx sg : sr_M} {k : Nat} (h : k < 36) : ∃ e, (sr_WC cI cR a kp cx sg)[k]? = some (a k, e) := by
  have hl : (sr_WC cI cR a kp cx sg).length = 36 := rfl
  have hk : k < (sr_WC cI cR a kp cx sg).length := by rw [hl]; exact h
  have e1 := List.getElem?_eq_getElem hk
  refine ⟨((sr_WC cI cR a kp cx sg)[k]).2, ?_⟩
  rw [e1]
  have := (sr_adC e1).2
  rw [← this]
theorem sr_atM {cI : ClassId} {a : Nat → Nat} {kp cx sg : sr_M} {k : Nat} (h : k < 13) : ∃ e, (sr_WM cI a kp cx sg)[k]? = some (a k, e) := by
  have hl : (sr_WM cI a kp cx sg).length = 13 := rfl
  have hk : k < (sr_WM cI a kp cx sg).length := by rw [hl]; exact h
  have e1 := List.getElem?_eq_getElem hk
  refine ⟨((sr_WM cI a kp cx sg)[k]).2, ?_⟩
  rw [e1]
  have := (sr_adM e1).2
  rw [← this]
theorem sr_aD {cI cR : ClassId} {aC aM : Nat → Nat} {kp cx sg k2 c2 s2 : sr_M} {A : Nat → Prop} (hD : va_D A (sr_WC cI cR aC kp cx sg ++ sr_WM cI aM k2 c2 s2)) : (∀ i j, i < 36 → j < 36 → aC i = aC j → i = j) ∧ (∀ i j, i < 13 → j < 13 → aM i = aM j → i = j) ∧ (∀ i j, i < 36 → j < 13 → aC i ≠ aM j) ∧ (∀ i, i < 36 → A (aC i)) ∧ (∀ j, j < 13 → A (aM j)) := by
  have hl : (sr_WC cI cR aC kp cx sg).length = 36 := rfl
  have gC : ∀ i, i < 36 → ∃ e, (sr_WC cI cR aC kp cx sg ++ sr_WM cI aM k2 c2 s2)[i]? = some (aC i, e) := fun i hi => by
    obtain ⟨e, he⟩ := sr_atC (cI := cI) (cR := cR) (a := aC) (kp := kp) (cx := cx) (sg := sg) hi
    exact ⟨e, by rw [List.getElem?_append_left (by rw [hl]; exact hi)]; exact he⟩
  have gM : ∀ j, j < 13 → ∃ e, (sr_WC cI cR aC kp cx sg ++ sr_WM cI aM k2 c2 s2)[36 + j]? = some (aM j, e) := fun j hj => by
    obtain ⟨e, he⟩ := sr_atM (cI := cI) (a := aM) (kp := k2) (cx := c2) (sg := s2) hj
    exact ⟨e, by rw [List.getElem?_append_right (by rw [hl]; omega), hl, Nat.add_sub_cancel_left]; exact he⟩
  refine ⟨fun i j hi hj h => ?_, fun i j hi hj h => ?_, fun i j hi hj h => ?_, fun i hi => ?_, fun j hj => ?_⟩
  · obtain ⟨e1, h1⟩ := gC i hi
    obtain ⟨e2, h2⟩ := gC j hj
    exact hD.1 i j _ _ h1 h2 h
  · obtain ⟨e1, h1⟩ := gM i hi
    obtain ⟨e2, h2⟩ := gM j hj
    have := hD.1 (36 + i) (36 + j) _ _ h1 h2 h
    omega
  · obtain ⟨e1, h1⟩ := gC i hi
    obtain ⟨e2, h2⟩ := gM j hj
    have := hD.1 i (36 + j) _ _ h1 h2 h
    omega
  · obtain ⟨e1, h1⟩ := gC i hi
    exact hD.2 i _ h1
  · obtain ⟨e2, h2⟩ := gM j hj
    exact hD.2 (36 + j) _ h2
