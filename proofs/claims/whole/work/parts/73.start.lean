set_option maxRecDepth 100000 in
set_option maxHeartbeats 8000000 in
theorem sr_ZC0 {s : State} {aC : Nat → Nat} {b : Nat} (hts : ∀ w ∈ lw_tbl, w.before #[Value.ref b] s = true) (hgv : (Jvm.Cond.and given_1 narrow_1).before #[Value.ref b] s = true) (hlo : ∀ i, i < 36 → s.heap.size ≤ aC i) : sr_ZC aC s s.heap := by
  have hs := flat_of_before _ hgv
  have hA : ∀ q : Nat, q < s.heap.size → ¬ sr_AC aC q := fun q hq ⟨i, hi, e⟩ => by have := hlo i hi; omega
  refine ⟨va_Nw.of rfl (hts _ st_229), va_Nw.of rfl (hts _ st_548), va_Nw.of rfl (hts _ st_292), ?_, ?_, ?_, ?_⟩
  · refine sr_Zst_of (hts _ st_285) (hts _ (sr_tbl _ sw_1)) (hs _ (by decide +kernel)) (hs _ (by decide +kernel)) (fun j hj => ?_) (by decide) hA
    rcases (show j = 0 ∨ j = 1 ∨ j = 2 ∨ j = 3 ∨ j = 4 ∨ j = 5 ∨ j = 6 by omega) with rfl | rfl | rfl | rfl | rfl | rfl | rfl <;> exact hs _ (by decide +kernel)
  · refine sr_Zst_of (hts _ st_287) (hts _ (sr_tbl _ sw_1)) (hs _ (by decide +kernel)) (hs _ (by decide +kernel)) (fun j hj => ?_) (by decide) hA
    rcases (show j = 0 ∨ j = 1 ∨ j = 2 ∨ j = 3 ∨ j = 4 ∨ j = 5 ∨ j = 6 by omega) with rfl | rfl | rfl | rfl | rfl | rfl | rfl <;> exact hs _ (by decide +kernel)
  · refine sr_Zst_of (hts _ st_431) (hts _ (sr_tbl _ sw_5)) (hs _ (by decide +kernel)) (hs _ (by decide +kernel)) (fun j hj => ?_) (by decide) hA
    rcases (show j = 0 ∨ j = 1 ∨ j = 2 ∨ j = 3 ∨ j = 4 by omega) with rfl | rfl | rfl | rfl | rfl <;> exact hs _ (by decide +kernel)
  · refine sr_Zst_of (hts _ st_512) (hts _ (sr_tbl _ sw_7)) (hs _ (by decide +kernel)) (hs _ (by decide +kernel)) (fun j hj => ?_) (by decide) hA
    rcases (show j = 0 ∨ j = 1 ∨ j = 2 ∨ j = 3 ∨ j = 4 ∨ j = 5 ∨ j = 6 ∨ j = 7 ∨ j = 8 ∨ j = 9 ∨ j = 10 ∨ j = 11 ∨ j = 12 ∨ j = 13 ∨ j = 14 ∨ j = 15 by omega) with rfl | rfl | rfl | rfl | rfl | rfl | rfl | rfl | rfl | rfl | rfl | rfl | rfl | rfl | rfl | rfl <;> exact hs _ (by decide +kernel)
theorem sr_cls0 {s : State} {args : Array Value} (hws : ∀ w ∈ sr_ws, w.before args s = true) : ∃ D : va_G, ∀ (k : Nat) (q : vw_C), vwCl[k]? = some q → u_Kn s q.1 q.2.1 q.2.2 (D.1 k) (D.2 k) := by
  obtain ⟨c0, i0, n0⟩ := u_known (C := RX0) (T := TX0) (N := 2) (n := 2) hws sr_inX0 (hws _ sw_150)
  obtain ⟨c1, i1, n1⟩ := u_known (C := RX1) (T := TX1) (N := 3) (n := 3) hws sr_inX1 (hws _ sw_109)
  obtain ⟨c2, i2, n2⟩ := u_known (C := RX2) (T := TX2) (N := 5) (n := 5) hws sr_inX2 (hws _ sw_125)
  obtain ⟨c3, i3, n3⟩ := u_known (C := RX3) (T := TX3) (N := 5) (n := 5) hws sr_inX3 (hws _ sw_82)
  obtain ⟨c4, i4, n4⟩ := u_known (C := RX4) (T := TX4) (N := 8) (n := 8) hws sr_inX4 (hws _ sw_23)
  obtain ⟨c5, i5, n5⟩ := u_known (C := RX5) (T := TX5) (N := 4) (n := 4) hws sr_inX5 (hws _ sw_165)
  obtain ⟨c6, i6, n6⟩ := u_known (C := RX6) (T := TX6) (N := 3) (n := 3) hws sr_inX6 (hws _ sw_64)
  obtain ⟨c7, i7, n7⟩ := u_known (C := RX7) (T := TX7) (N := 7) (n := 7) hws sr_inX7 (hws _ sw_15)
  obtain ⟨c8, i8, n8⟩ := u_known (C := RX8) (T := TX8) (N := 17) (n := 17) hws sr_inX8 (hws _ sw_605)
  refine ⟨(fun k => ([c0, c1, c2, c3, c4, c5, c6, c7, c8] : List ClassId).getD k c0, fun k => ([i0, i1, i2, i3, i4, i5, i6, i7, i8] : List (Nat → Nat)).getD k i0), ?_⟩
  intro k q hq
  have hk : k < 9 := (List.getElem?_eq_some_iff.mp hq).1
  rcases (show k = 0 ∨ k = 1 ∨ k = 2 ∨ k = 3 ∨ k = 4 ∨ k = 5 ∨ k = 6 ∨ k = 7 ∨ k = 8 by omega) with rfl | rfl | rfl | rfl | rfl | rfl | rfl | rfl | rfl
  · cases hq; exact n0
  · cases hq; exact n1
  · cases hq; exact n2
  · cases hq; exact n3
  · cases hq; exact n4
  · cases hq; exact n5
  · cases hq; exact n6
  · cases hq; exact n7
  · cases hq; exact n8
theorem sr_K0 {s : State} {b : Nat} {D : va_G} (hts : ∀ w ∈ lw_tbl, w.before #[Value.ref b] s = true) (hKc : ∀ (k : Nat) (q : vw_C), vwCl[k]? = some q → u_Kn s q.1 q.2.1 q.2.2 (D.1 k) (D.2 k)) : ∃ cI cR, va_K D vwCl (sr_tC cI cR) s := by
  obtain ⟨cI, kI, coI, hI1, hI2, hI3⟩ := Cond.arrayClass_spec (hts _ (sr_tbl _ sw_62))
  obtain ⟨comp, cR, kR, -, -, hR2, hR3, hR4⟩ := sr_AOA_spec (sr_AOA_of (hts _ st_131))
  refine ⟨cI, cR, hKc, fun k q hq => ?_⟩
  have hk : k < 2 := (List.getElem?_eq_some_iff.mp hq).1
  rcases (show k = 0 ∨ k = 1 by omega) with rfl | rfl
  · cases hq
    exact ⟨fun n z => ⟨fun k h => (by cases h), kI, hI2, coI, hI3⟩, hI1⟩
  · cases hq
    exact ⟨fun n z => ⟨fun k h => (by cases h), kR, hR2, comp, hR3⟩, hR4⟩
set_option maxRecDepth 100000 in
set_option maxHeartbeats 8000000 in
theorem whole_start {p : Program} {e : Env} {s : State} {m : MethodId} {below : List Frame} {meth : Method} {c : Code} (l : Launch) (hflags : l.flags = flags0) {b L : Nat} {xs : Nat → Int32} (hL : L ≤ 384) (C0 : lw_At p s m meth c b L xs) : W p l e room_1 s m #[Value.ref b] below meth c s.heap [] 0 0 (lw_Z below #[Value.ref b] s) (entryFrame m ([Value.ref b] : List Value).toArray 4) := by
  obtain ⟨hx, hb, hr, hml, hown, hts, hX, hbl, hlocks, hgv⟩ := C0
  have hws : ∀ w ∈ sr_ws, w.before #[Value.ref b] s = true := fun w h => hts w (sr_tbl w h)
  have C1 : CallFix p m c cL_law 4 s #[Value.ref b] sr_ws RL := ⟨hx, hb, hml, hown, hws⟩
  obtain ⟨D, hKc⟩ := sr_cls0 hws
  obtain ⟨cI, cR, hK⟩ := sr_K0 hts hKc
  have hZ : sr_ZI s := ⟨va_Nw.of rfl (hts _ st_24), va_Nw.of rfl (hts _ st_151), va_Nw.of rfl (hts _ st_166), sr_AOA_of (hts _ st_131)⟩
  have hA : ∀ q : Nat, s.heap.size ≤ q → (fun q : Nat => s.heap.size ≤ q) q := fun _ h => h
  have hS : va_S (fun q : Nat => s.heap.size ≤ q) s.heap s.heap [] := va_S.rf
  have hP : va_P D vwCl [] s.heap := fun k q h => by simp at h
  have hD : va_D (fun q : Nat => s.heap.size ≤ q) [] := ⟨fun i j p q h => by simp at h, fun k q h => by simp at h⟩
  have hl := lv_entry ([.ref b]) (n := 4) (Nat.le_of_ble_eq_true rfl)
  rw [lg_entry_eq]
  generalize (lg_sl ([.ref b]) ++ List.replicate (4 - (lg_sl ([.ref b])).length) Slot.unset).toArray = ls at hl ⊢
  have hl : lv_has ls 4 [(0, .ref b)] := hl
  refine va_new (ci := 7) (fs := [.null, .null, .null, .null, .null, .null, .null]) (C := RX7) (T := TX7) (N := 7) C1.1 C1.2.1 C1.2.2.2.2 sr_inX7 tyX7 tyX7_ok C1.2.2.2.1 (hws _ sw_14) (hws _ sw_15) (hws _ sw_1) hK hP hD hS hA rfl (fun j hj => by rcases (show j = 0 ∨ j = 1 ∨ j = 2 ∨ j = 3 ∨ j = 4 ∨ j = 5 ∨ j = 6 by omega) with rfl | rfl | rfl | rfl | rfl | rfl | rfl <;> rfl) (Nat.le_of_ble_eq_true rfl) (Nat.le_of_ble_eq_true rfl) dL_law_0 (fun q7 H hP hD hS => ?_)
  refine W.widen (k := 1) (n := 7) (by omega) (by omega) ?_
  refine lv_dup C1.1 C1.2.1 dL_law_3 rfl ?_
  refine sr_nI (wr := []) (x := (q7, .inr (7, [.null, .null, .null, .null, .null, .null, .null]))) (As := []) C1 hK hP hD hS hA hZ (nn_X7_init q7 _) sk_X7_init rfl sw_17 sw_16 rfl rfl hl.1 (Nat.le_of_ble_eq_true rfl) (Nat.le_of_ble_eq_true rfl) (Nat.le_of_ble_eq_true rfl) dL_law_4 ⟨(Nat.le_of_ble_eq_true rfl), (Nat.le_of_ble_eq_true rfl)⟩ (fun aC H2 locs2 hu hP2 hD2 hS2 => ?_)
  subst hu
  have hP : va_P D vwCl (sr_WC cI cR aC sr_k0 sr_x0 sr_g0) H2 := hP2
  have hD : va_D (fun q : Nat => s.heap.size ≤ q) (sr_WC cI cR aC sr_k0 sr_x0 sr_g0) := hD2
  have hS := hS2
  refine W.widen (k := 36) (n := 542) (by omega) (by omega) ?_
  refine lv_astore_n (lv' := [(1, .ref (aC 0)), (0, .ref b)]) C1.1 C1.2.1 dL_law_7 rfl hl (by decide) rfl (fun ls hl => ?_)
  refine va_new (ci := 8) (fs := [.null, .null, .null, .null, .int 0, .null, .int 0, .int 0, .int 0, .null, .null, .null, .null, .null, .null, .null, .int 0]) (C := RX8) (T := TX8) (N := 17) C1.1 C1.2.1 C1.2.2.2.2 sr_inX8 tyX8 tyX8_ok C1.2.2.2.1 (hws _ sw_604) (hws _ sw_605) (hws _ sw_9) hK hP hD hS hA rfl (fun j hj => by rcases (show j = 0 ∨ j = 1 ∨ j = 2 ∨ j = 3 ∨ j = 4 ∨ j = 5 ∨ j = 6 ∨ j = 7 ∨ j = 8 ∨ j = 9 ∨ j = 10 ∨ j = 11 ∨ j = 12 ∨ j = 13 ∨ j = 14 ∨ j = 15 ∨ j = 16 by omega) with rfl | rfl | rfl | rfl | rfl | rfl | rfl | rfl | rfl | rfl | rfl | rfl | rfl | rfl | rfl | rfl | rfl <;> rfl) (Nat.le_of_ble_eq_true rfl) (Nat.le_of_ble_eq_true rfl) dL_law_8 (fun q8 H hP hD hS => ?_)
  refine W.widen (k := 37) (n := 559) (by omega) (by omega) ?_
  refine lv_dup C1.1 C1.2.1 dL_law_11 rfl ?_
  refine sr_nI (wr := sr_WC cI cR aC sr_k0 sr_x0 sr_g0) (x := (q8, .inr (8, [.null, .null, .null, .null, .int 0, .null, .int 0, .int 0, .int 0, .null, .null, .null, .null, .null, .null, .null, .int 0]))) (As := []) C1 hK hP hD hS hA hZ (nn_X8_init q8 _) sk_X8_init rfl sw_607 sw_606 rfl rfl hl.1 (Nat.le_of_ble_eq_true rfl) (Nat.le_of_ble_eq_true rfl) (Nat.le_of_ble_eq_true rfl) dL_law_12 ⟨(Nat.le_of_ble_eq_true rfl), (Nat.le_of_ble_eq_true rfl)⟩ (fun aM H3 locs3 hu hP3 hD3 hS3 => ?_)
  subst hu
  refine W.widen (k := 600000) (n := 7302249) (Nat.le_of_ble_eq_true rfl) (Nat.le_of_ble_eq_true rfl) ?_
  refine lv_astore_n (lv' := [(2, .ref (aM 0)), (1, .ref (aC 0)), (0, .ref b)]) C1.1 C1.2.1 dL_law_15 rfl hl (by decide) rfl (fun ls hl => ?_)
  refine lv_iconst (v := 0) C1.1 C1.2.1 dL_law_16 (by decide) ?_
  refine lv_istore_n (lv' := [(3, .int 0), (2, .ref (aM 0)), (1, .ref (aC 0)), (0, .ref b)]) C1.1 C1.2.1 dL_law_17 rfl hl (by decide) rfl (fun ls hl => ?_)
  have hl : lv_has ls 4 [(3, .int (nI 0)), (2, .ref (aM 0)), (1, .ref (aC 0)), (0, .ref b)] := hl
  obtain ⟨h1, h2, h3, h4, h5⟩ := sr_aD hD3
  refine lw_loop (D := D) (cI := cI) (cR := cR) (aC := aC) (aM := aM) (b := b) (L := L) (xs := xs) ⟨C1, hK, sr_ZC0 hts hgv h4, h1, h2, h3, h4, h5, hX, hbl⟩ hL (fun H locs ls hS => ?_) (L + 1) 0 sr_k0 sr_x0 sr_g0 sr_c0 sr_r0 H3 locs3 ls (by omega) ⟨sr_LJ0, sr_PL hP3, sr_PR hP3, hS3⟩ hl (Nat.zero_le _)
  refine lv_iconst (v := 1) C1.1 C1.2.1 dL_law_1110 (by decide) ?_
  refine va_forget hS.2.2 ?_
  exact lw_ret hx hb hr hlocks dL_law_1111
