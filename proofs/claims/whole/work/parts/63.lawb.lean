set_option maxRecDepth 100000 in
set_option maxHeartbeats 4000000 in
theorem lw_c12 {p : Program} {l : Launch} {e : Env} {s : State} {m : MethodId} {below : List Frame} {meth : Method} {c : Code} {Q : State → Prop} {D : va_G} {cI cR : ClassId} {aC aM : Nat → Nat} {b L : Nat} {xs : Nat → Int32} (hC : sr_LC D cI cR aC aM b L xs p s m #[.ref b] c) {kp X g cM r : sr_M} {H : Heap} {locs : List Loc} {ls : Array Slot} {ix : Nat} (hH : sr_LH D cI cR aC aM s H locs kp X g cM r) (hl : lv_has ls 4 [(3, .int (nI ix)), (2, .ref (aM 0)), (1, .ref (aC 0)), (0, .ref b)]) (hi : ix + 6 ≤ L) (hL : L ≤ 384)
    (kk : ∀ (kp X g cM r : sr_M) (H : Heap) (locs : List Loc) (ls : Array Slot), sr_LH D cI cR aC aM s H locs kp X g cM r → lv_has ls 4 [(3, .int (nI ix)), (2, .ref (aM 0)), (1, .ref (aC 0)), (0, .ref b)] → W p l e room_1 s m #[.ref b] below meth c H locs 600000 7302249 Q (F0 m 1104 ls [])) : W p l e room_1 s m #[.ref b] below meth c H locs 600000 7302249 Q (F0 m 502 ls []) := by
  obtain ⟨C0, hK, hZ0, haC, haM, hdis, hloC, hloM, hX, hbl⟩ := hC
  obtain ⟨hJ, hP, hPM, hS⟩ := hH
  have hI := hJ.1
  have hSC := hJ.2.1
  have hRX := hJ.2.2
  have hK_ := sr_IC_K hI
  have hKM : va_K D vwCl (sr_tM cI) s := hK.sub [0] rfl
  have hbA : ¬ (fun q : Nat => s.heap.size ≤ q) b := Nat.not_le.mpr hbl
  refine lv_aload_n C0.1 C0.2.1 dL_law_502 rfl (lv_at hl 2 rfl) ?_
  refine lv_aload_n C0.1 C0.2.1 dL_law_503 rfl (lv_at hl 3 rfl) ?_
  refine lv_iload_n C0.1 C0.2.1 dL_law_504 rfl (lv_at hl 0 rfl) ?_
  refine lv_iconst (v := 1) C0.1 C0.2.1 dL_law_505 (by decide) ?_
  refine lv_iadd C0.1 C0.2.1 dL_law_506 ?_
  refine sr_chi (nI_add ix 1) ?_
  refine va_sld C0.1 C0.2.1 hX hbl hbA hS (vp_in_nI (by omega) (by omega)) dL_law_507 ?_
  refine sr_chi (congrArg xs (nI_clamp (n := ix + 1) (by omega))) ?_
  refine sr_pVi (As := [.int (xs (ix + 1))]) C0 hK hP (sr_ZCok aC) (sr_ZCl hS hZ0) (cc_X7_meet haC (xs (ix + 1)) hI) sk_X7_meet sv_X7_meet sw_353 (ci := 7) rfl sr_wC0 rfl rfl hl.1 (Nat.le_of_ble_eq_true rfl) (Nat.le_of_ble_eq_true rfl) (Nat.le_of_ble_eq_true rfl) dL_law_508 ⟨Nat.le_of_ble_eq_true rfl, Nat.le_of_ble_eq_true rfl⟩ ?_
  refine lv_aload_n C0.1 C0.2.1 dL_law_511 rfl (lv_at hl 1 rfl) ?_
  refine lv_aload_n C0.1 C0.2.1 dL_law_512 rfl (lv_at hl 3 rfl) ?_
  refine lv_iload_n C0.1 C0.2.1 dL_law_513 rfl (lv_at hl 0 rfl) ?_
  refine lv_iconst (v := 1) C0.1 C0.2.1 dL_law_514 (by decide) ?_
  refine lv_iadd C0.1 C0.2.1 dL_law_515 ?_
  refine sr_chi (nI_add ix 1) ?_
  refine va_sld C0.1 C0.2.1 hX hbl hbA hS (vp_in_nI (by omega) (by omega)) dL_law_516 ?_
  refine sr_chi (congrArg xs (nI_clamp (n := ix + 1) (by omega))) ?_
  refine sr_lVi (As := [.int (xs (ix + 1))]) C0 hKM hPM sr_ZMok trivial (cc_X8_meet haM (xs (ix + 1)) hK_) sk_X8_meet sv_X8_meet sw_807 (ci := 8) rfl sr_wM0 rfl rfl hl.1 (Nat.le_of_ble_eq_true rfl) (Nat.le_of_ble_eq_true rfl) (Nat.le_of_ble_eq_true rfl) dL_law_517 ⟨Nat.le_of_ble_eq_true rfl, Nat.le_of_ble_eq_true rfl⟩ hS (fun q hq => sr_loM hloM hq) (fun v H2 locs hv hPM hS hkq => ?_)
  have hP := sr_keepC hdis hP hkq
  refine lv_icmp_eq (tgt := 1104) C0.1 C0.2.1 dL_law_520 (by decide) (fun _ => ?_) (fun z => absurd rfl z)
  exact kk _ _ _ _ _ _ _ _ ⟨hJ, hP, hPM, hS⟩ hl
set_option maxRecDepth 100000 in
set_option maxHeartbeats 4000000 in
theorem lw_c13 {p : Program} {l : Launch} {e : Env} {s : State} {m : MethodId} {below : List Frame} {meth : Method} {c : Code} {Q : State → Prop} {D : va_G} {cI cR : ClassId} {aC aM : Nat → Nat} {b L : Nat} {xs : Nat → Int32} (hC : sr_LC D cI cR aC aM b L xs p s m #[.ref b] c) {kp X g cM r : sr_M} {H : Heap} {locs : List Loc} {ls : Array Slot} {ix : Nat} (hH : sr_LH D cI cR aC aM s H locs kp X g cM r) (hl : lv_has ls 4 [(3, .int (nI ix)), (2, .ref (aM 0)), (1, .ref (aC 0)), (0, .ref b)]) (hi : ix + 6 ≤ L) (hL : L ≤ 384)
    (kk : ∀ (kp X g cM r : sr_M) (H : Heap) (locs : List Loc) (ls : Array Slot), sr_LH D cI cR aC aM s H locs kp X g cM r → lv_has ls 4 [(3, .int (nI ix)), (2, .ref (aM 0)), (1, .ref (aC 0)), (0, .ref b)] → W p l e room_1 s m #[.ref b] below meth c H locs 600000 7302249 Q (F0 m 1104 ls [])) : W p l e room_1 s m #[.ref b] below meth c H locs 600000 7302249 Q (F0 m 525 ls []) := by
  obtain ⟨C0, hK, hZ0, haC, haM, hdis, hloC, hloM, hX, hbl⟩ := hC
  obtain ⟨hJ, hP, hPM, hS⟩ := hH
  have hI := hJ.1
  have hSC := hJ.2.1
  have hRX := hJ.2.2
  have hK_ := sr_IC_K hI
  have hKM : va_K D vwCl (sr_tM cI) s := hK.sub [0] rfl
  have hbA : ¬ (fun q : Nat => s.heap.size ≤ q) b := Nat.not_le.mpr hbl
  refine lv_aload_n C0.1 C0.2.1 dL_law_525 rfl (lv_at hl 2 rfl) ?_
  refine lv_aload_n C0.1 C0.2.1 dL_law_526 rfl (lv_at hl 3 rfl) ?_
  refine lv_iload_n C0.1 C0.2.1 dL_law_527 rfl (lv_at hl 0 rfl) ?_
  refine lv_iconst (v := 1) C0.1 C0.2.1 dL_law_528 (by decide) ?_
  refine lv_iadd C0.1 C0.2.1 dL_law_529 ?_
  refine sr_chi (nI_add ix 1) ?_
  refine va_sld C0.1 C0.2.1 hX hbl hbA hS (vp_in_nI (by omega) (by omega)) dL_law_530 ?_
  refine sr_chi (congrArg xs (nI_clamp (n := ix + 1) (by omega))) ?_
  refine sr_pVi (As := [.int (xs (ix + 1))]) C0 hK hP (sr_ZCok aC) (sr_ZCl hS hZ0) (cc_X7_kind haC (xs (ix + 1)) hI) sk_X7_kind sv_X7_kind sw_373 (ci := 7) rfl sr_wC0 rfl rfl hl.1 (Nat.le_of_ble_eq_true rfl) (Nat.le_of_ble_eq_true rfl) (Nat.le_of_ble_eq_true rfl) dL_law_531 ⟨Nat.le_of_ble_eq_true rfl, Nat.le_of_ble_eq_true rfl⟩ ?_
  refine lv_aload_n C0.1 C0.2.1 dL_law_534 rfl (lv_at hl 1 rfl) ?_
  refine lv_aload_n C0.1 C0.2.1 dL_law_535 rfl (lv_at hl 3 rfl) ?_
  refine lv_iload_n C0.1 C0.2.1 dL_law_536 rfl (lv_at hl 0 rfl) ?_
  refine lv_iconst (v := 1) C0.1 C0.2.1 dL_law_537 (by decide) ?_
  refine lv_iadd C0.1 C0.2.1 dL_law_538 ?_
  refine sr_chi (nI_add ix 1) ?_
  refine va_sld C0.1 C0.2.1 hX hbl hbA hS (vp_in_nI (by omega) (by omega)) dL_law_539 ?_
  refine sr_chi (congrArg xs (nI_clamp (n := ix + 1) (by omega))) ?_
  refine sr_lVi (As := [.int (xs (ix + 1))]) C0 hKM hPM sr_ZMok trivial (cc_X8_kind haM (xs (ix + 1)) hK_) sk_X8_kind sv_X8_kind sw_823 (ci := 8) rfl sr_wM0 rfl rfl hl.1 (Nat.le_of_ble_eq_true rfl) (Nat.le_of_ble_eq_true rfl) (Nat.le_of_ble_eq_true rfl) dL_law_540 ⟨Nat.le_of_ble_eq_true rfl, Nat.le_of_ble_eq_true rfl⟩ hS (fun q hq => sr_loM hloM hq) (fun v H2 locs hv hPM hS hkq => ?_)
  have hP := sr_keepC hdis hP hkq
  refine lv_icmp_eq (tgt := 1104) C0.1 C0.2.1 dL_law_543 (by decide) (fun _ => ?_) (fun z => absurd rfl z)
  exact kk _ _ _ _ _ _ _ _ ⟨hJ, hP, hPM, hS⟩ hl
set_option maxRecDepth 100000 in
set_option maxHeartbeats 4000000 in
theorem lw_c14 {p : Program} {l : Launch} {e : Env} {s : State} {m : MethodId} {below : List Frame} {meth : Method} {c : Code} {Q : State → Prop} {D : va_G} {cI cR : ClassId} {aC aM : Nat → Nat} {b L : Nat} {xs : Nat → Int32} (hC : sr_LC D cI cR aC aM b L xs p s m #[.ref b] c) {kp X g cM r : sr_M} {H : Heap} {locs : List Loc} {ls : Array Slot} {ix : Nat} (hH : sr_LH D cI cR aC aM s H locs kp X g cM r) (hl : lv_has ls 4 [(3, .int (nI ix)), (2, .ref (aM 0)), (1, .ref (aC 0)), (0, .ref b)]) (hi : ix + 6 ≤ L) (hL : L ≤ 384)
    (kk : ∀ (kp X g cM r : sr_M) (H : Heap) (locs : List Loc) (ls : Array Slot), sr_LH D cI cR aC aM s H locs kp X g cM r → lv_has ls 4 [(3, .int (nI ix)), (2, .ref (aM 0)), (1, .ref (aC 0)), (0, .ref b)] → W p l e room_1 s m #[.ref b] below meth c H locs 600000 7302249 Q (F0 m 1104 ls [])) : W p l e room_1 s m #[.ref b] below meth c H locs 600000 7302249 Q (F0 m 548 ls []) := by
  obtain ⟨C0, hK, hZ0, haC, haM, hdis, hloC, hloM, hX, hbl⟩ := hC
  obtain ⟨hJ, hP, hPM, hS⟩ := hH
  have hI := hJ.1
  have hSC := hJ.2.1
  have hRX := hJ.2.2
  have hK_ := sr_IC_K hI
  have hKM : va_K D vwCl (sr_tM cI) s := hK.sub [0] rfl
  have hbA : ¬ (fun q : Nat => s.heap.size ≤ q) b := Nat.not_le.mpr hbl
  refine lv_aload_n C0.1 C0.2.1 dL_law_548 rfl (lv_at hl 2 rfl) ?_
  refine sr_pVi (As := []) C0 hK hP (sr_ZCok aC) (sr_ZCl hS hZ0) (cc_X7_time haC hI) sk_X7_time sv_X7_time sw_381 (ci := 7) rfl sr_wC0 rfl rfl hl.1 (Nat.le_of_ble_eq_true rfl) (Nat.le_of_ble_eq_true rfl) (Nat.le_of_ble_eq_true rfl) dL_law_549 ⟨Nat.le_of_ble_eq_true rfl, Nat.le_of_ble_eq_true rfl⟩ ?_
  refine lv_aload_n C0.1 C0.2.1 dL_law_552 rfl (lv_at hl 1 rfl) ?_
  refine sr_lVi (As := []) C0 hKM hPM sr_ZMok trivial (cc_X8_time haM hK_) sk_X8_time sv_X8_time sw_831 (ci := 8) rfl sr_wM0 rfl rfl hl.1 (Nat.le_of_ble_eq_true rfl) (Nat.le_of_ble_eq_true rfl) (Nat.le_of_ble_eq_true rfl) dL_law_553 ⟨Nat.le_of_ble_eq_true rfl, Nat.le_of_ble_eq_true rfl⟩ hS (fun q hq => sr_loM hloM hq) (fun v H2 locs hv hPM hS hkq => ?_)
  have hP := sr_keepC hdis hP hkq
  refine lv_icmp_eq (tgt := 1104) C0.1 C0.2.1 dL_law_556 (by decide) (fun _ => ?_) (fun z => absurd rfl z)
  exact kk _ _ _ _ _ _ _ _ ⟨hJ, hP, hPM, hS⟩ hl
set_option maxRecDepth 100000 in
set_option maxHeartbeats 4000000 in
theorem lw_c15 {p : Program} {l : Launch} {e : Env} {s : State} {m : MethodId} {below : List Frame} {meth : Method} {c : Code} {Q : State → Prop} {D : va_G} {cI cR : ClassId} {aC aM : Nat → Nat} {b L : Nat} {xs : Nat → Int32} (hC : sr_LC D cI cR aC aM b L xs p s m #[.ref b] c) {kp X g cM r : sr_M} {H : Heap} {locs : List Loc} {ls : Array Slot} {ix : Nat} (hH : sr_LH D cI cR aC aM s H locs kp X g cM r) (hl : lv_has ls 4 [(3, .int (nI ix)), (2, .ref (aM 0)), (1, .ref (aC 0)), (0, .ref b)]) (hi : ix + 6 ≤ L) (hL : L ≤ 384)
    (kk : ∀ (kp X g cM r : sr_M) (H : Heap) (locs : List Loc) (ls : Array Slot), sr_LH D cI cR aC aM s H locs kp X g cM r → lv_has ls 4 [(3, .int (nI ix)), (2, .ref (aM 0)), (1, .ref (aC 0)), (0, .ref b)] → W p l e room_1 s m #[.ref b] below meth c H locs 600000 7302249 Q (F0 m 1104 ls [])) : W p l e room_1 s m #[.ref b] below meth c H locs 600000 7302249 Q (F0 m 561 ls []) := by
  obtain ⟨C0, hK, hZ0, haC, haM, hdis, hloC, hloM, hX, hbl⟩ := hC
  obtain ⟨hJ, hP, hPM, hS⟩ := hH
  have hI := hJ.1
  have hSC := hJ.2.1
  have hRX := hJ.2.2
  have hK_ := sr_IC_K hI
  have hKM : va_K D vwCl (sr_tM cI) s := hK.sub [0] rfl
  have hbA : ¬ (fun q : Nat => s.heap.size ≤ q) b := Nat.not_le.mpr hbl
  refine lv_aload_n C0.1 C0.2.1 dL_law_561 rfl (lv_at hl 2 rfl) ?_
  refine lv_aload_n C0.1 C0.2.1 dL_law_562 rfl (lv_at hl 3 rfl) ?_
  refine lv_iload_n C0.1 C0.2.1 dL_law_563 rfl (lv_at hl 0 rfl) ?_
  refine lv_iconst (v := 1) C0.1 C0.2.1 dL_law_564 (by decide) ?_
  refine lv_iadd C0.1 C0.2.1 dL_law_565 ?_
  refine sr_chi (nI_add ix 1) ?_
  refine va_sld C0.1 C0.2.1 hX hbl hbA hS (vp_in_nI (by omega) (by omega)) dL_law_566 ?_
  refine sr_chi (congrArg xs (nI_clamp (n := ix + 1) (by omega))) ?_
  refine sr_pVi (As := [.int (xs (ix + 1))]) C0 hK hP (sr_ZCok aC) (sr_ZCl hS hZ0) (cc_X7_carries haC (xs (ix + 1)) hI) sk_X7_carries sv_X7_carries sw_396 (ci := 7) rfl sr_wC0 rfl rfl hl.1 (Nat.le_of_ble_eq_true rfl) (Nat.le_of_ble_eq_true rfl) (Nat.le_of_ble_eq_true rfl) dL_law_567 ⟨Nat.le_of_ble_eq_true rfl, Nat.le_of_ble_eq_true rfl⟩ ?_
  refine lv_aload_n C0.1 C0.2.1 dL_law_570 rfl (lv_at hl 1 rfl) ?_
  refine lv_aload_n C0.1 C0.2.1 dL_law_571 rfl (lv_at hl 3 rfl) ?_
  refine lv_iload_n C0.1 C0.2.1 dL_law_572 rfl (lv_at hl 0 rfl) ?_
  refine lv_iconst (v := 1) C0.1 C0.2.1 dL_law_573 (by decide) ?_
  refine lv_iadd C0.1 C0.2.1 dL_law_574 ?_
  refine sr_chi (nI_add ix 1) ?_
  refine va_sld C0.1 C0.2.1 hX hbl hbA hS (vp_in_nI (by omega) (by omega)) dL_law_575 ?_
  refine sr_chi (congrArg xs (nI_clamp (n := ix + 1) (by omega))) ?_
  refine sr_lVi (As := [.int (xs (ix + 1))]) C0 hKM hPM sr_ZMok trivial (cc_X8_carries haM (xs (ix + 1)) hK_) sk_X8_carries sv_X8_carries sw_839 (ci := 8) rfl sr_wM0 rfl rfl hl.1 (Nat.le_of_ble_eq_true rfl) (Nat.le_of_ble_eq_true rfl) (Nat.le_of_ble_eq_true rfl) dL_law_576 ⟨Nat.le_of_ble_eq_true rfl, Nat.le_of_ble_eq_true rfl⟩ hS (fun q hq => sr_loM hloM hq) (fun v H2 locs hv hPM hS hkq => ?_)
  have hP := sr_keepC hdis hP hkq
  refine lv_icmp_eq (tgt := 1104) C0.1 C0.2.1 dL_law_579 (by decide) (fun _ => ?_) (fun z => absurd rfl z)
  exact kk _ _ _ _ _ _ _ _ ⟨hJ, hP, hPM, hS⟩ hl
set_option maxRecDepth 100000 in
set_option maxHeartbeats 4000000 in
theorem lw_c16 {p : Program} {l : Launch} {e : Env} {s : State} {m : MethodId} {below : List Frame} {meth : Method} {c : Code} {Q : State → Prop} {D : va_G} {cI cR : ClassId} {aC aM : Nat → Nat} {b L : Nat} {xs : Nat → Int32} (hC : sr_LC D cI cR aC aM b L xs p s m #[.ref b] c) {kp X g cM r : sr_M} {H : Heap} {locs : List Loc} {ls : Array Slot} {ix : Nat} (hH : sr_LH D cI cR aC aM s H locs kp X g cM r) (hl : lv_has ls 4 [(3, .int (nI ix)), (2, .ref (aM 0)), (1, .ref (aC 0)), (0, .ref b)]) (hi : ix + 6 ≤ L) (hL : L ≤ 384)
    (kk : ∀ (kp X g cM r : sr_M) (H : Heap) (locs : List Loc) (ls : Array Slot), sr_LH D cI cR aC aM s H locs kp X g cM r → lv_has ls 4 [(3, .int (nI ix)), (2, .ref (aM 0)), (1, .ref (aC 0)), (0, .ref b)] → W p l e room_1 s m #[.ref b] below meth c H locs 600000 7302249 Q (F0 m 1104 ls [])) : W p l e room_1 s m #[.ref b] below meth c H locs 600000 7302249 Q (F0 m 584 ls []) := by
  obtain ⟨C0, hK, hZ0, haC, haM, hdis, hloC, hloM, hX, hbl⟩ := hC
  obtain ⟨hJ, hP, hPM, hS⟩ := hH
  have hI := hJ.1
  have hSC := hJ.2.1
  have hRX := hJ.2.2
  have hK_ := sr_IC_K hI
  have hKM : va_K D vwCl (sr_tM cI) s := hK.sub [0] rfl
  have hbA : ¬ (fun q : Nat => s.heap.size ≤ q) b := Nat.not_le.mpr hbl
  refine lv_aload_n C0.1 C0.2.1 dL_law_584 rfl (lv_at hl 2 rfl) ?_
  refine lv_aload_n C0.1 C0.2.1 dL_law_585 rfl (lv_at hl 3 rfl) ?_
  refine lv_iload_n C0.1 C0.2.1 dL_law_586 rfl (lv_at hl 0 rfl) ?_
  refine lv_iconst (v := 1) C0.1 C0.2.1 dL_law_587 (by decide) ?_
  refine lv_iadd C0.1 C0.2.1 dL_law_588 ?_
  refine sr_chi (nI_add ix 1) ?_
  refine va_sld C0.1 C0.2.1 hX hbl hbA hS (vp_in_nI (by omega) (by omega)) dL_law_589 ?_
  refine sr_chi (congrArg xs (nI_clamp (n := ix + 1) (by omega))) ?_
  refine sr_lVi (As := [.int (xs (ix + 1))]) C0 hK hP (sr_ZCok aC) (sr_ZCl hS hZ0) (cc_X7_chance haC (xs (ix + 1)) hI) sk_X7_chance sv_X7_chance sw_405 (ci := 7) rfl sr_wC0 rfl rfl hl.1 (Nat.le_of_ble_eq_true rfl) (Nat.le_of_ble_eq_true rfl) (Nat.le_of_ble_eq_true rfl) dL_law_590 ⟨Nat.le_of_ble_eq_true rfl, Nat.le_of_ble_eq_true rfl⟩ hS (fun q hq => sr_loC hloC hq) (fun u H1 locs hu hP hS hkq => ?_)
  have hPM := sr_keepM hdis hPM hkq
  clear hkq
  refine lv_aload_n C0.1 C0.2.1 dL_law_593 rfl (lv_at hl 1 rfl) ?_
  refine lv_aload_n C0.1 C0.2.1 dL_law_594 rfl (lv_at hl 3 rfl) ?_
  refine lv_iload_n C0.1 C0.2.1 dL_law_595 rfl (lv_at hl 0 rfl) ?_
  refine lv_iconst (v := 1) C0.1 C0.2.1 dL_law_596 (by decide) ?_
  refine lv_iadd C0.1 C0.2.1 dL_law_597 ?_
  refine sr_chi (nI_add ix 1) ?_
  refine va_sld C0.1 C0.2.1 hX hbl hbA hS (vp_in_nI (by omega) (by omega)) dL_law_598 ?_
  refine sr_chi (congrArg xs (nI_clamp (n := ix + 1) (by omega))) ?_
  refine sr_lVi (As := [.int (xs (ix + 1))]) C0 hKM hPM sr_ZMok trivial (cc_X8_chance haM (xs (ix + 1)) hK_) sk_X8_chance sv_X8_chance sw_851 (ci := 8) rfl sr_wM0 rfl rfl hl.1 (Nat.le_of_ble_eq_true rfl) (Nat.le_of_ble_eq_true rfl) (Nat.le_of_ble_eq_true rfl) dL_law_599 ⟨Nat.le_of_ble_eq_true rfl, Nat.le_of_ble_eq_true rfl⟩ hS (fun q hq => sr_loM hloM hq) (fun v H2 locs hv hPM hS hkq => ?_)
  have hP := sr_keepC hdis hP hkq
  refine lv_icmp_eq (tgt := 1104) C0.1 C0.2.1 dL_law_602 (by decide) (fun _ => ?_) (fun z => absurd rfl z)
  exact kk _ _ _ _ _ _ _ _ ⟨hJ, hP, hPM, hS⟩ hl
set_option maxRecDepth 100000 in
set_option maxHeartbeats 4000000 in
theorem lw_c17 {p : Program} {l : Launch} {e : Env} {s : State} {m : MethodId} {below : List Frame} {meth : Method} {c : Code} {Q : State → Prop} {D : va_G} {cI cR : ClassId} {aC aM : Nat → Nat} {b L : Nat} {xs : Nat → Int32} (hC : sr_LC D cI cR aC aM b L xs p s m #[.ref b] c) {kp X g cM r : sr_M} {H : Heap} {locs : List Loc} {ls : Array Slot} {ix : Nat} (hH : sr_LH D cI cR aC aM s H locs kp X g cM r) (hl : lv_has ls 4 [(3, .int (nI ix)), (2, .ref (aM 0)), (1, .ref (aC 0)), (0, .ref b)]) (hi : ix + 6 ≤ L) (hL : L ≤ 384)
    (kk : ∀ (kp X g cM r : sr_M) (H : Heap) (locs : List Loc) (ls : Array Slot), sr_LH D cI cR aC aM s H locs kp X g cM r → lv_has ls 4 [(3, .int (nI ix)), (2, .ref (aM 0)), (1, .ref (aC 0)), (0, .ref b)] → W p l e room_1 s m #[.ref b] below meth c H locs 600000 7302249 Q (F0 m 1104 ls [])) : W p l e room_1 s m #[.ref b] below meth c H locs 600000 7302249 Q (F0 m 607 ls []) := by
  obtain ⟨C0, hK, hZ0, haC, haM, hdis, hloC, hloM, hX, hbl⟩ := hC
  obtain ⟨hJ, hP, hPM, hS⟩ := hH
  have hI := hJ.1
  have hSC := hJ.2.1
  have hRX := hJ.2.2
  have hK_ := sr_IC_K hI
  have hKM : va_K D vwCl (sr_tM cI) s := hK.sub [0] rfl
  have hbA : ¬ (fun q : Nat => s.heap.size ≤ q) b := Nat.not_le.mpr hbl
  refine lv_aload_n C0.1 C0.2.1 dL_law_607 rfl (lv_at hl 2 rfl) ?_
  refine lv_aload_n C0.1 C0.2.1 dL_law_608 rfl (lv_at hl 3 rfl) ?_
  refine lv_iload_n C0.1 C0.2.1 dL_law_609 rfl (lv_at hl 0 rfl) ?_
  refine lv_iconst (v := 1) C0.1 C0.2.1 dL_law_610 (by decide) ?_
  refine lv_iadd C0.1 C0.2.1 dL_law_611 ?_
  refine sr_chi (nI_add ix 1) ?_
  refine va_sld C0.1 C0.2.1 hX hbl hbA hS (vp_in_nI (by omega) (by omega)) dL_law_612 ?_
  refine sr_chi (congrArg xs (nI_clamp (n := ix + 1) (by omega))) ?_
  refine sr_lVl (As := [.int (xs (ix + 1))]) C0 hK hP (sr_ZCok aC) (sr_ZCl hS hZ0) (cc_X7_all haC (xs (ix + 1)) hI) sk_X7_all sv_X7_all sw_432 (ci := 7) rfl sr_wC0 rfl rfl hl.1 (Nat.le_of_ble_eq_true rfl) (Nat.le_of_ble_eq_true rfl) (Nat.le_of_ble_eq_true rfl) dL_law_613 ⟨Nat.le_of_ble_eq_true rfl, Nat.le_of_ble_eq_true rfl⟩ hS (fun q hq => sr_loC hloC hq) (fun u H1 locs hu hP hS hkq => ?_)
  have hPM := sr_keepM hdis hPM hkq
  clear hkq
  refine lv_aload_n C0.1 C0.2.1 dL_law_616 rfl (lv_at hl 1 rfl) ?_
  refine lv_aload_n C0.1 C0.2.1 dL_law_617 rfl (lv_at hl 3 rfl) ?_
  refine lv_iload_n C0.1 C0.2.1 dL_law_618 rfl (lv_at hl 0 rfl) ?_
  refine lv_iconst (v := 1) C0.1 C0.2.1 dL_law_619 (by decide) ?_
  refine lv_iadd C0.1 C0.2.1 dL_law_620 ?_
  refine sr_chi (nI_add ix 1) ?_
  refine va_sld C0.1 C0.2.1 hX hbl hbA hS (vp_in_nI (by omega) (by omega)) dL_law_621 ?_
  refine sr_chi (congrArg xs (nI_clamp (n := ix + 1) (by omega))) ?_
  refine sr_lVl (As := [.int (xs (ix + 1))]) C0 hKM hPM sr_ZMok trivial (cc_X8_all haM (xs (ix + 1)) hK_) sk_X8_all sv_X8_all sw_866 (ci := 8) rfl sr_wM0 rfl rfl hl.1 (Nat.le_of_ble_eq_true rfl) (Nat.le_of_ble_eq_true rfl) (Nat.le_of_ble_eq_true rfl) dL_law_622 ⟨Nat.le_of_ble_eq_true rfl, Nat.le_of_ble_eq_true rfl⟩ hS (fun q hq => sr_loM hloM hq) (fun v H2 locs hv hPM hS hkq => ?_)
  have hP := sr_keepC hdis hP hkq
  refine W.lcmp C0.1 C0.2.1 dL_law_625 ?_
  refine sr_lceq (tgt := 1104) C0 dL_law_626 (by decide) (fun _ => ?_) (fun z => absurd rfl z)
  exact kk _ _ _ _ _ _ _ _ ⟨hJ, hP, hPM, hS⟩ hl
set_option maxRecDepth 100000 in
set_option maxHeartbeats 4000000 in
theorem lw_c18 {p : Program} {l : Launch} {e : Env} {s : State} {m : MethodId} {below : List Frame} {meth : Method} {c : Code} {Q : State → Prop} {D : va_G} {cI cR : ClassId} {aC aM : Nat → Nat} {b L : Nat} {xs : Nat → Int32} (hC : sr_LC D cI cR aC aM b L xs p s m #[.ref b] c) {kp X g cM r : sr_M} {H : Heap} {locs : List Loc} {ls : Array Slot} {ix : Nat} (hH : sr_LH D cI cR aC aM s H locs kp X g cM r) (hl : lv_has ls 4 [(3, .int (nI ix)), (2, .ref (aM 0)), (1, .ref (aC 0)), (0, .ref b)]) (hi : ix + 6 ≤ L) (hL : L ≤ 384)
    (kk : ∀ (kp X g cM r : sr_M) (H : Heap) (locs : List Loc) (ls : Array Slot), sr_LH D cI cR aC aM s H locs kp X g cM r → lv_has ls 4 [(3, .int (nI ix)), (2, .ref (aM 0)), (1, .ref (aC 0)), (0, .ref b)] → W p l e room_1 s m #[.ref b] below meth c H locs 600000 7302249 Q (F0 m 1104 ls [])) : W p l e room_1 s m #[.ref b] below meth c H locs 600000 7302249 Q (F0 m 631 ls []) := by
  obtain ⟨C0, hK, hZ0, haC, haM, hdis, hloC, hloM, hX, hbl⟩ := hC
  obtain ⟨hJ, hP, hPM, hS⟩ := hH
  have hI := hJ.1
  have hSC := hJ.2.1
  have hRX := hJ.2.2
  have hK_ := sr_IC_K hI
  have hKM : va_K D vwCl (sr_tM cI) s := hK.sub [0] rfl
  have hbA : ¬ (fun q : Nat => s.heap.size ≤ q) b := Nat.not_le.mpr hbl
  refine lv_aload_n C0.1 C0.2.1 dL_law_631 rfl (lv_at hl 2 rfl) ?_
  refine lv_aload_n C0.1 C0.2.1 dL_law_632 rfl (lv_at hl 3 rfl) ?_
  refine lv_iload_n C0.1 C0.2.1 dL_law_633 rfl (lv_at hl 0 rfl) ?_
  refine lv_iconst (v := 1) C0.1 C0.2.1 dL_law_634 (by decide) ?_
  refine lv_iadd C0.1 C0.2.1 dL_law_635 ?_
  refine sr_chi (nI_add ix 1) ?_
  refine va_sld C0.1 C0.2.1 hX hbl hbA hS (vp_in_nI (by omega) (by omega)) dL_law_636 ?_
  refine sr_chi (congrArg xs (nI_clamp (n := ix + 1) (by omega))) ?_
  refine lv_aload_n C0.1 C0.2.1 dL_law_637 rfl (lv_at hl 3 rfl) ?_
  refine lv_iload_n C0.1 C0.2.1 dL_law_638 rfl (lv_at hl 0 rfl) ?_
  refine lv_iconst (v := 2) C0.1 C0.2.1 dL_law_639 (by decide) ?_
  refine lv_iadd C0.1 C0.2.1 dL_law_640 ?_
  refine sr_chi (nI_add ix 2) ?_
  refine va_sld C0.1 C0.2.1 hX hbl hbA hS (vp_in_nI (by omega) (by omega)) dL_law_641 ?_
  refine sr_chi (congrArg xs (nI_clamp (n := ix + 2) (by omega))) ?_
  refine sr_lVi (As := [.int (xs (ix + 1)), .int (xs (ix + 2))]) C0 hK hP (sr_ZCok aC) (sr_ZCl hS hZ0) (cc_X7_safe haC (xs (ix + 1)) (xs (ix + 2)) hI) sk_X7_safe sv_X7_safe sw_442 (ci := 7) rfl sr_wC0 rfl rfl hl.1 (Nat.le_of_ble_eq_true rfl) (Nat.le_of_ble_eq_true rfl) (Nat.le_of_ble_eq_true rfl) dL_law_642 ⟨Nat.le_of_ble_eq_true rfl, Nat.le_of_ble_eq_true rfl⟩ hS (fun q hq => sr_loC hloC hq) (fun u H1 locs hu hP hS hkq => ?_)
  have hPM := sr_keepM hdis hPM hkq
  clear hkq
  refine lv_aload_n C0.1 C0.2.1 dL_law_645 rfl (lv_at hl 1 rfl) ?_
  refine lv_aload_n C0.1 C0.2.1 dL_law_646 rfl (lv_at hl 3 rfl) ?_
  refine lv_iload_n C0.1 C0.2.1 dL_law_647 rfl (lv_at hl 0 rfl) ?_
  refine lv_iconst (v := 1) C0.1 C0.2.1 dL_law_648 (by decide) ?_
  refine lv_iadd C0.1 C0.2.1 dL_law_649 ?_
  refine sr_chi (nI_add ix 1) ?_
  refine va_sld C0.1 C0.2.1 hX hbl hbA hS (vp_in_nI (by omega) (by omega)) dL_law_650 ?_
  refine sr_chi (congrArg xs (nI_clamp (n := ix + 1) (by omega))) ?_
  refine lv_aload_n C0.1 C0.2.1 dL_law_651 rfl (lv_at hl 3 rfl) ?_
  refine lv_iload_n C0.1 C0.2.1 dL_law_652 rfl (lv_at hl 0 rfl) ?_
  refine lv_iconst (v := 2) C0.1 C0.2.1 dL_law_653 (by decide) ?_
  refine lv_iadd C0.1 C0.2.1 dL_law_654 ?_
  refine sr_chi (nI_add ix 2) ?_
  refine va_sld C0.1 C0.2.1 hX hbl hbA hS (vp_in_nI (by omega) (by omega)) dL_law_655 ?_
  refine sr_chi (congrArg xs (nI_clamp (n := ix + 2) (by omega))) ?_
  refine sr_lVi (As := [.int (xs (ix + 1)), .int (xs (ix + 2))]) C0 hKM hPM sr_ZMok trivial (cc_X8_safe haM (xs (ix + 1)) (xs (ix + 2)) hK_) sk_X8_safe sv_X8_safe sw_882 (ci := 8) rfl sr_wM0 rfl rfl hl.1 (Nat.le_of_ble_eq_true rfl) (Nat.le_of_ble_eq_true rfl) (Nat.le_of_ble_eq_true rfl) dL_law_656 ⟨Nat.le_of_ble_eq_true rfl, Nat.le_of_ble_eq_true rfl⟩ hS (fun q hq => sr_loM hloM hq) (fun v H2 locs hv hPM hS hkq => ?_)
  have hP := sr_keepC hdis hP hkq
  refine lv_icmp_eq (tgt := 1104) C0.1 C0.2.1 dL_law_659 (by decide) (fun _ => ?_) (fun z => absurd rfl z)
  exact kk _ _ _ _ _ _ _ _ ⟨hJ, hP, hPM, hS⟩ hl
set_option maxRecDepth 100000 in
set_option maxHeartbeats 4000000 in
theorem lw_c19 {p : Program} {l : Launch} {e : Env} {s : State} {m : MethodId} {below : List Frame} {meth : Method} {c : Code} {Q : State → Prop} {D : va_G} {cI cR : ClassId} {aC aM : Nat → Nat} {b L : Nat} {xs : Nat → Int32} (hC : sr_LC D cI cR aC aM b L xs p s m #[.ref b] c) {kp X g cM r : sr_M} {H : Heap} {locs : List Loc} {ls : Array Slot} {ix : Nat} (hH : sr_LH D cI cR aC aM s H locs kp X g cM r) (hl : lv_has ls 4 [(3, .int (nI ix)), (2, .ref (aM 0)), (1, .ref (aC 0)), (0, .ref b)]) (hi : ix + 6 ≤ L) (hL : L ≤ 384)
    (kk : ∀ (kp X g cM r : sr_M) (H : Heap) (locs : List Loc) (ls : Array Slot), sr_LH D cI cR aC aM s H locs kp X g cM r → lv_has ls 4 [(3, .int (nI ix)), (2, .ref (aM 0)), (1, .ref (aC 0)), (0, .ref b)] → W p l e room_1 s m #[.ref b] below meth c H locs 600000 7302249 Q (F0 m 1104 ls [])) : W p l e room_1 s m #[.ref b] below meth c H locs 600000 7302249 Q (F0 m 664 ls []) := by
  obtain ⟨C0, hK, hZ0, haC, haM, hdis, hloC, hloM, hX, hbl⟩ := hC
  obtain ⟨hJ, hP, hPM, hS⟩ := hH
  have hI := hJ.1
  have hSC := hJ.2.1
  have hRX := hJ.2.2
  have hK_ := sr_IC_K hI
  have hKM : va_K D vwCl (sr_tM cI) s := hK.sub [0] rfl
  have hbA : ¬ (fun q : Nat => s.heap.size ≤ q) b := Nat.not_le.mpr hbl
  refine lv_aload_n C0.1 C0.2.1 dL_law_664 rfl (lv_at hl 2 rfl) ?_
  refine lv_aload_n C0.1 C0.2.1 dL_law_665 rfl (lv_at hl 3 rfl) ?_
  refine lv_iload_n C0.1 C0.2.1 dL_law_666 rfl (lv_at hl 0 rfl) ?_
  refine lv_iconst (v := 1) C0.1 C0.2.1 dL_law_667 (by decide) ?_
  refine lv_iadd C0.1 C0.2.1 dL_law_668 ?_
  refine sr_chi (nI_add ix 1) ?_
  refine va_sld C0.1 C0.2.1 hX hbl hbA hS (vp_in_nI (by omega) (by omega)) dL_law_669 ?_
  refine sr_chi (congrArg xs (nI_clamp (n := ix + 1) (by omega))) ?_
  refine sr_pVi (As := [.int (xs (ix + 1))]) C0 hK hP (sr_ZCok aC) (sr_ZCl hS hZ0) (cc_X7_best haC (xs (ix + 1)) hI) sk_X7_best sv_X7_best sw_450 (ci := 7) rfl sr_wC0 rfl rfl hl.1 (Nat.le_of_ble_eq_true rfl) (Nat.le_of_ble_eq_true rfl) (Nat.le_of_ble_eq_true rfl) dL_law_670 ⟨Nat.le_of_ble_eq_true rfl, Nat.le_of_ble_eq_true rfl⟩ ?_
  refine lv_aload_n C0.1 C0.2.1 dL_law_673 rfl (lv_at hl 1 rfl) ?_
  refine lv_aload_n C0.1 C0.2.1 dL_law_674 rfl (lv_at hl 3 rfl) ?_
  refine lv_iload_n C0.1 C0.2.1 dL_law_675 rfl (lv_at hl 0 rfl) ?_
  refine lv_iconst (v := 1) C0.1 C0.2.1 dL_law_676 (by decide) ?_
  refine lv_iadd C0.1 C0.2.1 dL_law_677 ?_
  refine sr_chi (nI_add ix 1) ?_
  refine va_sld C0.1 C0.2.1 hX hbl hbA hS (vp_in_nI (by omega) (by omega)) dL_law_678 ?_
  refine sr_chi (congrArg xs (nI_clamp (n := ix + 1) (by omega))) ?_
  refine sr_lVi (As := [.int (xs (ix + 1))]) C0 hKM hPM sr_ZMok trivial (cc_X8_best haM (xs (ix + 1)) hK_) sk_X8_best sv_X8_best sw_891 (ci := 8) rfl sr_wM0 rfl rfl hl.1 (Nat.le_of_ble_eq_true rfl) (Nat.le_of_ble_eq_true rfl) (Nat.le_of_ble_eq_true rfl) dL_law_679 ⟨Nat.le_of_ble_eq_true rfl, Nat.le_of_ble_eq_true rfl⟩ hS (fun q hq => sr_loM hloM hq) (fun v H2 locs hv hPM hS hkq => ?_)
  have hP := sr_keepC hdis hP hkq
  refine lv_icmp_eq (tgt := 1104) C0.1 C0.2.1 dL_law_682 (by decide) (fun _ => ?_) (fun z => absurd rfl z)
  exact kk _ _ _ _ _ _ _ _ ⟨hJ, hP, hPM, hS⟩ hl
set_option maxRecDepth 100000 in
set_option maxHeartbeats 4000000 in
theorem lw_c20 {p : Program} {l : Launch} {e : Env} {s : State} {m : MethodId} {below : List Frame} {meth : Method} {c : Code} {Q : State → Prop} {D : va_G} {cI cR : ClassId} {aC aM : Nat → Nat} {b L : Nat} {xs : Nat → Int32} (hC : sr_LC D cI cR aC aM b L xs p s m #[.ref b] c) {kp X g cM r : sr_M} {H : Heap} {locs : List Loc} {ls : Array Slot} {ix : Nat} (hH : sr_LH D cI cR aC aM s H locs kp X g cM r) (hl : lv_has ls 4 [(3, .int (nI ix)), (2, .ref (aM 0)), (1, .ref (aC 0)), (0, .ref b)]) (hi : ix + 6 ≤ L) (hL : L ≤ 384)
    (kk : ∀ (kp X g cM r : sr_M) (H : Heap) (locs : List Loc) (ls : Array Slot), sr_LH D cI cR aC aM s H locs kp X g cM r → lv_has ls 4 [(3, .int (nI ix)), (2, .ref (aM 0)), (1, .ref (aC 0)), (0, .ref b)] → W p l e room_1 s m #[.ref b] below meth c H locs 600000 7302249 Q (F0 m 1104 ls [])) : W p l e room_1 s m #[.ref b] below meth c H locs 600000 7302249 Q (F0 m 687 ls []) := by
  obtain ⟨C0, hK, hZ0, haC, haM, hdis, hloC, hloM, hX, hbl⟩ := hC
  obtain ⟨hJ, hP, hPM, hS⟩ := hH
  have hI := hJ.1
  have hSC := hJ.2.1
  have hRX := hJ.2.2
  have hK_ := sr_IC_K hI
  have hKM : va_K D vwCl (sr_tM cI) s := hK.sub [0] rfl
  have hbA : ¬ (fun q : Nat => s.heap.size ≤ q) b := Nat.not_le.mpr hbl
  refine lv_aload_n C0.1 C0.2.1 dL_law_687 rfl (lv_at hl 2 rfl) ?_
  refine lv_aload_n C0.1 C0.2.1 dL_law_688 rfl (lv_at hl 3 rfl) ?_
  refine lv_iload_n C0.1 C0.2.1 dL_law_689 rfl (lv_at hl 0 rfl) ?_
  refine lv_iconst (v := 1) C0.1 C0.2.1 dL_law_690 (by decide) ?_
  refine lv_iadd C0.1 C0.2.1 dL_law_691 ?_
  refine sr_chi (nI_add ix 1) ?_
  refine va_sld C0.1 C0.2.1 hX hbl hbA hS (vp_in_nI (by omega) (by omega)) dL_law_692 ?_
  refine sr_chi (congrArg xs (nI_clamp (n := ix + 1) (by omega))) ?_
  refine lv_aload_n C0.1 C0.2.1 dL_law_693 rfl (lv_at hl 3 rfl) ?_
  refine lv_iload_n C0.1 C0.2.1 dL_law_694 rfl (lv_at hl 0 rfl) ?_
  refine lv_iconst (v := 2) C0.1 C0.2.1 dL_law_695 (by decide) ?_
  refine lv_iadd C0.1 C0.2.1 dL_law_696 ?_
  refine sr_chi (nI_add ix 2) ?_
  refine va_sld C0.1 C0.2.1 hX hbl hbA hS (vp_in_nI (by omega) (by omega)) dL_law_697 ?_
  refine sr_chi (congrArg xs (nI_clamp (n := ix + 2) (by omega))) ?_
  refine sr_lVi (As := [.int (xs (ix + 1)), .int (xs (ix + 2))]) C0 hK hP (sr_ZCok aC) (sr_ZCl hS hZ0) (cc_X7_order haC (xs (ix + 1)) (xs (ix + 2)) hI) sk_X7_order sv_X7_order sw_459 (ci := 7) rfl sr_wC0 rfl rfl hl.1 (Nat.le_of_ble_eq_true rfl) (Nat.le_of_ble_eq_true rfl) (Nat.le_of_ble_eq_true rfl) dL_law_698 ⟨Nat.le_of_ble_eq_true rfl, Nat.le_of_ble_eq_true rfl⟩ hS (fun q hq => sr_loC hloC hq) (fun u H1 locs hu hP hS hkq => ?_)
  have hPM := sr_keepM hdis hPM hkq
  clear hkq
  refine lv_aload_n C0.1 C0.2.1 dL_law_701 rfl (lv_at hl 1 rfl) ?_
  refine lv_aload_n C0.1 C0.2.1 dL_law_702 rfl (lv_at hl 3 rfl) ?_
  refine lv_iload_n C0.1 C0.2.1 dL_law_703 rfl (lv_at hl 0 rfl) ?_
  refine lv_iconst (v := 1) C0.1 C0.2.1 dL_law_704 (by decide) ?_
  refine lv_iadd C0.1 C0.2.1 dL_law_705 ?_
  refine sr_chi (nI_add ix 1) ?_
  refine va_sld C0.1 C0.2.1 hX hbl hbA hS (vp_in_nI (by omega) (by omega)) dL_law_706 ?_
  refine sr_chi (congrArg xs (nI_clamp (n := ix + 1) (by omega))) ?_
  refine lv_aload_n C0.1 C0.2.1 dL_law_707 rfl (lv_at hl 3 rfl) ?_
  refine lv_iload_n C0.1 C0.2.1 dL_law_708 rfl (lv_at hl 0 rfl) ?_
  refine lv_iconst (v := 2) C0.1 C0.2.1 dL_law_709 (by decide) ?_
  refine lv_iadd C0.1 C0.2.1 dL_law_710 ?_
  refine sr_chi (nI_add ix 2) ?_
  refine va_sld C0.1 C0.2.1 hX hbl hbA hS (vp_in_nI (by omega) (by omega)) dL_law_711 ?_
  refine sr_chi (congrArg xs (nI_clamp (n := ix + 2) (by omega))) ?_
  refine sr_lVi (As := [.int (xs (ix + 1)), .int (xs (ix + 2))]) C0 hKM hPM sr_ZMok trivial (cc_X8_order haM (xs (ix + 1)) (xs (ix + 2)) hK_) sk_X8_order sv_X8_order sw_907 (ci := 8) rfl sr_wM0 rfl rfl hl.1 (Nat.le_of_ble_eq_true rfl) (Nat.le_of_ble_eq_true rfl) (Nat.le_of_ble_eq_true rfl) dL_law_712 ⟨Nat.le_of_ble_eq_true rfl, Nat.le_of_ble_eq_true rfl⟩ hS (fun q hq => sr_loM hloM hq) (fun v H2 locs hv hPM hS hkq => ?_)
  have hP := sr_keepC hdis hP hkq
  refine lv_icmp_eq (tgt := 1104) C0.1 C0.2.1 dL_law_715 (by decide) (fun _ => ?_) (fun z => absurd rfl z)
  exact kk _ _ _ _ _ _ _ _ ⟨hJ, hP, hPM, hS⟩ hl
set_option maxRecDepth 100000 in
set_option maxHeartbeats 4000000 in
theorem lw_c21 {p : Program} {l : Launch} {e : Env} {s : State} {m : MethodId} {below : List Frame} {meth : Method} {c : Code} {Q : State → Prop} {D : va_G} {cI cR : ClassId} {aC aM : Nat → Nat} {b L : Nat} {xs : Nat → Int32} (hC : sr_LC D cI cR aC aM b L xs p s m #[.ref b] c) {kp X g cM r : sr_M} {H : Heap} {locs : List Loc} {ls : Array Slot} {ix : Nat} (hH : sr_LH D cI cR aC aM s H locs kp X g cM r) (hl : lv_has ls 4 [(3, .int (nI ix)), (2, .ref (aM 0)), (1, .ref (aC 0)), (0, .ref b)]) (hi : ix + 6 ≤ L) (hL : L ≤ 384)
    (kk : ∀ (kp X g cM r : sr_M) (H : Heap) (locs : List Loc) (ls : Array Slot), sr_LH D cI cR aC aM s H locs kp X g cM r → lv_has ls 4 [(3, .int (nI ix)), (2, .ref (aM 0)), (1, .ref (aC 0)), (0, .ref b)] → W p l e room_1 s m #[.ref b] below meth c H locs 600000 7302249 Q (F0 m 1104 ls [])) : W p l e room_1 s m #[.ref b] below meth c H locs 600000 7302249 Q (F0 m 720 ls []) := by
  obtain ⟨C0, hK, hZ0, haC, haM, hdis, hloC, hloM, hX, hbl⟩ := hC
  obtain ⟨hJ, hP, hPM, hS⟩ := hH
  have hI := hJ.1
  have hSC := hJ.2.1
  have hRX := hJ.2.2
  have hK_ := sr_IC_K hI
  have hKM : va_K D vwCl (sr_tM cI) s := hK.sub [0] rfl
  have hbA : ¬ (fun q : Nat => s.heap.size ≤ q) b := Nat.not_le.mpr hbl
  refine lv_aload_n C0.1 C0.2.1 dL_law_720 rfl (lv_at hl 2 rfl) ?_
  refine lv_aload_n C0.1 C0.2.1 dL_law_721 rfl (lv_at hl 3 rfl) ?_
  refine lv_iload_n C0.1 C0.2.1 dL_law_722 rfl (lv_at hl 0 rfl) ?_
  refine lv_iconst (v := 1) C0.1 C0.2.1 dL_law_723 (by decide) ?_
  refine lv_iadd C0.1 C0.2.1 dL_law_724 ?_
  refine sr_chi (nI_add ix 1) ?_
  refine va_sld C0.1 C0.2.1 hX hbl hbA hS (vp_in_nI (by omega) (by omega)) dL_law_725 ?_
  refine sr_chi (congrArg xs (nI_clamp (n := ix + 1) (by omega))) ?_
  refine lv_aload_n C0.1 C0.2.1 dL_law_726 rfl (lv_at hl 3 rfl) ?_
  refine lv_iload_n C0.1 C0.2.1 dL_law_727 rfl (lv_at hl 0 rfl) ?_
  refine lv_iconst (v := 2) C0.1 C0.2.1 dL_law_728 (by decide) ?_
  refine lv_iadd C0.1 C0.2.1 dL_law_729 ?_
  refine sr_chi (nI_add ix 2) ?_
  refine va_sld C0.1 C0.2.1 hX hbl hbA hS (vp_in_nI (by omega) (by omega)) dL_law_730 ?_
  refine sr_chi (congrArg xs (nI_clamp (n := ix + 2) (by omega))) ?_
  refine sr_pVi (As := [.int (xs (ix + 1)), .int (xs (ix + 2))]) C0 hK hP (sr_ZCok aC) (sr_ZCl hS hZ0) (cc_X7_blame haC (xs (ix + 1)) (xs (ix + 2)) hI) sk_X7_blame sv_X7_blame sw_494 (ci := 7) rfl sr_wC0 rfl rfl hl.1 (Nat.le_of_ble_eq_true rfl) (Nat.le_of_ble_eq_true rfl) (Nat.le_of_ble_eq_true rfl) dL_law_731 ⟨Nat.le_of_ble_eq_true rfl, Nat.le_of_ble_eq_true rfl⟩ ?_
  refine lv_aload_n C0.1 C0.2.1 dL_law_734 rfl (lv_at hl 1 rfl) ?_
  refine lv_aload_n C0.1 C0.2.1 dL_law_735 rfl (lv_at hl 3 rfl) ?_
  refine lv_iload_n C0.1 C0.2.1 dL_law_736 rfl (lv_at hl 0 rfl) ?_
  refine lv_iconst (v := 1) C0.1 C0.2.1 dL_law_737 (by decide) ?_
  refine lv_iadd C0.1 C0.2.1 dL_law_738 ?_
  refine sr_chi (nI_add ix 1) ?_
  refine va_sld C0.1 C0.2.1 hX hbl hbA hS (vp_in_nI (by omega) (by omega)) dL_law_739 ?_
  refine sr_chi (congrArg xs (nI_clamp (n := ix + 1) (by omega))) ?_
  refine lv_aload_n C0.1 C0.2.1 dL_law_740 rfl (lv_at hl 3 rfl) ?_
  refine lv_iload_n C0.1 C0.2.1 dL_law_741 rfl (lv_at hl 0 rfl) ?_
  refine lv_iconst (v := 2) C0.1 C0.2.1 dL_law_742 (by decide) ?_
  refine lv_iadd C0.1 C0.2.1 dL_law_743 ?_
  refine sr_chi (nI_add ix 2) ?_
  refine va_sld C0.1 C0.2.1 hX hbl hbA hS (vp_in_nI (by omega) (by omega)) dL_law_744 ?_
  refine sr_chi (congrArg xs (nI_clamp (n := ix + 2) (by omega))) ?_
  refine sr_lVi (As := [.int (xs (ix + 1)), .int (xs (ix + 2))]) C0 hKM hPM sr_ZMok trivial (cc_X8_blame haM (xs (ix + 1)) (xs (ix + 2)) hK_) sk_X8_blame sv_X8_blame sw_925 (ci := 8) rfl sr_wM0 rfl rfl hl.1 (Nat.le_of_ble_eq_true rfl) (Nat.le_of_ble_eq_true rfl) (Nat.le_of_ble_eq_true rfl) dL_law_745 ⟨Nat.le_of_ble_eq_true rfl, Nat.le_of_ble_eq_true rfl⟩ hS (fun q hq => sr_loM hloM hq) (fun v H2 locs hv hPM hS hkq => ?_)
  have hP := sr_keepC hdis hP hkq
  refine lv_icmp_eq (tgt := 1104) C0.1 C0.2.1 dL_law_748 (by decide) (fun _ => ?_) (fun z => absurd rfl z)
  exact kk _ _ _ _ _ _ _ _ ⟨hJ, hP, hPM, hS⟩ hl
set_option maxRecDepth 100000 in
set_option maxHeartbeats 4000000 in
theorem lw_c22 {p : Program} {l : Launch} {e : Env} {s : State} {m : MethodId} {below : List Frame} {meth : Method} {c : Code} {Q : State → Prop} {D : va_G} {cI cR : ClassId} {aC aM : Nat → Nat} {b L : Nat} {xs : Nat → Int32} (hC : sr_LC D cI cR aC aM b L xs p s m #[.ref b] c) {kp X g cM r : sr_M} {H : Heap} {locs : List Loc} {ls : Array Slot} {ix : Nat} (hH : sr_LH D cI cR aC aM s H locs kp X g cM r) (hl : lv_has ls 4 [(3, .int (nI ix)), (2, .ref (aM 0)), (1, .ref (aC 0)), (0, .ref b)]) (hi : ix + 6 ≤ L) (hL : L ≤ 384)
    (kk : ∀ (kp X g cM r : sr_M) (H : Heap) (locs : List Loc) (ls : Array Slot), sr_LH D cI cR aC aM s H locs kp X g cM r → lv_has ls 4 [(3, .int (nI ix)), (2, .ref (aM 0)), (1, .ref (aC 0)), (0, .ref b)] → W p l e room_1 s m #[.ref b] below meth c H locs 600000 7302249 Q (F0 m 1104 ls [])) : W p l e room_1 s m #[.ref b] below meth c H locs 600000 7302249 Q (F0 m 753 ls []) := by
  obtain ⟨C0, hK, hZ0, haC, haM, hdis, hloC, hloM, hX, hbl⟩ := hC
  obtain ⟨hJ, hP, hPM, hS⟩ := hH
  have hI := hJ.1
  have hSC := hJ.2.1
  have hRX := hJ.2.2
  have hK_ := sr_IC_K hI
  have hKM : va_K D vwCl (sr_tM cI) s := hK.sub [0] rfl
  have hbA : ¬ (fun q : Nat => s.heap.size ≤ q) b := Nat.not_le.mpr hbl
  refine lv_aload_n C0.1 C0.2.1 dL_law_753 rfl (lv_at hl 2 rfl) ?_
  refine lv_aload_n C0.1 C0.2.1 dL_law_754 rfl (lv_at hl 3 rfl) ?_
  refine lv_iload_n C0.1 C0.2.1 dL_law_755 rfl (lv_at hl 0 rfl) ?_
  refine lv_iconst (v := 1) C0.1 C0.2.1 dL_law_756 (by decide) ?_
  refine lv_iadd C0.1 C0.2.1 dL_law_757 ?_
  refine sr_chi (nI_add ix 1) ?_
  refine va_sld C0.1 C0.2.1 hX hbl hbA hS (vp_in_nI (by omega) (by omega)) dL_law_758 ?_
  refine sr_chi (congrArg xs (nI_clamp (n := ix + 1) (by omega))) ?_
  refine sr_lVi (As := [.int (xs (ix + 1))]) C0 hK hP (sr_ZCok aC) (sr_ZCl hS hZ0) (cc_X7_lot haC (xs (ix + 1)) hI) sk_X7_lot sv_X7_lot sw_503 (ci := 7) rfl sr_wC0 rfl rfl hl.1 (Nat.le_of_ble_eq_true rfl) (Nat.le_of_ble_eq_true rfl) (Nat.le_of_ble_eq_true rfl) dL_law_759 ⟨Nat.le_of_ble_eq_true rfl, Nat.le_of_ble_eq_true rfl⟩ hS (fun q hq => sr_loC hloC hq) (fun u H1 locs hu hP hS hkq => ?_)
  have hPM := sr_keepM hdis hPM hkq
  clear hkq
  refine lv_aload_n C0.1 C0.2.1 dL_law_762 rfl (lv_at hl 1 rfl) ?_
  refine lv_aload_n C0.1 C0.2.1 dL_law_763 rfl (lv_at hl 3 rfl) ?_
  refine lv_iload_n C0.1 C0.2.1 dL_law_764 rfl (lv_at hl 0 rfl) ?_
  refine lv_iconst (v := 1) C0.1 C0.2.1 dL_law_765 (by decide) ?_
  refine lv_iadd C0.1 C0.2.1 dL_law_766 ?_
  refine sr_chi (nI_add ix 1) ?_
  refine va_sld C0.1 C0.2.1 hX hbl hbA hS (vp_in_nI (by omega) (by omega)) dL_law_767 ?_
  refine sr_chi (congrArg xs (nI_clamp (n := ix + 1) (by omega))) ?_
  refine sr_lVi (As := [.int (xs (ix + 1))]) C0 hKM hPM sr_ZMok trivial (cc_X8_lot haM (xs (ix + 1)) hK_) sk_X8_lot sv_X8_lot sw_933 (ci := 8) rfl sr_wM0 rfl rfl hl.1 (Nat.le_of_ble_eq_true rfl) (Nat.le_of_ble_eq_true rfl) (Nat.le_of_ble_eq_true rfl) dL_law_768 ⟨Nat.le_of_ble_eq_true rfl, Nat.le_of_ble_eq_true rfl⟩ hS (fun q hq => sr_loM hloM hq) (fun v H2 locs hv hPM hS hkq => ?_)
  have hP := sr_keepC hdis hP hkq
  refine lv_icmp_eq (tgt := 1104) C0.1 C0.2.1 dL_law_771 (by decide) (fun _ => ?_) (fun z => absurd rfl z)
  exact kk _ _ _ _ _ _ _ _ ⟨hJ, hP, hPM, hS⟩ hl
set_option maxRecDepth 100000 in
set_option maxHeartbeats 4000000 in
theorem lw_c23 {p : Program} {l : Launch} {e : Env} {s : State} {m : MethodId} {below : List Frame} {meth : Method} {c : Code} {Q : State → Prop} {D : va_G} {cI cR : ClassId} {aC aM : Nat → Nat} {b L : Nat} {xs : Nat → Int32} (hC : sr_LC D cI cR aC aM b L xs p s m #[.ref b] c) {kp X g cM r : sr_M} {H : Heap} {locs : List Loc} {ls : Array Slot} {ix : Nat} (hH : sr_LH D cI cR aC aM s H locs kp X g cM r) (hl : lv_has ls 4 [(3, .int (nI ix)), (2, .ref (aM 0)), (1, .ref (aC 0)), (0, .ref b)]) (hi : ix + 6 ≤ L) (hL : L ≤ 384)
    (kk : ∀ (kp X g cM r : sr_M) (H : Heap) (locs : List Loc) (ls : Array Slot), sr_LH D cI cR aC aM s H locs kp X g cM r → lv_has ls 4 [(3, .int (nI ix)), (2, .ref (aM 0)), (1, .ref (aC 0)), (0, .ref b)] → W p l e room_1 s m #[.ref b] below meth c H locs 600000 7302249 Q (F0 m 1104 ls [])) : W p l e room_1 s m #[.ref b] below meth c H locs 600000 7302249 Q (F0 m 776 ls []) := by
  obtain ⟨C0, hK, hZ0, haC, haM, hdis, hloC, hloM, hX, hbl⟩ := hC
  obtain ⟨hJ, hP, hPM, hS⟩ := hH
  have hI := hJ.1
  have hSC := hJ.2.1
  have hRX := hJ.2.2
  have hK_ := sr_IC_K hI
  have hKM : va_K D vwCl (sr_tM cI) s := hK.sub [0] rfl
  have hbA : ¬ (fun q : Nat => s.heap.size ≤ q) b := Nat.not_le.mpr hbl
  refine lv_aload_n C0.1 C0.2.1 dL_law_776 rfl (lv_at hl 2 rfl) ?_
  refine lv_aload_n C0.1 C0.2.1 dL_law_777 rfl (lv_at hl 3 rfl) ?_
  refine lv_iload_n C0.1 C0.2.1 dL_law_778 rfl (lv_at hl 0 rfl) ?_
  refine lv_iconst (v := 1) C0.1 C0.2.1 dL_law_779 (by decide) ?_
  refine lv_iadd C0.1 C0.2.1 dL_law_780 ?_
  refine sr_chi (nI_add ix 1) ?_
  refine va_sld C0.1 C0.2.1 hX hbl hbA hS (vp_in_nI (by omega) (by omega)) dL_law_781 ?_
  refine sr_chi (congrArg xs (nI_clamp (n := ix + 1) (by omega))) ?_
  refine lv_aload_n C0.1 C0.2.1 dL_law_782 rfl (lv_at hl 3 rfl) ?_
  refine lv_iload_n C0.1 C0.2.1 dL_law_783 rfl (lv_at hl 0 rfl) ?_
  refine lv_iconst (v := 2) C0.1 C0.2.1 dL_law_784 (by decide) ?_
  refine lv_iadd C0.1 C0.2.1 dL_law_785 ?_
  refine sr_chi (nI_add ix 2) ?_
  refine va_sld C0.1 C0.2.1 hX hbl hbA hS (vp_in_nI (by omega) (by omega)) dL_law_786 ?_
  refine sr_chi (congrArg xs (nI_clamp (n := ix + 2) (by omega))) ?_
  refine lv_aload_n C0.1 C0.2.1 dL_law_787 rfl (lv_at hl 3 rfl) ?_
  refine lv_iload_n C0.1 C0.2.1 dL_law_788 rfl (lv_at hl 0 rfl) ?_
  refine lv_iconst (v := 3) C0.1 C0.2.1 dL_law_789 (by decide) ?_
  refine lv_iadd C0.1 C0.2.1 dL_law_790 ?_
  refine sr_chi (nI_add ix 3) ?_
  refine va_sld C0.1 C0.2.1 hX hbl hbA hS (vp_in_nI (by omega) (by omega)) dL_law_791 ?_
  refine sr_chi (congrArg xs (nI_clamp (n := ix + 3) (by omega))) ?_
  refine sr_lVi (As := [.int (xs (ix + 1)), .int (xs (ix + 2)), .int (xs (ix + 3))]) C0 hK hP (sr_ZCok aC) (sr_ZCl hS hZ0) (cc_X7_races haC (xs (ix + 1)) (xs (ix + 2)) (xs (ix + 3)) hI) sk_X7_races sv_X7_races sw_518 (ci := 7) rfl sr_wC0 rfl rfl hl.1 (Nat.le_of_ble_eq_true rfl) (Nat.le_of_ble_eq_true rfl) (Nat.le_of_ble_eq_true rfl) dL_law_792 ⟨Nat.le_of_ble_eq_true rfl, Nat.le_of_ble_eq_true rfl⟩ hS (fun q hq => sr_loC hloC hq) (fun u H1 locs hu hP hS hkq => ?_)
  have hPM := sr_keepM hdis hPM hkq
  clear hkq
  refine lv_aload_n C0.1 C0.2.1 dL_law_795 rfl (lv_at hl 1 rfl) ?_
  refine lv_aload_n C0.1 C0.2.1 dL_law_796 rfl (lv_at hl 3 rfl) ?_
  refine lv_iload_n C0.1 C0.2.1 dL_law_797 rfl (lv_at hl 0 rfl) ?_
  refine lv_iconst (v := 1) C0.1 C0.2.1 dL_law_798 (by decide) ?_
  refine lv_iadd C0.1 C0.2.1 dL_law_799 ?_
  refine sr_chi (nI_add ix 1) ?_
  refine va_sld C0.1 C0.2.1 hX hbl hbA hS (vp_in_nI (by omega) (by omega)) dL_law_800 ?_
  refine sr_chi (congrArg xs (nI_clamp (n := ix + 1) (by omega))) ?_
  refine lv_aload_n C0.1 C0.2.1 dL_law_801 rfl (lv_at hl 3 rfl) ?_
  refine lv_iload_n C0.1 C0.2.1 dL_law_802 rfl (lv_at hl 0 rfl) ?_
  refine lv_iconst (v := 2) C0.1 C0.2.1 dL_law_803 (by decide) ?_
  refine lv_iadd C0.1 C0.2.1 dL_law_804 ?_
  refine sr_chi (nI_add ix 2) ?_
  refine va_sld C0.1 C0.2.1 hX hbl hbA hS (vp_in_nI (by omega) (by omega)) dL_law_805 ?_
  refine sr_chi (congrArg xs (nI_clamp (n := ix + 2) (by omega))) ?_
  refine lv_aload_n C0.1 C0.2.1 dL_law_806 rfl (lv_at hl 3 rfl) ?_
  refine lv_iload_n C0.1 C0.2.1 dL_law_807 rfl (lv_at hl 0 rfl) ?_
  refine lv_iconst (v := 3) C0.1 C0.2.1 dL_law_808 (by decide) ?_
  refine lv_iadd C0.1 C0.2.1 dL_law_809 ?_
  refine sr_chi (nI_add ix 3) ?_
  refine va_sld C0.1 C0.2.1 hX hbl hbA hS (vp_in_nI (by omega) (by omega)) dL_law_810 ?_
  refine sr_chi (congrArg xs (nI_clamp (n := ix + 3) (by omega))) ?_
  refine sr_lVi (As := [.int (xs (ix + 1)), .int (xs (ix + 2)), .int (xs (ix + 3))]) C0 hKM hPM sr_ZMok trivial (cc_X8_races haM (xs (ix + 1)) (xs (ix + 2)) (xs (ix + 3)) hK_) sk_X8_races sv_X8_races sw_946 (ci := 8) rfl sr_wM0 rfl rfl hl.1 (Nat.le_of_ble_eq_true rfl) (Nat.le_of_ble_eq_true rfl) (Nat.le_of_ble_eq_true rfl) dL_law_811 ⟨Nat.le_of_ble_eq_true rfl, Nat.le_of_ble_eq_true rfl⟩ hS (fun q hq => sr_loM hloM hq) (fun v H2 locs hv hPM hS hkq => ?_)
  have hP := sr_keepC hdis hP hkq
  refine lv_icmp_eq (tgt := 1104) C0.1 C0.2.1 dL_law_814 (by decide) (fun _ => ?_) (fun z => absurd rfl z)
  exact kk _ _ _ _ _ _ _ _ ⟨hJ, hP, hPM, hS⟩ hl
