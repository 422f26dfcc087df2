set_option maxRecDepth 100000 in
set_option maxHeartbeats 4000000 in
theorem lw_c0 {p : Program} {l : Launch} {e : Env} {s : State} {m : MethodId} {below : List Frame} {meth : Method} {c : Code} {Q : State → Prop} {D : va_G} {cI cR : ClassId} {aC aM : Nat → Nat} {b L : Nat} {xs : Nat → Int32} (hC : sr_LC D cI cR aC aM b L xs p s m #[.ref b] c) {kp X g cM r : sr_M} {H : Heap} {locs : List Loc} {ls : Array Slot} {ix : Nat} (hH : sr_LH D cI cR aC aM s H locs kp X g cM r) (hl : lv_has ls 4 [(3, .int (nI ix)), (2, .ref (aM 0)), (1, .ref (aC 0)), (0, .ref b)]) (hi : ix + 6 ≤ L) (hL : L ≤ 384)
    (kk : ∀ (kp X g cM r : sr_M) (H : Heap) (locs : List Loc) (ls : Array Slot), sr_LH D cI cR aC aM s H locs kp X g cM r → lv_has ls 4 [(3, .int (nI ix)), (2, .ref (aM 0)), (1, .ref (aC 0)), (0, .ref b)] → W p l e room_1 s m #[.ref b] below meth c H locs 600000 7302249 Q (F0 m 1104 ls [])) : W p l e room_1 s m #[.ref b] below meth c H locs 600000 7302249 Q (F0 m 176 ls []) := by
  obtain ⟨C0, hK, hZ0, haC, haM, hdis, hloC, hloM, hX, hbl⟩ := hC
  obtain ⟨hJ, hP, hPM, hS⟩ := hH
  have hI := hJ.1
  have hSC := hJ.2.1
  have hRX := hJ.2.2
  have hK_ := sr_IC_K hI
  have hKM : va_K D vwCl (sr_tM cI) s := hK.sub [0] rfl
  have hbA : ¬ (fun q : Nat => s.heap.size ≤ q) b := Nat.not_le.mpr hbl
  refine lv_aload_n C0.1 C0.2.1 dL_law_176 rfl (lv_at hl 2 rfl) ?_
  refine lv_aload_n C0.1 C0.2.1 dL_law_177 rfl (lv_at hl 3 rfl) ?_
  refine lv_iload_n C0.1 C0.2.1 dL_law_178 rfl (lv_at hl 0 rfl) ?_
  refine lv_iconst (v := 1) C0.1 C0.2.1 dL_law_179 (by decide) ?_
  refine lv_iadd C0.1 C0.2.1 dL_law_180 ?_
  refine sr_chi (nI_add ix 1) ?_
  refine va_sld C0.1 C0.2.1 hX hbl hbA hS (vp_in_nI (by omega) (by omega)) dL_law_181 ?_
  refine sr_chi (congrArg xs (nI_clamp (n := ix + 1) (by omega))) ?_
  refine sr_lVi (As := [.int (xs (ix + 1))]) C0 hK hP (sr_ZCok aC) (sr_ZCl hS hZ0) (cc_X7_type haC (xs (ix + 1)) hI) sk_X7_type sv_X7_type sw_210 (ci := 7) rfl sr_wC0 rfl rfl hl.1 (Nat.le_of_ble_eq_true rfl) (Nat.le_of_ble_eq_true rfl) (Nat.le_of_ble_eq_true rfl) dL_law_182 ⟨Nat.le_of_ble_eq_true rfl, Nat.le_of_ble_eq_true rfl⟩ hS (fun q hq => sr_loC hloC hq) (fun u H1 locs hu hP hS hkq => ?_)
  have hPM := sr_keepM hdis hPM hkq
  clear hkq
  refine lv_aload_n C0.1 C0.2.1 dL_law_185 rfl (lv_at hl 1 rfl) ?_
  refine lv_aload_n C0.1 C0.2.1 dL_law_186 rfl (lv_at hl 3 rfl) ?_
  refine lv_iload_n C0.1 C0.2.1 dL_law_187 rfl (lv_at hl 0 rfl) ?_
  refine lv_iconst (v := 1) C0.1 C0.2.1 dL_law_188 (by decide) ?_
  refine lv_iadd C0.1 C0.2.1 dL_law_189 ?_
  refine sr_chi (nI_add ix 1) ?_
  refine va_sld C0.1 C0.2.1 hX hbl hbA hS (vp_in_nI (by omega) (by omega)) dL_law_190 ?_
  refine sr_chi (congrArg xs (nI_clamp (n := ix + 1) (by omega))) ?_
  refine sr_lVi (As := [.int (xs (ix + 1))]) C0 hKM hPM sr_ZMok trivial (cc_X8_type haM (xs (ix + 1)) hK_) sk_X8_type sv_X8_type sw_702 (ci := 8) rfl sr_wM0 rfl rfl hl.1 (Nat.le_of_ble_eq_true rfl) (Nat.le_of_ble_eq_true rfl) (Nat.le_of_ble_eq_true rfl) dL_law_191 ⟨Nat.le_of_ble_eq_true rfl, Nat.le_of_ble_eq_true rfl⟩ hS (fun q hq => sr_loM hloM hq) (fun v H2 locs hv hPM hS hkq => ?_)
  have hP := sr_keepC hdis hP hkq
  refine lv_icmp_eq (tgt := 1104) C0.1 C0.2.1 dL_law_194 (by decide) (fun _ => ?_) (fun z => absurd rfl z)
  exact kk _ _ _ _ _ _ _ _ ⟨sr_LJ_6 hJ hu.1 hu.2, hP, hPM, hS⟩ hl
set_option maxRecDepth 100000 in
set_option maxHeartbeats 4000000 in
theorem lw_c1 {p : Program} {l : Launch} {e : Env} {s : State} {m : MethodId} {below : List Frame} {meth : Method} {c : Code} {Q : State → Prop} {D : va_G} {cI cR : ClassId} {aC aM : Nat → Nat} {b L : Nat} {xs : Nat → Int32} (hC : sr_LC D cI cR aC aM b L xs p s m #[.ref b] c) {kp X g cM r : sr_M} {H : Heap} {locs : List Loc} {ls : Array Slot} {ix : Nat} (hH : sr_LH D cI cR aC aM s H locs kp X g cM r) (hl : lv_has ls 4 [(3, .int (nI ix)), (2, .ref (aM 0)), (1, .ref (aC 0)), (0, .ref b)]) (hi : ix + 6 ≤ L) (hL : L ≤ 384)
    (kk : ∀ (kp X g cM r : sr_M) (H : Heap) (locs : List Loc) (ls : Array Slot), sr_LH D cI cR aC aM s H locs kp X g cM r → lv_has ls 4 [(3, .int (nI ix)), (2, .ref (aM 0)), (1, .ref (aC 0)), (0, .ref b)] → W p l e room_1 s m #[.ref b] below meth c H locs 600000 7302249 Q (F0 m 1104 ls [])) : W p l e room_1 s m #[.ref b] below meth c H locs 600000 7302249 Q (F0 m 199 ls []) := by
  obtain ⟨C0, hK, hZ0, haC, haM, hdis, hloC, hloM, hX, hbl⟩ := hC
  obtain ⟨hJ, hP, hPM, hS⟩ := hH
  have hI := hJ.1
  have hSC := hJ.2.1
  have hRX := hJ.2.2
  have hK_ := sr_IC_K hI
  have hKM : va_K D vwCl (sr_tM cI) s := hK.sub [0] rfl
  have hbA : ¬ (fun q : Nat => s.heap.size ≤ q) b := Nat.not_le.mpr hbl
  refine lv_aload_n C0.1 C0.2.1 dL_law_199 rfl (lv_at hl 2 rfl) ?_
  refine sr_lVi (As := []) C0 hK hP (sr_ZCok aC) (sr_ZCl hS hZ0) (cc_X7_wipe haC hI) sk_X7_wipe sv_X7_wipe sw_238 (ci := 7) rfl sr_wC0 rfl rfl hl.1 (Nat.le_of_ble_eq_true rfl) (Nat.le_of_ble_eq_true rfl) (Nat.le_of_ble_eq_true rfl) dL_law_200 ⟨Nat.le_of_ble_eq_true rfl, Nat.le_of_ble_eq_true rfl⟩ hS (fun q hq => sr_loC hloC hq) (fun u H1 locs hu hP hS hkq => ?_)
  have hPM := sr_keepM hdis hPM hkq
  clear hkq
  refine lv_aload_n C0.1 C0.2.1 dL_law_203 rfl (lv_at hl 1 rfl) ?_
  refine sr_lVi (As := []) C0 hKM hPM sr_ZMok trivial (cc_X8_wipe haM hK_) sk_X8_wipe sv_X8_wipe sw_707 (ci := 8) rfl sr_wM0 rfl rfl hl.1 (Nat.le_of_ble_eq_true rfl) (Nat.le_of_ble_eq_true rfl) (Nat.le_of_ble_eq_true rfl) dL_law_204 ⟨Nat.le_of_ble_eq_true rfl, Nat.le_of_ble_eq_true rfl⟩ hS (fun q hq => sr_loM hloM hq) (fun v H2 locs hv hPM hS hkq => ?_)
  have hP := sr_keepC hdis hP hkq
  refine lv_icmp_eq (tgt := 1104) C0.1 C0.2.1 dL_law_207 (by decide) (fun _ => ?_) (fun z => absurd rfl z)
  exact kk _ _ _ _ _ _ _ _ ⟨sr_LJ_6 hJ hu.1 hu.2, hP, hPM, hS⟩ hl
set_option maxRecDepth 100000 in
set_option maxHeartbeats 4000000 in
theorem lw_c2 {p : Program} {l : Launch} {e : Env} {s : State} {m : MethodId} {below : List Frame} {meth : Method} {c : Code} {Q : State → Prop} {D : va_G} {cI cR : ClassId} {aC aM : Nat → Nat} {b L : Nat} {xs : Nat → Int32} (hC : sr_LC D cI cR aC aM b L xs p s m #[.ref b] c) {kp X g cM r : sr_M} {H : Heap} {locs : List Loc} {ls : Array Slot} {ix : Nat} (hH : sr_LH D cI cR aC aM s H locs kp X g cM r) (hl : lv_has ls 4 [(3, .int (nI ix)), (2, .ref (aM 0)), (1, .ref (aC 0)), (0, .ref b)]) (hi : ix + 6 ≤ L) (hL : L ≤ 384)
    (kk : ∀ (kp X g cM r : sr_M) (H : Heap) (locs : List Loc) (ls : Array Slot), sr_LH D cI cR aC aM s H locs kp X g cM r → lv_has ls 4 [(3, .int (nI ix)), (2, .ref (aM 0)), (1, .ref (aC 0)), (0, .ref b)] → W p l e room_1 s m #[.ref b] below meth c H locs 600000 7302249 Q (F0 m 1104 ls [])) : W p l e room_1 s m #[.ref b] below meth c H locs 600000 7302249 Q (F0 m 212 ls []) := by
  obtain ⟨C0, hK, hZ0, haC, haM, hdis, hloC, hloM, hX, hbl⟩ := hC
  obtain ⟨hJ, hP, hPM, hS⟩ := hH
  have hI := hJ.1
  have hSC := hJ.2.1
  have hRX := hJ.2.2
  have hK_ := sr_IC_K hI
  have hKM : va_K D vwCl (sr_tM cI) s := hK.sub [0] rfl
  have hbA : ¬ (fun q : Nat => s.heap.size ≤ q) b := Nat.not_le.mpr hbl
  refine lv_aload_n C0.1 C0.2.1 dL_law_212 rfl (lv_at hl 2 rfl) ?_
  refine sr_lVi (As := []) C0 hK hP (sr_ZCok aC) (sr_ZCl hS hZ0) (cc_X7_undo haC hI) sk_X7_undo sv_X7_undo sw_246 (ci := 7) rfl sr_wC0 rfl rfl hl.1 (Nat.le_of_ble_eq_true rfl) (Nat.le_of_ble_eq_true rfl) (Nat.le_of_ble_eq_true rfl) dL_law_213 ⟨Nat.le_of_ble_eq_true rfl, Nat.le_of_ble_eq_true rfl⟩ hS (fun q hq => sr_loC hloC hq) (fun u H1 locs hu hP hS hkq => ?_)
  have hPM := sr_keepM hdis hPM hkq
  clear hkq
  refine lv_aload_n C0.1 C0.2.1 dL_law_216 rfl (lv_at hl 1 rfl) ?_
  refine sr_lVi (As := []) C0 hKM hPM sr_ZMok trivial (cc_X8_undo haM hK_) sk_X8_undo sv_X8_undo sw_711 (ci := 8) rfl sr_wM0 rfl rfl hl.1 (Nat.le_of_ble_eq_true rfl) (Nat.le_of_ble_eq_true rfl) (Nat.le_of_ble_eq_true rfl) dL_law_217 ⟨Nat.le_of_ble_eq_true rfl, Nat.le_of_ble_eq_true rfl⟩ hS (fun q hq => sr_loM hloM hq) (fun v H2 locs hv hPM hS hkq => ?_)
  have hP := sr_keepC hdis hP hkq
  refine lv_icmp_eq (tgt := 1104) C0.1 C0.2.1 dL_law_220 (by decide) (fun _ => ?_) (fun z => absurd rfl z)
  exact kk _ _ _ _ _ _ _ _ ⟨sr_LJ_6 hJ hu.1 hu.2, hP, hPM, hS⟩ hl
set_option maxRecDepth 100000 in
set_option maxHeartbeats 4000000 in
theorem lw_c3 {p : Program} {l : Launch} {e : Env} {s : State} {m : MethodId} {below : List Frame} {meth : Method} {c : Code} {Q : State → Prop} {D : va_G} {cI cR : ClassId} {aC aM : Nat → Nat} {b L : Nat} {xs : Nat → Int32} (hC : sr_LC D cI cR aC aM b L xs p s m #[.ref b] c) {kp X g cM r : sr_M} {H : Heap} {locs : List Loc} {ls : Array Slot} {ix : Nat} (hH : sr_LH D cI cR aC aM s H locs kp X g cM r) (hl : lv_has ls 4 [(3, .int (nI ix)), (2, .ref (aM 0)), (1, .ref (aC 0)), (0, .ref b)]) (hi : ix + 6 ≤ L) (hL : L ≤ 384)
    (kk : ∀ (kp X g cM r : sr_M) (H : Heap) (locs : List Loc) (ls : Array Slot), sr_LH D cI cR aC aM s H locs kp X g cM r → lv_has ls 4 [(3, .int (nI ix)), (2, .ref (aM 0)), (1, .ref (aC 0)), (0, .ref b)] → W p l e room_1 s m #[.ref b] below meth c H locs 600000 7302249 Q (F0 m 1104 ls [])) : W p l e room_1 s m #[.ref b] below meth c H locs 600000 7302249 Q (F0 m 225 ls []) := by
  obtain ⟨C0, hK, hZ0, haC, haM, hdis, hloC, hloM, hX, hbl⟩ := hC
  obtain ⟨hJ, hP, hPM, hS⟩ := hH
  have hI := hJ.1
  have hSC := hJ.2.1
  have hRX := hJ.2.2
  have hK_ := sr_IC_K hI
  have hKM : va_K D vwCl (sr_tM cI) s := hK.sub [0] rfl
  have hbA : ¬ (fun q : Nat => s.heap.size ≤ q) b := Nat.not_le.mpr hbl
  refine lv_aload_n C0.1 C0.2.1 dL_law_225 rfl (lv_at hl 2 rfl) ?_
  refine sr_pVi (As := []) C0 hK hP (sr_ZCok aC) (sr_ZCl hS hZ0) (cc_X7_fault haC hI) sk_X7_fault sv_X7_fault sw_254 (ci := 7) rfl sr_wC0 rfl rfl hl.1 (Nat.le_of_ble_eq_true rfl) (Nat.le_of_ble_eq_true rfl) (Nat.le_of_ble_eq_true rfl) dL_law_226 ⟨Nat.le_of_ble_eq_true rfl, Nat.le_of_ble_eq_true rfl⟩ ?_
  refine lv_aload_n C0.1 C0.2.1 dL_law_229 rfl (lv_at hl 1 rfl) ?_
  refine sr_lVi (As := []) C0 hKM hPM sr_ZMok trivial (cc_X8_fault haM hK_) sk_X8_fault sv_X8_fault sw_715 (ci := 8) rfl sr_wM0 rfl rfl hl.1 (Nat.le_of_ble_eq_true rfl) (Nat.le_of_ble_eq_true rfl) (Nat.le_of_ble_eq_true rfl) dL_law_230 ⟨Nat.le_of_ble_eq_true rfl, Nat.le_of_ble_eq_true rfl⟩ hS (fun q hq => sr_loM hloM hq) (fun v H2 locs hv hPM hS hkq => ?_)
  have hP := sr_keepC hdis hP hkq
  refine lv_icmp_eq (tgt := 1104) C0.1 C0.2.1 dL_law_233 (by decide) (fun _ => ?_) (fun z => absurd rfl z)
  exact kk _ _ _ _ _ _ _ _ ⟨hJ, hP, hPM, hS⟩ hl
set_option maxRecDepth 100000 in
set_option maxHeartbeats 4000000 in
theorem lw_c4 {p : Program} {l : Launch} {e : Env} {s : State} {m : MethodId} {below : List Frame} {meth : Method} {c : Code} {Q : State → Prop} {D : va_G} {cI cR : ClassId} {aC aM : Nat → Nat} {b L : Nat} {xs : Nat → Int32} (hC : sr_LC D cI cR aC aM b L xs p s m #[.ref b] c) {kp X g cM r : sr_M} {H : Heap} {locs : List Loc} {ls : Array Slot} {ix : Nat} (hH : sr_LH D cI cR aC aM s H locs kp X g cM r) (hl : lv_has ls 4 [(3, .int (nI ix)), (2, .ref (aM 0)), (1, .ref (aC 0)), (0, .ref b)]) (hi : ix + 6 ≤ L) (hL : L ≤ 384)
    (kk : ∀ (kp X g cM r : sr_M) (H : Heap) (locs : List Loc) (ls : Array Slot), sr_LH D cI cR aC aM s H locs kp X g cM r → lv_has ls 4 [(3, .int (nI ix)), (2, .ref (aM 0)), (1, .ref (aC 0)), (0, .ref b)] → W p l e room_1 s m #[.ref b] below meth c H locs 600000 7302249 Q (F0 m 1104 ls [])) : W p l e room_1 s m #[.ref b] below meth c H locs 600000 7302249 Q (F0 m 238 ls []) := by
  obtain ⟨C0, hK, hZ0, haC, haM, hdis, hloC, hloM, hX, hbl⟩ := hC
  obtain ⟨hJ, hP, hPM, hS⟩ := hH
  have hI := hJ.1
  have hSC := hJ.2.1
  have hRX := hJ.2.2
  have hK_ := sr_IC_K hI
  have hKM : va_K D vwCl (sr_tM cI) s := hK.sub [0] rfl
  have hbA : ¬ (fun q : Nat => s.heap.size ≤ q) b := Nat.not_le.mpr hbl
  refine lv_aload_n C0.1 C0.2.1 dL_law_238 rfl (lv_at hl 2 rfl) ?_
  refine lv_aload_n C0.1 C0.2.1 dL_law_239 rfl (lv_at hl 3 rfl) ?_
  refine lv_iload_n C0.1 C0.2.1 dL_law_240 rfl (lv_at hl 0 rfl) ?_
  refine lv_iconst (v := 1) C0.1 C0.2.1 dL_law_241 (by decide) ?_
  refine lv_iadd C0.1 C0.2.1 dL_law_242 ?_
  refine sr_chi (nI_add ix 1) ?_
  refine va_sld C0.1 C0.2.1 hX hbl hbA hS (vp_in_nI (by omega) (by omega)) dL_law_243 ?_
  refine sr_chi (congrArg xs (nI_clamp (n := ix + 1) (by omega))) ?_
  refine lv_aload_n C0.1 C0.2.1 dL_law_244 rfl (lv_at hl 3 rfl) ?_
  refine lv_iload_n C0.1 C0.2.1 dL_law_245 rfl (lv_at hl 0 rfl) ?_
  refine lv_iconst (v := 2) C0.1 C0.2.1 dL_law_246 (by decide) ?_
  refine lv_iadd C0.1 C0.2.1 dL_law_247 ?_
  refine sr_chi (nI_add ix 2) ?_
  refine va_sld C0.1 C0.2.1 hX hbl hbA hS (vp_in_nI (by omega) (by omega)) dL_law_248 ?_
  refine sr_chi (congrArg xs (nI_clamp (n := ix + 2) (by omega))) ?_
  refine sr_pVi (As := [.int (xs (ix + 1)), .int (xs (ix + 2))]) C0 hK hP (sr_ZCok aC) (sr_ZCl hS hZ0) (cc_X7_runner haC (xs (ix + 1)) (xs (ix + 2)) hI) sk_X7_runner sv_X7_runner sw_258 (ci := 7) rfl sr_wC0 rfl rfl hl.1 (Nat.le_of_ble_eq_true rfl) (Nat.le_of_ble_eq_true rfl) (Nat.le_of_ble_eq_true rfl) dL_law_249 ⟨Nat.le_of_ble_eq_true rfl, Nat.le_of_ble_eq_true rfl⟩ ?_
  refine lv_aload_n C0.1 C0.2.1 dL_law_252 rfl (lv_at hl 1 rfl) ?_
  refine lv_aload_n C0.1 C0.2.1 dL_law_253 rfl (lv_at hl 3 rfl) ?_
  refine lv_iload_n C0.1 C0.2.1 dL_law_254 rfl (lv_at hl 0 rfl) ?_
  refine lv_iconst (v := 1) C0.1 C0.2.1 dL_law_255 (by decide) ?_
  refine lv_iadd C0.1 C0.2.1 dL_law_256 ?_
  refine sr_chi (nI_add ix 1) ?_
  refine va_sld C0.1 C0.2.1 hX hbl hbA hS (vp_in_nI (by omega) (by omega)) dL_law_257 ?_
  refine sr_chi (congrArg xs (nI_clamp (n := ix + 1) (by omega))) ?_
  refine lv_aload_n C0.1 C0.2.1 dL_law_258 rfl (lv_at hl 3 rfl) ?_
  refine lv_iload_n C0.1 C0.2.1 dL_law_259 rfl (lv_at hl 0 rfl) ?_
  refine lv_iconst (v := 2) C0.1 C0.2.1 dL_law_260 (by decide) ?_
  refine lv_iadd C0.1 C0.2.1 dL_law_261 ?_
  refine sr_chi (nI_add ix 2) ?_
  refine va_sld C0.1 C0.2.1 hX hbl hbA hS (vp_in_nI (by omega) (by omega)) dL_law_262 ?_
  refine sr_chi (congrArg xs (nI_clamp (n := ix + 2) (by omega))) ?_
  refine sr_lVi (As := [.int (xs (ix + 1)), .int (xs (ix + 2))]) C0 hKM hPM sr_ZMok trivial (cc_X8_runner haM (xs (ix + 1)) (xs (ix + 2)) hK_) sk_X8_runner sv_X8_runner sw_736 (ci := 8) rfl sr_wM0 rfl rfl hl.1 (Nat.le_of_ble_eq_true rfl) (Nat.le_of_ble_eq_true rfl) (Nat.le_of_ble_eq_true rfl) dL_law_263 ⟨Nat.le_of_ble_eq_true rfl, Nat.le_of_ble_eq_true rfl⟩ hS (fun q hq => sr_loM hloM hq) (fun v H2 locs hv hPM hS hkq => ?_)
  have hP := sr_keepC hdis hP hkq
  refine lv_icmp_eq (tgt := 1104) C0.1 C0.2.1 dL_law_266 (by decide) (fun _ => ?_) (fun z => absurd rfl z)
  exact kk _ _ _ _ _ _ _ _ ⟨hJ, hP, hPM, hS⟩ hl
set_option maxRecDepth 100000 in
set_option maxHeartbeats 4000000 in
theorem lw_c5 {p : Program} {l : Launch} {e : Env} {s : State} {m : MethodId} {below : List Frame} {meth : Method} {c : Code} {Q : State → Prop} {D : va_G} {cI cR : ClassId} {aC aM : Nat → Nat} {b L : Nat} {xs : Nat → Int32} (hC : sr_LC D cI cR aC aM b L xs p s m #[.ref b] c) {kp X g cM r : sr_M} {H : Heap} {locs : List Loc} {ls : Array Slot} {ix : Nat} (hH : sr_LH D cI cR aC aM s H locs kp X g cM r) (hl : lv_has ls 4 [(3, .int (nI ix)), (2, .ref (aM 0)), (1, .ref (aC 0)), (0, .ref b)]) (hi : ix + 6 ≤ L) (hL : L ≤ 384)
    (kk : ∀ (kp X g cM r : sr_M) (H : Heap) (locs : List Loc) (ls : Array Slot), sr_LH D cI cR aC aM s H locs kp X g cM r → lv_has ls 4 [(3, .int (nI ix)), (2, .ref (aM 0)), (1, .ref (aC 0)), (0, .ref b)] → W p l e room_1 s m #[.ref b] below meth c H locs 600000 7302249 Q (F0 m 1104 ls [])) : W p l e room_1 s m #[.ref b] below meth c H locs 600000 7302249 Q (F0 m 271 ls []) := by
  obtain ⟨C0, hK, hZ0, haC, haM, hdis, hloC, hloM, hX, hbl⟩ := hC
  obtain ⟨hJ, hP, hPM, hS⟩ := hH
  have hI := hJ.1
  have hSC := hJ.2.1
  have hRX := hJ.2.2
  have hK_ := sr_IC_K hI
  have hKM : va_K D vwCl (sr_tM cI) s := hK.sub [0] rfl
  have hbA : ¬ (fun q : Nat => s.heap.size ≤ q) b := Nat.not_le.mpr hbl
  refine lv_aload_n C0.1 C0.2.1 dL_law_271 rfl (lv_at hl 2 rfl) ?_
  refine lv_aload_n C0.1 C0.2.1 dL_law_272 rfl (lv_at hl 3 rfl) ?_
  refine lv_iload_n C0.1 C0.2.1 dL_law_273 rfl (lv_at hl 0 rfl) ?_
  refine lv_iconst (v := 1) C0.1 C0.2.1 dL_law_274 (by decide) ?_
  refine lv_iadd C0.1 C0.2.1 dL_law_275 ?_
  refine sr_chi (nI_add ix 1) ?_
  refine va_sld C0.1 C0.2.1 hX hbl hbA hS (vp_in_nI (by omega) (by omega)) dL_law_276 ?_
  refine sr_chi (congrArg xs (nI_clamp (n := ix + 1) (by omega))) ?_
  refine lv_aload_n C0.1 C0.2.1 dL_law_277 rfl (lv_at hl 3 rfl) ?_
  refine lv_iload_n C0.1 C0.2.1 dL_law_278 rfl (lv_at hl 0 rfl) ?_
  refine lv_iconst (v := 2) C0.1 C0.2.1 dL_law_279 (by decide) ?_
  refine lv_iadd C0.1 C0.2.1 dL_law_280 ?_
  refine sr_chi (nI_add ix 2) ?_
  refine va_sld C0.1 C0.2.1 hX hbl hbA hS (vp_in_nI (by omega) (by omega)) dL_law_281 ?_
  refine sr_chi (congrArg xs (nI_clamp (n := ix + 2) (by omega))) ?_
  refine sr_lVi (As := [.int (xs (ix + 1)), .int (xs (ix + 2))]) C0 hK hP (sr_ZCok aC) (sr_ZCl hS hZ0) (cc_X7_runs haC (xs (ix + 1)) (xs (ix + 2))) sk_X7_runs sv_X7_runs sw_270 (ci := 7) rfl sr_wC0 rfl rfl hl.1 (Nat.le_of_ble_eq_true rfl) (Nat.le_of_ble_eq_true rfl) (Nat.le_of_ble_eq_true rfl) dL_law_282 ⟨Nat.le_of_ble_eq_true rfl, Nat.le_of_ble_eq_true rfl⟩ hS (fun q hq => sr_loC hloC hq) (fun u H1 locs hu hP hS hkq => ?_)
  have hPM := sr_keepM hdis hPM hkq
  clear hkq
  refine lv_aload_n C0.1 C0.2.1 dL_law_285 rfl (lv_at hl 1 rfl) ?_
  refine lv_aload_n C0.1 C0.2.1 dL_law_286 rfl (lv_at hl 3 rfl) ?_
  refine lv_iload_n C0.1 C0.2.1 dL_law_287 rfl (lv_at hl 0 rfl) ?_
  refine lv_iconst (v := 1) C0.1 C0.2.1 dL_law_288 (by decide) ?_
  refine lv_iadd C0.1 C0.2.1 dL_law_289 ?_
  refine sr_chi (nI_add ix 1) ?_
  refine va_sld C0.1 C0.2.1 hX hbl hbA hS (vp_in_nI (by omega) (by omega)) dL_law_290 ?_
  refine sr_chi (congrArg xs (nI_clamp (n := ix + 1) (by omega))) ?_
  refine lv_aload_n C0.1 C0.2.1 dL_law_291 rfl (lv_at hl 3 rfl) ?_
  refine lv_iload_n C0.1 C0.2.1 dL_law_292 rfl (lv_at hl 0 rfl) ?_
  refine lv_iconst (v := 2) C0.1 C0.2.1 dL_law_293 (by decide) ?_
  refine lv_iadd C0.1 C0.2.1 dL_law_294 ?_
  refine sr_chi (nI_add ix 2) ?_
  refine va_sld C0.1 C0.2.1 hX hbl hbA hS (vp_in_nI (by omega) (by omega)) dL_law_295 ?_
  refine sr_chi (congrArg xs (nI_clamp (n := ix + 2) (by omega))) ?_
  refine sr_lVi (As := [.int (xs (ix + 1)), .int (xs (ix + 2))]) C0 hKM hPM sr_ZMok trivial (cc_X8_runs haM (xs (ix + 1)) (xs (ix + 2))) sk_X8_runs sv_X8_runs sw_740 (ci := 8) rfl sr_wM0 rfl rfl hl.1 (Nat.le_of_ble_eq_true rfl) (Nat.le_of_ble_eq_true rfl) (Nat.le_of_ble_eq_true rfl) dL_law_296 ⟨Nat.le_of_ble_eq_true rfl, Nat.le_of_ble_eq_true rfl⟩ hS (fun q hq => sr_loM hloM hq) (fun v H2 locs hv hPM hS hkq => ?_)
  have hP := sr_keepC hdis hP hkq
  refine lv_icmp_eq (tgt := 1104) C0.1 C0.2.1 dL_law_299 (by decide) (fun _ => ?_) (fun z => absurd rfl z)
  exact kk _ _ _ _ _ _ _ _ ⟨sr_LJ_kp hJ (sr_IK_runs hK_ _ _) (sr_sk0 0 (by omega)) (sr_sk0 2 (by omega)) (congrFun (sr_sk0 5 (by omega)) 0), hP, hPM, hS⟩ hl
set_option maxRecDepth 100000 in
set_option maxHeartbeats 4000000 in
theorem lw_c6 {p : Program} {l : Launch} {e : Env} {s : State} {m : MethodId} {below : List Frame} {meth : Method} {c : Code} {Q : State → Prop} {D : va_G} {cI cR : ClassId} {aC aM : Nat → Nat} {b L : Nat} {xs : Nat → Int32} (hC : sr_LC D cI cR aC aM b L xs p s m #[.ref b] c) {kp X g cM r : sr_M} {H : Heap} {locs : List Loc} {ls : Array Slot} {ix : Nat} (hH : sr_LH D cI cR aC aM s H locs kp X g cM r) (hl : lv_has ls 4 [(3, .int (nI ix)), (2, .ref (aM 0)), (1, .ref (aC 0)), (0, .ref b)]) (hi : ix + 6 ≤ L) (hL : L ≤ 384)
    (kk : ∀ (kp X g cM r : sr_M) (H : Heap) (locs : List Loc) (ls : Array Slot), sr_LH D cI cR aC aM s H locs kp X g cM r → lv_has ls 4 [(3, .int (nI ix)), (2, .ref (aM 0)), (1, .ref (aC 0)), (0, .ref b)] → W p l e room_1 s m #[.ref b] below meth c H locs 600000 7302249 Q (F0 m 1104 ls [])) : W p l e room_1 s m #[.ref b] below meth c H locs 600000 7302249 Q (F0 m 304 ls []) := by
  obtain ⟨C0, hK, hZ0, haC, haM, hdis, hloC, hloM, hX, hbl⟩ := hC
  obtain ⟨hJ, hP, hPM, hS⟩ := hH
  have hI := hJ.1
  have hSC := hJ.2.1
  have hRX := hJ.2.2
  have hK_ := sr_IC_K hI
  have hKM : va_K D vwCl (sr_tM cI) s := hK.sub [0] rfl
  have hbA : ¬ (fun q : Nat => s.heap.size ≤ q) b := Nat.not_le.mpr hbl
  refine lv_aload_n C0.1 C0.2.1 dL_law_304 rfl (lv_at hl 2 rfl) ?_
  refine lv_aload_n C0.1 C0.2.1 dL_law_305 rfl (lv_at hl 3 rfl) ?_
  refine lv_iload_n C0.1 C0.2.1 dL_law_306 rfl (lv_at hl 0 rfl) ?_
  refine lv_iconst (v := 1) C0.1 C0.2.1 dL_law_307 (by decide) ?_
  refine lv_iadd C0.1 C0.2.1 dL_law_308 ?_
  refine sr_chi (nI_add ix 1) ?_
  refine va_sld C0.1 C0.2.1 hX hbl hbA hS (vp_in_nI (by omega) (by omega)) dL_law_309 ?_
  refine sr_chi (congrArg xs (nI_clamp (n := ix + 1) (by omega))) ?_
  refine lv_aload_n C0.1 C0.2.1 dL_law_310 rfl (lv_at hl 3 rfl) ?_
  refine lv_iload_n C0.1 C0.2.1 dL_law_311 rfl (lv_at hl 0 rfl) ?_
  refine lv_iconst (v := 2) C0.1 C0.2.1 dL_law_312 (by decide) ?_
  refine lv_iadd C0.1 C0.2.1 dL_law_313 ?_
  refine sr_chi (nI_add ix 2) ?_
  refine va_sld C0.1 C0.2.1 hX hbl hbA hS (vp_in_nI (by omega) (by omega)) dL_law_314 ?_
  refine sr_chi (congrArg xs (nI_clamp (n := ix + 2) (by omega))) ?_
  refine sr_lVi (As := [.int (xs (ix + 1)), .int (xs (ix + 2))]) C0 hK hP (sr_ZCok aC) (sr_ZCl hS hZ0) (cc_X7_set haC (xs (ix + 1)) (xs (ix + 2)) hI) sk_X7_set sv_X7_set sw_280 (ci := 7) rfl sr_wC0 rfl rfl hl.1 (Nat.le_of_ble_eq_true rfl) (Nat.le_of_ble_eq_true rfl) (Nat.le_of_ble_eq_true rfl) dL_law_315 ⟨Nat.le_of_ble_eq_true rfl, Nat.le_of_ble_eq_true rfl⟩ hS (fun q hq => sr_loC hloC hq) (fun u H1 locs hu hP hS hkq => ?_)
  have hPM := sr_keepM hdis hPM hkq
  clear hkq
  refine lv_aload_n C0.1 C0.2.1 dL_law_318 rfl (lv_at hl 1 rfl) ?_
  refine lv_aload_n C0.1 C0.2.1 dL_law_319 rfl (lv_at hl 3 rfl) ?_
  refine lv_iload_n C0.1 C0.2.1 dL_law_320 rfl (lv_at hl 0 rfl) ?_
  refine lv_iconst (v := 1) C0.1 C0.2.1 dL_law_321 (by decide) ?_
  refine lv_iadd C0.1 C0.2.1 dL_law_322 ?_
  refine sr_chi (nI_add ix 1) ?_
  refine va_sld C0.1 C0.2.1 hX hbl hbA hS (vp_in_nI (by omega) (by omega)) dL_law_323 ?_
  refine sr_chi (congrArg xs (nI_clamp (n := ix + 1) (by omega))) ?_
  refine lv_aload_n C0.1 C0.2.1 dL_law_324 rfl (lv_at hl 3 rfl) ?_
  refine lv_iload_n C0.1 C0.2.1 dL_law_325 rfl (lv_at hl 0 rfl) ?_
  refine lv_iconst (v := 2) C0.1 C0.2.1 dL_law_326 (by decide) ?_
  refine lv_iadd C0.1 C0.2.1 dL_law_327 ?_
  refine sr_chi (nI_add ix 2) ?_
  refine va_sld C0.1 C0.2.1 hX hbl hbA hS (vp_in_nI (by omega) (by omega)) dL_law_328 ?_
  refine sr_chi (congrArg xs (nI_clamp (n := ix + 2) (by omega))) ?_
  refine sr_lVi (As := [.int (xs (ix + 1)), .int (xs (ix + 2))]) C0 hKM hPM sr_ZMok trivial (cc_X8_set haM (xs (ix + 1)) (xs (ix + 2))) sk_X8_set sv_X8_set sw_748 (ci := 8) rfl sr_wM0 rfl rfl hl.1 (Nat.le_of_ble_eq_true rfl) (Nat.le_of_ble_eq_true rfl) (Nat.le_of_ble_eq_true rfl) dL_law_329 ⟨Nat.le_of_ble_eq_true rfl, Nat.le_of_ble_eq_true rfl⟩ hS (fun q hq => sr_loM hloM hq) (fun v H2 locs hv hPM hS hkq => ?_)
  have hP := sr_keepC hdis hP hkq
  refine lv_icmp_eq (tgt := 1104) C0.1 C0.2.1 dL_law_332 (by decide) (fun _ => ?_) (fun z => absurd rfl z)
  exact kk _ _ _ _ _ _ _ _ ⟨sr_LJ_set hJ _ _ hu, hP, hPM, hS⟩ hl
set_option maxRecDepth 100000 in
set_option maxHeartbeats 4000000 in
theorem lw_c7 {p : Program} {l : Launch} {e : Env} {s : State} {m : MethodId} {below : List Frame} {meth : Method} {c : Code} {Q : State → Prop} {D : va_G} {cI cR : ClassId} {aC aM : Nat → Nat} {b L : Nat} {xs : Nat → Int32} (hC : sr_LC D cI cR aC aM b L xs p s m #[.ref b] c) {kp X g cM r : sr_M} {H : Heap} {locs : List Loc} {ls : Array Slot} {ix : Nat} (hH : sr_LH D cI cR aC aM s H locs kp X g cM r) (hl : lv_has ls 4 [(3, .int (nI ix)), (2, .ref (aM 0)), (1, .ref (aC 0)), (0, .ref b)]) (hi : ix + 6 ≤ L) (hL : L ≤ 384)
    (kk : ∀ (kp X g cM r : sr_M) (H : Heap) (locs : List Loc) (ls : Array Slot), sr_LH D cI cR aC aM s H locs kp X g cM r → lv_has ls 4 [(3, .int (nI ix)), (2, .ref (aM 0)), (1, .ref (aC 0)), (0, .ref b)] → W p l e room_1 s m #[.ref b] below meth c H locs 600000 7302249 Q (F0 m 1104 ls [])) : W p l e room_1 s m #[.ref b] below meth c H locs 600000 7302249 Q (F0 m 337 ls []) := by
  obtain ⟨C0, hK, hZ0, haC, haM, hdis, hloC, hloM, hX, hbl⟩ := hC
  obtain ⟨hJ, hP, hPM, hS⟩ := hH
  have hI := hJ.1
  have hSC := hJ.2.1
  have hRX := hJ.2.2
  have hK_ := sr_IC_K hI
  have hKM : va_K D vwCl (sr_tM cI) s := hK.sub [0] rfl
  have hbA : ¬ (fun q : Nat => s.heap.size ≤ q) b := Nat.not_le.mpr hbl
  refine lv_aload_n C0.1 C0.2.1 dL_law_337 rfl (lv_at hl 2 rfl) ?_
  refine lv_aload_n C0.1 C0.2.1 dL_law_338 rfl (lv_at hl 3 rfl) ?_
  refine lv_iload_n C0.1 C0.2.1 dL_law_339 rfl (lv_at hl 0 rfl) ?_
  refine lv_iconst (v := 1) C0.1 C0.2.1 dL_law_340 (by decide) ?_
  refine lv_iadd C0.1 C0.2.1 dL_law_341 ?_
  refine sr_chi (nI_add ix 1) ?_
  refine va_sld C0.1 C0.2.1 hX hbl hbA hS (vp_in_nI (by omega) (by omega)) dL_law_342 ?_
  refine sr_chi (congrArg xs (nI_clamp (n := ix + 1) (by omega))) ?_
  refine lv_aload_n C0.1 C0.2.1 dL_law_343 rfl (lv_at hl 3 rfl) ?_
  refine lv_iload_n C0.1 C0.2.1 dL_law_344 rfl (lv_at hl 0 rfl) ?_
  refine lv_iconst (v := 2) C0.1 C0.2.1 dL_law_345 (by decide) ?_
  refine lv_iadd C0.1 C0.2.1 dL_law_346 ?_
  refine sr_chi (nI_add ix 2) ?_
  refine va_sld C0.1 C0.2.1 hX hbl hbA hS (vp_in_nI (by omega) (by omega)) dL_law_347 ?_
  refine sr_chi (congrArg xs (nI_clamp (n := ix + 2) (by omega))) ?_
  refine sr_lVi (As := [.int (xs (ix + 1)), .int (xs (ix + 2))]) C0 hK hP (sr_ZCok aC) (sr_ZCl hS hZ0) (cc_X7_mark haC (xs (ix + 1)) (xs (ix + 2))) sk_X7_mark sv_X7_mark sw_293 (ci := 7) rfl sr_wC0 rfl rfl hl.1 (Nat.le_of_ble_eq_true rfl) (Nat.le_of_ble_eq_true rfl) (Nat.le_of_ble_eq_true rfl) dL_law_348 ⟨Nat.le_of_ble_eq_true rfl, Nat.le_of_ble_eq_true rfl⟩ hS (fun q hq => sr_loC hloC hq) (fun u H1 locs hu hP hS hkq => ?_)
  have hPM := sr_keepM hdis hPM hkq
  clear hkq
  refine lv_aload_n C0.1 C0.2.1 dL_law_351 rfl (lv_at hl 1 rfl) ?_
  refine lv_aload_n C0.1 C0.2.1 dL_law_352 rfl (lv_at hl 3 rfl) ?_
  refine lv_iload_n C0.1 C0.2.1 dL_law_353 rfl (lv_at hl 0 rfl) ?_
  refine lv_iconst (v := 1) C0.1 C0.2.1 dL_law_354 (by decide) ?_
  refine lv_iadd C0.1 C0.2.1 dL_law_355 ?_
  refine sr_chi (nI_add ix 1) ?_
  refine va_sld C0.1 C0.2.1 hX hbl hbA hS (vp_in_nI (by omega) (by omega)) dL_law_356 ?_
  refine sr_chi (congrArg xs (nI_clamp (n := ix + 1) (by omega))) ?_
  refine lv_aload_n C0.1 C0.2.1 dL_law_357 rfl (lv_at hl 3 rfl) ?_
  refine lv_iload_n C0.1 C0.2.1 dL_law_358 rfl (lv_at hl 0 rfl) ?_
  refine lv_iconst (v := 2) C0.1 C0.2.1 dL_law_359 (by decide) ?_
  refine lv_iadd C0.1 C0.2.1 dL_law_360 ?_
  refine sr_chi (nI_add ix 2) ?_
  refine va_sld C0.1 C0.2.1 hX hbl hbA hS (vp_in_nI (by omega) (by omega)) dL_law_361 ?_
  refine sr_chi (congrArg xs (nI_clamp (n := ix + 2) (by omega))) ?_
  refine sr_lVi (As := [.int (xs (ix + 1)), .int (xs (ix + 2))]) C0 hKM hPM sr_ZMok trivial (cc_X8_mark haM (xs (ix + 1)) (xs (ix + 2))) sk_X8_mark sv_X8_mark sw_757 (ci := 8) rfl sr_wM0 rfl rfl hl.1 (Nat.le_of_ble_eq_true rfl) (Nat.le_of_ble_eq_true rfl) (Nat.le_of_ble_eq_true rfl) dL_law_362 ⟨Nat.le_of_ble_eq_true rfl, Nat.le_of_ble_eq_true rfl⟩ hS (fun q hq => sr_loM hloM hq) (fun v H2 locs hv hPM hS hkq => ?_)
  have hP := sr_keepC hdis hP hkq
  refine lv_icmp_eq (tgt := 1104) C0.1 C0.2.1 dL_law_365 (by decide) (fun _ => ?_) (fun z => absurd rfl z)
  exact kk _ _ _ _ _ _ _ _ ⟨sr_LJ_kp hJ (sr_IK_mark hK_ _ _) (sr_sk0 0 (by omega)) (sr_sk0 2 (by omega)) (congrFun (sr_sk0 5 (by omega)) 0), hP, hPM, hS⟩ hl
set_option maxRecDepth 100000 in
set_option maxHeartbeats 4000000 in
theorem lw_c8 {p : Program} {l : Launch} {e : Env} {s : State} {m : MethodId} {below : List Frame} {meth : Method} {c : Code} {Q : State → Prop} {D : va_G} {cI cR : ClassId} {aC aM : Nat → Nat} {b L : Nat} {xs : Nat → Int32} (hC : sr_LC D cI cR aC aM b L xs p s m #[.ref b] c) {kp X g cM r : sr_M} {H : Heap} {locs : List Loc} {ls : Array Slot} {ix : Nat} (hH : sr_LH D cI cR aC aM s H locs kp X g cM r) (hl : lv_has ls 4 [(3, .int (nI ix)), (2, .ref (aM 0)), (1, .ref (aC 0)), (0, .ref b)]) (hi : ix + 6 ≤ L) (hL : L ≤ 384)
    (kk : ∀ (kp X g cM r : sr_M) (H : Heap) (locs : List Loc) (ls : Array Slot), sr_LH D cI cR aC aM s H locs kp X g cM r → lv_has ls 4 [(3, .int (nI ix)), (2, .ref (aM 0)), (1, .ref (aC 0)), (0, .ref b)] → W p l e room_1 s m #[.ref b] below meth c H locs 600000 7302249 Q (F0 m 1104 ls [])) : W p l e room_1 s m #[.ref b] below meth c H locs 600000 7302249 Q (F0 m 370 ls []) := by
  obtain ⟨C0, hK, hZ0, haC, haM, hdis, hloC, hloM, hX, hbl⟩ := hC
  obtain ⟨hJ, hP, hPM, hS⟩ := hH
  have hI := hJ.1
  have hSC := hJ.2.1
  have hRX := hJ.2.2
  have hK_ := sr_IC_K hI
  have hKM : va_K D vwCl (sr_tM cI) s := hK.sub [0] rfl
  have hbA : ¬ (fun q : Nat => s.heap.size ≤ q) b := Nat.not_le.mpr hbl
  refine lv_aload_n C0.1 C0.2.1 dL_law_370 rfl (lv_at hl 2 rfl) ?_
  refine lv_aload_n C0.1 C0.2.1 dL_law_371 rfl (lv_at hl 3 rfl) ?_
  refine lv_iload_n C0.1 C0.2.1 dL_law_372 rfl (lv_at hl 0 rfl) ?_
  refine lv_iconst (v := 1) C0.1 C0.2.1 dL_law_373 (by decide) ?_
  refine lv_iadd C0.1 C0.2.1 dL_law_374 ?_
  refine sr_chi (nI_add ix 1) ?_
  refine va_sld C0.1 C0.2.1 hX hbl hbA hS (vp_in_nI (by omega) (by omega)) dL_law_375 ?_
  refine sr_chi (congrArg xs (nI_clamp (n := ix + 1) (by omega))) ?_
  refine lv_aload_n C0.1 C0.2.1 dL_law_376 rfl (lv_at hl 3 rfl) ?_
  refine lv_iload_n C0.1 C0.2.1 dL_law_377 rfl (lv_at hl 0 rfl) ?_
  refine lv_iconst (v := 2) C0.1 C0.2.1 dL_law_378 (by decide) ?_
  refine lv_iadd C0.1 C0.2.1 dL_law_379 ?_
  refine sr_chi (nI_add ix 2) ?_
  refine va_sld C0.1 C0.2.1 hX hbl hbA hS (vp_in_nI (by omega) (by omega)) dL_law_380 ?_
  refine sr_chi (congrArg xs (nI_clamp (n := ix + 2) (by omega))) ?_
  refine sr_lVi (As := [.int (xs (ix + 1)), .int (xs (ix + 2))]) C0 hK hP (sr_ZCok aC) (sr_ZCl hS hZ0) (cc_X7_slip haC (xs (ix + 1)) (xs (ix + 2))) sk_X7_slip sv_X7_slip sw_303 (ci := 7) rfl sr_wC0 rfl rfl hl.1 (Nat.le_of_ble_eq_true rfl) (Nat.le_of_ble_eq_true rfl) (Nat.le_of_ble_eq_true rfl) dL_law_381 ⟨Nat.le_of_ble_eq_true rfl, Nat.le_of_ble_eq_true rfl⟩ hS (fun q hq => sr_loC hloC hq) (fun u H1 locs hu hP hS hkq => ?_)
  have hPM := sr_keepM hdis hPM hkq
  clear hkq
  refine lv_aload_n C0.1 C0.2.1 dL_law_384 rfl (lv_at hl 1 rfl) ?_
  refine lv_aload_n C0.1 C0.2.1 dL_law_385 rfl (lv_at hl 3 rfl) ?_
  refine lv_iload_n C0.1 C0.2.1 dL_law_386 rfl (lv_at hl 0 rfl) ?_
  refine lv_iconst (v := 1) C0.1 C0.2.1 dL_law_387 (by decide) ?_
  refine lv_iadd C0.1 C0.2.1 dL_law_388 ?_
  refine sr_chi (nI_add ix 1) ?_
  refine va_sld C0.1 C0.2.1 hX hbl hbA hS (vp_in_nI (by omega) (by omega)) dL_law_389 ?_
  refine sr_chi (congrArg xs (nI_clamp (n := ix + 1) (by omega))) ?_
  refine lv_aload_n C0.1 C0.2.1 dL_law_390 rfl (lv_at hl 3 rfl) ?_
  refine lv_iload_n C0.1 C0.2.1 dL_law_391 rfl (lv_at hl 0 rfl) ?_
  refine lv_iconst (v := 2) C0.1 C0.2.1 dL_law_392 (by decide) ?_
  refine lv_iadd C0.1 C0.2.1 dL_law_393 ?_
  refine sr_chi (nI_add ix 2) ?_
  refine va_sld C0.1 C0.2.1 hX hbl hbA hS (vp_in_nI (by omega) (by omega)) dL_law_394 ?_
  refine sr_chi (congrArg xs (nI_clamp (n := ix + 2) (by omega))) ?_
  refine sr_lVi (As := [.int (xs (ix + 1)), .int (xs (ix + 2))]) C0 hKM hPM sr_ZMok trivial (cc_X8_slip haM (xs (ix + 1)) (xs (ix + 2))) sk_X8_slip sv_X8_slip sw_765 (ci := 8) rfl sr_wM0 rfl rfl hl.1 (Nat.le_of_ble_eq_true rfl) (Nat.le_of_ble_eq_true rfl) (Nat.le_of_ble_eq_true rfl) dL_law_395 ⟨Nat.le_of_ble_eq_true rfl, Nat.le_of_ble_eq_true rfl⟩ hS (fun q hq => sr_loM hloM hq) (fun v H2 locs hv hPM hS hkq => ?_)
  have hP := sr_keepC hdis hP hkq
  refine lv_icmp_eq (tgt := 1104) C0.1 C0.2.1 dL_law_398 (by decide) (fun _ => ?_) (fun z => absurd rfl z)
  exact kk _ _ _ _ _ _ _ _ ⟨sr_LJ_kp hJ (sr_IK_slip hK_ _ _) (sr_sk0 0 (by omega)) (sr_sk0 2 (by omega)) (congrFun (sr_sk0 5 (by omega)) 0), hP, hPM, hS⟩ hl
set_option maxRecDepth 100000 in
set_option maxHeartbeats 4000000 in
theorem lw_c9 {p : Program} {l : Launch} {e : Env} {s : State} {m : MethodId} {below : List Frame} {meth : Method} {c : Code} {Q : State → Prop} {D : va_G} {cI cR : ClassId} {aC aM : Nat → Nat} {b L : Nat} {xs : Nat → Int32} (hC : sr_LC D cI cR aC aM b L xs p s m #[.ref b] c) {kp X g cM r : sr_M} {H : Heap} {locs : List Loc} {ls : Array Slot} {ix : Nat} (hH : sr_LH D cI cR aC aM s H locs kp X g cM r) (hl : lv_has ls 4 [(3, .int (nI ix)), (2, .ref (aM 0)), (1, .ref (aC 0)), (0, .ref b)]) (hi : ix + 6 ≤ L) (hL : L ≤ 384)
    (kk : ∀ (kp X g cM r : sr_M) (H : Heap) (locs : List Loc) (ls : Array Slot), sr_LH D cI cR aC aM s H locs kp X g cM r → lv_has ls 4 [(3, .int (nI ix)), (2, .ref (aM 0)), (1, .ref (aC 0)), (0, .ref b)] → W p l e room_1 s m #[.ref b] below meth c H locs 600000 7302249 Q (F0 m 1104 ls [])) : W p l e room_1 s m #[.ref b] below meth c H locs 600000 7302249 Q (F0 m 403 ls []) := by
  obtain ⟨C0, hK, hZ0, haC, haM, hdis, hloC, hloM, hX, hbl⟩ := hC
  obtain ⟨hJ, hP, hPM, hS⟩ := hH
  have hI := hJ.1
  have hSC := hJ.2.1
  have hRX := hJ.2.2
  have hK_ := sr_IC_K hI
  have hKM : va_K D vwCl (sr_tM cI) s := hK.sub [0] rfl
  have hbA : ¬ (fun q : Nat => s.heap.size ≤ q) b := Nat.not_le.mpr hbl
  refine lv_aload_n C0.1 C0.2.1 dL_law_403 rfl (lv_at hl 2 rfl) ?_
  refine lv_aload_n C0.1 C0.2.1 dL_law_404 rfl (lv_at hl 3 rfl) ?_
  refine lv_iload_n C0.1 C0.2.1 dL_law_405 rfl (lv_at hl 0 rfl) ?_
  refine lv_iconst (v := 1) C0.1 C0.2.1 dL_law_406 (by decide) ?_
  refine lv_iadd C0.1 C0.2.1 dL_law_407 ?_
  refine sr_chi (nI_add ix 1) ?_
  refine va_sld C0.1 C0.2.1 hX hbl hbA hS (vp_in_nI (by omega) (by omega)) dL_law_408 ?_
  refine sr_chi (congrArg xs (nI_clamp (n := ix + 1) (by omega))) ?_
  refine sr_lVi (As := [.int (xs (ix + 1))]) C0 hK hP (sr_ZCok aC) (sr_ZCl hS hZ0) (cc_X7_read haC (xs (ix + 1)) hSC) sk_X7_read sv_X7_read sw_307 (ci := 7) rfl sr_wC0 rfl rfl hl.1 (Nat.le_of_ble_eq_true rfl) (Nat.le_of_ble_eq_true rfl) (Nat.le_of_ble_eq_true rfl) dL_law_409 ⟨Nat.le_of_ble_eq_true rfl, Nat.le_of_ble_eq_true rfl⟩ hS (fun q hq => sr_loC hloC hq) (fun u H1 locs hu hP hS hkq => ?_)
  have hPM := sr_keepM hdis hPM hkq
  clear hkq
  refine lv_aload_n C0.1 C0.2.1 dL_law_412 rfl (lv_at hl 1 rfl) ?_
  refine lv_aload_n C0.1 C0.2.1 dL_law_413 rfl (lv_at hl 3 rfl) ?_
  refine lv_iload_n C0.1 C0.2.1 dL_law_414 rfl (lv_at hl 0 rfl) ?_
  refine lv_iconst (v := 1) C0.1 C0.2.1 dL_law_415 (by decide) ?_
  refine lv_iadd C0.1 C0.2.1 dL_law_416 ?_
  refine sr_chi (nI_add ix 1) ?_
  refine va_sld C0.1 C0.2.1 hX hbl hbA hS (vp_in_nI (by omega) (by omega)) dL_law_417 ?_
  refine sr_chi (congrArg xs (nI_clamp (n := ix + 1) (by omega))) ?_
  refine sr_lVi (As := [.int (xs (ix + 1))]) C0 hKM hPM sr_ZMok trivial (cc_X8_read haM X (xs (ix + 1)) hK_ hSC hRX) sk_X8_read sv_X8_read sw_771 (ci := 8) rfl sr_wM0 rfl rfl hl.1 (Nat.le_of_ble_eq_true rfl) (Nat.le_of_ble_eq_true rfl) (Nat.le_of_ble_eq_true rfl) dL_law_418 ⟨Nat.le_of_ble_eq_true rfl, Nat.le_of_ble_eq_true rfl⟩ hS (fun q hq => sr_loM hloM hq) (fun v H2 locs hv hPM hS hkq => ?_)
  have hP := sr_keepC hdis hP hkq
  refine lv_icmp_eq (tgt := 1104) C0.1 C0.2.1 dL_law_421 (by decide) (fun _ => ?_) (fun z => absurd rfl z)
  exact kk _ _ _ _ _ _ _ _ ⟨sr_LJ_kp hJ (sr_IK_read hK_ _) (sr_rd_0 _).1 (sr_rd_0 _).2.1 (sr_rd_0 _).2.2, hP, hPM, hS⟩ hl
set_option maxRecDepth 100000 in
set_option maxHeartbeats 4000000 in
theorem lw_c10 {p : Program} {l : Launch} {e : Env} {s : State} {m : MethodId} {below : List Frame} {meth : Method} {c : Code} {Q : State → Prop} {D : va_G} {cI cR : ClassId} {aC aM : Nat → Nat} {b L : Nat} {xs : Nat → Int32} (hC : sr_LC D cI cR aC aM b L xs p s m #[.ref b] c) {kp X g cM r : sr_M} {H : Heap} {locs : List Loc} {ls : Array Slot} {ix : Nat} (hH : sr_LH D cI cR aC aM s H locs kp X g cM r) (hl : lv_has ls 4 [(3, .int (nI ix)), (2, .ref (aM 0)), (1, .ref (aC 0)), (0, .ref b)]) (hi : ix + 6 ≤ L) (hL : L ≤ 384)
    (kk : ∀ (kp X g cM r : sr_M) (H : Heap) (locs : List Loc) (ls : Array Slot), sr_LH D cI cR aC aM s H locs kp X g cM r → lv_has ls 4 [(3, .int (nI ix)), (2, .ref (aM 0)), (1, .ref (aC 0)), (0, .ref b)] → W p l e room_1 s m #[.ref b] below meth c H locs 600000 7302249 Q (F0 m 1104 ls [])) : W p l e room_1 s m #[.ref b] below meth c H locs 600000 7302249 Q (F0 m 426 ls []) := by
  obtain ⟨C0, hK, hZ0, haC, haM, hdis, hloC, hloM, hX, hbl⟩ := hC
  obtain ⟨hJ, hP, hPM, hS⟩ := hH
  have hI := hJ.1
  have hSC := hJ.2.1
  have hRX := hJ.2.2
  have hK_ := sr_IC_K hI
  have hKM : va_K D vwCl (sr_tM cI) s := hK.sub [0] rfl
  have hbA : ¬ (fun q : Nat => s.heap.size ≤ q) b := Nat.not_le.mpr hbl
  refine lv_aload_n C0.1 C0.2.1 dL_law_426 rfl (lv_at hl 2 rfl) ?_
  refine lv_aload_n C0.1 C0.2.1 dL_law_427 rfl (lv_at hl 3 rfl) ?_
  refine lv_iload_n C0.1 C0.2.1 dL_law_428 rfl (lv_at hl 0 rfl) ?_
  refine lv_iconst (v := 1) C0.1 C0.2.1 dL_law_429 (by decide) ?_
  refine lv_iadd C0.1 C0.2.1 dL_law_430 ?_
  refine sr_chi (nI_add ix 1) ?_
  refine va_sld C0.1 C0.2.1 hX hbl hbA hS (vp_in_nI (by omega) (by omega)) dL_law_431 ?_
  refine sr_chi (congrArg xs (nI_clamp (n := ix + 1) (by omega))) ?_
  refine lv_aload_n C0.1 C0.2.1 dL_law_432 rfl (lv_at hl 3 rfl) ?_
  refine lv_iload_n C0.1 C0.2.1 dL_law_433 rfl (lv_at hl 0 rfl) ?_
  refine lv_iconst (v := 2) C0.1 C0.2.1 dL_law_434 (by decide) ?_
  refine lv_iadd C0.1 C0.2.1 dL_law_435 ?_
  refine sr_chi (nI_add ix 2) ?_
  refine va_sld C0.1 C0.2.1 hX hbl hbA hS (vp_in_nI (by omega) (by omega)) dL_law_436 ?_
  refine sr_chi (congrArg xs (nI_clamp (n := ix + 2) (by omega))) ?_
  refine lv_aload_n C0.1 C0.2.1 dL_law_437 rfl (lv_at hl 3 rfl) ?_
  refine lv_iload_n C0.1 C0.2.1 dL_law_438 rfl (lv_at hl 0 rfl) ?_
  refine lv_iconst (v := 3) C0.1 C0.2.1 dL_law_439 (by decide) ?_
  refine lv_iadd C0.1 C0.2.1 dL_law_440 ?_
  refine sr_chi (nI_add ix 3) ?_
  refine va_sld C0.1 C0.2.1 hX hbl hbA hS (vp_in_nI (by omega) (by omega)) dL_law_441 ?_
  refine sr_chi (congrArg xs (nI_clamp (n := ix + 3) (by omega))) ?_
  refine sr_pVi (As := [.int (xs (ix + 1)), .int (xs (ix + 2)), .int (xs (ix + 3))]) C0 hK hP (sr_ZCok aC) (sr_ZCl hS hZ0) (cc_X7_takes haC (xs (ix + 1)) (xs (ix + 2)) (xs (ix + 3)) hI) sk_X7_takes sv_X7_takes sw_325 (ci := 7) rfl sr_wC0 rfl rfl hl.1 (Nat.le_of_ble_eq_true rfl) (Nat.le_of_ble_eq_true rfl) (Nat.le_of_ble_eq_true rfl) dL_law_442 ⟨Nat.le_of_ble_eq_true rfl, Nat.le_of_ble_eq_true rfl⟩ ?_
  refine lv_aload_n C0.1 C0.2.1 dL_law_445 rfl (lv_at hl 1 rfl) ?_
  refine lv_aload_n C0.1 C0.2.1 dL_law_446 rfl (lv_at hl 3 rfl) ?_
  refine lv_iload_n C0.1 C0.2.1 dL_law_447 rfl (lv_at hl 0 rfl) ?_
  refine lv_iconst (v := 1) C0.1 C0.2.1 dL_law_448 (by decide) ?_
  refine lv_iadd C0.1 C0.2.1 dL_law_449 ?_
  refine sr_chi (nI_add ix 1) ?_
  refine va_sld C0.1 C0.2.1 hX hbl hbA hS (vp_in_nI (by omega) (by omega)) dL_law_450 ?_
  refine sr_chi (congrArg xs (nI_clamp (n := ix + 1) (by omega))) ?_
  refine lv_aload_n C0.1 C0.2.1 dL_law_451 rfl (lv_at hl 3 rfl) ?_
  refine lv_iload_n C0.1 C0.2.1 dL_law_452 rfl (lv_at hl 0 rfl) ?_
  refine lv_iconst (v := 2) C0.1 C0.2.1 dL_law_453 (by decide) ?_
  refine lv_iadd C0.1 C0.2.1 dL_law_454 ?_
  refine sr_chi (nI_add ix 2) ?_
  refine va_sld C0.1 C0.2.1 hX hbl hbA hS (vp_in_nI (by omega) (by omega)) dL_law_455 ?_
  refine sr_chi (congrArg xs (nI_clamp (n := ix + 2) (by omega))) ?_
  refine lv_aload_n C0.1 C0.2.1 dL_law_456 rfl (lv_at hl 3 rfl) ?_
  refine lv_iload_n C0.1 C0.2.1 dL_law_457 rfl (lv_at hl 0 rfl) ?_
  refine lv_iconst (v := 3) C0.1 C0.2.1 dL_law_458 (by decide) ?_
  refine lv_iadd C0.1 C0.2.1 dL_law_459 ?_
  refine sr_chi (nI_add ix 3) ?_
  refine va_sld C0.1 C0.2.1 hX hbl hbA hS (vp_in_nI (by omega) (by omega)) dL_law_460 ?_
  refine sr_chi (congrArg xs (nI_clamp (n := ix + 3) (by omega))) ?_
  refine sr_lVi (As := [.int (xs (ix + 1)), .int (xs (ix + 2)), .int (xs (ix + 3))]) C0 hKM hPM sr_ZMok trivial (cc_X8_takes haM (xs (ix + 1)) (xs (ix + 2)) (xs (ix + 3)) hK_) sk_X8_takes sv_X8_takes sw_776 (ci := 8) rfl sr_wM0 rfl rfl hl.1 (Nat.le_of_ble_eq_true rfl) (Nat.le_of_ble_eq_true rfl) (Nat.le_of_ble_eq_true rfl) dL_law_461 ⟨Nat.le_of_ble_eq_true rfl, Nat.le_of_ble_eq_true rfl⟩ hS (fun q hq => sr_loM hloM hq) (fun v H2 locs hv hPM hS hkq => ?_)
  have hP := sr_keepC hdis hP hkq
  refine lv_icmp_eq (tgt := 1104) C0.1 C0.2.1 dL_law_464 (by decide) (fun _ => ?_) (fun z => absurd rfl z)
  exact kk _ _ _ _ _ _ _ _ ⟨hJ, hP, hPM, hS⟩ hl
set_option maxRecDepth 100000 in
set_option maxHeartbeats 4000000 in
theorem lw_c11 {p : Program} {l : Launch} {e : Env} {s : State} {m : MethodId} {below : List Frame} {meth : Method} {c : Code} {Q : State → Prop} {D : va_G} {cI cR : ClassId} {aC aM : Nat → Nat} {b L : Nat} {xs : Nat → Int32} (hC : sr_LC D cI cR aC aM b L xs p s m #[.ref b] c) {kp X g cM r : sr_M} {H : Heap} {locs : List Loc} {ls : Array Slot} {ix : Nat} (hH : sr_LH D cI cR aC aM s H locs kp X g cM r) (hl : lv_has ls 4 [(3, .int (nI ix)), (2, .ref (aM 0)), (1, .ref (aC 0)), (0, .ref b)]) (hi : ix + 6 ≤ L) (hL : L ≤ 384)
    (kk : ∀ (kp X g cM r : sr_M) (H : Heap) (locs : List Loc) (ls : Array Slot), sr_LH D cI cR aC aM s H locs kp X g cM r → lv_has ls 4 [(3, .int (nI ix)), (2, .ref (aM 0)), (1, .ref (aC 0)), (0, .ref b)] → W p l e room_1 s m #[.ref b] below meth c H locs 600000 7302249 Q (F0 m 1104 ls [])) : W p l e room_1 s m #[.ref b] below meth c H locs 600000 7302249 Q (F0 m 469 ls []) := by
  obtain ⟨C0, hK, hZ0, haC, haM, hdis, hloC, hloM, hX, hbl⟩ := hC
  obtain ⟨hJ, hP, hPM, hS⟩ := hH
  have hI := hJ.1
  have hSC := hJ.2.1
  have hRX := hJ.2.2
  have hK_ := sr_IC_K hI
  have hKM : va_K D vwCl (sr_tM cI) s := hK.sub [0] rfl
  have hbA : ¬ (fun q : Nat => s.heap.size ≤ q) b := Nat.not_le.mpr hbl
  refine lv_aload_n C0.1 C0.2.1 dL_law_469 rfl (lv_at hl 2 rfl) ?_
  refine lv_aload_n C0.1 C0.2.1 dL_law_470 rfl (lv_at hl 3 rfl) ?_
  refine lv_iload_n C0.1 C0.2.1 dL_law_471 rfl (lv_at hl 0 rfl) ?_
  refine lv_iconst (v := 1) C0.1 C0.2.1 dL_law_472 (by decide) ?_
  refine lv_iadd C0.1 C0.2.1 dL_law_473 ?_
  refine sr_chi (nI_add ix 1) ?_
  refine va_sld C0.1 C0.2.1 hX hbl hbA hS (vp_in_nI (by omega) (by omega)) dL_law_474 ?_
  refine sr_chi (congrArg xs (nI_clamp (n := ix + 1) (by omega))) ?_
  refine lv_aload_n C0.1 C0.2.1 dL_law_475 rfl (lv_at hl 3 rfl) ?_
  refine lv_iload_n C0.1 C0.2.1 dL_law_476 rfl (lv_at hl 0 rfl) ?_
  refine lv_iconst (v := 2) C0.1 C0.2.1 dL_law_477 (by decide) ?_
  refine lv_iadd C0.1 C0.2.1 dL_law_478 ?_
  refine sr_chi (nI_add ix 2) ?_
  refine va_sld C0.1 C0.2.1 hX hbl hbA hS (vp_in_nI (by omega) (by omega)) dL_law_479 ?_
  refine sr_chi (congrArg xs (nI_clamp (n := ix + 2) (by omega))) ?_
  refine sr_pVi (As := [.int (xs (ix + 1)), .int (xs (ix + 2))]) C0 hK hP (sr_ZCok aC) (sr_ZCl hS hZ0) (cc_X7_when haC (xs (ix + 1)) (xs (ix + 2)) hI) sk_X7_when sv_X7_when sw_333 (ci := 7) rfl sr_wC0 rfl rfl hl.1 (Nat.le_of_ble_eq_true rfl) (Nat.le_of_ble_eq_true rfl) (Nat.le_of_ble_eq_true rfl) dL_law_480 ⟨Nat.le_of_ble_eq_true rfl, Nat.le_of_ble_eq_true rfl⟩ ?_
  refine lv_aload_n C0.1 C0.2.1 dL_law_483 rfl (lv_at hl 1 rfl) ?_
  refine lv_aload_n C0.1 C0.2.1 dL_law_484 rfl (lv_at hl 3 rfl) ?_
  refine lv_iload_n C0.1 C0.2.1 dL_law_485 rfl (lv_at hl 0 rfl) ?_
  refine lv_iconst (v := 1) C0.1 C0.2.1 dL_law_486 (by decide) ?_
  refine lv_iadd C0.1 C0.2.1 dL_law_487 ?_
  refine sr_chi (nI_add ix 1) ?_
  refine va_sld C0.1 C0.2.1 hX hbl hbA hS (vp_in_nI (by omega) (by omega)) dL_law_488 ?_
  refine sr_chi (congrArg xs (nI_clamp (n := ix + 1) (by omega))) ?_
  refine lv_aload_n C0.1 C0.2.1 dL_law_489 rfl (lv_at hl 3 rfl) ?_
  refine lv_iload_n C0.1 C0.2.1 dL_law_490 rfl (lv_at hl 0 rfl) ?_
  refine lv_iconst (v := 2) C0.1 C0.2.1 dL_law_491 (by decide) ?_
  refine lv_iadd C0.1 C0.2.1 dL_law_492 ?_
  refine sr_chi (nI_add ix 2) ?_
  refine va_sld C0.1 C0.2.1 hX hbl hbA hS (vp_in_nI (by omega) (by omega)) dL_law_493 ?_
  refine sr_chi (congrArg xs (nI_clamp (n := ix + 2) (by omega))) ?_
  refine sr_lVi (As := [.int (xs (ix + 1)), .int (xs (ix + 2))]) C0 hKM hPM sr_ZMok trivial (cc_X8_when haM (xs (ix + 1)) (xs (ix + 2)) hK_) sk_X8_when sv_X8_when sw_788 (ci := 8) rfl sr_wM0 rfl rfl hl.1 (Nat.le_of_ble_eq_true rfl) (Nat.le_of_ble_eq_true rfl) (Nat.le_of_ble_eq_true rfl) dL_law_494 ⟨Nat.le_of_ble_eq_true rfl, Nat.le_of_ble_eq_true rfl⟩ hS (fun q hq => sr_loM hloM hq) (fun v H2 locs hv hPM hS hkq => ?_)
  have hP := sr_keepC hdis hP hkq
  refine lv_icmp_eq (tgt := 1104) C0.1 C0.2.1 dL_law_497 (by decide) (fun _ => ?_) (fun z => absurd rfl z)
  exact kk _ _ _ _ _ _ _ _ ⟨hJ, hP, hPM, hS⟩ hl
