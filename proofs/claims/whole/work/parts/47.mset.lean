set_option maxRecDepth 100000 in
set_option maxHeartbeats 4000000 in
theorem cc_X8_type {l : Launch} {D : va_G} {cI : ClassId} {a : Nat → Nat} (ha : ∀ i j, i < 13 → j < 13 → a i = a j → i = j) {kp cx sg : sr_M} (b_ : Int32) (hK_ : sr_IK kp) : sr_G l D (sr_tM cI) (sr_ZM) (sr_AM a) (sr_WM cI a kp cx sg) yX8_type cX8_type 2 (some .int) 1 25 [.ref (a 0), .int b_] (S := Unit) (fun u => True) (fun u => sr_WM cI a (sk_type kp b_) cx sg) (fun u => some (.int (sp_type kp b_))) := by
  refine sr_Gie (by decide +kernel) (Nat.le_of_ble_eq_true rfl) (fun p e s m args below meth c ls Q B hret => ?_)
  obtain ⟨C0, hP, hK, hZ0, hl⟩ := B
  have hZ : sr_Zok (sr_AM a) (sr_ZM) := sr_ZMok
  have hS : va_S (sr_AM a) s.heap s.heap [] := va_S.rf
  have hl : lv_has ls 2 [(0, .ref (a 0)), (1, .int b_)] := hl
  obtain ⟨H, hH⟩ : ∃ H, H = s.heap := ⟨_, rfl⟩
  have hP : va_P D vwCl (sr_WM cI a kp cx sg) H := by rw [hH]; exact hP
  have hS : va_S (sr_AM a) s.heap H [] := by rw [hH]; exact hS
  suffices hG : ∀ locs, va_S (sr_AM a) s.heap H locs → W p l e (sr_rm 1 25) s m args below meth c H locs 0 0 Q (F0 m 0 ls []) from by have h9 := hG [] hS; rw [hH] at h9; exact h9
  clear hS
  intro locs hS
  clear hH
  refine lv_iload_n C0.1 C0.2.1 dX8_type_0 rfl (lv_at hl 1 rfl) ?_
  refine lv_i2l C0.1 C0.2.1 dX8_type_1 rfl ?_
  refine lv_lconst (v := 0) C0.1 C0.2.1 dX8_type_2 (by decide) ?_
  refine lv_ldc2 (v := 255) C0.1 C0.2.1 C0.2.2.2.1 (C0.2.2.2.2 _ sw_706) dX8_type_3 ?_
  refine sr_pSi (As := [.long ((b_).toInt64), .long 0, .long 255]) C0 hK hP hZ (sr_Zs hZ hZ0 hS) (cc_X8_inI ha (b_) (0 : Int32) (255 : Int32) rfl (by decide) (by decide)) sk_X8_in (ss_X8_in) sw_670 rfl rfl hl.1 (Nat.le_of_ble_eq_true rfl) (Nat.le_of_ble_eq_true rfl) (Nat.le_of_ble_eq_true rfl) dX8_type_6 ⟨Nat.zero_le _, Nat.zero_le _⟩ ?_
  refine sr_ifne (tgt := 15) C0 dX8_type_9 (by decide) (fun c9 => ?_) (fun c9 => ?_)
  · refine lv_aload_n C0.1 C0.2.1 dX8_type_15 rfl (lv_at hl 0 rfl) ?_
    refine sr_get (v := .int (kp 5 0)) C0 hK hP sr_inX8 sr_wM0 rfl 6 (by decide) sw_616 rfl dX8_type_16 ?_
    refine sr_chi (sr_IK_n hK_) ?_
    have := sr_IK_n40 hK_
    refine lv_bipush (v := 40) C0.1 C0.2.1 dX8_type_19 (by decide) ?_
    refine lv_icmp_ne (tgt := 27) C0.1 C0.2.1 dX8_type_21 (by decide) (fun c21 => ?_) (fun c21 => ?_)
    · have g21 : ¬ ((sr_n kp) = 40) := fun q => c21 ((nI_eq (a := (sr_n kp)) (b := 40) (by omega) (by omega)).mpr q)
      refine lv_aload_n C0.1 C0.2.1 dX8_type_27 rfl (lv_at hl 0 rfl) ?_
      refine sr_get (v := .ref (a 5)) C0 hK hP sr_inX8 sr_wM0 rfl 5 (by decide) sw_615 rfl dX8_type_28 ?_
      refine lv_aload_n C0.1 C0.2.1 dX8_type_31 rfl (lv_at hl 0 rfl) ?_
      refine sr_get (v := .int (kp 5 0)) C0 hK hP sr_inX8 sr_wM0 rfl 6 (by decide) sw_616 rfl dX8_type_32 ?_
      refine sr_chi (sr_IK_n hK_) ?_
      have := sr_IK_n40 hK_
      refine lv_iload_n C0.1 C0.2.1 dX8_type_35 rfl (lv_at hl 1 rfl) ?_
      refine sr_ast (k := (sr_n kp)) C0 hK rfl hP (sr_DM ha _ _ _) hS sr_wM5 (nI_clamp (by omega)) (vp_in_nI (by omega) (by omega)) sr_sM5 dX8_type_36 (fun H locs hP hS => ?_)
      refine lv_aload_n C0.1 C0.2.1 dX8_type_37 rfl (lv_at hl 0 rfl) ?_
      refine lv_dup C0.1 C0.2.1 dX8_type_38 rfl ?_
      refine sr_get (v := .int (kp 5 0)) C0 hK hP sr_inX8 sr_wM0 rfl 6 (by decide) sw_616 rfl dX8_type_39 ?_
      refine sr_chi (sr_IK_n hK_) ?_
      have := sr_IK_n40 hK_
      refine lv_iconst (v := 1) C0.1 C0.2.1 dX8_type_42 (by decide) ?_
      refine lv_iadd C0.1 C0.2.1 dX8_type_43 ?_
      refine sr_chi (nI_add (sr_n kp) 1) ?_
      refine sr_put C0 hK hP (sr_DM ha _ _ _) hS sr_inX8 tyX8_ok nmX8 sr_wM0 rfl 6 (by decide) sw_616 rfl (by decide +kernel) (Nat.le_of_ble_eq_true rfl) sr_fM0_6 dX8_type_44 (fun H locs hP hS => ?_)
      have hP : va_P D vwCl (sr_WM cI a (va_up (va_up kp 0 (upd (kp 0) (sr_n kp) b_)) 5 (upd (kp 5) 0 (nI ((sr_n kp) + 1)))) cx sg) H := hP
      have hP : va_P D vwCl (sr_WM cI a (sr_ty1 kp b_) cx sg) H := hP
      refine lv_aload_n C0.1 C0.2.1 dX8_type_47 rfl (lv_at hl 0 rfl) ?_
      refine sr_get (v := .int ((sr_ty1 kp b_) 5 0)) C0 hK hP sr_inX8 sr_wM0 rfl 6 (by decide) sw_616 rfl dX8_type_48 ?_
      exact hret _ _ _ () _ _ _ dX8_type_51 hP hS (by unfold sk_type sr_ty; rw [if_neg c9, if_pos (by omega)]) (by unfold sp_type; rw [if_neg c9, if_pos (by omega)]; rfl) trivial
    · have g21 : (sr_n kp) = 40 := (nI_eq (a := (sr_n kp)) (b := 40) (by omega) (by omega)).mp c21
      refine lv_bipush (v := (-4)) C0.1 C0.2.1 dX8_type_24 (by decide) ?_
      exact hret _ _ _ () _ _ _ dX8_type_26 hP hS (by unfold sk_type sr_ty; rw [if_neg c9, if_neg (by omega)]) (by unfold sp_type; rw [if_neg c9, if_neg (by omega)]) trivial
  · refine lv_bipush (v := (-2)) C0.1 C0.2.1 dX8_type_12 (by decide) ?_
    exact hret _ _ _ () _ _ _ dX8_type_14 hP hS (by unfold sk_type; rw [if_pos (Classical.not_not.mp c9)]) (by unfold sp_type; rw [if_pos (Classical.not_not.mp c9)]) trivial
set_option maxRecDepth 100000 in
set_option maxHeartbeats 4000000 in
theorem cc_X8_wipe {l : Launch} {D : va_G} {cI : ClassId} {a : Nat → Nat} (ha : ∀ i j, i < 13 → j < 13 → a i = a j → i = j) {kp cx sg : sr_M} (hK_ : sr_IK kp) : sr_G l D (sr_tM cI) (sr_ZM) (sr_AM a) (sr_WM cI a kp cx sg) yX8_wipe cX8_wipe 2 (some .int) 0 0 [.ref (a 0)] (S := Unit) (fun u => True) (fun u => sr_WM cI a (sr_ln kp 0) cx sg) (fun u => some (.int (nI (sr_n kp)))) := by
  refine sr_Gie (by decide +kernel) (Nat.le_of_ble_eq_true rfl) (fun p e s m args below meth c ls Q B hret => ?_)
  obtain ⟨C0, hP, hK, hZ0, hl⟩ := B
  have hZ : sr_Zok (sr_AM a) (sr_ZM) := sr_ZMok
  have hS : va_S (sr_AM a) s.heap s.heap [] := va_S.rf
  have hl : lv_has ls 2 [(0, .ref (a 0))] := hl
  obtain ⟨H, hH⟩ : ∃ H, H = s.heap := ⟨_, rfl⟩
  have hP : va_P D vwCl (sr_WM cI a kp cx sg) H := by rw [hH]; exact hP
  have hS : va_S (sr_AM a) s.heap H [] := by rw [hH]; exact hS
  suffices hG : ∀ locs, va_S (sr_AM a) s.heap H locs → W p l e (sr_rm 0 0) s m args below meth c H locs 0 0 Q (F0 m 0 ls []) from by have h9 := hG [] hS; rw [hH] at h9; exact h9
  clear hS
  intro locs hS
  clear hH
  refine lv_aload_n C0.1 C0.2.1 dX8_wipe_0 rfl (lv_at hl 0 rfl) ?_
  refine sr_get (v := .int (kp 5 0)) C0 hK hP sr_inX8 sr_wM0 rfl 6 (by decide) sw_616 rfl dX8_wipe_1 ?_
  refine sr_chi (sr_IK_n hK_) ?_
  have := sr_IK_n40 hK_
  refine lv_istore_n (lv' := [(1, .int (nI (sr_n kp))), (0, .ref (a 0))]) C0.1 C0.2.1 dX8_wipe_4 rfl hl (by decide) rfl (fun ls hl => ?_)
  refine lv_aload_n C0.1 C0.2.1 dX8_wipe_5 rfl (lv_at hl 1 rfl) ?_
  refine lv_iconst (v := 0) C0.1 C0.2.1 dX8_wipe_6 (by decide) ?_
  refine sr_put C0 hK hP (sr_DM ha _ _ _) hS sr_inX8 tyX8_ok nmX8 sr_wM0 rfl 6 (by decide) sw_616 rfl (by decide +kernel) (Nat.le_of_ble_eq_true rfl) sr_fM0_6 dX8_wipe_7 (fun H locs hP hS => ?_)
  refine lv_iload_n C0.1 C0.2.1 dX8_wipe_10 rfl (lv_at hl 0 rfl) ?_
  exact hret _ _ _ () _ _ _ dX8_wipe_11 hP hS rfl rfl trivial
set_option maxRecDepth 100000 in
set_option maxHeartbeats 4000000 in
theorem cc_X8_undo {l : Launch} {D : va_G} {cI : ClassId} {a : Nat → Nat} (ha : ∀ i j, i < 13 → j < 13 → a i = a j → i = j) {kp cx sg : sr_M} (hK_ : sr_IK kp) : sr_G l D (sr_tM cI) (sr_ZM) (sr_AM a) (sr_WM cI a kp cx sg) yX8_undo cX8_undo 1 (some .int) 0 0 [.ref (a 0)] (S := Unit) (fun u => True) (fun u => sr_WM cI a (sr_ln kp (sr_n kp - 1)) cx sg) (fun u => some (.int (sp_undo kp))) := by
  refine sr_Gie (by decide +kernel) (Nat.le_of_ble_eq_true rfl) (fun p e s m args below meth c ls Q B hret => ?_)
  obtain ⟨C0, hP, hK, hZ0, hl⟩ := B
  have hZ : sr_Zok (sr_AM a) (sr_ZM) := sr_ZMok
  have hS : va_S (sr_AM a) s.heap s.heap [] := va_S.rf
  have hl : lv_has ls 1 [(0, .ref (a 0))] := hl
  obtain ⟨H, hH⟩ : ∃ H, H = s.heap := ⟨_, rfl⟩
  have hP : va_P D vwCl (sr_WM cI a kp cx sg) H := by rw [hH]; exact hP
  have hS : va_S (sr_AM a) s.heap H [] := by rw [hH]; exact hS
  suffices hG : ∀ locs, va_S (sr_AM a) s.heap H locs → W p l e (sr_rm 0 0) s m args below meth c H locs 0 0 Q (F0 m 0 ls []) from by have h9 := hG [] hS; rw [hH] at h9; exact h9
  clear hS
  intro locs hS
  clear hH
  refine lv_aload_n C0.1 C0.2.1 dX8_undo_0 rfl (lv_at hl 0 rfl) ?_
  refine sr_get (v := .int (kp 5 0)) C0 hK hP sr_inX8 sr_wM0 rfl 6 (by decide) sw_616 rfl dX8_undo_1 ?_
  refine sr_chi (sr_IK_n hK_) ?_
  have := sr_IK_n40 hK_
  refine lv_if_ne (tgt := 10) C0.1 C0.2.1 dX8_undo_4 (by decide) (fun c4 => ?_) (fun c4 => ?_)
  · have g4 : ¬ ((sr_n kp) = 0) := fun q => c4 ((nI_eq (a := (sr_n kp)) (b := 0) (by omega) (by omega)).mpr q)
    refine lv_aload_n C0.1 C0.2.1 dX8_undo_10 rfl (lv_at hl 0 rfl) ?_
    refine lv_dup C0.1 C0.2.1 dX8_undo_11 rfl ?_
    refine sr_get (v := .int (kp 5 0)) C0 hK hP sr_inX8 sr_wM0 rfl 6 (by decide) sw_616 rfl dX8_undo_12 ?_
    refine sr_chi (sr_IK_n hK_) ?_
    have := sr_IK_n40 hK_
    refine lv_iconst (v := 1) C0.1 C0.2.1 dX8_undo_15 (by decide) ?_
    refine lv_isub C0.1 C0.2.1 dX8_undo_16 ?_
    refine sr_chi (pk_sub (a := (sr_n kp)) (b := 1) (by omega)) ?_
    refine sr_put C0 hK hP (sr_DM ha _ _ _) hS sr_inX8 tyX8_ok nmX8 sr_wM0 rfl 6 (by decide) sw_616 rfl (by decide +kernel) (Nat.le_of_ble_eq_true rfl) sr_fM0_6 dX8_undo_17 (fun H locs hP hS => ?_)
    refine lv_aload_n C0.1 C0.2.1 dX8_undo_20 rfl (lv_at hl 0 rfl) ?_
    refine sr_get (v := .int (nI ((sr_n kp) - 1))) C0 hK hP sr_inX8 sr_wM0 rfl 6 (by decide) sw_616 rfl dX8_undo_21 ?_
    exact hret _ _ _ () _ _ _ dX8_undo_24 hP hS rfl (by unfold sp_undo; rw [if_pos (by omega)]) trivial
  · have g4 : (sr_n kp) = 0 := (nI_eq (a := (sr_n kp)) (b := 0) (by omega) (by omega)).mp c4
    refine lv_bipush (v := (-3)) C0.1 C0.2.1 dX8_undo_7 (by decide) ?_
    exact hret _ _ _ () _ _ _ dX8_undo_9 hP hS (by rw [sr_ln_0 hK_ (by omega)]) (by unfold sp_undo; rw [if_neg (by omega)]) trivial
set_option maxRecDepth 100000 in
set_option maxHeartbeats 4000000 in
theorem cc_X8_runs {l : Launch} {D : va_G} {cI : ClassId} {a : Nat → Nat} (ha : ∀ i j, i < 13 → j < 13 → a i = a j → i = j) {kp cx sg : sr_M} (s_ : Int32) (r_ : Int32) : sr_G l D (sr_tM cI) (sr_ZM) (sr_AM a) (sr_WM cI a kp cx sg) yX8_runs cX8_runs 4 (some .int) 2 45 [.ref (a 0), .int s_, .int r_] (S := Unit) (fun u => True) (fun u => sr_WM cI a (sk_runs kp s_ r_) cx sg) (fun u => some (.int (sp_runs kp s_ r_))) := by
  refine sr_Gie (by decide +kernel) (Nat.le_of_ble_eq_true rfl) (fun p e s m args below meth c ls Q B hret => ?_)
  obtain ⟨C0, hP, hK, hZ0, hl⟩ := B
  have hZ : sr_Zok (sr_AM a) (sr_ZM) := sr_ZMok
  have hS : va_S (sr_AM a) s.heap s.heap [] := va_S.rf
  have hl : lv_has ls 4 [(0, .ref (a 0)), (1, .int s_), (2, .int r_)] := hl
  obtain ⟨H, hH⟩ : ∃ H, H = s.heap := ⟨_, rfl⟩
  have hP : va_P D vwCl (sr_WM cI a kp cx sg) H := by rw [hH]; exact hP
  have hS : va_S (sr_AM a) s.heap H [] := by rw [hH]; exact hS
  suffices hG : ∀ locs, va_S (sr_AM a) s.heap H locs → W p l e (sr_rm 2 45) s m args below meth c H locs 0 0 Q (F0 m 0 ls []) from by have h9 := hG [] hS; rw [hH] at h9; exact h9
  clear hS
  intro locs hS
  clear hH
  refine lv_iload_n C0.1 C0.2.1 dX8_runs_0 rfl (lv_at hl 1 rfl) ?_
  refine sr_pSi (As := [.int s_]) C0 hK hP hZ (sr_Zs hZ hZ0 hS) (cc_X8_isStretch ha s_) sk_X8_isStretch (ss_X8_isStretch) sw_744 rfl rfl hl.1 (Nat.le_of_ble_eq_true rfl) (Nat.le_of_ble_eq_true rfl) (Nat.le_of_ble_eq_true rfl) dX8_runs_1 ⟨Nat.zero_le _, Nat.zero_le _⟩ ?_
  refine sr_ifeq (tgt := 19) C0 dX8_runs_4 (by decide) (fun c4 => ?_) (fun c4 => ?_)
  · refine lv_bipush (v := (-2)) C0.1 C0.2.1 dX8_runs_19 (by decide) ?_
    exact hret _ _ _ () _ _ _ dX8_runs_21 hP hS (by unfold sk_runs; rw [if_pos (Classical.not_not.mp c4)]) (by unfold sp_runs; rw [if_pos (Classical.not_not.mp c4)]) trivial
  · obtain ⟨js, hjs, rfl⟩ := sr_rg3 c4
    refine lv_iload_n C0.1 C0.2.1 dX8_runs_7 rfl (lv_at hl 2 rfl) ?_
    refine lv_i2l C0.1 C0.2.1 dX8_runs_8 rfl ?_
    refine lv_lconst (v := 0) C0.1 C0.2.1 dX8_runs_9 (by decide) ?_
    refine lv_ldc2 (v := 4) C0.1 C0.2.1 C0.2.2.2.1 (C0.2.2.2.2 _ sw_747) dX8_runs_10 ?_
    refine sr_pSi (As := [.long ((r_).toInt64), .long 0, .long 4]) C0 hK hP hZ (sr_Zs hZ hZ0 hS) (cc_X8_inI ha (r_) (0 : Int32) (4 : Int32) rfl (by decide) (by decide)) sk_X8_in (ss_X8_in) sw_670 rfl rfl hl.1 (Nat.le_of_ble_eq_true rfl) (Nat.le_of_ble_eq_true rfl) (Nat.le_of_ble_eq_true rfl) dX8_runs_13 ⟨Nat.zero_le _, Nat.zero_le _⟩ ?_
    refine sr_ifne (tgt := 22) C0 dX8_runs_16 (by decide) (fun c16 => ?_) (fun c16 => ?_)
    · refine lv_aload_n C0.1 C0.2.1 dX8_runs_22 rfl (lv_at hl 0 rfl) ?_
      refine sr_get (v := .ref (a 7)) C0 hK hP sr_inX8 sr_wM0 rfl 10 (by decide) sw_620 rfl dX8_runs_23 ?_
      refine lv_iload_n C0.1 C0.2.1 dX8_runs_26 rfl (lv_at hl 1 rfl) ?_
      refine sr_ald (k := js) C0 hK rfl hP sr_wM7 (nI_clamp (by omega)) (vp_in_nI (by omega) (by omega)) dX8_runs_27 ?_
      refine lv_istore_n (lv' := [(3, .int (kp 1 js)), (0, .ref (a 0)), (1, .int (nI js)), (2, .int r_)]) C0.1 C0.2.1 dX8_runs_28 rfl hl (by decide) rfl (fun ls hl => ?_)
      refine lv_aload_n C0.1 C0.2.1 dX8_runs_29 rfl (lv_at hl 1 rfl) ?_
      refine sr_get (v := .ref (a 7)) C0 hK hP sr_inX8 sr_wM0 rfl 10 (by decide) sw_620 rfl dX8_runs_30 ?_
      refine lv_iload_n C0.1 C0.2.1 dX8_runs_33 rfl (lv_at hl 2 rfl) ?_
      refine lv_iload_n C0.1 C0.2.1 dX8_runs_34 rfl (lv_at hl 3 rfl) ?_
      refine sr_ast (k := js) C0 hK rfl hP (sr_DM ha _ _ _) hS sr_wM7 (nI_clamp (by omega)) (vp_in_nI (by omega) (by omega)) sr_sM7 dX8_runs_35 (fun H locs hP hS => ?_)
      refine lv_iload_n C0.1 C0.2.1 dX8_runs_36 rfl (lv_at hl 0 rfl) ?_
      exact hret _ _ _ () _ _ _ dX8_runs_37 hP hS (by unfold sk_runs; (try rw [nI_clamp (n := js) (by omega)]); rw [if_neg c4, if_neg c16]) (by unfold sp_runs; (try rw [nI_clamp (n := js) (by omega)]); rw [if_neg c4, if_neg c16]) trivial
    · refine lv_bipush (v := (-2)) C0.1 C0.2.1 dX8_runs_19 (by decide) ?_
      exact hret _ _ _ () _ _ _ dX8_runs_21 hP hS (by unfold sk_runs; (try rw [nI_clamp (n := js) (by omega)]); rw [if_neg c4, if_pos (Classical.not_not.mp c16)]) (by unfold sp_runs; (try rw [nI_clamp (n := js) (by omega)]); rw [if_neg c4, if_pos (Classical.not_not.mp c16)]) trivial
set_option maxRecDepth 100000 in
set_option maxHeartbeats 4000000 in
theorem cc_X8_mark {l : Launch} {D : va_G} {cI : ClassId} {a : Nat → Nat} (ha : ∀ i j, i < 13 → j < 13 → a i = a j → i = j) {kp cx sg : sr_M} (c_ : Int32) (v_ : Int32) : sr_G l D (sr_tM cI) (sr_ZM) (sr_AM a) (sr_WM cI a kp cx sg) yX8_mark cX8_mark 4 (some .int) 2 45 [.ref (a 0), .int c_, .int v_] (S := Unit) (fun u => True) (fun u => sr_WM cI a (sk_mark kp c_ v_) cx sg) (fun u => some (.int (sp_mark kp c_ v_))) := by
  refine sr_Gie (by decide +kernel) (Nat.le_of_ble_eq_true rfl) (fun p e s m args below meth c ls Q B hret => ?_)
  obtain ⟨C0, hP, hK, hZ0, hl⟩ := B
  have hZ : sr_Zok (sr_AM a) (sr_ZM) := sr_ZMok
  have hS : va_S (sr_AM a) s.heap s.heap [] := va_S.rf
  have hl : lv_has ls 4 [(0, .ref (a 0)), (1, .int c_), (2, .int v_)] := hl
  obtain ⟨H, hH⟩ : ∃ H, H = s.heap := ⟨_, rfl⟩
  have hP : va_P D vwCl (sr_WM cI a kp cx sg) H := by rw [hH]; exact hP
  have hS : va_S (sr_AM a) s.heap H [] := by rw [hH]; exact hS
  suffices hG : ∀ locs, va_S (sr_AM a) s.heap H locs → W p l e (sr_rm 2 45) s m args below meth c H locs 0 0 Q (F0 m 0 ls []) from by have h9 := hG [] hS; rw [hH] at h9; exact h9
  clear hS
  intro locs hS
  clear hH
  refine lv_iload_n C0.1 C0.2.1 dX8_mark_0 rfl (lv_at hl 1 rfl) ?_
  refine sr_pSi (As := [.int c_]) C0 hK hP hZ (sr_Zs hZ hZ0 hS) (cc_X8_isChange ha c_) sk_X8_isChange (ss_X8_isChange) sw_761 rfl rfl hl.1 (Nat.le_of_ble_eq_true rfl) (Nat.le_of_ble_eq_true rfl) (Nat.le_of_ble_eq_true rfl) dX8_mark_1 ⟨Nat.zero_le _, Nat.zero_le _⟩ ?_
  refine sr_ifeq (tgt := 19) C0 dX8_mark_4 (by decide) (fun c4 => ?_) (fun c4 => ?_)
  · refine lv_bipush (v := (-2)) C0.1 C0.2.1 dX8_mark_19 (by decide) ?_
    exact hret _ _ _ () _ _ _ dX8_mark_21 hP hS (by unfold sk_mark; rw [if_pos (Classical.not_not.mp c4)]) (by unfold sp_mark; rw [if_pos (Classical.not_not.mp c4)]) trivial
  · obtain ⟨jc, hjc, rfl⟩ := sr_rg2 c4
    refine lv_iload_n C0.1 C0.2.1 dX8_mark_7 rfl (lv_at hl 2 rfl) ?_
    refine lv_i2l C0.1 C0.2.1 dX8_mark_8 rfl ?_
    refine lv_lconst (v := 0) C0.1 C0.2.1 dX8_mark_9 (by decide) ?_
    refine lv_ldc2 (v := 40) C0.1 C0.2.1 C0.2.2.2.1 (C0.2.2.2.2 _ sw_764) dX8_mark_10 ?_
    refine sr_pSi (As := [.long ((v_).toInt64), .long 0, .long 40]) C0 hK hP hZ (sr_Zs hZ hZ0 hS) (cc_X8_inI ha (v_) (0 : Int32) (40 : Int32) rfl (by decide) (by decide)) sk_X8_in (ss_X8_in) sw_670 rfl rfl hl.1 (Nat.le_of_ble_eq_true rfl) (Nat.le_of_ble_eq_true rfl) (Nat.le_of_ble_eq_true rfl) dX8_mark_13 ⟨Nat.zero_le _, Nat.zero_le _⟩ ?_
    refine sr_ifne (tgt := 22) C0 dX8_mark_16 (by decide) (fun c16 => ?_) (fun c16 => ?_)
    · refine lv_aload_n C0.1 C0.2.1 dX8_mark_22 rfl (lv_at hl 0 rfl) ?_
      refine sr_get (v := .ref (a 9)) C0 hK hP sr_inX8 sr_wM0 rfl 12 (by decide) sw_622 rfl dX8_mark_23 ?_
      refine lv_iload_n C0.1 C0.2.1 dX8_mark_26 rfl (lv_at hl 1 rfl) ?_
      refine sr_ald (k := jc) C0 hK rfl hP sr_wM9 (nI_clamp (by omega)) (vp_in_nI (by omega) (by omega)) dX8_mark_27 ?_
      refine lv_istore_n (lv' := [(3, .int (kp 3 jc)), (0, .ref (a 0)), (1, .int (nI jc)), (2, .int v_)]) C0.1 C0.2.1 dX8_mark_28 rfl hl (by decide) rfl (fun ls hl => ?_)
      refine lv_aload_n C0.1 C0.2.1 dX8_mark_29 rfl (lv_at hl 1 rfl) ?_
      refine sr_get (v := .ref (a 9)) C0 hK hP sr_inX8 sr_wM0 rfl 12 (by decide) sw_622 rfl dX8_mark_30 ?_
      refine lv_iload_n C0.1 C0.2.1 dX8_mark_33 rfl (lv_at hl 2 rfl) ?_
      refine lv_iload_n C0.1 C0.2.1 dX8_mark_34 rfl (lv_at hl 3 rfl) ?_
      refine sr_ast (k := jc) C0 hK rfl hP (sr_DM ha _ _ _) hS sr_wM9 (nI_clamp (by omega)) (vp_in_nI (by omega) (by omega)) sr_sM9 dX8_mark_35 (fun H locs hP hS => ?_)
      refine lv_iload_n C0.1 C0.2.1 dX8_mark_36 rfl (lv_at hl 0 rfl) ?_
      exact hret _ _ _ () _ _ _ dX8_mark_37 hP hS (by unfold sk_mark; (try rw [nI_clamp (n := jc) (by omega)]); rw [if_neg c4, if_neg c16]) (by unfold sp_mark; (try rw [nI_clamp (n := jc) (by omega)]); rw [if_neg c4, if_neg c16]) trivial
    · refine lv_bipush (v := (-2)) C0.1 C0.2.1 dX8_mark_19 (by decide) ?_
      exact hret _ _ _ () _ _ _ dX8_mark_21 hP hS (by unfold sk_mark; (try rw [nI_clamp (n := jc) (by omega)]); rw [if_neg c4, if_pos (Classical.not_not.mp c16)]) (by unfold sp_mark; (try rw [nI_clamp (n := jc) (by omega)]); rw [if_neg c4, if_pos (Classical.not_not.mp c16)]) trivial
set_option maxRecDepth 100000 in
set_option maxHeartbeats 4000000 in
theorem cc_X8_slip {l : Launch} {D : va_G} {cI : ClassId} {a : Nat → Nat} (ha : ∀ i j, i < 13 → j < 13 → a i = a j → i = j) {kp cx sg : sr_M} (c_ : Int32) (v_ : Int32) : sr_G l D (sr_tM cI) (sr_ZM) (sr_AM a) (sr_WM cI a kp cx sg) yX8_slip cX8_slip 4 (some .int) 2 45 [.ref (a 0), .int c_, .int v_] (S := Unit) (fun u => True) (fun u => sr_WM cI a (sk_slip kp c_ v_) cx sg) (fun u => some (.int (sp_slip kp c_ v_))) := by
  refine sr_Gie (by decide +kernel) (Nat.le_of_ble_eq_true rfl) (fun p e s m args below meth c ls Q B hret => ?_)
  obtain ⟨C0, hP, hK, hZ0, hl⟩ := B
  have hZ : sr_Zok (sr_AM a) (sr_ZM) := sr_ZMok
  have hS : va_S (sr_AM a) s.heap s.heap [] := va_S.rf
  have hl : lv_has ls 4 [(0, .ref (a 0)), (1, .int c_), (2, .int v_)] := hl
  obtain ⟨H, hH⟩ : ∃ H, H = s.heap := ⟨_, rfl⟩
  have hP : va_P D vwCl (sr_WM cI a kp cx sg) H := by rw [hH]; exact hP
  have hS : va_S (sr_AM a) s.heap H [] := by rw [hH]; exact hS
  suffices hG : ∀ locs, va_S (sr_AM a) s.heap H locs → W p l e (sr_rm 2 45) s m args below meth c H locs 0 0 Q (F0 m 0 ls []) from by have h9 := hG [] hS; rw [hH] at h9; exact h9
  clear hS
  intro locs hS
  clear hH
  refine lv_iload_n C0.1 C0.2.1 dX8_slip_0 rfl (lv_at hl 1 rfl) ?_
  refine sr_pSi (As := [.int c_]) C0 hK hP hZ (sr_Zs hZ hZ0 hS) (cc_X8_isChange ha c_) sk_X8_isChange (ss_X8_isChange) sw_761 rfl rfl hl.1 (Nat.le_of_ble_eq_true rfl) (Nat.le_of_ble_eq_true rfl) (Nat.le_of_ble_eq_true rfl) dX8_slip_1 ⟨Nat.zero_le _, Nat.zero_le _⟩ ?_
  refine sr_ifeq (tgt := 21) C0 dX8_slip_4 (by decide) (fun c4 => ?_) (fun c4 => ?_)
  · refine lv_sipush (v := (-1002)) C0.1 C0.2.1 dX8_slip_21 (by decide) ?_
    exact hret _ _ _ () _ _ _ dX8_slip_24 hP hS (by unfold sk_slip; rw [if_pos (Classical.not_not.mp c4)]) (by unfold sp_slip; rw [if_pos (Classical.not_not.mp c4)]) trivial
  · obtain ⟨jc, hjc, rfl⟩ := sr_rg2 c4
    refine lv_iload_n C0.1 C0.2.1 dX8_slip_7 rfl (lv_at hl 2 rfl) ?_
    refine lv_i2l C0.1 C0.2.1 dX8_slip_8 rfl ?_
    refine lv_ldc2 (v := (-60)) C0.1 C0.2.1 C0.2.2.2.1 (C0.2.2.2.2 _ sw_769) dX8_slip_9 ?_
    refine lv_ldc2 (v := 60) C0.1 C0.2.1 C0.2.2.2.1 (C0.2.2.2.2 _ sw_770) dX8_slip_12 ?_
    refine sr_pSi (As := [.long ((v_).toInt64), .long (-60), .long 60]) C0 hK hP hZ (sr_Zs hZ hZ0 hS) (cc_X8_inI ha (v_) ((-60) : Int32) (60 : Int32) rfl (by decide) (by decide)) sk_X8_in (ss_X8_in) sw_670 rfl rfl hl.1 (Nat.le_of_ble_eq_true rfl) (Nat.le_of_ble_eq_true rfl) (Nat.le_of_ble_eq_true rfl) dX8_slip_15 ⟨Nat.zero_le _, Nat.zero_le _⟩ ?_
    refine sr_ifne (tgt := 25) C0 dX8_slip_18 (by decide) (fun c18 => ?_) (fun c18 => ?_)
    · refine lv_aload_n C0.1 C0.2.1 dX8_slip_25 rfl (lv_at hl 0 rfl) ?_
      refine sr_get (v := .ref (a 10)) C0 hK hP sr_inX8 sr_wM0 rfl 13 (by decide) sw_623 rfl dX8_slip_26 ?_
      refine lv_iload_n C0.1 C0.2.1 dX8_slip_29 rfl (lv_at hl 1 rfl) ?_
      refine sr_ald (k := jc) C0 hK rfl hP sr_wM10 (nI_clamp (by omega)) (vp_in_nI (by omega) (by omega)) dX8_slip_30 ?_
      refine lv_istore_n (lv' := [(3, .int (kp 4 jc)), (0, .ref (a 0)), (1, .int (nI jc)), (2, .int v_)]) C0.1 C0.2.1 dX8_slip_31 rfl hl (by decide) rfl (fun ls hl => ?_)
      refine lv_aload_n C0.1 C0.2.1 dX8_slip_32 rfl (lv_at hl 1 rfl) ?_
      refine sr_get (v := .ref (a 10)) C0 hK hP sr_inX8 sr_wM0 rfl 13 (by decide) sw_623 rfl dX8_slip_33 ?_
      refine lv_iload_n C0.1 C0.2.1 dX8_slip_36 rfl (lv_at hl 2 rfl) ?_
      refine lv_iload_n C0.1 C0.2.1 dX8_slip_37 rfl (lv_at hl 3 rfl) ?_
      refine sr_ast (k := jc) C0 hK rfl hP (sr_DM ha _ _ _) hS sr_wM10 (nI_clamp (by omega)) (vp_in_nI (by omega) (by omega)) sr_sM10 dX8_slip_38 (fun H locs hP hS => ?_)
      refine lv_iload_n C0.1 C0.2.1 dX8_slip_39 rfl (lv_at hl 0 rfl) ?_
      exact hret _ _ _ () _ _ _ dX8_slip_40 hP hS (by unfold sk_slip; (try rw [nI_clamp (n := jc) (by omega)]); rw [if_neg c4, if_neg c18]) (by unfold sp_slip; (try rw [nI_clamp (n := jc) (by omega)]); rw [if_neg c4, if_neg c18]) trivial
    · refine lv_sipush (v := (-1002)) C0.1 C0.2.1 dX8_slip_21 (by decide) ?_
      exact hret _ _ _ () _ _ _ dX8_slip_24 hP hS (by unfold sk_slip; (try rw [nI_clamp (n := jc) (by omega)]); rw [if_neg c4, if_pos (Classical.not_not.mp c18)]) (by unfold sp_slip; (try rw [nI_clamp (n := jc) (by omega)]); rw [if_neg c4, if_pos (Classical.not_not.mp c18)]) trivial
set_option maxRecDepth 100000 in
set_option maxHeartbeats 4000000 in
theorem cc_X8_most {l : Launch} {D : va_G} {cI : ClassId} {a : Nat → Nat} (ha : ∀ i j, i < 13 → j < 13 → a i = a j → i = j) {kp cx sg : sr_M} (w_ : Int32) : sr_P l D (sr_tM cI) (sr_ZM) (sr_WM cI a kp cx sg) yX8_most cX8_most 1 (some .int) 0 0 [.int w_] (some (.int (sr_mo2 w_))) := by
  refine sr_Pie (by decide +kernel) (Nat.le_of_ble_eq_true rfl) (fun p e s m args below meth c ls Q B hret => ?_)
  obtain ⟨C0, hP, hK, hZ0, hl⟩ := B
  have hZ : sr_Zok (sr_AM a) (sr_ZM) := sr_ZMok
  have hS : va_S (sr_AM a) s.heap s.heap [] := va_S.rf
  have hl : lv_has ls 1 [(0, .int w_)] := hl
  refine lv_iload_n C0.1 C0.2.1 dX8_most_0 rfl (lv_at hl 0 rfl) ?_
  refine lv_if_eq (tgt := 10) C0.1 C0.2.1 dX8_most_1 (by decide) (fun c1 => ?_) (fun c1 => ?_)
  · refine lv_bipush (v := 30) C0.1 C0.2.1 dX8_most_10 (by decide) ?_
    refine lv_goto (tgt := 41) C0.1 C0.2.1 dX8_most_12 (by decide) ?_
    exact hret _ _ _ dX8_most_41 (by unfold sr_mo2; rw [if_pos c1])
  · refine lv_iload_n C0.1 C0.2.1 dX8_most_4 rfl (lv_at hl 0 rfl) ?_
    refine lv_bipush (v := 6) C0.1 C0.2.1 dX8_most_5 (by decide) ?_
    refine lv_icmp_ne (tgt := 15) C0.1 C0.2.1 dX8_most_7 (by decide) (fun c7 => ?_) (fun c7 => ?_)
    · refine lv_iload_n C0.1 C0.2.1 dX8_most_15 rfl (lv_at hl 0 rfl) ?_
      refine lv_iconst (v := 1) C0.1 C0.2.1 dX8_most_16 (by decide) ?_
      refine lv_icmp_ne (tgt := 24) C0.1 C0.2.1 dX8_most_17 (by decide) (fun c17 => ?_) (fun c17 => ?_)
      · refine lv_iload_n C0.1 C0.2.1 dX8_most_24 rfl (lv_at hl 0 rfl) ?_
        refine lv_iconst (v := 3) C0.1 C0.2.1 dX8_most_25 (by decide) ?_
        refine lv_icmp_eq (tgt := 34) C0.1 C0.2.1 dX8_most_26 (by decide) (fun c26 => ?_) (fun c26 => ?_)
        · refine lv_bipush (v := 9) C0.1 C0.2.1 dX8_most_34 (by decide) ?_
          refine lv_goto (tgt := 41) C0.1 C0.2.1 dX8_most_36 (by decide) ?_
          exact hret _ _ _ dX8_most_41 (by unfold sr_mo2; rw [if_neg c1, if_neg c7, if_neg c17, if_pos c26])
        · refine lv_iload_n C0.1 C0.2.1 dX8_most_29 rfl (lv_at hl 0 rfl) ?_
          refine lv_iconst (v := 4) C0.1 C0.2.1 dX8_most_30 (by decide) ?_
          refine lv_icmp_ne (tgt := 39) C0.1 C0.2.1 dX8_most_31 (by decide) (fun c31 => ?_) (fun c31 => ?_)
          · refine lv_bipush (v := 99) C0.1 C0.2.1 dX8_most_39 (by decide) ?_
            exact hret _ _ _ dX8_most_41 (by unfold sr_mo2; rw [if_neg c1, if_neg c7, if_neg c17, if_neg c26, if_neg c31])
          · refine lv_bipush (v := 9) C0.1 C0.2.1 dX8_most_34 (by decide) ?_
            refine lv_goto (tgt := 41) C0.1 C0.2.1 dX8_most_36 (by decide) ?_
            exact hret _ _ _ dX8_most_41 (by unfold sr_mo2; rw [if_neg c1, if_neg c7, if_neg c17, if_neg c26, if_pos c31])
      · refine lv_iconst (v := 5) C0.1 C0.2.1 dX8_most_20 (by decide) ?_
        refine lv_goto (tgt := 41) C0.1 C0.2.1 dX8_most_21 (by decide) ?_
        exact hret _ _ _ dX8_most_41 (by unfold sr_mo2; rw [if_neg c1, if_neg c7, if_pos c17])
    · refine lv_bipush (v := 30) C0.1 C0.2.1 dX8_most_10 (by decide) ?_
      refine lv_goto (tgt := 41) C0.1 C0.2.1 dX8_most_12 (by decide) ?_
      exact hret _ _ _ dX8_most_41 (by unfold sr_mo2; rw [if_neg c1, if_pos c7])
set_option maxRecDepth 100000 in
set_option maxHeartbeats 4000000 in
theorem cc_X8_set {l : Launch} {D : va_G} {cI : ClassId} {a : Nat → Nat} (ha : ∀ i j, i < 13 → j < 13 → a i = a j → i = j) {kp cx sg : sr_M} (w_ : Int32) (v_ : Int32) : sr_G l D (sr_tM cI) (sr_ZM) (sr_AM a) (sr_WM cI a kp cx sg) yX8_set cX8_set 4 (some .int) 1 25 [.ref (a 0), .int w_, .int v_] (S := Unit) (fun u => True) (fun u => sr_WM cI a (sk_set kp w_ v_) cx sg) (fun u => some (.int (sp_set kp w_ v_))) := by
  refine sr_Gie (by decide +kernel) (Nat.le_of_ble_eq_true rfl) (fun p e s m args below meth c ls Q B hret => ?_)
  obtain ⟨C0, hP, hK, hZ0, hl⟩ := B
  have hZ : sr_Zok (sr_AM a) (sr_ZM) := sr_ZMok
  have hS : va_S (sr_AM a) s.heap s.heap [] := va_S.rf
  have hl : lv_has ls 4 [(0, .ref (a 0)), (1, .int w_), (2, .int v_)] := hl
  obtain ⟨H, hH⟩ : ∃ H, H = s.heap := ⟨_, rfl⟩
  have hP : va_P D vwCl (sr_WM cI a kp cx sg) H := by rw [hH]; exact hP
  have hS : va_S (sr_AM a) s.heap H [] := by rw [hH]; exact hS
  suffices hG : ∀ locs, va_S (sr_AM a) s.heap H locs → W p l e (sr_rm 1 25) s m args below meth c H locs 0 0 Q (F0 m 0 ls []) from by have h9 := hG [] hS; rw [hH] at h9; exact h9
  clear hS
  intro locs hS
  clear hH
  refine lv_iload_n C0.1 C0.2.1 dX8_set_0 rfl (lv_at hl 1 rfl) ?_
  refine lv_i2l C0.1 C0.2.1 dX8_set_1 rfl ?_
  refine lv_lconst (v := 0) C0.1 C0.2.1 dX8_set_2 (by decide) ?_
  refine lv_ldc2 (v := 6) C0.1 C0.2.1 C0.2.2.2.1 (C0.2.2.2.2 _ sw_752) dX8_set_3 ?_
  refine sr_pSi (As := [.long ((w_).toInt64), .long 0, .long 6]) C0 hK hP hZ (sr_Zs hZ hZ0 hS) (cc_X8_inI ha (w_) (0 : Int32) (6 : Int32) rfl (by decide) (by decide)) sk_X8_in (ss_X8_in) sw_670 rfl rfl hl.1 (Nat.le_of_ble_eq_true rfl) (Nat.le_of_ble_eq_true rfl) (Nat.le_of_ble_eq_true rfl) dX8_set_6 ⟨Nat.zero_le _, Nat.zero_le _⟩ ?_
  refine sr_ifeq (tgt := 36) C0 dX8_set_9 (by decide) (fun c9 => ?_) (fun c9 => ?_)
  · refine lv_bipush (v := (-2)) C0.1 C0.2.1 dX8_set_36 (by decide) ?_
    exact hret _ _ _ () _ _ _ dX8_set_38 hP hS (by unfold sk_set; rw [if_pos (Classical.not_not.mp c9)]) (by unfold sp_set; rw [if_pos (Classical.not_not.mp c9)]) trivial
  · obtain ⟨jw, hjw, rfl⟩ := sr_rg6 c9
    refine lv_iload_n C0.1 C0.2.1 dX8_set_12 rfl (lv_at hl 2 rfl) ?_
    refine lv_i2l C0.1 C0.2.1 dX8_set_13 rfl ?_
    refine lv_iload_n C0.1 C0.2.1 dX8_set_14 rfl (lv_at hl 1 rfl) ?_
    refine lv_if_ne (tgt := 24) C0.1 C0.2.1 dX8_set_15 (by decide) (fun c15 => ?_) (fun c15 => ?_)
    · have g15 : ¬ (jw = 0) := fun q => c15 ((nI_eq (a := jw) (b := 0) (by omega) (by omega)).mpr q)
      refine lv_lconst (v := 0) C0.1 C0.2.1 dX8_set_24 (by decide) ?_
      refine lv_iload_n C0.1 C0.2.1 dX8_set_25 rfl (lv_at hl 1 rfl) ?_
      refine sr_pSi (As := [.int (nI jw)]) C0 hK hP hZ (sr_Zs hZ hZ0 hS) (cc_X8_most ha (nI jw)) sk_X8_most (ss_X8_most) sw_754 rfl rfl hl.1 (Nat.le_of_ble_eq_true rfl) (Nat.le_of_ble_eq_true rfl) (Nat.le_of_ble_eq_true rfl) dX8_set_26 ⟨Nat.zero_le _, Nat.zero_le _⟩ ?_
      refine lv_i2l C0.1 C0.2.1 dX8_set_29 rfl ?_
      refine sr_pSi (As := [.long ((v_).toInt64), .long 0, .long ((sr_mo2 (nI jw)).toInt64)]) C0 hK hP hZ (sr_Zs hZ hZ0 hS) (cc_X8_inI ha (v_) (0 : Int32) (sr_mo2 (nI jw)) rfl (by decide) rfl) sk_X8_in (ss_X8_in) sw_670 rfl rfl hl.1 (Nat.le_of_ble_eq_true rfl) (Nat.le_of_ble_eq_true rfl) (Nat.le_of_ble_eq_true rfl) dX8_set_30 ⟨Nat.zero_le _, Nat.zero_le _⟩ ?_
      refine sr_ifne (tgt := 39) C0 dX8_set_33 (by decide) (fun c33 => ?_) (fun c33 => ?_)
      · refine lv_aload_n C0.1 C0.2.1 dX8_set_39 rfl (lv_at hl 0 rfl) ?_
        refine sr_get (v := .ref (a 8)) C0 hK hP sr_inX8 sr_wM0 rfl 11 (by decide) sw_621 rfl dX8_set_40 ?_
        refine lv_iload_n C0.1 C0.2.1 dX8_set_43 rfl (lv_at hl 1 rfl) ?_
        refine sr_ald (k := jw) C0 hK rfl hP sr_wM8 (nI_clamp (by omega)) (vp_in_nI (by omega) (by omega)) dX8_set_44 ?_
        refine lv_istore_n (lv' := [(3, .int (kp 2 jw)), (0, .ref (a 0)), (1, .int (nI jw)), (2, .int v_)]) C0.1 C0.2.1 dX8_set_45 rfl hl (by decide) rfl (fun ls hl => ?_)
        refine lv_aload_n C0.1 C0.2.1 dX8_set_46 rfl (lv_at hl 1 rfl) ?_
        refine sr_get (v := .ref (a 8)) C0 hK hP sr_inX8 sr_wM0 rfl 11 (by decide) sw_621 rfl dX8_set_47 ?_
        refine lv_iload_n C0.1 C0.2.1 dX8_set_50 rfl (lv_at hl 2 rfl) ?_
        refine lv_iload_n C0.1 C0.2.1 dX8_set_51 rfl (lv_at hl 3 rfl) ?_
        refine sr_ast (k := jw) C0 hK rfl hP (sr_DM ha _ _ _) hS sr_wM8 (nI_clamp (by omega)) (vp_in_nI (by omega) (by omega)) sr_sM8 dX8_set_52 (fun H locs hP hS => ?_)
        refine lv_iload_n C0.1 C0.2.1 dX8_set_53 rfl (lv_at hl 0 rfl) ?_
        have e9 : (v_ < sr_tL jw ∨ sr_tM_ jw < v_) ↔ (v_ < 0 ∨ sr_mo2 (nI jw) < v_) := by rw [sr_tL_p hjw g15, sr_mo2_e hjw]
        exact hret _ _ _ () _ _ _ dX8_set_54 hP hS (by unfold sk_set; rw [if_neg c9, nI_clamp (n := jw) (by omega), if_neg (fun q => c33 (e9.mp q))]) (by unfold sp_set; rw [if_neg c9, nI_clamp (n := jw) (by omega), if_neg (fun q => c33 (e9.mp q))]) trivial
      · refine lv_bipush (v := (-2)) C0.1 C0.2.1 dX8_set_36 (by decide) ?_
        have e9 : (v_ < sr_tL jw ∨ sr_tM_ jw < v_) ↔ (v_ < 0 ∨ sr_mo2 (nI jw) < v_) := by rw [sr_tL_p hjw g15, sr_mo2_e hjw]
        exact hret _ _ _ () _ _ _ dX8_set_38 hP hS (by unfold sk_set; rw [if_neg c9, nI_clamp (n := jw) (by omega), if_pos (e9.mpr (Classical.not_not.mp c33))]) (by unfold sp_set; rw [if_neg c9, nI_clamp (n := jw) (by omega), if_pos (e9.mpr (Classical.not_not.mp c33))]) trivial
    · have g15 : jw = 0 := (nI_eq (a := jw) (b := 0) (by omega) (by omega)).mp c15
      refine lv_ldc2 (v := 5) C0.1 C0.2.1 C0.2.2.2.1 (C0.2.2.2.2 _ sw_753) dX8_set_18 ?_
      refine lv_goto (tgt := 25) C0.1 C0.2.1 dX8_set_21 (by decide) ?_
      refine lv_iload_n C0.1 C0.2.1 dX8_set_25 rfl (lv_at hl 1 rfl) ?_
      refine sr_pSi (As := [.int (nI jw)]) C0 hK hP hZ (sr_Zs hZ hZ0 hS) (cc_X8_most ha (nI jw)) sk_X8_most (ss_X8_most) sw_754 rfl rfl hl.1 (Nat.le_of_ble_eq_true rfl) (Nat.le_of_ble_eq_true rfl) (Nat.le_of_ble_eq_true rfl) dX8_set_26 ⟨Nat.zero_le _, Nat.zero_le _⟩ ?_
      refine lv_i2l C0.1 C0.2.1 dX8_set_29 rfl ?_
      refine sr_pSi (As := [.long ((v_).toInt64), .long 5, .long ((sr_mo2 (nI jw)).toInt64)]) C0 hK hP hZ (sr_Zs hZ hZ0 hS) (cc_X8_inI ha (v_) (5 : Int32) (sr_mo2 (nI jw)) rfl (by decide) rfl) sk_X8_in (ss_X8_in) sw_670 rfl rfl hl.1 (Nat.le_of_ble_eq_true rfl) (Nat.le_of_ble_eq_true rfl) (Nat.le_of_ble_eq_true rfl) dX8_set_30 ⟨Nat.zero_le _, Nat.zero_le _⟩ ?_
      refine sr_ifne (tgt := 39) C0 dX8_set_33 (by decide) (fun c33 => ?_) (fun c33 => ?_)
      · refine lv_aload_n C0.1 C0.2.1 dX8_set_39 rfl (lv_at hl 0 rfl) ?_
        refine sr_get (v := .ref (a 8)) C0 hK hP sr_inX8 sr_wM0 rfl 11 (by decide) sw_621 rfl dX8_set_40 ?_
        refine lv_iload_n C0.1 C0.2.1 dX8_set_43 rfl (lv_at hl 1 rfl) ?_
        refine sr_ald (k := jw) C0 hK rfl hP sr_wM8 (nI_clamp (by omega)) (vp_in_nI (by omega) (by omega)) dX8_set_44 ?_
        refine lv_istore_n (lv' := [(3, .int (kp 2 jw)), (0, .ref (a 0)), (1, .int (nI jw)), (2, .int v_)]) C0.1 C0.2.1 dX8_set_45 rfl hl (by decide) rfl (fun ls hl => ?_)
        refine lv_aload_n C0.1 C0.2.1 dX8_set_46 rfl (lv_at hl 1 rfl) ?_
        refine sr_get (v := .ref (a 8)) C0 hK hP sr_inX8 sr_wM0 rfl 11 (by decide) sw_621 rfl dX8_set_47 ?_
        refine lv_iload_n C0.1 C0.2.1 dX8_set_50 rfl (lv_at hl 2 rfl) ?_
        refine lv_iload_n C0.1 C0.2.1 dX8_set_51 rfl (lv_at hl 3 rfl) ?_
        refine sr_ast (k := jw) C0 hK rfl hP (sr_DM ha _ _ _) hS sr_wM8 (nI_clamp (by omega)) (vp_in_nI (by omega) (by omega)) sr_sM8 dX8_set_52 (fun H locs hP hS => ?_)
        refine lv_iload_n C0.1 C0.2.1 dX8_set_53 rfl (lv_at hl 0 rfl) ?_
        have e9 : (v_ < sr_tL jw ∨ sr_tM_ jw < v_) ↔ (v_ < 5 ∨ sr_mo2 (nI jw) < v_) := by rw [sr_tL_z g15, sr_mo2_e hjw]
        exact hret _ _ _ () _ _ _ dX8_set_54 hP hS (by unfold sk_set; rw [if_neg c9, nI_clamp (n := jw) (by omega), if_neg (fun q => c33 (e9.mp q))]) (by unfold sp_set; rw [if_neg c9, nI_clamp (n := jw) (by omega), if_neg (fun q => c33 (e9.mp q))]) trivial
      · refine lv_bipush (v := (-2)) C0.1 C0.2.1 dX8_set_36 (by decide) ?_
        have e9 : (v_ < sr_tL jw ∨ sr_tM_ jw < v_) ↔ (v_ < 5 ∨ sr_mo2 (nI jw) < v_) := by rw [sr_tL_z g15, sr_mo2_e hjw]
        exact hret _ _ _ () _ _ _ dX8_set_38 hP hS (by unfold sk_set; rw [if_neg c9, nI_clamp (n := jw) (by omega), if_pos (e9.mpr (Classical.not_not.mp c33))]) (by unfold sp_set; rw [if_neg c9, nI_clamp (n := jw) (by omega), if_pos (e9.mpr (Classical.not_not.mp c33))]) trivial
