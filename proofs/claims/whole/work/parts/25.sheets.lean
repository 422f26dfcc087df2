set_option maxRecDepth 100000 in
set_option maxHeartbeats 4000000 in
theorem cc_X5_isLost {l : Launch} {D : va_G} {cI cR : ClassId} {a : Nat → Nat} (ha : ∀ i j, i < 36 → j < 36 → a i = a j → i = j) {kp cx sg : sr_M} (su : Nat) (hs_su : su < 4) : sr_P l D (sr_tC cI cR) (sr_ZC a) (sr_WC cI cR a kp cx sg) yX5_isLost cX5_isLost 2 (some .boolean) 0 0 [.ref (a 7), .int (nI su)] (some (.int (if cx 11 su = -1 then 1 else 0))) := by
  refine sr_Pze (by decide +kernel) (Nat.le_of_ble_eq_true rfl) (fun p e s m args below meth c ls Q B hret => ?_)
  obtain ⟨C0, hP, hK, hZ0, hl⟩ := B
  have hZ : sr_Zok (sr_AC a) (sr_ZC a) := sr_ZCok a
  have hS : va_S (sr_AC a) s.heap s.heap [] := va_S.rf
  have hl : lv_has ls 2 [(0, .ref (a 7)), (1, .int (nI su))] := hl
  refine lv_aload_n C0.1 C0.2.1 dX5_isLost_0 rfl (lv_at hl 0 rfl) ?_
  refine sr_get (v := .ref (a 35)) C0 hK hP sr_inX5 sr_wC7 rfl 2 (by decide) sw_175 rfl dX5_isLost_1 ?_
  refine lv_iload_n C0.1 C0.2.1 dX5_isLost_4 rfl (lv_at hl 1 rfl) ?_
  refine sr_ald (k := su) C0 hK rfl hP sr_wC35 (nI_clamp (by omega)) (vp_in_nI (by omega) (by omega)) dX5_isLost_5 ?_
  refine lv_iconst (v := (-1)) C0.1 C0.2.1 dX5_isLost_6 (by decide) ?_
  refine lv_icmp_ne (tgt := 14) C0.1 C0.2.1 dX5_isLost_7 (by decide) (fun c7 => ?_) (fun c7 => ?_)
  · refine lv_iconst (v := 0) C0.1 C0.2.1 dX5_isLost_14 (by decide) ?_
    exact hret _ _ _ dX5_isLost_15 (by first | exact (if_pos (by assumption)).symm | exact (if_neg (by assumption)).symm)
  · refine lv_iconst (v := 1) C0.1 C0.2.1 dX5_isLost_10 (by decide) ?_
    refine lv_goto (tgt := 15) C0.1 C0.2.1 dX5_isLost_11 (by decide) ?_
    exact hret _ _ _ dX5_isLost_15 (by first | exact (if_pos (by assumption)).symm | exact (if_neg (by assumption)).symm)
set_option maxRecDepth 100000 in
set_option maxHeartbeats 4000000 in
theorem cc_X5_found {l : Launch} {D : va_G} {cI cR : ClassId} {a : Nat → Nat} (ha : ∀ i j, i < 36 → j < 36 → a i = a j → i = j) {kp cx sg : sr_M} (k_ : Int32) : sr_G l D (sr_tC cI cR) (sr_ZC a) (sr_AC a) (sr_WC cI cR a kp cx sg) yX5_found cX5_found 2 (some .int) 0 0 [.ref (a 7), .int k_] (S := Unit) (fun u => True) (fun u => sr_WC cI cR a (sr_fd kp k_) cx sg) (fun u => some (.int (-10 - k_))) := by
  refine sr_Gie (by decide +kernel) (Nat.le_of_ble_eq_true rfl) (fun p e s m args below meth c ls Q B hret => ?_)
  obtain ⟨C0, hP, hK, hZ0, hl⟩ := B
  have hZ : sr_Zok (sr_AC a) (sr_ZC a) := sr_ZCok a
  have hS : va_S (sr_AC a) s.heap s.heap [] := va_S.rf
  have hl : lv_has ls 2 [(0, .ref (a 7)), (1, .int k_)] := hl
  obtain ⟨H, hH⟩ : ∃ H, H = s.heap := ⟨_, rfl⟩
  have hP : va_P D vwCl (sr_WC cI cR a kp cx sg) H := by rw [hH]; exact hP
  have hS : va_S (sr_AC a) s.heap H [] := by rw [hH]; exact hS
  suffices hG : ∀ locs, va_S (sr_AC a) s.heap H locs → W p l e (sr_rm 0 0) s m args below meth c H locs 0 0 Q (F0 m 0 ls []) from by have h9 := hG [] hS; rw [hH] at h9; exact h9
  clear hS
  intro locs hS
  clear hH
  refine lv_aload_n C0.1 C0.2.1 dX5_found_0 rfl (lv_at hl 0 rfl) ?_
  refine lv_iload_n C0.1 C0.2.1 dX5_found_1 rfl (lv_at hl 1 rfl) ?_
  refine sr_put C0 hK hP (sr_DC ha _ _ _) hS sr_inX5 tyX5_ok nmX5 sr_wC7 rfl 3 (by decide) sw_177 rfl (by decide +kernel) (Nat.le_of_ble_eq_true rfl) sr_fC7_3 dX5_found_2 (fun H locs hP hS => ?_)
  refine lv_bipush (v := (-10)) C0.1 C0.2.1 dX5_found_5 (by decide) ?_
  refine lv_iload_n C0.1 C0.2.1 dX5_found_7 rfl (lv_at hl 1 rfl) ?_
  refine lv_isub C0.1 C0.2.1 dX5_found_8 ?_
  exact hret _ _ _ () _ _ _ dX5_found_9 hP hS rfl rfl trivial
set_option maxRecDepth 100000 in
set_option maxHeartbeats 4000000 in
theorem cc_X5_renew {l : Launch} {D : va_G} {cI cR : ClassId} {a : Nat → Nat} (ha : ∀ i j, i < 36 → j < 36 → a i = a j → i = j) {kp cx sg : sr_M} (su : Nat) (fo : Int32) (z_ : Int32) (hs_su : su < 4) : sr_G l D (sr_tC cI cR) (sr_ZC a) (sr_AC a) (sr_WC cI cR a kp cx sg) yX5_renew cX5_renew 4 none 1 23 [.ref (a 7), .int (nI su), .int fo, .int z_] (S := sr_M) (fun u => (∀ j, j < 60 → u (6 + su) j = 0) ∧ u 10 = upd (cx 10) su fo ∧ u 11 = upd (cx 11) su z_ ∧ ∀ k, k ≠ 6 + su → k ≠ 10 → k ≠ 11 → u k = cx k) (fun u => sr_WC cI cR a kp u sg) (fun _ => none) := by
  refine sr_Gve (by decide +kernel) (Nat.le_of_ble_eq_true rfl) (fun p e s m args below meth c ls Q B hret => ?_)
  obtain ⟨C0, hP, hK, hZ0, hl⟩ := B
  have hZ : sr_Zok (sr_AC a) (sr_ZC a) := sr_ZCok a
  have hS : va_S (sr_AC a) s.heap s.heap [] := va_S.rf
  have hl : lv_has ls 4 [(0, .ref (a 7)), (1, .int (nI su)), (2, .int fo), (3, .int z_)] := hl
  obtain ⟨H, hH⟩ : ∃ H, H = s.heap := ⟨_, rfl⟩
  have hP : va_P D vwCl (sr_WC cI cR a kp cx sg) H := by rw [hH]; exact hP
  have hS : va_S (sr_AC a) s.heap H [] := by rw [hH]; exact hS
  suffices hG : ∀ locs, va_S (sr_AC a) s.heap H locs → W p l e (sr_rm 1 23) s m args below meth c H locs 0 0 Q (F0 m 0 ls []) from by have h9 := hG [] hS; rw [hH] at h9; exact h9
  clear hS
  intro locs hS
  clear hH
  refine lv_aload_n C0.1 C0.2.1 dX5_renew_0 rfl (lv_at hl 0 rfl) ?_
  refine sr_get (v := .ref (a 29)) C0 hK hP sr_inX5 sr_wC7 rfl 0 (by decide) sw_171 rfl dX5_renew_1 ?_
  refine lv_iload_n C0.1 C0.2.1 dX5_renew_4 rfl (lv_at hl 1 rfl) ?_
  refine sr_ald2 (k := su) (r := a (30 + su)) C0 hK rfl hP sr_wC29 (nI_clamp (by omega)) (vp_in_nI (by omega) (by omega)) (sr_os (by omega)) dX5_renew_5 ?_
  refine lv_iconst (v := 0) C0.1 C0.2.1 dX5_renew_6 (by decide) ?_
  refine sr_gSv (As := [.ref (a (30 + su)), .int 0]) C0 hK hP hZ (sr_Zs hZ hZ0 hS) (cc_J7_fill_53178 ha (nn := 60) (K := fun _ => kp) (X := fun g => va_up cx (6 + su) g) (G := fun _ => sg) (f := cx (6 + su)) (0) (by omega) (sr_it1 (by omega)) (sr_it2 (by omega)) (sr_it3 (by omega))) sk_J7_fill_53178 (ss_J7_fill_53178) sw_534 rfl rfl hl.1 (Nat.le_of_ble_eq_true rfl) (Nat.le_of_ble_eq_true rfl) (Nat.le_of_ble_eq_true rfl) dX5_renew_7 ⟨Nat.zero_le _, Nat.zero_le _⟩ hS (fun u H locs hu hP hS => ?_)
  refine lv_aload_n C0.1 C0.2.1 dX5_renew_10 rfl (lv_at hl 0 rfl) ?_
  refine sr_get (v := .ref (a 34)) C0 hK hP sr_inX5 sr_wC7 rfl 1 (by decide) sw_173 rfl dX5_renew_11 ?_
  refine lv_iload_n C0.1 C0.2.1 dX5_renew_14 rfl (lv_at hl 1 rfl) ?_
  refine lv_iload_n C0.1 C0.2.1 dX5_renew_15 rfl (lv_at hl 2 rfl) ?_
  refine sr_ast (k := su) C0 hK rfl hP (sr_DC ha _ _ _) hS sr_wC34 (nI_clamp (by omega)) (vp_in_nI (by omega) (by omega)) sr_sC34 dX5_renew_16 (fun H locs hP hS => ?_)
  refine lv_aload_n C0.1 C0.2.1 dX5_renew_17 rfl (lv_at hl 0 rfl) ?_
  refine sr_get (v := .ref (a 35)) C0 hK hP sr_inX5 sr_wC7 rfl 2 (by decide) sw_175 rfl dX5_renew_18 ?_
  refine lv_iload_n C0.1 C0.2.1 dX5_renew_21 rfl (lv_at hl 1 rfl) ?_
  refine lv_iload_n C0.1 C0.2.1 dX5_renew_22 rfl (lv_at hl 3 rfl) ?_
  refine sr_ast (k := su) C0 hK rfl hP (sr_DC ha _ _ _) hS sr_wC35 (nI_clamp (by omega)) (vp_in_nI (by omega) (by omega)) sr_sC35 dX5_renew_23 (fun H locs hP hS => ?_)
  have hP : va_P D vwCl (sr_WC cI cR a kp (va_up (va_up (va_up cx (6 + su) (sr_fl (cx (6 + su)) (0) 60)) 10 (upd ((va_up cx (6 + su) (sr_fl (cx (6 + su)) (0) 60)) 10) su fo)) 11 (upd ((va_up cx (6 + su) (sr_fl (cx (6 + su)) (0) 60)) 11) su z_)) sg) H := hP
  exact hret _ _ _ (va_up (va_up (va_up cx (6 + su) (sr_fl (cx (6 + su)) (0) 60)) 10 (upd ((va_up cx (6 + su) (sr_fl (cx (6 + su)) (0) 60)) 10) su fo)) 11 (upd ((va_up cx (6 + su) (sr_fl (cx (6 + su)) (0) 60)) 11) su z_)) _ _ dX5_renew_24 hP hS rfl ⟨fun j hj => by have h1 : 6 + su ≠ 10 := (by omega); have h2 : 6 + su ≠ 11 := (by omega); simp only [va_up, if_neg h1, if_neg h2]; rw [if_pos trivial]; exact if_pos hj, by have h1 : ¬ 10 = 6 + su := (by omega); simp only [va_up, if_neg h1]; rfl, by have h1 : ¬ 11 = 6 + su := (by omega); simp only [va_up, if_neg h1]; rfl, fun k h1 h2 h3 => by simp only [va_up, if_neg h1, if_neg h2, if_neg h3]⟩
set_option maxRecDepth 100000 in
set_option maxHeartbeats 4000000 in
theorem cc_X5_check {l : Launch} {D : va_G} {cI cR : ClassId} {a : Nat → Nat} (ha : ∀ i j, i < 36 → j < 36 → a i = a j → i = j) {kp cx sg : sr_M} (su : Nat) (fo : Int32) (i_ : Int32) (hs_su : su < 4) : sr_P l D (sr_tC cI cR) (sr_ZC a) (sr_WC cI cR a kp cx sg) yX5_check cX5_check 4 (some .int) 1 22 [.ref (a 7), .int (nI su), .int fo, .int i_] (some (.int (sr_ck cx su fo i_))) := by
  refine sr_Pie (by decide +kernel) (Nat.le_of_ble_eq_true rfl) (fun p e s m args below meth c ls Q B hret => ?_)
  obtain ⟨C0, hP, hK, hZ0, hl⟩ := B
  have hZ : sr_Zok (sr_AC a) (sr_ZC a) := sr_ZCok a
  have hS : va_S (sr_AC a) s.heap s.heap [] := va_S.rf
  have hl : lv_has ls 4 [(0, .ref (a 7)), (1, .int (nI su)), (2, .int fo), (3, .int i_)] := hl
  refine lv_aload_n C0.1 C0.2.1 dX5_check_0 rfl (lv_at hl 0 rfl) ?_
  refine lv_iload_n C0.1 C0.2.1 dX5_check_1 rfl (lv_at hl 1 rfl) ?_
  refine sr_pVi (As := [.int (nI su)]) C0 hK hP hZ hZ0 (cc_X5_isLost ha su (by omega)) sk_X5_isLost sv_X5_isLost sw_547 (ci := 5) rfl sr_wC7 rfl rfl hl.1 (Nat.le_of_ble_eq_true rfl) (Nat.le_of_ble_eq_true rfl) (Nat.le_of_ble_eq_true rfl) dX5_check_2 ⟨Nat.zero_le _, Nat.zero_le _⟩ ?_
  refine sr_ifeq (tgt := 10) C0 dX5_check_5 (by decide) (fun c5 => ?_) (fun c5 => ?_)
  · refine lv_aload_n C0.1 C0.2.1 dX5_check_10 rfl (lv_at hl 0 rfl) ?_
    refine sr_get (v := .ref (a 34)) C0 hK hP sr_inX5 sr_wC7 rfl 1 (by decide) sw_173 rfl dX5_check_11 ?_
    refine lv_iload_n C0.1 C0.2.1 dX5_check_14 rfl (lv_at hl 1 rfl) ?_
    refine sr_ald (k := su) C0 hK rfl hP sr_wC34 (nI_clamp (by omega)) (vp_in_nI (by omega) (by omega)) dX5_check_15 ?_
    refine lv_iload_n C0.1 C0.2.1 dX5_check_16 rfl (lv_at hl 2 rfl) ?_
    refine lv_icmp_eq (tgt := 22) C0.1 C0.2.1 dX5_check_17 (by decide) (fun c17 => ?_) (fun c17 => ?_)
    · refine lv_iload_n C0.1 C0.2.1 dX5_check_22 rfl (lv_at hl 3 rfl) ?_
      refine lv_iconst (v := 0) C0.1 C0.2.1 dX5_check_23 (by decide) ?_
      refine lv_aload_n C0.1 C0.2.1 dX5_check_24 rfl (lv_at hl 0 rfl) ?_
      refine sr_get (v := .ref (a 35)) C0 hK hP sr_inX5 sr_wC7 rfl 2 (by decide) sw_175 rfl dX5_check_25 ?_
      refine lv_iload_n C0.1 C0.2.1 dX5_check_28 rfl (lv_at hl 1 rfl) ?_
      refine sr_ald (k := su) C0 hK rfl hP sr_wC35 (nI_clamp (by omega)) (vp_in_nI (by omega) (by omega)) dX5_check_29 ?_
      refine lv_iconst (v := 1) C0.1 C0.2.1 dX5_check_30 (by decide) ?_
      refine lv_isub C0.1 C0.2.1 dX5_check_31 ?_
      refine sr_pNi (As := [.int i_, .int 0, .int ((cx 11 su) - 1)]) C0 hK hP hZ hZ0 (cc_X7_outside ha i_ (0) ((cx 11 su) - 1)) sk_X7_outside (ss_X7_outside) (sr_Zn37 hZ0) rfl rfl hl.1 (Nat.le_of_ble_eq_true rfl) (Nat.le_of_ble_eq_true rfl) (Nat.le_of_ble_eq_true rfl) dX5_check_32 ⟨Nat.zero_le _, Nat.zero_le _⟩ ?_
      refine sr_ifeq (tgt := 42) C0 dX5_check_35 (by decide) (fun c35 => ?_) (fun c35 => ?_)
      · refine lv_iconst (v := 0) C0.1 C0.2.1 dX5_check_42 (by decide) ?_
        exact hret _ _ _ dX5_check_43 (by unfold sr_ck; rw [if_neg c5, if_pos c17, if_neg c35])
      · refine lv_iconst (v := 2) C0.1 C0.2.1 dX5_check_38 (by decide) ?_
        refine lv_goto (tgt := 43) C0.1 C0.2.1 dX5_check_39 (by decide) ?_
        exact hret _ _ _ dX5_check_43 (by unfold sr_ck; rw [if_neg c5, if_pos c17, if_pos c35])
    · refine lv_iconst (v := 3) C0.1 C0.2.1 dX5_check_20 (by decide) ?_
      exact hret _ _ _ dX5_check_21 (by unfold sr_ck; rw [if_neg c5, if_neg c17])
  · refine lv_iconst (v := 1) C0.1 C0.2.1 dX5_check_8 (by decide) ?_
    exact hret _ _ _ dX5_check_9 (by unfold sr_ck; rw [if_pos c5])
set_option maxRecDepth 100000 in
set_option maxHeartbeats 4000000 in
theorem cc_X5_holds {l : Launch} {D : va_G} {cI cR : ClassId} {a : Nat → Nat} (ha : ∀ i j, i < 36 → j < 36 → a i = a j → i = j) {kp cx sg : sr_M} (su : Nat) (i_ : Int32) (n_ : Int32) (hs_su : su < 4) : sr_P l D (sr_tC cI cR) (sr_ZC a) (sr_WC cI cR a kp cx sg) yX5_holds cX5_holds 4 (some .boolean) 0 0 [.ref (a 7), .int (nI su), .int i_, .int n_] (some (.int (if sr_ho cx su i_ n_ then 1 else 0))) := by
  refine sr_Pze (by decide +kernel) (Nat.le_of_ble_eq_true rfl) (fun p e s m args below meth c ls Q B hret => ?_)
  obtain ⟨C0, hP, hK, hZ0, hl⟩ := B
  have hZ : sr_Zok (sr_AC a) (sr_ZC a) := sr_ZCok a
  have hS : va_S (sr_AC a) s.heap s.heap [] := va_S.rf
  have hl : lv_has ls 4 [(0, .ref (a 7)), (1, .int (nI su)), (2, .int i_), (3, .int n_)] := hl
  refine lv_iload_n C0.1 C0.2.1 dX5_holds_0 rfl (lv_at hl 2 rfl) ?_
  refine lv_if_lt (tgt := 34) C0.1 C0.2.1 dX5_holds_1 (by decide) (fun c1 => ?_) (fun c1 => ?_)
  · refine lv_iconst (v := 0) C0.1 C0.2.1 dX5_holds_34 (by decide) ?_
    exact hret _ _ _ dX5_holds_35 (if_neg (fun q => q.1 c1)).symm
  · refine lv_iload_n C0.1 C0.2.1 dX5_holds_4 rfl (lv_at hl 3 rfl) ?_
    refine lv_if_lt (tgt := 34) C0.1 C0.2.1 dX5_holds_5 (by decide) (fun c5 => ?_) (fun c5 => ?_)
    · refine lv_iconst (v := 0) C0.1 C0.2.1 dX5_holds_34 (by decide) ?_
      exact hret _ _ _ dX5_holds_35 (if_neg (fun q => q.2.1 c5)).symm
    · refine lv_iload_n C0.1 C0.2.1 dX5_holds_8 rfl (lv_at hl 2 rfl) ?_
      refine lv_aload_n C0.1 C0.2.1 dX5_holds_9 rfl (lv_at hl 0 rfl) ?_
      refine sr_get (v := .ref (a 35)) C0 hK hP sr_inX5 sr_wC7 rfl 2 (by decide) sw_175 rfl dX5_holds_10 ?_
      refine lv_iload_n C0.1 C0.2.1 dX5_holds_13 rfl (lv_at hl 1 rfl) ?_
      refine sr_ald (k := su) C0 hK rfl hP sr_wC35 (nI_clamp (by omega)) (vp_in_nI (by omega) (by omega)) dX5_holds_14 ?_
      refine lv_icmp_gt (tgt := 34) C0.1 C0.2.1 dX5_holds_15 (by decide) (fun c15 => ?_) (fun c15 => ?_)
      · refine lv_iconst (v := 0) C0.1 C0.2.1 dX5_holds_34 (by decide) ?_
        exact hret _ _ _ dX5_holds_35 (if_neg (fun q => q.2.2.1 c15)).symm
      · refine lv_iload_n C0.1 C0.2.1 dX5_holds_18 rfl (lv_at hl 3 rfl) ?_
        refine lv_aload_n C0.1 C0.2.1 dX5_holds_19 rfl (lv_at hl 0 rfl) ?_
        refine sr_get (v := .ref (a 35)) C0 hK hP sr_inX5 sr_wC7 rfl 2 (by decide) sw_175 rfl dX5_holds_20 ?_
        refine lv_iload_n C0.1 C0.2.1 dX5_holds_23 rfl (lv_at hl 1 rfl) ?_
        refine sr_ald (k := su) C0 hK rfl hP sr_wC35 (nI_clamp (by omega)) (vp_in_nI (by omega) (by omega)) dX5_holds_24 ?_
        refine lv_iload_n C0.1 C0.2.1 dX5_holds_25 rfl (lv_at hl 2 rfl) ?_
        refine lv_isub C0.1 C0.2.1 dX5_holds_26 ?_
        refine lv_icmp_gt (tgt := 34) C0.1 C0.2.1 dX5_holds_27 (by decide) (fun c27 => ?_) (fun c27 => ?_)
        · refine lv_iconst (v := 0) C0.1 C0.2.1 dX5_holds_34 (by decide) ?_
          exact hret _ _ _ dX5_holds_35 (if_neg (fun q => q.2.2.2 c27)).symm
        · refine lv_iconst (v := 1) C0.1 C0.2.1 dX5_holds_30 (by decide) ?_
          refine lv_goto (tgt := 35) C0.1 C0.2.1 dX5_holds_31 (by decide) ?_
          exact hret _ _ _ dX5_holds_35 (if_pos ⟨c1, c5, c15, c27⟩).symm
set_option maxRecDepth 100000 in
set_option maxHeartbeats 4000000 in
theorem cc_X5_put {l : Launch} {D : va_G} {cI cR : ClassId} {a : Nat → Nat} (ha : ∀ i j, i < 36 → j < 36 → a i = a j → i = j) {kp cx sg : sr_M} (su : Nat) (i_ : Nat) (v_ : Int32) (hs_su : su < 4) (hi_ : i_ < 60) : sr_G l D (sr_tC cI cR) (sr_ZC a) (sr_AC a) (sr_WC cI cR a kp cx sg) yX5_put cX5_put 4 none 0 0 [.ref (a 7), .int (nI su), .int (nI i_), .int v_] (S := Unit) (fun u => True) (fun u => sr_WC cI cR a kp (sr_put1 cx su i_ v_) sg) (fun _ => none) := by
  refine sr_Gve (by decide +kernel) (Nat.le_of_ble_eq_true rfl) (fun p e s m args below meth c ls Q B hret => ?_)
  obtain ⟨C0, hP, hK, hZ0, hl⟩ := B
  have hZ : sr_Zok (sr_AC a) (sr_ZC a) := sr_ZCok a
  have hS : va_S (sr_AC a) s.heap s.heap [] := va_S.rf
  have hl : lv_has ls 4 [(0, .ref (a 7)), (1, .int (nI su)), (2, .int (nI i_)), (3, .int v_)] := hl
  obtain ⟨H, hH⟩ : ∃ H, H = s.heap := ⟨_, rfl⟩
  have hP : va_P D vwCl (sr_WC cI cR a kp cx sg) H := by rw [hH]; exact hP
  have hS : va_S (sr_AC a) s.heap H [] := by rw [hH]; exact hS
  suffices hG : ∀ locs, va_S (sr_AC a) s.heap H locs → W p l e (sr_rm 0 0) s m args below meth c H locs 0 0 Q (F0 m 0 ls []) from by have h9 := hG [] hS; rw [hH] at h9; exact h9
  clear hS
  intro locs hS
  clear hH
  refine lv_aload_n C0.1 C0.2.1 dX5_put_0 rfl (lv_at hl 0 rfl) ?_
  refine sr_get (v := .ref (a 34)) C0 hK hP sr_inX5 sr_wC7 rfl 1 (by decide) sw_173 rfl dX5_put_1 ?_
  refine lv_iload_n C0.1 C0.2.1 dX5_put_4 rfl (lv_at hl 1 rfl) ?_
  refine sr_ald (k := su) C0 hK rfl hP sr_wC34 (nI_clamp (by omega)) (vp_in_nI (by omega) (by omega)) dX5_put_5 ?_
  refine sr_ls2 (k1 := 0) (k2 := 1) (t1 := 32) (t2 := 45) (t3 := 58) C0 dX5_put_6 (by decide) (by decide) (by decide) (by decide) (by decide) (by decide) (fun c6 => ?_) (fun c6_a c6 => ?_) (fun c6_a c6 => ?_)
  · refine lv_aload_n C0.1 C0.2.1 dX5_put_32 rfl (lv_at hl 0 rfl) ?_
    refine sr_get (v := .ref (a 29)) C0 hK hP sr_inX5 sr_wC7 rfl 0 (by decide) sw_171 rfl dX5_put_33 ?_
    refine lv_iload_n C0.1 C0.2.1 dX5_put_36 rfl (lv_at hl 1 rfl) ?_
    refine sr_ald2 (k := su) (r := a (30 + su)) C0 hK rfl hP sr_wC29 (nI_clamp (by omega)) (vp_in_nI (by omega) (by omega)) (sr_os (by omega)) dX5_put_37 ?_
    refine lv_iload_n C0.1 C0.2.1 dX5_put_38 rfl (lv_at hl 2 rfl) ?_
    refine lv_iload_n C0.1 C0.2.1 dX5_put_39 rfl (lv_at hl 3 rfl) ?_
    refine lv_i2b C0.1 C0.2.1 dX5_put_40 rfl ?_
    refine sr_ast (k := i_) C0 hK rfl hP (sr_DC ha _ _ _) hS (sr_rC29 (by omega)) (nI_clamp (by omega)) (vp_in_nI (by omega) (by omega)) (sr_rsC29 (by omega)) dX5_put_41 (fun H locs hP hS => ?_)
    refine lv_goto (tgt := 67) C0.1 C0.2.1 dX5_put_42 (by decide) ?_
    exact hret _ _ _ () _ _ dX5_put_67 hP hS (by unfold sr_put1 sr_cut; rw [if_pos c6]) trivial
  · refine lv_aload_n C0.1 C0.2.1 dX5_put_45 rfl (lv_at hl 0 rfl) ?_
    refine sr_get (v := .ref (a 29)) C0 hK hP sr_inX5 sr_wC7 rfl 0 (by decide) sw_171 rfl dX5_put_46 ?_
    refine lv_iload_n C0.1 C0.2.1 dX5_put_49 rfl (lv_at hl 1 rfl) ?_
    refine sr_ald2 (k := su) (r := a (30 + su)) C0 hK rfl hP sr_wC29 (nI_clamp (by omega)) (vp_in_nI (by omega) (by omega)) (sr_os (by omega)) dX5_put_50 ?_
    refine lv_iload_n C0.1 C0.2.1 dX5_put_51 rfl (lv_at hl 2 rfl) ?_
    refine lv_iload_n C0.1 C0.2.1 dX5_put_52 rfl (lv_at hl 3 rfl) ?_
    refine lv_i2s C0.1 C0.2.1 dX5_put_53 rfl ?_
    refine sr_ast (k := i_) C0 hK rfl hP (sr_DC ha _ _ _) hS (sr_rC29 (by omega)) (nI_clamp (by omega)) (vp_in_nI (by omega) (by omega)) (sr_rsC29 (by omega)) dX5_put_54 (fun H locs hP hS => ?_)
    refine lv_goto (tgt := 67) C0.1 C0.2.1 dX5_put_55 (by decide) ?_
    exact hret _ _ _ () _ _ dX5_put_67 hP hS (by unfold sr_put1 sr_cut; rw [if_neg c6_a, if_pos c6]) trivial
  · refine lv_aload_n C0.1 C0.2.1 dX5_put_58 rfl (lv_at hl 0 rfl) ?_
    refine sr_get (v := .ref (a 29)) C0 hK hP sr_inX5 sr_wC7 rfl 0 (by decide) sw_171 rfl dX5_put_59 ?_
    refine lv_iload_n C0.1 C0.2.1 dX5_put_62 rfl (lv_at hl 1 rfl) ?_
    refine sr_ald2 (k := su) (r := a (30 + su)) C0 hK rfl hP sr_wC29 (nI_clamp (by omega)) (vp_in_nI (by omega) (by omega)) (sr_os (by omega)) dX5_put_63 ?_
    refine lv_iload_n C0.1 C0.2.1 dX5_put_64 rfl (lv_at hl 2 rfl) ?_
    refine lv_iload_n C0.1 C0.2.1 dX5_put_65 rfl (lv_at hl 3 rfl) ?_
    refine sr_ast (k := i_) C0 hK rfl hP (sr_DC ha _ _ _) hS (sr_rC29 (by omega)) (nI_clamp (by omega)) (vp_in_nI (by omega) (by omega)) (sr_rsC29 (by omega)) dX5_put_66 (fun H locs hP hS => ?_)
    exact hret _ _ _ () _ _ dX5_put_67 hP hS (by unfold sr_put1 sr_cut; rw [if_neg c6_a, if_neg c6]) trivial
set_option maxRecDepth 100000 in
set_option maxHeartbeats 4000000 in
theorem cc_X0_lotOfSixteen {l : Launch} {D : va_G} {cI cR : ClassId} {a : Nat → Nat} (ha : ∀ i j, i < 36 → j < 36 → a i = a j → i = j) {kp cx sg : sr_M} : sr_G l D (sr_tC cI cR) (sr_ZC a) (sr_AC a) (sr_WC cI cR a kp cx sg) yX0_lotOfSixteen cX0_lotOfSixteen 1 (some .int) 0 0 [.ref (a 6)] (S := sr_M) (fun u => u 9 0 = sr_nx (sg 9 0) ∧ ∀ k, k ≠ 9 → u k = sg k) (fun u => sr_WC cI cR a kp cx u) (fun u => some (.int (nI (sr_lo (sr_nx (sg 9 0)))))) := by
  refine sr_Gie (by decide +kernel) (Nat.le_of_ble_eq_true rfl) (fun p e s m args below meth c ls Q B hret => ?_)
  obtain ⟨C0, hP, hK, hZ0, hl⟩ := B
  have hZ : sr_Zok (sr_AC a) (sr_ZC a) := sr_ZCok a
  have hS : va_S (sr_AC a) s.heap s.heap [] := va_S.rf
  have hl : lv_has ls 1 [(0, .ref (a 6))] := hl
  obtain ⟨H, hH⟩ : ∃ H, H = s.heap := ⟨_, rfl⟩
  have hP : va_P D vwCl (sr_WC cI cR a kp cx sg) H := by rw [hH]; exact hP
  have hS : va_S (sr_AC a) s.heap H [] := by rw [hH]; exact hS
  suffices hG : ∀ locs, va_S (sr_AC a) s.heap H locs → W p l e (sr_rm 0 0) s m args below meth c H locs 0 0 Q (F0 m 0 ls []) from by have h9 := hG [] hS; rw [hH] at h9; exact h9
  clear hS
  intro locs hS
  clear hH
  refine lv_aload_n C0.1 C0.2.1 dX0_lotOfSixteen_0 rfl (lv_at hl 0 rfl) ?_
  refine lv_ldc (v := 1103515245) C0.1 C0.2.1 C0.2.2.2.1 (C0.2.2.2.2 _ sw_517) dX0_lotOfSixteen_1 ?_
  refine lv_aload_n C0.1 C0.2.1 dX0_lotOfSixteen_3 rfl (lv_at hl 0 rfl) ?_
  refine sr_get (v := .int (sg 9 0)) C0 hK hP sr_inX0 sr_wC6 rfl 1 (by decide) sw_157 rfl dX0_lotOfSixteen_4 ?_
  refine lv_imul C0.1 C0.2.1 dX0_lotOfSixteen_7 ?_
  refine lv_sipush (v := 12345) C0.1 C0.2.1 dX0_lotOfSixteen_8 (by decide) ?_
  refine lv_iadd C0.1 C0.2.1 dX0_lotOfSixteen_11 ?_
  refine sr_put C0 hK hP (sr_DC ha _ _ _) hS sr_inX0 tyX0_ok nmX0 sr_wC6 rfl 1 (by decide) sw_157 rfl (by decide +kernel) (Nat.le_of_ble_eq_true rfl) sr_fC6_1 dX0_lotOfSixteen_12 (fun H locs hP hS => ?_)
  have hP : va_P D vwCl (sr_WC cI cR a kp cx (va_up sg 9 (upd (sg 9) 0 (sr_nx (sg 9 0))))) H := hP
  refine lv_aload_n C0.1 C0.2.1 dX0_lotOfSixteen_15 rfl (lv_at hl 0 rfl) ?_
  refine sr_get (v := .int (sr_nx (sg 9 0))) C0 hK hP sr_inX0 sr_wC6 rfl 1 (by decide) sw_157 rfl dX0_lotOfSixteen_16 ?_
  refine lv_bipush (v := 16) C0.1 C0.2.1 dX0_lotOfSixteen_19 (by decide) ?_
  refine lv_iushr C0.1 C0.2.1 dX0_lotOfSixteen_21 rfl ?_
  refine sr_chi (sr_hi_e (sr_nx (sg 9 0))) ?_
  have := sr_hi_lt (sr_nx (sg 9 0))
  refine lv_bipush (v := 16) C0.1 C0.2.1 dX0_lotOfSixteen_22 (by decide) ?_
  refine lv_irem C0.1 C0.2.1 dX0_lotOfSixteen_24 (by decide) ?_
  refine sr_chi (pk_rem (a := (sr_hi (sr_nx (sg 9 0)))) (d := 16) (by omega) (by omega) (by omega)) ?_
  exact hret _ _ _ (va_up sg 9 (upd (sg 9) 0 (sr_nx (sg 9 0)))) _ _ _ dX0_lotOfSixteen_25 hP hS rfl rfl ⟨rfl, fun k hk => if_neg hk⟩
set_option maxRecDepth 100000 in
set_option maxHeartbeats 4000000 in
theorem cc_X0_drawSlips {l : Launch} {D : va_G} {cI cR : ClassId} {a : Nat → Nat} (ha : ∀ i j, i < 36 → j < 36 → a i = a j → i = j) {kp cx sg : sr_M} (st_ : Int32) : sr_G l D (sr_tC cI cR) (sr_ZC a) (sr_AC a) (sr_WC cI cR a kp cx sg) yX0_drawSlips cX0_drawSlips 3 none 1 20 [.ref (a 6), .int st_] (S := sr_M) (fun u => sr_Ds (sg 9 0) st_ u ∧ ∀ k, k ≠ 8 → k ≠ 9 → u k = sg k) (fun u => sr_WC cI cR a kp cx u) (fun _ => none) := by
  refine sr_Gve (by decide +kernel) (Nat.le_of_ble_eq_true rfl) (fun p e s m args below meth c ls Q B hret => ?_)
  obtain ⟨C0, hP, hK, hZ0, hl⟩ := B
  have hZ : sr_Zok (sr_AC a) (sr_ZC a) := sr_ZCok a
  have hS : va_S (sr_AC a) s.heap s.heap [] := va_S.rf
  have hl : lv_has ls 3 [(0, .ref (a 6)), (1, .int st_)] := hl
  obtain ⟨H, hH⟩ : ∃ H, H = s.heap := ⟨_, rfl⟩
  have hP : va_P D vwCl (sr_WC cI cR a kp cx sg) H := by rw [hH]; exact hP
  have hS : va_S (sr_AC a) s.heap H [] := by rw [hH]; exact hS
  suffices hG : ∀ locs, va_S (sr_AC a) s.heap H locs → W p l e (sr_rm 1 20) s m args below meth c H locs 0 0 Q (F0 m 0 ls []) from by have h9 := hG [] hS; rw [hH] at h9; exact h9
  clear hS
  intro locs hS
  clear hH
  refine lv_iconst (v := 0) C0.1 C0.2.1 dX0_drawSlips_0 (by decide) ?_
  refine lv_istore_n (lv' := [(2, .int 0), (0, .ref (a 6)), (1, .int st_)]) C0.1 C0.2.1 dX0_drawSlips_1 rfl hl (by decide) rfl (fun ls hl => ?_)
  refine lv_iload_n C0.1 C0.2.1 dX0_drawSlips_2 rfl (lv_at hl 0 rfl) ?_
  refine lv_iconst (v := 3) C0.1 C0.2.1 dX0_drawSlips_3 (by decide) ?_
  refine lv_icmp_ge (tgt := 29) C0.1 C0.2.1 dX0_drawSlips_4 (by decide) (fun q => absurd q (by decide)) (fun _ => ?_)
  refine lv_aload_n C0.1 C0.2.1 dX0_drawSlips_7 rfl (lv_at hl 1 rfl) ?_
  refine sr_get (v := .ref (a 28)) C0 hK hP sr_inX0 sr_wC6 rfl 0 (by decide) sw_155 rfl dX0_drawSlips_8 ?_
  refine lv_iload_n C0.1 C0.2.1 dX0_drawSlips_11 rfl (lv_at hl 0 rfl) ?_
  obtain ⟨tP, tPz, tPt⟩ := sr_ZZP hZ0
  refine sr_gst C0 tPz hS sw_511 dX0_drawSlips_12 ?_
  refine lv_aload_n C0.1 C0.2.1 dX0_drawSlips_15 rfl (lv_at hl 1 rfl) ?_
  refine sr_gVi (As := []) C0 hK hP hZ (sr_Zs hZ hZ0 hS) (cc_X0_lotOfSixteen ha) sk_X0_lotOfSixteen sv_X0_lotOfSixteen sw_513 (ci := 0) rfl sr_wC6 rfl rfl hl.1 (Nat.le_of_ble_eq_true rfl) (Nat.le_of_ble_eq_true rfl) (Nat.le_of_ble_eq_true rfl) dX0_drawSlips_16 ⟨Nat.zero_le _, Nat.zero_le _⟩ hS (fun sg1 H locs hq hP hS => ?_)
  have := sr_lo_lt (sr_nx (sg 9 0))
  refine sr_tld (k := (sr_lo (sr_nx (sg 9 0)))) C0 tPt hS (nI_clamp (by omega)) (vp_in_nI (by omega) (by omega)) dX0_drawSlips_19 ?_
  refine lv_iload_n C0.1 C0.2.1 dX0_drawSlips_20 rfl (lv_at hl 2 rfl) ?_
  refine lv_imul C0.1 C0.2.1 dX0_drawSlips_21 ?_
  refine sr_ast (k := 0) C0 hK rfl hP (sr_DC ha _ _ _) hS sr_wC28 (by decide) (sr_inc (by decide)) sr_sC28 dX0_drawSlips_22 (fun H locs hP hS => ?_)
  refine lv_iinc (v := 1) (lv' := [(2, .int 1), (0, .ref (a 6)), (1, .int st_)]) C0.1 C0.2.1 dX0_drawSlips_23 hl (k := 0) rfl (by decide) (by decide) rfl (fun ls hl => ?_)
  refine lv_goto (tgt := 2) C0.1 C0.2.1 dX0_drawSlips_26 (by decide) ?_
  refine lv_iload_n C0.1 C0.2.1 dX0_drawSlips_2 rfl (lv_at hl 0 rfl) ?_
  refine lv_iconst (v := 3) C0.1 C0.2.1 dX0_drawSlips_3 (by decide) ?_
  refine lv_icmp_ge (tgt := 29) C0.1 C0.2.1 dX0_drawSlips_4 (by decide) (fun q => absurd q (by decide)) (fun _ => ?_)
  refine lv_aload_n C0.1 C0.2.1 dX0_drawSlips_7 rfl (lv_at hl 1 rfl) ?_
  refine sr_get (v := .ref (a 28)) C0 hK hP sr_inX0 sr_wC6 rfl 0 (by decide) sw_155 rfl dX0_drawSlips_8 ?_
  refine lv_iload_n C0.1 C0.2.1 dX0_drawSlips_11 rfl (lv_at hl 0 rfl) ?_
  obtain ⟨tP_2, tP_2z, tP_2t⟩ := sr_ZZP hZ0
  refine sr_gst C0 tP_2z hS sw_511 dX0_drawSlips_12 ?_
  refine lv_aload_n C0.1 C0.2.1 dX0_drawSlips_15 rfl (lv_at hl 1 rfl) ?_
  refine sr_gVi (As := []) C0 hK hP hZ (sr_Zs hZ hZ0 hS) (cc_X0_lotOfSixteen ha) sk_X0_lotOfSixteen sv_X0_lotOfSixteen sw_513 (ci := 0) rfl sr_wC6 rfl rfl hl.1 (Nat.le_of_ble_eq_true rfl) (Nat.le_of_ble_eq_true rfl) (Nat.le_of_ble_eq_true rfl) dX0_drawSlips_16 ⟨Nat.zero_le _, Nat.zero_le _⟩ hS (fun sg2 H locs hq_2 hP hS => ?_)
  have := sr_lo_lt (sr_nx ((va_up sg1 8 (upd (sg1 8) 0 ((sr_tP (sr_lo (sr_nx (sg 9 0)))) * st_))) 9 0))
  refine sr_tld (k := (sr_lo (sr_nx ((va_up sg1 8 (upd (sg1 8) 0 ((sr_tP (sr_lo (sr_nx (sg 9 0)))) * st_))) 9 0)))) C0 tP_2t hS (nI_clamp (by omega)) (vp_in_nI (by omega) (by omega)) dX0_drawSlips_19 ?_
  refine lv_iload_n C0.1 C0.2.1 dX0_drawSlips_20 rfl (lv_at hl 2 rfl) ?_
  refine lv_imul C0.1 C0.2.1 dX0_drawSlips_21 ?_
  refine sr_ast (k := 1) C0 hK rfl hP (sr_DC ha _ _ _) hS sr_wC28 (by decide) (sr_inc (by decide)) sr_sC28 dX0_drawSlips_22 (fun H locs hP hS => ?_)
  refine lv_iinc (v := 2) (lv' := [(2, .int 2), (0, .ref (a 6)), (1, .int st_)]) C0.1 C0.2.1 dX0_drawSlips_23 hl (k := 0) rfl (by decide) (by decide) rfl (fun ls hl => ?_)
  refine lv_goto (tgt := 2) C0.1 C0.2.1 dX0_drawSlips_26 (by decide) ?_
  refine lv_iload_n C0.1 C0.2.1 dX0_drawSlips_2 rfl (lv_at hl 0 rfl) ?_
  refine lv_iconst (v := 3) C0.1 C0.2.1 dX0_drawSlips_3 (by decide) ?_
  refine lv_icmp_ge (tgt := 29) C0.1 C0.2.1 dX0_drawSlips_4 (by decide) (fun q => absurd q (by decide)) (fun _ => ?_)
  refine lv_aload_n C0.1 C0.2.1 dX0_drawSlips_7 rfl (lv_at hl 1 rfl) ?_
  refine sr_get (v := .ref (a 28)) C0 hK hP sr_inX0 sr_wC6 rfl 0 (by decide) sw_155 rfl dX0_drawSlips_8 ?_
  refine lv_iload_n C0.1 C0.2.1 dX0_drawSlips_11 rfl (lv_at hl 0 rfl) ?_
  obtain ⟨tP_3, tP_3z, tP_3t⟩ := sr_ZZP hZ0
  refine sr_gst C0 tP_3z hS sw_511 dX0_drawSlips_12 ?_
  refine lv_aload_n C0.1 C0.2.1 dX0_drawSlips_15 rfl (lv_at hl 1 rfl) ?_
  refine sr_gVi (As := []) C0 hK hP hZ (sr_Zs hZ hZ0 hS) (cc_X0_lotOfSixteen ha) sk_X0_lotOfSixteen sv_X0_lotOfSixteen sw_513 (ci := 0) rfl sr_wC6 rfl rfl hl.1 (Nat.le_of_ble_eq_true rfl) (Nat.le_of_ble_eq_true rfl) (Nat.le_of_ble_eq_true rfl) dX0_drawSlips_16 ⟨Nat.zero_le _, Nat.zero_le _⟩ hS (fun sg3 H locs hq_3 hP hS => ?_)
  have := sr_lo_lt (sr_nx ((va_up sg2 8 (upd (sg2 8) 1 ((sr_tP (sr_lo (sr_nx ((va_up sg1 8 (upd (sg1 8) 0 ((sr_tP (sr_lo (sr_nx (sg 9 0)))) * st_))) 9 0)))) * st_))) 9 0))
  refine sr_tld (k := (sr_lo (sr_nx ((va_up sg2 8 (upd (sg2 8) 1 ((sr_tP (sr_lo (sr_nx ((va_up sg1 8 (upd (sg1 8) 0 ((sr_tP (sr_lo (sr_nx (sg 9 0)))) * st_))) 9 0)))) * st_))) 9 0)))) C0 tP_3t hS (nI_clamp (by omega)) (vp_in_nI (by omega) (by omega)) dX0_drawSlips_19 ?_
  refine lv_iload_n C0.1 C0.2.1 dX0_drawSlips_20 rfl (lv_at hl 2 rfl) ?_
  refine lv_imul C0.1 C0.2.1 dX0_drawSlips_21 ?_
  refine sr_ast (k := 2) C0 hK rfl hP (sr_DC ha _ _ _) hS sr_wC28 (by decide) (sr_inc (by decide)) sr_sC28 dX0_drawSlips_22 (fun H locs hP hS => ?_)
  refine lv_iinc (v := 3) (lv' := [(2, .int 3), (0, .ref (a 6)), (1, .int st_)]) C0.1 C0.2.1 dX0_drawSlips_23 hl (k := 0) rfl (by decide) (by decide) rfl (fun ls hl => ?_)
  refine lv_goto (tgt := 2) C0.1 C0.2.1 dX0_drawSlips_26 (by decide) ?_
  refine lv_iload_n C0.1 C0.2.1 dX0_drawSlips_2 rfl (lv_at hl 0 rfl) ?_
  refine lv_iconst (v := 3) C0.1 C0.2.1 dX0_drawSlips_3 (by decide) ?_
  refine lv_icmp_ge (tgt := 29) C0.1 C0.2.1 dX0_drawSlips_4 (by decide) (fun _ => ?_) (fun q => absurd q (by decide))
  have a1 := hq.1
  have a2 : sg2 9 0 = sr_nx (sr_nx (sg 9 0)) := by rw [hq_2.1]; exact congrArg sr_nx a1
  have a3 : sg3 9 0 = sr_nx (sr_nx (sr_nx (sg 9 0))) := by rw [hq_3.1]; exact congrArg sr_nx a2
  refine hret _ _ _ (va_up sg3 8 (upd (sg3 8) 2 ((sr_tP (sr_lo (sr_nx ((va_up sg2 8 (upd (sg2 8) 1 ((sr_tP (sr_lo (sr_nx ((va_up sg1 8 (upd (sg1 8) 0 ((sr_tP (sr_lo (sr_nx (sg 9 0)))) * st_))) 9 0)))) * st_))) 9 0)))) * st_))) _ _ dX0_drawSlips_29 hP hS rfl ⟨⟨a3, ?_, ?_, ?_⟩, fun k h8 h9 => (if_neg h8).trans ((hq_3.2 k h9).trans ((if_neg h8).trans ((hq_2.2 k h9).trans ((if_neg h8).trans (hq.2 k h9)))))⟩
  · show sg3 8 0 = _
    rw [hq_3.2 8 (by omega)]
    show sg2 8 0 = _
    rw [hq_2.2 8 (by omega)]
    rfl
  · show sg3 8 1 = _
    rw [hq_3.2 8 (by omega)]
    show sr_tP (sr_lo (sr_nx (sg1 9 0))) * st_ = _
    rw [a1]
    rfl
  · show sr_tP (sr_lo (sr_nx (sg2 9 0))) * st_ = _
    rw [a2]
    rfl
