set_option maxRecDepth 100000 in
set_option maxHeartbeats 4000000 in
theorem cc_J9_min_7cf53 {l : Launch} {D : va_G} {cI cR : ClassId} {a : Nat → Nat} (ha : ∀ i j, i < 36 → j < 36 → a i = a j → i = j) {kp cx sg : sr_M} (x : Int32) (y : Int32) : sr_P l D (sr_tC cI cR) (sr_ZC a) (sr_WC cI cR a kp cx sg) yJ9_min_7cf53 cJ9_min_7cf53 2 (some .int) 0 0 [.int x, .int y] (some (.int (if y < x then y else x))) := by
  refine sr_Pie (by decide +kernel) (Nat.le_of_ble_eq_true rfl) (fun p e s m args below meth c ls Q B hret => ?_)
  obtain ⟨C0, hP, hK, hZ0, hl⟩ := B
  have hZ : sr_Zok (sr_AC a) (sr_ZC a) := sr_ZCok a
  have hS : va_S (sr_AC a) s.heap s.heap [] := va_S.rf
  have hl : lv_has ls 2 [(0, .int x), (1, .int y)] := hl
  refine lv_iload_n C0.1 C0.2.1 dJ9_min_7cf53_0 rfl (lv_at hl 0 rfl) ?_
  refine lv_iload_n C0.1 C0.2.1 dJ9_min_7cf53_1 rfl (lv_at hl 1 rfl) ?_
  refine lv_icmp_gt (tgt := 9) C0.1 C0.2.1 dJ9_min_7cf53_2 (by decide) (fun c2 => ?_) (fun c2 => ?_)
  · refine lv_iload_n C0.1 C0.2.1 dJ9_min_7cf53_9 rfl (lv_at hl 1 rfl) ?_
    exact hret _ _ _ dJ9_min_7cf53_10 (by first | exact (if_pos (by assumption)).symm | exact (if_neg (by assumption)).symm)
  · refine lv_iload_n C0.1 C0.2.1 dJ9_min_7cf53_5 rfl (lv_at hl 0 rfl) ?_
    refine lv_goto (tgt := 10) C0.1 C0.2.1 dJ9_min_7cf53_6 (by decide) ?_
    exact hret _ _ _ dJ9_min_7cf53_10 (by first | exact (if_pos (by assumption)).symm | exact (if_neg (by assumption)).symm)
set_option maxRecDepth 100000 in
set_option maxHeartbeats 4000000 in
theorem cc_J9_max_7cf53 {l : Launch} {D : va_G} {cI cR : ClassId} {a : Nat → Nat} (ha : ∀ i j, i < 36 → j < 36 → a i = a j → i = j) {kp cx sg : sr_M} (x : Int32) (y : Int32) : sr_P l D (sr_tC cI cR) (sr_ZC a) (sr_WC cI cR a kp cx sg) yJ9_max_7cf53 cJ9_max_7cf53 2 (some .int) 0 0 [.int x, .int y] (some (.int (if x < y then y else x))) := by
  refine sr_Pie (by decide +kernel) (Nat.le_of_ble_eq_true rfl) (fun p e s m args below meth c ls Q B hret => ?_)
  obtain ⟨C0, hP, hK, hZ0, hl⟩ := B
  have hZ : sr_Zok (sr_AC a) (sr_ZC a) := sr_ZCok a
  have hS : va_S (sr_AC a) s.heap s.heap [] := va_S.rf
  have hl : lv_has ls 2 [(0, .int x), (1, .int y)] := hl
  refine lv_iload_n C0.1 C0.2.1 dJ9_max_7cf53_0 rfl (lv_at hl 0 rfl) ?_
  refine lv_iload_n C0.1 C0.2.1 dJ9_max_7cf53_1 rfl (lv_at hl 1 rfl) ?_
  refine lv_icmp_lt (tgt := 9) C0.1 C0.2.1 dJ9_max_7cf53_2 (by decide) (fun c2 => ?_) (fun c2 => ?_)
  · refine lv_iload_n C0.1 C0.2.1 dJ9_max_7cf53_9 rfl (lv_at hl 1 rfl) ?_
    exact hret _ _ _ dJ9_max_7cf53_10 (by first | exact (if_pos (by assumption)).symm | exact (if_neg (by assumption)).symm)
  · refine lv_iload_n C0.1 C0.2.1 dJ9_max_7cf53_5 rfl (lv_at hl 0 rfl) ?_
    refine lv_goto (tgt := 10) C0.1 C0.2.1 dJ9_max_7cf53_6 (by decide) ?_
    exact hret _ _ _ dJ9_max_7cf53_10 (by first | exact (if_pos (by assumption)).symm | exact (if_neg (by assumption)).symm)
set_option maxRecDepth 100000 in
set_option maxHeartbeats 4000000 in
theorem cc_X7_outside {l : Launch} {D : va_G} {cI cR : ClassId} {a : Nat → Nat} (ha : ∀ i j, i < 36 → j < 36 → a i = a j → i = j) {kp cx sg : sr_M} (v : Int32) (lo : Int32) (hi : Int32) : sr_P l D (sr_tC cI cR) (sr_ZC a) (sr_WC cI cR a kp cx sg) yX7_outside cX7_outside 3 (some .boolean) 0 0 [.int v, .int lo, .int hi] (some (.int (if v < lo ∨ hi < v then 1 else 0))) := by
  refine sr_Pze (by decide +kernel) (Nat.le_of_ble_eq_true rfl) (fun p e s m args below meth c ls Q B hret => ?_)
  obtain ⟨C0, hP, hK, hZ0, hl⟩ := B
  have hZ : sr_Zok (sr_AC a) (sr_ZC a) := sr_ZCok a
  have hS : va_S (sr_AC a) s.heap s.heap [] := va_S.rf
  have hl : lv_has ls 3 [(0, .int v), (1, .int lo), (2, .int hi)] := hl
  refine lv_iload_n C0.1 C0.2.1 dX7_outside_0 rfl (lv_at hl 0 rfl) ?_
  refine lv_iload_n C0.1 C0.2.1 dX7_outside_1 rfl (lv_at hl 1 rfl) ?_
  refine lv_icmp_lt (tgt := 10) C0.1 C0.2.1 dX7_outside_2 (by decide) (fun c2 => ?_) (fun c2 => ?_)
  · refine lv_iconst (v := 1) C0.1 C0.2.1 dX7_outside_10 (by decide) ?_
    refine lv_goto (tgt := 15) C0.1 C0.2.1 dX7_outside_11 (by decide) ?_
    exact hret _ _ _ dX7_outside_15 (by first | exact (if_pos (Or.inl (by assumption))).symm | exact (if_pos (Or.inr (Int32.not_le.mp (by assumption)))).symm | exact (if_neg (fun q => q.elim (by assumption) (Int32.not_lt.mpr (by assumption)))).symm)
  · refine lv_iload_n C0.1 C0.2.1 dX7_outside_5 rfl (lv_at hl 0 rfl) ?_
    refine lv_iload_n C0.1 C0.2.1 dX7_outside_6 rfl (lv_at hl 2 rfl) ?_
    refine lv_icmp_le (tgt := 14) C0.1 C0.2.1 dX7_outside_7 (by decide) (fun c7 => ?_) (fun c7 => ?_)
    · refine lv_iconst (v := 0) C0.1 C0.2.1 dX7_outside_14 (by decide) ?_
      exact hret _ _ _ dX7_outside_15 (by first | exact (if_pos (Or.inl (by assumption))).symm | exact (if_pos (Or.inr (Int32.not_le.mp (by assumption)))).symm | exact (if_neg (fun q => q.elim (by assumption) (Int32.not_lt.mpr (by assumption)))).symm)
    · refine lv_iconst (v := 1) C0.1 C0.2.1 dX7_outside_10 (by decide) ?_
      refine lv_goto (tgt := 15) C0.1 C0.2.1 dX7_outside_11 (by decide) ?_
      exact hret _ _ _ dX7_outside_15 (by first | exact (if_pos (Or.inl (by assumption))).symm | exact (if_pos (Or.inr (Int32.not_le.mp (by assumption)))).symm | exact (if_neg (fun q => q.elim (by assumption) (Int32.not_lt.mpr (by assumption)))).symm)
set_option maxRecDepth 100000 in
set_option maxHeartbeats 4000000 in
theorem cc_X6_span {l : Launch} {D : va_G} {cI cR : ClassId} {a : Nat → Nat} (ha : ∀ i j, i < 36 → j < 36 → a i = a j → i = j) {kp cx sg : sr_M} (r : Nat) (u : Nat) (y : Int32) (hI : sr_IC kp cx) (hr_r : r < sr_cnt kp) (hs_u : u < 4) : sr_P l D (sr_tC cI cR) (sr_ZC a) (sr_WC cI cR a kp cx sg) yX6_span cX6_span 5 (some .int) 0 0 [.ref (a 2), .int (nI r), .int (nI u), .int y] (some (.int (sr_T kp r u y))) := by
  refine sr_Pie (by decide +kernel) (Nat.le_of_ble_eq_true rfl) (fun p e s m args below meth c ls Q B hret => ?_)
  obtain ⟨C0, hP, hK, hZ0, hl⟩ := B
  have hZ : sr_Zok (sr_AC a) (sr_ZC a) := sr_ZCok a
  have hS : va_S (sr_AC a) s.heap s.heap [] := va_S.rf
  have hl : lv_has ls 5 [(0, .ref (a 2)), (1, .int (nI r)), (2, .int (nI u)), (3, .int y)] := hl
  have := sr_cnt5 kp
  refine lv_iconst (v := 4) C0.1 C0.2.1 dX6_span_0 (by decide) ?_
  refine lv_aload_n C0.1 C0.2.1 dX6_span_1 rfl (lv_at hl 0 rfl) ?_
  refine sr_get (v := .ref (a 1)) C0 hK hP sr_inX6 sr_wC2 rfl 0 (by decide) sw_69 rfl dX6_span_2 ?_
  refine sr_get (v := .ref (a 11)) C0 hK hP sr_inX4 sr_wC1 rfl 3 (by decide) sw_34 rfl dX6_span_5 ?_
  refine lv_iload_n C0.1 C0.2.1 dX6_span_8 rfl (lv_at hl 1 rfl) ?_
  refine sr_ald (k := r) C0 hK rfl hP sr_wC11 (nI_clamp (by omega)) (vp_in_nI (by omega) (by omega)) dX6_span_9 ?_
  refine sr_chi (sr_IC_f2 hI (by first | assumption | omega | exact sr_th_at hT (by omega))) ?_
  refine lv_imul C0.1 C0.2.1 dX6_span_10 ?_
  refine lv_istore (lv' := [(4, .int (4 * (sr_fig kp r 2))), (0, .ref (a 2)), (1, .int (nI r)), (2, .int (nI u)), (3, .int y)]) C0.1 C0.2.1 dX6_span_11 hl (by decide) rfl (fun ls hl => ?_)
  refine lv_iload C0.1 C0.2.1 dX6_span_13 (lv_at hl 0 rfl) ?_
  refine lv_iload_n C0.1 C0.2.1 dX6_span_15 rfl (lv_at hl 4 rfl) ?_
  have hJ22 : ∀ (ls : Array Slot) (j22_4 : Int32), j22_4 = (if (4 * (sr_fig kp r 2)) ≤ y then (4 * (sr_fig kp r 2)) else y) → lv_has ls 5 [(4, .int j22_4), (0, .ref (a 2)), (1, .int (nI r)), (2, .int (nI u)), (3, .int y)] → W p l e (sr_rm 0 0) s m args below meth c s.heap [] 0 0 Q (F0 m 22 ls []) := by
    intro ls j22_4 e_j22_4 hl
    subst e_j22_4
    refine lv_iload_n C0.1 C0.2.1 dX6_span_22 rfl (lv_at hl 4 rfl) ?_
    refine lv_aload_n C0.1 C0.2.1 dX6_span_23 rfl (lv_at hl 1 rfl) ?_
    refine sr_get (v := .ref (a 14)) C0 hK hP sr_inX6 sr_wC2 rfl 2 (by decide) sw_73 rfl dX6_span_24 ?_
    refine lv_iload_n C0.1 C0.2.1 dX6_span_27 rfl (lv_at hl 3 rfl) ?_
    refine sr_ald (k := u) C0 hK rfl hP sr_wC14 (nI_clamp (by omega)) (vp_in_nI (by omega) (by omega)) dX6_span_28 ?_
    refine sr_chi (sr_IC_ex hI (by omega)) ?_
    refine lv_imul C0.1 C0.2.1 dX6_span_29 ?_
    refine lv_iload C0.1 C0.2.1 dX6_span_30 (lv_at hl 0 rfl) ?_
    refine lv_aload_n C0.1 C0.2.1 dX6_span_32 rfl (lv_at hl 1 rfl) ?_
    refine sr_get (v := .ref (a 1)) C0 hK hP sr_inX6 sr_wC2 rfl 0 (by decide) sw_69 rfl dX6_span_33 ?_
    refine sr_get (v := .ref (a 10)) C0 hK hP sr_inX4 sr_wC1 rfl 2 (by decide) sw_32 rfl dX6_span_36 ?_
    refine lv_iload_n C0.1 C0.2.1 dX6_span_39 rfl (lv_at hl 2 rfl) ?_
    refine sr_ald (k := r) C0 hK rfl hP sr_wC10 (nI_clamp (by omega)) (vp_in_nI (by omega) (by omega)) dX6_span_40 ?_
    refine sr_chi (sr_IC_f1 hI (by first | assumption | omega | exact sr_th_at hT (by omega))) ?_
    refine lv_imul C0.1 C0.2.1 dX6_span_41 ?_
    refine lv_iadd C0.1 C0.2.1 dX6_span_42 ?_
    refine lv_iload_n C0.1 C0.2.1 dX6_span_43 rfl (lv_at hl 4 rfl) ?_
    refine lv_iload C0.1 C0.2.1 dX6_span_44 (lv_at hl 0 rfl) ?_
    refine lv_isub C0.1 C0.2.1 dX6_span_46 ?_
    refine lv_aload_n C0.1 C0.2.1 dX6_span_47 rfl (lv_at hl 1 rfl) ?_
    refine sr_get (v := .ref (a 1)) C0 hK hP sr_inX6 sr_wC2 rfl 0 (by decide) sw_69 rfl dX6_span_48 ?_
    refine sr_get (v := .ref (a 9)) C0 hK hP sr_inX4 sr_wC1 rfl 1 (by decide) sw_30 rfl dX6_span_51 ?_
    refine lv_iload_n C0.1 C0.2.1 dX6_span_54 rfl (lv_at hl 2 rfl) ?_
    refine sr_ald (k := r) C0 hK rfl hP sr_wC9 (nI_clamp (by omega)) (vp_in_nI (by omega) (by omega)) dX6_span_55 ?_
    refine sr_chi (sr_IC_f0 hI (by first | assumption | omega | exact sr_th_at hT (by omega))) ?_
    refine lv_imul C0.1 C0.2.1 dX6_span_56 ?_
    refine lv_iadd C0.1 C0.2.1 dX6_span_57 ?_
    exact hret _ _ _ dX6_span_58 (sr_spanT kp r u y)
  refine lv_icmp_le (tgt := 22) C0.1 C0.2.1 dX6_span_16 (by decide) (fun c16 => ?_) (fun c16 => ?_)
  · exact hJ22 _ _ (by rw [if_pos c16]) (lv_sub hl [0, 1, 2, 3, 4] rfl)
  · refine lv_iload_n C0.1 C0.2.1 dX6_span_19 rfl (lv_at hl 4 rfl) ?_
    refine lv_istore (lv' := [(4, .int y), (0, .ref (a 2)), (1, .int (nI r)), (2, .int (nI u)), (3, .int y)]) C0.1 C0.2.1 dX6_span_20 hl (by decide) rfl (fun ls hl => ?_)
    exact hJ22 _ _ (by rw [if_neg c16]) (lv_sub hl [0, 1, 2, 3, 4] rfl)
set_option maxRecDepth 100000 in
set_option maxHeartbeats 4000000 in
theorem cc_X6_pace {l : Launch} {D : va_G} {cI cR : ClassId} {a : Nat → Nat} (ha : ∀ i j, i < 36 → j < 36 → a i = a j → i = j) {kp cx sg : sr_M} (r : Nat) (u : Nat) (hI : sr_IC kp cx) (hr_r : r < sr_cnt kp) (hs_u : u < 4) : sr_P l D (sr_tC cI cR) (sr_ZC a) (sr_WC cI cR a kp cx sg) yX6_pace cX6_pace 3 (some .int) 0 0 [.ref (a 2), .int (nI r), .int (nI u)] (some (.int (sr_pc kp r u))) := by
  refine sr_Pie (by decide +kernel) (Nat.le_of_ble_eq_true rfl) (fun p e s m args below meth c ls Q B hret => ?_)
  obtain ⟨C0, hP, hK, hZ0, hl⟩ := B
  have hZ : sr_Zok (sr_AC a) (sr_ZC a) := sr_ZCok a
  have hS : va_S (sr_AC a) s.heap s.heap [] := va_S.rf
  have hl : lv_has ls 3 [(0, .ref (a 2)), (1, .int (nI r)), (2, .int (nI u))] := hl
  have := sr_cnt5 kp
  refine lv_aload_n C0.1 C0.2.1 dX6_pace_0 rfl (lv_at hl 0 rfl) ?_
  refine sr_get (v := .ref (a 1)) C0 hK hP sr_inX6 sr_wC2 rfl 0 (by decide) sw_69 rfl dX6_pace_1 ?_
  refine sr_get (v := .ref (a 9)) C0 hK hP sr_inX4 sr_wC1 rfl 1 (by decide) sw_30 rfl dX6_pace_4 ?_
  refine lv_iload_n C0.1 C0.2.1 dX6_pace_7 rfl (lv_at hl 1 rfl) ?_
  refine sr_ald (k := r) C0 hK rfl hP sr_wC9 (nI_clamp (by omega)) (vp_in_nI (by omega) (by omega)) dX6_pace_8 ?_
  refine sr_chi (sr_IC_f0 hI (by first | assumption | omega | exact sr_th_at hT (by omega))) ?_
  refine lv_aload_n C0.1 C0.2.1 dX6_pace_9 rfl (lv_at hl 0 rfl) ?_
  refine sr_get (v := .ref (a 14)) C0 hK hP sr_inX6 sr_wC2 rfl 2 (by decide) sw_73 rfl dX6_pace_10 ?_
  refine lv_iload_n C0.1 C0.2.1 dX6_pace_13 rfl (lv_at hl 2 rfl) ?_
  refine sr_ald (k := u) C0 hK rfl hP sr_wC14 (nI_clamp (by omega)) (vp_in_nI (by omega) (by omega)) dX6_pace_14 ?_
  refine sr_chi (sr_IC_ex hI (by omega)) ?_
  refine lv_iadd C0.1 C0.2.1 dX6_pace_15 ?_
  exact hret _ _ _ dX6_pace_16 rfl
set_option maxRecDepth 100000 in
set_option maxHeartbeats 4000000 in
theorem cc_X6_untilNext {l : Launch} {D : va_G} {cI cR : ClassId} {a : Nat → Nat} (ha : ∀ i j, i < 36 → j < 36 → a i = a j → i = j) {kp cx sg : sr_M} (cn : Nat) (co : Nat) (mk : Int32) (sl : Int32) (hI : sr_IC kp cx) (hr_co : co < sr_cnt kp) (hs_cn : cn < 4) : sr_P l D (sr_tC cI cR) (sr_ZC a) (sr_WC cI cR a kp cx sg) yX6_untilNext cX6_untilNext 5 (some .int) 1 24 [.ref (a 2), .int (nI cn), .int (nI co), .int mk, .int sl] (some (.int (sr_Dl kp co cn mk sl))) := by
  refine sr_Pie (by decide +kernel) (Nat.le_of_ble_eq_true rfl) (fun p e s m args below meth c ls Q B hret => ?_)
  obtain ⟨C0, hP, hK, hZ0, hl⟩ := B
  have hZ : sr_Zok (sr_AC a) (sr_ZC a) := sr_ZCok a
  have hS : va_S (sr_AC a) s.heap s.heap [] := va_S.rf
  have hl : lv_has ls 5 [(0, .ref (a 2)), (1, .int (nI cn)), (2, .int (nI co)), (3, .int mk), (4, .int sl)] := hl
  have := sr_cnt5 kp
  refine lv_aload_n C0.1 C0.2.1 dX6_untilNext_0 rfl (lv_at hl 0 rfl) ?_
  refine lv_iload_n C0.1 C0.2.1 dX6_untilNext_1 rfl (lv_at hl 2 rfl) ?_
  refine lv_iload_n C0.1 C0.2.1 dX6_untilNext_2 rfl (lv_at hl 1 rfl) ?_
  refine lv_bipush (v := 100) C0.1 C0.2.1 dX6_untilNext_3 (by decide) ?_
  refine lv_iload_n C0.1 C0.2.1 dX6_untilNext_5 rfl (lv_at hl 3 rfl) ?_
  refine lv_isub C0.1 C0.2.1 dX6_untilNext_6 ?_
  refine sr_pVi (As := [.int (nI co), .int (nI cn), .int (100 - mk)]) C0 hK hP hZ hZ0 (cc_X6_span ha co cn (100 - mk) hI (by first | omega | exact sr_th_at hT (by omega)) (by omega)) sk_X6_span sv_X6_span sw_349 (ci := 6) rfl sr_wC2 rfl rfl hl.1 (Nat.le_of_ble_eq_true rfl) (Nat.le_of_ble_eq_true rfl) (Nat.le_of_ble_eq_true rfl) dX6_untilNext_7 ⟨Nat.zero_le _, Nat.zero_le _⟩ ?_
  refine lv_iconst (v := 0) C0.1 C0.2.1 dX6_untilNext_10 (by decide) ?_
  refine lv_aload_n C0.1 C0.2.1 dX6_untilNext_11 rfl (lv_at hl 0 rfl) ?_
  refine sr_get (v := .ref (a 13)) C0 hK hP sr_inX6 sr_wC2 rfl 1 (by decide) sw_70 rfl dX6_untilNext_12 ?_
  refine lv_iconst (v := 2) C0.1 C0.2.1 dX6_untilNext_15 (by decide) ?_
  refine sr_ald (k := 2) C0 hK rfl hP sr_wC13 (by decide) (sr_inc (by decide)) dX6_untilNext_16 ?_
  refine lv_iload C0.1 C0.2.1 dX6_untilNext_17 (lv_at hl 4 rfl) ?_
  refine lv_iadd C0.1 C0.2.1 dX6_untilNext_19 ?_
  refine sr_pSi (As := [.int 0, .int ((kp 2 2) + sl)]) C0 hK hP hZ hZ0 (cc_J9_max_7cf53 ha (0) ((kp 2 2) + sl)) sk_J9_max_7cf53 (ss_J9_max_7cf53) sw_350 rfl rfl hl.1 (Nat.le_of_ble_eq_true rfl) (Nat.le_of_ble_eq_true rfl) (Nat.le_of_ble_eq_true rfl) dX6_untilNext_20 ⟨Nat.zero_le _, Nat.zero_le _⟩ ?_
  refine lv_iadd C0.1 C0.2.1 dX6_untilNext_23 ?_
  exact hret _ _ _ dX6_untilNext_24 (by rw [sr_maxwa]; rfl)
set_option maxRecDepth 100000 in
set_option maxHeartbeats 4000000 in
theorem cc_X6_headroom {l : Launch} {D : va_G} {cI cR : ClassId} {a : Nat → Nat} (ha : ∀ i j, i < 36 → j < 36 → a i = a j → i = j) {kp cx sg : sr_M} (cn : Nat) (co : Nat) (go : Nat) (sl : Int32) (x : Nat) (hI : sr_IC kp cx) (hr_co : co < sr_cnt kp) (hr_go : go < sr_cnt kp) (hs_cn : cn < 3) : sr_P l D (sr_tC cI cR) (sr_ZC a) (sr_WC cI cR a kp cx sg) yX6_headroom cX6_headroom 7 (some .int) 1 24 [.ref (a 2), .int (nI cn), .int (nI co), .int (nI go), .int sl, .int (nI x)] (some (.int (sr_hr kp co go cn sl x))) := by
  refine sr_Pie (by decide +kernel) (Nat.le_of_ble_eq_true rfl) (fun p e s m args below meth c ls Q B hret => ?_)
  obtain ⟨C0, hP, hK, hZ0, hl⟩ := B
  have hZ : sr_Zok (sr_AC a) (sr_ZC a) := sr_ZCok a
  have hS : va_S (sr_AC a) s.heap s.heap [] := va_S.rf
  have hl : lv_has ls 7 [(0, .ref (a 2)), (1, .int (nI cn)), (2, .int (nI co)), (3, .int (nI go)), (4, .int sl), (5, .int (nI x))] := hl
  have := sr_cnt5 kp
  refine lv_iconst (v := 0) C0.1 C0.2.1 dX6_headroom_0 (by decide) ?_
  refine lv_aload_n C0.1 C0.2.1 dX6_headroom_1 rfl (lv_at hl 0 rfl) ?_
  refine sr_get (v := .ref (a 13)) C0 hK hP sr_inX6 sr_wC2 rfl 1 (by decide) sw_70 rfl dX6_headroom_2 ?_
  refine lv_iconst (v := 2) C0.1 C0.2.1 dX6_headroom_5 (by decide) ?_
  refine sr_ald (k := 2) C0 hK rfl hP sr_wC13 (by decide) (sr_inc (by decide)) dX6_headroom_6 ?_
  refine lv_iload C0.1 C0.2.1 dX6_headroom_7 (lv_at hl 4 rfl) ?_
  refine lv_iadd C0.1 C0.2.1 dX6_headroom_9 ?_
  refine sr_pSi (As := [.int 0, .int ((kp 2 2) + sl)]) C0 hK hP hZ hZ0 (cc_J9_max_7cf53 ha (0) ((kp 2 2) + sl)) sk_J9_max_7cf53 (ss_J9_max_7cf53) sw_350 rfl rfl hl.1 (Nat.le_of_ble_eq_true rfl) (Nat.le_of_ble_eq_true rfl) (Nat.le_of_ble_eq_true rfl) dX6_headroom_10 ⟨Nat.zero_le _, Nat.zero_le _⟩ ?_
  refine lv_istore (lv' := [(6, .int (if 0 < ((kp 2 2) + sl) then ((kp 2 2) + sl) else 0)), (0, .ref (a 2)), (1, .int (nI cn)), (2, .int (nI co)), (3, .int (nI go)), (4, .int sl), (5, .int (nI x))]) C0.1 C0.2.1 dX6_headroom_13 hl (by decide) rfl (fun ls hl => ?_)
  refine lv_iload C0.1 C0.2.1 dX6_headroom_15 (lv_at hl 0 rfl) ?_
  refine lv_aload_n C0.1 C0.2.1 dX6_headroom_17 rfl (lv_at hl 1 rfl) ?_
  refine lv_iload_n C0.1 C0.2.1 dX6_headroom_18 rfl (lv_at hl 4 rfl) ?_
  refine lv_iload_n C0.1 C0.2.1 dX6_headroom_19 rfl (lv_at hl 2 rfl) ?_
  refine lv_iconst (v := 1) C0.1 C0.2.1 dX6_headroom_20 (by decide) ?_
  refine lv_iadd C0.1 C0.2.1 dX6_headroom_21 ?_
  refine sr_chi (nI_add cn 1) ?_
  refine lv_iload C0.1 C0.2.1 dX6_headroom_22 (lv_at hl 6 rfl) ?_
  refine sr_pVi (As := [.int (nI go), .int (nI (cn + 1)), .int (nI x)]) C0 hK hP hZ hZ0 (cc_X6_span ha go (cn + 1) (nI x) hI (by first | omega | exact sr_th_at hT (by omega)) (by omega)) sk_X6_span sv_X6_span sw_349 (ci := 6) rfl sr_wC2 rfl rfl hl.1 (Nat.le_of_ble_eq_true rfl) (Nat.le_of_ble_eq_true rfl) (Nat.le_of_ble_eq_true rfl) dX6_headroom_24 ⟨Nat.zero_le _, Nat.zero_le _⟩ ?_
  refine lv_iadd C0.1 C0.2.1 dX6_headroom_27 ?_
  refine lv_iload C0.1 C0.2.1 dX6_headroom_28 (lv_at hl 6 rfl) ?_
  refine lv_aload_n C0.1 C0.2.1 dX6_headroom_30 rfl (lv_at hl 1 rfl) ?_
  refine sr_get (v := .ref (a 13)) C0 hK hP sr_inX6 sr_wC2 rfl 1 (by decide) sw_70 rfl dX6_headroom_31 ?_
  refine lv_iconst (v := 1) C0.1 C0.2.1 dX6_headroom_34 (by decide) ?_
  refine sr_ald (k := 1) C0 hK rfl hP sr_wC13 (by decide) (sr_inc (by decide)) dX6_headroom_35 ?_
  refine lv_isub C0.1 C0.2.1 dX6_headroom_36 ?_
  refine lv_aload_n C0.1 C0.2.1 dX6_headroom_37 rfl (lv_at hl 1 rfl) ?_
  refine lv_iload_n C0.1 C0.2.1 dX6_headroom_38 rfl (lv_at hl 3 rfl) ?_
  refine lv_iload_n C0.1 C0.2.1 dX6_headroom_39 rfl (lv_at hl 2 rfl) ?_
  refine sr_pVi (As := [.int (nI co), .int (nI cn)]) C0 hK hP hZ hZ0 (cc_X6_pace ha co cn hI (by first | omega | exact sr_th_at hT (by omega)) (by omega)) sk_X6_pace sv_X6_pace sw_365 (ci := 6) rfl sr_wC2 rfl rfl hl.1 (Nat.le_of_ble_eq_true rfl) (Nat.le_of_ble_eq_true rfl) (Nat.le_of_ble_eq_true rfl) dX6_headroom_40 ⟨Nat.zero_le _, Nat.zero_le _⟩ ?_
  refine lv_imul C0.1 C0.2.1 dX6_headroom_43 ?_
  refine lv_isub C0.1 C0.2.1 dX6_headroom_44 ?_
  exact hret _ _ _ dX6_headroom_45 (by rw [sr_maxwa]; rfl)
set_option maxRecDepth 100000 in
set_option maxHeartbeats 4000000 in
theorem cc_X6_meeting {l : Launch} {D : va_G} {cI cR : ClassId} {a : Nat → Nat} (ha : ∀ i j, i < 36 → j < 36 → a i = a j → i = j) {kp cx sg : sr_M} (cn : Nat) (co : Nat) (go : Nat) (mk : Int32) (sl : Int32) (hI : sr_IC kp cx) (hr_co : co < sr_cnt kp) (hr_go : go < sr_cnt kp) (hs_cn : cn < 3) (hb_mk : sr_b0 mk 40) (hl_sl : sr_bs sl) : sr_P l D (sr_tC cI cR) (sr_ZC a) (sr_WC cI cR a kp cx sg) yX6_meeting cX6_meeting 8 (some .int) 2 50 [.ref (a 2), .int (nI cn), .int (nI co), .int (nI go), .int mk, .int sl] (some (.int (sr_mt kp co go cn mk sl))) := by
  refine sr_Pie (by decide +kernel) (Nat.le_of_ble_eq_true rfl) (fun p e s m args below meth c ls Q B hret => ?_)
  obtain ⟨C0, hP, hK, hZ0, hl⟩ := B
  have hZ : sr_Zok (sr_AC a) (sr_ZC a) := sr_ZCok a
  have hS : va_S (sr_AC a) s.heap s.heap [] := va_S.rf
  have hl : lv_has ls 8 [(0, .ref (a 2)), (1, .int (nI cn)), (2, .int (nI co)), (3, .int (nI go)), (4, .int mk), (5, .int sl)] := hl
  have := sr_cnt5 kp
  have hz := sr_IK_zo5 (sr_IC_K hI)
  refine lv_iload C0.1 C0.2.1 dX6_meeting_0 (lv_at hl 4 rfl) ?_
  refine lv_aload_n C0.1 C0.2.1 dX6_meeting_2 rfl (lv_at hl 0 rfl) ?_
  refine lv_iload_n C0.1 C0.2.1 dX6_meeting_3 rfl (lv_at hl 2 rfl) ?_
  refine lv_iload_n C0.1 C0.2.1 dX6_meeting_4 rfl (lv_at hl 1 rfl) ?_
  refine sr_pVi (As := [.int (nI co), .int (nI cn)]) C0 hK hP hZ hZ0 (cc_X6_pace ha co cn hI (by first | omega | exact sr_th_at hT (by omega)) (by omega)) sk_X6_pace sv_X6_pace sw_365 (ci := 6) rfl sr_wC2 rfl rfl hl.1 (Nat.le_of_ble_eq_true rfl) (Nat.le_of_ble_eq_true rfl) (Nat.le_of_ble_eq_true rfl) dX6_meeting_5 ⟨Nat.zero_le _, Nat.zero_le _⟩ ?_
  refine lv_imul C0.1 C0.2.1 dX6_meeting_8 ?_
  refine lv_istore (lv' := [(6, .int (mk * (sr_pc kp co cn))), (0, .ref (a 2)), (1, .int (nI cn)), (2, .int (nI co)), (3, .int (nI go)), (4, .int mk), (5, .int sl)]) C0.1 C0.2.1 dX6_meeting_9 hl (by decide) rfl (fun ls hl => ?_)
  refine lv_iconst (v := 0) C0.1 C0.2.1 dX6_meeting_11 (by decide) ?_
  refine lv_istore (lv' := [(7, .int 0), (6, .int (mk * (sr_pc kp co cn))), (0, .ref (a 2)), (1, .int (nI cn)), (2, .int (nI co)), (3, .int (nI go)), (4, .int mk), (5, .int sl)]) C0.1 C0.2.1 dX6_meeting_12 hl (by decide) rfl (fun ls hl => ?_)
  have lp14 : ∀ (n14 : Nat) (i : Nat) (ls : Array Slot), (i ≤ sr_zo kp + 1) → (sr_zo kp + 2 ≤ i + n14) → (sr_mt kp co go cn mk sl = sr_fx (sr_mp kp co go cn mk sl) (sr_zo kp + 1 - i) i) → lv_has ls 8 [(7, .int (nI i)), (6, .int (mk * (sr_pc kp co cn))), (0, .ref (a 2)), (1, .int (nI cn)), (2, .int (nI co)), (3, .int (nI go)), (4, .int mk), (5, .int sl)] → W p l e (sr_rm 2 50) s m args below meth c s.heap [] 0 0 Q (F0 m 14 ls []) := by
    intro n14
    induction n14 with
    | zero =>
      intro i ls h_i h_n h_f hl
      exact absurd h_n (by omega)
    | succ n14 ih14 =>
      intro i ls h_i h_n h_f hl
      refine lv_iload C0.1 C0.2.1 dX6_meeting_14 (lv_at hl 0 rfl) ?_
      refine lv_aload_n C0.1 C0.2.1 dX6_meeting_16 rfl (lv_at hl 2 rfl) ?_
      refine sr_get (v := .ref (a 13)) C0 hK hP sr_inX6 sr_wC2 rfl 1 (by decide) sw_70 rfl dX6_meeting_17 ?_
      refine lv_iconst (v := 0) C0.1 C0.2.1 dX6_meeting_20 (by decide) ?_
      refine sr_ald (k := 0) C0 hK rfl hP sr_wC13 (by decide) (sr_inc (by decide)) dX6_meeting_21 ?_
      refine sr_chi (sr_IK_zo (sr_IC_K hI)) ?_
      have := sr_IK_zo5 (sr_IC_K hI)
      refine lv_icmp_gt (tgt := 50) C0.1 C0.2.1 dX6_meeting_22 (by decide) (fun c22 => ?_) (fun c22 => ?_)
      · have g22 : (sr_zo kp) < i := (nI_ltI (a := (sr_zo kp)) (b := i) (by omega) (by omega)).mp c22
        refine lv_iconst (v := (-1)) C0.1 C0.2.1 dX6_meeting_50 (by decide) ?_
        exact hret _ _ _ dX6_meeting_51 (by rw [h_f, show sr_zo kp + 1 - i = 0 by omega]; rfl)
      · have g22 : ¬ ((sr_zo kp) < i) := fun q => c22 ((nI_ltI (a := (sr_zo kp)) (b := i) (by omega) (by omega)).mpr q)
        refine lv_aload_n C0.1 C0.2.1 dX6_meeting_25 rfl (lv_at hl 2 rfl) ?_
        refine lv_iload_n C0.1 C0.2.1 dX6_meeting_26 rfl (lv_at hl 3 rfl) ?_
        refine lv_iload_n C0.1 C0.2.1 dX6_meeting_27 rfl (lv_at hl 4 rfl) ?_
        refine lv_iload_n C0.1 C0.2.1 dX6_meeting_28 rfl (lv_at hl 5 rfl) ?_
        refine lv_iload C0.1 C0.2.1 dX6_meeting_29 (lv_at hl 7 rfl) ?_
        refine lv_iload C0.1 C0.2.1 dX6_meeting_31 (lv_at hl 0 rfl) ?_
        refine sr_pVi (As := [.int (nI cn), .int (nI co), .int (nI go), .int sl, .int (nI i)]) C0 hK hP hZ hZ0 (cc_X6_headroom ha cn co go sl i hI (by first | omega | exact sr_th_at hT (by omega)) (by first | omega | exact sr_th_at hT (by omega)) (by omega)) sk_X6_headroom sv_X6_headroom sw_369 (ci := 6) rfl sr_wC2 rfl rfl hl.1 (Nat.le_of_ble_eq_true rfl) (Nat.le_of_ble_eq_true rfl) (Nat.le_of_ble_eq_true rfl) dX6_meeting_33 ⟨Nat.zero_le _, Nat.zero_le _⟩ ?_
        refine lv_iload C0.1 C0.2.1 dX6_meeting_36 (lv_at hl 1 rfl) ?_
        refine lv_icmp_lt (tgt := 44) C0.1 C0.2.1 dX6_meeting_38 (by decide) (fun c38 => ?_) (fun c38 => ?_)
        · have hno : ¬ sr_mp kp co go cn mk sl i = true := fun q => absurd ((sr_hd (sr_IC_K hI) hr_co hr_go hb_mk hl_sl (by omega)).mpr q) (Int32.not_le.mpr c38)
          refine lv_iinc (v := (nI (i + 1))) (lv' := [(7, .int (nI (i + 1))), (6, .int (mk * (sr_pc kp co cn))), (0, .ref (a 2)), (1, .int (nI cn)), (2, .int (nI co)), (3, .int (nI go)), (4, .int mk), (5, .int sl)]) C0.1 C0.2.1 dX6_meeting_44 hl (k := 0) rfl (nI_1 i) (by decide) rfl (fun ls hl => ?_)
          refine lv_goto (tgt := 14) C0.1 C0.2.1 dX6_meeting_47 (by decide) ?_
          exact ih14 (i + 1) _ (by omega) (by omega) (by rw [h_f, sr_fx_s (by omega), if_neg hno]) (lv_sub hl [0, 1, 2, 3, 4, 5, 6, 7] rfl)
        · refine lv_iload C0.1 C0.2.1 dX6_meeting_41 (lv_at hl 0 rfl) ?_
          exact hret _ _ _ dX6_meeting_43 (by rw [h_f, sr_fx_s (by omega), if_pos ((sr_hd (sr_IC_K hI) hr_co hr_go hb_mk hl_sl (by omega)).mp (Int32.not_lt.mp c38))])
  exact lp14 (sr_zo kp + 2) 0 _ (by omega) (by omega) rfl (lv_sub hl [0, 1, 2, 3, 4, 5, 6, 7] rfl)
set_option maxRecDepth 100000 in
set_option maxHeartbeats 4000000 in
theorem cc_X6_farthest {l : Launch} {D : va_G} {cI cR : ClassId} {a : Nat → Nat} (ha : ∀ i j, i < 36 → j < 36 → a i = a j → i = j) {kp cx sg : sr_M} (cn : Nat) (co : Nat) (go : Nat) (sl : Int32) (hI : sr_IC kp cx) (hr_co : co < sr_cnt kp) (hr_go : go < sr_cnt kp) (hs_cn : cn < 3) (hl_sl : sr_bs sl) : sr_P l D (sr_tC cI cR) (sr_ZC a) (sr_WC cI cR a kp cx sg) yX6_farthest cX6_farthest 8 (some .int) 2 50 [.ref (a 2), .int (nI cn), .int (nI co), .int (nI go), .int sl] (some (.int (nI (sr_best kp co go cn sl)))) := by
  refine sr_Pie (by decide +kernel) (Nat.le_of_ble_eq_true rfl) (fun p e s m args below meth c ls Q B hret => ?_)
  obtain ⟨C0, hP, hK, hZ0, hl⟩ := B
  have hZ : sr_Zok (sr_AC a) (sr_ZC a) := sr_ZCok a
  have hS : va_S (sr_AC a) s.heap s.heap [] := va_S.rf
  have hl : lv_has ls 8 [(0, .ref (a 2)), (1, .int (nI cn)), (2, .int (nI co)), (3, .int (nI go)), (4, .int sl)] := hl
  have := sr_cnt5 kp
  have hz := sr_IK_zo5 (sr_IC_K hI)
  refine lv_aload_n C0.1 C0.2.1 dX6_farthest_0 rfl (lv_at hl 0 rfl) ?_
  refine lv_iload_n C0.1 C0.2.1 dX6_farthest_1 rfl (lv_at hl 2 rfl) ?_
  refine lv_iload_n C0.1 C0.2.1 dX6_farthest_2 rfl (lv_at hl 1 rfl) ?_
  refine sr_pVi (As := [.int (nI co), .int (nI cn)]) C0 hK hP hZ hZ0 (cc_X6_pace ha co cn hI (by first | omega | exact sr_th_at hT (by omega)) (by omega)) sk_X6_pace sv_X6_pace sw_365 (ci := 6) rfl sr_wC2 rfl rfl hl.1 (Nat.le_of_ble_eq_true rfl) (Nat.le_of_ble_eq_true rfl) (Nat.le_of_ble_eq_true rfl) dX6_farthest_3 ⟨Nat.zero_le _, Nat.zero_le _⟩ ?_
  refine lv_istore (lv' := [(5, .int (sr_pc kp co cn)), (0, .ref (a 2)), (1, .int (nI cn)), (2, .int (nI co)), (3, .int (nI go)), (4, .int sl)]) C0.1 C0.2.1 dX6_farthest_6 hl (by decide) rfl (fun ls hl => ?_)
  refine lv_iload C0.1 C0.2.1 dX6_farthest_8 (lv_at hl 0 rfl) ?_
  refine lv_iconst (v := 1) C0.1 C0.2.1 dX6_farthest_10 (by decide) ?_
  refine lv_icmp_ge (tgt := 16) C0.1 C0.2.1 dX6_farthest_11 (by decide) (fun c11 => ?_) (fun c11 => ?_)
  · refine lv_iconst (v := 0) C0.1 C0.2.1 dX6_farthest_16 (by decide) ?_
    refine lv_istore (lv' := [(6, .int 0), (5, .int (sr_pc kp co cn)), (0, .ref (a 2)), (1, .int (nI cn)), (2, .int (nI co)), (3, .int (nI go)), (4, .int sl)]) C0.1 C0.2.1 dX6_farthest_17 hl (by decide) rfl (fun ls hl => ?_)
    refine lv_iconst (v := 0) C0.1 C0.2.1 dX6_farthest_19 (by decide) ?_
    refine lv_istore (lv' := [(7, .int 0), (6, .int 0), (5, .int (sr_pc kp co cn)), (0, .ref (a 2)), (1, .int (nI cn)), (2, .int (nI co)), (3, .int (nI go)), (4, .int sl)]) C0.1 C0.2.1 dX6_farthest_20 hl (by decide) rfl (fun ls hl => ?_)
    have lp22 : ∀ (n22 : Nat) (i : Nat) (ls : Array Slot), (i ≤ sr_zo kp + 1) → (sr_zo kp + 2 ≤ i + n22) → lv_has ls 8 [(7, .int (nI i)), (6, .int (sr_mx kp co go cn sl i)), (5, .int (sr_pc kp co cn)), (0, .ref (a 2)), (1, .int (nI cn)), (2, .int (nI co)), (3, .int (nI go)), (4, .int sl)] → W p l e (sr_rm 2 50) s m args below meth c s.heap [] 0 0 Q (F0 m 22 ls []) := by
      intro n22
      induction n22 with
      | zero =>
        intro i ls h_i h_n hl
        exact absurd h_n (by omega)
      | succ n22 ih22 =>
        intro i ls h_i h_n hl
        refine lv_iload C0.1 C0.2.1 dX6_farthest_22 (lv_at hl 0 rfl) ?_
        refine lv_aload_n C0.1 C0.2.1 dX6_farthest_24 rfl (lv_at hl 3 rfl) ?_
        refine sr_get (v := .ref (a 13)) C0 hK hP sr_inX6 sr_wC2 rfl 1 (by decide) sw_70 rfl dX6_farthest_25 ?_
        refine lv_iconst (v := 0) C0.1 C0.2.1 dX6_farthest_28 (by decide) ?_
        refine sr_ald (k := 0) C0 hK rfl hP sr_wC13 (by decide) (sr_inc (by decide)) dX6_farthest_29 ?_
        refine sr_chi (sr_IK_zo (sr_IC_K hI)) ?_
        have := sr_IK_zo5 (sr_IC_K hI)
        refine lv_icmp_gt (tgt := 57) C0.1 C0.2.1 dX6_farthest_30 (by decide) (fun c30 => ?_) (fun c30 => ?_)
        · have g30 : (sr_zo kp) < i := (nI_ltI (a := (sr_zo kp)) (b := i) (by omega) (by omega)).mp c30
          refine lv_bipush (v := 40) C0.1 C0.2.1 dX6_farthest_57 (by decide) ?_
          refine lv_iload C0.1 C0.2.1 dX6_farthest_59 (lv_at hl 1 rfl) ?_
          refine lv_iload C0.1 C0.2.1 dX6_farthest_61 (lv_at hl 2 rfl) ?_
          refine lv_idiv C0.1 C0.2.1 dX6_farthest_63 (sr_pcz (sr_IC_K hI) hr_co cn) ?_
          refine sr_pSi (As := [.int 40, .int ((sr_mx kp co go cn sl i) / (sr_pc kp co cn))]) C0 hK hP hZ hZ0 (cc_J9_min_7cf53 ha (40) ((sr_mx kp co go cn sl i) / (sr_pc kp co cn))) sk_J9_min_7cf53 (ss_J9_min_7cf53) sw_425 rfl rfl hl.1 (Nat.le_of_ble_eq_true rfl) (Nat.le_of_ble_eq_true rfl) (Nat.le_of_ble_eq_true rfl) dX6_farthest_64 ⟨Nat.zero_le _, Nat.zero_le _⟩ ?_
          exact hret _ _ _ dX6_farthest_67 (by rw [show i = sr_zo kp + 1 by omega]; exact sr_far (sr_IC_K hI) hr_co hr_go hl_sl)
        · have g30 : ¬ ((sr_zo kp) < i) := fun q => c30 ((nI_ltI (a := (sr_zo kp)) (b := i) (by omega) (by omega)).mpr q)
          refine lv_iload C0.1 C0.2.1 dX6_farthest_33 (lv_at hl 1 rfl) ?_
          refine lv_aload_n C0.1 C0.2.1 dX6_farthest_35 rfl (lv_at hl 3 rfl) ?_
          refine lv_iload_n C0.1 C0.2.1 dX6_farthest_36 rfl (lv_at hl 4 rfl) ?_
          refine lv_iload_n C0.1 C0.2.1 dX6_farthest_37 rfl (lv_at hl 5 rfl) ?_
          refine lv_iload_n C0.1 C0.2.1 dX6_farthest_38 rfl (lv_at hl 6 rfl) ?_
          refine lv_iload C0.1 C0.2.1 dX6_farthest_39 (lv_at hl 7 rfl) ?_
          refine lv_iload C0.1 C0.2.1 dX6_farthest_41 (lv_at hl 0 rfl) ?_
          refine sr_pVi (As := [.int (nI cn), .int (nI co), .int (nI go), .int sl, .int (nI i)]) C0 hK hP hZ hZ0 (cc_X6_headroom ha cn co go sl i hI (by first | omega | exact sr_th_at hT (by omega)) (by first | omega | exact sr_th_at hT (by omega)) (by omega)) sk_X6_headroom sv_X6_headroom sw_369 (ci := 6) rfl sr_wC2 rfl rfl hl.1 (Nat.le_of_ble_eq_true rfl) (Nat.le_of_ble_eq_true rfl) (Nat.le_of_ble_eq_true rfl) dX6_farthest_43 ⟨Nat.zero_le _, Nat.zero_le _⟩ ?_
          refine sr_pSi (As := [.int (sr_mx kp co go cn sl i), .int (sr_hr kp co go cn sl i)]) C0 hK hP hZ hZ0 (cc_J9_max_7cf53 ha (sr_mx kp co go cn sl i) (sr_hr kp co go cn sl i)) sk_J9_max_7cf53 (ss_J9_max_7cf53) sw_350 rfl rfl hl.1 (Nat.le_of_ble_eq_true rfl) (Nat.le_of_ble_eq_true rfl) (Nat.le_of_ble_eq_true rfl) dX6_farthest_46 ⟨Nat.zero_le _, Nat.zero_le _⟩ ?_
          refine lv_istore (lv' := [(6, .int (if (sr_mx kp co go cn sl i) < (sr_hr kp co go cn sl i) then (sr_hr kp co go cn sl i) else (sr_mx kp co go cn sl i))), (7, .int (nI i)), (5, .int (sr_pc kp co cn)), (0, .ref (a 2)), (1, .int (nI cn)), (2, .int (nI co)), (3, .int (nI go)), (4, .int sl)]) C0.1 C0.2.1 dX6_farthest_49 hl (by decide) rfl (fun ls hl => ?_)
          refine lv_iinc (v := (nI (i + 1))) (lv' := [(7, .int (nI (i + 1))), (6, .int (if (sr_mx kp co go cn sl i) < (sr_hr kp co go cn sl i) then (sr_hr kp co go cn sl i) else (sr_mx kp co go cn sl i))), (5, .int (sr_pc kp co cn)), (0, .ref (a 2)), (1, .int (nI cn)), (2, .int (nI co)), (3, .int (nI go)), (4, .int sl)]) C0.1 C0.2.1 dX6_farthest_51 hl (k := 1) rfl (nI_1 i) (by decide) rfl (fun ls hl => ?_)
          refine lv_goto (tgt := 22) C0.1 C0.2.1 dX6_farthest_54 (by decide) ?_
          exact ih22 (i + 1) _ (by omega) (by omega) (lv_sub hl [0, 1, 2, 3, 4, 5, 6, 7] rfl)
    exact lp22 (sr_zo kp + 2) 0 _ (by omega) (by omega) (lv_sub hl [0, 1, 2, 3, 4, 5, 6, 7] rfl)
  · refine lv_iconst (v := (-1)) C0.1 C0.2.1 dX6_farthest_14 (by decide) ?_
    exact hret _ _ _ dX6_farthest_15 (absurd (sr_pc1 (sr_IC_K hI) hr_co cn) c11)
set_option maxRecDepth 100000 in
set_option maxHeartbeats 4000000 in
theorem cc_X6_leg {l : Launch} {D : va_G} {cI cR : ClassId} {a : Nat → Nat} (ha : ∀ i j, i < 36 → j < 36 → a i = a j → i = j) {kp cx sg : sr_M} (cn : Nat) (co : Nat) (go : Nat) (mk : Int32) (sl : Int32) (hI : sr_IC kp cx) (hr_co : co < sr_cnt kp) (hr_go : go < sr_cnt kp) (hs_cn : cn < 3) (hb_mk : sr_b0 mk 40) (hl_sl : sr_bs sl) : sr_P l D (sr_tC cI cR) (sr_ZC a) (sr_WC cI cR a kp cx sg) yX6_leg cX6_leg 7 (some .int) 3 77 [.ref (a 2), .int (nI cn), .int (nI co), .int (nI go), .int mk, .int sl] (some (.int (sr_leg kp co go cn mk sl))) := by
  refine sr_Pie (by decide +kernel) (Nat.le_of_ble_eq_true rfl) (fun p e s m args below meth c ls Q B hret => ?_)
  obtain ⟨C0, hP, hK, hZ0, hl⟩ := B
  have hZ : sr_Zok (sr_AC a) (sr_ZC a) := sr_ZCok a
  have hS : va_S (sr_AC a) s.heap s.heap [] := va_S.rf
  have hl : lv_has ls 7 [(0, .ref (a 2)), (1, .int (nI cn)), (2, .int (nI co)), (3, .int (nI go)), (4, .int mk), (5, .int sl)] := hl
  have := sr_cnt5 kp
  refine lv_aload_n C0.1 C0.2.1 dX6_leg_0 rfl (lv_at hl 0 rfl) ?_
  refine lv_iload_n C0.1 C0.2.1 dX6_leg_1 rfl (lv_at hl 1 rfl) ?_
  refine lv_iload_n C0.1 C0.2.1 dX6_leg_2 rfl (lv_at hl 2 rfl) ?_
  refine lv_iload_n C0.1 C0.2.1 dX6_leg_3 rfl (lv_at hl 3 rfl) ?_
  refine lv_iload C0.1 C0.2.1 dX6_leg_4 (lv_at hl 4 rfl) ?_
  refine lv_iload C0.1 C0.2.1 dX6_leg_6 (lv_at hl 5 rfl) ?_
  refine sr_pVi (As := [.int (nI cn), .int (nI co), .int (nI go), .int mk, .int sl]) C0 hK hP hZ hZ0 (cc_X6_meeting ha cn co go mk sl hI (by first | omega | exact sr_th_at hT (by omega)) (by first | omega | exact sr_th_at hT (by omega)) (by omega) (by first | assumption | exact sr_IK_mb (sr_IC_K hI) (by omega) | exact sr_b0n (by omega)) (by first | assumption | exact sr_IK_sl (sr_IC_K hI) (by omega) | exact sr_bs0 | exact sr_bsp (sr_IC_K hI) (by omega))) sk_X6_meeting sv_X6_meeting sw_393 (ci := 6) rfl sr_wC2 rfl rfl hl.1 (Nat.le_of_ble_eq_true rfl) (Nat.le_of_ble_eq_true rfl) (Nat.le_of_ble_eq_true rfl) dX6_leg_8 ⟨Nat.zero_le _, Nat.zero_le _⟩ ?_
  refine lv_istore (lv' := [(6, .int (sr_mt kp co go cn mk sl)), (0, .ref (a 2)), (1, .int (nI cn)), (2, .int (nI co)), (3, .int (nI go)), (4, .int mk), (5, .int sl)]) C0.1 C0.2.1 dX6_leg_11 hl (by decide) rfl (fun ls hl => ?_)
  refine lv_iload C0.1 C0.2.1 dX6_leg_13 (lv_at hl 0 rfl) ?_
  refine lv_iconst (v := (-1)) C0.1 C0.2.1 dX6_leg_15 (by decide) ?_
  refine lv_icmp_ne (tgt := 21) C0.1 C0.2.1 dX6_leg_16 (by decide) (fun c16 => ?_) (fun c16 => ?_)
  · refine lv_aload_n C0.1 C0.2.1 dX6_leg_21 rfl (lv_at hl 1 rfl) ?_
    refine lv_iload_n C0.1 C0.2.1 dX6_leg_22 rfl (lv_at hl 2 rfl) ?_
    refine lv_iload_n C0.1 C0.2.1 dX6_leg_23 rfl (lv_at hl 3 rfl) ?_
    refine lv_iload C0.1 C0.2.1 dX6_leg_24 (lv_at hl 5 rfl) ?_
    refine lv_iload C0.1 C0.2.1 dX6_leg_26 (lv_at hl 6 rfl) ?_
    refine sr_pVi (As := [.int (nI cn), .int (nI co), .int mk, .int sl]) C0 hK hP hZ hZ0 (cc_X6_untilNext ha cn co mk sl hI (by first | omega | exact sr_th_at hT (by omega)) (by omega)) sk_X6_untilNext sv_X6_untilNext sw_394 (ci := 6) rfl sr_wC2 rfl rfl hl.1 (Nat.le_of_ble_eq_true rfl) (Nat.le_of_ble_eq_true rfl) (Nat.le_of_ble_eq_true rfl) dX6_leg_28 ⟨Nat.zero_le _, Nat.zero_le _⟩ ?_
    refine lv_iload C0.1 C0.2.1 dX6_leg_31 (lv_at hl 0 rfl) ?_
    have hJ46 : ∀ (k46_0 : Int32), k46_0 = (if (sr_mt kp co go cn mk sl) = 0 then (kp 2 5) else 0) → W p l e (sr_rm 3 77) s m args below meth c s.heap [] 0 0 Q (F0 m 46 ls [.int k46_0, .int (sr_Dl kp co cn mk sl)]) := by
      intro k46_0 e_k46_0
      subst e_k46_0
      refine lv_iadd C0.1 C0.2.1 dX6_leg_46 ?_
      exact hret _ _ _ dX6_leg_47 (by unfold sr_leg; rw [if_neg c16])
    refine lv_if_ne (tgt := 45) C0.1 C0.2.1 dX6_leg_33 (by decide) (fun c33 => ?_) (fun c33 => ?_)
    · refine lv_iconst (v := 0) C0.1 C0.2.1 dX6_leg_45 (by decide) ?_
      exact hJ46 _ (by rw [if_neg c33])
    · refine lv_aload_n C0.1 C0.2.1 dX6_leg_36 rfl (lv_at hl 1 rfl) ?_
      refine sr_get (v := .ref (a 13)) C0 hK hP sr_inX6 sr_wC2 rfl 1 (by decide) sw_70 rfl dX6_leg_37 ?_
      refine lv_iconst (v := 5) C0.1 C0.2.1 dX6_leg_40 (by decide) ?_
      refine sr_ald (k := 5) C0 hK rfl hP sr_wC13 (by decide) (sr_inc (by decide)) dX6_leg_41 ?_
      refine lv_goto (tgt := 46) C0.1 C0.2.1 dX6_leg_42 (by decide) ?_
      exact hJ46 _ (by rw [if_pos c33])
  · refine lv_iconst (v := (-1)) C0.1 C0.2.1 dX6_leg_19 (by decide) ?_
    exact hret _ _ _ dX6_leg_20 (by unfold sr_leg; rw [if_pos c16])
set_option maxRecDepth 100000 in
set_option maxHeartbeats 4000000 in
theorem cc_X6_kindOf {l : Launch} {D : va_G} {cI cR : ClassId} {a : Nat → Nat} (ha : ∀ i j, i < 36 → j < 36 → a i = a j → i = j) {kp cx sg : sr_M} (m_ : Int32) (hI : sr_IC kp cx) : sr_P l D (sr_tC cI cR) (sr_ZC a) (sr_WC cI cR a kp cx sg) yX6_kindOf cX6_kindOf 2 (some .int) 0 0 [.ref (a 2), .int m_] (some (.int (sr_kd kp m_))) := by
  refine sr_Pie (by decide +kernel) (Nat.le_of_ble_eq_true rfl) (fun p e s m args below meth c ls Q B hret => ?_)
  obtain ⟨C0, hP, hK, hZ0, hl⟩ := B
  have hZ : sr_Zok (sr_AC a) (sr_ZC a) := sr_ZCok a
  have hS : va_S (sr_AC a) s.heap s.heap [] := va_S.rf
  have hl : lv_has ls 2 [(0, .ref (a 2)), (1, .int m_)] := hl
  refine lv_iload_n C0.1 C0.2.1 dX6_kindOf_0 rfl (lv_at hl 1 rfl) ?_
  refine lv_iconst (v := (-1)) C0.1 C0.2.1 dX6_kindOf_1 (by decide) ?_
  refine lv_icmp_ne (tgt := 7) C0.1 C0.2.1 dX6_kindOf_2 (by decide) (fun c2 => ?_) (fun c2 => ?_)
  · refine lv_iload_n C0.1 C0.2.1 dX6_kindOf_7 rfl (lv_at hl 1 rfl) ?_
    refine lv_if_ne (tgt := 13) C0.1 C0.2.1 dX6_kindOf_8 (by decide) (fun c8 => ?_) (fun c8 => ?_)
    · refine lv_iload_n C0.1 C0.2.1 dX6_kindOf_13 rfl (lv_at hl 1 rfl) ?_
      refine lv_aload_n C0.1 C0.2.1 dX6_kindOf_14 rfl (lv_at hl 0 rfl) ?_
      refine sr_get (v := .ref (a 13)) C0 hK hP sr_inX6 sr_wC2 rfl 1 (by decide) sw_70 rfl dX6_kindOf_15 ?_
      refine lv_iconst (v := 0) C0.1 C0.2.1 dX6_kindOf_18 (by decide) ?_
      refine sr_ald (k := 0) C0 hK rfl hP sr_wC13 (by decide) (sr_inc (by decide)) dX6_kindOf_19 ?_
      refine sr_chi (sr_IK_zo (sr_IC_K hI)) ?_
      have := sr_IK_zo5 (sr_IC_K hI)
      refine lv_iconst (v := 2) C0.1 C0.2.1 dX6_kindOf_20 (by decide) ?_
      refine lv_isub C0.1 C0.2.1 dX6_kindOf_21 ?_
      refine lv_icmp_lt (tgt := 29) C0.1 C0.2.1 dX6_kindOf_22 (by decide) (fun c22 => ?_) (fun c22 => ?_)
      · refine lv_iconst (v := 0) C0.1 C0.2.1 dX6_kindOf_29 (by decide) ?_
        exact hret _ _ _ dX6_kindOf_30 (by unfold sr_kd; rw [if_neg c2, if_neg c8, if_pos c22])
      · refine lv_iconst (v := 1) C0.1 C0.2.1 dX6_kindOf_25 (by decide) ?_
        refine lv_goto (tgt := 30) C0.1 C0.2.1 dX6_kindOf_26 (by decide) ?_
        exact hret _ _ _ dX6_kindOf_30 (by unfold sr_kd; rw [if_neg c2, if_neg c8, if_neg c22])
    · refine lv_iconst (v := 2) C0.1 C0.2.1 dX6_kindOf_11 (by decide) ?_
      exact hret _ _ _ dX6_kindOf_12 (by unfold sr_kd; rw [if_neg c2, if_pos c8])
  · refine lv_iconst (v := 3) C0.1 C0.2.1 dX6_kindOf_5 (by decide) ?_
    exact hret _ _ _ dX6_kindOf_6 (by unfold sr_kd; rw [if_pos c2])
