set_option maxRecDepth 100000 in
set_option maxHeartbeats 4000000 in
theorem cc_J9_min_7cf53 {l : Launch} {D : va_G} {cI cR : ClassId} {a : Nat → Nat} (ha : ∀ i j, i < 36 → j < 36 → a i = a j → i = j) {kp cx sg : sr_M} (x : Int32) (y : Int32) : sr_P l D (sr_tC cI cR) (sr_ZC a) (sr_WC cI cR a kp cx sg) yJ9_min_7cf53 cJ9_min_7cf53 2 (some .int) 0 0 [.int x, .int y] (some (.int (if y < x then y else x))) := by
  refine sr_Pie (by decide +kernel) (Nat.le_of_ble_eq_true rfl) (fun p e s m args below meth c ls Q B hret => ?_)
  obtain ⟨C0, hP, hK, hZ0, hl⟩ := B
  have hZ : sr_Zok (sr_AC a) (sr_ZC a) := sr_ZCok a
  have hS : va_S (sr_AC a) s.heap s.heap [] := va_S.rf
  have hl : lv_has ls 2 [(0, .int x), (1, .int y)] := hl
  refine lv_iload_n C0.1 C0.2.1 dJ9_min_7cf53_0 rfl (lv_at hl 0 rfl) ?_
  refine lv_iload_n C0.1 C0.2.1 dJ9_min_7cf53_1 rfl (lv_at hl 1 rfl) ?_
  refine lv_icmp_gt (tgt := 9) C0.1 C0.2.1 dJ9_min_7cf53_2 (by decide) (fun c2 => ?_) (fun c2 => ?_)
  · refine lv_iload_n C0.1 C0.2.1 dJ9_min_7cf53_9 rfl (lv_at hl 1 rfl) ?_
    exact hret _ _ _ dJ9_min_7cf53_10 (by first | exact (if_pos (by assumption)).symm | exact (if_neg (by assumption)).symm)
  · refine lv_iload_n C0.1 C0.2.1 dJ9_min_7cf53_5 rfl (lv_at hl 0 rfl) ?_
    refine lv_goto (tgt := 10) C0.1 C0.2.1 dJ9_min_7cf53_6 (by decide) ?_
    exact hret _ _ _ dJ9_min_7cf53_10 (by first | exact (if_pos (by assumption)).symm | exact (if_neg (by assumption)).symm)
set_option maxRecDepth 100000 in
set_option maxHeartbeats 4000000 in
theorem cc_J9_max_7cf53 {l : Launch} {D : va_G} {cI cR : ClassId} {a : Nat → Nat} (ha : ∀ i j, i < 36 → j < 36 → a i = a j → i = j) {kp cx sg : sr_M} (x : Int32) (y : Int32) : sr_P l D (sr_tC cI cR) (sr_ZC a) (sr_WC cI cR a kp cx sg) yJ9_max_7cf53 cJ9_max_7cf53 2 (some .int) 0 0 [.int x, .int y] (some (.int (if x < y then y else x))) := by
  refine sr_Pie (by decide +kernel) (Nat.le_of_ble_eq_true rfl) (fun p e s m args below meth c ls Q B hret => ?_)
  obtain ⟨C0, hP, hK, hZ0, hl⟩ := B
  have hZ : sr_Zok (sr_AC a) (sr_ZC a) := sr_ZCok a
  have hS : va_S (sr_AC a) s.heap s.heap [] := va_S.rf
  have hl : lv_has ls 2 [(0, .int x), (1, .int y)] := hl
  refine lv_iload_n C0.1 C0.2.1 dJ9_max_7cf53_0 rfl (lv_at hl 0 rfl) ?_
  refine lv_iload_n C0.1 C0.2.1 dJ9_max_7cf53_1 rfl (lv_at hl 1 rfl) ?_
  refine lv_icmp_lt (tgt := 9) C0.1 C0.2.1 dJ9_max_7cf53_2 (by decide) (fun c2 => ?_) (fun c2 => ?_)
  · refine lv_iload_n C0.1 C0.2.1 dJ9_max_7cf53_9 rfl (lv_at hl 1 rfl) ?_
    exact hret _ _ _ dJ9_max_7cf53_10 (by first | exact (if_pos (by assumption)).symm | exact (if_neg (by assumption)).symm)
  · refine lv_iload_n C0.1 C0.2.1 dJ9_max_7cf53_5 rfl (lv_at hl 0 rfl) ?_
    refine lv_goto (tgt := 10) C0.1 C0.2.1 dJ9_max_7cf53_6 (by decide) ?_
    exact hret _ _ _ dJ9_max_7cf53_10 (by first | exact (if_pos (by assumption)).symm | exact (if_neg (by assumption)).symm)
set_option maxRecDepth 100000 in
set_option maxHeartbeats 4000000 in
theorem cc_X7_outside {l : Launch} {D : va_G} {cI cR : ClassId} {a : Nat → Nat} (ha : ∀ i j, i < 36 → j < 36 → a i = a j → i = j) {kp cx sg : sr_M} (v : Int32) (lo : Int32) (hi : Int32) : sr_P l D (sr_tC cI cR) (sr_ZC a) (sr_WC cI cR a kp cx sg) yX7_outside cX7_outside 3 (some .boolean) 0 0 [.int v, .int lo, .int hi] (some (.int (if v < lo ∨ hi < v then 1 else 0))) := by
  refine sr_Pze (by decide +kernel) (Nat.le_of_ble_eq_true rfl) (fun p e s m args below meth c ls Q B hret => ?_)
  obtain ⟨C0, hP, hK, hZ0, hl⟩ := B
  have hZ : sr_Zok (sr_AC a) (sr_ZC a) := sr_ZCok a
  have hS : va_S (sr_AC a) s.heap s.heap [] := va_S.rf
  have hl : lv_has ls 3 [(0, .int v), (1, .int lo), (2, .int hi)] := hl
  refine lv_iload_n C0.1 C0.2.1 dX7_outside_0 rfl (lv_at hl 0 rfl) ?_
  refine lv_iload_n C0.1 C0.2.1 dX7_outside_1 rfl (lv_at hl 1 rfl) ?_
  refine lv_icmp_lt (tgt := 10) C0.1 C0.2.1 dX7_outside_2 (by decide) (fun c2 => ?_) (fun c2 => ?_)
  · refine lv_iconst (v := 1) C0.1 C0.2.1 dX7_outside_10 (by decide) ?_
    refine lv_goto (tgt := 15) C0.1 C0.2.1 dX7_outside_11 (by decide) ?_
    exact hret _ _ _ dX7_outside_15 (by first | exact (if_pos (Or.inl (by assumption))).symm | exact (if_pos (Or.inr (Int32.not_le.mp (by assumption)))).symm | exact (if_neg (fun q => q.elim (by assumption) (Int32.not_lt.mpr (by assumption)))).symm)
  · refine lv_iload_n C0.1 C0.2.1 dX7_outside_5 rfl (lv_at hl 0 rfl) ?_
    refine lv_iload_n C0.1 C0.2.1 dX7_outside_6 rfl (lv_at hl 2 rfl) ?_
    refine lv_icmp_le (tgt := 14) C0.1 C0.2.1 dX7_outside_7 (by decide) (fun c7 => ?_) (fun c7 => ?_)
    · refine lv_iconst (v := 0) C0.1 C0.2.1 dX7_outside_14 (by decide) ?_
      exact hret _ _ _ dX7_outside_15 (by first | exact (if_pos (Or.inl (by assumption))).symm | exact (if_pos (Or.inr (Int32.not_le.mp (by assumption)))).symm | exact (if_neg (fun q => q.elim (by assumption) (Int32.not_lt.mpr (by assumption)))).symm)
    · refine lv_iconst (v := 1) C0.1 C0.2.1 dX7_outside_10 (by decide) ?_
      refine lv_goto (tgt := 15) C0.1 C0.2.1 dX7_outside_11 (by decide) ?_
      exact hret _ _ _ dX7_outside_15 (by first | exact (if_pos (Or.inl (by assumption))).symm | exact (if_pos (Or.inr (Int32.not_le.mp (by assumption)))).symm | exact (if_neg (fun q => q.elim (by assumption) (Int32.not_lt.mpr (by assumption)))).symm)
set_option maxRecDepth 100000 in
set_option maxHeartbeats 4000000 in
theorem cc_X6_span {l : Launch} {D : va_G} {cI cR : ClassId} {a : Nat → Nat} (ha : ∀ i j, i < 36 → j < 36 → a i = a j → i = j) {kp cx sg : sr_M} (r : Nat) (u : Nat) (y : Int32) (hI : sr_IC kp cx) (hr_r : r < sr_cnt kp) (hs_u : u < 4) : sr_P l D (sr_tC cI cR) (sr_ZC a) (sr_WC cI cR a kp cx sg) yX6_span cX6_span 5 (some .int) 1 21 [.ref (a 2), .int (nI r), .int (nI u), .int y] (some (.int (sr_T kp r u y))) := by
  refine sr_Pie (by decide +kernel) (Nat.le_of_ble_eq_true rfl) (fun p e s m args below meth c ls Q B hret => ?_)
  obtain ⟨C0, hP, hK, hZ0, hl⟩ := B
  have hZ : sr_Zok (sr_AC a) (sr_ZC a) := sr_ZCok a
  have hS : va_S (sr_AC a) s.heap s.heap [] := va_S.rf
  have hl : lv_has ls 5 [(0, .ref (a 2)), (1, .int (nI r)), (2, .int (nI u)), (3, .int y)] := hl
  have := sr_cnt5 kp
  refine lv_iload_n C0.1 C0.2.1 dX6_span_0 rfl (lv_at hl 3 rfl) ?_
  refine lv_iconst (v := 4) C0.1 C0.2.1 dX6_span_1 (by decide) ?_
  refine lv_aload_n C0.1 C0.2.1 dX6_span_2 rfl (lv_at hl 0 rfl) ?_
  refine sr_get (v := .ref (a 1)) C0 hK hP sr_inX6 sr_wC2 rfl 0 (by decide) sw_69 rfl dX6_span_3 ?_
  refine sr_get (v := .ref (a 11)) C0 hK hP sr_inX4 sr_wC1 rfl 3 (by decide) sw_34 rfl dX6_span_6 ?_
  refine lv_iload_n C0.1 C0.2.1 dX6_span_9 rfl (lv_at hl 1 rfl) ?_
  refine sr_ald (k := r) C0 hK rfl hP sr_wC11 (nI_clamp (by omega)) (vp_in_nI (by omega) (by omega)) dX6_span_10 ?_
  refine sr_chi (sr_IC_f2 hI (by first | assumption | omega | exact sr_th_at hT (by omega))) ?_
  refine lv_imul C0.1 C0.2.1 dX6_span_11 ?_
  refine sr_pSi (As := [.int y, .int (4 * (sr_fig kp r 2))]) C0 hK hP hZ hZ0 (cc_J9_min_7cf53 ha y (4 * (sr_fig kp r 2))) sk_J9_min_7cf53 (ss_J9_min_7cf53) sw_333 rfl rfl hl.1 (Nat.le_of_ble_eq_true rfl) (Nat.le_of_ble_eq_true rfl) (Nat.le_of_ble_eq_true rfl) dX6_span_12 ⟨Nat.zero_le _, Nat.zero_le _⟩ ?_
  refine lv_istore (lv' := [(4, .int (if (4 * (sr_fig kp r 2)) < y then (4 * (sr_fig kp r 2)) else y)), (0, .ref (a 2)), (1, .int (nI r)), (2, .int (nI u)), (3, .int y)]) C0.1 C0.2.1 dX6_span_15 hl (by decide) rfl (fun ls hl => ?_)
  refine lv_iload_n C0.1 C0.2.1 dX6_span_17 rfl (lv_at hl 4 rfl) ?_
  refine lv_aload_n C0.1 C0.2.1 dX6_span_18 rfl (lv_at hl 1 rfl) ?_
  refine sr_get (v := .ref (a 14)) C0 hK hP sr_inX6 sr_wC2 rfl 2 (by decide) sw_73 rfl dX6_span_19 ?_
  refine lv_iload_n C0.1 C0.2.1 dX6_span_22 rfl (lv_at hl 3 rfl) ?_
  refine sr_ald (k := u) C0 hK rfl hP sr_wC14 (nI_clamp (by omega)) (vp_in_nI (by omega) (by omega)) dX6_span_23 ?_
  refine sr_chi (sr_IC_ex hI (by omega)) ?_
  refine lv_imul C0.1 C0.2.1 dX6_span_24 ?_
  refine lv_iload C0.1 C0.2.1 dX6_span_25 (lv_at hl 0 rfl) ?_
  refine lv_aload_n C0.1 C0.2.1 dX6_span_27 rfl (lv_at hl 1 rfl) ?_
  refine sr_get (v := .ref (a 1)) C0 hK hP sr_inX6 sr_wC2 rfl 0 (by decide) sw_69 rfl dX6_span_28 ?_
  refine sr_get (v := .ref (a 10)) C0 hK hP sr_inX4 sr_wC1 rfl 2 (by decide) sw_32 rfl dX6_span_31 ?_
  refine lv_iload_n C0.1 C0.2.1 dX6_span_34 rfl (lv_at hl 2 rfl) ?_
  refine sr_ald (k := r) C0 hK rfl hP sr_wC10 (nI_clamp (by omega)) (vp_in_nI (by omega) (by omega)) dX6_span_35 ?_
  refine sr_chi (sr_IC_f1 hI (by first | assumption | omega | exact sr_th_at hT (by omega))) ?_
  refine lv_imul C0.1 C0.2.1 dX6_span_36 ?_
  refine lv_iadd C0.1 C0.2.1 dX6_span_37 ?_
  refine lv_iload_n C0.1 C0.2.1 dX6_span_38 rfl (lv_at hl 4 rfl) ?_
  refine lv_iload C0.1 C0.2.1 dX6_span_39 (lv_at hl 0 rfl) ?_
  refine lv_isub C0.1 C0.2.1 dX6_span_41 ?_
  refine lv_aload_n C0.1 C0.2.1 dX6_span_42 rfl (lv_at hl 1 rfl) ?_
  refine sr_get (v := .ref (a 1)) C0 hK hP sr_inX6 sr_wC2 rfl 0 (by decide) sw_69 rfl dX6_span_43 ?_
  refine sr_get (v := .ref (a 9)) C0 hK hP sr_inX4 sr_wC1 rfl 1 (by decide) sw_30 rfl dX6_span_46 ?_
  refine lv_iload_n C0.1 C0.2.1 dX6_span_49 rfl (lv_at hl 2 rfl) ?_
  refine sr_ald (k := r) C0 hK rfl hP sr_wC9 (nI_clamp (by omega)) (vp_in_nI (by omega) (by omega)) dX6_span_50 ?_
  refine sr_chi (sr_IC_f0 hI (by first | assumption | omega | exact sr_th_at hT (by omega))) ?_
  refine lv_imul C0.1 C0.2.1 dX6_span_51 ?_
  refine lv_iadd C0.1 C0.2.1 dX6_span_52 ?_
  exact hret _ _ _ dX6_span_53 (sr_spanT kp r u y)
set_option maxRecDepth 100000 in
set_option maxHeartbeats 4000000 in
theorem cc_X6_pace {l : Launch} {D : va_G} {cI cR : ClassId} {a : Nat → Nat} (ha : ∀ i j, i < 36 → j < 36 → a i = a j → i = j) {kp cx sg : sr_M} (r : Nat) (u : Nat) (hI : sr_IC kp cx) (hr_r : r < sr_cnt kp) (hs_u : u < 4) : sr_P l D (sr_tC cI cR) (sr_ZC a) (sr_WC cI cR a kp cx sg) yX6_pace cX6_pace 3 (some .int) 0 0 [.ref (a 2), .int (nI r), .int (nI u)] (some (.int (sr_pc kp r u))) := by
  refine sr_Pie (by decide +kernel) (Nat.le_of_ble_eq_true rfl) (fun p e s m args below meth c ls Q B hret => ?_)
  obtain ⟨C0, hP, hK, hZ0, hl⟩ := B
  have hZ : sr_Zok (sr_AC a) (sr_ZC a) := sr_ZCok a
  have hS : va_S (sr_AC a) s.heap s.heap [] := va_S.rf
  have hl : lv_has ls 3 [(0, .ref (a 2)), (1, .int (nI r)), (2, .int (nI u))] := hl
  have := sr_cnt5 kp
  refine lv_aload_n C0.1 C0.2.1 dX6_pace_0 rfl (lv_at hl 0 rfl) ?_
  refine sr_get (v := .ref (a 1)) C0 hK hP sr_inX6 sr_wC2 rfl 0 (by decide) sw_69 rfl dX6_pace_1 ?_
  refine sr_get (v := .ref (a 9)) C0 hK hP sr_inX4 sr_wC1 rfl 1 (by decide) sw_30 rfl dX6_pace_4 ?_
  refine lv_iload_n C0.1 C0.2.1 dX6_pace_7 rfl (lv_at hl 1 rfl) ?_
  refine sr_ald (k := r) C0 hK rfl hP sr_wC9 (nI_clamp (by omega)) (vp_in_nI (by omega) (by omega)) dX6_pace_8 ?_
  refine sr_chi (sr_IC_f0 hI (by first | assumption | omega | exact sr_th_at hT (by omega))) ?_
  refine lv_aload_n C0.1 C0.2.1 dX6_pace_9 rfl (lv_at hl 0 rfl) ?_
  refine sr_get (v := .ref (a 14)) C0 hK hP sr_inX6 sr_wC2 rfl 2 (by decide) sw_73 rfl dX6_pace_10 ?_
  refine lv_iload_n C0.1 C0.2.1 dX6_pace_13 rfl (lv_at hl 2 rfl) ?_
  refine sr_ald (k := u) C0 hK rfl hP sr_wC14 (nI_clamp (by omega)) (vp_in_nI (by omega) (by omega)) dX6_pace_14 ?_
  refine sr_chi (sr_IC_ex hI (by omega)) ?_
  refine lv_iadd C0.1 C0.2.1 dX6_pace_15 ?_
  exact hret _ _ _ dX6_pace_16 rfl
