set_option maxRecDepth 100000 in
set_option maxHeartbeats 4000000 in
theorem cc_X8_in {l : Launch} {D : va_G} {cI : ClassId} {a : Nat → Nat} (ha : ∀ i j, i < 13 → j < 13 → a i = a j → i = j) {kp cx sg : sr_M} (v_ : Int64) (lo_ : Int64) (hi_ : Int64) : sr_P l D (sr_tM cI) (sr_ZM) (sr_WM cI a kp cx sg) yX8_in cX8_in 6 (some .boolean) 0 0 [.long v_, .long lo_, .long hi_] (some (.int (if ¬ v_ < lo_ ∧ ¬ hi_ < v_ then 1 else 0))) := by
  refine sr_Pze (by decide +kernel) (Nat.le_of_ble_eq_true rfl) (fun p e s m args below meth c ls Q B hret => ?_)
  obtain ⟨C0, hP, hK, hZ0, hl⟩ := B
  have hZ : sr_Zok (sr_AM a) (sr_ZM) := sr_ZMok
  have hS : va_S (sr_AM a) s.heap s.heap [] := va_S.rf
  have hl : lv_has ls 6 [(0, .long v_), (2, .long lo_), (4, .long hi_)] := hl
  refine lv_lload_n C0.1 C0.2.1 dX8_in_0 rfl (lv_at hl 0 rfl) ?_
  refine lv_lload_n C0.1 C0.2.1 dX8_in_1 rfl (lv_at hl 1 rfl) ?_
  refine W.lcmp C0.1 C0.2.1 dX8_in_2 ?_
  refine sr_lclt (tgt := 17) C0 dX8_in_3 (by decide) (fun c3 => ?_) (fun c3 => ?_)
  · refine lv_iconst (v := 0) C0.1 C0.2.1 dX8_in_17 (by decide) ?_
    exact hret _ _ _ dX8_in_18 (if_neg (fun q => q.1 c3)).symm
  · refine lv_lload_n C0.1 C0.2.1 dX8_in_6 rfl (lv_at hl 0 rfl) ?_
    refine lv_lload C0.1 C0.2.1 dX8_in_7 (lv_at hl 2 rfl) ?_
    refine W.lcmp C0.1 C0.2.1 dX8_in_9 ?_
    refine sr_lcgt (tgt := 17) C0 dX8_in_10 (by decide) (fun c10 => ?_) (fun c10 => ?_)
    · refine lv_iconst (v := 0) C0.1 C0.2.1 dX8_in_17 (by decide) ?_
      exact hret _ _ _ dX8_in_18 (if_neg (fun q => q.2 c10)).symm
    · refine lv_iconst (v := 1) C0.1 C0.2.1 dX8_in_13 (by decide) ?_
      refine lv_goto (tgt := 18) C0.1 C0.2.1 dX8_in_14 (by decide) ?_
      exact hret _ _ _ dX8_in_18 (if_pos ⟨c3, c10⟩).symm
theorem cc_X8_inI {l : Launch} {D : va_G} {cI : ClassId} {a : Nat → Nat} (ha : ∀ i j, i < 13 → j < 13 → a i = a j → i = j) {kp cx sg : sr_M} (v_ lo_ hi_ : Int32) {v64 lo64 hi64 : Int64} (h0 : v_.toInt64 = v64) (h1 : lo_.toInt64 = lo64) (h2 : hi_.toInt64 = hi64) : sr_P l D (sr_tM cI) sr_ZM (sr_WM cI a kp cx sg) yX8_in cX8_in 6 (some .boolean) 0 0 [.long v64, .long lo64, .long hi64] (some (.int (if ¬ (v_ < lo_ ∨ hi_ < v_) then 1 else 0))) := by
  subst h0
  subst h1
  subst h2
  rw [← sr_ifc (sr_in64 v_ lo_ hi_)]
  exact cc_X8_in ha _ _ _
set_option maxRecDepth 100000 in
set_option maxHeartbeats 4000000 in
theorem cc_X8_isTwo {l : Launch} {D : va_G} {cI : ClassId} {a : Nat → Nat} (ha : ∀ i j, i < 13 → j < 13 → a i = a j → i = j) {kp cx sg : sr_M} (x_ : Int32) : sr_P l D (sr_tM cI) (sr_ZM) (sr_WM cI a kp cx sg) yX8_isTwo cX8_isTwo 1 (some .boolean) 1 25 [.int x_] (some (.int (if ¬ (x_ < 0 ∨ 1 < x_) then 1 else 0))) := by
  refine sr_Pze (by decide +kernel) (Nat.le_of_ble_eq_true rfl) (fun p e s m args below meth c ls Q B hret => ?_)
  obtain ⟨C0, hP, hK, hZ0, hl⟩ := B
  have hZ : sr_Zok (sr_AM a) (sr_ZM) := sr_ZMok
  have hS : va_S (sr_AM a) s.heap s.heap [] := va_S.rf
  have hl : lv_has ls 1 [(0, .int x_)] := hl
  refine lv_iload_n C0.1 C0.2.1 dX8_isTwo_0 rfl (lv_at hl 0 rfl) ?_
  refine lv_i2l C0.1 C0.2.1 dX8_isTwo_1 rfl ?_
  refine lv_lconst (v := 0) C0.1 C0.2.1 dX8_isTwo_2 (by decide) ?_
  refine lv_lconst (v := 1) C0.1 C0.2.1 dX8_isTwo_3 (by decide) ?_
  refine sr_pSi (As := [.long ((x_).toInt64), .long 0, .long 1]) C0 hK hP hZ hZ0 (cc_X8_inI ha (x_) (0 : Int32) (1 : Int32) rfl (by decide) (by decide)) sk_X8_in (ss_X8_in) sw_670 rfl rfl hl.1 (Nat.le_of_ble_eq_true rfl) (Nat.le_of_ble_eq_true rfl) (Nat.le_of_ble_eq_true rfl) dX8_isTwo_4 ⟨Nat.zero_le _, Nat.zero_le _⟩ ?_
  exact hret _ _ _ dX8_isTwo_7 rfl
set_option maxRecDepth 100000 in
set_option maxHeartbeats 4000000 in
theorem cc_X8_isSheet {l : Launch} {D : va_G} {cI : ClassId} {a : Nat → Nat} (ha : ∀ i j, i < 13 → j < 13 → a i = a j → i = j) {kp cx sg : sr_M} (x_ : Int32) : sr_P l D (sr_tM cI) (sr_ZM) (sr_WM cI a kp cx sg) yX8_isSheet cX8_isSheet 1 (some .boolean) 1 25 [.int x_] (some (.int (if ¬ (x_ < 0 ∨ 3 < x_) then 1 else 0))) := by
  refine sr_Pze (by decide +kernel) (Nat.le_of_ble_eq_true rfl) (fun p e s m args below meth c ls Q B hret => ?_)
  obtain ⟨C0, hP, hK, hZ0, hl⟩ := B
  have hZ : sr_Zok (sr_AM a) (sr_ZM) := sr_ZMok
  have hS : va_S (sr_AM a) s.heap s.heap [] := va_S.rf
  have hl : lv_has ls 1 [(0, .int x_)] := hl
  refine lv_iload_n C0.1 C0.2.1 dX8_isSheet_0 rfl (lv_at hl 0 rfl) ?_
  refine lv_i2l C0.1 C0.2.1 dX8_isSheet_1 rfl ?_
  refine lv_lconst (v := 0) C0.1 C0.2.1 dX8_isSheet_2 (by decide) ?_
  refine lv_ldc2 (v := 3) C0.1 C0.2.1 C0.2.2.2.1 (C0.2.2.2.2 _ sw_669) dX8_isSheet_3 ?_
  refine sr_pSi (As := [.long ((x_).toInt64), .long 0, .long 3]) C0 hK hP hZ hZ0 (cc_X8_inI ha (x_) (0 : Int32) (3 : Int32) rfl (by decide) (by decide)) sk_X8_in (ss_X8_in) sw_670 rfl rfl hl.1 (Nat.le_of_ble_eq_true rfl) (Nat.le_of_ble_eq_true rfl) (Nat.le_of_ble_eq_true rfl) dX8_isSheet_6 ⟨Nat.zero_le _, Nat.zero_le _⟩ ?_
  exact hret _ _ _ dX8_isSheet_9 rfl
set_option maxRecDepth 100000 in
set_option maxHeartbeats 4000000 in
theorem cc_X8_isStretch {l : Launch} {D : va_G} {cI : ClassId} {a : Nat → Nat} (ha : ∀ i j, i < 13 → j < 13 → a i = a j → i = j) {kp cx sg : sr_M} (x_ : Int32) : sr_P l D (sr_tM cI) (sr_ZM) (sr_WM cI a kp cx sg) yX8_isStretch cX8_isStretch 1 (some .boolean) 1 25 [.int x_] (some (.int (if ¬ (x_ < 0 ∨ 3 < x_) then 1 else 0))) := by
  refine sr_Pze (by decide +kernel) (Nat.le_of_ble_eq_true rfl) (fun p e s m args below meth c ls Q B hret => ?_)
  obtain ⟨C0, hP, hK, hZ0, hl⟩ := B
  have hZ : sr_Zok (sr_AM a) (sr_ZM) := sr_ZMok
  have hS : va_S (sr_AM a) s.heap s.heap [] := va_S.rf
  have hl : lv_has ls 1 [(0, .int x_)] := hl
  refine lv_iload_n C0.1 C0.2.1 dX8_isStretch_0 rfl (lv_at hl 0 rfl) ?_
  refine lv_i2l C0.1 C0.2.1 dX8_isStretch_1 rfl ?_
  refine lv_lconst (v := 0) C0.1 C0.2.1 dX8_isStretch_2 (by decide) ?_
  refine lv_ldc2 (v := 3) C0.1 C0.2.1 C0.2.2.2.1 (C0.2.2.2.2 _ sw_669) dX8_isStretch_3 ?_
  refine sr_pSi (As := [.long ((x_).toInt64), .long 0, .long 3]) C0 hK hP hZ hZ0 (cc_X8_inI ha (x_) (0 : Int32) (3 : Int32) rfl (by decide) (by decide)) sk_X8_in (ss_X8_in) sw_670 rfl rfl hl.1 (Nat.le_of_ble_eq_true rfl) (Nat.le_of_ble_eq_true rfl) (Nat.le_of_ble_eq_true rfl) dX8_isStretch_6 ⟨Nat.zero_le _, Nat.zero_le _⟩ ?_
  exact hret _ _ _ dX8_isStretch_9 rfl
set_option maxRecDepth 100000 in
set_option maxHeartbeats 4000000 in
theorem cc_X8_isChange {l : Launch} {D : va_G} {cI : ClassId} {a : Nat → Nat} (ha : ∀ i j, i < 13 → j < 13 → a i = a j → i = j) {kp cx sg : sr_M} (x_ : Int32) : sr_P l D (sr_tM cI) (sr_ZM) (sr_WM cI a kp cx sg) yX8_isChange cX8_isChange 1 (some .boolean) 1 25 [.int x_] (some (.int (if ¬ (x_ < 0 ∨ 2 < x_) then 1 else 0))) := by
  refine sr_Pze (by decide +kernel) (Nat.le_of_ble_eq_true rfl) (fun p e s m args below meth c ls Q B hret => ?_)
  obtain ⟨C0, hP, hK, hZ0, hl⟩ := B
  have hZ : sr_Zok (sr_AM a) (sr_ZM) := sr_ZMok
  have hS : va_S (sr_AM a) s.heap s.heap [] := va_S.rf
  have hl : lv_has ls 1 [(0, .int x_)] := hl
  refine lv_iload_n C0.1 C0.2.1 dX8_isChange_0 rfl (lv_at hl 0 rfl) ?_
  refine lv_i2l C0.1 C0.2.1 dX8_isChange_1 rfl ?_
  refine lv_lconst (v := 0) C0.1 C0.2.1 dX8_isChange_2 (by decide) ?_
  refine lv_ldc2 (v := 2) C0.1 C0.2.1 C0.2.2.2.1 (C0.2.2.2.2 _ sw_673) dX8_isChange_3 ?_
  refine sr_pSi (As := [.long ((x_).toInt64), .long 0, .long 2]) C0 hK hP hZ hZ0 (cc_X8_inI ha (x_) (0 : Int32) (2 : Int32) rfl (by decide) (by decide)) sk_X8_in (ss_X8_in) sw_670 rfl rfl hl.1 (Nat.le_of_ble_eq_true rfl) (Nat.le_of_ble_eq_true rfl) (Nat.le_of_ble_eq_true rfl) dX8_isChange_6 ⟨Nat.zero_le _, Nat.zero_le _⟩ ?_
  exact hret _ _ _ dX8_isChange_9 rfl
set_option maxRecDepth 100000 in
set_option maxHeartbeats 4000000 in
theorem cc_X8_lesser {l : Launch} {D : va_G} {cI : ClassId} {a : Nat → Nat} (ha : ∀ i j, i < 13 → j < 13 → a i = a j → i = j) {kp cx sg : sr_M} (x_ : Int32) (y_ : Int32) : sr_P l D (sr_tM cI) (sr_ZM) (sr_WM cI a kp cx sg) yX8_lesser cX8_lesser 2 (some .int) 0 0 [.int x_, .int y_] (some (.int (if x_ < y_ then x_ else y_))) := by
  refine sr_Pie (by decide +kernel) (Nat.le_of_ble_eq_true rfl) (fun p e s m args below meth c ls Q B hret => ?_)
  obtain ⟨C0, hP, hK, hZ0, hl⟩ := B
  have hZ : sr_Zok (sr_AM a) (sr_ZM) := sr_ZMok
  have hS : va_S (sr_AM a) s.heap s.heap [] := va_S.rf
  have hl : lv_has ls 2 [(0, .int x_), (1, .int y_)] := hl
  refine lv_iload_n C0.1 C0.2.1 dX8_lesser_0 rfl (lv_at hl 0 rfl) ?_
  refine lv_iload_n C0.1 C0.2.1 dX8_lesser_1 rfl (lv_at hl 1 rfl) ?_
  refine lv_icmp_ge (tgt := 9) C0.1 C0.2.1 dX8_lesser_2 (by decide) (fun c2 => ?_) (fun c2 => ?_)
  · refine lv_iload_n C0.1 C0.2.1 dX8_lesser_9 rfl (lv_at hl 1 rfl) ?_
    exact hret _ _ _ dX8_lesser_10 (by rw [← sr_les]; first | exact (if_pos (by assumption)).symm | exact (if_neg (by assumption)).symm)
  · refine lv_iload_n C0.1 C0.2.1 dX8_lesser_5 rfl (lv_at hl 0 rfl) ?_
    refine lv_goto (tgt := 10) C0.1 C0.2.1 dX8_lesser_6 (by decide) ?_
    exact hret _ _ _ dX8_lesser_10 (by rw [← sr_les]; first | exact (if_pos (by assumption)).symm | exact (if_neg (by assumption)).symm)
set_option maxRecDepth 100000 in
set_option maxHeartbeats 4000000 in
theorem cc_X8_here {l : Launch} {D : va_G} {cI : ClassId} {a : Nat → Nat} (ha : ∀ i j, i < 13 → j < 13 → a i = a j → i = j) {kp cx sg : sr_M} (pa : Nat) (hK_ : sr_IK kp) (hat : sg 1 0 = nI pa) (hpa : pa ≤ 40) : sr_P l D (sr_tM cI) (sr_ZM) (sr_WM cI a kp cx sg) yX8_here cX8_here 1 (some .int) 0 0 [.ref (a 0)] (some (.int (sr_he kp pa))) := by
  refine sr_Pie (by decide +kernel) (Nat.le_of_ble_eq_true rfl) (fun p e s m args below meth c ls Q B hret => ?_)
  obtain ⟨C0, hP, hK, hZ0, hl⟩ := B
  have hZ : sr_Zok (sr_AM a) (sr_ZM) := sr_ZMok
  have hS : va_S (sr_AM a) s.heap s.heap [] := va_S.rf
  have hl : lv_has ls 1 [(0, .ref (a 0))] := hl
  refine lv_aload_n C0.1 C0.2.1 dX8_here_0 rfl (lv_at hl 0 rfl) ?_
  refine sr_get (v := .int (sg 1 0)) C0 hK hP sr_inX8 sr_wM0 rfl 7 (by decide) sw_617 rfl dX8_here_1 ?_
  refine sr_chi hat ?_
  refine lv_aload_n C0.1 C0.2.1 dX8_here_4 rfl (lv_at hl 0 rfl) ?_
  refine sr_get (v := .int (kp 5 0)) C0 hK hP sr_inX8 sr_wM0 rfl 6 (by decide) sw_616 rfl dX8_here_5 ?_
  refine sr_chi (sr_IK_n hK_) ?_
  have := sr_IK_n40 hK_
  refine lv_icmp_ge (tgt := 23) C0.1 C0.2.1 dX8_here_8 (by decide) (fun c8 => ?_) (fun c8 => ?_)
  · have g8 : (sr_n kp) ≤ pa := (nI_leI (a := (sr_n kp)) (b := pa) (by omega) (by omega)).mp c8
    refine lv_iconst (v := (-1)) C0.1 C0.2.1 dX8_here_23 (by decide) ?_
    exact hret _ _ _ dX8_here_24 (by unfold sr_he; rw [if_pos g8])
  · have g8 : ¬ ((sr_n kp) ≤ pa) := fun q => c8 ((nI_leI (a := (sr_n kp)) (b := pa) (by omega) (by omega)).mpr q)
    refine lv_aload_n C0.1 C0.2.1 dX8_here_11 rfl (lv_at hl 0 rfl) ?_
    refine sr_get (v := .ref (a 5)) C0 hK hP sr_inX8 sr_wM0 rfl 5 (by decide) sw_615 rfl dX8_here_12 ?_
    refine lv_aload_n C0.1 C0.2.1 dX8_here_15 rfl (lv_at hl 0 rfl) ?_
    refine sr_get (v := .int (sg 1 0)) C0 hK hP sr_inX8 sr_wM0 rfl 7 (by decide) sw_617 rfl dX8_here_16 ?_
    refine sr_chi hat ?_
    refine sr_ald (k := pa) C0 hK rfl hP sr_wM5 (nI_clamp (by omega)) (vp_in_nI (by omega) (by omega)) dX8_here_19 ?_
    refine lv_goto (tgt := 24) C0.1 C0.2.1 dX8_here_20 (by decide) ?_
    exact hret _ _ _ dX8_here_24 (by unfold sr_he; rw [if_neg g8])
set_option maxRecDepth 100000 in
set_option maxHeartbeats 4000000 in
theorem cc_X8_nobody {l : Launch} {D : va_G} {cI : ClassId} {a : Nat → Nat} (ha : ∀ i j, i < 13 → j < 13 → a i = a j → i = j) {kp cx sg : sr_M} : sr_G l D (sr_tM cI) (sr_ZM) (sr_AM a) (sr_WM cI a kp cx sg) yX8_nobody cX8_nobody 1 (some .int) 0 0 [.ref (a 0)] (S := sr_M) (fun u => u 1 0 = sg 1 0 ∧ u 1 1 = 0 ∧ ∀ k, k ≠ 1 → u k = sg k) (fun u => sr_WM cI a kp cx u) (fun u => some (.int (sg 1 0))) := by
  refine sr_Gie (by decide +kernel) (Nat.le_of_ble_eq_true rfl) (fun p e s m args below meth c ls Q B hret => ?_)
  obtain ⟨C0, hP, hK, hZ0, hl⟩ := B
  have hZ : sr_Zok (sr_AM a) (sr_ZM) := sr_ZMok
  have hS : va_S (sr_AM a) s.heap s.heap [] := va_S.rf
  have hl : lv_has ls 1 [(0, .ref (a 0))] := hl
  obtain ⟨H, hH⟩ : ∃ H, H = s.heap := ⟨_, rfl⟩
  have hP : va_P D vwCl (sr_WM cI a kp cx sg) H := by rw [hH]; exact hP
  have hS : va_S (sr_AM a) s.heap H [] := by rw [hH]; exact hS
  suffices hG : ∀ locs, va_S (sr_AM a) s.heap H locs → W p l e (sr_rm 0 0) s m args below meth c H locs 0 0 Q (F0 m 0 ls []) from by have h9 := hG [] hS; rw [hH] at h9; exact h9
  clear hS
  intro locs hS
  clear hH
  refine lv_aload_n C0.1 C0.2.1 dX8_nobody_0 rfl (lv_at hl 0 rfl) ?_
  refine lv_iconst (v := 0) C0.1 C0.2.1 dX8_nobody_1 (by decide) ?_
  refine sr_put C0 hK hP (sr_DM ha _ _ _) hS sr_inX8 tyX8_ok nmX8 sr_wM0 rfl 8 (by decide) sw_618 rfl (by decide +kernel) (Nat.le_of_ble_eq_true rfl) sr_fM0_8 dX8_nobody_2 (fun H locs hP hS => ?_)
  refine lv_aload_n C0.1 C0.2.1 dX8_nobody_5 rfl (lv_at hl 0 rfl) ?_
  refine sr_get (v := .int (sg 1 0)) C0 hK hP sr_inX8 sr_wM0 rfl 7 (by decide) sw_617 rfl dX8_nobody_6 ?_
  exact hret _ _ _ (va_up sg 1 (upd (sg 1) 1 0)) _ _ _ dX8_nobody_9 hP hS rfl rfl ⟨rfl, rfl, fun k hk => if_neg hk⟩
