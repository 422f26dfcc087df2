set_option maxRecDepth 100000 in
set_option maxHeartbeats 4000000 in
theorem cc_X8_in {l : Launch} {D : va_G} {cI : ClassId} {a : Nat → Nat} (ha : ∀ i j, i < 13 → j < 13 → a i = a j → i = j) {kp cx sg : sr_M} (v_ : Int64) (lo_ : Int64) (hi_ : Int64) : sr_P l D (sr_tM cI) (sr_ZM) (sr_WM cI a kp cx sg) yX8_in cX8_in 6 (some .boolean) 0 0 [.long v_, .long lo_, .long hi_] (some (.int (if ¬ v_ < lo_ ∧ ¬ hi_ < v_ then 1 else 0))) := by
  refine sr_Pze (by decide +kernel) (Nat.le_of_ble_eq_true rfl) (fun p e s m args below meth c ls Q B hret => ?_)
  obtain ⟨C0, hP, hK, hZ0, hl⟩ := B
  have hZ : sr_Zok (sr_AM a) (sr_ZM) := sr_ZMok
  have hS : va_S (sr_AM a) s.heap s.heap [] := va_S.rf
  have hl : lv_has ls 6 [(0, .long v_), (2, .long lo_), (4, .long hi_)] := hl
  refine lv_lload_n C0.1 C0.2.1 dX8_in_0 rfl (lv_at hl 0 rfl) ?_
  refine lv_lload_n C0.1 C0.2.1 dX8_in_1 rfl (lv_at hl 1 rfl) ?_
  refine W.lcmp C0.1 C0.2.1 dX8_in_2 ?_
  refine sr_lclt (tgt := 17) C0 dX8_in_3 (by decide) (fun c3 => ?_) (fun c3 => ?_)
  · refine lv_iconst (v := 0) C0.1 C0.2.1 dX8_in_17 (by decide) ?_
    exact hret _ _ _ dX8_in_18 (if_neg (fun q => q.1 c3)).symm
  · refine lv_lload_n C0.1 C0.2.1 dX8_in_6 rfl (lv_at hl 0 rfl) ?_
    refine lv_lload C0.1 C0.2.1 dX8_in_7 (lv_at hl 2 rfl) ?_
    refine W.lcmp C0.1 C0.2.1 dX8_in_9 ?_
    refine sr_lcgt (tgt := 17) C0 dX8_in_10 (by decide) (fun c10 => ?_) (fun c10 => ?_)
    · refine lv_iconst (v := 0) C0.1 C0.2.1 dX8_in_17 (by decide) ?_
      exact hret _ _ _ dX8_in_18 (if_neg (fun q => q.2 c10)).symm
    · refine lv_iconst (v := 1) C0.1 C0.2.1 dX8_in_13 (by decide) ?_
      refine lv_goto (tgt := 18) C0.1 C0.2.1 dX8_in_14 (by decide) ?_
      exact hret _ _ _ dX8_in_18 (if_pos ⟨c3, c10⟩).symm
theorem cc_X8_inI {l : Launch} {D : va_G} {cI : ClassId} {a : Nat → Nat} (ha : ∀ i j, i < 13 → j < 13 → a i = a j → i = j) {kp cx sg : sr_M} (v_ lo_ hi_ : Int32) {v64 lo64 hi64 : Int64} (h0 : v_.toInt64 = v64) (h1 : lo_.toInt64 = lo64) (h2 : hi_.toInt64 = hi64) : sr_P l D (sr_tM cI) sr_ZM (sr_WM cI a kp cx sg) yX8_in cX8_in 6 (some .boolean) 0 0 [.long v64, .long lo64, .long hi64] (some (.int (if ¬ (v_ < lo_ ∨ hi_ < v_) then 1 else 0))) := by
  subst h0
  subst h1
  subst h2
  rw [← sr_ifc (sr_in64 v_ lo_ hi_)]
  exact cc_X8_in ha _ _ _
set_option maxRecDepth 100000 in
set_option maxHeartbeats 4000000 in
theorem cc_X8_isTwo {l : Launch} {D : va_G} {cI : ClassId} {a : Nat → Nat} (ha : ∀ i j, i < 13 → j < 13 → a i = a j → i = j) {kp cx sg : sr_M} (x_ : Int32) : sr_P l D (sr_tM cI) (sr_ZM) (sr_WM cI a kp cx sg) yX8_isTwo cX8_isTwo 1 (some .boolean) 1 25 [.int x_] (some (.int (if ¬ (x_ < 0 ∨ 1 < x_) then 1 else 0))) := by
  refine sr_Pze (by decide +kernel) (Nat.le_of_ble_eq_true rfl) (fun p e s m args below meth c ls Q B hret => ?_)
  obtain ⟨C0, hP, hK, hZ0, hl⟩ := B
  have hZ : sr_Zok (sr_AM a) (sr_ZM) := sr_ZMok
  have hS : va_S (sr_AM a) s.heap s.heap [] := va_S.rf
  have hl : lv_has ls 1 [(0, .int x_)] := hl
  refine lv_iload_n C0.1 C0.2.1 dX8_isTwo_0 rfl (lv_at hl 0 rfl) ?_
  refine lv_i2l C0.1 C0.2.1 dX8_isTwo_1 rfl ?_
  refine lv_lconst (v := 0) C0.1 C0.2.1 dX8_isTwo_2 (by decide) ?_
  refine lv_lconst (v := 1) C0.1 C0.2.1 dX8_isTwo_3 (by decide) ?_
  refine sr_pSi (As := [.long ((x_).toInt64), .long 0, .long 1]) C0 hK hP hZ hZ0 (cc_X8_inI ha (x_) (0 : Int32) (1 : Int32) rfl (by decide) (by decide)) sk_X8_in (ss_X8_in) sw_670 rfl rfl hl.1 (Nat.le_of_ble_eq_true rfl) (Nat.le_of_ble_eq_true rfl) (Nat.le_of_ble_eq_true rfl) dX8_isTwo_4 ⟨Nat.zero_le _, Nat.zero_le _⟩ ?_
  exact hret _ _ _ dX8_isTwo_7 rfl
set_option maxRecDepth 100000 in
set_option maxHeartbeats 4000000 in
theorem cc_X8_isSheet {l : Launch} {D : va_G} {cI : ClassId} {a : Nat → Nat} (ha : ∀ i j, i < 13 → j < 13 → a i = a j → i = j) {kp cx sg : sr_M} (x_ : Int32) : sr_P l D (sr_tM cI) (sr_ZM) (sr_WM cI a kp cx sg) yX8_isSheet cX8_isSheet 1 (some .boolean) 1 25 [.int x_] (some (.int (if ¬ (x_ < 0 ∨ 3 < x_) then 1 else 0))) := by
  refine sr_Pze (by decide +kernel) (Nat.le_of_ble_eq_true rfl) (fun p e s m args below meth c ls Q B hret => ?_)
  obtain ⟨C0, hP, hK, hZ0, hl⟩ := B
  have hZ : sr_Zok (sr_AM a) (sr_ZM) := sr_ZMok
  have hS : va_S (sr_AM a) s.heap s.heap [] := va_S.rf
  have hl : lv_has ls 1 [(0, .int x_)] := hl
  refine lv_iload_n C0.1 C0.2.1 dX8_isSheet_0 rfl (lv_at hl 0 rfl) ?_
  refine lv_i2l C0.1 C0.2.1 dX8_isSheet_1 rfl ?_
  refine lv_lconst (v := 0) C0.1 C0.2.1 dX8_isSheet_2 (by decide) ?_
  refine lv_ldc2 (v := 3) C0.1 C0.2.1 C0.2.2.2.1 (C0.2.2.2.2 _ sw_669) dX8_isSheet_3 ?_
  refine sr_pSi (As := [.long ((x_).toInt64), .long 0, .long 3]) C0 hK hP hZ hZ0 (cc_X8_inI ha (x_) (0 : Int32) (3 : Int32) rfl (by decide) (by decide)) sk_X8_in (ss_X8_in) sw_670 rfl rfl hl.1 (Nat.le_of_ble_eq_true rfl) (Nat.le_of_ble_eq_true rfl) (Nat.le_of_ble_eq_true rfl) dX8_isSheet_6 ⟨Nat.zero_le _, Nat.zero_le _⟩ ?_
  exact hret _ _ _ dX8_isSheet_9 rfl
set_option maxRecDepth 100000 in
set_option maxHeartbeats 4000000 in
theorem cc_X8_isStretch {l : Launch} {D : va_G} {cI : ClassId} {a : Nat → Nat} (ha : ∀ i j, i < 13 → j < 13 → a i = a j → i = j) {kp cx sg : sr_M} (x_ : Int32) : sr_P l D (sr_tM cI) (sr_ZM) (sr_WM cI a kp cx sg) yX8_isStretch cX8_isStretch 1 (some .boolean) 1 25 [.int x_] (some (.int (if ¬ (x_ < 0 ∨ 3 < x_) then 1 else 0))) := by
  refine sr_Pze (by decide +kernel) (Nat.le_of_ble_eq_true rfl) (fun p e s m args below meth c ls Q B hret => ?_)
  obtain ⟨C0, hP, hK, hZ0, hl⟩ := B
  have hZ : sr_Zok (sr_AM a) (sr_ZM) := sr_ZMok
  have hS : va_S (sr_AM a) s.heap s.heap [] := va_S.rf
  have hl : lv_has ls 1 [(0, .int x_)] := hl
  refine lv_iload_n C0.1 C0.2.1 dX8_isStretch_0 rfl (lv_at hl 0 rfl) ?_
  refine lv_i2l C0.1 C0.2.1 dX8_isStretch_1 rfl ?_
  refine lv_lconst (v := 0) C0.1 C0.2.1 dX8_isStretch_2 (by decide) ?_
  refine lv_ldc2 (v := 3) C0.1 C0.2.1 C0.2.2.2.1 (C0.2.2.2.2 _ sw_669) dX8_isStretch_3 ?_
  refine sr_pSi (As := [.long ((x_).toInt64), .long 0, .long 3]) C0 hK hP hZ hZ0 (cc_X8_inI ha (x_) (0 : Int32) (3 : Int32) rfl (by decide) (by decide)) sk_X8_in (ss_X8_in) sw_670 rfl rfl hl.1 (Nat.le_of_ble_eq_true rfl) (Nat.le_of_ble_eq_true rfl) (Nat.le_of_ble_eq_true rfl) dX8_isStretch_6 ⟨Nat.zero_le _, Nat.zero_le _⟩ ?_
  exact hret _ _ _ dX8_isStretch_9 rfl
set_option maxRecDepth 100000 in
set_option maxHeartbeats 4000000 in
theorem cc_X8_isChange {l : Launch} {D : va_G} {cI : ClassId} {a : Nat → Nat} (ha : ∀ i j, i < 13 → j < 13 → a i = a j → i = j) {kp cx sg : sr_M} (x_ : Int32) : sr_P l D (sr_tM cI) (sr_ZM) (sr_WM cI a kp cx sg) yX8_isChange cX8_isChange 1 (some .boolean) 1 25 [.int x_] (some (.int (if ¬ (x_ < 0 ∨ 2 < x_) then 1 else 0))) := by
  refine sr_Pze (by decide +kernel) (Nat.le_of_ble_eq_true rfl) (fun p e s m args below meth c ls Q B hret => ?_)
  obtain ⟨C0, hP, hK, hZ0, hl⟩ := B
  have hZ : sr_Zok (sr_AM a) (sr_ZM) := sr_ZMok
  have hS : va_S (sr_AM a) s.heap s.heap [] := va_S.rf
  have hl : lv_has ls 1 [(0, .int x_)] := hl
  refine lv_iload_n C0.1 C0.2.1 dX8_isChange_0 rfl (lv_at hl 0 rfl) ?_
  refine lv_i2l C0.1 C0.2.1 dX8_isChange_1 rfl ?_
  refine lv_lconst (v := 0) C0.1 C0.2.1 dX8_isChange_2 (by decide) ?_
  refine lv_ldc2 (v := 2) C0.1 C0.2.1 C0.2.2.2.1 (C0.2.2.2.2 _ sw_673) dX8_isChange_3 ?_
  refine sr_pSi (As := [.long ((x_).toInt64), .long 0, .long 2]) C0 hK hP hZ hZ0 (cc_X8_inI ha (x_) (0 : Int32) (2 : Int32) rfl (by decide) (by decide)) sk_X8_in (ss_X8_in) sw_670 rfl rfl hl.1 (Nat.le_of_ble_eq_true rfl) (Nat.le_of_ble_eq_true rfl) (Nat.le_of_ble_eq_true rfl) dX8_isChange_6 ⟨Nat.zero_le _, Nat.zero_le _⟩ ?_
  exact hret _ _ _ dX8_isChange_9 rfl
set_option maxRecDepth 100000 in
set_option maxHeartbeats 4000000 in
theorem cc_X8_lesser {l : Launch} {D : va_G} {cI : ClassId} {a : Nat → Nat} (ha : ∀ i j, i < 13 → j < 13 → a i = a j → i = j) {kp cx sg : sr_M} (x_ : Int32) (y_ : Int32) : sr_P l D (sr_tM cI) (sr_ZM) (sr_WM cI a kp cx sg) yX8_lesser cX8_lesser 2 (some .int) 0 0 [.int x_, .int y_] (some (.int (if x_ < y_ then x_ else y_))) := by
  refine sr_Pie (by decide +kernel) (Nat.le_of_ble_eq_true rfl) (fun p e s m args below meth c ls Q B hret => ?_)
  obtain ⟨C0, hP, hK, hZ0, hl⟩ := B
  have hZ : sr_Zok (sr_AM a) (sr_ZM) := sr_ZMok
  have hS : va_S (sr_AM a) s.heap s.heap [] := va_S.rf
  have hl : lv_has ls 2 [(0, .int x_), (1, .int y_)] := hl
  refine lv_iload_n C0.1 C0.2.1 dX8_lesser_0 rfl (lv_at hl 0 rfl) ?_
  refine lv_iload_n C0.1 C0.2.1 dX8_lesser_1 rfl (lv_at hl 1 rfl) ?_
  refine lv_icmp_ge (tgt := 9) C0.1 C0.2.1 dX8_lesser_2 (by decide) (fun c2 => ?_) (fun c2 => ?_)
  · refine lv_iload_n C0.1 C0.2.1 dX8_lesser_9 rfl (lv_at hl 1 rfl) ?_
    exact hret _ _ _ dX8_lesser_10 (by rw [← sr_les]; first | exact (if_pos (by assumption)).symm | exact (if_neg (by assumption)).symm)
  · refine lv_iload_n C0.1 C0.2.1 dX8_lesser_5 rfl (lv_at hl 0 rfl) ?_
    refine lv_goto (tgt := 10) C0.1 C0.2.1 dX8_lesser_6 (by decide) ?_
    exact hret _ _ _ dX8_lesser_10 (by rw [← sr_les]; first | exact (if_pos (by assumption)).symm | exact (if_neg (by assumption)).symm)
set_option maxRecDepth 100000 in
set_option maxHeartbeats 4000000 in
theorem cc_X8_here {l : Launch} {D : va_G} {cI : ClassId} {a : Nat → Nat} (ha : ∀ i j, i < 13 → j < 13 → a i = a j → i = j) {kp cx sg : sr_M} (pa : Nat) (hK_ : sr_IK kp) (hat : sg 1 0 = nI pa) (hpa : pa ≤ 40) : sr_P l D (sr_tM cI) (sr_ZM) (sr_WM cI a kp cx sg) yX8_here cX8_here 1 (some .int) 0 0 [.ref (a 0)] (some (.int (sr_he kp pa))) := by
  refine sr_Pie (by decide +kernel) (Nat.le_of_ble_eq_true rfl) (fun p e s m args below meth c ls Q B hret => ?_)
  obtain ⟨C0, hP, hK, hZ0, hl⟩ := B
  have hZ : sr_Zok (sr_AM a) (sr_ZM) := sr_ZMok
  have hS : va_S (sr_AM a) s.heap s.heap [] := va_S.rf
  have hl : lv_has ls 1 [(0, .ref (a 0))] := hl
  refine lv_aload_n C0.1 C0.2.1 dX8_here_0 rfl (lv_at hl 0 rfl) ?_
  refine sr_get (v := .int (sg 1 0)) C0 hK hP sr_inX8 sr_wM0 rfl 7 (by decide) sw_617 rfl dX8_here_1 ?_
  refine sr_chi hat ?_
  refine lv_aload_n C0.1 C0.2.1 dX8_here_4 rfl (lv_at hl 0 rfl) ?_
  refine sr_get (v := .int (kp 5 0)) C0 hK hP sr_inX8 sr_wM0 rfl 6 (by decide) sw_616 rfl dX8_here_5 ?_
  refine sr_chi (sr_IK_n hK_) ?_
  have := sr_IK_n40 hK_
  refine lv_icmp_ge (tgt := 23) C0.1 C0.2.1 dX8_here_8 (by decide) (fun c8 => ?_) (fun c8 => ?_)
  · have g8 : (sr_n kp) ≤ pa := (nI_leI (a := (sr_n kp)) (b := pa) (by omega) (by omega)).mp c8
    refine lv_iconst (v := (-1)) C0.1 C0.2.1 dX8_here_23 (by decide) ?_
    exact hret _ _ _ dX8_here_24 (by unfold sr_he; rw [if_pos g8])
  · have g8 : ¬ ((sr_n kp) ≤ pa) := fun q => c8 ((nI_leI (a := (sr_n kp)) (b := pa) (by omega) (by omega)).mpr q)
    refine lv_aload_n C0.1 C0.2.1 dX8_here_11 rfl (lv_at hl 0 rfl) ?_
    refine sr_get (v := .ref (a 5)) C0 hK hP sr_inX8 sr_wM0 rfl 5 (by decide) sw_615 rfl dX8_here_12 ?_
    refine lv_aload_n C0.1 C0.2.1 dX8_here_15 rfl (lv_at hl 0 rfl) ?_
    refine sr_get (v := .int (sg 1 0)) C0 hK hP sr_inX8 sr_wM0 rfl 7 (by decide) sw_617 rfl dX8_here_16 ?_
    refine sr_chi hat ?_
    refine sr_ald (k := pa) C0 hK rfl hP sr_wM5 (nI_clamp (by omega)) (vp_in_nI (by omega) (by omega)) dX8_here_19 ?_
    refine lv_goto (tgt := 24) C0.1 C0.2.1 dX8_here_20 (by decide) ?_
    exact hret _ _ _ dX8_here_24 (by unfold sr_he; rw [if_neg g8])
set_option maxRecDepth 100000 in
set_option maxHeartbeats 4000000 in
theorem cc_X8_nobody {l : Launch} {D : va_G} {cI : ClassId} {a : Nat → Nat} (ha : ∀ i j, i < 13 → j < 13 → a i = a j → i = j) {kp cx sg : sr_M} : sr_G l D (sr_tM cI) (sr_ZM) (sr_AM a) (sr_WM cI a kp cx sg) yX8_nobody cX8_nobody 1 (some .int) 0 0 [.ref (a 0)] (S := sr_M) (fun u => u 1 0 = sg 1 0 ∧ u 1 1 = 0 ∧ ∀ k, k ≠ 1 → u k = sg k) (fun u => sr_WM cI a kp cx u) (fun u => some (.int (sg 1 0))) := by
  refine sr_Gie (by decide +kernel) (Nat.le_of_ble_eq_true rfl) (fun p e s m args below meth c ls Q B hret => ?_)
  obtain ⟨C0, hP, hK, hZ0, hl⟩ := B
  have hZ : sr_Zok (sr_AM a) (sr_ZM) := sr_ZMok
  have hS : va_S (sr_AM a) s.heap s.heap [] := va_S.rf
  have hl : lv_has ls 1 [(0, .ref (a 0))] := hl
  obtain ⟨H, hH⟩ : ∃ H, H = s.heap := ⟨_, rfl⟩
  have hP : va_P D vwCl (sr_WM cI a kp cx sg) H := by rw [hH]; exact hP
  have hS : va_S (sr_AM a) s.heap H [] := by rw [hH]; exact hS
  suffices hG : ∀ locs, va_S (sr_AM a) s.heap H locs → W p l e (sr_rm 0 0) s m args below meth c H locs 0 0 Q (F0 m 0 ls []) from by have h9 := hG [] hS; rw [hH] at h9; exact h9
  clear hS
  intro locs hS
  clear hH
  refine lv_aload_n C0.1 C0.2.1 dX8_nobody_0 rfl (lv_at hl 0 rfl) ?_
  refine lv_iconst (v := 0) C0.1 C0.2.1 dX8_nobody_1 (by decide) ?_
  refine sr_put C0 hK hP (sr_DM ha _ _ _) hS sr_inX8 tyX8_ok nmX8 sr_wM0 rfl 8 (by decide) sw_618 rfl (by decide +kernel) (Nat.le_of_ble_eq_true rfl) sr_fM0_8 dX8_nobody_2 (fun H locs hP hS => ?_)
  refine lv_aload_n C0.1 C0.2.1 dX8_nobody_5 rfl (lv_at hl 0 rfl) ?_
  refine sr_get (v := .int (sg 1 0)) C0 hK hP sr_inX8 sr_wM0 rfl 7 (by decide) sw_617 rfl dX8_nobody_6 ?_
  exact hret _ _ _ (va_up sg 1 (upd (sg 1) 1 0)) _ _ _ dX8_nobody_9 hP hS rfl rfl ⟨rfl, rfl, fun k hk => if_neg hk⟩
set_option maxRecDepth 100000 in
set_option maxHeartbeats 20000000 in
theorem cc_X8_readsPart {l : Launch} {D : va_G} {cI : ClassId} {a : Nat → Nat} (ha : ∀ i j, i < 13 → j < 13 → a i = a j → i = j) {kp cx sg : sr_M} (R_ : Nat) (hK_ : sr_IK kp) (hat : sg 1 0 = nI (7 * R_)) (hru : sg 1 1 = nI R_) (hR : R_ ≤ 5) : sr_G l D (sr_tM cI) (sr_ZM) (sr_AM a) (sr_WM cI a kp cx sg) yX8_readsPart cX8_readsPart 5 (some .boolean) 1 25 [.ref (a 0)] (S := sr_M × Bool) (fun u => sr_Rp kp sg R_ u) (fun u => sr_WM cI a kp cx u.1) (fun u => some (.int (if u.2 = true then 1 else 0))) := by
  refine sr_Gze (by decide +kernel) (Nat.le_of_ble_eq_true rfl) (fun p e s m args below meth c ls Q B hret => ?_)
  obtain ⟨C0, hP, hK, hZ0, hl⟩ := B
  have hZ : sr_Zok (sr_AM a) (sr_ZM) := sr_ZMok
  have hS : va_S (sr_AM a) s.heap s.heap [] := va_S.rf
  have hl : lv_has ls 5 [(0, .ref (a 0))] := hl
  obtain ⟨H, hH⟩ : ∃ H, H = s.heap := ⟨_, rfl⟩
  have hP : va_P D vwCl (sr_WM cI a kp cx sg) H := by rw [hH]; exact hP
  have hS : va_S (sr_AM a) s.heap H [] := by rw [hH]; exact hS
  suffices hG : ∀ locs, va_S (sr_AM a) s.heap H locs → W p l e (sr_rm 1 25) s m args below meth c H locs 0 0 Q (F0 m 0 ls []) from by have h9 := hG [] hS; rw [hH] at h9; exact h9
  clear hS
  intro locs hS
  clear hH
  refine lv_aload_n C0.1 C0.2.1 dX8_readsPart_0 rfl (lv_at hl 0 rfl) ?_
  refine sr_get (v := .int (sg 1 1)) C0 hK hP sr_inX8 sr_wM0 rfl 8 (by decide) sw_618 rfl dX8_readsPart_1 ?_
  refine sr_chi hru ?_
  refine lv_iconst (v := 5) C0.1 C0.2.1 dX8_readsPart_4 (by decide) ?_
  refine lv_icmp_ne (tgt := 10) C0.1 C0.2.1 dX8_readsPart_5 (by decide) (fun c5 => ?_) (fun c5 => ?_)
  · have g5 : ¬ (R_ = 5) := fun q => c5 ((nI_eq (a := R_) (b := 5) (by omega) (by omega)).mpr q)
    refine lv_iconst (v := 0) C0.1 C0.2.1 dX8_readsPart_10 (by decide) ?_
    refine lv_istore_n (lv' := [(1, .int 0), (0, .ref (a 0))]) C0.1 C0.2.1 dX8_readsPart_11 rfl hl (by decide) rfl (fun ls hl => ?_)
    refine lv_iconst (v := 0) C0.1 C0.2.1 dX8_readsPart_12 (by decide) ?_
    refine lv_istore_n (lv' := [(2, .int 0), (1, .int 0), (0, .ref (a 0))]) C0.1 C0.2.1 dX8_readsPart_13 rfl hl (by decide) rfl (fun ls hl => ?_)
    refine lv_iconst (v := 0) C0.1 C0.2.1 dX8_readsPart_14 (by decide) ?_
    refine lv_istore_n (lv' := [(3, .int 0), (2, .int 0), (1, .int 0), (0, .ref (a 0))]) C0.1 C0.2.1 dX8_readsPart_15 rfl hl (by decide) rfl (fun ls hl => ?_)
    refine lv_iload_n C0.1 C0.2.1 dX8_readsPart_16 rfl (lv_at hl 0 rfl) ?_
    refine lv_bipush (v := 6) C0.1 C0.2.1 dX8_readsPart_17 (by decide) ?_
    refine lv_icmp_ge (tgt := 195) C0.1 C0.2.1 dX8_readsPart_19 (by decide) (fun q => absurd q (by decide)) (fun _ => ?_)
    refine lv_aload_n C0.1 C0.2.1 dX8_readsPart_22 rfl (lv_at hl 3 rfl) ?_
    refine sr_pVi (As := []) C0 hK hP hZ (sr_Zs hZ hZ0 hS) (cc_X8_here ha (7 * R_) hK_ hat (by omega)) sk_X8_here sv_X8_here sw_727 (ci := 8) rfl sr_wM0 rfl rfl hl.1 (Nat.le_of_ble_eq_true rfl) (Nat.le_of_ble_eq_true rfl) (Nat.le_of_ble_eq_true rfl) dX8_readsPart_23 ⟨Nat.zero_le _, Nat.zero_le _⟩ ?_
    refine lv_bipush (v := 48) C0.1 C0.2.1 dX8_readsPart_26 (by decide) ?_
    refine lv_isub C0.1 C0.2.1 dX8_readsPart_28 ?_
    refine lv_istore (lv' := [(4, .int ((sr_he kp (7 * R_)) - 48)), (3, .int 0), (2, .int 0), (1, .int 0), (0, .ref (a 0))]) C0.1 C0.2.1 dX8_readsPart_29 hl (by decide) rfl (fun ls hl => ?_)
    refine lv_iload C0.1 C0.2.1 dX8_readsPart_31 (lv_at hl 0 rfl) ?_
    refine lv_i2l C0.1 C0.2.1 dX8_readsPart_33 rfl ?_
    refine lv_iload_n C0.1 C0.2.1 dX8_readsPart_34 rfl (lv_at hl 1 rfl) ?_
    refine lv_iconst (v := 5) C0.1 C0.2.1 dX8_readsPart_35 (by decide) ?_
    refine lv_icmp_ne (tgt := 43) C0.1 C0.2.1 dX8_readsPart_36 (by decide) (fun _ => ?_) (fun q => absurd q (by decide))
    refine lv_lconst (v := 0) C0.1 C0.2.1 dX8_readsPart_43 (by decide) ?_
    refine lv_iload_n C0.1 C0.2.1 dX8_readsPart_44 rfl (lv_at hl 1 rfl) ?_
    refine lv_iconst (v := 5) C0.1 C0.2.1 dX8_readsPart_45 (by decide) ?_
    refine lv_icmp_ne (tgt := 55) C0.1 C0.2.1 dX8_readsPart_46 (by decide) (fun _ => ?_) (fun q => absurd q (by decide))
    refine lv_ldc2 (v := 9) C0.1 C0.2.1 C0.2.2.2.1 (C0.2.2.2.2 _ sw_731) dX8_readsPart_55 ?_
    refine sr_pSi (As := [.long (((sr_he kp (7 * R_)) - 48).toInt64), .long 0, .long 9]) C0 hK hP hZ (sr_Zs hZ hZ0 hS) (cc_X8_inI ha ((sr_he kp (7 * R_)) - 48) (0 : Int32) (9 : Int32) rfl (by decide) (by decide)) sk_X8_in (ss_X8_in) sw_670 rfl rfl hl.1 (Nat.le_of_ble_eq_true rfl) (Nat.le_of_ble_eq_true rfl) (Nat.le_of_ble_eq_true rfl) dX8_readsPart_58 ⟨Nat.zero_le _, Nat.zero_le _⟩ ?_
    refine sr_ifne (tgt := 66) C0 dX8_readsPart_61 (by decide) (fun c61 => ?_) (fun c61 => ?_)
    · obtain ⟨hl0, he0, hd0a, hd0b⟩ := sr_he_y hK_ (by decide) (by decide) c61
      rw [he0] at hl
      have hq0 : 7 * R_ + 0 < sr_n kp ∧ 48 ≤ (kp 0 (7 * R_ + 0)).toInt ∧ (kp 0 (7 * R_ + 0)).toInt ≤ 57 := ⟨hl0, hd0a, hd0b⟩
      have g_0 : sr_go (kp 0) (7 * R_ + 0) = true := (sr_go_d (by omega) (by omega)).mpr ⟨by omega, fun z => absurd z (by decide), fun z => absurd z (by decide), fun z => absurd z (by decide)⟩
      refine lv_iload_n C0.1 C0.2.1 dX8_readsPart_66 rfl (lv_at hl 1 rfl) ?_
      refine lv_iconst (v := 2) C0.1 C0.2.1 dX8_readsPart_67 (by decide) ?_
      refine lv_icmp_ge (tgt := 81) C0.1 C0.2.1 dX8_readsPart_68 (by decide) (fun q => absurd q (by decide)) (fun _ => ?_)
      refine lv_bipush (v := 10) C0.1 C0.2.1 dX8_readsPart_71 (by decide) ?_
      refine lv_iload_n C0.1 C0.2.1 dX8_readsPart_73 rfl (lv_at hl 3 rfl) ?_
      refine lv_imul C0.1 C0.2.1 dX8_readsPart_74 ?_
      refine sr_chi (by decide : (10 * 0 : Int32) = 0) ?_
      refine lv_iload C0.1 C0.2.1 dX8_readsPart_75 (lv_at hl 0 rfl) ?_
      refine lv_iadd C0.1 C0.2.1 dX8_readsPart_77 ?_
      refine lv_goto (tgt := 82) C0.1 C0.2.1 dX8_readsPart_78 (by decide) ?_
      refine lv_istore_n (lv' := [(1, .int (0 + ((kp 0 (7 * R_)) - 48))), (4, .int ((kp 0 (7 * R_)) - 48)), (3, .int 0), (2, .int 0), (0, .ref (a 0))]) C0.1 C0.2.1 dX8_readsPart_82 rfl hl (by decide) rfl (fun ls hl => ?_)
      refine lv_iload_n C0.1 C0.2.1 dX8_readsPart_83 rfl (lv_at hl 2 rfl) ?_
      refine lv_iconst (v := 2) C0.1 C0.2.1 dX8_readsPart_84 (by decide) ?_
      refine lv_icmp_eq (tgt := 93) C0.1 C0.2.1 dX8_readsPart_85 (by decide) (fun q => absurd q (by decide)) (fun _ => ?_)
      refine lv_iload_n C0.1 C0.2.1 dX8_readsPart_88 rfl (lv_at hl 2 rfl) ?_
      refine lv_iconst (v := 3) C0.1 C0.2.1 dX8_readsPart_89 (by decide) ?_
      refine lv_icmp_ne (tgt := 103) C0.1 C0.2.1 dX8_readsPart_90 (by decide) (fun _ => ?_) (fun q => absurd q (by decide))
      refine lv_iload_n C0.1 C0.2.1 dX8_readsPart_103 rfl (lv_at hl 3 rfl) ?_
      refine lv_istore_n (lv' := [(2, .int 0), (1, .int (0 + ((kp 0 (7 * R_)) - 48))), (4, .int ((kp 0 (7 * R_)) - 48)), (3, .int 0), (0, .ref (a 0))]) C0.1 C0.2.1 dX8_readsPart_104 rfl hl (by decide) rfl (fun ls hl => ?_)
      refine lv_iload_n C0.1 C0.2.1 dX8_readsPart_105 rfl (lv_at hl 3 rfl) ?_
      refine lv_iconst (v := 1) C0.1 C0.2.1 dX8_readsPart_106 (by decide) ?_
      refine lv_icmp_ne (tgt := 114) C0.1 C0.2.1 dX8_readsPart_107 (by decide) (fun _ => ?_) (fun q => absurd q (by decide))
      refine lv_iload_n C0.1 C0.2.1 dX8_readsPart_114 rfl (lv_at hl 3 rfl) ?_
      refine lv_iconst (v := 3) C0.1 C0.2.1 dX8_readsPart_115 (by decide) ?_
      refine lv_icmp_ne (tgt := 126) C0.1 C0.2.1 dX8_readsPart_116 (by decide) (fun _ => ?_) (fun q => absurd q (by decide))
      refine lv_aload_n C0.1 C0.2.1 dX8_readsPart_126 rfl (lv_at hl 4 rfl) ?_
      refine sr_get (v := .ref (a 6)) C0 hK hP sr_inX8 sr_wM0 rfl 9 (by decide) sw_619 rfl dX8_readsPart_127 ?_
      refine lv_iconst (v := 4) C0.1 C0.2.1 dX8_readsPart_130 (by decide) ?_
      refine lv_aload_n C0.1 C0.2.1 dX8_readsPart_131 rfl (lv_at hl 4 rfl) ?_
      refine sr_get (v := .int (sg 1 1)) C0 hK hP sr_inX8 sr_wM0 rfl 8 (by decide) sw_618 rfl dX8_readsPart_132 ?_
      refine sr_chi hru ?_
      refine lv_imul C0.1 C0.2.1 dX8_readsPart_135 ?_
      refine sr_chi (pk_mul 4 R_) ?_
      refine lv_iload_n C0.1 C0.2.1 dX8_readsPart_136 rfl (lv_at hl 3 rfl) ?_
      refine lv_iconst (v := 2) C0.1 C0.2.1 dX8_readsPart_137 (by decide) ?_
      refine lv_icmp_ge (tgt := 145) C0.1 C0.2.1 dX8_readsPart_138 (by decide) (fun q => absurd q (by decide)) (fun _ => ?_)
      refine lv_iconst (v := 0) C0.1 C0.2.1 dX8_readsPart_141 (by decide) ?_
      refine lv_goto (tgt := 157) C0.1 C0.2.1 dX8_readsPart_142 (by decide) ?_
      refine lv_iadd C0.1 C0.2.1 dX8_readsPart_157 ?_
      refine sr_chi (nI_add (4 * R_) 0) ?_
      refine lv_iload_n C0.1 C0.2.1 dX8_readsPart_158 rfl (lv_at hl 3 rfl) ?_
      refine lv_iconst (v := 2) C0.1 C0.2.1 dX8_readsPart_159 (by decide) ?_
      refine lv_icmp_ge (tgt := 167) C0.1 C0.2.1 dX8_readsPart_160 (by decide) (fun q => absurd q (by decide)) (fun _ => ?_)
      refine lv_iload_n C0.1 C0.2.1 dX8_readsPart_163 rfl (lv_at hl 1 rfl) ?_
      refine lv_goto (tgt := 178) C0.1 C0.2.1 dX8_readsPart_164 (by decide) ?_
      refine sr_ast (k := (4 * R_) + 0) C0 hK rfl hP (sr_DM ha _ _ _) hS sr_wM6 (nI_clamp (by omega)) (vp_in_nI (by omega) (by omega)) sr_sM6 dX8_readsPart_178 (fun H locs hP hS => ?_)
      refine lv_aload_n C0.1 C0.2.1 dX8_readsPart_179 rfl (lv_at hl 4 rfl) ?_
      refine lv_dup C0.1 C0.2.1 dX8_readsPart_180 rfl ?_
      refine sr_get (v := .int (sg 1 0)) C0 hK hP sr_inX8 sr_wM0 rfl 7 (by decide) sw_617 rfl dX8_readsPart_181 ?_
      refine sr_chi hat ?_
      refine lv_iconst (v := 1) C0.1 C0.2.1 dX8_readsPart_184 (by decide) ?_
      refine lv_iadd C0.1 C0.2.1 dX8_readsPart_185 ?_
      refine sr_chi (nI_add (7 * R_) 1) ?_
      refine sr_put C0 hK hP (sr_DM ha _ _ _) hS sr_inX8 tyX8_ok nmX8 sr_wM0 rfl 7 (by decide) sw_617 rfl (by decide +kernel) (Nat.le_of_ble_eq_true rfl) sr_fM0_7 dX8_readsPart_186 (fun H locs hP hS => ?_)
      have hP : va_P D vwCl (sr_WM cI a kp cx (va_up (va_up sg 2 (upd (sg 2) ((4 * R_) + 0) (0 + ((kp 0 (7 * R_)) - 48)))) 1 (upd (sg 1) 0 (nI ((7 * R_) + 1))))) H := hP
      refine lv_iinc (v := 1) (lv' := [(3, .int 1), (2, .int 0), (1, .int (0 + ((kp 0 (7 * R_)) - 48))), (4, .int ((kp 0 (7 * R_)) - 48)), (0, .ref (a 0))]) C0.1 C0.2.1 dX8_readsPart_189 hl (k := 3) rfl (by decide) (by decide) rfl (fun ls hl => ?_)
      refine lv_goto (tgt := 16) C0.1 C0.2.1 dX8_readsPart_192 (by decide) ?_
      refine lv_iload_n C0.1 C0.2.1 dX8_readsPart_16 rfl (lv_at hl 0 rfl) ?_
      refine lv_bipush (v := 6) C0.1 C0.2.1 dX8_readsPart_17 (by decide) ?_
      refine lv_icmp_ge (tgt := 195) C0.1 C0.2.1 dX8_readsPart_19 (by decide) (fun q => absurd q (by decide)) (fun _ => ?_)
      refine lv_aload_n C0.1 C0.2.1 dX8_readsPart_22 rfl (lv_at hl 4 rfl) ?_
      refine sr_pVi (As := []) C0 hK hP hZ (sr_Zs hZ hZ0 hS) (cc_X8_here ha ((7 * R_) + 1) hK_ rfl (by omega)) sk_X8_here sv_X8_here sw_727 (ci := 8) rfl sr_wM0 rfl rfl hl.1 (Nat.le_of_ble_eq_true rfl) (Nat.le_of_ble_eq_true rfl) (Nat.le_of_ble_eq_true rfl) dX8_readsPart_23 ⟨Nat.zero_le _, Nat.zero_le _⟩ ?_
      refine lv_bipush (v := 48) C0.1 C0.2.1 dX8_readsPart_26 (by decide) ?_
      refine lv_isub C0.1 C0.2.1 dX8_readsPart_28 ?_
      refine lv_istore (lv' := [(4, .int ((sr_he kp ((7 * R_) + 1)) - 48)), (3, .int 1), (2, .int 0), (1, .int (0 + ((kp 0 (7 * R_)) - 48))), (0, .ref (a 0))]) C0.1 C0.2.1 dX8_readsPart_29 hl (by decide) rfl (fun ls hl => ?_)
      refine lv_iload C0.1 C0.2.1 dX8_readsPart_31 (lv_at hl 0 rfl) ?_
      refine lv_i2l C0.1 C0.2.1 dX8_readsPart_33 rfl ?_
      refine lv_iload_n C0.1 C0.2.1 dX8_readsPart_34 rfl (lv_at hl 1 rfl) ?_
      refine lv_iconst (v := 5) C0.1 C0.2.1 dX8_readsPart_35 (by decide) ?_
      refine lv_icmp_ne (tgt := 43) C0.1 C0.2.1 dX8_readsPart_36 (by decide) (fun _ => ?_) (fun q => absurd q (by decide))
      refine lv_lconst (v := 0) C0.1 C0.2.1 dX8_readsPart_43 (by decide) ?_
      refine lv_iload_n C0.1 C0.2.1 dX8_readsPart_44 rfl (lv_at hl 1 rfl) ?_
      refine lv_iconst (v := 5) C0.1 C0.2.1 dX8_readsPart_45 (by decide) ?_
      refine lv_icmp_ne (tgt := 55) C0.1 C0.2.1 dX8_readsPart_46 (by decide) (fun _ => ?_) (fun q => absurd q (by decide))
      refine lv_ldc2 (v := 9) C0.1 C0.2.1 C0.2.2.2.1 (C0.2.2.2.2 _ sw_731) dX8_readsPart_55 ?_
      refine sr_pSi (As := [.long (((sr_he kp ((7 * R_) + 1)) - 48).toInt64), .long 0, .long 9]) C0 hK hP hZ (sr_Zs hZ hZ0 hS) (cc_X8_inI ha ((sr_he kp ((7 * R_) + 1)) - 48) (0 : Int32) (9 : Int32) rfl (by decide) (by decide)) sk_X8_in (ss_X8_in) sw_670 rfl rfl hl.1 (Nat.le_of_ble_eq_true rfl) (Nat.le_of_ble_eq_true rfl) (Nat.le_of_ble_eq_true rfl) dX8_readsPart_58 ⟨Nat.zero_le _, Nat.zero_le _⟩ ?_
      refine sr_ifne (tgt := 66) C0 dX8_readsPart_61 (by decide) (fun c61_2 => ?_) (fun c61_2 => ?_)
      · obtain ⟨hl1, he1, hd1a, hd1b⟩ := sr_he_y hK_ (by decide) (by decide) c61_2
        rw [he1] at hl
        have hq1 : 7 * R_ + 1 < sr_n kp ∧ 48 ≤ (kp 0 (7 * R_ + 1)).toInt ∧ (kp 0 (7 * R_ + 1)).toInt ≤ 57 := ⟨hl1, hd1a, hd1b⟩
        refine lv_iload_n C0.1 C0.2.1 dX8_readsPart_66 rfl (lv_at hl 1 rfl) ?_
        refine lv_iconst (v := 2) C0.1 C0.2.1 dX8_readsPart_67 (by decide) ?_
        refine lv_icmp_ge (tgt := 81) C0.1 C0.2.1 dX8_readsPart_68 (by decide) (fun q => absurd q (by decide)) (fun _ => ?_)
        refine lv_bipush (v := 10) C0.1 C0.2.1 dX8_readsPart_71 (by decide) ?_
        refine lv_iload_n C0.1 C0.2.1 dX8_readsPart_73 rfl (lv_at hl 3 rfl) ?_
        refine lv_imul C0.1 C0.2.1 dX8_readsPart_74 ?_
        refine lv_iload C0.1 C0.2.1 dX8_readsPart_75 (lv_at hl 0 rfl) ?_
        refine lv_iadd C0.1 C0.2.1 dX8_readsPart_77 ?_
        refine lv_goto (tgt := 82) C0.1 C0.2.1 dX8_readsPart_78 (by decide) ?_
        refine lv_istore_n (lv' := [(1, .int ((10 * (0 + ((kp 0 (7 * R_)) - 48))) + ((kp 0 ((7 * R_) + 1)) - 48))), (4, .int ((kp 0 ((7 * R_) + 1)) - 48)), (3, .int 1), (2, .int 0), (0, .ref (a 0))]) C0.1 C0.2.1 dX8_readsPart_82 rfl hl (by decide) rfl (fun ls hl => ?_)
        refine lv_iload_n C0.1 C0.2.1 dX8_readsPart_83 rfl (lv_at hl 2 rfl) ?_
        refine lv_iconst (v := 2) C0.1 C0.2.1 dX8_readsPart_84 (by decide) ?_
        refine lv_icmp_eq (tgt := 93) C0.1 C0.2.1 dX8_readsPart_85 (by decide) (fun q => absurd q (by decide)) (fun _ => ?_)
        refine lv_iload_n C0.1 C0.2.1 dX8_readsPart_88 rfl (lv_at hl 2 rfl) ?_
        refine lv_iconst (v := 3) C0.1 C0.2.1 dX8_readsPart_89 (by decide) ?_
        refine lv_icmp_ne (tgt := 103) C0.1 C0.2.1 dX8_readsPart_90 (by decide) (fun _ => ?_) (fun q => absurd q (by decide))
        refine lv_iload_n C0.1 C0.2.1 dX8_readsPart_103 rfl (lv_at hl 3 rfl) ?_
        refine lv_istore_n (lv' := [(2, .int 0), (1, .int ((10 * (0 + ((kp 0 (7 * R_)) - 48))) + ((kp 0 ((7 * R_) + 1)) - 48))), (4, .int ((kp 0 ((7 * R_) + 1)) - 48)), (3, .int 1), (0, .ref (a 0))]) C0.1 C0.2.1 dX8_readsPart_104 rfl hl (by decide) rfl (fun ls hl => ?_)
        refine lv_iload_n C0.1 C0.2.1 dX8_readsPart_105 rfl (lv_at hl 3 rfl) ?_
        refine lv_iconst (v := 1) C0.1 C0.2.1 dX8_readsPart_106 (by decide) ?_
        refine lv_icmp_ne (tgt := 114) C0.1 C0.2.1 dX8_readsPart_107 (by decide) (fun q => absurd q (by decide)) (fun _ => ?_)
        refine lv_iload_n C0.1 C0.2.1 dX8_readsPart_110 rfl (lv_at hl 1 rfl) ?_
        refine lv_if_eq (tgt := 124) C0.1 C0.2.1 dX8_readsPart_111 (by decide) (fun c111 => ?_) (fun c111 => ?_)
        · refine lv_iconst (v := 0) C0.1 C0.2.1 dX8_readsPart_124 (by decide) ?_
          have hx : sr_n kp ≤ 7 * R_ + 1 ∨ sr_go (kp 0) (7 * R_ + 1) = false := Or.inr (Bool.eq_false_iff.mpr (fun q => by have z := ((sr_go_d (by omega) (by omega)).mp q).2.1 rfl; rw [show 7 * R_ + 1 - 1 = 7 * R_ by omega, ← sr_two_e, show 10 * (0 + (kp 0 (7 * R_) - 48)) + (kp 0 (7 * R_ + 1) - 48) = 0 from c111] at z; exact absurd z (by decide)))
          exact hret _ _ _ ((va_up (va_up sg 2 (upd (sg 2) ((4 * R_) + 0) (0 + ((kp 0 (7 * R_)) - 48)))) 1 (upd (sg 1) 0 (nI ((7 * R_) + 1)))), false) _ _ _ dX8_readsPart_125 hP hS rfl rfl (sr_Rp_f 1 (by omega) (fun j hj => by rcases (show j = 0 by omega) with rfl <;> first | exact ⟨hq0.1, g_0⟩) hx rfl)
        · have g_1 : sr_go (kp 0) (7 * R_ + 1) = true := (sr_go_d (by omega) (by omega)).mpr ⟨by omega, fun _ => sr_pos2 (sr_two_i (p := 7 * R_) (by exact hq0.2) (by exact hq1.2)) (fun q => c111 ((sr_two_e (kp 0) (7 * R_)).trans q)), fun z => absurd z (by decide), fun z => absurd z (by decide)⟩
          refine lv_iload_n C0.1 C0.2.1 dX8_readsPart_114 rfl (lv_at hl 3 rfl) ?_
          refine lv_iconst (v := 3) C0.1 C0.2.1 dX8_readsPart_115 (by decide) ?_
          refine lv_icmp_ne (tgt := 126) C0.1 C0.2.1 dX8_readsPart_116 (by decide) (fun _ => ?_) (fun q => absurd q (by decide))
          refine lv_aload_n C0.1 C0.2.1 dX8_readsPart_126 rfl (lv_at hl 4 rfl) ?_
          refine sr_get (v := .ref (a 6)) C0 hK hP sr_inX8 sr_wM0 rfl 9 (by decide) sw_619 rfl dX8_readsPart_127 ?_
          refine lv_iconst (v := 4) C0.1 C0.2.1 dX8_readsPart_130 (by decide) ?_
          refine lv_aload_n C0.1 C0.2.1 dX8_readsPart_131 rfl (lv_at hl 4 rfl) ?_
          refine sr_get (v := .int (sg 1 1)) C0 hK hP sr_inX8 sr_wM0 rfl 8 (by decide) sw_618 rfl dX8_readsPart_132 ?_
          refine sr_chi hru ?_
          refine lv_imul C0.1 C0.2.1 dX8_readsPart_135 ?_
          refine sr_chi (pk_mul 4 R_) ?_
          refine lv_iload_n C0.1 C0.2.1 dX8_readsPart_136 rfl (lv_at hl 3 rfl) ?_
          refine lv_iconst (v := 2) C0.1 C0.2.1 dX8_readsPart_137 (by decide) ?_
          refine lv_icmp_ge (tgt := 145) C0.1 C0.2.1 dX8_readsPart_138 (by decide) (fun q => absurd q (by decide)) (fun _ => ?_)
          refine lv_iconst (v := 0) C0.1 C0.2.1 dX8_readsPart_141 (by decide) ?_
          refine lv_goto (tgt := 157) C0.1 C0.2.1 dX8_readsPart_142 (by decide) ?_
          refine lv_iadd C0.1 C0.2.1 dX8_readsPart_157 ?_
          refine sr_chi (nI_add (4 * R_) 0) ?_
          refine lv_iload_n C0.1 C0.2.1 dX8_readsPart_158 rfl (lv_at hl 3 rfl) ?_
          refine lv_iconst (v := 2) C0.1 C0.2.1 dX8_readsPart_159 (by decide) ?_
          refine lv_icmp_ge (tgt := 167) C0.1 C0.2.1 dX8_readsPart_160 (by decide) (fun q => absurd q (by decide)) (fun _ => ?_)
          refine lv_iload_n C0.1 C0.2.1 dX8_readsPart_163 rfl (lv_at hl 1 rfl) ?_
          refine lv_goto (tgt := 178) C0.1 C0.2.1 dX8_readsPart_164 (by decide) ?_
          refine sr_ast (k := (4 * R_) + 0) C0 hK rfl hP (sr_DM ha _ _ _) hS sr_wM6 (nI_clamp (by omega)) (vp_in_nI (by omega) (by omega)) sr_sM6 dX8_readsPart_178 (fun H locs hP hS => ?_)
          have hP : va_P D vwCl (sr_WM cI a kp cx (va_up (va_up (va_up sg 2 (upd (sg 2) ((4 * R_) + 0) (0 + ((kp 0 (7 * R_)) - 48)))) 1 (upd (sg 1) 0 (nI ((7 * R_) + 1)))) 2 (upd (upd (sg 2) ((4 * R_) + 0) (0 + ((kp 0 (7 * R_)) - 48))) ((4 * R_) + 0) ((10 * (0 + ((kp 0 (7 * R_)) - 48))) + ((kp 0 ((7 * R_) + 1)) - 48))))) H := hP
          refine lv_aload_n C0.1 C0.2.1 dX8_readsPart_179 rfl (lv_at hl 4 rfl) ?_
          refine lv_dup C0.1 C0.2.1 dX8_readsPart_180 rfl ?_
          refine sr_get (v := .int (nI ((7 * R_) + 1))) C0 hK hP sr_inX8 sr_wM0 rfl 7 (by decide) sw_617 rfl dX8_readsPart_181 ?_
          refine lv_iconst (v := 1) C0.1 C0.2.1 dX8_readsPart_184 (by decide) ?_
          refine lv_iadd C0.1 C0.2.1 dX8_readsPart_185 ?_
          refine sr_chi (nI_add ((7 * R_) + 1) 1) ?_
          refine sr_put C0 hK hP (sr_DM ha _ _ _) hS sr_inX8 tyX8_ok nmX8 sr_wM0 rfl 7 (by decide) sw_617 rfl (by decide +kernel) (Nat.le_of_ble_eq_true rfl) sr_fM0_7 dX8_readsPart_186 (fun H locs hP hS => ?_)
          have hP : va_P D vwCl (sr_WM cI a kp cx (va_up (va_up (va_up (va_up sg 2 (upd (sg 2) ((4 * R_) + 0) (0 + ((kp 0 (7 * R_)) - 48)))) 1 (upd (sg 1) 0 (nI ((7 * R_) + 1)))) 2 (upd (upd (sg 2) ((4 * R_) + 0) (0 + ((kp 0 (7 * R_)) - 48))) ((4 * R_) + 0) ((10 * (0 + ((kp 0 (7 * R_)) - 48))) + ((kp 0 ((7 * R_) + 1)) - 48)))) 1 (upd (upd (sg 1) 0 (nI ((7 * R_) + 1))) 0 (nI (((7 * R_) + 1) + 1))))) H := hP
          refine lv_iinc (v := 2) (lv' := [(3, .int 2), (2, .int 0), (1, .int ((10 * (0 + ((kp 0 (7 * R_)) - 48))) + ((kp 0 ((7 * R_) + 1)) - 48))), (4, .int ((kp 0 ((7 * R_) + 1)) - 48)), (0, .ref (a 0))]) C0.1 C0.2.1 dX8_readsPart_189 hl (k := 3) rfl (by decide) (by decide) rfl (fun ls hl => ?_)
          refine lv_goto (tgt := 16) C0.1 C0.2.1 dX8_readsPart_192 (by decide) ?_
          refine lv_iload_n C0.1 C0.2.1 dX8_readsPart_16 rfl (lv_at hl 0 rfl) ?_
          refine lv_bipush (v := 6) C0.1 C0.2.1 dX8_readsPart_17 (by decide) ?_
          refine lv_icmp_ge (tgt := 195) C0.1 C0.2.1 dX8_readsPart_19 (by decide) (fun q => absurd q (by decide)) (fun _ => ?_)
          refine lv_aload_n C0.1 C0.2.1 dX8_readsPart_22 rfl (lv_at hl 4 rfl) ?_
          refine sr_pVi (As := []) C0 hK hP hZ (sr_Zs hZ hZ0 hS) (cc_X8_here ha (((7 * R_) + 1) + 1) hK_ rfl (by omega)) sk_X8_here sv_X8_here sw_727 (ci := 8) rfl sr_wM0 rfl rfl hl.1 (Nat.le_of_ble_eq_true rfl) (Nat.le_of_ble_eq_true rfl) (Nat.le_of_ble_eq_true rfl) dX8_readsPart_23 ⟨Nat.zero_le _, Nat.zero_le _⟩ ?_
          refine lv_bipush (v := 48) C0.1 C0.2.1 dX8_readsPart_26 (by decide) ?_
          refine lv_isub C0.1 C0.2.1 dX8_readsPart_28 ?_
          refine lv_istore (lv' := [(4, .int ((sr_he kp (((7 * R_) + 1) + 1)) - 48)), (3, .int 2), (2, .int 0), (1, .int ((10 * (0 + ((kp 0 (7 * R_)) - 48))) + ((kp 0 ((7 * R_) + 1)) - 48))), (0, .ref (a 0))]) C0.1 C0.2.1 dX8_readsPart_29 hl (by decide) rfl (fun ls hl => ?_)
          refine lv_iload C0.1 C0.2.1 dX8_readsPart_31 (lv_at hl 0 rfl) ?_
          refine lv_i2l C0.1 C0.2.1 dX8_readsPart_33 rfl ?_
          refine lv_iload_n C0.1 C0.2.1 dX8_readsPart_34 rfl (lv_at hl 1 rfl) ?_
          refine lv_iconst (v := 5) C0.1 C0.2.1 dX8_readsPart_35 (by decide) ?_
          refine lv_icmp_ne (tgt := 43) C0.1 C0.2.1 dX8_readsPart_36 (by decide) (fun _ => ?_) (fun q => absurd q (by decide))
          refine lv_lconst (v := 0) C0.1 C0.2.1 dX8_readsPart_43 (by decide) ?_
          refine lv_iload_n C0.1 C0.2.1 dX8_readsPart_44 rfl (lv_at hl 1 rfl) ?_
          refine lv_iconst (v := 5) C0.1 C0.2.1 dX8_readsPart_45 (by decide) ?_
          refine lv_icmp_ne (tgt := 55) C0.1 C0.2.1 dX8_readsPart_46 (by decide) (fun _ => ?_) (fun q => absurd q (by decide))
          refine lv_ldc2 (v := 9) C0.1 C0.2.1 C0.2.2.2.1 (C0.2.2.2.2 _ sw_731) dX8_readsPart_55 ?_
          refine sr_pSi (As := [.long (((sr_he kp (((7 * R_) + 1) + 1)) - 48).toInt64), .long 0, .long 9]) C0 hK hP hZ (sr_Zs hZ hZ0 hS) (cc_X8_inI ha ((sr_he kp (((7 * R_) + 1) + 1)) - 48) (0 : Int32) (9 : Int32) rfl (by decide) (by decide)) sk_X8_in (ss_X8_in) sw_670 rfl rfl hl.1 (Nat.le_of_ble_eq_true rfl) (Nat.le_of_ble_eq_true rfl) (Nat.le_of_ble_eq_true rfl) dX8_readsPart_58 ⟨Nat.zero_le _, Nat.zero_le _⟩ ?_
          refine sr_ifne (tgt := 66) C0 dX8_readsPart_61 (by decide) (fun c61_3 => ?_) (fun c61_3 => ?_)
          · obtain ⟨hl2, he2, hd2a, hd2b⟩ := sr_he_y hK_ (by decide) (by decide) c61_3
            rw [he2] at hl
            have hq2 : 7 * R_ + 2 < sr_n kp ∧ 48 ≤ (kp 0 (7 * R_ + 2)).toInt ∧ (kp 0 (7 * R_ + 2)).toInt ≤ 57 := ⟨hl2, hd2a, hd2b⟩
            have g_2 : sr_go (kp 0) (7 * R_ + 2) = true := (sr_go_d (by omega) (by omega)).mpr ⟨by omega, fun z => absurd z (by decide), fun z => absurd z (by decide), fun z => absurd z (by decide)⟩
            refine lv_iload_n C0.1 C0.2.1 dX8_readsPart_66 rfl (lv_at hl 1 rfl) ?_
            refine lv_iconst (v := 2) C0.1 C0.2.1 dX8_readsPart_67 (by decide) ?_
            refine lv_icmp_ge (tgt := 81) C0.1 C0.2.1 dX8_readsPart_68 (by decide) (fun _ => ?_) (fun q => absurd q (by decide))
            refine lv_iload_n C0.1 C0.2.1 dX8_readsPart_81 rfl (lv_at hl 3 rfl) ?_
            refine lv_istore_n (lv' := [(1, .int ((10 * (0 + ((kp 0 (7 * R_)) - 48))) + ((kp 0 ((7 * R_) + 1)) - 48))), (4, .int ((kp 0 (((7 * R_) + 1) + 1)) - 48)), (3, .int 2), (2, .int 0), (0, .ref (a 0))]) C0.1 C0.2.1 dX8_readsPart_82 rfl hl (by decide) rfl (fun ls hl => ?_)
            refine lv_iload_n C0.1 C0.2.1 dX8_readsPart_83 rfl (lv_at hl 2 rfl) ?_
            refine lv_iconst (v := 2) C0.1 C0.2.1 dX8_readsPart_84 (by decide) ?_
            refine lv_icmp_eq (tgt := 93) C0.1 C0.2.1 dX8_readsPart_85 (by decide) (fun _ => ?_) (fun q => absurd q (by decide))
            refine lv_bipush (v := 10) C0.1 C0.2.1 dX8_readsPart_93 (by decide) ?_
            refine lv_iload_n C0.1 C0.2.1 dX8_readsPart_95 rfl (lv_at hl 3 rfl) ?_
            refine lv_imul C0.1 C0.2.1 dX8_readsPart_96 ?_
            refine sr_chi (by decide : (10 * 0 : Int32) = 0) ?_
            refine lv_iload C0.1 C0.2.1 dX8_readsPart_97 (lv_at hl 1 rfl) ?_
            refine lv_iadd C0.1 C0.2.1 dX8_readsPart_99 ?_
            refine lv_goto (tgt := 104) C0.1 C0.2.1 dX8_readsPart_100 (by decide) ?_
            refine lv_istore_n (lv' := [(2, .int (0 + ((kp 0 (((7 * R_) + 1) + 1)) - 48))), (1, .int ((10 * (0 + ((kp 0 (7 * R_)) - 48))) + ((kp 0 ((7 * R_) + 1)) - 48))), (4, .int ((kp 0 (((7 * R_) + 1) + 1)) - 48)), (3, .int 2), (0, .ref (a 0))]) C0.1 C0.2.1 dX8_readsPart_104 rfl hl (by decide) rfl (fun ls hl => ?_)
            refine lv_iload_n C0.1 C0.2.1 dX8_readsPart_105 rfl (lv_at hl 3 rfl) ?_
            refine lv_iconst (v := 1) C0.1 C0.2.1 dX8_readsPart_106 (by decide) ?_
            refine lv_icmp_ne (tgt := 114) C0.1 C0.2.1 dX8_readsPart_107 (by decide) (fun _ => ?_) (fun q => absurd q (by decide))
            refine lv_iload_n C0.1 C0.2.1 dX8_readsPart_114 rfl (lv_at hl 3 rfl) ?_
            refine lv_iconst (v := 3) C0.1 C0.2.1 dX8_readsPart_115 (by decide) ?_
            refine lv_icmp_ne (tgt := 126) C0.1 C0.2.1 dX8_readsPart_116 (by decide) (fun _ => ?_) (fun q => absurd q (by decide))
            refine lv_aload_n C0.1 C0.2.1 dX8_readsPart_126 rfl (lv_at hl 4 rfl) ?_
            refine sr_get (v := .ref (a 6)) C0 hK hP sr_inX8 sr_wM0 rfl 9 (by decide) sw_619 rfl dX8_readsPart_127 ?_
            refine lv_iconst (v := 4) C0.1 C0.2.1 dX8_readsPart_130 (by decide) ?_
            refine lv_aload_n C0.1 C0.2.1 dX8_readsPart_131 rfl (lv_at hl 4 rfl) ?_
            refine sr_get (v := .int (sg 1 1)) C0 hK hP sr_inX8 sr_wM0 rfl 8 (by decide) sw_618 rfl dX8_readsPart_132 ?_
            refine sr_chi hru ?_
            refine lv_imul C0.1 C0.2.1 dX8_readsPart_135 ?_
            refine sr_chi (pk_mul 4 R_) ?_
            refine lv_iload_n C0.1 C0.2.1 dX8_readsPart_136 rfl (lv_at hl 3 rfl) ?_
            refine lv_iconst (v := 2) C0.1 C0.2.1 dX8_readsPart_137 (by decide) ?_
            refine lv_icmp_ge (tgt := 145) C0.1 C0.2.1 dX8_readsPart_138 (by decide) (fun _ => ?_) (fun q => absurd q (by decide))
            refine lv_iload_n C0.1 C0.2.1 dX8_readsPart_145 rfl (lv_at hl 3 rfl) ?_
            refine lv_iconst (v := 4) C0.1 C0.2.1 dX8_readsPart_146 (by decide) ?_
            refine lv_icmp_ge (tgt := 154) C0.1 C0.2.1 dX8_readsPart_147 (by decide) (fun q => absurd q (by decide)) (fun _ => ?_)
            refine lv_iconst (v := 1) C0.1 C0.2.1 dX8_readsPart_150 (by decide) ?_
            refine lv_goto (tgt := 157) C0.1 C0.2.1 dX8_readsPart_151 (by decide) ?_
            refine lv_iadd C0.1 C0.2.1 dX8_readsPart_157 ?_
            refine sr_chi (nI_add (4 * R_) 1) ?_
            refine lv_iload_n C0.1 C0.2.1 dX8_readsPart_158 rfl (lv_at hl 3 rfl) ?_
            refine lv_iconst (v := 2) C0.1 C0.2.1 dX8_readsPart_159 (by decide) ?_
            refine lv_icmp_ge (tgt := 167) C0.1 C0.2.1 dX8_readsPart_160 (by decide) (fun _ => ?_) (fun q => absurd q (by decide))
            refine lv_iload_n C0.1 C0.2.1 dX8_readsPart_167 rfl (lv_at hl 3 rfl) ?_
            refine lv_iconst (v := 4) C0.1 C0.2.1 dX8_readsPart_168 (by decide) ?_
            refine lv_icmp_ge (tgt := 176) C0.1 C0.2.1 dX8_readsPart_169 (by decide) (fun q => absurd q (by decide)) (fun _ => ?_)
            refine lv_iload_n C0.1 C0.2.1 dX8_readsPart_172 rfl (lv_at hl 0 rfl) ?_
            refine lv_goto (tgt := 178) C0.1 C0.2.1 dX8_readsPart_173 (by decide) ?_
            refine sr_ast (k := (4 * R_) + 1) C0 hK rfl hP (sr_DM ha _ _ _) hS sr_wM6 (nI_clamp (by omega)) (vp_in_nI (by omega) (by omega)) sr_sM6 dX8_readsPart_178 (fun H locs hP hS => ?_)
            have hP : va_P D vwCl (sr_WM cI a kp cx (va_up (va_up (va_up (va_up (va_up sg 2 (upd (sg 2) ((4 * R_) + 0) (0 + ((kp 0 (7 * R_)) - 48)))) 1 (upd (sg 1) 0 (nI ((7 * R_) + 1)))) 2 (upd (upd (sg 2) ((4 * R_) + 0) (0 + ((kp 0 (7 * R_)) - 48))) ((4 * R_) + 0) ((10 * (0 + ((kp 0 (7 * R_)) - 48))) + ((kp 0 ((7 * R_) + 1)) - 48)))) 1 (upd (upd (sg 1) 0 (nI ((7 * R_) + 1))) 0 (nI (((7 * R_) + 1) + 1)))) 2 (upd (upd (upd (sg 2) ((4 * R_) + 0) (0 + ((kp 0 (7 * R_)) - 48))) ((4 * R_) + 0) ((10 * (0 + ((kp 0 (7 * R_)) - 48))) + ((kp 0 ((7 * R_) + 1)) - 48))) ((4 * R_) + 1) (0 + ((kp 0 (((7 * R_) + 1) + 1)) - 48))))) H := hP
            refine lv_aload_n C0.1 C0.2.1 dX8_readsPart_179 rfl (lv_at hl 4 rfl) ?_
            refine lv_dup C0.1 C0.2.1 dX8_readsPart_180 rfl ?_
            refine sr_get (v := .int (nI (((7 * R_) + 1) + 1))) C0 hK hP sr_inX8 sr_wM0 rfl 7 (by decide) sw_617 rfl dX8_readsPart_181 ?_
            refine lv_iconst (v := 1) C0.1 C0.2.1 dX8_readsPart_184 (by decide) ?_
            refine lv_iadd C0.1 C0.2.1 dX8_readsPart_185 ?_
            refine sr_chi (nI_add (((7 * R_) + 1) + 1) 1) ?_
            refine sr_put C0 hK hP (sr_DM ha _ _ _) hS sr_inX8 tyX8_ok nmX8 sr_wM0 rfl 7 (by decide) sw_617 rfl (by decide +kernel) (Nat.le_of_ble_eq_true rfl) sr_fM0_7 dX8_readsPart_186 (fun H locs hP hS => ?_)
            have hP : va_P D vwCl (sr_WM cI a kp cx (va_up (va_up (va_up (va_up (va_up (va_up sg 2 (upd (sg 2) ((4 * R_) + 0) (0 + ((kp 0 (7 * R_)) - 48)))) 1 (upd (sg 1) 0 (nI ((7 * R_) + 1)))) 2 (upd (upd (sg 2) ((4 * R_) + 0) (0 + ((kp 0 (7 * R_)) - 48))) ((4 * R_) + 0) ((10 * (0 + ((kp 0 (7 * R_)) - 48))) + ((kp 0 ((7 * R_) + 1)) - 48)))) 1 (upd (upd (sg 1) 0 (nI ((7 * R_) + 1))) 0 (nI (((7 * R_) + 1) + 1)))) 2 (upd (upd (upd (sg 2) ((4 * R_) + 0) (0 + ((kp 0 (7 * R_)) - 48))) ((4 * R_) + 0) ((10 * (0 + ((kp 0 (7 * R_)) - 48))) + ((kp 0 ((7 * R_) + 1)) - 48))) ((4 * R_) + 1) (0 + ((kp 0 (((7 * R_) + 1) + 1)) - 48)))) 1 (upd (upd (upd (sg 1) 0 (nI ((7 * R_) + 1))) 0 (nI (((7 * R_) + 1) + 1))) 0 (nI ((((7 * R_) + 1) + 1) + 1))))) H := hP
            refine lv_iinc (v := 3) (lv' := [(3, .int 3), (2, .int (0 + ((kp 0 (((7 * R_) + 1) + 1)) - 48))), (1, .int ((10 * (0 + ((kp 0 (7 * R_)) - 48))) + ((kp 0 ((7 * R_) + 1)) - 48))), (4, .int ((kp 0 (((7 * R_) + 1) + 1)) - 48)), (0, .ref (a 0))]) C0.1 C0.2.1 dX8_readsPart_189 hl (k := 3) rfl (by decide) (by decide) rfl (fun ls hl => ?_)
            refine lv_goto (tgt := 16) C0.1 C0.2.1 dX8_readsPart_192 (by decide) ?_
            refine lv_iload_n C0.1 C0.2.1 dX8_readsPart_16 rfl (lv_at hl 0 rfl) ?_
            refine lv_bipush (v := 6) C0.1 C0.2.1 dX8_readsPart_17 (by decide) ?_
            refine lv_icmp_ge (tgt := 195) C0.1 C0.2.1 dX8_readsPart_19 (by decide) (fun q => absurd q (by decide)) (fun _ => ?_)
            refine lv_aload_n C0.1 C0.2.1 dX8_readsPart_22 rfl (lv_at hl 4 rfl) ?_
            refine sr_pVi (As := []) C0 hK hP hZ (sr_Zs hZ hZ0 hS) (cc_X8_here ha ((((7 * R_) + 1) + 1) + 1) hK_ rfl (by omega)) sk_X8_here sv_X8_here sw_727 (ci := 8) rfl sr_wM0 rfl rfl hl.1 (Nat.le_of_ble_eq_true rfl) (Nat.le_of_ble_eq_true rfl) (Nat.le_of_ble_eq_true rfl) dX8_readsPart_23 ⟨Nat.zero_le _, Nat.zero_le _⟩ ?_
            refine lv_bipush (v := 48) C0.1 C0.2.1 dX8_readsPart_26 (by decide) ?_
            refine lv_isub C0.1 C0.2.1 dX8_readsPart_28 ?_
            refine lv_istore (lv' := [(4, .int ((sr_he kp ((((7 * R_) + 1) + 1) + 1)) - 48)), (3, .int 3), (2, .int (0 + ((kp 0 (((7 * R_) + 1) + 1)) - 48))), (1, .int ((10 * (0 + ((kp 0 (7 * R_)) - 48))) + ((kp 0 ((7 * R_) + 1)) - 48))), (0, .ref (a 0))]) C0.1 C0.2.1 dX8_readsPart_29 hl (by decide) rfl (fun ls hl => ?_)
            refine lv_iload C0.1 C0.2.1 dX8_readsPart_31 (lv_at hl 0 rfl) ?_
            refine lv_i2l C0.1 C0.2.1 dX8_readsPart_33 rfl ?_
            refine lv_iload_n C0.1 C0.2.1 dX8_readsPart_34 rfl (lv_at hl 1 rfl) ?_
            refine lv_iconst (v := 5) C0.1 C0.2.1 dX8_readsPart_35 (by decide) ?_
            refine lv_icmp_ne (tgt := 43) C0.1 C0.2.1 dX8_readsPart_36 (by decide) (fun _ => ?_) (fun q => absurd q (by decide))
            refine lv_lconst (v := 0) C0.1 C0.2.1 dX8_readsPart_43 (by decide) ?_
            refine lv_iload_n C0.1 C0.2.1 dX8_readsPart_44 rfl (lv_at hl 1 rfl) ?_
            refine lv_iconst (v := 5) C0.1 C0.2.1 dX8_readsPart_45 (by decide) ?_
            refine lv_icmp_ne (tgt := 55) C0.1 C0.2.1 dX8_readsPart_46 (by decide) (fun _ => ?_) (fun q => absurd q (by decide))
            refine lv_ldc2 (v := 9) C0.1 C0.2.1 C0.2.2.2.1 (C0.2.2.2.2 _ sw_731) dX8_readsPart_55 ?_
            refine sr_pSi (As := [.long (((sr_he kp ((((7 * R_) + 1) + 1) + 1)) - 48).toInt64), .long 0, .long 9]) C0 hK hP hZ (sr_Zs hZ hZ0 hS) (cc_X8_inI ha ((sr_he kp ((((7 * R_) + 1) + 1) + 1)) - 48) (0 : Int32) (9 : Int32) rfl (by decide) (by decide)) sk_X8_in (ss_X8_in) sw_670 rfl rfl hl.1 (Nat.le_of_ble_eq_true rfl) (Nat.le_of_ble_eq_true rfl) (Nat.le_of_ble_eq_true rfl) dX8_readsPart_58 ⟨Nat.zero_le _, Nat.zero_le _⟩ ?_
            refine sr_ifne (tgt := 66) C0 dX8_readsPart_61 (by decide) (fun c61_4 => ?_) (fun c61_4 => ?_)
            · obtain ⟨hl3, he3, hd3a, hd3b⟩ := sr_he_y hK_ (by decide) (by decide) c61_4
              rw [he3] at hl
              have hq3 : 7 * R_ + 3 < sr_n kp ∧ 48 ≤ (kp 0 (7 * R_ + 3)).toInt ∧ (kp 0 (7 * R_ + 3)).toInt ≤ 57 := ⟨hl3, hd3a, hd3b⟩
              refine lv_iload_n C0.1 C0.2.1 dX8_readsPart_66 rfl (lv_at hl 1 rfl) ?_
              refine lv_iconst (v := 2) C0.1 C0.2.1 dX8_readsPart_67 (by decide) ?_
              refine lv_icmp_ge (tgt := 81) C0.1 C0.2.1 dX8_readsPart_68 (by decide) (fun _ => ?_) (fun q => absurd q (by decide))
              refine lv_iload_n C0.1 C0.2.1 dX8_readsPart_81 rfl (lv_at hl 3 rfl) ?_
              refine lv_istore_n (lv' := [(1, .int ((10 * (0 + ((kp 0 (7 * R_)) - 48))) + ((kp 0 ((7 * R_) + 1)) - 48))), (4, .int ((kp 0 ((((7 * R_) + 1) + 1) + 1)) - 48)), (3, .int 3), (2, .int (0 + ((kp 0 (((7 * R_) + 1) + 1)) - 48))), (0, .ref (a 0))]) C0.1 C0.2.1 dX8_readsPart_82 rfl hl (by decide) rfl (fun ls hl => ?_)
              refine lv_iload_n C0.1 C0.2.1 dX8_readsPart_83 rfl (lv_at hl 2 rfl) ?_
              refine lv_iconst (v := 2) C0.1 C0.2.1 dX8_readsPart_84 (by decide) ?_
              refine lv_icmp_eq (tgt := 93) C0.1 C0.2.1 dX8_readsPart_85 (by decide) (fun q => absurd q (by decide)) (fun _ => ?_)
              refine lv_iload_n C0.1 C0.2.1 dX8_readsPart_88 rfl (lv_at hl 2 rfl) ?_
              refine lv_iconst (v := 3) C0.1 C0.2.1 dX8_readsPart_89 (by decide) ?_
              refine lv_icmp_ne (tgt := 103) C0.1 C0.2.1 dX8_readsPart_90 (by decide) (fun q => absurd q (by decide)) (fun _ => ?_)
              refine lv_bipush (v := 10) C0.1 C0.2.1 dX8_readsPart_93 (by decide) ?_
              refine lv_iload_n C0.1 C0.2.1 dX8_readsPart_95 rfl (lv_at hl 3 rfl) ?_
              refine lv_imul C0.1 C0.2.1 dX8_readsPart_96 ?_
              refine lv_iload C0.1 C0.2.1 dX8_readsPart_97 (lv_at hl 1 rfl) ?_
              refine lv_iadd C0.1 C0.2.1 dX8_readsPart_99 ?_
              refine lv_goto (tgt := 104) C0.1 C0.2.1 dX8_readsPart_100 (by decide) ?_
              refine lv_istore_n (lv' := [(2, .int ((10 * (0 + ((kp 0 (((7 * R_) + 1) + 1)) - 48))) + ((kp 0 ((((7 * R_) + 1) + 1) + 1)) - 48))), (1, .int ((10 * (0 + ((kp 0 (7 * R_)) - 48))) + ((kp 0 ((7 * R_) + 1)) - 48))), (4, .int ((kp 0 ((((7 * R_) + 1) + 1) + 1)) - 48)), (3, .int 3), (0, .ref (a 0))]) C0.1 C0.2.1 dX8_readsPart_104 rfl hl (by decide) rfl (fun ls hl => ?_)
              refine lv_iload_n C0.1 C0.2.1 dX8_readsPart_105 rfl (lv_at hl 3 rfl) ?_
              refine lv_iconst (v := 1) C0.1 C0.2.1 dX8_readsPart_106 (by decide) ?_
              refine lv_icmp_ne (tgt := 114) C0.1 C0.2.1 dX8_readsPart_107 (by decide) (fun _ => ?_) (fun q => absurd q (by decide))
              refine lv_iload_n C0.1 C0.2.1 dX8_readsPart_114 rfl (lv_at hl 3 rfl) ?_
              refine lv_iconst (v := 3) C0.1 C0.2.1 dX8_readsPart_115 (by decide) ?_
              refine lv_icmp_ne (tgt := 126) C0.1 C0.2.1 dX8_readsPart_116 (by decide) (fun q => absurd q (by decide)) (fun _ => ?_)
              refine lv_iload_n C0.1 C0.2.1 dX8_readsPart_119 rfl (lv_at hl 0 rfl) ?_
              refine lv_iload_n C0.1 C0.2.1 dX8_readsPart_120 rfl (lv_at hl 1 rfl) ?_
              refine lv_icmp_ge (tgt := 126) C0.1 C0.2.1 dX8_readsPart_121 (by decide) (fun c121 => ?_) (fun c121 => ?_)
              · have g_3 : sr_go (kp 0) (7 * R_ + 3) = true := (sr_go_d (by omega) (by omega)).mpr ⟨by omega, fun z => absurd z (by decide), fun _ => by have z := c121; rw [show 10 * (0 + (kp 0 (7 * R_) - 48)) + (kp 0 (7 * R_ + 1) - 48) = sr_two (kp 0) (7 * R_) from sr_two_e _ _] at z; exact Int32.le_trans z (Int32.le_of_eq (sr_two_e (kp 0) (7 * R_ + 2))), fun z => absurd z (by decide)⟩
                refine lv_aload_n C0.1 C0.2.1 dX8_readsPart_126 rfl (lv_at hl 4 rfl) ?_
                refine sr_get (v := .ref (a 6)) C0 hK hP sr_inX8 sr_wM0 rfl 9 (by decide) sw_619 rfl dX8_readsPart_127 ?_
                refine lv_iconst (v := 4) C0.1 C0.2.1 dX8_readsPart_130 (by decide) ?_
                refine lv_aload_n C0.1 C0.2.1 dX8_readsPart_131 rfl (lv_at hl 4 rfl) ?_
                refine sr_get (v := .int (sg 1 1)) C0 hK hP sr_inX8 sr_wM0 rfl 8 (by decide) sw_618 rfl dX8_readsPart_132 ?_
                refine sr_chi hru ?_
                refine lv_imul C0.1 C0.2.1 dX8_readsPart_135 ?_
                refine sr_chi (pk_mul 4 R_) ?_
                refine lv_iload_n C0.1 C0.2.1 dX8_readsPart_136 rfl (lv_at hl 3 rfl) ?_
                refine lv_iconst (v := 2) C0.1 C0.2.1 dX8_readsPart_137 (by decide) ?_
                refine lv_icmp_ge (tgt := 145) C0.1 C0.2.1 dX8_readsPart_138 (by decide) (fun _ => ?_) (fun q => absurd q (by decide))
                refine lv_iload_n C0.1 C0.2.1 dX8_readsPart_145 rfl (lv_at hl 3 rfl) ?_
                refine lv_iconst (v := 4) C0.1 C0.2.1 dX8_readsPart_146 (by decide) ?_
                refine lv_icmp_ge (tgt := 154) C0.1 C0.2.1 dX8_readsPart_147 (by decide) (fun q => absurd q (by decide)) (fun _ => ?_)
                refine lv_iconst (v := 1) C0.1 C0.2.1 dX8_readsPart_150 (by decide) ?_
                refine lv_goto (tgt := 157) C0.1 C0.2.1 dX8_readsPart_151 (by decide) ?_
                refine lv_iadd C0.1 C0.2.1 dX8_readsPart_157 ?_
                refine sr_chi (nI_add (4 * R_) 1) ?_
                refine lv_iload_n C0.1 C0.2.1 dX8_readsPart_158 rfl (lv_at hl 3 rfl) ?_
                refine lv_iconst (v := 2) C0.1 C0.2.1 dX8_readsPart_159 (by decide) ?_
                refine lv_icmp_ge (tgt := 167) C0.1 C0.2.1 dX8_readsPart_160 (by decide) (fun _ => ?_) (fun q => absurd q (by decide))
                refine lv_iload_n C0.1 C0.2.1 dX8_readsPart_167 rfl (lv_at hl 3 rfl) ?_
                refine lv_iconst (v := 4) C0.1 C0.2.1 dX8_readsPart_168 (by decide) ?_
                refine lv_icmp_ge (tgt := 176) C0.1 C0.2.1 dX8_readsPart_169 (by decide) (fun q => absurd q (by decide)) (fun _ => ?_)
                refine lv_iload_n C0.1 C0.2.1 dX8_readsPart_172 rfl (lv_at hl 0 rfl) ?_
                refine lv_goto (tgt := 178) C0.1 C0.2.1 dX8_readsPart_173 (by decide) ?_
                refine sr_ast (k := (4 * R_) + 1) C0 hK rfl hP (sr_DM ha _ _ _) hS sr_wM6 (nI_clamp (by omega)) (vp_in_nI (by omega) (by omega)) sr_sM6 dX8_readsPart_178 (fun H locs hP hS => ?_)
                have hP : va_P D vwCl (sr_WM cI a kp cx (va_up (va_up (va_up (va_up (va_up (va_up (va_up sg 2 (upd (sg 2) ((4 * R_) + 0) (0 + ((kp 0 (7 * R_)) - 48)))) 1 (upd (sg 1) 0 (nI ((7 * R_) + 1)))) 2 (upd (upd (sg 2) ((4 * R_) + 0) (0 + ((kp 0 (7 * R_)) - 48))) ((4 * R_) + 0) ((10 * (0 + ((kp 0 (7 * R_)) - 48))) + ((kp 0 ((7 * R_) + 1)) - 48)))) 1 (upd (upd (sg 1) 0 (nI ((7 * R_) + 1))) 0 (nI (((7 * R_) + 1) + 1)))) 2 (upd (upd (upd (sg 2) ((4 * R_) + 0) (0 + ((kp 0 (7 * R_)) - 48))) ((4 * R_) + 0) ((10 * (0 + ((kp 0 (7 * R_)) - 48))) + ((kp 0 ((7 * R_) + 1)) - 48))) ((4 * R_) + 1) (0 + ((kp 0 (((7 * R_) + 1) + 1)) - 48)))) 1 (upd (upd (upd (sg 1) 0 (nI ((7 * R_) + 1))) 0 (nI (((7 * R_) + 1) + 1))) 0 (nI ((((7 * R_) + 1) + 1) + 1)))) 2 (upd (upd (upd (upd (sg 2) ((4 * R_) + 0) (0 + ((kp 0 (7 * R_)) - 48))) ((4 * R_) + 0) ((10 * (0 + ((kp 0 (7 * R_)) - 48))) + ((kp 0 ((7 * R_) + 1)) - 48))) ((4 * R_) + 1) (0 + ((kp 0 (((7 * R_) + 1) + 1)) - 48))) ((4 * R_) + 1) ((10 * (0 + ((kp 0 (((7 * R_) + 1) + 1)) - 48))) + ((kp 0 ((((7 * R_) + 1) + 1) + 1)) - 48))))) H := hP
                refine lv_aload_n C0.1 C0.2.1 dX8_readsPart_179 rfl (lv_at hl 4 rfl) ?_
                refine lv_dup C0.1 C0.2.1 dX8_readsPart_180 rfl ?_
                refine sr_get (v := .int (nI ((((7 * R_) + 1) + 1) + 1))) C0 hK hP sr_inX8 sr_wM0 rfl 7 (by decide) sw_617 rfl dX8_readsPart_181 ?_
                refine lv_iconst (v := 1) C0.1 C0.2.1 dX8_readsPart_184 (by decide) ?_
                refine lv_iadd C0.1 C0.2.1 dX8_readsPart_185 ?_
                refine sr_chi (nI_add ((((7 * R_) + 1) + 1) + 1) 1) ?_
                refine sr_put C0 hK hP (sr_DM ha _ _ _) hS sr_inX8 tyX8_ok nmX8 sr_wM0 rfl 7 (by decide) sw_617 rfl (by decide +kernel) (Nat.le_of_ble_eq_true rfl) sr_fM0_7 dX8_readsPart_186 (fun H locs hP hS => ?_)
                have hP : va_P D vwCl (sr_WM cI a kp cx (va_up (va_up (va_up (va_up (va_up (va_up (va_up (va_up sg 2 (upd (sg 2) ((4 * R_) + 0) (0 + ((kp 0 (7 * R_)) - 48)))) 1 (upd (sg 1) 0 (nI ((7 * R_) + 1)))) 2 (upd (upd (sg 2) ((4 * R_) + 0) (0 + ((kp 0 (7 * R_)) - 48))) ((4 * R_) + 0) ((10 * (0 + ((kp 0 (7 * R_)) - 48))) + ((kp 0 ((7 * R_) + 1)) - 48)))) 1 (upd (upd (sg 1) 0 (nI ((7 * R_) + 1))) 0 (nI (((7 * R_) + 1) + 1)))) 2 (upd (upd (upd (sg 2) ((4 * R_) + 0) (0 + ((kp 0 (7 * R_)) - 48))) ((4 * R_) + 0) ((10 * (0 + ((kp 0 (7 * R_)) - 48))) + ((kp 0 ((7 * R_) + 1)) - 48))) ((4 * R_) + 1) (0 + ((kp 0 (((7 * R_) + 1) + 1)) - 48)))) 1 (upd (upd (upd (sg 1) 0 (nI ((7 * R_) + 1))) 0 (nI (((7 * R_) + 1) + 1))) 0 (nI ((((7 * R_) + 1) + 1) + 1)))) 2 (upd (upd (upd (upd (sg 2) ((4 * R_) + 0) (0 + ((kp 0 (7 * R_)) - 48))) ((4 * R_) + 0) ((10 * (0 + ((kp 0 (7 * R_)) - 48))) + ((kp 0 ((7 * R_) + 1)) - 48))) ((4 * R_) + 1) (0 + ((kp 0 (((7 * R_) + 1) + 1)) - 48))) ((4 * R_) + 1) ((10 * (0 + ((kp 0 (((7 * R_) + 1) + 1)) - 48))) + ((kp 0 ((((7 * R_) + 1) + 1) + 1)) - 48)))) 1 (upd (upd (upd (upd (sg 1) 0 (nI ((7 * R_) + 1))) 0 (nI (((7 * R_) + 1) + 1))) 0 (nI ((((7 * R_) + 1) + 1) + 1))) 0 (nI (((((7 * R_) + 1) + 1) + 1) + 1))))) H := hP
                refine lv_iinc (v := 4) (lv' := [(3, .int 4), (2, .int ((10 * (0 + ((kp 0 (((7 * R_) + 1) + 1)) - 48))) + ((kp 0 ((((7 * R_) + 1) + 1) + 1)) - 48))), (1, .int ((10 * (0 + ((kp 0 (7 * R_)) - 48))) + ((kp 0 ((7 * R_) + 1)) - 48))), (4, .int ((kp 0 ((((7 * R_) + 1) + 1) + 1)) - 48)), (0, .ref (a 0))]) C0.1 C0.2.1 dX8_readsPart_189 hl (k := 3) rfl (by decide) (by decide) rfl (fun ls hl => ?_)
                refine lv_goto (tgt := 16) C0.1 C0.2.1 dX8_readsPart_192 (by decide) ?_
                refine lv_iload_n C0.1 C0.2.1 dX8_readsPart_16 rfl (lv_at hl 0 rfl) ?_
                refine lv_bipush (v := 6) C0.1 C0.2.1 dX8_readsPart_17 (by decide) ?_
                refine lv_icmp_ge (tgt := 195) C0.1 C0.2.1 dX8_readsPart_19 (by decide) (fun q => absurd q (by decide)) (fun _ => ?_)
                refine lv_aload_n C0.1 C0.2.1 dX8_readsPart_22 rfl (lv_at hl 4 rfl) ?_
                refine sr_pVi (As := []) C0 hK hP hZ (sr_Zs hZ hZ0 hS) (cc_X8_here ha (((((7 * R_) + 1) + 1) + 1) + 1) hK_ rfl (by omega)) sk_X8_here sv_X8_here sw_727 (ci := 8) rfl sr_wM0 rfl rfl hl.1 (Nat.le_of_ble_eq_true rfl) (Nat.le_of_ble_eq_true rfl) (Nat.le_of_ble_eq_true rfl) dX8_readsPart_23 ⟨Nat.zero_le _, Nat.zero_le _⟩ ?_
                refine lv_bipush (v := 48) C0.1 C0.2.1 dX8_readsPart_26 (by decide) ?_
                refine lv_isub C0.1 C0.2.1 dX8_readsPart_28 ?_
                refine lv_istore (lv' := [(4, .int ((sr_he kp (((((7 * R_) + 1) + 1) + 1) + 1)) - 48)), (3, .int 4), (2, .int ((10 * (0 + ((kp 0 (((7 * R_) + 1) + 1)) - 48))) + ((kp 0 ((((7 * R_) + 1) + 1) + 1)) - 48))), (1, .int ((10 * (0 + ((kp 0 (7 * R_)) - 48))) + ((kp 0 ((7 * R_) + 1)) - 48))), (0, .ref (a 0))]) C0.1 C0.2.1 dX8_readsPart_29 hl (by decide) rfl (fun ls hl => ?_)
                refine lv_iload C0.1 C0.2.1 dX8_readsPart_31 (lv_at hl 0 rfl) ?_
                refine lv_i2l C0.1 C0.2.1 dX8_readsPart_33 rfl ?_
                refine lv_iload_n C0.1 C0.2.1 dX8_readsPart_34 rfl (lv_at hl 1 rfl) ?_
                refine lv_iconst (v := 5) C0.1 C0.2.1 dX8_readsPart_35 (by decide) ?_
                refine lv_icmp_ne (tgt := 43) C0.1 C0.2.1 dX8_readsPart_36 (by decide) (fun _ => ?_) (fun q => absurd q (by decide))
                refine lv_lconst (v := 0) C0.1 C0.2.1 dX8_readsPart_43 (by decide) ?_
                refine lv_iload_n C0.1 C0.2.1 dX8_readsPart_44 rfl (lv_at hl 1 rfl) ?_
                refine lv_iconst (v := 5) C0.1 C0.2.1 dX8_readsPart_45 (by decide) ?_
                refine lv_icmp_ne (tgt := 55) C0.1 C0.2.1 dX8_readsPart_46 (by decide) (fun _ => ?_) (fun q => absurd q (by decide))
                refine lv_ldc2 (v := 9) C0.1 C0.2.1 C0.2.2.2.1 (C0.2.2.2.2 _ sw_731) dX8_readsPart_55 ?_
                refine sr_pSi (As := [.long (((sr_he kp (((((7 * R_) + 1) + 1) + 1) + 1)) - 48).toInt64), .long 0, .long 9]) C0 hK hP hZ (sr_Zs hZ hZ0 hS) (cc_X8_inI ha ((sr_he kp (((((7 * R_) + 1) + 1) + 1) + 1)) - 48) (0 : Int32) (9 : Int32) rfl (by decide) (by decide)) sk_X8_in (ss_X8_in) sw_670 rfl rfl hl.1 (Nat.le_of_ble_eq_true rfl) (Nat.le_of_ble_eq_true rfl) (Nat.le_of_ble_eq_true rfl) dX8_readsPart_58 ⟨Nat.zero_le _, Nat.zero_le _⟩ ?_
                refine sr_ifne (tgt := 66) C0 dX8_readsPart_61 (by decide) (fun c61_5 => ?_) (fun c61_5 => ?_)
                · obtain ⟨hl4, he4, hd4a, hd4b⟩ := sr_he_y hK_ (by decide) (by decide) c61_5
                  rw [he4] at hl
                  have hq4 : 7 * R_ + 4 < sr_n kp ∧ 48 ≤ (kp 0 (7 * R_ + 4)).toInt ∧ (kp 0 (7 * R_ + 4)).toInt ≤ 57 := ⟨hl4, hd4a, hd4b⟩
                  have g_4 : sr_go (kp 0) (7 * R_ + 4) = true := (sr_go_d (by omega) (by omega)).mpr ⟨by omega, fun z => absurd z (by decide), fun z => absurd z (by decide), fun z => absurd z (by decide)⟩
                  refine lv_iload_n C0.1 C0.2.1 dX8_readsPart_66 rfl (lv_at hl 1 rfl) ?_
                  refine lv_iconst (v := 2) C0.1 C0.2.1 dX8_readsPart_67 (by decide) ?_
                  refine lv_icmp_ge (tgt := 81) C0.1 C0.2.1 dX8_readsPart_68 (by decide) (fun _ => ?_) (fun q => absurd q (by decide))
                  refine lv_iload_n C0.1 C0.2.1 dX8_readsPart_81 rfl (lv_at hl 3 rfl) ?_
                  refine lv_istore_n (lv' := [(1, .int ((10 * (0 + ((kp 0 (7 * R_)) - 48))) + ((kp 0 ((7 * R_) + 1)) - 48))), (4, .int ((kp 0 (((((7 * R_) + 1) + 1) + 1) + 1)) - 48)), (3, .int 4), (2, .int ((10 * (0 + ((kp 0 (((7 * R_) + 1) + 1)) - 48))) + ((kp 0 ((((7 * R_) + 1) + 1) + 1)) - 48))), (0, .ref (a 0))]) C0.1 C0.2.1 dX8_readsPart_82 rfl hl (by decide) rfl (fun ls hl => ?_)
                  refine lv_iload_n C0.1 C0.2.1 dX8_readsPart_83 rfl (lv_at hl 2 rfl) ?_
                  refine lv_iconst (v := 2) C0.1 C0.2.1 dX8_readsPart_84 (by decide) ?_
                  refine lv_icmp_eq (tgt := 93) C0.1 C0.2.1 dX8_readsPart_85 (by decide) (fun q => absurd q (by decide)) (fun _ => ?_)
                  refine lv_iload_n C0.1 C0.2.1 dX8_readsPart_88 rfl (lv_at hl 2 rfl) ?_
                  refine lv_iconst (v := 3) C0.1 C0.2.1 dX8_readsPart_89 (by decide) ?_
                  refine lv_icmp_ne (tgt := 103) C0.1 C0.2.1 dX8_readsPart_90 (by decide) (fun _ => ?_) (fun q => absurd q (by decide))
                  refine lv_iload_n C0.1 C0.2.1 dX8_readsPart_103 rfl (lv_at hl 3 rfl) ?_
                  refine lv_istore_n (lv' := [(2, .int ((10 * (0 + ((kp 0 (((7 * R_) + 1) + 1)) - 48))) + ((kp 0 ((((7 * R_) + 1) + 1) + 1)) - 48))), (1, .int ((10 * (0 + ((kp 0 (7 * R_)) - 48))) + ((kp 0 ((7 * R_) + 1)) - 48))), (4, .int ((kp 0 (((((7 * R_) + 1) + 1) + 1) + 1)) - 48)), (3, .int 4), (0, .ref (a 0))]) C0.1 C0.2.1 dX8_readsPart_104 rfl hl (by decide) rfl (fun ls hl => ?_)
                  refine lv_iload_n C0.1 C0.2.1 dX8_readsPart_105 rfl (lv_at hl 3 rfl) ?_
                  refine lv_iconst (v := 1) C0.1 C0.2.1 dX8_readsPart_106 (by decide) ?_
                  refine lv_icmp_ne (tgt := 114) C0.1 C0.2.1 dX8_readsPart_107 (by decide) (fun _ => ?_) (fun q => absurd q (by decide))
                  refine lv_iload_n C0.1 C0.2.1 dX8_readsPart_114 rfl (lv_at hl 3 rfl) ?_
                  refine lv_iconst (v := 3) C0.1 C0.2.1 dX8_readsPart_115 (by decide) ?_
                  refine lv_icmp_ne (tgt := 126) C0.1 C0.2.1 dX8_readsPart_116 (by decide) (fun _ => ?_) (fun q => absurd q (by decide))
                  refine lv_aload_n C0.1 C0.2.1 dX8_readsPart_126 rfl (lv_at hl 4 rfl) ?_
                  refine sr_get (v := .ref (a 6)) C0 hK hP sr_inX8 sr_wM0 rfl 9 (by decide) sw_619 rfl dX8_readsPart_127 ?_
                  refine lv_iconst (v := 4) C0.1 C0.2.1 dX8_readsPart_130 (by decide) ?_
                  refine lv_aload_n C0.1 C0.2.1 dX8_readsPart_131 rfl (lv_at hl 4 rfl) ?_
                  refine sr_get (v := .int (sg 1 1)) C0 hK hP sr_inX8 sr_wM0 rfl 8 (by decide) sw_618 rfl dX8_readsPart_132 ?_
                  refine sr_chi hru ?_
                  refine lv_imul C0.1 C0.2.1 dX8_readsPart_135 ?_
                  refine sr_chi (pk_mul 4 R_) ?_
                  refine lv_iload_n C0.1 C0.2.1 dX8_readsPart_136 rfl (lv_at hl 3 rfl) ?_
                  refine lv_iconst (v := 2) C0.1 C0.2.1 dX8_readsPart_137 (by decide) ?_
                  refine lv_icmp_ge (tgt := 145) C0.1 C0.2.1 dX8_readsPart_138 (by decide) (fun _ => ?_) (fun q => absurd q (by decide))
                  refine lv_iload_n C0.1 C0.2.1 dX8_readsPart_145 rfl (lv_at hl 3 rfl) ?_
                  refine lv_iconst (v := 4) C0.1 C0.2.1 dX8_readsPart_146 (by decide) ?_
                  refine lv_icmp_ge (tgt := 154) C0.1 C0.2.1 dX8_readsPart_147 (by decide) (fun _ => ?_) (fun q => absurd q (by decide))
                  refine lv_iload_n C0.1 C0.2.1 dX8_readsPart_154 rfl (lv_at hl 3 rfl) ?_
                  refine lv_iconst (v := 2) C0.1 C0.2.1 dX8_readsPart_155 (by decide) ?_
                  refine lv_isub C0.1 C0.2.1 dX8_readsPart_156 ?_
                  refine sr_chi (by decide : (4 - 2 : Int32) = 2) ?_
                  refine lv_iadd C0.1 C0.2.1 dX8_readsPart_157 ?_
                  refine sr_chi (nI_add (4 * R_) 2) ?_
                  refine lv_iload_n C0.1 C0.2.1 dX8_readsPart_158 rfl (lv_at hl 3 rfl) ?_
                  refine lv_iconst (v := 2) C0.1 C0.2.1 dX8_readsPart_159 (by decide) ?_
                  refine lv_icmp_ge (tgt := 167) C0.1 C0.2.1 dX8_readsPart_160 (by decide) (fun _ => ?_) (fun q => absurd q (by decide))
                  refine lv_iload_n C0.1 C0.2.1 dX8_readsPart_167 rfl (lv_at hl 3 rfl) ?_
                  refine lv_iconst (v := 4) C0.1 C0.2.1 dX8_readsPart_168 (by decide) ?_
                  refine lv_icmp_ge (tgt := 176) C0.1 C0.2.1 dX8_readsPart_169 (by decide) (fun _ => ?_) (fun q => absurd q (by decide))
                  refine lv_iload C0.1 C0.2.1 dX8_readsPart_176 (lv_at hl 2 rfl) ?_
                  refine sr_ast (k := (4 * R_) + 2) C0 hK rfl hP (sr_DM ha _ _ _) hS sr_wM6 (nI_clamp (by omega)) (vp_in_nI (by omega) (by omega)) sr_sM6 dX8_readsPart_178 (fun H locs hP hS => ?_)
                  have hP : va_P D vwCl (sr_WM cI a kp cx (va_up (va_up (va_up (va_up (va_up (va_up (va_up (va_up (va_up sg 2 (upd (sg 2) ((4 * R_) + 0) (0 + ((kp 0 (7 * R_)) - 48)))) 1 (upd (sg 1) 0 (nI ((7 * R_) + 1)))) 2 (upd (upd (sg 2) ((4 * R_) + 0) (0 + ((kp 0 (7 * R_)) - 48))) ((4 * R_) + 0) ((10 * (0 + ((kp 0 (7 * R_)) - 48))) + ((kp 0 ((7 * R_) + 1)) - 48)))) 1 (upd (upd (sg 1) 0 (nI ((7 * R_) + 1))) 0 (nI (((7 * R_) + 1) + 1)))) 2 (upd (upd (upd (sg 2) ((4 * R_) + 0) (0 + ((kp 0 (7 * R_)) - 48))) ((4 * R_) + 0) ((10 * (0 + ((kp 0 (7 * R_)) - 48))) + ((kp 0 ((7 * R_) + 1)) - 48))) ((4 * R_) + 1) (0 + ((kp 0 (((7 * R_) + 1) + 1)) - 48)))) 1 (upd (upd (upd (sg 1) 0 (nI ((7 * R_) + 1))) 0 (nI (((7 * R_) + 1) + 1))) 0 (nI ((((7 * R_) + 1) + 1) + 1)))) 2 (upd (upd (upd (upd (sg 2) ((4 * R_) + 0) (0 + ((kp 0 (7 * R_)) - 48))) ((4 * R_) + 0) ((10 * (0 + ((kp 0 (7 * R_)) - 48))) + ((kp 0 ((7 * R_) + 1)) - 48))) ((4 * R_) + 1) (0 + ((kp 0 (((7 * R_) + 1) + 1)) - 48))) ((4 * R_) + 1) ((10 * (0 + ((kp 0 (((7 * R_) + 1) + 1)) - 48))) + ((kp 0 ((((7 * R_) + 1) + 1) + 1)) - 48)))) 1 (upd (upd (upd (upd (sg 1) 0 (nI ((7 * R_) + 1))) 0 (nI (((7 * R_) + 1) + 1))) 0 (nI ((((7 * R_) + 1) + 1) + 1))) 0 (nI (((((7 * R_) + 1) + 1) + 1) + 1)))) 2 (upd (upd (upd (upd (upd (sg 2) ((4 * R_) + 0) (0 + ((kp 0 (7 * R_)) - 48))) ((4 * R_) + 0) ((10 * (0 + ((kp 0 (7 * R_)) - 48))) + ((kp 0 ((7 * R_) + 1)) - 48))) ((4 * R_) + 1) (0 + ((kp 0 (((7 * R_) + 1) + 1)) - 48))) ((4 * R_) + 1) ((10 * (0 + ((kp 0 (((7 * R_) + 1) + 1)) - 48))) + ((kp 0 ((((7 * R_) + 1) + 1) + 1)) - 48))) ((4 * R_) + 2) ((kp 0 (((((7 * R_) + 1) + 1) + 1) + 1)) - 48)))) H := hP
                  refine lv_aload_n C0.1 C0.2.1 dX8_readsPart_179 rfl (lv_at hl 4 rfl) ?_
                  refine lv_dup C0.1 C0.2.1 dX8_readsPart_180 rfl ?_
                  refine sr_get (v := .int (nI (((((7 * R_) + 1) + 1) + 1) + 1))) C0 hK hP sr_inX8 sr_wM0 rfl 7 (by decide) sw_617 rfl dX8_readsPart_181 ?_
                  refine lv_iconst (v := 1) C0.1 C0.2.1 dX8_readsPart_184 (by decide) ?_
                  refine lv_iadd C0.1 C0.2.1 dX8_readsPart_185 ?_
                  refine sr_chi (nI_add (((((7 * R_) + 1) + 1) + 1) + 1) 1) ?_
                  refine sr_put C0 hK hP (sr_DM ha _ _ _) hS sr_inX8 tyX8_ok nmX8 sr_wM0 rfl 7 (by decide) sw_617 rfl (by decide +kernel) (Nat.le_of_ble_eq_true rfl) sr_fM0_7 dX8_readsPart_186 (fun H locs hP hS => ?_)
                  have hP : va_P D vwCl (sr_WM cI a kp cx (va_up (va_up (va_up (va_up (va_up (va_up (va_up (va_up (va_up (va_up sg 2 (upd (sg 2) ((4 * R_) + 0) (0 + ((kp 0 (7 * R_)) - 48)))) 1 (upd (sg 1) 0 (nI ((7 * R_) + 1)))) 2 (upd (upd (sg 2) ((4 * R_) + 0) (0 + ((kp 0 (7 * R_)) - 48))) ((4 * R_) + 0) ((10 * (0 + ((kp 0 (7 * R_)) - 48))) + ((kp 0 ((7 * R_) + 1)) - 48)))) 1 (upd (upd (sg 1) 0 (nI ((7 * R_) + 1))) 0 (nI (((7 * R_) + 1) + 1)))) 2 (upd (upd (upd (sg 2) ((4 * R_) + 0) (0 + ((kp 0 (7 * R_)) - 48))) ((4 * R_) + 0) ((10 * (0 + ((kp 0 (7 * R_)) - 48))) + ((kp 0 ((7 * R_) + 1)) - 48))) ((4 * R_) + 1) (0 + ((kp 0 (((7 * R_) + 1) + 1)) - 48)))) 1 (upd (upd (upd (sg 1) 0 (nI ((7 * R_) + 1))) 0 (nI (((7 * R_) + 1) + 1))) 0 (nI ((((7 * R_) + 1) + 1) + 1)))) 2 (upd (upd (upd (upd (sg 2) ((4 * R_) + 0) (0 + ((kp 0 (7 * R_)) - 48))) ((4 * R_) + 0) ((10 * (0 + ((kp 0 (7 * R_)) - 48))) + ((kp 0 ((7 * R_) + 1)) - 48))) ((4 * R_) + 1) (0 + ((kp 0 (((7 * R_) + 1) + 1)) - 48))) ((4 * R_) + 1) ((10 * (0 + ((kp 0 (((7 * R_) + 1) + 1)) - 48))) + ((kp 0 ((((7 * R_) + 1) + 1) + 1)) - 48)))) 1 (upd (upd (upd (upd (sg 1) 0 (nI ((7 * R_) + 1))) 0 (nI (((7 * R_) + 1) + 1))) 0 (nI ((((7 * R_) + 1) + 1) + 1))) 0 (nI (((((7 * R_) + 1) + 1) + 1) + 1)))) 2 (upd (upd (upd (upd (upd (sg 2) ((4 * R_) + 0) (0 + ((kp 0 (7 * R_)) - 48))) ((4 * R_) + 0) ((10 * (0 + ((kp 0 (7 * R_)) - 48))) + ((kp 0 ((7 * R_) + 1)) - 48))) ((4 * R_) + 1) (0 + ((kp 0 (((7 * R_) + 1) + 1)) - 48))) ((4 * R_) + 1) ((10 * (0 + ((kp 0 (((7 * R_) + 1) + 1)) - 48))) + ((kp 0 ((((7 * R_) + 1) + 1) + 1)) - 48))) ((4 * R_) + 2) ((kp 0 (((((7 * R_) + 1) + 1) + 1) + 1)) - 48))) 1 (upd (upd (upd (upd (upd (sg 1) 0 (nI ((7 * R_) + 1))) 0 (nI (((7 * R_) + 1) + 1))) 0 (nI ((((7 * R_) + 1) + 1) + 1))) 0 (nI (((((7 * R_) + 1) + 1) + 1) + 1))) 0 (nI ((((((7 * R_) + 1) + 1) + 1) + 1) + 1))))) H := hP
                  refine lv_iinc (v := 5) (lv' := [(3, .int 5), (2, .int ((10 * (0 + ((kp 0 (((7 * R_) + 1) + 1)) - 48))) + ((kp 0 ((((7 * R_) + 1) + 1) + 1)) - 48))), (1, .int ((10 * (0 + ((kp 0 (7 * R_)) - 48))) + ((kp 0 ((7 * R_) + 1)) - 48))), (4, .int ((kp 0 (((((7 * R_) + 1) + 1) + 1) + 1)) - 48)), (0, .ref (a 0))]) C0.1 C0.2.1 dX8_readsPart_189 hl (k := 3) rfl (by decide) (by decide) rfl (fun ls hl => ?_)
                  refine lv_goto (tgt := 16) C0.1 C0.2.1 dX8_readsPart_192 (by decide) ?_
                  refine lv_iload_n C0.1 C0.2.1 dX8_readsPart_16 rfl (lv_at hl 0 rfl) ?_
                  refine lv_bipush (v := 6) C0.1 C0.2.1 dX8_readsPart_17 (by decide) ?_
                  refine lv_icmp_ge (tgt := 195) C0.1 C0.2.1 dX8_readsPart_19 (by decide) (fun q => absurd q (by decide)) (fun _ => ?_)
                  refine lv_aload_n C0.1 C0.2.1 dX8_readsPart_22 rfl (lv_at hl 4 rfl) ?_
                  refine sr_pVi (As := []) C0 hK hP hZ (sr_Zs hZ hZ0 hS) (cc_X8_here ha ((((((7 * R_) + 1) + 1) + 1) + 1) + 1) hK_ rfl (by omega)) sk_X8_here sv_X8_here sw_727 (ci := 8) rfl sr_wM0 rfl rfl hl.1 (Nat.le_of_ble_eq_true rfl) (Nat.le_of_ble_eq_true rfl) (Nat.le_of_ble_eq_true rfl) dX8_readsPart_23 ⟨Nat.zero_le _, Nat.zero_le _⟩ ?_
                  refine lv_bipush (v := 48) C0.1 C0.2.1 dX8_readsPart_26 (by decide) ?_
                  refine lv_isub C0.1 C0.2.1 dX8_readsPart_28 ?_
                  refine lv_istore (lv' := [(4, .int ((sr_he kp ((((((7 * R_) + 1) + 1) + 1) + 1) + 1)) - 48)), (3, .int 5), (2, .int ((10 * (0 + ((kp 0 (((7 * R_) + 1) + 1)) - 48))) + ((kp 0 ((((7 * R_) + 1) + 1) + 1)) - 48))), (1, .int ((10 * (0 + ((kp 0 (7 * R_)) - 48))) + ((kp 0 ((7 * R_) + 1)) - 48))), (0, .ref (a 0))]) C0.1 C0.2.1 dX8_readsPart_29 hl (by decide) rfl (fun ls hl => ?_)
                  refine lv_iload C0.1 C0.2.1 dX8_readsPart_31 (lv_at hl 0 rfl) ?_
                  refine lv_i2l C0.1 C0.2.1 dX8_readsPart_33 rfl ?_
                  refine lv_iload_n C0.1 C0.2.1 dX8_readsPart_34 rfl (lv_at hl 1 rfl) ?_
                  refine lv_iconst (v := 5) C0.1 C0.2.1 dX8_readsPart_35 (by decide) ?_
                  refine lv_icmp_ne (tgt := 43) C0.1 C0.2.1 dX8_readsPart_36 (by decide) (fun q => absurd q (by decide)) (fun _ => ?_)
                  refine lv_lconst (v := 1) C0.1 C0.2.1 dX8_readsPart_39 (by decide) ?_
                  refine lv_goto (tgt := 44) C0.1 C0.2.1 dX8_readsPart_40 (by decide) ?_
                  refine lv_iload_n C0.1 C0.2.1 dX8_readsPart_44 rfl (lv_at hl 1 rfl) ?_
                  refine lv_iconst (v := 5) C0.1 C0.2.1 dX8_readsPart_45 (by decide) ?_
                  refine lv_icmp_ne (tgt := 55) C0.1 C0.2.1 dX8_readsPart_46 (by decide) (fun q => absurd q (by decide)) (fun _ => ?_)
                  refine lv_ldc2 (v := 3) C0.1 C0.2.1 C0.2.2.2.1 (C0.2.2.2.2 _ sw_669) dX8_readsPart_49 ?_
                  refine lv_goto (tgt := 58) C0.1 C0.2.1 dX8_readsPart_52 (by decide) ?_
                  refine sr_pSi (As := [.long (((sr_he kp ((((((7 * R_) + 1) + 1) + 1) + 1) + 1)) - 48).toInt64), .long 1, .long 3]) C0 hK hP hZ (sr_Zs hZ hZ0 hS) (cc_X8_inI ha ((sr_he kp ((((((7 * R_) + 1) + 1) + 1) + 1) + 1)) - 48) (1 : Int32) (3 : Int32) rfl (by decide) (by decide)) sk_X8_in (ss_X8_in) sw_670 rfl rfl hl.1 (Nat.le_of_ble_eq_true rfl) (Nat.le_of_ble_eq_true rfl) (Nat.le_of_ble_eq_true rfl) dX8_readsPart_58 ⟨Nat.zero_le _, Nat.zero_le _⟩ ?_
                  refine sr_ifne (tgt := 66) C0 dX8_readsPart_61 (by decide) (fun c61_6 => ?_) (fun c61_6 => ?_)
                  · obtain ⟨hl5, he5, hd5a, hd5b⟩ := sr_he_y hK_ (by decide) (by decide) c61_6
                    rw [he5] at hl
                    have hq5 : 7 * R_ + 5 < sr_n kp ∧ 49 ≤ (kp 0 (7 * R_ + 5)).toInt ∧ (kp 0 (7 * R_ + 5)).toInt ≤ 51 := ⟨hl5, hd5a, hd5b⟩
                    have g_5 : sr_go (kp 0) (7 * R_ + 5) = true := (sr_go_d (by omega) (by omega)).mpr ⟨by omega, fun z => absurd z (by decide), fun z => absurd z (by decide), fun _ => by omega⟩
                    refine lv_iload_n C0.1 C0.2.1 dX8_readsPart_66 rfl (lv_at hl 1 rfl) ?_
                    refine lv_iconst (v := 2) C0.1 C0.2.1 dX8_readsPart_67 (by decide) ?_
                    refine lv_icmp_ge (tgt := 81) C0.1 C0.2.1 dX8_readsPart_68 (by decide) (fun _ => ?_) (fun q => absurd q (by decide))
                    refine lv_iload_n C0.1 C0.2.1 dX8_readsPart_81 rfl (lv_at hl 3 rfl) ?_
                    refine lv_istore_n (lv' := [(1, .int ((10 * (0 + ((kp 0 (7 * R_)) - 48))) + ((kp 0 ((7 * R_) + 1)) - 48))), (4, .int ((kp 0 ((((((7 * R_) + 1) + 1) + 1) + 1) + 1)) - 48)), (3, .int 5), (2, .int ((10 * (0 + ((kp 0 (((7 * R_) + 1) + 1)) - 48))) + ((kp 0 ((((7 * R_) + 1) + 1) + 1)) - 48))), (0, .ref (a 0))]) C0.1 C0.2.1 dX8_readsPart_82 rfl hl (by decide) rfl (fun ls hl => ?_)
                    refine lv_iload_n C0.1 C0.2.1 dX8_readsPart_83 rfl (lv_at hl 2 rfl) ?_
                    refine lv_iconst (v := 2) C0.1 C0.2.1 dX8_readsPart_84 (by decide) ?_
                    refine lv_icmp_eq (tgt := 93) C0.1 C0.2.1 dX8_readsPart_85 (by decide) (fun q => absurd q (by decide)) (fun _ => ?_)
                    refine lv_iload_n C0.1 C0.2.1 dX8_readsPart_88 rfl (lv_at hl 2 rfl) ?_
                    refine lv_iconst (v := 3) C0.1 C0.2.1 dX8_readsPart_89 (by decide) ?_
                    refine lv_icmp_ne (tgt := 103) C0.1 C0.2.1 dX8_readsPart_90 (by decide) (fun _ => ?_) (fun q => absurd q (by decide))
                    refine lv_iload_n C0.1 C0.2.1 dX8_readsPart_103 rfl (lv_at hl 3 rfl) ?_
                    refine lv_istore_n (lv' := [(2, .int ((10 * (0 + ((kp 0 (((7 * R_) + 1) + 1)) - 48))) + ((kp 0 ((((7 * R_) + 1) + 1) + 1)) - 48))), (1, .int ((10 * (0 + ((kp 0 (7 * R_)) - 48))) + ((kp 0 ((7 * R_) + 1)) - 48))), (4, .int ((kp 0 ((((((7 * R_) + 1) + 1) + 1) + 1) + 1)) - 48)), (3, .int 5), (0, .ref (a 0))]) C0.1 C0.2.1 dX8_readsPart_104 rfl hl (by decide) rfl (fun ls hl => ?_)
                    refine lv_iload_n C0.1 C0.2.1 dX8_readsPart_105 rfl (lv_at hl 3 rfl) ?_
                    refine lv_iconst (v := 1) C0.1 C0.2.1 dX8_readsPart_106 (by decide) ?_
                    refine lv_icmp_ne (tgt := 114) C0.1 C0.2.1 dX8_readsPart_107 (by decide) (fun _ => ?_) (fun q => absurd q (by decide))
                    refine lv_iload_n C0.1 C0.2.1 dX8_readsPart_114 rfl (lv_at hl 3 rfl) ?_
                    refine lv_iconst (v := 3) C0.1 C0.2.1 dX8_readsPart_115 (by decide) ?_
                    refine lv_icmp_ne (tgt := 126) C0.1 C0.2.1 dX8_readsPart_116 (by decide) (fun _ => ?_) (fun q => absurd q (by decide))
                    refine lv_aload_n C0.1 C0.2.1 dX8_readsPart_126 rfl (lv_at hl 4 rfl) ?_
                    refine sr_get (v := .ref (a 6)) C0 hK hP sr_inX8 sr_wM0 rfl 9 (by decide) sw_619 rfl dX8_readsPart_127 ?_
                    refine lv_iconst (v := 4) C0.1 C0.2.1 dX8_readsPart_130 (by decide) ?_
                    refine lv_aload_n C0.1 C0.2.1 dX8_readsPart_131 rfl (lv_at hl 4 rfl) ?_
                    refine sr_get (v := .int (sg 1 1)) C0 hK hP sr_inX8 sr_wM0 rfl 8 (by decide) sw_618 rfl dX8_readsPart_132 ?_
                    refine sr_chi hru ?_
                    refine lv_imul C0.1 C0.2.1 dX8_readsPart_135 ?_
                    refine sr_chi (pk_mul 4 R_) ?_
                    refine lv_iload_n C0.1 C0.2.1 dX8_readsPart_136 rfl (lv_at hl 3 rfl) ?_
                    refine lv_iconst (v := 2) C0.1 C0.2.1 dX8_readsPart_137 (by decide) ?_
                    refine lv_icmp_ge (tgt := 145) C0.1 C0.2.1 dX8_readsPart_138 (by decide) (fun _ => ?_) (fun q => absurd q (by decide))
                    refine lv_iload_n C0.1 C0.2.1 dX8_readsPart_145 rfl (lv_at hl 3 rfl) ?_
                    refine lv_iconst (v := 4) C0.1 C0.2.1 dX8_readsPart_146 (by decide) ?_
                    refine lv_icmp_ge (tgt := 154) C0.1 C0.2.1 dX8_readsPart_147 (by decide) (fun _ => ?_) (fun q => absurd q (by decide))
                    refine lv_iload_n C0.1 C0.2.1 dX8_readsPart_154 rfl (lv_at hl 3 rfl) ?_
                    refine lv_iconst (v := 2) C0.1 C0.2.1 dX8_readsPart_155 (by decide) ?_
                    refine lv_isub C0.1 C0.2.1 dX8_readsPart_156 ?_
                    refine sr_chi (by decide : (5 - 2 : Int32) = 3) ?_
                    refine lv_iadd C0.1 C0.2.1 dX8_readsPart_157 ?_
                    refine sr_chi (nI_add (4 * R_) 3) ?_
                    refine lv_iload_n C0.1 C0.2.1 dX8_readsPart_158 rfl (lv_at hl 3 rfl) ?_
                    refine lv_iconst (v := 2) C0.1 C0.2.1 dX8_readsPart_159 (by decide) ?_
                    refine lv_icmp_ge (tgt := 167) C0.1 C0.2.1 dX8_readsPart_160 (by decide) (fun _ => ?_) (fun q => absurd q (by decide))
                    refine lv_iload_n C0.1 C0.2.1 dX8_readsPart_167 rfl (lv_at hl 3 rfl) ?_
                    refine lv_iconst (v := 4) C0.1 C0.2.1 dX8_readsPart_168 (by decide) ?_
                    refine lv_icmp_ge (tgt := 176) C0.1 C0.2.1 dX8_readsPart_169 (by decide) (fun _ => ?_) (fun q => absurd q (by decide))
                    refine lv_iload C0.1 C0.2.1 dX8_readsPart_176 (lv_at hl 2 rfl) ?_
                    refine sr_ast (k := (4 * R_) + 3) C0 hK rfl hP (sr_DM ha _ _ _) hS sr_wM6 (nI_clamp (by omega)) (vp_in_nI (by omega) (by omega)) sr_sM6 dX8_readsPart_178 (fun H locs hP hS => ?_)
                    have hP : va_P D vwCl (sr_WM cI a kp cx (va_up (va_up (va_up (va_up (va_up (va_up (va_up (va_up (va_up (va_up (va_up sg 2 (upd (sg 2) ((4 * R_) + 0) (0 + ((kp 0 (7 * R_)) - 48)))) 1 (upd (sg 1) 0 (nI ((7 * R_) + 1)))) 2 (upd (upd (sg 2) ((4 * R_) + 0) (0 + ((kp 0 (7 * R_)) - 48))) ((4 * R_) + 0) ((10 * (0 + ((kp 0 (7 * R_)) - 48))) + ((kp 0 ((7 * R_) + 1)) - 48)))) 1 (upd (upd (sg 1) 0 (nI ((7 * R_) + 1))) 0 (nI (((7 * R_) + 1) + 1)))) 2 (upd (upd (upd (sg 2) ((4 * R_) + 0) (0 + ((kp 0 (7 * R_)) - 48))) ((4 * R_) + 0) ((10 * (0 + ((kp 0 (7 * R_)) - 48))) + ((kp 0 ((7 * R_) + 1)) - 48))) ((4 * R_) + 1) (0 + ((kp 0 (((7 * R_) + 1) + 1)) - 48)))) 1 (upd (upd (upd (sg 1) 0 (nI ((7 * R_) + 1))) 0 (nI (((7 * R_) + 1) + 1))) 0 (nI ((((7 * R_) + 1) + 1) + 1)))) 2 (upd (upd (upd (upd (sg 2) ((4 * R_) + 0) (0 + ((kp 0 (7 * R_)) - 48))) ((4 * R_) + 0) ((10 * (0 + ((kp 0 (7 * R_)) - 48))) + ((kp 0 ((7 * R_) + 1)) - 48))) ((4 * R_) + 1) (0 + ((kp 0 (((7 * R_) + 1) + 1)) - 48))) ((4 * R_) + 1) ((10 * (0 + ((kp 0 (((7 * R_) + 1) + 1)) - 48))) + ((kp 0 ((((7 * R_) + 1) + 1) + 1)) - 48)))) 1 (upd (upd (upd (upd (sg 1) 0 (nI ((7 * R_) + 1))) 0 (nI (((7 * R_) + 1) + 1))) 0 (nI ((((7 * R_) + 1) + 1) + 1))) 0 (nI (((((7 * R_) + 1) + 1) + 1) + 1)))) 2 (upd (upd (upd (upd (upd (sg 2) ((4 * R_) + 0) (0 + ((kp 0 (7 * R_)) - 48))) ((4 * R_) + 0) ((10 * (0 + ((kp 0 (7 * R_)) - 48))) + ((kp 0 ((7 * R_) + 1)) - 48))) ((4 * R_) + 1) (0 + ((kp 0 (((7 * R_) + 1) + 1)) - 48))) ((4 * R_) + 1) ((10 * (0 + ((kp 0 (((7 * R_) + 1) + 1)) - 48))) + ((kp 0 ((((7 * R_) + 1) + 1) + 1)) - 48))) ((4 * R_) + 2) ((kp 0 (((((7 * R_) + 1) + 1) + 1) + 1)) - 48))) 1 (upd (upd (upd (upd (upd (sg 1) 0 (nI ((7 * R_) + 1))) 0 (nI (((7 * R_) + 1) + 1))) 0 (nI ((((7 * R_) + 1) + 1) + 1))) 0 (nI (((((7 * R_) + 1) + 1) + 1) + 1))) 0 (nI ((((((7 * R_) + 1) + 1) + 1) + 1) + 1)))) 2 (upd (upd (upd (upd (upd (upd (sg 2) ((4 * R_) + 0) (0 + ((kp 0 (7 * R_)) - 48))) ((4 * R_) + 0) ((10 * (0 + ((kp 0 (7 * R_)) - 48))) + ((kp 0 ((7 * R_) + 1)) - 48))) ((4 * R_) + 1) (0 + ((kp 0 (((7 * R_) + 1) + 1)) - 48))) ((4 * R_) + 1) ((10 * (0 + ((kp 0 (((7 * R_) + 1) + 1)) - 48))) + ((kp 0 ((((7 * R_) + 1) + 1) + 1)) - 48))) ((4 * R_) + 2) ((kp 0 (((((7 * R_) + 1) + 1) + 1) + 1)) - 48)) ((4 * R_) + 3) ((kp 0 ((((((7 * R_) + 1) + 1) + 1) + 1) + 1)) - 48)))) H := hP
                    refine lv_aload_n C0.1 C0.2.1 dX8_readsPart_179 rfl (lv_at hl 4 rfl) ?_
                    refine lv_dup C0.1 C0.2.1 dX8_readsPart_180 rfl ?_
                    refine sr_get (v := .int (nI ((((((7 * R_) + 1) + 1) + 1) + 1) + 1))) C0 hK hP sr_inX8 sr_wM0 rfl 7 (by decide) sw_617 rfl dX8_readsPart_181 ?_
                    refine lv_iconst (v := 1) C0.1 C0.2.1 dX8_readsPart_184 (by decide) ?_
                    refine lv_iadd C0.1 C0.2.1 dX8_readsPart_185 ?_
                    refine sr_chi (nI_add ((((((7 * R_) + 1) + 1) + 1) + 1) + 1) 1) ?_
                    refine sr_put C0 hK hP (sr_DM ha _ _ _) hS sr_inX8 tyX8_ok nmX8 sr_wM0 rfl 7 (by decide) sw_617 rfl (by decide +kernel) (Nat.le_of_ble_eq_true rfl) sr_fM0_7 dX8_readsPart_186 (fun H locs hP hS => ?_)
                    have hP : va_P D vwCl (sr_WM cI a kp cx (va_up (va_up (va_up (va_up (va_up (va_up (va_up (va_up (va_up (va_up (va_up (va_up sg 2 (upd (sg 2) ((4 * R_) + 0) (0 + ((kp 0 (7 * R_)) - 48)))) 1 (upd (sg 1) 0 (nI ((7 * R_) + 1)))) 2 (upd (upd (sg 2) ((4 * R_) + 0) (0 + ((kp 0 (7 * R_)) - 48))) ((4 * R_) + 0) ((10 * (0 + ((kp 0 (7 * R_)) - 48))) + ((kp 0 ((7 * R_) + 1)) - 48)))) 1 (upd (upd (sg 1) 0 (nI ((7 * R_) + 1))) 0 (nI (((7 * R_) + 1) + 1)))) 2 (upd (upd (upd (sg 2) ((4 * R_) + 0) (0 + ((kp 0 (7 * R_)) - 48))) ((4 * R_) + 0) ((10 * (0 + ((kp 0 (7 * R_)) - 48))) + ((kp 0 ((7 * R_) + 1)) - 48))) ((4 * R_) + 1) (0 + ((kp 0 (((7 * R_) + 1) + 1)) - 48)))) 1 (upd (upd (upd (sg 1) 0 (nI ((7 * R_) + 1))) 0 (nI (((7 * R_) + 1) + 1))) 0 (nI ((((7 * R_) + 1) + 1) + 1)))) 2 (upd (upd (upd (upd (sg 2) ((4 * R_) + 0) (0 + ((kp 0 (7 * R_)) - 48))) ((4 * R_) + 0) ((10 * (0 + ((kp 0 (7 * R_)) - 48))) + ((kp 0 ((7 * R_) + 1)) - 48))) ((4 * R_) + 1) (0 + ((kp 0 (((7 * R_) + 1) + 1)) - 48))) ((4 * R_) + 1) ((10 * (0 + ((kp 0 (((7 * R_) + 1) + 1)) - 48))) + ((kp 0 ((((7 * R_) + 1) + 1) + 1)) - 48)))) 1 (upd (upd (upd (upd (sg 1) 0 (nI ((7 * R_) + 1))) 0 (nI (((7 * R_) + 1) + 1))) 0 (nI ((((7 * R_) + 1) + 1) + 1))) 0 (nI (((((7 * R_) + 1) + 1) + 1) + 1)))) 2 (upd (upd (upd (upd (upd (sg 2) ((4 * R_) + 0) (0 + ((kp 0 (7 * R_)) - 48))) ((4 * R_) + 0) ((10 * (0 + ((kp 0 (7 * R_)) - 48))) + ((kp 0 ((7 * R_) + 1)) - 48))) ((4 * R_) + 1) (0 + ((kp 0 (((7 * R_) + 1) + 1)) - 48))) ((4 * R_) + 1) ((10 * (0 + ((kp 0 (((7 * R_) + 1) + 1)) - 48))) + ((kp 0 ((((7 * R_) + 1) + 1) + 1)) - 48))) ((4 * R_) + 2) ((kp 0 (((((7 * R_) + 1) + 1) + 1) + 1)) - 48))) 1 (upd (upd (upd (upd (upd (sg 1) 0 (nI ((7 * R_) + 1))) 0 (nI (((7 * R_) + 1) + 1))) 0 (nI ((((7 * R_) + 1) + 1) + 1))) 0 (nI (((((7 * R_) + 1) + 1) + 1) + 1))) 0 (nI ((((((7 * R_) + 1) + 1) + 1) + 1) + 1)))) 2 (upd (upd (upd (upd (upd (upd (sg 2) ((4 * R_) + 0) (0 + ((kp 0 (7 * R_)) - 48))) ((4 * R_) + 0) ((10 * (0 + ((kp 0 (7 * R_)) - 48))) + ((kp 0 ((7 * R_) + 1)) - 48))) ((4 * R_) + 1) (0 + ((kp 0 (((7 * R_) + 1) + 1)) - 48))) ((4 * R_) + 1) ((10 * (0 + ((kp 0 (((7 * R_) + 1) + 1)) - 48))) + ((kp 0 ((((7 * R_) + 1) + 1) + 1)) - 48))) ((4 * R_) + 2) ((kp 0 (((((7 * R_) + 1) + 1) + 1) + 1)) - 48)) ((4 * R_) + 3) ((kp 0 ((((((7 * R_) + 1) + 1) + 1) + 1) + 1)) - 48))) 1 (upd (upd (upd (upd (upd (upd (sg 1) 0 (nI ((7 * R_) + 1))) 0 (nI (((7 * R_) + 1) + 1))) 0 (nI ((((7 * R_) + 1) + 1) + 1))) 0 (nI (((((7 * R_) + 1) + 1) + 1) + 1))) 0 (nI ((((((7 * R_) + 1) + 1) + 1) + 1) + 1))) 0 (nI (((((((7 * R_) + 1) + 1) + 1) + 1) + 1) + 1))))) H := hP
                    refine lv_iinc (v := 6) (lv' := [(3, .int 6), (2, .int ((10 * (0 + ((kp 0 (((7 * R_) + 1) + 1)) - 48))) + ((kp 0 ((((7 * R_) + 1) + 1) + 1)) - 48))), (1, .int ((10 * (0 + ((kp 0 (7 * R_)) - 48))) + ((kp 0 ((7 * R_) + 1)) - 48))), (4, .int ((kp 0 ((((((7 * R_) + 1) + 1) + 1) + 1) + 1)) - 48)), (0, .ref (a 0))]) C0.1 C0.2.1 dX8_readsPart_189 hl (k := 3) rfl (by decide) (by decide) rfl (fun ls hl => ?_)
                    refine lv_goto (tgt := 16) C0.1 C0.2.1 dX8_readsPart_192 (by decide) ?_
                    refine lv_iload_n C0.1 C0.2.1 dX8_readsPart_16 rfl (lv_at hl 0 rfl) ?_
                    refine lv_bipush (v := 6) C0.1 C0.2.1 dX8_readsPart_17 (by decide) ?_
                    refine lv_icmp_ge (tgt := 195) C0.1 C0.2.1 dX8_readsPart_19 (by decide) (fun _ => ?_) (fun q => absurd q (by decide))
                    refine lv_aload_n C0.1 C0.2.1 dX8_readsPart_195 rfl (lv_at hl 4 rfl) ?_
                    refine lv_dup C0.1 C0.2.1 dX8_readsPart_196 rfl ?_
                    refine sr_get (v := .int (sg 1 1)) C0 hK hP sr_inX8 sr_wM0 rfl 8 (by decide) sw_618 rfl dX8_readsPart_197 ?_
                    refine sr_chi hru ?_
                    refine lv_iconst (v := 1) C0.1 C0.2.1 dX8_readsPart_200 (by decide) ?_
                    refine lv_iadd C0.1 C0.2.1 dX8_readsPart_201 ?_
                    refine sr_chi (nI_add R_ 1) ?_
                    refine sr_put C0 hK hP (sr_DM ha _ _ _) hS sr_inX8 tyX8_ok nmX8 sr_wM0 rfl 8 (by decide) sw_618 rfl (by decide +kernel) (Nat.le_of_ble_eq_true rfl) sr_fM0_8 dX8_readsPart_202 (fun H locs hP hS => ?_)
                    have hP : va_P D vwCl (sr_WM cI a kp cx (va_up (va_up (va_up (va_up (va_up (va_up (va_up (va_up (va_up (va_up (va_up (va_up sg 2 (upd (sg 2) ((4 * R_) + 0) (0 + ((kp 0 (7 * R_)) - 48)))) 1 (upd (sg 1) 0 (nI ((7 * R_) + 1)))) 2 (upd (upd (sg 2) ((4 * R_) + 0) (0 + ((kp 0 (7 * R_)) - 48))) ((4 * R_) + 0) ((10 * (0 + ((kp 0 (7 * R_)) - 48))) + ((kp 0 ((7 * R_) + 1)) - 48)))) 1 (upd (upd (sg 1) 0 (nI ((7 * R_) + 1))) 0 (nI (((7 * R_) + 1) + 1)))) 2 (upd (upd (upd (sg 2) ((4 * R_) + 0) (0 + ((kp 0 (7 * R_)) - 48))) ((4 * R_) + 0) ((10 * (0 + ((kp 0 (7 * R_)) - 48))) + ((kp 0 ((7 * R_) + 1)) - 48))) ((4 * R_) + 1) (0 + ((kp 0 (((7 * R_) + 1) + 1)) - 48)))) 1 (upd (upd (upd (sg 1) 0 (nI ((7 * R_) + 1))) 0 (nI (((7 * R_) + 1) + 1))) 0 (nI ((((7 * R_) + 1) + 1) + 1)))) 2 (upd (upd (upd (upd (sg 2) ((4 * R_) + 0) (0 + ((kp 0 (7 * R_)) - 48))) ((4 * R_) + 0) ((10 * (0 + ((kp 0 (7 * R_)) - 48))) + ((kp 0 ((7 * R_) + 1)) - 48))) ((4 * R_) + 1) (0 + ((kp 0 (((7 * R_) + 1) + 1)) - 48))) ((4 * R_) + 1) ((10 * (0 + ((kp 0 (((7 * R_) + 1) + 1)) - 48))) + ((kp 0 ((((7 * R_) + 1) + 1) + 1)) - 48)))) 1 (upd (upd (upd (upd (sg 1) 0 (nI ((7 * R_) + 1))) 0 (nI (((7 * R_) + 1) + 1))) 0 (nI ((((7 * R_) + 1) + 1) + 1))) 0 (nI (((((7 * R_) + 1) + 1) + 1) + 1)))) 2 (upd (upd (upd (upd (upd (sg 2) ((4 * R_) + 0) (0 + ((kp 0 (7 * R_)) - 48))) ((4 * R_) + 0) ((10 * (0 + ((kp 0 (7 * R_)) - 48))) + ((kp 0 ((7 * R_) + 1)) - 48))) ((4 * R_) + 1) (0 + ((kp 0 (((7 * R_) + 1) + 1)) - 48))) ((4 * R_) + 1) ((10 * (0 + ((kp 0 (((7 * R_) + 1) + 1)) - 48))) + ((kp 0 ((((7 * R_) + 1) + 1) + 1)) - 48))) ((4 * R_) + 2) ((kp 0 (((((7 * R_) + 1) + 1) + 1) + 1)) - 48))) 1 (upd (upd (upd (upd (upd (sg 1) 0 (nI ((7 * R_) + 1))) 0 (nI (((7 * R_) + 1) + 1))) 0 (nI ((((7 * R_) + 1) + 1) + 1))) 0 (nI (((((7 * R_) + 1) + 1) + 1) + 1))) 0 (nI ((((((7 * R_) + 1) + 1) + 1) + 1) + 1)))) 2 (upd (upd (upd (upd (upd (upd (sg 2) ((4 * R_) + 0) (0 + ((kp 0 (7 * R_)) - 48))) ((4 * R_) + 0) ((10 * (0 + ((kp 0 (7 * R_)) - 48))) + ((kp 0 ((7 * R_) + 1)) - 48))) ((4 * R_) + 1) (0 + ((kp 0 (((7 * R_) + 1) + 1)) - 48))) ((4 * R_) + 1) ((10 * (0 + ((kp 0 (((7 * R_) + 1) + 1)) - 48))) + ((kp 0 ((((7 * R_) + 1) + 1) + 1)) - 48))) ((4 * R_) + 2) ((kp 0 (((((7 * R_) + 1) + 1) + 1) + 1)) - 48)) ((4 * R_) + 3) ((kp 0 ((((((7 * R_) + 1) + 1) + 1) + 1) + 1)) - 48))) 1 (upd (upd (upd (upd (upd (upd (upd (sg 1) 0 (nI ((7 * R_) + 1))) 0 (nI (((7 * R_) + 1) + 1))) 0 (nI ((((7 * R_) + 1) + 1) + 1))) 0 (nI (((((7 * R_) + 1) + 1) + 1) + 1))) 0 (nI ((((((7 * R_) + 1) + 1) + 1) + 1) + 1))) 0 (nI (((((((7 * R_) + 1) + 1) + 1) + 1) + 1) + 1))) 1 (nI (R_ + 1))))) H := hP
                    refine lv_iconst (v := 1) C0.1 C0.2.1 dX8_readsPart_205 (by decide) ?_
                    refine hret _ _ _ ((va_up (va_up (va_up (va_up (va_up (va_up (va_up (va_up (va_up (va_up (va_up (va_up sg 2 (upd (sg 2) ((4 * R_) + 0) (0 + ((kp 0 (7 * R_)) - 48)))) 1 (upd (sg 1) 0 (nI ((7 * R_) + 1)))) 2 (upd (upd (sg 2) ((4 * R_) + 0) (0 + ((kp 0 (7 * R_)) - 48))) ((4 * R_) + 0) ((10 * (0 + ((kp 0 (7 * R_)) - 48))) + ((kp 0 ((7 * R_) + 1)) - 48)))) 1 (upd (upd (sg 1) 0 (nI ((7 * R_) + 1))) 0 (nI (((7 * R_) + 1) + 1)))) 2 (upd (upd (upd (sg 2) ((4 * R_) + 0) (0 + ((kp 0 (7 * R_)) - 48))) ((4 * R_) + 0) ((10 * (0 + ((kp 0 (7 * R_)) - 48))) + ((kp 0 ((7 * R_) + 1)) - 48))) ((4 * R_) + 1) (0 + ((kp 0 (((7 * R_) + 1) + 1)) - 48)))) 1 (upd (upd (upd (sg 1) 0 (nI ((7 * R_) + 1))) 0 (nI (((7 * R_) + 1) + 1))) 0 (nI ((((7 * R_) + 1) + 1) + 1)))) 2 (upd (upd (upd (upd (sg 2) ((4 * R_) + 0) (0 + ((kp 0 (7 * R_)) - 48))) ((4 * R_) + 0) ((10 * (0 + ((kp 0 (7 * R_)) - 48))) + ((kp 0 ((7 * R_) + 1)) - 48))) ((4 * R_) + 1) (0 + ((kp 0 (((7 * R_) + 1) + 1)) - 48))) ((4 * R_) + 1) ((10 * (0 + ((kp 0 (((7 * R_) + 1) + 1)) - 48))) + ((kp 0 ((((7 * R_) + 1) + 1) + 1)) - 48)))) 1 (upd (upd (upd (upd (sg 1) 0 (nI ((7 * R_) + 1))) 0 (nI (((7 * R_) + 1) + 1))) 0 (nI ((((7 * R_) + 1) + 1) + 1))) 0 (nI (((((7 * R_) + 1) + 1) + 1) + 1)))) 2 (upd (upd (upd (upd (upd (sg 2) ((4 * R_) + 0) (0 + ((kp 0 (7 * R_)) - 48))) ((4 * R_) + 0) ((10 * (0 + ((kp 0 (7 * R_)) - 48))) + ((kp 0 ((7 * R_) + 1)) - 48))) ((4 * R_) + 1) (0 + ((kp 0 (((7 * R_) + 1) + 1)) - 48))) ((4 * R_) + 1) ((10 * (0 + ((kp 0 (((7 * R_) + 1) + 1)) - 48))) + ((kp 0 ((((7 * R_) + 1) + 1) + 1)) - 48))) ((4 * R_) + 2) ((kp 0 (((((7 * R_) + 1) + 1) + 1) + 1)) - 48))) 1 (upd (upd (upd (upd (upd (sg 1) 0 (nI ((7 * R_) + 1))) 0 (nI (((7 * R_) + 1) + 1))) 0 (nI ((((7 * R_) + 1) + 1) + 1))) 0 (nI (((((7 * R_) + 1) + 1) + 1) + 1))) 0 (nI ((((((7 * R_) + 1) + 1) + 1) + 1) + 1)))) 2 (upd (upd (upd (upd (upd (upd (sg 2) ((4 * R_) + 0) (0 + ((kp 0 (7 * R_)) - 48))) ((4 * R_) + 0) ((10 * (0 + ((kp 0 (7 * R_)) - 48))) + ((kp 0 ((7 * R_) + 1)) - 48))) ((4 * R_) + 1) (0 + ((kp 0 (((7 * R_) + 1) + 1)) - 48))) ((4 * R_) + 1) ((10 * (0 + ((kp 0 (((7 * R_) + 1) + 1)) - 48))) + ((kp 0 ((((7 * R_) + 1) + 1) + 1)) - 48))) ((4 * R_) + 2) ((kp 0 (((((7 * R_) + 1) + 1) + 1) + 1)) - 48)) ((4 * R_) + 3) ((kp 0 ((((((7 * R_) + 1) + 1) + 1) + 1) + 1)) - 48))) 1 (upd (upd (upd (upd (upd (upd (upd (sg 1) 0 (nI ((7 * R_) + 1))) 0 (nI (((7 * R_) + 1) + 1))) 0 (nI ((((7 * R_) + 1) + 1) + 1))) 0 (nI (((((7 * R_) + 1) + 1) + 1) + 1))) 0 (nI ((((((7 * R_) + 1) + 1) + 1) + 1) + 1))) 0 (nI (((((((7 * R_) + 1) + 1) + 1) + 1) + 1) + 1))) 1 (nI (R_ + 1)))), true) _ _ _ dX8_readsPart_206 hP hS rfl rfl ⟨fun _ => ⟨by omega, fun j hj => by rcases (show j = 0 ∨ j = 1 ∨ j = 2 ∨ j = 3 ∨ j = 4 ∨ j = 5 by omega) with rfl | rfl | rfl | rfl | rfl | rfl <;> first | exact ⟨hq0.1, g_0⟩ | exact ⟨hq1.1, g_1⟩ | exact ⟨hq2.1, g_2⟩ | exact ⟨hq3.1, g_3⟩ | exact ⟨hq4.1, g_4⟩ | exact ⟨hq5.1, g_5⟩, rfl, rfl, fun j hj => ?_, fun i hi => ?_⟩, fun q => absurd (show true = false from q) (by decide)⟩
                    · rcases (show j = 0 ∨ j = 1 ∨ j = 2 ∨ j = 3 by omega) with rfl | rfl | rfl | rfl
                      · exact (sr_u6 (sg 2) (4 * R_) _ _ _ _ _ _).1.trans (sr_two_e (kp 0) (7 * R_))
                      · exact (sr_u6 (sg 2) (4 * R_) _ _ _ _ _ _).2.1.trans (sr_two_e (kp 0) (7 * R_ + 2))
                      · exact (sr_u6 (sg 2) (4 * R_) _ _ _ _ _ _).2.2.1
                      · exact (sr_u6 (sg 2) (4 * R_) _ _ _ _ _ _).2.2.2.1
                    · exact (sr_u6 (sg 2) (4 * R_) _ _ _ _ _ _).2.2.2.2 i hi
                  · refine lv_iconst (v := 0) C0.1 C0.2.1 dX8_readsPart_64 (by decide) ?_
                    have hx : sr_n kp ≤ 7 * R_ + 5 ∨ sr_go (kp 0) (7 * R_ + 5) = false := sr_go_x (by omega) (by omega) (by
                      have hy : sr_n kp ≤ 7 * R_ + 5 ∨ (kp 0 (7 * R_ + 5)).toInt < 49 ∨ 51 < (kp 0 (7 * R_ + 5)).toInt := sr_he_n hK_ (by decide) (by decide) (Classical.not_not.mp c61_6)
                      omega)
                    exact hret _ _ _ ((va_up (va_up (va_up (va_up (va_up (va_up (va_up (va_up (va_up (va_up sg 2 (upd (sg 2) ((4 * R_) + 0) (0 + ((kp 0 (7 * R_)) - 48)))) 1 (upd (sg 1) 0 (nI ((7 * R_) + 1)))) 2 (upd (upd (sg 2) ((4 * R_) + 0) (0 + ((kp 0 (7 * R_)) - 48))) ((4 * R_) + 0) ((10 * (0 + ((kp 0 (7 * R_)) - 48))) + ((kp 0 ((7 * R_) + 1)) - 48)))) 1 (upd (upd (sg 1) 0 (nI ((7 * R_) + 1))) 0 (nI (((7 * R_) + 1) + 1)))) 2 (upd (upd (upd (sg 2) ((4 * R_) + 0) (0 + ((kp 0 (7 * R_)) - 48))) ((4 * R_) + 0) ((10 * (0 + ((kp 0 (7 * R_)) - 48))) + ((kp 0 ((7 * R_) + 1)) - 48))) ((4 * R_) + 1) (0 + ((kp 0 (((7 * R_) + 1) + 1)) - 48)))) 1 (upd (upd (upd (sg 1) 0 (nI ((7 * R_) + 1))) 0 (nI (((7 * R_) + 1) + 1))) 0 (nI ((((7 * R_) + 1) + 1) + 1)))) 2 (upd (upd (upd (upd (sg 2) ((4 * R_) + 0) (0 + ((kp 0 (7 * R_)) - 48))) ((4 * R_) + 0) ((10 * (0 + ((kp 0 (7 * R_)) - 48))) + ((kp 0 ((7 * R_) + 1)) - 48))) ((4 * R_) + 1) (0 + ((kp 0 (((7 * R_) + 1) + 1)) - 48))) ((4 * R_) + 1) ((10 * (0 + ((kp 0 (((7 * R_) + 1) + 1)) - 48))) + ((kp 0 ((((7 * R_) + 1) + 1) + 1)) - 48)))) 1 (upd (upd (upd (upd (sg 1) 0 (nI ((7 * R_) + 1))) 0 (nI (((7 * R_) + 1) + 1))) 0 (nI ((((7 * R_) + 1) + 1) + 1))) 0 (nI (((((7 * R_) + 1) + 1) + 1) + 1)))) 2 (upd (upd (upd (upd (upd (sg 2) ((4 * R_) + 0) (0 + ((kp 0 (7 * R_)) - 48))) ((4 * R_) + 0) ((10 * (0 + ((kp 0 (7 * R_)) - 48))) + ((kp 0 ((7 * R_) + 1)) - 48))) ((4 * R_) + 1) (0 + ((kp 0 (((7 * R_) + 1) + 1)) - 48))) ((4 * R_) + 1) ((10 * (0 + ((kp 0 (((7 * R_) + 1) + 1)) - 48))) + ((kp 0 ((((7 * R_) + 1) + 1) + 1)) - 48))) ((4 * R_) + 2) ((kp 0 (((((7 * R_) + 1) + 1) + 1) + 1)) - 48))) 1 (upd (upd (upd (upd (upd (sg 1) 0 (nI ((7 * R_) + 1))) 0 (nI (((7 * R_) + 1) + 1))) 0 (nI ((((7 * R_) + 1) + 1) + 1))) 0 (nI (((((7 * R_) + 1) + 1) + 1) + 1))) 0 (nI ((((((7 * R_) + 1) + 1) + 1) + 1) + 1)))), false) _ _ _ dX8_readsPart_65 hP hS rfl rfl (sr_Rp_f 5 (by omega) (fun j hj => by rcases (show j = 0 ∨ j = 1 ∨ j = 2 ∨ j = 3 ∨ j = 4 by omega) with rfl | rfl | rfl | rfl | rfl <;> first | exact ⟨hq0.1, g_0⟩ | exact ⟨hq1.1, g_1⟩ | exact ⟨hq2.1, g_2⟩ | exact ⟨hq3.1, g_3⟩ | exact ⟨hq4.1, g_4⟩) hx rfl)
                · refine lv_iconst (v := 0) C0.1 C0.2.1 dX8_readsPart_64 (by decide) ?_
                  have hx : sr_n kp ≤ 7 * R_ + 4 ∨ sr_go (kp 0) (7 * R_ + 4) = false := sr_go_x (by omega) (by omega) (by
                    have hy : sr_n kp ≤ 7 * R_ + 4 ∨ (kp 0 (7 * R_ + 4)).toInt < 48 ∨ 57 < (kp 0 (7 * R_ + 4)).toInt := sr_he_n hK_ (by decide) (by decide) (Classical.not_not.mp c61_5)
                    omega)
                  exact hret _ _ _ ((va_up (va_up (va_up (va_up (va_up (va_up (va_up (va_up sg 2 (upd (sg 2) ((4 * R_) + 0) (0 + ((kp 0 (7 * R_)) - 48)))) 1 (upd (sg 1) 0 (nI ((7 * R_) + 1)))) 2 (upd (upd (sg 2) ((4 * R_) + 0) (0 + ((kp 0 (7 * R_)) - 48))) ((4 * R_) + 0) ((10 * (0 + ((kp 0 (7 * R_)) - 48))) + ((kp 0 ((7 * R_) + 1)) - 48)))) 1 (upd (upd (sg 1) 0 (nI ((7 * R_) + 1))) 0 (nI (((7 * R_) + 1) + 1)))) 2 (upd (upd (upd (sg 2) ((4 * R_) + 0) (0 + ((kp 0 (7 * R_)) - 48))) ((4 * R_) + 0) ((10 * (0 + ((kp 0 (7 * R_)) - 48))) + ((kp 0 ((7 * R_) + 1)) - 48))) ((4 * R_) + 1) (0 + ((kp 0 (((7 * R_) + 1) + 1)) - 48)))) 1 (upd (upd (upd (sg 1) 0 (nI ((7 * R_) + 1))) 0 (nI (((7 * R_) + 1) + 1))) 0 (nI ((((7 * R_) + 1) + 1) + 1)))) 2 (upd (upd (upd (upd (sg 2) ((4 * R_) + 0) (0 + ((kp 0 (7 * R_)) - 48))) ((4 * R_) + 0) ((10 * (0 + ((kp 0 (7 * R_)) - 48))) + ((kp 0 ((7 * R_) + 1)) - 48))) ((4 * R_) + 1) (0 + ((kp 0 (((7 * R_) + 1) + 1)) - 48))) ((4 * R_) + 1) ((10 * (0 + ((kp 0 (((7 * R_) + 1) + 1)) - 48))) + ((kp 0 ((((7 * R_) + 1) + 1) + 1)) - 48)))) 1 (upd (upd (upd (upd (sg 1) 0 (nI ((7 * R_) + 1))) 0 (nI (((7 * R_) + 1) + 1))) 0 (nI ((((7 * R_) + 1) + 1) + 1))) 0 (nI (((((7 * R_) + 1) + 1) + 1) + 1)))), false) _ _ _ dX8_readsPart_65 hP hS rfl rfl (sr_Rp_f 4 (by omega) (fun j hj => by rcases (show j = 0 ∨ j = 1 ∨ j = 2 ∨ j = 3 by omega) with rfl | rfl | rfl | rfl <;> first | exact ⟨hq0.1, g_0⟩ | exact ⟨hq1.1, g_1⟩ | exact ⟨hq2.1, g_2⟩ | exact ⟨hq3.1, g_3⟩) hx rfl)
              · refine lv_iconst (v := 0) C0.1 C0.2.1 dX8_readsPart_124 (by decide) ?_
                have hx : sr_n kp ≤ 7 * R_ + 3 ∨ sr_go (kp 0) (7 * R_ + 3) = false := Or.inr (Bool.eq_false_iff.mpr (fun q => by have z := ((sr_go_d (by omega) (by omega)).mp q).2.2.1 rfl; rw [show 7 * R_ + 3 - 3 = 7 * R_ by omega, show 7 * R_ + 3 - 1 = 7 * R_ + 2 by omega, ← sr_two_e, ← sr_two_e] at z; exact c121 z))
                exact hret _ _ _ ((va_up (va_up (va_up (va_up (va_up (va_up sg 2 (upd (sg 2) ((4 * R_) + 0) (0 + ((kp 0 (7 * R_)) - 48)))) 1 (upd (sg 1) 0 (nI ((7 * R_) + 1)))) 2 (upd (upd (sg 2) ((4 * R_) + 0) (0 + ((kp 0 (7 * R_)) - 48))) ((4 * R_) + 0) ((10 * (0 + ((kp 0 (7 * R_)) - 48))) + ((kp 0 ((7 * R_) + 1)) - 48)))) 1 (upd (upd (sg 1) 0 (nI ((7 * R_) + 1))) 0 (nI (((7 * R_) + 1) + 1)))) 2 (upd (upd (upd (sg 2) ((4 * R_) + 0) (0 + ((kp 0 (7 * R_)) - 48))) ((4 * R_) + 0) ((10 * (0 + ((kp 0 (7 * R_)) - 48))) + ((kp 0 ((7 * R_) + 1)) - 48))) ((4 * R_) + 1) (0 + ((kp 0 (((7 * R_) + 1) + 1)) - 48)))) 1 (upd (upd (upd (sg 1) 0 (nI ((7 * R_) + 1))) 0 (nI (((7 * R_) + 1) + 1))) 0 (nI ((((7 * R_) + 1) + 1) + 1)))), false) _ _ _ dX8_readsPart_125 hP hS rfl rfl (sr_Rp_f 3 (by omega) (fun j hj => by rcases (show j = 0 ∨ j = 1 ∨ j = 2 by omega) with rfl | rfl | rfl <;> first | exact ⟨hq0.1, g_0⟩ | exact ⟨hq1.1, g_1⟩ | exact ⟨hq2.1, g_2⟩) hx rfl)
            · refine lv_iconst (v := 0) C0.1 C0.2.1 dX8_readsPart_64 (by decide) ?_
              have hx : sr_n kp ≤ 7 * R_ + 3 ∨ sr_go (kp 0) (7 * R_ + 3) = false := sr_go_x (by omega) (by omega) (by
                have hy : sr_n kp ≤ 7 * R_ + 3 ∨ (kp 0 (7 * R_ + 3)).toInt < 48 ∨ 57 < (kp 0 (7 * R_ + 3)).toInt := sr_he_n hK_ (by decide) (by decide) (Classical.not_not.mp c61_4)
                omega)
              exact hret _ _ _ ((va_up (va_up (va_up (va_up (va_up (va_up sg 2 (upd (sg 2) ((4 * R_) + 0) (0 + ((kp 0 (7 * R_)) - 48)))) 1 (upd (sg 1) 0 (nI ((7 * R_) + 1)))) 2 (upd (upd (sg 2) ((4 * R_) + 0) (0 + ((kp 0 (7 * R_)) - 48))) ((4 * R_) + 0) ((10 * (0 + ((kp 0 (7 * R_)) - 48))) + ((kp 0 ((7 * R_) + 1)) - 48)))) 1 (upd (upd (sg 1) 0 (nI ((7 * R_) + 1))) 0 (nI (((7 * R_) + 1) + 1)))) 2 (upd (upd (upd (sg 2) ((4 * R_) + 0) (0 + ((kp 0 (7 * R_)) - 48))) ((4 * R_) + 0) ((10 * (0 + ((kp 0 (7 * R_)) - 48))) + ((kp 0 ((7 * R_) + 1)) - 48))) ((4 * R_) + 1) (0 + ((kp 0 (((7 * R_) + 1) + 1)) - 48)))) 1 (upd (upd (upd (sg 1) 0 (nI ((7 * R_) + 1))) 0 (nI (((7 * R_) + 1) + 1))) 0 (nI ((((7 * R_) + 1) + 1) + 1)))), false) _ _ _ dX8_readsPart_65 hP hS rfl rfl (sr_Rp_f 3 (by omega) (fun j hj => by rcases (show j = 0 ∨ j = 1 ∨ j = 2 by omega) with rfl | rfl | rfl <;> first | exact ⟨hq0.1, g_0⟩ | exact ⟨hq1.1, g_1⟩ | exact ⟨hq2.1, g_2⟩) hx rfl)
          · refine lv_iconst (v := 0) C0.1 C0.2.1 dX8_readsPart_64 (by decide) ?_
            have hx : sr_n kp ≤ 7 * R_ + 2 ∨ sr_go (kp 0) (7 * R_ + 2) = false := sr_go_x (by omega) (by omega) (by
              have hy : sr_n kp ≤ 7 * R_ + 2 ∨ (kp 0 (7 * R_ + 2)).toInt < 48 ∨ 57 < (kp 0 (7 * R_ + 2)).toInt := sr_he_n hK_ (by decide) (by decide) (Classical.not_not.mp c61_3)
              omega)
            exact hret _ _ _ ((va_up (va_up (va_up (va_up sg 2 (upd (sg 2) ((4 * R_) + 0) (0 + ((kp 0 (7 * R_)) - 48)))) 1 (upd (sg 1) 0 (nI ((7 * R_) + 1)))) 2 (upd (upd (sg 2) ((4 * R_) + 0) (0 + ((kp 0 (7 * R_)) - 48))) ((4 * R_) + 0) ((10 * (0 + ((kp 0 (7 * R_)) - 48))) + ((kp 0 ((7 * R_) + 1)) - 48)))) 1 (upd (upd (sg 1) 0 (nI ((7 * R_) + 1))) 0 (nI (((7 * R_) + 1) + 1)))), false) _ _ _ dX8_readsPart_65 hP hS rfl rfl (sr_Rp_f 2 (by omega) (fun j hj => by rcases (show j = 0 ∨ j = 1 by omega) with rfl | rfl <;> first | exact ⟨hq0.1, g_0⟩ | exact ⟨hq1.1, g_1⟩) hx rfl)
      · refine lv_iconst (v := 0) C0.1 C0.2.1 dX8_readsPart_64 (by decide) ?_
        have hx : sr_n kp ≤ 7 * R_ + 1 ∨ sr_go (kp 0) (7 * R_ + 1) = false := sr_go_x (by omega) (by omega) (by
          have hy : sr_n kp ≤ 7 * R_ + 1 ∨ (kp 0 (7 * R_ + 1)).toInt < 48 ∨ 57 < (kp 0 (7 * R_ + 1)).toInt := sr_he_n hK_ (by decide) (by decide) (Classical.not_not.mp c61_2)
          omega)
        exact hret _ _ _ ((va_up (va_up sg 2 (upd (sg 2) ((4 * R_) + 0) (0 + ((kp 0 (7 * R_)) - 48)))) 1 (upd (sg 1) 0 (nI ((7 * R_) + 1)))), false) _ _ _ dX8_readsPart_65 hP hS rfl rfl (sr_Rp_f 1 (by omega) (fun j hj => by rcases (show j = 0 by omega) with rfl <;> first | exact ⟨hq0.1, g_0⟩) hx rfl)
    · refine lv_iconst (v := 0) C0.1 C0.2.1 dX8_readsPart_64 (by decide) ?_
      have hx : sr_n kp ≤ 7 * R_ + 0 ∨ sr_go (kp 0) (7 * R_ + 0) = false := sr_go_x (by omega) (by omega) (by
        have hy : sr_n kp ≤ 7 * R_ + 0 ∨ (kp 0 (7 * R_ + 0)).toInt < 48 ∨ 57 < (kp 0 (7 * R_ + 0)).toInt := sr_he_n hK_ (by decide) (by decide) (Classical.not_not.mp c61)
        omega)
      exact hret _ _ _ (sg, false) _ _ _ dX8_readsPart_65 hP hS rfl rfl (sr_Rp_f 0 (by omega) (fun j hj => by exact absurd hj (by omega)) hx hat)
  · have g5 : R_ = 5 := (nI_eq (a := R_) (b := 5) (by omega) (by omega)).mp c5
    refine lv_iconst (v := 0) C0.1 C0.2.1 dX8_readsPart_8 (by decide) ?_
    exact hret _ _ _ (sg, false) _ _ _ dX8_readsPart_9 hP hS rfl rfl (sr_Rp_f 0 (by omega) (fun j hj => absurd hj (by omega)) (Or.inr (Bool.eq_false_iff.mpr (fun q => by have := sr_go35 q; omega))) hat)
set_option maxRecDepth 100000 in
set_option maxHeartbeats 4000000 in
theorem cc_X8_reads {l : Launch} {D : va_G} {cI : ClassId} {a : Nat → Nat} (ha : ∀ i j, i < 13 → j < 13 → a i = a j → i = j) {kp cx sg : sr_M} (hK_ : sr_IK kp) : sr_G l D (sr_tM cI) (sr_ZM) (sr_AM a) (sr_WM cI a kp cx sg) yX8_reads cX8_reads 2 (some .int) 2 49 [.ref (a 0)] (S := sr_M) (fun u => sr_RD kp u) (fun u => sr_WM cI a kp cx u) (fun u => some (.int (sr_flt kp))) := by
  refine sr_Gie (by decide +kernel) (Nat.le_of_ble_eq_true rfl) (fun p e s m args below meth c ls Q B hret => ?_)
  obtain ⟨C0, hP, hK, hZ0, hl⟩ := B
  have hZ : sr_Zok (sr_AM a) (sr_ZM) := sr_ZMok
  have hS : va_S (sr_AM a) s.heap s.heap [] := va_S.rf
  have hl : lv_has ls 2 [(0, .ref (a 0))] := hl
  obtain ⟨H, hH⟩ : ∃ H, H = s.heap := ⟨_, rfl⟩
  have hP : va_P D vwCl (sr_WM cI a kp cx sg) H := by rw [hH]; exact hP
  have hS : va_S (sr_AM a) s.heap H [] := by rw [hH]; exact hS
  suffices hG : ∀ locs, va_S (sr_AM a) s.heap H locs → W p l e (sr_rm 2 49) s m args below meth c H locs 0 0 Q (F0 m 0 ls []) from by have h9 := hG [] hS; rw [hH] at h9; exact h9
  clear hS
  intro locs hS
  clear hH
  have hn40 := sr_IK_n40 hK_
  refine lv_aload_n C0.1 C0.2.1 dX8_reads_0 rfl (lv_at hl 0 rfl) ?_
  refine lv_iconst (v := 0) C0.1 C0.2.1 dX8_reads_1 (by decide) ?_
  refine sr_put C0 hK hP (sr_DM ha _ _ _) hS sr_inX8 tyX8_ok nmX8 sr_wM0 rfl 7 (by decide) sw_617 rfl (by decide +kernel) (Nat.le_of_ble_eq_true rfl) sr_fM0_7 dX8_reads_2 (fun H locs hP hS => ?_)
  refine lv_aload_n C0.1 C0.2.1 dX8_reads_5 rfl (lv_at hl 0 rfl) ?_
  refine lv_iconst (v := 0) C0.1 C0.2.1 dX8_reads_6 (by decide) ?_
  refine sr_put C0 hK hP (sr_DM ha _ _ _) hS sr_inX8 tyX8_ok nmX8 sr_wM0 rfl 8 (by decide) sw_618 rfl (by decide +kernel) (Nat.le_of_ble_eq_true rfl) sr_fM0_8 dX8_reads_7 (fun H locs hP hS => ?_)
  have hP : va_P D vwCl (sr_WM cI a kp cx (va_up sg 1 (upd (upd (sg 1) 0 0) 1 0))) H := hP
  refine lv_aload_n C0.1 C0.2.1 dX8_reads_10 rfl (lv_at hl 0 rfl) ?_
  refine sr_get (v := .int (kp 5 0)) C0 hK hP sr_inX8 sr_wM0 rfl 6 (by decide) sw_616 rfl dX8_reads_11 ?_
  refine sr_chi (sr_IK_n hK_) ?_
  have := sr_IK_n40 hK_
  have hJ22 : ∀ (k22_0 : Int32), k22_0 = (if ¬ ((nI (sr_n kp)) ≤ 0) then 1 else 0) → W p l e (sr_rm 2 49) s m args below meth c H locs 0 0 Q (F0 m 22 ls [.int k22_0]) := by
    intro k22_0 e_k22_0
    subst e_k22_0
    refine sr_chi (sr_mb0 (x := 0) (n := sr_n kp) (by omega) (by omega)) ?_
    refine lv_istore_n (lv' := [(1, .int (if decide (0 < sr_n kp) = true then 1 else 0)), (0, .ref (a 0))]) C0.1 C0.2.1 dX8_reads_22 rfl hl (by decide) rfl (fun ls hl => ?_)
    have lp23 : ∀ (n23 : Nat) (a_ : Nat) (R_ : Nat) (mb : Bool) (sgr : sr_M) (H : Heap) (locs : List Loc) (ls : Array Slot), (sgr 1 0 = nI a_) → (sgr 1 1 = nI R_) → (R_ ≤ 5) → (6 ≤ R_ + n23) → (∀ p, p < a_ → sr_go (kp 0) p = true) → (a_ ≤ sr_n kp) → ((mb = true → a_ = 7 * R_ ∧ 0 < sr_n kp) ∧ (mb = false → a_ = sr_n kp ∧ ((sr_n kp = 0 ∧ R_ = 0) ∨ sr_n kp + 1 = 7 * R_))) → (∀ r, r < R_ → ∀ j, j < 4 → sgr 2 (4 * r + j) = sr_fig kp r j) → va_P D vwCl (sr_WM cI a kp cx sgr) H → va_S (sr_AM a) s.heap H locs → lv_has ls 2 [(1, .int (if mb = true then 1 else 0)), (0, .ref (a 0))] → W p l e (sr_rm 2 49) s m args below meth c H locs 0 0 Q (F0 m 23 ls []) := by
      intro n23
      induction n23 with
      | zero =>
        intro a_ R_ mb sgr H locs ls h_at h_ru h_R h_n h_g h_a h_m h_f hP hS hl
        exact absurd h_n (by omega)
      | succ n23 ih23 =>
        intro a_ R_ mb sgr H locs ls h_at h_ru h_R h_n h_g h_a h_m h_f hP hS hl
        refine lv_iload_n C0.1 C0.2.1 dX8_reads_23 rfl (lv_at hl 0 rfl) ?_
        refine sr_ifeq (tgt := 95) C0 dX8_reads_24 (by decide) (fun c24 => ?_) (fun c24 => ?_)
        · refine lv_iconst (v := (-1)) C0.1 C0.2.1 dX8_reads_95 (by decide) ?_
          obtain ⟨ham, hen⟩ := h_m.2 (Bool.eq_false_iff.mpr c24)
          have hok := sr_rd_ok (R := R_) (fun p hp => h_g p (by omega)) hen
          exact hret _ _ _ sgr _ _ _ dX8_reads_96 hP hS rfl hok.1.symm ⟨by rw [hok.2]; exact h_ru, fun r hr j hj => h_f r (by omega) j hj⟩
        · refine lv_aload_n C0.1 C0.2.1 dX8_reads_27 rfl (lv_at hl 1 rfl) ?_
          refine sr_gVi (As := []) C0 hK hP hZ (sr_Zs hZ hZ0 hS) (cc_X8_readsPart ha R_ hK_ (by rw [h_at, (h_m.1 c24).1]) h_ru (by omega)) sk_X8_readsPart sv_X8_readsPart sw_723 (ci := 8) rfl sr_wM0 rfl rfl hl.1 (Nat.le_of_ble_eq_true rfl) (Nat.le_of_ble_eq_true rfl) (Nat.le_of_ble_eq_true rfl) dX8_reads_28 ⟨Nat.zero_le _, Nat.zero_le _⟩ hS (fun wp H locs hrp hP hS => ?_)
          refine sr_ifne (tgt := 39) C0 dX8_reads_31 (by decide) (fun c31 => ?_) (fun c31 => ?_)
          · obtain ⟨q1, q2, q3, q4, q5, q6⟩ := hrp.1 c31
            obtain ⟨ham, hn0⟩ := h_m.1 c24
            have hq5 := (q2 5 (by omega)).1
            refine lv_aload_n C0.1 C0.2.1 dX8_reads_39 rfl (lv_at hl 1 rfl) ?_
            refine sr_get (v := .int (wp.1 1 0)) C0 hK hP sr_inX8 sr_wM0 rfl 7 (by decide) sw_617 rfl dX8_reads_40 ?_
            refine sr_chi q3 ?_
            refine lv_aload_n C0.1 C0.2.1 dX8_reads_43 rfl (lv_at hl 1 rfl) ?_
            refine sr_get (v := .int (kp 5 0)) C0 hK hP sr_inX8 sr_wM0 rfl 6 (by decide) sw_616 rfl dX8_reads_44 ?_
            refine sr_chi (sr_IK_n hK_) ?_
            have := sr_IK_n40 hK_
            have hJ55 : ∀ (k55_0 : Int32), k55_0 = (if ¬ ((nI (sr_n kp)) ≤ (nI (7 * R_ + 6))) then 1 else 0) → W p l e (sr_rm 2 49) s m args below meth c H locs 0 0 Q (F0 m 55 ls [.int k55_0]) := by
              intro k55_0 e_k55_0
              subst e_k55_0
              refine sr_chi (sr_mb0 (x := 7 * R_ + 6) (n := sr_n kp) (by omega) (by omega)) ?_
              refine lv_istore_n (lv' := [(1, .int (if decide (7 * R_ + 6 < sr_n kp) = true then 1 else 0)), (0, .ref (a 0))]) C0.1 C0.2.1 dX8_reads_55 rfl hl (by decide) rfl (fun ls hl => ?_)
              refine lv_iload_n C0.1 C0.2.1 dX8_reads_56 rfl (lv_at hl 0 rfl) ?_
              refine sr_ifeq (tgt := 74) C0 dX8_reads_57 (by decide) (fun c57 => ?_) (fun c57 => ?_)
              · have hge : ¬ 7 * R_ + 6 < sr_n kp := fun q => c57 (decide_eq_true q)
                refine lv_aload_n C0.1 C0.2.1 dX8_reads_74 rfl (lv_at hl 1 rfl) ?_
                refine lv_dup C0.1 C0.2.1 dX8_reads_75 rfl ?_
                refine sr_get (v := .int (wp.1 1 0)) C0 hK hP sr_inX8 sr_wM0 rfl 7 (by decide) sw_617 rfl dX8_reads_76 ?_
                refine sr_chi q3 ?_
                refine lv_iload_n C0.1 C0.2.1 dX8_reads_79 rfl (lv_at hl 0 rfl) ?_
                have hJ88 : ∀ (k88_0 : Int32), k88_0 = (if decide (7 * R_ + 6 < sr_n kp) = true then 1 else 0) → W p l e (sr_rm 2 49) s m args below meth c H locs 0 0 Q (F0 m 88 ls [.int k88_0, .int (nI (7 * R_ + 6)), .ref (a 0)]) := by
                  intro k88_0 e_k88_0
                  subst e_k88_0
                  refine sr_chi (if_neg c57) ?_
                  refine lv_iadd C0.1 C0.2.1 dX8_reads_88 ?_
                  refine sr_chi (nI_add (7 * R_ + 6) 0) ?_
                  refine sr_put C0 hK hP (sr_DM ha _ _ _) hS sr_inX8 tyX8_ok nmX8 sr_wM0 rfl 7 (by decide) sw_617 rfl (by decide +kernel) (Nat.le_of_ble_eq_true rfl) sr_fM0_7 dX8_reads_89 (fun H locs hP hS => ?_)
                  refine lv_goto (tgt := 23) C0.1 C0.2.1 dX8_reads_92 (by decide) ?_
                  exact ih23 (7 * R_ + 6 + 0) (R_ + 1) (decide (7 * R_ + 6 < sr_n kp)) (va_up wp.1 1 (upd (wp.1 1) 0 (nI ((7 * R_ + 6) + 0)))) _ _ _ rfl q4 (by omega) (by omega) (fun p hp => by rcases Nat.lt_or_ge p (7 * R_) with z | z; exact h_g p (by omega); rcases Nat.lt_or_ge p (7 * R_ + 6) with y | y; (have := (q2 (p - 7 * R_) (by omega)).2; rw [show 7 * R_ + (p - 7 * R_) = p by omega] at this; exact this); omega) (by omega) (⟨fun q => absurd q c57, fun q => ⟨by omega, Or.inr (by omega)⟩⟩) (fun r hr j hj => by rcases Nat.lt_or_ge r R_ with z | z; (rw [show (va_up wp.1 1 (upd (wp.1 1) 0 (nI ((7 * R_ + 6) + 0)))) 2 (4 * r + j) = sgr 2 (4 * r + j) from q6 (4 * r + j) (by omega)]; exact h_f r z j hj); (rw [show r = R_ by omega]; exact q5 j hj)) hP hS (lv_sub hl [0, 1] rfl)
                refine sr_ifeq (tgt := 87) C0 dX8_reads_80 (by decide) (fun c80 => ?_) (fun c80 => ?_)
                · refine lv_iconst (v := 0) C0.1 C0.2.1 dX8_reads_87 (by decide) ?_
                  exact hJ88 _ ((if_neg c80).symm)
                · refine lv_iconst (v := 1) C0.1 C0.2.1 dX8_reads_83 (by decide) ?_
                  refine lv_goto (tgt := 88) C0.1 C0.2.1 dX8_reads_84 (by decide) ?_
                  exact hJ88 _ ((if_pos c80).symm)
              · have hlt : 7 * R_ + 6 < sr_n kp := of_decide_eq_true c57
                refine lv_aload_n C0.1 C0.2.1 dX8_reads_60 rfl (lv_at hl 1 rfl) ?_
                refine sr_pVi (As := []) C0 hK hP hZ (sr_Zs hZ hZ0 hS) (cc_X8_here ha (7 * R_ + 6) hK_ q3 (by omega)) sk_X8_here sv_X8_here sw_727 (ci := 8) rfl sr_wM0 rfl rfl hl.1 (Nat.le_of_ble_eq_true rfl) (Nat.le_of_ble_eq_true rfl) (Nat.le_of_ble_eq_true rfl) dX8_reads_61 ⟨Nat.zero_le _, Nat.zero_le _⟩ ?_
                refine lv_bipush (v := 59) C0.1 C0.2.1 dX8_reads_64 (by decide) ?_
                refine lv_icmp_eq (tgt := 74) C0.1 C0.2.1 dX8_reads_66 (by decide) (fun c66 => ?_) (fun c66 => ?_)
                · have hs6 : sr_go (kp 0) (7 * R_ + 6) = true := by rw [sr_go_s q1]; exact decide_eq_true ((if_neg (show ¬ sr_n kp ≤ 7 * R_ + 6 by omega)).symm.trans c66)
                  refine lv_aload_n C0.1 C0.2.1 dX8_reads_74 rfl (lv_at hl 1 rfl) ?_
                  refine lv_dup C0.1 C0.2.1 dX8_reads_75 rfl ?_
                  refine sr_get (v := .int (wp.1 1 0)) C0 hK hP sr_inX8 sr_wM0 rfl 7 (by decide) sw_617 rfl dX8_reads_76 ?_
                  refine sr_chi q3 ?_
                  refine lv_iload_n C0.1 C0.2.1 dX8_reads_79 rfl (lv_at hl 0 rfl) ?_
                  have hJ88 : ∀ (k88_0 : Int32), k88_0 = (if decide (7 * R_ + 6 < sr_n kp) = true then 1 else 0) → W p l e (sr_rm 2 49) s m args below meth c H locs 0 0 Q (F0 m 88 ls [.int k88_0, .int (nI (7 * R_ + 6)), .ref (a 0)]) := by
                    intro k88_0 e_k88_0
                    subst e_k88_0
                    refine sr_chi (if_pos c57) ?_
                    refine lv_iadd C0.1 C0.2.1 dX8_reads_88 ?_
                    refine sr_chi (nI_add (7 * R_ + 6) 1) ?_
                    refine sr_put C0 hK hP (sr_DM ha _ _ _) hS sr_inX8 tyX8_ok nmX8 sr_wM0 rfl 7 (by decide) sw_617 rfl (by decide +kernel) (Nat.le_of_ble_eq_true rfl) sr_fM0_7 dX8_reads_89 (fun H locs hP hS => ?_)
                    refine lv_goto (tgt := 23) C0.1 C0.2.1 dX8_reads_92 (by decide) ?_
                    exact ih23 (7 * R_ + 6 + 1) (R_ + 1) (decide (7 * R_ + 6 < sr_n kp)) (va_up wp.1 1 (upd (wp.1 1) 0 (nI ((7 * R_ + 6) + 1)))) _ _ _ rfl q4 (by omega) (by omega) (fun p hp => by rcases Nat.lt_or_ge p (7 * R_) with z | z; exact h_g p (by omega); rcases Nat.lt_or_ge p (7 * R_ + 6) with y | y; (have := (q2 (p - 7 * R_) (by omega)).2; rw [show 7 * R_ + (p - 7 * R_) = p by omega] at this; exact this); rw [show p = 7 * R_ + 6 by omega]; exact hs6) (by omega) (⟨fun q => ⟨by omega, by omega⟩, fun q => absurd (c57.symm.trans q) (by decide)⟩) (fun r hr j hj => by rcases Nat.lt_or_ge r R_ with z | z; (rw [show (va_up wp.1 1 (upd (wp.1 1) 0 (nI ((7 * R_ + 6) + 1)))) 2 (4 * r + j) = sgr 2 (4 * r + j) from q6 (4 * r + j) (by omega)]; exact h_f r z j hj); (rw [show r = R_ by omega]; exact q5 j hj)) hP hS (lv_sub hl [0, 1] rfl)
                  refine sr_ifeq (tgt := 87) C0 dX8_reads_80 (by decide) (fun c80 => ?_) (fun c80 => ?_)
                  · refine lv_iconst (v := 0) C0.1 C0.2.1 dX8_reads_87 (by decide) ?_
                    exact hJ88 _ ((if_neg c80).symm)
                  · refine lv_iconst (v := 1) C0.1 C0.2.1 dX8_reads_83 (by decide) ?_
                    refine lv_goto (tgt := 88) C0.1 C0.2.1 dX8_reads_84 (by decide) ?_
                    exact hJ88 _ ((if_pos c80).symm)
                · refine lv_aload_n C0.1 C0.2.1 dX8_reads_69 rfl (lv_at hl 1 rfl) ?_
                  refine sr_gVi (As := []) C0 hK hP hZ (sr_Zs hZ hZ0 hS) (cc_X8_nobody ha) sk_X8_nobody sv_X8_nobody sw_732 (ci := 8) rfl sr_wM0 rfl rfl hl.1 (Nat.le_of_ble_eq_true rfl) (Nat.le_of_ble_eq_true rfl) (Nat.le_of_ble_eq_true rfl) dX8_reads_70 ⟨Nat.zero_le _, Nat.zero_le _⟩ hS (fun sg1 H locs hnb hP hS => ?_)
                  have hbd := sr_rd_bad (a := 7 * R_ + 6) (fun p hp => by rcases Nat.lt_or_ge p (7 * R_) with z | z; exact h_g p (by omega); have := (q2 (p - 7 * R_) (by omega)).2; rw [show 7 * R_ + (p - 7 * R_) = p by omega] at this; exact this) (by omega) (Or.inr (by rw [sr_go_s q1]; exact decide_eq_false (fun q => c66 ((if_neg (show ¬ sr_n kp ≤ 7 * R_ + 6 by omega)).trans q)))) hn0 (Or.inl hlt)
                  exact hret _ _ _ sg1 _ _ _ dX8_reads_73 hP hS rfl (q3.trans hbd.1.symm) ⟨by rw [hbd.2]; exact hnb.2.1, fun r hr => absurd hr (by omega)⟩
            refine lv_icmp_ge (tgt := 54) C0.1 C0.2.1 dX8_reads_47 (by decide) (fun c47 => ?_) (fun c47 => ?_)
            · have g47 : (sr_n kp) ≤ (7 * R_ + 6) := (nI_leI (a := (sr_n kp)) (b := (7 * R_ + 6)) (by omega) (by omega)).mp c47
              refine lv_iconst (v := 0) C0.1 C0.2.1 dX8_reads_54 (by decide) ?_
              exact hJ55 _ ((if_neg (fun q => q c47)).symm)
            · have g47 : ¬ ((sr_n kp) ≤ (7 * R_ + 6)) := fun q => c47 ((nI_leI (a := (sr_n kp)) (b := (7 * R_ + 6)) (by omega) (by omega)).mpr q)
              refine lv_iconst (v := 1) C0.1 C0.2.1 dX8_reads_50 (by decide) ?_
              refine lv_goto (tgt := 55) C0.1 C0.2.1 dX8_reads_51 (by decide) ?_
              exact hJ55 _ ((if_pos c47).symm)
          · refine lv_aload_n C0.1 C0.2.1 dX8_reads_34 rfl (lv_at hl 1 rfl) ?_
            refine sr_gVi (As := []) C0 hK hP hZ (sr_Zs hZ hZ0 hS) (cc_X8_nobody ha) sk_X8_nobody sv_X8_nobody sw_732 (ci := 8) rfl sr_wM0 rfl rfl hl.1 (Nat.le_of_ble_eq_true rfl) (Nat.le_of_ble_eq_true rfl) (Nat.le_of_ble_eq_true rfl) dX8_reads_35 ⟨Nat.zero_le _, Nat.zero_le _⟩ hS (fun sg1 H locs hnb hP hS => ?_)
            obtain ⟨k, k1, k2, k3, k4⟩ := hrp.2 (Bool.eq_false_iff.mpr c31)
            obtain ⟨ham, hn0⟩ := h_m.1 c24
            have hk7 : 7 * R_ + k ≤ sr_n kp := by rcases Nat.eq_zero_or_pos k with z | z; omega; have := (k2 (k - 1) (by omega)).1; omega
            have hbd := sr_rd_bad (a := 7 * R_ + k) (fun p hp => by rcases Nat.lt_or_ge p (7 * R_) with z | z; exact h_g p (by omega); have := (k2 (p - 7 * R_) (by omega)).2; rw [show 7 * R_ + (p - 7 * R_) = p by omega] at this; exact this) hk7 k3 hn0 (Or.inr (by omega))
            exact hret _ _ _ sg1 _ _ _ dX8_reads_38 hP hS rfl (k4.trans hbd.1.symm) ⟨by rw [hbd.2]; exact hnb.2.1, fun r hr => absurd hr (by omega)⟩
    exact lp23 6 0 0 (decide (0 < sr_n kp)) (va_up sg 1 (upd (upd (sg 1) 0 0) 1 0)) _ _ _ rfl rfl (by omega) (by omega) (fun p hp => absurd hp (by omega)) (by omega) (⟨fun q => by have := of_decide_eq_true q; omega, fun q => by have := of_decide_eq_false q; omega⟩) (fun r hr => absurd hr (by omega)) hP hS (lv_sub hl [0, 1] rfl)
  refine lv_if_le (tgt := 21) C0.1 C0.2.1 dX8_reads_14 (by decide) (fun c14 => ?_) (fun c14 => ?_)
  · have g14 : (sr_n kp) ≤ 0 := (nI_leI (a := (sr_n kp)) (b := 0) (by omega) (by omega)).mp c14
    refine lv_iconst (v := 0) C0.1 C0.2.1 dX8_reads_21 (by decide) ?_
    exact hJ22 _ ((if_neg (fun q => q c14)).symm)
  · have g14 : ¬ ((sr_n kp) ≤ 0) := fun q => c14 ((nI_leI (a := (sr_n kp)) (b := 0) (by omega) (by omega)).mpr q)
    refine lv_iconst (v := 1) C0.1 C0.2.1 dX8_reads_17 (by decide) ?_
    refine lv_goto (tgt := 22) C0.1 C0.2.1 dX8_reads_18 (by decide) ?_
    exact hJ22 _ ((if_pos c14).symm)
set_option maxRecDepth 100000 in
set_option maxHeartbeats 4000000 in
theorem cc_X8_fault {l : Launch} {D : va_G} {cI : ClassId} {a : Nat → Nat} (ha : ∀ i j, i < 13 → j < 13 → a i = a j → i = j) {kp cx sg : sr_M} (hK_ : sr_IK kp) : sr_G l D (sr_tM cI) (sr_ZM) (sr_AM a) (sr_WM cI a kp cx sg) yX8_fault cX8_fault 1 (some .int) 3 70 [.ref (a 0)] (S := sr_M) (fun u => sr_RD kp u) (fun u => sr_WM cI a kp cx u) (fun u => some (.int (sr_flt kp))) := by
  refine sr_Gie (by decide +kernel) (Nat.le_of_ble_eq_true rfl) (fun p e s m args below meth c ls Q B hret => ?_)
  obtain ⟨C0, hP, hK, hZ0, hl⟩ := B
  have hZ : sr_Zok (sr_AM a) (sr_ZM) := sr_ZMok
  have hS : va_S (sr_AM a) s.heap s.heap [] := va_S.rf
  have hl : lv_has ls 1 [(0, .ref (a 0))] := hl
  obtain ⟨H, hH⟩ : ∃ H, H = s.heap := ⟨_, rfl⟩
  have hP : va_P D vwCl (sr_WM cI a kp cx sg) H := by rw [hH]; exact hP
  have hS : va_S (sr_AM a) s.heap H [] := by rw [hH]; exact hS
  suffices hG : ∀ locs, va_S (sr_AM a) s.heap H locs → W p l e (sr_rm 3 70) s m args below meth c H locs 0 0 Q (F0 m 0 ls []) from by have h9 := hG [] hS; rw [hH] at h9; exact h9
  clear hS
  intro locs hS
  clear hH
  refine lv_aload_n C0.1 C0.2.1 dX8_fault_0 rfl (lv_at hl 0 rfl) ?_
  refine sr_gVi (As := []) C0 hK hP hZ (sr_Zs hZ hZ0 hS) (cc_X8_reads ha hK_) sk_X8_reads sv_X8_reads sw_719 (ci := 8) rfl sr_wM0 rfl rfl hl.1 (Nat.le_of_ble_eq_true rfl) (Nat.le_of_ble_eq_true rfl) (Nat.le_of_ble_eq_true rfl) dX8_fault_1 ⟨Nat.zero_le _, Nat.zero_le _⟩ hS (fun sg1 H locs hRD hP hS => ?_)
  exact hret _ _ _ sg1 _ _ _ dX8_fault_4 hP hS rfl rfl hRD
