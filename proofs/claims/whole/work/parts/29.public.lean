set_option maxRecDepth 100000 in
set_option maxHeartbeats 4000000 in
theorem cc_X7_isNoStretch {l : Launch} {D : va_G} {cI cR : ClassId} {a : Nat → Nat} (ha : ∀ i j, i < 36 → j < 36 → a i = a j → i = j) {kp cx sg : sr_M} (x_ : Int32) : sr_P l D (sr_tC cI cR) (sr_ZC a) (sr_WC cI cR a kp cx sg) yX7_isNoStretch cX7_isNoStretch 1 (some .boolean) 1 22 [.int x_] (some (.int (if x_ < 0 ∨ 3 < x_ then 1 else 0))) := by
  refine sr_Pze (by decide +kernel) (Nat.le_of_ble_eq_true rfl) (fun p e s m args below meth c ls Q B hret => ?_)
  obtain ⟨C0, hP, hK, hZ0, hl⟩ := B
  have hZ : sr_Zok (sr_AC a) (sr_ZC a) := sr_ZCok a
  have hS : va_S (sr_AC a) s.heap s.heap [] := va_S.rf
  have hl : lv_has ls 1 [(0, .int x_)] := hl
  refine lv_iload_n C0.1 C0.2.1 dX7_isNoStretch_0 rfl (lv_at hl 0 rfl) ?_
  refine lv_iconst (v := 0) C0.1 C0.2.1 dX7_isNoStretch_1 (by decide) ?_
  refine lv_iconst (v := 3) C0.1 C0.2.1 dX7_isNoStretch_2 (by decide) ?_
  refine sr_pSi (As := [.int x_, .int 0, .int 3]) C0 hK hP hZ hZ0 (cc_X7_outside ha x_ (0) (3)) sk_X7_outside (ss_X7_outside) sw_214 rfl rfl hl.1 (Nat.le_of_ble_eq_true rfl) (Nat.le_of_ble_eq_true rfl) (Nat.le_of_ble_eq_true rfl) dX7_isNoStretch_3 ⟨Nat.zero_le _, Nat.zero_le _⟩ ?_
  exact hret _ _ _ dX7_isNoStretch_6 rfl
set_option maxRecDepth 100000 in
set_option maxHeartbeats 4000000 in
theorem cc_X7_isNoChange {l : Launch} {D : va_G} {cI cR : ClassId} {a : Nat → Nat} (ha : ∀ i j, i < 36 → j < 36 → a i = a j → i = j) {kp cx sg : sr_M} (x_ : Int32) : sr_P l D (sr_tC cI cR) (sr_ZC a) (sr_WC cI cR a kp cx sg) yX7_isNoChange cX7_isNoChange 1 (some .boolean) 1 22 [.int x_] (some (.int (if x_ < 0 ∨ 2 < x_ then 1 else 0))) := by
  refine sr_Pze (by decide +kernel) (Nat.le_of_ble_eq_true rfl) (fun p e s m args below meth c ls Q B hret => ?_)
  obtain ⟨C0, hP, hK, hZ0, hl⟩ := B
  have hZ : sr_Zok (sr_AC a) (sr_ZC a) := sr_ZCok a
  have hS : va_S (sr_AC a) s.heap s.heap [] := va_S.rf
  have hl : lv_has ls 1 [(0, .int x_)] := hl
  refine lv_iload_n C0.1 C0.2.1 dX7_isNoChange_0 rfl (lv_at hl 0 rfl) ?_
  refine lv_iconst (v := 0) C0.1 C0.2.1 dX7_isNoChange_1 (by decide) ?_
  refine lv_iconst (v := 2) C0.1 C0.2.1 dX7_isNoChange_2 (by decide) ?_
  refine sr_pSi (As := [.int x_, .int 0, .int 2]) C0 hK hP hZ hZ0 (cc_X7_outside ha x_ (0) (2)) sk_X7_outside (ss_X7_outside) sw_214 rfl rfl hl.1 (Nat.le_of_ble_eq_true rfl) (Nat.le_of_ble_eq_true rfl) (Nat.le_of_ble_eq_true rfl) dX7_isNoChange_3 ⟨Nat.zero_le _, Nat.zero_le _⟩ ?_
  exact hret _ _ _ dX7_isNoChange_6 rfl
set_option maxRecDepth 100000 in
set_option maxHeartbeats 4000000 in
theorem cc_X7_isNoMark {l : Launch} {D : va_G} {cI cR : ClassId} {a : Nat → Nat} (ha : ∀ i j, i < 36 → j < 36 → a i = a j → i = j) {kp cx sg : sr_M} (x_ : Int32) : sr_P l D (sr_tC cI cR) (sr_ZC a) (sr_WC cI cR a kp cx sg) yX7_isNoMark cX7_isNoMark 1 (some .boolean) 1 22 [.int x_] (some (.int (if x_ < 0 ∨ 40 < x_ then 1 else 0))) := by
  refine sr_Pze (by decide +kernel) (Nat.le_of_ble_eq_true rfl) (fun p e s m args below meth c ls Q B hret => ?_)
  obtain ⟨C0, hP, hK, hZ0, hl⟩ := B
  have hZ : sr_Zok (sr_AC a) (sr_ZC a) := sr_ZCok a
  have hS : va_S (sr_AC a) s.heap s.heap [] := va_S.rf
  have hl : lv_has ls 1 [(0, .int x_)] := hl
  refine lv_iload_n C0.1 C0.2.1 dX7_isNoMark_0 rfl (lv_at hl 0 rfl) ?_
  refine lv_iconst (v := 0) C0.1 C0.2.1 dX7_isNoMark_1 (by decide) ?_
  refine lv_bipush (v := 40) C0.1 C0.2.1 dX7_isNoMark_2 (by decide) ?_
  refine sr_pSi (As := [.int x_, .int 0, .int 40]) C0 hK hP hZ hZ0 (cc_X7_outside ha x_ (0) (40)) sk_X7_outside (ss_X7_outside) sw_214 rfl rfl hl.1 (Nat.le_of_ble_eq_true rfl) (Nat.le_of_ble_eq_true rfl) (Nat.le_of_ble_eq_true rfl) dX7_isNoMark_4 ⟨Nat.zero_le _, Nat.zero_le _⟩ ?_
  exact hret _ _ _ dX7_isNoMark_7 rfl
set_option maxRecDepth 100000 in
set_option maxHeartbeats 4000000 in
theorem cc_X7_isNoSheet {l : Launch} {D : va_G} {cI cR : ClassId} {a : Nat → Nat} (ha : ∀ i j, i < 36 → j < 36 → a i = a j → i = j) {kp cx sg : sr_M} (x_ : Int32) : sr_P l D (sr_tC cI cR) (sr_ZC a) (sr_WC cI cR a kp cx sg) yX7_isNoSheet cX7_isNoSheet 1 (some .boolean) 1 22 [.int x_] (some (.int (if x_ < 0 ∨ 3 < x_ then 1 else 0))) := by
  refine sr_Pze (by decide +kernel) (Nat.le_of_ble_eq_true rfl) (fun p e s m args below meth c ls Q B hret => ?_)
  obtain ⟨C0, hP, hK, hZ0, hl⟩ := B
  have hZ : sr_Zok (sr_AC a) (sr_ZC a) := sr_ZCok a
  have hS : va_S (sr_AC a) s.heap s.heap [] := va_S.rf
  have hl : lv_has ls 1 [(0, .int x_)] := hl
  refine lv_iload_n C0.1 C0.2.1 dX7_isNoSheet_0 rfl (lv_at hl 0 rfl) ?_
  refine lv_iconst (v := 0) C0.1 C0.2.1 dX7_isNoSheet_1 (by decide) ?_
  refine lv_iconst (v := 3) C0.1 C0.2.1 dX7_isNoSheet_2 (by decide) ?_
  refine sr_pSi (As := [.int x_, .int 0, .int 3]) C0 hK hP hZ hZ0 (cc_X7_outside ha x_ (0) (3)) sk_X7_outside (ss_X7_outside) sw_214 rfl rfl hl.1 (Nat.le_of_ble_eq_true rfl) (Nat.le_of_ble_eq_true rfl) (Nat.le_of_ble_eq_true rfl) dX7_isNoSheet_3 ⟨Nat.zero_le _, Nat.zero_le _⟩ ?_
  exact hret _ _ _ dX7_isNoSheet_6 rfl
set_option maxRecDepth 100000 in
set_option maxHeartbeats 4000000 in
theorem cc_X7_isNoForm {l : Launch} {D : va_G} {cI cR : ClassId} {a : Nat → Nat} (ha : ∀ i j, i < 36 → j < 36 → a i = a j → i = j) {kp cx sg : sr_M} (x_ : Int32) : sr_P l D (sr_tC cI cR) (sr_ZC a) (sr_WC cI cR a kp cx sg) yX7_isNoForm cX7_isNoForm 1 (some .boolean) 1 22 [.int x_] (some (.int (if x_ < 0 ∨ 2 < x_ then 1 else 0))) := by
  refine sr_Pze (by decide +kernel) (Nat.le_of_ble_eq_true rfl) (fun p e s m args below meth c ls Q B hret => ?_)
  obtain ⟨C0, hP, hK, hZ0, hl⟩ := B
  have hZ : sr_Zok (sr_AC a) (sr_ZC a) := sr_ZCok a
  have hS : va_S (sr_AC a) s.heap s.heap [] := va_S.rf
  have hl : lv_has ls 1 [(0, .int x_)] := hl
  refine lv_iload_n C0.1 C0.2.1 dX7_isNoForm_0 rfl (lv_at hl 0 rfl) ?_
  refine lv_iconst (v := 0) C0.1 C0.2.1 dX7_isNoForm_1 (by decide) ?_
  refine lv_iconst (v := 2) C0.1 C0.2.1 dX7_isNoForm_2 (by decide) ?_
  refine sr_pSi (As := [.int x_, .int 0, .int 2]) C0 hK hP hZ hZ0 (cc_X7_outside ha x_ (0) (2)) sk_X7_outside (ss_X7_outside) sw_214 rfl rfl hl.1 (Nat.le_of_ble_eq_true rfl) (Nat.le_of_ble_eq_true rfl) (Nat.le_of_ble_eq_true rfl) dX7_isNoForm_3 ⟨Nat.zero_le _, Nat.zero_le _⟩ ?_
  exact hret _ _ _ dX7_isNoForm_6 rfl
set_option maxRecDepth 100000 in
set_option maxHeartbeats 4000000 in
theorem cc_X7_isNobody {l : Launch} {D : va_G} {cI cR : ClassId} {a : Nat → Nat} (ha : ∀ i j, i < 36 → j < 36 → a i = a j → i = j) {kp cx sg : sr_M} (x_ : Int32) (hI : sr_IC kp cx) : sr_P l D (sr_tC cI cR) (sr_ZC a) (sr_WC cI cR a kp cx sg) yX7_isNobody cX7_isNobody 2 (some .boolean) 1 22 [.ref (a 0), .int x_] (some (.int (if x_ < 0 ∨ nI (sr_cnt kp) - 1 < x_ then 1 else 0))) := by
  refine sr_Pze (by decide +kernel) (Nat.le_of_ble_eq_true rfl) (fun p e s m args below meth c ls Q B hret => ?_)
  obtain ⟨C0, hP, hK, hZ0, hl⟩ := B
  have hZ : sr_Zok (sr_AC a) (sr_ZC a) := sr_ZCok a
  have hS : va_S (sr_AC a) s.heap s.heap [] := va_S.rf
  have hl : lv_has ls 2 [(0, .ref (a 0)), (1, .int x_)] := hl
  refine lv_iload_n C0.1 C0.2.1 dX7_isNobody_0 rfl (lv_at hl 1 rfl) ?_
  refine lv_iconst (v := 0) C0.1 C0.2.1 dX7_isNobody_1 (by decide) ?_
  refine lv_aload_n C0.1 C0.2.1 dX7_isNobody_2 rfl (lv_at hl 0 rfl) ?_
  refine sr_get (v := .ref (a 1)) C0 hK hP sr_inX7 sr_wC0 rfl 0 (by decide) sw_188 rfl dX7_isNobody_3 ?_
  refine sr_get (v := .int (cx 4 1)) C0 hK hP sr_inX4 sr_wC1 rfl 7 (by decide) sw_44 rfl dX7_isNobody_6 ?_
  refine sr_chi (sr_IC_1 hI) ?_
  have := sr_cnt5 kp
  refine lv_iconst (v := 1) C0.1 C0.2.1 dX7_isNobody_9 (by decide) ?_
  refine lv_isub C0.1 C0.2.1 dX7_isNobody_10 ?_
  refine sr_pSi (As := [.int x_, .int 0, .int ((nI (sr_cnt kp)) - 1)]) C0 hK hP hZ hZ0 (cc_X7_outside ha x_ (0) ((nI (sr_cnt kp)) - 1)) sk_X7_outside (ss_X7_outside) sw_214 rfl rfl hl.1 (Nat.le_of_ble_eq_true rfl) (Nat.le_of_ble_eq_true rfl) (Nat.le_of_ble_eq_true rfl) dX7_isNobody_11 ⟨Nat.zero_le _, Nat.zero_le _⟩ ?_
  exact hret _ _ _ dX7_isNobody_14 rfl
set_option maxRecDepth 100000 in
set_option maxHeartbeats 4000000 in
theorem cc_X7_type {l : Launch} {D : va_G} {cI cR : ClassId} {a : Nat → Nat} (ha : ∀ i j, i < 36 → j < 36 → a i = a j → i = j) {kp cx sg : sr_M} (b_ : Int32) (hI : sr_IC kp cx) : sr_G l D (sr_tC cI cR) (sr_ZC a) (sr_AC a) (sr_WC cI cR a kp cx sg) yX7_type cX7_type 2 (some .int) 4 89 [.ref (a 0), .int b_] (S := sr_M) (fun u => sr_IC (sk_type kp b_) u ∧ ∀ k, 6 ≤ k → u k = cx k) (fun u => sr_WC cI cR a (sk_type kp b_) u sg) (fun u => some (.int (sp_type kp b_))) := by
  refine sr_Gie (by decide +kernel) (Nat.le_of_ble_eq_true rfl) (fun p e s m args below meth c ls Q B hret => ?_)
  obtain ⟨C0, hP, hK, hZ0, hl⟩ := B
  have hZ : sr_Zok (sr_AC a) (sr_ZC a) := sr_ZCok a
  have hS : va_S (sr_AC a) s.heap s.heap [] := va_S.rf
  have hl : lv_has ls 2 [(0, .ref (a 0)), (1, .int b_)] := hl
  obtain ⟨H, hH⟩ : ∃ H, H = s.heap := ⟨_, rfl⟩
  have hP : va_P D vwCl (sr_WC cI cR a kp cx sg) H := by rw [hH]; exact hP
  have hS : va_S (sr_AC a) s.heap H [] := by rw [hH]; exact hS
  suffices hG : ∀ locs, va_S (sr_AC a) s.heap H locs → W p l e (sr_rm 4 89) s m args below meth c H locs 0 0 Q (F0 m 0 ls []) from by have h9 := hG [] hS; rw [hH] at h9; exact h9
  clear hS
  intro locs hS
  clear hH
  refine lv_iload_n C0.1 C0.2.1 dX7_type_0 rfl (lv_at hl 1 rfl) ?_
  refine lv_iconst (v := 0) C0.1 C0.2.1 dX7_type_1 (by decide) ?_
  refine lv_sipush (v := 255) C0.1 C0.2.1 dX7_type_2 (by decide) ?_
  refine sr_pSi (As := [.int b_, .int 0, .int 255]) C0 hK hP hZ (sr_Zs hZ hZ0 hS) (cc_X7_outside ha b_ (0) (255)) sk_X7_outside (ss_X7_outside) sw_214 rfl rfl hl.1 (Nat.le_of_ble_eq_true rfl) (Nat.le_of_ble_eq_true rfl) (Nat.le_of_ble_eq_true rfl) dX7_type_5 ⟨Nat.zero_le _, Nat.zero_le _⟩ ?_
  refine sr_ifeq (tgt := 14) C0 dX7_type_8 (by decide) (fun c8 => ?_) (fun c8 => ?_)
  · refine lv_aload_n C0.1 C0.2.1 dX7_type_14 rfl (lv_at hl 0 rfl) ?_
    refine sr_get (v := .ref (a 1)) C0 hK hP sr_inX7 sr_wC0 rfl 0 (by decide) sw_188 rfl dX7_type_15 ?_
    refine lv_iload_n C0.1 C0.2.1 dX7_type_18 rfl (lv_at hl 1 rfl) ?_
    refine sr_gVi (As := [.int b_]) C0 hK hP hZ (sr_Zs hZ hZ0 hS) (cc_X4_append ha b_ hI (sr_by c8)) sk_X4_append sv_X4_append sw_217 (ci := 4) rfl sr_wC1 rfl rfl hl.1 (Nat.le_of_ble_eq_true rfl) (Nat.le_of_ble_eq_true rfl) (Nat.le_of_ble_eq_true rfl) dX7_type_19 ⟨Nat.zero_le _, Nat.zero_le _⟩ hS (fun cx1 H locs hA hP hS => ?_)
    refine sr_ifeq (tgt := 35) C0 dX7_type_22 (by decide) (fun c22 => ?_) (fun c22 => ?_)
    · refine lv_bipush (v := (-4)) C0.1 C0.2.1 dX7_type_35 (by decide) ?_
      exact hret _ _ _ cx1 _ _ _ dX7_type_37 hP hS (by unfold sk_type; rw [if_neg c8]) (by unfold sp_type; rw [if_neg c8, if_neg c22]) ⟨by unfold sk_type; rw [if_neg c8]; exact hA.1, hA.2⟩
    · refine lv_aload_n C0.1 C0.2.1 dX7_type_25 rfl (lv_at hl 0 rfl) ?_
      refine sr_get (v := .ref (a 1)) C0 hK hP sr_inX7 sr_wC0 rfl 0 (by decide) sw_188 rfl dX7_type_26 ?_
      refine sr_get (v := .int ((sr_ty kp b_) 5 0)) C0 hK hP sr_inX4 sr_wC1 rfl 5 (by decide) sw_38 rfl dX7_type_29 ?_
      refine lv_goto (tgt := 37) C0.1 C0.2.1 dX7_type_32 (by decide) ?_
      exact hret _ _ _ cx1 _ _ _ dX7_type_37 hP hS (by unfold sk_type; rw [if_neg c8]) (by unfold sp_type; rw [if_neg c8, if_pos c22]; exact sr_ty_n c22) ⟨by unfold sk_type; rw [if_neg c8]; exact hA.1, hA.2⟩
  · refine lv_bipush (v := (-2)) C0.1 C0.2.1 dX7_type_11 (by decide) ?_
    exact hret _ _ _ cx _ _ _ dX7_type_13 hP hS (by unfold sk_type; rw [if_pos c8]) (by unfold sp_type; rw [if_pos c8]) ⟨by unfold sk_type; rw [if_pos c8]; exact hI, fun _ _ => rfl⟩
set_option maxRecDepth 100000 in
set_option maxHeartbeats 4000000 in
theorem cc_X7_wipe {l : Launch} {D : va_G} {cI cR : ClassId} {a : Nat → Nat} (ha : ∀ i j, i < 36 → j < 36 → a i = a j → i = j) {kp cx sg : sr_M} (hI : sr_IC kp cx) : sr_G l D (sr_tC cI cR) (sr_ZC a) (sr_AC a) (sr_WC cI cR a kp cx sg) yX7_wipe cX7_wipe 1 (some .int) 4 89 [.ref (a 0)] (S := sr_M) (fun u => sr_IC (sr_ln kp 0) u ∧ ∀ k, 6 ≤ k → u k = cx k) (fun u => sr_WC cI cR a (sr_ln kp 0) u sg) (fun u => some (.int (nI (sr_n kp)))) := by
  refine sr_Gie (by decide +kernel) (Nat.le_of_ble_eq_true rfl) (fun p e s m args below meth c ls Q B hret => ?_)
  obtain ⟨C0, hP, hK, hZ0, hl⟩ := B
  have hZ : sr_Zok (sr_AC a) (sr_ZC a) := sr_ZCok a
  have hS : va_S (sr_AC a) s.heap s.heap [] := va_S.rf
  have hl : lv_has ls 1 [(0, .ref (a 0))] := hl
  obtain ⟨H, hH⟩ : ∃ H, H = s.heap := ⟨_, rfl⟩
  have hP : va_P D vwCl (sr_WC cI cR a kp cx sg) H := by rw [hH]; exact hP
  have hS : va_S (sr_AC a) s.heap H [] := by rw [hH]; exact hS
  suffices hG : ∀ locs, va_S (sr_AC a) s.heap H locs → W p l e (sr_rm 4 89) s m args below meth c H locs 0 0 Q (F0 m 0 ls []) from by have h9 := hG [] hS; rw [hH] at h9; exact h9
  clear hS
  intro locs hS
  clear hH
  refine lv_aload_n C0.1 C0.2.1 dX7_wipe_0 rfl (lv_at hl 0 rfl) ?_
  refine sr_get (v := .ref (a 1)) C0 hK hP sr_inX7 sr_wC0 rfl 0 (by decide) sw_188 rfl dX7_wipe_1 ?_
  refine sr_gVi (As := []) C0 hK hP hZ (sr_Zs hZ hZ0 hS) (cc_X4_clear ha hI) sk_X4_clear sv_X4_clear sw_242 (ci := 4) rfl sr_wC1 rfl rfl hl.1 (Nat.le_of_ble_eq_true rfl) (Nat.le_of_ble_eq_true rfl) (Nat.le_of_ble_eq_true rfl) dX7_wipe_4 ⟨Nat.zero_le _, Nat.zero_le _⟩ hS (fun cx1 H locs hA hP hS => ?_)
  exact hret _ _ _ cx1 _ _ _ dX7_wipe_7 hP hS rfl rfl hA
set_option maxRecDepth 100000 in
set_option maxHeartbeats 4000000 in
theorem cc_X7_undo {l : Launch} {D : va_G} {cI cR : ClassId} {a : Nat → Nat} (ha : ∀ i j, i < 36 → j < 36 → a i = a j → i = j) {kp cx sg : sr_M} (hI : sr_IC kp cx) : sr_G l D (sr_tC cI cR) (sr_ZC a) (sr_AC a) (sr_WC cI cR a kp cx sg) yX7_undo cX7_undo 1 (some .int) 4 88 [.ref (a 0)] (S := sr_M) (fun u => sr_IC (sr_ln kp (sr_n kp - 1)) u ∧ ∀ k, 6 ≤ k → u k = cx k) (fun u => sr_WC cI cR a (sr_ln kp (sr_n kp - 1)) u sg) (fun u => some (.int (sp_undo kp))) := by
  refine sr_Gie (by decide +kernel) (Nat.le_of_ble_eq_true rfl) (fun p e s m args below meth c ls Q B hret => ?_)
  obtain ⟨C0, hP, hK, hZ0, hl⟩ := B
  have hZ : sr_Zok (sr_AC a) (sr_ZC a) := sr_ZCok a
  have hS : va_S (sr_AC a) s.heap s.heap [] := va_S.rf
  have hl : lv_has ls 1 [(0, .ref (a 0))] := hl
  obtain ⟨H, hH⟩ : ∃ H, H = s.heap := ⟨_, rfl⟩
  have hP : va_P D vwCl (sr_WC cI cR a kp cx sg) H := by rw [hH]; exact hP
  have hS : va_S (sr_AC a) s.heap H [] := by rw [hH]; exact hS
  suffices hG : ∀ locs, va_S (sr_AC a) s.heap H locs → W p l e (sr_rm 4 88) s m args below meth c H locs 0 0 Q (F0 m 0 ls []) from by have h9 := hG [] hS; rw [hH] at h9; exact h9
  clear hS
  intro locs hS
  clear hH
  refine lv_aload_n C0.1 C0.2.1 dX7_undo_0 rfl (lv_at hl 0 rfl) ?_
  refine sr_get (v := .ref (a 1)) C0 hK hP sr_inX7 sr_wC0 rfl 0 (by decide) sw_188 rfl dX7_undo_1 ?_
  refine sr_gVi (As := []) C0 hK hP hZ (sr_Zs hZ hZ0 hS) (cc_X4_dropLast ha hI) sk_X4_dropLast sv_X4_dropLast sw_250 (ci := 4) rfl sr_wC1 rfl rfl hl.1 (Nat.le_of_ble_eq_true rfl) (Nat.le_of_ble_eq_true rfl) (Nat.le_of_ble_eq_true rfl) dX7_undo_4 ⟨Nat.zero_le _, Nat.zero_le _⟩ hS (fun cx1 H locs hA hP hS => ?_)
  refine sr_ifeq (tgt := 20) C0 dX7_undo_7 (by decide) (fun c7 => ?_) (fun c7 => ?_)
  · refine lv_bipush (v := (-3)) C0.1 C0.2.1 dX7_undo_20 (by decide) ?_
    exact hret _ _ _ cx1 _ _ _ dX7_undo_22 hP hS rfl (by unfold sp_undo; rw [if_neg c7]) hA
  · refine lv_aload_n C0.1 C0.2.1 dX7_undo_10 rfl (lv_at hl 0 rfl) ?_
    refine sr_get (v := .ref (a 1)) C0 hK hP sr_inX7 sr_wC0 rfl 0 (by decide) sw_188 rfl dX7_undo_11 ?_
    refine sr_get (v := .int ((sr_ln kp (sr_n kp - 1)) 5 0)) C0 hK hP sr_inX4 sr_wC1 rfl 5 (by decide) sw_38 rfl dX7_undo_14 ?_
    refine lv_goto (tgt := 22) C0.1 C0.2.1 dX7_undo_17 (by decide) ?_
    exact hret _ _ _ cx1 _ _ _ dX7_undo_22 hP hS rfl (by unfold sp_undo; rw [if_pos c7]; rfl) hA
set_option maxRecDepth 100000 in
set_option maxHeartbeats 4000000 in
theorem cc_X7_fault {l : Launch} {D : va_G} {cI cR : ClassId} {a : Nat → Nat} (ha : ∀ i j, i < 36 → j < 36 → a i = a j → i = j) {kp cx sg : sr_M} (hI : sr_IC kp cx) : sr_P l D (sr_tC cI cR) (sr_ZC a) (sr_WC cI cR a kp cx sg) yX7_fault cX7_fault 1 (some .int) 0 0 [.ref (a 0)] (some (.int (sr_flt kp))) := by
  refine sr_Pie (by decide +kernel) (Nat.le_of_ble_eq_true rfl) (fun p e s m args below meth c ls Q B hret => ?_)
  obtain ⟨C0, hP, hK, hZ0, hl⟩ := B
  have hZ : sr_Zok (sr_AC a) (sr_ZC a) := sr_ZCok a
  have hS : va_S (sr_AC a) s.heap s.heap [] := va_S.rf
  have hl : lv_has ls 1 [(0, .ref (a 0))] := hl
  refine lv_aload_n C0.1 C0.2.1 dX7_fault_0 rfl (lv_at hl 0 rfl) ?_
  refine sr_get (v := .ref (a 1)) C0 hK hP sr_inX7 sr_wC0 rfl 0 (by decide) sw_188 rfl dX7_fault_1 ?_
  refine sr_get (v := .int (cx 4 0)) C0 hK hP sr_inX4 sr_wC1 rfl 6 (by decide) sw_40 rfl dX7_fault_4 ?_
  refine sr_chi (sr_IC_0 hI) ?_
  exact hret _ _ _ dX7_fault_7 rfl
set_option maxRecDepth 100000 in
set_option maxHeartbeats 4000000 in
theorem cc_X7_runner {l : Launch} {D : va_G} {cI cR : ClassId} {a : Nat → Nat} (ha : ∀ i j, i < 36 → j < 36 → a i = a j → i = j) {kp cx sg : sr_M} (r_ : Int32) (w_ : Int32) (hI : sr_IC kp cx) : sr_P l D (sr_tC cI cR) (sr_ZC a) (sr_WC cI cR a kp cx sg) yX7_runner cX7_runner 3 (some .int) 2 43 [.ref (a 0), .int r_, .int w_] (some (.int (sp_runner kp r_ w_))) := by
  refine sr_Pie (by decide +kernel) (Nat.le_of_ble_eq_true rfl) (fun p e s m args below meth c ls Q B hret => ?_)
  obtain ⟨C0, hP, hK, hZ0, hl⟩ := B
  have hZ : sr_Zok (sr_AC a) (sr_ZC a) := sr_ZCok a
  have hS : va_S (sr_AC a) s.heap s.heap [] := va_S.rf
  have hl : lv_has ls 3 [(0, .ref (a 0)), (1, .int r_), (2, .int w_)] := hl
  refine lv_aload_n C0.1 C0.2.1 dX7_runner_0 rfl (lv_at hl 0 rfl) ?_
  refine lv_iload_n C0.1 C0.2.1 dX7_runner_1 rfl (lv_at hl 1 rfl) ?_
  refine sr_pVi (As := [.int r_]) C0 hK hP hZ hZ0 (cc_X7_isNobody ha r_ hI) sk_X7_isNobody sv_X7_isNobody sw_262 (ci := 7) rfl sr_wC0 rfl rfl hl.1 (Nat.le_of_ble_eq_true rfl) (Nat.le_of_ble_eq_true rfl) (Nat.le_of_ble_eq_true rfl) dX7_runner_2 ⟨Nat.zero_le _, Nat.zero_le _⟩ ?_
  refine sr_ifne (tgt := 17) C0 dX7_runner_5 (by decide) (fun c5 => ?_) (fun c5 => ?_)
  · refine lv_bipush (v := (-2)) C0.1 C0.2.1 dX7_runner_17 (by decide) ?_
    exact hret _ _ _ dX7_runner_19 (by unfold sp_runner; rw [if_pos c5])
  · obtain ⟨jr, hjr, rfl⟩ := sr_rgc (sr_cnt5 kp) c5
    have hc5 := sr_cnt5 kp
    refine lv_iload_n C0.1 C0.2.1 dX7_runner_8 rfl (lv_at hl 2 rfl) ?_
    refine lv_iconst (v := 0) C0.1 C0.2.1 dX7_runner_9 (by decide) ?_
    refine lv_iconst (v := 3) C0.1 C0.2.1 dX7_runner_10 (by decide) ?_
    refine sr_pSi (As := [.int w_, .int 0, .int 3]) C0 hK hP hZ hZ0 (cc_X7_outside ha w_ (0) (3)) sk_X7_outside (ss_X7_outside) sw_214 rfl rfl hl.1 (Nat.le_of_ble_eq_true rfl) (Nat.le_of_ble_eq_true rfl) (Nat.le_of_ble_eq_true rfl) dX7_runner_11 ⟨Nat.zero_le _, Nat.zero_le _⟩ ?_
    refine sr_ifeq (tgt := 20) C0 dX7_runner_14 (by decide) (fun c14 => ?_) (fun c14 => ?_)
    · obtain ⟨jw, hjw, rfl⟩ := sr_rg3 c14
      refine lv_aload_n C0.1 C0.2.1 dX7_runner_20 rfl (lv_at hl 0 rfl) ?_
      refine sr_get (v := .ref (a 1)) C0 hK hP sr_inX7 sr_wC0 rfl 0 (by decide) sw_188 rfl dX7_runner_21 ?_
      refine lv_iload_n C0.1 C0.2.1 dX7_runner_24 rfl (lv_at hl 1 rfl) ?_
      refine lv_iload_n C0.1 C0.2.1 dX7_runner_25 rfl (lv_at hl 2 rfl) ?_
      refine sr_pVi (As := [.int (nI jr), .int (nI jw)]) C0 hK hP hZ hZ0 (cc_X4_figure ha jr jw hI (by omega) (by omega)) sk_X4_figure sv_X4_figure sw_266 (ci := 4) rfl sr_wC1 rfl rfl hl.1 (Nat.le_of_ble_eq_true rfl) (Nat.le_of_ble_eq_true rfl) (Nat.le_of_ble_eq_true rfl) dX7_runner_26 ⟨Nat.zero_le _, Nat.zero_le _⟩ ?_
      exact hret _ _ _ dX7_runner_29 (by unfold sp_runner; rw [if_neg c5, if_neg c14, nI_clamp (n := jr) (by omega), nI_clamp (n := jw) (by omega)])
    · refine lv_bipush (v := (-2)) C0.1 C0.2.1 dX7_runner_17 (by decide) ?_
      exact hret _ _ _ dX7_runner_19 (by unfold sp_runner; rw [if_neg c5, if_pos c14])
set_option maxRecDepth 100000 in
set_option maxHeartbeats 4000000 in
theorem cc_X7_runs {l : Launch} {D : va_G} {cI cR : ClassId} {a : Nat → Nat} (ha : ∀ i j, i < 36 → j < 36 → a i = a j → i = j) {kp cx sg : sr_M} (s_ : Int32) (r_ : Int32) : sr_G l D (sr_tC cI cR) (sr_ZC a) (sr_AC a) (sr_WC cI cR a kp cx sg) yX7_runs cX7_runs 3 (some .int) 2 42 [.ref (a 0), .int s_, .int r_] (S := Unit) (fun u => True) (fun u => sr_WC cI cR a (sk_runs kp s_ r_) cx sg) (fun u => some (.int (sp_runs kp s_ r_))) := by
  refine sr_Gie (by decide +kernel) (Nat.le_of_ble_eq_true rfl) (fun p e s m args below meth c ls Q B hret => ?_)
  obtain ⟨C0, hP, hK, hZ0, hl⟩ := B
  have hZ : sr_Zok (sr_AC a) (sr_ZC a) := sr_ZCok a
  have hS : va_S (sr_AC a) s.heap s.heap [] := va_S.rf
  have hl : lv_has ls 3 [(0, .ref (a 0)), (1, .int s_), (2, .int r_)] := hl
  obtain ⟨H, hH⟩ : ∃ H, H = s.heap := ⟨_, rfl⟩
  have hP : va_P D vwCl (sr_WC cI cR a kp cx sg) H := by rw [hH]; exact hP
  have hS : va_S (sr_AC a) s.heap H [] := by rw [hH]; exact hS
  suffices hG : ∀ locs, va_S (sr_AC a) s.heap H locs → W p l e (sr_rm 2 42) s m args below meth c H locs 0 0 Q (F0 m 0 ls []) from by have h9 := hG [] hS; rw [hH] at h9; exact h9
  clear hS
  intro locs hS
  clear hH
  refine lv_iload_n C0.1 C0.2.1 dX7_runs_0 rfl (lv_at hl 1 rfl) ?_
  refine sr_pSi (As := [.int s_]) C0 hK hP hZ (sr_Zs hZ hZ0 hS) (cc_X7_isNoStretch ha s_) sk_X7_isNoStretch (ss_X7_isNoStretch) sw_274 rfl rfl hl.1 (Nat.le_of_ble_eq_true rfl) (Nat.le_of_ble_eq_true rfl) (Nat.le_of_ble_eq_true rfl) dX7_runs_1 ⟨Nat.zero_le _, Nat.zero_le _⟩ ?_
  refine sr_ifne (tgt := 16) C0 dX7_runs_4 (by decide) (fun c4 => ?_) (fun c4 => ?_)
  · refine lv_bipush (v := (-2)) C0.1 C0.2.1 dX7_runs_16 (by decide) ?_
    exact hret _ _ _ () _ _ _ dX7_runs_18 hP hS (by unfold sk_runs; rw [if_pos c4]) (by unfold sp_runs; rw [if_pos c4]) trivial
  · obtain ⟨js, hjs, rfl⟩ := sr_rg3 c4
    refine lv_iload_n C0.1 C0.2.1 dX7_runs_7 rfl (lv_at hl 2 rfl) ?_
    refine lv_iconst (v := 0) C0.1 C0.2.1 dX7_runs_8 (by decide) ?_
    refine lv_iconst (v := 4) C0.1 C0.2.1 dX7_runs_9 (by decide) ?_
    refine sr_pSi (As := [.int r_, .int 0, .int 4]) C0 hK hP hZ (sr_Zs hZ hZ0 hS) (cc_X7_outside ha r_ (0) (4)) sk_X7_outside (ss_X7_outside) sw_214 rfl rfl hl.1 (Nat.le_of_ble_eq_true rfl) (Nat.le_of_ble_eq_true rfl) (Nat.le_of_ble_eq_true rfl) dX7_runs_10 ⟨Nat.zero_le _, Nat.zero_le _⟩ ?_
    refine sr_ifeq (tgt := 19) C0 dX7_runs_13 (by decide) (fun c13 => ?_) (fun c13 => ?_)
    · refine lv_aload_n C0.1 C0.2.1 dX7_runs_19 rfl (lv_at hl 0 rfl) ?_
      refine sr_get (v := .ref (a 3)) C0 hK hP sr_inX7 sr_wC0 rfl 2 (by decide) sw_190 rfl dX7_runs_20 ?_
      refine sr_get (v := .ref (a 15)) C0 hK hP sr_inX3 sr_wC3 rfl 2 (by decide) sw_91 rfl dX7_runs_23 ?_
      refine lv_iload_n C0.1 C0.2.1 dX7_runs_26 rfl (lv_at hl 1 rfl) ?_
      refine lv_iload_n C0.1 C0.2.1 dX7_runs_27 rfl (lv_at hl 2 rfl) ?_
      refine sr_gSi (As := [.ref (a 15), .int (nI js), .int r_]) C0 hK hP hZ (sr_Zs hZ hZ0 hS) (cc_X7_swap ha sr_wC15 js r_ (by omega) (by omega) sr_sC15) sk_X7_swap (ss_X7_swap) sw_277 rfl rfl hl.1 (Nat.le_of_ble_eq_true rfl) (Nat.le_of_ble_eq_true rfl) (Nat.le_of_ble_eq_true rfl) dX7_runs_28 ⟨Nat.zero_le _, Nat.zero_le _⟩ hS (fun u H locs hu hP hS => ?_)
      exact hret _ _ _ () _ _ _ dX7_runs_31 hP hS (by unfold sk_runs; rw [if_neg c4, if_neg c13, nI_clamp (n := js) (by omega)]) (by unfold sp_runs; rw [if_neg c4, if_neg c13, nI_clamp (n := js) (by omega)]) trivial
    · refine lv_bipush (v := (-2)) C0.1 C0.2.1 dX7_runs_16 (by decide) ?_
      exact hret _ _ _ () _ _ _ dX7_runs_18 hP hS (by unfold sk_runs; rw [if_neg c4, if_pos c13]) (by unfold sp_runs; rw [if_neg c4, if_pos c13]) trivial
set_option maxRecDepth 100000 in
set_option maxHeartbeats 4000000 in
theorem cc_X7_mark {l : Launch} {D : va_G} {cI cR : ClassId} {a : Nat → Nat} (ha : ∀ i j, i < 36 → j < 36 → a i = a j → i = j) {kp cx sg : sr_M} (c_ : Int32) (v_ : Int32) : sr_G l D (sr_tC cI cR) (sr_ZC a) (sr_AC a) (sr_WC cI cR a kp cx sg) yX7_mark cX7_mark 3 (some .int) 2 42 [.ref (a 0), .int c_, .int v_] (S := Unit) (fun u => True) (fun u => sr_WC cI cR a (sk_mark kp c_ v_) cx sg) (fun u => some (.int (sp_mark kp c_ v_))) := by
  refine sr_Gie (by decide +kernel) (Nat.le_of_ble_eq_true rfl) (fun p e s m args below meth c ls Q B hret => ?_)
  obtain ⟨C0, hP, hK, hZ0, hl⟩ := B
  have hZ : sr_Zok (sr_AC a) (sr_ZC a) := sr_ZCok a
  have hS : va_S (sr_AC a) s.heap s.heap [] := va_S.rf
  have hl : lv_has ls 3 [(0, .ref (a 0)), (1, .int c_), (2, .int v_)] := hl
  obtain ⟨H, hH⟩ : ∃ H, H = s.heap := ⟨_, rfl⟩
  have hP : va_P D vwCl (sr_WC cI cR a kp cx sg) H := by rw [hH]; exact hP
  have hS : va_S (sr_AC a) s.heap H [] := by rw [hH]; exact hS
  suffices hG : ∀ locs, va_S (sr_AC a) s.heap H locs → W p l e (sr_rm 2 42) s m args below meth c H locs 0 0 Q (F0 m 0 ls []) from by have h9 := hG [] hS; rw [hH] at h9; exact h9
  clear hS
  intro locs hS
  clear hH
  refine lv_iload_n C0.1 C0.2.1 dX7_mark_0 rfl (lv_at hl 1 rfl) ?_
  refine sr_pSi (As := [.int c_]) C0 hK hP hZ (sr_Zs hZ hZ0 hS) (cc_X7_isNoChange ha c_) sk_X7_isNoChange (ss_X7_isNoChange) sw_297 rfl rfl hl.1 (Nat.le_of_ble_eq_true rfl) (Nat.le_of_ble_eq_true rfl) (Nat.le_of_ble_eq_true rfl) dX7_mark_1 ⟨Nat.zero_le _, Nat.zero_le _⟩ ?_
  refine sr_ifne (tgt := 14) C0 dX7_mark_4 (by decide) (fun c4 => ?_) (fun c4 => ?_)
  · refine lv_bipush (v := (-2)) C0.1 C0.2.1 dX7_mark_14 (by decide) ?_
    exact hret _ _ _ () _ _ _ dX7_mark_16 hP hS (by unfold sk_mark; rw [if_pos c4]) (by unfold sp_mark; rw [if_pos c4]) trivial
  · obtain ⟨jc, hjc, rfl⟩ := sr_rg2 c4
    refine lv_iload_n C0.1 C0.2.1 dX7_mark_7 rfl (lv_at hl 2 rfl) ?_
    refine sr_pSi (As := [.int v_]) C0 hK hP hZ (sr_Zs hZ hZ0 hS) (cc_X7_isNoMark ha v_) sk_X7_isNoMark (ss_X7_isNoMark) sw_300 rfl rfl hl.1 (Nat.le_of_ble_eq_true rfl) (Nat.le_of_ble_eq_true rfl) (Nat.le_of_ble_eq_true rfl) dX7_mark_8 ⟨Nat.zero_le _, Nat.zero_le _⟩ ?_
    refine sr_ifeq (tgt := 17) C0 dX7_mark_11 (by decide) (fun c11 => ?_) (fun c11 => ?_)
    · refine lv_aload_n C0.1 C0.2.1 dX7_mark_17 rfl (lv_at hl 0 rfl) ?_
      refine sr_get (v := .ref (a 3)) C0 hK hP sr_inX7 sr_wC0 rfl 2 (by decide) sw_190 rfl dX7_mark_18 ?_
      refine sr_get (v := .ref (a 16)) C0 hK hP sr_inX3 sr_wC3 rfl 3 (by decide) sw_94 rfl dX7_mark_21 ?_
      refine lv_iload_n C0.1 C0.2.1 dX7_mark_24 rfl (lv_at hl 1 rfl) ?_
      refine lv_iload_n C0.1 C0.2.1 dX7_mark_25 rfl (lv_at hl 2 rfl) ?_
      refine sr_gSi (As := [.ref (a 16), .int (nI jc), .int v_]) C0 hK hP hZ (sr_Zs hZ hZ0 hS) (cc_X7_swap ha sr_wC16 jc v_ (by omega) (by omega) sr_sC16) sk_X7_swap (ss_X7_swap) sw_277 rfl rfl hl.1 (Nat.le_of_ble_eq_true rfl) (Nat.le_of_ble_eq_true rfl) (Nat.le_of_ble_eq_true rfl) dX7_mark_26 ⟨Nat.zero_le _, Nat.zero_le _⟩ hS (fun u H locs hu hP hS => ?_)
      exact hret _ _ _ () _ _ _ dX7_mark_29 hP hS (by unfold sk_mark; rw [if_neg c4, if_neg c11, nI_clamp (n := jc) (by omega)]) (by unfold sp_mark; rw [if_neg c4, if_neg c11, nI_clamp (n := jc) (by omega)]) trivial
    · refine lv_bipush (v := (-2)) C0.1 C0.2.1 dX7_mark_14 (by decide) ?_
      exact hret _ _ _ () _ _ _ dX7_mark_16 hP hS (by unfold sk_mark; rw [if_neg c4, if_pos c11]) (by unfold sp_mark; rw [if_neg c4, if_pos c11]) trivial
set_option maxRecDepth 100000 in
set_option maxHeartbeats 4000000 in
theorem cc_X7_slip {l : Launch} {D : va_G} {cI cR : ClassId} {a : Nat → Nat} (ha : ∀ i j, i < 36 → j < 36 → a i = a j → i = j) {kp cx sg : sr_M} (c_ : Int32) (v_ : Int32) : sr_G l D (sr_tC cI cR) (sr_ZC a) (sr_AC a) (sr_WC cI cR a kp cx sg) yX7_slip cX7_slip 3 (some .int) 2 42 [.ref (a 0), .int c_, .int v_] (S := Unit) (fun u => True) (fun u => sr_WC cI cR a (sk_slip kp c_ v_) cx sg) (fun u => some (.int (sp_slip kp c_ v_))) := by
  refine sr_Gie (by decide +kernel) (Nat.le_of_ble_eq_true rfl) (fun p e s m args below meth c ls Q B hret => ?_)
  obtain ⟨C0, hP, hK, hZ0, hl⟩ := B
  have hZ : sr_Zok (sr_AC a) (sr_ZC a) := sr_ZCok a
  have hS : va_S (sr_AC a) s.heap s.heap [] := va_S.rf
  have hl : lv_has ls 3 [(0, .ref (a 0)), (1, .int c_), (2, .int v_)] := hl
  obtain ⟨H, hH⟩ : ∃ H, H = s.heap := ⟨_, rfl⟩
  have hP : va_P D vwCl (sr_WC cI cR a kp cx sg) H := by rw [hH]; exact hP
  have hS : va_S (sr_AC a) s.heap H [] := by rw [hH]; exact hS
  suffices hG : ∀ locs, va_S (sr_AC a) s.heap H locs → W p l e (sr_rm 2 42) s m args below meth c H locs 0 0 Q (F0 m 0 ls []) from by have h9 := hG [] hS; rw [hH] at h9; exact h9
  clear hS
  intro locs hS
  clear hH
  refine lv_iload_n C0.1 C0.2.1 dX7_slip_0 rfl (lv_at hl 1 rfl) ?_
  refine sr_pSi (As := [.int c_]) C0 hK hP hZ (sr_Zs hZ hZ0 hS) (cc_X7_isNoChange ha c_) sk_X7_isNoChange (ss_X7_isNoChange) sw_297 rfl rfl hl.1 (Nat.le_of_ble_eq_true rfl) (Nat.le_of_ble_eq_true rfl) (Nat.le_of_ble_eq_true rfl) dX7_slip_1 ⟨Nat.zero_le _, Nat.zero_le _⟩ ?_
  refine sr_ifne (tgt := 18) C0 dX7_slip_4 (by decide) (fun c4 => ?_) (fun c4 => ?_)
  · refine lv_sipush (v := (-1002)) C0.1 C0.2.1 dX7_slip_18 (by decide) ?_
    exact hret _ _ _ () _ _ _ dX7_slip_21 hP hS (by unfold sk_slip; rw [if_pos c4]) (by unfold sp_slip; rw [if_pos c4]) trivial
  · obtain ⟨jc, hjc, rfl⟩ := sr_rg2 c4
    refine lv_iload_n C0.1 C0.2.1 dX7_slip_7 rfl (lv_at hl 2 rfl) ?_
    refine lv_bipush (v := (-60)) C0.1 C0.2.1 dX7_slip_8 (by decide) ?_
    refine lv_bipush (v := 60) C0.1 C0.2.1 dX7_slip_10 (by decide) ?_
    refine sr_pSi (As := [.int v_, .int (-60), .int 60]) C0 hK hP hZ (sr_Zs hZ hZ0 hS) (cc_X7_outside ha v_ ((-60)) (60)) sk_X7_outside (ss_X7_outside) sw_214 rfl rfl hl.1 (Nat.le_of_ble_eq_true rfl) (Nat.le_of_ble_eq_true rfl) (Nat.le_of_ble_eq_true rfl) dX7_slip_12 ⟨Nat.zero_le _, Nat.zero_le _⟩ ?_
    refine sr_ifeq (tgt := 22) C0 dX7_slip_15 (by decide) (fun c15 => ?_) (fun c15 => ?_)
    · refine lv_aload_n C0.1 C0.2.1 dX7_slip_22 rfl (lv_at hl 0 rfl) ?_
      refine sr_get (v := .ref (a 3)) C0 hK hP sr_inX7 sr_wC0 rfl 2 (by decide) sw_190 rfl dX7_slip_23 ?_
      refine sr_get (v := .ref (a 17)) C0 hK hP sr_inX3 sr_wC3 rfl 4 (by decide) sw_96 rfl dX7_slip_26 ?_
      refine lv_iload_n C0.1 C0.2.1 dX7_slip_29 rfl (lv_at hl 1 rfl) ?_
      refine lv_iload_n C0.1 C0.2.1 dX7_slip_30 rfl (lv_at hl 2 rfl) ?_
      refine sr_gSi (As := [.ref (a 17), .int (nI jc), .int v_]) C0 hK hP hZ (sr_Zs hZ hZ0 hS) (cc_X7_swap ha sr_wC17 jc v_ (by omega) (by omega) sr_sC17) sk_X7_swap (ss_X7_swap) sw_277 rfl rfl hl.1 (Nat.le_of_ble_eq_true rfl) (Nat.le_of_ble_eq_true rfl) (Nat.le_of_ble_eq_true rfl) dX7_slip_31 ⟨Nat.zero_le _, Nat.zero_le _⟩ hS (fun u H locs hu hP hS => ?_)
      exact hret _ _ _ () _ _ _ dX7_slip_34 hP hS (by unfold sk_slip; rw [if_neg c4, if_neg c15, nI_clamp (n := jc) (by omega)]) (by unfold sp_slip; rw [if_neg c4, if_neg c15, nI_clamp (n := jc) (by omega)]) trivial
    · refine lv_sipush (v := (-1002)) C0.1 C0.2.1 dX7_slip_18 (by decide) ?_
      exact hret _ _ _ () _ _ _ dX7_slip_21 hP hS (by unfold sk_slip; rw [if_neg c4, if_pos c15]) (by unfold sp_slip; rw [if_neg c4, if_pos c15]) trivial
set_option maxRecDepth 100000 in
set_option maxHeartbeats 4000000 in
theorem cc_X7_set {l : Launch} {D : va_G} {cI cR : ClassId} {a : Nat → Nat} (ha : ∀ i j, i < 36 → j < 36 → a i = a j → i = j) {kp cx sg : sr_M} (w_ : Int32) (v_ : Int32) (hI : sr_IC kp cx) : sr_G l D (sr_tC cI cR) (sr_ZC a) (sr_AC a) (sr_WC cI cR a kp cx sg) yX7_set cX7_set 3 (some .int) 2 47 [.ref (a 0), .int w_, .int v_] (S := sr_M) (fun u => (∀ k, k ≠ 5 → u k = cx k) ∧ ∀ s, s < 4 → u 5 s = sr_ex (sk_set kp w_ v_) s) (fun u => sr_WC cI cR a (sk_set kp w_ v_) u sg) (fun u => some (.int (sp_set kp w_ v_))) := by
  refine sr_Gie (by decide +kernel) (Nat.le_of_ble_eq_true rfl) (fun p e s m args below meth c ls Q B hret => ?_)
  obtain ⟨C0, hP, hK, hZ0, hl⟩ := B
  have hZ : sr_Zok (sr_AC a) (sr_ZC a) := sr_ZCok a
  have hS : va_S (sr_AC a) s.heap s.heap [] := va_S.rf
  have hl : lv_has ls 3 [(0, .ref (a 0)), (1, .int w_), (2, .int v_)] := hl
  obtain ⟨H, hH⟩ : ∃ H, H = s.heap := ⟨_, rfl⟩
  have hP : va_P D vwCl (sr_WC cI cR a kp cx sg) H := by rw [hH]; exact hP
  have hS : va_S (sr_AC a) s.heap H [] := by rw [hH]; exact hS
  suffices hG : ∀ locs, va_S (sr_AC a) s.heap H locs → W p l e (sr_rm 2 47) s m args below meth c H locs 0 0 Q (F0 m 0 ls []) from by have h9 := hG [] hS; rw [hH] at h9; exact h9
  clear hS
  intro locs hS
  clear hH
  refine lv_iload_n C0.1 C0.2.1 dX7_set_0 rfl (lv_at hl 1 rfl) ?_
  refine lv_iconst (v := 0) C0.1 C0.2.1 dX7_set_1 (by decide) ?_
  refine lv_bipush (v := 6) C0.1 C0.2.1 dX7_set_2 (by decide) ?_
  refine sr_pSi (As := [.int w_, .int 0, .int 6]) C0 hK hP hZ (sr_Zs hZ hZ0 hS) (cc_X7_outside ha w_ (0) (6)) sk_X7_outside (ss_X7_outside) sw_214 rfl rfl hl.1 (Nat.le_of_ble_eq_true rfl) (Nat.le_of_ble_eq_true rfl) (Nat.le_of_ble_eq_true rfl) dX7_set_4 ⟨Nat.zero_le _, Nat.zero_le _⟩ ?_
  refine sr_ifne (tgt := 27) C0 dX7_set_7 (by decide) (fun c7 => ?_) (fun c7 => ?_)
  · refine lv_bipush (v := (-2)) C0.1 C0.2.1 dX7_set_27 (by decide) ?_
    have e1 : sk_set kp w_ v_ = kp := by unfold sk_set; rw [if_pos c7]
    exact hret _ _ _ cx _ _ _ dX7_set_29 hP hS (by rw [e1]) (by unfold sp_set; rw [if_pos c7]) ⟨fun _ _ => rfl, fun s hs => by rw [e1]; exact sr_IC_ex hI hs⟩
  · obtain ⟨jw, hjw, rfl⟩ := sr_rg6 c7
    refine lv_iload_n C0.1 C0.2.1 dX7_set_10 rfl (lv_at hl 2 rfl) ?_
    obtain ⟨tL, tLz, tLt⟩ := sr_ZZL hZ0
    refine sr_gst C0 tLz hS sw_284 dX7_set_11 ?_
    refine lv_iload_n C0.1 C0.2.1 dX7_set_14 rfl (lv_at hl 1 rfl) ?_
    refine sr_tld (k := jw) C0 tLt hS (nI_clamp (by omega)) (vp_in_nI (by omega) (by omega)) dX7_set_15 ?_
    obtain ⟨tM, tMz, tMt⟩ := sr_ZZM hZ0
    refine sr_gst C0 tMz hS sw_286 dX7_set_16 ?_
    refine lv_iload_n C0.1 C0.2.1 dX7_set_19 rfl (lv_at hl 1 rfl) ?_
    refine sr_tld (k := jw) C0 tMt hS (nI_clamp (by omega)) (vp_in_nI (by omega) (by omega)) dX7_set_20 ?_
    refine sr_pSi (As := [.int v_, .int (sr_tL jw), .int (sr_tM_ jw)]) C0 hK hP hZ (sr_Zs hZ hZ0 hS) (cc_X7_outside ha v_ (sr_tL jw) (sr_tM_ jw)) sk_X7_outside (ss_X7_outside) sw_214 rfl rfl hl.1 (Nat.le_of_ble_eq_true rfl) (Nat.le_of_ble_eq_true rfl) (Nat.le_of_ble_eq_true rfl) dX7_set_21 ⟨Nat.zero_le _, Nat.zero_le _⟩ ?_
    refine sr_ifeq (tgt := 30) C0 dX7_set_24 (by decide) (fun c24 => ?_) (fun c24 => ?_)
    · refine lv_aload_n C0.1 C0.2.1 dX7_set_30 rfl (lv_at hl 0 rfl) ?_
      refine sr_get (v := .ref (a 2)) C0 hK hP sr_inX7 sr_wC0 rfl 1 (by decide) sw_189 rfl dX7_set_31 ?_
      refine lv_iload_n C0.1 C0.2.1 dX7_set_34 rfl (lv_at hl 1 rfl) ?_
      refine lv_iload_n C0.1 C0.2.1 dX7_set_35 rfl (lv_at hl 2 rfl) ?_
      refine sr_gVi (As := [.int (nI jw), .int v_]) C0 hK hP hZ (sr_Zs hZ hZ0 hS) (cc_X6_setRule ha jw v_ hI (by omega)) sk_X6_setRule sv_X6_setRule sw_288 (ci := 6) rfl sr_wC2 rfl rfl hl.1 (Nat.le_of_ble_eq_true rfl) (Nat.le_of_ble_eq_true rfl) (Nat.le_of_ble_eq_true rfl) dX7_set_36 ⟨Nat.zero_le _, Nat.zero_le _⟩ hS (fun u H locs hu hP hS => ?_)
      generalize hkp2 : va_up kp 2 (upd (kp 2) jw v_) = kp2 at hu hP
      obtain ⟨cx2, rfl⟩ : ∃ z, z = u := ⟨_, rfl⟩
      exact hret _ _ _ cx2 _ _ _ dX7_set_39 hP hS (by unfold sk_set; rw [if_neg c7, nI_clamp (n := jw) (by omega), if_neg c24]; rw [hkp2]) (by unfold sp_set; rw [if_neg c7, nI_clamp (n := jw) (by omega), if_neg c24]) (by unfold sk_set; rw [if_neg c7, nI_clamp (n := jw) (by omega), if_neg c24]; rw [hkp2]; exact hu)
    · refine lv_bipush (v := (-2)) C0.1 C0.2.1 dX7_set_27 (by decide) ?_
      have e1 : sk_set kp (nI jw) v_ = kp := by unfold sk_set; rw [if_neg c7, nI_clamp (n := jw) (by omega), if_pos c24]
      exact hret _ _ _ cx _ _ _ dX7_set_29 hP hS (by rw [e1]) (by unfold sp_set; rw [if_neg c7, nI_clamp (n := jw) (by omega), if_pos c24]) ⟨fun _ _ => rfl, fun s hs => by rw [e1]; exact sr_IC_ex hI hs⟩
set_option maxRecDepth 100000 in
set_option maxHeartbeats 4000000 in
theorem cc_X7_takes {l : Launch} {D : va_G} {cI cR : ClassId} {a : Nat → Nat} (ha : ∀ i j, i < 36 → j < 36 → a i = a j → i = j) {kp cx sg : sr_M} (r_ : Int32) (s_ : Int32) (y_ : Int32) (hI : sr_IC kp cx) : sr_P l D (sr_tC cI cR) (sr_ZC a) (sr_WC cI cR a kp cx sg) yX7_takes cX7_takes 4 (some .int) 2 43 [.ref (a 0), .int r_, .int s_, .int y_] (some (.int (sp_takes kp r_ s_ y_))) := by
  refine sr_Pie (by decide +kernel) (Nat.le_of_ble_eq_true rfl) (fun p e s m args below meth c ls Q B hret => ?_)
  obtain ⟨C0, hP, hK, hZ0, hl⟩ := B
  have hZ : sr_Zok (sr_AC a) (sr_ZC a) := sr_ZCok a
  have hS : va_S (sr_AC a) s.heap s.heap [] := va_S.rf
  have hl : lv_has ls 4 [(0, .ref (a 0)), (1, .int r_), (2, .int s_), (3, .int y_)] := hl
  refine lv_aload_n C0.1 C0.2.1 dX7_takes_0 rfl (lv_at hl 0 rfl) ?_
  refine lv_iload_n C0.1 C0.2.1 dX7_takes_1 rfl (lv_at hl 1 rfl) ?_
  refine sr_pVi (As := [.int r_]) C0 hK hP hZ hZ0 (cc_X7_isNobody ha r_ hI) sk_X7_isNobody sv_X7_isNobody sw_262 (ci := 7) rfl sr_wC0 rfl rfl hl.1 (Nat.le_of_ble_eq_true rfl) (Nat.le_of_ble_eq_true rfl) (Nat.le_of_ble_eq_true rfl) dX7_takes_2 ⟨Nat.zero_le _, Nat.zero_le _⟩ ?_
  refine sr_ifne (tgt := 25) C0 dX7_takes_5 (by decide) (fun c5 => ?_) (fun c5 => ?_)
  · refine lv_bipush (v := (-2)) C0.1 C0.2.1 dX7_takes_25 (by decide) ?_
    exact hret _ _ _ dX7_takes_27 (by unfold sp_takes; rw [if_pos c5])
  · obtain ⟨jr, hjr, rfl⟩ := sr_rgc (sr_cnt5 kp) c5
    have hc5 := sr_cnt5 kp
    refine lv_iload_n C0.1 C0.2.1 dX7_takes_8 rfl (lv_at hl 2 rfl) ?_
    refine sr_pSi (As := [.int s_]) C0 hK hP hZ hZ0 (cc_X7_isNoStretch ha s_) sk_X7_isNoStretch (ss_X7_isNoStretch) sw_274 rfl rfl hl.1 (Nat.le_of_ble_eq_true rfl) (Nat.le_of_ble_eq_true rfl) (Nat.le_of_ble_eq_true rfl) dX7_takes_9 ⟨Nat.zero_le _, Nat.zero_le _⟩ ?_
    refine sr_ifne (tgt := 25) C0 dX7_takes_12 (by decide) (fun c12 => ?_) (fun c12 => ?_)
    · refine lv_bipush (v := (-2)) C0.1 C0.2.1 dX7_takes_25 (by decide) ?_
      exact hret _ _ _ dX7_takes_27 (by unfold sp_takes; rw [if_neg c5, if_pos c12])
    · obtain ⟨js, hjs, rfl⟩ := sr_rg3 c12
      refine lv_iload_n C0.1 C0.2.1 dX7_takes_15 rfl (lv_at hl 3 rfl) ?_
      refine lv_iconst (v := 0) C0.1 C0.2.1 dX7_takes_16 (by decide) ?_
      refine lv_bipush (v := 100) C0.1 C0.2.1 dX7_takes_17 (by decide) ?_
      refine sr_pSi (As := [.int y_, .int 0, .int 100]) C0 hK hP hZ hZ0 (cc_X7_outside ha y_ (0) (100)) sk_X7_outside (ss_X7_outside) sw_214 rfl rfl hl.1 (Nat.le_of_ble_eq_true rfl) (Nat.le_of_ble_eq_true rfl) (Nat.le_of_ble_eq_true rfl) dX7_takes_19 ⟨Nat.zero_le _, Nat.zero_le _⟩ ?_
      refine sr_ifeq (tgt := 28) C0 dX7_takes_22 (by decide) (fun c22 => ?_) (fun c22 => ?_)
      · refine lv_aload_n C0.1 C0.2.1 dX7_takes_28 rfl (lv_at hl 0 rfl) ?_
        refine sr_get (v := .ref (a 2)) C0 hK hP sr_inX7 sr_wC0 rfl 1 (by decide) sw_189 rfl dX7_takes_29 ?_
        refine lv_iload_n C0.1 C0.2.1 dX7_takes_32 rfl (lv_at hl 1 rfl) ?_
        refine lv_iload_n C0.1 C0.2.1 dX7_takes_33 rfl (lv_at hl 2 rfl) ?_
        refine lv_iload_n C0.1 C0.2.1 dX7_takes_34 rfl (lv_at hl 3 rfl) ?_
        refine sr_pVi (As := [.int (nI jr), .int (nI js), .int y_]) C0 hK hP hZ hZ0 (cc_X6_span ha jr js y_ hI (by first | omega | exact sr_th_at hT (by omega)) (by omega)) sk_X6_span sv_X6_span sw_329 (ci := 6) rfl sr_wC2 rfl rfl hl.1 (Nat.le_of_ble_eq_true rfl) (Nat.le_of_ble_eq_true rfl) (Nat.le_of_ble_eq_true rfl) dX7_takes_35 ⟨Nat.zero_le _, Nat.zero_le _⟩ ?_
        exact hret _ _ _ dX7_takes_38 (by unfold sp_takes; rw [if_neg c5, if_neg c12, if_neg c22, nI_clamp (n := jr) (by omega), nI_clamp (n := js) (by omega)])
      · refine lv_bipush (v := (-2)) C0.1 C0.2.1 dX7_takes_25 (by decide) ?_
        exact hret _ _ _ dX7_takes_27 (by unfold sp_takes; rw [if_neg c5, if_neg c12, if_pos c22])
set_option maxRecDepth 100000 in
set_option maxHeartbeats 4000000 in
theorem cc_X7_when {l : Launch} {D : va_G} {cI cR : ClassId} {a : Nat → Nat} (ha : ∀ i j, i < 36 → j < 36 → a i = a j → i = j) {kp cx sg : sr_M} (s_ : Int32) (w_ : Int32) (hI : sr_IC kp cx) : sr_P l D (sr_tC cI cR) (sr_ZC a) (sr_WC cI cR a kp cx sg) yX7_when cX7_when 4 (some .int) 3 71 [.ref (a 0), .int s_, .int w_] (some (.int (sp_when kp s_ w_))) := by
  refine sr_Pie (by decide +kernel) (Nat.le_of_ble_eq_true rfl) (fun p e s m args below meth c ls Q B hret => ?_)
  obtain ⟨C0, hP, hK, hZ0, hl⟩ := B
  have hZ : sr_Zok (sr_AC a) (sr_ZC a) := sr_ZCok a
  have hS : va_S (sr_AC a) s.heap s.heap [] := va_S.rf
  have hl : lv_has ls 4 [(0, .ref (a 0)), (1, .int s_), (2, .int w_)] := hl
  refine lv_iload_n C0.1 C0.2.1 dX7_when_0 rfl (lv_at hl 1 rfl) ?_
  refine sr_pSi (As := [.int s_]) C0 hK hP hZ hZ0 (cc_X7_isNoStretch ha s_) sk_X7_isNoStretch (ss_X7_isNoStretch) sw_274 rfl rfl hl.1 (Nat.le_of_ble_eq_true rfl) (Nat.le_of_ble_eq_true rfl) (Nat.le_of_ble_eq_true rfl) dX7_when_1 ⟨Nat.zero_le _, Nat.zero_le _⟩ ?_
  refine sr_ifne (tgt := 16) C0 dX7_when_4 (by decide) (fun c4 => ?_) (fun c4 => ?_)
  · refine lv_bipush (v := (-2)) C0.1 C0.2.1 dX7_when_16 (by decide) ?_
    exact hret _ _ _ dX7_when_18 (by unfold sp_when; rw [if_pos c4])
  · obtain ⟨js, hjs, rfl⟩ := sr_rg3 c4
    refine lv_iload_n C0.1 C0.2.1 dX7_when_7 rfl (lv_at hl 2 rfl) ?_
    refine lv_iconst (v := 0) C0.1 C0.2.1 dX7_when_8 (by decide) ?_
    refine lv_iconst (v := 1) C0.1 C0.2.1 dX7_when_9 (by decide) ?_
    refine sr_pSi (As := [.int w_, .int 0, .int 1]) C0 hK hP hZ hZ0 (cc_X7_outside ha w_ (0) (1)) sk_X7_outside (ss_X7_outside) sw_214 rfl rfl hl.1 (Nat.le_of_ble_eq_true rfl) (Nat.le_of_ble_eq_true rfl) (Nat.le_of_ble_eq_true rfl) dX7_when_10 ⟨Nat.zero_le _, Nat.zero_le _⟩ ?_
    refine sr_ifeq (tgt := 19) C0 dX7_when_13 (by decide) (fun c13 => ?_) (fun c13 => ?_)
    · refine lv_aload_n C0.1 C0.2.1 dX7_when_19 rfl (lv_at hl 0 rfl) ?_
      refine sr_get (v := .ref (a 3)) C0 hK hP sr_inX7 sr_wC0 rfl 2 (by decide) sw_190 rfl dX7_when_20 ?_
      refine sr_pVi (As := []) C0 hK hP hZ hZ0 (cc_X3_lacksSomebody ha hI) sk_X3_lacksSomebody sv_X3_lacksSomebody sw_337 (ci := 3) rfl sr_wC3 rfl rfl hl.1 (Nat.le_of_ble_eq_true rfl) (Nat.le_of_ble_eq_true rfl) (Nat.le_of_ble_eq_true rfl) dX7_when_23 ⟨Nat.zero_le _, Nat.zero_le _⟩ ?_
      refine sr_ifeq (tgt := 32) C0 dX7_when_26 (by decide) (fun c26 => ?_) (fun c26 => ?_)
      · have hT : sr_th kp := Classical.not_not.mp c26
        refine lv_aload_n C0.1 C0.2.1 dX7_when_32 rfl (lv_at hl 0 rfl) ?_
        refine sr_get (v := .ref (a 3)) C0 hK hP sr_inX7 sr_wC0 rfl 2 (by decide) sw_190 rfl dX7_when_33 ?_
        refine lv_iload_n C0.1 C0.2.1 dX7_when_36 rfl (lv_at hl 1 rfl) ?_
        refine sr_pVi (As := [.int (nI js)]) C0 hK hP hZ hZ0 (cc_X3_offAt ha js hI hT (by omega)) sk_X3_offAt sv_X3_offAt sw_341 (ci := 3) rfl sr_wC3 rfl rfl hl.1 (Nat.le_of_ble_eq_true rfl) (Nat.le_of_ble_eq_true rfl) (Nat.le_of_ble_eq_true rfl) dX7_when_37 ⟨Nat.zero_le _, Nat.zero_le _⟩ ?_
        refine lv_istore_n (lv' := [(3, .int (sr_gs kp js)), (0, .ref (a 0)), (1, .int (nI js)), (2, .int w_)]) C0.1 C0.2.1 dX7_when_40 rfl hl (by decide) rfl (fun ls hl => ?_)
        refine lv_iload_n C0.1 C0.2.1 dX7_when_41 rfl (lv_at hl 3 rfl) ?_
        refine lv_if_ne (tgt := 49) C0.1 C0.2.1 dX7_when_42 (by decide) (fun c42 => ?_) (fun c42 => ?_)
        · refine lv_iload_n C0.1 C0.2.1 dX7_when_49 rfl (lv_at hl 0 rfl) ?_
          refine lv_aload_n C0.1 C0.2.1 dX7_when_50 rfl (lv_at hl 1 rfl) ?_
          refine sr_get (v := .ref (a 2)) C0 hK hP sr_inX7 sr_wC0 rfl 1 (by decide) sw_189 rfl dX7_when_51 ?_
          refine lv_aload_n C0.1 C0.2.1 dX7_when_54 rfl (lv_at hl 1 rfl) ?_
          refine sr_get (v := .ref (a 3)) C0 hK hP sr_inX7 sr_wC0 rfl 2 (by decide) sw_190 rfl dX7_when_55 ?_
          refine sr_get (v := .ref (a 15)) C0 hK hP sr_inX3 sr_wC3 rfl 2 (by decide) sw_91 rfl dX7_when_58 ?_
          refine lv_iload_n C0.1 C0.2.1 dX7_when_61 rfl (lv_at hl 2 rfl) ?_
          refine sr_ald (k := js) C0 hK rfl hP sr_wC15 (nI_clamp (by omega)) (vp_in_nI (by omega) (by omega)) dX7_when_62 ?_
          refine sr_chi (sr_IK_ru (sr_IC_K hI) (by omega)) ?_
          have := sr_IK_ru5 (sr_IC_K hI) (s := js) (by omega)
          refine lv_iload_n C0.1 C0.2.1 dX7_when_63 rfl (lv_at hl 2 rfl) ?_
          refine lv_bipush (v := 100) C0.1 C0.2.1 dX7_when_64 (by decide) ?_
          refine sr_pVi (As := [.int (nI (sr_ru kp js)), .int (nI js), .int 100]) C0 hK hP hZ hZ0 (cc_X6_span ha (sr_ru kp js) js (100) hI (by first | omega | exact sr_th_at hT (by omega)) (by omega)) sk_X6_span sv_X6_span sw_329 (ci := 6) rfl sr_wC2 rfl rfl hl.1 (Nat.le_of_ble_eq_true rfl) (Nat.le_of_ble_eq_true rfl) (Nat.le_of_ble_eq_true rfl) dX7_when_66 ⟨Nat.zero_le _, Nat.zero_le _⟩ ?_
          refine lv_iadd C0.1 C0.2.1 dX7_when_69 ?_
          exact hret _ _ _ dX7_when_70 (by unfold sp_when; rw [if_neg c4, if_neg c13, if_neg c26, if_neg c42, nI_clamp (n := js) (by omega)])
        · refine lv_iload_n C0.1 C0.2.1 dX7_when_45 rfl (lv_at hl 0 rfl) ?_
          refine lv_goto (tgt := 70) C0.1 C0.2.1 dX7_when_46 (by decide) ?_
          exact hret _ _ _ dX7_when_70 (by unfold sp_when; rw [if_neg c4, if_neg c13, if_neg c26, if_pos c42, nI_clamp (n := js) (by omega)])
      · refine lv_bipush (v := (-3)) C0.1 C0.2.1 dX7_when_29 (by decide) ?_
        exact hret _ _ _ dX7_when_31 (by unfold sp_when; rw [if_neg c4, if_neg c13, if_pos c26])
    · refine lv_bipush (v := (-2)) C0.1 C0.2.1 dX7_when_16 (by decide) ?_
      exact hret _ _ _ dX7_when_18 (by unfold sp_when; rw [if_neg c4, if_pos c13])
set_option maxRecDepth 100000 in
set_option maxHeartbeats 4000000 in
theorem cc_X7_meet {l : Launch} {D : va_G} {cI cR : ClassId} {a : Nat → Nat} (ha : ∀ i j, i < 36 → j < 36 → a i = a j → i = j) {kp cx sg : sr_M} (c_ : Int32) (hI : sr_IC kp cx) : sr_P l D (sr_tC cI cR) (sr_ZC a) (sr_WC cI cR a kp cx sg) yX7_meet cX7_meet 2 (some .int) 4 99 [.ref (a 0), .int c_] (some (.int (sp_meet kp c_))) := by
  refine sr_Pie (by decide +kernel) (Nat.le_of_ble_eq_true rfl) (fun p e s m args below meth c ls Q B hret => ?_)
  obtain ⟨C0, hP, hK, hZ0, hl⟩ := B
  have hZ : sr_Zok (sr_AC a) (sr_ZC a) := sr_ZCok a
  have hS : va_S (sr_AC a) s.heap s.heap [] := va_S.rf
  have hl : lv_has ls 2 [(0, .ref (a 0)), (1, .int c_)] := hl
  refine lv_iload_n C0.1 C0.2.1 dX7_meet_0 rfl (lv_at hl 1 rfl) ?_
  refine sr_pSi (As := [.int c_]) C0 hK hP hZ hZ0 (cc_X7_isNoChange ha c_) sk_X7_isNoChange (ss_X7_isNoChange) sw_297 rfl rfl hl.1 (Nat.le_of_ble_eq_true rfl) (Nat.le_of_ble_eq_true rfl) (Nat.le_of_ble_eq_true rfl) dX7_meet_1 ⟨Nat.zero_le _, Nat.zero_le _⟩ ?_
  refine sr_ifeq (tgt := 10) C0 dX7_meet_4 (by decide) (fun c4 => ?_) (fun c4 => ?_)
  · obtain ⟨jc, hjc, rfl⟩ := sr_rg2 c4
    refine lv_aload_n C0.1 C0.2.1 dX7_meet_10 rfl (lv_at hl 0 rfl) ?_
    refine sr_get (v := .ref (a 3)) C0 hK hP sr_inX7 sr_wC0 rfl 2 (by decide) sw_190 rfl dX7_meet_11 ?_
    refine sr_pVi (As := []) C0 hK hP hZ hZ0 (cc_X3_lacksSomebody ha hI) sk_X3_lacksSomebody sv_X3_lacksSomebody sw_337 (ci := 3) rfl sr_wC3 rfl rfl hl.1 (Nat.le_of_ble_eq_true rfl) (Nat.le_of_ble_eq_true rfl) (Nat.le_of_ble_eq_true rfl) dX7_meet_14 ⟨Nat.zero_le _, Nat.zero_le _⟩ ?_
    refine sr_ifeq (tgt := 23) C0 dX7_meet_17 (by decide) (fun c17 => ?_) (fun c17 => ?_)
    · have hT : sr_th kp := Classical.not_not.mp c17
      refine lv_aload_n C0.1 C0.2.1 dX7_meet_23 rfl (lv_at hl 0 rfl) ?_
      refine sr_get (v := .ref (a 3)) C0 hK hP sr_inX7 sr_wC0 rfl 2 (by decide) sw_190 rfl dX7_meet_24 ?_
      refine lv_iload_n C0.1 C0.2.1 dX7_meet_27 rfl (lv_at hl 1 rfl) ?_
      refine lv_aload_n C0.1 C0.2.1 dX7_meet_28 rfl (lv_at hl 0 rfl) ?_
      refine sr_get (v := .ref (a 3)) C0 hK hP sr_inX7 sr_wC0 rfl 2 (by decide) sw_190 rfl dX7_meet_29 ?_
      refine sr_get (v := .ref (a 17)) C0 hK hP sr_inX3 sr_wC3 rfl 4 (by decide) sw_96 rfl dX7_meet_32 ?_
      refine lv_iload_n C0.1 C0.2.1 dX7_meet_35 rfl (lv_at hl 1 rfl) ?_
      refine sr_ald (k := jc) C0 hK rfl hP sr_wC17 (nI_clamp (by omega)) (vp_in_nI (by omega) (by omega)) dX7_meet_36 ?_
      refine sr_pVi (As := [.int (nI jc), .int (kp 4 jc)]) C0 hK hP hZ hZ0 (cc_X3_meeting ha jc (kp 4 jc) hI hT (by omega) (by first | assumption | exact sr_IK_sl (sr_IC_K hI) (by omega) | exact sr_bs0 | exact sr_bsp (sr_IC_K hI) (by omega))) sk_X3_meeting sv_X3_meeting sw_357 (ci := 3) rfl sr_wC3 rfl rfl hl.1 (Nat.le_of_ble_eq_true rfl) (Nat.le_of_ble_eq_true rfl) (Nat.le_of_ble_eq_true rfl) dX7_meet_37 ⟨Nat.zero_le _, Nat.zero_le _⟩ ?_
      exact hret _ _ _ dX7_meet_40 (by unfold sp_meet; rw [if_neg c4, if_neg c17, nI_clamp (n := jc) (by omega)]; rfl)
    · refine lv_bipush (v := (-3)) C0.1 C0.2.1 dX7_meet_20 (by decide) ?_
      exact hret _ _ _ dX7_meet_22 (by unfold sp_meet; rw [if_neg c4, if_pos c17])
  · refine lv_bipush (v := (-2)) C0.1 C0.2.1 dX7_meet_7 (by decide) ?_
    exact hret _ _ _ dX7_meet_9 (by unfold sp_meet; rw [if_pos c4])
set_option maxRecDepth 100000 in
set_option maxHeartbeats 4000000 in
theorem cc_X7_kind {l : Launch} {D : va_G} {cI cR : ClassId} {a : Nat → Nat} (ha : ∀ i j, i < 36 → j < 36 → a i = a j → i = j) {kp cx sg : sr_M} (c_ : Int32) (hI : sr_IC kp cx) : sr_P l D (sr_tC cI cR) (sr_ZC a) (sr_WC cI cR a kp cx sg) yX7_kind cX7_kind 2 (some .int) 4 99 [.ref (a 0), .int c_] (some (.int (sp_kind kp c_))) := by
  refine sr_Pie (by decide +kernel) (Nat.le_of_ble_eq_true rfl) (fun p e s m args below meth c ls Q B hret => ?_)
  obtain ⟨C0, hP, hK, hZ0, hl⟩ := B
  have hZ : sr_Zok (sr_AC a) (sr_ZC a) := sr_ZCok a
  have hS : va_S (sr_AC a) s.heap s.heap [] := va_S.rf
  have hl : lv_has ls 2 [(0, .ref (a 0)), (1, .int c_)] := hl
  refine lv_iload_n C0.1 C0.2.1 dX7_kind_0 rfl (lv_at hl 1 rfl) ?_
  refine sr_pSi (As := [.int c_]) C0 hK hP hZ hZ0 (cc_X7_isNoChange ha c_) sk_X7_isNoChange (ss_X7_isNoChange) sw_297 rfl rfl hl.1 (Nat.le_of_ble_eq_true rfl) (Nat.le_of_ble_eq_true rfl) (Nat.le_of_ble_eq_true rfl) dX7_kind_1 ⟨Nat.zero_le _, Nat.zero_le _⟩ ?_
  refine sr_ifeq (tgt := 10) C0 dX7_kind_4 (by decide) (fun c4 => ?_) (fun c4 => ?_)
  · obtain ⟨jc, hjc, rfl⟩ := sr_rg2 c4
    refine lv_aload_n C0.1 C0.2.1 dX7_kind_10 rfl (lv_at hl 0 rfl) ?_
    refine sr_get (v := .ref (a 3)) C0 hK hP sr_inX7 sr_wC0 rfl 2 (by decide) sw_190 rfl dX7_kind_11 ?_
    refine sr_pVi (As := []) C0 hK hP hZ hZ0 (cc_X3_lacksSomebody ha hI) sk_X3_lacksSomebody sv_X3_lacksSomebody sw_337 (ci := 3) rfl sr_wC3 rfl rfl hl.1 (Nat.le_of_ble_eq_true rfl) (Nat.le_of_ble_eq_true rfl) (Nat.le_of_ble_eq_true rfl) dX7_kind_14 ⟨Nat.zero_le _, Nat.zero_le _⟩ ?_
    refine sr_ifeq (tgt := 23) C0 dX7_kind_17 (by decide) (fun c17 => ?_) (fun c17 => ?_)
    · have hT : sr_th kp := Classical.not_not.mp c17
      refine lv_aload_n C0.1 C0.2.1 dX7_kind_23 rfl (lv_at hl 0 rfl) ?_
      refine sr_get (v := .ref (a 2)) C0 hK hP sr_inX7 sr_wC0 rfl 1 (by decide) sw_189 rfl dX7_kind_24 ?_
      refine lv_aload_n C0.1 C0.2.1 dX7_kind_27 rfl (lv_at hl 0 rfl) ?_
      refine sr_get (v := .ref (a 3)) C0 hK hP sr_inX7 sr_wC0 rfl 2 (by decide) sw_190 rfl dX7_kind_28 ?_
      refine lv_iload_n C0.1 C0.2.1 dX7_kind_31 rfl (lv_at hl 1 rfl) ?_
      refine lv_aload_n C0.1 C0.2.1 dX7_kind_32 rfl (lv_at hl 0 rfl) ?_
      refine sr_get (v := .ref (a 3)) C0 hK hP sr_inX7 sr_wC0 rfl 2 (by decide) sw_190 rfl dX7_kind_33 ?_
      refine sr_get (v := .ref (a 17)) C0 hK hP sr_inX3 sr_wC3 rfl 4 (by decide) sw_96 rfl dX7_kind_36 ?_
      refine lv_iload_n C0.1 C0.2.1 dX7_kind_39 rfl (lv_at hl 1 rfl) ?_
      refine sr_ald (k := jc) C0 hK rfl hP sr_wC17 (nI_clamp (by omega)) (vp_in_nI (by omega) (by omega)) dX7_kind_40 ?_
      refine sr_pVi (As := [.int (nI jc), .int (kp 4 jc)]) C0 hK hP hZ hZ0 (cc_X3_meeting ha jc (kp 4 jc) hI hT (by omega) (by first | assumption | exact sr_IK_sl (sr_IC_K hI) (by omega) | exact sr_bs0 | exact sr_bsp (sr_IC_K hI) (by omega))) sk_X3_meeting sv_X3_meeting sw_357 (ci := 3) rfl sr_wC3 rfl rfl hl.1 (Nat.le_of_ble_eq_true rfl) (Nat.le_of_ble_eq_true rfl) (Nat.le_of_ble_eq_true rfl) dX7_kind_41 ⟨Nat.zero_le _, Nat.zero_le _⟩ ?_
      refine sr_pVi (As := [.int (sr_mt kp (sr_ru kp jc) (sr_ru kp (jc + 1)) jc (kp 3 jc) (kp 4 jc))]) C0 hK hP hZ hZ0 (cc_X6_kindOf ha (sr_mt kp (sr_ru kp jc) (sr_ru kp (jc + 1)) jc (kp 3 jc) (kp 4 jc)) hI) sk_X6_kindOf sv_X6_kindOf sw_377 (ci := 6) rfl sr_wC2 rfl rfl hl.1 (Nat.le_of_ble_eq_true rfl) (Nat.le_of_ble_eq_true rfl) (Nat.le_of_ble_eq_true rfl) dX7_kind_44 ⟨Nat.zero_le _, Nat.zero_le _⟩ ?_
      exact hret _ _ _ dX7_kind_47 (by unfold sp_kind; rw [if_neg c4, if_neg c17, nI_clamp (n := jc) (by omega)]; rfl)
    · refine lv_bipush (v := (-3)) C0.1 C0.2.1 dX7_kind_20 (by decide) ?_
      exact hret _ _ _ dX7_kind_22 (by unfold sp_kind; rw [if_neg c4, if_pos c17])
  · refine lv_bipush (v := (-2)) C0.1 C0.2.1 dX7_kind_7 (by decide) ?_
    exact hret _ _ _ dX7_kind_9 (by unfold sp_kind; rw [if_pos c4])
set_option maxRecDepth 100000 in
set_option maxHeartbeats 4000000 in
theorem cc_X7_time {l : Launch} {D : va_G} {cI cR : ClassId} {a : Nat → Nat} (ha : ∀ i j, i < 36 → j < 36 → a i = a j → i = j) {kp cx sg : sr_M} (hI : sr_IC kp cx) : sr_P l D (sr_tC cI cR) (sr_ZC a) (sr_WC cI cR a kp cx sg) yX7_time cX7_time 1 (some .int) 5 127 [.ref (a 0)] (some (.int (sp_time kp))) := by
  refine sr_Pie (by decide +kernel) (Nat.le_of_ble_eq_true rfl) (fun p e s m args below meth c ls Q B hret => ?_)
  obtain ⟨C0, hP, hK, hZ0, hl⟩ := B
  have hZ : sr_Zok (sr_AC a) (sr_ZC a) := sr_ZCok a
  have hS : va_S (sr_AC a) s.heap s.heap [] := va_S.rf
  have hl : lv_has ls 1 [(0, .ref (a 0))] := hl
  refine lv_aload_n C0.1 C0.2.1 dX7_time_0 rfl (lv_at hl 0 rfl) ?_
  refine sr_get (v := .ref (a 3)) C0 hK hP sr_inX7 sr_wC0 rfl 2 (by decide) sw_190 rfl dX7_time_1 ?_
  refine sr_pVi (As := []) C0 hK hP hZ hZ0 (cc_X3_lacksSomebody ha hI) sk_X3_lacksSomebody sv_X3_lacksSomebody sw_337 (ci := 3) rfl sr_wC3 rfl rfl hl.1 (Nat.le_of_ble_eq_true rfl) (Nat.le_of_ble_eq_true rfl) (Nat.le_of_ble_eq_true rfl) dX7_time_4 ⟨Nat.zero_le _, Nat.zero_le _⟩ ?_
  refine sr_ifeq (tgt := 15) C0 dX7_time_7 (by decide) (fun c7 => ?_) (fun c7 => ?_)
  · have hT : sr_th kp := Classical.not_not.mp c7
    refine lv_aload_n C0.1 C0.2.1 dX7_time_15 rfl (lv_at hl 0 rfl) ?_
    refine sr_get (v := .ref (a 3)) C0 hK hP sr_inX7 sr_wC0 rfl 2 (by decide) sw_190 rfl dX7_time_16 ?_
    refine lv_aload_n C0.1 C0.2.1 dX7_time_19 rfl (lv_at hl 0 rfl) ?_
    refine sr_get (v := .ref (a 3)) C0 hK hP sr_inX7 sr_wC0 rfl 2 (by decide) sw_190 rfl dX7_time_20 ?_
    refine sr_get (v := .ref (a 17)) C0 hK hP sr_inX3 sr_wC3 rfl 4 (by decide) sw_96 rfl dX7_time_23 ?_
    refine sr_pVi (As := [.ref (a 17)]) C0 hK hP hZ hZ0 (cc_X3_timeBy ha hI hT sr_wC17 (fun c hc => sr_IK_sl (sr_IC_K hI) hc)) sk_X3_timeBy sv_X3_timeBy sw_385 (ci := 3) rfl sr_wC3 rfl rfl hl.1 (Nat.le_of_ble_eq_true rfl) (Nat.le_of_ble_eq_true rfl) (Nat.le_of_ble_eq_true rfl) dX7_time_26 ⟨Nat.zero_le _, Nat.zero_le _⟩ ?_
    exact hret _ _ _ dX7_time_29 (by unfold sp_time; rw [if_neg c7])
  · refine lv_bipush (v := (-3)) C0.1 C0.2.1 dX7_time_10 (by decide) ?_
    refine lv_goto (tgt := 29) C0.1 C0.2.1 dX7_time_12 (by decide) ?_
    exact hret _ _ _ dX7_time_29 (by unfold sp_time; rw [if_pos c7])
set_option maxRecDepth 100000 in
set_option maxHeartbeats 4000000 in
theorem cc_X7_carries {l : Launch} {D : va_G} {cI cR : ClassId} {a : Nat → Nat} (ha : ∀ i j, i < 36 → j < 36 → a i = a j → i = j) {kp cx sg : sr_M} (s_ : Int32) (hI : sr_IC kp cx) : sr_P l D (sr_tC cI cR) (sr_ZC a) (sr_WC cI cR a kp cx sg) yX7_carries cX7_carries 2 (some .int) 5 122 [.ref (a 0), .int s_] (some (.int (sp_carries kp s_))) := by
  refine sr_Pie (by decide +kernel) (Nat.le_of_ble_eq_true rfl) (fun p e s m args below meth c ls Q B hret => ?_)
  obtain ⟨C0, hP, hK, hZ0, hl⟩ := B
  have hZ : sr_Zok (sr_AC a) (sr_ZC a) := sr_ZCok a
  have hS : va_S (sr_AC a) s.heap s.heap [] := va_S.rf
  have hl : lv_has ls 2 [(0, .ref (a 0)), (1, .int s_)] := hl
  refine lv_iload_n C0.1 C0.2.1 dX7_carries_0 rfl (lv_at hl 1 rfl) ?_
  refine sr_pSi (As := [.int s_]) C0 hK hP hZ hZ0 (cc_X7_isNoStretch ha s_) sk_X7_isNoStretch (ss_X7_isNoStretch) sw_274 rfl rfl hl.1 (Nat.le_of_ble_eq_true rfl) (Nat.le_of_ble_eq_true rfl) (Nat.le_of_ble_eq_true rfl) dX7_carries_1 ⟨Nat.zero_le _, Nat.zero_le _⟩ ?_
  refine sr_ifeq (tgt := 10) C0 dX7_carries_4 (by decide) (fun c4 => ?_) (fun c4 => ?_)
  · obtain ⟨js, hjs, rfl⟩ := sr_rg3 c4
    refine lv_aload_n C0.1 C0.2.1 dX7_carries_10 rfl (lv_at hl 0 rfl) ?_
    refine sr_get (v := .ref (a 3)) C0 hK hP sr_inX7 sr_wC0 rfl 2 (by decide) sw_190 rfl dX7_carries_11 ?_
    refine sr_pVi (As := []) C0 hK hP hZ hZ0 (cc_X3_lacksSomebody ha hI) sk_X3_lacksSomebody sv_X3_lacksSomebody sw_337 (ci := 3) rfl sr_wC3 rfl rfl hl.1 (Nat.le_of_ble_eq_true rfl) (Nat.le_of_ble_eq_true rfl) (Nat.le_of_ble_eq_true rfl) dX7_carries_14 ⟨Nat.zero_le _, Nat.zero_le _⟩ ?_
    refine sr_ifeq (tgt := 25) C0 dX7_carries_17 (by decide) (fun c17 => ?_) (fun c17 => ?_)
    · have hT : sr_th kp := Classical.not_not.mp c17
      refine lv_aload_n C0.1 C0.2.1 dX7_carries_25 rfl (lv_at hl 0 rfl) ?_
      refine sr_get (v := .ref (a 3)) C0 hK hP sr_inX7 sr_wC0 rfl 2 (by decide) sw_190 rfl dX7_carries_26 ?_
      refine lv_iload_n C0.1 C0.2.1 dX7_carries_29 rfl (lv_at hl 1 rfl) ?_
      refine sr_pVi (As := [.int (nI js)]) C0 hK hP hZ hZ0 (cc_X3_carried ha js hI hT (by omega)) sk_X3_carried sv_X3_carried sw_400 (ci := 3) rfl sr_wC3 rfl rfl hl.1 (Nat.le_of_ble_eq_true rfl) (Nat.le_of_ble_eq_true rfl) (Nat.le_of_ble_eq_true rfl) dX7_carries_30 ⟨Nat.zero_le _, Nat.zero_le _⟩ ?_
      exact hret _ _ _ dX7_carries_33 (by unfold sp_carries; rw [if_neg c4, if_neg c17, nI_clamp (n := js) (by omega)])
    · refine lv_bipush (v := (-3)) C0.1 C0.2.1 dX7_carries_20 (by decide) ?_
      refine lv_goto (tgt := 33) C0.1 C0.2.1 dX7_carries_22 (by decide) ?_
      exact hret _ _ _ dX7_carries_33 (by unfold sp_carries; rw [if_neg c4, if_pos c17])
  · refine lv_bipush (v := (-2)) C0.1 C0.2.1 dX7_carries_7 (by decide) ?_
    exact hret _ _ _ dX7_carries_9 (by unfold sp_carries; rw [if_pos c4])
set_option maxRecDepth 100000 in
set_option maxHeartbeats 4000000 in
theorem cc_X7_chance {l : Launch} {D : va_G} {cI cR : ClassId} {a : Nat → Nat} (ha : ∀ i j, i < 36 → j < 36 → a i = a j → i = j) {kp cx sg : sr_M} (c_ : Int32) (hI : sr_IC kp cx) : sr_G l D (sr_tC cI cR) (sr_ZC a) (sr_AC a) (sr_WC cI cR a kp cx sg) yX7_chance cX7_chance 2 (some .int) 5 122 [.ref (a 0), .int c_] (S := sr_M) (fun u => True) (fun u => sr_WC cI cR a kp cx u) (fun u => some (.int (sp_chance kp c_))) := by
  refine sr_Gie (by decide +kernel) (Nat.le_of_ble_eq_true rfl) (fun p e s m args below meth c ls Q B hret => ?_)
  obtain ⟨C0, hP, hK, hZ0, hl⟩ := B
  have hZ : sr_Zok (sr_AC a) (sr_ZC a) := sr_ZCok a
  have hS : va_S (sr_AC a) s.heap s.heap [] := va_S.rf
  have hl : lv_has ls 2 [(0, .ref (a 0)), (1, .int c_)] := hl
  obtain ⟨H, hH⟩ : ∃ H, H = s.heap := ⟨_, rfl⟩
  have hP : va_P D vwCl (sr_WC cI cR a kp cx sg) H := by rw [hH]; exact hP
  have hS : va_S (sr_AC a) s.heap H [] := by rw [hH]; exact hS
  suffices hG : ∀ locs, va_S (sr_AC a) s.heap H locs → W p l e (sr_rm 5 122) s m args below meth c H locs 0 0 Q (F0 m 0 ls []) from by have h9 := hG [] hS; rw [hH] at h9; exact h9
  clear hS
  intro locs hS
  clear hH
  refine lv_iload_n C0.1 C0.2.1 dX7_chance_0 rfl (lv_at hl 1 rfl) ?_
  refine sr_pSi (As := [.int c_]) C0 hK hP hZ (sr_Zs hZ hZ0 hS) (cc_X7_isNoChange ha c_) sk_X7_isNoChange (ss_X7_isNoChange) sw_297 rfl rfl hl.1 (Nat.le_of_ble_eq_true rfl) (Nat.le_of_ble_eq_true rfl) (Nat.le_of_ble_eq_true rfl) dX7_chance_1 ⟨Nat.zero_le _, Nat.zero_le _⟩ ?_
  refine sr_ifeq (tgt := 10) C0 dX7_chance_4 (by decide) (fun c4 => ?_) (fun c4 => ?_)
  · obtain ⟨jc, hjc, rfl⟩ := sr_rg2 c4
    refine lv_aload_n C0.1 C0.2.1 dX7_chance_10 rfl (lv_at hl 0 rfl) ?_
    refine sr_get (v := .ref (a 3)) C0 hK hP sr_inX7 sr_wC0 rfl 2 (by decide) sw_190 rfl dX7_chance_11 ?_
    refine sr_pVi (As := []) C0 hK hP hZ (sr_Zs hZ hZ0 hS) (cc_X3_lacksSomebody ha hI) sk_X3_lacksSomebody sv_X3_lacksSomebody sw_337 (ci := 3) rfl sr_wC3 rfl rfl hl.1 (Nat.le_of_ble_eq_true rfl) (Nat.le_of_ble_eq_true rfl) (Nat.le_of_ble_eq_true rfl) dX7_chance_14 ⟨Nat.zero_le _, Nat.zero_le _⟩ ?_
    refine sr_ifeq (tgt := 25) C0 dX7_chance_17 (by decide) (fun c17 => ?_) (fun c17 => ?_)
    · have hT : sr_th kp := Classical.not_not.mp c17
      refine lv_aload_n C0.1 C0.2.1 dX7_chance_25 rfl (lv_at hl 0 rfl) ?_
      refine sr_get (v := .ref (a 4)) C0 hK hP sr_inX7 sr_wC0 rfl 3 (by decide) sw_191 rfl dX7_chance_26 ?_
      refine lv_iload_n C0.1 C0.2.1 dX7_chance_29 rfl (lv_at hl 1 rfl) ?_
      refine sr_gVi (As := [.int (nI jc)]) C0 hK hP hZ (sr_Zs hZ hZ0 hS) (cc_X1_sixteenths ha jc hI hT (by omega)) sk_X1_sixteenths sv_X1_sixteenths sw_409 (ci := 1) rfl sr_wC4 rfl rfl hl.1 (Nat.le_of_ble_eq_true rfl) (Nat.le_of_ble_eq_true rfl) (Nat.le_of_ble_eq_true rfl) dX7_chance_30 ⟨Nat.zero_le _, Nat.zero_le _⟩ hS (fun sg1 H locs hu hP hS => ?_)
      exact hret _ _ _ sg1 _ _ _ dX7_chance_33 hP hS rfl (by unfold sp_chance; rw [if_neg c4, if_neg c17, nI_clamp (n := jc) (by omega)]; rfl) trivial
    · refine lv_bipush (v := (-3)) C0.1 C0.2.1 dX7_chance_20 (by decide) ?_
      refine lv_goto (tgt := 33) C0.1 C0.2.1 dX7_chance_22 (by decide) ?_
      exact hret _ _ _ sg _ _ _ dX7_chance_33 hP hS rfl (by unfold sp_chance; rw [if_neg c4, if_pos c17]) trivial
  · refine lv_bipush (v := (-2)) C0.1 C0.2.1 dX7_chance_7 (by decide) ?_
    exact hret _ _ _ sg _ _ _ dX7_chance_9 hP hS rfl (by unfold sp_chance; rw [if_pos c4]) trivial
set_option maxRecDepth 100000 in
set_option maxHeartbeats 4000000 in
theorem cc_X7_all {l : Launch} {D : va_G} {cI cR : ClassId} {a : Nat → Nat} (ha : ∀ i j, i < 36 → j < 36 → a i = a j → i = j) {kp cx sg : sr_M} (w_ : Int32) (hI : sr_IC kp cx) : sr_G l D (sr_tC cI cR) (sr_ZC a) (sr_AC a) (sr_WC cI cR a kp cx sg) yX7_all cX7_all 2 (some .long) 5 125 [.ref (a 0), .int w_] (S := sr_M) (fun u => True) (fun u => sr_WC cI cR a kp cx u) (fun u => some (.long (sp_all kp w_))) := by
  refine sr_Gle (by decide +kernel) (Nat.le_of_ble_eq_true rfl) (fun p e s m args below meth c ls Q B hret => ?_)
  obtain ⟨C0, hP, hK, hZ0, hl⟩ := B
  have hZ : sr_Zok (sr_AC a) (sr_ZC a) := sr_ZCok a
  have hS : va_S (sr_AC a) s.heap s.heap [] := va_S.rf
  have hl : lv_has ls 2 [(0, .ref (a 0)), (1, .int w_)] := hl
  obtain ⟨H, hH⟩ : ∃ H, H = s.heap := ⟨_, rfl⟩
  have hP : va_P D vwCl (sr_WC cI cR a kp cx sg) H := by rw [hH]; exact hP
  have hS : va_S (sr_AC a) s.heap H [] := by rw [hH]; exact hS
  suffices hG : ∀ locs, va_S (sr_AC a) s.heap H locs → W p l e (sr_rm 5 125) s m args below meth c H locs 0 0 Q (F0 m 0 ls []) from by have h9 := hG [] hS; rw [hH] at h9; exact h9
  clear hS
  intro locs hS
  clear hH
  refine lv_iload_n C0.1 C0.2.1 dX7_all_0 rfl (lv_at hl 1 rfl) ?_
  refine lv_iconst (v := 0) C0.1 C0.2.1 dX7_all_1 (by decide) ?_
  refine lv_iconst (v := 1) C0.1 C0.2.1 dX7_all_2 (by decide) ?_
  refine sr_pSi (As := [.int w_, .int 0, .int 1]) C0 hK hP hZ (sr_Zs hZ hZ0 hS) (cc_X7_outside ha w_ (0) (1)) sk_X7_outside (ss_X7_outside) sw_214 rfl rfl hl.1 (Nat.le_of_ble_eq_true rfl) (Nat.le_of_ble_eq_true rfl) (Nat.le_of_ble_eq_true rfl) dX7_all_3 ⟨Nat.zero_le _, Nat.zero_le _⟩ ?_
  refine sr_ifeq (tgt := 13) C0 dX7_all_6 (by decide) (fun c6 => ?_) (fun c6 => ?_)
  · refine lv_aload_n C0.1 C0.2.1 dX7_all_13 rfl (lv_at hl 0 rfl) ?_
    refine sr_get (v := .ref (a 3)) C0 hK hP sr_inX7 sr_wC0 rfl 2 (by decide) sw_190 rfl dX7_all_14 ?_
    refine sr_pVi (As := []) C0 hK hP hZ (sr_Zs hZ hZ0 hS) (cc_X3_lacksSomebody ha hI) sk_X3_lacksSomebody sv_X3_lacksSomebody sw_337 (ci := 3) rfl sr_wC3 rfl rfl hl.1 (Nat.le_of_ble_eq_true rfl) (Nat.le_of_ble_eq_true rfl) (Nat.le_of_ble_eq_true rfl) dX7_all_17 ⟨Nat.zero_le _, Nat.zero_le _⟩ ?_
    refine sr_ifeq (tgt := 29) C0 dX7_all_20 (by decide) (fun c20 => ?_) (fun c20 => ?_)
    · have hT : sr_th kp := Classical.not_not.mp c20
      refine lv_aload_n C0.1 C0.2.1 dX7_all_29 rfl (lv_at hl 0 rfl) ?_
      refine sr_get (v := .ref (a 4)) C0 hK hP sr_inX7 sr_wC0 rfl 3 (by decide) sw_191 rfl dX7_all_30 ?_
      refine lv_iload_n C0.1 C0.2.1 dX7_all_33 rfl (lv_at hl 1 rfl) ?_
      refine sr_gVi (As := [.int w_]) C0 hK hP hZ (sr_Zs hZ hZ0 hS) (cc_X1_fractionOfAll ha w_ hI hT) sk_X1_fractionOfAll sv_X1_fractionOfAll sw_438 (ci := 1) rfl sr_wC4 rfl rfl hl.1 (Nat.le_of_ble_eq_true rfl) (Nat.le_of_ble_eq_true rfl) (Nat.le_of_ble_eq_true rfl) dX7_all_34 ⟨Nat.zero_le _, Nat.zero_le _⟩ hS (fun sg1 H locs hu hP hS => ?_)
      refine lv_i2l C0.1 C0.2.1 dX7_all_37 rfl ?_
      exact hret _ _ _ sg1 _ _ _ dX7_all_38 hP hS rfl (by unfold sp_all; rw [if_neg c6, if_neg c20]) trivial
    · refine lv_ldc2 (v := (-9223372036854775805)) C0.1 C0.2.1 C0.2.2.2.1 (C0.2.2.2.2 _ sw_437) dX7_all_23 ?_
      refine lv_goto (tgt := 38) C0.1 C0.2.1 dX7_all_26 (by decide) ?_
      exact hret _ _ _ sg _ _ _ dX7_all_38 hP hS rfl (by unfold sp_all; rw [if_neg c6, if_pos c20]) trivial
  · refine lv_ldc2 (v := (-9223372036854775806)) C0.1 C0.2.1 C0.2.2.2.1 (C0.2.2.2.2 _ sw_436) dX7_all_9 ?_
    exact hret _ _ _ sg _ _ _ dX7_all_12 hP hS rfl (by unfold sp_all; rw [if_pos c6]) trivial
set_option maxRecDepth 100000 in
set_option maxHeartbeats 4000000 in
theorem cc_X7_safe {l : Launch} {D : va_G} {cI cR : ClassId} {a : Nat → Nat} (ha : ∀ i j, i < 36 → j < 36 → a i = a j → i = j) {kp cx sg : sr_M} (c_ : Int32) (k_ : Int32) (hI : sr_IC kp cx) : sr_G l D (sr_tC cI cR) (sr_ZC a) (sr_AC a) (sr_WC cI cR a kp cx sg) yX7_safe cX7_safe 3 (some .int) 5 124 [.ref (a 0), .int c_, .int k_] (S := sr_M) (fun u => True) (fun u => sr_WC cI cR a kp cx u) (fun u => some (.int (sp_safe kp c_ k_))) := by
  refine sr_Gie (by decide +kernel) (Nat.le_of_ble_eq_true rfl) (fun p e s m args below meth c ls Q B hret => ?_)
  obtain ⟨C0, hP, hK, hZ0, hl⟩ := B
  have hZ : sr_Zok (sr_AC a) (sr_ZC a) := sr_ZCok a
  have hS : va_S (sr_AC a) s.heap s.heap [] := va_S.rf
  have hl : lv_has ls 3 [(0, .ref (a 0)), (1, .int c_), (2, .int k_)] := hl
  obtain ⟨H, hH⟩ : ∃ H, H = s.heap := ⟨_, rfl⟩
  have hP : va_P D vwCl (sr_WC cI cR a kp cx sg) H := by rw [hH]; exact hP
  have hS : va_S (sr_AC a) s.heap H [] := by rw [hH]; exact hS
  suffices hG : ∀ locs, va_S (sr_AC a) s.heap H locs → W p l e (sr_rm 5 124) s m args below meth c H locs 0 0 Q (F0 m 0 ls []) from by have h9 := hG [] hS; rw [hH] at h9; exact h9
  clear hS
  intro locs hS
  clear hH
  refine lv_iload_n C0.1 C0.2.1 dX7_safe_0 rfl (lv_at hl 1 rfl) ?_
  refine sr_pSi (As := [.int c_]) C0 hK hP hZ (sr_Zs hZ hZ0 hS) (cc_X7_isNoChange ha c_) sk_X7_isNoChange (ss_X7_isNoChange) sw_297 rfl rfl hl.1 (Nat.le_of_ble_eq_true rfl) (Nat.le_of_ble_eq_true rfl) (Nat.le_of_ble_eq_true rfl) dX7_safe_1 ⟨Nat.zero_le _, Nat.zero_le _⟩ ?_
  refine sr_ifne (tgt := 17) C0 dX7_safe_4 (by decide) (fun c4 => ?_) (fun c4 => ?_)
  · refine lv_bipush (v := (-2)) C0.1 C0.2.1 dX7_safe_17 (by decide) ?_
    exact hret _ _ _ sg _ _ _ dX7_safe_19 hP hS rfl (by unfold sp_safe; rw [if_pos c4]) trivial
  · obtain ⟨jc, hjc, rfl⟩ := sr_rg2 c4
    refine lv_iload_n C0.1 C0.2.1 dX7_safe_7 rfl (lv_at hl 2 rfl) ?_
    refine lv_iconst (v := 0) C0.1 C0.2.1 dX7_safe_8 (by decide) ?_
    refine lv_bipush (v := 16) C0.1 C0.2.1 dX7_safe_9 (by decide) ?_
    refine sr_pSi (As := [.int k_, .int 0, .int 16]) C0 hK hP hZ (sr_Zs hZ hZ0 hS) (cc_X7_outside ha k_ (0) (16)) sk_X7_outside (ss_X7_outside) sw_214 rfl rfl hl.1 (Nat.le_of_ble_eq_true rfl) (Nat.le_of_ble_eq_true rfl) (Nat.le_of_ble_eq_true rfl) dX7_safe_11 ⟨Nat.zero_le _, Nat.zero_le _⟩ ?_
    refine sr_ifeq (tgt := 20) C0 dX7_safe_14 (by decide) (fun c14 => ?_) (fun c14 => ?_)
    · refine lv_aload_n C0.1 C0.2.1 dX7_safe_20 rfl (lv_at hl 0 rfl) ?_
      refine sr_get (v := .ref (a 3)) C0 hK hP sr_inX7 sr_wC0 rfl 2 (by decide) sw_190 rfl dX7_safe_21 ?_
      refine sr_pVi (As := []) C0 hK hP hZ (sr_Zs hZ hZ0 hS) (cc_X3_lacksSomebody ha hI) sk_X3_lacksSomebody sv_X3_lacksSomebody sw_337 (ci := 3) rfl sr_wC3 rfl rfl hl.1 (Nat.le_of_ble_eq_true rfl) (Nat.le_of_ble_eq_true rfl) (Nat.le_of_ble_eq_true rfl) dX7_safe_24 ⟨Nat.zero_le _, Nat.zero_le _⟩ ?_
      refine sr_ifeq (tgt := 35) C0 dX7_safe_27 (by decide) (fun c27 => ?_) (fun c27 => ?_)
      · have hT : sr_th kp := Classical.not_not.mp c27
        refine lv_aload_n C0.1 C0.2.1 dX7_safe_35 rfl (lv_at hl 0 rfl) ?_
        refine sr_get (v := .ref (a 4)) C0 hK hP sr_inX7 sr_wC0 rfl 3 (by decide) sw_191 rfl dX7_safe_36 ?_
        refine lv_iload_n C0.1 C0.2.1 dX7_safe_39 rfl (lv_at hl 1 rfl) ?_
        refine lv_iload_n C0.1 C0.2.1 dX7_safe_40 rfl (lv_at hl 2 rfl) ?_
        refine sr_gVi (As := [.int (nI jc), .int k_]) C0 hK hP hZ (sr_Zs hZ hZ0 hS) (cc_X1_safest ha jc k_ hI hT (by omega)) sk_X1_safest sv_X1_safest sw_446 (ci := 1) rfl sr_wC4 rfl rfl hl.1 (Nat.le_of_ble_eq_true rfl) (Nat.le_of_ble_eq_true rfl) (Nat.le_of_ble_eq_true rfl) dX7_safe_41 ⟨Nat.zero_le _, Nat.zero_le _⟩ hS (fun sg1 H locs hu hP hS => ?_)
        exact hret _ _ _ sg1 _ _ _ dX7_safe_44 hP hS rfl (by unfold sp_safe; rw [if_neg c4, if_neg c14, if_neg c27, nI_clamp (n := jc) (by omega)]) trivial
      · refine lv_bipush (v := (-3)) C0.1 C0.2.1 dX7_safe_30 (by decide) ?_
        refine lv_goto (tgt := 44) C0.1 C0.2.1 dX7_safe_32 (by decide) ?_
        exact hret _ _ _ sg _ _ _ dX7_safe_44 hP hS rfl (by unfold sp_safe; rw [if_neg c4, if_neg c14, if_pos c27]) trivial
    · refine lv_bipush (v := (-2)) C0.1 C0.2.1 dX7_safe_17 (by decide) ?_
      exact hret _ _ _ sg _ _ _ dX7_safe_19 hP hS rfl (by unfold sp_safe; rw [if_neg c4, if_pos c14]) trivial
set_option maxRecDepth 100000 in
set_option maxHeartbeats 4000000 in
theorem cc_X7_best {l : Launch} {D : va_G} {cI cR : ClassId} {a : Nat → Nat} (ha : ∀ i j, i < 36 → j < 36 → a i = a j → i = j) {kp cx sg : sr_M} (c_ : Int32) (hI : sr_IC kp cx) : sr_P l D (sr_tC cI cR) (sr_ZC a) (sr_WC cI cR a kp cx sg) yX7_best cX7_best 2 (some .int) 4 98 [.ref (a 0), .int c_] (some (.int (sp_best kp c_))) := by
  refine sr_Pie (by decide +kernel) (Nat.le_of_ble_eq_true rfl) (fun p e s m args below meth c ls Q B hret => ?_)
  obtain ⟨C0, hP, hK, hZ0, hl⟩ := B
  have hZ : sr_Zok (sr_AC a) (sr_ZC a) := sr_ZCok a
  have hS : va_S (sr_AC a) s.heap s.heap [] := va_S.rf
  have hl : lv_has ls 2 [(0, .ref (a 0)), (1, .int c_)] := hl
  refine lv_iload_n C0.1 C0.2.1 dX7_best_0 rfl (lv_at hl 1 rfl) ?_
  refine sr_pSi (As := [.int c_]) C0 hK hP hZ hZ0 (cc_X7_isNoChange ha c_) sk_X7_isNoChange (ss_X7_isNoChange) sw_297 rfl rfl hl.1 (Nat.le_of_ble_eq_true rfl) (Nat.le_of_ble_eq_true rfl) (Nat.le_of_ble_eq_true rfl) dX7_best_1 ⟨Nat.zero_le _, Nat.zero_le _⟩ ?_
  refine sr_ifeq (tgt := 10) C0 dX7_best_4 (by decide) (fun c4 => ?_) (fun c4 => ?_)
  · obtain ⟨jc, hjc, rfl⟩ := sr_rg2 c4
    refine lv_aload_n C0.1 C0.2.1 dX7_best_10 rfl (lv_at hl 0 rfl) ?_
    refine sr_get (v := .ref (a 3)) C0 hK hP sr_inX7 sr_wC0 rfl 2 (by decide) sw_190 rfl dX7_best_11 ?_
    refine sr_pVi (As := []) C0 hK hP hZ hZ0 (cc_X3_lacksSomebody ha hI) sk_X3_lacksSomebody sv_X3_lacksSomebody sw_337 (ci := 3) rfl sr_wC3 rfl rfl hl.1 (Nat.le_of_ble_eq_true rfl) (Nat.le_of_ble_eq_true rfl) (Nat.le_of_ble_eq_true rfl) dX7_best_14 ⟨Nat.zero_le _, Nat.zero_le _⟩ ?_
    refine sr_ifeq (tgt := 25) C0 dX7_best_17 (by decide) (fun c17 => ?_) (fun c17 => ?_)
    · have hT : sr_th kp := Classical.not_not.mp c17
      refine lv_aload_n C0.1 C0.2.1 dX7_best_25 rfl (lv_at hl 0 rfl) ?_
      refine sr_get (v := .ref (a 3)) C0 hK hP sr_inX7 sr_wC0 rfl 2 (by decide) sw_190 rfl dX7_best_26 ?_
      refine lv_iload_n C0.1 C0.2.1 dX7_best_29 rfl (lv_at hl 1 rfl) ?_
      refine sr_pVi (As := [.int (nI jc)]) C0 hK hP hZ hZ0 (cc_X3_bestMark ha jc hI hT (by omega)) sk_X3_bestMark sv_X3_bestMark sw_454 (ci := 3) rfl sr_wC3 rfl rfl hl.1 (Nat.le_of_ble_eq_true rfl) (Nat.le_of_ble_eq_true rfl) (Nat.le_of_ble_eq_true rfl) dX7_best_30 ⟨Nat.zero_le _, Nat.zero_le _⟩ ?_
      exact hret _ _ _ dX7_best_33 (by unfold sp_best; rw [if_neg c4, if_neg c17, nI_clamp (n := jc) (by omega)])
    · refine lv_bipush (v := (-3)) C0.1 C0.2.1 dX7_best_20 (by decide) ?_
      refine lv_goto (tgt := 33) C0.1 C0.2.1 dX7_best_22 (by decide) ?_
      exact hret _ _ _ dX7_best_33 (by unfold sp_best; rw [if_neg c4, if_pos c17])
  · refine lv_bipush (v := (-2)) C0.1 C0.2.1 dX7_best_7 (by decide) ?_
    exact hret _ _ _ dX7_best_9 (by unfold sp_best; rw [if_pos c4])
set_option maxRecDepth 100000 in
set_option maxHeartbeats 4000000 in
theorem cc_X7_order {l : Launch} {D : va_G} {cI cR : ClassId} {a : Nat → Nat} (ha : ∀ i j, i < 36 → j < 36 → a i = a j → i = j) {kp cx sg : sr_M} (wo_ : Int32) (w_ : Int32) (hI : sr_IC kp cx) : sr_G l D (sr_tC cI cR) (sr_ZC a) (sr_AC a) (sr_WC cI cR a kp cx sg) yX7_order cX7_order 3 (some .int) 6 155 [.ref (a 0), .int wo_, .int w_] (S := sr_M) (fun u => True) (fun u => sr_WC cI cR a kp cx u) (fun u => some (.int (sp_order kp wo_ w_))) := by
  refine sr_Gie (by decide +kernel) (Nat.le_of_ble_eq_true rfl) (fun p e s m args below meth c ls Q B hret => ?_)
  obtain ⟨C0, hP, hK, hZ0, hl⟩ := B
  have hZ : sr_Zok (sr_AC a) (sr_ZC a) := sr_ZCok a
  have hS : va_S (sr_AC a) s.heap s.heap [] := va_S.rf
  have hl : lv_has ls 3 [(0, .ref (a 0)), (1, .int wo_), (2, .int w_)] := hl
  obtain ⟨H, hH⟩ : ∃ H, H = s.heap := ⟨_, rfl⟩
  have hP : va_P D vwCl (sr_WC cI cR a kp cx sg) H := by rw [hH]; exact hP
  have hS : va_S (sr_AC a) s.heap H [] := by rw [hH]; exact hS
  suffices hG : ∀ locs, va_S (sr_AC a) s.heap H locs → W p l e (sr_rm 6 155) s m args below meth c H locs 0 0 Q (F0 m 0 ls []) from by have h9 := hG [] hS; rw [hH] at h9; exact h9
  clear hS
  intro locs hS
  clear hH
  refine lv_iload_n C0.1 C0.2.1 dX7_order_0 rfl (lv_at hl 1 rfl) ?_
  refine lv_iconst (v := (-1)) C0.1 C0.2.1 dX7_order_1 (by decide) ?_
  refine lv_iconst (v := 4) C0.1 C0.2.1 dX7_order_2 (by decide) ?_
  refine sr_pSi (As := [.int wo_, .int (-1), .int 4]) C0 hK hP hZ (sr_Zs hZ hZ0 hS) (cc_X7_outside ha wo_ ((-1)) (4)) sk_X7_outside (ss_X7_outside) sw_214 rfl rfl hl.1 (Nat.le_of_ble_eq_true rfl) (Nat.le_of_ble_eq_true rfl) (Nat.le_of_ble_eq_true rfl) dX7_order_3 ⟨Nat.zero_le _, Nat.zero_le _⟩ ?_
  refine sr_ifne (tgt := 19) C0 dX7_order_6 (by decide) (fun c6 => ?_) (fun c6 => ?_)
  · refine lv_bipush (v := (-2)) C0.1 C0.2.1 dX7_order_19 (by decide) ?_
    exact hret _ _ _ sg _ _ _ dX7_order_21 hP hS rfl (by unfold sp_order; rw [if_pos c6]) trivial
  · refine lv_iload_n C0.1 C0.2.1 dX7_order_9 rfl (lv_at hl 2 rfl) ?_
    refine lv_iconst (v := 0) C0.1 C0.2.1 dX7_order_10 (by decide) ?_
    refine lv_bipush (v := 7) C0.1 C0.2.1 dX7_order_11 (by decide) ?_
    refine sr_pSi (As := [.int w_, .int 0, .int 7]) C0 hK hP hZ (sr_Zs hZ hZ0 hS) (cc_X7_outside ha w_ (0) (7)) sk_X7_outside (ss_X7_outside) sw_214 rfl rfl hl.1 (Nat.le_of_ble_eq_true rfl) (Nat.le_of_ble_eq_true rfl) (Nat.le_of_ble_eq_true rfl) dX7_order_13 ⟨Nat.zero_le _, Nat.zero_le _⟩ ?_
    refine sr_ifeq (tgt := 22) C0 dX7_order_16 (by decide) (fun c16 => ?_) (fun c16 => ?_)
    · obtain ⟨jw, hjw, rfl⟩ := sr_rg7 c16
      refine lv_aload_n C0.1 C0.2.1 dX7_order_22 rfl (lv_at hl 0 rfl) ?_
      refine sr_get (v := .ref (a 5)) C0 hK hP sr_inX7 sr_wC0 rfl 4 (by decide) sw_192 rfl dX7_order_23 ?_
      refine lv_iload_n C0.1 C0.2.1 dX7_order_26 rfl (lv_at hl 1 rfl) ?_
      refine sr_gVv (As := [.int wo_]) C0 hK hP hZ (sr_Zs hZ hZ0 hS) (cc_X2_search ha wo_ hI) sk_X2_search sv_X2_search sw_463 (ci := 2) rfl sr_wC5 rfl rfl hl.1 (Nat.le_of_ble_eq_true rfl) (Nat.le_of_ble_eq_true rfl) (Nat.le_of_ble_eq_true rfl) dX7_order_27 ⟨Nat.zero_le _, Nat.zero_le _⟩ hS (fun sg1 H locs ho hP hS => ?_)
      refine lv_aload_n C0.1 C0.2.1 dX7_order_30 rfl (lv_at hl 0 rfl) ?_
      refine sr_get (v := .ref (a 5)) C0 hK hP sr_inX7 sr_wC0 rfl 4 (by decide) sw_192 rfl dX7_order_31 ?_
      refine sr_get (v := .ref (a 27)) C0 hK hP sr_inX2 sr_wC5 rfl 4 (by decide) sw_137 rfl dX7_order_34 ?_
      refine lv_iload_n C0.1 C0.2.1 dX7_order_37 rfl (lv_at hl 2 rfl) ?_
      refine sr_ald (k := jw) C0 hK rfl hP sr_wC27 (nI_clamp (by omega)) (vp_in_nI (by omega) (by omega)) dX7_order_38 ?_
      exact hret _ _ _ sg1 _ _ _ dX7_order_39 hP hS rfl (by unfold sp_order; rw [if_neg c6, if_neg c16, nI_clamp (n := jw) (by omega), ← sr_so_od hjw, ← ho]) trivial
    · refine lv_bipush (v := (-2)) C0.1 C0.2.1 dX7_order_19 (by decide) ?_
      exact hret _ _ _ sg _ _ _ dX7_order_21 hP hS rfl (by unfold sp_order; rw [if_neg c6, if_pos c16]) trivial
set_option maxRecDepth 100000 in
set_option maxHeartbeats 4000000 in
theorem cc_X7_blame {l : Launch} {D : va_G} {cI cR : ClassId} {a : Nat → Nat} (ha : ∀ i j, i < 36 → j < 36 → a i = a j → i = j) {kp cx sg : sr_M} (c_ : Int32) (x_ : Int32) (hI : sr_IC kp cx) : sr_P l D (sr_tC cI cR) (sr_ZC a) (sr_WC cI cR a kp cx sg) yX7_blame cX7_blame 3 (some .int) 5 123 [.ref (a 0), .int c_, .int x_] (some (.int (sp_blame kp c_ x_))) := by
  refine sr_Pie (by decide +kernel) (Nat.le_of_ble_eq_true rfl) (fun p e s m args below meth c ls Q B hret => ?_)
  obtain ⟨C0, hP, hK, hZ0, hl⟩ := B
  have hZ : sr_Zok (sr_AC a) (sr_ZC a) := sr_ZCok a
  have hS : va_S (sr_AC a) s.heap s.heap [] := va_S.rf
  have hl : lv_has ls 3 [(0, .ref (a 0)), (1, .int c_), (2, .int x_)] := hl
  refine lv_iload_n C0.1 C0.2.1 dX7_blame_0 rfl (lv_at hl 1 rfl) ?_
  refine sr_pSi (As := [.int c_]) C0 hK hP hZ hZ0 (cc_X7_isNoChange ha c_) sk_X7_isNoChange (ss_X7_isNoChange) sw_297 rfl rfl hl.1 (Nat.le_of_ble_eq_true rfl) (Nat.le_of_ble_eq_true rfl) (Nat.le_of_ble_eq_true rfl) dX7_blame_1 ⟨Nat.zero_le _, Nat.zero_le _⟩ ?_
  refine sr_ifne (tgt := 24) C0 dX7_blame_4 (by decide) (fun c4 => ?_) (fun c4 => ?_)
  · refine lv_bipush (v := (-2)) C0.1 C0.2.1 dX7_blame_24 (by decide) ?_
    exact hret _ _ _ dX7_blame_26 (by unfold sp_blame; rw [if_pos c4])
  · obtain ⟨jc, hjc, rfl⟩ := sr_rg2 c4
    refine lv_iload_n C0.1 C0.2.1 dX7_blame_7 rfl (lv_at hl 2 rfl) ?_
    refine lv_iconst (v := 0) C0.1 C0.2.1 dX7_blame_8 (by decide) ?_
    refine lv_aload_n C0.1 C0.2.1 dX7_blame_9 rfl (lv_at hl 0 rfl) ?_
    refine sr_get (v := .ref (a 2)) C0 hK hP sr_inX7 sr_wC0 rfl 1 (by decide) sw_189 rfl dX7_blame_10 ?_
    refine sr_get (v := .ref (a 13)) C0 hK hP sr_inX6 sr_wC2 rfl 1 (by decide) sw_72 rfl dX7_blame_13 ?_
    refine lv_iconst (v := 0) C0.1 C0.2.1 dX7_blame_16 (by decide) ?_
    refine sr_ald (k := 0) C0 hK rfl hP sr_wC13 (by decide) (sr_inc (by decide)) dX7_blame_17 ?_
    refine sr_chi (sr_IK_zo (sr_IC_K hI)) ?_
    have := sr_IK_zo5 (sr_IC_K hI)
    refine sr_pSi (As := [.int x_, .int 0, .int (nI (sr_zo kp))]) C0 hK hP hZ hZ0 (cc_X7_outside ha x_ (0) (nI (sr_zo kp))) sk_X7_outside (ss_X7_outside) sw_214 rfl rfl hl.1 (Nat.le_of_ble_eq_true rfl) (Nat.le_of_ble_eq_true rfl) (Nat.le_of_ble_eq_true rfl) dX7_blame_18 ⟨Nat.zero_le _, Nat.zero_le _⟩ ?_
    refine sr_ifeq (tgt := 27) C0 dX7_blame_21 (by decide) (fun c21 => ?_) (fun c21 => ?_)
    · refine lv_aload_n C0.1 C0.2.1 dX7_blame_27 rfl (lv_at hl 0 rfl) ?_
      refine sr_get (v := .ref (a 3)) C0 hK hP sr_inX7 sr_wC0 rfl 2 (by decide) sw_190 rfl dX7_blame_28 ?_
      refine sr_pVi (As := []) C0 hK hP hZ hZ0 (cc_X3_lacksSomebody ha hI) sk_X3_lacksSomebody sv_X3_lacksSomebody sw_337 (ci := 3) rfl sr_wC3 rfl rfl hl.1 (Nat.le_of_ble_eq_true rfl) (Nat.le_of_ble_eq_true rfl) (Nat.le_of_ble_eq_true rfl) dX7_blame_31 ⟨Nat.zero_le _, Nat.zero_le _⟩ ?_
      refine sr_ifeq (tgt := 42) C0 dX7_blame_34 (by decide) (fun c34 => ?_) (fun c34 => ?_)
      · have hT : sr_th kp := Classical.not_not.mp c34
        refine lv_aload_n C0.1 C0.2.1 dX7_blame_42 rfl (lv_at hl 0 rfl) ?_
        refine sr_get (v := .ref (a 4)) C0 hK hP sr_inX7 sr_wC0 rfl 3 (by decide) sw_191 rfl dX7_blame_43 ?_
        refine lv_iload_n C0.1 C0.2.1 dX7_blame_46 rfl (lv_at hl 1 rfl) ?_
        refine lv_iload_n C0.1 C0.2.1 dX7_blame_47 rfl (lv_at hl 2 rfl) ?_
        refine sr_pVi (As := [.int (nI jc), .int x_]) C0 hK hP hZ hZ0 (cc_X1_guilty ha jc x_ hI hT (by omega)) sk_X1_guilty sv_X1_guilty sw_498 (ci := 1) rfl sr_wC4 rfl rfl hl.1 (Nat.le_of_ble_eq_true rfl) (Nat.le_of_ble_eq_true rfl) (Nat.le_of_ble_eq_true rfl) dX7_blame_48 ⟨Nat.zero_le _, Nat.zero_le _⟩ ?_
        exact hret _ _ _ dX7_blame_51 (by unfold sp_blame; rw [if_neg c4, if_neg c21, if_neg c34, nI_clamp (n := jc) (by omega)])
      · refine lv_bipush (v := (-3)) C0.1 C0.2.1 dX7_blame_37 (by decide) ?_
        refine lv_goto (tgt := 51) C0.1 C0.2.1 dX7_blame_39 (by decide) ?_
        exact hret _ _ _ dX7_blame_51 (by unfold sp_blame; rw [if_neg c4, if_neg c21, if_pos c34])
    · refine lv_bipush (v := (-2)) C0.1 C0.2.1 dX7_blame_24 (by decide) ?_
      exact hret _ _ _ dX7_blame_26 (by unfold sp_blame; rw [if_neg c4, if_pos c21])
set_option maxRecDepth 100000 in
set_option maxHeartbeats 4000000 in
theorem cc_X7_lot {l : Launch} {D : va_G} {cI cR : ClassId} {a : Nat → Nat} (ha : ∀ i j, i < 36 → j < 36 → a i = a j → i = j) {kp cx sg : sr_M} (sd : Int32) (hI : sr_IC kp cx) : sr_G l D (sr_tC cI cR) (sr_ZC a) (sr_AC a) (sr_WC cI cR a kp cx sg) yX7_lot cX7_lot 2 (some .int) 5 127 [.ref (a 0), .int sd] (S := sr_M) (fun u => True) (fun u => sr_WC cI cR a kp cx u) (fun u => some (.int (sp_lot kp sd))) := by
  refine sr_Gie (by decide +kernel) (Nat.le_of_ble_eq_true rfl) (fun p e s m args below meth c ls Q B hret => ?_)
  obtain ⟨C0, hP, hK, hZ0, hl⟩ := B
  have hZ : sr_Zok (sr_AC a) (sr_ZC a) := sr_ZCok a
  have hS : va_S (sr_AC a) s.heap s.heap [] := va_S.rf
  have hl : lv_has ls 2 [(0, .ref (a 0)), (1, .int sd)] := hl
  obtain ⟨H, hH⟩ : ∃ H, H = s.heap := ⟨_, rfl⟩
  have hP : va_P D vwCl (sr_WC cI cR a kp cx sg) H := by rw [hH]; exact hP
  have hS : va_S (sr_AC a) s.heap H [] := by rw [hH]; exact hS
  suffices hG : ∀ locs, va_S (sr_AC a) s.heap H locs → W p l e (sr_rm 5 127) s m args below meth c H locs 0 0 Q (F0 m 0 ls []) from by have h9 := hG [] hS; rw [hH] at h9; exact h9
  clear hS
  intro locs hS
  clear hH
  refine lv_aload_n C0.1 C0.2.1 dX7_lot_0 rfl (lv_at hl 0 rfl) ?_
  refine sr_get (v := .ref (a 3)) C0 hK hP sr_inX7 sr_wC0 rfl 2 (by decide) sw_190 rfl dX7_lot_1 ?_
  refine sr_pVi (As := []) C0 hK hP hZ (sr_Zs hZ hZ0 hS) (cc_X3_lacksSomebody ha hI) sk_X3_lacksSomebody sv_X3_lacksSomebody sw_337 (ci := 3) rfl sr_wC3 rfl rfl hl.1 (Nat.le_of_ble_eq_true rfl) (Nat.le_of_ble_eq_true rfl) (Nat.le_of_ble_eq_true rfl) dX7_lot_4 ⟨Nat.zero_le _, Nat.zero_le _⟩ ?_
  refine sr_ifeq (tgt := 13) C0 dX7_lot_7 (by decide) (fun c7 => ?_) (fun c7 => ?_)
  · have hT : sr_th kp := Classical.not_not.mp c7
    refine lv_aload_n C0.1 C0.2.1 dX7_lot_13 rfl (lv_at hl 0 rfl) ?_
    refine sr_get (v := .ref (a 6)) C0 hK hP sr_inX7 sr_wC0 rfl 5 (by decide) sw_193 rfl dX7_lot_14 ?_
    refine lv_iload_n C0.1 C0.2.1 dX7_lot_17 rfl (lv_at hl 1 rfl) ?_
    refine sr_put C0 hK hP (sr_DC ha _ _ _) hS sr_inX0 tyX0_ok nmX0 sr_wC6 rfl 1 (by decide) sw_158 rfl (by decide +kernel) (Nat.le_of_ble_eq_true rfl) sr_fC6_1 dX7_lot_18 (fun H locs hP hS => ?_)
    generalize hzqs : va_up sg 9 (upd (sg 9) 0 sd) = sgzq at hP
    have ezq9 : sgzq 9 0 = sd := by rw [← hzqs]; rfl
    refine lv_aload_n C0.1 C0.2.1 dX7_lot_21 rfl (lv_at hl 0 rfl) ?_
    refine sr_get (v := .ref (a 6)) C0 hK hP sr_inX7 sr_wC0 rfl 5 (by decide) sw_193 rfl dX7_lot_22 ?_
    refine lv_aload_n C0.1 C0.2.1 dX7_lot_25 rfl (lv_at hl 0 rfl) ?_
    refine sr_get (v := .ref (a 2)) C0 hK hP sr_inX7 sr_wC0 rfl 1 (by decide) sw_189 rfl dX7_lot_26 ?_
    refine sr_get (v := .ref (a 13)) C0 hK hP sr_inX6 sr_wC2 rfl 1 (by decide) sw_72 rfl dX7_lot_29 ?_
    refine lv_bipush (v := 6) C0.1 C0.2.1 dX7_lot_32 (by decide) ?_
    refine sr_ald (k := 6) C0 hK rfl hP sr_wC13 (by decide) (sr_inc (by decide)) dX7_lot_34 ?_
    refine sr_gVv (As := [.int (kp 2 6)]) C0 hK hP hZ (sr_Zs hZ hZ0 hS) (cc_X0_drawSlips ha (kp 2 6)) sk_X0_drawSlips sv_X0_drawSlips sw_507 (ci := 0) rfl sr_wC6 rfl rfl hl.1 (Nat.le_of_ble_eq_true rfl) (Nat.le_of_ble_eq_true rfl) (Nat.le_of_ble_eq_true rfl) dX7_lot_35 ⟨Nat.zero_le _, Nat.zero_le _⟩ hS (fun sg1 H locs hd hP hS => ?_)
    rw [ezq9] at hd
    refine lv_aload_n C0.1 C0.2.1 dX7_lot_38 rfl (lv_at hl 0 rfl) ?_
    refine sr_get (v := .ref (a 3)) C0 hK hP sr_inX7 sr_wC0 rfl 2 (by decide) sw_190 rfl dX7_lot_39 ?_
    refine lv_aload_n C0.1 C0.2.1 dX7_lot_42 rfl (lv_at hl 0 rfl) ?_
    refine sr_get (v := .ref (a 6)) C0 hK hP sr_inX7 sr_wC0 rfl 5 (by decide) sw_193 rfl dX7_lot_43 ?_
    refine sr_get (v := .ref (a 28)) C0 hK hP sr_inX0 sr_wC6 rfl 0 (by decide) sw_156 rfl dX7_lot_46 ?_
    refine sr_pVi (As := [.ref (a 28)]) C0 hK hP hZ (sr_Zs hZ hZ0 hS) (cc_X3_timeBy ha hI hT sr_wC28 (sr_Ds_b (sr_IC_K hI) hd.1)) sk_X3_timeBy sv_X3_timeBy sw_385 (ci := 3) rfl sr_wC3 rfl rfl hl.1 (Nat.le_of_ble_eq_true rfl) (Nat.le_of_ble_eq_true rfl) (Nat.le_of_ble_eq_true rfl) dX7_lot_49 ⟨Nat.zero_le _, Nat.zero_le _⟩ ?_
    exact hret _ _ _ sg1 _ _ _ dX7_lot_52 hP hS rfl (by unfold sp_lot; rw [if_neg c7, ← sr_Ds_ti hd.1]) trivial
  · refine lv_bipush (v := (-3)) C0.1 C0.2.1 dX7_lot_10 (by decide) ?_
    exact hret _ _ _ sg _ _ _ dX7_lot_12 hP hS rfl (by unfold sp_lot; rw [if_pos c7]) trivial
set_option maxRecDepth 100000 in
set_option maxHeartbeats 4000000 in
theorem cc_X7_races {l : Launch} {D : va_G} {cI cR : ClassId} {a : Nat → Nat} (ha : ∀ i j, i < 36 → j < 36 → a i = a j → i = j) {kp cx sg : sr_M} (sd : Int32) (n_ : Int32) (most : Int32) (hI : sr_IC kp cx) : sr_G l D (sr_tC cI cR) (sr_ZC a) (sr_AC a) (sr_WC cI cR a kp cx sg) yX7_races cX7_races 7 (some .int) 5 127 [.ref (a 0), .int sd, .int n_, .int most] (S := sr_M) (fun u => True) (fun u => sr_WC cI cR a kp cx u) (fun u => some (.int (sp_races kp sd n_ most))) := by
  refine sr_Gie (by decide +kernel) (Nat.le_of_ble_eq_true rfl) (fun p e s m args below meth c ls Q B hret => ?_)
  obtain ⟨C0, hP, hK, hZ0, hl⟩ := B
  have hZ : sr_Zok (sr_AC a) (sr_ZC a) := sr_ZCok a
  have hS : va_S (sr_AC a) s.heap s.heap [] := va_S.rf
  have hl : lv_has ls 7 [(0, .ref (a 0)), (1, .int sd), (2, .int n_), (3, .int most)] := hl
  obtain ⟨H, hH⟩ : ∃ H, H = s.heap := ⟨_, rfl⟩
  have hP : va_P D vwCl (sr_WC cI cR a kp cx sg) H := by rw [hH]; exact hP
  have hS : va_S (sr_AC a) s.heap H [] := by rw [hH]; exact hS
  suffices hG : ∀ locs, va_S (sr_AC a) s.heap H locs → W p l e (sr_rm 5 127) s m args below meth c H locs 0 0 Q (F0 m 0 ls []) from by have h9 := hG [] hS; rw [hH] at h9; exact h9
  clear hS
  intro locs hS
  clear hH
  refine lv_iload_n C0.1 C0.2.1 dX7_races_0 rfl (lv_at hl 2 rfl) ?_
  refine lv_iconst (v := 0) C0.1 C0.2.1 dX7_races_1 (by decide) ?_
  refine lv_bipush (v := 60) C0.1 C0.2.1 dX7_races_2 (by decide) ?_
  refine sr_pSi (As := [.int n_, .int 0, .int 60]) C0 hK hP hZ (sr_Zs hZ hZ0 hS) (cc_X7_outside ha n_ (0) (60)) sk_X7_outside (ss_X7_outside) sw_214 rfl rfl hl.1 (Nat.le_of_ble_eq_true rfl) (Nat.le_of_ble_eq_true rfl) (Nat.le_of_ble_eq_true rfl) dX7_races_4 ⟨Nat.zero_le _, Nat.zero_le _⟩ ?_
  refine sr_ifne (tgt := 20) C0 dX7_races_7 (by decide) (fun c7 => ?_) (fun c7 => ?_)
  · refine lv_bipush (v := (-2)) C0.1 C0.2.1 dX7_races_20 (by decide) ?_
    exact hret _ _ _ sg _ _ _ dX7_races_22 hP hS rfl (by unfold sp_races; rw [if_pos c7]) trivial
  · obtain ⟨jn, hjn, rfl⟩ := sr_rg60 c7
    refine lv_iload_n C0.1 C0.2.1 dX7_races_10 rfl (lv_at hl 3 rfl) ?_
    refine lv_iconst (v := 0) C0.1 C0.2.1 dX7_races_11 (by decide) ?_
    refine lv_ldc (v := 99999) C0.1 C0.2.1 C0.2.2.2.1 (C0.2.2.2.2 _ sw_522) dX7_races_12 ?_
    refine sr_pSi (As := [.int most, .int 0, .int 99999]) C0 hK hP hZ (sr_Zs hZ hZ0 hS) (cc_X7_outside ha most (0) (99999)) sk_X7_outside (ss_X7_outside) sw_214 rfl rfl hl.1 (Nat.le_of_ble_eq_true rfl) (Nat.le_of_ble_eq_true rfl) (Nat.le_of_ble_eq_true rfl) dX7_races_14 ⟨Nat.zero_le _, Nat.zero_le _⟩ ?_
    refine sr_ifeq (tgt := 23) C0 dX7_races_17 (by decide) (fun c17 => ?_) (fun c17 => ?_)
    · refine lv_aload_n C0.1 C0.2.1 dX7_races_23 rfl (lv_at hl 0 rfl) ?_
      refine sr_get (v := .ref (a 3)) C0 hK hP sr_inX7 sr_wC0 rfl 2 (by decide) sw_190 rfl dX7_races_24 ?_
      refine sr_pVi (As := []) C0 hK hP hZ (sr_Zs hZ hZ0 hS) (cc_X3_lacksSomebody ha hI) sk_X3_lacksSomebody sv_X3_lacksSomebody sw_337 (ci := 3) rfl sr_wC3 rfl rfl hl.1 (Nat.le_of_ble_eq_true rfl) (Nat.le_of_ble_eq_true rfl) (Nat.le_of_ble_eq_true rfl) dX7_races_27 ⟨Nat.zero_le _, Nat.zero_le _⟩ ?_
      refine sr_ifeq (tgt := 36) C0 dX7_races_30 (by decide) (fun c30 => ?_) (fun c30 => ?_)
      · have hT : sr_th kp := Classical.not_not.mp c30
        refine lv_aload_n C0.1 C0.2.1 dX7_races_36 rfl (lv_at hl 0 rfl) ?_
        refine sr_get (v := .ref (a 6)) C0 hK hP sr_inX7 sr_wC0 rfl 5 (by decide) sw_193 rfl dX7_races_37 ?_
        refine lv_iload_n C0.1 C0.2.1 dX7_races_40 rfl (lv_at hl 1 rfl) ?_
        refine sr_put C0 hK hP (sr_DC ha _ _ _) hS sr_inX0 tyX0_ok nmX0 sr_wC6 rfl 1 (by decide) sw_158 rfl (by decide +kernel) (Nat.le_of_ble_eq_true rfl) sr_fC6_1 dX7_races_41 (fun H locs hP hS => ?_)
        generalize hzqs : va_up sg 9 (upd (sg 9) 0 sd) = sgzq at hP
        have ezq9 : sgzq 9 0 = sd := by rw [← hzqs]; rfl
        refine lv_iconst (v := 0) C0.1 C0.2.1 dX7_races_44 (by decide) ?_
        refine lv_istore (lv' := [(4, .int 0), (0, .ref (a 0)), (1, .int sd), (2, .int (nI jn)), (3, .int most)]) C0.1 C0.2.1 dX7_races_45 hl (by decide) rfl (fun ls hl => ?_)
        refine lv_iconst (v := 0) C0.1 C0.2.1 dX7_races_47 (by decide) ?_
        refine lv_istore (lv' := [(5, .int 0), (4, .int 0), (0, .ref (a 0)), (1, .int sd), (2, .int (nI jn)), (3, .int most)]) C0.1 C0.2.1 dX7_races_48 hl (by decide) rfl (fun ls hl => ?_)
        have lp50 : ∀ (n50 : Nat) (i : Nat) (g : Nat) (x : Int32) (sgi : sr_M) (H : Heap) (locs : List Loc) (ls : Array Slot), (i ≤ jn) → (g ≤ i) → (jn + 1 ≤ i + n50) → (sgi 9 0 = x) → (sr_rc kp most jn sd = g + sr_rc kp most (jn - i) x) → va_P D vwCl (sr_WC cI cR a kp cx sgi) H → va_S (sr_AC a) s.heap H locs → lv_has ls 7 [(5, .int (nI i)), (4, .int (nI g)), (0, .ref (a 0)), (1, .int sd), (2, .int (nI jn)), (3, .int most)] → W p l e (sr_rm 5 127) s m args below meth c H locs 0 0 Q (F0 m 50 ls []) := by
          intro n50
          induction n50 with
          | zero =>
            intro i g x sgi H locs ls h_i h_g h_n h_x h_f hP hS hl
            exact absurd h_n (by omega)
          | succ n50 ih50 =>
            intro i g x sgi H locs ls h_i h_g h_n h_x h_f hP hS hl
            refine lv_iload C0.1 C0.2.1 dX7_races_50 (lv_at hl 0 rfl) ?_
            refine lv_iload_n C0.1 C0.2.1 dX7_races_52 rfl (lv_at hl 4 rfl) ?_
            refine lv_icmp_ge (tgt := 110) C0.1 C0.2.1 dX7_races_53 (by decide) (fun c53 => ?_) (fun c53 => ?_)
            · have g53 : jn ≤ i := (nI_leI (a := jn) (b := i) (by omega) (by omega)).mp c53
              refine lv_iload C0.1 C0.2.1 dX7_races_110 (lv_at hl 1 rfl) ?_
              exact hret _ _ _ sgi _ _ _ dX7_races_112 hP hS rfl (by unfold sp_races; rw [if_neg c7, if_neg c17, if_neg c30, nI_clamp (n := jn) (by omega), h_f, show jn - i = 0 by omega]; rw [show sr_rc kp most 0 x = 0 from rfl, Nat.add_zero]) trivial
            · have g53 : ¬ (jn ≤ i) := fun q => c53 ((nI_leI (a := jn) (b := i) (by omega) (by omega)).mpr q)
              refine lv_aload_n C0.1 C0.2.1 dX7_races_56 rfl (lv_at hl 2 rfl) ?_
              refine sr_get (v := .ref (a 6)) C0 hK hP sr_inX7 sr_wC0 rfl 5 (by decide) sw_193 rfl dX7_races_57 ?_
              refine lv_aload_n C0.1 C0.2.1 dX7_races_60 rfl (lv_at hl 2 rfl) ?_
              refine sr_get (v := .ref (a 2)) C0 hK hP sr_inX7 sr_wC0 rfl 1 (by decide) sw_189 rfl dX7_races_61 ?_
              refine sr_get (v := .ref (a 13)) C0 hK hP sr_inX6 sr_wC2 rfl 1 (by decide) sw_72 rfl dX7_races_64 ?_
              refine lv_bipush (v := 6) C0.1 C0.2.1 dX7_races_67 (by decide) ?_
              refine sr_ald (k := 6) C0 hK rfl hP sr_wC13 (by decide) (sr_inc (by decide)) dX7_races_69 ?_
              refine sr_gVv (As := [.int (kp 2 6)]) C0 hK hP hZ (sr_Zs hZ hZ0 hS) (cc_X0_drawSlips ha (kp 2 6)) sk_X0_drawSlips sv_X0_drawSlips sw_507 (ci := 0) rfl sr_wC6 rfl rfl hl.1 (Nat.le_of_ble_eq_true rfl) (Nat.le_of_ble_eq_true rfl) (Nat.le_of_ble_eq_true rfl) dX7_races_70 ⟨Nat.zero_le _, Nat.zero_le _⟩ hS (fun sg1 H locs hd hP hS => ?_)
              rw [h_x] at hd
              refine lv_aload_n C0.1 C0.2.1 dX7_races_73 rfl (lv_at hl 2 rfl) ?_
              refine sr_get (v := .ref (a 3)) C0 hK hP sr_inX7 sr_wC0 rfl 2 (by decide) sw_190 rfl dX7_races_74 ?_
              refine lv_aload_n C0.1 C0.2.1 dX7_races_77 rfl (lv_at hl 2 rfl) ?_
              refine sr_get (v := .ref (a 6)) C0 hK hP sr_inX7 sr_wC0 rfl 5 (by decide) sw_193 rfl dX7_races_78 ?_
              refine sr_get (v := .ref (a 28)) C0 hK hP sr_inX0 sr_wC6 rfl 0 (by decide) sw_156 rfl dX7_races_81 ?_
              refine sr_pVi (As := [.ref (a 28)]) C0 hK hP hZ (sr_Zs hZ hZ0 hS) (cc_X3_timeBy ha hI hT sr_wC28 (sr_Ds_b (sr_IC_K hI) hd.1)) sk_X3_timeBy sv_X3_timeBy sw_385 (ci := 3) rfl sr_wC3 rfl rfl hl.1 (Nat.le_of_ble_eq_true rfl) (Nat.le_of_ble_eq_true rfl) (Nat.le_of_ble_eq_true rfl) dX7_races_84 ⟨Nat.zero_le _, Nat.zero_le _⟩ ?_
              refine lv_istore (lv' := [(6, .int (sr_ti kp (sg1 8))), (5, .int (nI i)), (4, .int (nI g)), (0, .ref (a 0)), (1, .int sd), (2, .int (nI jn)), (3, .int most)]) C0.1 C0.2.1 dX7_races_87 hl (by decide) rfl (fun ls hl => ?_)
              refine lv_iload C0.1 C0.2.1 dX7_races_89 (lv_at hl 0 rfl) ?_
              refine lv_iconst (v := (-1)) C0.1 C0.2.1 dX7_races_91 (by decide) ?_
              refine lv_icmp_eq (tgt := 104) C0.1 C0.2.1 dX7_races_92 (by decide) (fun c92 => ?_) (fun c92 => ?_)
              · refine lv_iinc (v := (nI (i + 1))) (lv' := [(5, .int (nI (i + 1))), (6, .int (sr_ti kp (sg1 8))), (4, .int (nI g)), (0, .ref (a 0)), (1, .int sd), (2, .int (nI jn)), (3, .int most)]) C0.1 C0.2.1 dX7_races_104 hl (k := 1) rfl (nI_1 i) (by decide) rfl (fun ls hl => ?_)
                refine lv_goto (tgt := 50) C0.1 C0.2.1 dX7_races_107 (by decide) ?_
                exact ih50 (i + 1) g (sr_nx (sr_nx (sr_nx x))) sg1 _ _ _ (by omega) (by omega) (by omega) hd.1.1 (by rw [h_f, show jn - i = (jn - (i + 1)) + 1 by omega]; rw [sr_rc_s, ← sr_Ds_ti hd.1, if_pos c92]; omega) hP hS (lv_sub hl [0, 2, 3, 4, 5, 6] rfl)
              · refine lv_iload C0.1 C0.2.1 dX7_races_95 (lv_at hl 0 rfl) ?_
                refine lv_iload_n C0.1 C0.2.1 dX7_races_97 rfl (lv_at hl 6 rfl) ?_
                refine lv_icmp_gt (tgt := 104) C0.1 C0.2.1 dX7_races_98 (by decide) (fun c98 => ?_) (fun c98 => ?_)
                · refine lv_iinc (v := (nI (i + 1))) (lv' := [(5, .int (nI (i + 1))), (6, .int (sr_ti kp (sg1 8))), (4, .int (nI g)), (0, .ref (a 0)), (1, .int sd), (2, .int (nI jn)), (3, .int most)]) C0.1 C0.2.1 dX7_races_104 hl (k := 1) rfl (nI_1 i) (by decide) rfl (fun ls hl => ?_)
                  refine lv_goto (tgt := 50) C0.1 C0.2.1 dX7_races_107 (by decide) ?_
                  exact ih50 (i + 1) g (sr_nx (sr_nx (sr_nx x))) sg1 _ _ _ (by omega) (by omega) (by omega) hd.1.1 (by rw [h_f, show jn - i = (jn - (i + 1)) + 1 by omega]; rw [sr_rc_s, ← sr_Ds_ti hd.1, if_neg c92, if_pos c98]; omega) hP hS (lv_sub hl [0, 2, 3, 4, 5, 6] rfl)
                · refine lv_iinc (v := (nI (g + 1))) (lv' := [(4, .int (nI (g + 1))), (6, .int (sr_ti kp (sg1 8))), (5, .int (nI i)), (0, .ref (a 0)), (1, .int sd), (2, .int (nI jn)), (3, .int most)]) C0.1 C0.2.1 dX7_races_101 hl (k := 2) rfl (nI_1 g) (by decide) rfl (fun ls hl => ?_)
                  refine lv_iinc (v := (nI (i + 1))) (lv' := [(5, .int (nI (i + 1))), (4, .int (nI (g + 1))), (6, .int (sr_ti kp (sg1 8))), (0, .ref (a 0)), (1, .int sd), (2, .int (nI jn)), (3, .int most)]) C0.1 C0.2.1 dX7_races_104 hl (k := 2) rfl (nI_1 i) (by decide) rfl (fun ls hl => ?_)
                  refine lv_goto (tgt := 50) C0.1 C0.2.1 dX7_races_107 (by decide) ?_
                  exact ih50 (i + 1) (g + 1) (sr_nx (sr_nx (sr_nx x))) sg1 _ _ _ (by omega) (by omega) (by omega) hd.1.1 (by rw [h_f, show jn - i = (jn - (i + 1)) + 1 by omega]; rw [sr_rc_s, ← sr_Ds_ti hd.1, if_neg c92, if_neg c98]; omega) hP hS (lv_sub hl [0, 1, 3, 4, 5, 6] rfl)
        exact lp50 (jn + 1) 0 0 sd sgzq _ _ _ (by omega) (by omega) (by omega) ezq9 (by rw [Nat.sub_zero]; omega) hP hS (lv_sub hl [0, 1, 2, 3, 4, 5] rfl)
      · refine lv_bipush (v := (-3)) C0.1 C0.2.1 dX7_races_33 (by decide) ?_
        exact hret _ _ _ sg _ _ _ dX7_races_35 hP hS rfl (by unfold sp_races; rw [if_neg c7, if_neg c17, if_pos c30]) trivial
    · refine lv_bipush (v := (-2)) C0.1 C0.2.1 dX7_races_20 (by decide) ?_
      exact hret _ _ _ sg _ _ _ dX7_races_22 hP hS rfl (by unfold sp_races; rw [if_neg c7, if_pos c17]) trivial
set_option maxRecDepth 100000 in
set_option maxHeartbeats 4000000 in
theorem cc_X7_count {l : Launch} {D : va_G} {cI cR : ClassId} {a : Nat → Nat} (ha : ∀ i j, i < 36 → j < 36 → a i = a j → i = j) {kp cx sg : sr_M} (w_ : Int32) (hI : sr_IC kp cx) : sr_P l D (sr_tC cI cR) (sr_ZC a) (sr_WC cI cR a kp cx sg) yX7_count cX7_count 2 (some .int) 2 45 [.ref (a 0), .int w_] (some (.int (sp_count kp w_))) := by
  refine sr_Pie (by decide +kernel) (Nat.le_of_ble_eq_true rfl) (fun p e s m args below meth c ls Q B hret => ?_)
  obtain ⟨C0, hP, hK, hZ0, hl⟩ := B
  have hZ : sr_Zok (sr_AC a) (sr_ZC a) := sr_ZCok a
  have hS : va_S (sr_AC a) s.heap s.heap [] := va_S.rf
  have hl : lv_has ls 2 [(0, .ref (a 0)), (1, .int w_)] := hl
  refine lv_iload_n C0.1 C0.2.1 dX7_count_0 rfl (lv_at hl 1 rfl) ?_
  rcases (sr_sw9 w_) with rfl | rfl | rfl | rfl | rfl | rfl | rfl | rfl | rfl | hw9
  · refine lv_tableIn (tgt := 52) (off := 51) C0.1 C0.2.1 dX7_count_1 (by decide) (by decide) (by decide) (by decide) ?_
    refine lv_aload_n C0.1 C0.2.1 dX7_count_52 rfl (lv_at hl 0 rfl) ?_
    refine sr_get (v := .ref (a 1)) C0 hK hP sr_inX7 sr_wC0 rfl 0 (by decide) sw_188 rfl dX7_count_53 ?_
    refine sr_get (v := .int (cx 4 1)) C0 hK hP sr_inX4 sr_wC1 rfl 7 (by decide) sw_44 rfl dX7_count_56 ?_
    refine sr_chi (sr_IC_1 hI) ?_
    have := sr_cnt5 kp
    exact hret _ _ _ dX7_count_59 rfl
  · refine lv_tableIn (tgt := 60) (off := 59) C0.1 C0.2.1 dX7_count_1 (by decide) (by decide) (by decide) (by decide) ?_
    refine lv_aload_n C0.1 C0.2.1 dX7_count_60 rfl (lv_at hl 0 rfl) ?_
    refine sr_get (v := .ref (a 1)) C0 hK hP sr_inX7 sr_wC0 rfl 0 (by decide) sw_188 rfl dX7_count_61 ?_
    refine sr_get (v := .int (kp 5 0)) C0 hK hP sr_inX4 sr_wC1 rfl 5 (by decide) sw_38 rfl dX7_count_64 ?_
    refine sr_chi (sr_IK_n (sr_IC_K hI)) ?_
    have := sr_IK_n40 (sr_IC_K hI)
    exact hret _ _ _ dX7_count_67 rfl
  · refine lv_tableIn (tgt := 68) (off := 67) C0.1 C0.2.1 dX7_count_1 (by decide) (by decide) (by decide) (by decide) ?_
    refine lv_aload_n C0.1 C0.2.1 dX7_count_68 rfl (lv_at hl 0 rfl) ?_
    refine sr_get (v := .ref (a 2)) C0 hK hP sr_inX7 sr_wC0 rfl 1 (by decide) sw_189 rfl dX7_count_69 ?_
    refine sr_get (v := .ref (a 13)) C0 hK hP sr_inX6 sr_wC2 rfl 1 (by decide) sw_72 rfl dX7_count_72 ?_
    refine lv_iconst (v := 0) C0.1 C0.2.1 dX7_count_75 (by decide) ?_
    refine sr_ald (k := 0) C0 hK rfl hP sr_wC13 (by decide) (sr_inc (by decide)) dX7_count_76 ?_
    refine sr_chi (sr_IK_zo (sr_IC_K hI)) ?_
    have := sr_IK_zo5 (sr_IC_K hI)
    exact hret _ _ _ dX7_count_77 rfl
  · refine lv_tableIn (tgt := 78) (off := 77) C0.1 C0.2.1 dX7_count_1 (by decide) (by decide) (by decide) (by decide) ?_
    refine lv_aload_n C0.1 C0.2.1 dX7_count_78 rfl (lv_at hl 0 rfl) ?_
    refine sr_get (v := .ref (a 3)) C0 hK hP sr_inX7 sr_wC0 rfl 2 (by decide) sw_190 rfl dX7_count_79 ?_
    refine sr_get (v := .ref (a 16)) C0 hK hP sr_inX3 sr_wC3 rfl 3 (by decide) sw_94 rfl dX7_count_82 ?_
    refine lv_iload_n C0.1 C0.2.1 dX7_count_85 rfl (lv_at hl 1 rfl) ?_
    refine lv_iconst (v := 3) C0.1 C0.2.1 dX7_count_86 (by decide) ?_
    refine lv_isub C0.1 C0.2.1 dX7_count_87 ?_
    refine sr_chi (by decide : (3 - 3 : Int32) = 0) ?_
    refine sr_ald (k := 0) C0 hK rfl hP sr_wC16 (by decide) (sr_inc (by decide)) dX7_count_88 ?_
    exact hret _ _ _ dX7_count_89 rfl
  · refine lv_tableIn (tgt := 78) (off := 77) C0.1 C0.2.1 dX7_count_1 (by decide) (by decide) (by decide) (by decide) ?_
    refine lv_aload_n C0.1 C0.2.1 dX7_count_78 rfl (lv_at hl 0 rfl) ?_
    refine sr_get (v := .ref (a 3)) C0 hK hP sr_inX7 sr_wC0 rfl 2 (by decide) sw_190 rfl dX7_count_79 ?_
    refine sr_get (v := .ref (a 16)) C0 hK hP sr_inX3 sr_wC3 rfl 3 (by decide) sw_94 rfl dX7_count_82 ?_
    refine lv_iload_n C0.1 C0.2.1 dX7_count_85 rfl (lv_at hl 1 rfl) ?_
    refine lv_iconst (v := 3) C0.1 C0.2.1 dX7_count_86 (by decide) ?_
    refine lv_isub C0.1 C0.2.1 dX7_count_87 ?_
    refine sr_chi (by decide : (4 - 3 : Int32) = 1) ?_
    refine sr_ald (k := 1) C0 hK rfl hP sr_wC16 (by decide) (sr_inc (by decide)) dX7_count_88 ?_
    exact hret _ _ _ dX7_count_89 rfl
  · refine lv_tableIn (tgt := 78) (off := 77) C0.1 C0.2.1 dX7_count_1 (by decide) (by decide) (by decide) (by decide) ?_
    refine lv_aload_n C0.1 C0.2.1 dX7_count_78 rfl (lv_at hl 0 rfl) ?_
    refine sr_get (v := .ref (a 3)) C0 hK hP sr_inX7 sr_wC0 rfl 2 (by decide) sw_190 rfl dX7_count_79 ?_
    refine sr_get (v := .ref (a 16)) C0 hK hP sr_inX3 sr_wC3 rfl 3 (by decide) sw_94 rfl dX7_count_82 ?_
    refine lv_iload_n C0.1 C0.2.1 dX7_count_85 rfl (lv_at hl 1 rfl) ?_
    refine lv_iconst (v := 3) C0.1 C0.2.1 dX7_count_86 (by decide) ?_
    refine lv_isub C0.1 C0.2.1 dX7_count_87 ?_
    refine sr_chi (by decide : (5 - 3 : Int32) = 2) ?_
    refine sr_ald (k := 2) C0 hK rfl hP sr_wC16 (by decide) (sr_inc (by decide)) dX7_count_88 ?_
    exact hret _ _ _ dX7_count_89 rfl
  · refine lv_tableIn (tgt := 90) (off := 89) C0.1 C0.2.1 dX7_count_1 (by decide) (by decide) (by decide) (by decide) ?_
    refine lv_aload_n C0.1 C0.2.1 dX7_count_90 rfl (lv_at hl 0 rfl) ?_
    refine sr_get (v := .ref (a 3)) C0 hK hP sr_inX7 sr_wC0 rfl 2 (by decide) sw_190 rfl dX7_count_91 ?_
    refine sr_pVi (As := []) C0 hK hP hZ hZ0 (cc_X3_unlikeOnes ha hI) sk_X3_unlikeOnes sv_X3_unlikeOnes sw_577 (ci := 3) rfl sr_wC3 rfl rfl hl.1 (Nat.le_of_ble_eq_true rfl) (Nat.le_of_ble_eq_true rfl) (Nat.le_of_ble_eq_true rfl) dX7_count_94 ⟨Nat.zero_le _, Nat.zero_le _⟩ ?_
    exact hret _ _ _ dX7_count_97 rfl
  · refine lv_tableIn (tgt := 98) (off := 97) C0.1 C0.2.1 dX7_count_1 (by decide) (by decide) (by decide) (by decide) ?_
    refine lv_aload_n C0.1 C0.2.1 dX7_count_98 rfl (lv_at hl 0 rfl) ?_
    refine sr_get (v := .ref (a 2)) C0 hK hP sr_inX7 sr_wC0 rfl 1 (by decide) sw_189 rfl dX7_count_99 ?_
    refine sr_get (v := .ref (a 13)) C0 hK hP sr_inX6 sr_wC2 rfl 1 (by decide) sw_72 rfl dX7_count_102 ?_
    refine lv_iconst (v := 2) C0.1 C0.2.1 dX7_count_105 (by decide) ?_
    refine sr_ald (k := 2) C0 hK rfl hP sr_wC13 (by decide) (sr_inc (by decide)) dX7_count_106 ?_
    exact hret _ _ _ dX7_count_107 rfl
  · refine lv_tableIn (tgt := 108) (off := 107) C0.1 C0.2.1 dX7_count_1 (by decide) (by decide) (by decide) (by decide) ?_
    refine lv_aload_n C0.1 C0.2.1 dX7_count_108 rfl (lv_at hl 0 rfl) ?_
    refine sr_get (v := .ref (a 7)) C0 hK hP sr_inX7 sr_wC0 rfl 6 (by decide) sw_194 rfl dX7_count_109 ?_
    refine sr_get (v := .int (kp 5 1)) C0 hK hP sr_inX5 sr_wC7 rfl 3 (by decide) sw_178 rfl dX7_count_112 ?_
    exact hret _ _ _ dX7_count_115 rfl
  · refine lv_tableOut (tgt := 116) C0.1 C0.2.1 dX7_count_1 hw9 (by decide) ?_
    refine lv_bipush (v := (-2)) C0.1 C0.2.1 dX7_count_116 (by decide) ?_
    exact hret _ _ _ dX7_count_118 (sr_ctd hw9)
