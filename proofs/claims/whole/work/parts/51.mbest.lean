set_option maxRecDepth 100000 in
set_option maxHeartbeats 4000000 in
theorem cc_X8_no {l : Launch} {D : va_G} {cI : ClassId} {a : Nat → Nat} (ha : ∀ i j, i < 13 → j < 13 → a i = a j → i = j) {kp cx sg : sr_M} (x_ : Int32) : sr_P l D (sr_tM cI) (sr_ZM) (sr_WM cI a kp cx sg) yX8_no cX8_no 1 (some .long) 0 0 [.int x_] (some (.long (-9223372036854775808 - Int32.toInt64 x_))) := by
  refine sr_Ple (by decide +kernel) (Nat.le_of_ble_eq_true rfl) (fun p e s m args below meth c ls Q B hret => ?_)
  obtain ⟨C0, hP, hK, hZ0, hl⟩ := B
  have hZ : sr_Zok (sr_AM a) (sr_ZM) := sr_ZMok
  have hS : va_S (sr_AM a) s.heap s.heap [] := va_S.rf
  have hl : lv_has ls 1 [(0, .int x_)] := hl
  refine lv_ldc2 (v := (-9223372036854775808)) C0.1 C0.2.1 C0.2.2.2.1 (C0.2.2.2.2 _ sw_877) dX8_no_0 ?_
  refine lv_iload_n C0.1 C0.2.1 dX8_no_3 rfl (lv_at hl 0 rfl) ?_
  refine lv_i2l C0.1 C0.2.1 dX8_no_4 rfl ?_
  refine lv_lsub C0.1 C0.2.1 dX8_no_5 ?_
  exact hret _ _ _ dX8_no_6 rfl
set_option maxRecDepth 100000 in
set_option maxHeartbeats 4000000 in
theorem cc_X8_part {l : Launch} {D : va_G} {cI : ClassId} {a : Nat → Nat} (ha : ∀ i j, i < 13 → j < 13 → a i = a j → i = j) {kp cx sg : sr_M} (w_ : Int32) (A_ : Nat) (hA_ : A_ ≤ 4096) : sr_P l D (sr_tM cI) (sr_ZM) (sr_WM cI a kp cx sg) yX8_part cX8_part 11 (some .long) 0 0 [.long ((nI A_).toInt64), .long 4096, .int w_] (some (.long ((nI ((if w_ = 0 then A_ else 4096) / Nat.gcd A_ 4096)).toInt64))) := by
  refine sr_Ple (by decide +kernel) (Nat.le_of_ble_eq_true rfl) (fun p e s m args below meth c ls Q B hret => ?_)
  obtain ⟨C0, hP, hK, hZ0, hl⟩ := B
  have hZ : sr_Zok (sr_AM a) (sr_ZM) := sr_ZMok
  have hS : va_S (sr_AM a) s.heap s.heap [] := va_S.rf
  have hl : lv_has ls 11 [(0, .long ((nI A_).toInt64)), (2, .long 4096), (4, .int w_)] := hl
  refine lv_lload_n C0.1 C0.2.1 dX8_part_0 rfl (lv_at hl 0 rfl) ?_
  refine lv_lstore (lv' := [(5, .long ((nI A_).toInt64)), (0, .long ((nI A_).toInt64)), (2, .long 4096), (4, .int w_)]) C0.1 C0.2.1 dX8_part_1 hl (by decide) rfl (fun ls hl => ?_)
  refine lv_lload_n C0.1 C0.2.1 dX8_part_3 rfl (lv_at hl 2 rfl) ?_
  refine sr_chl (show (4096 : Int64) = (nI 4096).toInt64 by decide) ?_
  refine lv_lstore (lv' := [(7, .long ((nI 4096).toInt64)), (5, .long ((nI A_).toInt64)), (0, .long ((nI A_).toInt64)), (2, .long 4096), (4, .int w_)]) C0.1 C0.2.1 dX8_part_4 hl (by decide) rfl (fun ls hl => ?_)
  have lp6 : ∀ (n6 : Nat) (x : Nat) (y : Nat) (ls : Array Slot), (x ≤ 4096) → (y ≤ 4096) → (y + 1 ≤ n6) → (Nat.gcd x y = Nat.gcd A_ 4096) → lv_has ls 11 [(7, .long ((nI y).toInt64)), (5, .long ((nI x).toInt64)), (0, .long ((nI A_).toInt64)), (2, .long 4096), (4, .int w_)] → W p l e (sr_rm 0 0) s m args below meth c s.heap [] 0 0 Q (F0 m 6 ls []) := by
    intro n6
    induction n6 with
    | zero =>
      intro x y ls h_x h_y h_n h_g hl
      exact absurd h_n (by omega)
    | succ n6 ih6 =>
      intro x y ls h_x h_y h_n h_g hl
      refine lv_lload C0.1 C0.2.1 dX8_part_6 (lv_at hl 0 rfl) ?_
      refine lv_lconst (v := 0) C0.1 C0.2.1 dX8_part_8 (by decide) ?_
      refine W.lcmp C0.1 C0.2.1 dX8_part_9 ?_
      refine sr_lceq (tgt := 31) C0 dX8_part_10 (by decide) (fun c10 => ?_) (fun c10 => ?_)
      · have hb0 : y = 0 := (sr_Lz (by omega)).mp c10
        have hag : x = Nat.gcd A_ 4096 := by rw [← h_g, hb0, Nat.gcd_zero_right]
        have ha0 : 0 < x := by rw [hag]; exact Nat.gcd_pos_of_pos_right _ (by omega)
        refine lv_iload C0.1 C0.2.1 dX8_part_31 (lv_at hl 4 rfl) ?_
        have hJ41 : ∀ (k41_0 : Int64), k41_0 = (if w_ = 0 then (nI A_).toInt64 else (nI 4096).toInt64) → W p l e (sr_rm 0 0) s m args below meth c s.heap [] 0 0 Q (F0 m 41 ls [.long k41_0]) := by
          intro k41_0 e_k41_0
          subst e_k41_0
          refine lv_lload C0.1 C0.2.1 dX8_part_41 (lv_at hl 1 rfl) ?_
          refine lv_ldiv C0.1 C0.2.1 dX8_part_43 (fun q => absurd ((sr_Lz (by omega)).mp q) (by omega)) ?_
          exact hret _ _ _ dX8_part_44 (by rw [sr_ifL, sr_Ldiv (by split <;> omega) (by omega), hag])
        refine lv_if_ne (tgt := 40) C0.1 C0.2.1 dX8_part_33 (by decide) (fun c33 => ?_) (fun c33 => ?_)
        · refine lv_lload_n C0.1 C0.2.1 dX8_part_40 rfl (lv_at hl 3 rfl) ?_
          refine sr_chl (show (4096 : Int64) = (nI 4096).toInt64 by decide) ?_
          exact hJ41 _ (by rw [if_neg c33])
        · refine lv_lload_n C0.1 C0.2.1 dX8_part_36 rfl (lv_at hl 2 rfl) ?_
          refine lv_goto (tgt := 41) C0.1 C0.2.1 dX8_part_37 (by decide) ?_
          exact hJ41 _ (by rw [if_pos c33])
      · have hb0 : ¬ y = 0 := fun q => c10 ((sr_Lz (by omega)).mpr q)
        have hml : x % y < y := Nat.mod_lt _ (by omega)
        refine lv_lload C0.1 C0.2.1 dX8_part_13 (lv_at hl 1 rfl) ?_
        refine lv_lload C0.1 C0.2.1 dX8_part_15 (lv_at hl 0 rfl) ?_
        refine lv_lrem C0.1 C0.2.1 dX8_part_17 c10 ?_
        refine sr_chl (sr_Lrem (by omega) (by omega)) ?_
        refine lv_lstore (lv' := [(9, .long ((nI (x % y)).toInt64)), (7, .long ((nI y).toInt64)), (5, .long ((nI x).toInt64)), (0, .long ((nI A_).toInt64)), (2, .long 4096), (4, .int w_)]) C0.1 C0.2.1 dX8_part_18 hl (by decide) rfl (fun ls hl => ?_)
        refine lv_lload C0.1 C0.2.1 dX8_part_20 (lv_at hl 1 rfl) ?_
        refine lv_lstore (lv' := [(5, .long ((nI y).toInt64)), (9, .long ((nI (x % y)).toInt64)), (7, .long ((nI y).toInt64)), (0, .long ((nI A_).toInt64)), (2, .long 4096), (4, .int w_)]) C0.1 C0.2.1 dX8_part_22 hl (by decide) rfl (fun ls hl => ?_)
        refine lv_lload C0.1 C0.2.1 dX8_part_24 (lv_at hl 1 rfl) ?_
        refine lv_lstore (lv' := [(7, .long ((nI (x % y)).toInt64)), (5, .long ((nI y).toInt64)), (9, .long ((nI (x % y)).toInt64)), (0, .long ((nI A_).toInt64)), (2, .long 4096), (4, .int w_)]) C0.1 C0.2.1 dX8_part_26 hl (by decide) rfl (fun ls hl => ?_)
        refine lv_goto (tgt := 6) C0.1 C0.2.1 dX8_part_28 (by decide) ?_
        exact ih6 y (x % y) _ (by omega) (by omega) (by omega) (by rw [sr_gcd_step]; exact h_g) (lv_sub hl [0, 1, 3, 4, 5] rfl)
  exact lp6 4097 A_ 4096 _ (by omega) (by omega) (by omega) rfl (lv_sub hl [0, 1, 2, 3, 4] rfl)
set_option maxRecDepth 100000 in
set_option maxHeartbeats 4000000 in
theorem cc_X8_allNow {l : Launch} {D : va_G} {cI : ClassId} {a : Nat → Nat} (ha : ∀ i j, i < 13 → j < 13 → a i = a j → i = j) {kp cx sg : sr_M} (w_ : Int32) (hK_ : sr_IK kp) : sr_G l D (sr_tM cI) (sr_ZM) (sr_AM a) (sr_WM cI a kp cx sg) yX8_allNow cX8_allNow 5 (some .long) 6 145 [.ref (a 0), .int w_] (S := sr_M) (fun u => sr_RD kp u) (fun u => sr_WM cI a kp cx u) (fun u => some (.long (sn_all kp w_))) := by
  refine sr_Gle (by decide +kernel) (Nat.le_of_ble_eq_true rfl) (fun p e s m args below meth c ls Q B hret => ?_)
  obtain ⟨C0, hP, hK, hZ0, hl⟩ := B
  have hZ : sr_Zok (sr_AM a) (sr_ZM) := sr_ZMok
  have hS : va_S (sr_AM a) s.heap s.heap [] := va_S.rf
  have hl : lv_has ls 5 [(0, .ref (a 0)), (1, .int w_)] := hl
  obtain ⟨H, hH⟩ : ∃ H, H = s.heap := ⟨_, rfl⟩
  have hP : va_P D vwCl (sr_WM cI a kp cx sg) H := by rw [hH]; exact hP
  have hS : va_S (sr_AM a) s.heap H [] := by rw [hH]; exact hS
  suffices hG : ∀ locs, va_S (sr_AM a) s.heap H locs → W p l e (sr_rm 6 145) s m args below meth c H locs 0 0 Q (F0 m 0 ls []) from by have h9 := hG [] hS; rw [hH] at h9; exact h9
  clear hS
  intro locs hS
  clear hH
  refine lv_aload_n C0.1 C0.2.1 dX8_allNow_0 rfl (lv_at hl 0 rfl) ?_
  refine sr_gVi (As := []) C0 hK hP hZ (sr_Zs hZ hZ0 hS) (cc_X8_areThere ha hK_) sk_X8_areThere sv_X8_areThere sw_795 (ci := 8) rfl sr_wM0 rfl rfl hl.1 (Nat.le_of_ble_eq_true rfl) (Nat.le_of_ble_eq_true rfl) (Nat.le_of_ble_eq_true rfl) dX8_allNow_1 ⟨Nat.zero_le _, Nat.zero_le _⟩ hS (fun sg1 H locs hRD hP hS => ?_)
  refine sr_ifne (tgt := 13) C0 dX8_allNow_4 (by decide) (fun c4 => ?_) (fun c4 => ?_)
  · have hT : sr_th kp := c4
    refine lv_lconst (v := 1) C0.1 C0.2.1 dX8_allNow_13 (by decide) ?_
    refine lv_lstore_n (lv' := [(2, .long 1), (0, .ref (a 0)), (1, .int w_)]) C0.1 C0.2.1 dX8_allNow_14 rfl hl (by decide) rfl (fun ls hl => ?_)
    refine lv_iconst (v := 0) C0.1 C0.2.1 dX8_allNow_15 (by decide) ?_
    refine lv_istore (lv' := [(4, .int 0), (2, .long 1), (0, .ref (a 0)), (1, .int w_)]) C0.1 C0.2.1 dX8_allNow_16 hl (by decide) rfl (fun ls hl => ?_)
    refine lv_iload C0.1 C0.2.1 dX8_allNow_18 (lv_at hl 0 rfl) ?_
    refine lv_iconst (v := 3) C0.1 C0.2.1 dX8_allNow_20 (by decide) ?_
    refine lv_icmp_ge (tgt := 47) C0.1 C0.2.1 dX8_allNow_21 (by decide) (fun q => absurd q (by decide)) (fun _ => ?_)
    refine lv_lload_n C0.1 C0.2.1 dX8_allNow_24 rfl (lv_at hl 1 rfl) ?_
    refine lv_aload_n C0.1 C0.2.1 dX8_allNow_25 rfl (lv_at hl 2 rfl) ?_
    refine lv_iload C0.1 C0.2.1 dX8_allNow_26 (lv_at hl 0 rfl) ?_
    refine lv_aload_n C0.1 C0.2.1 dX8_allNow_28 rfl (lv_at hl 2 rfl) ?_
    refine sr_get (v := .ref (a 9)) C0 hK hP sr_inX8 sr_wM0 rfl 12 (by decide) sw_622 rfl dX8_allNow_29 ?_
    refine lv_iload C0.1 C0.2.1 dX8_allNow_32 (lv_at hl 0 rfl) ?_
    refine sr_ald (k := 0) C0 hK rfl hP sr_wM9 (by decide) (sr_inc (by decide)) dX8_allNow_34 ?_
    refine sr_chi (sr_IK_mk hK_ (by omega)) ?_
    have := sr_IK_mk40 hK_ (c := 0) (by omega)
    refine sr_pVi (As := [.int 0, .int (nI (sr_mk kp 0))]) C0 hK hP hZ (sr_Zs hZ hZ0 hS) (cc_X8_chanceBy ha 0 (sr_mk kp 0) hK_ hRD hT (by omega)) sk_X8_chanceBy sv_X8_chanceBy sw_859 (ci := 8) rfl sr_wM0 rfl rfl hl.1 (Nat.le_of_ble_eq_true rfl) (Nat.le_of_ble_eq_true rfl) (Nat.le_of_ble_eq_true rfl) dX8_allNow_35 ⟨Nat.zero_le _, Nat.zero_le _⟩ ?_
    refine lv_i2l C0.1 C0.2.1 dX8_allNow_38 rfl ?_
    refine lv_lmul C0.1 C0.2.1 dX8_allNow_39 ?_
    refine sr_chl (sr_Lmul1 (by have := sr_cN16 kp (sr_ru kp 0) (sr_ru kp 1) 0 (sr_mk kp 0); exact Nat.lt_of_le_of_lt this (by omega))) ?_
    refine lv_lstore_n (lv' := [(2, .long ((nI (1 * (sr_cN kp (sr_ru kp 0) (sr_ru kp (0 + 1)) 0 (sr_mk kp 0)))).toInt64)), (4, .int 0), (0, .ref (a 0)), (1, .int w_)]) C0.1 C0.2.1 dX8_allNow_40 rfl hl (by decide) rfl (fun ls hl => ?_)
    refine lv_iinc (v := 1) (lv' := [(4, .int 1), (2, .long ((nI (1 * (sr_cN kp (sr_ru kp 0) (sr_ru kp (0 + 1)) 0 (sr_mk kp 0)))).toInt64)), (0, .ref (a 0)), (1, .int w_)]) C0.1 C0.2.1 dX8_allNow_41 hl (k := 1) rfl (by decide) (by decide) rfl (fun ls hl => ?_)
    refine lv_goto (tgt := 18) C0.1 C0.2.1 dX8_allNow_44 (by decide) ?_
    refine lv_iload C0.1 C0.2.1 dX8_allNow_18 (lv_at hl 0 rfl) ?_
    refine lv_iconst (v := 3) C0.1 C0.2.1 dX8_allNow_20 (by decide) ?_
    refine lv_icmp_ge (tgt := 47) C0.1 C0.2.1 dX8_allNow_21 (by decide) (fun q => absurd q (by decide)) (fun _ => ?_)
    refine lv_lload_n C0.1 C0.2.1 dX8_allNow_24 rfl (lv_at hl 1 rfl) ?_
    refine lv_aload_n C0.1 C0.2.1 dX8_allNow_25 rfl (lv_at hl 2 rfl) ?_
    refine lv_iload C0.1 C0.2.1 dX8_allNow_26 (lv_at hl 0 rfl) ?_
    refine lv_aload_n C0.1 C0.2.1 dX8_allNow_28 rfl (lv_at hl 2 rfl) ?_
    refine sr_get (v := .ref (a 9)) C0 hK hP sr_inX8 sr_wM0 rfl 12 (by decide) sw_622 rfl dX8_allNow_29 ?_
    refine lv_iload C0.1 C0.2.1 dX8_allNow_32 (lv_at hl 0 rfl) ?_
    refine sr_ald (k := 1) C0 hK rfl hP sr_wM9 (by decide) (sr_inc (by decide)) dX8_allNow_34 ?_
    refine sr_chi (sr_IK_mk hK_ (by omega)) ?_
    have := sr_IK_mk40 hK_ (c := 1) (by omega)
    refine sr_pVi (As := [.int 1, .int (nI (sr_mk kp 1))]) C0 hK hP hZ (sr_Zs hZ hZ0 hS) (cc_X8_chanceBy ha 1 (sr_mk kp 1) hK_ hRD hT (by omega)) sk_X8_chanceBy sv_X8_chanceBy sw_859 (ci := 8) rfl sr_wM0 rfl rfl hl.1 (Nat.le_of_ble_eq_true rfl) (Nat.le_of_ble_eq_true rfl) (Nat.le_of_ble_eq_true rfl) dX8_allNow_35 ⟨Nat.zero_le _, Nat.zero_le _⟩ ?_
    refine lv_i2l C0.1 C0.2.1 dX8_allNow_38 rfl ?_
    refine lv_lmul C0.1 C0.2.1 dX8_allNow_39 ?_
    refine sr_chl (sr_Lmul (a := 1 * (sr_cN kp (sr_ru kp 0) (sr_ru kp (0 + 1)) 0 (sr_mk kp 0))) (b := (sr_cN kp (sr_ru kp 1) (sr_ru kp (1 + 1)) 1 (sr_mk kp 1))) (by exact Nat.lt_of_le_of_lt (show 1 * sr_cN kp _ _ _ _ ≤ 16 by rw [Nat.one_mul]; exact sr_cN16 kp _ _ _ _) (by omega)) (by exact Nat.lt_of_le_of_lt (sr_cN16 kp _ _ _ _) (by omega))) ?_
    refine lv_lstore_n (lv' := [(2, .long ((nI (1 * (sr_cN kp (sr_ru kp 0) (sr_ru kp (0 + 1)) 0 (sr_mk kp 0)) * (sr_cN kp (sr_ru kp 1) (sr_ru kp (1 + 1)) 1 (sr_mk kp 1)))).toInt64)), (4, .int 1), (0, .ref (a 0)), (1, .int w_)]) C0.1 C0.2.1 dX8_allNow_40 rfl hl (by decide) rfl (fun ls hl => ?_)
    refine lv_iinc (v := 2) (lv' := [(4, .int 2), (2, .long ((nI (1 * (sr_cN kp (sr_ru kp 0) (sr_ru kp (0 + 1)) 0 (sr_mk kp 0)) * (sr_cN kp (sr_ru kp 1) (sr_ru kp (1 + 1)) 1 (sr_mk kp 1)))).toInt64)), (0, .ref (a 0)), (1, .int w_)]) C0.1 C0.2.1 dX8_allNow_41 hl (k := 1) rfl (by decide) (by decide) rfl (fun ls hl => ?_)
    refine lv_goto (tgt := 18) C0.1 C0.2.1 dX8_allNow_44 (by decide) ?_
    refine lv_iload C0.1 C0.2.1 dX8_allNow_18 (lv_at hl 0 rfl) ?_
    refine lv_iconst (v := 3) C0.1 C0.2.1 dX8_allNow_20 (by decide) ?_
    refine lv_icmp_ge (tgt := 47) C0.1 C0.2.1 dX8_allNow_21 (by decide) (fun q => absurd q (by decide)) (fun _ => ?_)
    refine lv_lload_n C0.1 C0.2.1 dX8_allNow_24 rfl (lv_at hl 1 rfl) ?_
    refine lv_aload_n C0.1 C0.2.1 dX8_allNow_25 rfl (lv_at hl 2 rfl) ?_
    refine lv_iload C0.1 C0.2.1 dX8_allNow_26 (lv_at hl 0 rfl) ?_
    refine lv_aload_n C0.1 C0.2.1 dX8_allNow_28 rfl (lv_at hl 2 rfl) ?_
    refine sr_get (v := .ref (a 9)) C0 hK hP sr_inX8 sr_wM0 rfl 12 (by decide) sw_622 rfl dX8_allNow_29 ?_
    refine lv_iload C0.1 C0.2.1 dX8_allNow_32 (lv_at hl 0 rfl) ?_
    refine sr_ald (k := 2) C0 hK rfl hP sr_wM9 (by decide) (sr_inc (by decide)) dX8_allNow_34 ?_
    refine sr_chi (sr_IK_mk hK_ (by omega)) ?_
    have := sr_IK_mk40 hK_ (c := 2) (by omega)
    refine sr_pVi (As := [.int 2, .int (nI (sr_mk kp 2))]) C0 hK hP hZ (sr_Zs hZ hZ0 hS) (cc_X8_chanceBy ha 2 (sr_mk kp 2) hK_ hRD hT (by omega)) sk_X8_chanceBy sv_X8_chanceBy sw_859 (ci := 8) rfl sr_wM0 rfl rfl hl.1 (Nat.le_of_ble_eq_true rfl) (Nat.le_of_ble_eq_true rfl) (Nat.le_of_ble_eq_true rfl) dX8_allNow_35 ⟨Nat.zero_le _, Nat.zero_le _⟩ ?_
    refine lv_i2l C0.1 C0.2.1 dX8_allNow_38 rfl ?_
    refine lv_lmul C0.1 C0.2.1 dX8_allNow_39 ?_
    refine sr_chl (sr_Lmul (a := 1 * (sr_cN kp (sr_ru kp 0) (sr_ru kp (0 + 1)) 0 (sr_mk kp 0)) * (sr_cN kp (sr_ru kp 1) (sr_ru kp (1 + 1)) 1 (sr_mk kp 1))) (b := (sr_cN kp (sr_ru kp 2) (sr_ru kp (2 + 1)) 2 (sr_mk kp 2))) (by exact Nat.lt_of_le_of_lt (show 1 * sr_cN kp _ _ _ _ * sr_cN kp _ _ _ _ ≤ 16 * 16 by rw [Nat.one_mul]; exact Nat.mul_le_mul (sr_cN16 kp _ _ _ _) (sr_cN16 kp _ _ _ _)) (by omega)) (by exact Nat.lt_of_le_of_lt (sr_cN16 kp _ _ _ _) (by omega))) ?_
    refine lv_lstore_n (lv' := [(2, .long ((nI (1 * (sr_cN kp (sr_ru kp 0) (sr_ru kp (0 + 1)) 0 (sr_mk kp 0)) * (sr_cN kp (sr_ru kp 1) (sr_ru kp (1 + 1)) 1 (sr_mk kp 1)) * (sr_cN kp (sr_ru kp 2) (sr_ru kp (2 + 1)) 2 (sr_mk kp 2)))).toInt64)), (4, .int 2), (0, .ref (a 0)), (1, .int w_)]) C0.1 C0.2.1 dX8_allNow_40 rfl hl (by decide) rfl (fun ls hl => ?_)
    refine lv_iinc (v := 3) (lv' := [(4, .int 3), (2, .long ((nI (1 * (sr_cN kp (sr_ru kp 0) (sr_ru kp (0 + 1)) 0 (sr_mk kp 0)) * (sr_cN kp (sr_ru kp 1) (sr_ru kp (1 + 1)) 1 (sr_mk kp 1)) * (sr_cN kp (sr_ru kp 2) (sr_ru kp (2 + 1)) 2 (sr_mk kp 2)))).toInt64)), (0, .ref (a 0)), (1, .int w_)]) C0.1 C0.2.1 dX8_allNow_41 hl (k := 1) rfl (by decide) (by decide) rfl (fun ls hl => ?_)
    refine lv_goto (tgt := 18) C0.1 C0.2.1 dX8_allNow_44 (by decide) ?_
    refine lv_iload C0.1 C0.2.1 dX8_allNow_18 (lv_at hl 0 rfl) ?_
    refine lv_iconst (v := 3) C0.1 C0.2.1 dX8_allNow_20 (by decide) ?_
    refine lv_icmp_ge (tgt := 47) C0.1 C0.2.1 dX8_allNow_21 (by decide) (fun _ => ?_) (fun q => absurd q (by decide))
    refine lv_lload_n C0.1 C0.2.1 dX8_allNow_47 rfl (lv_at hl 1 rfl) ?_
    refine sr_chl (show (nI (1 * (sr_cN kp (sr_ru kp 0) (sr_ru kp (0 + 1)) 0 (sr_mk kp 0)) * (sr_cN kp (sr_ru kp 1) (sr_ru kp (1 + 1)) 1 (sr_mk kp 1)) * (sr_cN kp (sr_ru kp 2) (sr_ru kp (2 + 1)) 2 (sr_mk kp 2)))).toInt64 = (nI (sr_c3 kp)).toInt64 from rfl) ?_
    refine lv_ldc2 (v := 4096) C0.1 C0.2.1 C0.2.2.2.1 (C0.2.2.2.2 _ sw_878) dX8_allNow_48 ?_
    refine lv_iload_n C0.1 C0.2.1 dX8_allNow_51 rfl (lv_at hl 3 rfl) ?_
    refine sr_pSl (As := [.long ((nI (sr_c3 kp)).toInt64), .long 4096, .int w_]) C0 hK hP hZ (sr_Zs hZ hZ0 hS) (cc_X8_part ha w_ (sr_c3 kp) (by exact sr_c3_le kp)) sk_X8_part (ss_X8_part) sw_879 rfl rfl hl.1 (Nat.le_of_ble_eq_true rfl) (Nat.le_of_ble_eq_true rfl) (Nat.le_of_ble_eq_true rfl) dX8_allNow_52 ⟨Nat.zero_le _, Nat.zero_le _⟩ ?_
    exact hret _ _ _ sg1 _ _ _ dX8_allNow_55 hP hS rfl (by unfold sn_all; exact (congrArg (fun z => (nI z).toInt64) (sr_fo_g kp w_)).trans (if_neg (fun q => q c4)).symm) hRD
  · refine lv_bipush (v := (-3)) C0.1 C0.2.1 dX8_allNow_7 (by decide) ?_
    refine sr_pSl (As := [.int (-3)]) C0 hK hP hZ (sr_Zs hZ hZ0 hS) (cc_X8_no ha ((-3))) sk_X8_no (ss_X8_no) sw_874 rfl rfl hl.1 (Nat.le_of_ble_eq_true rfl) (Nat.le_of_ble_eq_true rfl) (Nat.le_of_ble_eq_true rfl) dX8_allNow_9 ⟨Nat.zero_le _, Nat.zero_le _⟩ ?_
    exact hret _ _ _ sg1 _ _ _ dX8_allNow_12 hP hS rfl (by unfold sn_all; rw [if_pos c4] <;> decide) hRD
set_option maxRecDepth 100000 in
set_option maxHeartbeats 4000000 in
theorem cc_X8_all {l : Launch} {D : va_G} {cI : ClassId} {a : Nat → Nat} (ha : ∀ i j, i < 13 → j < 13 → a i = a j → i = j) {kp cx sg : sr_M} (w_ : Int32) (hK_ : sr_IK kp) : sr_G l D (sr_tM cI) (sr_ZM) (sr_AM a) (sr_WM cI a kp cx sg) yX8_all cX8_all 2 (some .long) 7 169 [.ref (a 0), .int w_] (S := sr_M) (fun u => True) (fun u => sr_WM cI a kp cx u) (fun u => some (.long (sp_all kp w_))) := by
  refine sr_Gle (by decide +kernel) (Nat.le_of_ble_eq_true rfl) (fun p e s m args below meth c ls Q B hret => ?_)
  obtain ⟨C0, hP, hK, hZ0, hl⟩ := B
  have hZ : sr_Zok (sr_AM a) (sr_ZM) := sr_ZMok
  have hS : va_S (sr_AM a) s.heap s.heap [] := va_S.rf
  have hl : lv_has ls 2 [(0, .ref (a 0)), (1, .int w_)] := hl
  obtain ⟨H, hH⟩ : ∃ H, H = s.heap := ⟨_, rfl⟩
  have hP : va_P D vwCl (sr_WM cI a kp cx sg) H := by rw [hH]; exact hP
  have hS : va_S (sr_AM a) s.heap H [] := by rw [hH]; exact hS
  suffices hG : ∀ locs, va_S (sr_AM a) s.heap H locs → W p l e (sr_rm 7 169) s m args below meth c H locs 0 0 Q (F0 m 0 ls []) from by have h9 := hG [] hS; rw [hH] at h9; exact h9
  clear hS
  intro locs hS
  clear hH
  refine lv_iload_n C0.1 C0.2.1 dX8_all_0 rfl (lv_at hl 1 rfl) ?_
  refine sr_pSi (As := [.int w_]) C0 hK hP hZ (sr_Zs hZ hZ0 hS) (cc_X8_isTwo ha w_) sk_X8_isTwo (ss_X8_isTwo) sw_792 rfl rfl hl.1 (Nat.le_of_ble_eq_true rfl) (Nat.le_of_ble_eq_true rfl) (Nat.le_of_ble_eq_true rfl) dX8_all_1 ⟨Nat.zero_le _, Nat.zero_le _⟩ ?_
  refine sr_ifeq (tgt := 15) C0 dX8_all_4 (by decide) (fun c4 => ?_) (fun c4 => ?_)
  · refine lv_bipush (v := (-2)) C0.1 C0.2.1 dX8_all_15 (by decide) ?_
    refine sr_pSl (As := [.int (-2)]) C0 hK hP hZ (sr_Zs hZ hZ0 hS) (cc_X8_no ha ((-2))) sk_X8_no (ss_X8_no) sw_874 rfl rfl hl.1 (Nat.le_of_ble_eq_true rfl) (Nat.le_of_ble_eq_true rfl) (Nat.le_of_ble_eq_true rfl) dX8_all_17 ⟨Nat.zero_le _, Nat.zero_le _⟩ ?_
    exact hret _ _ _ sg _ _ _ dX8_all_20 hP hS rfl (by unfold sp_all; rw [if_pos (Classical.not_not.mp c4)] <;> decide) trivial
  · refine lv_aload_n C0.1 C0.2.1 dX8_all_7 rfl (lv_at hl 0 rfl) ?_
    refine lv_iload_n C0.1 C0.2.1 dX8_all_8 rfl (lv_at hl 1 rfl) ?_
    refine sr_gVl (As := [.int w_]) C0 hK hP hZ (sr_Zs hZ hZ0 hS) (cc_X8_allNow ha w_ hK_) sk_X8_allNow sv_X8_allNow sw_870 (ci := 8) rfl sr_wM0 rfl rfl hl.1 (Nat.le_of_ble_eq_true rfl) (Nat.le_of_ble_eq_true rfl) (Nat.le_of_ble_eq_true rfl) dX8_all_9 ⟨Nat.zero_le _, Nat.zero_le _⟩ hS (fun sg1 H locs hRD hP hS => ?_)
    refine lv_goto (tgt := 20) C0.1 C0.2.1 dX8_all_12 (by decide) ?_
    exact hret _ _ _ sg1 _ _ _ dX8_all_20 hP hS rfl (by unfold sp_all; rw [if_neg c4]; rfl) trivial
set_option maxRecDepth 100000 in
set_option maxHeartbeats 4000000 in
theorem cc_X8_bestBy {l : Launch} {D : va_G} {cI : ClassId} {a : Nat → Nat} (ha : ∀ i j, i < 13 → j < 13 → a i = a j → i = j) {kp cx sg : sr_M} (co : Nat) (go : Nat) (cn : Nat) (sl : Int32) (hK_ : sr_IK kp) (hRD : sr_RD kp sg) (hr_co : co < sr_cnt kp) (hr_go : go < sr_cnt kp) (hs_cn : cn < 3) (hl_sl : sr_bs sl) : sr_P l D (sr_tM cI) (sr_ZM) (sr_WM cI a kp cx sg) yX8_bestBy cX8_bestBy 10 (some .int) 4 98 [.ref (a 0), .int (nI co), .int (nI go), .int (nI cn), .int sl] (some (.int (nI (sr_best kp co go cn sl)))) := by
  refine sr_Pie (by decide +kernel) (Nat.le_of_ble_eq_true rfl) (fun p e s m args below meth c ls Q B hret => ?_)
  obtain ⟨C0, hP, hK, hZ0, hl⟩ := B
  have hZ : sr_Zok (sr_AM a) (sr_ZM) := sr_ZMok
  have hS : va_S (sr_AM a) s.heap s.heap [] := va_S.rf
  have hl : lv_has ls 10 [(0, .ref (a 0)), (1, .int (nI co)), (2, .int (nI go)), (3, .int (nI cn)), (4, .int sl)] := hl
  have hc5 := sr_cnt5 kp
  refine lv_iconst (v := (-1)) C0.1 C0.2.1 dX8_bestBy_0 (by decide) ?_
  refine lv_istore (lv' := [(5, .int (-1)), (0, .ref (a 0)), (1, .int (nI co)), (2, .int (nI go)), (3, .int (nI cn)), (4, .int sl)]) C0.1 C0.2.1 dX8_bestBy_1 hl (by decide) rfl (fun ls hl => ?_)
  refine lv_iconst (v := 0) C0.1 C0.2.1 dX8_bestBy_3 (by decide) ?_
  refine lv_istore (lv' := [(6, .int 0), (5, .int (-1)), (0, .ref (a 0)), (1, .int (nI co)), (2, .int (nI go)), (3, .int (nI cn)), (4, .int sl)]) C0.1 C0.2.1 dX8_bestBy_4 hl (by decide) rfl (fun ls hl => ?_)
  refine lv_iconst (v := 0) C0.1 C0.2.1 dX8_bestBy_6 (by decide) ?_
  refine lv_istore (lv' := [(7, .int 0), (6, .int 0), (5, .int (-1)), (0, .ref (a 0)), (1, .int (nI co)), (2, .int (nI go)), (3, .int (nI cn)), (4, .int sl)]) C0.1 C0.2.1 dX8_bestBy_7 hl (by decide) rfl (fun ls hl => ?_)
  have lp9 : ∀ (n9 : Nat) (i : Nat) (bx : Int32) (lx : Int32) (ls : Array Slot), (i ≤ 41) → (42 ≤ i + n9) → (bx = sr_bb kp co go cn sl i) → (lx = sr_bl kp co go cn sl i) → lv_has ls 10 [(7, .int (nI i)), (6, .int lx), (5, .int bx), (0, .ref (a 0)), (1, .int (nI co)), (2, .int (nI go)), (3, .int (nI cn)), (4, .int sl)] → W p l e (sr_rm 4 98) s m args below meth c s.heap [] 0 0 Q (F0 m 9 ls []) := by
    intro n9
    induction n9 with
    | zero =>
      intro i bx lx ls h_i h_n h_b h_l hl
      exact absurd h_n (by omega)
    | succ n9 ih9 =>
      intro i bx lx ls h_i h_n h_b h_l hl
      refine lv_iload C0.1 C0.2.1 dX8_bestBy_9 (lv_at hl 0 rfl) ?_
      refine lv_bipush (v := 40) C0.1 C0.2.1 dX8_bestBy_11 (by decide) ?_
      refine lv_icmp_gt (tgt := 81) C0.1 C0.2.1 dX8_bestBy_13 (by decide) (fun c13 => ?_) (fun c13 => ?_)
      · have g13 : 40 < i := (nI_ltI (a := 40) (b := i) (by omega) (by omega)).mp c13
        refine lv_iload C0.1 C0.2.1 dX8_bestBy_81 (lv_at hl 2 rfl) ?_
        exact hret _ _ _ dX8_bestBy_83 (by rw [h_b, show i = 41 by omega]; exact sr_bb_e kp co go cn sl)
      · have g13 : ¬ (40 < i) := fun q => c13 ((nI_ltI (a := 40) (b := i) (by omega) (by omega)).mpr q)
        refine lv_aload_n C0.1 C0.2.1 dX8_bestBy_16 rfl (lv_at hl 3 rfl) ?_
        refine lv_iload_n C0.1 C0.2.1 dX8_bestBy_17 rfl (lv_at hl 4 rfl) ?_
        refine lv_iload_n C0.1 C0.2.1 dX8_bestBy_18 rfl (lv_at hl 5 rfl) ?_
        refine lv_iload_n C0.1 C0.2.1 dX8_bestBy_19 rfl (lv_at hl 6 rfl) ?_
        refine lv_iload C0.1 C0.2.1 dX8_bestBy_20 (lv_at hl 0 rfl) ?_
        refine lv_iload C0.1 C0.2.1 dX8_bestBy_22 (lv_at hl 7 rfl) ?_
        refine sr_pVi (As := [.int (nI co), .int (nI go), .int (nI cn), .int (nI i), .int sl]) C0 hK hP hZ hZ0 (cc_X8_meetBy ha co go cn (nI i) sl hK_ hRD (by first | assumption | omega | exact sr_th_at hT (by omega)) (by first | assumption | omega | exact sr_th_at hT (by omega)) (by omega)) sk_X8_meetBy sv_X8_meetBy sw_819 (ci := 8) rfl sr_wM0 rfl rfl hl.1 (Nat.le_of_ble_eq_true rfl) (Nat.le_of_ble_eq_true rfl) (Nat.le_of_ble_eq_true rfl) dX8_bestBy_24 ⟨Nat.zero_le _, Nat.zero_le _⟩ ?_
        refine lv_istore (lv' := [(8, .int (sr_mt kp co go cn (nI i) sl)), (7, .int (nI i)), (6, .int lx), (5, .int bx), (0, .ref (a 0)), (1, .int (nI co)), (2, .int (nI go)), (3, .int (nI cn)), (4, .int sl)]) C0.1 C0.2.1 dX8_bestBy_27 hl (by decide) rfl (fun ls hl => ?_)
        refine lv_aload_n C0.1 C0.2.1 dX8_bestBy_29 rfl (lv_at hl 4 rfl) ?_
        refine lv_iload_n C0.1 C0.2.1 dX8_bestBy_30 rfl (lv_at hl 5 rfl) ?_
        refine lv_iload_n C0.1 C0.2.1 dX8_bestBy_31 rfl (lv_at hl 7 rfl) ?_
        refine lv_iload C0.1 C0.2.1 dX8_bestBy_32 (lv_at hl 1 rfl) ?_
        refine lv_iload C0.1 C0.2.1 dX8_bestBy_34 (lv_at hl 8 rfl) ?_
        refine sr_pVi (As := [.int (nI co), .int (nI cn), .int (nI i), .int sl]) C0 hK hP hZ hZ0 (cc_X8_delay ha co cn (nI i) sl hRD (by first | assumption | omega | exact sr_th_at hT (by omega)) (by omega)) sk_X8_delay sv_X8_delay sw_803 (ci := 8) rfl sr_wM0 rfl rfl hl.1 (Nat.le_of_ble_eq_true rfl) (Nat.le_of_ble_eq_true rfl) (Nat.le_of_ble_eq_true rfl) dX8_bestBy_36 ⟨Nat.zero_le _, Nat.zero_le _⟩ ?_
        refine lv_aload_n C0.1 C0.2.1 dX8_bestBy_39 rfl (lv_at hl 4 rfl) ?_
        refine lv_iload C0.1 C0.2.1 dX8_bestBy_40 (lv_at hl 0 rfl) ?_
        refine sr_pVi (As := [.int (sr_mt kp co go cn (nI i) sl)]) C0 hK hP hZ hZ0 (cc_X8_lost ha (sr_mt kp co go cn (nI i) sl)) sk_X8_lost sv_X8_lost sw_903 (ci := 8) rfl sr_wM0 rfl rfl hl.1 (Nat.le_of_ble_eq_true rfl) (Nat.le_of_ble_eq_true rfl) (Nat.le_of_ble_eq_true rfl) dX8_bestBy_42 ⟨Nat.zero_le _, Nat.zero_le _⟩ ?_
        refine lv_iadd C0.1 C0.2.1 dX8_bestBy_45 ?_
        refine lv_istore (lv' := [(9, .int ((sr_Dl kp co cn (nI i) sl) + (sr_bu kp (sr_mt kp co go cn (nI i) sl)))), (8, .int (sr_mt kp co go cn (nI i) sl)), (7, .int (nI i)), (6, .int lx), (5, .int bx), (0, .ref (a 0)), (1, .int (nI co)), (2, .int (nI go)), (3, .int (nI cn)), (4, .int sl)]) C0.1 C0.2.1 dX8_bestBy_46 hl (by decide) rfl (fun ls hl => ?_)
        refine lv_iload C0.1 C0.2.1 dX8_bestBy_48 (lv_at hl 1 rfl) ?_
        refine lv_iconst (v := (-1)) C0.1 C0.2.1 dX8_bestBy_50 (by decide) ?_
        refine lv_icmp_eq (tgt := 75) C0.1 C0.2.1 dX8_bestBy_51 (by decide) (fun c51 => ?_) (fun c51 => ?_)
        · have hno : ¬ i ≤ sr_best kp co go cn sl := fun q => (sr_bestE hK_ hr_co hr_go hl_sl (by omega)).mpr q c51
          refine lv_iinc (v := (nI (i + 1))) (lv' := [(7, .int (nI (i + 1))), (9, .int ((sr_Dl kp co cn (nI i) sl) + (sr_bu kp (sr_mt kp co go cn (nI i) sl)))), (8, .int (sr_mt kp co go cn (nI i) sl)), (6, .int lx), (5, .int bx), (0, .ref (a 0)), (1, .int (nI co)), (2, .int (nI go)), (3, .int (nI cn)), (4, .int sl)]) C0.1 C0.2.1 dX8_bestBy_75 hl (k := 2) rfl (nI_1 i) (by decide) rfl (fun ls hl => ?_)
          refine lv_goto (tgt := 9) C0.1 C0.2.1 dX8_bestBy_78 (by decide) ?_
          exact ih9 (i + 1) bx lx _ (by omega) (by omega) (h_b.trans (sr_bb_no hno).1.symm) (h_l.trans (sr_bb_no hno).2.symm) (lv_sub hl [0, 3, 4, 5, 6, 7, 8, 9] rfl)
        · have hye : i ≤ sr_best kp co go cn sl := (sr_bestE hK_ hr_co hr_go hl_sl (by omega)).mp c51
          refine lv_iload C0.1 C0.2.1 dX8_bestBy_54 (lv_at hl 4 rfl) ?_
          refine lv_iconst (v := (-1)) C0.1 C0.2.1 dX8_bestBy_56 (by decide) ?_
          refine lv_icmp_eq (tgt := 67) C0.1 C0.2.1 dX8_bestBy_57 (by decide) (fun c57 => ?_) (fun c57 => ?_)
          · refine lv_iload C0.1 C0.2.1 dX8_bestBy_67 (lv_at hl 2 rfl) ?_
            refine lv_istore (lv' := [(5, .int (nI i)), (9, .int ((sr_Dl kp co cn (nI i) sl) + (sr_bu kp (sr_mt kp co go cn (nI i) sl)))), (8, .int (sr_mt kp co go cn (nI i) sl)), (7, .int (nI i)), (6, .int lx), (0, .ref (a 0)), (1, .int (nI co)), (2, .int (nI go)), (3, .int (nI cn)), (4, .int sl)]) C0.1 C0.2.1 dX8_bestBy_69 hl (by decide) rfl (fun ls hl => ?_)
            refine lv_iload C0.1 C0.2.1 dX8_bestBy_71 (lv_at hl 1 rfl) ?_
            refine lv_istore (lv' := [(6, .int ((sr_Dl kp co cn (nI i) sl) + (sr_bu kp (sr_mt kp co go cn (nI i) sl)))), (5, .int (nI i)), (9, .int ((sr_Dl kp co cn (nI i) sl) + (sr_bu kp (sr_mt kp co go cn (nI i) sl)))), (8, .int (sr_mt kp co go cn (nI i) sl)), (7, .int (nI i)), (0, .ref (a 0)), (1, .int (nI co)), (2, .int (nI go)), (3, .int (nI cn)), (4, .int sl)]) C0.1 C0.2.1 dX8_bestBy_73 hl (by decide) rfl (fun ls hl => ?_)
            refine lv_iinc (v := (nI (i + 1))) (lv' := [(7, .int (nI (i + 1))), (6, .int ((sr_Dl kp co cn (nI i) sl) + (sr_bu kp (sr_mt kp co go cn (nI i) sl)))), (5, .int (nI i)), (9, .int ((sr_Dl kp co cn (nI i) sl) + (sr_bu kp (sr_mt kp co go cn (nI i) sl)))), (8, .int (sr_mt kp co go cn (nI i) sl)), (0, .ref (a 0)), (1, .int (nI co)), (2, .int (nI go)), (3, .int (nI cn)), (4, .int sl)]) C0.1 C0.2.1 dX8_bestBy_75 hl (k := 4) rfl (nI_1 i) (by decide) rfl (fun ls hl => ?_)
            refine lv_goto (tgt := 9) C0.1 C0.2.1 dX8_bestBy_78 (by decide) ?_
            exact ih9 (i + 1) (nI i) ((sr_Dl kp co cn (nI i) sl) + (sr_bu kp (sr_mt kp co go cn (nI i) sl))) _ (by omega) (by omega) ((sr_bb_yes hye).1.symm) ((sr_bb_yes hye).2.symm) (lv_sub hl [0, 1, 2, 5, 6, 7, 8, 9] rfl)
          · refine lv_iload C0.1 C0.2.1 dX8_bestBy_60 (lv_at hl 0 rfl) ?_
            refine lv_iload C0.1 C0.2.1 dX8_bestBy_62 (lv_at hl 3 rfl) ?_
            refine lv_icmp_ge (tgt := 75) C0.1 C0.2.1 dX8_bestBy_64 (by decide) (fun c64 => ?_) (fun c64 => ?_)
            · have hco : False := absurd c64 (Int32.not_le.mpr (by rw [h_l]; exact sr_bb_lt hK_ hr_co hr_go hl_sl hye (by rcases Nat.eq_zero_or_pos i with q | q; exact absurd (by rw [h_b, q]; rfl) c57; exact q)))
              refine lv_iinc (v := (nI (i + 1))) (lv' := [(7, .int (nI (i + 1))), (9, .int ((sr_Dl kp co cn (nI i) sl) + (sr_bu kp (sr_mt kp co go cn (nI i) sl)))), (8, .int (sr_mt kp co go cn (nI i) sl)), (6, .int lx), (5, .int bx), (0, .ref (a 0)), (1, .int (nI co)), (2, .int (nI go)), (3, .int (nI cn)), (4, .int sl)]) C0.1 C0.2.1 dX8_bestBy_75 hl (k := 2) rfl (nI_1 i) (by decide) rfl (fun ls hl => ?_)
              refine lv_goto (tgt := 9) C0.1 C0.2.1 dX8_bestBy_78 (by decide) ?_
              exact ih9 (i + 1) bx lx _ (by omega) (by omega) hco.elim hco.elim (lv_sub hl [0, 3, 4, 5, 6, 7, 8, 9] rfl)
            · refine lv_iload C0.1 C0.2.1 dX8_bestBy_67 (lv_at hl 2 rfl) ?_
              refine lv_istore (lv' := [(5, .int (nI i)), (9, .int ((sr_Dl kp co cn (nI i) sl) + (sr_bu kp (sr_mt kp co go cn (nI i) sl)))), (8, .int (sr_mt kp co go cn (nI i) sl)), (7, .int (nI i)), (6, .int lx), (0, .ref (a 0)), (1, .int (nI co)), (2, .int (nI go)), (3, .int (nI cn)), (4, .int sl)]) C0.1 C0.2.1 dX8_bestBy_69 hl (by decide) rfl (fun ls hl => ?_)
              refine lv_iload C0.1 C0.2.1 dX8_bestBy_71 (lv_at hl 1 rfl) ?_
              refine lv_istore (lv' := [(6, .int ((sr_Dl kp co cn (nI i) sl) + (sr_bu kp (sr_mt kp co go cn (nI i) sl)))), (5, .int (nI i)), (9, .int ((sr_Dl kp co cn (nI i) sl) + (sr_bu kp (sr_mt kp co go cn (nI i) sl)))), (8, .int (sr_mt kp co go cn (nI i) sl)), (7, .int (nI i)), (0, .ref (a 0)), (1, .int (nI co)), (2, .int (nI go)), (3, .int (nI cn)), (4, .int sl)]) C0.1 C0.2.1 dX8_bestBy_73 hl (by decide) rfl (fun ls hl => ?_)
              refine lv_iinc (v := (nI (i + 1))) (lv' := [(7, .int (nI (i + 1))), (6, .int ((sr_Dl kp co cn (nI i) sl) + (sr_bu kp (sr_mt kp co go cn (nI i) sl)))), (5, .int (nI i)), (9, .int ((sr_Dl kp co cn (nI i) sl) + (sr_bu kp (sr_mt kp co go cn (nI i) sl)))), (8, .int (sr_mt kp co go cn (nI i) sl)), (0, .ref (a 0)), (1, .int (nI co)), (2, .int (nI go)), (3, .int (nI cn)), (4, .int sl)]) C0.1 C0.2.1 dX8_bestBy_75 hl (k := 4) rfl (nI_1 i) (by decide) rfl (fun ls hl => ?_)
              refine lv_goto (tgt := 9) C0.1 C0.2.1 dX8_bestBy_78 (by decide) ?_
              exact ih9 (i + 1) (nI i) ((sr_Dl kp co cn (nI i) sl) + (sr_bu kp (sr_mt kp co go cn (nI i) sl))) _ (by omega) (by omega) ((sr_bb_yes hye).1.symm) ((sr_bb_yes hye).2.symm) (lv_sub hl [0, 1, 2, 5, 6, 7, 8, 9] rfl)
  exact lp9 42 0 (-1) 0 _ (by omega) (by omega) rfl rfl (lv_sub hl [0, 1, 2, 3, 4, 5, 6, 7] rfl)
set_option maxRecDepth 100000 in
set_option maxHeartbeats 4000000 in
theorem cc_X8_bestNow {l : Launch} {D : va_G} {cI : ClassId} {a : Nat → Nat} (ha : ∀ i j, i < 13 → j < 13 → a i = a j → i = j) {kp cx sg : sr_M} (cn : Nat) (hK_ : sr_IK kp) (hs_cn : cn < 3) : sr_G l D (sr_tM cI) (sr_ZM) (sr_AM a) (sr_WM cI a kp cx sg) yX8_bestNow cX8_bestNow 2 (some .int) 5 127 [.ref (a 0), .int (nI cn)] (S := sr_M) (fun u => sr_RD kp u) (fun u => sr_WM cI a kp cx u) (fun u => some (.int (sn_best kp cn))) := by
  refine sr_Gie (by decide +kernel) (Nat.le_of_ble_eq_true rfl) (fun p e s m args below meth c ls Q B hret => ?_)
  obtain ⟨C0, hP, hK, hZ0, hl⟩ := B
  have hZ : sr_Zok (sr_AM a) (sr_ZM) := sr_ZMok
  have hS : va_S (sr_AM a) s.heap s.heap [] := va_S.rf
  have hl : lv_has ls 2 [(0, .ref (a 0)), (1, .int (nI cn))] := hl
  obtain ⟨H, hH⟩ : ∃ H, H = s.heap := ⟨_, rfl⟩
  have hP : va_P D vwCl (sr_WM cI a kp cx sg) H := by rw [hH]; exact hP
  have hS : va_S (sr_AM a) s.heap H [] := by rw [hH]; exact hS
  suffices hG : ∀ locs, va_S (sr_AM a) s.heap H locs → W p l e (sr_rm 5 127) s m args below meth c H locs 0 0 Q (F0 m 0 ls []) from by have h9 := hG [] hS; rw [hH] at h9; exact h9
  clear hS
  intro locs hS
  clear hH
  refine lv_aload_n C0.1 C0.2.1 dX8_bestNow_0 rfl (lv_at hl 0 rfl) ?_
  refine sr_gVi (As := []) C0 hK hP hZ (sr_Zs hZ hZ0 hS) (cc_X8_areThere ha hK_) sk_X8_areThere sv_X8_areThere sw_795 (ci := 8) rfl sr_wM0 rfl rfl hl.1 (Nat.le_of_ble_eq_true rfl) (Nat.le_of_ble_eq_true rfl) (Nat.le_of_ble_eq_true rfl) dX8_bestNow_1 ⟨Nat.zero_le _, Nat.zero_le _⟩ hS (fun sg1 H locs hRD hP hS => ?_)
  refine sr_ifeq (tgt := 35) C0 dX8_bestNow_4 (by decide) (fun c4 => ?_) (fun c4 => ?_)
  · refine lv_bipush (v := (-3)) C0.1 C0.2.1 dX8_bestNow_35 (by decide) ?_
    exact hret _ _ _ sg1 _ _ _ dX8_bestNow_37 hP hS rfl (by unfold sn_best; rw [if_pos c4]) hRD
  · have hT : sr_th kp := c4
    refine lv_aload_n C0.1 C0.2.1 dX8_bestNow_7 rfl (lv_at hl 0 rfl) ?_
    refine lv_aload_n C0.1 C0.2.1 dX8_bestNow_8 rfl (lv_at hl 0 rfl) ?_
    refine sr_get (v := .ref (a 7)) C0 hK hP sr_inX8 sr_wM0 rfl 10 (by decide) sw_620 rfl dX8_bestNow_9 ?_
    refine lv_iload_n C0.1 C0.2.1 dX8_bestNow_12 rfl (lv_at hl 1 rfl) ?_
    refine sr_ald (k := cn) C0 hK rfl hP sr_wM7 (nI_clamp (by omega)) (vp_in_nI (by omega) (by omega)) dX8_bestNow_13 ?_
    refine sr_chi (sr_IK_ru hK_ (by omega)) ?_
    have := sr_IK_ru5 hK_ (s := cn) (by omega)
    refine lv_aload_n C0.1 C0.2.1 dX8_bestNow_14 rfl (lv_at hl 0 rfl) ?_
    refine sr_get (v := .ref (a 7)) C0 hK hP sr_inX8 sr_wM0 rfl 10 (by decide) sw_620 rfl dX8_bestNow_15 ?_
    refine lv_iload_n C0.1 C0.2.1 dX8_bestNow_18 rfl (lv_at hl 1 rfl) ?_
    refine lv_iconst (v := 1) C0.1 C0.2.1 dX8_bestNow_19 (by decide) ?_
    refine lv_iadd C0.1 C0.2.1 dX8_bestNow_20 ?_
    refine sr_chi (nI_add cn 1) ?_
    refine sr_ald (k := cn + 1) C0 hK rfl hP sr_wM7 (nI_clamp (by omega)) (vp_in_nI (by omega) (by omega)) dX8_bestNow_21 ?_
    refine sr_chi (sr_IK_ru hK_ (by omega)) ?_
    have := sr_IK_ru5 hK_ (s := (cn + 1)) (by omega)
    refine lv_iload_n C0.1 C0.2.1 dX8_bestNow_22 rfl (lv_at hl 1 rfl) ?_
    refine lv_aload_n C0.1 C0.2.1 dX8_bestNow_23 rfl (lv_at hl 0 rfl) ?_
    refine sr_get (v := .ref (a 10)) C0 hK hP sr_inX8 sr_wM0 rfl 13 (by decide) sw_623 rfl dX8_bestNow_24 ?_
    refine lv_iload_n C0.1 C0.2.1 dX8_bestNow_27 rfl (lv_at hl 1 rfl) ?_
    refine sr_ald (k := cn) C0 hK rfl hP sr_wM10 (nI_clamp (by omega)) (vp_in_nI (by omega) (by omega)) dX8_bestNow_28 ?_
    refine sr_pVi (As := [.int (nI (sr_ru kp cn)), .int (nI (sr_ru kp (cn + 1))), .int (nI cn), .int (kp 4 cn)]) C0 hK hP hZ (sr_Zs hZ hZ0 hS) (cc_X8_bestBy ha (sr_ru kp cn) (sr_ru kp (cn + 1)) cn (kp 4 cn) hK_ hRD (by first | assumption | omega | exact sr_th_at hT (by omega)) (by first | assumption | omega | exact sr_th_at hT (by omega)) (by omega) (by first | assumption | exact sr_IK_sl hK_ (by omega) | exact sr_bs0)) sk_X8_bestBy sv_X8_bestBy sw_899 (ci := 8) rfl sr_wM0 rfl rfl hl.1 (Nat.le_of_ble_eq_true rfl) (Nat.le_of_ble_eq_true rfl) (Nat.le_of_ble_eq_true rfl) dX8_bestNow_29 ⟨Nat.zero_le _, Nat.zero_le _⟩ ?_
    refine lv_goto (tgt := 37) C0.1 C0.2.1 dX8_bestNow_32 (by decide) ?_
    exact hret _ _ _ sg1 _ _ _ dX8_bestNow_37 hP hS rfl (by unfold sn_best; rw [if_neg (fun q => q c4)]) hRD
set_option maxRecDepth 100000 in
set_option maxHeartbeats 4000000 in
theorem cc_X8_best {l : Launch} {D : va_G} {cI : ClassId} {a : Nat → Nat} (ha : ∀ i j, i < 13 → j < 13 → a i = a j → i = j) {kp cx sg : sr_M} (c_ : Int32) (hK_ : sr_IK kp) : sr_G l D (sr_tM cI) (sr_ZM) (sr_AM a) (sr_WM cI a kp cx sg) yX8_best cX8_best 2 (some .int) 6 148 [.ref (a 0), .int c_] (S := sr_M) (fun u => True) (fun u => sr_WM cI a kp cx u) (fun u => some (.int (sp_best kp c_))) := by
  refine sr_Gie (by decide +kernel) (Nat.le_of_ble_eq_true rfl) (fun p e s m args below meth c ls Q B hret => ?_)
  obtain ⟨C0, hP, hK, hZ0, hl⟩ := B
  have hZ : sr_Zok (sr_AM a) (sr_ZM) := sr_ZMok
  have hS : va_S (sr_AM a) s.heap s.heap [] := va_S.rf
  have hl : lv_has ls 2 [(0, .ref (a 0)), (1, .int c_)] := hl
  obtain ⟨H, hH⟩ : ∃ H, H = s.heap := ⟨_, rfl⟩
  have hP : va_P D vwCl (sr_WM cI a kp cx sg) H := by rw [hH]; exact hP
  have hS : va_S (sr_AM a) s.heap H [] := by rw [hH]; exact hS
  suffices hG : ∀ locs, va_S (sr_AM a) s.heap H locs → W p l e (sr_rm 6 148) s m args below meth c H locs 0 0 Q (F0 m 0 ls []) from by have h9 := hG [] hS; rw [hH] at h9; exact h9
  clear hS
  intro locs hS
  clear hH
  refine lv_iload_n C0.1 C0.2.1 dX8_best_0 rfl (lv_at hl 1 rfl) ?_
  refine sr_pSi (As := [.int c_]) C0 hK hP hZ (sr_Zs hZ hZ0 hS) (cc_X8_isChange ha c_) sk_X8_isChange (ss_X8_isChange) sw_761 rfl rfl hl.1 (Nat.le_of_ble_eq_true rfl) (Nat.le_of_ble_eq_true rfl) (Nat.le_of_ble_eq_true rfl) dX8_best_1 ⟨Nat.zero_le _, Nat.zero_le _⟩ ?_
  refine sr_ifeq (tgt := 15) C0 dX8_best_4 (by decide) (fun c4 => ?_) (fun c4 => ?_)
  · refine lv_bipush (v := (-2)) C0.1 C0.2.1 dX8_best_15 (by decide) ?_
    exact hret _ _ _ sg _ _ _ dX8_best_17 hP hS rfl (by unfold sp_best; rw [if_pos (Classical.not_not.mp c4)]) trivial
  · obtain ⟨jc, hjc, rfl⟩ := sr_rg2 c4
    refine lv_aload_n C0.1 C0.2.1 dX8_best_7 rfl (lv_at hl 0 rfl) ?_
    refine lv_iload_n C0.1 C0.2.1 dX8_best_8 rfl (lv_at hl 1 rfl) ?_
    refine sr_gVi (As := [.int (nI jc)]) C0 hK hP hZ (sr_Zs hZ hZ0 hS) (cc_X8_bestNow ha jc hK_ (by omega)) sk_X8_bestNow sv_X8_bestNow sw_895 (ci := 8) rfl sr_wM0 rfl rfl hl.1 (Nat.le_of_ble_eq_true rfl) (Nat.le_of_ble_eq_true rfl) (Nat.le_of_ble_eq_true rfl) dX8_best_9 ⟨Nat.zero_le _, Nat.zero_le _⟩ hS (fun sg1 H locs hRD hP hS => ?_)
    refine lv_goto (tgt := 17) C0.1 C0.2.1 dX8_best_12 (by decide) ?_
    exact hret _ _ _ sg1 _ _ _ dX8_best_17 hP hS rfl (by unfold sp_best; (try rw [nI_clamp (n := jc) (by omega)]); rw [if_neg c4]; rfl) trivial
