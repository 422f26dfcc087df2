set_option maxRecDepth 100000 in
set_option maxHeartbeats 4000000 in
theorem cc_X8_takes {l : Launch} {D : va_G} {cI : ClassId} {a : Nat → Nat} (ha : ∀ i j, i < 13 → j < 13 → a i = a j → i = j) {kp cx sg : sr_M} (r_ : Int32) (s_ : Int32) (y_ : Int32) (hK_ : sr_IK kp) : sr_G l D (sr_tM cI) (sr_ZM) (sr_AM a) (sr_WM cI a kp cx sg) yX8_takes cX8_takes 4 (some .int) 3 70 [.ref (a 0), .int r_, .int s_, .int y_] (S := sr_M) (fun u => True) (fun u => sr_WM cI a kp cx u) (fun u => some (.int (sp_takes kp r_ s_ y_))) := by
  refine sr_Gie (by decide +kernel) (Nat.le_of_ble_eq_true rfl) (fun p e s m args below meth c ls Q B hret => ?_)
  obtain ⟨C0, hP, hK, hZ0, hl⟩ := B
  have hZ : sr_Zok (sr_AM a) (sr_ZM) := sr_ZMok
  have hS : va_S (sr_AM a) s.heap s.heap [] := va_S.rf
  have hl : lv_has ls 4 [(0, .ref (a 0)), (1, .int r_), (2, .int s_), (3, .int y_)] := hl
  obtain ⟨H, hH⟩ : ∃ H, H = s.heap := ⟨_, rfl⟩
  have hP : va_P D vwCl (sr_WM cI a kp cx sg) H := by rw [hH]; exact hP
  have hS : va_S (sr_AM a) s.heap H [] := by rw [hH]; exact hS
  suffices hG : ∀ locs, va_S (sr_AM a) s.heap H locs → W p l e (sr_rm 3 70) s m args below meth c H locs 0 0 Q (F0 m 0 ls []) from by have h9 := hG [] hS; rw [hH] at h9; exact h9
  clear hS
  intro locs hS
  clear hH
  refine lv_aload_n C0.1 C0.2.1 dX8_takes_0 rfl (lv_at hl 0 rfl) ?_
  refine sr_gVi (As := []) C0 hK hP hZ (sr_Zs hZ hZ0 hS) (cc_X8_reads ha hK_) sk_X8_reads sv_X8_reads sw_719 (ci := 8) rfl sr_wM0 rfl rfl hl.1 (Nat.le_of_ble_eq_true rfl) (Nat.le_of_ble_eq_true rfl) (Nat.le_of_ble_eq_true rfl) dX8_takes_1 ⟨Nat.zero_le _, Nat.zero_le _⟩ hS (fun sg1 H locs hRD hP hS => ?_)
  refine lv_pop C0.1 C0.2.1 dX8_takes_4 rfl ?_
  refine lv_iload_n C0.1 C0.2.1 dX8_takes_5 rfl (lv_at hl 1 rfl) ?_
  refine lv_i2l C0.1 C0.2.1 dX8_takes_6 rfl ?_
  refine lv_lconst (v := 0) C0.1 C0.2.1 dX8_takes_7 (by decide) ?_
  refine lv_aload_n C0.1 C0.2.1 dX8_takes_8 rfl (lv_at hl 0 rfl) ?_
  refine sr_get (v := .int (sg1 1 1)) C0 hK hP sr_inX8 sr_wM0 rfl 8 (by decide) sw_618 rfl dX8_takes_9 ?_
  refine sr_chi hRD.1 ?_
  have := sr_cnt5 kp
  refine lv_iconst (v := 1) C0.1 C0.2.1 dX8_takes_12 (by decide) ?_
  refine lv_isub C0.1 C0.2.1 dX8_takes_13 ?_
  refine lv_i2l C0.1 C0.2.1 dX8_takes_14 rfl ?_
  refine sr_pSi (As := [.long ((r_).toInt64), .long 0, .long (((nI (sr_cnt kp)) - 1).toInt64)]) C0 hK hP hZ (sr_Zs hZ hZ0 hS) (cc_X8_inI ha (r_) (0 : Int32) ((nI (sr_cnt kp)) - 1) rfl (by decide) rfl) sk_X8_in (ss_X8_in) sw_670 rfl rfl hl.1 (Nat.le_of_ble_eq_true rfl) (Nat.le_of_ble_eq_true rfl) (Nat.le_of_ble_eq_true rfl) dX8_takes_15 ⟨Nat.zero_le _, Nat.zero_le _⟩ ?_
  refine sr_ifeq (tgt := 50) C0 dX8_takes_18 (by decide) (fun c18 => ?_) (fun c18 => ?_)
  · refine lv_bipush (v := (-2)) C0.1 C0.2.1 dX8_takes_50 (by decide) ?_
    exact hret _ _ _ sg1 _ _ _ dX8_takes_52 hP hS rfl (by unfold sp_takes; rw [if_pos (Classical.not_not.mp c18)]) trivial
  · obtain ⟨jr, hjr, rfl⟩ := sr_rgc (sr_cnt5 kp) c18
    have hc5 := sr_cnt5 kp
    refine lv_iload_n C0.1 C0.2.1 dX8_takes_21 rfl (lv_at hl 2 rfl) ?_
    refine sr_pSi (As := [.int s_]) C0 hK hP hZ (sr_Zs hZ hZ0 hS) (cc_X8_isStretch ha s_) sk_X8_isStretch (ss_X8_isStretch) sw_744 rfl rfl hl.1 (Nat.le_of_ble_eq_true rfl) (Nat.le_of_ble_eq_true rfl) (Nat.le_of_ble_eq_true rfl) dX8_takes_22 ⟨Nat.zero_le _, Nat.zero_le _⟩ ?_
    refine sr_ifeq (tgt := 50) C0 dX8_takes_25 (by decide) (fun c25 => ?_) (fun c25 => ?_)
    · refine lv_bipush (v := (-2)) C0.1 C0.2.1 dX8_takes_50 (by decide) ?_
      exact hret _ _ _ sg1 _ _ _ dX8_takes_52 hP hS rfl (by unfold sp_takes; (try rw [nI_clamp (n := jr) (by omega)]); rw [if_neg c18, if_pos (Classical.not_not.mp c25)]) trivial
    · obtain ⟨js, hjs, rfl⟩ := sr_rg3 c25
      refine lv_iload_n C0.1 C0.2.1 dX8_takes_28 rfl (lv_at hl 3 rfl) ?_
      refine lv_i2l C0.1 C0.2.1 dX8_takes_29 rfl ?_
      refine lv_lconst (v := 0) C0.1 C0.2.1 dX8_takes_30 (by decide) ?_
      refine lv_ldc2 (v := 100) C0.1 C0.2.1 C0.2.2.2.1 (C0.2.2.2.2 _ sw_780) dX8_takes_31 ?_
      refine sr_pSi (As := [.long ((y_).toInt64), .long 0, .long 100]) C0 hK hP hZ (sr_Zs hZ hZ0 hS) (cc_X8_inI ha (y_) (0 : Int32) (100 : Int32) rfl (by decide) (by decide)) sk_X8_in (ss_X8_in) sw_670 rfl rfl hl.1 (Nat.le_of_ble_eq_true rfl) (Nat.le_of_ble_eq_true rfl) (Nat.le_of_ble_eq_true rfl) dX8_takes_34 ⟨Nat.zero_le _, Nat.zero_le _⟩ ?_
      refine sr_ifeq (tgt := 50) C0 dX8_takes_37 (by decide) (fun c37 => ?_) (fun c37 => ?_)
      · refine lv_bipush (v := (-2)) C0.1 C0.2.1 dX8_takes_50 (by decide) ?_
        exact hret _ _ _ sg1 _ _ _ dX8_takes_52 hP hS rfl (by unfold sp_takes; (try rw [nI_clamp (n := jr) (by omega)]); (try rw [nI_clamp (n := js) (by omega)]); rw [if_neg c18, if_neg c25, if_pos (Classical.not_not.mp c37)]) trivial
      · refine lv_aload_n C0.1 C0.2.1 dX8_takes_40 rfl (lv_at hl 0 rfl) ?_
        refine lv_iload_n C0.1 C0.2.1 dX8_takes_41 rfl (lv_at hl 1 rfl) ?_
        refine lv_iload_n C0.1 C0.2.1 dX8_takes_42 rfl (lv_at hl 2 rfl) ?_
        refine lv_iload_n C0.1 C0.2.1 dX8_takes_43 rfl (lv_at hl 3 rfl) ?_
        refine sr_pVi (As := [.int (nI jr), .int (nI js), .int y_]) C0 hK hP hZ (sr_Zs hZ hZ0 hS) (cc_X8_takesOf ha jr js y_ hRD (by first | assumption | omega | exact sr_th_at hT (by omega)) (by omega)) sk_X8_takesOf sv_X8_takesOf sw_781 (ci := 8) rfl sr_wM0 rfl rfl hl.1 (Nat.le_of_ble_eq_true rfl) (Nat.le_of_ble_eq_true rfl) (Nat.le_of_ble_eq_true rfl) dX8_takes_44 ⟨Nat.zero_le _, Nat.zero_le _⟩ ?_
        refine lv_goto (tgt := 52) C0.1 C0.2.1 dX8_takes_47 (by decide) ?_
        exact hret _ _ _ sg1 _ _ _ dX8_takes_52 hP hS rfl (by unfold sp_takes; (try rw [nI_clamp (n := jr) (by omega)]); (try rw [nI_clamp (n := js) (by omega)]); rw [if_neg c18, if_neg c25, if_neg c37]) trivial
set_option maxRecDepth 100000 in
set_option maxHeartbeats 4000000 in
theorem cc_X8_timeOf {l : Launch} {D : va_G} {cI : ClassId} {a : Nat → Nat} (ha : ∀ i j, i < 13 → j < 13 → a i = a j → i = j) {kp cx sg : sr_M} (hK_ : sr_IK kp) (hRD : sr_RD kp sg) (hT : sr_th kp) : sr_P l D (sr_tM cI) (sr_ZM) (sr_WM cI a kp cx sg) yX8_timeOf cX8_timeOf 4 (some .int) 5 121 [.ref (a 0)] (some (.int (sr_ti kp (kp 4)))) := by
  refine sr_Pie (by decide +kernel) (Nat.le_of_ble_eq_true rfl) (fun p e s m args below meth c ls Q B hret => ?_)
  obtain ⟨C0, hP, hK, hZ0, hl⟩ := B
  have hZ : sr_Zok (sr_AM a) (sr_ZM) := sr_ZMok
  have hS : va_S (sr_AM a) s.heap s.heap [] := va_S.rf
  have hl : lv_has ls 4 [(0, .ref (a 0))] := hl
  have hf4 : ∀ c, c < 3 → sr_bs (kp 4 c) := fun c hc => sr_IK_sl hK_ hc
  refine lv_aload_n C0.1 C0.2.1 dX8_timeOf_0 rfl (lv_at hl 0 rfl) ?_
  refine lv_iconst (v := 3) C0.1 C0.2.1 dX8_timeOf_1 (by decide) ?_
  refine sr_pVi (As := [.int 3]) C0 hK hP hZ hZ0 (cc_X8_goesOff ha 3 hK_ hRD hT (by omega)) sk_X8_goesOff sv_X8_goesOff sw_799 (ci := 8) rfl sr_wM0 rfl rfl hl.1 (Nat.le_of_ble_eq_true rfl) (Nat.le_of_ble_eq_true rfl) (Nat.le_of_ble_eq_true rfl) dX8_timeOf_2 ⟨Nat.zero_le _, Nat.zero_le _⟩ ?_
  refine lv_aload_n C0.1 C0.2.1 dX8_timeOf_5 rfl (lv_at hl 0 rfl) ?_
  refine lv_aload_n C0.1 C0.2.1 dX8_timeOf_6 rfl (lv_at hl 0 rfl) ?_
  refine sr_get (v := .ref (a 7)) C0 hK hP sr_inX8 sr_wM0 rfl 10 (by decide) sw_620 rfl dX8_timeOf_7 ?_
  refine lv_iconst (v := 3) C0.1 C0.2.1 dX8_timeOf_10 (by decide) ?_
  refine sr_ald (k := 3) C0 hK rfl hP sr_wM7 (by decide) (sr_inc (by decide)) dX8_timeOf_11 ?_
  refine sr_chi (sr_IK_ru hK_ (by omega)) ?_
  have := sr_IK_ru5 hK_ (s := 3) (by omega)
  refine lv_iconst (v := 3) C0.1 C0.2.1 dX8_timeOf_12 (by decide) ?_
  refine lv_bipush (v := 100) C0.1 C0.2.1 dX8_timeOf_13 (by decide) ?_
  refine sr_pVi (As := [.int (nI (sr_ru kp 3)), .int 3, .int 100]) C0 hK hP hZ hZ0 (cc_X8_takesOf ha (sr_ru kp 3) 3 (100) hRD (by first | assumption | omega | exact sr_th_at hT (by omega)) (by omega)) sk_X8_takesOf sv_X8_takesOf sw_781 (ci := 8) rfl sr_wM0 rfl rfl hl.1 (Nat.le_of_ble_eq_true rfl) (Nat.le_of_ble_eq_true rfl) (Nat.le_of_ble_eq_true rfl) dX8_timeOf_15 ⟨Nat.zero_le _, Nat.zero_le _⟩ ?_
  refine lv_iadd C0.1 C0.2.1 dX8_timeOf_18 ?_
  refine lv_istore_n (lv' := [(1, .int ((sr_gs kp 3) + (sr_T kp (sr_ru kp 3) 3 100))), (0, .ref (a 0))]) C0.1 C0.2.1 dX8_timeOf_19 rfl hl (by decide) rfl (fun ls hl => ?_)
  refine lv_iconst (v := 0) C0.1 C0.2.1 dX8_timeOf_20 (by decide) ?_
  refine lv_istore_n (lv' := [(2, .int 0), (1, .int ((sr_gs kp 3) + (sr_T kp (sr_ru kp 3) 3 100))), (0, .ref (a 0))]) C0.1 C0.2.1 dX8_timeOf_21 rfl hl (by decide) rfl (fun ls hl => ?_)
  refine lv_iload_n C0.1 C0.2.1 dX8_timeOf_22 rfl (lv_at hl 0 rfl) ?_
  refine lv_iconst (v := 3) C0.1 C0.2.1 dX8_timeOf_23 (by decide) ?_
  refine lv_icmp_ge (tgt := 75) C0.1 C0.2.1 dX8_timeOf_24 (by decide) (fun q => absurd q (by decide)) (fun _ => ?_)
  refine lv_aload_n C0.1 C0.2.1 dX8_timeOf_27 rfl (lv_at hl 2 rfl) ?_
  refine lv_iload_n C0.1 C0.2.1 dX8_timeOf_28 rfl (lv_at hl 0 rfl) ?_
  refine lv_aload_n C0.1 C0.2.1 dX8_timeOf_29 rfl (lv_at hl 2 rfl) ?_
  refine sr_get (v := .ref (a 9)) C0 hK hP sr_inX8 sr_wM0 rfl 12 (by decide) sw_622 rfl dX8_timeOf_30 ?_
  refine lv_iload_n C0.1 C0.2.1 dX8_timeOf_33 rfl (lv_at hl 0 rfl) ?_
  refine sr_ald (k := 0) C0 hK rfl hP sr_wM9 (by decide) (sr_inc (by decide)) dX8_timeOf_34 ?_
  refine lv_aload_n C0.1 C0.2.1 dX8_timeOf_35 rfl (lv_at hl 2 rfl) ?_
  refine sr_get (v := .ref (a 10)) C0 hK hP sr_inX8 sr_wM0 rfl 13 (by decide) sw_623 rfl dX8_timeOf_36 ?_
  refine lv_iload_n C0.1 C0.2.1 dX8_timeOf_39 rfl (lv_at hl 0 rfl) ?_
  refine sr_ald (k := 0) C0 hK rfl hP sr_wM10 (by decide) (sr_inc (by decide)) dX8_timeOf_40 ?_
  refine sr_pVi (As := [.int 0, .int (kp 3 0), .int (kp 4 0)]) C0 hK hP hZ hZ0 (cc_X8_meetOf ha 0 (kp 3 0) (kp 4 0) hK_ hRD hT (by omega)) sk_X8_meetOf sv_X8_meetOf sw_815 (ci := 8) rfl sr_wM0 rfl rfl hl.1 (Nat.le_of_ble_eq_true rfl) (Nat.le_of_ble_eq_true rfl) (Nat.le_of_ble_eq_true rfl) dX8_timeOf_41 ⟨Nat.zero_le _, Nat.zero_le _⟩ ?_
  refine lv_istore_n (lv' := [(3, .int (sr_mt kp (sr_ru kp 0) (sr_ru kp (0 + 1)) 0 (kp 3 0) (kp 4 0))), (2, .int 0), (1, .int ((sr_gs kp 3) + (sr_T kp (sr_ru kp 3) 3 100))), (0, .ref (a 0))]) C0.1 C0.2.1 dX8_timeOf_44 rfl hl (by decide) rfl (fun ls hl => ?_)
  refine lv_iload_n C0.1 C0.2.1 dX8_timeOf_45 rfl (lv_at hl 0 rfl) ?_
  refine lv_iconst (v := (-1)) C0.1 C0.2.1 dX8_timeOf_46 (by decide) ?_
  refine lv_icmp_ne (tgt := 52) C0.1 C0.2.1 dX8_timeOf_47 (by decide) (fun c47 => ?_) (fun c47 => ?_)
  · refine lv_iload_n C0.1 C0.2.1 dX8_timeOf_52 rfl (lv_at hl 2 rfl) ?_
    refine lv_iload_n C0.1 C0.2.1 dX8_timeOf_53 rfl (lv_at hl 0 rfl) ?_
    have hJ67 : ∀ (k67_0 : Int32), k67_0 = (if (sr_mt kp (sr_ru kp 0) (sr_ru kp (0 + 1)) 0 (kp 3 0) (kp 4 0)) = 0 then (kp 2 5) else 0) → W p l e (sr_rm 5 121) s m args below meth c s.heap [] 0 0 Q (F0 m 67 ls [.int k67_0, .int ((sr_gs kp 3) + (sr_T kp (sr_ru kp 3) 3 100))]) := by
      intro k67_0 e_k67_0
      subst e_k67_0
      refine lv_iadd C0.1 C0.2.1 dX8_timeOf_67 ?_
      refine lv_istore_n (lv' := [(1, .int (((sr_gs kp 3) + (sr_T kp (sr_ru kp 3) 3 100)) + (if (sr_mt kp (sr_ru kp 0) (sr_ru kp (0 + 1)) 0 (kp 3 0) (kp 4 0)) = 0 then (kp 2 5) else 0))), (3, .int (sr_mt kp (sr_ru kp 0) (sr_ru kp (0 + 1)) 0 (kp 3 0) (kp 4 0))), (2, .int 0), (0, .ref (a 0))]) C0.1 C0.2.1 dX8_timeOf_68 rfl hl (by decide) rfl (fun ls hl => ?_)
      refine lv_iinc (v := 1) (lv' := [(2, .int 1), (1, .int (((sr_gs kp 3) + (sr_T kp (sr_ru kp 3) 3 100)) + (if (sr_mt kp (sr_ru kp 0) (sr_ru kp (0 + 1)) 0 (kp 3 0) (kp 4 0)) = 0 then (kp 2 5) else 0))), (3, .int (sr_mt kp (sr_ru kp 0) (sr_ru kp (0 + 1)) 0 (kp 3 0) (kp 4 0))), (0, .ref (a 0))]) C0.1 C0.2.1 dX8_timeOf_69 hl (k := 2) rfl (by decide) (by decide) rfl (fun ls hl => ?_)
      refine lv_goto (tgt := 22) C0.1 C0.2.1 dX8_timeOf_72 (by decide) ?_
      refine lv_iload_n C0.1 C0.2.1 dX8_timeOf_22 rfl (lv_at hl 0 rfl) ?_
      refine lv_iconst (v := 3) C0.1 C0.2.1 dX8_timeOf_23 (by decide) ?_
      refine lv_icmp_ge (tgt := 75) C0.1 C0.2.1 dX8_timeOf_24 (by decide) (fun q => absurd q (by decide)) (fun _ => ?_)
      refine lv_aload_n C0.1 C0.2.1 dX8_timeOf_27 rfl (lv_at hl 3 rfl) ?_
      refine lv_iload_n C0.1 C0.2.1 dX8_timeOf_28 rfl (lv_at hl 0 rfl) ?_
      refine lv_aload_n C0.1 C0.2.1 dX8_timeOf_29 rfl (lv_at hl 3 rfl) ?_
      refine sr_get (v := .ref (a 9)) C0 hK hP sr_inX8 sr_wM0 rfl 12 (by decide) sw_622 rfl dX8_timeOf_30 ?_
      refine lv_iload_n C0.1 C0.2.1 dX8_timeOf_33 rfl (lv_at hl 0 rfl) ?_
      refine sr_ald (k := 1) C0 hK rfl hP sr_wM9 (by decide) (sr_inc (by decide)) dX8_timeOf_34 ?_
      refine lv_aload_n C0.1 C0.2.1 dX8_timeOf_35 rfl (lv_at hl 3 rfl) ?_
      refine sr_get (v := .ref (a 10)) C0 hK hP sr_inX8 sr_wM0 rfl 13 (by decide) sw_623 rfl dX8_timeOf_36 ?_
      refine lv_iload_n C0.1 C0.2.1 dX8_timeOf_39 rfl (lv_at hl 0 rfl) ?_
      refine sr_ald (k := 1) C0 hK rfl hP sr_wM10 (by decide) (sr_inc (by decide)) dX8_timeOf_40 ?_
      refine sr_pVi (As := [.int 1, .int (kp 3 1), .int (kp 4 1)]) C0 hK hP hZ hZ0 (cc_X8_meetOf ha 1 (kp 3 1) (kp 4 1) hK_ hRD hT (by omega)) sk_X8_meetOf sv_X8_meetOf sw_815 (ci := 8) rfl sr_wM0 rfl rfl hl.1 (Nat.le_of_ble_eq_true rfl) (Nat.le_of_ble_eq_true rfl) (Nat.le_of_ble_eq_true rfl) dX8_timeOf_41 ⟨Nat.zero_le _, Nat.zero_le _⟩ ?_
      refine lv_istore_n (lv' := [(3, .int (sr_mt kp (sr_ru kp 1) (sr_ru kp (1 + 1)) 1 (kp 3 1) (kp 4 1))), (2, .int 1), (1, .int (((sr_gs kp 3) + (sr_T kp (sr_ru kp 3) 3 100)) + (if (sr_mt kp (sr_ru kp 0) (sr_ru kp (0 + 1)) 0 (kp 3 0) (kp 4 0)) = 0 then (kp 2 5) else 0))), (0, .ref (a 0))]) C0.1 C0.2.1 dX8_timeOf_44 rfl hl (by decide) rfl (fun ls hl => ?_)
      refine lv_iload_n C0.1 C0.2.1 dX8_timeOf_45 rfl (lv_at hl 0 rfl) ?_
      refine lv_iconst (v := (-1)) C0.1 C0.2.1 dX8_timeOf_46 (by decide) ?_
      refine lv_icmp_ne (tgt := 52) C0.1 C0.2.1 dX8_timeOf_47 (by decide) (fun c47_2 => ?_) (fun c47_2 => ?_)
      · refine lv_iload_n C0.1 C0.2.1 dX8_timeOf_52 rfl (lv_at hl 2 rfl) ?_
        refine lv_iload_n C0.1 C0.2.1 dX8_timeOf_53 rfl (lv_at hl 0 rfl) ?_
        have hJ67_2 : ∀ (k67_0 : Int32), k67_0 = (if (sr_mt kp (sr_ru kp 1) (sr_ru kp (1 + 1)) 1 (kp 3 1) (kp 4 1)) = 0 then (kp 2 5) else 0) → W p l e (sr_rm 5 121) s m args below meth c s.heap [] 0 0 Q (F0 m 67 ls [.int k67_0, .int (((sr_gs kp 3) + (sr_T kp (sr_ru kp 3) 3 100)) + (if (sr_mt kp (sr_ru kp 0) (sr_ru kp (0 + 1)) 0 (kp 3 0) (kp 4 0)) = 0 then (kp 2 5) else 0))]) := by
          intro k67_0 e_k67_0
          subst e_k67_0
          refine lv_iadd C0.1 C0.2.1 dX8_timeOf_67 ?_
          refine lv_istore_n (lv' := [(1, .int ((((sr_gs kp 3) + (sr_T kp (sr_ru kp 3) 3 100)) + (if (sr_mt kp (sr_ru kp 0) (sr_ru kp (0 + 1)) 0 (kp 3 0) (kp 4 0)) = 0 then (kp 2 5) else 0)) + (if (sr_mt kp (sr_ru kp 1) (sr_ru kp (1 + 1)) 1 (kp 3 1) (kp 4 1)) = 0 then (kp 2 5) else 0))), (3, .int (sr_mt kp (sr_ru kp 1) (sr_ru kp (1 + 1)) 1 (kp 3 1) (kp 4 1))), (2, .int 1), (0, .ref (a 0))]) C0.1 C0.2.1 dX8_timeOf_68 rfl hl (by decide) rfl (fun ls hl => ?_)
          refine lv_iinc (v := 2) (lv' := [(2, .int 2), (1, .int ((((sr_gs kp 3) + (sr_T kp (sr_ru kp 3) 3 100)) + (if (sr_mt kp (sr_ru kp 0) (sr_ru kp (0 + 1)) 0 (kp 3 0) (kp 4 0)) = 0 then (kp 2 5) else 0)) + (if (sr_mt kp (sr_ru kp 1) (sr_ru kp (1 + 1)) 1 (kp 3 1) (kp 4 1)) = 0 then (kp 2 5) else 0))), (3, .int (sr_mt kp (sr_ru kp 1) (sr_ru kp (1 + 1)) 1 (kp 3 1) (kp 4 1))), (0, .ref (a 0))]) C0.1 C0.2.1 dX8_timeOf_69 hl (k := 2) rfl (by decide) (by decide) rfl (fun ls hl => ?_)
          refine lv_goto (tgt := 22) C0.1 C0.2.1 dX8_timeOf_72 (by decide) ?_
          refine lv_iload_n C0.1 C0.2.1 dX8_timeOf_22 rfl (lv_at hl 0 rfl) ?_
          refine lv_iconst (v := 3) C0.1 C0.2.1 dX8_timeOf_23 (by decide) ?_
          refine lv_icmp_ge (tgt := 75) C0.1 C0.2.1 dX8_timeOf_24 (by decide) (fun q => absurd q (by decide)) (fun _ => ?_)
          refine lv_aload_n C0.1 C0.2.1 dX8_timeOf_27 rfl (lv_at hl 3 rfl) ?_
          refine lv_iload_n C0.1 C0.2.1 dX8_timeOf_28 rfl (lv_at hl 0 rfl) ?_
          refine lv_aload_n C0.1 C0.2.1 dX8_timeOf_29 rfl (lv_at hl 3 rfl) ?_
          refine sr_get (v := .ref (a 9)) C0 hK hP sr_inX8 sr_wM0 rfl 12 (by decide) sw_622 rfl dX8_timeOf_30 ?_
          refine lv_iload_n C0.1 C0.2.1 dX8_timeOf_33 rfl (lv_at hl 0 rfl) ?_
          refine sr_ald (k := 2) C0 hK rfl hP sr_wM9 (by decide) (sr_inc (by decide)) dX8_timeOf_34 ?_
          refine lv_aload_n C0.1 C0.2.1 dX8_timeOf_35 rfl (lv_at hl 3 rfl) ?_
          refine sr_get (v := .ref (a 10)) C0 hK hP sr_inX8 sr_wM0 rfl 13 (by decide) sw_623 rfl dX8_timeOf_36 ?_
          refine lv_iload_n C0.1 C0.2.1 dX8_timeOf_39 rfl (lv_at hl 0 rfl) ?_
          refine sr_ald (k := 2) C0 hK rfl hP sr_wM10 (by decide) (sr_inc (by decide)) dX8_timeOf_40 ?_
          refine sr_pVi (As := [.int 2, .int (kp 3 2), .int (kp 4 2)]) C0 hK hP hZ hZ0 (cc_X8_meetOf ha 2 (kp 3 2) (kp 4 2) hK_ hRD hT (by omega)) sk_X8_meetOf sv_X8_meetOf sw_815 (ci := 8) rfl sr_wM0 rfl rfl hl.1 (Nat.le_of_ble_eq_true rfl) (Nat.le_of_ble_eq_true rfl) (Nat.le_of_ble_eq_true rfl) dX8_timeOf_41 ⟨Nat.zero_le _, Nat.zero_le _⟩ ?_
          refine lv_istore_n (lv' := [(3, .int (sr_mt kp (sr_ru kp 2) (sr_ru kp (2 + 1)) 2 (kp 3 2) (kp 4 2))), (2, .int 2), (1, .int ((((sr_gs kp 3) + (sr_T kp (sr_ru kp 3) 3 100)) + (if (sr_mt kp (sr_ru kp 0) (sr_ru kp (0 + 1)) 0 (kp 3 0) (kp 4 0)) = 0 then (kp 2 5) else 0)) + (if (sr_mt kp (sr_ru kp 1) (sr_ru kp (1 + 1)) 1 (kp 3 1) (kp 4 1)) = 0 then (kp 2 5) else 0))), (0, .ref (a 0))]) C0.1 C0.2.1 dX8_timeOf_44 rfl hl (by decide) rfl (fun ls hl => ?_)
          refine lv_iload_n C0.1 C0.2.1 dX8_timeOf_45 rfl (lv_at hl 0 rfl) ?_
          refine lv_iconst (v := (-1)) C0.1 C0.2.1 dX8_timeOf_46 (by decide) ?_
          refine lv_icmp_ne (tgt := 52) C0.1 C0.2.1 dX8_timeOf_47 (by decide) (fun c47_3 => ?_) (fun c47_3 => ?_)
          · refine lv_iload_n C0.1 C0.2.1 dX8_timeOf_52 rfl (lv_at hl 2 rfl) ?_
            refine lv_iload_n C0.1 C0.2.1 dX8_timeOf_53 rfl (lv_at hl 0 rfl) ?_
            have hJ67_3 : ∀ (k67_0 : Int32), k67_0 = (if (sr_mt kp (sr_ru kp 2) (sr_ru kp (2 + 1)) 2 (kp 3 2) (kp 4 2)) = 0 then (kp 2 5) else 0) → W p l e (sr_rm 5 121) s m args below meth c s.heap [] 0 0 Q (F0 m 67 ls [.int k67_0, .int ((((sr_gs kp 3) + (sr_T kp (sr_ru kp 3) 3 100)) + (if (sr_mt kp (sr_ru kp 0) (sr_ru kp (0 + 1)) 0 (kp 3 0) (kp 4 0)) = 0 then (kp 2 5) else 0)) + (if (sr_mt kp (sr_ru kp 1) (sr_ru kp (1 + 1)) 1 (kp 3 1) (kp 4 1)) = 0 then (kp 2 5) else 0))]) := by
              intro k67_0 e_k67_0
              subst e_k67_0
              refine lv_iadd C0.1 C0.2.1 dX8_timeOf_67 ?_
              refine lv_istore_n (lv' := [(1, .int (((((sr_gs kp 3) + (sr_T kp (sr_ru kp 3) 3 100)) + (if (sr_mt kp (sr_ru kp 0) (sr_ru kp (0 + 1)) 0 (kp 3 0) (kp 4 0)) = 0 then (kp 2 5) else 0)) + (if (sr_mt kp (sr_ru kp 1) (sr_ru kp (1 + 1)) 1 (kp 3 1) (kp 4 1)) = 0 then (kp 2 5) else 0)) + (if (sr_mt kp (sr_ru kp 2) (sr_ru kp (2 + 1)) 2 (kp 3 2) (kp 4 2)) = 0 then (kp 2 5) else 0))), (3, .int (sr_mt kp (sr_ru kp 2) (sr_ru kp (2 + 1)) 2 (kp 3 2) (kp 4 2))), (2, .int 2), (0, .ref (a 0))]) C0.1 C0.2.1 dX8_timeOf_68 rfl hl (by decide) rfl (fun ls hl => ?_)
              refine lv_iinc (v := 3) (lv' := [(2, .int 3), (1, .int (((((sr_gs kp 3) + (sr_T kp (sr_ru kp 3) 3 100)) + (if (sr_mt kp (sr_ru kp 0) (sr_ru kp (0 + 1)) 0 (kp 3 0) (kp 4 0)) = 0 then (kp 2 5) else 0)) + (if (sr_mt kp (sr_ru kp 1) (sr_ru kp (1 + 1)) 1 (kp 3 1) (kp 4 1)) = 0 then (kp 2 5) else 0)) + (if (sr_mt kp (sr_ru kp 2) (sr_ru kp (2 + 1)) 2 (kp 3 2) (kp 4 2)) = 0 then (kp 2 5) else 0))), (3, .int (sr_mt kp (sr_ru kp 2) (sr_ru kp (2 + 1)) 2 (kp 3 2) (kp 4 2))), (0, .ref (a 0))]) C0.1 C0.2.1 dX8_timeOf_69 hl (k := 2) rfl (by decide) (by decide) rfl (fun ls hl => ?_)
              refine lv_goto (tgt := 22) C0.1 C0.2.1 dX8_timeOf_72 (by decide) ?_
              refine lv_iload_n C0.1 C0.2.1 dX8_timeOf_22 rfl (lv_at hl 0 rfl) ?_
              refine lv_iconst (v := 3) C0.1 C0.2.1 dX8_timeOf_23 (by decide) ?_
              refine lv_icmp_ge (tgt := 75) C0.1 C0.2.1 dX8_timeOf_24 (by decide) (fun _ => ?_) (fun q => absurd q (by decide))
              refine lv_iload_n C0.1 C0.2.1 dX8_timeOf_75 rfl (lv_at hl 1 rfl) ?_
              exact hret _ _ _ dX8_timeOf_76 (by rw [sr_ti_m hK_ hT hf4, if_neg (show ¬ sr_ms kp (kp 4) 0 = -1 from c47), if_neg (show ¬ sr_ms kp (kp 4) 1 = -1 from c47_2), if_neg (show ¬ sr_ms kp (kp 4) 2 = -1 from c47_3)]; exact sr_ti_e kp (kp 4) _ _ _ _ _ _ _)
            refine lv_if_ne (tgt := 66) C0.1 C0.2.1 dX8_timeOf_54 (by decide) (fun c54_3 => ?_) (fun c54_3 => ?_)
            · refine lv_iconst (v := 0) C0.1 C0.2.1 dX8_timeOf_66 (by decide) ?_
              exact hJ67_3 _ (by rw [if_neg c54_3])
            · refine lv_aload_n C0.1 C0.2.1 dX8_timeOf_57 rfl (lv_at hl 3 rfl) ?_
              refine sr_get (v := .ref (a 8)) C0 hK hP sr_inX8 sr_wM0 rfl 11 (by decide) sw_621 rfl dX8_timeOf_58 ?_
              refine lv_iconst (v := 5) C0.1 C0.2.1 dX8_timeOf_61 (by decide) ?_
              refine sr_ald (k := 5) C0 hK rfl hP sr_wM8 (by decide) (sr_inc (by decide)) dX8_timeOf_62 ?_
              refine lv_goto (tgt := 67) C0.1 C0.2.1 dX8_timeOf_63 (by decide) ?_
              exact hJ67_3 _ (by rw [if_pos c54_3])
          · refine lv_iconst (v := (-1)) C0.1 C0.2.1 dX8_timeOf_50 (by decide) ?_
            exact hret _ _ _ dX8_timeOf_51 (by rw [sr_ti_m hK_ hT hf4, if_neg (show ¬ sr_ms kp (kp 4) 0 = -1 from c47), if_neg (show ¬ sr_ms kp (kp 4) 1 = -1 from c47_2), if_pos (show sr_ms kp (kp 4) 2 = -1 from c47_3)])
        refine lv_if_ne (tgt := 66) C0.1 C0.2.1 dX8_timeOf_54 (by decide) (fun c54_2 => ?_) (fun c54_2 => ?_)
        · refine lv_iconst (v := 0) C0.1 C0.2.1 dX8_timeOf_66 (by decide) ?_
          exact hJ67_2 _ (by rw [if_neg c54_2])
        · refine lv_aload_n C0.1 C0.2.1 dX8_timeOf_57 rfl (lv_at hl 3 rfl) ?_
          refine sr_get (v := .ref (a 8)) C0 hK hP sr_inX8 sr_wM0 rfl 11 (by decide) sw_621 rfl dX8_timeOf_58 ?_
          refine lv_iconst (v := 5) C0.1 C0.2.1 dX8_timeOf_61 (by decide) ?_
          refine sr_ald (k := 5) C0 hK rfl hP sr_wM8 (by decide) (sr_inc (by decide)) dX8_timeOf_62 ?_
          refine lv_goto (tgt := 67) C0.1 C0.2.1 dX8_timeOf_63 (by decide) ?_
          exact hJ67_2 _ (by rw [if_pos c54_2])
      · refine lv_iconst (v := (-1)) C0.1 C0.2.1 dX8_timeOf_50 (by decide) ?_
        exact hret _ _ _ dX8_timeOf_51 (by rw [sr_ti_m hK_ hT hf4, if_neg (show ¬ sr_ms kp (kp 4) 0 = -1 from c47), if_pos (show sr_ms kp (kp 4) 1 = -1 from c47_2)])
    refine lv_if_ne (tgt := 66) C0.1 C0.2.1 dX8_timeOf_54 (by decide) (fun c54 => ?_) (fun c54 => ?_)
    · refine lv_iconst (v := 0) C0.1 C0.2.1 dX8_timeOf_66 (by decide) ?_
      exact hJ67 _ (by rw [if_neg c54])
    · refine lv_aload_n C0.1 C0.2.1 dX8_timeOf_57 rfl (lv_at hl 3 rfl) ?_
      refine sr_get (v := .ref (a 8)) C0 hK hP sr_inX8 sr_wM0 rfl 11 (by decide) sw_621 rfl dX8_timeOf_58 ?_
      refine lv_iconst (v := 5) C0.1 C0.2.1 dX8_timeOf_61 (by decide) ?_
      refine sr_ald (k := 5) C0 hK rfl hP sr_wM8 (by decide) (sr_inc (by decide)) dX8_timeOf_62 ?_
      refine lv_goto (tgt := 67) C0.1 C0.2.1 dX8_timeOf_63 (by decide) ?_
      exact hJ67 _ (by rw [if_pos c54])
  · refine lv_iconst (v := (-1)) C0.1 C0.2.1 dX8_timeOf_50 (by decide) ?_
    exact hret _ _ _ dX8_timeOf_51 (by rw [sr_ti_m hK_ hT hf4, if_pos (show sr_ms kp (kp 4) 0 = -1 from c47)])
set_option maxRecDepth 100000 in
set_option maxHeartbeats 4000000 in
theorem cc_X8_time {l : Launch} {D : va_G} {cI : ClassId} {a : Nat → Nat} (ha : ∀ i j, i < 13 → j < 13 → a i = a j → i = j) {kp cx sg : sr_M} (hK_ : sr_IK kp) : sr_G l D (sr_tM cI) (sr_ZM) (sr_AM a) (sr_WM cI a kp cx sg) yX8_time cX8_time 1 (some .int) 6 144 [.ref (a 0)] (S := sr_M) (fun u => True) (fun u => sr_WM cI a kp cx u) (fun u => some (.int (sp_time kp))) := by
  refine sr_Gie (by decide +kernel) (Nat.le_of_ble_eq_true rfl) (fun p e s m args below meth c ls Q B hret => ?_)
  obtain ⟨C0, hP, hK, hZ0, hl⟩ := B
  have hZ : sr_Zok (sr_AM a) (sr_ZM) := sr_ZMok
  have hS : va_S (sr_AM a) s.heap s.heap [] := va_S.rf
  have hl : lv_has ls 1 [(0, .ref (a 0))] := hl
  obtain ⟨H, hH⟩ : ∃ H, H = s.heap := ⟨_, rfl⟩
  have hP : va_P D vwCl (sr_WM cI a kp cx sg) H := by rw [hH]; exact hP
  have hS : va_S (sr_AM a) s.heap H [] := by rw [hH]; exact hS
  suffices hG : ∀ locs, va_S (sr_AM a) s.heap H locs → W p l e (sr_rm 6 144) s m args below meth c H locs 0 0 Q (F0 m 0 ls []) from by have h9 := hG [] hS; rw [hH] at h9; exact h9
  clear hS
  intro locs hS
  clear hH
  refine lv_aload_n C0.1 C0.2.1 dX8_time_0 rfl (lv_at hl 0 rfl) ?_
  refine sr_gVi (As := []) C0 hK hP hZ (sr_Zs hZ hZ0 hS) (cc_X8_areThere ha hK_) sk_X8_areThere sv_X8_areThere sw_795 (ci := 8) rfl sr_wM0 rfl rfl hl.1 (Nat.le_of_ble_eq_true rfl) (Nat.le_of_ble_eq_true rfl) (Nat.le_of_ble_eq_true rfl) dX8_time_1 ⟨Nat.zero_le _, Nat.zero_le _⟩ hS (fun sg1 H locs hRD hP hS => ?_)
  refine sr_ifeq (tgt := 14) C0 dX8_time_4 (by decide) (fun c4 => ?_) (fun c4 => ?_)
  · refine lv_bipush (v := (-3)) C0.1 C0.2.1 dX8_time_14 (by decide) ?_
    exact hret _ _ _ sg1 _ _ _ dX8_time_16 hP hS rfl (by unfold sp_time; rw [if_pos c4]) trivial
  · have hT : sr_th kp := c4
    refine lv_aload_n C0.1 C0.2.1 dX8_time_7 rfl (lv_at hl 0 rfl) ?_
    refine sr_pVi (As := []) C0 hK hP hZ (sr_Zs hZ hZ0 hS) (cc_X8_timeOf ha hK_ hRD hT) sk_X8_timeOf sv_X8_timeOf sw_835 (ci := 8) rfl sr_wM0 rfl rfl hl.1 (Nat.le_of_ble_eq_true rfl) (Nat.le_of_ble_eq_true rfl) (Nat.le_of_ble_eq_true rfl) dX8_time_8 ⟨Nat.zero_le _, Nat.zero_le _⟩ ?_
    refine lv_goto (tgt := 16) C0.1 C0.2.1 dX8_time_11 (by decide) ?_
    exact hret _ _ _ sg1 _ _ _ dX8_time_16 hP hS rfl (by unfold sp_time; rw [if_neg (fun q => q c4)]) trivial
set_option maxRecDepth 100000 in
set_option maxHeartbeats 4000000 in
theorem cc_X8_oddsOf {l : Launch} {D : va_G} {cI : ClassId} {a : Nat → Nat} (ha : ∀ i j, i < 13 → j < 13 → a i = a j → i = j) {kp cx sg : sr_M} (x_ : Int32) : sr_P l D (sr_tM cI) (sr_ZM) (sr_WM cI a kp cx sg) yX8_oddsOf cX8_oddsOf 1 (some .int) 0 0 [.int x_] (some (.int (sr_odd x_))) := by
  refine sr_Pie (by decide +kernel) (Nat.le_of_ble_eq_true rfl) (fun p e s m args below meth c ls Q B hret => ?_)
  obtain ⟨C0, hP, hK, hZ0, hl⟩ := B
  have hZ : sr_Zok (sr_AM a) (sr_ZM) := sr_ZMok
  have hS : va_S (sr_AM a) s.heap s.heap [] := va_S.rf
  have hl : lv_has ls 1 [(0, .int x_)] := hl
  refine lv_iload_n C0.1 C0.2.1 dX8_oddsOf_0 rfl (lv_at hl 0 rfl) ?_
  refine lv_iconst (v := 2) C0.1 C0.2.1 dX8_oddsOf_1 (by decide) ?_
  refine lv_icmp_ne (tgt := 10) C0.1 C0.2.1 dX8_oddsOf_2 (by decide) (fun c2 => ?_) (fun c2 => ?_)
  · refine lv_iload_n C0.1 C0.2.1 dX8_oddsOf_10 rfl (lv_at hl 0 rfl) ?_
    refine lv_iconst (v := 2) C0.1 C0.2.1 dX8_oddsOf_11 (by decide) ?_
    refine lv_irem C0.1 C0.2.1 dX8_oddsOf_12 (by decide) ?_
    refine lv_iconst (v := 1) C0.1 C0.2.1 dX8_oddsOf_13 (by decide) ?_
    refine lv_icmp_ne (tgt := 21) C0.1 C0.2.1 dX8_oddsOf_14 (by decide) (fun c14 => ?_) (fun c14 => ?_)
    · refine lv_iconst (v := 1) C0.1 C0.2.1 dX8_oddsOf_21 (by decide) ?_
      exact hret _ _ _ dX8_oddsOf_22 (by unfold sr_odd; rw [if_neg c2, if_neg c14])
    · refine lv_iconst (v := 4) C0.1 C0.2.1 dX8_oddsOf_17 (by decide) ?_
      refine lv_goto (tgt := 22) C0.1 C0.2.1 dX8_oddsOf_18 (by decide) ?_
      exact hret _ _ _ dX8_oddsOf_22 (by unfold sr_odd; rw [if_neg c2, if_pos c14])
  · refine lv_bipush (v := 6) C0.1 C0.2.1 dX8_oddsOf_5 (by decide) ?_
    refine lv_goto (tgt := 22) C0.1 C0.2.1 dX8_oddsOf_7 (by decide) ?_
    exact hret _ _ _ dX8_oddsOf_22 (by unfold sr_odd; rw [if_pos c2])
set_option maxRecDepth 100000 in
set_option maxHeartbeats 4000000 in
theorem cc_X8_chanceBy {l : Launch} {D : va_G} {cI : ClassId} {a : Nat → Nat} (ha : ∀ i j, i < 13 → j < 13 → a i = a j → i = j) {kp cx sg : sr_M} (cn : Nat) (m_ : Nat) (hK_ : sr_IK kp) (hRD : sr_RD kp sg) (hT : sr_th kp) (hs_cn : cn < 3) : sr_P l D (sr_tM cI) (sr_ZM) (sr_WM cI a kp cx sg) yX8_chanceBy cX8_chanceBy 5 (some .int) 5 121 [.ref (a 0), .int (nI cn), .int (nI m_)] (some (.int (nI (sr_cN kp (sr_ru kp cn) (sr_ru kp (cn + 1)) cn m_)))) := by
  refine sr_Pie (by decide +kernel) (Nat.le_of_ble_eq_true rfl) (fun p e s m args below meth c ls Q B hret => ?_)
  obtain ⟨C0, hP, hK, hZ0, hl⟩ := B
  have hZ : sr_Zok (sr_AM a) (sr_ZM) := sr_ZMok
  have hS : va_S (sr_AM a) s.heap s.heap [] := va_S.rf
  have hl : lv_has ls 5 [(0, .ref (a 0)), (1, .int (nI cn)), (2, .int (nI m_))] := hl
  refine lv_iconst (v := 0) C0.1 C0.2.1 dX8_chanceBy_0 (by decide) ?_
  refine lv_istore_n (lv' := [(3, .int 0), (0, .ref (a 0)), (1, .int (nI cn)), (2, .int (nI m_))]) C0.1 C0.2.1 dX8_chanceBy_1 rfl hl (by decide) rfl (fun ls hl => ?_)
  refine lv_iconst (v := 0) C0.1 C0.2.1 dX8_chanceBy_2 (by decide) ?_
  refine lv_istore (lv' := [(4, .int 0), (3, .int 0), (0, .ref (a 0)), (1, .int (nI cn)), (2, .int (nI m_))]) C0.1 C0.2.1 dX8_chanceBy_3 hl (by decide) rfl (fun ls hl => ?_)
  refine lv_iload C0.1 C0.2.1 dX8_chanceBy_5 (lv_at hl 0 rfl) ?_
  refine lv_iconst (v := 5) C0.1 C0.2.1 dX8_chanceBy_7 (by decide) ?_
  refine lv_icmp_ge (tgt := 51) C0.1 C0.2.1 dX8_chanceBy_8 (by decide) (fun q => absurd q (by decide)) (fun _ => ?_)
  refine lv_iload_n C0.1 C0.2.1 dX8_chanceBy_11 rfl (lv_at hl 1 rfl) ?_
  refine lv_aload_n C0.1 C0.2.1 dX8_chanceBy_12 rfl (lv_at hl 2 rfl) ?_
  refine lv_iload_n C0.1 C0.2.1 dX8_chanceBy_13 rfl (lv_at hl 3 rfl) ?_
  refine lv_iload_n C0.1 C0.2.1 dX8_chanceBy_14 rfl (lv_at hl 4 rfl) ?_
  refine lv_iload C0.1 C0.2.1 dX8_chanceBy_15 (lv_at hl 0 rfl) ?_
  refine lv_iconst (v := 2) C0.1 C0.2.1 dX8_chanceBy_17 (by decide) ?_
  refine lv_isub C0.1 C0.2.1 dX8_chanceBy_18 ?_
  refine sr_chi (by decide : (0 - 2 : Int32) = (-2)) ?_
  refine lv_aload_n C0.1 C0.2.1 dX8_chanceBy_19 rfl (lv_at hl 2 rfl) ?_
  refine sr_get (v := .ref (a 8)) C0 hK hP sr_inX8 sr_wM0 rfl 11 (by decide) sw_621 rfl dX8_chanceBy_20 ?_
  refine lv_bipush (v := 6) C0.1 C0.2.1 dX8_chanceBy_23 (by decide) ?_
  refine sr_ald (k := 6) C0 hK rfl hP sr_wM8 (by decide) (sr_inc (by decide)) dX8_chanceBy_25 ?_
  refine lv_imul C0.1 C0.2.1 dX8_chanceBy_26 ?_
  refine sr_pVi (As := [.int (nI cn), .int (nI m_), .int ((-2) * (kp 2 6))]) C0 hK hP hZ hZ0 (cc_X8_meetOf ha cn (nI m_) ((-2) * (kp 2 6)) hK_ hRD hT (by omega)) sk_X8_meetOf sv_X8_meetOf sw_815 (ci := 8) rfl sr_wM0 rfl rfl hl.1 (Nat.le_of_ble_eq_true rfl) (Nat.le_of_ble_eq_true rfl) (Nat.le_of_ble_eq_true rfl) dX8_chanceBy_27 ⟨Nat.zero_le _, Nat.zero_le _⟩ ?_
  refine sr_chi (show (sr_mt kp (sr_ru kp cn) (sr_ru kp (cn + 1)) cn (nI m_) ((-2) * (kp 2 6))) = (sr_mt kp (sr_ru kp cn) (sr_ru kp (cn + 1)) cn (nI m_) (sr_sp kp 0)) by rw [sr_sp0]) ?_
  refine lv_iconst (v := (-1)) C0.1 C0.2.1 dX8_chanceBy_30 (by decide) ?_
  have hJ43 : ∀ (k43_0 : Int32), k43_0 = (if ¬ ((sr_mt kp (sr_ru kp cn) (sr_ru kp (cn + 1)) cn (nI m_) (sr_sp kp 0)) = (-1)) then 1 else 0) → W p l e (sr_rm 5 121) s m args below meth c s.heap [] 0 0 Q (F0 m 43 ls [.int k43_0, .int 0]) := by
    intro k43_0 e_k43_0
    subst e_k43_0
    refine sr_chi (sr_c1_b kp (sr_ru kp cn) (sr_ru kp (cn + 1)) cn m_ 0) ?_
    refine lv_iadd C0.1 C0.2.1 dX8_chanceBy_43 ?_
    refine sr_chi (nI_add 0 (sr_c1 kp (sr_ru kp cn) (sr_ru kp (cn + 1)) cn m_ 0 1)) ?_
    refine lv_istore_n (lv' := [(3, .int (nI (0 + (sr_c1 kp (sr_ru kp cn) (sr_ru kp (cn + 1)) cn m_ 0 1)))), (4, .int 0), (0, .ref (a 0)), (1, .int (nI cn)), (2, .int (nI m_))]) C0.1 C0.2.1 dX8_chanceBy_44 rfl hl (by decide) rfl (fun ls hl => ?_)
    refine lv_iinc (v := 1) (lv' := [(4, .int 1), (3, .int (nI (0 + (sr_c1 kp (sr_ru kp cn) (sr_ru kp (cn + 1)) cn m_ 0 1)))), (0, .ref (a 0)), (1, .int (nI cn)), (2, .int (nI m_))]) C0.1 C0.2.1 dX8_chanceBy_45 hl (k := 1) rfl (by decide) (by decide) rfl (fun ls hl => ?_)
    refine lv_goto (tgt := 5) C0.1 C0.2.1 dX8_chanceBy_48 (by decide) ?_
    refine lv_iload C0.1 C0.2.1 dX8_chanceBy_5 (lv_at hl 0 rfl) ?_
    refine lv_iconst (v := 5) C0.1 C0.2.1 dX8_chanceBy_7 (by decide) ?_
    refine lv_icmp_ge (tgt := 51) C0.1 C0.2.1 dX8_chanceBy_8 (by decide) (fun q => absurd q (by decide)) (fun _ => ?_)
    refine lv_iload_n C0.1 C0.2.1 dX8_chanceBy_11 rfl (lv_at hl 1 rfl) ?_
    refine lv_aload_n C0.1 C0.2.1 dX8_chanceBy_12 rfl (lv_at hl 2 rfl) ?_
    refine lv_iload_n C0.1 C0.2.1 dX8_chanceBy_13 rfl (lv_at hl 3 rfl) ?_
    refine lv_iload_n C0.1 C0.2.1 dX8_chanceBy_14 rfl (lv_at hl 4 rfl) ?_
    refine lv_iload C0.1 C0.2.1 dX8_chanceBy_15 (lv_at hl 0 rfl) ?_
    refine lv_iconst (v := 2) C0.1 C0.2.1 dX8_chanceBy_17 (by decide) ?_
    refine lv_isub C0.1 C0.2.1 dX8_chanceBy_18 ?_
    refine sr_chi (by decide : (1 - 2 : Int32) = (-1)) ?_
    refine lv_aload_n C0.1 C0.2.1 dX8_chanceBy_19 rfl (lv_at hl 2 rfl) ?_
    refine sr_get (v := .ref (a 8)) C0 hK hP sr_inX8 sr_wM0 rfl 11 (by decide) sw_621 rfl dX8_chanceBy_20 ?_
    refine lv_bipush (v := 6) C0.1 C0.2.1 dX8_chanceBy_23 (by decide) ?_
    refine sr_ald (k := 6) C0 hK rfl hP sr_wM8 (by decide) (sr_inc (by decide)) dX8_chanceBy_25 ?_
    refine lv_imul C0.1 C0.2.1 dX8_chanceBy_26 ?_
    refine sr_pVi (As := [.int (nI cn), .int (nI m_), .int ((-1) * (kp 2 6))]) C0 hK hP hZ hZ0 (cc_X8_meetOf ha cn (nI m_) ((-1) * (kp 2 6)) hK_ hRD hT (by omega)) sk_X8_meetOf sv_X8_meetOf sw_815 (ci := 8) rfl sr_wM0 rfl rfl hl.1 (Nat.le_of_ble_eq_true rfl) (Nat.le_of_ble_eq_true rfl) (Nat.le_of_ble_eq_true rfl) dX8_chanceBy_27 ⟨Nat.zero_le _, Nat.zero_le _⟩ ?_
    refine sr_chi (show (sr_mt kp (sr_ru kp cn) (sr_ru kp (cn + 1)) cn (nI m_) ((-1) * (kp 2 6))) = (sr_mt kp (sr_ru kp cn) (sr_ru kp (cn + 1)) cn (nI m_) (sr_sp kp 1)) by rw [sr_sp1]) ?_
    refine lv_iconst (v := (-1)) C0.1 C0.2.1 dX8_chanceBy_30 (by decide) ?_
    have hJ43_2 : ∀ (k43_0 : Int32), k43_0 = (if (sr_mt kp (sr_ru kp cn) (sr_ru kp (cn + 1)) cn (nI m_) (sr_sp kp 1)) = (-1) then 0 else 4) → W p l e (sr_rm 5 121) s m args below meth c s.heap [] 0 0 Q (F0 m 43 ls [.int k43_0, .int (nI (0 + (sr_c1 kp (sr_ru kp cn) (sr_ru kp (cn + 1)) cn m_ 0 1)))]) := by
      intro k43_0 e_k43_0
      subst e_k43_0
      refine sr_chi (sr_c1_i kp (sr_ru kp cn) (sr_ru kp (cn + 1)) cn m_ 1 4) ?_
      refine lv_iadd C0.1 C0.2.1 dX8_chanceBy_43 ?_
      refine sr_chi (nI_add (0 + (sr_c1 kp (sr_ru kp cn) (sr_ru kp (cn + 1)) cn m_ 0 1)) (sr_c1 kp (sr_ru kp cn) (sr_ru kp (cn + 1)) cn m_ 1 4)) ?_
      refine lv_istore_n (lv' := [(3, .int (nI ((0 + (sr_c1 kp (sr_ru kp cn) (sr_ru kp (cn + 1)) cn m_ 0 1)) + (sr_c1 kp (sr_ru kp cn) (sr_ru kp (cn + 1)) cn m_ 1 4)))), (4, .int 1), (0, .ref (a 0)), (1, .int (nI cn)), (2, .int (nI m_))]) C0.1 C0.2.1 dX8_chanceBy_44 rfl hl (by decide) rfl (fun ls hl => ?_)
      refine lv_iinc (v := 2) (lv' := [(4, .int 2), (3, .int (nI ((0 + (sr_c1 kp (sr_ru kp cn) (sr_ru kp (cn + 1)) cn m_ 0 1)) + (sr_c1 kp (sr_ru kp cn) (sr_ru kp (cn + 1)) cn m_ 1 4)))), (0, .ref (a 0)), (1, .int (nI cn)), (2, .int (nI m_))]) C0.1 C0.2.1 dX8_chanceBy_45 hl (k := 1) rfl (by decide) (by decide) rfl (fun ls hl => ?_)
      refine lv_goto (tgt := 5) C0.1 C0.2.1 dX8_chanceBy_48 (by decide) ?_
      refine lv_iload C0.1 C0.2.1 dX8_chanceBy_5 (lv_at hl 0 rfl) ?_
      refine lv_iconst (v := 5) C0.1 C0.2.1 dX8_chanceBy_7 (by decide) ?_
      refine lv_icmp_ge (tgt := 51) C0.1 C0.2.1 dX8_chanceBy_8 (by decide) (fun q => absurd q (by decide)) (fun _ => ?_)
      refine lv_iload_n C0.1 C0.2.1 dX8_chanceBy_11 rfl (lv_at hl 1 rfl) ?_
      refine lv_aload_n C0.1 C0.2.1 dX8_chanceBy_12 rfl (lv_at hl 2 rfl) ?_
      refine lv_iload_n C0.1 C0.2.1 dX8_chanceBy_13 rfl (lv_at hl 3 rfl) ?_
      refine lv_iload_n C0.1 C0.2.1 dX8_chanceBy_14 rfl (lv_at hl 4 rfl) ?_
      refine lv_iload C0.1 C0.2.1 dX8_chanceBy_15 (lv_at hl 0 rfl) ?_
      refine lv_iconst (v := 2) C0.1 C0.2.1 dX8_chanceBy_17 (by decide) ?_
      refine lv_isub C0.1 C0.2.1 dX8_chanceBy_18 ?_
      refine sr_chi (by decide : (2 - 2 : Int32) = 0) ?_
      refine lv_aload_n C0.1 C0.2.1 dX8_chanceBy_19 rfl (lv_at hl 2 rfl) ?_
      refine sr_get (v := .ref (a 8)) C0 hK hP sr_inX8 sr_wM0 rfl 11 (by decide) sw_621 rfl dX8_chanceBy_20 ?_
      refine lv_bipush (v := 6) C0.1 C0.2.1 dX8_chanceBy_23 (by decide) ?_
      refine sr_ald (k := 6) C0 hK rfl hP sr_wM8 (by decide) (sr_inc (by decide)) dX8_chanceBy_25 ?_
      refine lv_imul C0.1 C0.2.1 dX8_chanceBy_26 ?_
      refine sr_pVi (As := [.int (nI cn), .int (nI m_), .int (0 * (kp 2 6))]) C0 hK hP hZ hZ0 (cc_X8_meetOf ha cn (nI m_) (0 * (kp 2 6)) hK_ hRD hT (by omega)) sk_X8_meetOf sv_X8_meetOf sw_815 (ci := 8) rfl sr_wM0 rfl rfl hl.1 (Nat.le_of_ble_eq_true rfl) (Nat.le_of_ble_eq_true rfl) (Nat.le_of_ble_eq_true rfl) dX8_chanceBy_27 ⟨Nat.zero_le _, Nat.zero_le _⟩ ?_
      refine sr_chi (show (sr_mt kp (sr_ru kp cn) (sr_ru kp (cn + 1)) cn (nI m_) (0 * (kp 2 6))) = (sr_mt kp (sr_ru kp cn) (sr_ru kp (cn + 1)) cn (nI m_) (sr_sp kp 2)) by rw [sr_sp2]) ?_
      refine lv_iconst (v := (-1)) C0.1 C0.2.1 dX8_chanceBy_30 (by decide) ?_
      have hJ43_3 : ∀ (k43_0 : Int32), k43_0 = (if (sr_mt kp (sr_ru kp cn) (sr_ru kp (cn + 1)) cn (nI m_) (sr_sp kp 2)) = (-1) then 0 else 6) → W p l e (sr_rm 5 121) s m args below meth c s.heap [] 0 0 Q (F0 m 43 ls [.int k43_0, .int (nI ((0 + (sr_c1 kp (sr_ru kp cn) (sr_ru kp (cn + 1)) cn m_ 0 1)) + (sr_c1 kp (sr_ru kp cn) (sr_ru kp (cn + 1)) cn m_ 1 4)))]) := by
        intro k43_0 e_k43_0
        subst e_k43_0
        refine sr_chi (sr_c1_i kp (sr_ru kp cn) (sr_ru kp (cn + 1)) cn m_ 2 6) ?_
        refine lv_iadd C0.1 C0.2.1 dX8_chanceBy_43 ?_
        refine sr_chi (nI_add ((0 + (sr_c1 kp (sr_ru kp cn) (sr_ru kp (cn + 1)) cn m_ 0 1)) + (sr_c1 kp (sr_ru kp cn) (sr_ru kp (cn + 1)) cn m_ 1 4)) (sr_c1 kp (sr_ru kp cn) (sr_ru kp (cn + 1)) cn m_ 2 6)) ?_
        refine lv_istore_n (lv' := [(3, .int (nI (((0 + (sr_c1 kp (sr_ru kp cn) (sr_ru kp (cn + 1)) cn m_ 0 1)) + (sr_c1 kp (sr_ru kp cn) (sr_ru kp (cn + 1)) cn m_ 1 4)) + (sr_c1 kp (sr_ru kp cn) (sr_ru kp (cn + 1)) cn m_ 2 6)))), (4, .int 2), (0, .ref (a 0)), (1, .int (nI cn)), (2, .int (nI m_))]) C0.1 C0.2.1 dX8_chanceBy_44 rfl hl (by decide) rfl (fun ls hl => ?_)
        refine lv_iinc (v := 3) (lv' := [(4, .int 3), (3, .int (nI (((0 + (sr_c1 kp (sr_ru kp cn) (sr_ru kp (cn + 1)) cn m_ 0 1)) + (sr_c1 kp (sr_ru kp cn) (sr_ru kp (cn + 1)) cn m_ 1 4)) + (sr_c1 kp (sr_ru kp cn) (sr_ru kp (cn + 1)) cn m_ 2 6)))), (0, .ref (a 0)), (1, .int (nI cn)), (2, .int (nI m_))]) C0.1 C0.2.1 dX8_chanceBy_45 hl (k := 1) rfl (by decide) (by decide) rfl (fun ls hl => ?_)
        refine lv_goto (tgt := 5) C0.1 C0.2.1 dX8_chanceBy_48 (by decide) ?_
        refine lv_iload C0.1 C0.2.1 dX8_chanceBy_5 (lv_at hl 0 rfl) ?_
        refine lv_iconst (v := 5) C0.1 C0.2.1 dX8_chanceBy_7 (by decide) ?_
        refine lv_icmp_ge (tgt := 51) C0.1 C0.2.1 dX8_chanceBy_8 (by decide) (fun q => absurd q (by decide)) (fun _ => ?_)
        refine lv_iload_n C0.1 C0.2.1 dX8_chanceBy_11 rfl (lv_at hl 1 rfl) ?_
        refine lv_aload_n C0.1 C0.2.1 dX8_chanceBy_12 rfl (lv_at hl 2 rfl) ?_
        refine lv_iload_n C0.1 C0.2.1 dX8_chanceBy_13 rfl (lv_at hl 3 rfl) ?_
        refine lv_iload_n C0.1 C0.2.1 dX8_chanceBy_14 rfl (lv_at hl 4 rfl) ?_
        refine lv_iload C0.1 C0.2.1 dX8_chanceBy_15 (lv_at hl 0 rfl) ?_
        refine lv_iconst (v := 2) C0.1 C0.2.1 dX8_chanceBy_17 (by decide) ?_
        refine lv_isub C0.1 C0.2.1 dX8_chanceBy_18 ?_
        refine sr_chi (by decide : (3 - 2 : Int32) = 1) ?_
        refine lv_aload_n C0.1 C0.2.1 dX8_chanceBy_19 rfl (lv_at hl 2 rfl) ?_
        refine sr_get (v := .ref (a 8)) C0 hK hP sr_inX8 sr_wM0 rfl 11 (by decide) sw_621 rfl dX8_chanceBy_20 ?_
        refine lv_bipush (v := 6) C0.1 C0.2.1 dX8_chanceBy_23 (by decide) ?_
        refine sr_ald (k := 6) C0 hK rfl hP sr_wM8 (by decide) (sr_inc (by decide)) dX8_chanceBy_25 ?_
        refine lv_imul C0.1 C0.2.1 dX8_chanceBy_26 ?_
        refine sr_pVi (As := [.int (nI cn), .int (nI m_), .int (1 * (kp 2 6))]) C0 hK hP hZ hZ0 (cc_X8_meetOf ha cn (nI m_) (1 * (kp 2 6)) hK_ hRD hT (by omega)) sk_X8_meetOf sv_X8_meetOf sw_815 (ci := 8) rfl sr_wM0 rfl rfl hl.1 (Nat.le_of_ble_eq_true rfl) (Nat.le_of_ble_eq_true rfl) (Nat.le_of_ble_eq_true rfl) dX8_chanceBy_27 ⟨Nat.zero_le _, Nat.zero_le _⟩ ?_
        refine sr_chi (show (sr_mt kp (sr_ru kp cn) (sr_ru kp (cn + 1)) cn (nI m_) (1 * (kp 2 6))) = (sr_mt kp (sr_ru kp cn) (sr_ru kp (cn + 1)) cn (nI m_) (sr_sp kp 3)) by rw [sr_sp3]) ?_
        refine lv_iconst (v := (-1)) C0.1 C0.2.1 dX8_chanceBy_30 (by decide) ?_
        have hJ43_4 : ∀ (k43_0 : Int32), k43_0 = (if (sr_mt kp (sr_ru kp cn) (sr_ru kp (cn + 1)) cn (nI m_) (sr_sp kp 3)) = (-1) then 0 else 4) → W p l e (sr_rm 5 121) s m args below meth c s.heap [] 0 0 Q (F0 m 43 ls [.int k43_0, .int (nI (((0 + (sr_c1 kp (sr_ru kp cn) (sr_ru kp (cn + 1)) cn m_ 0 1)) + (sr_c1 kp (sr_ru kp cn) (sr_ru kp (cn + 1)) cn m_ 1 4)) + (sr_c1 kp (sr_ru kp cn) (sr_ru kp (cn + 1)) cn m_ 2 6)))]) := by
          intro k43_0 e_k43_0
          subst e_k43_0
          refine sr_chi (sr_c1_i kp (sr_ru kp cn) (sr_ru kp (cn + 1)) cn m_ 3 4) ?_
          refine lv_iadd C0.1 C0.2.1 dX8_chanceBy_43 ?_
          refine sr_chi (nI_add (((0 + (sr_c1 kp (sr_ru kp cn) (sr_ru kp (cn + 1)) cn m_ 0 1)) + (sr_c1 kp (sr_ru kp cn) (sr_ru kp (cn + 1)) cn m_ 1 4)) + (sr_c1 kp (sr_ru kp cn) (sr_ru kp (cn + 1)) cn m_ 2 6)) (sr_c1 kp (sr_ru kp cn) (sr_ru kp (cn + 1)) cn m_ 3 4)) ?_
          refine lv_istore_n (lv' := [(3, .int (nI ((((0 + (sr_c1 kp (sr_ru kp cn) (sr_ru kp (cn + 1)) cn m_ 0 1)) + (sr_c1 kp (sr_ru kp cn) (sr_ru kp (cn + 1)) cn m_ 1 4)) + (sr_c1 kp (sr_ru kp cn) (sr_ru kp (cn + 1)) cn m_ 2 6)) + (sr_c1 kp (sr_ru kp cn) (sr_ru kp (cn + 1)) cn m_ 3 4)))), (4, .int 3), (0, .ref (a 0)), (1, .int (nI cn)), (2, .int (nI m_))]) C0.1 C0.2.1 dX8_chanceBy_44 rfl hl (by decide) rfl (fun ls hl => ?_)
          refine lv_iinc (v := 4) (lv' := [(4, .int 4), (3, .int (nI ((((0 + (sr_c1 kp (sr_ru kp cn) (sr_ru kp (cn + 1)) cn m_ 0 1)) + (sr_c1 kp (sr_ru kp cn) (sr_ru kp (cn + 1)) cn m_ 1 4)) + (sr_c1 kp (sr_ru kp cn) (sr_ru kp (cn + 1)) cn m_ 2 6)) + (sr_c1 kp (sr_ru kp cn) (sr_ru kp (cn + 1)) cn m_ 3 4)))), (0, .ref (a 0)), (1, .int (nI cn)), (2, .int (nI m_))]) C0.1 C0.2.1 dX8_chanceBy_45 hl (k := 1) rfl (by decide) (by decide) rfl (fun ls hl => ?_)
          refine lv_goto (tgt := 5) C0.1 C0.2.1 dX8_chanceBy_48 (by decide) ?_
          refine lv_iload C0.1 C0.2.1 dX8_chanceBy_5 (lv_at hl 0 rfl) ?_
          refine lv_iconst (v := 5) C0.1 C0.2.1 dX8_chanceBy_7 (by decide) ?_
          refine lv_icmp_ge (tgt := 51) C0.1 C0.2.1 dX8_chanceBy_8 (by decide) (fun q => absurd q (by decide)) (fun _ => ?_)
          refine lv_iload_n C0.1 C0.2.1 dX8_chanceBy_11 rfl (lv_at hl 1 rfl) ?_
          refine lv_aload_n C0.1 C0.2.1 dX8_chanceBy_12 rfl (lv_at hl 2 rfl) ?_
          refine lv_iload_n C0.1 C0.2.1 dX8_chanceBy_13 rfl (lv_at hl 3 rfl) ?_
          refine lv_iload_n C0.1 C0.2.1 dX8_chanceBy_14 rfl (lv_at hl 4 rfl) ?_
          refine lv_iload C0.1 C0.2.1 dX8_chanceBy_15 (lv_at hl 0 rfl) ?_
          refine lv_iconst (v := 2) C0.1 C0.2.1 dX8_chanceBy_17 (by decide) ?_
          refine lv_isub C0.1 C0.2.1 dX8_chanceBy_18 ?_
          refine sr_chi (by decide : (4 - 2 : Int32) = 2) ?_
          refine lv_aload_n C0.1 C0.2.1 dX8_chanceBy_19 rfl (lv_at hl 2 rfl) ?_
          refine sr_get (v := .ref (a 8)) C0 hK hP sr_inX8 sr_wM0 rfl 11 (by decide) sw_621 rfl dX8_chanceBy_20 ?_
          refine lv_bipush (v := 6) C0.1 C0.2.1 dX8_chanceBy_23 (by decide) ?_
          refine sr_ald (k := 6) C0 hK rfl hP sr_wM8 (by decide) (sr_inc (by decide)) dX8_chanceBy_25 ?_
          refine lv_imul C0.1 C0.2.1 dX8_chanceBy_26 ?_
          refine sr_pVi (As := [.int (nI cn), .int (nI m_), .int (2 * (kp 2 6))]) C0 hK hP hZ hZ0 (cc_X8_meetOf ha cn (nI m_) (2 * (kp 2 6)) hK_ hRD hT (by omega)) sk_X8_meetOf sv_X8_meetOf sw_815 (ci := 8) rfl sr_wM0 rfl rfl hl.1 (Nat.le_of_ble_eq_true rfl) (Nat.le_of_ble_eq_true rfl) (Nat.le_of_ble_eq_true rfl) dX8_chanceBy_27 ⟨Nat.zero_le _, Nat.zero_le _⟩ ?_
          refine sr_chi (show (sr_mt kp (sr_ru kp cn) (sr_ru kp (cn + 1)) cn (nI m_) (2 * (kp 2 6))) = (sr_mt kp (sr_ru kp cn) (sr_ru kp (cn + 1)) cn (nI m_) (sr_sp kp 4)) by rw [sr_sp4]) ?_
          refine lv_iconst (v := (-1)) C0.1 C0.2.1 dX8_chanceBy_30 (by decide) ?_
          have hJ43_5 : ∀ (k43_0 : Int32), k43_0 = (if ¬ ((sr_mt kp (sr_ru kp cn) (sr_ru kp (cn + 1)) cn (nI m_) (sr_sp kp 4)) = (-1)) then 1 else 0) → W p l e (sr_rm 5 121) s m args below meth c s.heap [] 0 0 Q (F0 m 43 ls [.int k43_0, .int (nI ((((0 + (sr_c1 kp (sr_ru kp cn) (sr_ru kp (cn + 1)) cn m_ 0 1)) + (sr_c1 kp (sr_ru kp cn) (sr_ru kp (cn + 1)) cn m_ 1 4)) + (sr_c1 kp (sr_ru kp cn) (sr_ru kp (cn + 1)) cn m_ 2 6)) + (sr_c1 kp (sr_ru kp cn) (sr_ru kp (cn + 1)) cn m_ 3 4)))]) := by
            intro k43_0 e_k43_0
            subst e_k43_0
            refine sr_chi (sr_c1_b kp (sr_ru kp cn) (sr_ru kp (cn + 1)) cn m_ 4) ?_
            refine lv_iadd C0.1 C0.2.1 dX8_chanceBy_43 ?_
            refine sr_chi (nI_add ((((0 + (sr_c1 kp (sr_ru kp cn) (sr_ru kp (cn + 1)) cn m_ 0 1)) + (sr_c1 kp (sr_ru kp cn) (sr_ru kp (cn + 1)) cn m_ 1 4)) + (sr_c1 kp (sr_ru kp cn) (sr_ru kp (cn + 1)) cn m_ 2 6)) + (sr_c1 kp (sr_ru kp cn) (sr_ru kp (cn + 1)) cn m_ 3 4)) (sr_c1 kp (sr_ru kp cn) (sr_ru kp (cn + 1)) cn m_ 4 1)) ?_
            refine lv_istore_n (lv' := [(3, .int (nI (((((0 + (sr_c1 kp (sr_ru kp cn) (sr_ru kp (cn + 1)) cn m_ 0 1)) + (sr_c1 kp (sr_ru kp cn) (sr_ru kp (cn + 1)) cn m_ 1 4)) + (sr_c1 kp (sr_ru kp cn) (sr_ru kp (cn + 1)) cn m_ 2 6)) + (sr_c1 kp (sr_ru kp cn) (sr_ru kp (cn + 1)) cn m_ 3 4)) + (sr_c1 kp (sr_ru kp cn) (sr_ru kp (cn + 1)) cn m_ 4 1)))), (4, .int 4), (0, .ref (a 0)), (1, .int (nI cn)), (2, .int (nI m_))]) C0.1 C0.2.1 dX8_chanceBy_44 rfl hl (by decide) rfl (fun ls hl => ?_)
            refine lv_iinc (v := 5) (lv' := [(4, .int 5), (3, .int (nI (((((0 + (sr_c1 kp (sr_ru kp cn) (sr_ru kp (cn + 1)) cn m_ 0 1)) + (sr_c1 kp (sr_ru kp cn) (sr_ru kp (cn + 1)) cn m_ 1 4)) + (sr_c1 kp (sr_ru kp cn) (sr_ru kp (cn + 1)) cn m_ 2 6)) + (sr_c1 kp (sr_ru kp cn) (sr_ru kp (cn + 1)) cn m_ 3 4)) + (sr_c1 kp (sr_ru kp cn) (sr_ru kp (cn + 1)) cn m_ 4 1)))), (0, .ref (a 0)), (1, .int (nI cn)), (2, .int (nI m_))]) C0.1 C0.2.1 dX8_chanceBy_45 hl (k := 1) rfl (by decide) (by decide) rfl (fun ls hl => ?_)
            refine lv_goto (tgt := 5) C0.1 C0.2.1 dX8_chanceBy_48 (by decide) ?_
            refine lv_iload C0.1 C0.2.1 dX8_chanceBy_5 (lv_at hl 0 rfl) ?_
            refine lv_iconst (v := 5) C0.1 C0.2.1 dX8_chanceBy_7 (by decide) ?_
            refine lv_icmp_ge (tgt := 51) C0.1 C0.2.1 dX8_chanceBy_8 (by decide) (fun _ => ?_) (fun q => absurd q (by decide))
            refine lv_iload_n C0.1 C0.2.1 dX8_chanceBy_51 rfl (lv_at hl 1 rfl) ?_
            exact hret _ _ _ dX8_chanceBy_52 (by unfold sr_cN; rw [Nat.zero_add])
          refine lv_icmp_ne (tgt := 38) C0.1 C0.2.1 dX8_chanceBy_31 (by decide) (fun c31_5 => ?_) (fun c31_5 => ?_)
          · refine lv_iload C0.1 C0.2.1 dX8_chanceBy_38 (lv_at hl 0 rfl) ?_
            refine sr_pSi (As := [.int 4]) C0 hK hP hZ hZ0 (cc_X8_oddsOf ha (4)) sk_X8_oddsOf (ss_X8_oddsOf) sw_863 rfl rfl hl.1 (Nat.le_of_ble_eq_true rfl) (Nat.le_of_ble_eq_true rfl) (Nat.le_of_ble_eq_true rfl) dX8_chanceBy_40 ⟨Nat.zero_le _, Nat.zero_le _⟩ ?_
            refine sr_chi (show sr_odd 4 = 1 by decide) ?_
            exact hJ43_5 _ ((if_pos c31_5).symm)
          · refine lv_iconst (v := 0) C0.1 C0.2.1 dX8_chanceBy_34 (by decide) ?_
            refine lv_goto (tgt := 43) C0.1 C0.2.1 dX8_chanceBy_35 (by decide) ?_
            exact hJ43_5 _ ((if_neg (fun q => q c31_5)).symm)
        refine lv_icmp_ne (tgt := 38) C0.1 C0.2.1 dX8_chanceBy_31 (by decide) (fun c31_4 => ?_) (fun c31_4 => ?_)
        · refine lv_iload C0.1 C0.2.1 dX8_chanceBy_38 (lv_at hl 0 rfl) ?_
          refine sr_pSi (As := [.int 3]) C0 hK hP hZ hZ0 (cc_X8_oddsOf ha (3)) sk_X8_oddsOf (ss_X8_oddsOf) sw_863 rfl rfl hl.1 (Nat.le_of_ble_eq_true rfl) (Nat.le_of_ble_eq_true rfl) (Nat.le_of_ble_eq_true rfl) dX8_chanceBy_40 ⟨Nat.zero_le _, Nat.zero_le _⟩ ?_
          refine sr_chi (show sr_odd 3 = 4 by decide) ?_
          exact hJ43_4 _ (by rw [if_neg c31_4])
        · refine lv_iconst (v := 0) C0.1 C0.2.1 dX8_chanceBy_34 (by decide) ?_
          refine lv_goto (tgt := 43) C0.1 C0.2.1 dX8_chanceBy_35 (by decide) ?_
          exact hJ43_4 _ (by rw [if_pos c31_4])
      refine lv_icmp_ne (tgt := 38) C0.1 C0.2.1 dX8_chanceBy_31 (by decide) (fun c31_3 => ?_) (fun c31_3 => ?_)
      · refine lv_iload C0.1 C0.2.1 dX8_chanceBy_38 (lv_at hl 0 rfl) ?_
        refine sr_pSi (As := [.int 2]) C0 hK hP hZ hZ0 (cc_X8_oddsOf ha (2)) sk_X8_oddsOf (ss_X8_oddsOf) sw_863 rfl rfl hl.1 (Nat.le_of_ble_eq_true rfl) (Nat.le_of_ble_eq_true rfl) (Nat.le_of_ble_eq_true rfl) dX8_chanceBy_40 ⟨Nat.zero_le _, Nat.zero_le _⟩ ?_
        refine sr_chi (show sr_odd 2 = 6 by decide) ?_
        exact hJ43_3 _ (by rw [if_neg c31_3])
      · refine lv_iconst (v := 0) C0.1 C0.2.1 dX8_chanceBy_34 (by decide) ?_
        refine lv_goto (tgt := 43) C0.1 C0.2.1 dX8_chanceBy_35 (by decide) ?_
        exact hJ43_3 _ (by rw [if_pos c31_3])
    refine lv_icmp_ne (tgt := 38) C0.1 C0.2.1 dX8_chanceBy_31 (by decide) (fun c31_2 => ?_) (fun c31_2 => ?_)
    · refine lv_iload C0.1 C0.2.1 dX8_chanceBy_38 (lv_at hl 0 rfl) ?_
      refine sr_pSi (As := [.int 1]) C0 hK hP hZ hZ0 (cc_X8_oddsOf ha (1)) sk_X8_oddsOf (ss_X8_oddsOf) sw_863 rfl rfl hl.1 (Nat.le_of_ble_eq_true rfl) (Nat.le_of_ble_eq_true rfl) (Nat.le_of_ble_eq_true rfl) dX8_chanceBy_40 ⟨Nat.zero_le _, Nat.zero_le _⟩ ?_
      refine sr_chi (show sr_odd 1 = 4 by decide) ?_
      exact hJ43_2 _ (by rw [if_neg c31_2])
    · refine lv_iconst (v := 0) C0.1 C0.2.1 dX8_chanceBy_34 (by decide) ?_
      refine lv_goto (tgt := 43) C0.1 C0.2.1 dX8_chanceBy_35 (by decide) ?_
      exact hJ43_2 _ (by rw [if_pos c31_2])
  refine lv_icmp_ne (tgt := 38) C0.1 C0.2.1 dX8_chanceBy_31 (by decide) (fun c31 => ?_) (fun c31 => ?_)
  · refine lv_iload C0.1 C0.2.1 dX8_chanceBy_38 (lv_at hl 0 rfl) ?_
    refine sr_pSi (As := [.int 0]) C0 hK hP hZ hZ0 (cc_X8_oddsOf ha (0)) sk_X8_oddsOf (ss_X8_oddsOf) sw_863 rfl rfl hl.1 (Nat.le_of_ble_eq_true rfl) (Nat.le_of_ble_eq_true rfl) (Nat.le_of_ble_eq_true rfl) dX8_chanceBy_40 ⟨Nat.zero_le _, Nat.zero_le _⟩ ?_
    refine sr_chi (show sr_odd 0 = 1 by decide) ?_
    exact hJ43 _ ((if_pos c31).symm)
  · refine lv_iconst (v := 0) C0.1 C0.2.1 dX8_chanceBy_34 (by decide) ?_
    refine lv_goto (tgt := 43) C0.1 C0.2.1 dX8_chanceBy_35 (by decide) ?_
    exact hJ43 _ ((if_neg (fun q => q c31)).symm)
set_option maxRecDepth 100000 in
set_option maxHeartbeats 4000000 in
theorem cc_X8_chanceNow {l : Launch} {D : va_G} {cI : ClassId} {a : Nat → Nat} (ha : ∀ i j, i < 13 → j < 13 → a i = a j → i = j) {kp cx sg : sr_M} (cn : Nat) (hK_ : sr_IK kp) (hs_cn : cn < 3) : sr_G l D (sr_tM cI) (sr_ZM) (sr_AM a) (sr_WM cI a kp cx sg) yX8_chanceNow cX8_chanceNow 2 (some .int) 6 145 [.ref (a 0), .int (nI cn)] (S := sr_M) (fun u => sr_RD kp u) (fun u => sr_WM cI a kp cx u) (fun u => some (.int (sn_chance kp cn))) := by
  refine sr_Gie (by decide +kernel) (Nat.le_of_ble_eq_true rfl) (fun p e s m args below meth c ls Q B hret => ?_)
  obtain ⟨C0, hP, hK, hZ0, hl⟩ := B
  have hZ : sr_Zok (sr_AM a) (sr_ZM) := sr_ZMok
  have hS : va_S (sr_AM a) s.heap s.heap [] := va_S.rf
  have hl : lv_has ls 2 [(0, .ref (a 0)), (1, .int (nI cn))] := hl
  obtain ⟨H, hH⟩ : ∃ H, H = s.heap := ⟨_, rfl⟩
  have hP : va_P D vwCl (sr_WM cI a kp cx sg) H := by rw [hH]; exact hP
  have hS : va_S (sr_AM a) s.heap H [] := by rw [hH]; exact hS
  suffices hG : ∀ locs, va_S (sr_AM a) s.heap H locs → W p l e (sr_rm 6 145) s m args below meth c H locs 0 0 Q (F0 m 0 ls []) from by have h9 := hG [] hS; rw [hH] at h9; exact h9
  clear hS
  intro locs hS
  clear hH
  refine lv_aload_n C0.1 C0.2.1 dX8_chanceNow_0 rfl (lv_at hl 0 rfl) ?_
  refine sr_gVi (As := []) C0 hK hP hZ (sr_Zs hZ hZ0 hS) (cc_X8_areThere ha hK_) sk_X8_areThere sv_X8_areThere sw_795 (ci := 8) rfl sr_wM0 rfl rfl hl.1 (Nat.le_of_ble_eq_true rfl) (Nat.le_of_ble_eq_true rfl) (Nat.le_of_ble_eq_true rfl) dX8_chanceNow_1 ⟨Nat.zero_le _, Nat.zero_le _⟩ hS (fun sg1 H locs hRD hP hS => ?_)
  refine sr_ifeq (tgt := 21) C0 dX8_chanceNow_4 (by decide) (fun c4 => ?_) (fun c4 => ?_)
  · refine lv_bipush (v := (-3)) C0.1 C0.2.1 dX8_chanceNow_21 (by decide) ?_
    exact hret _ _ _ sg1 _ _ _ dX8_chanceNow_23 hP hS rfl (by unfold sn_chance; rw [if_pos c4]) hRD
  · have hT : sr_th kp := c4
    refine lv_aload_n C0.1 C0.2.1 dX8_chanceNow_7 rfl (lv_at hl 0 rfl) ?_
    refine lv_iload_n C0.1 C0.2.1 dX8_chanceNow_8 rfl (lv_at hl 1 rfl) ?_
    refine lv_aload_n C0.1 C0.2.1 dX8_chanceNow_9 rfl (lv_at hl 0 rfl) ?_
    refine sr_get (v := .ref (a 9)) C0 hK hP sr_inX8 sr_wM0 rfl 12 (by decide) sw_622 rfl dX8_chanceNow_10 ?_
    refine lv_iload_n C0.1 C0.2.1 dX8_chanceNow_13 rfl (lv_at hl 1 rfl) ?_
    refine sr_ald (k := cn) C0 hK rfl hP sr_wM9 (nI_clamp (by omega)) (vp_in_nI (by omega) (by omega)) dX8_chanceNow_14 ?_
    refine sr_chi (sr_IK_mk hK_ (by omega)) ?_
    have := sr_IK_mk40 hK_ (c := cn) (by omega)
    refine sr_pVi (As := [.int (nI cn), .int (nI (sr_mk kp cn))]) C0 hK hP hZ (sr_Zs hZ hZ0 hS) (cc_X8_chanceBy ha cn (sr_mk kp cn) hK_ hRD hT (by omega)) sk_X8_chanceBy sv_X8_chanceBy sw_859 (ci := 8) rfl sr_wM0 rfl rfl hl.1 (Nat.le_of_ble_eq_true rfl) (Nat.le_of_ble_eq_true rfl) (Nat.le_of_ble_eq_true rfl) dX8_chanceNow_15 ⟨Nat.zero_le _, Nat.zero_le _⟩ ?_
    refine lv_goto (tgt := 23) C0.1 C0.2.1 dX8_chanceNow_18 (by decide) ?_
    exact hret _ _ _ sg1 _ _ _ dX8_chanceNow_23 hP hS rfl (by unfold sn_chance; rw [if_neg (fun q => q c4)]; rfl) hRD
set_option maxRecDepth 100000 in
set_option maxHeartbeats 4000000 in
theorem cc_X8_chance {l : Launch} {D : va_G} {cI : ClassId} {a : Nat → Nat} (ha : ∀ i j, i < 13 → j < 13 → a i = a j → i = j) {kp cx sg : sr_M} (c_ : Int32) (hK_ : sr_IK kp) : sr_G l D (sr_tM cI) (sr_ZM) (sr_AM a) (sr_WM cI a kp cx sg) yX8_chance cX8_chance 2 (some .int) 7 166 [.ref (a 0), .int c_] (S := sr_M) (fun u => True) (fun u => sr_WM cI a kp cx u) (fun u => some (.int (sp_chance kp c_))) := by
  refine sr_Gie (by decide +kernel) (Nat.le_of_ble_eq_true rfl) (fun p e s m args below meth c ls Q B hret => ?_)
  obtain ⟨C0, hP, hK, hZ0, hl⟩ := B
  have hZ : sr_Zok (sr_AM a) (sr_ZM) := sr_ZMok
  have hS : va_S (sr_AM a) s.heap s.heap [] := va_S.rf
  have hl : lv_has ls 2 [(0, .ref (a 0)), (1, .int c_)] := hl
  obtain ⟨H, hH⟩ : ∃ H, H = s.heap := ⟨_, rfl⟩
  have hP : va_P D vwCl (sr_WM cI a kp cx sg) H := by rw [hH]; exact hP
  have hS : va_S (sr_AM a) s.heap H [] := by rw [hH]; exact hS
  suffices hG : ∀ locs, va_S (sr_AM a) s.heap H locs → W p l e (sr_rm 7 166) s m args below meth c H locs 0 0 Q (F0 m 0 ls []) from by have h9 := hG [] hS; rw [hH] at h9; exact h9
  clear hS
  intro locs hS
  clear hH
  refine lv_iload_n C0.1 C0.2.1 dX8_chance_0 rfl (lv_at hl 1 rfl) ?_
  refine sr_pSi (As := [.int c_]) C0 hK hP hZ (sr_Zs hZ hZ0 hS) (cc_X8_isChange ha c_) sk_X8_isChange (ss_X8_isChange) sw_761 rfl rfl hl.1 (Nat.le_of_ble_eq_true rfl) (Nat.le_of_ble_eq_true rfl) (Nat.le_of_ble_eq_true rfl) dX8_chance_1 ⟨Nat.zero_le _, Nat.zero_le _⟩ ?_
  refine sr_ifeq (tgt := 15) C0 dX8_chance_4 (by decide) (fun c4 => ?_) (fun c4 => ?_)
  · refine lv_bipush (v := (-2)) C0.1 C0.2.1 dX8_chance_15 (by decide) ?_
    exact hret _ _ _ sg _ _ _ dX8_chance_17 hP hS rfl (by unfold sp_chance; rw [if_pos (Classical.not_not.mp c4)]) trivial
  · obtain ⟨jc, hjc, rfl⟩ := sr_rg2 c4
    refine lv_aload_n C0.1 C0.2.1 dX8_chance_7 rfl (lv_at hl 0 rfl) ?_
    refine lv_iload_n C0.1 C0.2.1 dX8_chance_8 rfl (lv_at hl 1 rfl) ?_
    refine sr_gVi (As := [.int (nI jc)]) C0 hK hP hZ (sr_Zs hZ hZ0 hS) (cc_X8_chanceNow ha jc hK_ (by omega)) sk_X8_chanceNow sv_X8_chanceNow sw_855 (ci := 8) rfl sr_wM0 rfl rfl hl.1 (Nat.le_of_ble_eq_true rfl) (Nat.le_of_ble_eq_true rfl) (Nat.le_of_ble_eq_true rfl) dX8_chance_9 ⟨Nat.zero_le _, Nat.zero_le _⟩ hS (fun sg1 H locs hRD hP hS => ?_)
    refine lv_goto (tgt := 17) C0.1 C0.2.1 dX8_chance_12 (by decide) ?_
    exact hret _ _ _ sg1 _ _ _ dX8_chance_17 hP hS rfl (by unfold sp_chance; (try rw [nI_clamp (n := jc) (by omega)]); rw [if_neg c4]; rfl) trivial
set_option maxRecDepth 100000 in
set_option maxHeartbeats 4000000 in
theorem cc_X8_safeNow {l : Launch} {D : va_G} {cI : ClassId} {a : Nat → Nat} (ha : ∀ i j, i < 13 → j < 13 → a i = a j → i = j) {kp cx sg : sr_M} (cn : Nat) (k_ : Int32) (hK_ : sr_IK kp) (hs_cn : cn < 3) : sr_G l D (sr_tM cI) (sr_ZM) (sr_AM a) (sr_WM cI a kp cx sg) yX8_safeNow cX8_safeNow 4 (some .int) 6 145 [.ref (a 0), .int (nI cn), .int k_] (S := sr_M) (fun u => sr_RD kp u) (fun u => sr_WM cI a kp cx u) (fun u => some (.int (sn_safe kp cn k_))) := by
  refine sr_Gie (by decide +kernel) (Nat.le_of_ble_eq_true rfl) (fun p e s m args below meth c ls Q B hret => ?_)
  obtain ⟨C0, hP, hK, hZ0, hl⟩ := B
  have hZ : sr_Zok (sr_AM a) (sr_ZM) := sr_ZMok
  have hS : va_S (sr_AM a) s.heap s.heap [] := va_S.rf
  have hl : lv_has ls 4 [(0, .ref (a 0)), (1, .int (nI cn)), (2, .int k_)] := hl
  obtain ⟨H, hH⟩ : ∃ H, H = s.heap := ⟨_, rfl⟩
  have hP : va_P D vwCl (sr_WM cI a kp cx sg) H := by rw [hH]; exact hP
  have hS : va_S (sr_AM a) s.heap H [] := by rw [hH]; exact hS
  suffices hG : ∀ locs, va_S (sr_AM a) s.heap H locs → W p l e (sr_rm 6 145) s m args below meth c H locs 0 0 Q (F0 m 0 ls []) from by have h9 := hG [] hS; rw [hH] at h9; exact h9
  clear hS
  intro locs hS
  clear hH
  refine lv_aload_n C0.1 C0.2.1 dX8_safeNow_0 rfl (lv_at hl 0 rfl) ?_
  refine sr_gVi (As := []) C0 hK hP hZ (sr_Zs hZ hZ0 hS) (cc_X8_areThere ha hK_) sk_X8_areThere sv_X8_areThere sw_795 (ci := 8) rfl sr_wM0 rfl rfl hl.1 (Nat.le_of_ble_eq_true rfl) (Nat.le_of_ble_eq_true rfl) (Nat.le_of_ble_eq_true rfl) dX8_safeNow_1 ⟨Nat.zero_le _, Nat.zero_le _⟩ hS (fun sg1 H locs hRD hP hS => ?_)
  refine sr_ifne (tgt := 10) C0 dX8_safeNow_4 (by decide) (fun c4 => ?_) (fun c4 => ?_)
  · have hT : sr_th kp := c4
    refine lv_bipush (v := 40) C0.1 C0.2.1 dX8_safeNow_10 (by decide) ?_
    refine lv_istore_n (lv' := [(3, .int 40), (0, .ref (a 0)), (1, .int (nI cn)), (2, .int k_)]) C0.1 C0.2.1 dX8_safeNow_12 rfl hl (by decide) rfl (fun ls hl => ?_)
    have lp13 : ∀ (n13 : Nat) (j : Nat) (ls : Array Slot), (j ≤ 41) → (j + 1 ≤ n13) → (sr_sf kp (sr_ru kp cn) (sr_ru kp (cn + 1)) cn k_ = sr_dn (fun m => decide (k_ ≤ nI (sr_cN kp (sr_ru kp cn) (sr_ru kp (cn + 1)) cn m))) j) → lv_has ls 4 [(3, .int (nI j + (-1))), (0, .ref (a 0)), (1, .int (nI cn)), (2, .int k_)] → W p l e (sr_rm 6 145) s m args below meth c H locs 0 0 Q (F0 m 13 ls []) := by
      intro n13
      induction n13 with
      | zero =>
        intro j ls h_i h_n h_f hl
        exact absurd h_n (by omega)
      | succ n13 ih13 =>
        intro j ls h_i h_n h_f hl
        refine lv_iload_n C0.1 C0.2.1 dX8_safeNow_13 rfl (lv_at hl 0 rfl) ?_
        refine lv_if_lt (tgt := 33) C0.1 C0.2.1 dX8_safeNow_14 (by decide) (fun c14 => ?_) (fun c14 => ?_)
        · refine lv_iload_n C0.1 C0.2.1 dX8_safeNow_33 rfl (lv_at hl 0 rfl) ?_
          have hj : j = 0 := by rcases Nat.eq_zero_or_pos j with q | q; exact q; exact absurd c14 (by obtain ⟨jj, rfl⟩ : ∃ jj, j = jj + 1 := ⟨j - 1, by omega⟩; rw [pk_m1]; exact nI_pos (by omega))
          exact hret _ _ _ sg1 _ _ _ dX8_safeNow_34 hP hS rfl (by unfold sn_safe; rw [if_neg (fun q => q hT), h_f, hj]; exact (show nI 0 + (-1) = (-1 : Int32) by decide)) hRD
        · obtain ⟨jj, rfl⟩ : ∃ jj, j = jj + 1 := ⟨j - 1, by have : ¬ j = 0 := fun q => c14 (by rw [q]; decide); omega⟩
          rw [pk_m1] at hl
          refine lv_aload_n C0.1 C0.2.1 dX8_safeNow_17 rfl (lv_at hl 1 rfl) ?_
          refine lv_iload_n C0.1 C0.2.1 dX8_safeNow_18 rfl (lv_at hl 2 rfl) ?_
          refine lv_iload_n C0.1 C0.2.1 dX8_safeNow_19 rfl (lv_at hl 0 rfl) ?_
          refine sr_pVi (As := [.int (nI cn), .int (nI jj)]) C0 hK hP hZ (sr_Zs hZ hZ0 hS) (cc_X8_chanceBy ha cn jj hK_ hRD hT (by omega)) sk_X8_chanceBy sv_X8_chanceBy sw_859 (ci := 8) rfl sr_wM0 rfl rfl hl.1 (Nat.le_of_ble_eq_true rfl) (Nat.le_of_ble_eq_true rfl) (Nat.le_of_ble_eq_true rfl) dX8_safeNow_20 ⟨Nat.zero_le _, Nat.zero_le _⟩ ?_
          refine lv_iload_n C0.1 C0.2.1 dX8_safeNow_23 rfl (lv_at hl 3 rfl) ?_
          refine lv_icmp_ge (tgt := 33) C0.1 C0.2.1 dX8_safeNow_24 (by decide) (fun c24 => ?_) (fun c24 => ?_)
          · refine lv_iload_n C0.1 C0.2.1 dX8_safeNow_33 rfl (lv_at hl 0 rfl) ?_
            exact hret _ _ _ sg1 _ _ _ dX8_safeNow_34 hP hS rfl (by unfold sn_safe; rw [if_neg (fun q => q hT), h_f]; exact (if_pos (decide_eq_true c24)).symm) hRD
          · refine lv_iinc (v := ((nI jj) + (-1))) (lv' := [(3, .int ((nI jj) + (-1))), (0, .ref (a 0)), (1, .int (nI cn)), (2, .int k_)]) C0.1 C0.2.1 dX8_safeNow_27 hl (k := 0) rfl rfl (by decide) rfl (fun ls hl => ?_)
            refine lv_goto (tgt := 13) C0.1 C0.2.1 dX8_safeNow_30 (by decide) ?_
            exact ih13 jj _ (by omega) (by omega) (by rw [h_f]; exact if_neg (fun q => absurd (of_decide_eq_true q) c24)) (lv_sub hl [0, 1, 2, 3] rfl)
    exact lp13 42 41 _ (by omega) (by omega) rfl (lv_sub hl [0, 1, 2, 3] rfl)
  · refine lv_bipush (v := (-3)) C0.1 C0.2.1 dX8_safeNow_7 (by decide) ?_
    exact hret _ _ _ sg1 _ _ _ dX8_safeNow_9 hP hS rfl (by unfold sn_safe; rw [if_pos c4]) hRD
set_option maxRecDepth 100000 in
set_option maxHeartbeats 4000000 in
theorem cc_X8_safe {l : Launch} {D : va_G} {cI : ClassId} {a : Nat → Nat} (ha : ∀ i j, i < 13 → j < 13 → a i = a j → i = j) {kp cx sg : sr_M} (c_ : Int32) (k_ : Int32) (hK_ : sr_IK kp) : sr_G l D (sr_tM cI) (sr_ZM) (sr_AM a) (sr_WM cI a kp cx sg) yX8_safe cX8_safe 3 (some .int) 7 168 [.ref (a 0), .int c_, .int k_] (S := sr_M) (fun u => True) (fun u => sr_WM cI a kp cx u) (fun u => some (.int (sp_safe kp c_ k_))) := by
  refine sr_Gie (by decide +kernel) (Nat.le_of_ble_eq_true rfl) (fun p e s m args below meth c ls Q B hret => ?_)
  obtain ⟨C0, hP, hK, hZ0, hl⟩ := B
  have hZ : sr_Zok (sr_AM a) (sr_ZM) := sr_ZMok
  have hS : va_S (sr_AM a) s.heap s.heap [] := va_S.rf
  have hl : lv_has ls 3 [(0, .ref (a 0)), (1, .int c_), (2, .int k_)] := hl
  obtain ⟨H, hH⟩ : ∃ H, H = s.heap := ⟨_, rfl⟩
  have hP : va_P D vwCl (sr_WM cI a kp cx sg) H := by rw [hH]; exact hP
  have hS : va_S (sr_AM a) s.heap H [] := by rw [hH]; exact hS
  suffices hG : ∀ locs, va_S (sr_AM a) s.heap H locs → W p l e (sr_rm 7 168) s m args below meth c H locs 0 0 Q (F0 m 0 ls []) from by have h9 := hG [] hS; rw [hH] at h9; exact h9
  clear hS
  intro locs hS
  clear hH
  refine lv_iload_n C0.1 C0.2.1 dX8_safe_0 rfl (lv_at hl 1 rfl) ?_
  refine sr_pSi (As := [.int c_]) C0 hK hP hZ (sr_Zs hZ hZ0 hS) (cc_X8_isChange ha c_) sk_X8_isChange (ss_X8_isChange) sw_761 rfl rfl hl.1 (Nat.le_of_ble_eq_true rfl) (Nat.le_of_ble_eq_true rfl) (Nat.le_of_ble_eq_true rfl) dX8_safe_1 ⟨Nat.zero_le _, Nat.zero_le _⟩ ?_
  refine sr_ifeq (tgt := 28) C0 dX8_safe_4 (by decide) (fun c4 => ?_) (fun c4 => ?_)
  · refine lv_bipush (v := (-2)) C0.1 C0.2.1 dX8_safe_28 (by decide) ?_
    exact hret _ _ _ sg _ _ _ dX8_safe_30 hP hS rfl (by unfold sp_safe; rw [if_pos (Classical.not_not.mp c4)]) trivial
  · obtain ⟨jc, hjc, rfl⟩ := sr_rg2 c4
    refine lv_iload_n C0.1 C0.2.1 dX8_safe_7 rfl (lv_at hl 2 rfl) ?_
    refine lv_i2l C0.1 C0.2.1 dX8_safe_8 rfl ?_
    refine lv_lconst (v := 0) C0.1 C0.2.1 dX8_safe_9 (by decide) ?_
    refine lv_ldc2 (v := 16) C0.1 C0.2.1 C0.2.2.2.1 (C0.2.2.2.2 _ sw_886) dX8_safe_10 ?_
    refine sr_pSi (As := [.long ((k_).toInt64), .long 0, .long 16]) C0 hK hP hZ (sr_Zs hZ hZ0 hS) (cc_X8_inI ha (k_) (0 : Int32) (16 : Int32) rfl (by decide) (by decide)) sk_X8_in (ss_X8_in) sw_670 rfl rfl hl.1 (Nat.le_of_ble_eq_true rfl) (Nat.le_of_ble_eq_true rfl) (Nat.le_of_ble_eq_true rfl) dX8_safe_13 ⟨Nat.zero_le _, Nat.zero_le _⟩ ?_
    refine sr_ifeq (tgt := 28) C0 dX8_safe_16 (by decide) (fun c16 => ?_) (fun c16 => ?_)
    · refine lv_bipush (v := (-2)) C0.1 C0.2.1 dX8_safe_28 (by decide) ?_
      exact hret _ _ _ sg _ _ _ dX8_safe_30 hP hS rfl (by unfold sp_safe; (try rw [nI_clamp (n := jc) (by omega)]); rw [if_neg c4, if_pos (Classical.not_not.mp c16)]) trivial
    · refine lv_aload_n C0.1 C0.2.1 dX8_safe_19 rfl (lv_at hl 0 rfl) ?_
      refine lv_iload_n C0.1 C0.2.1 dX8_safe_20 rfl (lv_at hl 1 rfl) ?_
      refine lv_iload_n C0.1 C0.2.1 dX8_safe_21 rfl (lv_at hl 2 rfl) ?_
      refine sr_gVi (As := [.int (nI jc), .int k_]) C0 hK hP hZ (sr_Zs hZ hZ0 hS) (cc_X8_safeNow ha jc k_ hK_ (by omega)) sk_X8_safeNow sv_X8_safeNow sw_887 (ci := 8) rfl sr_wM0 rfl rfl hl.1 (Nat.le_of_ble_eq_true rfl) (Nat.le_of_ble_eq_true rfl) (Nat.le_of_ble_eq_true rfl) dX8_safe_22 ⟨Nat.zero_le _, Nat.zero_le _⟩ hS (fun sg1 H locs hRD hP hS => ?_)
      refine lv_goto (tgt := 30) C0.1 C0.2.1 dX8_safe_25 (by decide) ?_
      exact hret _ _ _ sg1 _ _ _ dX8_safe_30 hP hS rfl (by unfold sp_safe; (try rw [nI_clamp (n := jc) (by omega)]); rw [if_neg c4, if_neg c16]; rfl) trivial
set_option maxRecDepth 100000 in
set_option maxHeartbeats 4000000 in
theorem cc_X8_lost {l : Launch} {D : va_G} {cI : ClassId} {a : Nat → Nat} (ha : ∀ i j, i < 13 → j < 13 → a i = a j → i = j) {kp cx sg : sr_M} (x_ : Int32) : sr_P l D (sr_tM cI) (sr_ZM) (sr_WM cI a kp cx sg) yX8_lost cX8_lost 2 (some .int) 0 0 [.ref (a 0), .int x_] (some (.int (sr_bu kp x_))) := by
  refine sr_Pie (by decide +kernel) (Nat.le_of_ble_eq_true rfl) (fun p e s m args below meth c ls Q B hret => ?_)
  obtain ⟨C0, hP, hK, hZ0, hl⟩ := B
  have hZ : sr_Zok (sr_AM a) (sr_ZM) := sr_ZMok
  have hS : va_S (sr_AM a) s.heap s.heap [] := va_S.rf
  have hl : lv_has ls 2 [(0, .ref (a 0)), (1, .int x_)] := hl
  refine lv_iload_n C0.1 C0.2.1 dX8_lost_0 rfl (lv_at hl 1 rfl) ?_
  refine lv_if_ne (tgt := 13) C0.1 C0.2.1 dX8_lost_1 (by decide) (fun c1 => ?_) (fun c1 => ?_)
  · refine lv_iconst (v := 0) C0.1 C0.2.1 dX8_lost_13 (by decide) ?_
    exact hret _ _ _ dX8_lost_14 (by unfold sr_bu; rw [if_neg c1])
  · refine lv_aload_n C0.1 C0.2.1 dX8_lost_4 rfl (lv_at hl 0 rfl) ?_
    refine sr_get (v := .ref (a 8)) C0 hK hP sr_inX8 sr_wM0 rfl 11 (by decide) sw_621 rfl dX8_lost_5 ?_
    refine lv_iconst (v := 5) C0.1 C0.2.1 dX8_lost_8 (by decide) ?_
    refine sr_ald (k := 5) C0 hK rfl hP sr_wM8 (by decide) (sr_inc (by decide)) dX8_lost_9 ?_
    refine lv_goto (tgt := 14) C0.1 C0.2.1 dX8_lost_10 (by decide) ?_
    exact hret _ _ _ dX8_lost_14 (by unfold sr_bu; rw [if_pos c1])
set_option maxRecDepth 100000 in
set_option maxHeartbeats 4000000 in
theorem cc_X8_blameNow {l : Launch} {D : va_G} {cI : ClassId} {a : Nat → Nat} (ha : ∀ i j, i < 13 → j < 13 → a i = a j → i = j) {kp cx sg : sr_M} (cn : Nat) (x_ : Int32) (hK_ : sr_IK kp) (hs_cn : cn < 3) : sr_G l D (sr_tM cI) (sr_ZM) (sr_AM a) (sr_WM cI a kp cx sg) yX8_blameNow cX8_blameNow 5 (some .int) 5 121 [.ref (a 0), .int (nI cn), .int x_] (S := sr_M) (fun u => sr_RD kp u) (fun u => sr_WM cI a kp cx u) (fun u => some (.int (sn_blame kp cn x_))) := by
  refine sr_Gie (by decide +kernel) (Nat.le_of_ble_eq_true rfl) (fun p e s m args below meth c ls Q B hret => ?_)
  obtain ⟨C0, hP, hK, hZ0, hl⟩ := B
  have hZ : sr_Zok (sr_AM a) (sr_ZM) := sr_ZMok
  have hS : va_S (sr_AM a) s.heap s.heap [] := va_S.rf
  have hl : lv_has ls 5 [(0, .ref (a 0)), (1, .int (nI cn)), (2, .int x_)] := hl
  obtain ⟨H, hH⟩ : ∃ H, H = s.heap := ⟨_, rfl⟩
  have hP : va_P D vwCl (sr_WM cI a kp cx sg) H := by rw [hH]; exact hP
  have hS : va_S (sr_AM a) s.heap H [] := by rw [hH]; exact hS
  suffices hG : ∀ locs, va_S (sr_AM a) s.heap H locs → W p l e (sr_rm 5 121) s m args below meth c H locs 0 0 Q (F0 m 0 ls []) from by have h9 := hG [] hS; rw [hH] at h9; exact h9
  clear hS
  intro locs hS
  clear hH
  refine lv_aload_n C0.1 C0.2.1 dX8_blameNow_0 rfl (lv_at hl 0 rfl) ?_
  refine sr_gVi (As := []) C0 hK hP hZ (sr_Zs hZ hZ0 hS) (cc_X8_areThere ha hK_) sk_X8_areThere sv_X8_areThere sw_795 (ci := 8) rfl sr_wM0 rfl rfl hl.1 (Nat.le_of_ble_eq_true rfl) (Nat.le_of_ble_eq_true rfl) (Nat.le_of_ble_eq_true rfl) dX8_blameNow_1 ⟨Nat.zero_le _, Nat.zero_le _⟩ hS (fun sg1 H locs hRD hP hS => ?_)
  refine sr_ifne (tgt := 10) C0 dX8_blameNow_4 (by decide) (fun c4 => ?_) (fun c4 => ?_)
  · have hT : sr_th kp := c4
    refine lv_iconst (v := 0) C0.1 C0.2.1 dX8_blameNow_10 (by decide) ?_
    refine lv_istore_n (lv' := [(3, .int 0), (0, .ref (a 0)), (1, .int (nI cn)), (2, .int x_)]) C0.1 C0.2.1 dX8_blameNow_11 rfl hl (by decide) rfl (fun ls hl => ?_)
    refine lv_iconst (v := 0) C0.1 C0.2.1 dX8_blameNow_12 (by decide) ?_
    refine lv_istore (lv' := [(4, .int 0), (3, .int 0), (0, .ref (a 0)), (1, .int (nI cn)), (2, .int x_)]) C0.1 C0.2.1 dX8_blameNow_13 hl (by decide) rfl (fun ls hl => ?_)
    refine lv_iload C0.1 C0.2.1 dX8_blameNow_15 (lv_at hl 0 rfl) ?_
    refine lv_iconst (v := 5) C0.1 C0.2.1 dX8_blameNow_17 (by decide) ?_
    refine lv_icmp_ge (tgt := 65) C0.1 C0.2.1 dX8_blameNow_18 (by decide) (fun q => absurd q (by decide)) (fun _ => ?_)
    refine lv_iload_n C0.1 C0.2.1 dX8_blameNow_21 rfl (lv_at hl 1 rfl) ?_
    refine lv_aload_n C0.1 C0.2.1 dX8_blameNow_22 rfl (lv_at hl 2 rfl) ?_
    refine lv_iload_n C0.1 C0.2.1 dX8_blameNow_23 rfl (lv_at hl 3 rfl) ?_
    refine lv_aload_n C0.1 C0.2.1 dX8_blameNow_24 rfl (lv_at hl 2 rfl) ?_
    refine sr_get (v := .ref (a 9)) C0 hK hP sr_inX8 sr_wM0 rfl 12 (by decide) sw_622 rfl dX8_blameNow_25 ?_
    refine lv_iload_n C0.1 C0.2.1 dX8_blameNow_28 rfl (lv_at hl 3 rfl) ?_
    refine sr_ald (k := cn) C0 hK rfl hP sr_wM9 (nI_clamp (by omega)) (vp_in_nI (by omega) (by omega)) dX8_blameNow_29 ?_
    refine lv_iload C0.1 C0.2.1 dX8_blameNow_30 (lv_at hl 0 rfl) ?_
    refine lv_iconst (v := 2) C0.1 C0.2.1 dX8_blameNow_32 (by decide) ?_
    refine lv_isub C0.1 C0.2.1 dX8_blameNow_33 ?_
    refine sr_chi (by decide : (0 - 2 : Int32) = (-2)) ?_
    refine lv_aload_n C0.1 C0.2.1 dX8_blameNow_34 rfl (lv_at hl 2 rfl) ?_
    refine sr_get (v := .ref (a 8)) C0 hK hP sr_inX8 sr_wM0 rfl 11 (by decide) sw_621 rfl dX8_blameNow_35 ?_
    refine lv_bipush (v := 6) C0.1 C0.2.1 dX8_blameNow_38 (by decide) ?_
    refine sr_ald (k := 6) C0 hK rfl hP sr_wM8 (by decide) (sr_inc (by decide)) dX8_blameNow_40 ?_
    refine lv_imul C0.1 C0.2.1 dX8_blameNow_41 ?_
    refine sr_pVi (As := [.int (nI cn), .int (kp 3 cn), .int ((-2) * (kp 2 6))]) C0 hK hP hZ (sr_Zs hZ hZ0 hS) (cc_X8_meetOf ha cn (kp 3 cn) ((-2) * (kp 2 6)) hK_ hRD hT (by omega)) sk_X8_meetOf sv_X8_meetOf sw_815 (ci := 8) rfl sr_wM0 rfl rfl hl.1 (Nat.le_of_ble_eq_true rfl) (Nat.le_of_ble_eq_true rfl) (Nat.le_of_ble_eq_true rfl) dX8_blameNow_42 ⟨Nat.zero_le _, Nat.zero_le _⟩ ?_
    refine sr_chi (show (sr_mt kp (sr_ru kp cn) (sr_ru kp (cn + 1)) cn (kp 3 cn) ((-2) * (kp 2 6))) = (sr_mt kp (sr_ru kp cn) (sr_ru kp (cn + 1)) cn (kp 3 cn) (sr_sp kp 0)) by rw [sr_sp0]) ?_
    refine lv_iload_n C0.1 C0.2.1 dX8_blameNow_45 rfl (lv_at hl 4 rfl) ?_
    have hJ57 : ∀ (k57_0 : Int32), k57_0 = (if (sr_mt kp (sr_ru kp cn) (sr_ru kp (cn + 1)) cn (kp 3 cn) (sr_sp kp 0)) = x_ then 1 else 0) → W p l e (sr_rm 5 121) s m args below meth c H locs 0 0 Q (F0 m 57 ls [.int k57_0, .int 0]) := by
      intro k57_0 e_k57_0
      subst e_k57_0
      refine lv_ior C0.1 C0.2.1 dX8_blameNow_57 ?_
      refine sr_chi (sr_g1_e (sr_mt kp (sr_ru kp cn) (sr_ru kp (cn + 1)) cn (kp 3 cn) (sr_sp kp 0)) x_ 0 1) ?_
      refine lv_istore_n (lv' := [(3, .int (sr_g1 (sr_mt kp (sr_ru kp cn) (sr_ru kp (cn + 1)) cn (kp 3 cn) (sr_sp kp 0)) x_ 0 1)), (4, .int 0), (0, .ref (a 0)), (1, .int (nI cn)), (2, .int x_)]) C0.1 C0.2.1 dX8_blameNow_58 rfl hl (by decide) rfl (fun ls hl => ?_)
      refine lv_iinc (v := 1) (lv' := [(4, .int 1), (3, .int (sr_g1 (sr_mt kp (sr_ru kp cn) (sr_ru kp (cn + 1)) cn (kp 3 cn) (sr_sp kp 0)) x_ 0 1)), (0, .ref (a 0)), (1, .int (nI cn)), (2, .int x_)]) C0.1 C0.2.1 dX8_blameNow_59 hl (k := 1) rfl (by decide) (by decide) rfl (fun ls hl => ?_)
      refine lv_goto (tgt := 15) C0.1 C0.2.1 dX8_blameNow_62 (by decide) ?_
      refine lv_iload C0.1 C0.2.1 dX8_blameNow_15 (lv_at hl 0 rfl) ?_
      refine lv_iconst (v := 5) C0.1 C0.2.1 dX8_blameNow_17 (by decide) ?_
      refine lv_icmp_ge (tgt := 65) C0.1 C0.2.1 dX8_blameNow_18 (by decide) (fun q => absurd q (by decide)) (fun _ => ?_)
      refine lv_iload_n C0.1 C0.2.1 dX8_blameNow_21 rfl (lv_at hl 1 rfl) ?_
      refine lv_aload_n C0.1 C0.2.1 dX8_blameNow_22 rfl (lv_at hl 2 rfl) ?_
      refine lv_iload_n C0.1 C0.2.1 dX8_blameNow_23 rfl (lv_at hl 3 rfl) ?_
      refine lv_aload_n C0.1 C0.2.1 dX8_blameNow_24 rfl (lv_at hl 2 rfl) ?_
      refine sr_get (v := .ref (a 9)) C0 hK hP sr_inX8 sr_wM0 rfl 12 (by decide) sw_622 rfl dX8_blameNow_25 ?_
      refine lv_iload_n C0.1 C0.2.1 dX8_blameNow_28 rfl (lv_at hl 3 rfl) ?_
      refine sr_ald (k := cn) C0 hK rfl hP sr_wM9 (nI_clamp (by omega)) (vp_in_nI (by omega) (by omega)) dX8_blameNow_29 ?_
      refine lv_iload C0.1 C0.2.1 dX8_blameNow_30 (lv_at hl 0 rfl) ?_
      refine lv_iconst (v := 2) C0.1 C0.2.1 dX8_blameNow_32 (by decide) ?_
      refine lv_isub C0.1 C0.2.1 dX8_blameNow_33 ?_
      refine sr_chi (by decide : (1 - 2 : Int32) = (-1)) ?_
      refine lv_aload_n C0.1 C0.2.1 dX8_blameNow_34 rfl (lv_at hl 2 rfl) ?_
      refine sr_get (v := .ref (a 8)) C0 hK hP sr_inX8 sr_wM0 rfl 11 (by decide) sw_621 rfl dX8_blameNow_35 ?_
      refine lv_bipush (v := 6) C0.1 C0.2.1 dX8_blameNow_38 (by decide) ?_
      refine sr_ald (k := 6) C0 hK rfl hP sr_wM8 (by decide) (sr_inc (by decide)) dX8_blameNow_40 ?_
      refine lv_imul C0.1 C0.2.1 dX8_blameNow_41 ?_
      refine sr_pVi (As := [.int (nI cn), .int (kp 3 cn), .int ((-1) * (kp 2 6))]) C0 hK hP hZ (sr_Zs hZ hZ0 hS) (cc_X8_meetOf ha cn (kp 3 cn) ((-1) * (kp 2 6)) hK_ hRD hT (by omega)) sk_X8_meetOf sv_X8_meetOf sw_815 (ci := 8) rfl sr_wM0 rfl rfl hl.1 (Nat.le_of_ble_eq_true rfl) (Nat.le_of_ble_eq_true rfl) (Nat.le_of_ble_eq_true rfl) dX8_blameNow_42 ⟨Nat.zero_le _, Nat.zero_le _⟩ ?_
      refine sr_chi (show (sr_mt kp (sr_ru kp cn) (sr_ru kp (cn + 1)) cn (kp 3 cn) ((-1) * (kp 2 6))) = (sr_mt kp (sr_ru kp cn) (sr_ru kp (cn + 1)) cn (kp 3 cn) (sr_sp kp 1)) by rw [sr_sp1]) ?_
      refine lv_iload_n C0.1 C0.2.1 dX8_blameNow_45 rfl (lv_at hl 4 rfl) ?_
      have hJ57_2 : ∀ (k57_0 : Int32), k57_0 = (if (sr_mt kp (sr_ru kp cn) (sr_ru kp (cn + 1)) cn (kp 3 cn) (sr_sp kp 1)) = x_ then 2 else 0) → W p l e (sr_rm 5 121) s m args below meth c H locs 0 0 Q (F0 m 57 ls [.int k57_0, .int (sr_g1 (sr_mt kp (sr_ru kp cn) (sr_ru kp (cn + 1)) cn (kp 3 cn) (sr_sp kp 0)) x_ 0 1)]) := by
        intro k57_0 e_k57_0
        subst e_k57_0
        refine lv_ior C0.1 C0.2.1 dX8_blameNow_57 ?_
        refine sr_chi (sr_g1_e (sr_mt kp (sr_ru kp cn) (sr_ru kp (cn + 1)) cn (kp 3 cn) (sr_sp kp 1)) x_ (sr_g1 (sr_mt kp (sr_ru kp cn) (sr_ru kp (cn + 1)) cn (kp 3 cn) (sr_sp kp 0)) x_ 0 1) 2) ?_
        refine lv_istore_n (lv' := [(3, .int (sr_g1 (sr_mt kp (sr_ru kp cn) (sr_ru kp (cn + 1)) cn (kp 3 cn) (sr_sp kp 1)) x_ (sr_g1 (sr_mt kp (sr_ru kp cn) (sr_ru kp (cn + 1)) cn (kp 3 cn) (sr_sp kp 0)) x_ 0 1) 2)), (4, .int 1), (0, .ref (a 0)), (1, .int (nI cn)), (2, .int x_)]) C0.1 C0.2.1 dX8_blameNow_58 rfl hl (by decide) rfl (fun ls hl => ?_)
        refine lv_iinc (v := 2) (lv' := [(4, .int 2), (3, .int (sr_g1 (sr_mt kp (sr_ru kp cn) (sr_ru kp (cn + 1)) cn (kp 3 cn) (sr_sp kp 1)) x_ (sr_g1 (sr_mt kp (sr_ru kp cn) (sr_ru kp (cn + 1)) cn (kp 3 cn) (sr_sp kp 0)) x_ 0 1) 2)), (0, .ref (a 0)), (1, .int (nI cn)), (2, .int x_)]) C0.1 C0.2.1 dX8_blameNow_59 hl (k := 1) rfl (by decide) (by decide) rfl (fun ls hl => ?_)
        refine lv_goto (tgt := 15) C0.1 C0.2.1 dX8_blameNow_62 (by decide) ?_
        refine lv_iload C0.1 C0.2.1 dX8_blameNow_15 (lv_at hl 0 rfl) ?_
        refine lv_iconst (v := 5) C0.1 C0.2.1 dX8_blameNow_17 (by decide) ?_
        refine lv_icmp_ge (tgt := 65) C0.1 C0.2.1 dX8_blameNow_18 (by decide) (fun q => absurd q (by decide)) (fun _ => ?_)
        refine lv_iload_n C0.1 C0.2.1 dX8_blameNow_21 rfl (lv_at hl 1 rfl) ?_
        refine lv_aload_n C0.1 C0.2.1 dX8_blameNow_22 rfl (lv_at hl 2 rfl) ?_
        refine lv_iload_n C0.1 C0.2.1 dX8_blameNow_23 rfl (lv_at hl 3 rfl) ?_
        refine lv_aload_n C0.1 C0.2.1 dX8_blameNow_24 rfl (lv_at hl 2 rfl) ?_
        refine sr_get (v := .ref (a 9)) C0 hK hP sr_inX8 sr_wM0 rfl 12 (by decide) sw_622 rfl dX8_blameNow_25 ?_
        refine lv_iload_n C0.1 C0.2.1 dX8_blameNow_28 rfl (lv_at hl 3 rfl) ?_
        refine sr_ald (k := cn) C0 hK rfl hP sr_wM9 (nI_clamp (by omega)) (vp_in_nI (by omega) (by omega)) dX8_blameNow_29 ?_
        refine lv_iload C0.1 C0.2.1 dX8_blameNow_30 (lv_at hl 0 rfl) ?_
        refine lv_iconst (v := 2) C0.1 C0.2.1 dX8_blameNow_32 (by decide) ?_
        refine lv_isub C0.1 C0.2.1 dX8_blameNow_33 ?_
        refine sr_chi (by decide : (2 - 2 : Int32) = 0) ?_
        refine lv_aload_n C0.1 C0.2.1 dX8_blameNow_34 rfl (lv_at hl 2 rfl) ?_
        refine sr_get (v := .ref (a 8)) C0 hK hP sr_inX8 sr_wM0 rfl 11 (by decide) sw_621 rfl dX8_blameNow_35 ?_
        refine lv_bipush (v := 6) C0.1 C0.2.1 dX8_blameNow_38 (by decide) ?_
        refine sr_ald (k := 6) C0 hK rfl hP sr_wM8 (by decide) (sr_inc (by decide)) dX8_blameNow_40 ?_
        refine lv_imul C0.1 C0.2.1 dX8_blameNow_41 ?_
        refine sr_pVi (As := [.int (nI cn), .int (kp 3 cn), .int (0 * (kp 2 6))]) C0 hK hP hZ (sr_Zs hZ hZ0 hS) (cc_X8_meetOf ha cn (kp 3 cn) (0 * (kp 2 6)) hK_ hRD hT (by omega)) sk_X8_meetOf sv_X8_meetOf sw_815 (ci := 8) rfl sr_wM0 rfl rfl hl.1 (Nat.le_of_ble_eq_true rfl) (Nat.le_of_ble_eq_true rfl) (Nat.le_of_ble_eq_true rfl) dX8_blameNow_42 ⟨Nat.zero_le _, Nat.zero_le _⟩ ?_
        refine sr_chi (show (sr_mt kp (sr_ru kp cn) (sr_ru kp (cn + 1)) cn (kp 3 cn) (0 * (kp 2 6))) = (sr_mt kp (sr_ru kp cn) (sr_ru kp (cn + 1)) cn (kp 3 cn) (sr_sp kp 2)) by rw [sr_sp2]) ?_
        refine lv_iload_n C0.1 C0.2.1 dX8_blameNow_45 rfl (lv_at hl 4 rfl) ?_
        have hJ57_3 : ∀ (k57_0 : Int32), k57_0 = (if (sr_mt kp (sr_ru kp cn) (sr_ru kp (cn + 1)) cn (kp 3 cn) (sr_sp kp 2)) = x_ then 4 else 0) → W p l e (sr_rm 5 121) s m args below meth c H locs 0 0 Q (F0 m 57 ls [.int k57_0, .int (sr_g1 (sr_mt kp (sr_ru kp cn) (sr_ru kp (cn + 1)) cn (kp 3 cn) (sr_sp kp 1)) x_ (sr_g1 (sr_mt kp (sr_ru kp cn) (sr_ru kp (cn + 1)) cn (kp 3 cn) (sr_sp kp 0)) x_ 0 1) 2)]) := by
          intro k57_0 e_k57_0
          subst e_k57_0
          refine lv_ior C0.1 C0.2.1 dX8_blameNow_57 ?_
          refine sr_chi (sr_g1_e (sr_mt kp (sr_ru kp cn) (sr_ru kp (cn + 1)) cn (kp 3 cn) (sr_sp kp 2)) x_ (sr_g1 (sr_mt kp (sr_ru kp cn) (sr_ru kp (cn + 1)) cn (kp 3 cn) (sr_sp kp 1)) x_ (sr_g1 (sr_mt kp (sr_ru kp cn) (sr_ru kp (cn + 1)) cn (kp 3 cn) (sr_sp kp 0)) x_ 0 1) 2) 4) ?_
          refine lv_istore_n (lv' := [(3, .int (sr_g1 (sr_mt kp (sr_ru kp cn) (sr_ru kp (cn + 1)) cn (kp 3 cn) (sr_sp kp 2)) x_ (sr_g1 (sr_mt kp (sr_ru kp cn) (sr_ru kp (cn + 1)) cn (kp 3 cn) (sr_sp kp 1)) x_ (sr_g1 (sr_mt kp (sr_ru kp cn) (sr_ru kp (cn + 1)) cn (kp 3 cn) (sr_sp kp 0)) x_ 0 1) 2) 4)), (4, .int 2), (0, .ref (a 0)), (1, .int (nI cn)), (2, .int x_)]) C0.1 C0.2.1 dX8_blameNow_58 rfl hl (by decide) rfl (fun ls hl => ?_)
          refine lv_iinc (v := 3) (lv' := [(4, .int 3), (3, .int (sr_g1 (sr_mt kp (sr_ru kp cn) (sr_ru kp (cn + 1)) cn (kp 3 cn) (sr_sp kp 2)) x_ (sr_g1 (sr_mt kp (sr_ru kp cn) (sr_ru kp (cn + 1)) cn (kp 3 cn) (sr_sp kp 1)) x_ (sr_g1 (sr_mt kp (sr_ru kp cn) (sr_ru kp (cn + 1)) cn (kp 3 cn) (sr_sp kp 0)) x_ 0 1) 2) 4)), (0, .ref (a 0)), (1, .int (nI cn)), (2, .int x_)]) C0.1 C0.2.1 dX8_blameNow_59 hl (k := 1) rfl (by decide) (by decide) rfl (fun ls hl => ?_)
          refine lv_goto (tgt := 15) C0.1 C0.2.1 dX8_blameNow_62 (by decide) ?_
          refine lv_iload C0.1 C0.2.1 dX8_blameNow_15 (lv_at hl 0 rfl) ?_
          refine lv_iconst (v := 5) C0.1 C0.2.1 dX8_blameNow_17 (by decide) ?_
          refine lv_icmp_ge (tgt := 65) C0.1 C0.2.1 dX8_blameNow_18 (by decide) (fun q => absurd q (by decide)) (fun _ => ?_)
          refine lv_iload_n C0.1 C0.2.1 dX8_blameNow_21 rfl (lv_at hl 1 rfl) ?_
          refine lv_aload_n C0.1 C0.2.1 dX8_blameNow_22 rfl (lv_at hl 2 rfl) ?_
          refine lv_iload_n C0.1 C0.2.1 dX8_blameNow_23 rfl (lv_at hl 3 rfl) ?_
          refine lv_aload_n C0.1 C0.2.1 dX8_blameNow_24 rfl (lv_at hl 2 rfl) ?_
          refine sr_get (v := .ref (a 9)) C0 hK hP sr_inX8 sr_wM0 rfl 12 (by decide) sw_622 rfl dX8_blameNow_25 ?_
          refine lv_iload_n C0.1 C0.2.1 dX8_blameNow_28 rfl (lv_at hl 3 rfl) ?_
          refine sr_ald (k := cn) C0 hK rfl hP sr_wM9 (nI_clamp (by omega)) (vp_in_nI (by omega) (by omega)) dX8_blameNow_29 ?_
          refine lv_iload C0.1 C0.2.1 dX8_blameNow_30 (lv_at hl 0 rfl) ?_
          refine lv_iconst (v := 2) C0.1 C0.2.1 dX8_blameNow_32 (by decide) ?_
          refine lv_isub C0.1 C0.2.1 dX8_blameNow_33 ?_
          refine sr_chi (by decide : (3 - 2 : Int32) = 1) ?_
          refine lv_aload_n C0.1 C0.2.1 dX8_blameNow_34 rfl (lv_at hl 2 rfl) ?_
          refine sr_get (v := .ref (a 8)) C0 hK hP sr_inX8 sr_wM0 rfl 11 (by decide) sw_621 rfl dX8_blameNow_35 ?_
          refine lv_bipush (v := 6) C0.1 C0.2.1 dX8_blameNow_38 (by decide) ?_
          refine sr_ald (k := 6) C0 hK rfl hP sr_wM8 (by decide) (sr_inc (by decide)) dX8_blameNow_40 ?_
          refine lv_imul C0.1 C0.2.1 dX8_blameNow_41 ?_
          refine sr_pVi (As := [.int (nI cn), .int (kp 3 cn), .int (1 * (kp 2 6))]) C0 hK hP hZ (sr_Zs hZ hZ0 hS) (cc_X8_meetOf ha cn (kp 3 cn) (1 * (kp 2 6)) hK_ hRD hT (by omega)) sk_X8_meetOf sv_X8_meetOf sw_815 (ci := 8) rfl sr_wM0 rfl rfl hl.1 (Nat.le_of_ble_eq_true rfl) (Nat.le_of_ble_eq_true rfl) (Nat.le_of_ble_eq_true rfl) dX8_blameNow_42 ⟨Nat.zero_le _, Nat.zero_le _⟩ ?_
          refine sr_chi (show (sr_mt kp (sr_ru kp cn) (sr_ru kp (cn + 1)) cn (kp 3 cn) (1 * (kp 2 6))) = (sr_mt kp (sr_ru kp cn) (sr_ru kp (cn + 1)) cn (kp 3 cn) (sr_sp kp 3)) by rw [sr_sp3]) ?_
          refine lv_iload_n C0.1 C0.2.1 dX8_blameNow_45 rfl (lv_at hl 4 rfl) ?_
          have hJ57_4 : ∀ (k57_0 : Int32), k57_0 = (if (sr_mt kp (sr_ru kp cn) (sr_ru kp (cn + 1)) cn (kp 3 cn) (sr_sp kp 3)) = x_ then 8 else 0) → W p l e (sr_rm 5 121) s m args below meth c H locs 0 0 Q (F0 m 57 ls [.int k57_0, .int (sr_g1 (sr_mt kp (sr_ru kp cn) (sr_ru kp (cn + 1)) cn (kp 3 cn) (sr_sp kp 2)) x_ (sr_g1 (sr_mt kp (sr_ru kp cn) (sr_ru kp (cn + 1)) cn (kp 3 cn) (sr_sp kp 1)) x_ (sr_g1 (sr_mt kp (sr_ru kp cn) (sr_ru kp (cn + 1)) cn (kp 3 cn) (sr_sp kp 0)) x_ 0 1) 2) 4)]) := by
            intro k57_0 e_k57_0
            subst e_k57_0
            refine lv_ior C0.1 C0.2.1 dX8_blameNow_57 ?_
            refine sr_chi (sr_g1_e (sr_mt kp (sr_ru kp cn) (sr_ru kp (cn + 1)) cn (kp 3 cn) (sr_sp kp 3)) x_ (sr_g1 (sr_mt kp (sr_ru kp cn) (sr_ru kp (cn + 1)) cn (kp 3 cn) (sr_sp kp 2)) x_ (sr_g1 (sr_mt kp (sr_ru kp cn) (sr_ru kp (cn + 1)) cn (kp 3 cn) (sr_sp kp 1)) x_ (sr_g1 (sr_mt kp (sr_ru kp cn) (sr_ru kp (cn + 1)) cn (kp 3 cn) (sr_sp kp 0)) x_ 0 1) 2) 4) 8) ?_
            refine lv_istore_n (lv' := [(3, .int (sr_g1 (sr_mt kp (sr_ru kp cn) (sr_ru kp (cn + 1)) cn (kp 3 cn) (sr_sp kp 3)) x_ (sr_g1 (sr_mt kp (sr_ru kp cn) (sr_ru kp (cn + 1)) cn (kp 3 cn) (sr_sp kp 2)) x_ (sr_g1 (sr_mt kp (sr_ru kp cn) (sr_ru kp (cn + 1)) cn (kp 3 cn) (sr_sp kp 1)) x_ (sr_g1 (sr_mt kp (sr_ru kp cn) (sr_ru kp (cn + 1)) cn (kp 3 cn) (sr_sp kp 0)) x_ 0 1) 2) 4) 8)), (4, .int 3), (0, .ref (a 0)), (1, .int (nI cn)), (2, .int x_)]) C0.1 C0.2.1 dX8_blameNow_58 rfl hl (by decide) rfl (fun ls hl => ?_)
            refine lv_iinc (v := 4) (lv' := [(4, .int 4), (3, .int (sr_g1 (sr_mt kp (sr_ru kp cn) (sr_ru kp (cn + 1)) cn (kp 3 cn) (sr_sp kp 3)) x_ (sr_g1 (sr_mt kp (sr_ru kp cn) (sr_ru kp (cn + 1)) cn (kp 3 cn) (sr_sp kp 2)) x_ (sr_g1 (sr_mt kp (sr_ru kp cn) (sr_ru kp (cn + 1)) cn (kp 3 cn) (sr_sp kp 1)) x_ (sr_g1 (sr_mt kp (sr_ru kp cn) (sr_ru kp (cn + 1)) cn (kp 3 cn) (sr_sp kp 0)) x_ 0 1) 2) 4) 8)), (0, .ref (a 0)), (1, .int (nI cn)), (2, .int x_)]) C0.1 C0.2.1 dX8_blameNow_59 hl (k := 1) rfl (by decide) (by decide) rfl (fun ls hl => ?_)
            refine lv_goto (tgt := 15) C0.1 C0.2.1 dX8_blameNow_62 (by decide) ?_
            refine lv_iload C0.1 C0.2.1 dX8_blameNow_15 (lv_at hl 0 rfl) ?_
            refine lv_iconst (v := 5) C0.1 C0.2.1 dX8_blameNow_17 (by decide) ?_
            refine lv_icmp_ge (tgt := 65) C0.1 C0.2.1 dX8_blameNow_18 (by decide) (fun q => absurd q (by decide)) (fun _ => ?_)
            refine lv_iload_n C0.1 C0.2.1 dX8_blameNow_21 rfl (lv_at hl 1 rfl) ?_
            refine lv_aload_n C0.1 C0.2.1 dX8_blameNow_22 rfl (lv_at hl 2 rfl) ?_
            refine lv_iload_n C0.1 C0.2.1 dX8_blameNow_23 rfl (lv_at hl 3 rfl) ?_
            refine lv_aload_n C0.1 C0.2.1 dX8_blameNow_24 rfl (lv_at hl 2 rfl) ?_
            refine sr_get (v := .ref (a 9)) C0 hK hP sr_inX8 sr_wM0 rfl 12 (by decide) sw_622 rfl dX8_blameNow_25 ?_
            refine lv_iload_n C0.1 C0.2.1 dX8_blameNow_28 rfl (lv_at hl 3 rfl) ?_
            refine sr_ald (k := cn) C0 hK rfl hP sr_wM9 (nI_clamp (by omega)) (vp_in_nI (by omega) (by omega)) dX8_blameNow_29 ?_
            refine lv_iload C0.1 C0.2.1 dX8_blameNow_30 (lv_at hl 0 rfl) ?_
            refine lv_iconst (v := 2) C0.1 C0.2.1 dX8_blameNow_32 (by decide) ?_
            refine lv_isub C0.1 C0.2.1 dX8_blameNow_33 ?_
            refine sr_chi (by decide : (4 - 2 : Int32) = 2) ?_
            refine lv_aload_n C0.1 C0.2.1 dX8_blameNow_34 rfl (lv_at hl 2 rfl) ?_
            refine sr_get (v := .ref (a 8)) C0 hK hP sr_inX8 sr_wM0 rfl 11 (by decide) sw_621 rfl dX8_blameNow_35 ?_
            refine lv_bipush (v := 6) C0.1 C0.2.1 dX8_blameNow_38 (by decide) ?_
            refine sr_ald (k := 6) C0 hK rfl hP sr_wM8 (by decide) (sr_inc (by decide)) dX8_blameNow_40 ?_
            refine lv_imul C0.1 C0.2.1 dX8_blameNow_41 ?_
            refine sr_pVi (As := [.int (nI cn), .int (kp 3 cn), .int (2 * (kp 2 6))]) C0 hK hP hZ (sr_Zs hZ hZ0 hS) (cc_X8_meetOf ha cn (kp 3 cn) (2 * (kp 2 6)) hK_ hRD hT (by omega)) sk_X8_meetOf sv_X8_meetOf sw_815 (ci := 8) rfl sr_wM0 rfl rfl hl.1 (Nat.le_of_ble_eq_true rfl) (Nat.le_of_ble_eq_true rfl) (Nat.le_of_ble_eq_true rfl) dX8_blameNow_42 ⟨Nat.zero_le _, Nat.zero_le _⟩ ?_
            refine sr_chi (show (sr_mt kp (sr_ru kp cn) (sr_ru kp (cn + 1)) cn (kp 3 cn) (2 * (kp 2 6))) = (sr_mt kp (sr_ru kp cn) (sr_ru kp (cn + 1)) cn (kp 3 cn) (sr_sp kp 4)) by rw [sr_sp4]) ?_
            refine lv_iload_n C0.1 C0.2.1 dX8_blameNow_45 rfl (lv_at hl 4 rfl) ?_
            have hJ57_5 : ∀ (k57_0 : Int32), k57_0 = (if (sr_mt kp (sr_ru kp cn) (sr_ru kp (cn + 1)) cn (kp 3 cn) (sr_sp kp 4)) = x_ then 16 else 0) → W p l e (sr_rm 5 121) s m args below meth c H locs 0 0 Q (F0 m 57 ls [.int k57_0, .int (sr_g1 (sr_mt kp (sr_ru kp cn) (sr_ru kp (cn + 1)) cn (kp 3 cn) (sr_sp kp 3)) x_ (sr_g1 (sr_mt kp (sr_ru kp cn) (sr_ru kp (cn + 1)) cn (kp 3 cn) (sr_sp kp 2)) x_ (sr_g1 (sr_mt kp (sr_ru kp cn) (sr_ru kp (cn + 1)) cn (kp 3 cn) (sr_sp kp 1)) x_ (sr_g1 (sr_mt kp (sr_ru kp cn) (sr_ru kp (cn + 1)) cn (kp 3 cn) (sr_sp kp 0)) x_ 0 1) 2) 4) 8)]) := by
              intro k57_0 e_k57_0
              subst e_k57_0
              refine lv_ior C0.1 C0.2.1 dX8_blameNow_57 ?_
              refine sr_chi (sr_g1_e (sr_mt kp (sr_ru kp cn) (sr_ru kp (cn + 1)) cn (kp 3 cn) (sr_sp kp 4)) x_ (sr_g1 (sr_mt kp (sr_ru kp cn) (sr_ru kp (cn + 1)) cn (kp 3 cn) (sr_sp kp 3)) x_ (sr_g1 (sr_mt kp (sr_ru kp cn) (sr_ru kp (cn + 1)) cn (kp 3 cn) (sr_sp kp 2)) x_ (sr_g1 (sr_mt kp (sr_ru kp cn) (sr_ru kp (cn + 1)) cn (kp 3 cn) (sr_sp kp 1)) x_ (sr_g1 (sr_mt kp (sr_ru kp cn) (sr_ru kp (cn + 1)) cn (kp 3 cn) (sr_sp kp 0)) x_ 0 1) 2) 4) 8) 16) ?_
              refine lv_istore_n (lv' := [(3, .int (sr_g1 (sr_mt kp (sr_ru kp cn) (sr_ru kp (cn + 1)) cn (kp 3 cn) (sr_sp kp 4)) x_ (sr_g1 (sr_mt kp (sr_ru kp cn) (sr_ru kp (cn + 1)) cn (kp 3 cn) (sr_sp kp 3)) x_ (sr_g1 (sr_mt kp (sr_ru kp cn) (sr_ru kp (cn + 1)) cn (kp 3 cn) (sr_sp kp 2)) x_ (sr_g1 (sr_mt kp (sr_ru kp cn) (sr_ru kp (cn + 1)) cn (kp 3 cn) (sr_sp kp 1)) x_ (sr_g1 (sr_mt kp (sr_ru kp cn) (sr_ru kp (cn + 1)) cn (kp 3 cn) (sr_sp kp 0)) x_ 0 1) 2) 4) 8) 16)), (4, .int 4), (0, .ref (a 0)), (1, .int (nI cn)), (2, .int x_)]) C0.1 C0.2.1 dX8_blameNow_58 rfl hl (by decide) rfl (fun ls hl => ?_)
              refine lv_iinc (v := 5) (lv' := [(4, .int 5), (3, .int (sr_g1 (sr_mt kp (sr_ru kp cn) (sr_ru kp (cn + 1)) cn (kp 3 cn) (sr_sp kp 4)) x_ (sr_g1 (sr_mt kp (sr_ru kp cn) (sr_ru kp (cn + 1)) cn (kp 3 cn) (sr_sp kp 3)) x_ (sr_g1 (sr_mt kp (sr_ru kp cn) (sr_ru kp (cn + 1)) cn (kp 3 cn) (sr_sp kp 2)) x_ (sr_g1 (sr_mt kp (sr_ru kp cn) (sr_ru kp (cn + 1)) cn (kp 3 cn) (sr_sp kp 1)) x_ (sr_g1 (sr_mt kp (sr_ru kp cn) (sr_ru kp (cn + 1)) cn (kp 3 cn) (sr_sp kp 0)) x_ 0 1) 2) 4) 8) 16)), (0, .ref (a 0)), (1, .int (nI cn)), (2, .int x_)]) C0.1 C0.2.1 dX8_blameNow_59 hl (k := 1) rfl (by decide) (by decide) rfl (fun ls hl => ?_)
              refine lv_goto (tgt := 15) C0.1 C0.2.1 dX8_blameNow_62 (by decide) ?_
              refine lv_iload C0.1 C0.2.1 dX8_blameNow_15 (lv_at hl 0 rfl) ?_
              refine lv_iconst (v := 5) C0.1 C0.2.1 dX8_blameNow_17 (by decide) ?_
              refine lv_icmp_ge (tgt := 65) C0.1 C0.2.1 dX8_blameNow_18 (by decide) (fun _ => ?_) (fun q => absurd q (by decide))
              refine lv_iload_n C0.1 C0.2.1 dX8_blameNow_65 rfl (lv_at hl 1 rfl) ?_
              exact hret _ _ _ sg1 _ _ _ dX8_blameNow_66 hP hS rfl (by unfold sn_blame; rw [if_neg (fun q => q c4)]; rfl) hRD
            refine lv_icmp_ne (tgt := 56) C0.1 C0.2.1 dX8_blameNow_46 (by decide) (fun c46_5 => ?_) (fun c46_5 => ?_)
            · refine lv_iconst (v := 0) C0.1 C0.2.1 dX8_blameNow_56 (by decide) ?_
              exact hJ57_5 _ (by rw [if_neg c46_5])
            · refine lv_iconst (v := 1) C0.1 C0.2.1 dX8_blameNow_49 (by decide) ?_
              refine lv_iload C0.1 C0.2.1 dX8_blameNow_50 (lv_at hl 0 rfl) ?_
              refine lv_ishl C0.1 C0.2.1 dX8_blameNow_52 ?_
              refine sr_chi (by decide : ((1 : Int32) <<< ((4 : Int32) &&& 31) : Int32) = 16) ?_
              refine lv_goto (tgt := 57) C0.1 C0.2.1 dX8_blameNow_53 (by decide) ?_
              exact hJ57_5 _ (by rw [if_pos c46_5])
          refine lv_icmp_ne (tgt := 56) C0.1 C0.2.1 dX8_blameNow_46 (by decide) (fun c46_4 => ?_) (fun c46_4 => ?_)
          · refine lv_iconst (v := 0) C0.1 C0.2.1 dX8_blameNow_56 (by decide) ?_
            exact hJ57_4 _ (by rw [if_neg c46_4])
          · refine lv_iconst (v := 1) C0.1 C0.2.1 dX8_blameNow_49 (by decide) ?_
            refine lv_iload C0.1 C0.2.1 dX8_blameNow_50 (lv_at hl 0 rfl) ?_
            refine lv_ishl C0.1 C0.2.1 dX8_blameNow_52 ?_
            refine sr_chi (by decide : ((1 : Int32) <<< ((3 : Int32) &&& 31) : Int32) = 8) ?_
            refine lv_goto (tgt := 57) C0.1 C0.2.1 dX8_blameNow_53 (by decide) ?_
            exact hJ57_4 _ (by rw [if_pos c46_4])
        refine lv_icmp_ne (tgt := 56) C0.1 C0.2.1 dX8_blameNow_46 (by decide) (fun c46_3 => ?_) (fun c46_3 => ?_)
        · refine lv_iconst (v := 0) C0.1 C0.2.1 dX8_blameNow_56 (by decide) ?_
          exact hJ57_3 _ (by rw [if_neg c46_3])
        · refine lv_iconst (v := 1) C0.1 C0.2.1 dX8_blameNow_49 (by decide) ?_
          refine lv_iload C0.1 C0.2.1 dX8_blameNow_50 (lv_at hl 0 rfl) ?_
          refine lv_ishl C0.1 C0.2.1 dX8_blameNow_52 ?_
          refine sr_chi (by decide : ((1 : Int32) <<< ((2 : Int32) &&& 31) : Int32) = 4) ?_
          refine lv_goto (tgt := 57) C0.1 C0.2.1 dX8_blameNow_53 (by decide) ?_
          exact hJ57_3 _ (by rw [if_pos c46_3])
      refine lv_icmp_ne (tgt := 56) C0.1 C0.2.1 dX8_blameNow_46 (by decide) (fun c46_2 => ?_) (fun c46_2 => ?_)
      · refine lv_iconst (v := 0) C0.1 C0.2.1 dX8_blameNow_56 (by decide) ?_
        exact hJ57_2 _ (by rw [if_neg c46_2])
      · refine lv_iconst (v := 1) C0.1 C0.2.1 dX8_blameNow_49 (by decide) ?_
        refine lv_iload C0.1 C0.2.1 dX8_blameNow_50 (lv_at hl 0 rfl) ?_
        refine lv_ishl C0.1 C0.2.1 dX8_blameNow_52 ?_
        refine sr_chi (by decide : ((1 : Int32) <<< ((1 : Int32) &&& 31) : Int32) = 2) ?_
        refine lv_goto (tgt := 57) C0.1 C0.2.1 dX8_blameNow_53 (by decide) ?_
        exact hJ57_2 _ (by rw [if_pos c46_2])
    refine lv_icmp_ne (tgt := 56) C0.1 C0.2.1 dX8_blameNow_46 (by decide) (fun c46 => ?_) (fun c46 => ?_)
    · refine lv_iconst (v := 0) C0.1 C0.2.1 dX8_blameNow_56 (by decide) ?_
      exact hJ57 _ ((if_neg c46).symm)
    · refine lv_iconst (v := 1) C0.1 C0.2.1 dX8_blameNow_49 (by decide) ?_
      refine lv_iload C0.1 C0.2.1 dX8_blameNow_50 (lv_at hl 0 rfl) ?_
      refine lv_ishl C0.1 C0.2.1 dX8_blameNow_52 ?_
      refine sr_chi (by decide : ((1 : Int32) <<< ((0 : Int32) &&& 31) : Int32) = 1) ?_
      refine lv_goto (tgt := 57) C0.1 C0.2.1 dX8_blameNow_53 (by decide) ?_
      exact hJ57 _ ((if_pos c46).symm)
  · refine lv_bipush (v := (-3)) C0.1 C0.2.1 dX8_blameNow_7 (by decide) ?_
    exact hret _ _ _ sg1 _ _ _ dX8_blameNow_9 hP hS rfl (by unfold sn_blame; rw [if_pos c4]) hRD
set_option maxRecDepth 100000 in
set_option maxHeartbeats 4000000 in
theorem cc_X8_blame {l : Launch} {D : va_G} {cI : ClassId} {a : Nat → Nat} (ha : ∀ i j, i < 13 → j < 13 → a i = a j → i = j) {kp cx sg : sr_M} (c_ : Int32) (x_ : Int32) (hK_ : sr_IK kp) : sr_G l D (sr_tM cI) (sr_ZM) (sr_AM a) (sr_WM cI a kp cx sg) yX8_blame cX8_blame 3 (some .int) 6 145 [.ref (a 0), .int c_, .int x_] (S := sr_M) (fun u => True) (fun u => sr_WM cI a kp cx u) (fun u => some (.int (sp_blame kp c_ x_))) := by
  refine sr_Gie (by decide +kernel) (Nat.le_of_ble_eq_true rfl) (fun p e s m args below meth c ls Q B hret => ?_)
  obtain ⟨C0, hP, hK, hZ0, hl⟩ := B
  have hZ : sr_Zok (sr_AM a) (sr_ZM) := sr_ZMok
  have hS : va_S (sr_AM a) s.heap s.heap [] := va_S.rf
  have hl : lv_has ls 3 [(0, .ref (a 0)), (1, .int c_), (2, .int x_)] := hl
  obtain ⟨H, hH⟩ : ∃ H, H = s.heap := ⟨_, rfl⟩
  have hP : va_P D vwCl (sr_WM cI a kp cx sg) H := by rw [hH]; exact hP
  have hS : va_S (sr_AM a) s.heap H [] := by rw [hH]; exact hS
  suffices hG : ∀ locs, va_S (sr_AM a) s.heap H locs → W p l e (sr_rm 6 145) s m args below meth c H locs 0 0 Q (F0 m 0 ls []) from by have h9 := hG [] hS; rw [hH] at h9; exact h9
  clear hS
  intro locs hS
  clear hH
  refine lv_iload_n C0.1 C0.2.1 dX8_blame_0 rfl (lv_at hl 1 rfl) ?_
  refine sr_pSi (As := [.int c_]) C0 hK hP hZ (sr_Zs hZ hZ0 hS) (cc_X8_isChange ha c_) sk_X8_isChange (ss_X8_isChange) sw_761 rfl rfl hl.1 (Nat.le_of_ble_eq_true rfl) (Nat.le_of_ble_eq_true rfl) (Nat.le_of_ble_eq_true rfl) dX8_blame_1 ⟨Nat.zero_le _, Nat.zero_le _⟩ ?_
  refine sr_ifeq (tgt := 32) C0 dX8_blame_4 (by decide) (fun c4 => ?_) (fun c4 => ?_)
  · refine lv_bipush (v := (-2)) C0.1 C0.2.1 dX8_blame_32 (by decide) ?_
    exact hret _ _ _ sg _ _ _ dX8_blame_34 hP hS rfl (by unfold sp_blame; rw [if_pos (Classical.not_not.mp c4)]) trivial
  · obtain ⟨jc, hjc, rfl⟩ := sr_rg2 c4
    refine lv_iload_n C0.1 C0.2.1 dX8_blame_7 rfl (lv_at hl 2 rfl) ?_
    refine lv_i2l C0.1 C0.2.1 dX8_blame_8 rfl ?_
    refine lv_lconst (v := 0) C0.1 C0.2.1 dX8_blame_9 (by decide) ?_
    refine lv_aload_n C0.1 C0.2.1 dX8_blame_10 rfl (lv_at hl 0 rfl) ?_
    refine sr_get (v := .ref (a 8)) C0 hK hP sr_inX8 sr_wM0 rfl 11 (by decide) sw_621 rfl dX8_blame_11 ?_
    refine lv_iconst (v := 0) C0.1 C0.2.1 dX8_blame_14 (by decide) ?_
    refine sr_ald (k := 0) C0 hK rfl hP sr_wM8 (by decide) (sr_inc (by decide)) dX8_blame_15 ?_
    refine sr_chi (sr_IK_zo hK_) ?_
    have := sr_IK_zo5 hK_
    refine lv_i2l C0.1 C0.2.1 dX8_blame_16 rfl ?_
    refine sr_pSi (As := [.long ((x_).toInt64), .long 0, .long ((nI (sr_zo kp)).toInt64)]) C0 hK hP hZ (sr_Zs hZ hZ0 hS) (cc_X8_inI ha (x_) (0 : Int32) (nI (sr_zo kp)) rfl (by decide) rfl) sk_X8_in (ss_X8_in) sw_670 rfl rfl hl.1 (Nat.le_of_ble_eq_true rfl) (Nat.le_of_ble_eq_true rfl) (Nat.le_of_ble_eq_true rfl) dX8_blame_17 ⟨Nat.zero_le _, Nat.zero_le _⟩ ?_
    refine sr_ifeq (tgt := 32) C0 dX8_blame_20 (by decide) (fun c20 => ?_) (fun c20 => ?_)
    · refine lv_bipush (v := (-2)) C0.1 C0.2.1 dX8_blame_32 (by decide) ?_
      exact hret _ _ _ sg _ _ _ dX8_blame_34 hP hS rfl (by unfold sp_blame; (try rw [nI_clamp (n := jc) (by omega)]); rw [if_neg c4, if_pos (Classical.not_not.mp c20)]) trivial
    · refine lv_aload_n C0.1 C0.2.1 dX8_blame_23 rfl (lv_at hl 0 rfl) ?_
      refine lv_iload_n C0.1 C0.2.1 dX8_blame_24 rfl (lv_at hl 1 rfl) ?_
      refine lv_iload_n C0.1 C0.2.1 dX8_blame_25 rfl (lv_at hl 2 rfl) ?_
      refine sr_gVi (As := [.int (nI jc), .int x_]) C0 hK hP hZ (sr_Zs hZ hZ0 hS) (cc_X8_blameNow ha jc x_ hK_ (by omega)) sk_X8_blameNow sv_X8_blameNow sw_929 (ci := 8) rfl sr_wM0 rfl rfl hl.1 (Nat.le_of_ble_eq_true rfl) (Nat.le_of_ble_eq_true rfl) (Nat.le_of_ble_eq_true rfl) dX8_blame_26 ⟨Nat.zero_le _, Nat.zero_le _⟩ hS (fun sg1 H locs hRD hP hS => ?_)
      refine lv_goto (tgt := 34) C0.1 C0.2.1 dX8_blame_29 (by decide) ?_
      exact hret _ _ _ sg1 _ _ _ dX8_blame_34 hP hS rfl (by unfold sp_blame; (try rw [nI_clamp (n := jc) (by omega)]); rw [if_neg c4, if_neg c20]; rfl) trivial
