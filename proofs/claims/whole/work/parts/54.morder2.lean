set_option maxRecDepth 100000 in
set_option maxHeartbeats 4000000 in
theorem cc_X8_order {l : Launch} {D : va_G} {cI : ClassId} {a : Nat → Nat} (ha : ∀ i j, i < 13 → j < 13 → a i = a j → i = j) {kp cx sg : sr_M} (wo_ : Int32) (w_ : Int32) (hK_ : sr_IK kp) : sr_G l D (sr_tM cI) (sr_ZM) (sr_AM a) (sr_WM cI a kp cx sg) yX8_order cX8_order 3 (some .int) 7 177 [.ref (a 0), .int wo_, .int w_] (S := sr_M) (fun u => True) (fun u => sr_WM cI a kp cx u) (fun u => some (.int (sp_order kp wo_ w_))) := by
  refine sr_Gie (by decide +kernel) (Nat.le_of_ble_eq_true rfl) (fun p e s m args below meth c ls Q B hret => ?_)
  obtain ⟨C0, hP, hK, hZ0, hl⟩ := B
  have hZ : sr_Zok (sr_AM a) (sr_ZM) := sr_ZMok
  have hS : va_S (sr_AM a) s.heap s.heap [] := va_S.rf
  have hl : lv_has ls 3 [(0, .ref (a 0)), (1, .int wo_), (2, .int w_)] := hl
  obtain ⟨H, hH⟩ : ∃ H, H = s.heap := ⟨_, rfl⟩
  have hP : va_P D vwCl (sr_WM cI a kp cx sg) H := by rw [hH]; exact hP
  have hS : va_S (sr_AM a) s.heap H [] := by rw [hH]; exact hS
  suffices hG : ∀ locs, va_S (sr_AM a) s.heap H locs → W p l e (sr_rm 7 177) s m args below meth c H locs 0 0 Q (F0 m 0 ls []) from by have h9 := hG [] hS; rw [hH] at h9; exact h9
  clear hS
  intro locs hS
  clear hH
  refine lv_aload_n C0.1 C0.2.1 dX8_order_0 rfl (lv_at hl 0 rfl) ?_
  refine sr_gVi (As := []) C0 hK hP hZ (sr_Zs hZ hZ0 hS) (cc_X8_reads ha hK_) sk_X8_reads sv_X8_reads sw_719 (ci := 8) rfl sr_wM0 rfl rfl hl.1 (Nat.le_of_ble_eq_true rfl) (Nat.le_of_ble_eq_true rfl) (Nat.le_of_ble_eq_true rfl) dX8_order_1 ⟨Nat.zero_le _, Nat.zero_le _⟩ hS (fun sg1 H locs hRD hP hS => ?_)
  refine lv_pop C0.1 C0.2.1 dX8_order_4 rfl ?_
  refine lv_iload_n C0.1 C0.2.1 dX8_order_5 rfl (lv_at hl 1 rfl) ?_
  refine lv_i2l C0.1 C0.2.1 dX8_order_6 rfl ?_
  refine lv_ldc2 (v := (-1)) C0.1 C0.2.1 C0.2.2.2.1 (C0.2.2.2.2 _ sw_911) dX8_order_7 ?_
  refine lv_ldc2 (v := 4) C0.1 C0.2.1 C0.2.2.2.1 (C0.2.2.2.2 _ sw_747) dX8_order_10 ?_
  refine sr_pSi (As := [.long ((wo_).toInt64), .long (-1), .long 4]) C0 hK hP hZ (sr_Zs hZ hZ0 hS) (cc_X8_inI ha (wo_) ((-1) : Int32) (4 : Int32) rfl (by decide) (by decide)) sk_X8_in (ss_X8_in) sw_670 rfl rfl hl.1 (Nat.le_of_ble_eq_true rfl) (Nat.le_of_ble_eq_true rfl) (Nat.le_of_ble_eq_true rfl) dX8_order_13 ⟨Nat.zero_le _, Nat.zero_le _⟩ ?_
  refine sr_ifeq (tgt := 40) C0 dX8_order_16 (by decide) (fun c16 => ?_) (fun c16 => ?_)
  · refine lv_bipush (v := (-2)) C0.1 C0.2.1 dX8_order_40 (by decide) ?_
    exact hret _ _ _ sg1 _ _ _ dX8_order_42 hP hS rfl (by unfold sp_order; rw [if_pos (Classical.not_not.mp c16)]) trivial
  · have hwo := sr_rwo c16
    refine lv_iload_n C0.1 C0.2.1 dX8_order_19 rfl (lv_at hl 2 rfl) ?_
    refine lv_i2l C0.1 C0.2.1 dX8_order_20 rfl ?_
    refine lv_lconst (v := 0) C0.1 C0.2.1 dX8_order_21 (by decide) ?_
    refine lv_ldc2 (v := 7) C0.1 C0.2.1 C0.2.2.2.1 (C0.2.2.2.2 _ sw_912) dX8_order_22 ?_
    refine sr_pSi (As := [.long ((w_).toInt64), .long 0, .long 7]) C0 hK hP hZ (sr_Zs hZ hZ0 hS) (cc_X8_inI ha (w_) (0 : Int32) (7 : Int32) rfl (by decide) (by decide)) sk_X8_in (ss_X8_in) sw_670 rfl rfl hl.1 (Nat.le_of_ble_eq_true rfl) (Nat.le_of_ble_eq_true rfl) (Nat.le_of_ble_eq_true rfl) dX8_order_25 ⟨Nat.zero_le _, Nat.zero_le _⟩ ?_
    refine sr_ifeq (tgt := 40) C0 dX8_order_28 (by decide) (fun c28 => ?_) (fun c28 => ?_)
    · refine lv_bipush (v := (-2)) C0.1 C0.2.1 dX8_order_40 (by decide) ?_
      exact hret _ _ _ sg1 _ _ _ dX8_order_42 hP hS rfl (by unfold sp_order; rw [if_neg c16, if_pos (Classical.not_not.mp c28)]) trivial
    · obtain ⟨jw, hjw, rfl⟩ := sr_rg7 c28
      refine lv_aload_n C0.1 C0.2.1 dX8_order_31 rfl (lv_at hl 0 rfl) ?_
      refine lv_iload_n C0.1 C0.2.1 dX8_order_32 rfl (lv_at hl 1 rfl) ?_
      refine lv_iload_n C0.1 C0.2.1 dX8_order_33 rfl (lv_at hl 2 rfl) ?_
      refine sr_gVi (As := [.int wo_, .int (nI jw)]) C0 hK hP hZ (sr_Zs hZ hZ0 hS) (cc_X8_orderOf ha wo_ jw hK_ hRD hwo (by omega)) sk_X8_orderOf sv_X8_orderOf sw_913 (ci := 8) rfl sr_wM0 rfl rfl hl.1 (Nat.le_of_ble_eq_true rfl) (Nat.le_of_ble_eq_true rfl) (Nat.le_of_ble_eq_true rfl) dX8_order_34 ⟨Nat.zero_le _, Nat.zero_le _⟩ hS (fun sg2 H locs hod hP hS => ?_)
      have hRD := hod.1
      refine lv_goto (tgt := 42) C0.1 C0.2.1 dX8_order_37 (by decide) ?_
      exact hret _ _ _ sg2 _ _ _ dX8_order_42 hP hS rfl (by unfold sp_order; (try rw [nI_clamp (n := jw) (by omega)]); rw [if_neg c16, if_neg c28]) trivial
