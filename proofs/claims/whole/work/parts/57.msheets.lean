set_option maxRecDepth 100000 in
set_option maxHeartbeats 4000000 in
theorem cc_X8_met {l : Launch} {D : va_G} {cI : ClassId} {a : Nat → Nat} (ha : ∀ i j, i < 13 → j < 13 → a i = a j → i = j) {kp cx sg : sr_M} (x_ : Int32) : sr_G l D (sr_tM cI) (sr_ZM) (sr_AM a) (sr_WM cI a kp cx sg) yX8_met cX8_met 2 (some .int) 0 0 [.ref (a 0), .int x_] (S := Unit) (fun u => True) (fun u => sr_WM cI a (sr_fd kp x_) cx sg) (fun u => some (.int (-10 - x_))) := by
  refine sr_Gie (by decide +kernel) (Nat.le_of_ble_eq_true rfl) (fun p e s m args below meth c ls Q B hret => ?_)
  obtain ⟨C0, hP, hK, hZ0, hl⟩ := B
  have hZ : sr_Zok (sr_AM a) (sr_ZM) := sr_ZMok
  have hS : va_S (sr_AM a) s.heap s.heap [] := va_S.rf
  have hl : lv_has ls 2 [(0, .ref (a 0)), (1, .int x_)] := hl
  obtain ⟨H, hH⟩ : ∃ H, H = s.heap := ⟨_, rfl⟩
  have hP : va_P D vwCl (sr_WM cI a kp cx sg) H := by rw [hH]; exact hP
  have hS : va_S (sr_AM a) s.heap H [] := by rw [hH]; exact hS
  suffices hG : ∀ locs, va_S (sr_AM a) s.heap H locs → W p l e (sr_rm 0 0) s m args below meth c H locs 0 0 Q (F0 m 0 ls []) from by have h9 := hG [] hS; rw [hH] at h9; exact h9
  clear hS
  intro locs hS
  clear hH
  refine lv_aload_n C0.1 C0.2.1 dX8_met_0 rfl (lv_at hl 0 rfl) ?_
  refine lv_iload_n C0.1 C0.2.1 dX8_met_1 rfl (lv_at hl 1 rfl) ?_
  refine sr_put C0 hK hP (sr_DM ha _ _ _) hS sr_inX8 tyX8_ok nmX8 sr_wM0 rfl 4 (by decide) sw_614 rfl (by decide +kernel) (Nat.le_of_ble_eq_true rfl) sr_fM0_4 dX8_met_2 (fun H locs hP hS => ?_)
  refine lv_bipush (v := (-10)) C0.1 C0.2.1 dX8_met_5 (by decide) ?_
  refine lv_iload_n C0.1 C0.2.1 dX8_met_7 rfl (lv_at hl 1 rfl) ?_
  refine lv_isub C0.1 C0.2.1 dX8_met_8 ?_
  exact hret _ _ _ () _ _ _ dX8_met_9 hP hS rfl rfl trivial
set_option maxRecDepth 100000 in
set_option maxHeartbeats 4000000 in
theorem cc_X8_cut {l : Launch} {D : va_G} {cI : ClassId} {a : Nat → Nat} (ha : ∀ i j, i < 13 → j < 13 → a i = a j → i = j) {kp cx sg : sr_M} (f_ : Int32) (v_ : Int32) : sr_P l D (sr_tM cI) (sr_ZM) (sr_WM cI a kp cx sg) yX8_cut cX8_cut 2 (some .int) 0 0 [.int f_, .int v_] (some (.int (sr_cut f_ v_))) := by
  refine sr_Pie (by decide +kernel) (Nat.le_of_ble_eq_true rfl) (fun p e s m args below meth c ls Q B hret => ?_)
  obtain ⟨C0, hP, hK, hZ0, hl⟩ := B
  have hZ : sr_Zok (sr_AM a) (sr_ZM) := sr_ZMok
  have hS : va_S (sr_AM a) s.heap s.heap [] := va_S.rf
  have hl : lv_has ls 2 [(0, .int f_), (1, .int v_)] := hl
  refine lv_iload_n C0.1 C0.2.1 dX8_cut_0 rfl (lv_at hl 0 rfl) ?_
  refine lv_if_ne (tgt := 9) C0.1 C0.2.1 dX8_cut_1 (by decide) (fun c1 => ?_) (fun c1 => ?_)
  · refine lv_iload_n C0.1 C0.2.1 dX8_cut_9 rfl (lv_at hl 0 rfl) ?_
    refine lv_iconst (v := 1) C0.1 C0.2.1 dX8_cut_10 (by decide) ?_
    refine lv_icmp_ne (tgt := 19) C0.1 C0.2.1 dX8_cut_11 (by decide) (fun c11 => ?_) (fun c11 => ?_)
    · refine lv_iload_n C0.1 C0.2.1 dX8_cut_19 rfl (lv_at hl 1 rfl) ?_
      exact hret _ _ _ dX8_cut_20 (by unfold sr_cut; rw [if_neg c1, if_neg c11])
    · refine lv_iload_n C0.1 C0.2.1 dX8_cut_14 rfl (lv_at hl 1 rfl) ?_
      refine lv_i2s C0.1 C0.2.1 dX8_cut_15 rfl ?_
      refine lv_goto (tgt := 20) C0.1 C0.2.1 dX8_cut_16 (by decide) ?_
      exact hret _ _ _ dX8_cut_20 (by unfold sr_cut; rw [if_neg c1, if_pos c11])
  · refine lv_iload_n C0.1 C0.2.1 dX8_cut_4 rfl (lv_at hl 1 rfl) ?_
    refine lv_i2b C0.1 C0.2.1 dX8_cut_5 rfl ?_
    refine lv_goto (tgt := 20) C0.1 C0.2.1 dX8_cut_6 (by decide) ?_
    exact hret _ _ _ dX8_cut_20 (by unfold sr_cut; rw [if_pos c1])
set_option maxRecDepth 100000 in
set_option maxHeartbeats 4000000 in
theorem cc_X8_lose {l : Launch} {D : va_G} {cI : ClassId} {a : Nat → Nat} (ha : ∀ i j, i < 13 → j < 13 → a i = a j → i = j) {kp cx sg : sr_M} (X_ : sr_M) (s_ : Int32) (hSC : sr_SC X_) (hRX : sr_RX X_ cx) : sr_G l D (sr_tM cI) (sr_ZM) (sr_AM a) (sr_WM cI a kp cx sg) yX8_lose cX8_lose 2 (some .int) 2 45 [.ref (a 0), .int s_] (S := sr_M) (fun u => sr_RX (sc_lose X_ s_) u) (fun u => sr_WM cI a (sk_lose kp X_ s_) u sg) (fun u => some (.int (sp_lose X_ s_))) := by
  refine sr_Gie (by decide +kernel) (Nat.le_of_ble_eq_true rfl) (fun p e s m args below meth c ls Q B hret => ?_)
  obtain ⟨C0, hP, hK, hZ0, hl⟩ := B
  have hZ : sr_Zok (sr_AM a) (sr_ZM) := sr_ZMok
  have hS : va_S (sr_AM a) s.heap s.heap [] := va_S.rf
  have hl : lv_has ls 2 [(0, .ref (a 0)), (1, .int s_)] := hl
  obtain ⟨H, hH⟩ : ∃ H, H = s.heap := ⟨_, rfl⟩
  have hP : va_P D vwCl (sr_WM cI a kp cx sg) H := by rw [hH]; exact hP
  have hS : va_S (sr_AM a) s.heap H [] := by rw [hH]; exact hS
  suffices hG : ∀ locs, va_S (sr_AM a) s.heap H locs → W p l e (sr_rm 2 45) s m args below meth c H locs 0 0 Q (F0 m 0 ls []) from by have h9 := hG [] hS; rw [hH] at h9; exact h9
  clear hS
  intro locs hS
  clear hH
  refine lv_iload_n C0.1 C0.2.1 dX8_lose_0 rfl (lv_at hl 1 rfl) ?_
  refine sr_pSi (As := [.int s_]) C0 hK hP hZ (sr_Zs hZ hZ0 hS) (cc_X8_isSheet ha s_) sk_X8_isSheet (ss_X8_isSheet) sw_666 rfl rfl hl.1 (Nat.le_of_ble_eq_true rfl) (Nat.le_of_ble_eq_true rfl) (Nat.le_of_ble_eq_true rfl) dX8_lose_1 ⟨Nat.zero_le _, Nat.zero_le _⟩ ?_
  refine sr_ifne (tgt := 10) C0 dX8_lose_4 (by decide) (fun c4 => ?_) (fun c4 => ?_)
  · obtain ⟨js, hjs, rfl⟩ := sr_rg3 c4
    refine lv_aload_n C0.1 C0.2.1 dX8_lose_10 rfl (lv_at hl 0 rfl) ?_
    refine sr_get (v := .ref (a 1)) C0 hK hP sr_inX8 sr_wM0 rfl 0 (by decide) sw_610 rfl dX8_lose_11 ?_
    refine lv_iload_n C0.1 C0.2.1 dX8_lose_14 rfl (lv_at hl 1 rfl) ?_
    refine sr_ald (k := js) C0 hK rfl hP sr_wM1 (nI_clamp (by omega)) (vp_in_nI (by omega) (by omega)) dX8_lose_15 ?_
    refine lv_if_ge (tgt := 25) C0.1 C0.2.1 dX8_lose_16 (by decide) (fun c16 => ?_) (fun c16 => ?_)
    · obtain ⟨hnl, hfo, hsi, hit⟩ := sr_R1n (hRX _ hjs) (Int32.not_lt.mpr c16)
      obtain ⟨hsz, hsz60⟩ := sr_szI hSC hjs hnl
      refine lv_aload_n C0.1 C0.2.1 dX8_lose_25 rfl (lv_at hl 0 rfl) ?_
      refine sr_get (v := .ref (a 1)) C0 hK hP sr_inX8 sr_wM0 rfl 0 (by decide) sw_610 rfl dX8_lose_26 ?_
      refine lv_iload_n C0.1 C0.2.1 dX8_lose_29 rfl (lv_at hl 1 rfl) ?_
      refine lv_iconst (v := (-1)) C0.1 C0.2.1 dX8_lose_30 (by decide) ?_
      refine sr_ast (k := js) C0 hK rfl hP (sr_DM ha _ _ _) hS sr_wM1 (nI_clamp (by omega)) (vp_in_nI (by omega) (by omega)) sr_sM1 dX8_lose_31 (fun H locs hP hS => ?_)
      refine lv_aload_n C0.1 C0.2.1 dX8_lose_32 rfl (lv_at hl 0 rfl) ?_
      refine sr_get (v := .ref (a 2)) C0 hK hP sr_inX8 sr_wM0 rfl 1 (by decide) sw_611 rfl dX8_lose_33 ?_
      refine lv_iload_n C0.1 C0.2.1 dX8_lose_36 rfl (lv_at hl 1 rfl) ?_
      refine sr_ald (k := js) C0 hK rfl hP sr_wM2 (nI_clamp (by omega)) (vp_in_nI (by omega) (by omega)) dX8_lose_37 ?_
      refine sr_chi (show ((va_up cx 0 (upd (cx 0) js (-1))) 1 js : Int32) = (cx 1 js) from rfl) ?_
      exact hret _ _ _ (va_up cx 0 (upd (cx 0) js (-1))) _ _ _ dX8_lose_38 hP hS (by unfold sk_lose; rw [if_neg c4, nI_clamp (by omega), if_neg hnl]) (by unfold sp_lose; rw [if_neg c4, nI_clamp (by omega), if_neg hnl]; exact hsi) (by unfold sc_lose; rw [if_neg c4, nI_clamp (by omega), if_neg hnl]; exact sr_RX_lose hRX hSC hjs)
    · have hlost := sr_R1l (hRX _ hjs) (Int32.not_le.mp c16)
      refine lv_aload_n C0.1 C0.2.1 dX8_lose_19 rfl (lv_at hl 0 rfl) ?_
      refine lv_iconst (v := 1) C0.1 C0.2.1 dX8_lose_20 (by decide) ?_
      refine sr_gVi (As := [.int 1]) C0 hK hP hZ (sr_Zs hZ hZ0 hS) (cc_X8_met ha (1)) sk_X8_met sv_X8_met sw_674 (ci := 8) rfl sr_wM0 rfl rfl hl.1 (Nat.le_of_ble_eq_true rfl) (Nat.le_of_ble_eq_true rfl) (Nat.le_of_ble_eq_true rfl) dX8_lose_21 ⟨Nat.zero_le _, Nat.zero_le _⟩ hS (fun u H locs hu hP hS => ?_)
      exact hret _ _ _ cx _ _ _ dX8_lose_24 hP hS (by unfold sk_lose; rw [if_neg c4, nI_clamp (by omega), if_pos hlost]) (by unfold sp_lose; rw [if_neg c4, nI_clamp (by omega), if_pos hlost]) (by unfold sc_lose; rw [if_neg c4, nI_clamp (by omega), if_pos hlost]; exact hRX)
  · refine lv_bipush (v := (-2)) C0.1 C0.2.1 dX8_lose_7 (by decide) ?_
    exact hret _ _ _ cx _ _ _ dX8_lose_9 hP hS (by unfold sk_lose; rw [if_pos (Classical.not_not.mp c4)]) (by unfold sp_lose; rw [if_pos (Classical.not_not.mp c4)]) (by unfold sc_lose; rw [if_pos (Classical.not_not.mp c4)]; exact hRX)
set_option maxRecDepth 100000 in
set_option maxHeartbeats 4000000 in
theorem cc_X8_lacks {l : Launch} {D : va_G} {cI : ClassId} {a : Nat → Nat} (ha : ∀ i j, i < 13 → j < 13 → a i = a j → i = j) {kp cx sg : sr_M} (X_ : sr_M) (js : Nat) (fo : Int32) (i_ : Int32) (hjs : js < 4) (hSC : sr_SC X_) (hRX : sr_RX X_ cx) : sr_G l D (sr_tM cI) (sr_ZM) (sr_AM a) (sr_WM cI a kp cx sg) yX8_lacks cX8_lacks 4 (some .int) 1 25 [.ref (a 0), .int (nI js), .int fo, .int i_] (S := Unit) (fun u => True) (fun u => sr_WM cI a (sk_ck kp X_ js fo i_) cx sg) (fun u => some (.int (sp_ck X_ js fo i_))) := by
  refine sr_Gie (by decide +kernel) (Nat.le_of_ble_eq_true rfl) (fun p e s m args below meth c ls Q B hret => ?_)
  obtain ⟨C0, hP, hK, hZ0, hl⟩ := B
  have hZ : sr_Zok (sr_AM a) (sr_ZM) := sr_ZMok
  have hS : va_S (sr_AM a) s.heap s.heap [] := va_S.rf
  have hl : lv_has ls 4 [(0, .ref (a 0)), (1, .int (nI js)), (2, .int fo), (3, .int i_)] := hl
  obtain ⟨H, hH⟩ : ∃ H, H = s.heap := ⟨_, rfl⟩
  have hP : va_P D vwCl (sr_WM cI a kp cx sg) H := by rw [hH]; exact hP
  have hS : va_S (sr_AM a) s.heap H [] := by rw [hH]; exact hS
  suffices hG : ∀ locs, va_S (sr_AM a) s.heap H locs → W p l e (sr_rm 1 25) s m args below meth c H locs 0 0 Q (F0 m 0 ls []) from by have h9 := hG [] hS; rw [hH] at h9; exact h9
  clear hS
  intro locs hS
  clear hH
  refine lv_aload_n C0.1 C0.2.1 dX8_lacks_0 rfl (lv_at hl 0 rfl) ?_
  refine sr_get (v := .ref (a 1)) C0 hK hP sr_inX8 sr_wM0 rfl 0 (by decide) sw_610 rfl dX8_lacks_1 ?_
  refine lv_iload_n C0.1 C0.2.1 dX8_lacks_4 rfl (lv_at hl 1 rfl) ?_
  refine sr_ald (k := js) C0 hK rfl hP sr_wM1 (nI_clamp (by omega)) (vp_in_nI (by omega) (by omega)) dX8_lacks_5 ?_
  refine lv_if_ge (tgt := 15) C0.1 C0.2.1 dX8_lacks_6 (by decide) (fun c6 => ?_) (fun c6 => ?_)
  · obtain ⟨hnl, hfo, hsi, hit⟩ := sr_R1n (hRX _ hjs) (Int32.not_lt.mpr c6)
    obtain ⟨hsz, hsz60⟩ := sr_szI hSC hjs hnl
    refine lv_aload_n C0.1 C0.2.1 dX8_lacks_15 rfl (lv_at hl 0 rfl) ?_
    refine sr_get (v := .ref (a 1)) C0 hK hP sr_inX8 sr_wM0 rfl 0 (by decide) sw_610 rfl dX8_lacks_16 ?_
    refine lv_iload_n C0.1 C0.2.1 dX8_lacks_19 rfl (lv_at hl 1 rfl) ?_
    refine sr_ald (k := js) C0 hK rfl hP sr_wM1 (nI_clamp (by omega)) (vp_in_nI (by omega) (by omega)) dX8_lacks_20 ?_
    refine lv_iload_n C0.1 C0.2.1 dX8_lacks_21 rfl (lv_at hl 2 rfl) ?_
    refine lv_icmp_eq (tgt := 31) C0.1 C0.2.1 dX8_lacks_22 (by decide) (fun c22 => ?_) (fun c22 => ?_)
    · refine lv_iload_n C0.1 C0.2.1 dX8_lacks_31 rfl (lv_at hl 3 rfl) ?_
      refine lv_i2l C0.1 C0.2.1 dX8_lacks_32 rfl ?_
      refine lv_lconst (v := 0) C0.1 C0.2.1 dX8_lacks_33 (by decide) ?_
      refine lv_aload_n C0.1 C0.2.1 dX8_lacks_34 rfl (lv_at hl 0 rfl) ?_
      refine sr_get (v := .ref (a 2)) C0 hK hP sr_inX8 sr_wM0 rfl 1 (by decide) sw_611 rfl dX8_lacks_35 ?_
      refine lv_iload_n C0.1 C0.2.1 dX8_lacks_38 rfl (lv_at hl 1 rfl) ?_
      refine sr_ald (k := js) C0 hK rfl hP sr_wM2 (nI_clamp (by omega)) (vp_in_nI (by omega) (by omega)) dX8_lacks_39 ?_
      refine lv_iconst (v := 1) C0.1 C0.2.1 dX8_lacks_40 (by decide) ?_
      refine lv_isub C0.1 C0.2.1 dX8_lacks_41 ?_
      refine lv_i2l C0.1 C0.2.1 dX8_lacks_42 rfl ?_
      refine sr_pSi (As := [.long ((i_).toInt64), .long 0, .long (((cx 1 js) - 1).toInt64)]) C0 hK hP hZ (sr_Zs hZ hZ0 hS) (cc_X8_inI ha (i_) (0 : Int32) ((cx 1 js) - 1) rfl (by decide) rfl) sk_X8_in (ss_X8_in) sw_670 rfl rfl hl.1 (Nat.le_of_ble_eq_true rfl) (Nat.le_of_ble_eq_true rfl) (Nat.le_of_ble_eq_true rfl) dX8_lacks_43 ⟨Nat.zero_le _, Nat.zero_le _⟩ ?_
      refine sr_ifeq (tgt := 53) C0 dX8_lacks_46 (by decide) (fun c46 => ?_) (fun c46 => ?_)
      · refine lv_aload_n C0.1 C0.2.1 dX8_lacks_53 rfl (lv_at hl 0 rfl) ?_
        refine lv_iconst (v := 2) C0.1 C0.2.1 dX8_lacks_54 (by decide) ?_
        refine sr_gVi (As := [.int 2]) C0 hK hP hZ (sr_Zs hZ hZ0 hS) (cc_X8_met ha (2)) sk_X8_met sv_X8_met sw_674 (ci := 8) rfl sr_wM0 rfl rfl hl.1 (Nat.le_of_ble_eq_true rfl) (Nat.le_of_ble_eq_true rfl) (Nat.le_of_ble_eq_true rfl) dX8_lacks_55 ⟨Nat.zero_le _, Nat.zero_le _⟩ hS (fun u H locs hu hP hS => ?_)
        have hck := sr_ck_2 (kp := kp) (fo := fo) (i := i_) hnl (hfo.symm.trans c22) (by rw [← hsi]; exact (Classical.not_not.mp c46))
        exact hret _ _ _ () _ _ _ dX8_lacks_58 hP hS (by rw [hck.1]) hck.2.symm trivial
      · refine lv_iconst (v := 0) C0.1 C0.2.1 dX8_lacks_49 (by decide) ?_
        refine lv_goto (tgt := 58) C0.1 C0.2.1 dX8_lacks_50 (by decide) ?_
        have hck := sr_ck_0 (kp := kp) (fo := fo) (i := i_) hnl (hfo.symm.trans c22) (by rw [← hsi]; exact c46)
        exact hret _ _ _ () _ _ _ dX8_lacks_58 hP hS (by rw [hck.1]) hck.2.symm trivial
    · refine lv_aload_n C0.1 C0.2.1 dX8_lacks_25 rfl (lv_at hl 0 rfl) ?_
      refine lv_iconst (v := 3) C0.1 C0.2.1 dX8_lacks_26 (by decide) ?_
      refine sr_gVi (As := [.int 3]) C0 hK hP hZ (sr_Zs hZ hZ0 hS) (cc_X8_met ha (3)) sk_X8_met sv_X8_met sw_674 (ci := 8) rfl sr_wM0 rfl rfl hl.1 (Nat.le_of_ble_eq_true rfl) (Nat.le_of_ble_eq_true rfl) (Nat.le_of_ble_eq_true rfl) dX8_lacks_27 ⟨Nat.zero_le _, Nat.zero_le _⟩ hS (fun u H locs hu hP hS => ?_)
      have hck := sr_ck_3 (kp := kp) (fo := fo) (i := i_) hnl (fun q => c22 (hfo.trans q))
      exact hret _ _ _ () _ _ _ dX8_lacks_30 hP hS (by rw [hck.1]) hck.2.symm trivial
  · have hlost := sr_R1l (hRX _ hjs) (Int32.not_le.mp c6)
    refine lv_aload_n C0.1 C0.2.1 dX8_lacks_9 rfl (lv_at hl 0 rfl) ?_
    refine lv_iconst (v := 1) C0.1 C0.2.1 dX8_lacks_10 (by decide) ?_
    refine sr_gVi (As := [.int 1]) C0 hK hP hZ (sr_Zs hZ hZ0 hS) (cc_X8_met ha (1)) sk_X8_met sv_X8_met sw_674 (ci := 8) rfl sr_wM0 rfl rfl hl.1 (Nat.le_of_ble_eq_true rfl) (Nat.le_of_ble_eq_true rfl) (Nat.le_of_ble_eq_true rfl) dX8_lacks_11 ⟨Nat.zero_le _, Nat.zero_le _⟩ hS (fun u H locs hu hP hS => ?_)
    have hck := sr_ck_1 (kp := kp) (fo := fo) (i := i_) hlost
    exact hret _ _ _ () _ _ _ dX8_lacks_14 hP hS (by rw [hck.1]) hck.2.symm trivial
set_option maxRecDepth 100000 in
set_option maxHeartbeats 4000000 in
theorem cc_X8_lay {l : Launch} {D : va_G} {cI : ClassId} {a : Nat → Nat} (ha : ∀ i j, i < 13 → j < 13 → a i = a j → i = j) {kp cx sg : sr_M} (X_ : sr_M) (s_ : Int32) (fo : Int32) (i_ : Int32) (v_ : Int32) (hSC : sr_SC X_) (hRX : sr_RX X_ cx) : sr_G l D (sr_tM cI) (sr_ZM) (sr_AM a) (sr_WM cI a kp cx sg) yX8_lay cX8_lay 6 (some .int) 2 48 [.ref (a 0), .int s_, .int fo, .int i_, .int v_] (S := sr_M) (fun u => sr_RX (sc_lay X_ s_ fo i_ v_) u) (fun u => sr_WM cI a (sk_lay kp X_ s_ fo i_) u sg) (fun u => some (.int (sp_lay X_ s_ fo i_))) := by
  refine sr_Gie (by decide +kernel) (Nat.le_of_ble_eq_true rfl) (fun p e s m args below meth c ls Q B hret => ?_)
  obtain ⟨C0, hP, hK, hZ0, hl⟩ := B
  have hZ : sr_Zok (sr_AM a) (sr_ZM) := sr_ZMok
  have hS : va_S (sr_AM a) s.heap s.heap [] := va_S.rf
  have hl : lv_has ls 6 [(0, .ref (a 0)), (1, .int s_), (2, .int fo), (3, .int i_), (4, .int v_)] := hl
  obtain ⟨H, hH⟩ : ∃ H, H = s.heap := ⟨_, rfl⟩
  have hP : va_P D vwCl (sr_WM cI a kp cx sg) H := by rw [hH]; exact hP
  have hS : va_S (sr_AM a) s.heap H [] := by rw [hH]; exact hS
  suffices hG : ∀ locs, va_S (sr_AM a) s.heap H locs → W p l e (sr_rm 2 48) s m args below meth c H locs 0 0 Q (F0 m 0 ls []) from by have h9 := hG [] hS; rw [hH] at h9; exact h9
  clear hS
  intro locs hS
  clear hH
  refine lv_iload_n C0.1 C0.2.1 dX8_lay_0 rfl (lv_at hl 1 rfl) ?_
  refine sr_pSi (As := [.int s_]) C0 hK hP hZ (sr_Zs hZ hZ0 hS) (cc_X8_isSheet ha s_) sk_X8_isSheet (ss_X8_isSheet) sw_666 rfl rfl hl.1 (Nat.le_of_ble_eq_true rfl) (Nat.le_of_ble_eq_true rfl) (Nat.le_of_ble_eq_true rfl) dX8_lay_1 ⟨Nat.zero_le _, Nat.zero_le _⟩ ?_
  refine sr_ifeq (tgt := 19) C0 dX8_lay_4 (by decide) (fun c4 => ?_) (fun c4 => ?_)
  · refine lv_bipush (v := (-2)) C0.1 C0.2.1 dX8_lay_19 (by decide) ?_
    exact hret _ _ _ cx _ _ _ dX8_lay_21 hP hS (by unfold sk_lay; rw [if_pos (Classical.not_not.mp c4)]) (by unfold sp_lay; rw [if_pos (Classical.not_not.mp c4)]) (by rw [show sc_lay X_ s_ fo i_ v_ = X_ from (by unfold sc_lay; rw [if_pos (Classical.not_not.mp c4)])]; exact hRX)
  · obtain ⟨js, hjs, rfl⟩ := sr_rg3 c4
    refine lv_iload_n C0.1 C0.2.1 dX8_lay_7 rfl (lv_at hl 2 rfl) ?_
    refine lv_i2l C0.1 C0.2.1 dX8_lay_8 rfl ?_
    refine lv_lconst (v := 0) C0.1 C0.2.1 dX8_lay_9 (by decide) ?_
    refine lv_ldc2 (v := 2) C0.1 C0.2.1 C0.2.2.2.1 (C0.2.2.2.2 _ sw_673) dX8_lay_10 ?_
    refine sr_pSi (As := [.long ((fo).toInt64), .long 0, .long 2]) C0 hK hP hZ (sr_Zs hZ hZ0 hS) (cc_X8_inI ha (fo) (0 : Int32) (2 : Int32) rfl (by decide) (by decide)) sk_X8_in (ss_X8_in) sw_670 rfl rfl hl.1 (Nat.le_of_ble_eq_true rfl) (Nat.le_of_ble_eq_true rfl) (Nat.le_of_ble_eq_true rfl) dX8_lay_13 ⟨Nat.zero_le _, Nat.zero_le _⟩ ?_
    refine sr_ifne (tgt := 22) C0 dX8_lay_16 (by decide) (fun c16 => ?_) (fun c16 => ?_)
    · refine lv_aload_n C0.1 C0.2.1 dX8_lay_22 rfl (lv_at hl 0 rfl) ?_
      refine lv_iload_n C0.1 C0.2.1 dX8_lay_23 rfl (lv_at hl 1 rfl) ?_
      refine lv_iload_n C0.1 C0.2.1 dX8_lay_24 rfl (lv_at hl 2 rfl) ?_
      refine lv_iload_n C0.1 C0.2.1 dX8_lay_25 rfl (lv_at hl 3 rfl) ?_
      refine sr_gVi (As := [.int (nI js), .int fo, .int i_]) C0 hK hP hZ (sr_Zs hZ hZ0 hS) (cc_X8_lacks ha X_ js fo i_ (by omega) hSC hRX) sk_X8_lacks sv_X8_lacks sw_686 (ci := 8) rfl sr_wM0 rfl rfl hl.1 (Nat.le_of_ble_eq_true rfl) (Nat.le_of_ble_eq_true rfl) (Nat.le_of_ble_eq_true rfl) dX8_lay_26 ⟨Nat.zero_le _, Nat.zero_le _⟩ hS (fun u H locs hu hP hS => ?_)
      refine lv_istore (lv' := [(5, .int (sp_ck X_ js fo i_)), (0, .ref (a 0)), (1, .int (nI js)), (2, .int fo), (3, .int i_), (4, .int v_)]) C0.1 C0.2.1 dX8_lay_29 hl (by decide) rfl (fun ls hl => ?_)
      refine lv_iload C0.1 C0.2.1 dX8_lay_31 (lv_at hl 0 rfl) ?_
      refine lv_if_eq (tgt := 39) C0.1 C0.2.1 dX8_lay_33 (by decide) (fun c33 => ?_) (fun c33 => ?_)
      · have hck0 := sr_ck_z.mp c33
        obtain ⟨hnl, hfx, ji, hji, rfl⟩ := sr_ckY hSC hjs hck0
        have hszB := sr_szB hSC hjs
        have hkk : sk_ck kp X_ js fo (nI ji) = kp := by unfold sk_ck; rw [if_pos hck0]
        rw [hkk] at hP
        refine lv_aload_n C0.1 C0.2.1 dX8_lay_39 rfl (lv_at hl 1 rfl) ?_
        refine sr_get (v := .ref (a 3)) C0 hK hP sr_inX8 sr_wM0 rfl 2 (by decide) sw_612 rfl dX8_lay_40 ?_
        refine lv_bipush (v := 60) C0.1 C0.2.1 dX8_lay_43 (by decide) ?_
        refine lv_iload_n C0.1 C0.2.1 dX8_lay_45 rfl (lv_at hl 2 rfl) ?_
        refine lv_imul C0.1 C0.2.1 dX8_lay_46 ?_
        refine sr_chi (pk_mul 60 js) ?_
        refine lv_iload_n C0.1 C0.2.1 dX8_lay_47 rfl (lv_at hl 4 rfl) ?_
        refine lv_iadd C0.1 C0.2.1 dX8_lay_48 ?_
        refine sr_chi (nI_add (60 * js) ji) ?_
        refine lv_iload_n C0.1 C0.2.1 dX8_lay_49 rfl (lv_at hl 3 rfl) ?_
        refine lv_iload C0.1 C0.2.1 dX8_lay_50 (lv_at hl 5 rfl) ?_
        refine sr_pSi (As := [.int fo, .int v_]) C0 hK hP hZ (sr_Zs hZ hZ0 hS) (cc_X8_cut ha fo v_) sk_X8_cut (ss_X8_cut) sw_690 rfl rfl hl.1 (Nat.le_of_ble_eq_true rfl) (Nat.le_of_ble_eq_true rfl) (Nat.le_of_ble_eq_true rfl) dX8_lay_52 ⟨Nat.zero_le _, Nat.zero_le _⟩ ?_
        refine sr_ast (k := (60 * js) + ji) C0 hK rfl hP (sr_DM ha _ _ _) hS sr_wM3 (nI_clamp (by omega)) (vp_in_nI (by omega) (by omega)) sr_sM3 dX8_lay_55 (fun H locs hP hS => ?_)
        refine lv_iconst (v := 1) C0.1 C0.2.1 dX8_lay_56 (by decide) ?_
        exact hret _ _ _ (va_up cx 2 (upd (cx 2) ((60 * js) + ji) (sr_cut fo v_))) _ _ _ dX8_lay_57 hP hS (by unfold sk_lay; rw [nI_clamp (n := js) (by omega), if_neg c4, if_neg c16, if_pos hck0]) (by unfold sp_lay; rw [nI_clamp (n := js) (by omega), if_neg c4, if_neg c16, if_pos hck0]) (by rw [show sc_lay X_ (nI js) fo (nI ji) v_ = sr_put1 X_ js ji v_ from by unfold sc_lay; rw [nI_clamp (n := js) (by omega), if_neg c4, if_neg c16, if_pos hck0, nI_clamp (n := ji) (by omega)]]; exact sr_RX_put hRX hSC hjs (by omega) hnl fo v_ hfx.symm)
      · have hck0 : ¬ sr_ck X_ js fo i_ = 0 := fun q => c33 (sr_ck_z.mpr q)
        refine lv_iload C0.1 C0.2.1 dX8_lay_36 (lv_at hl 0 rfl) ?_
        exact hret _ _ _ cx _ _ _ dX8_lay_38 hP hS (by unfold sk_lay sk_ck; rw [nI_clamp (n := js) (by omega), if_neg c4, if_neg c16, if_neg hck0]) (by unfold sp_lay sp_ck; rw [nI_clamp (n := js) (by omega), if_neg c4, if_neg c16, if_neg hck0, if_neg hck0]) (by rw [show sc_lay X_ (nI js) fo i_ v_ = X_ from by unfold sc_lay; rw [nI_clamp (n := js) (by omega), if_neg c4, if_neg c16, if_neg hck0]]; exact hRX)
    · refine lv_bipush (v := (-2)) C0.1 C0.2.1 dX8_lay_19 (by decide) ?_
      exact hret _ _ _ cx _ _ _ dX8_lay_21 hP hS (by unfold sk_lay; (try rw [nI_clamp (n := js) (by omega)]); rw [if_neg c4, if_pos (Classical.not_not.mp c16)]) (by unfold sp_lay; (try rw [nI_clamp (n := js) (by omega)]); rw [if_neg c4, if_pos (Classical.not_not.mp c16)]) (by rw [show sc_lay X_ (nI js) fo i_ v_ = X_ from (by unfold sc_lay; (try rw [nI_clamp (n := js) (by omega)]); rw [if_neg c4, if_pos (Classical.not_not.mp c16)])]; exact hRX)
set_option maxRecDepth 100000 in
set_option maxHeartbeats 4000000 in
theorem cc_X8_get {l : Launch} {D : va_G} {cI : ClassId} {a : Nat → Nat} (ha : ∀ i j, i < 13 → j < 13 → a i = a j → i = j) {kp cx sg : sr_M} (X_ : sr_M) (s_ : Int32) (fo : Int32) (i_ : Int32) (hSC : sr_SC X_) (hRX : sr_RX X_ cx) : sr_G l D (sr_tM cI) (sr_ZM) (sr_AM a) (sr_WM cI a kp cx sg) yX8_get cX8_get 4 (some .int) 2 48 [.ref (a 0), .int s_, .int fo, .int i_] (S := Unit) (fun u => True) (fun u => sr_WM cI a (sk_get kp X_ s_ fo i_) cx sg) (fun u => some (.int (sp_get X_ s_ fo i_))) := by
  refine sr_Gie (by decide +kernel) (Nat.le_of_ble_eq_true rfl) (fun p e s m args below meth c ls Q B hret => ?_)
  obtain ⟨C0, hP, hK, hZ0, hl⟩ := B
  have hZ : sr_Zok (sr_AM a) (sr_ZM) := sr_ZMok
  have hS : va_S (sr_AM a) s.heap s.heap [] := va_S.rf
  have hl : lv_has ls 4 [(0, .ref (a 0)), (1, .int s_), (2, .int fo), (3, .int i_)] := hl
  obtain ⟨H, hH⟩ : ∃ H, H = s.heap := ⟨_, rfl⟩
  have hP : va_P D vwCl (sr_WM cI a kp cx sg) H := by rw [hH]; exact hP
  have hS : va_S (sr_AM a) s.heap H [] := by rw [hH]; exact hS
  suffices hG : ∀ locs, va_S (sr_AM a) s.heap H locs → W p l e (sr_rm 2 48) s m args below meth c H locs 0 0 Q (F0 m 0 ls []) from by have h9 := hG [] hS; rw [hH] at h9; exact h9
  clear hS
  intro locs hS
  clear hH
  refine lv_iload_n C0.1 C0.2.1 dX8_get_0 rfl (lv_at hl 1 rfl) ?_
  refine sr_pSi (As := [.int s_]) C0 hK hP hZ (sr_Zs hZ hZ0 hS) (cc_X8_isSheet ha s_) sk_X8_isSheet (ss_X8_isSheet) sw_666 rfl rfl hl.1 (Nat.le_of_ble_eq_true rfl) (Nat.le_of_ble_eq_true rfl) (Nat.le_of_ble_eq_true rfl) dX8_get_1 ⟨Nat.zero_le _, Nat.zero_le _⟩ ?_
  refine sr_ifeq (tgt := 29) C0 dX8_get_4 (by decide) (fun c4 => ?_) (fun c4 => ?_)
  · refine lv_ldc (v := (-2147483648)) C0.1 C0.2.1 C0.2.2.2.1 (C0.2.2.2.2 _ sw_697) dX8_get_29 ?_
    exact hret _ _ _ () _ _ _ dX8_get_31 hP hS (by unfold sk_get; rw [if_pos (Classical.not_not.mp c4)]) (by unfold sp_get; rw [if_pos (Classical.not_not.mp c4)]) trivial
  · obtain ⟨js, hjs, rfl⟩ := sr_rg3 c4
    refine lv_iload_n C0.1 C0.2.1 dX8_get_7 rfl (lv_at hl 2 rfl) ?_
    refine lv_i2l C0.1 C0.2.1 dX8_get_8 rfl ?_
    refine lv_lconst (v := 0) C0.1 C0.2.1 dX8_get_9 (by decide) ?_
    refine lv_ldc2 (v := 2) C0.1 C0.2.1 C0.2.2.2.1 (C0.2.2.2.2 _ sw_673) dX8_get_10 ?_
    refine sr_pSi (As := [.long ((fo).toInt64), .long 0, .long 2]) C0 hK hP hZ (sr_Zs hZ hZ0 hS) (cc_X8_inI ha (fo) (0 : Int32) (2 : Int32) rfl (by decide) (by decide)) sk_X8_in (ss_X8_in) sw_670 rfl rfl hl.1 (Nat.le_of_ble_eq_true rfl) (Nat.le_of_ble_eq_true rfl) (Nat.le_of_ble_eq_true rfl) dX8_get_13 ⟨Nat.zero_le _, Nat.zero_le _⟩ ?_
    refine sr_ifeq (tgt := 29) C0 dX8_get_16 (by decide) (fun c16 => ?_) (fun c16 => ?_)
    · refine lv_ldc (v := (-2147483648)) C0.1 C0.2.1 C0.2.2.2.1 (C0.2.2.2.2 _ sw_697) dX8_get_29 ?_
      exact hret _ _ _ () _ _ _ dX8_get_31 hP hS (by unfold sk_get; rw [if_neg c4, if_pos (Classical.not_not.mp c16)]) (by unfold sp_get; rw [if_neg c4, if_pos (Classical.not_not.mp c16)]) trivial
    · refine lv_aload_n C0.1 C0.2.1 dX8_get_19 rfl (lv_at hl 0 rfl) ?_
      refine lv_iload_n C0.1 C0.2.1 dX8_get_20 rfl (lv_at hl 1 rfl) ?_
      refine lv_iload_n C0.1 C0.2.1 dX8_get_21 rfl (lv_at hl 2 rfl) ?_
      refine lv_iload_n C0.1 C0.2.1 dX8_get_22 rfl (lv_at hl 3 rfl) ?_
      refine sr_gVi (As := [.int (nI js), .int fo, .int i_]) C0 hK hP hZ (sr_Zs hZ hZ0 hS) (cc_X8_lacks ha X_ js fo i_ (by omega) hSC hRX) sk_X8_lacks sv_X8_lacks sw_686 (ci := 8) rfl sr_wM0 rfl rfl hl.1 (Nat.le_of_ble_eq_true rfl) (Nat.le_of_ble_eq_true rfl) (Nat.le_of_ble_eq_true rfl) dX8_get_23 ⟨Nat.zero_le _, Nat.zero_le _⟩ hS (fun u H locs hu hP hS => ?_)
      refine lv_if_eq (tgt := 32) C0.1 C0.2.1 dX8_get_26 (by decide) (fun c26 => ?_) (fun c26 => ?_)
      · have hck0 := sr_ck_z.mp c26
        obtain ⟨hnl, hfx, ji, hji, rfl⟩ := sr_ckY hSC hjs hck0
        have hszB := sr_szB hSC hjs
        have hkk : sk_ck kp X_ js fo (nI ji) = kp := by unfold sk_ck; rw [if_pos hck0]
        rw [hkk] at hP
        refine lv_aload_n C0.1 C0.2.1 dX8_get_32 rfl (lv_at hl 0 rfl) ?_
        refine sr_get (v := .ref (a 3)) C0 hK hP sr_inX8 sr_wM0 rfl 2 (by decide) sw_612 rfl dX8_get_33 ?_
        refine lv_bipush (v := 60) C0.1 C0.2.1 dX8_get_36 (by decide) ?_
        refine lv_iload_n C0.1 C0.2.1 dX8_get_38 rfl (lv_at hl 1 rfl) ?_
        refine lv_imul C0.1 C0.2.1 dX8_get_39 ?_
        refine sr_chi (pk_mul 60 js) ?_
        refine lv_iload_n C0.1 C0.2.1 dX8_get_40 rfl (lv_at hl 3 rfl) ?_
        refine lv_iadd C0.1 C0.2.1 dX8_get_41 ?_
        refine sr_chi (nI_add (60 * js) ji) ?_
        refine sr_ald (k := (60 * js) + ji) C0 hK rfl hP sr_wM3 (nI_clamp (by omega)) (vp_in_nI (by omega) (by omega)) dX8_get_42 ?_
        have hn : ¬ cx 0 js < 0 := by rcases hRX js hjs with q | q; exact absurd q.1 hnl; exact q.2.1
        have hitj := (sr_R1n (hRX js hjs) hn).2.2.2 ji hji
        exact hret _ _ _ () _ _ _ dX8_get_43 hP hS (by unfold sk_get; rw [nI_clamp (n := js) (by omega), if_neg c4, if_neg c16, if_pos hck0]) (by unfold sp_get; rw [nI_clamp (n := js) (by omega), if_neg c4, if_neg c16, if_pos hck0, nI_clamp (n := ji) (by omega)]; exact hitj) trivial
      · have hck0 : ¬ sr_ck X_ js fo i_ = 0 := fun q => c26 (sr_ck_z.mpr q)
        refine lv_ldc (v := (-2147483648)) C0.1 C0.2.1 C0.2.2.2.1 (C0.2.2.2.2 _ sw_697) dX8_get_29 ?_
        exact hret _ _ _ () _ _ _ dX8_get_31 hP hS (by unfold sk_get sk_ck; rw [nI_clamp (n := js) (by omega), if_neg c4, if_neg c16, if_neg hck0]) (by unfold sp_get; rw [nI_clamp (n := js) (by omega), if_neg c4, if_neg c16, if_neg hck0]) trivial
