set_option maxRecDepth 100000 in
set_option maxHeartbeats 4000000 in
theorem cc_X7_sheet {l : Launch} {D : va_G} {cI cR : ClassId} {a : Nat → Nat} (ha : ∀ i j, i < 36 → j < 36 → a i = a j → i = j) {kp cx sg : sr_M} (s_ : Int32) (fo : Int32) (n_ : Int32) : sr_G l D (sr_tC cI cR) (sr_ZC a) (sr_AC a) (sr_WC cI cR a kp cx sg) yX7_sheet cX7_sheet 4 (some .int) 2 46 [.ref (a 0), .int s_, .int fo, .int n_] (S := sr_M) (fun u => sr_shC cx s_ fo n_ u) (fun u => sr_WC cI cR a (sk_sheet kp s_ fo n_) u sg) (fun u => some (.int (sp_sheet s_ fo n_))) := by
  refine sr_Gie (by decide +kernel) (Nat.le_of_ble_eq_true rfl) (fun p e s m args below meth c ls Q B hret => ?_)
  obtain ⟨C0, hP, hK, hZ0, hl⟩ := B
  have hZ : sr_Zok (sr_AC a) (sr_ZC a) := sr_ZCok a
  have hS : va_S (sr_AC a) s.heap s.heap [] := va_S.rf
  have hl : lv_has ls 4 [(0, .ref (a 0)), (1, .int s_), (2, .int fo), (3, .int n_)] := hl
  obtain ⟨H, hH⟩ : ∃ H, H = s.heap := ⟨_, rfl⟩
  have hP : va_P D vwCl (sr_WC cI cR a kp cx sg) H := by rw [hH]; exact hP
  have hS : va_S (sr_AC a) s.heap H [] := by rw [hH]; exact hS
  suffices hG : ∀ locs, va_S (sr_AC a) s.heap H locs → W p l e (sr_rm 2 46) s m args below meth c H locs 0 0 Q (F0 m 0 ls []) from by have h9 := hG [] hS; rw [hH] at h9; exact h9
  clear hS
  intro locs hS
  clear hH
  refine lv_iload_n C0.1 C0.2.1 dX7_sheet_0 rfl (lv_at hl 1 rfl) ?_
  refine sr_pSi (As := [.int s_]) C0 hK hP hZ (sr_Zs hZ hZ0 hS) (cc_X7_isNoSheet ha s_) sk_X7_isNoSheet (ss_X7_isNoSheet) sw_311 rfl rfl hl.1 (Nat.le_of_ble_eq_true rfl) (Nat.le_of_ble_eq_true rfl) (Nat.le_of_ble_eq_true rfl) dX7_sheet_1 ⟨Nat.zero_le _, Nat.zero_le _⟩ ?_
  refine sr_ifne (tgt := 20) C0 dX7_sheet_4 (by decide) (fun c4 => ?_) (fun c4 => ?_)
  · refine lv_bipush (v := (-2)) C0.1 C0.2.1 dX7_sheet_20 (by decide) ?_
    exact hret _ _ _ cx _ _ _ dX7_sheet_22 hP hS (by unfold sk_sheet; rw [if_pos c4]) (by unfold sp_sheet; rw [if_pos c4]) ⟨fun _ => rfl, fun q => absurd c4 q.1⟩
  · obtain ⟨js, hjs, rfl⟩ := sr_rg3 c4
    refine lv_iload_n C0.1 C0.2.1 dX7_sheet_7 rfl (lv_at hl 2 rfl) ?_
    refine sr_pSi (As := [.int fo]) C0 hK hP hZ (sr_Zs hZ hZ0 hS) (cc_X7_isNoForm ha fo) sk_X7_isNoForm (ss_X7_isNoForm) sw_527 rfl rfl hl.1 (Nat.le_of_ble_eq_true rfl) (Nat.le_of_ble_eq_true rfl) (Nat.le_of_ble_eq_true rfl) dX7_sheet_8 ⟨Nat.zero_le _, Nat.zero_le _⟩ ?_
    refine sr_ifne (tgt := 20) C0 dX7_sheet_11 (by decide) (fun c11 => ?_) (fun c11 => ?_)
    · refine lv_bipush (v := (-2)) C0.1 C0.2.1 dX7_sheet_20 (by decide) ?_
      exact hret _ _ _ cx _ _ _ dX7_sheet_22 hP hS (by unfold sk_sheet; (try rw [nI_clamp (n := js) (by omega)]); rw [if_neg c4, if_pos c11]) (by unfold sp_sheet; (try rw [nI_clamp (n := js) (by omega)]); rw [if_neg c4, if_pos c11]) ⟨fun _ => rfl, fun q => absurd c11 q.2.1⟩
    · refine lv_iload_n C0.1 C0.2.1 dX7_sheet_14 rfl (lv_at hl 3 rfl) ?_
      refine lv_bipush (v := 60) C0.1 C0.2.1 dX7_sheet_15 (by decide) ?_
      refine lv_icmp_le (tgt := 23) C0.1 C0.2.1 dX7_sheet_17 (by decide) (fun c17 => ?_) (fun c17 => ?_)
      · refine lv_iload_n C0.1 C0.2.1 dX7_sheet_23 rfl (lv_at hl 3 rfl) ?_
        refine lv_if_ge (tgt := 36) C0.1 C0.2.1 dX7_sheet_24 (by decide) (fun c24 => ?_) (fun c24 => ?_)
        · refine lv_aload_n C0.1 C0.2.1 dX7_sheet_36 rfl (lv_at hl 0 rfl) ?_
          refine sr_get (v := .ref (a 7)) C0 hK hP sr_inX7 sr_wC0 rfl 6 (by decide) sw_194 rfl dX7_sheet_37 ?_
          refine lv_iload_n C0.1 C0.2.1 dX7_sheet_40 rfl (lv_at hl 1 rfl) ?_
          refine lv_iload_n C0.1 C0.2.1 dX7_sheet_41 rfl (lv_at hl 2 rfl) ?_
          refine lv_iload_n C0.1 C0.2.1 dX7_sheet_42 rfl (lv_at hl 3 rfl) ?_
          refine sr_gVv (As := [.int (nI js), .int fo, .int n_]) C0 hK hP hZ (sr_Zs hZ hZ0 hS) (cc_X5_renew ha js fo n_ (by omega)) sk_X5_renew sv_X5_renew sw_530 (ci := 5) rfl sr_wC7 rfl rfl hl.1 (Nat.le_of_ble_eq_true rfl) (Nat.le_of_ble_eq_true rfl) (Nat.le_of_ble_eq_true rfl) dX7_sheet_43 ⟨Nat.zero_le _, Nat.zero_le _⟩ hS (fun cx1 H locs hN hP hS => ?_)
          refine lv_iload_n C0.1 C0.2.1 dX7_sheet_46 rfl (lv_at hl 3 rfl) ?_
          exact hret _ _ _ cx1 _ _ _ dX7_sheet_47 hP hS (by unfold sk_sheet; (try rw [nI_clamp (n := js) (by omega)]); rw [if_neg c4, if_neg c11, if_pos c17, if_pos c24]) (by unfold sp_sheet; (try rw [nI_clamp (n := js) (by omega)]); rw [if_neg c4, if_neg c11, if_pos c17, if_pos c24]) ⟨fun q => absurd ⟨c4, c11, c17, c24⟩ q, fun _ => by rw [nI_clamp (n := js) (by omega)]; exact hN⟩
        · refine lv_aload_n C0.1 C0.2.1 dX7_sheet_27 rfl (lv_at hl 0 rfl) ?_
          refine sr_get (v := .ref (a 7)) C0 hK hP sr_inX7 sr_wC0 rfl 6 (by decide) sw_194 rfl dX7_sheet_28 ?_
          refine lv_iconst (v := 5) C0.1 C0.2.1 dX7_sheet_31 (by decide) ?_
          refine sr_gVi (As := [.int 5]) C0 hK hP hZ (sr_Zs hZ hZ0 hS) (cc_X5_found ha (5)) sk_X5_found sv_X5_found sw_318 (ci := 5) rfl sr_wC7 rfl rfl hl.1 (Nat.le_of_ble_eq_true rfl) (Nat.le_of_ble_eq_true rfl) (Nat.le_of_ble_eq_true rfl) dX7_sheet_32 ⟨Nat.zero_le _, Nat.zero_le _⟩ hS (fun u H locs hu hP hS => ?_)
          exact hret _ _ _ cx _ _ _ dX7_sheet_35 hP hS (by unfold sk_sheet; (try rw [nI_clamp (n := js) (by omega)]); rw [if_neg c4, if_neg c11, if_pos c17, if_neg c24]) (by unfold sp_sheet; (try rw [nI_clamp (n := js) (by omega)]); rw [if_neg c4, if_neg c11, if_pos c17, if_neg c24]) ⟨fun _ => rfl, fun q => absurd q.2.2.2 c24⟩
      · refine lv_bipush (v := (-2)) C0.1 C0.2.1 dX7_sheet_20 (by decide) ?_
        exact hret _ _ _ cx _ _ _ dX7_sheet_22 hP hS (by unfold sk_sheet; (try rw [nI_clamp (n := js) (by omega)]); rw [if_neg c4, if_neg c11, if_neg c17]) (by unfold sp_sheet; (try rw [nI_clamp (n := js) (by omega)]); rw [if_neg c4, if_neg c11, if_neg c17]) ⟨fun _ => rfl, fun q => absurd q.2.2.1 c17⟩
set_option maxRecDepth 100000 in
set_option maxHeartbeats 4000000 in
theorem cc_X7_lose {l : Launch} {D : va_G} {cI cR : ClassId} {a : Nat → Nat} (ha : ∀ i j, i < 36 → j < 36 → a i = a j → i = j) {kp cx sg : sr_M} (s_ : Int32) : sr_G l D (sr_tC cI cR) (sr_ZC a) (sr_AC a) (sr_WC cI cR a kp cx sg) yX7_lose cX7_lose 2 (some .int) 2 42 [.ref (a 0), .int s_] (S := Unit) (fun u => True) (fun u => sr_WC cI cR a (sk_lose kp cx s_) (sc_lose cx s_) sg) (fun u => some (.int (sp_lose cx s_))) := by
  refine sr_Gie (by decide +kernel) (Nat.le_of_ble_eq_true rfl) (fun p e s m args below meth c ls Q B hret => ?_)
  obtain ⟨C0, hP, hK, hZ0, hl⟩ := B
  have hZ : sr_Zok (sr_AC a) (sr_ZC a) := sr_ZCok a
  have hS : va_S (sr_AC a) s.heap s.heap [] := va_S.rf
  have hl : lv_has ls 2 [(0, .ref (a 0)), (1, .int s_)] := hl
  obtain ⟨H, hH⟩ : ∃ H, H = s.heap := ⟨_, rfl⟩
  have hP : va_P D vwCl (sr_WC cI cR a kp cx sg) H := by rw [hH]; exact hP
  have hS : va_S (sr_AC a) s.heap H [] := by rw [hH]; exact hS
  suffices hG : ∀ locs, va_S (sr_AC a) s.heap H locs → W p l e (sr_rm 2 42) s m args below meth c H locs 0 0 Q (F0 m 0 ls []) from by have h9 := hG [] hS; rw [hH] at h9; exact h9
  clear hS
  intro locs hS
  clear hH
  refine lv_iload_n C0.1 C0.2.1 dX7_lose_0 rfl (lv_at hl 1 rfl) ?_
  refine sr_pSi (As := [.int s_]) C0 hK hP hZ (sr_Zs hZ hZ0 hS) (cc_X7_isNoSheet ha s_) sk_X7_isNoSheet (ss_X7_isNoSheet) sw_311 rfl rfl hl.1 (Nat.le_of_ble_eq_true rfl) (Nat.le_of_ble_eq_true rfl) (Nat.le_of_ble_eq_true rfl) dX7_lose_1 ⟨Nat.zero_le _, Nat.zero_le _⟩ ?_
  refine sr_ifeq (tgt := 10) C0 dX7_lose_4 (by decide) (fun c4 => ?_) (fun c4 => ?_)
  · obtain ⟨js, hjs, rfl⟩ := sr_rg3 c4
    refine lv_aload_n C0.1 C0.2.1 dX7_lose_10 rfl (lv_at hl 0 rfl) ?_
    refine sr_get (v := .ref (a 7)) C0 hK hP sr_inX7 sr_wC0 rfl 6 (by decide) sw_194 rfl dX7_lose_11 ?_
    refine lv_iload_n C0.1 C0.2.1 dX7_lose_14 rfl (lv_at hl 1 rfl) ?_
    refine sr_pVi (As := [.int (nI js)]) C0 hK hP hZ (sr_Zs hZ hZ0 hS) (cc_X5_isLost ha js (by omega)) sk_X5_isLost sv_X5_isLost sw_314 (ci := 5) rfl sr_wC7 rfl rfl hl.1 (Nat.le_of_ble_eq_true rfl) (Nat.le_of_ble_eq_true rfl) (Nat.le_of_ble_eq_true rfl) dX7_lose_15 ⟨Nat.zero_le _, Nat.zero_le _⟩ ?_
    refine sr_ifeq (tgt := 30) C0 dX7_lose_18 (by decide) (fun c18 => ?_) (fun c18 => ?_)
    · refine lv_aload_n C0.1 C0.2.1 dX7_lose_30 rfl (lv_at hl 0 rfl) ?_
      refine sr_get (v := .ref (a 7)) C0 hK hP sr_inX7 sr_wC0 rfl 6 (by decide) sw_194 rfl dX7_lose_31 ?_
      refine sr_get (v := .ref (a 35)) C0 hK hP sr_inX5 sr_wC7 rfl 2 (by decide) sw_176 rfl dX7_lose_34 ?_
      refine lv_iload_n C0.1 C0.2.1 dX7_lose_37 rfl (lv_at hl 1 rfl) ?_
      refine lv_iconst (v := (-1)) C0.1 C0.2.1 dX7_lose_38 (by decide) ?_
      refine sr_gSi (As := [.ref (a 35), .int (nI js), .int (-1)]) C0 hK hP hZ (sr_Zs hZ hZ0 hS) (cc_X7_swap ha sr_wC35 js ((-1)) (by omega) (by omega) sr_sC35) sk_X7_swap (ss_X7_swap) sw_277 rfl rfl hl.1 (Nat.le_of_ble_eq_true rfl) (Nat.le_of_ble_eq_true rfl) (Nat.le_of_ble_eq_true rfl) dX7_lose_39 ⟨Nat.zero_le _, Nat.zero_le _⟩ hS (fun u H locs hu hP hS => ?_)
      exact hret _ _ _ () _ _ _ dX7_lose_42 hP hS (by rw [show sk_lose kp cx (nI js) = kp from (by unfold sk_lose; (try rw [nI_clamp (n := js) (by omega)]); rw [if_neg c4, if_neg c18]), show sc_lose cx (nI js) = (va_up cx 11 (upd (cx 11) js (-1))) from (by unfold sc_lose; (try rw [nI_clamp (n := js) (by omega)]); rw [if_neg c4, if_neg c18])]) (by unfold sp_lose; (try rw [nI_clamp (n := js) (by omega)]); rw [if_neg c4, if_neg c18]) trivial
    · refine lv_aload_n C0.1 C0.2.1 dX7_lose_21 rfl (lv_at hl 0 rfl) ?_
      refine sr_get (v := .ref (a 7)) C0 hK hP sr_inX7 sr_wC0 rfl 6 (by decide) sw_194 rfl dX7_lose_22 ?_
      refine lv_iconst (v := 1) C0.1 C0.2.1 dX7_lose_25 (by decide) ?_
      refine sr_gVi (As := [.int 1]) C0 hK hP hZ (sr_Zs hZ hZ0 hS) (cc_X5_found ha (1)) sk_X5_found sv_X5_found sw_318 (ci := 5) rfl sr_wC7 rfl rfl hl.1 (Nat.le_of_ble_eq_true rfl) (Nat.le_of_ble_eq_true rfl) (Nat.le_of_ble_eq_true rfl) dX7_lose_26 ⟨Nat.zero_le _, Nat.zero_le _⟩ hS (fun u H locs hu hP hS => ?_)
      exact hret _ _ _ () _ _ _ dX7_lose_29 hP hS (by rw [show sk_lose kp cx (nI js) = (sr_fd kp 1) from (by unfold sk_lose; (try rw [nI_clamp (n := js) (by omega)]); rw [if_neg c4, if_pos c18]), show sc_lose cx (nI js) = cx from (by unfold sc_lose; (try rw [nI_clamp (n := js) (by omega)]); rw [if_neg c4, if_pos c18])]) (by unfold sp_lose; (try rw [nI_clamp (n := js) (by omega)]); rw [if_neg c4, if_pos c18]) trivial
  · refine lv_bipush (v := (-2)) C0.1 C0.2.1 dX7_lose_7 (by decide) ?_
    exact hret _ _ _ () _ _ _ dX7_lose_9 hP hS (by rw [show sk_lose kp cx s_ = kp from (by unfold sk_lose; rw [if_pos c4]), show sc_lose cx s_ = cx from (by unfold sc_lose; rw [if_pos c4])]) (by unfold sp_lose; rw [if_pos c4]) trivial
set_option maxRecDepth 100000 in
set_option maxHeartbeats 4000000 in
theorem cc_X7_lay {l : Launch} {D : va_G} {cI cR : ClassId} {a : Nat → Nat} (ha : ∀ i j, i < 36 → j < 36 → a i = a j → i = j) {kp cx sg : sr_M} (s_ : Int32) (fo : Int32) (i_ : Int32) (v_ : Int32) (hSC : sr_SC cx) : sr_G l D (sr_tC cI cR) (sr_ZC a) (sr_AC a) (sr_WC cI cR a kp cx sg) yX7_lay cX7_lay 6 (some .int) 2 45 [.ref (a 0), .int s_, .int fo, .int i_, .int v_] (S := Unit) (fun u => True) (fun u => sr_WC cI cR a (sk_lay kp cx s_ fo i_) (sc_lay cx s_ fo i_ v_) sg) (fun u => some (.int (sp_lay cx s_ fo i_))) := by
  refine sr_Gie (by decide +kernel) (Nat.le_of_ble_eq_true rfl) (fun p e s m args below meth c ls Q B hret => ?_)
  obtain ⟨C0, hP, hK, hZ0, hl⟩ := B
  have hZ : sr_Zok (sr_AC a) (sr_ZC a) := sr_ZCok a
  have hS : va_S (sr_AC a) s.heap s.heap [] := va_S.rf
  have hl : lv_has ls 6 [(0, .ref (a 0)), (1, .int s_), (2, .int fo), (3, .int i_), (4, .int v_)] := hl
  obtain ⟨H, hH⟩ : ∃ H, H = s.heap := ⟨_, rfl⟩
  have hP : va_P D vwCl (sr_WC cI cR a kp cx sg) H := by rw [hH]; exact hP
  have hS : va_S (sr_AC a) s.heap H [] := by rw [hH]; exact hS
  suffices hG : ∀ locs, va_S (sr_AC a) s.heap H locs → W p l e (sr_rm 2 45) s m args below meth c H locs 0 0 Q (F0 m 0 ls []) from by have h9 := hG [] hS; rw [hH] at h9; exact h9
  clear hS
  intro locs hS
  clear hH
  refine lv_iload_n C0.1 C0.2.1 dX7_lay_0 rfl (lv_at hl 1 rfl) ?_
  refine sr_pSi (As := [.int s_]) C0 hK hP hZ (sr_Zs hZ hZ0 hS) (cc_X7_isNoSheet ha s_) sk_X7_isNoSheet (ss_X7_isNoSheet) sw_311 rfl rfl hl.1 (Nat.le_of_ble_eq_true rfl) (Nat.le_of_ble_eq_true rfl) (Nat.le_of_ble_eq_true rfl) dX7_lay_1 ⟨Nat.zero_le _, Nat.zero_le _⟩ ?_
  refine sr_ifne (tgt := 14) C0 dX7_lay_4 (by decide) (fun c4 => ?_) (fun c4 => ?_)
  · refine lv_bipush (v := (-2)) C0.1 C0.2.1 dX7_lay_14 (by decide) ?_
    exact hret _ _ _ () _ _ _ dX7_lay_16 hP hS (by rw [show sk_lay kp cx s_ fo i_ = kp from (by unfold sk_lay; rw [if_pos c4]), show sc_lay cx s_ fo i_ v_ = cx from (by unfold sc_lay; rw [if_pos c4])]) (by unfold sp_lay; rw [if_pos c4]) trivial
  · obtain ⟨js, hjs, rfl⟩ := sr_rg3 c4
    refine lv_iload_n C0.1 C0.2.1 dX7_lay_7 rfl (lv_at hl 2 rfl) ?_
    refine sr_pSi (As := [.int fo]) C0 hK hP hZ (sr_Zs hZ hZ0 hS) (cc_X7_isNoForm ha fo) sk_X7_isNoForm (ss_X7_isNoForm) sw_527 rfl rfl hl.1 (Nat.le_of_ble_eq_true rfl) (Nat.le_of_ble_eq_true rfl) (Nat.le_of_ble_eq_true rfl) dX7_lay_8 ⟨Nat.zero_le _, Nat.zero_le _⟩ ?_
    refine sr_ifeq (tgt := 17) C0 dX7_lay_11 (by decide) (fun c11 => ?_) (fun c11 => ?_)
    · refine lv_aload_n C0.1 C0.2.1 dX7_lay_17 rfl (lv_at hl 0 rfl) ?_
      refine sr_get (v := .ref (a 7)) C0 hK hP sr_inX7 sr_wC0 rfl 6 (by decide) sw_194 rfl dX7_lay_18 ?_
      refine lv_iload_n C0.1 C0.2.1 dX7_lay_21 rfl (lv_at hl 1 rfl) ?_
      refine lv_iload_n C0.1 C0.2.1 dX7_lay_22 rfl (lv_at hl 2 rfl) ?_
      refine lv_iload_n C0.1 C0.2.1 dX7_lay_23 rfl (lv_at hl 3 rfl) ?_
      refine sr_pVi (As := [.int (nI js), .int fo, .int i_]) C0 hK hP hZ (sr_Zs hZ hZ0 hS) (cc_X5_check ha js fo i_ (by omega)) sk_X5_check sv_X5_check sw_543 (ci := 5) rfl sr_wC7 rfl rfl hl.1 (Nat.le_of_ble_eq_true rfl) (Nat.le_of_ble_eq_true rfl) (Nat.le_of_ble_eq_true rfl) dX7_lay_24 ⟨Nat.zero_le _, Nat.zero_le _⟩ ?_
      refine lv_istore (lv' := [(5, .int (sr_ck cx js fo i_)), (0, .ref (a 0)), (1, .int (nI js)), (2, .int fo), (3, .int i_), (4, .int v_)]) C0.1 C0.2.1 dX7_lay_27 hl (by decide) rfl (fun ls hl => ?_)
      refine lv_iload C0.1 C0.2.1 dX7_lay_29 (lv_at hl 0 rfl) ?_
      refine lv_if_eq (tgt := 44) C0.1 C0.2.1 dX7_lay_31 (by decide) (fun c31 => ?_) (fun c31 => ?_)
      · obtain ⟨ji, hji, rfl⟩ := sr_ck0 hSC hjs c31
        refine lv_aload_n C0.1 C0.2.1 dX7_lay_44 rfl (lv_at hl 1 rfl) ?_
        refine sr_get (v := .ref (a 7)) C0 hK hP sr_inX7 sr_wC0 rfl 6 (by decide) sw_194 rfl dX7_lay_45 ?_
        refine lv_iload_n C0.1 C0.2.1 dX7_lay_48 rfl (lv_at hl 2 rfl) ?_
        refine lv_iload_n C0.1 C0.2.1 dX7_lay_49 rfl (lv_at hl 4 rfl) ?_
        refine lv_iload C0.1 C0.2.1 dX7_lay_50 (lv_at hl 5 rfl) ?_
        refine sr_gVv (As := [.int (nI js), .int (nI ji), .int v_]) C0 hK hP hZ (sr_Zs hZ hZ0 hS) (cc_X5_put ha js ji v_ (by omega) (by omega)) sk_X5_put sv_X5_put sw_549 (ci := 5) rfl sr_wC7 rfl rfl hl.1 (Nat.le_of_ble_eq_true rfl) (Nat.le_of_ble_eq_true rfl) (Nat.le_of_ble_eq_true rfl) dX7_lay_52 ⟨Nat.zero_le _, Nat.zero_le _⟩ hS (fun u H locs hu hP hS => ?_)
        refine lv_iconst (v := 1) C0.1 C0.2.1 dX7_lay_55 (by decide) ?_
        exact hret _ _ _ () _ _ _ dX7_lay_56 hP hS (by rw [show sk_lay kp cx (nI js) fo (nI ji) = kp from (by unfold sk_lay; (try rw [nI_clamp (n := js) (by omega)]); (try rw [nI_clamp (n := ji) (by omega)]); rw [if_neg c4, if_neg c11, if_pos c31]), show sc_lay cx (nI js) fo (nI ji) v_ = (sr_put1 cx js ji v_) from (by unfold sc_lay; (try rw [nI_clamp (n := js) (by omega)]); (try rw [nI_clamp (n := ji) (by omega)]); rw [if_neg c4, if_neg c11, if_pos c31])]) (by unfold sp_lay; (try rw [nI_clamp (n := js) (by omega)]); (try rw [nI_clamp (n := ji) (by omega)]); rw [if_neg c4, if_neg c11, if_pos c31]) trivial
      · refine lv_aload_n C0.1 C0.2.1 dX7_lay_34 rfl (lv_at hl 1 rfl) ?_
        refine sr_get (v := .ref (a 7)) C0 hK hP sr_inX7 sr_wC0 rfl 6 (by decide) sw_194 rfl dX7_lay_35 ?_
        refine lv_iload C0.1 C0.2.1 dX7_lay_38 (lv_at hl 0 rfl) ?_
        refine sr_gVi (As := [.int (sr_ck cx js fo i_)]) C0 hK hP hZ (sr_Zs hZ hZ0 hS) (cc_X5_found ha (sr_ck cx js fo i_)) sk_X5_found sv_X5_found sw_318 (ci := 5) rfl sr_wC7 rfl rfl hl.1 (Nat.le_of_ble_eq_true rfl) (Nat.le_of_ble_eq_true rfl) (Nat.le_of_ble_eq_true rfl) dX7_lay_40 ⟨Nat.zero_le _, Nat.zero_le _⟩ hS (fun u H locs hu hP hS => ?_)
        exact hret _ _ _ () _ _ _ dX7_lay_43 hP hS (by rw [show sk_lay kp cx (nI js) fo i_ = (sr_fd kp (sr_ck cx js fo i_)) from (by unfold sk_lay; (try rw [nI_clamp (n := js) (by omega)]); rw [if_neg c4, if_neg c11, if_neg c31]), show sc_lay cx (nI js) fo i_ v_ = cx from (by unfold sc_lay; (try rw [nI_clamp (n := js) (by omega)]); rw [if_neg c4, if_neg c11, if_neg c31])]) (by unfold sp_lay; (try rw [nI_clamp (n := js) (by omega)]); rw [if_neg c4, if_neg c11, if_neg c31]) trivial
    · refine lv_bipush (v := (-2)) C0.1 C0.2.1 dX7_lay_14 (by decide) ?_
      exact hret _ _ _ () _ _ _ dX7_lay_16 hP hS (by rw [show sk_lay kp cx (nI js) fo i_ = kp from (by unfold sk_lay; (try rw [nI_clamp (n := js) (by omega)]); rw [if_neg c4, if_pos c11]), show sc_lay cx (nI js) fo i_ v_ = cx from (by unfold sc_lay; (try rw [nI_clamp (n := js) (by omega)]); rw [if_neg c4, if_pos c11])]) (by unfold sp_lay; (try rw [nI_clamp (n := js) (by omega)]); rw [if_neg c4, if_pos c11]) trivial
set_option maxRecDepth 100000 in
set_option maxHeartbeats 4000000 in
theorem cc_X7_get {l : Launch} {D : va_G} {cI cR : ClassId} {a : Nat → Nat} (ha : ∀ i j, i < 36 → j < 36 → a i = a j → i = j) {kp cx sg : sr_M} (s_ : Int32) (fo : Int32) (i_ : Int32) (hSC : sr_SC cx) : sr_G l D (sr_tC cI cR) (sr_ZC a) (sr_AC a) (sr_WC cI cR a kp cx sg) yX7_get cX7_get 5 (some .int) 2 45 [.ref (a 0), .int s_, .int fo, .int i_] (S := Unit) (fun u => True) (fun u => sr_WC cI cR a (sk_get kp cx s_ fo i_) cx sg) (fun u => some (.int (sp_get cx s_ fo i_))) := by
  refine sr_Gie (by decide +kernel) (Nat.le_of_ble_eq_true rfl) (fun p e s m args below meth c ls Q B hret => ?_)
  obtain ⟨C0, hP, hK, hZ0, hl⟩ := B
  have hZ : sr_Zok (sr_AC a) (sr_ZC a) := sr_ZCok a
  have hS : va_S (sr_AC a) s.heap s.heap [] := va_S.rf
  have hl : lv_has ls 5 [(0, .ref (a 0)), (1, .int s_), (2, .int fo), (3, .int i_)] := hl
  obtain ⟨H, hH⟩ : ∃ H, H = s.heap := ⟨_, rfl⟩
  have hP : va_P D vwCl (sr_WC cI cR a kp cx sg) H := by rw [hH]; exact hP
  have hS : va_S (sr_AC a) s.heap H [] := by rw [hH]; exact hS
  suffices hG : ∀ locs, va_S (sr_AC a) s.heap H locs → W p l e (sr_rm 2 45) s m args below meth c H locs 0 0 Q (F0 m 0 ls []) from by have h9 := hG [] hS; rw [hH] at h9; exact h9
  clear hS
  intro locs hS
  clear hH
  refine lv_iload_n C0.1 C0.2.1 dX7_get_0 rfl (lv_at hl 1 rfl) ?_
  refine sr_pSi (As := [.int s_]) C0 hK hP hZ (sr_Zs hZ hZ0 hS) (cc_X7_isNoSheet ha s_) sk_X7_isNoSheet (ss_X7_isNoSheet) sw_311 rfl rfl hl.1 (Nat.le_of_ble_eq_true rfl) (Nat.le_of_ble_eq_true rfl) (Nat.le_of_ble_eq_true rfl) dX7_get_1 ⟨Nat.zero_le _, Nat.zero_le _⟩ ?_
  refine sr_ifne (tgt := 14) C0 dX7_get_4 (by decide) (fun c4 => ?_) (fun c4 => ?_)
  · refine lv_ldc (v := (-2147483648)) C0.1 C0.2.1 C0.2.2.2.1 (C0.2.2.2.2 _ sw_557) dX7_get_14 ?_
    exact hret _ _ _ () _ _ _ dX7_get_16 hP hS (by rw [show sk_get kp cx s_ fo i_ = kp from (by unfold sk_get; rw [if_pos c4])]) (by unfold sp_get; rw [if_pos c4]) trivial
  · obtain ⟨js, hjs, rfl⟩ := sr_rg3 c4
    refine lv_iload_n C0.1 C0.2.1 dX7_get_7 rfl (lv_at hl 2 rfl) ?_
    refine sr_pSi (As := [.int fo]) C0 hK hP hZ (sr_Zs hZ hZ0 hS) (cc_X7_isNoForm ha fo) sk_X7_isNoForm (ss_X7_isNoForm) sw_527 rfl rfl hl.1 (Nat.le_of_ble_eq_true rfl) (Nat.le_of_ble_eq_true rfl) (Nat.le_of_ble_eq_true rfl) dX7_get_8 ⟨Nat.zero_le _, Nat.zero_le _⟩ ?_
    refine sr_ifeq (tgt := 17) C0 dX7_get_11 (by decide) (fun c11 => ?_) (fun c11 => ?_)
    · refine lv_aload_n C0.1 C0.2.1 dX7_get_17 rfl (lv_at hl 0 rfl) ?_
      refine sr_get (v := .ref (a 7)) C0 hK hP sr_inX7 sr_wC0 rfl 6 (by decide) sw_194 rfl dX7_get_18 ?_
      refine lv_iload_n C0.1 C0.2.1 dX7_get_21 rfl (lv_at hl 1 rfl) ?_
      refine lv_iload_n C0.1 C0.2.1 dX7_get_22 rfl (lv_at hl 2 rfl) ?_
      refine lv_iload_n C0.1 C0.2.1 dX7_get_23 rfl (lv_at hl 3 rfl) ?_
      refine sr_pVi (As := [.int (nI js), .int fo, .int i_]) C0 hK hP hZ (sr_Zs hZ hZ0 hS) (cc_X5_check ha js fo i_ (by omega)) sk_X5_check sv_X5_check sw_543 (ci := 5) rfl sr_wC7 rfl rfl hl.1 (Nat.le_of_ble_eq_true rfl) (Nat.le_of_ble_eq_true rfl) (Nat.le_of_ble_eq_true rfl) dX7_get_24 ⟨Nat.zero_le _, Nat.zero_le _⟩ ?_
      refine lv_istore (lv' := [(4, .int (sr_ck cx js fo i_)), (0, .ref (a 0)), (1, .int (nI js)), (2, .int fo), (3, .int i_)]) C0.1 C0.2.1 dX7_get_27 hl (by decide) rfl (fun ls hl => ?_)
      refine lv_iload C0.1 C0.2.1 dX7_get_29 (lv_at hl 0 rfl) ?_
      refine lv_if_ne (tgt := 46) C0.1 C0.2.1 dX7_get_31 (by decide) (fun c31 => ?_) (fun c31 => ?_)
      · refine lv_aload_n C0.1 C0.2.1 dX7_get_46 rfl (lv_at hl 1 rfl) ?_
        refine sr_get (v := .ref (a 7)) C0 hK hP sr_inX7 sr_wC0 rfl 6 (by decide) sw_194 rfl dX7_get_47 ?_
        refine lv_iload C0.1 C0.2.1 dX7_get_50 (lv_at hl 0 rfl) ?_
        refine sr_gVi (As := [.int (sr_ck cx js fo i_)]) C0 hK hP hZ (sr_Zs hZ hZ0 hS) (cc_X5_found ha (sr_ck cx js fo i_)) sk_X5_found sv_X5_found sw_318 (ci := 5) rfl sr_wC7 rfl rfl hl.1 (Nat.le_of_ble_eq_true rfl) (Nat.le_of_ble_eq_true rfl) (Nat.le_of_ble_eq_true rfl) dX7_get_52 ⟨Nat.zero_le _, Nat.zero_le _⟩ hS (fun u H locs hu hP hS => ?_)
        refine lv_pop C0.1 C0.2.1 dX7_get_55 rfl ?_
        refine lv_ldc (v := (-2147483648)) C0.1 C0.2.1 C0.2.2.2.1 (C0.2.2.2.2 _ sw_557) dX7_get_56 ?_
        exact hret _ _ _ () _ _ _ dX7_get_58 hP hS (by rw [show sk_get kp cx (nI js) fo i_ = (sr_fd kp (sr_ck cx js fo i_)) from (by unfold sk_get; (try rw [nI_clamp (n := js) (by omega)]); rw [if_neg c4, if_neg c11, if_neg c31])]) (by unfold sp_get; (try rw [nI_clamp (n := js) (by omega)]); rw [if_neg c4, if_neg c11, if_neg c31]) trivial
      · obtain ⟨ji, hji, rfl⟩ := sr_ck0 hSC hjs c31
        refine lv_aload_n C0.1 C0.2.1 dX7_get_34 rfl (lv_at hl 1 rfl) ?_
        refine sr_get (v := .ref (a 7)) C0 hK hP sr_inX7 sr_wC0 rfl 6 (by decide) sw_194 rfl dX7_get_35 ?_
        refine sr_get (v := .ref (a 29)) C0 hK hP sr_inX5 sr_wC7 rfl 0 (by decide) sw_172 rfl dX7_get_38 ?_
        refine lv_iload_n C0.1 C0.2.1 dX7_get_41 rfl (lv_at hl 2 rfl) ?_
        refine sr_ald2 (k := js) (r := a (30 + js)) C0 hK rfl hP sr_wC29 (nI_clamp (by omega)) (vp_in_nI (by omega) (by omega)) (sr_os (by omega)) dX7_get_42 ?_
        refine lv_iload_n C0.1 C0.2.1 dX7_get_43 rfl (lv_at hl 4 rfl) ?_
        refine sr_ald (k := ji) C0 hK rfl hP (sr_rC29 (by omega)) (nI_clamp (by omega)) (vp_in_nI (by omega) (by omega)) dX7_get_44 ?_
        exact hret _ _ _ () _ _ _ dX7_get_45 hP hS (by rw [show sk_get kp cx (nI js) fo (nI ji) = kp from (by unfold sk_get; (try rw [nI_clamp (n := js) (by omega)]); (try rw [nI_clamp (n := ji) (by omega)]); rw [if_neg c4, if_neg c11, if_pos c31])]) (by unfold sp_get; (try rw [nI_clamp (n := js) (by omega)]); (try rw [nI_clamp (n := ji) (by omega)]); rw [if_neg c4, if_neg c11, if_pos c31]) trivial
    · refine lv_ldc (v := (-2147483648)) C0.1 C0.2.1 C0.2.2.2.1 (C0.2.2.2.2 _ sw_557) dX7_get_14 ?_
      exact hret _ _ _ () _ _ _ dX7_get_16 hP hS (by rw [show sk_get kp cx (nI js) fo i_ = kp from (by unfold sk_get; (try rw [nI_clamp (n := js) (by omega)]); rw [if_neg c4, if_pos c11])]) (by unfold sp_get; (try rw [nI_clamp (n := js) (by omega)]); rw [if_neg c4, if_pos c11]) trivial
set_option maxRecDepth 100000 in
set_option maxHeartbeats 4000000 in
theorem cc_X7_copy {l : Launch} {D : va_G} {cI cR : ClassId} {a : Nat → Nat} (ha : ∀ i j, i < 36 → j < 36 → a i = a j → i = j) {kp cx sg : sr_M} (s_ : Int32) (i_ : Int32) (t_ : Int32) (j_ : Int32) (n_ : Int32) (hSC : sr_SC cx) : sr_G l D (sr_tC cI cR) (sr_ZC a) (sr_AC a) (sr_WC cI cR a kp cx sg) yX7_copy cX7_copy 6 (some .int) 2 42 [.ref (a 0), .int s_, .int i_, .int t_, .int j_, .int n_] (S := Unit) (fun u => True) (fun u => sr_WC cI cR a (sk_copy kp cx s_ i_ t_ j_ n_) (sc_copy cx s_ i_ t_ j_ n_) sg) (fun u => some (.int (sp_copy cx s_ i_ t_ j_ n_))) := by
  refine sr_Gie (by decide +kernel) (Nat.le_of_ble_eq_true rfl) (fun p e s m args below meth c ls Q B hret => ?_)
  obtain ⟨C0, hP, hK, hZ0, hl⟩ := B
  have hZ : sr_Zok (sr_AC a) (sr_ZC a) := sr_ZCok a
  have hS : va_S (sr_AC a) s.heap s.heap [] := va_S.rf
  have hl : lv_has ls 6 [(0, .ref (a 0)), (1, .int s_), (2, .int i_), (3, .int t_), (4, .int j_), (5, .int n_)] := hl
  obtain ⟨H, hH⟩ : ∃ H, H = s.heap := ⟨_, rfl⟩
  have hP : va_P D vwCl (sr_WC cI cR a kp cx sg) H := by rw [hH]; exact hP
  have hS : va_S (sr_AC a) s.heap H [] := by rw [hH]; exact hS
  suffices hG : ∀ locs, va_S (sr_AC a) s.heap H locs → W p l e (sr_rm 2 42) s m args below meth c H locs 0 0 Q (F0 m 0 ls []) from by have h9 := hG [] hS; rw [hH] at h9; exact h9
  clear hS
  intro locs hS
  clear hH
  refine lv_iload_n C0.1 C0.2.1 dX7_copy_0 rfl (lv_at hl 1 rfl) ?_
  refine sr_pSi (As := [.int s_]) C0 hK hP hZ (sr_Zs hZ hZ0 hS) (cc_X7_isNoSheet ha s_) sk_X7_isNoSheet (ss_X7_isNoSheet) sw_311 rfl rfl hl.1 (Nat.le_of_ble_eq_true rfl) (Nat.le_of_ble_eq_true rfl) (Nat.le_of_ble_eq_true rfl) dX7_copy_1 ⟨Nat.zero_le _, Nat.zero_le _⟩ ?_
  refine sr_ifne (tgt := 14) C0 dX7_copy_4 (by decide) (fun c4 => ?_) (fun c4 => ?_)
  · refine lv_bipush (v := (-2)) C0.1 C0.2.1 dX7_copy_14 (by decide) ?_
    exact hret _ _ _ () _ _ _ dX7_copy_16 hP hS (by rw [show sk_copy kp cx s_ i_ t_ j_ n_ = kp from (by unfold sk_copy; rw [if_pos c4]), show sc_copy cx s_ i_ t_ j_ n_ = cx from (by unfold sc_copy; rw [if_pos c4])]) (by unfold sp_copy; rw [if_pos c4]) trivial
  · obtain ⟨js, hjs, rfl⟩ := sr_rg3 c4
    refine lv_iload_n C0.1 C0.2.1 dX7_copy_7 rfl (lv_at hl 3 rfl) ?_
    refine sr_pSi (As := [.int t_]) C0 hK hP hZ (sr_Zs hZ hZ0 hS) (cc_X7_isNoSheet ha t_) sk_X7_isNoSheet (ss_X7_isNoSheet) sw_311 rfl rfl hl.1 (Nat.le_of_ble_eq_true rfl) (Nat.le_of_ble_eq_true rfl) (Nat.le_of_ble_eq_true rfl) dX7_copy_8 ⟨Nat.zero_le _, Nat.zero_le _⟩ ?_
    refine sr_ifeq (tgt := 17) C0 dX7_copy_11 (by decide) (fun c11 => ?_) (fun c11 => ?_)
    · obtain ⟨jt, hjt, rfl⟩ := sr_rg3 c11
      refine lv_aload_n C0.1 C0.2.1 dX7_copy_17 rfl (lv_at hl 0 rfl) ?_
      refine sr_get (v := .ref (a 7)) C0 hK hP sr_inX7 sr_wC0 rfl 6 (by decide) sw_194 rfl dX7_copy_18 ?_
      refine lv_iload_n C0.1 C0.2.1 dX7_copy_21 rfl (lv_at hl 1 rfl) ?_
      refine sr_pVi (As := [.int (nI js)]) C0 hK hP hZ (sr_Zs hZ hZ0 hS) (cc_X5_isLost ha js (by omega)) sk_X5_isLost sv_X5_isLost sw_314 (ci := 5) rfl sr_wC7 rfl rfl hl.1 (Nat.le_of_ble_eq_true rfl) (Nat.le_of_ble_eq_true rfl) (Nat.le_of_ble_eq_true rfl) dX7_copy_22 ⟨Nat.zero_le _, Nat.zero_le _⟩ ?_
      refine sr_ifne (tgt := 39) C0 dX7_copy_25 (by decide) (fun c25 => ?_) (fun c25 => ?_)
      · refine lv_aload_n C0.1 C0.2.1 dX7_copy_39 rfl (lv_at hl 0 rfl) ?_
        refine sr_get (v := .ref (a 7)) C0 hK hP sr_inX7 sr_wC0 rfl 6 (by decide) sw_194 rfl dX7_copy_40 ?_
        refine lv_iconst (v := 1) C0.1 C0.2.1 dX7_copy_43 (by decide) ?_
        refine sr_gVi (As := [.int 1]) C0 hK hP hZ (sr_Zs hZ hZ0 hS) (cc_X5_found ha (1)) sk_X5_found sv_X5_found sw_318 (ci := 5) rfl sr_wC7 rfl rfl hl.1 (Nat.le_of_ble_eq_true rfl) (Nat.le_of_ble_eq_true rfl) (Nat.le_of_ble_eq_true rfl) dX7_copy_44 ⟨Nat.zero_le _, Nat.zero_le _⟩ hS (fun u H locs hu hP hS => ?_)
        exact hret _ _ _ () _ _ _ dX7_copy_47 hP hS (by rw [show sk_copy kp cx (nI js) i_ (nI jt) j_ n_ = (sr_fd kp 1) from (by unfold sk_copy; rw [nI_clamp (n := js) (by omega), nI_clamp (n := jt) (by omega), if_neg c4, if_neg c11, if_pos (Or.inl c25)]), show sc_copy cx (nI js) i_ (nI jt) j_ n_ = cx from (by unfold sc_copy; rw [nI_clamp (n := js) (by omega), nI_clamp (n := jt) (by omega), if_neg c4, if_neg c11, if_pos (Or.inl c25)])]) (by unfold sp_copy; rw [nI_clamp (n := js) (by omega), nI_clamp (n := jt) (by omega), if_neg c4, if_neg c11, if_pos (Or.inl c25)]) trivial
      · refine lv_aload_n C0.1 C0.2.1 dX7_copy_28 rfl (lv_at hl 0 rfl) ?_
        refine sr_get (v := .ref (a 7)) C0 hK hP sr_inX7 sr_wC0 rfl 6 (by decide) sw_194 rfl dX7_copy_29 ?_
        refine lv_iload_n C0.1 C0.2.1 dX7_copy_32 rfl (lv_at hl 3 rfl) ?_
        refine sr_pVi (As := [.int (nI jt)]) C0 hK hP hZ (sr_Zs hZ hZ0 hS) (cc_X5_isLost ha jt (by omega)) sk_X5_isLost sv_X5_isLost sw_314 (ci := 5) rfl sr_wC7 rfl rfl hl.1 (Nat.le_of_ble_eq_true rfl) (Nat.le_of_ble_eq_true rfl) (Nat.le_of_ble_eq_true rfl) dX7_copy_33 ⟨Nat.zero_le _, Nat.zero_le _⟩ ?_
        refine sr_ifeq (tgt := 48) C0 dX7_copy_36 (by decide) (fun c36 => ?_) (fun c36 => ?_)
        · refine lv_aload_n C0.1 C0.2.1 dX7_copy_48 rfl (lv_at hl 0 rfl) ?_
          refine sr_get (v := .ref (a 7)) C0 hK hP sr_inX7 sr_wC0 rfl 6 (by decide) sw_194 rfl dX7_copy_49 ?_
          refine sr_get (v := .ref (a 34)) C0 hK hP sr_inX5 sr_wC7 rfl 1 (by decide) sw_174 rfl dX7_copy_52 ?_
          refine lv_iload_n C0.1 C0.2.1 dX7_copy_55 rfl (lv_at hl 1 rfl) ?_
          refine sr_ald (k := js) C0 hK rfl hP sr_wC34 (nI_clamp (by omega)) (vp_in_nI (by omega) (by omega)) dX7_copy_56 ?_
          refine lv_aload_n C0.1 C0.2.1 dX7_copy_57 rfl (lv_at hl 0 rfl) ?_
          refine sr_get (v := .ref (a 7)) C0 hK hP sr_inX7 sr_wC0 rfl 6 (by decide) sw_194 rfl dX7_copy_58 ?_
          refine sr_get (v := .ref (a 34)) C0 hK hP sr_inX5 sr_wC7 rfl 1 (by decide) sw_174 rfl dX7_copy_61 ?_
          refine lv_iload_n C0.1 C0.2.1 dX7_copy_64 rfl (lv_at hl 3 rfl) ?_
          refine sr_ald (k := jt) C0 hK rfl hP sr_wC34 (nI_clamp (by omega)) (vp_in_nI (by omega) (by omega)) dX7_copy_65 ?_
          refine lv_icmp_eq (tgt := 78) C0.1 C0.2.1 dX7_copy_66 (by decide) (fun c66 => ?_) (fun c66 => ?_)
          · refine lv_aload_n C0.1 C0.2.1 dX7_copy_78 rfl (lv_at hl 0 rfl) ?_
            refine sr_get (v := .ref (a 7)) C0 hK hP sr_inX7 sr_wC0 rfl 6 (by decide) sw_194 rfl dX7_copy_79 ?_
            refine lv_iload_n C0.1 C0.2.1 dX7_copy_82 rfl (lv_at hl 1 rfl) ?_
            refine lv_iload_n C0.1 C0.2.1 dX7_copy_83 rfl (lv_at hl 2 rfl) ?_
            refine lv_iload C0.1 C0.2.1 dX7_copy_84 (lv_at hl 5 rfl) ?_
            refine sr_pVi (As := [.int (nI js), .int i_, .int n_]) C0 hK hP hZ (sr_Zs hZ hZ0 hS) (cc_X5_holds ha js i_ n_ (by omega)) sk_X5_holds sv_X5_holds sw_562 (ci := 5) rfl sr_wC7 rfl rfl hl.1 (Nat.le_of_ble_eq_true rfl) (Nat.le_of_ble_eq_true rfl) (Nat.le_of_ble_eq_true rfl) dX7_copy_86 ⟨Nat.zero_le _, Nat.zero_le _⟩ ?_
            refine sr_ifeq (tgt := 107) C0 dX7_copy_89 (by decide) (fun c89 => ?_) (fun c89 => ?_)
            · refine lv_aload_n C0.1 C0.2.1 dX7_copy_107 rfl (lv_at hl 0 rfl) ?_
              refine sr_get (v := .ref (a 7)) C0 hK hP sr_inX7 sr_wC0 rfl 6 (by decide) sw_194 rfl dX7_copy_108 ?_
              refine lv_iconst (v := 2) C0.1 C0.2.1 dX7_copy_111 (by decide) ?_
              refine sr_gVi (As := [.int 2]) C0 hK hP hZ (sr_Zs hZ hZ0 hS) (cc_X5_found ha (2)) sk_X5_found sv_X5_found sw_318 (ci := 5) rfl sr_wC7 rfl rfl hl.1 (Nat.le_of_ble_eq_true rfl) (Nat.le_of_ble_eq_true rfl) (Nat.le_of_ble_eq_true rfl) dX7_copy_112 ⟨Nat.zero_le _, Nat.zero_le _⟩ hS (fun u H locs hu hP hS => ?_)
              exact hret _ _ _ () _ _ _ dX7_copy_115 hP hS (by rw [show sk_copy kp cx (nI js) i_ (nI jt) j_ n_ = (sr_fd kp 2) from (by unfold sk_copy; rw [nI_clamp (n := js) (by omega), nI_clamp (n := jt) (by omega), if_neg c4, if_neg c11, if_neg (fun q => q.elim c25 c36), if_pos c66, if_neg (fun q => c89 q.1)]), show sc_copy cx (nI js) i_ (nI jt) j_ n_ = cx from (by unfold sc_copy; rw [nI_clamp (n := js) (by omega), nI_clamp (n := jt) (by omega), if_neg c4, if_neg c11, if_neg (fun q => q.elim c25 c36), if_pos c66, if_neg (fun q => c89 q.1)])]) (by unfold sp_copy; rw [nI_clamp (n := js) (by omega), nI_clamp (n := jt) (by omega), if_neg c4, if_neg c11, if_neg (fun q => q.elim c25 c36), if_pos c66, if_neg (fun q => c89 q.1)]) trivial
            · refine lv_aload_n C0.1 C0.2.1 dX7_copy_92 rfl (lv_at hl 0 rfl) ?_
              refine sr_get (v := .ref (a 7)) C0 hK hP sr_inX7 sr_wC0 rfl 6 (by decide) sw_194 rfl dX7_copy_93 ?_
              refine lv_iload_n C0.1 C0.2.1 dX7_copy_96 rfl (lv_at hl 3 rfl) ?_
              refine lv_iload C0.1 C0.2.1 dX7_copy_97 (lv_at hl 4 rfl) ?_
              refine lv_iload C0.1 C0.2.1 dX7_copy_99 (lv_at hl 5 rfl) ?_
              refine sr_pVi (As := [.int (nI jt), .int j_, .int n_]) C0 hK hP hZ (sr_Zs hZ hZ0 hS) (cc_X5_holds ha jt j_ n_ (by omega)) sk_X5_holds sv_X5_holds sw_562 (ci := 5) rfl sr_wC7 rfl rfl hl.1 (Nat.le_of_ble_eq_true rfl) (Nat.le_of_ble_eq_true rfl) (Nat.le_of_ble_eq_true rfl) dX7_copy_101 ⟨Nat.zero_le _, Nat.zero_le _⟩ ?_
              refine sr_ifne (tgt := 116) C0 dX7_copy_104 (by decide) (fun c104 => ?_) (fun c104 => ?_)
              · refine lv_aload_n C0.1 C0.2.1 dX7_copy_116 rfl (lv_at hl 0 rfl) ?_
                refine sr_get (v := .ref (a 7)) C0 hK hP sr_inX7 sr_wC0 rfl 6 (by decide) sw_194 rfl dX7_copy_117 ?_
                refine sr_get (v := .ref (a 29)) C0 hK hP sr_inX5 sr_wC7 rfl 0 (by decide) sw_172 rfl dX7_copy_120 ?_
                refine lv_iload_n C0.1 C0.2.1 dX7_copy_123 rfl (lv_at hl 1 rfl) ?_
                refine sr_ald2 (k := js) (r := a (30 + js)) C0 hK rfl hP sr_wC29 (nI_clamp (by omega)) (vp_in_nI (by omega) (by omega)) (sr_os (by omega)) dX7_copy_124 ?_
                refine lv_iload_n C0.1 C0.2.1 dX7_copy_125 rfl (lv_at hl 2 rfl) ?_
                refine lv_aload_n C0.1 C0.2.1 dX7_copy_126 rfl (lv_at hl 0 rfl) ?_
                refine sr_get (v := .ref (a 7)) C0 hK hP sr_inX7 sr_wC0 rfl 6 (by decide) sw_194 rfl dX7_copy_127 ?_
                refine sr_get (v := .ref (a 29)) C0 hK hP sr_inX5 sr_wC7 rfl 0 (by decide) sw_172 rfl dX7_copy_130 ?_
                refine lv_iload_n C0.1 C0.2.1 dX7_copy_133 rfl (lv_at hl 3 rfl) ?_
                refine sr_ald2 (k := jt) (r := a (30 + jt)) C0 hK rfl hP sr_wC29 (nI_clamp (by omega)) (vp_in_nI (by omega) (by omega)) (sr_os (by omega)) dX7_copy_134 ?_
                refine lv_iload C0.1 C0.2.1 dX7_copy_135 (lv_at hl 4 rfl) ?_
                refine lv_iload C0.1 C0.2.1 dX7_copy_137 (lv_at hl 5 rfl) ?_
                refine va_copyi C0.1 C0.2.1 (C0.2.2.1.trans hl.1.symm) C0.2.2.2.1 (C0.2.2.2.2 _ sw_566) (C0.2.2.2.2 _ sw_568) (C0.2.2.2.2 _ sw_567) (C0.2.2.2.2 _ sw_13) hK hP (sr_DC ha _ _ _) hS (30 + js) (30 + jt) 0 0 (sr_rC29 (by omega)) (sr_rC29 (by omega)) rfl rfl rfl c89.1 c104.1 c89.2.1 (sr_hoB hSC hjs c89) (sr_hoB hSC hjt c104) (fun _ _ => rfl) (Nat.le_of_ble_eq_true rfl) (Nat.le_of_ble_eq_true rfl) dX7_copy_139 (fun H locs hP _ hS => ?_)
                rw [sr_rsC29 (by omega)] at hP
                have hP : va_P D vwCl (sr_WC cI cR a kp (sr_cp1 cx js jt i_.toNatClampNeg j_.toNatClampNeg n_.toNatClampNeg) sg) H := hP
                refine lv_iconst (v := 1) C0.1 C0.2.1 dX7_copy_142 (by decide) ?_
                exact hret _ _ _ () _ _ _ dX7_copy_143 hP hS (by rw [show sk_copy kp cx (nI js) i_ (nI jt) j_ n_ = kp from (by unfold sk_copy; rw [nI_clamp (n := js) (by omega), nI_clamp (n := jt) (by omega), if_neg c4, if_neg c11, if_neg (fun q => q.elim c25 c36), if_pos c66, if_pos ⟨c89, c104⟩]), show sc_copy cx (nI js) i_ (nI jt) j_ n_ = (sr_cp1 cx js jt i_.toNatClampNeg j_.toNatClampNeg n_.toNatClampNeg) from (by unfold sc_copy; rw [nI_clamp (n := js) (by omega), nI_clamp (n := jt) (by omega), if_neg c4, if_neg c11, if_neg (fun q => q.elim c25 c36), if_pos c66, if_pos ⟨c89, c104⟩])]) (by unfold sp_copy; rw [nI_clamp (n := js) (by omega), nI_clamp (n := jt) (by omega), if_neg c4, if_neg c11, if_neg (fun q => q.elim c25 c36), if_pos c66, if_pos ⟨c89, c104⟩]) trivial
              · refine lv_aload_n C0.1 C0.2.1 dX7_copy_107 rfl (lv_at hl 0 rfl) ?_
                refine sr_get (v := .ref (a 7)) C0 hK hP sr_inX7 sr_wC0 rfl 6 (by decide) sw_194 rfl dX7_copy_108 ?_
                refine lv_iconst (v := 2) C0.1 C0.2.1 dX7_copy_111 (by decide) ?_
                refine sr_gVi (As := [.int 2]) C0 hK hP hZ (sr_Zs hZ hZ0 hS) (cc_X5_found ha (2)) sk_X5_found sv_X5_found sw_318 (ci := 5) rfl sr_wC7 rfl rfl hl.1 (Nat.le_of_ble_eq_true rfl) (Nat.le_of_ble_eq_true rfl) (Nat.le_of_ble_eq_true rfl) dX7_copy_112 ⟨Nat.zero_le _, Nat.zero_le _⟩ hS (fun u H locs hu hP hS => ?_)
                exact hret _ _ _ () _ _ _ dX7_copy_115 hP hS (by rw [show sk_copy kp cx (nI js) i_ (nI jt) j_ n_ = (sr_fd kp 2) from (by unfold sk_copy; rw [nI_clamp (n := js) (by omega), nI_clamp (n := jt) (by omega), if_neg c4, if_neg c11, if_neg (fun q => q.elim c25 c36), if_pos c66, if_neg (fun q => c104 q.2)]), show sc_copy cx (nI js) i_ (nI jt) j_ n_ = cx from (by unfold sc_copy; rw [nI_clamp (n := js) (by omega), nI_clamp (n := jt) (by omega), if_neg c4, if_neg c11, if_neg (fun q => q.elim c25 c36), if_pos c66, if_neg (fun q => c104 q.2)])]) (by unfold sp_copy; rw [nI_clamp (n := js) (by omega), nI_clamp (n := jt) (by omega), if_neg c4, if_neg c11, if_neg (fun q => q.elim c25 c36), if_pos c66, if_neg (fun q => c104 q.2)]) trivial
          · refine lv_aload_n C0.1 C0.2.1 dX7_copy_69 rfl (lv_at hl 0 rfl) ?_
            refine sr_get (v := .ref (a 7)) C0 hK hP sr_inX7 sr_wC0 rfl 6 (by decide) sw_194 rfl dX7_copy_70 ?_
            refine lv_iconst (v := 4) C0.1 C0.2.1 dX7_copy_73 (by decide) ?_
            refine sr_gVi (As := [.int 4]) C0 hK hP hZ (sr_Zs hZ hZ0 hS) (cc_X5_found ha (4)) sk_X5_found sv_X5_found sw_318 (ci := 5) rfl sr_wC7 rfl rfl hl.1 (Nat.le_of_ble_eq_true rfl) (Nat.le_of_ble_eq_true rfl) (Nat.le_of_ble_eq_true rfl) dX7_copy_74 ⟨Nat.zero_le _, Nat.zero_le _⟩ hS (fun u H locs hu hP hS => ?_)
            exact hret _ _ _ () _ _ _ dX7_copy_77 hP hS (by rw [show sk_copy kp cx (nI js) i_ (nI jt) j_ n_ = (sr_fd kp 4) from (by unfold sk_copy; rw [nI_clamp (n := js) (by omega), nI_clamp (n := jt) (by omega), if_neg c4, if_neg c11, if_neg (fun q => q.elim c25 c36), if_neg c66]), show sc_copy cx (nI js) i_ (nI jt) j_ n_ = cx from (by unfold sc_copy; rw [nI_clamp (n := js) (by omega), nI_clamp (n := jt) (by omega), if_neg c4, if_neg c11, if_neg (fun q => q.elim c25 c36), if_neg c66])]) (by unfold sp_copy; rw [nI_clamp (n := js) (by omega), nI_clamp (n := jt) (by omega), if_neg c4, if_neg c11, if_neg (fun q => q.elim c25 c36), if_neg c66]) trivial
        · refine lv_aload_n C0.1 C0.2.1 dX7_copy_39 rfl (lv_at hl 0 rfl) ?_
          refine sr_get (v := .ref (a 7)) C0 hK hP sr_inX7 sr_wC0 rfl 6 (by decide) sw_194 rfl dX7_copy_40 ?_
          refine lv_iconst (v := 1) C0.1 C0.2.1 dX7_copy_43 (by decide) ?_
          refine sr_gVi (As := [.int 1]) C0 hK hP hZ (sr_Zs hZ hZ0 hS) (cc_X5_found ha (1)) sk_X5_found sv_X5_found sw_318 (ci := 5) rfl sr_wC7 rfl rfl hl.1 (Nat.le_of_ble_eq_true rfl) (Nat.le_of_ble_eq_true rfl) (Nat.le_of_ble_eq_true rfl) dX7_copy_44 ⟨Nat.zero_le _, Nat.zero_le _⟩ hS (fun u H locs hu hP hS => ?_)
          exact hret _ _ _ () _ _ _ dX7_copy_47 hP hS (by rw [show sk_copy kp cx (nI js) i_ (nI jt) j_ n_ = (sr_fd kp 1) from (by unfold sk_copy; rw [nI_clamp (n := js) (by omega), nI_clamp (n := jt) (by omega), if_neg c4, if_neg c11, if_pos (Or.inr c36)]), show sc_copy cx (nI js) i_ (nI jt) j_ n_ = cx from (by unfold sc_copy; rw [nI_clamp (n := js) (by omega), nI_clamp (n := jt) (by omega), if_neg c4, if_neg c11, if_pos (Or.inr c36)])]) (by unfold sp_copy; rw [nI_clamp (n := js) (by omega), nI_clamp (n := jt) (by omega), if_neg c4, if_neg c11, if_pos (Or.inr c36)]) trivial
    · refine lv_bipush (v := (-2)) C0.1 C0.2.1 dX7_copy_14 (by decide) ?_
      exact hret _ _ _ () _ _ _ dX7_copy_16 hP hS (by rw [show sk_copy kp cx (nI js) i_ t_ j_ n_ = kp from (by unfold sk_copy; rw [nI_clamp (n := js) (by omega), if_neg c4, if_pos c11]), show sc_copy cx (nI js) i_ t_ j_ n_ = cx from (by unfold sc_copy; rw [nI_clamp (n := js) (by omega), if_neg c4, if_pos c11])]) (by unfold sp_copy; rw [nI_clamp (n := js) (by omega), if_neg c4, if_pos c11]) trivial
set_option maxRecDepth 100000 in
set_option maxHeartbeats 4000000 in
theorem cc_X7_write {l : Launch} {D : va_G} {cI cR : ClassId} {a : Nat → Nat} (ha : ∀ i j, i < 36 → j < 36 → a i = a j → i = j) {kp cx sg : sr_M} (s_ : Int32) (hI : sr_IC kp cx) (hSC : sr_SC cx) : sr_G l D (sr_tC cI cR) (sr_ZC a) (sr_AC a) (sr_WC cI cR a kp cx sg) yX7_write cX7_write 4 (some .int) 5 122 [.ref (a 0), .int s_] (S := Unit) (fun u => True) (fun u => sr_WC cI cR a (sk_write kp cx s_) (sc_write kp cx s_) sg) (fun u => some (.int (sp_write kp cx s_))) := by
  refine sr_Gie (by decide +kernel) (Nat.le_of_ble_eq_true rfl) (fun p e s m args below meth c ls Q B hret => ?_)
  obtain ⟨C0, hP, hK, hZ0, hl⟩ := B
  have hZ : sr_Zok (sr_AC a) (sr_ZC a) := sr_ZCok a
  have hS : va_S (sr_AC a) s.heap s.heap [] := va_S.rf
  have hl : lv_has ls 4 [(0, .ref (a 0)), (1, .int s_)] := hl
  obtain ⟨H, hH⟩ : ∃ H, H = s.heap := ⟨_, rfl⟩
  have hP : va_P D vwCl (sr_WC cI cR a kp cx sg) H := by rw [hH]; exact hP
  have hS : va_S (sr_AC a) s.heap H [] := by rw [hH]; exact hS
  suffices hG : ∀ locs, va_S (sr_AC a) s.heap H locs → W p l e (sr_rm 5 122) s m args below meth c H locs 0 0 Q (F0 m 0 ls []) from by have h9 := hG [] hS; rw [hH] at h9; exact h9
  clear hS
  intro locs hS
  clear hH
  refine lv_iload_n C0.1 C0.2.1 dX7_write_0 rfl (lv_at hl 1 rfl) ?_
  refine sr_pSi (As := [.int s_]) C0 hK hP hZ (sr_Zs hZ hZ0 hS) (cc_X7_isNoSheet ha s_) sk_X7_isNoSheet (ss_X7_isNoSheet) sw_311 rfl rfl hl.1 (Nat.le_of_ble_eq_true rfl) (Nat.le_of_ble_eq_true rfl) (Nat.le_of_ble_eq_true rfl) dX7_write_1 ⟨Nat.zero_le _, Nat.zero_le _⟩ ?_
  refine sr_ifeq (tgt := 10) C0 dX7_write_4 (by decide) (fun c4 => ?_) (fun c4 => ?_)
  · obtain ⟨js, hjs, rfl⟩ := sr_rg3 c4
    refine lv_aload_n C0.1 C0.2.1 dX7_write_10 rfl (lv_at hl 0 rfl) ?_
    refine sr_get (v := .ref (a 7)) C0 hK hP sr_inX7 sr_wC0 rfl 6 (by decide) sw_194 rfl dX7_write_11 ?_
    refine lv_iload_n C0.1 C0.2.1 dX7_write_14 rfl (lv_at hl 1 rfl) ?_
    refine sr_pVi (As := [.int (nI js)]) C0 hK hP hZ (sr_Zs hZ hZ0 hS) (cc_X5_isLost ha js (by omega)) sk_X5_isLost sv_X5_isLost sw_314 (ci := 5) rfl sr_wC7 rfl rfl hl.1 (Nat.le_of_ble_eq_true rfl) (Nat.le_of_ble_eq_true rfl) (Nat.le_of_ble_eq_true rfl) dX7_write_15 ⟨Nat.zero_le _, Nat.zero_le _⟩ ?_
    refine sr_ifeq (tgt := 30) C0 dX7_write_18 (by decide) (fun c18 => ?_) (fun c18 => ?_)
    · obtain ⟨hsz, hsz60⟩ := sr_szI hSC hjs c18
      have hm4 := sr_m4_le (sr_sz cx js) 4
      refine lv_aload_n C0.1 C0.2.1 dX7_write_30 rfl (lv_at hl 0 rfl) ?_
      refine sr_get (v := .ref (a 3)) C0 hK hP sr_inX7 sr_wC0 rfl 2 (by decide) sw_190 rfl dX7_write_31 ?_
      refine sr_pVi (As := []) C0 hK hP hZ (sr_Zs hZ hZ0 hS) (cc_X3_lacksSomebody ha hI) sk_X3_lacksSomebody sv_X3_lacksSomebody sw_337 (ci := 3) rfl sr_wC3 rfl rfl hl.1 (Nat.le_of_ble_eq_true rfl) (Nat.le_of_ble_eq_true rfl) (Nat.le_of_ble_eq_true rfl) dX7_write_34 ⟨Nat.zero_le _, Nat.zero_le _⟩ ?_
      refine sr_ifeq (tgt := 43) C0 dX7_write_37 (by decide) (fun c37 => ?_) (fun c37 => ?_)
      · have hT : sr_th kp := Classical.not_not.mp c37
        refine lv_iconst (v := 4) C0.1 C0.2.1 dX7_write_43 (by decide) ?_
        refine lv_aload_n C0.1 C0.2.1 dX7_write_44 rfl (lv_at hl 0 rfl) ?_
        refine sr_get (v := .ref (a 7)) C0 hK hP sr_inX7 sr_wC0 rfl 6 (by decide) sw_194 rfl dX7_write_45 ?_
        refine sr_get (v := .ref (a 35)) C0 hK hP sr_inX5 sr_wC7 rfl 2 (by decide) sw_176 rfl dX7_write_48 ?_
        refine lv_iload_n C0.1 C0.2.1 dX7_write_51 rfl (lv_at hl 1 rfl) ?_
        refine sr_ald (k := js) C0 hK rfl hP sr_wC35 (nI_clamp (by omega)) (vp_in_nI (by omega) (by omega)) dX7_write_52 ?_
        refine sr_chi hsz ?_
        refine sr_pSi (As := [.int 4, .int (nI (sr_sz cx js))]) C0 hK hP hZ (sr_Zs hZ hZ0 hS) (cc_J9_min_7cf53 ha (4) (nI (sr_sz cx js))) sk_J9_min_7cf53 (ss_J9_min_7cf53) sw_322 rfl rfl hl.1 (Nat.le_of_ble_eq_true rfl) (Nat.le_of_ble_eq_true rfl) (Nat.le_of_ble_eq_true rfl) dX7_write_53 ⟨Nat.zero_le _, Nat.zero_le _⟩ ?_
        refine sr_chi (sr_m4_e (z := sr_sz cx js) (m := 4) (by omega) (by omega)) ?_
        refine lv_istore_n (lv' := [(2, .int (nI (sr_m4 (sr_sz cx js) 4))), (0, .ref (a 0)), (1, .int (nI js))]) C0.1 C0.2.1 dX7_write_56 rfl hl (by decide) rfl (fun ls hl => ?_)
        refine lv_iconst (v := 0) C0.1 C0.2.1 dX7_write_57 (by decide) ?_
        refine lv_istore_n (lv' := [(3, .int 0), (2, .int (nI (sr_m4 (sr_sz cx js) 4))), (0, .ref (a 0)), (1, .int (nI js))]) C0.1 C0.2.1 dX7_write_58 rfl hl (by decide) rfl (fun ls hl => ?_)
        have lp59 : ∀ (n59 : Nat) (i : Nat) (H : Heap) (locs : List Loc) (ls : Array Slot), (i ≤ sr_m4 (sr_sz cx js) 4) → (sr_m4 (sr_sz cx js) 4 + 1 ≤ i + n59) → va_P D vwCl (sr_WC cI cR a kp (sr_wr kp cx js i) sg) H → va_S (sr_AC a) s.heap H locs → lv_has ls 4 [(3, .int (nI i)), (2, .int (nI (sr_m4 (sr_sz cx js) 4))), (0, .ref (a 0)), (1, .int (nI js))] → W p l e (sr_rm 5 122) s m args below meth c H locs 0 0 Q (F0 m 59 ls []) := by
          intro n59
          induction n59 with
          | zero =>
            intro i H locs ls h_i h_n hP hS hl
            exact absurd h_n (by omega)
          | succ n59 ih59 =>
            intro i H locs ls h_i h_n hP hS hl
            refine lv_iload_n C0.1 C0.2.1 dX7_write_59 rfl (lv_at hl 0 rfl) ?_
            refine lv_iload_n C0.1 C0.2.1 dX7_write_60 rfl (lv_at hl 1 rfl) ?_
            refine lv_icmp_ge (tgt := 87) C0.1 C0.2.1 dX7_write_61 (by decide) (fun c61 => ?_) (fun c61 => ?_)
            · have g61 : (sr_m4 (sr_sz cx js) 4) ≤ i := (nI_leI (a := (sr_m4 (sr_sz cx js) 4)) (b := i) (by omega) (by omega)).mp c61
              refine lv_iload_n C0.1 C0.2.1 dX7_write_87 rfl (lv_at hl 1 rfl) ?_
              have e : i = sr_m4 (sr_sz cx js) 4 := by omega
              rw [e] at hP
              exact hret _ _ _ () _ _ _ dX7_write_88 hP hS (by rw [show sk_write kp cx (nI js) = kp from (by unfold sk_write; (try rw [nI_clamp (n := js) (by omega)]); rw [if_neg c4, if_neg c18, if_neg c37]), show sc_write kp cx (nI js) = (sr_wr kp cx js (sr_m4 (sr_sz cx js) 4)) from (by unfold sc_write; (try rw [nI_clamp (n := js) (by omega)]); rw [if_neg c4, if_neg c18, if_neg c37])]) (by unfold sp_write; (try rw [nI_clamp (n := js) (by omega)]); rw [if_neg c4, if_neg c18, if_neg c37]) trivial
            · have g61 : ¬ ((sr_m4 (sr_sz cx js) 4) ≤ i) := fun q => c61 ((nI_leI (a := (sr_m4 (sr_sz cx js) 4)) (b := i) (by omega) (by omega)).mpr q)
              refine lv_aload_n C0.1 C0.2.1 dX7_write_64 rfl (lv_at hl 2 rfl) ?_
              refine sr_get (v := .ref (a 7)) C0 hK hP sr_inX7 sr_wC0 rfl 6 (by decide) sw_194 rfl dX7_write_65 ?_
              refine lv_iload_n C0.1 C0.2.1 dX7_write_68 rfl (lv_at hl 3 rfl) ?_
              refine lv_iload_n C0.1 C0.2.1 dX7_write_69 rfl (lv_at hl 0 rfl) ?_
              refine lv_aload_n C0.1 C0.2.1 dX7_write_70 rfl (lv_at hl 2 rfl) ?_
              refine sr_get (v := .ref (a 3)) C0 hK hP sr_inX7 sr_wC0 rfl 2 (by decide) sw_190 rfl dX7_write_71 ?_
              refine lv_iload_n C0.1 C0.2.1 dX7_write_74 rfl (lv_at hl 0 rfl) ?_
              refine sr_pVi (As := [.int (nI i)]) C0 hK hP hZ (sr_Zs hZ hZ0 hS) (cc_X3_carried ha i (sr_IC_wr hI hjs i) hT (by omega)) sk_X3_carried sv_X3_carried sw_400 (ci := 3) rfl sr_wC3 rfl rfl hl.1 (Nat.le_of_ble_eq_true rfl) (Nat.le_of_ble_eq_true rfl) (Nat.le_of_ble_eq_true rfl) dX7_write_75 ⟨Nat.zero_le _, Nat.zero_le _⟩ ?_
              refine sr_gVv (As := [.int (nI js), .int (nI i), .int (sr_ca kp i)]) C0 hK hP hZ (sr_Zs hZ hZ0 hS) (cc_X5_put ha js i (sr_ca kp i) (by omega) (by omega)) sk_X5_put sv_X5_put sw_549 (ci := 5) rfl sr_wC7 rfl rfl hl.1 (Nat.le_of_ble_eq_true rfl) (Nat.le_of_ble_eq_true rfl) (Nat.le_of_ble_eq_true rfl) dX7_write_78 ⟨Nat.zero_le _, Nat.zero_le _⟩ hS (fun u H locs hu hP hS => ?_)
              refine lv_iinc (v := (nI (i + 1))) (lv' := [(3, .int (nI (i + 1))), (2, .int (nI (sr_m4 (sr_sz cx js) 4))), (0, .ref (a 0)), (1, .int (nI js))]) C0.1 C0.2.1 dX7_write_81 hl (k := 0) rfl (nI_1 i) (by decide) rfl (fun ls hl => ?_)
              refine lv_goto (tgt := 59) C0.1 C0.2.1 dX7_write_84 (by decide) ?_
              exact ih59 (i + 1) _ _ _ (by omega) (by omega) hP hS (lv_sub hl [0, 1, 2, 3] rfl)
        exact lp59 (sr_m4 (sr_sz cx js) 4 + 1) 0 _ _ _ (by omega) (by omega) hP hS (lv_sub hl [0, 1, 2, 3] rfl)
      · refine lv_bipush (v := (-3)) C0.1 C0.2.1 dX7_write_40 (by decide) ?_
        exact hret _ _ _ () _ _ _ dX7_write_42 hP hS (by rw [show sk_write kp cx (nI js) = kp from (by unfold sk_write; (try rw [nI_clamp (n := js) (by omega)]); rw [if_neg c4, if_neg c18, if_pos c37]), show sc_write kp cx (nI js) = cx from (by unfold sc_write; (try rw [nI_clamp (n := js) (by omega)]); rw [if_neg c4, if_neg c18, if_pos c37])]) (by unfold sp_write; (try rw [nI_clamp (n := js) (by omega)]); rw [if_neg c4, if_neg c18, if_pos c37]) trivial
    · refine lv_aload_n C0.1 C0.2.1 dX7_write_21 rfl (lv_at hl 0 rfl) ?_
      refine sr_get (v := .ref (a 7)) C0 hK hP sr_inX7 sr_wC0 rfl 6 (by decide) sw_194 rfl dX7_write_22 ?_
      refine lv_iconst (v := 1) C0.1 C0.2.1 dX7_write_25 (by decide) ?_
      refine sr_gVi (As := [.int 1]) C0 hK hP hZ (sr_Zs hZ hZ0 hS) (cc_X5_found ha (1)) sk_X5_found sv_X5_found sw_318 (ci := 5) rfl sr_wC7 rfl rfl hl.1 (Nat.le_of_ble_eq_true rfl) (Nat.le_of_ble_eq_true rfl) (Nat.le_of_ble_eq_true rfl) dX7_write_26 ⟨Nat.zero_le _, Nat.zero_le _⟩ hS (fun u H locs hu hP hS => ?_)
      exact hret _ _ _ () _ _ _ dX7_write_29 hP hS (by rw [show sk_write kp cx (nI js) = (sr_fd kp 1) from (by unfold sk_write; (try rw [nI_clamp (n := js) (by omega)]); rw [if_neg c4, if_pos c18]), show sc_write kp cx (nI js) = cx from (by unfold sc_write; (try rw [nI_clamp (n := js) (by omega)]); rw [if_neg c4, if_pos c18])]) (by unfold sp_write; (try rw [nI_clamp (n := js) (by omega)]); rw [if_neg c4, if_pos c18]) trivial
  · refine lv_bipush (v := (-2)) C0.1 C0.2.1 dX7_write_7 (by decide) ?_
    exact hret _ _ _ () _ _ _ dX7_write_9 hP hS (by rw [show sk_write kp cx s_ = kp from (by unfold sk_write; rw [if_pos c4]), show sc_write kp cx s_ = cx from (by unfold sc_write; rw [if_pos c4])]) (by unfold sp_write; rw [if_pos c4]) trivial
set_option maxRecDepth 100000 in
set_option maxHeartbeats 4000000 in
theorem cc_X7_read {l : Launch} {D : va_G} {cI cR : ClassId} {a : Nat → Nat} (ha : ∀ i j, i < 36 → j < 36 → a i = a j → i = j) {kp cx sg : sr_M} (s_ : Int32) (hSC : sr_SC cx) : sr_G l D (sr_tC cI cR) (sr_ZC a) (sr_AC a) (sr_WC cI cR a kp cx sg) yX7_read cX7_read 5 (some .int) 2 42 [.ref (a 0), .int s_] (S := Unit) (fun u => True) (fun u => sr_WC cI cR a (sk_read kp cx s_) cx sg) (fun u => some (.int (sp_read cx s_))) := by
  refine sr_Gie (by decide +kernel) (Nat.le_of_ble_eq_true rfl) (fun p e s m args below meth c ls Q B hret => ?_)
  obtain ⟨C0, hP, hK, hZ0, hl⟩ := B
  have hZ : sr_Zok (sr_AC a) (sr_ZC a) := sr_ZCok a
  have hS : va_S (sr_AC a) s.heap s.heap [] := va_S.rf
  have hl : lv_has ls 5 [(0, .ref (a 0)), (1, .int s_)] := hl
  obtain ⟨H, hH⟩ : ∃ H, H = s.heap := ⟨_, rfl⟩
  have hP : va_P D vwCl (sr_WC cI cR a kp cx sg) H := by rw [hH]; exact hP
  have hS : va_S (sr_AC a) s.heap H [] := by rw [hH]; exact hS
  suffices hG : ∀ locs, va_S (sr_AC a) s.heap H locs → W p l e (sr_rm 2 42) s m args below meth c H locs 0 0 Q (F0 m 0 ls []) from by have h9 := hG [] hS; rw [hH] at h9; exact h9
  clear hS
  intro locs hS
  clear hH
  refine lv_iload_n C0.1 C0.2.1 dX7_read_0 rfl (lv_at hl 1 rfl) ?_
  refine sr_pSi (As := [.int s_]) C0 hK hP hZ (sr_Zs hZ hZ0 hS) (cc_X7_isNoSheet ha s_) sk_X7_isNoSheet (ss_X7_isNoSheet) sw_311 rfl rfl hl.1 (Nat.le_of_ble_eq_true rfl) (Nat.le_of_ble_eq_true rfl) (Nat.le_of_ble_eq_true rfl) dX7_read_1 ⟨Nat.zero_le _, Nat.zero_le _⟩ ?_
  refine sr_ifeq (tgt := 10) C0 dX7_read_4 (by decide) (fun c4 => ?_) (fun c4 => ?_)
  · obtain ⟨js, hjs, rfl⟩ := sr_rg3 c4
    refine lv_aload_n C0.1 C0.2.1 dX7_read_10 rfl (lv_at hl 0 rfl) ?_
    refine sr_get (v := .ref (a 7)) C0 hK hP sr_inX7 sr_wC0 rfl 6 (by decide) sw_194 rfl dX7_read_11 ?_
    refine lv_iload_n C0.1 C0.2.1 dX7_read_14 rfl (lv_at hl 1 rfl) ?_
    refine sr_pVi (As := [.int (nI js)]) C0 hK hP hZ (sr_Zs hZ hZ0 hS) (cc_X5_isLost ha js (by omega)) sk_X5_isLost sv_X5_isLost sw_314 (ci := 5) rfl sr_wC7 rfl rfl hl.1 (Nat.le_of_ble_eq_true rfl) (Nat.le_of_ble_eq_true rfl) (Nat.le_of_ble_eq_true rfl) dX7_read_15 ⟨Nat.zero_le _, Nat.zero_le _⟩ ?_
    refine sr_ifeq (tgt := 30) C0 dX7_read_18 (by decide) (fun c18 => ?_) (fun c18 => ?_)
    · obtain ⟨hsz, hsz60⟩ := sr_szI hSC hjs c18
      have hm4 := sr_m4_le (sr_sz cx js) 3
      refine lv_iconst (v := 3) C0.1 C0.2.1 dX7_read_30 (by decide) ?_
      refine lv_aload_n C0.1 C0.2.1 dX7_read_31 rfl (lv_at hl 0 rfl) ?_
      refine sr_get (v := .ref (a 7)) C0 hK hP sr_inX7 sr_wC0 rfl 6 (by decide) sw_194 rfl dX7_read_32 ?_
      refine sr_get (v := .ref (a 35)) C0 hK hP sr_inX5 sr_wC7 rfl 2 (by decide) sw_176 rfl dX7_read_35 ?_
      refine lv_iload_n C0.1 C0.2.1 dX7_read_38 rfl (lv_at hl 1 rfl) ?_
      refine sr_ald (k := js) C0 hK rfl hP sr_wC35 (nI_clamp (by omega)) (vp_in_nI (by omega) (by omega)) dX7_read_39 ?_
      refine sr_chi hsz ?_
      refine sr_pSi (As := [.int 3, .int (nI (sr_sz cx js))]) C0 hK hP hZ (sr_Zs hZ hZ0 hS) (cc_J9_min_7cf53 ha (3) (nI (sr_sz cx js))) sk_J9_min_7cf53 (ss_J9_min_7cf53) sw_322 rfl rfl hl.1 (Nat.le_of_ble_eq_true rfl) (Nat.le_of_ble_eq_true rfl) (Nat.le_of_ble_eq_true rfl) dX7_read_40 ⟨Nat.zero_le _, Nat.zero_le _⟩ ?_
      refine sr_chi (sr_m4_e (z := sr_sz cx js) (m := 3) (by omega) (by omega)) ?_
      refine lv_istore_n (lv' := [(2, .int (nI (sr_m4 (sr_sz cx js) 3))), (0, .ref (a 0)), (1, .int (nI js))]) C0.1 C0.2.1 dX7_read_43 rfl hl (by decide) rfl (fun ls hl => ?_)
      refine lv_iconst (v := 0) C0.1 C0.2.1 dX7_read_44 (by decide) ?_
      refine lv_istore_n (lv' := [(3, .int 0), (2, .int (nI (sr_m4 (sr_sz cx js) 3))), (0, .ref (a 0)), (1, .int (nI js))]) C0.1 C0.2.1 dX7_read_45 rfl hl (by decide) rfl (fun ls hl => ?_)
      have lp46 : ∀ (n46 : Nat) (i : Nat) (H : Heap) (locs : List Loc) (ls : Array Slot), (i ≤ sr_m4 (sr_sz cx js) 3) → (sr_m4 (sr_sz cx js) 3 + 1 ≤ i + n46) → (sr_rdc cx js = sr_rn (cx (6 + js)) (sr_m4 (sr_sz cx js) 3 - i) i) → va_P D vwCl (sr_WC cI cR a (va_up kp 3 (sr_mi (cx (6 + js)) (kp 3) i)) cx sg) H → va_S (sr_AC a) s.heap H locs → lv_has ls 5 [(3, .int (nI i)), (2, .int (nI (sr_m4 (sr_sz cx js) 3))), (0, .ref (a 0)), (1, .int (nI js))] → W p l e (sr_rm 2 42) s m args below meth c H locs 0 0 Q (F0 m 46 ls []) := by
        intro n46
        induction n46 with
        | zero =>
          intro i H locs ls h_i h_n h_f hP hS hl
          exact absurd h_n (by omega)
        | succ n46 ih46 =>
          intro i H locs ls h_i h_n h_f hP hS hl
          refine lv_iload_n C0.1 C0.2.1 dX7_read_46 rfl (lv_at hl 0 rfl) ?_
          refine lv_iload_n C0.1 C0.2.1 dX7_read_47 rfl (lv_at hl 1 rfl) ?_
          refine lv_icmp_ge (tgt := 91) C0.1 C0.2.1 dX7_read_48 (by decide) (fun c48 => ?_) (fun c48 => ?_)
          · have g48 : (sr_m4 (sr_sz cx js) 3) ≤ i := (nI_leI (a := (sr_m4 (sr_sz cx js) 3)) (b := i) (by omega) (by omega)).mp c48
            refine lv_iload_n C0.1 C0.2.1 dX7_read_91 rfl (lv_at hl 1 rfl) ?_
            have e : sr_rdc cx js = i := by rw [h_f, show sr_m4 (sr_sz cx js) 3 - i = 0 by omega]; rw [show sr_rn (cx (6 + js)) 0 i = i from rfl]
            rw [← e] at hP
            exact hret _ _ _ () _ _ _ dX7_read_92 hP hS (by rw [show sk_read kp cx (nI js) = (va_up kp 3 (sr_mi (cx (6 + js)) (kp 3) (sr_rdc cx js))) from (by unfold sk_read; (try rw [nI_clamp (n := js) (by omega)]); rw [if_neg c4, if_neg c18])]) (by unfold sp_read; rw [nI_clamp (n := js) (by omega), if_neg c4, if_neg c18, e, show i = sr_m4 (sr_sz cx js) 3 by omega]) trivial
          · have g48 : ¬ ((sr_m4 (sr_sz cx js) 3) ≤ i) := fun q => c48 ((nI_leI (a := (sr_m4 (sr_sz cx js) 3)) (b := i) (by omega) (by omega)).mpr q)
            refine lv_aload_n C0.1 C0.2.1 dX7_read_51 rfl (lv_at hl 2 rfl) ?_
            refine sr_get (v := .ref (a 7)) C0 hK hP sr_inX7 sr_wC0 rfl 6 (by decide) sw_194 rfl dX7_read_52 ?_
            refine sr_get (v := .ref (a 29)) C0 hK hP sr_inX5 sr_wC7 rfl 0 (by decide) sw_172 rfl dX7_read_55 ?_
            refine lv_iload_n C0.1 C0.2.1 dX7_read_58 rfl (lv_at hl 3 rfl) ?_
            refine sr_ald2 (k := js) (r := a (30 + js)) C0 hK rfl hP sr_wC29 (nI_clamp (by omega)) (vp_in_nI (by omega) (by omega)) (sr_os (by omega)) dX7_read_59 ?_
            refine lv_iload_n C0.1 C0.2.1 dX7_read_60 rfl (lv_at hl 0 rfl) ?_
            refine sr_ald (k := i) C0 hK rfl hP (sr_rC29 (by omega)) (nI_clamp (by omega)) (vp_in_nI (by omega) (by omega)) dX7_read_61 ?_
            refine lv_istore (lv' := [(4, .int (cx (6 + js) i)), (3, .int (nI i)), (2, .int (nI (sr_m4 (sr_sz cx js) 3))), (0, .ref (a 0)), (1, .int (nI js))]) C0.1 C0.2.1 dX7_read_62 hl (by decide) rfl (fun ls hl => ?_)
            refine lv_iload C0.1 C0.2.1 dX7_read_64 (lv_at hl 0 rfl) ?_
            refine sr_pSi (As := [.int (cx (6 + js) i)]) C0 hK hP hZ (sr_Zs hZ hZ0 hS) (cc_X7_isNoMark ha (cx (6 + js) i)) sk_X7_isNoMark (ss_X7_isNoMark) sw_300 rfl rfl hl.1 (Nat.le_of_ble_eq_true rfl) (Nat.le_of_ble_eq_true rfl) (Nat.le_of_ble_eq_true rfl) dX7_read_66 ⟨Nat.zero_le _, Nat.zero_le _⟩ ?_
            refine sr_ifeq (tgt := 74) C0 dX7_read_69 (by decide) (fun c69 => ?_) (fun c69 => ?_)
            · refine lv_aload_n C0.1 C0.2.1 dX7_read_74 rfl (lv_at hl 3 rfl) ?_
              refine sr_get (v := .ref (a 3)) C0 hK hP sr_inX7 sr_wC0 rfl 2 (by decide) sw_190 rfl dX7_read_75 ?_
              refine sr_get (v := .ref (a 16)) C0 hK hP sr_inX3 sr_wC3 rfl 3 (by decide) sw_94 rfl dX7_read_78 ?_
              refine lv_iload_n C0.1 C0.2.1 dX7_read_81 rfl (lv_at hl 1 rfl) ?_
              refine lv_iload C0.1 C0.2.1 dX7_read_82 (lv_at hl 0 rfl) ?_
              refine sr_ast (k := i) C0 hK rfl hP (sr_DC ha _ _ _) hS sr_wC16 (nI_clamp (by omega)) (vp_in_nI (by omega) (by omega)) sr_sC16 dX7_read_84 (fun H locs hP hS => ?_)
              refine lv_iinc (v := (nI (i + 1))) (lv' := [(3, .int (nI (i + 1))), (4, .int (cx (6 + js) i)), (2, .int (nI (sr_m4 (sr_sz cx js) 3))), (0, .ref (a 0)), (1, .int (nI js))]) C0.1 C0.2.1 dX7_read_85 hl (k := 1) rfl (nI_1 i) (by decide) rfl (fun ls hl => ?_)
              refine lv_goto (tgt := 46) C0.1 C0.2.1 dX7_read_88 (by decide) ?_
              exact ih46 (i + 1) _ _ _ (by omega) (by omega) (by rw [h_f, sr_rn_s (by omega), if_neg c69]) hP hS (lv_sub hl [0, 2, 3, 4] rfl)
            · refine lv_iload_n C0.1 C0.2.1 dX7_read_72 rfl (lv_at hl 1 rfl) ?_
              have e : sr_rdc cx js = i := by rw [h_f, sr_rn_s (by omega), if_pos c69]
              rw [← e] at hP
              exact hret _ _ _ () _ _ _ dX7_read_73 hP hS (by rw [show sk_read kp cx (nI js) = (va_up kp 3 (sr_mi (cx (6 + js)) (kp 3) (sr_rdc cx js))) from (by unfold sk_read; (try rw [nI_clamp (n := js) (by omega)]); rw [if_neg c4, if_neg c18])]) (by unfold sp_read; rw [nI_clamp (n := js) (by omega), if_neg c4, if_neg c18, e]) trivial
      exact lp46 (sr_m4 (sr_sz cx js) 3 + 1) 0 _ _ _ (by omega) (by omega) rfl hP hS (lv_sub hl [0, 1, 2, 3] rfl)
    · refine lv_aload_n C0.1 C0.2.1 dX7_read_21 rfl (lv_at hl 0 rfl) ?_
      refine sr_get (v := .ref (a 7)) C0 hK hP sr_inX7 sr_wC0 rfl 6 (by decide) sw_194 rfl dX7_read_22 ?_
      refine lv_iconst (v := 1) C0.1 C0.2.1 dX7_read_25 (by decide) ?_
      refine sr_gVi (As := [.int 1]) C0 hK hP hZ (sr_Zs hZ hZ0 hS) (cc_X5_found ha (1)) sk_X5_found sv_X5_found sw_318 (ci := 5) rfl sr_wC7 rfl rfl hl.1 (Nat.le_of_ble_eq_true rfl) (Nat.le_of_ble_eq_true rfl) (Nat.le_of_ble_eq_true rfl) dX7_read_26 ⟨Nat.zero_le _, Nat.zero_le _⟩ hS (fun u H locs hu hP hS => ?_)
      exact hret _ _ _ () _ _ _ dX7_read_29 hP hS (by rw [show sk_read kp cx (nI js) = (sr_fd kp 1) from (by unfold sk_read; (try rw [nI_clamp (n := js) (by omega)]); rw [if_neg c4, if_pos c18])]) (by unfold sp_read; (try rw [nI_clamp (n := js) (by omega)]); rw [if_neg c4, if_pos c18]) trivial
  · refine lv_bipush (v := (-2)) C0.1 C0.2.1 dX7_read_7 (by decide) ?_
    exact hret _ _ _ () _ _ _ dX7_read_9 hP hS (by rw [show sk_read kp cx s_ = kp from (by unfold sk_read; rw [if_pos c4])]) (by unfold sp_read; rw [if_pos c4]) trivial
