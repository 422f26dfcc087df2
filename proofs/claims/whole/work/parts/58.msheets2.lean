set_option maxRecDepth 100000 in
set_option maxHeartbeats 4000000 in
theorem cc_X8_sheet {l : Launch} {D : va_G} {cI : ClassId} {a : Nat → Nat} (ha : ∀ i j, i < 13 → j < 13 → a i = a j → i = j) {kp cx sg : sr_M} (X_ : sr_M) (s_ : Int32) (fo : Int32) (n_ : Int32) (hSC : sr_SC X_) (hRX : sr_RX X_ cx) : sr_G l D (sr_tM cI) (sr_ZM) (sr_AM a) (sr_WM cI a kp cx sg) yX8_sheet cX8_sheet 5 (some .int) 2 45 [.ref (a 0), .int s_, .int fo, .int n_] (S := sr_M) (fun u => ∀ Y, sr_shC X_ s_ fo n_ Y → sr_RX Y u) (fun u => sr_WM cI a (sk_sheet kp s_ fo n_) u sg) (fun u => some (.int (sp_sheet s_ fo n_))) := by
  refine sr_Gie (by decide +kernel) (Nat.le_of_ble_eq_true rfl) (fun p e s m args below meth c ls Q B hret => ?_)
  obtain ⟨C0, hP, hK, hZ0, hl⟩ := B
  have hZ : sr_Zok (sr_AM a) (sr_ZM) := sr_ZMok
  have hS : va_S (sr_AM a) s.heap s.heap [] := va_S.rf
  have hl : lv_has ls 5 [(0, .ref (a 0)), (1, .int s_), (2, .int fo), (3, .int n_)] := hl
  obtain ⟨H, hH⟩ : ∃ H, H = s.heap := ⟨_, rfl⟩
  have hP : va_P D vwCl (sr_WM cI a kp cx sg) H := by rw [hH]; exact hP
  have hS : va_S (sr_AM a) s.heap H [] := by rw [hH]; exact hS
  suffices hG : ∀ locs, va_S (sr_AM a) s.heap H locs → W p l e (sr_rm 2 45) s m args below meth c H locs 0 0 Q (F0 m 0 ls []) from by have h9 := hG [] hS; rw [hH] at h9; exact h9
  clear hS
  intro locs hS
  clear hH
  refine lv_iload_n C0.1 C0.2.1 dX8_sheet_0 rfl (lv_at hl 1 rfl) ?_
  refine sr_pSi (As := [.int s_]) C0 hK hP hZ (sr_Zs hZ hZ0 hS) (cc_X8_isSheet ha s_) sk_X8_isSheet (ss_X8_isSheet) sw_666 rfl rfl hl.1 (Nat.le_of_ble_eq_true rfl) (Nat.le_of_ble_eq_true rfl) (Nat.le_of_ble_eq_true rfl) dX8_sheet_1 ⟨Nat.zero_le _, Nat.zero_le _⟩ ?_
  refine sr_ifeq (tgt := 25) C0 dX8_sheet_4 (by decide) (fun c4 => ?_) (fun c4 => ?_)
  · refine lv_bipush (v := (-2)) C0.1 C0.2.1 dX8_sheet_25 (by decide) ?_
    exact hret _ _ _ cx _ _ _ dX8_sheet_27 hP hS (by unfold sk_sheet; rw [if_pos (Classical.not_not.mp c4)]) (by unfold sp_sheet; rw [if_pos (Classical.not_not.mp c4)]) (fun Y hY => by rw [hY.1 (fun q => c4 q.1)]; exact hRX)
  · obtain ⟨js, hjs, rfl⟩ := sr_rg3 c4
    refine lv_iload_n C0.1 C0.2.1 dX8_sheet_7 rfl (lv_at hl 2 rfl) ?_
    refine lv_i2l C0.1 C0.2.1 dX8_sheet_8 rfl ?_
    refine lv_lconst (v := 0) C0.1 C0.2.1 dX8_sheet_9 (by decide) ?_
    refine lv_ldc2 (v := 2) C0.1 C0.2.1 C0.2.2.2.1 (C0.2.2.2.2 _ sw_673) dX8_sheet_10 ?_
    refine sr_pSi (As := [.long ((fo).toInt64), .long 0, .long 2]) C0 hK hP hZ (sr_Zs hZ hZ0 hS) (cc_X8_inI ha (fo) (0 : Int32) (2 : Int32) rfl (by decide) (by decide)) sk_X8_in (ss_X8_in) sw_670 rfl rfl hl.1 (Nat.le_of_ble_eq_true rfl) (Nat.le_of_ble_eq_true rfl) (Nat.le_of_ble_eq_true rfl) dX8_sheet_13 ⟨Nat.zero_le _, Nat.zero_le _⟩ ?_
    refine sr_ifeq (tgt := 25) C0 dX8_sheet_16 (by decide) (fun c16 => ?_) (fun c16 => ?_)
    · refine lv_bipush (v := (-2)) C0.1 C0.2.1 dX8_sheet_25 (by decide) ?_
      exact hret _ _ _ cx _ _ _ dX8_sheet_27 hP hS (by unfold sk_sheet; rw [if_neg c4, if_pos (Classical.not_not.mp c16)]) (by unfold sp_sheet; rw [if_neg c4, if_pos (Classical.not_not.mp c16)]) (fun Y hY => by rw [hY.1 (fun q => c16 q.2.1)]; exact hRX)
    · refine lv_iload_n C0.1 C0.2.1 dX8_sheet_19 rfl (lv_at hl 3 rfl) ?_
      refine lv_bipush (v := 60) C0.1 C0.2.1 dX8_sheet_20 (by decide) ?_
      refine lv_icmp_le (tgt := 28) C0.1 C0.2.1 dX8_sheet_22 (by decide) (fun c22 => ?_) (fun c22 => ?_)
      · refine lv_iload_n C0.1 C0.2.1 dX8_sheet_28 rfl (lv_at hl 3 rfl) ?_
        refine lv_if_ge (tgt := 38) C0.1 C0.2.1 dX8_sheet_29 (by decide) (fun c29 => ?_) (fun c29 => ?_)
        · obtain ⟨jn, hjn, rfl⟩ := sr_rg60 (x := n_) (fun q => q.elim (Int32.not_lt.mpr c29) (Int32.not_lt.mpr c22))
          refine lv_aload_n C0.1 C0.2.1 dX8_sheet_38 rfl (lv_at hl 0 rfl) ?_
          refine sr_get (v := .ref (a 1)) C0 hK hP sr_inX8 sr_wM0 rfl 0 (by decide) sw_610 rfl dX8_sheet_39 ?_
          refine lv_iload_n C0.1 C0.2.1 dX8_sheet_42 rfl (lv_at hl 1 rfl) ?_
          refine lv_iload_n C0.1 C0.2.1 dX8_sheet_43 rfl (lv_at hl 2 rfl) ?_
          refine sr_ast (k := js) C0 hK rfl hP (sr_DM ha _ _ _) hS sr_wM1 (nI_clamp (by omega)) (vp_in_nI (by omega) (by omega)) sr_sM1 dX8_sheet_44 (fun H locs hP hS => ?_)
          refine lv_aload_n C0.1 C0.2.1 dX8_sheet_45 rfl (lv_at hl 0 rfl) ?_
          refine sr_get (v := .ref (a 2)) C0 hK hP sr_inX8 sr_wM0 rfl 1 (by decide) sw_611 rfl dX8_sheet_46 ?_
          refine lv_iload_n C0.1 C0.2.1 dX8_sheet_49 rfl (lv_at hl 1 rfl) ?_
          refine lv_iload_n C0.1 C0.2.1 dX8_sheet_50 rfl (lv_at hl 3 rfl) ?_
          refine sr_ast (k := js) C0 hK rfl hP (sr_DM ha _ _ _) hS sr_wM2 (nI_clamp (by omega)) (vp_in_nI (by omega) (by omega)) sr_sM2 dX8_sheet_51 (fun H locs hP hS => ?_)
          have hP : va_P D vwCl (sr_WM cI a kp (va_up (va_up cx 0 (upd (cx 0) js fo)) 1 (upd (cx 1) js (nI jn))) sg) H := hP
          refine lv_iconst (v := 0) C0.1 C0.2.1 dX8_sheet_52 (by decide) ?_
          refine lv_istore (lv' := [(4, .int 0), (0, .ref (a 0)), (1, .int (nI js)), (2, .int fo), (3, .int (nI jn))]) C0.1 C0.2.1 dX8_sheet_53 hl (by decide) rfl (fun ls hl => ?_)
          have lp55 : ∀ (n55 : Nat) (i : Nat) (cxi : sr_M) (H : Heap) (locs : List Loc) (ls : Array Slot), (i ≤ jn) → (jn + 1 ≤ i + n55) → (sr_Zi cx js fo (nI jn) i cxi) → va_P D vwCl (sr_WM cI a kp cxi sg) H → va_S (sr_AM a) s.heap H locs → lv_has ls 5 [(4, .int (nI i)), (0, .ref (a 0)), (1, .int (nI js)), (2, .int fo), (3, .int (nI jn))] → W p l e (sr_rm 2 45) s m args below meth c H locs 0 0 Q (F0 m 55 ls []) := by
            intro n55
            induction n55 with
            | zero =>
              intro i cxi H locs ls h_i h_n h_z hP hS hl
              exact absurd h_n (by omega)
            | succ n55 ih55 =>
              intro i cxi H locs ls h_i h_n h_z hP hS hl
              refine lv_iload C0.1 C0.2.1 dX8_sheet_55 (lv_at hl 0 rfl) ?_
              refine lv_iload_n C0.1 C0.2.1 dX8_sheet_57 rfl (lv_at hl 4 rfl) ?_
              refine lv_icmp_ge (tgt := 80) C0.1 C0.2.1 dX8_sheet_58 (by decide) (fun c58 => ?_) (fun c58 => ?_)
              · have g58 : jn ≤ i := (nI_leI (a := jn) (b := i) (by omega) (by omega)).mp c58
                refine lv_iload_n C0.1 C0.2.1 dX8_sheet_80 rfl (lv_at hl 4 rfl) ?_
                have e : jn = i := by omega
                subst e
                exact hret _ _ _ cxi _ _ _ dX8_sheet_81 hP hS (by unfold sk_sheet; rw [if_neg c4, if_neg c16, if_pos c22, if_pos c29]) (by unfold sp_sheet; rw [if_neg c4, if_neg c16, if_pos c22, if_pos c29]) (fun Y hY => by have hk : sr_shk (nI js) fo (nI jn) := ⟨c4, c16, c22, c29⟩; have h2 := hY.2 hk; rw [nI_clamp (n := js) (by omega)] at h2; exact sr_RX_sheet hRX hSC hjs (by omega) (fun q => c16 (Or.inl q)) h_z h2)
              · have g58 : ¬ (jn ≤ i) := fun q => c58 ((nI_leI (a := jn) (b := i) (by omega) (by omega)).mpr q)
                refine lv_aload_n C0.1 C0.2.1 dX8_sheet_61 rfl (lv_at hl 1 rfl) ?_
                refine sr_get (v := .ref (a 3)) C0 hK hP sr_inX8 sr_wM0 rfl 2 (by decide) sw_612 rfl dX8_sheet_62 ?_
                refine lv_bipush (v := 60) C0.1 C0.2.1 dX8_sheet_65 (by decide) ?_
                refine lv_iload_n C0.1 C0.2.1 dX8_sheet_67 rfl (lv_at hl 2 rfl) ?_
                refine lv_imul C0.1 C0.2.1 dX8_sheet_68 ?_
                refine sr_chi (pk_mul 60 js) ?_
                refine lv_iload C0.1 C0.2.1 dX8_sheet_69 (lv_at hl 0 rfl) ?_
                refine lv_iadd C0.1 C0.2.1 dX8_sheet_71 ?_
                refine sr_chi (nI_add (60 * js) i) ?_
                refine lv_iconst (v := 0) C0.1 C0.2.1 dX8_sheet_72 (by decide) ?_
                refine sr_ast (k := (60 * js) + i) C0 hK rfl hP (sr_DM ha _ _ _) hS sr_wM3 (nI_clamp (by omega)) (vp_in_nI (by omega) (by omega)) sr_sM3 dX8_sheet_73 (fun H locs hP hS => ?_)
                refine lv_iinc (v := (nI (i + 1))) (lv' := [(4, .int (nI (i + 1))), (0, .ref (a 0)), (1, .int (nI js)), (2, .int fo), (3, .int (nI jn))]) C0.1 C0.2.1 dX8_sheet_74 hl (k := 0) rfl (nI_1 i) (by decide) rfl (fun ls hl => ?_)
                refine lv_goto (tgt := 55) C0.1 C0.2.1 dX8_sheet_77 (by decide) ?_
                exact ih55 (i + 1) (va_up cxi 2 (upd (cxi 2) ((60 * js) + i) 0)) _ _ _ (by omega) (by omega) (sr_Zi_s (by omega) h_z) hP hS (lv_sub hl [0, 1, 2, 3, 4] rfl)
          exact lp55 (jn + 1) 0 (va_up (va_up cx 0 (upd (cx 0) js fo)) 1 (upd (cx 1) js (nI jn))) _ _ _ (by omega) (by omega) sr_Zi_0 hP hS (lv_sub hl [0, 1, 2, 3, 4] rfl)
        · refine lv_aload_n C0.1 C0.2.1 dX8_sheet_32 rfl (lv_at hl 0 rfl) ?_
          refine lv_iconst (v := 5) C0.1 C0.2.1 dX8_sheet_33 (by decide) ?_
          refine sr_gVi (As := [.int 5]) C0 hK hP hZ (sr_Zs hZ hZ0 hS) (cc_X8_met ha (5)) sk_X8_met sv_X8_met sw_674 (ci := 8) rfl sr_wM0 rfl rfl hl.1 (Nat.le_of_ble_eq_true rfl) (Nat.le_of_ble_eq_true rfl) (Nat.le_of_ble_eq_true rfl) dX8_sheet_34 ⟨Nat.zero_le _, Nat.zero_le _⟩ hS (fun u H locs hu hP hS => ?_)
          exact hret _ _ _ cx _ _ _ dX8_sheet_37 hP hS (by unfold sk_sheet; rw [if_neg c4, if_neg c16, if_pos c22, if_neg c29]) (by unfold sp_sheet; rw [if_neg c4, if_neg c16, if_pos c22, if_neg c29]) (fun Y hY => by rw [hY.1 (fun q => c29 q.2.2.2)]; exact hRX)
      · refine lv_bipush (v := (-2)) C0.1 C0.2.1 dX8_sheet_25 (by decide) ?_
        exact hret _ _ _ cx _ _ _ dX8_sheet_27 hP hS (by unfold sk_sheet; rw [if_neg c4, if_neg c16, if_neg c22]) (by unfold sp_sheet; rw [if_neg c4, if_neg c16, if_neg c22]) (fun Y hY => by rw [hY.1 (fun q => c22 q.2.2.1)]; exact hRX)
set_option maxRecDepth 100000 in
set_option maxHeartbeats 4000000 in
theorem cc_X8_copy {l : Launch} {D : va_G} {cI : ClassId} {a : Nat → Nat} (ha : ∀ i j, i < 13 → j < 13 → a i = a j → i = j) {kp cx sg : sr_M} (X_ : sr_M) (s_ : Int32) (i_ : Int32) (t_ : Int32) (j_ : Int32) (n_ : Int32) (hSC : sr_SC X_) (hRX : sr_RX X_ cx) : sr_G l D (sr_tM cI) (sr_ZM) (sr_AM a) (sr_WM cI a kp cx sg) yX8_copy cX8_copy 7 (some .int) 2 45 [.ref (a 0), .int s_, .int i_, .int t_, .int j_, .int n_] (S := sr_M × sr_M) (fun u => sr_RX (sc_copy X_ s_ i_ t_ j_ n_) u.1) (fun u => sr_WM cI a (sk_copy kp X_ s_ i_ t_ j_ n_) u.1 u.2) (fun u => some (.int (sp_copy X_ s_ i_ t_ j_ n_))) := by
  refine sr_Gie (by decide +kernel) (Nat.le_of_ble_eq_true rfl) (fun p e s m args below meth c ls Q B hret => ?_)
  obtain ⟨C0, hP, hK, hZ0, hl⟩ := B
  have hZ : sr_Zok (sr_AM a) (sr_ZM) := sr_ZMok
  have hS : va_S (sr_AM a) s.heap s.heap [] := va_S.rf
  have hl : lv_has ls 7 [(0, .ref (a 0)), (1, .int s_), (2, .int i_), (3, .int t_), (4, .int j_), (5, .int n_)] := hl
  obtain ⟨H, hH⟩ : ∃ H, H = s.heap := ⟨_, rfl⟩
  have hP : va_P D vwCl (sr_WM cI a kp cx sg) H := by rw [hH]; exact hP
  have hS : va_S (sr_AM a) s.heap H [] := by rw [hH]; exact hS
  suffices hG : ∀ locs, va_S (sr_AM a) s.heap H locs → W p l e (sr_rm 2 45) s m args below meth c H locs 0 0 Q (F0 m 0 ls []) from by have h9 := hG [] hS; rw [hH] at h9; exact h9
  clear hS
  intro locs hS
  clear hH
  refine lv_iload_n C0.1 C0.2.1 dX8_copy_0 rfl (lv_at hl 1 rfl) ?_
  refine sr_pSi (As := [.int s_]) C0 hK hP hZ (sr_Zs hZ hZ0 hS) (cc_X8_isSheet ha s_) sk_X8_isSheet (ss_X8_isSheet) sw_666 rfl rfl hl.1 (Nat.le_of_ble_eq_true rfl) (Nat.le_of_ble_eq_true rfl) (Nat.le_of_ble_eq_true rfl) dX8_copy_1 ⟨Nat.zero_le _, Nat.zero_le _⟩ ?_
  refine sr_ifeq (tgt := 14) C0 dX8_copy_4 (by decide) (fun c4 => ?_) (fun c4 => ?_)
  · refine lv_bipush (v := (-2)) C0.1 C0.2.1 dX8_copy_14 (by decide) ?_
    exact hret _ _ _ (cx, sg) _ _ _ dX8_copy_16 hP hS (by unfold sk_copy; rw [if_pos (Classical.not_not.mp c4)]) (by unfold sp_copy; rw [if_pos (Classical.not_not.mp c4)]) (by rw [show sc_copy X_ s_ i_ t_ j_ n_ = X_ from (by unfold sc_copy; rw [if_pos (Classical.not_not.mp c4)])]; exact hRX)
  · obtain ⟨js, hjs, rfl⟩ := sr_rg3 c4
    refine lv_iload_n C0.1 C0.2.1 dX8_copy_7 rfl (lv_at hl 3 rfl) ?_
    refine sr_pSi (As := [.int t_]) C0 hK hP hZ (sr_Zs hZ hZ0 hS) (cc_X8_isSheet ha t_) sk_X8_isSheet (ss_X8_isSheet) sw_666 rfl rfl hl.1 (Nat.le_of_ble_eq_true rfl) (Nat.le_of_ble_eq_true rfl) (Nat.le_of_ble_eq_true rfl) dX8_copy_8 ⟨Nat.zero_le _, Nat.zero_le _⟩ ?_
    refine sr_ifne (tgt := 17) C0 dX8_copy_11 (by decide) (fun c11 => ?_) (fun c11 => ?_)
    · obtain ⟨jt, hjt, rfl⟩ := sr_rg3 c11
      refine lv_aload_n C0.1 C0.2.1 dX8_copy_17 rfl (lv_at hl 0 rfl) ?_
      refine sr_get (v := .ref (a 1)) C0 hK hP sr_inX8 sr_wM0 rfl 0 (by decide) sw_610 rfl dX8_copy_18 ?_
      refine lv_iload_n C0.1 C0.2.1 dX8_copy_21 rfl (lv_at hl 1 rfl) ?_
      refine sr_ald (k := js) C0 hK rfl hP sr_wM1 (nI_clamp (by omega)) (vp_in_nI (by omega) (by omega)) dX8_copy_22 ?_
      refine lv_if_lt (tgt := 35) C0.1 C0.2.1 dX8_copy_23 (by decide) (fun c23 => ?_) (fun c23 => ?_)
      · have hlost := sr_R1l (hRX _ hjs) c23
        refine lv_aload_n C0.1 C0.2.1 dX8_copy_35 rfl (lv_at hl 0 rfl) ?_
        refine lv_iconst (v := 1) C0.1 C0.2.1 dX8_copy_36 (by decide) ?_
        refine sr_gVi (As := [.int 1]) C0 hK hP hZ (sr_Zs hZ hZ0 hS) (cc_X8_met ha (1)) sk_X8_met sv_X8_met sw_674 (ci := 8) rfl sr_wM0 rfl rfl hl.1 (Nat.le_of_ble_eq_true rfl) (Nat.le_of_ble_eq_true rfl) (Nat.le_of_ble_eq_true rfl) dX8_copy_37 ⟨Nat.zero_le _, Nat.zero_le _⟩ hS (fun u H locs hu hP hS => ?_)
        exact hret _ _ _ (cx, sg) _ _ _ dX8_copy_40 hP hS (by unfold sk_copy; (try rw [nI_clamp (n := js) (by omega)]); (try rw [nI_clamp (n := jt) (by omega)]); rw [if_neg c4, if_neg c11, if_pos (Or.inl hlost)]) (by unfold sp_copy; (try rw [nI_clamp (n := js) (by omega)]); (try rw [nI_clamp (n := jt) (by omega)]); rw [if_neg c4, if_neg c11, if_pos (Or.inl hlost)]) (by rw [show sc_copy X_ (nI js) i_ (nI jt) j_ n_ = X_ from (by unfold sc_copy; (try rw [nI_clamp (n := js) (by omega)]); (try rw [nI_clamp (n := jt) (by omega)]); rw [if_neg c4, if_neg c11, if_pos (Or.inl hlost)])]; exact hRX)
      · obtain ⟨hnl, hfo, hsi, hit⟩ := sr_R1n (hRX _ hjs) c23
        obtain ⟨hsz, hsz60⟩ := sr_szI hSC hjs hnl
        refine lv_aload_n C0.1 C0.2.1 dX8_copy_26 rfl (lv_at hl 0 rfl) ?_
        refine sr_get (v := .ref (a 1)) C0 hK hP sr_inX8 sr_wM0 rfl 0 (by decide) sw_610 rfl dX8_copy_27 ?_
        refine lv_iload_n C0.1 C0.2.1 dX8_copy_30 rfl (lv_at hl 3 rfl) ?_
        refine sr_ald (k := jt) C0 hK rfl hP sr_wM1 (nI_clamp (by omega)) (vp_in_nI (by omega) (by omega)) dX8_copy_31 ?_
        refine lv_if_ge (tgt := 41) C0.1 C0.2.1 dX8_copy_32 (by decide) (fun c32 => ?_) (fun c32 => ?_)
        · obtain ⟨hnlt, hfot, hsit, hitt⟩ := sr_R1n (hRX _ hjt) (Int32.not_lt.mpr c32)
          obtain ⟨hszt, hsz60t⟩ := sr_szI hSC hjt hnlt
          refine lv_aload_n C0.1 C0.2.1 dX8_copy_41 rfl (lv_at hl 0 rfl) ?_
          refine sr_get (v := .ref (a 1)) C0 hK hP sr_inX8 sr_wM0 rfl 0 (by decide) sw_610 rfl dX8_copy_42 ?_
          refine lv_iload_n C0.1 C0.2.1 dX8_copy_45 rfl (lv_at hl 1 rfl) ?_
          refine sr_ald (k := js) C0 hK rfl hP sr_wM1 (nI_clamp (by omega)) (vp_in_nI (by omega) (by omega)) dX8_copy_46 ?_
          refine sr_chi hfo ?_
          refine lv_aload_n C0.1 C0.2.1 dX8_copy_47 rfl (lv_at hl 0 rfl) ?_
          refine sr_get (v := .ref (a 1)) C0 hK hP sr_inX8 sr_wM0 rfl 0 (by decide) sw_610 rfl dX8_copy_48 ?_
          refine lv_iload_n C0.1 C0.2.1 dX8_copy_51 rfl (lv_at hl 3 rfl) ?_
          refine sr_ald (k := jt) C0 hK rfl hP sr_wM1 (nI_clamp (by omega)) (vp_in_nI (by omega) (by omega)) dX8_copy_52 ?_
          refine sr_chi hfot ?_
          refine lv_icmp_eq (tgt := 62) C0.1 C0.2.1 dX8_copy_53 (by decide) (fun c53 => ?_) (fun c53 => ?_)
          · refine lv_iload_n C0.1 C0.2.1 dX8_copy_62 rfl (lv_at hl 2 rfl) ?_
            refine lv_if_lt (tgt := 111) C0.1 C0.2.1 dX8_copy_63 (by decide) (fun c63 => ?_) (fun c63 => ?_)
            · have hX : ¬ sr_cpX X_ js jt i_ j_ n_ := fun q => ((sr_cpE hSC hjs hjt hnl hnlt (i := i_) (j := j_) (n := n_)).mpr q).1 c63
              refine lv_aload_n C0.1 C0.2.1 dX8_copy_111 rfl (lv_at hl 0 rfl) ?_
              refine lv_iconst (v := 2) C0.1 C0.2.1 dX8_copy_112 (by decide) ?_
              refine sr_gVi (As := [.int 2]) C0 hK hP hZ (sr_Zs hZ hZ0 hS) (cc_X8_met ha (2)) sk_X8_met sv_X8_met sw_674 (ci := 8) rfl sr_wM0 rfl rfl hl.1 (Nat.le_of_ble_eq_true rfl) (Nat.le_of_ble_eq_true rfl) (Nat.le_of_ble_eq_true rfl) dX8_copy_113 ⟨Nat.zero_le _, Nat.zero_le _⟩ hS (fun u H locs hu hP hS => ?_)
              exact hret _ _ _ (cx, sg) _ _ _ dX8_copy_116 hP hS (by unfold sk_copy; (try rw [nI_clamp (n := js) (by omega)]); (try rw [nI_clamp (n := jt) (by omega)]); rw [if_neg c4, if_neg c11, if_neg (fun q => q.elim hnl hnlt), if_pos c53, if_neg hX]) (by unfold sp_copy; (try rw [nI_clamp (n := js) (by omega)]); (try rw [nI_clamp (n := jt) (by omega)]); rw [if_neg c4, if_neg c11, if_neg (fun q => q.elim hnl hnlt), if_pos c53, if_neg hX]) (by rw [show sc_copy X_ (nI js) i_ (nI jt) j_ n_ = X_ from (by unfold sc_copy; (try rw [nI_clamp (n := js) (by omega)]); (try rw [nI_clamp (n := jt) (by omega)]); rw [if_neg c4, if_neg c11, if_neg (fun q => q.elim hnl hnlt), if_pos c53, if_neg hX])]; exact hRX)
            · refine lv_iload C0.1 C0.2.1 dX8_copy_66 (lv_at hl 4 rfl) ?_
              refine lv_if_lt (tgt := 111) C0.1 C0.2.1 dX8_copy_68 (by decide) (fun c68 => ?_) (fun c68 => ?_)
              · have hX : ¬ sr_cpX X_ js jt i_ j_ n_ := fun q => ((sr_cpE hSC hjs hjt hnl hnlt (i := i_) (j := j_) (n := n_)).mpr q).2.1 c68
                refine lv_aload_n C0.1 C0.2.1 dX8_copy_111 rfl (lv_at hl 0 rfl) ?_
                refine lv_iconst (v := 2) C0.1 C0.2.1 dX8_copy_112 (by decide) ?_
                refine sr_gVi (As := [.int 2]) C0 hK hP hZ (sr_Zs hZ hZ0 hS) (cc_X8_met ha (2)) sk_X8_met sv_X8_met sw_674 (ci := 8) rfl sr_wM0 rfl rfl hl.1 (Nat.le_of_ble_eq_true rfl) (Nat.le_of_ble_eq_true rfl) (Nat.le_of_ble_eq_true rfl) dX8_copy_113 ⟨Nat.zero_le _, Nat.zero_le _⟩ hS (fun u H locs hu hP hS => ?_)
                exact hret _ _ _ (cx, sg) _ _ _ dX8_copy_116 hP hS (by unfold sk_copy; (try rw [nI_clamp (n := js) (by omega)]); (try rw [nI_clamp (n := jt) (by omega)]); rw [if_neg c4, if_neg c11, if_neg (fun q => q.elim hnl hnlt), if_pos c53, if_neg hX]) (by unfold sp_copy; (try rw [nI_clamp (n := js) (by omega)]); (try rw [nI_clamp (n := jt) (by omega)]); rw [if_neg c4, if_neg c11, if_neg (fun q => q.elim hnl hnlt), if_pos c53, if_neg hX]) (by rw [show sc_copy X_ (nI js) i_ (nI jt) j_ n_ = X_ from (by unfold sc_copy; (try rw [nI_clamp (n := js) (by omega)]); (try rw [nI_clamp (n := jt) (by omega)]); rw [if_neg c4, if_neg c11, if_neg (fun q => q.elim hnl hnlt), if_pos c53, if_neg hX])]; exact hRX)
              · refine lv_iload C0.1 C0.2.1 dX8_copy_71 (lv_at hl 5 rfl) ?_
                refine lv_if_lt (tgt := 111) C0.1 C0.2.1 dX8_copy_73 (by decide) (fun c73 => ?_) (fun c73 => ?_)
                · have hX : ¬ sr_cpX X_ js jt i_ j_ n_ := fun q => ((sr_cpE hSC hjs hjt hnl hnlt (i := i_) (j := j_) (n := n_)).mpr q).2.2.1 c73
                  refine lv_aload_n C0.1 C0.2.1 dX8_copy_111 rfl (lv_at hl 0 rfl) ?_
                  refine lv_iconst (v := 2) C0.1 C0.2.1 dX8_copy_112 (by decide) ?_
                  refine sr_gVi (As := [.int 2]) C0 hK hP hZ (sr_Zs hZ hZ0 hS) (cc_X8_met ha (2)) sk_X8_met sv_X8_met sw_674 (ci := 8) rfl sr_wM0 rfl rfl hl.1 (Nat.le_of_ble_eq_true rfl) (Nat.le_of_ble_eq_true rfl) (Nat.le_of_ble_eq_true rfl) dX8_copy_113 ⟨Nat.zero_le _, Nat.zero_le _⟩ hS (fun u H locs hu hP hS => ?_)
                  exact hret _ _ _ (cx, sg) _ _ _ dX8_copy_116 hP hS (by unfold sk_copy; (try rw [nI_clamp (n := js) (by omega)]); (try rw [nI_clamp (n := jt) (by omega)]); rw [if_neg c4, if_neg c11, if_neg (fun q => q.elim hnl hnlt), if_pos c53, if_neg hX]) (by unfold sp_copy; (try rw [nI_clamp (n := js) (by omega)]); (try rw [nI_clamp (n := jt) (by omega)]); rw [if_neg c4, if_neg c11, if_neg (fun q => q.elim hnl hnlt), if_pos c53, if_neg hX]) (by rw [show sc_copy X_ (nI js) i_ (nI jt) j_ n_ = X_ from (by unfold sc_copy; (try rw [nI_clamp (n := js) (by omega)]); (try rw [nI_clamp (n := jt) (by omega)]); rw [if_neg c4, if_neg c11, if_neg (fun q => q.elim hnl hnlt), if_pos c53, if_neg hX])]; exact hRX)
                · refine lv_iload_n C0.1 C0.2.1 dX8_copy_76 rfl (lv_at hl 2 rfl) ?_
                  refine lv_i2l C0.1 C0.2.1 dX8_copy_77 rfl ?_
                  refine lv_iload C0.1 C0.2.1 dX8_copy_78 (lv_at hl 5 rfl) ?_
                  refine lv_i2l C0.1 C0.2.1 dX8_copy_80 rfl ?_
                  refine lv_ladd C0.1 C0.2.1 dX8_copy_81 ?_
                  refine lv_aload_n C0.1 C0.2.1 dX8_copy_82 rfl (lv_at hl 0 rfl) ?_
                  refine sr_get (v := .ref (a 2)) C0 hK hP sr_inX8 sr_wM0 rfl 1 (by decide) sw_611 rfl dX8_copy_83 ?_
                  refine lv_iload_n C0.1 C0.2.1 dX8_copy_86 rfl (lv_at hl 1 rfl) ?_
                  refine sr_ald (k := js) C0 hK rfl hP sr_wM2 (nI_clamp (by omega)) (vp_in_nI (by omega) (by omega)) dX8_copy_87 ?_
                  refine sr_chi hsi ?_
                  refine lv_i2l C0.1 C0.2.1 dX8_copy_88 rfl ?_
                  refine W.lcmp C0.1 C0.2.1 dX8_copy_89 ?_
                  refine sr_lcgt (tgt := 111) C0 dX8_copy_90 (by decide) (fun c90 => ?_) (fun c90 => ?_)
                  · have hX : ¬ sr_cpX X_ js jt i_ j_ n_ := fun q => ((sr_cpE hSC hjs hjt hnl hnlt (i := i_) (j := j_) (n := n_)).mpr q).2.2.2.1 c90
                    refine lv_aload_n C0.1 C0.2.1 dX8_copy_111 rfl (lv_at hl 0 rfl) ?_
                    refine lv_iconst (v := 2) C0.1 C0.2.1 dX8_copy_112 (by decide) ?_
                    refine sr_gVi (As := [.int 2]) C0 hK hP hZ (sr_Zs hZ hZ0 hS) (cc_X8_met ha (2)) sk_X8_met sv_X8_met sw_674 (ci := 8) rfl sr_wM0 rfl rfl hl.1 (Nat.le_of_ble_eq_true rfl) (Nat.le_of_ble_eq_true rfl) (Nat.le_of_ble_eq_true rfl) dX8_copy_113 ⟨Nat.zero_le _, Nat.zero_le _⟩ hS (fun u H locs hu hP hS => ?_)
                    exact hret _ _ _ (cx, sg) _ _ _ dX8_copy_116 hP hS (by unfold sk_copy; (try rw [nI_clamp (n := js) (by omega)]); (try rw [nI_clamp (n := jt) (by omega)]); rw [if_neg c4, if_neg c11, if_neg (fun q => q.elim hnl hnlt), if_pos c53, if_neg hX]) (by unfold sp_copy; (try rw [nI_clamp (n := js) (by omega)]); (try rw [nI_clamp (n := jt) (by omega)]); rw [if_neg c4, if_neg c11, if_neg (fun q => q.elim hnl hnlt), if_pos c53, if_neg hX]) (by rw [show sc_copy X_ (nI js) i_ (nI jt) j_ n_ = X_ from (by unfold sc_copy; (try rw [nI_clamp (n := js) (by omega)]); (try rw [nI_clamp (n := jt) (by omega)]); rw [if_neg c4, if_neg c11, if_neg (fun q => q.elim hnl hnlt), if_pos c53, if_neg hX])]; exact hRX)
                  · refine lv_iload C0.1 C0.2.1 dX8_copy_93 (lv_at hl 4 rfl) ?_
                    refine lv_i2l C0.1 C0.2.1 dX8_copy_95 rfl ?_
                    refine lv_iload C0.1 C0.2.1 dX8_copy_96 (lv_at hl 5 rfl) ?_
                    refine lv_i2l C0.1 C0.2.1 dX8_copy_98 rfl ?_
                    refine lv_ladd C0.1 C0.2.1 dX8_copy_99 ?_
                    refine lv_aload_n C0.1 C0.2.1 dX8_copy_100 rfl (lv_at hl 0 rfl) ?_
                    refine sr_get (v := .ref (a 2)) C0 hK hP sr_inX8 sr_wM0 rfl 1 (by decide) sw_611 rfl dX8_copy_101 ?_
                    refine lv_iload_n C0.1 C0.2.1 dX8_copy_104 rfl (lv_at hl 3 rfl) ?_
                    refine sr_ald (k := jt) C0 hK rfl hP sr_wM2 (nI_clamp (by omega)) (vp_in_nI (by omega) (by omega)) dX8_copy_105 ?_
                    refine sr_chi hsit ?_
                    refine lv_i2l C0.1 C0.2.1 dX8_copy_106 rfl ?_
                    refine W.lcmp C0.1 C0.2.1 dX8_copy_107 ?_
                    refine sr_lcle (tgt := 117) C0 dX8_copy_108 (by decide) (fun c108 => ?_) (fun c108 => ?_)
                    · have hX := (sr_cpE hSC hjs hjt hnl hnlt (i := i_) (j := j_) (n := n_)).mp ⟨c63, c68, c73, c90, c108⟩
                      obtain ⟨ji, jj, jn, rfl, rfl, rfl, hb1, hb2⟩ := sr_cpN hSC hjs hjt hnl hnlt hX
                      refine lv_iconst (v := 0) C0.1 C0.2.1 dX8_copy_117 (by decide) ?_
                      refine lv_istore (lv' := [(6, .int 0), (0, .ref (a 0)), (1, .int (nI js)), (2, .int (nI ji)), (3, .int (nI jt)), (4, .int (nI jj)), (5, .int (nI jn))]) C0.1 C0.2.1 dX8_copy_118 hl (by decide) rfl (fun ls hl => ?_)
                      have lp120 : ∀ (n120 : Nat) (i : Nat) (sgi : sr_M) (H : Heap) (locs : List Loc) (ls : Array Slot), (i ≤ jn) → (jn + 1 ≤ i + n120) → (∀ b, b < i → sgi 0 b = cx 2 (60 * js + ji + b)) → va_P D vwCl (sr_WM cI a kp cx sgi) H → va_S (sr_AM a) s.heap H locs → lv_has ls 7 [(6, .int (nI i)), (0, .ref (a 0)), (1, .int (nI js)), (2, .int (nI ji)), (3, .int (nI jt)), (4, .int (nI jj)), (5, .int (nI jn))] → W p l e (sr_rm 2 45) s m args below meth c H locs 0 0 Q (F0 m 120 ls []) := by
                        intro n120
                        induction n120 with
                        | zero =>
                          intro i sgi H locs ls h_i h_n h_m hP hS hl
                          exact absurd h_n (by omega)
                        | succ n120 ih120 =>
                          intro i sgi H locs ls h_i h_n h_m hP hS hl
                          refine lv_iload C0.1 C0.2.1 dX8_copy_120 (lv_at hl 0 rfl) ?_
                          refine lv_iload C0.1 C0.2.1 dX8_copy_122 (lv_at hl 6 rfl) ?_
                          refine lv_icmp_ge (tgt := 154) C0.1 C0.2.1 dX8_copy_124 (by decide) (fun c124 => ?_) (fun c124 => ?_)
                          · have g124 : jn ≤ i := (nI_leI (a := jn) (b := i) (by omega) (by omega)).mp c124
                            refine lv_iconst (v := 0) C0.1 C0.2.1 dX8_copy_154 (by decide) ?_
                            refine lv_istore (lv' := [(6, .int 0), (0, .ref (a 0)), (1, .int (nI js)), (2, .int (nI ji)), (3, .int (nI jt)), (4, .int (nI jj)), (5, .int (nI jn))]) C0.1 C0.2.1 dX8_copy_155 hl (by decide) rfl (fun ls hl => ?_)
                            have lp157 : ∀ (n157 : Nat) (k : Nat) (cxi : sr_M) (H : Heap) (locs : List Loc) (ls : Array Slot), (k ≤ jn) → (jn + 1 ≤ k + n157) → (sr_Ci cx (sgi 0) (60 * jt + jj) k cxi) → va_P D vwCl (sr_WM cI a kp cxi sgi) H → va_S (sr_AM a) s.heap H locs → lv_has ls 7 [(6, .int (nI k)), (0, .ref (a 0)), (1, .int (nI js)), (2, .int (nI ji)), (3, .int (nI jt)), (4, .int (nI jj)), (5, .int (nI jn))] → W p l e (sr_rm 2 45) s m args below meth c H locs 0 0 Q (F0 m 157 ls []) := by
                              intro n157
                              induction n157 with
                              | zero =>
                                intro k cxi H locs ls h_k h_nk h_c hP hS hl
                                exact absurd h_nk (by omega)
                              | succ n157 ih157 =>
                                intro k cxi H locs ls h_k h_nk h_c hP hS hl
                                refine lv_iload C0.1 C0.2.1 dX8_copy_157 (lv_at hl 0 rfl) ?_
                                refine lv_iload C0.1 C0.2.1 dX8_copy_159 (lv_at hl 6 rfl) ?_
                                refine lv_icmp_ge (tgt := 192) C0.1 C0.2.1 dX8_copy_161 (by decide) (fun c161 => ?_) (fun c161 => ?_)
                                · have g161 : jn ≤ k := (nI_leI (a := jn) (b := k) (by omega) (by omega)).mp c161
                                  refine lv_iconst (v := 1) C0.1 C0.2.1 dX8_copy_192 (by decide) ?_
                                  have e : jn = k := by omega
                                  subst e
                                  exact hret _ _ _ (cxi, sgi) _ _ _ dX8_copy_193 hP hS (by unfold sk_copy; (try rw [nI_clamp (n := js) (by omega)]); (try rw [nI_clamp (n := jt) (by omega)]); rw [if_neg c4, if_neg c11, if_neg (fun q => q.elim hnl hnlt), if_pos c53, if_pos hX]) (by unfold sp_copy; (try rw [nI_clamp (n := js) (by omega)]); (try rw [nI_clamp (n := jt) (by omega)]); rw [if_neg c4, if_neg c11, if_neg (fun q => q.elim hnl hnlt), if_pos c53, if_pos hX]) (by rw [show sc_copy X_ (nI js) (nI ji) (nI jt) (nI jj) (nI jn) = sr_cp1 X_ js jt ji jj jn from by unfold sc_copy; rw [nI_clamp (n := js) (by omega), nI_clamp (n := jt) (by omega), nI_clamp (n := ji) (by omega), nI_clamp (n := jj) (by omega), nI_clamp (n := jn) (by omega), if_neg c4, if_neg c11, if_neg (fun q => q.elim hnl hnlt), if_pos c53, if_pos hX]]; exact sr_RX_copy hRX hSC hjs hjt hnl hnlt hb1 hb2 (fun b hb => h_m b (by omega)) h_c)
                                · have g161 : ¬ (jn ≤ k) := fun q => c161 ((nI_leI (a := jn) (b := k) (by omega) (by omega)).mpr q)
                                  refine lv_aload_n C0.1 C0.2.1 dX8_copy_164 rfl (lv_at hl 1 rfl) ?_
                                  refine sr_get (v := .ref (a 3)) C0 hK hP sr_inX8 sr_wM0 rfl 2 (by decide) sw_612 rfl dX8_copy_165 ?_
                                  refine lv_bipush (v := 60) C0.1 C0.2.1 dX8_copy_168 (by decide) ?_
                                  refine lv_iload_n C0.1 C0.2.1 dX8_copy_170 rfl (lv_at hl 4 rfl) ?_
                                  refine lv_imul C0.1 C0.2.1 dX8_copy_171 ?_
                                  refine sr_chi (pk_mul 60 jt) ?_
                                  refine lv_iload C0.1 C0.2.1 dX8_copy_172 (lv_at hl 5 rfl) ?_
                                  refine lv_iadd C0.1 C0.2.1 dX8_copy_174 ?_
                                  refine sr_chi (nI_add (60 * jt) jj) ?_
                                  refine lv_iload C0.1 C0.2.1 dX8_copy_175 (lv_at hl 0 rfl) ?_
                                  refine lv_iadd C0.1 C0.2.1 dX8_copy_177 ?_
                                  refine sr_chi (nI_add ((60 * jt) + jj) k) ?_
                                  refine lv_aload_n C0.1 C0.2.1 dX8_copy_178 rfl (lv_at hl 1 rfl) ?_
                                  refine sr_get (v := .ref (a 4)) C0 hK hP sr_inX8 sr_wM0 rfl 3 (by decide) sw_613 rfl dX8_copy_179 ?_
                                  refine lv_iload C0.1 C0.2.1 dX8_copy_182 (lv_at hl 0 rfl) ?_
                                  refine sr_ald (k := k) C0 hK rfl hP sr_wM4 (nI_clamp (by omega)) (vp_in_nI (by omega) (by omega)) dX8_copy_184 ?_
                                  refine sr_ast (k := ((60 * jt) + jj) + k) C0 hK rfl hP (sr_DM ha _ _ _) hS sr_wM3 (nI_clamp (by omega)) (vp_in_nI (by omega) (by omega)) sr_sM3 dX8_copy_185 (fun H locs hP hS => ?_)
                                  refine lv_iinc (v := (nI (k + 1))) (lv' := [(6, .int (nI (k + 1))), (0, .ref (a 0)), (1, .int (nI js)), (2, .int (nI ji)), (3, .int (nI jt)), (4, .int (nI jj)), (5, .int (nI jn))]) C0.1 C0.2.1 dX8_copy_186 hl (k := 0) rfl (nI_1 k) (by decide) rfl (fun ls hl => ?_)
                                  refine lv_goto (tgt := 157) C0.1 C0.2.1 dX8_copy_189 (by decide) ?_
                                  exact ih157 (k + 1) (va_up cxi 2 (upd (cxi 2) (((60 * jt) + jj) + k) (sgi 0 k))) _ _ _ (by omega) (by omega) (sr_Ci_s h_c) hP hS (lv_sub hl [0, 1, 2, 3, 4, 5, 6] rfl)
                            exact lp157 (jn + 1) 0 cx _ _ _ (by omega) (by omega) sr_Ci_0 hP hS (lv_sub hl [0, 1, 2, 3, 4, 5, 6] rfl)
                          · have g124 : ¬ (jn ≤ i) := fun q => c124 ((nI_leI (a := jn) (b := i) (by omega) (by omega)).mpr q)
                            refine lv_aload_n C0.1 C0.2.1 dX8_copy_127 rfl (lv_at hl 1 rfl) ?_
                            refine sr_get (v := .ref (a 4)) C0 hK hP sr_inX8 sr_wM0 rfl 3 (by decide) sw_613 rfl dX8_copy_128 ?_
                            refine lv_iload C0.1 C0.2.1 dX8_copy_131 (lv_at hl 0 rfl) ?_
                            refine lv_aload_n C0.1 C0.2.1 dX8_copy_133 rfl (lv_at hl 1 rfl) ?_
                            refine sr_get (v := .ref (a 3)) C0 hK hP sr_inX8 sr_wM0 rfl 2 (by decide) sw_612 rfl dX8_copy_134 ?_
                            refine lv_bipush (v := 60) C0.1 C0.2.1 dX8_copy_137 (by decide) ?_
                            refine lv_iload_n C0.1 C0.2.1 dX8_copy_139 rfl (lv_at hl 2 rfl) ?_
                            refine lv_imul C0.1 C0.2.1 dX8_copy_140 ?_
                            refine sr_chi (pk_mul 60 js) ?_
                            refine lv_iload_n C0.1 C0.2.1 dX8_copy_141 rfl (lv_at hl 3 rfl) ?_
                            refine lv_iadd C0.1 C0.2.1 dX8_copy_142 ?_
                            refine sr_chi (nI_add (60 * js) ji) ?_
                            refine lv_iload C0.1 C0.2.1 dX8_copy_143 (lv_at hl 0 rfl) ?_
                            refine lv_iadd C0.1 C0.2.1 dX8_copy_145 ?_
                            refine sr_chi (nI_add ((60 * js) + ji) i) ?_
                            refine sr_ald (k := ((60 * js) + ji) + i) C0 hK rfl hP sr_wM3 (nI_clamp (by omega)) (vp_in_nI (by omega) (by omega)) dX8_copy_146 ?_
                            refine sr_ast (k := i) C0 hK rfl hP (sr_DM ha _ _ _) hS sr_wM4 (nI_clamp (by omega)) (vp_in_nI (by omega) (by omega)) sr_sM4 dX8_copy_147 (fun H locs hP hS => ?_)
                            refine lv_iinc (v := (nI (i + 1))) (lv' := [(6, .int (nI (i + 1))), (0, .ref (a 0)), (1, .int (nI js)), (2, .int (nI ji)), (3, .int (nI jt)), (4, .int (nI jj)), (5, .int (nI jn))]) C0.1 C0.2.1 dX8_copy_148 hl (k := 0) rfl (nI_1 i) (by decide) rfl (fun ls hl => ?_)
                            refine lv_goto (tgt := 120) C0.1 C0.2.1 dX8_copy_151 (by decide) ?_
                            exact ih120 (i + 1) (va_up sgi 0 (upd (sgi 0) i (cx 2 (((60 * js) + ji) + i)))) _ _ _ (by omega) (by omega) (fun b hb => (congrFun (sr_upS _ 0 _) b).trans (sr_mv_s h_m b hb)) hP hS (lv_sub hl [0, 1, 2, 3, 4, 5, 6] rfl)
                      exact lp120 (jn + 1) 0 sg _ _ _ (by omega) (by omega) (fun b hb => absurd hb (by omega)) hP hS (lv_sub hl [0, 1, 2, 3, 4, 5, 6] rfl)
                    · have hX : ¬ sr_cpX X_ js jt i_ j_ n_ := fun q => c108 ((sr_cpE hSC hjs hjt hnl hnlt (i := i_) (j := j_) (n := n_)).mpr q).2.2.2.2
                      refine lv_aload_n C0.1 C0.2.1 dX8_copy_111 rfl (lv_at hl 0 rfl) ?_
                      refine lv_iconst (v := 2) C0.1 C0.2.1 dX8_copy_112 (by decide) ?_
                      refine sr_gVi (As := [.int 2]) C0 hK hP hZ (sr_Zs hZ hZ0 hS) (cc_X8_met ha (2)) sk_X8_met sv_X8_met sw_674 (ci := 8) rfl sr_wM0 rfl rfl hl.1 (Nat.le_of_ble_eq_true rfl) (Nat.le_of_ble_eq_true rfl) (Nat.le_of_ble_eq_true rfl) dX8_copy_113 ⟨Nat.zero_le _, Nat.zero_le _⟩ hS (fun u H locs hu hP hS => ?_)
                      exact hret _ _ _ (cx, sg) _ _ _ dX8_copy_116 hP hS (by unfold sk_copy; (try rw [nI_clamp (n := js) (by omega)]); (try rw [nI_clamp (n := jt) (by omega)]); rw [if_neg c4, if_neg c11, if_neg (fun q => q.elim hnl hnlt), if_pos c53, if_neg hX]) (by unfold sp_copy; (try rw [nI_clamp (n := js) (by omega)]); (try rw [nI_clamp (n := jt) (by omega)]); rw [if_neg c4, if_neg c11, if_neg (fun q => q.elim hnl hnlt), if_pos c53, if_neg hX]) (by rw [show sc_copy X_ (nI js) i_ (nI jt) j_ n_ = X_ from (by unfold sc_copy; (try rw [nI_clamp (n := js) (by omega)]); (try rw [nI_clamp (n := jt) (by omega)]); rw [if_neg c4, if_neg c11, if_neg (fun q => q.elim hnl hnlt), if_pos c53, if_neg hX])]; exact hRX)
          · refine lv_aload_n C0.1 C0.2.1 dX8_copy_56 rfl (lv_at hl 0 rfl) ?_
            refine lv_iconst (v := 4) C0.1 C0.2.1 dX8_copy_57 (by decide) ?_
            refine sr_gVi (As := [.int 4]) C0 hK hP hZ (sr_Zs hZ hZ0 hS) (cc_X8_met ha (4)) sk_X8_met sv_X8_met sw_674 (ci := 8) rfl sr_wM0 rfl rfl hl.1 (Nat.le_of_ble_eq_true rfl) (Nat.le_of_ble_eq_true rfl) (Nat.le_of_ble_eq_true rfl) dX8_copy_58 ⟨Nat.zero_le _, Nat.zero_le _⟩ hS (fun u H locs hu hP hS => ?_)
            exact hret _ _ _ (cx, sg) _ _ _ dX8_copy_61 hP hS (by unfold sk_copy; (try rw [nI_clamp (n := js) (by omega)]); (try rw [nI_clamp (n := jt) (by omega)]); rw [if_neg c4, if_neg c11, if_neg (fun q => q.elim hnl hnlt), if_neg c53]) (by unfold sp_copy; (try rw [nI_clamp (n := js) (by omega)]); (try rw [nI_clamp (n := jt) (by omega)]); rw [if_neg c4, if_neg c11, if_neg (fun q => q.elim hnl hnlt), if_neg c53]) (by rw [show sc_copy X_ (nI js) i_ (nI jt) j_ n_ = X_ from (by unfold sc_copy; (try rw [nI_clamp (n := js) (by omega)]); (try rw [nI_clamp (n := jt) (by omega)]); rw [if_neg c4, if_neg c11, if_neg (fun q => q.elim hnl hnlt), if_neg c53])]; exact hRX)
        · have hlost2 := sr_R1l (hRX _ hjt) (Int32.not_le.mp c32)
          refine lv_aload_n C0.1 C0.2.1 dX8_copy_35 rfl (lv_at hl 0 rfl) ?_
          refine lv_iconst (v := 1) C0.1 C0.2.1 dX8_copy_36 (by decide) ?_
          refine sr_gVi (As := [.int 1]) C0 hK hP hZ (sr_Zs hZ hZ0 hS) (cc_X8_met ha (1)) sk_X8_met sv_X8_met sw_674 (ci := 8) rfl sr_wM0 rfl rfl hl.1 (Nat.le_of_ble_eq_true rfl) (Nat.le_of_ble_eq_true rfl) (Nat.le_of_ble_eq_true rfl) dX8_copy_37 ⟨Nat.zero_le _, Nat.zero_le _⟩ hS (fun u H locs hu hP hS => ?_)
          exact hret _ _ _ (cx, sg) _ _ _ dX8_copy_40 hP hS (by unfold sk_copy; (try rw [nI_clamp (n := js) (by omega)]); (try rw [nI_clamp (n := jt) (by omega)]); rw [if_neg c4, if_neg c11, if_pos (Or.inr hlost2)]) (by unfold sp_copy; (try rw [nI_clamp (n := js) (by omega)]); (try rw [nI_clamp (n := jt) (by omega)]); rw [if_neg c4, if_neg c11, if_pos (Or.inr hlost2)]) (by rw [show sc_copy X_ (nI js) i_ (nI jt) j_ n_ = X_ from (by unfold sc_copy; (try rw [nI_clamp (n := js) (by omega)]); (try rw [nI_clamp (n := jt) (by omega)]); rw [if_neg c4, if_neg c11, if_pos (Or.inr hlost2)])]; exact hRX)
    · refine lv_bipush (v := (-2)) C0.1 C0.2.1 dX8_copy_14 (by decide) ?_
      exact hret _ _ _ (cx, sg) _ _ _ dX8_copy_16 hP hS (by unfold sk_copy; rw [if_neg c4, if_pos (Classical.not_not.mp c11)]) (by unfold sp_copy; rw [if_neg c4, if_pos (Classical.not_not.mp c11)]) (by rw [show sc_copy X_ (nI js) i_ t_ j_ n_ = X_ from (by unfold sc_copy; rw [if_neg c4, if_pos (Classical.not_not.mp c11)])]; exact hRX)
