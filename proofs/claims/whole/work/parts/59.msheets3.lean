set_option maxRecDepth 100000 in
set_option maxHeartbeats 4000000 in
theorem cc_X8_write {l : Launch} {D : va_G} {cI : ClassId} {a : Nat → Nat} (ha : ∀ i j, i < 13 → j < 13 → a i = a j → i = j) {kp cx sg : sr_M} (X_ : sr_M) (s_ : Int32) (hK_ : sr_IK kp) (hSC : sr_SC X_) (hRX : sr_RX X_ cx) : sr_G l D (sr_tM cI) (sr_ZM) (sr_AM a) (sr_WM cI a kp cx sg) yX8_write cX8_write 4 (some .int) 6 144 [.ref (a 0), .int s_] (S := sr_M × sr_M) (fun u => sr_RX (sc_write kp X_ s_) u.1) (fun u => sr_WM cI a (sk_write kp X_ s_) u.1 u.2) (fun u => some (.int (sp_write kp X_ s_))) := by
  refine sr_Gie (by decide +kernel) (Nat.le_of_ble_eq_true rfl) (fun p e s m args below meth c ls Q B hret => ?_)
  obtain ⟨C0, hP, hK, hZ0, hl⟩ := B
  have hZ : sr_Zok (sr_AM a) (sr_ZM) := sr_ZMok
  have hS : va_S (sr_AM a) s.heap s.heap [] := va_S.rf
  have hl : lv_has ls 4 [(0, .ref (a 0)), (1, .int s_)] := hl
  obtain ⟨H, hH⟩ : ∃ H, H = s.heap := ⟨_, rfl⟩
  have hP : va_P D vwCl (sr_WM cI a kp cx sg) H := by rw [hH]; exact hP
  have hS : va_S (sr_AM a) s.heap H [] := by rw [hH]; exact hS
  suffices hG : ∀ locs, va_S (sr_AM a) s.heap H locs → W p l e (sr_rm 6 144) s m args below meth c H locs 0 0 Q (F0 m 0 ls []) from by have h9 := hG [] hS; rw [hH] at h9; exact h9
  clear hS
  intro locs hS
  clear hH
  refine lv_iload_n C0.1 C0.2.1 dX8_write_0 rfl (lv_at hl 1 rfl) ?_
  refine sr_pSi (As := [.int s_]) C0 hK hP hZ (sr_Zs hZ hZ0 hS) (cc_X8_isSheet ha s_) sk_X8_isSheet (ss_X8_isSheet) sw_666 rfl rfl hl.1 (Nat.le_of_ble_eq_true rfl) (Nat.le_of_ble_eq_true rfl) (Nat.le_of_ble_eq_true rfl) dX8_write_1 ⟨Nat.zero_le _, Nat.zero_le _⟩ ?_
  refine sr_ifne (tgt := 10) C0 dX8_write_4 (by decide) (fun c4 => ?_) (fun c4 => ?_)
  · obtain ⟨js, hjs, rfl⟩ := sr_rg3 c4
    refine lv_aload_n C0.1 C0.2.1 dX8_write_10 rfl (lv_at hl 0 rfl) ?_
    refine sr_get (v := .ref (a 1)) C0 hK hP sr_inX8 sr_wM0 rfl 0 (by decide) sw_610 rfl dX8_write_11 ?_
    refine lv_iload_n C0.1 C0.2.1 dX8_write_14 rfl (lv_at hl 1 rfl) ?_
    refine sr_ald (k := js) C0 hK rfl hP sr_wM1 (nI_clamp (by omega)) (vp_in_nI (by omega) (by omega)) dX8_write_15 ?_
    refine lv_if_ge (tgt := 25) C0.1 C0.2.1 dX8_write_16 (by decide) (fun c16 => ?_) (fun c16 => ?_)
    · obtain ⟨hnl, hfo, hsi, hit⟩ := sr_R1n (hRX _ hjs) (Int32.not_lt.mpr c16)
      obtain ⟨hsz, hsz60⟩ := sr_szI hSC hjs hnl
      have hm4 := sr_m4_le (sr_sz X_ js) 4
      refine lv_aload_n C0.1 C0.2.1 dX8_write_25 rfl (lv_at hl 0 rfl) ?_
      refine sr_gVi (As := []) C0 hK hP hZ (sr_Zs hZ hZ0 hS) (cc_X8_areThere ha hK_) sk_X8_areThere sv_X8_areThere sw_795 (ci := 8) rfl sr_wM0 rfl rfl hl.1 (Nat.le_of_ble_eq_true rfl) (Nat.le_of_ble_eq_true rfl) (Nat.le_of_ble_eq_true rfl) dX8_write_26 ⟨Nat.zero_le _, Nat.zero_le _⟩ hS (fun sg1 H locs hRD hP hS => ?_)
      refine sr_ifne (tgt := 35) C0 dX8_write_29 (by decide) (fun c29 => ?_) (fun c29 => ?_)
      · have hT : sr_th kp := c29
        refine lv_aload_n C0.1 C0.2.1 dX8_write_35 rfl (lv_at hl 0 rfl) ?_
        refine sr_get (v := .ref (a 2)) C0 hK hP sr_inX8 sr_wM0 rfl 1 (by decide) sw_611 rfl dX8_write_36 ?_
        refine lv_iload_n C0.1 C0.2.1 dX8_write_39 rfl (lv_at hl 1 rfl) ?_
        refine sr_ald (k := js) C0 hK rfl hP sr_wM2 (nI_clamp (by omega)) (vp_in_nI (by omega) (by omega)) dX8_write_40 ?_
        refine sr_chi (hsi.trans hsz) ?_
        refine lv_iconst (v := 4) C0.1 C0.2.1 dX8_write_41 (by decide) ?_
        refine sr_pSi (As := [.int (nI (sr_sz X_ js)), .int 4]) C0 hK hP hZ (sr_Zs hZ hZ0 hS) (cc_X8_lesser ha (nI (sr_sz X_ js)) (4)) sk_X8_lesser (ss_X8_lesser) sw_785 rfl rfl hl.1 (Nat.le_of_ble_eq_true rfl) (Nat.le_of_ble_eq_true rfl) (Nat.le_of_ble_eq_true rfl) dX8_write_42 ⟨Nat.zero_le _, Nat.zero_le _⟩ ?_
        refine sr_chi (sr_m4_e (z := sr_sz X_ js) (m := 4) (by omega) (by omega)) ?_
        refine lv_istore_n (lv' := [(2, .int (nI (sr_m4 (sr_sz X_ js) 4))), (0, .ref (a 0)), (1, .int (nI js))]) C0.1 C0.2.1 dX8_write_45 rfl hl (by decide) rfl (fun ls hl => ?_)
        refine lv_iconst (v := 0) C0.1 C0.2.1 dX8_write_46 (by decide) ?_
        refine lv_istore_n (lv' := [(3, .int 0), (2, .int (nI (sr_m4 (sr_sz X_ js) 4))), (0, .ref (a 0)), (1, .int (nI js))]) C0.1 C0.2.1 dX8_write_47 rfl hl (by decide) rfl (fun ls hl => ?_)
        have lp48 : ∀ (n48 : Nat) (i : Nat) (cxi : sr_M) (H : Heap) (locs : List Loc) (ls : Array Slot), (i ≤ sr_m4 (sr_sz X_ js) 4) → (sr_m4 (sr_sz X_ js) 4 + 1 ≤ i + n48) → (sr_RX (sr_wr kp X_ js i) cxi) → va_P D vwCl (sr_WM cI a kp cxi sg1) H → va_S (sr_AM a) s.heap H locs → lv_has ls 4 [(3, .int (nI i)), (2, .int (nI (sr_m4 (sr_sz X_ js) 4))), (0, .ref (a 0)), (1, .int (nI js))] → W p l e (sr_rm 6 144) s m args below meth c H locs 0 0 Q (F0 m 48 ls []) := by
          intro n48
          induction n48 with
          | zero =>
            intro i cxi H locs ls h_i h_n h_x hP hS hl
            exact absurd h_n (by omega)
          | succ n48 ih48 =>
            intro i cxi H locs ls h_i h_n h_x hP hS hl
            refine lv_iload_n C0.1 C0.2.1 dX8_write_48 rfl (lv_at hl 0 rfl) ?_
            refine lv_iload_n C0.1 C0.2.1 dX8_write_49 rfl (lv_at hl 1 rfl) ?_
            refine lv_icmp_ge (tgt := 84) C0.1 C0.2.1 dX8_write_50 (by decide) (fun c50 => ?_) (fun c50 => ?_)
            · have g50 : (sr_m4 (sr_sz X_ js) 4) ≤ i := (nI_leI (a := (sr_m4 (sr_sz X_ js) 4)) (b := i) (by omega) (by omega)).mp c50
              refine lv_iload_n C0.1 C0.2.1 dX8_write_84 rfl (lv_at hl 1 rfl) ?_
              have e : i = sr_m4 (sr_sz X_ js) 4 := by omega
              rw [e] at h_x
              exact hret _ _ _ (cxi, sg1) _ _ _ dX8_write_85 hP hS (by unfold sk_write; rw [nI_clamp (n := js) (by omega), if_neg c4, if_neg hnl, if_neg (fun q => q hT)]) (by unfold sp_write; rw [nI_clamp (n := js) (by omega), if_neg c4, if_neg hnl, if_neg (fun q => q hT)]) (by unfold sc_write; rw [nI_clamp (n := js) (by omega), if_neg c4, if_neg hnl, if_neg (fun q => q hT)]; exact h_x)
            · have g50 : ¬ ((sr_m4 (sr_sz X_ js) 4) ≤ i) := fun q => c50 ((nI_leI (a := (sr_m4 (sr_sz X_ js) 4)) (b := i) (by omega) (by omega)).mpr q)
              refine lv_aload_n C0.1 C0.2.1 dX8_write_53 rfl (lv_at hl 2 rfl) ?_
              refine sr_get (v := .ref (a 3)) C0 hK hP sr_inX8 sr_wM0 rfl 2 (by decide) sw_612 rfl dX8_write_54 ?_
              refine lv_bipush (v := 60) C0.1 C0.2.1 dX8_write_57 (by decide) ?_
              refine lv_iload_n C0.1 C0.2.1 dX8_write_59 rfl (lv_at hl 3 rfl) ?_
              refine lv_imul C0.1 C0.2.1 dX8_write_60 ?_
              refine sr_chi (pk_mul 60 js) ?_
              refine lv_iload_n C0.1 C0.2.1 dX8_write_61 rfl (lv_at hl 0 rfl) ?_
              refine lv_iadd C0.1 C0.2.1 dX8_write_62 ?_
              refine sr_chi (nI_add (60 * js) i) ?_
              refine lv_aload_n C0.1 C0.2.1 dX8_write_63 rfl (lv_at hl 2 rfl) ?_
              refine sr_get (v := .ref (a 1)) C0 hK hP sr_inX8 sr_wM0 rfl 0 (by decide) sw_610 rfl dX8_write_64 ?_
              refine lv_iload_n C0.1 C0.2.1 dX8_write_67 rfl (lv_at hl 3 rfl) ?_
              refine sr_ald (k := js) C0 hK rfl hP sr_wM1 (nI_clamp (by omega)) (vp_in_nI (by omega) (by omega)) dX8_write_68 ?_
              refine lv_aload_n C0.1 C0.2.1 dX8_write_69 rfl (lv_at hl 2 rfl) ?_
              refine lv_iload_n C0.1 C0.2.1 dX8_write_70 rfl (lv_at hl 0 rfl) ?_
              refine sr_pVi (As := [.int (nI i)]) C0 hK hP hZ (sr_Zs hZ hZ0 hS) (cc_X8_carriesOf ha i hK_ hRD hT (by omega)) sk_X8_carriesOf sv_X8_carriesOf sw_847 (ci := 8) rfl sr_wM0 rfl rfl hl.1 (Nat.le_of_ble_eq_true rfl) (Nat.le_of_ble_eq_true rfl) (Nat.le_of_ble_eq_true rfl) dX8_write_71 ⟨Nat.zero_le _, Nat.zero_le _⟩ ?_
              refine sr_pSi (As := [.int (cxi 0 js), .int (sr_ca kp i)]) C0 hK hP hZ (sr_Zs hZ hZ0 hS) (cc_X8_cut ha (cxi 0 js) (sr_ca kp i)) sk_X8_cut (ss_X8_cut) sw_690 rfl rfl hl.1 (Nat.le_of_ble_eq_true rfl) (Nat.le_of_ble_eq_true rfl) (Nat.le_of_ble_eq_true rfl) dX8_write_74 ⟨Nat.zero_le _, Nat.zero_le _⟩ ?_
              refine sr_ast (k := (60 * js) + i) C0 hK rfl hP (sr_DM ha _ _ _) hS sr_wM3 (nI_clamp (by omega)) (vp_in_nI (by omega) (by omega)) sr_sM3 dX8_write_77 (fun H locs hP hS => ?_)
              refine lv_iinc (v := (nI (i + 1))) (lv' := [(3, .int (nI (i + 1))), (2, .int (nI (sr_m4 (sr_sz X_ js) 4))), (0, .ref (a 0)), (1, .int (nI js))]) C0.1 C0.2.1 dX8_write_78 hl (k := 0) rfl (nI_1 i) (by decide) rfl (fun ls hl => ?_)
              refine lv_goto (tgt := 48) C0.1 C0.2.1 dX8_write_81 (by decide) ?_
              exact ih48 (i + 1) (va_up cxi 2 (upd (cxi 2) ((60 * js) + i) (sr_cut (cxi 0 js) (sr_ca kp i)))) _ _ _ (by omega) (by omega) (sr_RX_wr hSC hjs (by omega) hnl h_x) hP hS (lv_sub hl [0, 1, 2, 3] rfl)
        exact lp48 (sr_m4 (sr_sz X_ js) 4 + 1) 0 cx _ _ _ (by omega) (by omega) hRX hP hS (lv_sub hl [0, 1, 2, 3] rfl)
      · refine lv_bipush (v := (-3)) C0.1 C0.2.1 dX8_write_32 (by decide) ?_
        exact hret _ _ _ (cx, sg1) _ _ _ dX8_write_34 hP hS (by unfold sk_write; rw [nI_clamp (n := js) (by omega), if_neg c4, if_neg hnl, if_pos c29]) (by unfold sp_write; rw [nI_clamp (n := js) (by omega), if_neg c4, if_neg hnl, if_pos c29]) (by unfold sc_write; rw [nI_clamp (n := js) (by omega), if_neg c4, if_neg hnl, if_pos c29]; exact hRX)
    · have hlost := sr_R1l (hRX _ hjs) (Int32.not_le.mp c16)
      refine lv_aload_n C0.1 C0.2.1 dX8_write_19 rfl (lv_at hl 0 rfl) ?_
      refine lv_iconst (v := 1) C0.1 C0.2.1 dX8_write_20 (by decide) ?_
      refine sr_gVi (As := [.int 1]) C0 hK hP hZ (sr_Zs hZ hZ0 hS) (cc_X8_met ha (1)) sk_X8_met sv_X8_met sw_674 (ci := 8) rfl sr_wM0 rfl rfl hl.1 (Nat.le_of_ble_eq_true rfl) (Nat.le_of_ble_eq_true rfl) (Nat.le_of_ble_eq_true rfl) dX8_write_21 ⟨Nat.zero_le _, Nat.zero_le _⟩ hS (fun u H locs hu hP hS => ?_)
      exact hret _ _ _ (cx, sg) _ _ _ dX8_write_24 hP hS (by unfold sk_write; rw [nI_clamp (n := js) (by omega), if_neg (fun q => q.elim (fun z => c4 (Or.inl z)) (fun z => c4 (Or.inr z))), if_pos hlost]) (by unfold sp_write; rw [nI_clamp (n := js) (by omega), if_neg (fun q => q.elim (fun z => c4 (Or.inl z)) (fun z => c4 (Or.inr z))), if_pos hlost]) (by unfold sc_write; rw [nI_clamp (n := js) (by omega), if_neg (fun q => q.elim (fun z => c4 (Or.inl z)) (fun z => c4 (Or.inr z))), if_pos hlost]; exact hRX)
  · refine lv_bipush (v := (-2)) C0.1 C0.2.1 dX8_write_7 (by decide) ?_
    exact hret _ _ _ (cx, sg) _ _ _ dX8_write_9 hP hS (by unfold sk_write; rw [if_pos (Classical.not_not.mp c4)]) (by unfold sp_write; rw [if_pos (Classical.not_not.mp c4)]) (by unfold sc_write; rw [if_pos (Classical.not_not.mp c4)]; exact hRX)
set_option maxRecDepth 100000 in
set_option maxHeartbeats 4000000 in
theorem cc_X8_read {l : Launch} {D : va_G} {cI : ClassId} {a : Nat → Nat} (ha : ∀ i j, i < 13 → j < 13 → a i = a j → i = j) {kp cx sg : sr_M} (X_ : sr_M) (s_ : Int32) (hK_ : sr_IK kp) (hSC : sr_SC X_) (hRX : sr_RX X_ cx) : sr_G l D (sr_tM cI) (sr_ZM) (sr_AM a) (sr_WM cI a kp cx sg) yX8_read cX8_read 3 (some .int) 3 68 [.ref (a 0), .int s_] (S := Unit) (fun u => True) (fun u => sr_WM cI a (sk_read kp X_ s_) cx sg) (fun u => some (.int (sp_read X_ s_))) := by
  refine sr_Gie (by decide +kernel) (Nat.le_of_ble_eq_true rfl) (fun p e s m args below meth c ls Q B hret => ?_)
  obtain ⟨C0, hP, hK, hZ0, hl⟩ := B
  have hZ : sr_Zok (sr_AM a) (sr_ZM) := sr_ZMok
  have hS : va_S (sr_AM a) s.heap s.heap [] := va_S.rf
  have hl : lv_has ls 3 [(0, .ref (a 0)), (1, .int s_)] := hl
  obtain ⟨H, hH⟩ : ∃ H, H = s.heap := ⟨_, rfl⟩
  have hP : va_P D vwCl (sr_WM cI a kp cx sg) H := by rw [hH]; exact hP
  have hS : va_S (sr_AM a) s.heap H [] := by rw [hH]; exact hS
  suffices hG : ∀ locs, va_S (sr_AM a) s.heap H locs → W p l e (sr_rm 3 68) s m args below meth c H locs 0 0 Q (F0 m 0 ls []) from by have h9 := hG [] hS; rw [hH] at h9; exact h9
  clear hS
  intro locs hS
  clear hH
  refine lv_iload_n C0.1 C0.2.1 dX8_read_0 rfl (lv_at hl 1 rfl) ?_
  refine sr_pSi (As := [.int s_]) C0 hK hP hZ (sr_Zs hZ hZ0 hS) (cc_X8_isSheet ha s_) sk_X8_isSheet (ss_X8_isSheet) sw_666 rfl rfl hl.1 (Nat.le_of_ble_eq_true rfl) (Nat.le_of_ble_eq_true rfl) (Nat.le_of_ble_eq_true rfl) dX8_read_1 ⟨Nat.zero_le _, Nat.zero_le _⟩ ?_
  refine sr_ifne (tgt := 10) C0 dX8_read_4 (by decide) (fun c4 => ?_) (fun c4 => ?_)
  · obtain ⟨js, hjs, rfl⟩ := sr_rg3 c4
    refine lv_aload_n C0.1 C0.2.1 dX8_read_10 rfl (lv_at hl 0 rfl) ?_
    refine sr_get (v := .ref (a 1)) C0 hK hP sr_inX8 sr_wM0 rfl 0 (by decide) sw_610 rfl dX8_read_11 ?_
    refine lv_iload_n C0.1 C0.2.1 dX8_read_14 rfl (lv_at hl 1 rfl) ?_
    refine sr_ald (k := js) C0 hK rfl hP sr_wM1 (nI_clamp (by omega)) (vp_in_nI (by omega) (by omega)) dX8_read_15 ?_
    refine lv_if_ge (tgt := 25) C0.1 C0.2.1 dX8_read_16 (by decide) (fun c16 => ?_) (fun c16 => ?_)
    · obtain ⟨hnl, hfo, hsi, hit⟩ := sr_R1n (hRX _ hjs) (Int32.not_lt.mpr c16)
      obtain ⟨hsz, hsz60⟩ := sr_szI hSC hjs hnl
      have hm4 := sr_m4_le (sr_sz X_ js) 3
      have hm3 := sr_m43 (sr_sz X_ js)
      refine lv_iconst (v := 0) C0.1 C0.2.1 dX8_read_25 (by decide) ?_
      refine lv_istore_n (lv' := [(2, .int 0), (0, .ref (a 0)), (1, .int (nI js))]) C0.1 C0.2.1 dX8_read_26 rfl hl (by decide) rfl (fun ls hl => ?_)
      have lp27 : ∀ (n27 : Nat) (i : Nat) (H : Heap) (locs : List Loc) (ls : Array Slot), (i ≤ sr_m4 (sr_sz X_ js) 3) → (sr_m4 (sr_sz X_ js) 3 + 1 ≤ i + n27) → (sr_rdc X_ js = sr_rn (X_ (6 + js)) (sr_m4 (sr_sz X_ js) 3 - i) i) → va_P D vwCl (sr_WM cI a (va_up kp 3 (sr_mi (X_ (6 + js)) (kp 3) i)) cx sg) H → va_S (sr_AM a) s.heap H locs → lv_has ls 3 [(2, .int (nI i)), (0, .ref (a 0)), (1, .int (nI js))] → W p l e (sr_rm 3 68) s m args below meth c H locs 0 0 Q (F0 m 27 ls []) := by
        intro n27
        induction n27 with
        | zero =>
          intro i H locs ls h_i h_n h_f hP hS hl
          exact absurd h_n (by omega)
        | succ n27 ih27 =>
          intro i H locs ls h_i h_n h_f hP hS hl
          refine lv_iload_n C0.1 C0.2.1 dX8_read_27 rfl (lv_at hl 0 rfl) ?_
          refine lv_aload_n C0.1 C0.2.1 dX8_read_28 rfl (lv_at hl 1 rfl) ?_
          refine sr_get (v := .ref (a 2)) C0 hK hP sr_inX8 sr_wM0 rfl 1 (by decide) sw_611 rfl dX8_read_29 ?_
          refine lv_iload_n C0.1 C0.2.1 dX8_read_32 rfl (lv_at hl 2 rfl) ?_
          refine sr_ald (k := js) C0 hK rfl hP sr_wM2 (nI_clamp (by omega)) (vp_in_nI (by omega) (by omega)) dX8_read_33 ?_
          refine sr_chi (hsi.trans hsz) ?_
          refine lv_icmp_ge (tgt := 62) C0.1 C0.2.1 dX8_read_34 (by decide) (fun c34 => ?_) (fun c34 => ?_)
          · have g34 : (sr_sz X_ js) ≤ i := (nI_leI (a := (sr_sz X_ js)) (b := i) (by omega) (by omega)).mp c34
            refine lv_iload_n C0.1 C0.2.1 dX8_read_62 rfl (lv_at hl 0 rfl) ?_
            have e : sr_rdc X_ js = i := by rw [h_f, show sr_m4 (sr_sz X_ js) 3 - i = 0 by omega]; rfl
            rw [← e] at hP
            exact hret _ _ _ () _ _ _ dX8_read_63 hP hS (by unfold sk_read; rw [nI_clamp (n := js) (by omega), if_neg c4, if_neg hnl]) (by unfold sp_read; rw [nI_clamp (n := js) (by omega), if_neg c4, if_neg hnl, e]) trivial
          · have g34 : ¬ ((sr_sz X_ js) ≤ i) := fun q => c34 ((nI_leI (a := (sr_sz X_ js)) (b := i) (by omega) (by omega)).mpr q)
            refine lv_aload_n C0.1 C0.2.1 dX8_read_37 rfl (lv_at hl 1 rfl) ?_
            refine lv_iload_n C0.1 C0.2.1 dX8_read_38 rfl (lv_at hl 0 rfl) ?_
            refine lv_aload_n C0.1 C0.2.1 dX8_read_39 rfl (lv_at hl 1 rfl) ?_
            refine sr_get (v := .ref (a 3)) C0 hK hP sr_inX8 sr_wM0 rfl 2 (by decide) sw_612 rfl dX8_read_40 ?_
            refine lv_bipush (v := 60) C0.1 C0.2.1 dX8_read_43 (by decide) ?_
            refine lv_iload_n C0.1 C0.2.1 dX8_read_45 rfl (lv_at hl 2 rfl) ?_
            refine lv_imul C0.1 C0.2.1 dX8_read_46 ?_
            refine sr_chi (pk_mul 60 js) ?_
            refine lv_iload_n C0.1 C0.2.1 dX8_read_47 rfl (lv_at hl 0 rfl) ?_
            refine lv_iadd C0.1 C0.2.1 dX8_read_48 ?_
            refine sr_chi (nI_add (60 * js) i) ?_
            refine sr_ald (k := (60 * js) + i) C0 hK rfl hP sr_wM3 (nI_clamp (by omega)) (vp_in_nI (by omega) (by omega)) dX8_read_49 ?_
            refine sr_chi (hit i (by omega)) ?_
            refine sr_gVi (As := [.int (nI i), .int (X_ (6 + js) i)]) C0 hK hP hZ (sr_Zs hZ hZ0 hS) (cc_X8_mark ha (nI i) (X_ (6 + js) i)) sk_X8_mark sv_X8_mark sw_775 (ci := 8) rfl sr_wM0 rfl rfl hl.1 (Nat.le_of_ble_eq_true rfl) (Nat.le_of_ble_eq_true rfl) (Nat.le_of_ble_eq_true rfl) dX8_read_50 ⟨Nat.zero_le _, Nat.zero_le _⟩ hS (fun u H locs hu hP hS => ?_)
            refine lv_if_lt (tgt := 62) C0.1 C0.2.1 dX8_read_53 (by decide) (fun c53 => ?_) (fun c53 => ?_)
            · have hmk := sr_mk_lt hK_ (f := X_ (6 + js)) (i := i) (by omega) c53
              rw [hmk.2] at hP
              refine lv_iload_n C0.1 C0.2.1 dX8_read_62 rfl (lv_at hl 0 rfl) ?_
              have e : sr_rdc X_ js = i := by rcases Nat.lt_or_ge i (sr_m4 (sr_sz X_ js) 3) with q | q; exact (by rw [h_f, sr_rn_s q, if_pos (hmk.1.elim (fun z => absurd z (by omega)) id)]); exact (by rw [h_f, show sr_m4 (sr_sz X_ js) 3 - i = 0 by omega]; rfl)
              rw [← e] at hP
              exact hret _ _ _ () _ _ _ dX8_read_63 hP hS (by unfold sk_read; rw [nI_clamp (n := js) (by omega), if_neg c4, if_neg hnl]) (by unfold sp_read; rw [nI_clamp (n := js) (by omega), if_neg c4, if_neg hnl, e]) trivial
            · have hmk := sr_mk_ge (f := X_ (6 + js)) (i := i) (by omega) c53
              have hi3 := hmk.1
              rw [hmk.2.2] at hP
              refine lv_iinc (v := (nI (i + 1))) (lv' := [(2, .int (nI (i + 1))), (0, .ref (a 0)), (1, .int (nI js))]) C0.1 C0.2.1 dX8_read_56 hl (k := 0) rfl (nI_1 i) (by decide) rfl (fun ls hl => ?_)
              refine lv_goto (tgt := 27) C0.1 C0.2.1 dX8_read_59 (by decide) ?_
              exact ih27 (i + 1) _ _ _ (by omega) (by omega) (by rw [h_f, sr_rn_s (by omega), if_neg hmk.2.1]) hP hS (lv_sub hl [0, 1, 2] rfl)
      exact lp27 (sr_m4 (sr_sz X_ js) 3 + 1) 0 _ _ _ (by omega) (by omega) rfl hP hS (lv_sub hl [0, 1, 2] rfl)
    · have hlost := sr_R1l (hRX _ hjs) (Int32.not_le.mp c16)
      refine lv_aload_n C0.1 C0.2.1 dX8_read_19 rfl (lv_at hl 0 rfl) ?_
      refine lv_iconst (v := 1) C0.1 C0.2.1 dX8_read_20 (by decide) ?_
      refine sr_gVi (As := [.int 1]) C0 hK hP hZ (sr_Zs hZ hZ0 hS) (cc_X8_met ha (1)) sk_X8_met sv_X8_met sw_674 (ci := 8) rfl sr_wM0 rfl rfl hl.1 (Nat.le_of_ble_eq_true rfl) (Nat.le_of_ble_eq_true rfl) (Nat.le_of_ble_eq_true rfl) dX8_read_21 ⟨Nat.zero_le _, Nat.zero_le _⟩ hS (fun u H locs hu hP hS => ?_)
      exact hret _ _ _ () _ _ _ dX8_read_24 hP hS (by unfold sk_read; rw [nI_clamp (n := js) (by omega), if_neg c4, if_pos hlost]) (by unfold sp_read; rw [nI_clamp (n := js) (by omega), if_neg c4, if_pos hlost]) trivial
  · refine lv_bipush (v := (-2)) C0.1 C0.2.1 dX8_read_7 (by decide) ?_
    exact hret _ _ _ () _ _ _ dX8_read_9 hP hS (by unfold sk_read; rw [if_pos (Classical.not_not.mp c4)]) (by unfold sp_read; rw [if_pos (Classical.not_not.mp c4)]) trivial
