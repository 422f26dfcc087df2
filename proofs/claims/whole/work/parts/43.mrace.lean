set_option maxRecDepth 100000 in
set_option maxHeartbeats 4000000 in
theorem cc_X8_takesOf {l : Launch} {D : va_G} {cI : ClassId} {a : Nat → Nat} (ha : ∀ i j, i < 13 → j < 13 → a i = a j → i = j) {kp cx sg : sr_M} (r_ : Nat) (us : Nat) (y_ : Int32) (hRD : sr_RD kp sg) (hr_r_ : r_ < sr_cnt kp) (hs_us : us < 4) : sr_P l D (sr_tM cI) (sr_ZM) (sr_WM cI a kp cx sg) yX8_takesOf cX8_takesOf 6 (some .int) 1 21 [.ref (a 0), .int (nI r_), .int (nI us), .int y_] (some (.int (sr_T kp r_ us y_))) := by
  refine sr_Pie (by decide +kernel) (Nat.le_of_ble_eq_true rfl) (fun p e s m args below meth c ls Q B hret => ?_)
  obtain ⟨C0, hP, hK, hZ0, hl⟩ := B
  have hZ : sr_Zok (sr_AM a) (sr_ZM) := sr_ZMok
  have hS : va_S (sr_AM a) s.heap s.heap [] := va_S.rf
  have hl : lv_has ls 6 [(0, .ref (a 0)), (1, .int (nI r_)), (2, .int (nI us)), (3, .int y_)] := hl
  have hc5 := sr_cnt5 kp
  refine lv_iload_n C0.1 C0.2.1 dX8_takesOf_0 rfl (lv_at hl 3 rfl) ?_
  refine lv_iconst (v := 4) C0.1 C0.2.1 dX8_takesOf_1 (by decide) ?_
  refine lv_aload_n C0.1 C0.2.1 dX8_takesOf_2 rfl (lv_at hl 0 rfl) ?_
  refine sr_get (v := .ref (a 6)) C0 hK hP sr_inX8 sr_wM0 rfl 9 (by decide) sw_619 rfl dX8_takesOf_3 ?_
  refine lv_iconst (v := 4) C0.1 C0.2.1 dX8_takesOf_6 (by decide) ?_
  refine lv_iload_n C0.1 C0.2.1 dX8_takesOf_7 rfl (lv_at hl 1 rfl) ?_
  refine lv_imul C0.1 C0.2.1 dX8_takesOf_8 ?_
  refine sr_chi (pk_mul 4 r_) ?_
  refine lv_iconst (v := 2) C0.1 C0.2.1 dX8_takesOf_9 (by decide) ?_
  refine lv_iadd C0.1 C0.2.1 dX8_takesOf_10 ?_
  refine sr_chi (nI_add (4 * r_) 2) ?_
  refine sr_ald (k := (4 * r_) + 2) C0 hK rfl hP sr_wM6 (nI_clamp (by omega)) (vp_in_nI (by omega) (by omega)) dX8_takesOf_11 ?_
  refine sr_chi (hRD.2 r_ (by first | assumption | omega | exact sr_th_at hT (by omega)) 2 (by omega)) ?_
  refine lv_imul C0.1 C0.2.1 dX8_takesOf_12 ?_
  refine sr_pSi (As := [.int y_, .int (4 * (sr_fig kp r_ 2))]) C0 hK hP hZ hZ0 (cc_X8_lesser ha y_ (4 * (sr_fig kp r_ 2))) sk_X8_lesser (ss_X8_lesser) sw_785 rfl rfl hl.1 (Nat.le_of_ble_eq_true rfl) (Nat.le_of_ble_eq_true rfl) (Nat.le_of_ble_eq_true rfl) dX8_takesOf_13 ⟨Nat.zero_le _, Nat.zero_le _⟩ ?_
  refine lv_istore (lv' := [(4, .int (if y_ < (4 * (sr_fig kp r_ 2)) then y_ else (4 * (sr_fig kp r_ 2)))), (0, .ref (a 0)), (1, .int (nI r_)), (2, .int (nI us)), (3, .int y_)]) C0.1 C0.2.1 dX8_takesOf_16 hl (by decide) rfl (fun ls hl => ?_)
  refine lv_aload_n C0.1 C0.2.1 dX8_takesOf_18 rfl (lv_at hl 1 rfl) ?_
  refine sr_get (v := .ref (a 8)) C0 hK hP sr_inX8 sr_wM0 rfl 11 (by decide) sw_621 rfl dX8_takesOf_19 ?_
  refine lv_iconst (v := 3) C0.1 C0.2.1 dX8_takesOf_22 (by decide) ?_
  refine sr_ald (k := 3) C0 hK rfl hP sr_wM8 (by decide) (sr_inc (by decide)) dX8_takesOf_23 ?_
  refine lv_iload_n C0.1 C0.2.1 dX8_takesOf_24 rfl (lv_at hl 3 rfl) ?_
  refine lv_iconst (v := 2) C0.1 C0.2.1 dX8_takesOf_25 (by decide) ?_
  refine lv_irem C0.1 C0.2.1 dX8_takesOf_26 (by decide) ?_
  refine sr_chi (pk_rem (a := us) (d := 2) (by omega) (by omega) (by omega)) ?_
  have hJ40 : ∀ (k40_0 : Int32), k40_0 = (if (nI (us % 2)) = 0 then (kp 2 4) else 0) → W p l e (sr_rm 1 21) s m args below meth c s.heap [] 0 0 Q (F0 m 40 ls [.int k40_0, .int (kp 2 3)]) := by
    intro k40_0 e_k40_0
    subst e_k40_0
    refine sr_chi (sr_ev _ _) ?_
    refine lv_iadd C0.1 C0.2.1 dX8_takesOf_40 ?_
    refine lv_istore (lv' := [(5, .int ((kp 2 3) + (if us % 2 = 0 then (kp 2 4) else 0))), (4, .int (if y_ < (4 * (sr_fig kp r_ 2)) then y_ else (4 * (sr_fig kp r_ 2)))), (0, .ref (a 0)), (1, .int (nI r_)), (2, .int (nI us)), (3, .int y_)]) C0.1 C0.2.1 dX8_takesOf_41 hl (by decide) rfl (fun ls hl => ?_)
    refine lv_iload C0.1 C0.2.1 dX8_takesOf_43 (lv_at hl 1 rfl) ?_
    refine lv_aload_n C0.1 C0.2.1 dX8_takesOf_45 rfl (lv_at hl 2 rfl) ?_
    refine sr_get (v := .ref (a 6)) C0 hK hP sr_inX8 sr_wM0 rfl 9 (by decide) sw_619 rfl dX8_takesOf_46 ?_
    refine lv_iconst (v := 4) C0.1 C0.2.1 dX8_takesOf_49 (by decide) ?_
    refine lv_iload_n C0.1 C0.2.1 dX8_takesOf_50 rfl (lv_at hl 3 rfl) ?_
    refine lv_imul C0.1 C0.2.1 dX8_takesOf_51 ?_
    refine sr_chi (pk_mul 4 r_) ?_
    refine lv_iconst (v := 1) C0.1 C0.2.1 dX8_takesOf_52 (by decide) ?_
    refine lv_iadd C0.1 C0.2.1 dX8_takesOf_53 ?_
    refine sr_chi (nI_add (4 * r_) 1) ?_
    refine sr_ald (k := (4 * r_) + 1) C0 hK rfl hP sr_wM6 (nI_clamp (by omega)) (vp_in_nI (by omega) (by omega)) dX8_takesOf_54 ?_
    refine sr_chi (hRD.2 r_ (by first | assumption | omega | exact sr_th_at hT (by omega)) 1 (by omega)) ?_
    refine lv_imul C0.1 C0.2.1 dX8_takesOf_55 ?_
    refine lv_iload_n C0.1 C0.2.1 dX8_takesOf_56 rfl (lv_at hl 5 rfl) ?_
    refine lv_iload C0.1 C0.2.1 dX8_takesOf_57 (lv_at hl 1 rfl) ?_
    refine lv_isub C0.1 C0.2.1 dX8_takesOf_59 ?_
    refine lv_aload_n C0.1 C0.2.1 dX8_takesOf_60 rfl (lv_at hl 2 rfl) ?_
    refine sr_get (v := .ref (a 6)) C0 hK hP sr_inX8 sr_wM0 rfl 9 (by decide) sw_619 rfl dX8_takesOf_61 ?_
    refine lv_iconst (v := 4) C0.1 C0.2.1 dX8_takesOf_64 (by decide) ?_
    refine lv_iload_n C0.1 C0.2.1 dX8_takesOf_65 rfl (lv_at hl 3 rfl) ?_
    refine lv_imul C0.1 C0.2.1 dX8_takesOf_66 ?_
    refine sr_chi (pk_mul 4 r_) ?_
    refine sr_ald (k := 4 * r_) C0 hK rfl hP sr_wM6 (nI_clamp (by omega)) (vp_in_nI (by omega) (by omega)) dX8_takesOf_67 ?_
    refine sr_chi (hRD.2 r_ (by first | assumption | omega | exact sr_th_at hT (by omega)) 0 (by omega)) ?_
    refine lv_imul C0.1 C0.2.1 dX8_takesOf_68 ?_
    refine lv_iadd C0.1 C0.2.1 dX8_takesOf_69 ?_
    refine lv_iload_n C0.1 C0.2.1 dX8_takesOf_70 rfl (lv_at hl 5 rfl) ?_
    refine lv_iload C0.1 C0.2.1 dX8_takesOf_71 (lv_at hl 0 rfl) ?_
    refine lv_imul C0.1 C0.2.1 dX8_takesOf_73 ?_
    refine lv_iadd C0.1 C0.2.1 dX8_takesOf_74 ?_
    exact hret _ _ _ dX8_takesOf_75 rfl
  refine lv_if_ne (tgt := 39) C0.1 C0.2.1 dX8_takesOf_27 (by decide) (fun c27 => ?_) (fun c27 => ?_)
  · have g27 : ¬ (us % 2 = 0) := fun q => c27 ((nI_eq (a := (us % 2)) (b := 0) (by omega) (by omega)).mpr q)
    refine lv_iconst (v := 0) C0.1 C0.2.1 dX8_takesOf_39 (by decide) ?_
    exact hJ40 _ (by rw [if_neg c27])
  · have g27 : us % 2 = 0 := (nI_eq (a := (us % 2)) (b := 0) (by omega) (by omega)).mp c27
    refine lv_aload_n C0.1 C0.2.1 dX8_takesOf_30 rfl (lv_at hl 1 rfl) ?_
    refine sr_get (v := .ref (a 8)) C0 hK hP sr_inX8 sr_wM0 rfl 11 (by decide) sw_621 rfl dX8_takesOf_31 ?_
    refine lv_iconst (v := 4) C0.1 C0.2.1 dX8_takesOf_34 (by decide) ?_
    refine sr_ald (k := 4) C0 hK rfl hP sr_wM8 (by decide) (sr_inc (by decide)) dX8_takesOf_35 ?_
    refine lv_goto (tgt := 40) C0.1 C0.2.1 dX8_takesOf_36 (by decide) ?_
    exact hJ40 _ (by rw [if_pos c27])
set_option maxRecDepth 100000 in
set_option maxHeartbeats 4000000 in
theorem cc_X8_delay {l : Launch} {D : va_G} {cI : ClassId} {a : Nat → Nat} (ha : ∀ i j, i < 13 → j < 13 → a i = a j → i = j) {kp cx sg : sr_M} (r_ : Nat) (us : Nat) (mk : Int32) (sl : Int32) (hRD : sr_RD kp sg) (hr_r_ : r_ < sr_cnt kp) (hs_us : us < 4) : sr_P l D (sr_tM cI) (sr_ZM) (sr_WM cI a kp cx sg) yX8_delay cX8_delay 6 (some .int) 2 46 [.ref (a 0), .int (nI r_), .int (nI us), .int mk, .int sl] (some (.int (sr_Dl kp r_ us mk sl))) := by
  refine sr_Pie (by decide +kernel) (Nat.le_of_ble_eq_true rfl) (fun p e s m args below meth c ls Q B hret => ?_)
  obtain ⟨C0, hP, hK, hZ0, hl⟩ := B
  have hZ : sr_Zok (sr_AM a) (sr_ZM) := sr_ZMok
  have hS : va_S (sr_AM a) s.heap s.heap [] := va_S.rf
  have hl : lv_has ls 6 [(0, .ref (a 0)), (1, .int (nI r_)), (2, .int (nI us)), (3, .int mk), (4, .int sl)] := hl
  refine lv_aload_n C0.1 C0.2.1 dX8_delay_0 rfl (lv_at hl 0 rfl) ?_
  refine sr_get (v := .ref (a 8)) C0 hK hP sr_inX8 sr_wM0 rfl 11 (by decide) sw_621 rfl dX8_delay_1 ?_
  refine lv_iconst (v := 2) C0.1 C0.2.1 dX8_delay_4 (by decide) ?_
  refine sr_ald (k := 2) C0 hK rfl hP sr_wM8 (by decide) (sr_inc (by decide)) dX8_delay_5 ?_
  refine lv_iload C0.1 C0.2.1 dX8_delay_6 (lv_at hl 4 rfl) ?_
  refine lv_iadd C0.1 C0.2.1 dX8_delay_8 ?_
  refine lv_istore (lv' := [(5, .int ((kp 2 2) + sl)), (0, .ref (a 0)), (1, .int (nI r_)), (2, .int (nI us)), (3, .int mk), (4, .int sl)]) C0.1 C0.2.1 dX8_delay_9 hl (by decide) rfl (fun ls hl => ?_)
  refine lv_aload_n C0.1 C0.2.1 dX8_delay_11 rfl (lv_at hl 1 rfl) ?_
  refine lv_iload_n C0.1 C0.2.1 dX8_delay_12 rfl (lv_at hl 2 rfl) ?_
  refine lv_iload_n C0.1 C0.2.1 dX8_delay_13 rfl (lv_at hl 3 rfl) ?_
  refine lv_bipush (v := 100) C0.1 C0.2.1 dX8_delay_14 (by decide) ?_
  refine lv_iload_n C0.1 C0.2.1 dX8_delay_16 rfl (lv_at hl 4 rfl) ?_
  refine lv_isub C0.1 C0.2.1 dX8_delay_17 ?_
  refine sr_pVi (As := [.int (nI r_), .int (nI us), .int (100 - mk)]) C0 hK hP hZ hZ0 (cc_X8_takesOf ha r_ us (100 - mk) hRD (by first | assumption | omega | exact sr_th_at hT (by omega)) (by omega)) sk_X8_takesOf sv_X8_takesOf sw_781 (ci := 8) rfl sr_wM0 rfl rfl hl.1 (Nat.le_of_ble_eq_true rfl) (Nat.le_of_ble_eq_true rfl) (Nat.le_of_ble_eq_true rfl) dX8_delay_18 ⟨Nat.zero_le _, Nat.zero_le _⟩ ?_
  refine lv_iload C0.1 C0.2.1 dX8_delay_21 (lv_at hl 0 rfl) ?_
  have hJ32 : ∀ (k32_0 : Int32), k32_0 = (if 0 ≤ ((kp 2 2) + sl) then ((kp 2 2) + sl) else 0) → W p l e (sr_rm 2 46) s m args below meth c s.heap [] 0 0 Q (F0 m 32 ls [.int k32_0, .int (sr_T kp r_ us (100 - mk))]) := by
    intro k32_0 e_k32_0
    subst e_k32_0
    refine sr_chi (sr_wa_e kp sl) ?_
    refine lv_iadd C0.1 C0.2.1 dX8_delay_32 ?_
    exact hret _ _ _ dX8_delay_33 rfl
  refine lv_if_ge (tgt := 30) C0.1 C0.2.1 dX8_delay_23 (by decide) (fun c23 => ?_) (fun c23 => ?_)
  · refine lv_iload C0.1 C0.2.1 dX8_delay_30 (lv_at hl 0 rfl) ?_
    exact hJ32 _ (by rw [if_pos c23])
  · refine lv_iconst (v := 0) C0.1 C0.2.1 dX8_delay_26 (by decide) ?_
    refine lv_goto (tgt := 32) C0.1 C0.2.1 dX8_delay_27 (by decide) ?_
    exact hJ32 _ (by rw [if_neg c23])
set_option maxRecDepth 100000 in
set_option maxHeartbeats 4000000 in
theorem cc_X8_meetBy {l : Launch} {D : va_G} {cI : ClassId} {a : Nat → Nat} (ha : ∀ i j, i < 13 → j < 13 → a i = a j → i = j) {kp cx sg : sr_M} (co : Nat) (go : Nat) (cn : Nat) (mk : Int32) (sl : Int32) (hK_ : sr_IK kp) (hRD : sr_RD kp sg) (hr_co : co < sr_cnt kp) (hr_go : go < sr_cnt kp) (hs_cn : cn < 3) : sr_P l D (sr_tM cI) (sr_ZM) (sr_WM cI a kp cx sg) yX8_meetBy cX8_meetBy 8 (some .int) 3 71 [.ref (a 0), .int (nI co), .int (nI go), .int (nI cn), .int mk, .int sl] (some (.int (sr_mt kp co go cn mk sl))) := by
  refine sr_Pie (by decide +kernel) (Nat.le_of_ble_eq_true rfl) (fun p e s m args below meth c ls Q B hret => ?_)
  obtain ⟨C0, hP, hK, hZ0, hl⟩ := B
  have hZ : sr_Zok (sr_AM a) (sr_ZM) := sr_ZMok
  have hS : va_S (sr_AM a) s.heap s.heap [] := va_S.rf
  have hl : lv_has ls 8 [(0, .ref (a 0)), (1, .int (nI co)), (2, .int (nI go)), (3, .int (nI cn)), (4, .int mk), (5, .int sl)] := hl
  have hz := sr_IK_zo5 hK_
  refine lv_aload_n C0.1 C0.2.1 dX8_meetBy_0 rfl (lv_at hl 0 rfl) ?_
  refine lv_iload_n C0.1 C0.2.1 dX8_meetBy_1 rfl (lv_at hl 1 rfl) ?_
  refine lv_iload_n C0.1 C0.2.1 dX8_meetBy_2 rfl (lv_at hl 3 rfl) ?_
  refine lv_iload C0.1 C0.2.1 dX8_meetBy_3 (lv_at hl 4 rfl) ?_
  refine lv_iload C0.1 C0.2.1 dX8_meetBy_5 (lv_at hl 5 rfl) ?_
  refine sr_pVi (As := [.int (nI co), .int (nI cn), .int mk, .int sl]) C0 hK hP hZ hZ0 (cc_X8_delay ha co cn mk sl hRD (by first | assumption | omega | exact sr_th_at hT (by omega)) (by omega)) sk_X8_delay sv_X8_delay sw_803 (ci := 8) rfl sr_wM0 rfl rfl hl.1 (Nat.le_of_ble_eq_true rfl) (Nat.le_of_ble_eq_true rfl) (Nat.le_of_ble_eq_true rfl) dX8_meetBy_7 ⟨Nat.zero_le _, Nat.zero_le _⟩ ?_
  refine lv_istore (lv' := [(6, .int (sr_Dl kp co cn mk sl)), (0, .ref (a 0)), (1, .int (nI co)), (2, .int (nI go)), (3, .int (nI cn)), (4, .int mk), (5, .int sl)]) C0.1 C0.2.1 dX8_meetBy_10 hl (by decide) rfl (fun ls hl => ?_)
  refine lv_iconst (v := 0) C0.1 C0.2.1 dX8_meetBy_12 (by decide) ?_
  refine lv_istore (lv' := [(7, .int 0), (6, .int (sr_Dl kp co cn mk sl)), (0, .ref (a 0)), (1, .int (nI co)), (2, .int (nI go)), (3, .int (nI cn)), (4, .int mk), (5, .int sl)]) C0.1 C0.2.1 dX8_meetBy_13 hl (by decide) rfl (fun ls hl => ?_)
  have lp15 : ∀ (n15 : Nat) (i : Nat) (ls : Array Slot), (i ≤ sr_zo kp + 1) → (sr_zo kp + 2 ≤ i + n15) → (sr_mt kp co go cn mk sl = sr_fx (sr_mp kp co go cn mk sl) (sr_zo kp + 1 - i) i) → lv_has ls 8 [(7, .int (nI i)), (6, .int (sr_Dl kp co cn mk sl)), (0, .ref (a 0)), (1, .int (nI co)), (2, .int (nI go)), (3, .int (nI cn)), (4, .int mk), (5, .int sl)] → W p l e (sr_rm 3 71) s m args below meth c s.heap [] 0 0 Q (F0 m 15 ls []) := by
    intro n15
    induction n15 with
    | zero =>
      intro i ls h_i h_n h_f hl
      exact absurd h_n (by omega)
    | succ n15 ih15 =>
      intro i ls h_i h_n h_f hl
      refine lv_iload C0.1 C0.2.1 dX8_meetBy_15 (lv_at hl 0 rfl) ?_
      refine lv_aload_n C0.1 C0.2.1 dX8_meetBy_17 rfl (lv_at hl 2 rfl) ?_
      refine sr_get (v := .ref (a 8)) C0 hK hP sr_inX8 sr_wM0 rfl 11 (by decide) sw_621 rfl dX8_meetBy_18 ?_
      refine lv_iconst (v := 0) C0.1 C0.2.1 dX8_meetBy_21 (by decide) ?_
      refine sr_ald (k := 0) C0 hK rfl hP sr_wM8 (by decide) (sr_inc (by decide)) dX8_meetBy_22 ?_
      refine sr_chi (sr_IK_zo hK_) ?_
      have := sr_IK_zo5 hK_
      refine lv_icmp_gt (tgt := 69) C0.1 C0.2.1 dX8_meetBy_23 (by decide) (fun c23 => ?_) (fun c23 => ?_)
      · have g23 : (sr_zo kp) < i := (nI_ltI (a := (sr_zo kp)) (b := i) (by omega) (by omega)).mp c23
        refine lv_iconst (v := (-1)) C0.1 C0.2.1 dX8_meetBy_69 (by decide) ?_
        exact hret _ _ _ dX8_meetBy_70 (by rw [h_f, show sr_zo kp + 1 - i = 0 by omega]; rfl)
      · have g23 : ¬ ((sr_zo kp) < i) := fun q => c23 ((nI_ltI (a := (sr_zo kp)) (b := i) (by omega) (by omega)).mpr q)
        refine lv_aload_n C0.1 C0.2.1 dX8_meetBy_26 rfl (lv_at hl 2 rfl) ?_
        refine lv_iload_n C0.1 C0.2.1 dX8_meetBy_27 rfl (lv_at hl 3 rfl) ?_
        refine lv_iload_n C0.1 C0.2.1 dX8_meetBy_28 rfl (lv_at hl 5 rfl) ?_
        refine lv_bipush (v := 100) C0.1 C0.2.1 dX8_meetBy_29 (by decide) ?_
        refine lv_iload C0.1 C0.2.1 dX8_meetBy_31 (lv_at hl 0 rfl) ?_
        refine lv_iadd C0.1 C0.2.1 dX8_meetBy_33 ?_
        refine sr_chi (nI_add 100 i) ?_
        refine lv_aload_n C0.1 C0.2.1 dX8_meetBy_34 rfl (lv_at hl 2 rfl) ?_
        refine sr_get (v := .ref (a 8)) C0 hK hP sr_inX8 sr_wM0 rfl 11 (by decide) sw_621 rfl dX8_meetBy_35 ?_
        refine lv_iconst (v := 1) C0.1 C0.2.1 dX8_meetBy_38 (by decide) ?_
        refine sr_ald (k := 1) C0 hK rfl hP sr_wM8 (by decide) (sr_inc (by decide)) dX8_meetBy_39 ?_
        refine lv_isub C0.1 C0.2.1 dX8_meetBy_40 ?_
        refine sr_pVi (As := [.int (nI co), .int (nI cn), .int ((nI (100 + i)) - (kp 2 1))]) C0 hK hP hZ hZ0 (cc_X8_takesOf ha co cn ((nI (100 + i)) - (kp 2 1)) hRD (by first | assumption | omega | exact sr_th_at hT (by omega)) (by omega)) sk_X8_takesOf sv_X8_takesOf sw_781 (ci := 8) rfl sr_wM0 rfl rfl hl.1 (Nat.le_of_ble_eq_true rfl) (Nat.le_of_ble_eq_true rfl) (Nat.le_of_ble_eq_true rfl) dX8_meetBy_41 ⟨Nat.zero_le _, Nat.zero_le _⟩ ?_
        refine lv_iload C0.1 C0.2.1 dX8_meetBy_44 (lv_at hl 1 rfl) ?_
        refine lv_aload_n C0.1 C0.2.1 dX8_meetBy_46 rfl (lv_at hl 2 rfl) ?_
        refine lv_iload_n C0.1 C0.2.1 dX8_meetBy_47 rfl (lv_at hl 4 rfl) ?_
        refine lv_iload_n C0.1 C0.2.1 dX8_meetBy_48 rfl (lv_at hl 5 rfl) ?_
        refine lv_iconst (v := 1) C0.1 C0.2.1 dX8_meetBy_49 (by decide) ?_
        refine lv_iadd C0.1 C0.2.1 dX8_meetBy_50 ?_
        refine sr_chi (nI_add cn 1) ?_
        refine lv_iload C0.1 C0.2.1 dX8_meetBy_51 (lv_at hl 0 rfl) ?_
        refine sr_pVi (As := [.int (nI go), .int (nI (cn + 1)), .int (nI i)]) C0 hK hP hZ hZ0 (cc_X8_takesOf ha go (cn + 1) (nI i) hRD (by first | assumption | omega | exact sr_th_at hT (by omega)) (by omega)) sk_X8_takesOf sv_X8_takesOf sw_781 (ci := 8) rfl sr_wM0 rfl rfl hl.1 (Nat.le_of_ble_eq_true rfl) (Nat.le_of_ble_eq_true rfl) (Nat.le_of_ble_eq_true rfl) dX8_meetBy_53 ⟨Nat.zero_le _, Nat.zero_le _⟩ ?_
        refine lv_iadd C0.1 C0.2.1 dX8_meetBy_56 ?_
        refine lv_icmp_gt (tgt := 63) C0.1 C0.2.1 dX8_meetBy_57 (by decide) (fun c57 => ?_) (fun c57 => ?_)
        · have hno : ¬ sr_mp kp co go cn mk sl i = true := fun q => absurd (of_decide_eq_true q) (by rw [show (100 : Int32) + nI i = nI (100 + i) from nI_add 100 i]; exact Int32.not_le.mpr c57)
          refine lv_iinc (v := (nI (i + 1))) (lv' := [(7, .int (nI (i + 1))), (6, .int (sr_Dl kp co cn mk sl)), (0, .ref (a 0)), (1, .int (nI co)), (2, .int (nI go)), (3, .int (nI cn)), (4, .int mk), (5, .int sl)]) C0.1 C0.2.1 dX8_meetBy_63 hl (k := 0) rfl (nI_1 i) (by decide) rfl (fun ls hl => ?_)
          refine lv_goto (tgt := 15) C0.1 C0.2.1 dX8_meetBy_66 (by decide) ?_
          exact ih15 (i + 1) _ (by omega) (by omega) (by rw [h_f, sr_fx_s (by omega), if_neg hno]) (lv_sub hl [0, 1, 2, 3, 4, 5, 6, 7] rfl)
        · have hye : sr_mp kp co go cn mk sl i = true := decide_eq_true (by rw [show (100 : Int32) + nI i = nI (100 + i) from nI_add 100 i]; exact Int32.not_lt.mp c57)
          refine lv_iload C0.1 C0.2.1 dX8_meetBy_60 (lv_at hl 0 rfl) ?_
          exact hret _ _ _ dX8_meetBy_62 (by rw [h_f, sr_fx_s (by omega), if_pos hye])
  exact lp15 (sr_zo kp + 2) 0 _ (by omega) (by omega) rfl (lv_sub hl [0, 1, 2, 3, 4, 5, 6, 7] rfl)
set_option maxRecDepth 100000 in
set_option maxHeartbeats 4000000 in
theorem cc_X8_meetOf {l : Launch} {D : va_G} {cI : ClassId} {a : Nat → Nat} (ha : ∀ i j, i < 13 → j < 13 → a i = a j → i = j) {kp cx sg : sr_M} (cn : Nat) (mk : Int32) (sl : Int32) (hK_ : sr_IK kp) (hRD : sr_RD kp sg) (hT : sr_th kp) (hs_cn : cn < 3) : sr_P l D (sr_tM cI) (sr_ZM) (sr_WM cI a kp cx sg) yX8_meetOf cX8_meetOf 4 (some .int) 4 98 [.ref (a 0), .int (nI cn), .int mk, .int sl] (some (.int (sr_mt kp (sr_ru kp cn) (sr_ru kp (cn + 1)) cn mk sl))) := by
  refine sr_Pie (by decide +kernel) (Nat.le_of_ble_eq_true rfl) (fun p e s m args below meth c ls Q B hret => ?_)
  obtain ⟨C0, hP, hK, hZ0, hl⟩ := B
  have hZ : sr_Zok (sr_AM a) (sr_ZM) := sr_ZMok
  have hS : va_S (sr_AM a) s.heap s.heap [] := va_S.rf
  have hl : lv_has ls 4 [(0, .ref (a 0)), (1, .int (nI cn)), (2, .int mk), (3, .int sl)] := hl
  refine lv_aload_n C0.1 C0.2.1 dX8_meetOf_0 rfl (lv_at hl 0 rfl) ?_
  refine lv_aload_n C0.1 C0.2.1 dX8_meetOf_1 rfl (lv_at hl 0 rfl) ?_
  refine sr_get (v := .ref (a 7)) C0 hK hP sr_inX8 sr_wM0 rfl 10 (by decide) sw_620 rfl dX8_meetOf_2 ?_
  refine lv_iload_n C0.1 C0.2.1 dX8_meetOf_5 rfl (lv_at hl 1 rfl) ?_
  refine sr_ald (k := cn) C0 hK rfl hP sr_wM7 (nI_clamp (by omega)) (vp_in_nI (by omega) (by omega)) dX8_meetOf_6 ?_
  refine sr_chi (sr_IK_ru hK_ (by omega)) ?_
  have := sr_IK_ru5 hK_ (s := cn) (by omega)
  refine lv_aload_n C0.1 C0.2.1 dX8_meetOf_7 rfl (lv_at hl 0 rfl) ?_
  refine sr_get (v := .ref (a 7)) C0 hK hP sr_inX8 sr_wM0 rfl 10 (by decide) sw_620 rfl dX8_meetOf_8 ?_
  refine lv_iload_n C0.1 C0.2.1 dX8_meetOf_11 rfl (lv_at hl 1 rfl) ?_
  refine lv_iconst (v := 1) C0.1 C0.2.1 dX8_meetOf_12 (by decide) ?_
  refine lv_iadd C0.1 C0.2.1 dX8_meetOf_13 ?_
  refine sr_chi (nI_add cn 1) ?_
  refine sr_ald (k := cn + 1) C0 hK rfl hP sr_wM7 (nI_clamp (by omega)) (vp_in_nI (by omega) (by omega)) dX8_meetOf_14 ?_
  refine sr_chi (sr_IK_ru hK_ (by omega)) ?_
  have := sr_IK_ru5 hK_ (s := (cn + 1)) (by omega)
  refine lv_iload_n C0.1 C0.2.1 dX8_meetOf_15 rfl (lv_at hl 1 rfl) ?_
  refine lv_iload_n C0.1 C0.2.1 dX8_meetOf_16 rfl (lv_at hl 2 rfl) ?_
  refine lv_iload_n C0.1 C0.2.1 dX8_meetOf_17 rfl (lv_at hl 3 rfl) ?_
  refine sr_pVi (As := [.int (nI (sr_ru kp cn)), .int (nI (sr_ru kp (cn + 1))), .int (nI cn), .int mk, .int sl]) C0 hK hP hZ hZ0 (cc_X8_meetBy ha (sr_ru kp cn) (sr_ru kp (cn + 1)) cn mk sl hK_ hRD (by first | assumption | omega | exact sr_th_at hT (by omega)) (by first | assumption | omega | exact sr_th_at hT (by omega)) (by omega)) sk_X8_meetBy sv_X8_meetBy sw_819 (ci := 8) rfl sr_wM0 rfl rfl hl.1 (Nat.le_of_ble_eq_true rfl) (Nat.le_of_ble_eq_true rfl) (Nat.le_of_ble_eq_true rfl) dX8_meetOf_18 ⟨Nat.zero_le _, Nat.zero_le _⟩ ?_
  exact hret _ _ _ dX8_meetOf_21 rfl
set_option maxRecDepth 100000 in
set_option maxHeartbeats 4000000 in
theorem cc_X8_goesOff {l : Launch} {D : va_G} {cI : ClassId} {a : Nat → Nat} (ha : ∀ i j, i < 13 → j < 13 → a i = a j → i = j) {kp cx sg : sr_M} (us : Nat) (hK_ : sr_IK kp) (hRD : sr_RD kp sg) (hT : sr_th kp) (hs_us : us < 4) : sr_P l D (sr_tM cI) (sr_ZM) (sr_WM cI a kp cx sg) yX8_goesOff cX8_goesOff 4 (some .int) 3 71 [.ref (a 0), .int (nI us)] (some (.int (sr_gs kp us))) := by
  refine sr_Pie (by decide +kernel) (Nat.le_of_ble_eq_true rfl) (fun p e s m args below meth c ls Q B hret => ?_)
  obtain ⟨C0, hP, hK, hZ0, hl⟩ := B
  have hZ : sr_Zok (sr_AM a) (sr_ZM) := sr_ZMok
  have hS : va_S (sr_AM a) s.heap s.heap [] := va_S.rf
  have hl : lv_has ls 4 [(0, .ref (a 0)), (1, .int (nI us))] := hl
  refine lv_iconst (v := 0) C0.1 C0.2.1 dX8_goesOff_0 (by decide) ?_
  refine lv_istore_n (lv' := [(2, .int 0), (0, .ref (a 0)), (1, .int (nI us))]) C0.1 C0.2.1 dX8_goesOff_1 rfl hl (by decide) rfl (fun ls hl => ?_)
  refine lv_iconst (v := 0) C0.1 C0.2.1 dX8_goesOff_2 (by decide) ?_
  refine lv_istore_n (lv' := [(3, .int 0), (2, .int 0), (0, .ref (a 0)), (1, .int (nI us))]) C0.1 C0.2.1 dX8_goesOff_3 rfl hl (by decide) rfl (fun ls hl => ?_)
  have lp4 : ∀ (n4 : Nat) (i : Nat) (ls : Array Slot), (i ≤ us) → (us + 1 ≤ i + n4) → lv_has ls 4 [(3, .int (nI i)), (2, .int (sr_gs kp i)), (0, .ref (a 0)), (1, .int (nI us))] → W p l e (sr_rm 3 71) s m args below meth c s.heap [] 0 0 Q (F0 m 4 ls []) := by
    intro n4
    induction n4 with
    | zero =>
      intro i ls h_i h_n hl
      exact absurd h_n (by omega)
    | succ n4 ih4 =>
      intro i ls h_i h_n hl
      refine lv_iload_n C0.1 C0.2.1 dX8_goesOff_4 rfl (lv_at hl 0 rfl) ?_
      refine lv_iload_n C0.1 C0.2.1 dX8_goesOff_5 rfl (lv_at hl 3 rfl) ?_
      refine lv_icmp_ge (tgt := 41) C0.1 C0.2.1 dX8_goesOff_6 (by decide) (fun c6 => ?_) (fun c6 => ?_)
      · have g6 : us ≤ i := (nI_leI (a := us) (b := i) (by omega) (by omega)).mp c6
        refine lv_iload_n C0.1 C0.2.1 dX8_goesOff_41 rfl (lv_at hl 1 rfl) ?_
        exact hret _ _ _ dX8_goesOff_42 (by rw [show us = i by omega])
      · have g6 : ¬ (us ≤ i) := fun q => c6 ((nI_leI (a := us) (b := i) (by omega) (by omega)).mpr q)
        refine lv_iload_n C0.1 C0.2.1 dX8_goesOff_9 rfl (lv_at hl 1 rfl) ?_
        refine lv_aload_n C0.1 C0.2.1 dX8_goesOff_10 rfl (lv_at hl 2 rfl) ?_
        refine lv_aload_n C0.1 C0.2.1 dX8_goesOff_11 rfl (lv_at hl 2 rfl) ?_
        refine sr_get (v := .ref (a 7)) C0 hK hP sr_inX8 sr_wM0 rfl 10 (by decide) sw_620 rfl dX8_goesOff_12 ?_
        refine lv_iload_n C0.1 C0.2.1 dX8_goesOff_15 rfl (lv_at hl 0 rfl) ?_
        refine sr_ald (k := i) C0 hK rfl hP sr_wM7 (nI_clamp (by omega)) (vp_in_nI (by omega) (by omega)) dX8_goesOff_16 ?_
        refine sr_chi (sr_IK_ru hK_ (by omega)) ?_
        have := sr_IK_ru5 hK_ (s := i) (by omega)
        refine lv_iload_n C0.1 C0.2.1 dX8_goesOff_17 rfl (lv_at hl 0 rfl) ?_
        refine lv_aload_n C0.1 C0.2.1 dX8_goesOff_18 rfl (lv_at hl 2 rfl) ?_
        refine sr_get (v := .ref (a 9)) C0 hK hP sr_inX8 sr_wM0 rfl 12 (by decide) sw_622 rfl dX8_goesOff_19 ?_
        refine lv_iload_n C0.1 C0.2.1 dX8_goesOff_22 rfl (lv_at hl 0 rfl) ?_
        refine sr_ald (k := i) C0 hK rfl hP sr_wM9 (nI_clamp (by omega)) (vp_in_nI (by omega) (by omega)) dX8_goesOff_23 ?_
        refine lv_aload_n C0.1 C0.2.1 dX8_goesOff_24 rfl (lv_at hl 2 rfl) ?_
        refine sr_get (v := .ref (a 10)) C0 hK hP sr_inX8 sr_wM0 rfl 13 (by decide) sw_623 rfl dX8_goesOff_25 ?_
        refine lv_iload_n C0.1 C0.2.1 dX8_goesOff_28 rfl (lv_at hl 0 rfl) ?_
        refine sr_ald (k := i) C0 hK rfl hP sr_wM10 (nI_clamp (by omega)) (vp_in_nI (by omega) (by omega)) dX8_goesOff_29 ?_
        refine sr_pVi (As := [.int (nI (sr_ru kp i)), .int (nI i), .int (kp 3 i), .int (kp 4 i)]) C0 hK hP hZ hZ0 (cc_X8_delay ha (sr_ru kp i) i (kp 3 i) (kp 4 i) hRD (by first | assumption | omega | exact sr_th_at hT (by omega)) (by omega)) sk_X8_delay sv_X8_delay sw_803 (ci := 8) rfl sr_wM0 rfl rfl hl.1 (Nat.le_of_ble_eq_true rfl) (Nat.le_of_ble_eq_true rfl) (Nat.le_of_ble_eq_true rfl) dX8_goesOff_30 ⟨Nat.zero_le _, Nat.zero_le _⟩ ?_
        refine lv_iadd C0.1 C0.2.1 dX8_goesOff_33 ?_
        refine lv_istore_n (lv' := [(2, .int ((sr_gs kp i) + (sr_Dl kp (sr_ru kp i) i (kp 3 i) (kp 4 i)))), (3, .int (nI i)), (0, .ref (a 0)), (1, .int (nI us))]) C0.1 C0.2.1 dX8_goesOff_34 rfl hl (by decide) rfl (fun ls hl => ?_)
        refine lv_iinc (v := (nI (i + 1))) (lv' := [(3, .int (nI (i + 1))), (2, .int ((sr_gs kp i) + (sr_Dl kp (sr_ru kp i) i (kp 3 i) (kp 4 i)))), (0, .ref (a 0)), (1, .int (nI us))]) C0.1 C0.2.1 dX8_goesOff_35 hl (k := 1) rfl (nI_1 i) (by decide) rfl (fun ls hl => ?_)
        refine lv_goto (tgt := 4) C0.1 C0.2.1 dX8_goesOff_38 (by decide) ?_
        exact ih4 (i + 1) _ (by omega) (by omega) (lv_sub hl [0, 1, 2, 3] rfl)
  exact lp4 (us + 1) 0 _ (by omega) (by omega) (lv_sub hl [0, 1, 2, 3] rfl)
set_option maxRecDepth 100000 in
set_option maxHeartbeats 4000000 in
theorem cc_X8_areThere {l : Launch} {D : va_G} {cI : ClassId} {a : Nat → Nat} (ha : ∀ i j, i < 13 → j < 13 → a i = a j → i = j) {kp cx sg : sr_M} (hK_ : sr_IK kp) : sr_G l D (sr_tM cI) (sr_ZM) (sr_AM a) (sr_WM cI a kp cx sg) yX8_areThere cX8_areThere 3 (some .boolean) 3 70 [.ref (a 0)] (S := sr_M) (fun u => sr_RD kp u) (fun u => sr_WM cI a kp cx u) (fun u => some (.int (if sr_th kp then 1 else 0))) := by
  refine sr_Gze (by decide +kernel) (Nat.le_of_ble_eq_true rfl) (fun p e s m args below meth c ls Q B hret => ?_)
  obtain ⟨C0, hP, hK, hZ0, hl⟩ := B
  have hZ : sr_Zok (sr_AM a) (sr_ZM) := sr_ZMok
  have hS : va_S (sr_AM a) s.heap s.heap [] := va_S.rf
  have hl : lv_has ls 3 [(0, .ref (a 0))] := hl
  obtain ⟨H, hH⟩ : ∃ H, H = s.heap := ⟨_, rfl⟩
  have hP : va_P D vwCl (sr_WM cI a kp cx sg) H := by rw [hH]; exact hP
  have hS : va_S (sr_AM a) s.heap H [] := by rw [hH]; exact hS
  suffices hG : ∀ locs, va_S (sr_AM a) s.heap H locs → W p l e (sr_rm 3 70) s m args below meth c H locs 0 0 Q (F0 m 0 ls []) from by have h9 := hG [] hS; rw [hH] at h9; exact h9
  clear hS
  intro locs hS
  clear hH
  have hc5 := sr_cnt5 kp
  have r0 := sr_IK_ru5 hK_ (s := 0) (by omega)
  have r1 := sr_IK_ru5 hK_ (s := 1) (by omega)
  have r2 := sr_IK_ru5 hK_ (s := 2) (by omega)
  have r3 := sr_IK_ru5 hK_ (s := 3) (by omega)
  refine lv_aload_n C0.1 C0.2.1 dX8_areThere_0 rfl (lv_at hl 0 rfl) ?_
  refine sr_gVi (As := []) C0 hK hP hZ (sr_Zs hZ hZ0 hS) (cc_X8_reads ha hK_) sk_X8_reads sv_X8_reads sw_719 (ci := 8) rfl sr_wM0 rfl rfl hl.1 (Nat.le_of_ble_eq_true rfl) (Nat.le_of_ble_eq_true rfl) (Nat.le_of_ble_eq_true rfl) dX8_areThere_1 ⟨Nat.zero_le _, Nat.zero_le _⟩ hS (fun sg1 H locs hRD hP hS => ?_)
  refine lv_pop C0.1 C0.2.1 dX8_areThere_4 rfl ?_
  refine lv_iconst (v := 1) C0.1 C0.2.1 dX8_areThere_5 (by decide) ?_
  refine lv_istore_n (lv' := [(1, .int 1), (0, .ref (a 0))]) C0.1 C0.2.1 dX8_areThere_6 rfl hl (by decide) rfl (fun ls hl => ?_)
  refine lv_iconst (v := 0) C0.1 C0.2.1 dX8_areThere_7 (by decide) ?_
  refine lv_istore_n (lv' := [(2, .int 0), (1, .int 1), (0, .ref (a 0))]) C0.1 C0.2.1 dX8_areThere_8 rfl hl (by decide) rfl (fun ls hl => ?_)
  refine lv_iload_n C0.1 C0.2.1 dX8_areThere_9 rfl (lv_at hl 0 rfl) ?_
  refine lv_iconst (v := 4) C0.1 C0.2.1 dX8_areThere_10 (by decide) ?_
  refine lv_icmp_ge (tgt := 43) C0.1 C0.2.1 dX8_areThere_11 (by decide) (fun q => absurd q (by decide)) (fun _ => ?_)
  refine lv_iload_n C0.1 C0.2.1 dX8_areThere_14 rfl (lv_at hl 1 rfl) ?_
  refine lv_if_eq (tgt := 35) C0.1 C0.2.1 dX8_areThere_15 (by decide) (fun q => absurd q (by decide)) (fun _ => ?_)
  refine lv_aload_n C0.1 C0.2.1 dX8_areThere_18 rfl (lv_at hl 2 rfl) ?_
  refine sr_get (v := .ref (a 7)) C0 hK hP sr_inX8 sr_wM0 rfl 10 (by decide) sw_620 rfl dX8_areThere_19 ?_
  refine lv_iload_n C0.1 C0.2.1 dX8_areThere_22 rfl (lv_at hl 0 rfl) ?_
  refine sr_ald (k := 0) C0 hK rfl hP sr_wM7 (by decide) (sr_inc (by decide)) dX8_areThere_23 ?_
  refine sr_chi (sr_IK_ru hK_ (by omega)) ?_
  have := sr_IK_ru5 hK_ (s := 0) (by omega)
  refine lv_aload_n C0.1 C0.2.1 dX8_areThere_24 rfl (lv_at hl 2 rfl) ?_
  refine sr_get (v := .int (sg1 1 1)) C0 hK hP sr_inX8 sr_wM0 rfl 8 (by decide) sw_618 rfl dX8_areThere_25 ?_
  refine sr_chi hRD.1 ?_
  have := sr_cnt5 kp
  have hJ36 : ∀ (k36_0 : Int32), k36_0 = (if ¬ ((nI (sr_cnt kp)) ≤ (nI (sr_ru kp 0))) then 1 else 0) → W p l e (sr_rm 3 70) s m args below meth c H locs 0 0 Q (F0 m 36 ls [.int k36_0]) := by
    intro k36_0 e_k36_0
    subst e_k36_0
    refine lv_istore_n (lv' := [(1, .int (if ¬ ((nI (sr_cnt kp)) ≤ (nI (sr_ru kp 0))) then 1 else 0)), (2, .int 0), (0, .ref (a 0))]) C0.1 C0.2.1 dX8_areThere_36 rfl hl (by decide) rfl (fun ls hl => ?_)
    refine lv_iinc (v := 1) (lv' := [(2, .int 1), (1, .int (if ¬ ((nI (sr_cnt kp)) ≤ (nI (sr_ru kp 0))) then 1 else 0)), (0, .ref (a 0))]) C0.1 C0.2.1 dX8_areThere_37 hl (k := 1) rfl (by decide) (by decide) rfl (fun ls hl => ?_)
    refine lv_goto (tgt := 9) C0.1 C0.2.1 dX8_areThere_40 (by decide) ?_
    refine lv_iload_n C0.1 C0.2.1 dX8_areThere_9 rfl (lv_at hl 0 rfl) ?_
    refine lv_iconst (v := 4) C0.1 C0.2.1 dX8_areThere_10 (by decide) ?_
    refine lv_icmp_ge (tgt := 43) C0.1 C0.2.1 dX8_areThere_11 (by decide) (fun q => absurd q (by decide)) (fun _ => ?_)
    refine lv_iload_n C0.1 C0.2.1 dX8_areThere_14 rfl (lv_at hl 1 rfl) ?_
    have hJ36_2 : ∀ (k36_0 : Int32), k36_0 = (if (¬ ((nI (sr_cnt kp)) ≤ (nI (sr_ru kp 0)))) ∧ (¬ ((nI (sr_cnt kp)) ≤ (nI (sr_ru kp 1)))) then 1 else 0) → W p l e (sr_rm 3 70) s m args below meth c H locs 0 0 Q (F0 m 36 ls [.int k36_0]) := by
      intro k36_0 e_k36_0
      subst e_k36_0
      refine lv_istore_n (lv' := [(1, .int (if (¬ ((nI (sr_cnt kp)) ≤ (nI (sr_ru kp 0)))) ∧ (¬ ((nI (sr_cnt kp)) ≤ (nI (sr_ru kp 1)))) then 1 else 0)), (2, .int 1), (0, .ref (a 0))]) C0.1 C0.2.1 dX8_areThere_36 rfl hl (by decide) rfl (fun ls hl => ?_)
      refine lv_iinc (v := 2) (lv' := [(2, .int 2), (1, .int (if (¬ ((nI (sr_cnt kp)) ≤ (nI (sr_ru kp 0)))) ∧ (¬ ((nI (sr_cnt kp)) ≤ (nI (sr_ru kp 1)))) then 1 else 0)), (0, .ref (a 0))]) C0.1 C0.2.1 dX8_areThere_37 hl (k := 1) rfl (by decide) (by decide) rfl (fun ls hl => ?_)
      refine lv_goto (tgt := 9) C0.1 C0.2.1 dX8_areThere_40 (by decide) ?_
      refine lv_iload_n C0.1 C0.2.1 dX8_areThere_9 rfl (lv_at hl 0 rfl) ?_
      refine lv_iconst (v := 4) C0.1 C0.2.1 dX8_areThere_10 (by decide) ?_
      refine lv_icmp_ge (tgt := 43) C0.1 C0.2.1 dX8_areThere_11 (by decide) (fun q => absurd q (by decide)) (fun _ => ?_)
      refine lv_iload_n C0.1 C0.2.1 dX8_areThere_14 rfl (lv_at hl 1 rfl) ?_
      have hJ36_3 : ∀ (k36_0 : Int32), k36_0 = (if ((¬ ((nI (sr_cnt kp)) ≤ (nI (sr_ru kp 0)))) ∧ (¬ ((nI (sr_cnt kp)) ≤ (nI (sr_ru kp 1))))) ∧ (¬ ((nI (sr_cnt kp)) ≤ (nI (sr_ru kp 2)))) then 1 else 0) → W p l e (sr_rm 3 70) s m args below meth c H locs 0 0 Q (F0 m 36 ls [.int k36_0]) := by
        intro k36_0 e_k36_0
        subst e_k36_0
        refine lv_istore_n (lv' := [(1, .int (if ((¬ ((nI (sr_cnt kp)) ≤ (nI (sr_ru kp 0)))) ∧ (¬ ((nI (sr_cnt kp)) ≤ (nI (sr_ru kp 1))))) ∧ (¬ ((nI (sr_cnt kp)) ≤ (nI (sr_ru kp 2)))) then 1 else 0)), (2, .int 2), (0, .ref (a 0))]) C0.1 C0.2.1 dX8_areThere_36 rfl hl (by decide) rfl (fun ls hl => ?_)
        refine lv_iinc (v := 3) (lv' := [(2, .int 3), (1, .int (if ((¬ ((nI (sr_cnt kp)) ≤ (nI (sr_ru kp 0)))) ∧ (¬ ((nI (sr_cnt kp)) ≤ (nI (sr_ru kp 1))))) ∧ (¬ ((nI (sr_cnt kp)) ≤ (nI (sr_ru kp 2)))) then 1 else 0)), (0, .ref (a 0))]) C0.1 C0.2.1 dX8_areThere_37 hl (k := 1) rfl (by decide) (by decide) rfl (fun ls hl => ?_)
        refine lv_goto (tgt := 9) C0.1 C0.2.1 dX8_areThere_40 (by decide) ?_
        refine lv_iload_n C0.1 C0.2.1 dX8_areThere_9 rfl (lv_at hl 0 rfl) ?_
        refine lv_iconst (v := 4) C0.1 C0.2.1 dX8_areThere_10 (by decide) ?_
        refine lv_icmp_ge (tgt := 43) C0.1 C0.2.1 dX8_areThere_11 (by decide) (fun q => absurd q (by decide)) (fun _ => ?_)
        refine lv_iload_n C0.1 C0.2.1 dX8_areThere_14 rfl (lv_at hl 1 rfl) ?_
        have hJ36_4 : ∀ (k36_0 : Int32), k36_0 = (if (((¬ ((nI (sr_cnt kp)) ≤ (nI (sr_ru kp 0)))) ∧ (¬ ((nI (sr_cnt kp)) ≤ (nI (sr_ru kp 1))))) ∧ (¬ ((nI (sr_cnt kp)) ≤ (nI (sr_ru kp 2))))) ∧ (¬ ((nI (sr_cnt kp)) ≤ (nI (sr_ru kp 3)))) then 1 else 0) → W p l e (sr_rm 3 70) s m args below meth c H locs 0 0 Q (F0 m 36 ls [.int k36_0]) := by
          intro k36_0 e_k36_0
          subst e_k36_0
          refine lv_istore_n (lv' := [(1, .int (if (((¬ ((nI (sr_cnt kp)) ≤ (nI (sr_ru kp 0)))) ∧ (¬ ((nI (sr_cnt kp)) ≤ (nI (sr_ru kp 1))))) ∧ (¬ ((nI (sr_cnt kp)) ≤ (nI (sr_ru kp 2))))) ∧ (¬ ((nI (sr_cnt kp)) ≤ (nI (sr_ru kp 3)))) then 1 else 0)), (2, .int 3), (0, .ref (a 0))]) C0.1 C0.2.1 dX8_areThere_36 rfl hl (by decide) rfl (fun ls hl => ?_)
          refine lv_iinc (v := 4) (lv' := [(2, .int 4), (1, .int (if (((¬ ((nI (sr_cnt kp)) ≤ (nI (sr_ru kp 0)))) ∧ (¬ ((nI (sr_cnt kp)) ≤ (nI (sr_ru kp 1))))) ∧ (¬ ((nI (sr_cnt kp)) ≤ (nI (sr_ru kp 2))))) ∧ (¬ ((nI (sr_cnt kp)) ≤ (nI (sr_ru kp 3)))) then 1 else 0)), (0, .ref (a 0))]) C0.1 C0.2.1 dX8_areThere_37 hl (k := 1) rfl (by decide) (by decide) rfl (fun ls hl => ?_)
          refine lv_goto (tgt := 9) C0.1 C0.2.1 dX8_areThere_40 (by decide) ?_
          refine lv_iload_n C0.1 C0.2.1 dX8_areThere_9 rfl (lv_at hl 0 rfl) ?_
          refine lv_iconst (v := 4) C0.1 C0.2.1 dX8_areThere_10 (by decide) ?_
          refine lv_icmp_ge (tgt := 43) C0.1 C0.2.1 dX8_areThere_11 (by decide) (fun _ => ?_) (fun q => absurd q (by decide))
          refine lv_iload_n C0.1 C0.2.1 dX8_areThere_43 rfl (lv_at hl 1 rfl) ?_
          exact hret _ _ _ sg1 _ _ _ dX8_areThere_44 hP hS rfl (by refine sr_ifc ?_; rw [nI_leI (by omega) (by omega), nI_leI (by omega) (by omega), nI_leI (by omega) (by omega), nI_leI (by omega) (by omega)]; unfold sr_th; omega) hRD
        refine sr_ifeq (tgt := 35) C0 dX8_areThere_15 (by decide) (fun c15_4 => ?_) (fun c15_4 => ?_)
        · refine lv_iconst (v := 0) C0.1 C0.2.1 dX8_areThere_35 (by decide) ?_
          exact hJ36_4 _ ((if_neg (fun q => c15_4 q.1)).symm)
        · refine lv_aload_n C0.1 C0.2.1 dX8_areThere_18 rfl (lv_at hl 2 rfl) ?_
          refine sr_get (v := .ref (a 7)) C0 hK hP sr_inX8 sr_wM0 rfl 10 (by decide) sw_620 rfl dX8_areThere_19 ?_
          refine lv_iload_n C0.1 C0.2.1 dX8_areThere_22 rfl (lv_at hl 0 rfl) ?_
          refine sr_ald (k := 3) C0 hK rfl hP sr_wM7 (by decide) (sr_inc (by decide)) dX8_areThere_23 ?_
          refine sr_chi (sr_IK_ru hK_ (by omega)) ?_
          have := sr_IK_ru5 hK_ (s := 3) (by omega)
          refine lv_aload_n C0.1 C0.2.1 dX8_areThere_24 rfl (lv_at hl 2 rfl) ?_
          refine sr_get (v := .int (sg1 1 1)) C0 hK hP sr_inX8 sr_wM0 rfl 8 (by decide) sw_618 rfl dX8_areThere_25 ?_
          refine sr_chi hRD.1 ?_
          have := sr_cnt5 kp
          refine lv_icmp_ge (tgt := 35) C0.1 C0.2.1 dX8_areThere_28 (by decide) (fun c28_2 => ?_) (fun c28_2 => ?_)
          · have g28_2 : (sr_cnt kp) ≤ (sr_ru kp 3) := (nI_leI (a := (sr_cnt kp)) (b := (sr_ru kp 3)) (by omega) (by omega)).mp c28_2
            refine lv_iconst (v := 0) C0.1 C0.2.1 dX8_areThere_35 (by decide) ?_
            exact hJ36_4 _ ((if_neg (fun q => (fun q => q c28_2) q.2)).symm)
          · have g28_2 : ¬ ((sr_cnt kp) ≤ (sr_ru kp 3)) := fun q => c28_2 ((nI_leI (a := (sr_cnt kp)) (b := (sr_ru kp 3)) (by omega) (by omega)).mpr q)
            refine lv_iconst (v := 1) C0.1 C0.2.1 dX8_areThere_31 (by decide) ?_
            refine lv_goto (tgt := 36) C0.1 C0.2.1 dX8_areThere_32 (by decide) ?_
            exact hJ36_4 _ ((if_pos ⟨c15_4, c28_2⟩).symm)
      refine sr_ifeq (tgt := 35) C0 dX8_areThere_15 (by decide) (fun c15_3 => ?_) (fun c15_3 => ?_)
      · refine lv_iconst (v := 0) C0.1 C0.2.1 dX8_areThere_35 (by decide) ?_
        exact hJ36_3 _ ((if_neg (fun q => c15_3 q.1)).symm)
      · refine lv_aload_n C0.1 C0.2.1 dX8_areThere_18 rfl (lv_at hl 2 rfl) ?_
        refine sr_get (v := .ref (a 7)) C0 hK hP sr_inX8 sr_wM0 rfl 10 (by decide) sw_620 rfl dX8_areThere_19 ?_
        refine lv_iload_n C0.1 C0.2.1 dX8_areThere_22 rfl (lv_at hl 0 rfl) ?_
        refine sr_ald (k := 2) C0 hK rfl hP sr_wM7 (by decide) (sr_inc (by decide)) dX8_areThere_23 ?_
        refine sr_chi (sr_IK_ru hK_ (by omega)) ?_
        have := sr_IK_ru5 hK_ (s := 2) (by omega)
        refine lv_aload_n C0.1 C0.2.1 dX8_areThere_24 rfl (lv_at hl 2 rfl) ?_
        refine sr_get (v := .int (sg1 1 1)) C0 hK hP sr_inX8 sr_wM0 rfl 8 (by decide) sw_618 rfl dX8_areThere_25 ?_
        refine sr_chi hRD.1 ?_
        have := sr_cnt5 kp
        refine lv_icmp_ge (tgt := 35) C0.1 C0.2.1 dX8_areThere_28 (by decide) (fun c28_2 => ?_) (fun c28_2 => ?_)
        · have g28_2 : (sr_cnt kp) ≤ (sr_ru kp 2) := (nI_leI (a := (sr_cnt kp)) (b := (sr_ru kp 2)) (by omega) (by omega)).mp c28_2
          refine lv_iconst (v := 0) C0.1 C0.2.1 dX8_areThere_35 (by decide) ?_
          exact hJ36_3 _ ((if_neg (fun q => (fun q => q c28_2) q.2)).symm)
        · have g28_2 : ¬ ((sr_cnt kp) ≤ (sr_ru kp 2)) := fun q => c28_2 ((nI_leI (a := (sr_cnt kp)) (b := (sr_ru kp 2)) (by omega) (by omega)).mpr q)
          refine lv_iconst (v := 1) C0.1 C0.2.1 dX8_areThere_31 (by decide) ?_
          refine lv_goto (tgt := 36) C0.1 C0.2.1 dX8_areThere_32 (by decide) ?_
          exact hJ36_3 _ ((if_pos ⟨c15_3, c28_2⟩).symm)
    refine sr_ifeq (tgt := 35) C0 dX8_areThere_15 (by decide) (fun c15_2 => ?_) (fun c15_2 => ?_)
    · refine lv_iconst (v := 0) C0.1 C0.2.1 dX8_areThere_35 (by decide) ?_
      exact hJ36_2 _ ((if_neg (fun q => c15_2 q.1)).symm)
    · refine lv_aload_n C0.1 C0.2.1 dX8_areThere_18 rfl (lv_at hl 2 rfl) ?_
      refine sr_get (v := .ref (a 7)) C0 hK hP sr_inX8 sr_wM0 rfl 10 (by decide) sw_620 rfl dX8_areThere_19 ?_
      refine lv_iload_n C0.1 C0.2.1 dX8_areThere_22 rfl (lv_at hl 0 rfl) ?_
      refine sr_ald (k := 1) C0 hK rfl hP sr_wM7 (by decide) (sr_inc (by decide)) dX8_areThere_23 ?_
      refine sr_chi (sr_IK_ru hK_ (by omega)) ?_
      have := sr_IK_ru5 hK_ (s := 1) (by omega)
      refine lv_aload_n C0.1 C0.2.1 dX8_areThere_24 rfl (lv_at hl 2 rfl) ?_
      refine sr_get (v := .int (sg1 1 1)) C0 hK hP sr_inX8 sr_wM0 rfl 8 (by decide) sw_618 rfl dX8_areThere_25 ?_
      refine sr_chi hRD.1 ?_
      have := sr_cnt5 kp
      refine lv_icmp_ge (tgt := 35) C0.1 C0.2.1 dX8_areThere_28 (by decide) (fun c28_2 => ?_) (fun c28_2 => ?_)
      · have g28_2 : (sr_cnt kp) ≤ (sr_ru kp 1) := (nI_leI (a := (sr_cnt kp)) (b := (sr_ru kp 1)) (by omega) (by omega)).mp c28_2
        refine lv_iconst (v := 0) C0.1 C0.2.1 dX8_areThere_35 (by decide) ?_
        exact hJ36_2 _ ((if_neg (fun q => (fun q => q c28_2) q.2)).symm)
      · have g28_2 : ¬ ((sr_cnt kp) ≤ (sr_ru kp 1)) := fun q => c28_2 ((nI_leI (a := (sr_cnt kp)) (b := (sr_ru kp 1)) (by omega) (by omega)).mpr q)
        refine lv_iconst (v := 1) C0.1 C0.2.1 dX8_areThere_31 (by decide) ?_
        refine lv_goto (tgt := 36) C0.1 C0.2.1 dX8_areThere_32 (by decide) ?_
        exact hJ36_2 _ ((if_pos ⟨c15_2, c28_2⟩).symm)
  refine lv_icmp_ge (tgt := 35) C0.1 C0.2.1 dX8_areThere_28 (by decide) (fun c28 => ?_) (fun c28 => ?_)
  · have g28 : (sr_cnt kp) ≤ (sr_ru kp 0) := (nI_leI (a := (sr_cnt kp)) (b := (sr_ru kp 0)) (by omega) (by omega)).mp c28
    refine lv_iconst (v := 0) C0.1 C0.2.1 dX8_areThere_35 (by decide) ?_
    exact hJ36 _ ((if_neg (fun q => q c28)).symm)
  · have g28 : ¬ ((sr_cnt kp) ≤ (sr_ru kp 0)) := fun q => c28 ((nI_leI (a := (sr_cnt kp)) (b := (sr_ru kp 0)) (by omega) (by omega)).mpr q)
    refine lv_iconst (v := 1) C0.1 C0.2.1 dX8_areThere_31 (by decide) ?_
    refine lv_goto (tgt := 36) C0.1 C0.2.1 dX8_areThere_32 (by decide) ?_
    exact hJ36 _ ((if_pos c28).symm)
set_option maxRecDepth 100000 in
set_option maxHeartbeats 4000000 in
theorem cc_X8_runner {l : Launch} {D : va_G} {cI : ClassId} {a : Nat → Nat} (ha : ∀ i j, i < 13 → j < 13 → a i = a j → i = j) {kp cx sg : sr_M} (r_ : Int32) (w_ : Int32) (hK_ : sr_IK kp) : sr_G l D (sr_tM cI) (sr_ZM) (sr_AM a) (sr_WM cI a kp cx sg) yX8_runner cX8_runner 3 (some .int) 3 70 [.ref (a 0), .int r_, .int w_] (S := sr_M) (fun u => sr_RD kp u) (fun u => sr_WM cI a kp cx u) (fun u => some (.int (sp_runner kp r_ w_))) := by
  refine sr_Gie (by decide +kernel) (Nat.le_of_ble_eq_true rfl) (fun p e s m args below meth c ls Q B hret => ?_)
  obtain ⟨C0, hP, hK, hZ0, hl⟩ := B
  have hZ : sr_Zok (sr_AM a) (sr_ZM) := sr_ZMok
  have hS : va_S (sr_AM a) s.heap s.heap [] := va_S.rf
  have hl : lv_has ls 3 [(0, .ref (a 0)), (1, .int r_), (2, .int w_)] := hl
  obtain ⟨H, hH⟩ : ∃ H, H = s.heap := ⟨_, rfl⟩
  have hP : va_P D vwCl (sr_WM cI a kp cx sg) H := by rw [hH]; exact hP
  have hS : va_S (sr_AM a) s.heap H [] := by rw [hH]; exact hS
  suffices hG : ∀ locs, va_S (sr_AM a) s.heap H locs → W p l e (sr_rm 3 70) s m args below meth c H locs 0 0 Q (F0 m 0 ls []) from by have h9 := hG [] hS; rw [hH] at h9; exact h9
  clear hS
  intro locs hS
  clear hH
  refine lv_aload_n C0.1 C0.2.1 dX8_runner_0 rfl (lv_at hl 0 rfl) ?_
  refine sr_gVi (As := []) C0 hK hP hZ (sr_Zs hZ hZ0 hS) (cc_X8_reads ha hK_) sk_X8_reads sv_X8_reads sw_719 (ci := 8) rfl sr_wM0 rfl rfl hl.1 (Nat.le_of_ble_eq_true rfl) (Nat.le_of_ble_eq_true rfl) (Nat.le_of_ble_eq_true rfl) dX8_runner_1 ⟨Nat.zero_le _, Nat.zero_le _⟩ hS (fun sg1 H locs hRD hP hS => ?_)
  refine lv_pop C0.1 C0.2.1 dX8_runner_4 rfl ?_
  refine lv_iload_n C0.1 C0.2.1 dX8_runner_5 rfl (lv_at hl 1 rfl) ?_
  refine lv_i2l C0.1 C0.2.1 dX8_runner_6 rfl ?_
  refine lv_lconst (v := 0) C0.1 C0.2.1 dX8_runner_7 (by decide) ?_
  refine lv_aload_n C0.1 C0.2.1 dX8_runner_8 rfl (lv_at hl 0 rfl) ?_
  refine sr_get (v := .int (sg1 1 1)) C0 hK hP sr_inX8 sr_wM0 rfl 8 (by decide) sw_618 rfl dX8_runner_9 ?_
  refine sr_chi hRD.1 ?_
  have := sr_cnt5 kp
  refine lv_iconst (v := 1) C0.1 C0.2.1 dX8_runner_12 (by decide) ?_
  refine lv_isub C0.1 C0.2.1 dX8_runner_13 ?_
  refine lv_i2l C0.1 C0.2.1 dX8_runner_14 rfl ?_
  refine sr_pSi (As := [.long ((r_).toInt64), .long 0, .long (((nI (sr_cnt kp)) - 1).toInt64)]) C0 hK hP hZ (sr_Zs hZ hZ0 hS) (cc_X8_inI ha (r_) (0 : Int32) ((nI (sr_cnt kp)) - 1) rfl (by decide) rfl) sk_X8_in (ss_X8_in) sw_670 rfl rfl hl.1 (Nat.le_of_ble_eq_true rfl) (Nat.le_of_ble_eq_true rfl) (Nat.le_of_ble_eq_true rfl) dX8_runner_15 ⟨Nat.zero_le _, Nat.zero_le _⟩ ?_
  refine sr_ifeq (tgt := 46) C0 dX8_runner_18 (by decide) (fun c18 => ?_) (fun c18 => ?_)
  · refine lv_bipush (v := (-2)) C0.1 C0.2.1 dX8_runner_46 (by decide) ?_
    exact hret _ _ _ sg1 _ _ _ dX8_runner_48 hP hS rfl (by unfold sp_runner; rw [if_pos (Classical.not_not.mp c18)]) hRD
  · obtain ⟨jr, hjr, rfl⟩ := sr_rgc (sr_cnt5 kp) c18
    have hc5 := sr_cnt5 kp
    refine lv_iload_n C0.1 C0.2.1 dX8_runner_21 rfl (lv_at hl 2 rfl) ?_
    refine lv_i2l C0.1 C0.2.1 dX8_runner_22 rfl ?_
    refine lv_lconst (v := 0) C0.1 C0.2.1 dX8_runner_23 (by decide) ?_
    refine lv_ldc2 (v := 3) C0.1 C0.2.1 C0.2.2.2.1 (C0.2.2.2.2 _ sw_669) dX8_runner_24 ?_
    refine sr_pSi (As := [.long ((w_).toInt64), .long 0, .long 3]) C0 hK hP hZ (sr_Zs hZ hZ0 hS) (cc_X8_inI ha (w_) (0 : Int32) (3 : Int32) rfl (by decide) (by decide)) sk_X8_in (ss_X8_in) sw_670 rfl rfl hl.1 (Nat.le_of_ble_eq_true rfl) (Nat.le_of_ble_eq_true rfl) (Nat.le_of_ble_eq_true rfl) dX8_runner_27 ⟨Nat.zero_le _, Nat.zero_le _⟩ ?_
    refine sr_ifeq (tgt := 46) C0 dX8_runner_30 (by decide) (fun c30 => ?_) (fun c30 => ?_)
    · refine lv_bipush (v := (-2)) C0.1 C0.2.1 dX8_runner_46 (by decide) ?_
      exact hret _ _ _ sg1 _ _ _ dX8_runner_48 hP hS rfl (by unfold sp_runner; (try rw [nI_clamp (n := jr) (by omega)]); rw [if_neg c18, if_pos (Classical.not_not.mp c30)]) hRD
    · obtain ⟨jw, hjw, rfl⟩ := sr_rg3 c30
      refine lv_aload_n C0.1 C0.2.1 dX8_runner_33 rfl (lv_at hl 0 rfl) ?_
      refine sr_get (v := .ref (a 6)) C0 hK hP sr_inX8 sr_wM0 rfl 9 (by decide) sw_619 rfl dX8_runner_34 ?_
      refine lv_iconst (v := 4) C0.1 C0.2.1 dX8_runner_37 (by decide) ?_
      refine lv_iload_n C0.1 C0.2.1 dX8_runner_38 rfl (lv_at hl 1 rfl) ?_
      refine lv_imul C0.1 C0.2.1 dX8_runner_39 ?_
      refine sr_chi (pk_mul 4 jr) ?_
      refine lv_iload_n C0.1 C0.2.1 dX8_runner_40 rfl (lv_at hl 2 rfl) ?_
      refine lv_iadd C0.1 C0.2.1 dX8_runner_41 ?_
      refine sr_chi (nI_add (4 * jr) jw) ?_
      refine sr_ald (k := (4 * jr) + jw) C0 hK rfl hP sr_wM6 (nI_clamp (by omega)) (vp_in_nI (by omega) (by omega)) dX8_runner_42 ?_
      refine sr_chi (hRD.2 jr (by first | assumption | omega | exact sr_th_at hT (by omega)) jw (by omega)) ?_
      refine lv_goto (tgt := 48) C0.1 C0.2.1 dX8_runner_43 (by decide) ?_
      exact hret _ _ _ sg1 _ _ _ dX8_runner_48 hP hS rfl (by unfold sp_runner; (try rw [nI_clamp (n := jr) (by omega)]); (try rw [nI_clamp (n := jw) (by omega)]); rw [if_neg c18, if_neg c30]) hRD
set_option maxRecDepth 100000 in
set_option maxHeartbeats 4000000 in
theorem cc_X8_when {l : Launch} {D : va_G} {cI : ClassId} {a : Nat → Nat} (ha : ∀ i j, i < 13 → j < 13 → a i = a j → i = j) {kp cx sg : sr_M} (s_ : Int32) (w_ : Int32) (hK_ : sr_IK kp) : sr_G l D (sr_tM cI) (sr_ZM) (sr_AM a) (sr_WM cI a kp cx sg) yX8_when cX8_when 3 (some .int) 4 94 [.ref (a 0), .int s_, .int w_] (S := sr_M) (fun u => True) (fun u => sr_WM cI a kp cx u) (fun u => some (.int (sp_when kp s_ w_))) := by
  refine sr_Gie (by decide +kernel) (Nat.le_of_ble_eq_true rfl) (fun p e s m args below meth c ls Q B hret => ?_)
  obtain ⟨C0, hP, hK, hZ0, hl⟩ := B
  have hZ : sr_Zok (sr_AM a) (sr_ZM) := sr_ZMok
  have hS : va_S (sr_AM a) s.heap s.heap [] := va_S.rf
  have hl : lv_has ls 3 [(0, .ref (a 0)), (1, .int s_), (2, .int w_)] := hl
  obtain ⟨H, hH⟩ : ∃ H, H = s.heap := ⟨_, rfl⟩
  have hP : va_P D vwCl (sr_WM cI a kp cx sg) H := by rw [hH]; exact hP
  have hS : va_S (sr_AM a) s.heap H [] := by rw [hH]; exact hS
  suffices hG : ∀ locs, va_S (sr_AM a) s.heap H locs → W p l e (sr_rm 4 94) s m args below meth c H locs 0 0 Q (F0 m 0 ls []) from by have h9 := hG [] hS; rw [hH] at h9; exact h9
  clear hS
  intro locs hS
  clear hH
  refine lv_iload_n C0.1 C0.2.1 dX8_when_0 rfl (lv_at hl 1 rfl) ?_
  refine sr_pSi (As := [.int s_]) C0 hK hP hZ (sr_Zs hZ hZ0 hS) (cc_X8_isStretch ha s_) sk_X8_isStretch (ss_X8_isStretch) sw_744 rfl rfl hl.1 (Nat.le_of_ble_eq_true rfl) (Nat.le_of_ble_eq_true rfl) (Nat.le_of_ble_eq_true rfl) dX8_when_1 ⟨Nat.zero_le _, Nat.zero_le _⟩ ?_
  refine sr_ifeq (tgt := 14) C0 dX8_when_4 (by decide) (fun c4 => ?_) (fun c4 => ?_)
  · refine lv_bipush (v := (-2)) C0.1 C0.2.1 dX8_when_14 (by decide) ?_
    exact hret _ _ _ sg _ _ _ dX8_when_16 hP hS rfl (by unfold sp_when; rw [if_pos (Classical.not_not.mp c4)]) trivial
  · obtain ⟨js, hjs, rfl⟩ := sr_rg3 c4
    refine lv_iload_n C0.1 C0.2.1 dX8_when_7 rfl (lv_at hl 2 rfl) ?_
    refine sr_pSi (As := [.int w_]) C0 hK hP hZ (sr_Zs hZ hZ0 hS) (cc_X8_isTwo ha w_) sk_X8_isTwo (ss_X8_isTwo) sw_792 rfl rfl hl.1 (Nat.le_of_ble_eq_true rfl) (Nat.le_of_ble_eq_true rfl) (Nat.le_of_ble_eq_true rfl) dX8_when_8 ⟨Nat.zero_le _, Nat.zero_le _⟩ ?_
    refine sr_ifne (tgt := 17) C0 dX8_when_11 (by decide) (fun c11 => ?_) (fun c11 => ?_)
    · refine lv_aload_n C0.1 C0.2.1 dX8_when_17 rfl (lv_at hl 0 rfl) ?_
      refine sr_gVi (As := []) C0 hK hP hZ (sr_Zs hZ hZ0 hS) (cc_X8_areThere ha hK_) sk_X8_areThere sv_X8_areThere sw_795 (ci := 8) rfl sr_wM0 rfl rfl hl.1 (Nat.le_of_ble_eq_true rfl) (Nat.le_of_ble_eq_true rfl) (Nat.le_of_ble_eq_true rfl) dX8_when_18 ⟨Nat.zero_le _, Nat.zero_le _⟩ hS (fun sg1 H locs hRD hP hS => ?_)
      refine sr_ifne (tgt := 27) C0 dX8_when_21 (by decide) (fun c21 => ?_) (fun c21 => ?_)
      · have hT : sr_th kp := c21
        refine lv_aload_n C0.1 C0.2.1 dX8_when_27 rfl (lv_at hl 0 rfl) ?_
        refine lv_iload_n C0.1 C0.2.1 dX8_when_28 rfl (lv_at hl 1 rfl) ?_
        refine sr_pVi (As := [.int (nI js)]) C0 hK hP hZ (sr_Zs hZ hZ0 hS) (cc_X8_goesOff ha js hK_ hRD hT (by omega)) sk_X8_goesOff sv_X8_goesOff sw_799 (ci := 8) rfl sr_wM0 rfl rfl hl.1 (Nat.le_of_ble_eq_true rfl) (Nat.le_of_ble_eq_true rfl) (Nat.le_of_ble_eq_true rfl) dX8_when_29 ⟨Nat.zero_le _, Nat.zero_le _⟩ ?_
        refine lv_iload_n C0.1 C0.2.1 dX8_when_32 rfl (lv_at hl 2 rfl) ?_
        refine lv_iconst (v := 1) C0.1 C0.2.1 dX8_when_33 (by decide) ?_
        refine lv_icmp_ne (tgt := 53) C0.1 C0.2.1 dX8_when_34 (by decide) (fun c34 => ?_) (fun c34 => ?_)
        · refine lv_iconst (v := 0) C0.1 C0.2.1 dX8_when_53 (by decide) ?_
          refine lv_iadd C0.1 C0.2.1 dX8_when_54 ?_
          exact hret _ _ _ sg1 _ _ _ dX8_when_55 hP hS rfl (by unfold sp_when; rw [nI_clamp (n := js) (by omega), if_neg c4, if_neg c11, if_neg (fun q => q c21), if_pos (sr_w01 c11 c34)]; exact Int32.add_zero _) trivial
        · refine lv_aload_n C0.1 C0.2.1 dX8_when_37 rfl (lv_at hl 0 rfl) ?_
          refine lv_aload_n C0.1 C0.2.1 dX8_when_38 rfl (lv_at hl 0 rfl) ?_
          refine sr_get (v := .ref (a 7)) C0 hK hP sr_inX8 sr_wM0 rfl 10 (by decide) sw_620 rfl dX8_when_39 ?_
          refine lv_iload_n C0.1 C0.2.1 dX8_when_42 rfl (lv_at hl 1 rfl) ?_
          refine sr_ald (k := js) C0 hK rfl hP sr_wM7 (nI_clamp (by omega)) (vp_in_nI (by omega) (by omega)) dX8_when_43 ?_
          refine sr_chi (sr_IK_ru hK_ (by omega)) ?_
          have := sr_IK_ru5 hK_ (s := js) (by omega)
          refine lv_iload_n C0.1 C0.2.1 dX8_when_44 rfl (lv_at hl 1 rfl) ?_
          refine lv_bipush (v := 100) C0.1 C0.2.1 dX8_when_45 (by decide) ?_
          refine sr_pVi (As := [.int (nI (sr_ru kp js)), .int (nI js), .int 100]) C0 hK hP hZ (sr_Zs hZ hZ0 hS) (cc_X8_takesOf ha (sr_ru kp js) js (100) hRD (by first | assumption | omega | exact sr_th_at hT (by omega)) (by omega)) sk_X8_takesOf sv_X8_takesOf sw_781 (ci := 8) rfl sr_wM0 rfl rfl hl.1 (Nat.le_of_ble_eq_true rfl) (Nat.le_of_ble_eq_true rfl) (Nat.le_of_ble_eq_true rfl) dX8_when_47 ⟨Nat.zero_le _, Nat.zero_le _⟩ ?_
          refine lv_goto (tgt := 54) C0.1 C0.2.1 dX8_when_50 (by decide) ?_
          refine lv_iadd C0.1 C0.2.1 dX8_when_54 ?_
          exact hret _ _ _ sg1 _ _ _ dX8_when_55 hP hS rfl (by unfold sp_when; rw [nI_clamp (n := js) (by omega), if_neg c4, if_neg c11, if_neg (fun q => q c21), if_neg (show ¬ w_ = 0 by rw [c34]; decide)]) trivial
      · refine lv_bipush (v := (-3)) C0.1 C0.2.1 dX8_when_24 (by decide) ?_
        exact hret _ _ _ sg1 _ _ _ dX8_when_26 hP hS rfl (by unfold sp_when; (try rw [nI_clamp (n := js) (by omega)]); rw [if_neg c4, if_neg c11, if_pos c21]) trivial
    · refine lv_bipush (v := (-2)) C0.1 C0.2.1 dX8_when_14 (by decide) ?_
      exact hret _ _ _ sg _ _ _ dX8_when_16 hP hS rfl (by unfold sp_when; (try rw [nI_clamp (n := js) (by omega)]); rw [if_neg c4, if_pos (Classical.not_not.mp c11)]) trivial
set_option maxRecDepth 100000 in
set_option maxHeartbeats 4000000 in
theorem cc_X8_meetNow {l : Launch} {D : va_G} {cI : ClassId} {a : Nat → Nat} (ha : ∀ i j, i < 13 → j < 13 → a i = a j → i = j) {kp cx sg : sr_M} (cn : Nat) (hK_ : sr_IK kp) (hs_cn : cn < 3) : sr_G l D (sr_tM cI) (sr_ZM) (sr_AM a) (sr_WM cI a kp cx sg) yX8_meetNow cX8_meetNow 2 (some .int) 5 121 [.ref (a 0), .int (nI cn)] (S := sr_M) (fun u => sr_RD kp u) (fun u => sr_WM cI a kp cx u) (fun u => some (.int (sn_meet kp cn))) := by
  refine sr_Gie (by decide +kernel) (Nat.le_of_ble_eq_true rfl) (fun p e s m args below meth c ls Q B hret => ?_)
  obtain ⟨C0, hP, hK, hZ0, hl⟩ := B
  have hZ : sr_Zok (sr_AM a) (sr_ZM) := sr_ZMok
  have hS : va_S (sr_AM a) s.heap s.heap [] := va_S.rf
  have hl : lv_has ls 2 [(0, .ref (a 0)), (1, .int (nI cn))] := hl
  obtain ⟨H, hH⟩ : ∃ H, H = s.heap := ⟨_, rfl⟩
  have hP : va_P D vwCl (sr_WM cI a kp cx sg) H := by rw [hH]; exact hP
  have hS : va_S (sr_AM a) s.heap H [] := by rw [hH]; exact hS
  suffices hG : ∀ locs, va_S (sr_AM a) s.heap H locs → W p l e (sr_rm 5 121) s m args below meth c H locs 0 0 Q (F0 m 0 ls []) from by have h9 := hG [] hS; rw [hH] at h9; exact h9
  clear hS
  intro locs hS
  clear hH
  refine lv_aload_n C0.1 C0.2.1 dX8_meetNow_0 rfl (lv_at hl 0 rfl) ?_
  refine sr_gVi (As := []) C0 hK hP hZ (sr_Zs hZ hZ0 hS) (cc_X8_areThere ha hK_) sk_X8_areThere sv_X8_areThere sw_795 (ci := 8) rfl sr_wM0 rfl rfl hl.1 (Nat.le_of_ble_eq_true rfl) (Nat.le_of_ble_eq_true rfl) (Nat.le_of_ble_eq_true rfl) dX8_meetNow_1 ⟨Nat.zero_le _, Nat.zero_le _⟩ hS (fun sg1 H locs hRD hP hS => ?_)
  refine sr_ifeq (tgt := 27) C0 dX8_meetNow_4 (by decide) (fun c4 => ?_) (fun c4 => ?_)
  · refine lv_bipush (v := (-3)) C0.1 C0.2.1 dX8_meetNow_27 (by decide) ?_
    exact hret _ _ _ sg1 _ _ _ dX8_meetNow_29 hP hS rfl (by unfold sn_meet; rw [if_pos c4]) hRD
  · have hT : sr_th kp := c4
    refine lv_aload_n C0.1 C0.2.1 dX8_meetNow_7 rfl (lv_at hl 0 rfl) ?_
    refine lv_iload_n C0.1 C0.2.1 dX8_meetNow_8 rfl (lv_at hl 1 rfl) ?_
    refine lv_aload_n C0.1 C0.2.1 dX8_meetNow_9 rfl (lv_at hl 0 rfl) ?_
    refine sr_get (v := .ref (a 9)) C0 hK hP sr_inX8 sr_wM0 rfl 12 (by decide) sw_622 rfl dX8_meetNow_10 ?_
    refine lv_iload_n C0.1 C0.2.1 dX8_meetNow_13 rfl (lv_at hl 1 rfl) ?_
    refine sr_ald (k := cn) C0 hK rfl hP sr_wM9 (nI_clamp (by omega)) (vp_in_nI (by omega) (by omega)) dX8_meetNow_14 ?_
    refine lv_aload_n C0.1 C0.2.1 dX8_meetNow_15 rfl (lv_at hl 0 rfl) ?_
    refine sr_get (v := .ref (a 10)) C0 hK hP sr_inX8 sr_wM0 rfl 13 (by decide) sw_623 rfl dX8_meetNow_16 ?_
    refine lv_iload_n C0.1 C0.2.1 dX8_meetNow_19 rfl (lv_at hl 1 rfl) ?_
    refine sr_ald (k := cn) C0 hK rfl hP sr_wM10 (nI_clamp (by omega)) (vp_in_nI (by omega) (by omega)) dX8_meetNow_20 ?_
    refine sr_pVi (As := [.int (nI cn), .int (kp 3 cn), .int (kp 4 cn)]) C0 hK hP hZ (sr_Zs hZ hZ0 hS) (cc_X8_meetOf ha cn (kp 3 cn) (kp 4 cn) hK_ hRD hT (by omega)) sk_X8_meetOf sv_X8_meetOf sw_815 (ci := 8) rfl sr_wM0 rfl rfl hl.1 (Nat.le_of_ble_eq_true rfl) (Nat.le_of_ble_eq_true rfl) (Nat.le_of_ble_eq_true rfl) dX8_meetNow_21 ⟨Nat.zero_le _, Nat.zero_le _⟩ ?_
    refine lv_goto (tgt := 29) C0.1 C0.2.1 dX8_meetNow_24 (by decide) ?_
    exact hret _ _ _ sg1 _ _ _ dX8_meetNow_29 hP hS rfl (by unfold sn_meet; rw [if_neg (fun q => q c4)]; rfl) hRD
set_option maxRecDepth 100000 in
set_option maxHeartbeats 4000000 in
theorem cc_X8_meet {l : Launch} {D : va_G} {cI : ClassId} {a : Nat → Nat} (ha : ∀ i j, i < 13 → j < 13 → a i = a j → i = j) {kp cx sg : sr_M} (c_ : Int32) (hK_ : sr_IK kp) : sr_G l D (sr_tM cI) (sr_ZM) (sr_AM a) (sr_WM cI a kp cx sg) yX8_meet cX8_meet 2 (some .int) 6 142 [.ref (a 0), .int c_] (S := sr_M) (fun u => True) (fun u => sr_WM cI a kp cx u) (fun u => some (.int (sp_meet kp c_))) := by
  refine sr_Gie (by decide +kernel) (Nat.le_of_ble_eq_true rfl) (fun p e s m args below meth c ls Q B hret => ?_)
  obtain ⟨C0, hP, hK, hZ0, hl⟩ := B
  have hZ : sr_Zok (sr_AM a) (sr_ZM) := sr_ZMok
  have hS : va_S (sr_AM a) s.heap s.heap [] := va_S.rf
  have hl : lv_has ls 2 [(0, .ref (a 0)), (1, .int c_)] := hl
  obtain ⟨H, hH⟩ : ∃ H, H = s.heap := ⟨_, rfl⟩
  have hP : va_P D vwCl (sr_WM cI a kp cx sg) H := by rw [hH]; exact hP
  have hS : va_S (sr_AM a) s.heap H [] := by rw [hH]; exact hS
  suffices hG : ∀ locs, va_S (sr_AM a) s.heap H locs → W p l e (sr_rm 6 142) s m args below meth c H locs 0 0 Q (F0 m 0 ls []) from by have h9 := hG [] hS; rw [hH] at h9; exact h9
  clear hS
  intro locs hS
  clear hH
  refine lv_iload_n C0.1 C0.2.1 dX8_meet_0 rfl (lv_at hl 1 rfl) ?_
  refine sr_pSi (As := [.int c_]) C0 hK hP hZ (sr_Zs hZ hZ0 hS) (cc_X8_isChange ha c_) sk_X8_isChange (ss_X8_isChange) sw_761 rfl rfl hl.1 (Nat.le_of_ble_eq_true rfl) (Nat.le_of_ble_eq_true rfl) (Nat.le_of_ble_eq_true rfl) dX8_meet_1 ⟨Nat.zero_le _, Nat.zero_le _⟩ ?_
  refine sr_ifeq (tgt := 15) C0 dX8_meet_4 (by decide) (fun c4 => ?_) (fun c4 => ?_)
  · refine lv_bipush (v := (-2)) C0.1 C0.2.1 dX8_meet_15 (by decide) ?_
    exact hret _ _ _ sg _ _ _ dX8_meet_17 hP hS rfl (by unfold sp_meet; rw [if_pos (Classical.not_not.mp c4)]) trivial
  · obtain ⟨jc, hjc, rfl⟩ := sr_rg2 c4
    refine lv_aload_n C0.1 C0.2.1 dX8_meet_7 rfl (lv_at hl 0 rfl) ?_
    refine lv_iload_n C0.1 C0.2.1 dX8_meet_8 rfl (lv_at hl 1 rfl) ?_
    refine sr_gVi (As := [.int (nI jc)]) C0 hK hP hZ (sr_Zs hZ hZ0 hS) (cc_X8_meetNow ha jc hK_ (by omega)) sk_X8_meetNow sv_X8_meetNow sw_811 (ci := 8) rfl sr_wM0 rfl rfl hl.1 (Nat.le_of_ble_eq_true rfl) (Nat.le_of_ble_eq_true rfl) (Nat.le_of_ble_eq_true rfl) dX8_meet_9 ⟨Nat.zero_le _, Nat.zero_le _⟩ hS (fun sg1 H locs hRD hP hS => ?_)
    refine lv_goto (tgt := 17) C0.1 C0.2.1 dX8_meet_12 (by decide) ?_
    exact hret _ _ _ sg1 _ _ _ dX8_meet_17 hP hS rfl (by unfold sp_meet; (try rw [nI_clamp (n := jc) (by omega)]); rw [if_neg c4]; rfl) trivial
set_option maxRecDepth 100000 in
set_option maxHeartbeats 4000000 in
theorem cc_X8_kindNow {l : Launch} {D : va_G} {cI : ClassId} {a : Nat → Nat} (ha : ∀ i j, i < 13 → j < 13 → a i = a j → i = j) {kp cx sg : sr_M} (cn : Nat) (hK_ : sr_IK kp) (hs_cn : cn < 3) : sr_G l D (sr_tM cI) (sr_ZM) (sr_AM a) (sr_WM cI a kp cx sg) yX8_kindNow cX8_kindNow 3 (some .int) 6 142 [.ref (a 0), .int (nI cn)] (S := sr_M) (fun u => sr_RD kp u) (fun u => sr_WM cI a kp cx u) (fun u => some (.int (sn_kind kp cn))) := by
  refine sr_Gie (by decide +kernel) (Nat.le_of_ble_eq_true rfl) (fun p e s m args below meth c ls Q B hret => ?_)
  obtain ⟨C0, hP, hK, hZ0, hl⟩ := B
  have hZ : sr_Zok (sr_AM a) (sr_ZM) := sr_ZMok
  have hS : va_S (sr_AM a) s.heap s.heap [] := va_S.rf
  have hl : lv_has ls 3 [(0, .ref (a 0)), (1, .int (nI cn))] := hl
  obtain ⟨H, hH⟩ : ∃ H, H = s.heap := ⟨_, rfl⟩
  have hP : va_P D vwCl (sr_WM cI a kp cx sg) H := by rw [hH]; exact hP
  have hS : va_S (sr_AM a) s.heap H [] := by rw [hH]; exact hS
  suffices hG : ∀ locs, va_S (sr_AM a) s.heap H locs → W p l e (sr_rm 6 142) s m args below meth c H locs 0 0 Q (F0 m 0 ls []) from by have h9 := hG [] hS; rw [hH] at h9; exact h9
  clear hS
  intro locs hS
  clear hH
  refine lv_aload_n C0.1 C0.2.1 dX8_kindNow_0 rfl (lv_at hl 0 rfl) ?_
  refine lv_iload_n C0.1 C0.2.1 dX8_kindNow_1 rfl (lv_at hl 1 rfl) ?_
  refine sr_gVi (As := [.int (nI cn)]) C0 hK hP hZ (sr_Zs hZ hZ0 hS) (cc_X8_meetNow ha cn hK_ (by omega)) sk_X8_meetNow sv_X8_meetNow sw_811 (ci := 8) rfl sr_wM0 rfl rfl hl.1 (Nat.le_of_ble_eq_true rfl) (Nat.le_of_ble_eq_true rfl) (Nat.le_of_ble_eq_true rfl) dX8_kindNow_2 ⟨Nat.zero_le _, Nat.zero_le _⟩ hS (fun sg1 H locs hRD hP hS => ?_)
  refine lv_istore_n (lv' := [(2, .int (sn_meet kp cn)), (0, .ref (a 0)), (1, .int (nI cn))]) C0.1 C0.2.1 dX8_kindNow_5 rfl hl (by decide) rfl (fun ls hl => ?_)
  refine lv_iload_n C0.1 C0.2.1 dX8_kindNow_6 rfl (lv_at hl 0 rfl) ?_
  refine lv_bipush (v := (-3)) C0.1 C0.2.1 dX8_kindNow_7 (by decide) ?_
  refine lv_icmp_ne (tgt := 17) C0.1 C0.2.1 dX8_kindNow_9 (by decide) (fun c9 => ?_) (fun c9 => ?_)
  · refine lv_iload_n C0.1 C0.2.1 dX8_kindNow_17 rfl (lv_at hl 0 rfl) ?_
    refine lv_iconst (v := (-1)) C0.1 C0.2.1 dX8_kindNow_18 (by decide) ?_
    refine lv_icmp_ne (tgt := 26) C0.1 C0.2.1 dX8_kindNow_19 (by decide) (fun c19 => ?_) (fun c19 => ?_)
    · refine lv_iload_n C0.1 C0.2.1 dX8_kindNow_26 rfl (lv_at hl 0 rfl) ?_
      refine lv_if_ne (tgt := 34) C0.1 C0.2.1 dX8_kindNow_27 (by decide) (fun c27 => ?_) (fun c27 => ?_)
      · refine lv_iload_n C0.1 C0.2.1 dX8_kindNow_34 rfl (lv_at hl 0 rfl) ?_
        refine lv_aload_n C0.1 C0.2.1 dX8_kindNow_35 rfl (lv_at hl 1 rfl) ?_
        refine sr_get (v := .ref (a 8)) C0 hK hP sr_inX8 sr_wM0 rfl 11 (by decide) sw_621 rfl dX8_kindNow_36 ?_
        refine lv_iconst (v := 0) C0.1 C0.2.1 dX8_kindNow_39 (by decide) ?_
        refine sr_ald (k := 0) C0 hK rfl hP sr_wM8 (by decide) (sr_inc (by decide)) dX8_kindNow_40 ?_
        refine sr_chi (sr_IK_zo hK_) ?_
        have := sr_IK_zo5 hK_
        refine lv_iconst (v := 2) C0.1 C0.2.1 dX8_kindNow_41 (by decide) ?_
        refine lv_isub C0.1 C0.2.1 dX8_kindNow_42 ?_
        refine lv_icmp_lt (tgt := 50) C0.1 C0.2.1 dX8_kindNow_43 (by decide) (fun c43 => ?_) (fun c43 => ?_)
        · refine lv_iconst (v := 0) C0.1 C0.2.1 dX8_kindNow_50 (by decide) ?_
          exact hret _ _ _ sg1 _ _ _ dX8_kindNow_51 hP hS rfl (by rw [← sr_kn hK_, if_neg c9, if_neg c19, if_neg c27, if_pos c43]) hRD
        · refine lv_iconst (v := 1) C0.1 C0.2.1 dX8_kindNow_46 (by decide) ?_
          refine lv_goto (tgt := 51) C0.1 C0.2.1 dX8_kindNow_47 (by decide) ?_
          exact hret _ _ _ sg1 _ _ _ dX8_kindNow_51 hP hS rfl (by rw [← sr_kn hK_, if_neg c9, if_neg c19, if_neg c27, if_neg c43]) hRD
      · refine lv_iconst (v := 2) C0.1 C0.2.1 dX8_kindNow_30 (by decide) ?_
        refine lv_goto (tgt := 51) C0.1 C0.2.1 dX8_kindNow_31 (by decide) ?_
        exact hret _ _ _ sg1 _ _ _ dX8_kindNow_51 hP hS rfl (by rw [← sr_kn hK_, if_neg c9, if_neg c19, if_pos c27]) hRD
    · refine lv_iconst (v := 3) C0.1 C0.2.1 dX8_kindNow_22 (by decide) ?_
      refine lv_goto (tgt := 51) C0.1 C0.2.1 dX8_kindNow_23 (by decide) ?_
      exact hret _ _ _ sg1 _ _ _ dX8_kindNow_51 hP hS rfl (by rw [← sr_kn hK_, if_neg c9, if_pos c19]) hRD
  · refine lv_bipush (v := (-3)) C0.1 C0.2.1 dX8_kindNow_12 (by decide) ?_
    refine lv_goto (tgt := 51) C0.1 C0.2.1 dX8_kindNow_14 (by decide) ?_
    exact hret _ _ _ sg1 _ _ _ dX8_kindNow_51 hP hS rfl (by rw [← sr_kn hK_, if_pos c9]) hRD
set_option maxRecDepth 100000 in
set_option maxHeartbeats 4000000 in
theorem cc_X8_kind {l : Launch} {D : va_G} {cI : ClassId} {a : Nat → Nat} (ha : ∀ i j, i < 13 → j < 13 → a i = a j → i = j) {kp cx sg : sr_M} (c_ : Int32) (hK_ : sr_IK kp) : sr_G l D (sr_tM cI) (sr_ZM) (sr_AM a) (sr_WM cI a kp cx sg) yX8_kind cX8_kind 2 (some .int) 7 164 [.ref (a 0), .int c_] (S := sr_M) (fun u => True) (fun u => sr_WM cI a kp cx u) (fun u => some (.int (sp_kind kp c_))) := by
  refine sr_Gie (by decide +kernel) (Nat.le_of_ble_eq_true rfl) (fun p e s m args below meth c ls Q B hret => ?_)
  obtain ⟨C0, hP, hK, hZ0, hl⟩ := B
  have hZ : sr_Zok (sr_AM a) (sr_ZM) := sr_ZMok
  have hS : va_S (sr_AM a) s.heap s.heap [] := va_S.rf
  have hl : lv_has ls 2 [(0, .ref (a 0)), (1, .int c_)] := hl
  obtain ⟨H, hH⟩ : ∃ H, H = s.heap := ⟨_, rfl⟩
  have hP : va_P D vwCl (sr_WM cI a kp cx sg) H := by rw [hH]; exact hP
  have hS : va_S (sr_AM a) s.heap H [] := by rw [hH]; exact hS
  suffices hG : ∀ locs, va_S (sr_AM a) s.heap H locs → W p l e (sr_rm 7 164) s m args below meth c H locs 0 0 Q (F0 m 0 ls []) from by have h9 := hG [] hS; rw [hH] at h9; exact h9
  clear hS
  intro locs hS
  clear hH
  refine lv_iload_n C0.1 C0.2.1 dX8_kind_0 rfl (lv_at hl 1 rfl) ?_
  refine sr_pSi (As := [.int c_]) C0 hK hP hZ (sr_Zs hZ hZ0 hS) (cc_X8_isChange ha c_) sk_X8_isChange (ss_X8_isChange) sw_761 rfl rfl hl.1 (Nat.le_of_ble_eq_true rfl) (Nat.le_of_ble_eq_true rfl) (Nat.le_of_ble_eq_true rfl) dX8_kind_1 ⟨Nat.zero_le _, Nat.zero_le _⟩ ?_
  refine sr_ifeq (tgt := 15) C0 dX8_kind_4 (by decide) (fun c4 => ?_) (fun c4 => ?_)
  · refine lv_bipush (v := (-2)) C0.1 C0.2.1 dX8_kind_15 (by decide) ?_
    exact hret _ _ _ sg _ _ _ dX8_kind_17 hP hS rfl (by unfold sp_kind; rw [if_pos (Classical.not_not.mp c4)]) trivial
  · obtain ⟨jc, hjc, rfl⟩ := sr_rg2 c4
    refine lv_aload_n C0.1 C0.2.1 dX8_kind_7 rfl (lv_at hl 0 rfl) ?_
    refine lv_iload_n C0.1 C0.2.1 dX8_kind_8 rfl (lv_at hl 1 rfl) ?_
    refine sr_gVi (As := [.int (nI jc)]) C0 hK hP hZ (sr_Zs hZ hZ0 hS) (cc_X8_kindNow ha jc hK_ (by omega)) sk_X8_kindNow sv_X8_kindNow sw_827 (ci := 8) rfl sr_wM0 rfl rfl hl.1 (Nat.le_of_ble_eq_true rfl) (Nat.le_of_ble_eq_true rfl) (Nat.le_of_ble_eq_true rfl) dX8_kind_9 ⟨Nat.zero_le _, Nat.zero_le _⟩ hS (fun sg1 H locs hRD hP hS => ?_)
    refine lv_goto (tgt := 17) C0.1 C0.2.1 dX8_kind_12 (by decide) ?_
    exact hret _ _ _ sg1 _ _ _ dX8_kind_17 hP hS rfl (by unfold sp_kind; (try rw [nI_clamp (n := jc) (by omega)]); rw [if_neg c4]; rfl) trivial
set_option maxRecDepth 100000 in
set_option maxHeartbeats 4000000 in
theorem cc_X8_carriesOf {l : Launch} {D : va_G} {cI : ClassId} {a : Nat → Nat} (ha : ∀ i j, i < 13 → j < 13 → a i = a j → i = j) {kp cx sg : sr_M} (us : Nat) (hK_ : sr_IK kp) (hRD : sr_RD kp sg) (hT : sr_th kp) (hs_us : us < 4) : sr_P l D (sr_tM cI) (sr_ZM) (sr_WM cI a kp cx sg) yX8_carriesOf cX8_carriesOf 4 (some .int) 5 121 [.ref (a 0), .int (nI us)] (some (.int (sr_ca kp us))) := by
  refine sr_Pie (by decide +kernel) (Nat.le_of_ble_eq_true rfl) (fun p e s m args below meth c ls Q B hret => ?_)
  obtain ⟨C0, hP, hK, hZ0, hl⟩ := B
  have hZ : sr_Zok (sr_AM a) (sr_ZM) := sr_ZMok
  have hS : va_S (sr_AM a) s.heap s.heap [] := va_S.rf
  have hl : lv_has ls 4 [(0, .ref (a 0)), (1, .int (nI us))] := hl
  refine lv_iload_n C0.1 C0.2.1 dX8_carriesOf_0 rfl (lv_at hl 1 rfl) ?_
  have hJ31 : ∀ (k31_0 : Int32), k31_0 = (if (nI us) = 0 then 0 else (sr_mt kp (sr_ru kp (us - 1)) (sr_ru kp ((us - 1) + 1)) (us - 1) (kp 3 (us - 1)) (kp 4 (us - 1)))) → W p l e (sr_rm 5 121) s m args below meth c s.heap [] 0 0 Q (F0 m 31 ls [.int k31_0]) := by
    intro k31_0 e_k31_0
    subst e_k31_0
    refine sr_chi (sr_fr_e hs_us) ?_
    refine lv_istore_n (lv' := [(2, .int (sr_fr kp us)), (0, .ref (a 0)), (1, .int (nI us))]) C0.1 C0.2.1 dX8_carriesOf_31 rfl hl (by decide) rfl (fun ls hl => ?_)
    refine lv_iload_n C0.1 C0.2.1 dX8_carriesOf_32 rfl (lv_at hl 2 rfl) ?_
    refine lv_iconst (v := 3) C0.1 C0.2.1 dX8_carriesOf_33 (by decide) ?_
    have hJ58 : ∀ (k58_0 : Int32), k58_0 = (if (nI us) = 3 then 0 else (sr_mt kp (sr_ru kp us) (sr_ru kp (us + 1)) us (kp 3 us) (kp 4 us))) → W p l e (sr_rm 5 121) s m args below meth c s.heap [] 0 0 Q (F0 m 58 ls [.int k58_0]) := by
      intro k58_0 e_k58_0
      subst e_k58_0
      refine sr_chi (sr_tt_e hs_us) ?_
      refine lv_istore_n (lv' := [(3, .int (sr_tt kp us)), (2, .int (sr_fr kp us)), (0, .ref (a 0)), (1, .int (nI us))]) C0.1 C0.2.1 dX8_carriesOf_58 rfl hl (by decide) rfl (fun ls hl => ?_)
      refine lv_iload_n C0.1 C0.2.1 dX8_carriesOf_59 rfl (lv_at hl 1 rfl) ?_
      refine lv_iconst (v := (-1)) C0.1 C0.2.1 dX8_carriesOf_60 (by decide) ?_
      refine lv_icmp_eq (tgt := 69) C0.1 C0.2.1 dX8_carriesOf_61 (by decide) (fun c61 => ?_) (fun c61 => ?_)
      · refine lv_iconst (v := (-1)) C0.1 C0.2.1 dX8_carriesOf_69 (by decide) ?_
        refine lv_goto (tgt := 79) C0.1 C0.2.1 dX8_carriesOf_70 (by decide) ?_
        exact hret _ _ _ dX8_carriesOf_79 (by unfold sr_ca; rw [if_pos c61])
      · refine lv_iload_n C0.1 C0.2.1 dX8_carriesOf_64 rfl (lv_at hl 0 rfl) ?_
        refine lv_iconst (v := (-1)) C0.1 C0.2.1 dX8_carriesOf_65 (by decide) ?_
        refine lv_icmp_ne (tgt := 73) C0.1 C0.2.1 dX8_carriesOf_66 (by decide) (fun c66 => ?_) (fun c66 => ?_)
        · refine lv_bipush (v := 100) C0.1 C0.2.1 dX8_carriesOf_73 (by decide) ?_
          refine lv_iload_n C0.1 C0.2.1 dX8_carriesOf_75 rfl (lv_at hl 0 rfl) ?_
          refine lv_iadd C0.1 C0.2.1 dX8_carriesOf_76 ?_
          refine lv_iload_n C0.1 C0.2.1 dX8_carriesOf_77 rfl (lv_at hl 1 rfl) ?_
          refine lv_isub C0.1 C0.2.1 dX8_carriesOf_78 ?_
          exact hret _ _ _ dX8_carriesOf_79 (by unfold sr_ca; rw [if_neg c61, if_neg c66])
        · refine lv_iconst (v := (-1)) C0.1 C0.2.1 dX8_carriesOf_69 (by decide) ?_
          refine lv_goto (tgt := 79) C0.1 C0.2.1 dX8_carriesOf_70 (by decide) ?_
          exact hret _ _ _ dX8_carriesOf_79 (by unfold sr_ca; rw [if_neg c61, if_pos c66])
    refine lv_icmp_ne (tgt := 41) C0.1 C0.2.1 dX8_carriesOf_34 (by decide) (fun c34 => ?_) (fun c34 => ?_)
    · have g34 : ¬ (us = 3) := fun q => c34 ((nI_eq (a := us) (b := 3) (by omega) (by omega)).mpr q)
      refine lv_aload_n C0.1 C0.2.1 dX8_carriesOf_41 rfl (lv_at hl 1 rfl) ?_
      refine lv_iload_n C0.1 C0.2.1 dX8_carriesOf_42 rfl (lv_at hl 2 rfl) ?_
      refine lv_aload_n C0.1 C0.2.1 dX8_carriesOf_43 rfl (lv_at hl 1 rfl) ?_
      refine sr_get (v := .ref (a 9)) C0 hK hP sr_inX8 sr_wM0 rfl 12 (by decide) sw_622 rfl dX8_carriesOf_44 ?_
      refine lv_iload_n C0.1 C0.2.1 dX8_carriesOf_47 rfl (lv_at hl 2 rfl) ?_
      refine sr_ald (k := us) C0 hK rfl hP sr_wM9 (nI_clamp (by omega)) (vp_in_nI (by omega) (by omega)) dX8_carriesOf_48 ?_
      refine lv_aload_n C0.1 C0.2.1 dX8_carriesOf_49 rfl (lv_at hl 1 rfl) ?_
      refine sr_get (v := .ref (a 10)) C0 hK hP sr_inX8 sr_wM0 rfl 13 (by decide) sw_623 rfl dX8_carriesOf_50 ?_
      refine lv_iload_n C0.1 C0.2.1 dX8_carriesOf_53 rfl (lv_at hl 2 rfl) ?_
      refine sr_ald (k := us) C0 hK rfl hP sr_wM10 (nI_clamp (by omega)) (vp_in_nI (by omega) (by omega)) dX8_carriesOf_54 ?_
      refine sr_pVi (As := [.int (nI us), .int (kp 3 us), .int (kp 4 us)]) C0 hK hP hZ hZ0 (cc_X8_meetOf ha us (kp 3 us) (kp 4 us) hK_ hRD hT (by omega)) sk_X8_meetOf sv_X8_meetOf sw_815 (ci := 8) rfl sr_wM0 rfl rfl hl.1 (Nat.le_of_ble_eq_true rfl) (Nat.le_of_ble_eq_true rfl) (Nat.le_of_ble_eq_true rfl) dX8_carriesOf_55 ⟨Nat.zero_le _, Nat.zero_le _⟩ ?_
      exact hJ58 _ (by rw [if_neg c34])
    · have g34 : us = 3 := (nI_eq (a := us) (b := 3) (by omega) (by omega)).mp c34
      refine lv_iconst (v := 0) C0.1 C0.2.1 dX8_carriesOf_37 (by decide) ?_
      refine lv_goto (tgt := 58) C0.1 C0.2.1 dX8_carriesOf_38 (by decide) ?_
      exact hJ58 _ (by rw [if_pos c34])
  refine lv_if_ne (tgt := 8) C0.1 C0.2.1 dX8_carriesOf_1 (by decide) (fun c1 => ?_) (fun c1 => ?_)
  · have g1 : ¬ (us = 0) := fun q => c1 ((nI_eq (a := us) (b := 0) (by omega) (by omega)).mpr q)
    refine lv_aload_n C0.1 C0.2.1 dX8_carriesOf_8 rfl (lv_at hl 0 rfl) ?_
    refine lv_iload_n C0.1 C0.2.1 dX8_carriesOf_9 rfl (lv_at hl 1 rfl) ?_
    refine lv_iconst (v := 1) C0.1 C0.2.1 dX8_carriesOf_10 (by decide) ?_
    refine lv_isub C0.1 C0.2.1 dX8_carriesOf_11 ?_
    refine sr_chi (pk_sub (a := us) (b := 1) (by omega)) ?_
    refine lv_aload_n C0.1 C0.2.1 dX8_carriesOf_12 rfl (lv_at hl 0 rfl) ?_
    refine sr_get (v := .ref (a 9)) C0 hK hP sr_inX8 sr_wM0 rfl 12 (by decide) sw_622 rfl dX8_carriesOf_13 ?_
    refine lv_iload_n C0.1 C0.2.1 dX8_carriesOf_16 rfl (lv_at hl 1 rfl) ?_
    refine lv_iconst (v := 1) C0.1 C0.2.1 dX8_carriesOf_17 (by decide) ?_
    refine lv_isub C0.1 C0.2.1 dX8_carriesOf_18 ?_
    refine sr_chi (pk_sub (a := us) (b := 1) (by omega)) ?_
    refine sr_ald (k := us - 1) C0 hK rfl hP sr_wM9 (nI_clamp (by omega)) (vp_in_nI (by omega) (by omega)) dX8_carriesOf_19 ?_
    refine lv_aload_n C0.1 C0.2.1 dX8_carriesOf_20 rfl (lv_at hl 0 rfl) ?_
    refine sr_get (v := .ref (a 10)) C0 hK hP sr_inX8 sr_wM0 rfl 13 (by decide) sw_623 rfl dX8_carriesOf_21 ?_
    refine lv_iload_n C0.1 C0.2.1 dX8_carriesOf_24 rfl (lv_at hl 1 rfl) ?_
    refine lv_iconst (v := 1) C0.1 C0.2.1 dX8_carriesOf_25 (by decide) ?_
    refine lv_isub C0.1 C0.2.1 dX8_carriesOf_26 ?_
    refine sr_chi (pk_sub (a := us) (b := 1) (by omega)) ?_
    refine sr_ald (k := us - 1) C0 hK rfl hP sr_wM10 (nI_clamp (by omega)) (vp_in_nI (by omega) (by omega)) dX8_carriesOf_27 ?_
    refine sr_pVi (As := [.int (nI (us - 1)), .int (kp 3 (us - 1)), .int (kp 4 (us - 1))]) C0 hK hP hZ hZ0 (cc_X8_meetOf ha (us - 1) (kp 3 (us - 1)) (kp 4 (us - 1)) hK_ hRD hT (by omega)) sk_X8_meetOf sv_X8_meetOf sw_815 (ci := 8) rfl sr_wM0 rfl rfl hl.1 (Nat.le_of_ble_eq_true rfl) (Nat.le_of_ble_eq_true rfl) (Nat.le_of_ble_eq_true rfl) dX8_carriesOf_28 ⟨Nat.zero_le _, Nat.zero_le _⟩ ?_
    exact hJ31 _ (by rw [if_neg c1])
  · have g1 : us = 0 := (nI_eq (a := us) (b := 0) (by omega) (by omega)).mp c1
    refine lv_iconst (v := 0) C0.1 C0.2.1 dX8_carriesOf_4 (by decide) ?_
    refine lv_goto (tgt := 31) C0.1 C0.2.1 dX8_carriesOf_5 (by decide) ?_
    exact hJ31 _ (by rw [if_pos c1])
set_option maxRecDepth 100000 in
set_option maxHeartbeats 4000000 in
theorem cc_X8_carriesNow {l : Launch} {D : va_G} {cI : ClassId} {a : Nat → Nat} (ha : ∀ i j, i < 13 → j < 13 → a i = a j → i = j) {kp cx sg : sr_M} (us : Nat) (hK_ : sr_IK kp) (hs_us : us < 4) : sr_G l D (sr_tM cI) (sr_ZM) (sr_AM a) (sr_WM cI a kp cx sg) yX8_carriesNow cX8_carriesNow 2 (some .int) 6 144 [.ref (a 0), .int (nI us)] (S := sr_M) (fun u => sr_RD kp u) (fun u => sr_WM cI a kp cx u) (fun u => some (.int (sn_carries kp us))) := by
  refine sr_Gie (by decide +kernel) (Nat.le_of_ble_eq_true rfl) (fun p e s m args below meth c ls Q B hret => ?_)
  obtain ⟨C0, hP, hK, hZ0, hl⟩ := B
  have hZ : sr_Zok (sr_AM a) (sr_ZM) := sr_ZMok
  have hS : va_S (sr_AM a) s.heap s.heap [] := va_S.rf
  have hl : lv_has ls 2 [(0, .ref (a 0)), (1, .int (nI us))] := hl
  obtain ⟨H, hH⟩ : ∃ H, H = s.heap := ⟨_, rfl⟩
  have hP : va_P D vwCl (sr_WM cI a kp cx sg) H := by rw [hH]; exact hP
  have hS : va_S (sr_AM a) s.heap H [] := by rw [hH]; exact hS
  suffices hG : ∀ locs, va_S (sr_AM a) s.heap H locs → W p l e (sr_rm 6 144) s m args below meth c H locs 0 0 Q (F0 m 0 ls []) from by have h9 := hG [] hS; rw [hH] at h9; exact h9
  clear hS
  intro locs hS
  clear hH
  refine lv_aload_n C0.1 C0.2.1 dX8_carriesNow_0 rfl (lv_at hl 0 rfl) ?_
  refine sr_gVi (As := []) C0 hK hP hZ (sr_Zs hZ hZ0 hS) (cc_X8_areThere ha hK_) sk_X8_areThere sv_X8_areThere sw_795 (ci := 8) rfl sr_wM0 rfl rfl hl.1 (Nat.le_of_ble_eq_true rfl) (Nat.le_of_ble_eq_true rfl) (Nat.le_of_ble_eq_true rfl) dX8_carriesNow_1 ⟨Nat.zero_le _, Nat.zero_le _⟩ hS (fun sg1 H locs hRD hP hS => ?_)
  refine sr_ifeq (tgt := 15) C0 dX8_carriesNow_4 (by decide) (fun c4 => ?_) (fun c4 => ?_)
  · refine lv_bipush (v := (-3)) C0.1 C0.2.1 dX8_carriesNow_15 (by decide) ?_
    exact hret _ _ _ sg1 _ _ _ dX8_carriesNow_17 hP hS rfl (by unfold sn_carries; rw [if_pos c4]) hRD
  · have hT : sr_th kp := c4
    refine lv_aload_n C0.1 C0.2.1 dX8_carriesNow_7 rfl (lv_at hl 0 rfl) ?_
    refine lv_iload_n C0.1 C0.2.1 dX8_carriesNow_8 rfl (lv_at hl 1 rfl) ?_
    refine sr_pVi (As := [.int (nI us)]) C0 hK hP hZ (sr_Zs hZ hZ0 hS) (cc_X8_carriesOf ha us hK_ hRD hT (by omega)) sk_X8_carriesOf sv_X8_carriesOf sw_847 (ci := 8) rfl sr_wM0 rfl rfl hl.1 (Nat.le_of_ble_eq_true rfl) (Nat.le_of_ble_eq_true rfl) (Nat.le_of_ble_eq_true rfl) dX8_carriesNow_9 ⟨Nat.zero_le _, Nat.zero_le _⟩ ?_
    refine lv_goto (tgt := 17) C0.1 C0.2.1 dX8_carriesNow_12 (by decide) ?_
    exact hret _ _ _ sg1 _ _ _ dX8_carriesNow_17 hP hS rfl (by unfold sn_carries; rw [if_neg (fun q => q c4)]) hRD
set_option maxRecDepth 100000 in
set_option maxHeartbeats 4000000 in
theorem cc_X8_carries {l : Launch} {D : va_G} {cI : ClassId} {a : Nat → Nat} (ha : ∀ i j, i < 13 → j < 13 → a i = a j → i = j) {kp cx sg : sr_M} (s_ : Int32) (hK_ : sr_IK kp) : sr_G l D (sr_tM cI) (sr_ZM) (sr_AM a) (sr_WM cI a kp cx sg) yX8_carries cX8_carries 2 (some .int) 7 165 [.ref (a 0), .int s_] (S := sr_M) (fun u => True) (fun u => sr_WM cI a kp cx u) (fun u => some (.int (sp_carries kp s_))) := by
  refine sr_Gie (by decide +kernel) (Nat.le_of_ble_eq_true rfl) (fun p e s m args below meth c ls Q B hret => ?_)
  obtain ⟨C0, hP, hK, hZ0, hl⟩ := B
  have hZ : sr_Zok (sr_AM a) (sr_ZM) := sr_ZMok
  have hS : va_S (sr_AM a) s.heap s.heap [] := va_S.rf
  have hl : lv_has ls 2 [(0, .ref (a 0)), (1, .int s_)] := hl
  obtain ⟨H, hH⟩ : ∃ H, H = s.heap := ⟨_, rfl⟩
  have hP : va_P D vwCl (sr_WM cI a kp cx sg) H := by rw [hH]; exact hP
  have hS : va_S (sr_AM a) s.heap H [] := by rw [hH]; exact hS
  suffices hG : ∀ locs, va_S (sr_AM a) s.heap H locs → W p l e (sr_rm 7 165) s m args below meth c H locs 0 0 Q (F0 m 0 ls []) from by have h9 := hG [] hS; rw [hH] at h9; exact h9
  clear hS
  intro locs hS
  clear hH
  refine lv_iload_n C0.1 C0.2.1 dX8_carries_0 rfl (lv_at hl 1 rfl) ?_
  refine sr_pSi (As := [.int s_]) C0 hK hP hZ (sr_Zs hZ hZ0 hS) (cc_X8_isStretch ha s_) sk_X8_isStretch (ss_X8_isStretch) sw_744 rfl rfl hl.1 (Nat.le_of_ble_eq_true rfl) (Nat.le_of_ble_eq_true rfl) (Nat.le_of_ble_eq_true rfl) dX8_carries_1 ⟨Nat.zero_le _, Nat.zero_le _⟩ ?_
  refine sr_ifeq (tgt := 15) C0 dX8_carries_4 (by decide) (fun c4 => ?_) (fun c4 => ?_)
  · refine lv_bipush (v := (-2)) C0.1 C0.2.1 dX8_carries_15 (by decide) ?_
    exact hret _ _ _ sg _ _ _ dX8_carries_17 hP hS rfl (by unfold sp_carries; rw [if_pos (Classical.not_not.mp c4)]) trivial
  · obtain ⟨js, hjs, rfl⟩ := sr_rg3 c4
    refine lv_aload_n C0.1 C0.2.1 dX8_carries_7 rfl (lv_at hl 0 rfl) ?_
    refine lv_iload_n C0.1 C0.2.1 dX8_carries_8 rfl (lv_at hl 1 rfl) ?_
    refine sr_gVi (As := [.int (nI js)]) C0 hK hP hZ (sr_Zs hZ hZ0 hS) (cc_X8_carriesNow ha js hK_ (by omega)) sk_X8_carriesNow sv_X8_carriesNow sw_843 (ci := 8) rfl sr_wM0 rfl rfl hl.1 (Nat.le_of_ble_eq_true rfl) (Nat.le_of_ble_eq_true rfl) (Nat.le_of_ble_eq_true rfl) dX8_carries_9 ⟨Nat.zero_le _, Nat.zero_le _⟩ hS (fun sg1 H locs hRD hP hS => ?_)
    refine lv_goto (tgt := 17) C0.1 C0.2.1 dX8_carries_12 (by decide) ?_
    exact hret _ _ _ sg1 _ _ _ dX8_carries_17 hP hS rfl (by unfold sp_carries; (try rw [nI_clamp (n := js) (by omega)]); rw [if_neg c4]; rfl) trivial
