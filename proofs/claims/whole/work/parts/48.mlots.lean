set_option maxRecDepth 100000 in
set_option maxHeartbeats 4000000 in
theorem cc_X8_slipByLot {l : Launch} {D : va_G} {cI : ClassId} {a : Nat → Nat} (ha : ∀ i j, i < 13 → j < 13 → a i = a j → i = j) {kp cx sg : sr_M} (x_ : Int32) (hnow : sg 1 2 = x_) : sr_G l D (sr_tM cI) (sr_ZM) (sr_AM a) (sr_WM cI a kp cx sg) yX8_slipByLot cX8_slipByLot 3 (some .int) 0 0 [.ref (a 0)] (S := sr_M) (fun u => u 1 2 = sr_nx x_ ∧ (sr_RD kp sg → sr_RD kp u)) (fun u => sr_WM cI a kp cx u) (fun u => some (.int (sr_ls (kp 2 6) (sr_nx x_)))) := by
  refine sr_Gie (by decide +kernel) (Nat.le_of_ble_eq_true rfl) (fun p e s m args below meth c ls Q B hret => ?_)
  obtain ⟨C0, hP, hK, hZ0, hl⟩ := B
  have hZ : sr_Zok (sr_AM a) (sr_ZM) := sr_ZMok
  have hS : va_S (sr_AM a) s.heap s.heap [] := va_S.rf
  have hl : lv_has ls 3 [(0, .ref (a 0))] := hl
  obtain ⟨H, hH⟩ : ∃ H, H = s.heap := ⟨_, rfl⟩
  have hP : va_P D vwCl (sr_WM cI a kp cx sg) H := by rw [hH]; exact hP
  have hS : va_S (sr_AM a) s.heap H [] := by rw [hH]; exact hS
  suffices hG : ∀ locs, va_S (sr_AM a) s.heap H locs → W p l e (sr_rm 0 0) s m args below meth c H locs 0 0 Q (F0 m 0 ls []) from by have h9 := hG [] hS; rw [hH] at h9; exact h9
  clear hS
  intro locs hS
  clear hH
  refine lv_aload_n C0.1 C0.2.1 dX8_slipByLot_0 rfl (lv_at hl 0 rfl) ?_
  refine lv_ldc (v := 1103515245) C0.1 C0.2.1 C0.2.2.2.1 (C0.2.2.2.2 _ sw_945) dX8_slipByLot_1 ?_
  refine lv_aload_n C0.1 C0.2.1 dX8_slipByLot_3 rfl (lv_at hl 0 rfl) ?_
  refine sr_get (v := .int (sg 1 2)) C0 hK hP sr_inX8 sr_wM0 rfl 16 (by decide) sw_626 rfl dX8_slipByLot_4 ?_
  refine sr_chi hnow ?_
  refine lv_imul C0.1 C0.2.1 dX8_slipByLot_7 ?_
  refine lv_sipush (v := 12345) C0.1 C0.2.1 dX8_slipByLot_8 (by decide) ?_
  refine lv_iadd C0.1 C0.2.1 dX8_slipByLot_11 ?_
  refine sr_put C0 hK hP (sr_DM ha _ _ _) hS sr_inX8 tyX8_ok nmX8 sr_wM0 rfl 16 (by decide) sw_626 rfl (by decide +kernel) (Nat.le_of_ble_eq_true rfl) sr_fM0_16 dX8_slipByLot_12 (fun H locs hP hS => ?_)
  have hP : va_P D vwCl (sr_WM cI a kp cx (va_up sg 1 (upd (sg 1) 2 (sr_nx x_)))) H := hP
  refine lv_aload_n C0.1 C0.2.1 dX8_slipByLot_15 rfl (lv_at hl 0 rfl) ?_
  refine sr_get (v := .int (sr_nx x_)) C0 hK hP sr_inX8 sr_wM0 rfl 16 (by decide) sw_626 rfl dX8_slipByLot_16 ?_
  refine lv_bipush (v := 16) C0.1 C0.2.1 dX8_slipByLot_19 (by decide) ?_
  refine lv_iushr C0.1 C0.2.1 dX8_slipByLot_21 rfl ?_
  refine sr_chi (sr_hi_e (sr_nx x_)) ?_
  have := sr_hi_lt (sr_nx x_)
  refine lv_bipush (v := 16) C0.1 C0.2.1 dX8_slipByLot_22 (by decide) ?_
  refine lv_irem C0.1 C0.2.1 dX8_slipByLot_24 (by decide) ?_
  refine sr_chi (pk_rem (a := (sr_hi (sr_nx x_))) (d := 16) (by omega) (by omega) (by omega)) ?_
  refine lv_istore_n (lv' := [(1, .int (nI ((sr_hi (sr_nx x_)) % 16))), (0, .ref (a 0))]) C0.1 C0.2.1 dX8_slipByLot_25 rfl hl (by decide) rfl (fun ls hl => ?_)
  refine lv_iload_n C0.1 C0.2.1 dX8_slipByLot_26 rfl (lv_at hl 0 rfl) ?_
  refine lv_if_ne (tgt := 35) C0.1 C0.2.1 dX8_slipByLot_27 (by decide) (fun c27 => ?_) (fun c27 => ?_)
  · have g27 : ¬ ((sr_hi (sr_nx x_)) % 16 = 0) := fun q => c27 ((nI_eq (a := ((sr_hi (sr_nx x_)) % 16)) (b := 0) (by omega) (by omega)).mpr q)
    refine lv_iload_n C0.1 C0.2.1 dX8_slipByLot_35 rfl (lv_at hl 0 rfl) ?_
    refine lv_iconst (v := 5) C0.1 C0.2.1 dX8_slipByLot_36 (by decide) ?_
    refine lv_icmp_ge (tgt := 44) C0.1 C0.2.1 dX8_slipByLot_37 (by decide) (fun c37 => ?_) (fun c37 => ?_)
    · have g37 : 5 ≤ (sr_hi (sr_nx x_)) % 16 := (nI_leI (a := 5) (b := ((sr_hi (sr_nx x_)) % 16)) (by omega) (by omega)).mp c37
      refine lv_iload_n C0.1 C0.2.1 dX8_slipByLot_44 rfl (lv_at hl 0 rfl) ?_
      refine lv_bipush (v := 11) C0.1 C0.2.1 dX8_slipByLot_45 (by decide) ?_
      refine lv_icmp_ge (tgt := 54) C0.1 C0.2.1 dX8_slipByLot_47 (by decide) (fun c47 => ?_) (fun c47 => ?_)
      · have g47 : 11 ≤ (sr_hi (sr_nx x_)) % 16 := (nI_leI (a := 11) (b := ((sr_hi (sr_nx x_)) % 16)) (by omega) (by omega)).mp c47
        refine lv_iload_n C0.1 C0.2.1 dX8_slipByLot_54 rfl (lv_at hl 0 rfl) ?_
        refine lv_bipush (v := 15) C0.1 C0.2.1 dX8_slipByLot_55 (by decide) ?_
        refine lv_icmp_ge (tgt := 64) C0.1 C0.2.1 dX8_slipByLot_57 (by decide) (fun c57 => ?_) (fun c57 => ?_)
        · have g57 : 15 ≤ (sr_hi (sr_nx x_)) % 16 := (nI_leI (a := 15) (b := ((sr_hi (sr_nx x_)) % 16)) (by omega) (by omega)).mp c57
          refine lv_iconst (v := 2) C0.1 C0.2.1 dX8_slipByLot_64 (by decide) ?_
          refine lv_istore_n (lv' := [(2, .int 2), (1, .int (nI ((sr_hi (sr_nx x_)) % 16))), (0, .ref (a 0))]) C0.1 C0.2.1 dX8_slipByLot_65 rfl hl (by decide) rfl (fun ls hl => ?_)
          refine lv_iload_n C0.1 C0.2.1 dX8_slipByLot_66 rfl (lv_at hl 0 rfl) ?_
          refine lv_aload_n C0.1 C0.2.1 dX8_slipByLot_67 rfl (lv_at hl 2 rfl) ?_
          refine sr_get (v := .ref (a 8)) C0 hK hP sr_inX8 sr_wM0 rfl 11 (by decide) sw_621 rfl dX8_slipByLot_68 ?_
          refine lv_bipush (v := 6) C0.1 C0.2.1 dX8_slipByLot_71 (by decide) ?_
          refine sr_ald (k := 6) C0 hK rfl hP sr_wM8 (by decide) (sr_inc (by decide)) dX8_slipByLot_73 ?_
          refine lv_imul C0.1 C0.2.1 dX8_slipByLot_74 ?_
          exact hret _ _ _ (va_up sg 1 (upd (sg 1) 2 (sr_nx x_))) _ _ _ dX8_slipByLot_75 hP hS rfl (by unfold sr_ls; rw [sr_tPe (sr_lo_lt _)]; unfold sr_tPn sr_lo; rw [if_neg g27, if_pos g37, if_pos g47, if_pos g57]) ⟨rfl, fun q => q⟩
        · have g57 : ¬ (15 ≤ (sr_hi (sr_nx x_)) % 16) := fun q => c57 ((nI_leI (a := 15) (b := ((sr_hi (sr_nx x_)) % 16)) (by omega) (by omega)).mpr q)
          refine lv_iconst (v := 1) C0.1 C0.2.1 dX8_slipByLot_60 (by decide) ?_
          refine lv_goto (tgt := 65) C0.1 C0.2.1 dX8_slipByLot_61 (by decide) ?_
          refine lv_istore_n (lv' := [(2, .int 1), (1, .int (nI ((sr_hi (sr_nx x_)) % 16))), (0, .ref (a 0))]) C0.1 C0.2.1 dX8_slipByLot_65 rfl hl (by decide) rfl (fun ls hl => ?_)
          refine lv_iload_n C0.1 C0.2.1 dX8_slipByLot_66 rfl (lv_at hl 0 rfl) ?_
          refine lv_aload_n C0.1 C0.2.1 dX8_slipByLot_67 rfl (lv_at hl 2 rfl) ?_
          refine sr_get (v := .ref (a 8)) C0 hK hP sr_inX8 sr_wM0 rfl 11 (by decide) sw_621 rfl dX8_slipByLot_68 ?_
          refine lv_bipush (v := 6) C0.1 C0.2.1 dX8_slipByLot_71 (by decide) ?_
          refine sr_ald (k := 6) C0 hK rfl hP sr_wM8 (by decide) (sr_inc (by decide)) dX8_slipByLot_73 ?_
          refine lv_imul C0.1 C0.2.1 dX8_slipByLot_74 ?_
          exact hret _ _ _ (va_up sg 1 (upd (sg 1) 2 (sr_nx x_))) _ _ _ dX8_slipByLot_75 hP hS rfl (by unfold sr_ls; rw [sr_tPe (sr_lo_lt _)]; unfold sr_tPn sr_lo; rw [if_neg g27, if_pos g37, if_pos g47, if_neg g57]) ⟨rfl, fun q => q⟩
      · have g47 : ¬ (11 ≤ (sr_hi (sr_nx x_)) % 16) := fun q => c47 ((nI_leI (a := 11) (b := ((sr_hi (sr_nx x_)) % 16)) (by omega) (by omega)).mpr q)
        refine lv_iconst (v := 0) C0.1 C0.2.1 dX8_slipByLot_50 (by decide) ?_
        refine lv_goto (tgt := 65) C0.1 C0.2.1 dX8_slipByLot_51 (by decide) ?_
        refine lv_istore_n (lv' := [(2, .int 0), (1, .int (nI ((sr_hi (sr_nx x_)) % 16))), (0, .ref (a 0))]) C0.1 C0.2.1 dX8_slipByLot_65 rfl hl (by decide) rfl (fun ls hl => ?_)
        refine lv_iload_n C0.1 C0.2.1 dX8_slipByLot_66 rfl (lv_at hl 0 rfl) ?_
        refine lv_aload_n C0.1 C0.2.1 dX8_slipByLot_67 rfl (lv_at hl 2 rfl) ?_
        refine sr_get (v := .ref (a 8)) C0 hK hP sr_inX8 sr_wM0 rfl 11 (by decide) sw_621 rfl dX8_slipByLot_68 ?_
        refine lv_bipush (v := 6) C0.1 C0.2.1 dX8_slipByLot_71 (by decide) ?_
        refine sr_ald (k := 6) C0 hK rfl hP sr_wM8 (by decide) (sr_inc (by decide)) dX8_slipByLot_73 ?_
        refine lv_imul C0.1 C0.2.1 dX8_slipByLot_74 ?_
        exact hret _ _ _ (va_up sg 1 (upd (sg 1) 2 (sr_nx x_))) _ _ _ dX8_slipByLot_75 hP hS rfl (by unfold sr_ls; rw [sr_tPe (sr_lo_lt _)]; unfold sr_tPn sr_lo; rw [if_neg g27, if_pos g37, if_neg g47]) ⟨rfl, fun q => q⟩
    · have g37 : ¬ (5 ≤ (sr_hi (sr_nx x_)) % 16) := fun q => c37 ((nI_leI (a := 5) (b := ((sr_hi (sr_nx x_)) % 16)) (by omega) (by omega)).mpr q)
      refine lv_iconst (v := (-1)) C0.1 C0.2.1 dX8_slipByLot_40 (by decide) ?_
      refine lv_goto (tgt := 65) C0.1 C0.2.1 dX8_slipByLot_41 (by decide) ?_
      refine lv_istore_n (lv' := [(2, .int (-1)), (1, .int (nI ((sr_hi (sr_nx x_)) % 16))), (0, .ref (a 0))]) C0.1 C0.2.1 dX8_slipByLot_65 rfl hl (by decide) rfl (fun ls hl => ?_)
      refine lv_iload_n C0.1 C0.2.1 dX8_slipByLot_66 rfl (lv_at hl 0 rfl) ?_
      refine lv_aload_n C0.1 C0.2.1 dX8_slipByLot_67 rfl (lv_at hl 2 rfl) ?_
      refine sr_get (v := .ref (a 8)) C0 hK hP sr_inX8 sr_wM0 rfl 11 (by decide) sw_621 rfl dX8_slipByLot_68 ?_
      refine lv_bipush (v := 6) C0.1 C0.2.1 dX8_slipByLot_71 (by decide) ?_
      refine sr_ald (k := 6) C0 hK rfl hP sr_wM8 (by decide) (sr_inc (by decide)) dX8_slipByLot_73 ?_
      refine lv_imul C0.1 C0.2.1 dX8_slipByLot_74 ?_
      exact hret _ _ _ (va_up sg 1 (upd (sg 1) 2 (sr_nx x_))) _ _ _ dX8_slipByLot_75 hP hS rfl (by unfold sr_ls; rw [sr_tPe (sr_lo_lt _)]; unfold sr_tPn sr_lo; rw [if_neg g27, if_neg g37]) ⟨rfl, fun q => q⟩
  · have g27 : (sr_hi (sr_nx x_)) % 16 = 0 := (nI_eq (a := ((sr_hi (sr_nx x_)) % 16)) (b := 0) (by omega) (by omega)).mp c27
    refine lv_bipush (v := (-2)) C0.1 C0.2.1 dX8_slipByLot_30 (by decide) ?_
    refine lv_goto (tgt := 65) C0.1 C0.2.1 dX8_slipByLot_32 (by decide) ?_
    refine lv_istore_n (lv' := [(2, .int (-2)), (1, .int (nI ((sr_hi (sr_nx x_)) % 16))), (0, .ref (a 0))]) C0.1 C0.2.1 dX8_slipByLot_65 rfl hl (by decide) rfl (fun ls hl => ?_)
    refine lv_iload_n C0.1 C0.2.1 dX8_slipByLot_66 rfl (lv_at hl 0 rfl) ?_
    refine lv_aload_n C0.1 C0.2.1 dX8_slipByLot_67 rfl (lv_at hl 2 rfl) ?_
    refine sr_get (v := .ref (a 8)) C0 hK hP sr_inX8 sr_wM0 rfl 11 (by decide) sw_621 rfl dX8_slipByLot_68 ?_
    refine lv_bipush (v := 6) C0.1 C0.2.1 dX8_slipByLot_71 (by decide) ?_
    refine sr_ald (k := 6) C0 hK rfl hP sr_wM8 (by decide) (sr_inc (by decide)) dX8_slipByLot_73 ?_
    refine lv_imul C0.1 C0.2.1 dX8_slipByLot_74 ?_
    exact hret _ _ _ (va_up sg 1 (upd (sg 1) 2 (sr_nx x_))) _ _ _ dX8_slipByLot_75 hP hS rfl (by unfold sr_ls; rw [sr_tPe (sr_lo_lt _)]; unfold sr_tPn sr_lo; rw [if_pos g27]) ⟨rfl, fun q => q⟩
set_option maxRecDepth 100000 in
set_option maxHeartbeats 4000000 in
theorem cc_X8_raceOn {l : Launch} {D : va_G} {cI : ClassId} {a : Nat → Nat} (ha : ∀ i j, i < 13 → j < 13 → a i = a j → i = j) {kp cx sg : sr_M} (x_ : Int32) (hK_ : sr_IK kp) (hnow : sg 1 2 = x_) (hRD : sr_RD kp sg) (hT : sr_th kp) : sr_G l D (sr_tM cI) (sr_ZM) (sr_AM a) (sr_WM cI a kp cx sg) yX8_raceOn cX8_raceOn 6 (some .int) 5 121 [.ref (a 0)] (S := sr_M) (fun u => u 1 2 = sr_nx (sr_nx (sr_nx x_)) ∧ sr_RD kp u) (fun u => sr_WM cI a kp cx u) (fun u => some (.int (sr_rt kp x_))) := by
  refine sr_Gie (by decide +kernel) (Nat.le_of_ble_eq_true rfl) (fun p e s m args below meth c ls Q B hret => ?_)
  obtain ⟨C0, hP, hK, hZ0, hl⟩ := B
  have hZ : sr_Zok (sr_AM a) (sr_ZM) := sr_ZMok
  have hS : va_S (sr_AM a) s.heap s.heap [] := va_S.rf
  have hl : lv_has ls 6 [(0, .ref (a 0))] := hl
  obtain ⟨H, hH⟩ : ∃ H, H = s.heap := ⟨_, rfl⟩
  have hP : va_P D vwCl (sr_WM cI a kp cx sg) H := by rw [hH]; exact hP
  have hS : va_S (sr_AM a) s.heap H [] := by rw [hH]; exact hS
  suffices hG : ∀ locs, va_S (sr_AM a) s.heap H locs → W p l e (sr_rm 5 121) s m args below meth c H locs 0 0 Q (F0 m 0 ls []) from by have h9 := hG [] hS; rw [hH] at h9; exact h9
  clear hS
  intro locs hS
  clear hH
  refine lv_aload_n C0.1 C0.2.1 dX8_raceOn_0 rfl (lv_at hl 0 rfl) ?_
  refine lv_aload_n C0.1 C0.2.1 dX8_raceOn_1 rfl (lv_at hl 0 rfl) ?_
  refine sr_get (v := .ref (a 7)) C0 hK hP sr_inX8 sr_wM0 rfl 10 (by decide) sw_620 rfl dX8_raceOn_2 ?_
  refine lv_iconst (v := 3) C0.1 C0.2.1 dX8_raceOn_5 (by decide) ?_
  refine sr_ald (k := 3) C0 hK rfl hP sr_wM7 (by decide) (sr_inc (by decide)) dX8_raceOn_6 ?_
  refine sr_chi (sr_IK_ru hK_ (by omega)) ?_
  have := sr_IK_ru5 hK_ (s := 3) (by omega)
  refine lv_iconst (v := 3) C0.1 C0.2.1 dX8_raceOn_7 (by decide) ?_
  refine lv_bipush (v := 100) C0.1 C0.2.1 dX8_raceOn_8 (by decide) ?_
  refine sr_pVi (As := [.int (nI (sr_ru kp 3)), .int 3, .int 100]) C0 hK hP hZ (sr_Zs hZ hZ0 hS) (cc_X8_takesOf ha (sr_ru kp 3) 3 (100) hRD (by first | assumption | omega | exact sr_th_at hT (by omega)) (by omega)) sk_X8_takesOf sv_X8_takesOf sw_781 (ci := 8) rfl sr_wM0 rfl rfl hl.1 (Nat.le_of_ble_eq_true rfl) (Nat.le_of_ble_eq_true rfl) (Nat.le_of_ble_eq_true rfl) dX8_raceOn_10 ⟨Nat.zero_le _, Nat.zero_le _⟩ ?_
  refine lv_istore_n (lv' := [(1, .int (sr_T kp (sr_ru kp 3) 3 100)), (0, .ref (a 0))]) C0.1 C0.2.1 dX8_raceOn_13 rfl hl (by decide) rfl (fun ls hl => ?_)
  refine lv_iconst (v := 0) C0.1 C0.2.1 dX8_raceOn_14 (by decide) ?_
  refine lv_istore_n (lv' := [(2, .int 0), (1, .int (sr_T kp (sr_ru kp 3) 3 100)), (0, .ref (a 0))]) C0.1 C0.2.1 dX8_raceOn_15 rfl hl (by decide) rfl (fun ls hl => ?_)
  refine lv_iconst (v := 0) C0.1 C0.2.1 dX8_raceOn_16 (by decide) ?_
  refine lv_istore_n (lv' := [(3, .int 0), (2, .int 0), (1, .int (sr_T kp (sr_ru kp 3) 3 100)), (0, .ref (a 0))]) C0.1 C0.2.1 dX8_raceOn_17 rfl hl (by decide) rfl (fun ls hl => ?_)
  refine lv_iload_n C0.1 C0.2.1 dX8_raceOn_18 rfl (lv_at hl 0 rfl) ?_
  refine lv_iconst (v := 3) C0.1 C0.2.1 dX8_raceOn_19 (by decide) ?_
  refine lv_icmp_ge (tgt := 95) C0.1 C0.2.1 dX8_raceOn_20 (by decide) (fun q => absurd q (by decide)) (fun _ => ?_)
  refine lv_aload_n C0.1 C0.2.1 dX8_raceOn_23 rfl (lv_at hl 3 rfl) ?_
  refine sr_gVi (As := []) C0 hK hP hZ (sr_Zs hZ hZ0 hS) (cc_X8_slipByLot ha x_ hnow) sk_X8_slipByLot sv_X8_slipByLot sw_941 (ci := 8) rfl sr_wM0 rfl rfl hl.1 (Nat.le_of_ble_eq_true rfl) (Nat.le_of_ble_eq_true rfl) (Nat.le_of_ble_eq_true rfl) dX8_raceOn_24 ⟨Nat.zero_le _, Nat.zero_le _⟩ hS (fun sg1 H locs hsl hP hS => ?_)
  have hsn1 := hsl.1
  have hRD := hsl.2 hRD
  refine lv_istore (lv' := [(4, .int (sr_ls (kp 2 6) (sr_nx x_))), (3, .int 0), (2, .int 0), (1, .int (sr_T kp (sr_ru kp 3) 3 100)), (0, .ref (a 0))]) C0.1 C0.2.1 dX8_raceOn_27 hl (by decide) rfl (fun ls hl => ?_)
  refine lv_aload_n C0.1 C0.2.1 dX8_raceOn_29 rfl (lv_at hl 4 rfl) ?_
  refine lv_iload_n C0.1 C0.2.1 dX8_raceOn_30 rfl (lv_at hl 1 rfl) ?_
  refine lv_aload_n C0.1 C0.2.1 dX8_raceOn_31 rfl (lv_at hl 4 rfl) ?_
  refine sr_get (v := .ref (a 9)) C0 hK hP sr_inX8 sr_wM0 rfl 12 (by decide) sw_622 rfl dX8_raceOn_32 ?_
  refine lv_iload_n C0.1 C0.2.1 dX8_raceOn_35 rfl (lv_at hl 1 rfl) ?_
  refine sr_ald (k := 0) C0 hK rfl hP sr_wM9 (by decide) (sr_inc (by decide)) dX8_raceOn_36 ?_
  refine lv_iload C0.1 C0.2.1 dX8_raceOn_37 (lv_at hl 0 rfl) ?_
  refine sr_pVi (As := [.int 0, .int (kp 3 0), .int (sr_ls (kp 2 6) (sr_nx x_))]) C0 hK hP hZ (sr_Zs hZ hZ0 hS) (cc_X8_meetOf ha 0 (kp 3 0) (sr_ls (kp 2 6) (sr_nx x_)) hK_ hRD hT (by omega)) sk_X8_meetOf sv_X8_meetOf sw_815 (ci := 8) rfl sr_wM0 rfl rfl hl.1 (Nat.le_of_ble_eq_true rfl) (Nat.le_of_ble_eq_true rfl) (Nat.le_of_ble_eq_true rfl) dX8_raceOn_39 ⟨Nat.zero_le _, Nat.zero_le _⟩ ?_
  refine lv_istore (lv' := [(5, .int (sr_mt kp (sr_ru kp 0) (sr_ru kp (0 + 1)) 0 (kp 3 0) (sr_ls (kp 2 6) (sr_nx x_)))), (4, .int (sr_ls (kp 2 6) (sr_nx x_))), (3, .int 0), (2, .int 0), (1, .int (sr_T kp (sr_ru kp 3) 3 100)), (0, .ref (a 0))]) C0.1 C0.2.1 dX8_raceOn_42 hl (by decide) rfl (fun ls hl => ?_)
  refine lv_iload_n C0.1 C0.2.1 dX8_raceOn_44 rfl (lv_at hl 3 rfl) ?_
  refine lv_if_ne (tgt := 54) C0.1 C0.2.1 dX8_raceOn_45 (by decide) (fun q => absurd q (by decide)) (fun _ => ?_)
  refine lv_iload C0.1 C0.2.1 dX8_raceOn_48 (lv_at hl 0 rfl) ?_
  refine lv_iconst (v := (-1)) C0.1 C0.2.1 dX8_raceOn_50 (by decide) ?_
  have hJ59 : ∀ (k59_0 : Int32), k59_0 = (if (sr_mt kp (sr_ru kp 0) (sr_ru kp (0 + 1)) 0 (kp 3 0) (sr_ls (kp 2 6) (sr_nx x_))) = (-1) then 1 else 0) → W p l e (sr_rm 5 121) s m args below meth c H locs 0 0 Q (F0 m 59 ls [.int k59_0]) := by
    intro k59_0 e_k59_0
    subst e_k59_0
    refine lv_istore_n (lv' := [(2, .int (if (sr_mt kp (sr_ru kp 0) (sr_ru kp (0 + 1)) 0 (kp 3 0) (sr_ls (kp 2 6) (sr_nx x_))) = (-1) then 1 else 0)), (5, .int (sr_mt kp (sr_ru kp 0) (sr_ru kp (0 + 1)) 0 (kp 3 0) (sr_ls (kp 2 6) (sr_nx x_)))), (4, .int (sr_ls (kp 2 6) (sr_nx x_))), (3, .int 0), (1, .int (sr_T kp (sr_ru kp 3) 3 100)), (0, .ref (a 0))]) C0.1 C0.2.1 dX8_raceOn_59 rfl hl (by decide) rfl (fun ls hl => ?_)
    refine lv_iload_n C0.1 C0.2.1 dX8_raceOn_60 rfl (lv_at hl 4 rfl) ?_
    refine lv_aload_n C0.1 C0.2.1 dX8_raceOn_61 rfl (lv_at hl 5 rfl) ?_
    refine lv_aload_n C0.1 C0.2.1 dX8_raceOn_62 rfl (lv_at hl 5 rfl) ?_
    refine sr_get (v := .ref (a 7)) C0 hK hP sr_inX8 sr_wM0 rfl 10 (by decide) sw_620 rfl dX8_raceOn_63 ?_
    refine lv_iload_n C0.1 C0.2.1 dX8_raceOn_66 rfl (lv_at hl 3 rfl) ?_
    refine sr_ald (k := 0) C0 hK rfl hP sr_wM7 (by decide) (sr_inc (by decide)) dX8_raceOn_67 ?_
    refine sr_chi (sr_IK_ru hK_ (by omega)) ?_
    have := sr_IK_ru5 hK_ (s := 0) (by omega)
    refine lv_iload_n C0.1 C0.2.1 dX8_raceOn_68 rfl (lv_at hl 3 rfl) ?_
    refine lv_aload_n C0.1 C0.2.1 dX8_raceOn_69 rfl (lv_at hl 5 rfl) ?_
    refine sr_get (v := .ref (a 9)) C0 hK hP sr_inX8 sr_wM0 rfl 12 (by decide) sw_622 rfl dX8_raceOn_70 ?_
    refine lv_iload_n C0.1 C0.2.1 dX8_raceOn_73 rfl (lv_at hl 3 rfl) ?_
    refine sr_ald (k := 0) C0 hK rfl hP sr_wM9 (by decide) (sr_inc (by decide)) dX8_raceOn_74 ?_
    refine lv_iload C0.1 C0.2.1 dX8_raceOn_75 (lv_at hl 2 rfl) ?_
    refine sr_pVi (As := [.int (nI (sr_ru kp 0)), .int 0, .int (kp 3 0), .int (sr_ls (kp 2 6) (sr_nx x_))]) C0 hK hP hZ (sr_Zs hZ hZ0 hS) (cc_X8_delay ha (sr_ru kp 0) 0 (kp 3 0) (sr_ls (kp 2 6) (sr_nx x_)) hRD (by first | assumption | omega | exact sr_th_at hT (by omega)) (by omega)) sk_X8_delay sv_X8_delay sw_803 (ci := 8) rfl sr_wM0 rfl rfl hl.1 (Nat.le_of_ble_eq_true rfl) (Nat.le_of_ble_eq_true rfl) (Nat.le_of_ble_eq_true rfl) dX8_raceOn_77 ⟨Nat.zero_le _, Nat.zero_le _⟩ ?_
    refine lv_aload_n C0.1 C0.2.1 dX8_raceOn_80 rfl (lv_at hl 5 rfl) ?_
    refine lv_iload C0.1 C0.2.1 dX8_raceOn_81 (lv_at hl 1 rfl) ?_
    refine sr_pVi (As := [.int (sr_mt kp (sr_ru kp 0) (sr_ru kp (0 + 1)) 0 (kp 3 0) (sr_ls (kp 2 6) (sr_nx x_)))]) C0 hK hP hZ (sr_Zs hZ hZ0 hS) (cc_X8_lost ha (sr_mt kp (sr_ru kp 0) (sr_ru kp (0 + 1)) 0 (kp 3 0) (sr_ls (kp 2 6) (sr_nx x_)))) sk_X8_lost sv_X8_lost sw_903 (ci := 8) rfl sr_wM0 rfl rfl hl.1 (Nat.le_of_ble_eq_true rfl) (Nat.le_of_ble_eq_true rfl) (Nat.le_of_ble_eq_true rfl) dX8_raceOn_83 ⟨Nat.zero_le _, Nat.zero_le _⟩ ?_
    refine lv_iadd C0.1 C0.2.1 dX8_raceOn_86 ?_
    refine lv_iadd C0.1 C0.2.1 dX8_raceOn_87 ?_
    refine lv_istore_n (lv' := [(1, .int ((sr_T kp (sr_ru kp 3) 3 100) + ((sr_Dl kp (sr_ru kp 0) 0 (kp 3 0) (sr_ls (kp 2 6) (sr_nx x_))) + (sr_bu kp (sr_mt kp (sr_ru kp 0) (sr_ru kp (0 + 1)) 0 (kp 3 0) (sr_ls (kp 2 6) (sr_nx x_))))))), (2, .int (if (sr_mt kp (sr_ru kp 0) (sr_ru kp (0 + 1)) 0 (kp 3 0) (sr_ls (kp 2 6) (sr_nx x_))) = (-1) then 1 else 0)), (5, .int (sr_mt kp (sr_ru kp 0) (sr_ru kp (0 + 1)) 0 (kp 3 0) (sr_ls (kp 2 6) (sr_nx x_)))), (4, .int (sr_ls (kp 2 6) (sr_nx x_))), (3, .int 0), (0, .ref (a 0))]) C0.1 C0.2.1 dX8_raceOn_88 rfl hl (by decide) rfl (fun ls hl => ?_)
    refine lv_iinc (v := 1) (lv' := [(3, .int 1), (1, .int ((sr_T kp (sr_ru kp 3) 3 100) + ((sr_Dl kp (sr_ru kp 0) 0 (kp 3 0) (sr_ls (kp 2 6) (sr_nx x_))) + (sr_bu kp (sr_mt kp (sr_ru kp 0) (sr_ru kp (0 + 1)) 0 (kp 3 0) (sr_ls (kp 2 6) (sr_nx x_))))))), (2, .int (if (sr_mt kp (sr_ru kp 0) (sr_ru kp (0 + 1)) 0 (kp 3 0) (sr_ls (kp 2 6) (sr_nx x_))) = (-1) then 1 else 0)), (5, .int (sr_mt kp (sr_ru kp 0) (sr_ru kp (0 + 1)) 0 (kp 3 0) (sr_ls (kp 2 6) (sr_nx x_)))), (4, .int (sr_ls (kp 2 6) (sr_nx x_))), (0, .ref (a 0))]) C0.1 C0.2.1 dX8_raceOn_89 hl (k := 4) rfl (by decide) (by decide) rfl (fun ls hl => ?_)
    refine lv_goto (tgt := 18) C0.1 C0.2.1 dX8_raceOn_92 (by decide) ?_
    refine lv_iload_n C0.1 C0.2.1 dX8_raceOn_18 rfl (lv_at hl 0 rfl) ?_
    refine lv_iconst (v := 3) C0.1 C0.2.1 dX8_raceOn_19 (by decide) ?_
    refine lv_icmp_ge (tgt := 95) C0.1 C0.2.1 dX8_raceOn_20 (by decide) (fun q => absurd q (by decide)) (fun _ => ?_)
    refine lv_aload_n C0.1 C0.2.1 dX8_raceOn_23 rfl (lv_at hl 5 rfl) ?_
    refine sr_gVi (As := []) C0 hK hP hZ (sr_Zs hZ hZ0 hS) (cc_X8_slipByLot ha (sr_nx x_) hsn1) sk_X8_slipByLot sv_X8_slipByLot sw_941 (ci := 8) rfl sr_wM0 rfl rfl hl.1 (Nat.le_of_ble_eq_true rfl) (Nat.le_of_ble_eq_true rfl) (Nat.le_of_ble_eq_true rfl) dX8_raceOn_24 ⟨Nat.zero_le _, Nat.zero_le _⟩ hS (fun sg2 H locs hsl_2 hP hS => ?_)
    have hsn2 := hsl_2.1
    have hRD := hsl_2.2 hRD
    refine lv_istore (lv' := [(4, .int (sr_ls (kp 2 6) (sr_nx (sr_nx x_)))), (3, .int 1), (1, .int ((sr_T kp (sr_ru kp 3) 3 100) + ((sr_Dl kp (sr_ru kp 0) 0 (kp 3 0) (sr_ls (kp 2 6) (sr_nx x_))) + (sr_bu kp (sr_mt kp (sr_ru kp 0) (sr_ru kp (0 + 1)) 0 (kp 3 0) (sr_ls (kp 2 6) (sr_nx x_))))))), (2, .int (if (sr_mt kp (sr_ru kp 0) (sr_ru kp (0 + 1)) 0 (kp 3 0) (sr_ls (kp 2 6) (sr_nx x_))) = (-1) then 1 else 0)), (5, .int (sr_mt kp (sr_ru kp 0) (sr_ru kp (0 + 1)) 0 (kp 3 0) (sr_ls (kp 2 6) (sr_nx x_)))), (0, .ref (a 0))]) C0.1 C0.2.1 dX8_raceOn_27 hl (by decide) rfl (fun ls hl => ?_)
    refine lv_aload_n C0.1 C0.2.1 dX8_raceOn_29 rfl (lv_at hl 5 rfl) ?_
    refine lv_iload_n C0.1 C0.2.1 dX8_raceOn_30 rfl (lv_at hl 1 rfl) ?_
    refine lv_aload_n C0.1 C0.2.1 dX8_raceOn_31 rfl (lv_at hl 5 rfl) ?_
    refine sr_get (v := .ref (a 9)) C0 hK hP sr_inX8 sr_wM0 rfl 12 (by decide) sw_622 rfl dX8_raceOn_32 ?_
    refine lv_iload_n C0.1 C0.2.1 dX8_raceOn_35 rfl (lv_at hl 1 rfl) ?_
    refine sr_ald (k := 1) C0 hK rfl hP sr_wM9 (by decide) (sr_inc (by decide)) dX8_raceOn_36 ?_
    refine lv_iload C0.1 C0.2.1 dX8_raceOn_37 (lv_at hl 0 rfl) ?_
    refine sr_pVi (As := [.int 1, .int (kp 3 1), .int (sr_ls (kp 2 6) (sr_nx (sr_nx x_)))]) C0 hK hP hZ (sr_Zs hZ hZ0 hS) (cc_X8_meetOf ha 1 (kp 3 1) (sr_ls (kp 2 6) (sr_nx (sr_nx x_))) hK_ hRD hT (by omega)) sk_X8_meetOf sv_X8_meetOf sw_815 (ci := 8) rfl sr_wM0 rfl rfl hl.1 (Nat.le_of_ble_eq_true rfl) (Nat.le_of_ble_eq_true rfl) (Nat.le_of_ble_eq_true rfl) dX8_raceOn_39 ⟨Nat.zero_le _, Nat.zero_le _⟩ ?_
    refine lv_istore (lv' := [(5, .int (sr_mt kp (sr_ru kp 1) (sr_ru kp (1 + 1)) 1 (kp 3 1) (sr_ls (kp 2 6) (sr_nx (sr_nx x_))))), (4, .int (sr_ls (kp 2 6) (sr_nx (sr_nx x_)))), (3, .int 1), (1, .int ((sr_T kp (sr_ru kp 3) 3 100) + ((sr_Dl kp (sr_ru kp 0) 0 (kp 3 0) (sr_ls (kp 2 6) (sr_nx x_))) + (sr_bu kp (sr_mt kp (sr_ru kp 0) (sr_ru kp (0 + 1)) 0 (kp 3 0) (sr_ls (kp 2 6) (sr_nx x_))))))), (2, .int (if (sr_mt kp (sr_ru kp 0) (sr_ru kp (0 + 1)) 0 (kp 3 0) (sr_ls (kp 2 6) (sr_nx x_))) = (-1) then 1 else 0)), (0, .ref (a 0))]) C0.1 C0.2.1 dX8_raceOn_42 hl (by decide) rfl (fun ls hl => ?_)
    refine lv_iload_n C0.1 C0.2.1 dX8_raceOn_44 rfl (lv_at hl 4 rfl) ?_
    have hJ59_2 : ∀ (k59_0 : Int32), k59_0 = (if ((sr_mt kp (sr_ru kp 0) (sr_ru kp (0 + 1)) 0 (kp 3 0) (sr_ls (kp 2 6) (sr_nx x_))) = (-1)) ∨ ((sr_mt kp (sr_ru kp 1) (sr_ru kp (1 + 1)) 1 (kp 3 1) (sr_ls (kp 2 6) (sr_nx (sr_nx x_)))) = (-1)) then 1 else 0) → W p l e (sr_rm 5 121) s m args below meth c H locs 0 0 Q (F0 m 59 ls [.int k59_0]) := by
      intro k59_0 e_k59_0
      subst e_k59_0
      refine lv_istore_n (lv' := [(2, .int (if ((sr_mt kp (sr_ru kp 0) (sr_ru kp (0 + 1)) 0 (kp 3 0) (sr_ls (kp 2 6) (sr_nx x_))) = (-1)) ∨ ((sr_mt kp (sr_ru kp 1) (sr_ru kp (1 + 1)) 1 (kp 3 1) (sr_ls (kp 2 6) (sr_nx (sr_nx x_)))) = (-1)) then 1 else 0)), (5, .int (sr_mt kp (sr_ru kp 1) (sr_ru kp (1 + 1)) 1 (kp 3 1) (sr_ls (kp 2 6) (sr_nx (sr_nx x_))))), (4, .int (sr_ls (kp 2 6) (sr_nx (sr_nx x_)))), (3, .int 1), (1, .int ((sr_T kp (sr_ru kp 3) 3 100) + ((sr_Dl kp (sr_ru kp 0) 0 (kp 3 0) (sr_ls (kp 2 6) (sr_nx x_))) + (sr_bu kp (sr_mt kp (sr_ru kp 0) (sr_ru kp (0 + 1)) 0 (kp 3 0) (sr_ls (kp 2 6) (sr_nx x_))))))), (0, .ref (a 0))]) C0.1 C0.2.1 dX8_raceOn_59 rfl hl (by decide) rfl (fun ls hl => ?_)
      refine lv_iload_n C0.1 C0.2.1 dX8_raceOn_60 rfl (lv_at hl 4 rfl) ?_
      refine lv_aload_n C0.1 C0.2.1 dX8_raceOn_61 rfl (lv_at hl 5 rfl) ?_
      refine lv_aload_n C0.1 C0.2.1 dX8_raceOn_62 rfl (lv_at hl 5 rfl) ?_
      refine sr_get (v := .ref (a 7)) C0 hK hP sr_inX8 sr_wM0 rfl 10 (by decide) sw_620 rfl dX8_raceOn_63 ?_
      refine lv_iload_n C0.1 C0.2.1 dX8_raceOn_66 rfl (lv_at hl 3 rfl) ?_
      refine sr_ald (k := 1) C0 hK rfl hP sr_wM7 (by decide) (sr_inc (by decide)) dX8_raceOn_67 ?_
      refine sr_chi (sr_IK_ru hK_ (by omega)) ?_
      have := sr_IK_ru5 hK_ (s := 1) (by omega)
      refine lv_iload_n C0.1 C0.2.1 dX8_raceOn_68 rfl (lv_at hl 3 rfl) ?_
      refine lv_aload_n C0.1 C0.2.1 dX8_raceOn_69 rfl (lv_at hl 5 rfl) ?_
      refine sr_get (v := .ref (a 9)) C0 hK hP sr_inX8 sr_wM0 rfl 12 (by decide) sw_622 rfl dX8_raceOn_70 ?_
      refine lv_iload_n C0.1 C0.2.1 dX8_raceOn_73 rfl (lv_at hl 3 rfl) ?_
      refine sr_ald (k := 1) C0 hK rfl hP sr_wM9 (by decide) (sr_inc (by decide)) dX8_raceOn_74 ?_
      refine lv_iload C0.1 C0.2.1 dX8_raceOn_75 (lv_at hl 2 rfl) ?_
      refine sr_pVi (As := [.int (nI (sr_ru kp 1)), .int 1, .int (kp 3 1), .int (sr_ls (kp 2 6) (sr_nx (sr_nx x_)))]) C0 hK hP hZ (sr_Zs hZ hZ0 hS) (cc_X8_delay ha (sr_ru kp 1) 1 (kp 3 1) (sr_ls (kp 2 6) (sr_nx (sr_nx x_))) hRD (by first | assumption | omega | exact sr_th_at hT (by omega)) (by omega)) sk_X8_delay sv_X8_delay sw_803 (ci := 8) rfl sr_wM0 rfl rfl hl.1 (Nat.le_of_ble_eq_true rfl) (Nat.le_of_ble_eq_true rfl) (Nat.le_of_ble_eq_true rfl) dX8_raceOn_77 ⟨Nat.zero_le _, Nat.zero_le _⟩ ?_
      refine lv_aload_n C0.1 C0.2.1 dX8_raceOn_80 rfl (lv_at hl 5 rfl) ?_
      refine lv_iload C0.1 C0.2.1 dX8_raceOn_81 (lv_at hl 1 rfl) ?_
      refine sr_pVi (As := [.int (sr_mt kp (sr_ru kp 1) (sr_ru kp (1 + 1)) 1 (kp 3 1) (sr_ls (kp 2 6) (sr_nx (sr_nx x_))))]) C0 hK hP hZ (sr_Zs hZ hZ0 hS) (cc_X8_lost ha (sr_mt kp (sr_ru kp 1) (sr_ru kp (1 + 1)) 1 (kp 3 1) (sr_ls (kp 2 6) (sr_nx (sr_nx x_))))) sk_X8_lost sv_X8_lost sw_903 (ci := 8) rfl sr_wM0 rfl rfl hl.1 (Nat.le_of_ble_eq_true rfl) (Nat.le_of_ble_eq_true rfl) (Nat.le_of_ble_eq_true rfl) dX8_raceOn_83 ⟨Nat.zero_le _, Nat.zero_le _⟩ ?_
      refine lv_iadd C0.1 C0.2.1 dX8_raceOn_86 ?_
      refine lv_iadd C0.1 C0.2.1 dX8_raceOn_87 ?_
      refine lv_istore_n (lv' := [(1, .int (((sr_T kp (sr_ru kp 3) 3 100) + ((sr_Dl kp (sr_ru kp 0) 0 (kp 3 0) (sr_ls (kp 2 6) (sr_nx x_))) + (sr_bu kp (sr_mt kp (sr_ru kp 0) (sr_ru kp (0 + 1)) 0 (kp 3 0) (sr_ls (kp 2 6) (sr_nx x_)))))) + ((sr_Dl kp (sr_ru kp 1) 1 (kp 3 1) (sr_ls (kp 2 6) (sr_nx (sr_nx x_)))) + (sr_bu kp (sr_mt kp (sr_ru kp 1) (sr_ru kp (1 + 1)) 1 (kp 3 1) (sr_ls (kp 2 6) (sr_nx (sr_nx x_)))))))), (2, .int (if ((sr_mt kp (sr_ru kp 0) (sr_ru kp (0 + 1)) 0 (kp 3 0) (sr_ls (kp 2 6) (sr_nx x_))) = (-1)) ∨ ((sr_mt kp (sr_ru kp 1) (sr_ru kp (1 + 1)) 1 (kp 3 1) (sr_ls (kp 2 6) (sr_nx (sr_nx x_)))) = (-1)) then 1 else 0)), (5, .int (sr_mt kp (sr_ru kp 1) (sr_ru kp (1 + 1)) 1 (kp 3 1) (sr_ls (kp 2 6) (sr_nx (sr_nx x_))))), (4, .int (sr_ls (kp 2 6) (sr_nx (sr_nx x_)))), (3, .int 1), (0, .ref (a 0))]) C0.1 C0.2.1 dX8_raceOn_88 rfl hl (by decide) rfl (fun ls hl => ?_)
      refine lv_iinc (v := 2) (lv' := [(3, .int 2), (1, .int (((sr_T kp (sr_ru kp 3) 3 100) + ((sr_Dl kp (sr_ru kp 0) 0 (kp 3 0) (sr_ls (kp 2 6) (sr_nx x_))) + (sr_bu kp (sr_mt kp (sr_ru kp 0) (sr_ru kp (0 + 1)) 0 (kp 3 0) (sr_ls (kp 2 6) (sr_nx x_)))))) + ((sr_Dl kp (sr_ru kp 1) 1 (kp 3 1) (sr_ls (kp 2 6) (sr_nx (sr_nx x_)))) + (sr_bu kp (sr_mt kp (sr_ru kp 1) (sr_ru kp (1 + 1)) 1 (kp 3 1) (sr_ls (kp 2 6) (sr_nx (sr_nx x_)))))))), (2, .int (if ((sr_mt kp (sr_ru kp 0) (sr_ru kp (0 + 1)) 0 (kp 3 0) (sr_ls (kp 2 6) (sr_nx x_))) = (-1)) ∨ ((sr_mt kp (sr_ru kp 1) (sr_ru kp (1 + 1)) 1 (kp 3 1) (sr_ls (kp 2 6) (sr_nx (sr_nx x_)))) = (-1)) then 1 else 0)), (5, .int (sr_mt kp (sr_ru kp 1) (sr_ru kp (1 + 1)) 1 (kp 3 1) (sr_ls (kp 2 6) (sr_nx (sr_nx x_))))), (4, .int (sr_ls (kp 2 6) (sr_nx (sr_nx x_)))), (0, .ref (a 0))]) C0.1 C0.2.1 dX8_raceOn_89 hl (k := 4) rfl (by decide) (by decide) rfl (fun ls hl => ?_)
      refine lv_goto (tgt := 18) C0.1 C0.2.1 dX8_raceOn_92 (by decide) ?_
      refine lv_iload_n C0.1 C0.2.1 dX8_raceOn_18 rfl (lv_at hl 0 rfl) ?_
      refine lv_iconst (v := 3) C0.1 C0.2.1 dX8_raceOn_19 (by decide) ?_
      refine lv_icmp_ge (tgt := 95) C0.1 C0.2.1 dX8_raceOn_20 (by decide) (fun q => absurd q (by decide)) (fun _ => ?_)
      refine lv_aload_n C0.1 C0.2.1 dX8_raceOn_23 rfl (lv_at hl 5 rfl) ?_
      refine sr_gVi (As := []) C0 hK hP hZ (sr_Zs hZ hZ0 hS) (cc_X8_slipByLot ha (sr_nx (sr_nx x_)) hsn2) sk_X8_slipByLot sv_X8_slipByLot sw_941 (ci := 8) rfl sr_wM0 rfl rfl hl.1 (Nat.le_of_ble_eq_true rfl) (Nat.le_of_ble_eq_true rfl) (Nat.le_of_ble_eq_true rfl) dX8_raceOn_24 ⟨Nat.zero_le _, Nat.zero_le _⟩ hS (fun sg3 H locs hsl_3 hP hS => ?_)
      have hsn3 := hsl_3.1
      have hRD := hsl_3.2 hRD
      refine lv_istore (lv' := [(4, .int (sr_ls (kp 2 6) (sr_nx (sr_nx (sr_nx x_))))), (3, .int 2), (1, .int (((sr_T kp (sr_ru kp 3) 3 100) + ((sr_Dl kp (sr_ru kp 0) 0 (kp 3 0) (sr_ls (kp 2 6) (sr_nx x_))) + (sr_bu kp (sr_mt kp (sr_ru kp 0) (sr_ru kp (0 + 1)) 0 (kp 3 0) (sr_ls (kp 2 6) (sr_nx x_)))))) + ((sr_Dl kp (sr_ru kp 1) 1 (kp 3 1) (sr_ls (kp 2 6) (sr_nx (sr_nx x_)))) + (sr_bu kp (sr_mt kp (sr_ru kp 1) (sr_ru kp (1 + 1)) 1 (kp 3 1) (sr_ls (kp 2 6) (sr_nx (sr_nx x_)))))))), (2, .int (if ((sr_mt kp (sr_ru kp 0) (sr_ru kp (0 + 1)) 0 (kp 3 0) (sr_ls (kp 2 6) (sr_nx x_))) = (-1)) ∨ ((sr_mt kp (sr_ru kp 1) (sr_ru kp (1 + 1)) 1 (kp 3 1) (sr_ls (kp 2 6) (sr_nx (sr_nx x_)))) = (-1)) then 1 else 0)), (5, .int (sr_mt kp (sr_ru kp 1) (sr_ru kp (1 + 1)) 1 (kp 3 1) (sr_ls (kp 2 6) (sr_nx (sr_nx x_))))), (0, .ref (a 0))]) C0.1 C0.2.1 dX8_raceOn_27 hl (by decide) rfl (fun ls hl => ?_)
      refine lv_aload_n C0.1 C0.2.1 dX8_raceOn_29 rfl (lv_at hl 5 rfl) ?_
      refine lv_iload_n C0.1 C0.2.1 dX8_raceOn_30 rfl (lv_at hl 1 rfl) ?_
      refine lv_aload_n C0.1 C0.2.1 dX8_raceOn_31 rfl (lv_at hl 5 rfl) ?_
      refine sr_get (v := .ref (a 9)) C0 hK hP sr_inX8 sr_wM0 rfl 12 (by decide) sw_622 rfl dX8_raceOn_32 ?_
      refine lv_iload_n C0.1 C0.2.1 dX8_raceOn_35 rfl (lv_at hl 1 rfl) ?_
      refine sr_ald (k := 2) C0 hK rfl hP sr_wM9 (by decide) (sr_inc (by decide)) dX8_raceOn_36 ?_
      refine lv_iload C0.1 C0.2.1 dX8_raceOn_37 (lv_at hl 0 rfl) ?_
      refine sr_pVi (As := [.int 2, .int (kp 3 2), .int (sr_ls (kp 2 6) (sr_nx (sr_nx (sr_nx x_))))]) C0 hK hP hZ (sr_Zs hZ hZ0 hS) (cc_X8_meetOf ha 2 (kp 3 2) (sr_ls (kp 2 6) (sr_nx (sr_nx (sr_nx x_)))) hK_ hRD hT (by omega)) sk_X8_meetOf sv_X8_meetOf sw_815 (ci := 8) rfl sr_wM0 rfl rfl hl.1 (Nat.le_of_ble_eq_true rfl) (Nat.le_of_ble_eq_true rfl) (Nat.le_of_ble_eq_true rfl) dX8_raceOn_39 ⟨Nat.zero_le _, Nat.zero_le _⟩ ?_
      refine lv_istore (lv' := [(5, .int (sr_mt kp (sr_ru kp 2) (sr_ru kp (2 + 1)) 2 (kp 3 2) (sr_ls (kp 2 6) (sr_nx (sr_nx (sr_nx x_)))))), (4, .int (sr_ls (kp 2 6) (sr_nx (sr_nx (sr_nx x_))))), (3, .int 2), (1, .int (((sr_T kp (sr_ru kp 3) 3 100) + ((sr_Dl kp (sr_ru kp 0) 0 (kp 3 0) (sr_ls (kp 2 6) (sr_nx x_))) + (sr_bu kp (sr_mt kp (sr_ru kp 0) (sr_ru kp (0 + 1)) 0 (kp 3 0) (sr_ls (kp 2 6) (sr_nx x_)))))) + ((sr_Dl kp (sr_ru kp 1) 1 (kp 3 1) (sr_ls (kp 2 6) (sr_nx (sr_nx x_)))) + (sr_bu kp (sr_mt kp (sr_ru kp 1) (sr_ru kp (1 + 1)) 1 (kp 3 1) (sr_ls (kp 2 6) (sr_nx (sr_nx x_)))))))), (2, .int (if ((sr_mt kp (sr_ru kp 0) (sr_ru kp (0 + 1)) 0 (kp 3 0) (sr_ls (kp 2 6) (sr_nx x_))) = (-1)) ∨ ((sr_mt kp (sr_ru kp 1) (sr_ru kp (1 + 1)) 1 (kp 3 1) (sr_ls (kp 2 6) (sr_nx (sr_nx x_)))) = (-1)) then 1 else 0)), (0, .ref (a 0))]) C0.1 C0.2.1 dX8_raceOn_42 hl (by decide) rfl (fun ls hl => ?_)
      refine lv_iload_n C0.1 C0.2.1 dX8_raceOn_44 rfl (lv_at hl 4 rfl) ?_
      have hJ59_3 : ∀ (k59_0 : Int32), k59_0 = (if (((sr_mt kp (sr_ru kp 0) (sr_ru kp (0 + 1)) 0 (kp 3 0) (sr_ls (kp 2 6) (sr_nx x_))) = (-1)) ∨ ((sr_mt kp (sr_ru kp 1) (sr_ru kp (1 + 1)) 1 (kp 3 1) (sr_ls (kp 2 6) (sr_nx (sr_nx x_)))) = (-1))) ∨ ((sr_mt kp (sr_ru kp 2) (sr_ru kp (2 + 1)) 2 (kp 3 2) (sr_ls (kp 2 6) (sr_nx (sr_nx (sr_nx x_))))) = (-1)) then 1 else 0) → W p l e (sr_rm 5 121) s m args below meth c H locs 0 0 Q (F0 m 59 ls [.int k59_0]) := by
        intro k59_0 e_k59_0
        subst e_k59_0
        refine lv_istore_n (lv' := [(2, .int (if (((sr_mt kp (sr_ru kp 0) (sr_ru kp (0 + 1)) 0 (kp 3 0) (sr_ls (kp 2 6) (sr_nx x_))) = (-1)) ∨ ((sr_mt kp (sr_ru kp 1) (sr_ru kp (1 + 1)) 1 (kp 3 1) (sr_ls (kp 2 6) (sr_nx (sr_nx x_)))) = (-1))) ∨ ((sr_mt kp (sr_ru kp 2) (sr_ru kp (2 + 1)) 2 (kp 3 2) (sr_ls (kp 2 6) (sr_nx (sr_nx (sr_nx x_))))) = (-1)) then 1 else 0)), (5, .int (sr_mt kp (sr_ru kp 2) (sr_ru kp (2 + 1)) 2 (kp 3 2) (sr_ls (kp 2 6) (sr_nx (sr_nx (sr_nx x_)))))), (4, .int (sr_ls (kp 2 6) (sr_nx (sr_nx (sr_nx x_))))), (3, .int 2), (1, .int (((sr_T kp (sr_ru kp 3) 3 100) + ((sr_Dl kp (sr_ru kp 0) 0 (kp 3 0) (sr_ls (kp 2 6) (sr_nx x_))) + (sr_bu kp (sr_mt kp (sr_ru kp 0) (sr_ru kp (0 + 1)) 0 (kp 3 0) (sr_ls (kp 2 6) (sr_nx x_)))))) + ((sr_Dl kp (sr_ru kp 1) 1 (kp 3 1) (sr_ls (kp 2 6) (sr_nx (sr_nx x_)))) + (sr_bu kp (sr_mt kp (sr_ru kp 1) (sr_ru kp (1 + 1)) 1 (kp 3 1) (sr_ls (kp 2 6) (sr_nx (sr_nx x_)))))))), (0, .ref (a 0))]) C0.1 C0.2.1 dX8_raceOn_59 rfl hl (by decide) rfl (fun ls hl => ?_)
        refine lv_iload_n C0.1 C0.2.1 dX8_raceOn_60 rfl (lv_at hl 4 rfl) ?_
        refine lv_aload_n C0.1 C0.2.1 dX8_raceOn_61 rfl (lv_at hl 5 rfl) ?_
        refine lv_aload_n C0.1 C0.2.1 dX8_raceOn_62 rfl (lv_at hl 5 rfl) ?_
        refine sr_get (v := .ref (a 7)) C0 hK hP sr_inX8 sr_wM0 rfl 10 (by decide) sw_620 rfl dX8_raceOn_63 ?_
        refine lv_iload_n C0.1 C0.2.1 dX8_raceOn_66 rfl (lv_at hl 3 rfl) ?_
        refine sr_ald (k := 2) C0 hK rfl hP sr_wM7 (by decide) (sr_inc (by decide)) dX8_raceOn_67 ?_
        refine sr_chi (sr_IK_ru hK_ (by omega)) ?_
        have := sr_IK_ru5 hK_ (s := 2) (by omega)
        refine lv_iload_n C0.1 C0.2.1 dX8_raceOn_68 rfl (lv_at hl 3 rfl) ?_
        refine lv_aload_n C0.1 C0.2.1 dX8_raceOn_69 rfl (lv_at hl 5 rfl) ?_
        refine sr_get (v := .ref (a 9)) C0 hK hP sr_inX8 sr_wM0 rfl 12 (by decide) sw_622 rfl dX8_raceOn_70 ?_
        refine lv_iload_n C0.1 C0.2.1 dX8_raceOn_73 rfl (lv_at hl 3 rfl) ?_
        refine sr_ald (k := 2) C0 hK rfl hP sr_wM9 (by decide) (sr_inc (by decide)) dX8_raceOn_74 ?_
        refine lv_iload C0.1 C0.2.1 dX8_raceOn_75 (lv_at hl 2 rfl) ?_
        refine sr_pVi (As := [.int (nI (sr_ru kp 2)), .int 2, .int (kp 3 2), .int (sr_ls (kp 2 6) (sr_nx (sr_nx (sr_nx x_))))]) C0 hK hP hZ (sr_Zs hZ hZ0 hS) (cc_X8_delay ha (sr_ru kp 2) 2 (kp 3 2) (sr_ls (kp 2 6) (sr_nx (sr_nx (sr_nx x_)))) hRD (by first | assumption | omega | exact sr_th_at hT (by omega)) (by omega)) sk_X8_delay sv_X8_delay sw_803 (ci := 8) rfl sr_wM0 rfl rfl hl.1 (Nat.le_of_ble_eq_true rfl) (Nat.le_of_ble_eq_true rfl) (Nat.le_of_ble_eq_true rfl) dX8_raceOn_77 ⟨Nat.zero_le _, Nat.zero_le _⟩ ?_
        refine lv_aload_n C0.1 C0.2.1 dX8_raceOn_80 rfl (lv_at hl 5 rfl) ?_
        refine lv_iload C0.1 C0.2.1 dX8_raceOn_81 (lv_at hl 1 rfl) ?_
        refine sr_pVi (As := [.int (sr_mt kp (sr_ru kp 2) (sr_ru kp (2 + 1)) 2 (kp 3 2) (sr_ls (kp 2 6) (sr_nx (sr_nx (sr_nx x_)))))]) C0 hK hP hZ (sr_Zs hZ hZ0 hS) (cc_X8_lost ha (sr_mt kp (sr_ru kp 2) (sr_ru kp (2 + 1)) 2 (kp 3 2) (sr_ls (kp 2 6) (sr_nx (sr_nx (sr_nx x_)))))) sk_X8_lost sv_X8_lost sw_903 (ci := 8) rfl sr_wM0 rfl rfl hl.1 (Nat.le_of_ble_eq_true rfl) (Nat.le_of_ble_eq_true rfl) (Nat.le_of_ble_eq_true rfl) dX8_raceOn_83 ⟨Nat.zero_le _, Nat.zero_le _⟩ ?_
        refine lv_iadd C0.1 C0.2.1 dX8_raceOn_86 ?_
        refine lv_iadd C0.1 C0.2.1 dX8_raceOn_87 ?_
        refine lv_istore_n (lv' := [(1, .int ((((sr_T kp (sr_ru kp 3) 3 100) + ((sr_Dl kp (sr_ru kp 0) 0 (kp 3 0) (sr_ls (kp 2 6) (sr_nx x_))) + (sr_bu kp (sr_mt kp (sr_ru kp 0) (sr_ru kp (0 + 1)) 0 (kp 3 0) (sr_ls (kp 2 6) (sr_nx x_)))))) + ((sr_Dl kp (sr_ru kp 1) 1 (kp 3 1) (sr_ls (kp 2 6) (sr_nx (sr_nx x_)))) + (sr_bu kp (sr_mt kp (sr_ru kp 1) (sr_ru kp (1 + 1)) 1 (kp 3 1) (sr_ls (kp 2 6) (sr_nx (sr_nx x_))))))) + ((sr_Dl kp (sr_ru kp 2) 2 (kp 3 2) (sr_ls (kp 2 6) (sr_nx (sr_nx (sr_nx x_))))) + (sr_bu kp (sr_mt kp (sr_ru kp 2) (sr_ru kp (2 + 1)) 2 (kp 3 2) (sr_ls (kp 2 6) (sr_nx (sr_nx (sr_nx x_))))))))), (2, .int (if (((sr_mt kp (sr_ru kp 0) (sr_ru kp (0 + 1)) 0 (kp 3 0) (sr_ls (kp 2 6) (sr_nx x_))) = (-1)) ∨ ((sr_mt kp (sr_ru kp 1) (sr_ru kp (1 + 1)) 1 (kp 3 1) (sr_ls (kp 2 6) (sr_nx (sr_nx x_)))) = (-1))) ∨ ((sr_mt kp (sr_ru kp 2) (sr_ru kp (2 + 1)) 2 (kp 3 2) (sr_ls (kp 2 6) (sr_nx (sr_nx (sr_nx x_))))) = (-1)) then 1 else 0)), (5, .int (sr_mt kp (sr_ru kp 2) (sr_ru kp (2 + 1)) 2 (kp 3 2) (sr_ls (kp 2 6) (sr_nx (sr_nx (sr_nx x_)))))), (4, .int (sr_ls (kp 2 6) (sr_nx (sr_nx (sr_nx x_))))), (3, .int 2), (0, .ref (a 0))]) C0.1 C0.2.1 dX8_raceOn_88 rfl hl (by decide) rfl (fun ls hl => ?_)
        refine lv_iinc (v := 3) (lv' := [(3, .int 3), (1, .int ((((sr_T kp (sr_ru kp 3) 3 100) + ((sr_Dl kp (sr_ru kp 0) 0 (kp 3 0) (sr_ls (kp 2 6) (sr_nx x_))) + (sr_bu kp (sr_mt kp (sr_ru kp 0) (sr_ru kp (0 + 1)) 0 (kp 3 0) (sr_ls (kp 2 6) (sr_nx x_)))))) + ((sr_Dl kp (sr_ru kp 1) 1 (kp 3 1) (sr_ls (kp 2 6) (sr_nx (sr_nx x_)))) + (sr_bu kp (sr_mt kp (sr_ru kp 1) (sr_ru kp (1 + 1)) 1 (kp 3 1) (sr_ls (kp 2 6) (sr_nx (sr_nx x_))))))) + ((sr_Dl kp (sr_ru kp 2) 2 (kp 3 2) (sr_ls (kp 2 6) (sr_nx (sr_nx (sr_nx x_))))) + (sr_bu kp (sr_mt kp (sr_ru kp 2) (sr_ru kp (2 + 1)) 2 (kp 3 2) (sr_ls (kp 2 6) (sr_nx (sr_nx (sr_nx x_))))))))), (2, .int (if (((sr_mt kp (sr_ru kp 0) (sr_ru kp (0 + 1)) 0 (kp 3 0) (sr_ls (kp 2 6) (sr_nx x_))) = (-1)) ∨ ((sr_mt kp (sr_ru kp 1) (sr_ru kp (1 + 1)) 1 (kp 3 1) (sr_ls (kp 2 6) (sr_nx (sr_nx x_)))) = (-1))) ∨ ((sr_mt kp (sr_ru kp 2) (sr_ru kp (2 + 1)) 2 (kp 3 2) (sr_ls (kp 2 6) (sr_nx (sr_nx (sr_nx x_))))) = (-1)) then 1 else 0)), (5, .int (sr_mt kp (sr_ru kp 2) (sr_ru kp (2 + 1)) 2 (kp 3 2) (sr_ls (kp 2 6) (sr_nx (sr_nx (sr_nx x_)))))), (4, .int (sr_ls (kp 2 6) (sr_nx (sr_nx (sr_nx x_))))), (0, .ref (a 0))]) C0.1 C0.2.1 dX8_raceOn_89 hl (k := 4) rfl (by decide) (by decide) rfl (fun ls hl => ?_)
        refine lv_goto (tgt := 18) C0.1 C0.2.1 dX8_raceOn_92 (by decide) ?_
        refine lv_iload_n C0.1 C0.2.1 dX8_raceOn_18 rfl (lv_at hl 0 rfl) ?_
        refine lv_iconst (v := 3) C0.1 C0.2.1 dX8_raceOn_19 (by decide) ?_
        refine lv_icmp_ge (tgt := 95) C0.1 C0.2.1 dX8_raceOn_20 (by decide) (fun _ => ?_) (fun q => absurd q (by decide))
        refine lv_iload_n C0.1 C0.2.1 dX8_raceOn_95 rfl (lv_at hl 2 rfl) ?_
        refine sr_ifeq (tgt := 103) C0 dX8_raceOn_96 (by decide) (fun c96 => ?_) (fun c96 => ?_)
        · refine lv_iload_n C0.1 C0.2.1 dX8_raceOn_103 rfl (lv_at hl 1 rfl) ?_
          exact hret _ _ _ sg3 _ _ _ dX8_raceOn_104 hP hS rfl (by rw [sr_rt_e hK_ hT x_]; exact (if_neg c96).symm) ⟨hsn3, hRD⟩
        · refine lv_iconst (v := (-1)) C0.1 C0.2.1 dX8_raceOn_99 (by decide) ?_
          refine lv_goto (tgt := 104) C0.1 C0.2.1 dX8_raceOn_100 (by decide) ?_
          exact hret _ _ _ sg3 _ _ _ dX8_raceOn_104 hP hS rfl (by rw [sr_rt_e hK_ hT x_]; exact (if_pos c96).symm) ⟨hsn3, hRD⟩
      refine sr_ifne (tgt := 54) C0 dX8_raceOn_45 (by decide) (fun c45_3 => ?_) (fun c45_3 => ?_)
      · refine lv_iconst (v := 1) C0.1 C0.2.1 dX8_raceOn_54 (by decide) ?_
        refine lv_goto (tgt := 59) C0.1 C0.2.1 dX8_raceOn_55 (by decide) ?_
        exact hJ59_3 _ ((if_pos (Or.inl c45_3)).symm)
      · refine lv_iload C0.1 C0.2.1 dX8_raceOn_48 (lv_at hl 0 rfl) ?_
        refine lv_iconst (v := (-1)) C0.1 C0.2.1 dX8_raceOn_50 (by decide) ?_
        refine lv_icmp_ne (tgt := 58) C0.1 C0.2.1 dX8_raceOn_51 (by decide) (fun c51_2 => ?_) (fun c51_2 => ?_)
        · refine lv_iconst (v := 0) C0.1 C0.2.1 dX8_raceOn_58 (by decide) ?_
          exact hJ59_3 _ ((if_neg (fun q => q.elim c45_3 c51_2)).symm)
        · refine lv_iconst (v := 1) C0.1 C0.2.1 dX8_raceOn_54 (by decide) ?_
          refine lv_goto (tgt := 59) C0.1 C0.2.1 dX8_raceOn_55 (by decide) ?_
          exact hJ59_3 _ ((if_pos (Or.inr c51_2)).symm)
    refine sr_ifne (tgt := 54) C0 dX8_raceOn_45 (by decide) (fun c45_2 => ?_) (fun c45_2 => ?_)
    · refine lv_iconst (v := 1) C0.1 C0.2.1 dX8_raceOn_54 (by decide) ?_
      refine lv_goto (tgt := 59) C0.1 C0.2.1 dX8_raceOn_55 (by decide) ?_
      exact hJ59_2 _ ((if_pos (Or.inl c45_2)).symm)
    · refine lv_iload C0.1 C0.2.1 dX8_raceOn_48 (lv_at hl 0 rfl) ?_
      refine lv_iconst (v := (-1)) C0.1 C0.2.1 dX8_raceOn_50 (by decide) ?_
      refine lv_icmp_ne (tgt := 58) C0.1 C0.2.1 dX8_raceOn_51 (by decide) (fun c51_2 => ?_) (fun c51_2 => ?_)
      · refine lv_iconst (v := 0) C0.1 C0.2.1 dX8_raceOn_58 (by decide) ?_
        exact hJ59_2 _ ((if_neg (fun q => q.elim c45_2 c51_2)).symm)
      · refine lv_iconst (v := 1) C0.1 C0.2.1 dX8_raceOn_54 (by decide) ?_
        refine lv_goto (tgt := 59) C0.1 C0.2.1 dX8_raceOn_55 (by decide) ?_
        exact hJ59_2 _ ((if_pos (Or.inr c51_2)).symm)
  refine lv_icmp_ne (tgt := 58) C0.1 C0.2.1 dX8_raceOn_51 (by decide) (fun c51 => ?_) (fun c51 => ?_)
  · refine lv_iconst (v := 0) C0.1 C0.2.1 dX8_raceOn_58 (by decide) ?_
    exact hJ59 _ ((if_neg c51).symm)
  · refine lv_iconst (v := 1) C0.1 C0.2.1 dX8_raceOn_54 (by decide) ?_
    refine lv_goto (tgt := 59) C0.1 C0.2.1 dX8_raceOn_55 (by decide) ?_
    exact hJ59 _ ((if_pos c51).symm)
set_option maxRecDepth 100000 in
set_option maxHeartbeats 4000000 in
theorem cc_X8_lot {l : Launch} {D : va_G} {cI : ClassId} {a : Nat → Nat} (ha : ∀ i j, i < 13 → j < 13 → a i = a j → i = j) {kp cx sg : sr_M} (sd : Int32) (hK_ : sr_IK kp) : sr_G l D (sr_tM cI) (sr_ZM) (sr_AM a) (sr_WM cI a kp cx sg) yX8_lot cX8_lot 2 (some .int) 6 146 [.ref (a 0), .int sd] (S := sr_M) (fun u => True) (fun u => sr_WM cI a kp cx u) (fun u => some (.int (sp_lot kp sd))) := by
  refine sr_Gie (by decide +kernel) (Nat.le_of_ble_eq_true rfl) (fun p e s m args below meth c ls Q B hret => ?_)
  obtain ⟨C0, hP, hK, hZ0, hl⟩ := B
  have hZ : sr_Zok (sr_AM a) (sr_ZM) := sr_ZMok
  have hS : va_S (sr_AM a) s.heap s.heap [] := va_S.rf
  have hl : lv_has ls 2 [(0, .ref (a 0)), (1, .int sd)] := hl
  obtain ⟨H, hH⟩ : ∃ H, H = s.heap := ⟨_, rfl⟩
  have hP : va_P D vwCl (sr_WM cI a kp cx sg) H := by rw [hH]; exact hP
  have hS : va_S (sr_AM a) s.heap H [] := by rw [hH]; exact hS
  suffices hG : ∀ locs, va_S (sr_AM a) s.heap H locs → W p l e (sr_rm 6 146) s m args below meth c H locs 0 0 Q (F0 m 0 ls []) from by have h9 := hG [] hS; rw [hH] at h9; exact h9
  clear hS
  intro locs hS
  clear hH
  refine lv_aload_n C0.1 C0.2.1 dX8_lot_0 rfl (lv_at hl 0 rfl) ?_
  refine sr_gVi (As := []) C0 hK hP hZ (sr_Zs hZ hZ0 hS) (cc_X8_areThere ha hK_) sk_X8_areThere sv_X8_areThere sw_795 (ci := 8) rfl sr_wM0 rfl rfl hl.1 (Nat.le_of_ble_eq_true rfl) (Nat.le_of_ble_eq_true rfl) (Nat.le_of_ble_eq_true rfl) dX8_lot_1 ⟨Nat.zero_le _, Nat.zero_le _⟩ hS (fun sg1 H locs hRD hP hS => ?_)
  refine sr_ifne (tgt := 10) C0 dX8_lot_4 (by decide) (fun c4 => ?_) (fun c4 => ?_)
  · have hT : sr_th kp := c4
    refine lv_aload_n C0.1 C0.2.1 dX8_lot_10 rfl (lv_at hl 0 rfl) ?_
    refine lv_iload_n C0.1 C0.2.1 dX8_lot_11 rfl (lv_at hl 1 rfl) ?_
    refine sr_put C0 hK hP (sr_DM ha _ _ _) hS sr_inX8 tyX8_ok nmX8 sr_wM0 rfl 16 (by decide) sw_626 rfl (by decide +kernel) (Nat.le_of_ble_eq_true rfl) sr_fM0_16 dX8_lot_12 (fun H locs hP hS => ?_)
    generalize hzq : (va_up sg1 1 (upd (sg1 1) 2 sd)) = sgq at hP
    have hnow : sgq 1 2 = sd := by rw [← hzq]; rfl
    have hRD : sr_RD kp sgq := by rw [← hzq]; exact hRD
    refine lv_aload_n C0.1 C0.2.1 dX8_lot_15 rfl (lv_at hl 0 rfl) ?_
    refine sr_gVi (As := []) C0 hK hP hZ (sr_Zs hZ hZ0 hS) (cc_X8_raceOn ha sd hK_ hnow hRD hT) sk_X8_raceOn sv_X8_raceOn sw_937 (ci := 8) rfl sr_wM0 rfl rfl hl.1 (Nat.le_of_ble_eq_true rfl) (Nat.le_of_ble_eq_true rfl) (Nat.le_of_ble_eq_true rfl) dX8_lot_16 ⟨Nat.zero_le _, Nat.zero_le _⟩ hS (fun sg2 H locs hro hP hS => ?_)
    exact hret _ _ _ sg2 _ _ _ dX8_lot_19 hP hS rfl (by unfold sp_lot; rw [if_neg (fun q => q c4)]) trivial
  · refine lv_bipush (v := (-3)) C0.1 C0.2.1 dX8_lot_7 (by decide) ?_
    exact hret _ _ _ sg1 _ _ _ dX8_lot_9 hP hS rfl (by unfold sp_lot; rw [if_pos c4]) trivial
set_option maxRecDepth 100000 in
set_option maxHeartbeats 4000000 in
theorem cc_X8_racesNow {l : Launch} {D : va_G} {cI : ClassId} {a : Nat → Nat} (ha : ∀ i j, i < 13 → j < 13 → a i = a j → i = j) {kp cx sg : sr_M} (sd : Int32) (jn : Nat) (most : Int32) (hK_ : sr_IK kp) (hjn : jn ≤ 60) : sr_G l D (sr_tM cI) (sr_ZM) (sr_AM a) (sr_WM cI a kp cx sg) yX8_racesNow cX8_racesNow 6 (some .int) 6 146 [.ref (a 0), .int sd, .int (nI jn), .int most] (S := sr_M) (fun u => True) (fun u => sr_WM cI a kp cx u) (fun u => some (.int (sn_races kp sd jn most))) := by
  refine sr_Gie (by decide +kernel) (Nat.le_of_ble_eq_true rfl) (fun p e s m args below meth c ls Q B hret => ?_)
  obtain ⟨C0, hP, hK, hZ0, hl⟩ := B
  have hZ : sr_Zok (sr_AM a) (sr_ZM) := sr_ZMok
  have hS : va_S (sr_AM a) s.heap s.heap [] := va_S.rf
  have hl : lv_has ls 6 [(0, .ref (a 0)), (1, .int sd), (2, .int (nI jn)), (3, .int most)] := hl
  obtain ⟨H, hH⟩ : ∃ H, H = s.heap := ⟨_, rfl⟩
  have hP : va_P D vwCl (sr_WM cI a kp cx sg) H := by rw [hH]; exact hP
  have hS : va_S (sr_AM a) s.heap H [] := by rw [hH]; exact hS
  suffices hG : ∀ locs, va_S (sr_AM a) s.heap H locs → W p l e (sr_rm 6 146) s m args below meth c H locs 0 0 Q (F0 m 0 ls []) from by have h9 := hG [] hS; rw [hH] at h9; exact h9
  clear hS
  intro locs hS
  clear hH
  refine lv_aload_n C0.1 C0.2.1 dX8_racesNow_0 rfl (lv_at hl 0 rfl) ?_
  refine sr_gVi (As := []) C0 hK hP hZ (sr_Zs hZ hZ0 hS) (cc_X8_areThere ha hK_) sk_X8_areThere sv_X8_areThere sw_795 (ci := 8) rfl sr_wM0 rfl rfl hl.1 (Nat.le_of_ble_eq_true rfl) (Nat.le_of_ble_eq_true rfl) (Nat.le_of_ble_eq_true rfl) dX8_racesNow_1 ⟨Nat.zero_le _, Nat.zero_le _⟩ hS (fun sg1 H locs hRD hP hS => ?_)
  refine sr_ifne (tgt := 10) C0 dX8_racesNow_4 (by decide) (fun c4 => ?_) (fun c4 => ?_)
  · have hT : sr_th kp := c4
    refine lv_aload_n C0.1 C0.2.1 dX8_racesNow_10 rfl (lv_at hl 0 rfl) ?_
    refine lv_iload_n C0.1 C0.2.1 dX8_racesNow_11 rfl (lv_at hl 1 rfl) ?_
    refine sr_put C0 hK hP (sr_DM ha _ _ _) hS sr_inX8 tyX8_ok nmX8 sr_wM0 rfl 16 (by decide) sw_626 rfl (by decide +kernel) (Nat.le_of_ble_eq_true rfl) sr_fM0_16 dX8_racesNow_12 (fun H locs hP hS => ?_)
    generalize hzq : (va_up sg1 1 (upd (sg1 1) 2 sd)) = sgq at hP
    have hnow : sgq 1 2 = sd := by rw [← hzq]; rfl
    have hRD : sr_RD kp sgq := by rw [← hzq]; exact hRD
    refine lv_iconst (v := 0) C0.1 C0.2.1 dX8_racesNow_15 (by decide) ?_
    refine lv_istore (lv' := [(4, .int 0), (0, .ref (a 0)), (1, .int sd), (2, .int (nI jn)), (3, .int most)]) C0.1 C0.2.1 dX8_racesNow_16 hl (by decide) rfl (fun ls hl => ?_)
    refine lv_iconst (v := 0) C0.1 C0.2.1 dX8_racesNow_18 (by decide) ?_
    refine lv_istore (lv' := [(5, .int 0), (4, .int 0), (0, .ref (a 0)), (1, .int sd), (2, .int (nI jn)), (3, .int most)]) C0.1 C0.2.1 dX8_racesNow_19 hl (by decide) rfl (fun ls hl => ?_)
    have lp21 : ∀ (n21 : Nat) (i : Nat) (g : Nat) (x : Int32) (sgi : sr_M) (H : Heap) (locs : List Loc) (ls : Array Slot), (i ≤ jn) → (g ≤ i) → (jn + 1 ≤ i + n21) → (sgi 1 2 = x) → (sr_RD kp sgi) → (sr_rc kp most jn sd = g + sr_rc kp most (jn - i) x) → va_P D vwCl (sr_WM cI a kp cx sgi) H → va_S (sr_AM a) s.heap H locs → lv_has ls 6 [(5, .int (nI i)), (4, .int (nI g)), (0, .ref (a 0)), (1, .int sd), (2, .int (nI jn)), (3, .int most)] → W p l e (sr_rm 6 146) s m args below meth c H locs 0 0 Q (F0 m 21 ls []) := by
      intro n21
      induction n21 with
      | zero =>
        intro i g x sgi H locs ls h_i h_g h_n h_x hRDi h_f hP hS hl
        exact absurd h_n (by omega)
      | succ n21 ih21 =>
        intro i g x sgi H locs ls h_i h_g h_n h_x hRDi h_f hP hS hl
        refine lv_iload C0.1 C0.2.1 dX8_racesNow_21 (lv_at hl 0 rfl) ?_
        refine lv_iload_n C0.1 C0.2.1 dX8_racesNow_23 rfl (lv_at hl 4 rfl) ?_
        refine lv_icmp_ge (tgt := 57) C0.1 C0.2.1 dX8_racesNow_24 (by decide) (fun c24 => ?_) (fun c24 => ?_)
        · have g24 : jn ≤ i := (nI_leI (a := jn) (b := i) (by omega) (by omega)).mp c24
          refine lv_iload C0.1 C0.2.1 dX8_racesNow_57 (lv_at hl 1 rfl) ?_
          exact hret _ _ _ sgi _ _ _ dX8_racesNow_59 hP hS rfl (by unfold sn_races; rw [if_neg (fun q => q c4), h_f, show jn - i = 0 by omega]; rw [show sr_rc kp most 0 x = 0 from rfl, Nat.add_zero]) trivial
        · have g24 : ¬ (jn ≤ i) := fun q => c24 ((nI_leI (a := jn) (b := i) (by omega) (by omega)).mpr q)
          refine lv_iload C0.1 C0.2.1 dX8_racesNow_27 (lv_at hl 1 rfl) ?_
          refine lv_aload_n C0.1 C0.2.1 dX8_racesNow_29 rfl (lv_at hl 2 rfl) ?_
          refine sr_gVi (As := []) C0 hK hP hZ (sr_Zs hZ hZ0 hS) (cc_X8_raceOn ha x hK_ h_x hRDi hT) sk_X8_raceOn sv_X8_raceOn sw_937 (ci := 8) rfl sr_wM0 rfl rfl hl.1 (Nat.le_of_ble_eq_true rfl) (Nat.le_of_ble_eq_true rfl) (Nat.le_of_ble_eq_true rfl) dX8_racesNow_30 ⟨Nat.zero_le _, Nat.zero_le _⟩ hS (fun sg2 H locs hro hP hS => ?_)
          refine lv_i2l C0.1 C0.2.1 dX8_racesNow_33 rfl ?_
          refine lv_lconst (v := 0) C0.1 C0.2.1 dX8_racesNow_34 (by decide) ?_
          refine lv_iload_n C0.1 C0.2.1 dX8_racesNow_35 rfl (lv_at hl 5 rfl) ?_
          refine lv_i2l C0.1 C0.2.1 dX8_racesNow_36 rfl ?_
          refine sr_pSi (As := [.long ((sr_rt kp x).toInt64), .long 0, .long ((most).toInt64)]) C0 hK hP hZ (sr_Zs hZ hZ0 hS) (cc_X8_inI ha (sr_rt kp x) (0 : Int32) (most) rfl (by decide) rfl) sk_X8_in (ss_X8_in) sw_670 rfl rfl hl.1 (Nat.le_of_ble_eq_true rfl) (Nat.le_of_ble_eq_true rfl) (Nat.le_of_ble_eq_true rfl) dX8_racesNow_37 ⟨Nat.zero_le _, Nat.zero_le _⟩ ?_
          refine sr_ifeq (tgt := 47) C0 dX8_racesNow_40 (by decide) (fun c40 => ?_) (fun c40 => ?_)
          · refine lv_iconst (v := 0) C0.1 C0.2.1 dX8_racesNow_47 (by decide) ?_
            refine lv_iadd C0.1 C0.2.1 dX8_racesNow_48 ?_
            refine sr_chi (nI_add g 0) ?_
            refine lv_istore (lv' := [(4, .int (nI (g + 0))), (5, .int (nI i)), (0, .ref (a 0)), (1, .int sd), (2, .int (nI jn)), (3, .int most)]) C0.1 C0.2.1 dX8_racesNow_49 hl (by decide) rfl (fun ls hl => ?_)
            refine lv_iinc (v := (nI (i + 1))) (lv' := [(5, .int (nI (i + 1))), (4, .int (nI (g + 0))), (0, .ref (a 0)), (1, .int sd), (2, .int (nI jn)), (3, .int most)]) C0.1 C0.2.1 dX8_racesNow_51 hl (k := 1) rfl (nI_1 i) (by decide) rfl (fun ls hl => ?_)
            refine lv_goto (tgt := 21) C0.1 C0.2.1 dX8_racesNow_54 (by decide) ?_
            exact ih21 (i + 1) (g + 0) (sr_nx (sr_nx (sr_nx x))) sg2 _ _ _ (by omega) (by omega) (by omega) hro.1 hro.2 (by rw [h_f, show jn - i = (jn - (i + 1)) + 1 by omega]; rw [sr_rc_s, ← sr_rtm hK_ hT, if_neg c40]; omega) hP hS (lv_sub hl [0, 1, 2, 3, 4, 5] rfl)
          · refine lv_iconst (v := 1) C0.1 C0.2.1 dX8_racesNow_43 (by decide) ?_
            refine lv_goto (tgt := 48) C0.1 C0.2.1 dX8_racesNow_44 (by decide) ?_
            refine lv_iadd C0.1 C0.2.1 dX8_racesNow_48 ?_
            refine sr_chi (nI_add g 1) ?_
            refine lv_istore (lv' := [(4, .int (nI (g + 1))), (5, .int (nI i)), (0, .ref (a 0)), (1, .int sd), (2, .int (nI jn)), (3, .int most)]) C0.1 C0.2.1 dX8_racesNow_49 hl (by decide) rfl (fun ls hl => ?_)
            refine lv_iinc (v := (nI (i + 1))) (lv' := [(5, .int (nI (i + 1))), (4, .int (nI (g + 1))), (0, .ref (a 0)), (1, .int sd), (2, .int (nI jn)), (3, .int most)]) C0.1 C0.2.1 dX8_racesNow_51 hl (k := 1) rfl (nI_1 i) (by decide) rfl (fun ls hl => ?_)
            refine lv_goto (tgt := 21) C0.1 C0.2.1 dX8_racesNow_54 (by decide) ?_
            exact ih21 (i + 1) (g + 1) (sr_nx (sr_nx (sr_nx x))) sg2 _ _ _ (by omega) (by omega) (by omega) hro.1 hro.2 (by rw [h_f, show jn - i = (jn - (i + 1)) + 1 by omega]; rw [sr_rc_s, ← sr_rtm hK_ hT, if_pos c40]; omega) hP hS (lv_sub hl [0, 1, 2, 3, 4, 5] rfl)
    exact lp21 (jn + 1) 0 0 sd sgq _ _ _ (by omega) (by omega) (by omega) hnow hRD (by rw [Nat.sub_zero]; omega) hP hS (lv_sub hl [0, 1, 2, 3, 4, 5] rfl)
  · refine lv_bipush (v := (-3)) C0.1 C0.2.1 dX8_racesNow_7 (by decide) ?_
    exact hret _ _ _ sg1 _ _ _ dX8_racesNow_9 hP hS rfl (by unfold sn_races; rw [if_pos c4]) trivial
set_option maxRecDepth 100000 in
set_option maxHeartbeats 4000000 in
theorem cc_X8_races {l : Launch} {D : va_G} {cI : ClassId} {a : Nat → Nat} (ha : ∀ i j, i < 13 → j < 13 → a i = a j → i = j) {kp cx sg : sr_M} (sd : Int32) (n_ : Int32) (most : Int32) (hK_ : sr_IK kp) : sr_G l D (sr_tM cI) (sr_ZM) (sr_AM a) (sr_WM cI a kp cx sg) yX8_races cX8_races 4 (some .int) 7 171 [.ref (a 0), .int sd, .int n_, .int most] (S := sr_M) (fun u => True) (fun u => sr_WM cI a kp cx u) (fun u => some (.int (sp_races kp sd n_ most))) := by
  refine sr_Gie (by decide +kernel) (Nat.le_of_ble_eq_true rfl) (fun p e s m args below meth c ls Q B hret => ?_)
  obtain ⟨C0, hP, hK, hZ0, hl⟩ := B
  have hZ : sr_Zok (sr_AM a) (sr_ZM) := sr_ZMok
  have hS : va_S (sr_AM a) s.heap s.heap [] := va_S.rf
  have hl : lv_has ls 4 [(0, .ref (a 0)), (1, .int sd), (2, .int n_), (3, .int most)] := hl
  obtain ⟨H, hH⟩ : ∃ H, H = s.heap := ⟨_, rfl⟩
  have hP : va_P D vwCl (sr_WM cI a kp cx sg) H := by rw [hH]; exact hP
  have hS : va_S (sr_AM a) s.heap H [] := by rw [hH]; exact hS
  suffices hG : ∀ locs, va_S (sr_AM a) s.heap H locs → W p l e (sr_rm 7 171) s m args below meth c H locs 0 0 Q (F0 m 0 ls []) from by have h9 := hG [] hS; rw [hH] at h9; exact h9
  clear hS
  intro locs hS
  clear hH
  refine lv_iload_n C0.1 C0.2.1 dX8_races_0 rfl (lv_at hl 2 rfl) ?_
  refine lv_i2l C0.1 C0.2.1 dX8_races_1 rfl ?_
  refine lv_lconst (v := 0) C0.1 C0.2.1 dX8_races_2 (by decide) ?_
  refine lv_ldc2 (v := 60) C0.1 C0.2.1 C0.2.2.2.1 (C0.2.2.2.2 _ sw_770) dX8_races_3 ?_
  refine sr_pSi (As := [.long ((n_).toInt64), .long 0, .long 60]) C0 hK hP hZ (sr_Zs hZ hZ0 hS) (cc_X8_inI ha (n_) (0 : Int32) (60 : Int32) rfl (by decide) (by decide)) sk_X8_in (ss_X8_in) sw_670 rfl rfl hl.1 (Nat.le_of_ble_eq_true rfl) (Nat.le_of_ble_eq_true rfl) (Nat.le_of_ble_eq_true rfl) dX8_races_6 ⟨Nat.zero_le _, Nat.zero_le _⟩ ?_
  refine sr_ifeq (tgt := 34) C0 dX8_races_9 (by decide) (fun c9 => ?_) (fun c9 => ?_)
  · refine lv_bipush (v := (-2)) C0.1 C0.2.1 dX8_races_34 (by decide) ?_
    exact hret _ _ _ sg _ _ _ dX8_races_36 hP hS rfl (by unfold sp_races; rw [if_pos (Classical.not_not.mp c9)]) trivial
  · obtain ⟨jn, hjn, rfl⟩ := sr_rg60 c9
    refine lv_iload_n C0.1 C0.2.1 dX8_races_12 rfl (lv_at hl 3 rfl) ?_
    refine lv_i2l C0.1 C0.2.1 dX8_races_13 rfl ?_
    refine lv_lconst (v := 0) C0.1 C0.2.1 dX8_races_14 (by decide) ?_
    refine lv_ldc2 (v := 99999) C0.1 C0.2.1 C0.2.2.2.1 (C0.2.2.2.2 _ sw_950) dX8_races_15 ?_
    refine sr_pSi (As := [.long ((most).toInt64), .long 0, .long 99999]) C0 hK hP hZ (sr_Zs hZ hZ0 hS) (cc_X8_inI ha (most) (0 : Int32) (99999 : Int32) rfl (by decide) (by decide)) sk_X8_in (ss_X8_in) sw_670 rfl rfl hl.1 (Nat.le_of_ble_eq_true rfl) (Nat.le_of_ble_eq_true rfl) (Nat.le_of_ble_eq_true rfl) dX8_races_18 ⟨Nat.zero_le _, Nat.zero_le _⟩ ?_
    refine sr_ifeq (tgt := 34) C0 dX8_races_21 (by decide) (fun c21 => ?_) (fun c21 => ?_)
    · refine lv_bipush (v := (-2)) C0.1 C0.2.1 dX8_races_34 (by decide) ?_
      exact hret _ _ _ sg _ _ _ dX8_races_36 hP hS rfl (by unfold sp_races; (try rw [nI_clamp (n := jn) (by omega)]); rw [if_neg c9, if_pos (Classical.not_not.mp c21)]) trivial
    · refine lv_aload_n C0.1 C0.2.1 dX8_races_24 rfl (lv_at hl 0 rfl) ?_
      refine lv_iload_n C0.1 C0.2.1 dX8_races_25 rfl (lv_at hl 1 rfl) ?_
      refine lv_iload_n C0.1 C0.2.1 dX8_races_26 rfl (lv_at hl 2 rfl) ?_
      refine lv_iload_n C0.1 C0.2.1 dX8_races_27 rfl (lv_at hl 3 rfl) ?_
      refine sr_gVi (As := [.int sd, .int (nI jn), .int most]) C0 hK hP hZ (sr_Zs hZ hZ0 hS) (cc_X8_racesNow ha sd jn most hK_ (by omega)) sk_X8_racesNow sv_X8_racesNow sw_951 (ci := 8) rfl sr_wM0 rfl rfl hl.1 (Nat.le_of_ble_eq_true rfl) (Nat.le_of_ble_eq_true rfl) (Nat.le_of_ble_eq_true rfl) dX8_races_28 ⟨Nat.zero_le _, Nat.zero_le _⟩ hS (fun sg1 H locs hu hP hS => ?_)
      refine lv_goto (tgt := 36) C0.1 C0.2.1 dX8_races_31 (by decide) ?_
      exact hret _ _ _ sg1 _ _ _ dX8_races_36 hP hS rfl (by unfold sp_races; (try rw [nI_clamp (n := jn) (by omega)]); rw [if_neg c9, if_neg c21]; rfl) trivial
