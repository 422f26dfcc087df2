set_option maxRecDepth 100000 in
set_option maxHeartbeats 4000000 in
theorem cc_X4_twoFigures {l : Launch} {D : va_G} {cI cR : ClassId} {a : Nat → Nat} (ha : ∀ i j, i < 36 → j < 36 → a i = a j → i = j) {kp cx sg : sr_M} (pl : Nat) (hp_ : pl + 1 < 40) : sr_P l D (sr_tC cI cR) (sr_ZC a) (sr_WC cI cR a kp cx sg) yX4_twoFigures cX4_twoFigures 2 (some .int) 0 0 [.ref (a 1), .int (nI pl)] (some (.int (sr_two (kp 0) pl))) := by
  refine sr_Pie (by decide +kernel) (Nat.le_of_ble_eq_true rfl) (fun p e s m args below meth c ls Q B hret => ?_)
  obtain ⟨C0, hP, hK, hZ0, hl⟩ := B
  have hZ : sr_Zok (sr_AC a) (sr_ZC a) := sr_ZCok a
  have hS : va_S (sr_AC a) s.heap s.heap [] := va_S.rf
  have hl : lv_has ls 2 [(0, .ref (a 1)), (1, .int (nI pl))] := hl
  refine lv_bipush (v := 10) C0.1 C0.2.1 dX4_twoFigures_0 (by decide) ?_
  refine lv_aload_n C0.1 C0.2.1 dX4_twoFigures_2 rfl (lv_at hl 0 rfl) ?_
  refine sr_get (v := .ref (a 8)) C0 hK hP sr_inX4 sr_wC1 rfl 0 (by decide) sw_28 rfl dX4_twoFigures_3 ?_
  refine lv_iload_n C0.1 C0.2.1 dX4_twoFigures_6 rfl (lv_at hl 1 rfl) ?_
  refine sr_ald (k := pl) C0 hK rfl hP sr_wC8 (nI_clamp (by omega)) (vp_in_nI (by omega) (by omega)) dX4_twoFigures_7 ?_
  refine lv_bipush (v := 48) C0.1 C0.2.1 dX4_twoFigures_8 (by decide) ?_
  refine lv_isub C0.1 C0.2.1 dX4_twoFigures_10 ?_
  refine lv_imul C0.1 C0.2.1 dX4_twoFigures_11 ?_
  refine lv_aload_n C0.1 C0.2.1 dX4_twoFigures_12 rfl (lv_at hl 0 rfl) ?_
  refine sr_get (v := .ref (a 8)) C0 hK hP sr_inX4 sr_wC1 rfl 0 (by decide) sw_28 rfl dX4_twoFigures_13 ?_
  refine lv_iload_n C0.1 C0.2.1 dX4_twoFigures_16 rfl (lv_at hl 1 rfl) ?_
  refine lv_iconst (v := 1) C0.1 C0.2.1 dX4_twoFigures_17 (by decide) ?_
  refine lv_iadd C0.1 C0.2.1 dX4_twoFigures_18 ?_
  refine sr_chi (nI_add pl 1) ?_
  refine sr_ald (k := pl + 1) C0 hK rfl hP sr_wC8 (nI_clamp (by omega)) (vp_in_nI (by omega) (by omega)) dX4_twoFigures_19 ?_
  refine lv_iadd C0.1 C0.2.1 dX4_twoFigures_20 ?_
  refine lv_bipush (v := 48) C0.1 C0.2.1 dX4_twoFigures_21 (by decide) ?_
  refine lv_isub C0.1 C0.2.1 dX4_twoFigures_23 ?_
  exact hret _ _ _ dX4_twoFigures_24 rfl
set_option maxRecDepth 100000 in
set_option maxHeartbeats 4000000 in
theorem cc_X4_canGoOn {l : Launch} {D : va_G} {cI cR : ClassId} {a : Nat → Nat} (ha : ∀ i j, i < 36 → j < 36 → a i = a j → i = j) {kp cx sg : sr_M} (pl : Nat) (hp_ : pl < 40) : sr_P l D (sr_tC cI cR) (sr_ZC a) (sr_WC cI cR a kp cx sg) yX4_canGoOn cX4_canGoOn 4 (some .boolean) 1 22 [.ref (a 1), .int (nI pl)] (some (.int (if sr_go (kp 0) pl = true then 1 else 0))) := by
  refine sr_Pze (by decide +kernel) (Nat.le_of_ble_eq_true rfl) (fun p e s m args below meth c ls Q B hret => ?_)
  obtain ⟨C0, hP, hK, hZ0, hl⟩ := B
  have hZ : sr_Zok (sr_AC a) (sr_ZC a) := sr_ZCok a
  have hS : va_S (sr_AC a) s.heap s.heap [] := va_S.rf
  have hl : lv_has ls 4 [(0, .ref (a 1)), (1, .int (nI pl))] := hl
  refine lv_iload_n C0.1 C0.2.1 dX4_canGoOn_0 rfl (lv_at hl 1 rfl) ?_
  refine lv_bipush (v := 7) C0.1 C0.2.1 dX4_canGoOn_1 (by decide) ?_
  refine lv_idiv C0.1 C0.2.1 dX4_canGoOn_3 (by decide) ?_
  refine sr_chi (pk_div (a := pl) (d := 7) (by omega) (by omega) (by omega)) ?_
  refine lv_iconst (v := 5) C0.1 C0.2.1 dX4_canGoOn_4 (by decide) ?_
  refine lv_icmp_lt (tgt := 10) C0.1 C0.2.1 dX4_canGoOn_5 (by decide) (fun c5 => ?_) (fun c5 => ?_)
  · have g5 : pl / 7 < 5 := (nI_ltI (a := (pl / 7)) (b := 5) (by omega) (by omega)).mp c5
    refine lv_aload_n C0.1 C0.2.1 dX4_canGoOn_10 rfl (lv_at hl 0 rfl) ?_
    refine sr_get (v := .ref (a 8)) C0 hK hP sr_inX4 sr_wC1 rfl 0 (by decide) sw_28 rfl dX4_canGoOn_11 ?_
    refine lv_iload_n C0.1 C0.2.1 dX4_canGoOn_14 rfl (lv_at hl 1 rfl) ?_
    refine sr_ald (k := pl) C0 hK rfl hP sr_wC8 (nI_clamp (by omega)) (vp_in_nI (by omega) (by omega)) dX4_canGoOn_15 ?_
    refine lv_istore_n (lv' := [(2, .int (kp 0 pl)), (0, .ref (a 1)), (1, .int (nI pl))]) C0.1 C0.2.1 dX4_canGoOn_16 rfl hl (by decide) rfl (fun ls hl => ?_)
    refine lv_iload_n C0.1 C0.2.1 dX4_canGoOn_17 rfl (lv_at hl 2 rfl) ?_
    refine lv_bipush (v := 7) C0.1 C0.2.1 dX4_canGoOn_18 (by decide) ?_
    refine lv_irem C0.1 C0.2.1 dX4_canGoOn_20 (by decide) ?_
    refine sr_chi (pk_rem (a := pl) (d := 7) (by omega) (by omega) (by omega)) ?_
    refine lv_istore_n (lv' := [(3, .int (nI (pl % 7))), (2, .int (kp 0 pl)), (0, .ref (a 1)), (1, .int (nI pl))]) C0.1 C0.2.1 dX4_canGoOn_21 rfl hl (by decide) rfl (fun ls hl => ?_)
    refine lv_iload_n C0.1 C0.2.1 dX4_canGoOn_22 rfl (lv_at hl 0 rfl) ?_
    refine lv_bipush (v := 6) C0.1 C0.2.1 dX4_canGoOn_23 (by decide) ?_
    refine lv_icmp_ne (tgt := 40) C0.1 C0.2.1 dX4_canGoOn_25 (by decide) (fun c25 => ?_) (fun c25 => ?_)
    · have g25 : ¬ (pl % 7 = 6) := fun q => c25 ((nI_eq (a := (pl % 7)) (b := 6) (by omega) (by omega)).mpr q)
      refine lv_iload_n C0.1 C0.2.1 dX4_canGoOn_40 rfl (lv_at hl 1 rfl) ?_
      refine lv_bipush (v := 48) C0.1 C0.2.1 dX4_canGoOn_41 (by decide) ?_
      refine lv_bipush (v := 57) C0.1 C0.2.1 dX4_canGoOn_43 (by decide) ?_
      refine sr_pNi (As := [.int (kp 0 pl), .int 48, .int 57]) C0 hK hP hZ hZ0 (cc_X7_outside ha (kp 0 pl) (48) (57)) sk_X7_outside (ss_X7_outside) (sr_Zn48 hZ0) rfl rfl hl.1 (Nat.le_of_ble_eq_true rfl) (Nat.le_of_ble_eq_true rfl) (Nat.le_of_ble_eq_true rfl) dX4_canGoOn_45 ⟨Nat.zero_le _, Nat.zero_le _⟩ ?_
      refine sr_ifeq (tgt := 53) C0 dX4_canGoOn_48 (by decide) (fun c48 => ?_) (fun c48 => ?_)
      · refine lv_iload_n C0.1 C0.2.1 dX4_canGoOn_53 rfl (lv_at hl 0 rfl) ?_
        rcases (show pl % 7 = 0 ∨ pl % 7 = 1 ∨ pl % 7 = 2 ∨ pl % 7 = 3 ∨ pl % 7 = 4 ∨ pl % 7 = 5 by omega) with ej | ej | ej | ej | ej | ej
        · refine sr_chi (show (nI (pl % 7)) = 0 from by rw [ej]; rfl) ?_
          refine lv_tableOut (tgt := 145) C0.1 C0.2.1 dX4_canGoOn_54 (by decide) (by decide) ?_
          refine lv_iconst (v := 1) C0.1 C0.2.1 dX4_canGoOn_145 (by decide) ?_
          exact hret _ _ _ dX4_canGoOn_146 (by rw [show sr_go (kp 0) pl = true by unfold sr_go; rw [if_neg (by omega), if_neg (by omega), if_neg c48, if_neg (by omega), if_neg (by omega), if_neg (by omega)]]; rfl)
        · refine sr_chi (show (nI (pl % 7)) = 1 from by rw [ej]; rfl) ?_
          refine lv_tableIn (tgt := 88) (off := 34) C0.1 C0.2.1 dX4_canGoOn_54 (by decide) (by decide) (by decide) (by decide) ?_
          refine lv_aload_n C0.1 C0.2.1 dX4_canGoOn_88 rfl (lv_at hl 2 rfl) ?_
          refine lv_iload_n C0.1 C0.2.1 dX4_canGoOn_89 rfl (lv_at hl 3 rfl) ?_
          refine lv_iconst (v := 1) C0.1 C0.2.1 dX4_canGoOn_90 (by decide) ?_
          refine lv_isub C0.1 C0.2.1 dX4_canGoOn_91 ?_
          refine sr_chi (pk_sub (a := pl) (b := 1) (by omega)) ?_
          refine sr_pVi (As := [.int (nI (pl - 1))]) C0 hK hP hZ hZ0 (cc_X4_twoFigures ha (pl - 1) (by omega)) sk_X4_twoFigures sv_X4_twoFigures sw_230 (ci := 4) rfl sr_wC1 rfl rfl hl.1 (Nat.le_of_ble_eq_true rfl) (Nat.le_of_ble_eq_true rfl) (Nat.le_of_ble_eq_true rfl) dX4_canGoOn_92 ⟨Nat.zero_le _, Nat.zero_le _⟩ ?_
          refine lv_if_le (tgt := 102) C0.1 C0.2.1 dX4_canGoOn_95 (by decide) (fun c95 => ?_) (fun c95 => ?_)
          · refine lv_iconst (v := 0) C0.1 C0.2.1 dX4_canGoOn_102 (by decide) ?_
            exact hret _ _ _ dX4_canGoOn_103 (by rw [show sr_go (kp 0) pl = false by unfold sr_go; rw [if_neg (by omega), if_neg (by omega), if_neg c48, if_pos (by omega), decide_eq_false (Int32.not_lt.mpr c95)]]; rfl)
          · refine lv_iconst (v := 1) C0.1 C0.2.1 dX4_canGoOn_98 (by decide) ?_
            refine lv_goto (tgt := 103) C0.1 C0.2.1 dX4_canGoOn_99 (by decide) ?_
            exact hret _ _ _ dX4_canGoOn_103 (by rw [show sr_go (kp 0) pl = true by unfold sr_go; rw [if_neg (by omega), if_neg (by omega), if_neg c48, if_pos (by omega), decide_eq_true (Int32.not_le.mp c95)]]; rfl)
        · refine sr_chi (show (nI (pl % 7)) = 2 from by rw [ej]; rfl) ?_
          refine lv_tableIn (tgt := 145) (off := 91) C0.1 C0.2.1 dX4_canGoOn_54 (by decide) (by decide) (by decide) (by decide) ?_
          refine lv_iconst (v := 1) C0.1 C0.2.1 dX4_canGoOn_145 (by decide) ?_
          exact hret _ _ _ dX4_canGoOn_146 (by rw [show sr_go (kp 0) pl = true by unfold sr_go; rw [if_neg (by omega), if_neg (by omega), if_neg c48, if_neg (by omega), if_neg (by omega), if_neg (by omega)]]; rfl)
        · refine sr_chi (show (nI (pl % 7)) = 3 from by rw [ej]; rfl) ?_
          refine lv_tableIn (tgt := 104) (off := 50) C0.1 C0.2.1 dX4_canGoOn_54 (by decide) (by decide) (by decide) (by decide) ?_
          refine lv_aload_n C0.1 C0.2.1 dX4_canGoOn_104 rfl (lv_at hl 2 rfl) ?_
          refine lv_iload_n C0.1 C0.2.1 dX4_canGoOn_105 rfl (lv_at hl 3 rfl) ?_
          refine lv_iconst (v := 1) C0.1 C0.2.1 dX4_canGoOn_106 (by decide) ?_
          refine lv_isub C0.1 C0.2.1 dX4_canGoOn_107 ?_
          refine sr_chi (pk_sub (a := pl) (b := 1) (by omega)) ?_
          refine sr_pVi (As := [.int (nI (pl - 1))]) C0 hK hP hZ hZ0 (cc_X4_twoFigures ha (pl - 1) (by omega)) sk_X4_twoFigures sv_X4_twoFigures sw_230 (ci := 4) rfl sr_wC1 rfl rfl hl.1 (Nat.le_of_ble_eq_true rfl) (Nat.le_of_ble_eq_true rfl) (Nat.le_of_ble_eq_true rfl) dX4_canGoOn_108 ⟨Nat.zero_le _, Nat.zero_le _⟩ ?_
          refine lv_aload_n C0.1 C0.2.1 dX4_canGoOn_111 rfl (lv_at hl 2 rfl) ?_
          refine lv_iload_n C0.1 C0.2.1 dX4_canGoOn_112 rfl (lv_at hl 3 rfl) ?_
          refine lv_iconst (v := 3) C0.1 C0.2.1 dX4_canGoOn_113 (by decide) ?_
          refine lv_isub C0.1 C0.2.1 dX4_canGoOn_114 ?_
          refine sr_chi (pk_sub (a := pl) (b := 3) (by omega)) ?_
          refine sr_pVi (As := [.int (nI (pl - 3))]) C0 hK hP hZ hZ0 (cc_X4_twoFigures ha (pl - 3) (by omega)) sk_X4_twoFigures sv_X4_twoFigures sw_230 (ci := 4) rfl sr_wC1 rfl rfl hl.1 (Nat.le_of_ble_eq_true rfl) (Nat.le_of_ble_eq_true rfl) (Nat.le_of_ble_eq_true rfl) dX4_canGoOn_115 ⟨Nat.zero_le _, Nat.zero_le _⟩ ?_
          refine lv_icmp_lt (tgt := 125) C0.1 C0.2.1 dX4_canGoOn_118 (by decide) (fun c118 => ?_) (fun c118 => ?_)
          · refine lv_iconst (v := 0) C0.1 C0.2.1 dX4_canGoOn_125 (by decide) ?_
            exact hret _ _ _ dX4_canGoOn_126 (by rw [show sr_go (kp 0) pl = false by unfold sr_go; rw [if_neg (by omega), if_neg (by omega), if_neg c48, if_neg (by omega), if_pos (by omega), decide_eq_false (Int32.not_le.mpr c118)]]; rfl)
          · refine lv_iconst (v := 1) C0.1 C0.2.1 dX4_canGoOn_121 (by decide) ?_
            refine lv_goto (tgt := 126) C0.1 C0.2.1 dX4_canGoOn_122 (by decide) ?_
            exact hret _ _ _ dX4_canGoOn_126 (by rw [show sr_go (kp 0) pl = true by unfold sr_go; rw [if_neg (by omega), if_neg (by omega), if_neg c48, if_neg (by omega), if_pos (by omega), decide_eq_true (Int32.not_lt.mp c118)]]; rfl)
        · refine sr_chi (show (nI (pl % 7)) = 4 from by rw [ej]; rfl) ?_
          refine lv_tableIn (tgt := 145) (off := 91) C0.1 C0.2.1 dX4_canGoOn_54 (by decide) (by decide) (by decide) (by decide) ?_
          refine lv_iconst (v := 1) C0.1 C0.2.1 dX4_canGoOn_145 (by decide) ?_
          exact hret _ _ _ dX4_canGoOn_146 (by rw [show sr_go (kp 0) pl = true by unfold sr_go; rw [if_neg (by omega), if_neg (by omega), if_neg c48, if_neg (by omega), if_neg (by omega), if_neg (by omega)]]; rfl)
        · refine sr_chi (show (nI (pl % 7)) = 5 from by rw [ej]; rfl) ?_
          refine lv_tableIn (tgt := 127) (off := 73) C0.1 C0.2.1 dX4_canGoOn_54 (by decide) (by decide) (by decide) (by decide) ?_
          refine lv_iload_n C0.1 C0.2.1 dX4_canGoOn_127 rfl (lv_at hl 1 rfl) ?_
          refine lv_bipush (v := 48) C0.1 C0.2.1 dX4_canGoOn_128 (by decide) ?_
          refine lv_icmp_le (tgt := 143) C0.1 C0.2.1 dX4_canGoOn_130 (by decide) (fun c130 => ?_) (fun c130 => ?_)
          · refine lv_iconst (v := 0) C0.1 C0.2.1 dX4_canGoOn_143 (by decide) ?_
            exact hret _ _ _ dX4_canGoOn_144 (by rw [show sr_go (kp 0) pl = false by unfold sr_go; rw [if_neg (by omega), if_neg (by omega), if_neg c48, if_neg (by omega), if_neg (by omega), if_pos (by omega), decide_eq_false (fun q => Int32.not_lt.mpr c130 q.1)]]; rfl)
          · refine lv_iload_n C0.1 C0.2.1 dX4_canGoOn_133 rfl (lv_at hl 1 rfl) ?_
            refine lv_bipush (v := 51) C0.1 C0.2.1 dX4_canGoOn_134 (by decide) ?_
            refine lv_icmp_gt (tgt := 143) C0.1 C0.2.1 dX4_canGoOn_136 (by decide) (fun c136 => ?_) (fun c136 => ?_)
            · refine lv_iconst (v := 0) C0.1 C0.2.1 dX4_canGoOn_143 (by decide) ?_
              exact hret _ _ _ dX4_canGoOn_144 (by rw [show sr_go (kp 0) pl = false by unfold sr_go; rw [if_neg (by omega), if_neg (by omega), if_neg c48, if_neg (by omega), if_neg (by omega), if_pos (by omega), decide_eq_false (fun q => Int32.not_le.mpr c136 q.2)]]; rfl)
            · refine lv_iconst (v := 1) C0.1 C0.2.1 dX4_canGoOn_139 (by decide) ?_
              refine lv_goto (tgt := 144) C0.1 C0.2.1 dX4_canGoOn_140 (by decide) ?_
              exact hret _ _ _ dX4_canGoOn_144 (by rw [show sr_go (kp 0) pl = true by unfold sr_go; rw [if_neg (by omega), if_neg (by omega), if_neg c48, if_neg (by omega), if_neg (by omega), if_pos (by omega), decide_eq_true ⟨Int32.not_le.mp c130, Int32.not_lt.mp c136⟩]]; rfl)
      · refine lv_iconst (v := 0) C0.1 C0.2.1 dX4_canGoOn_51 (by decide) ?_
        exact hret _ _ _ dX4_canGoOn_52 (by rw [show sr_go (kp 0) pl = false by unfold sr_go; rw [if_neg (by omega), if_neg (by omega), if_pos c48]]; rfl)
    · have g25 : pl % 7 = 6 := (nI_eq (a := (pl % 7)) (b := 6) (by omega) (by omega)).mp c25
      refine lv_iload_n C0.1 C0.2.1 dX4_canGoOn_28 rfl (lv_at hl 1 rfl) ?_
      refine lv_bipush (v := 59) C0.1 C0.2.1 dX4_canGoOn_29 (by decide) ?_
      refine lv_icmp_ne (tgt := 38) C0.1 C0.2.1 dX4_canGoOn_31 (by decide) (fun c31 => ?_) (fun c31 => ?_)
      · refine lv_iconst (v := 0) C0.1 C0.2.1 dX4_canGoOn_38 (by decide) ?_
        exact hret _ _ _ dX4_canGoOn_39 (by rw [show sr_go (kp 0) pl = false by unfold sr_go; rw [if_neg (by omega), if_pos (by omega), decide_eq_false c31]]; rfl)
      · refine lv_iconst (v := 1) C0.1 C0.2.1 dX4_canGoOn_34 (by decide) ?_
        refine lv_goto (tgt := 39) C0.1 C0.2.1 dX4_canGoOn_35 (by decide) ?_
        exact hret _ _ _ dX4_canGoOn_39 (by rw [show sr_go (kp 0) pl = true by unfold sr_go; rw [if_neg (by omega), if_pos (by omega), decide_eq_true c31]]; rfl)
  · have g5 : ¬ (pl / 7 < 5) := fun q => c5 ((nI_ltI (a := (pl / 7)) (b := 5) (by omega) (by omega)).mpr q)
    refine lv_iconst (v := 0) C0.1 C0.2.1 dX4_canGoOn_8 (by decide) ?_
    exact hret _ _ _ dX4_canGoOn_9 (by rw [show sr_go (kp 0) pl = false by unfold sr_go; rw [if_pos (by omega)]]; rfl)
set_option maxRecDepth 100000 in
set_option maxHeartbeats 4000000 in
theorem cc_X4_readFigures {l : Launch} {D : va_G} {cI cR : ClassId} {a : Nat → Nat} (ha : ∀ i j, i < 36 → j < 36 → a i = a j → i = j) {kp cx sg : sr_M} (r_ : Nat) (hr_ : r_ < 5) : sr_G l D (sr_tC cI cR) (sr_ZC a) (sr_AC a) (sr_WC cI cR a kp cx sg) yX4_readFigures cX4_readFigures 3 none 1 21 [.ref (a 1), .int (nI r_)] (S := sr_M) (fun u => (∀ j, j < 4 → u j r_ = sr_fig kp r_ j) ∧ (∀ j r, j < 4 → r ≠ r_ → u j r = cx j r) ∧ ∀ k, 4 ≤ k → u k = cx k) (fun u => sr_WC cI cR a kp u sg) (fun _ => none) := by
  refine sr_Gve (by decide +kernel) (Nat.le_of_ble_eq_true rfl) (fun p e s m args below meth c ls Q B hret => ?_)
  obtain ⟨C0, hP, hK, hZ0, hl⟩ := B
  have hZ : sr_Zok (sr_AC a) (sr_ZC a) := sr_ZCok a
  have hS : va_S (sr_AC a) s.heap s.heap [] := va_S.rf
  have hl : lv_has ls 3 [(0, .ref (a 1)), (1, .int (nI r_))] := hl
  obtain ⟨H, hH⟩ : ∃ H, H = s.heap := ⟨_, rfl⟩
  have hP : va_P D vwCl (sr_WC cI cR a kp cx sg) H := by rw [hH]; exact hP
  have hS : va_S (sr_AC a) s.heap H [] := by rw [hH]; exact hS
  suffices hG : ∀ locs, va_S (sr_AC a) s.heap H locs → W p l e (sr_rm 1 21) s m args below meth c H locs 0 0 Q (F0 m 0 ls []) from by have h9 := hG [] hS; rw [hH] at h9; exact h9
  clear hS
  intro locs hS
  clear hH
  refine lv_bipush (v := 7) C0.1 C0.2.1 dX4_readFigures_0 (by decide) ?_
  refine lv_iload_n C0.1 C0.2.1 dX4_readFigures_2 rfl (lv_at hl 1 rfl) ?_
  refine lv_imul C0.1 C0.2.1 dX4_readFigures_3 ?_
  refine sr_chi (pk_mul 7 r_) ?_
  refine lv_istore_n (lv' := [(2, .int (nI (7 * r_))), (0, .ref (a 1)), (1, .int (nI r_))]) C0.1 C0.2.1 dX4_readFigures_4 rfl hl (by decide) rfl (fun ls hl => ?_)
  refine lv_aload_n C0.1 C0.2.1 dX4_readFigures_5 rfl (lv_at hl 1 rfl) ?_
  refine sr_get (v := .ref (a 9)) C0 hK hP sr_inX4 sr_wC1 rfl 1 (by decide) sw_29 rfl dX4_readFigures_6 ?_
  refine lv_iload_n C0.1 C0.2.1 dX4_readFigures_9 rfl (lv_at hl 2 rfl) ?_
  refine lv_aload_n C0.1 C0.2.1 dX4_readFigures_10 rfl (lv_at hl 1 rfl) ?_
  refine lv_iload_n C0.1 C0.2.1 dX4_readFigures_11 rfl (lv_at hl 0 rfl) ?_
  refine sr_pVi (As := [.int (nI (7 * r_))]) C0 hK hP hZ (sr_Zs hZ hZ0 hS) (cc_X4_twoFigures ha (7 * r_) (by omega)) sk_X4_twoFigures sv_X4_twoFigures sw_230 (ci := 4) rfl sr_wC1 rfl rfl hl.1 (Nat.le_of_ble_eq_true rfl) (Nat.le_of_ble_eq_true rfl) (Nat.le_of_ble_eq_true rfl) dX4_readFigures_12 ⟨Nat.zero_le _, Nat.zero_le _⟩ ?_
  refine sr_ast (k := r_) C0 hK rfl hP (sr_DC ha _ _ _) hS sr_wC9 (nI_clamp (by omega)) (vp_in_nI (by omega) (by omega)) sr_sC9 dX4_readFigures_15 (fun H locs hP hS => ?_)
  refine lv_aload_n C0.1 C0.2.1 dX4_readFigures_16 rfl (lv_at hl 1 rfl) ?_
  refine sr_get (v := .ref (a 10)) C0 hK hP sr_inX4 sr_wC1 rfl 2 (by decide) sw_31 rfl dX4_readFigures_17 ?_
  refine lv_iload_n C0.1 C0.2.1 dX4_readFigures_20 rfl (lv_at hl 2 rfl) ?_
  refine lv_aload_n C0.1 C0.2.1 dX4_readFigures_21 rfl (lv_at hl 1 rfl) ?_
  refine lv_iload_n C0.1 C0.2.1 dX4_readFigures_22 rfl (lv_at hl 0 rfl) ?_
  refine lv_iconst (v := 2) C0.1 C0.2.1 dX4_readFigures_23 (by decide) ?_
  refine lv_iadd C0.1 C0.2.1 dX4_readFigures_24 ?_
  refine sr_chi (nI_add (7 * r_) 2) ?_
  refine sr_pVi (As := [.int (nI ((7 * r_) + 2))]) C0 hK hP hZ (sr_Zs hZ hZ0 hS) (cc_X4_twoFigures ha ((7 * r_) + 2) (by omega)) sk_X4_twoFigures sv_X4_twoFigures sw_230 (ci := 4) rfl sr_wC1 rfl rfl hl.1 (Nat.le_of_ble_eq_true rfl) (Nat.le_of_ble_eq_true rfl) (Nat.le_of_ble_eq_true rfl) dX4_readFigures_25 ⟨Nat.zero_le _, Nat.zero_le _⟩ ?_
  refine sr_ast (k := r_) C0 hK rfl hP (sr_DC ha _ _ _) hS sr_wC10 (nI_clamp (by omega)) (vp_in_nI (by omega) (by omega)) sr_sC10 dX4_readFigures_28 (fun H locs hP hS => ?_)
  have hP : va_P D vwCl (sr_WC cI cR a kp (va_up (va_up cx 0 (upd (cx 0) r_ (sr_two (kp 0) (7 * r_)))) 1 (upd (cx 1) r_ (sr_two (kp 0) ((7 * r_) + 2)))) sg) H := hP
  refine lv_aload_n C0.1 C0.2.1 dX4_readFigures_29 rfl (lv_at hl 1 rfl) ?_
  refine sr_get (v := .ref (a 11)) C0 hK hP sr_inX4 sr_wC1 rfl 3 (by decide) sw_33 rfl dX4_readFigures_30 ?_
  refine lv_iload_n C0.1 C0.2.1 dX4_readFigures_33 rfl (lv_at hl 2 rfl) ?_
  refine lv_aload_n C0.1 C0.2.1 dX4_readFigures_34 rfl (lv_at hl 1 rfl) ?_
  refine sr_get (v := .ref (a 8)) C0 hK hP sr_inX4 sr_wC1 rfl 0 (by decide) sw_28 rfl dX4_readFigures_35 ?_
  refine lv_iload_n C0.1 C0.2.1 dX4_readFigures_38 rfl (lv_at hl 0 rfl) ?_
  refine lv_iconst (v := 4) C0.1 C0.2.1 dX4_readFigures_39 (by decide) ?_
  refine lv_iadd C0.1 C0.2.1 dX4_readFigures_40 ?_
  refine sr_chi (nI_add (7 * r_) 4) ?_
  refine sr_ald (k := (7 * r_) + 4) C0 hK rfl hP sr_wC8 (nI_clamp (by omega)) (vp_in_nI (by omega) (by omega)) dX4_readFigures_41 ?_
  refine lv_bipush (v := 48) C0.1 C0.2.1 dX4_readFigures_42 (by decide) ?_
  refine lv_isub C0.1 C0.2.1 dX4_readFigures_44 ?_
  refine sr_ast (k := r_) C0 hK rfl hP (sr_DC ha _ _ _) hS sr_wC11 (nI_clamp (by omega)) (vp_in_nI (by omega) (by omega)) sr_sC11 dX4_readFigures_45 (fun H locs hP hS => ?_)
  have hP : va_P D vwCl (sr_WC cI cR a kp (va_up (va_up (va_up cx 0 (upd (cx 0) r_ (sr_two (kp 0) (7 * r_)))) 1 (upd (cx 1) r_ (sr_two (kp 0) ((7 * r_) + 2)))) 2 (upd (cx 2) r_ ((kp 0 ((7 * r_) + 4)) - 48))) sg) H := hP
  refine lv_aload_n C0.1 C0.2.1 dX4_readFigures_46 rfl (lv_at hl 1 rfl) ?_
  refine sr_get (v := .ref (a 12)) C0 hK hP sr_inX4 sr_wC1 rfl 4 (by decide) sw_35 rfl dX4_readFigures_47 ?_
  refine lv_iload_n C0.1 C0.2.1 dX4_readFigures_50 rfl (lv_at hl 2 rfl) ?_
  refine lv_aload_n C0.1 C0.2.1 dX4_readFigures_51 rfl (lv_at hl 1 rfl) ?_
  refine sr_get (v := .ref (a 8)) C0 hK hP sr_inX4 sr_wC1 rfl 0 (by decide) sw_28 rfl dX4_readFigures_52 ?_
  refine lv_iload_n C0.1 C0.2.1 dX4_readFigures_55 rfl (lv_at hl 0 rfl) ?_
  refine lv_iconst (v := 5) C0.1 C0.2.1 dX4_readFigures_56 (by decide) ?_
  refine lv_iadd C0.1 C0.2.1 dX4_readFigures_57 ?_
  refine sr_chi (nI_add (7 * r_) 5) ?_
  refine sr_ald (k := (7 * r_) + 5) C0 hK rfl hP sr_wC8 (nI_clamp (by omega)) (vp_in_nI (by omega) (by omega)) dX4_readFigures_58 ?_
  refine lv_bipush (v := 48) C0.1 C0.2.1 dX4_readFigures_59 (by decide) ?_
  refine lv_isub C0.1 C0.2.1 dX4_readFigures_61 ?_
  refine sr_ast (k := r_) C0 hK rfl hP (sr_DC ha _ _ _) hS sr_wC12 (nI_clamp (by omega)) (vp_in_nI (by omega) (by omega)) sr_sC12 dX4_readFigures_62 (fun H locs hP hS => ?_)
  have hP : va_P D vwCl (sr_WC cI cR a kp (va_up (va_up (va_up (va_up cx 0 (upd (cx 0) r_ (sr_two (kp 0) (7 * r_)))) 1 (upd (cx 1) r_ (sr_two (kp 0) ((7 * r_) + 2)))) 2 (upd (cx 2) r_ ((kp 0 ((7 * r_) + 4)) - 48))) 3 (upd (cx 3) r_ ((kp 0 ((7 * r_) + 5)) - 48))) sg) H := hP
  exact hret _ _ _ (va_up (va_up (va_up (va_up cx 0 (upd (cx 0) r_ (sr_two (kp 0) (7 * r_)))) 1 (upd (cx 1) r_ (sr_two (kp 0) ((7 * r_) + 2)))) 2 (upd (cx 2) r_ ((kp 0 ((7 * r_) + 4)) - 48))) 3 (upd (cx 3) r_ ((kp 0 ((7 * r_) + 5)) - 48))) _ _ dX4_readFigures_63 hP hS rfl ⟨fun j hj => by rcases (show j = 0 ∨ j = 1 ∨ j = 2 ∨ j = 3 by omega) with rfl | rfl | rfl | rfl <;> simp [va_up, upd, sr_fig], fun j r hj hr => by rcases (show j = 0 ∨ j = 1 ∨ j = 2 ∨ j = 3 by omega) with rfl | rfl | rfl | rfl <;> simp [va_up, upd, hr], fun k hk => by have h0 : k ≠ 0 := (by omega); have h1 : k ≠ 1 := (by omega); have h2 : k ≠ 2 := (by omega); have h3 : k ≠ 3 := (by omega); simp [va_up, h0, h1, h2, h3]⟩
set_option maxRecDepth 100000 in
set_option maxHeartbeats 4000000 in
theorem cc_X4_scan {l : Launch} {D : va_G} {cI cR : ClassId} {a : Nat → Nat} (ha : ∀ i j, i < 36 → j < 36 → a i = a j → i = j) {kp cx sg : sr_M} (hK_ : sr_IK kp) : sr_G l D (sr_tC cI cR) (sr_ZC a) (sr_AC a) (sr_WC cI cR a kp cx sg) yX4_scan cX4_scan 4 none 2 45 [.ref (a 1)] (S := sr_M) (fun u => sr_Sc kp cx u) (fun u => sr_WC cI cR a kp u sg) (fun _ => none) := by
  refine sr_Gve (by decide +kernel) (Nat.le_of_ble_eq_true rfl) (fun p e s m args below meth c ls Q B hret => ?_)
  obtain ⟨C0, hP, hK, hZ0, hl⟩ := B
  have hZ : sr_Zok (sr_AC a) (sr_ZC a) := sr_ZCok a
  have hS : va_S (sr_AC a) s.heap s.heap [] := va_S.rf
  have hl : lv_has ls 4 [(0, .ref (a 1))] := hl
  obtain ⟨H, hH⟩ : ∃ H, H = s.heap := ⟨_, rfl⟩
  have hP : va_P D vwCl (sr_WC cI cR a kp cx sg) H := by rw [hH]; exact hP
  have hS : va_S (sr_AC a) s.heap H [] := by rw [hH]; exact hS
  suffices hG : ∀ locs, va_S (sr_AC a) s.heap H locs → W p l e (sr_rm 2 45) s m args below meth c H locs 0 0 Q (F0 m 0 ls []) from by have h9 := hG [] hS; rw [hH] at h9; exact h9
  clear hS
  intro locs hS
  clear hH
  refine lv_iconst (v := 0) C0.1 C0.2.1 dX4_scan_0 (by decide) ?_
  refine lv_istore_n (lv' := [(1, .int 0), (0, .ref (a 1))]) C0.1 C0.2.1 dX4_scan_1 rfl hl (by decide) rfl (fun ls hl => ?_)
  have lp2 : ∀ (n2 : Nat) (i : Nat) (H : Heap) (locs : List Loc) (ls : Array Slot), (i ≤ sr_n kp) → (sr_n kp + 1 ≤ i + n2) → (sr_run (kp 0) 0 (sr_n kp) = sr_run (kp 0) i (sr_n kp - i)) → va_P D vwCl (sr_WC cI cR a kp cx sg) H → va_S (sr_AC a) s.heap H locs → lv_has ls 4 [(1, .int (nI i)), (0, .ref (a 1))] → W p l e (sr_rm 2 45) s m args below meth c H locs 0 0 Q (F0 m 2 ls []) := by
    intro n2
    induction n2 with
    | zero =>
      intro i H locs ls h_i h_n h_f hP hS hl
      exact absurd h_n (by omega)
    | succ n2 ih2 =>
      intro i H locs ls h_i h_n h_f hP hS hl
      refine lv_iload_n C0.1 C0.2.1 dX4_scan_2 rfl (lv_at hl 0 rfl) ?_
      refine lv_aload_n C0.1 C0.2.1 dX4_scan_3 rfl (lv_at hl 1 rfl) ?_
      refine sr_get (v := .int (kp 5 0)) C0 hK hP sr_inX4 sr_wC1 rfl 5 (by decide) sw_37 rfl dX4_scan_4 ?_
      refine sr_chi (sr_IK_n hK_) ?_
      have := sr_IK_n40 hK_
      refine lv_icmp_ge (tgt := 24) C0.1 C0.2.1 dX4_scan_7 (by decide) (fun c7 => ?_) (fun c7 => ?_)
      · have g7 : (sr_n kp) ≤ i := (nI_leI (a := (sr_n kp)) (b := i) (by omega) (by omega)).mp c7
        have hpl : sr_pl kp = i := sr_run_end h_i h_f (Or.inl (by omega))
        refine lv_aload_n C0.1 C0.2.1 dX4_scan_24 rfl (lv_at hl 1 rfl) ?_
        refine sr_get (v := .int (kp 5 0)) C0 hK hP sr_inX4 sr_wC1 rfl 5 (by decide) sw_37 rfl dX4_scan_25 ?_
        refine sr_chi (sr_IK_n hK_) ?_
        have := sr_IK_n40 hK_
        have hJ48 : ∀ (k48_0 : Int32), k48_0 = (if ((nI (sr_n kp)) = 0) ∨ ((nI ((sr_n kp) % 7)) = 6) then 1 else 0) → W p l e (sr_rm 2 45) s m args below meth c H locs 0 0 Q (F0 m 48 ls [.int k48_0]) := by
          intro k48_0 e_k48_0
          subst e_k48_0
          refine lv_istore_n (lv' := [(2, .int (if ((nI (sr_n kp)) = 0) ∨ ((nI ((sr_n kp) % 7)) = 6) then 1 else 0)), (1, .int (nI i)), (0, .ref (a 1))]) C0.1 C0.2.1 dX4_scan_48 rfl hl (by decide) rfl (fun ls hl => ?_)
          refine lv_aload_n C0.1 C0.2.1 dX4_scan_49 rfl (lv_at hl 2 rfl) ?_
          refine lv_iload_n C0.1 C0.2.1 dX4_scan_50 rfl (lv_at hl 1 rfl) ?_
          refine lv_aload_n C0.1 C0.2.1 dX4_scan_51 rfl (lv_at hl 2 rfl) ?_
          refine sr_get (v := .int (kp 5 0)) C0 hK hP sr_inX4 sr_wC1 rfl 5 (by decide) sw_37 rfl dX4_scan_52 ?_
          refine sr_chi (sr_IK_n hK_) ?_
          have := sr_IK_n40 hK_
          have hJ67 : ∀ (k67_0 : Int32), k67_0 = (if (nI i) = (nI (sr_n kp)) then (if ((nI (sr_n kp)) = 0) ∨ ((nI ((sr_n kp) % 7)) = 6) then (-1) else (nI i)) else (nI i)) → W p l e (sr_rm 2 45) s m args below meth c H locs 0 0 Q (F0 m 67 ls [.int k67_0, .ref (a 1)]) := by
            intro k67_0 e_k67_0
            subst e_k67_0
            refine sr_chi (sr_flt_e (sr_IK_n40 hK_) hpl) ?_
            refine sr_put C0 hK hP (sr_DC ha _ _ _) hS sr_inX4 tyX4_ok nmX4 sr_wC1 rfl 6 (by decide) sw_39 rfl (by decide +kernel) (Nat.le_of_ble_eq_true rfl) sr_fC1_6 dX4_scan_67 (fun H locs hP hS => ?_)
            generalize hc1 : va_up cx 4 (upd (cx 4) 0 (sr_flt kp)) = cx1 at hP
            have e10 : cx1 4 0 = sr_flt kp := by rw [← hc1]; rfl
            have e1k : ∀ k, 5 ≤ k → cx1 k = cx k := fun k hk => by rw [← hc1]; exact if_neg (by omega)
            refine lv_aload_n C0.1 C0.2.1 dX4_scan_70 rfl (lv_at hl 2 rfl) ?_
            refine lv_aload_n C0.1 C0.2.1 dX4_scan_71 rfl (lv_at hl 2 rfl) ?_
            refine sr_get (v := .int (cx1 4 0)) C0 hK hP sr_inX4 sr_wC1 rfl 6 (by decide) sw_39 rfl dX4_scan_72 ?_
            refine sr_chi e10 ?_
            refine lv_iconst (v := (-1)) C0.1 C0.2.1 dX4_scan_75 (by decide) ?_
            have hJ92 : ∀ (k92_0 : Int32), k92_0 = (if (sr_flt kp) = (-1) then (nI (((sr_n kp) + 1) / 7)) else 0) → W p l e (sr_rm 2 45) s m args below meth c H locs 0 0 Q (F0 m 92 ls [.int k92_0, .ref (a 1)]) := by
              intro k92_0 e_k92_0
              subst e_k92_0
              refine sr_chi (sr_cnt_e (sr_IK_n40 hK_)) ?_
              refine sr_put C0 hK hP (sr_DC ha _ _ _) hS sr_inX4 tyX4_ok nmX4 sr_wC1 rfl 7 (by decide) sw_41 rfl (by decide +kernel) (Nat.le_of_ble_eq_true rfl) sr_fC1_7 dX4_scan_92 (fun H locs hP hS => ?_)
              generalize hc2 : va_up cx1 4 (upd (cx1 4) 1 (nI (sr_cnt kp))) = cx2 at hP
              have e20 : cx2 4 0 = sr_flt kp := by rw [← hc2]; exact e10
              have e21 : cx2 4 1 = nI (sr_cnt kp) := by rw [← hc2]; rfl
              have e2k : ∀ k, 5 ≤ k → cx2 k = cx k := fun k hk => by rw [← hc2, ← e1k k hk]; exact if_neg (by omega)
              have hc5 := sr_cnt5 kp
              refine lv_iconst (v := 0) C0.1 C0.2.1 dX4_scan_95 (by decide) ?_
              refine lv_istore_n (lv' := [(3, .int 0), (2, .int (if ((nI (sr_n kp)) = 0) ∨ ((nI ((sr_n kp) % 7)) = 6) then 1 else 0)), (1, .int (nI i)), (0, .ref (a 1))]) C0.1 C0.2.1 dX4_scan_96 rfl hl (by decide) rfl (fun ls hl => ?_)
              have lp97 : ∀ (n97 : Nat) (r : Nat) (cx3 : sr_M) (H : Heap) (locs : List Loc) (ls : Array Slot), (r ≤ sr_cnt kp) → (sr_cnt kp + 1 ≤ r + n97) → (cx3 4 0 = sr_flt kp) → (cx3 4 1 = nI (sr_cnt kp)) → (∀ q, q < r → ∀ j, j < 4 → cx3 j q = sr_fig kp q j) → (∀ k, 5 ≤ k → cx3 k = cx k) → va_P D vwCl (sr_WC cI cR a kp cx3 sg) H → va_S (sr_AC a) s.heap H locs → lv_has ls 4 [(3, .int (nI r)), (2, .int (if ((nI (sr_n kp)) = 0) ∨ ((nI ((sr_n kp) % 7)) = 6) then 1 else 0)), (1, .int (nI i)), (0, .ref (a 1))] → W p l e (sr_rm 2 45) s m args below meth c H locs 0 0 Q (F0 m 97 ls []) := by
                intro n97
                induction n97 with
                | zero =>
                  intro r cx3 H locs ls h_i h_n h_0 h_1 h_r h_k hP hS hl
                  exact absurd h_n (by omega)
                | succ n97 ih97 =>
                  intro r cx3 H locs ls h_i h_n h_0 h_1 h_r h_k hP hS hl
                  refine lv_iload_n C0.1 C0.2.1 dX4_scan_97 rfl (lv_at hl 0 rfl) ?_
                  refine lv_aload_n C0.1 C0.2.1 dX4_scan_98 rfl (lv_at hl 3 rfl) ?_
                  refine sr_get (v := .int (cx3 4 1)) C0 hK hP sr_inX4 sr_wC1 rfl 7 (by decide) sw_41 rfl dX4_scan_99 ?_
                  refine sr_chi h_1 ?_
                  refine lv_icmp_ge (tgt := 116) C0.1 C0.2.1 dX4_scan_102 (by decide) (fun c102 => ?_) (fun c102 => ?_)
                  · have g102 : (sr_cnt kp) ≤ r := (nI_leI (a := (sr_cnt kp)) (b := r) (by omega) (by omega)).mp c102
                    exact hret _ _ _ cx3 _ _ dX4_scan_116 hP hS rfl ⟨h_0, h_1, fun q hq => h_r q (by omega), h_k⟩
                  · have g102 : ¬ ((sr_cnt kp) ≤ r) := fun q => c102 ((nI_leI (a := (sr_cnt kp)) (b := r) (by omega) (by omega)).mpr q)
                    refine lv_aload_n C0.1 C0.2.1 dX4_scan_105 rfl (lv_at hl 3 rfl) ?_
                    refine lv_iload_n C0.1 C0.2.1 dX4_scan_106 rfl (lv_at hl 0 rfl) ?_
                    refine sr_gVv (As := [.int (nI r)]) C0 hK hP hZ (sr_Zs hZ hZ0 hS) (cc_X4_readFigures ha r (by omega)) sk_X4_readFigures sv_X4_readFigures sw_234 (ci := 4) rfl sr_wC1 rfl rfl hl.1 (Nat.le_of_ble_eq_true rfl) (Nat.le_of_ble_eq_true rfl) (Nat.le_of_ble_eq_true rfl) dX4_scan_107 ⟨Nat.zero_le _, Nat.zero_le _⟩ hS (fun cx1 H locs hR hP hS => ?_)
                    refine lv_iinc (v := (nI (r + 1))) (lv' := [(3, .int (nI (r + 1))), (2, .int (if ((nI (sr_n kp)) = 0) ∨ ((nI ((sr_n kp) % 7)) = 6) then 1 else 0)), (1, .int (nI i)), (0, .ref (a 1))]) C0.1 C0.2.1 dX4_scan_110 hl (k := 0) rfl (nI_1 r) (by decide) rfl (fun ls hl => ?_)
                    refine lv_goto (tgt := 97) C0.1 C0.2.1 dX4_scan_113 (by decide) ?_
                    exact ih97 (r + 1) cx1 _ _ _ (by omega) (by omega) (by rw [hR.2.2 4 (by omega)]; exact h_0) (by rw [hR.2.2 4 (by omega)]; exact h_1) (fun q hq j hj => by rcases Nat.lt_or_ge q r with z | z; (rw [hR.2.1 j q hj (by omega)]; exact h_r q z j hj); (rw [show q = r by omega]; exact hR.1 j hj)) (fun k hk => by rw [hR.2.2 k (by omega)]; exact h_k k hk) hP hS (lv_sub hl [0, 1, 2, 3] rfl)
              exact lp97 (sr_cnt kp + 1) 0 cx2 _ _ _ (by omega) (by omega) e20 e21 (fun q hq => absurd hq (by omega)) e2k hP hS (lv_sub hl [0, 1, 2, 3] rfl)
            refine lv_icmp_ne (tgt := 91) C0.1 C0.2.1 dX4_scan_76 (by decide) (fun c76 => ?_) (fun c76 => ?_)
            · refine lv_iconst (v := 0) C0.1 C0.2.1 dX4_scan_91 (by decide) ?_
              exact hJ92 _ (by rw [if_neg c76])
            · refine lv_aload_n C0.1 C0.2.1 dX4_scan_79 rfl (lv_at hl 2 rfl) ?_
              refine sr_get (v := .int (kp 5 0)) C0 hK hP sr_inX4 sr_wC1 rfl 5 (by decide) sw_37 rfl dX4_scan_80 ?_
              refine sr_chi (sr_IK_n hK_) ?_
              have := sr_IK_n40 hK_
              refine lv_iconst (v := 1) C0.1 C0.2.1 dX4_scan_83 (by decide) ?_
              refine lv_iadd C0.1 C0.2.1 dX4_scan_84 ?_
              refine sr_chi (nI_add (sr_n kp) 1) ?_
              refine lv_bipush (v := 7) C0.1 C0.2.1 dX4_scan_85 (by decide) ?_
              refine lv_idiv C0.1 C0.2.1 dX4_scan_87 (by decide) ?_
              refine sr_chi (pk_div (a := (sr_n kp) + 1) (d := 7) (by omega) (by omega) (by omega)) ?_
              refine lv_goto (tgt := 92) C0.1 C0.2.1 dX4_scan_88 (by decide) ?_
              exact hJ92 _ (by rw [if_pos c76])
          refine lv_icmp_ne (tgt := 66) C0.1 C0.2.1 dX4_scan_55 (by decide) (fun c55 => ?_) (fun c55 => ?_)
          · have g55 : ¬ (i = (sr_n kp)) := fun q => c55 ((nI_eq (a := i) (b := (sr_n kp)) (by omega) (by omega)).mpr q)
            refine lv_iload_n C0.1 C0.2.1 dX4_scan_66 rfl (lv_at hl 1 rfl) ?_
            exact hJ67 _ (by rw [if_neg c55])
          · have g55 : i = (sr_n kp) := (nI_eq (a := i) (b := (sr_n kp)) (by omega) (by omega)).mp c55
            refine lv_iload_n C0.1 C0.2.1 dX4_scan_58 rfl (lv_at hl 0 rfl) ?_
            refine sr_ifeq (tgt := 66) C0 dX4_scan_59 (by decide) (fun c59 => ?_) (fun c59 => ?_)
            · refine lv_iload_n C0.1 C0.2.1 dX4_scan_66 rfl (lv_at hl 1 rfl) ?_
              exact hJ67 _ (by rw [if_pos c55, if_neg c59])
            · refine lv_iconst (v := (-1)) C0.1 C0.2.1 dX4_scan_62 (by decide) ?_
              refine lv_goto (tgt := 67) C0.1 C0.2.1 dX4_scan_63 (by decide) ?_
              exact hJ67 _ (by rw [if_pos c55, if_pos c59])
        refine lv_if_eq (tgt := 43) C0.1 C0.2.1 dX4_scan_28 (by decide) (fun c28 => ?_) (fun c28 => ?_)
        · have g28 : (sr_n kp) = 0 := (nI_eq (a := (sr_n kp)) (b := 0) (by omega) (by omega)).mp c28
          refine lv_iconst (v := 1) C0.1 C0.2.1 dX4_scan_43 (by decide) ?_
          refine lv_goto (tgt := 48) C0.1 C0.2.1 dX4_scan_44 (by decide) ?_
          exact hJ48 _ ((if_pos (Or.inl c28)).symm)
        · have g28 : ¬ ((sr_n kp) = 0) := fun q => c28 ((nI_eq (a := (sr_n kp)) (b := 0) (by omega) (by omega)).mpr q)
          refine lv_aload_n C0.1 C0.2.1 dX4_scan_31 rfl (lv_at hl 1 rfl) ?_
          refine sr_get (v := .int (kp 5 0)) C0 hK hP sr_inX4 sr_wC1 rfl 5 (by decide) sw_37 rfl dX4_scan_32 ?_
          refine sr_chi (sr_IK_n hK_) ?_
          have := sr_IK_n40 hK_
          refine lv_bipush (v := 7) C0.1 C0.2.1 dX4_scan_35 (by decide) ?_
          refine lv_irem C0.1 C0.2.1 dX4_scan_37 (by decide) ?_
          refine sr_chi (pk_rem (a := (sr_n kp)) (d := 7) (by omega) (by omega) (by omega)) ?_
          refine lv_bipush (v := 6) C0.1 C0.2.1 dX4_scan_38 (by decide) ?_
          refine lv_icmp_ne (tgt := 47) C0.1 C0.2.1 dX4_scan_40 (by decide) (fun c40 => ?_) (fun c40 => ?_)
          · have g40 : ¬ ((sr_n kp) % 7 = 6) := fun q => c40 ((nI_eq (a := ((sr_n kp) % 7)) (b := 6) (by omega) (by omega)).mpr q)
            refine lv_iconst (v := 0) C0.1 C0.2.1 dX4_scan_47 (by decide) ?_
            exact hJ48 _ ((if_neg (fun q => q.elim c28 c40)).symm)
          · have g40 : (sr_n kp) % 7 = 6 := (nI_eq (a := ((sr_n kp) % 7)) (b := 6) (by omega) (by omega)).mp c40
            refine lv_iconst (v := 1) C0.1 C0.2.1 dX4_scan_43 (by decide) ?_
            refine lv_goto (tgt := 48) C0.1 C0.2.1 dX4_scan_44 (by decide) ?_
            exact hJ48 _ ((if_pos (Or.inr c40)).symm)
      · have g7 : ¬ ((sr_n kp) ≤ i) := fun q => c7 ((nI_leI (a := (sr_n kp)) (b := i) (by omega) (by omega)).mpr q)
        refine lv_aload_n C0.1 C0.2.1 dX4_scan_10 rfl (lv_at hl 1 rfl) ?_
        refine lv_iload_n C0.1 C0.2.1 dX4_scan_11 rfl (lv_at hl 0 rfl) ?_
        refine sr_pVi (As := [.int (nI i)]) C0 hK hP hZ (sr_Zs hZ hZ0 hS) (cc_X4_canGoOn ha i (by omega)) sk_X4_canGoOn sv_X4_canGoOn sw_225 (ci := 4) rfl sr_wC1 rfl rfl hl.1 (Nat.le_of_ble_eq_true rfl) (Nat.le_of_ble_eq_true rfl) (Nat.le_of_ble_eq_true rfl) dX4_scan_12 ⟨Nat.zero_le _, Nat.zero_le _⟩ ?_
        refine sr_ifeq (tgt := 24) C0 dX4_scan_15 (by decide) (fun c15 => ?_) (fun c15 => ?_)
        · have hpl : sr_pl kp = i := sr_run_end h_i h_f (Or.inr c15)
          refine lv_aload_n C0.1 C0.2.1 dX4_scan_24 rfl (lv_at hl 1 rfl) ?_
          refine sr_get (v := .int (kp 5 0)) C0 hK hP sr_inX4 sr_wC1 rfl 5 (by decide) sw_37 rfl dX4_scan_25 ?_
          refine sr_chi (sr_IK_n hK_) ?_
          have := sr_IK_n40 hK_
          have hJ48 : ∀ (k48_0 : Int32), k48_0 = (if ((nI (sr_n kp)) = 0) ∨ ((nI ((sr_n kp) % 7)) = 6) then 1 else 0) → W p l e (sr_rm 2 45) s m args below meth c H locs 0 0 Q (F0 m 48 ls [.int k48_0]) := by
            intro k48_0 e_k48_0
            subst e_k48_0
            refine lv_istore_n (lv' := [(2, .int (if ((nI (sr_n kp)) = 0) ∨ ((nI ((sr_n kp) % 7)) = 6) then 1 else 0)), (1, .int (nI i)), (0, .ref (a 1))]) C0.1 C0.2.1 dX4_scan_48 rfl hl (by decide) rfl (fun ls hl => ?_)
            refine lv_aload_n C0.1 C0.2.1 dX4_scan_49 rfl (lv_at hl 2 rfl) ?_
            refine lv_iload_n C0.1 C0.2.1 dX4_scan_50 rfl (lv_at hl 1 rfl) ?_
            refine lv_aload_n C0.1 C0.2.1 dX4_scan_51 rfl (lv_at hl 2 rfl) ?_
            refine sr_get (v := .int (kp 5 0)) C0 hK hP sr_inX4 sr_wC1 rfl 5 (by decide) sw_37 rfl dX4_scan_52 ?_
            refine sr_chi (sr_IK_n hK_) ?_
            have := sr_IK_n40 hK_
            have hJ67 : ∀ (k67_0 : Int32), k67_0 = (if (nI i) = (nI (sr_n kp)) then (if ((nI (sr_n kp)) = 0) ∨ ((nI ((sr_n kp) % 7)) = 6) then (-1) else (nI i)) else (nI i)) → W p l e (sr_rm 2 45) s m args below meth c H locs 0 0 Q (F0 m 67 ls [.int k67_0, .ref (a 1)]) := by
              intro k67_0 e_k67_0
              subst e_k67_0
              refine sr_chi (sr_flt_e (sr_IK_n40 hK_) hpl) ?_
              refine sr_put C0 hK hP (sr_DC ha _ _ _) hS sr_inX4 tyX4_ok nmX4 sr_wC1 rfl 6 (by decide) sw_39 rfl (by decide +kernel) (Nat.le_of_ble_eq_true rfl) sr_fC1_6 dX4_scan_67 (fun H locs hP hS => ?_)
              generalize hc1 : va_up cx 4 (upd (cx 4) 0 (sr_flt kp)) = cx1 at hP
              have e10 : cx1 4 0 = sr_flt kp := by rw [← hc1]; rfl
              have e1k : ∀ k, 5 ≤ k → cx1 k = cx k := fun k hk => by rw [← hc1]; exact if_neg (by omega)
              refine lv_aload_n C0.1 C0.2.1 dX4_scan_70 rfl (lv_at hl 2 rfl) ?_
              refine lv_aload_n C0.1 C0.2.1 dX4_scan_71 rfl (lv_at hl 2 rfl) ?_
              refine sr_get (v := .int (cx1 4 0)) C0 hK hP sr_inX4 sr_wC1 rfl 6 (by decide) sw_39 rfl dX4_scan_72 ?_
              refine sr_chi e10 ?_
              refine lv_iconst (v := (-1)) C0.1 C0.2.1 dX4_scan_75 (by decide) ?_
              have hJ92 : ∀ (k92_0 : Int32), k92_0 = (if (sr_flt kp) = (-1) then (nI (((sr_n kp) + 1) / 7)) else 0) → W p l e (sr_rm 2 45) s m args below meth c H locs 0 0 Q (F0 m 92 ls [.int k92_0, .ref (a 1)]) := by
                intro k92_0 e_k92_0
                subst e_k92_0
                refine sr_chi (sr_cnt_e (sr_IK_n40 hK_)) ?_
                refine sr_put C0 hK hP (sr_DC ha _ _ _) hS sr_inX4 tyX4_ok nmX4 sr_wC1 rfl 7 (by decide) sw_41 rfl (by decide +kernel) (Nat.le_of_ble_eq_true rfl) sr_fC1_7 dX4_scan_92 (fun H locs hP hS => ?_)
                generalize hc2 : va_up cx1 4 (upd (cx1 4) 1 (nI (sr_cnt kp))) = cx2 at hP
                have e20 : cx2 4 0 = sr_flt kp := by rw [← hc2]; exact e10
                have e21 : cx2 4 1 = nI (sr_cnt kp) := by rw [← hc2]; rfl
                have e2k : ∀ k, 5 ≤ k → cx2 k = cx k := fun k hk => by rw [← hc2, ← e1k k hk]; exact if_neg (by omega)
                have hc5 := sr_cnt5 kp
                refine lv_iconst (v := 0) C0.1 C0.2.1 dX4_scan_95 (by decide) ?_
                refine lv_istore_n (lv' := [(3, .int 0), (2, .int (if ((nI (sr_n kp)) = 0) ∨ ((nI ((sr_n kp) % 7)) = 6) then 1 else 0)), (1, .int (nI i)), (0, .ref (a 1))]) C0.1 C0.2.1 dX4_scan_96 rfl hl (by decide) rfl (fun ls hl => ?_)
                have lp97 : ∀ (n97 : Nat) (r : Nat) (cx3 : sr_M) (H : Heap) (locs : List Loc) (ls : Array Slot), (r ≤ sr_cnt kp) → (sr_cnt kp + 1 ≤ r + n97) → (cx3 4 0 = sr_flt kp) → (cx3 4 1 = nI (sr_cnt kp)) → (∀ q, q < r → ∀ j, j < 4 → cx3 j q = sr_fig kp q j) → (∀ k, 5 ≤ k → cx3 k = cx k) → va_P D vwCl (sr_WC cI cR a kp cx3 sg) H → va_S (sr_AC a) s.heap H locs → lv_has ls 4 [(3, .int (nI r)), (2, .int (if ((nI (sr_n kp)) = 0) ∨ ((nI ((sr_n kp) % 7)) = 6) then 1 else 0)), (1, .int (nI i)), (0, .ref (a 1))] → W p l e (sr_rm 2 45) s m args below meth c H locs 0 0 Q (F0 m 97 ls []) := by
                  intro n97
                  induction n97 with
                  | zero =>
                    intro r cx3 H locs ls h_i h_n h_0 h_1 h_r h_k hP hS hl
                    exact absurd h_n (by omega)
                  | succ n97 ih97 =>
                    intro r cx3 H locs ls h_i h_n h_0 h_1 h_r h_k hP hS hl
                    refine lv_iload_n C0.1 C0.2.1 dX4_scan_97 rfl (lv_at hl 0 rfl) ?_
                    refine lv_aload_n C0.1 C0.2.1 dX4_scan_98 rfl (lv_at hl 3 rfl) ?_
                    refine sr_get (v := .int (cx3 4 1)) C0 hK hP sr_inX4 sr_wC1 rfl 7 (by decide) sw_41 rfl dX4_scan_99 ?_
                    refine sr_chi h_1 ?_
                    refine lv_icmp_ge (tgt := 116) C0.1 C0.2.1 dX4_scan_102 (by decide) (fun c102 => ?_) (fun c102 => ?_)
                    · have g102 : (sr_cnt kp) ≤ r := (nI_leI (a := (sr_cnt kp)) (b := r) (by omega) (by omega)).mp c102
                      exact hret _ _ _ cx3 _ _ dX4_scan_116 hP hS rfl ⟨h_0, h_1, fun q hq => h_r q (by omega), h_k⟩
                    · have g102 : ¬ ((sr_cnt kp) ≤ r) := fun q => c102 ((nI_leI (a := (sr_cnt kp)) (b := r) (by omega) (by omega)).mpr q)
                      refine lv_aload_n C0.1 C0.2.1 dX4_scan_105 rfl (lv_at hl 3 rfl) ?_
                      refine lv_iload_n C0.1 C0.2.1 dX4_scan_106 rfl (lv_at hl 0 rfl) ?_
                      refine sr_gVv (As := [.int (nI r)]) C0 hK hP hZ (sr_Zs hZ hZ0 hS) (cc_X4_readFigures ha r (by omega)) sk_X4_readFigures sv_X4_readFigures sw_234 (ci := 4) rfl sr_wC1 rfl rfl hl.1 (Nat.le_of_ble_eq_true rfl) (Nat.le_of_ble_eq_true rfl) (Nat.le_of_ble_eq_true rfl) dX4_scan_107 ⟨Nat.zero_le _, Nat.zero_le _⟩ hS (fun cx1 H locs hR hP hS => ?_)
                      refine lv_iinc (v := (nI (r + 1))) (lv' := [(3, .int (nI (r + 1))), (2, .int (if ((nI (sr_n kp)) = 0) ∨ ((nI ((sr_n kp) % 7)) = 6) then 1 else 0)), (1, .int (nI i)), (0, .ref (a 1))]) C0.1 C0.2.1 dX4_scan_110 hl (k := 0) rfl (nI_1 r) (by decide) rfl (fun ls hl => ?_)
                      refine lv_goto (tgt := 97) C0.1 C0.2.1 dX4_scan_113 (by decide) ?_
                      exact ih97 (r + 1) cx1 _ _ _ (by omega) (by omega) (by rw [hR.2.2 4 (by omega)]; exact h_0) (by rw [hR.2.2 4 (by omega)]; exact h_1) (fun q hq j hj => by rcases Nat.lt_or_ge q r with z | z; (rw [hR.2.1 j q hj (by omega)]; exact h_r q z j hj); (rw [show q = r by omega]; exact hR.1 j hj)) (fun k hk => by rw [hR.2.2 k (by omega)]; exact h_k k hk) hP hS (lv_sub hl [0, 1, 2, 3] rfl)
                exact lp97 (sr_cnt kp + 1) 0 cx2 _ _ _ (by omega) (by omega) e20 e21 (fun q hq => absurd hq (by omega)) e2k hP hS (lv_sub hl [0, 1, 2, 3] rfl)
              refine lv_icmp_ne (tgt := 91) C0.1 C0.2.1 dX4_scan_76 (by decide) (fun c76 => ?_) (fun c76 => ?_)
              · refine lv_iconst (v := 0) C0.1 C0.2.1 dX4_scan_91 (by decide) ?_
                exact hJ92 _ (by rw [if_neg c76])
              · refine lv_aload_n C0.1 C0.2.1 dX4_scan_79 rfl (lv_at hl 2 rfl) ?_
                refine sr_get (v := .int (kp 5 0)) C0 hK hP sr_inX4 sr_wC1 rfl 5 (by decide) sw_37 rfl dX4_scan_80 ?_
                refine sr_chi (sr_IK_n hK_) ?_
                have := sr_IK_n40 hK_
                refine lv_iconst (v := 1) C0.1 C0.2.1 dX4_scan_83 (by decide) ?_
                refine lv_iadd C0.1 C0.2.1 dX4_scan_84 ?_
                refine sr_chi (nI_add (sr_n kp) 1) ?_
                refine lv_bipush (v := 7) C0.1 C0.2.1 dX4_scan_85 (by decide) ?_
                refine lv_idiv C0.1 C0.2.1 dX4_scan_87 (by decide) ?_
                refine sr_chi (pk_div (a := (sr_n kp) + 1) (d := 7) (by omega) (by omega) (by omega)) ?_
                refine lv_goto (tgt := 92) C0.1 C0.2.1 dX4_scan_88 (by decide) ?_
                exact hJ92 _ (by rw [if_pos c76])
            refine lv_icmp_ne (tgt := 66) C0.1 C0.2.1 dX4_scan_55 (by decide) (fun c55 => ?_) (fun c55 => ?_)
            · have g55 : ¬ (i = (sr_n kp)) := fun q => c55 ((nI_eq (a := i) (b := (sr_n kp)) (by omega) (by omega)).mpr q)
              refine lv_iload_n C0.1 C0.2.1 dX4_scan_66 rfl (lv_at hl 1 rfl) ?_
              exact hJ67 _ (by rw [if_neg c55])
            · have g55 : i = (sr_n kp) := (nI_eq (a := i) (b := (sr_n kp)) (by omega) (by omega)).mp c55
              refine lv_iload_n C0.1 C0.2.1 dX4_scan_58 rfl (lv_at hl 0 rfl) ?_
              refine sr_ifeq (tgt := 66) C0 dX4_scan_59 (by decide) (fun c59 => ?_) (fun c59 => ?_)
              · refine lv_iload_n C0.1 C0.2.1 dX4_scan_66 rfl (lv_at hl 1 rfl) ?_
                exact hJ67 _ (by rw [if_pos c55, if_neg c59])
              · refine lv_iconst (v := (-1)) C0.1 C0.2.1 dX4_scan_62 (by decide) ?_
                refine lv_goto (tgt := 67) C0.1 C0.2.1 dX4_scan_63 (by decide) ?_
                exact hJ67 _ (by rw [if_pos c55, if_pos c59])
          refine lv_if_eq (tgt := 43) C0.1 C0.2.1 dX4_scan_28 (by decide) (fun c28 => ?_) (fun c28 => ?_)
          · have g28 : (sr_n kp) = 0 := (nI_eq (a := (sr_n kp)) (b := 0) (by omega) (by omega)).mp c28
            refine lv_iconst (v := 1) C0.1 C0.2.1 dX4_scan_43 (by decide) ?_
            refine lv_goto (tgt := 48) C0.1 C0.2.1 dX4_scan_44 (by decide) ?_
            exact hJ48 _ ((if_pos (Or.inl c28)).symm)
          · have g28 : ¬ ((sr_n kp) = 0) := fun q => c28 ((nI_eq (a := (sr_n kp)) (b := 0) (by omega) (by omega)).mpr q)
            refine lv_aload_n C0.1 C0.2.1 dX4_scan_31 rfl (lv_at hl 1 rfl) ?_
            refine sr_get (v := .int (kp 5 0)) C0 hK hP sr_inX4 sr_wC1 rfl 5 (by decide) sw_37 rfl dX4_scan_32 ?_
            refine sr_chi (sr_IK_n hK_) ?_
            have := sr_IK_n40 hK_
            refine lv_bipush (v := 7) C0.1 C0.2.1 dX4_scan_35 (by decide) ?_
            refine lv_irem C0.1 C0.2.1 dX4_scan_37 (by decide) ?_
            refine sr_chi (pk_rem (a := (sr_n kp)) (d := 7) (by omega) (by omega) (by omega)) ?_
            refine lv_bipush (v := 6) C0.1 C0.2.1 dX4_scan_38 (by decide) ?_
            refine lv_icmp_ne (tgt := 47) C0.1 C0.2.1 dX4_scan_40 (by decide) (fun c40 => ?_) (fun c40 => ?_)
            · have g40 : ¬ ((sr_n kp) % 7 = 6) := fun q => c40 ((nI_eq (a := ((sr_n kp) % 7)) (b := 6) (by omega) (by omega)).mpr q)
              refine lv_iconst (v := 0) C0.1 C0.2.1 dX4_scan_47 (by decide) ?_
              exact hJ48 _ ((if_neg (fun q => q.elim c28 c40)).symm)
            · have g40 : (sr_n kp) % 7 = 6 := (nI_eq (a := ((sr_n kp) % 7)) (b := 6) (by omega) (by omega)).mp c40
              refine lv_iconst (v := 1) C0.1 C0.2.1 dX4_scan_43 (by decide) ?_
              refine lv_goto (tgt := 48) C0.1 C0.2.1 dX4_scan_44 (by decide) ?_
              exact hJ48 _ ((if_pos (Or.inr c40)).symm)
        · refine lv_iinc (v := (nI (i + 1))) (lv' := [(1, .int (nI (i + 1))), (0, .ref (a 1))]) C0.1 C0.2.1 dX4_scan_18 hl (k := 0) rfl (nI_1 i) (by decide) rfl (fun ls hl => ?_)
          refine lv_goto (tgt := 2) C0.1 C0.2.1 dX4_scan_21 (by decide) ?_
          exact ih2 (i + 1) _ _ _ (by omega) (by omega) (sr_run_step (by omega) h_f c15) hP hS (lv_sub hl [0, 1] rfl)
  exact lp2 (sr_n kp + 1) 0 _ _ _ (by omega) (by omega) rfl hP hS (lv_sub hl [0, 1] rfl)
set_option maxRecDepth 100000 in
set_option maxHeartbeats 4000000 in
theorem cc_X4_append {l : Launch} {D : va_G} {cI cR : ClassId} {a : Nat → Nat} (ha : ∀ i j, i < 36 → j < 36 → a i = a j → i = j) {kp cx sg : sr_M} (b_ : Int32) (hI : sr_IC kp cx) (hb_ : 0 ≤ b_.toInt ∧ b_.toInt ≤ 255) : sr_G l D (sr_tC cI cR) (sr_ZC a) (sr_AC a) (sr_WC cI cR a kp cx sg) yX4_append cX4_append 2 (some .boolean) 3 68 [.ref (a 1), .int b_] (S := sr_M) (fun u => sr_IC (sr_ty kp b_) u ∧ ∀ k, 6 ≤ k → u k = cx k) (fun u => sr_WC cI cR a (sr_ty kp b_) u sg) (fun u => some (.int (if sr_n kp < 40 then 1 else 0))) := by
  refine sr_Gze (by decide +kernel) (Nat.le_of_ble_eq_true rfl) (fun p e s m args below meth c ls Q B hret => ?_)
  obtain ⟨C0, hP, hK, hZ0, hl⟩ := B
  have hZ : sr_Zok (sr_AC a) (sr_ZC a) := sr_ZCok a
  have hS : va_S (sr_AC a) s.heap s.heap [] := va_S.rf
  have hl : lv_has ls 2 [(0, .ref (a 1)), (1, .int b_)] := hl
  obtain ⟨H, hH⟩ : ∃ H, H = s.heap := ⟨_, rfl⟩
  have hP : va_P D vwCl (sr_WC cI cR a kp cx sg) H := by rw [hH]; exact hP
  have hS : va_S (sr_AC a) s.heap H [] := by rw [hH]; exact hS
  suffices hG : ∀ locs, va_S (sr_AC a) s.heap H locs → W p l e (sr_rm 3 68) s m args below meth c H locs 0 0 Q (F0 m 0 ls []) from by have h9 := hG [] hS; rw [hH] at h9; exact h9
  clear hS
  intro locs hS
  clear hH
  refine lv_aload_n C0.1 C0.2.1 dX4_append_0 rfl (lv_at hl 0 rfl) ?_
  refine sr_get (v := .int (kp 5 0)) C0 hK hP sr_inX4 sr_wC1 rfl 5 (by decide) sw_37 rfl dX4_append_1 ?_
  refine sr_chi (sr_IK_n (sr_IC_K hI)) ?_
  have := sr_IK_n40 (sr_IC_K hI)
  refine lv_bipush (v := 40) C0.1 C0.2.1 dX4_append_4 (by decide) ?_
  refine lv_icmp_lt (tgt := 11) C0.1 C0.2.1 dX4_append_6 (by decide) (fun c6 => ?_) (fun c6 => ?_)
  · have g6 : (sr_n kp) < 40 := (nI_ltI (a := (sr_n kp)) (b := 40) (by omega) (by omega)).mp c6
    refine lv_aload_n C0.1 C0.2.1 dX4_append_11 rfl (lv_at hl 0 rfl) ?_
    refine sr_get (v := .ref (a 8)) C0 hK hP sr_inX4 sr_wC1 rfl 0 (by decide) sw_28 rfl dX4_append_12 ?_
    refine lv_aload_n C0.1 C0.2.1 dX4_append_15 rfl (lv_at hl 0 rfl) ?_
    refine sr_get (v := .int (kp 5 0)) C0 hK hP sr_inX4 sr_wC1 rfl 5 (by decide) sw_37 rfl dX4_append_16 ?_
    refine sr_chi (sr_IK_n (sr_IC_K hI)) ?_
    have := sr_IK_n40 (sr_IC_K hI)
    refine lv_iload_n C0.1 C0.2.1 dX4_append_19 rfl (lv_at hl 1 rfl) ?_
    refine sr_ast (k := (sr_n kp)) C0 hK rfl hP (sr_DC ha _ _ _) hS sr_wC8 (nI_clamp (by omega)) (vp_in_nI (by omega) (by omega)) sr_sC8 dX4_append_20 (fun H locs hP hS => ?_)
    refine lv_aload_n C0.1 C0.2.1 dX4_append_21 rfl (lv_at hl 0 rfl) ?_
    refine lv_dup C0.1 C0.2.1 dX4_append_22 rfl ?_
    refine sr_get (v := .int (kp 5 0)) C0 hK hP sr_inX4 sr_wC1 rfl 5 (by decide) sw_37 rfl dX4_append_23 ?_
    refine sr_chi (sr_IK_n (sr_IC_K hI)) ?_
    have := sr_IK_n40 (sr_IC_K hI)
    refine lv_iconst (v := 1) C0.1 C0.2.1 dX4_append_26 (by decide) ?_
    refine lv_iadd C0.1 C0.2.1 dX4_append_27 ?_
    refine sr_chi (nI_add (sr_n kp) 1) ?_
    refine sr_put C0 hK hP (sr_DC ha _ _ _) hS sr_inX4 tyX4_ok nmX4 sr_wC1 rfl 5 (by decide) sw_37 rfl (by decide +kernel) (Nat.le_of_ble_eq_true rfl) sr_fC1_5 dX4_append_28 (fun H locs hP hS => ?_)
    have hP : va_P D vwCl (sr_WC cI cR a (va_up (va_up kp 0 (upd (kp 0) (sr_n kp) b_)) 5 (upd (kp 5) 0 (nI ((sr_n kp) + 1)))) cx sg) H := hP
    have hP : va_P D vwCl (sr_WC cI cR a (sr_ty1 kp b_) cx sg) H := hP
    refine lv_aload_n C0.1 C0.2.1 dX4_append_31 rfl (lv_at hl 0 rfl) ?_
    refine sr_gVv (As := []) C0 hK hP hZ (sr_Zs hZ hZ0 hS) (cc_X4_scan ha (sr_IK_ty1 (sr_IC_K hI) hb_ g6)) sk_X4_scan sv_X4_scan sw_221 (ci := 4) rfl sr_wC1 rfl rfl hl.1 (Nat.le_of_ble_eq_true rfl) (Nat.le_of_ble_eq_true rfl) (Nat.le_of_ble_eq_true rfl) dX4_append_32 ⟨Nat.zero_le _, Nat.zero_le _⟩ hS (fun cx1 H locs hSc hP hS => ?_)
    refine lv_iconst (v := 1) C0.1 C0.2.1 dX4_append_35 (by decide) ?_
    exact hret _ _ _ cx1 _ _ _ dX4_append_36 hP hS (by unfold sr_ty; rw [if_pos g6]) (if_pos g6).symm ⟨by unfold sr_ty; rw [if_pos g6]; exact sr_Sc_IC hI (sr_IK_ty1 (sr_IC_K hI) hb_ g6) rfl hSc, fun k hk => hSc.2.2.2 k (by omega)⟩
  · have g6 : ¬ ((sr_n kp) < 40) := fun q => c6 ((nI_ltI (a := (sr_n kp)) (b := 40) (by omega) (by omega)).mpr q)
    refine lv_iconst (v := 0) C0.1 C0.2.1 dX4_append_9 (by decide) ?_
    exact hret _ _ _ cx _ _ _ dX4_append_10 hP hS (by unfold sr_ty; rw [if_neg g6]) (if_neg g6).symm ⟨by unfold sr_ty; rw [if_neg g6]; exact hI, fun _ _ => rfl⟩
set_option maxRecDepth 100000 in
set_option maxHeartbeats 4000000 in
theorem cc_X4_dropLast {l : Launch} {D : va_G} {cI cR : ClassId} {a : Nat → Nat} (ha : ∀ i j, i < 36 → j < 36 → a i = a j → i = j) {kp cx sg : sr_M} (hI : sr_IC kp cx) : sr_G l D (sr_tC cI cR) (sr_ZC a) (sr_AC a) (sr_WC cI cR a kp cx sg) yX4_dropLast cX4_dropLast 1 (some .boolean) 3 68 [.ref (a 1)] (S := sr_M) (fun u => sr_IC (sr_ln kp (sr_n kp - 1)) u ∧ ∀ k, 6 ≤ k → u k = cx k) (fun u => sr_WC cI cR a (sr_ln kp (sr_n kp - 1)) u sg) (fun u => some (.int (if ¬ sr_n kp = 0 then 1 else 0))) := by
  refine sr_Gze (by decide +kernel) (Nat.le_of_ble_eq_true rfl) (fun p e s m args below meth c ls Q B hret => ?_)
  obtain ⟨C0, hP, hK, hZ0, hl⟩ := B
  have hZ : sr_Zok (sr_AC a) (sr_ZC a) := sr_ZCok a
  have hS : va_S (sr_AC a) s.heap s.heap [] := va_S.rf
  have hl : lv_has ls 1 [(0, .ref (a 1))] := hl
  obtain ⟨H, hH⟩ : ∃ H, H = s.heap := ⟨_, rfl⟩
  have hP : va_P D vwCl (sr_WC cI cR a kp cx sg) H := by rw [hH]; exact hP
  have hS : va_S (sr_AC a) s.heap H [] := by rw [hH]; exact hS
  suffices hG : ∀ locs, va_S (sr_AC a) s.heap H locs → W p l e (sr_rm 3 68) s m args below meth c H locs 0 0 Q (F0 m 0 ls []) from by have h9 := hG [] hS; rw [hH] at h9; exact h9
  clear hS
  intro locs hS
  clear hH
  refine lv_aload_n C0.1 C0.2.1 dX4_dropLast_0 rfl (lv_at hl 0 rfl) ?_
  refine sr_get (v := .int (kp 5 0)) C0 hK hP sr_inX4 sr_wC1 rfl 5 (by decide) sw_37 rfl dX4_dropLast_1 ?_
  refine sr_chi (sr_IK_n (sr_IC_K hI)) ?_
  have := sr_IK_n40 (sr_IC_K hI)
  refine lv_if_ne (tgt := 9) C0.1 C0.2.1 dX4_dropLast_4 (by decide) (fun c4 => ?_) (fun c4 => ?_)
  · have g4 : ¬ ((sr_n kp) = 0) := fun q => c4 ((nI_eq (a := (sr_n kp)) (b := 0) (by omega) (by omega)).mpr q)
    refine lv_aload_n C0.1 C0.2.1 dX4_dropLast_9 rfl (lv_at hl 0 rfl) ?_
    refine lv_dup C0.1 C0.2.1 dX4_dropLast_10 rfl ?_
    refine sr_get (v := .int (kp 5 0)) C0 hK hP sr_inX4 sr_wC1 rfl 5 (by decide) sw_37 rfl dX4_dropLast_11 ?_
    refine sr_chi (sr_IK_n (sr_IC_K hI)) ?_
    have := sr_IK_n40 (sr_IC_K hI)
    refine lv_iconst (v := 1) C0.1 C0.2.1 dX4_dropLast_14 (by decide) ?_
    refine lv_isub C0.1 C0.2.1 dX4_dropLast_15 ?_
    refine sr_chi (pk_sub (a := (sr_n kp)) (b := 1) (by omega)) ?_
    refine sr_put C0 hK hP (sr_DC ha _ _ _) hS sr_inX4 tyX4_ok nmX4 sr_wC1 rfl 5 (by decide) sw_37 rfl (by decide +kernel) (Nat.le_of_ble_eq_true rfl) sr_fC1_5 dX4_dropLast_16 (fun H locs hP hS => ?_)
    have hP : va_P D vwCl (sr_WC cI cR a (sr_ln kp (sr_n kp - 1)) cx sg) H := hP
    refine lv_aload_n C0.1 C0.2.1 dX4_dropLast_19 rfl (lv_at hl 0 rfl) ?_
    refine sr_gVv (As := []) C0 hK hP hZ (sr_Zs hZ hZ0 hS) (cc_X4_scan ha (sr_IK_ln (sr_IC_K hI) (by omega))) sk_X4_scan sv_X4_scan sw_221 (ci := 4) rfl sr_wC1 rfl rfl hl.1 (Nat.le_of_ble_eq_true rfl) (Nat.le_of_ble_eq_true rfl) (Nat.le_of_ble_eq_true rfl) dX4_dropLast_20 ⟨Nat.zero_le _, Nat.zero_le _⟩ hS (fun cx1 H locs hSc hP hS => ?_)
    refine lv_iconst (v := 1) C0.1 C0.2.1 dX4_dropLast_23 (by decide) ?_
    exact hret _ _ _ cx1 _ _ _ dX4_dropLast_24 hP hS rfl (if_pos g4).symm ⟨sr_Sc_IC hI (sr_IK_ln (sr_IC_K hI) (by omega)) rfl hSc, fun k hk => hSc.2.2.2 k (by omega)⟩
  · have g4 : (sr_n kp) = 0 := (nI_eq (a := (sr_n kp)) (b := 0) (by omega) (by omega)).mp c4
    refine lv_iconst (v := 0) C0.1 C0.2.1 dX4_dropLast_7 (by decide) ?_
    exact hret _ _ _ cx _ _ _ dX4_dropLast_8 hP hS (by rw [sr_ln_0 (sr_IC_K hI) g4]) (if_neg (fun q => q g4)).symm ⟨by rw [sr_ln_0 (sr_IC_K hI) g4]; exact hI, fun _ _ => rfl⟩
set_option maxRecDepth 100000 in
set_option maxHeartbeats 4000000 in
theorem cc_X4_clear {l : Launch} {D : va_G} {cI cR : ClassId} {a : Nat → Nat} (ha : ∀ i j, i < 36 → j < 36 → a i = a j → i = j) {kp cx sg : sr_M} (hI : sr_IC kp cx) : sr_G l D (sr_tC cI cR) (sr_ZC a) (sr_AC a) (sr_WC cI cR a kp cx sg) yX4_clear cX4_clear 2 (some .int) 3 68 [.ref (a 1)] (S := sr_M) (fun u => sr_IC (sr_ln kp 0) u ∧ ∀ k, 6 ≤ k → u k = cx k) (fun u => sr_WC cI cR a (sr_ln kp 0) u sg) (fun u => some (.int (nI (sr_n kp)))) := by
  refine sr_Gie (by decide +kernel) (Nat.le_of_ble_eq_true rfl) (fun p e s m args below meth c ls Q B hret => ?_)
  obtain ⟨C0, hP, hK, hZ0, hl⟩ := B
  have hZ : sr_Zok (sr_AC a) (sr_ZC a) := sr_ZCok a
  have hS : va_S (sr_AC a) s.heap s.heap [] := va_S.rf
  have hl : lv_has ls 2 [(0, .ref (a 1))] := hl
  obtain ⟨H, hH⟩ : ∃ H, H = s.heap := ⟨_, rfl⟩
  have hP : va_P D vwCl (sr_WC cI cR a kp cx sg) H := by rw [hH]; exact hP
  have hS : va_S (sr_AC a) s.heap H [] := by rw [hH]; exact hS
  suffices hG : ∀ locs, va_S (sr_AC a) s.heap H locs → W p l e (sr_rm 3 68) s m args below meth c H locs 0 0 Q (F0 m 0 ls []) from by have h9 := hG [] hS; rw [hH] at h9; exact h9
  clear hS
  intro locs hS
  clear hH
  refine lv_aload_n C0.1 C0.2.1 dX4_clear_0 rfl (lv_at hl 0 rfl) ?_
  refine sr_get (v := .int (kp 5 0)) C0 hK hP sr_inX4 sr_wC1 rfl 5 (by decide) sw_37 rfl dX4_clear_1 ?_
  refine sr_chi (sr_IK_n (sr_IC_K hI)) ?_
  have := sr_IK_n40 (sr_IC_K hI)
  refine lv_istore_n (lv' := [(1, .int (nI (sr_n kp))), (0, .ref (a 1))]) C0.1 C0.2.1 dX4_clear_4 rfl hl (by decide) rfl (fun ls hl => ?_)
  refine lv_aload_n C0.1 C0.2.1 dX4_clear_5 rfl (lv_at hl 1 rfl) ?_
  refine lv_iconst (v := 0) C0.1 C0.2.1 dX4_clear_6 (by decide) ?_
  refine sr_put C0 hK hP (sr_DC ha _ _ _) hS sr_inX4 tyX4_ok nmX4 sr_wC1 rfl 5 (by decide) sw_37 rfl (by decide +kernel) (Nat.le_of_ble_eq_true rfl) sr_fC1_5 dX4_clear_7 (fun H locs hP hS => ?_)
  have hP : va_P D vwCl (sr_WC cI cR a (sr_ln kp 0) cx sg) H := hP
  refine lv_aload_n C0.1 C0.2.1 dX4_clear_10 rfl (lv_at hl 1 rfl) ?_
  refine sr_gVv (As := []) C0 hK hP hZ (sr_Zs hZ hZ0 hS) (cc_X4_scan ha (sr_IK_ln (sr_IC_K hI) (by omega))) sk_X4_scan sv_X4_scan sw_221 (ci := 4) rfl sr_wC1 rfl rfl hl.1 (Nat.le_of_ble_eq_true rfl) (Nat.le_of_ble_eq_true rfl) (Nat.le_of_ble_eq_true rfl) dX4_clear_11 ⟨Nat.zero_le _, Nat.zero_le _⟩ hS (fun cx1 H locs hSc hP hS => ?_)
  refine lv_iload_n C0.1 C0.2.1 dX4_clear_14 rfl (lv_at hl 0 rfl) ?_
  exact hret _ _ _ cx1 _ _ _ dX4_clear_15 hP hS rfl rfl ⟨sr_Sc_IC hI (sr_IK_ln (sr_IC_K hI) (by omega)) rfl hSc, fun k hk => hSc.2.2.2 k (by omega)⟩
set_option maxRecDepth 100000 in
set_option maxHeartbeats 4000000 in
theorem cc_X4_figure {l : Launch} {D : va_G} {cI cR : ClassId} {a : Nat → Nat} (ha : ∀ i j, i < 36 → j < 36 → a i = a j → i = j) {kp cx sg : sr_M} (r_ : Nat) (j_ : Nat) (hI : sr_IC kp cx) (hr_r_ : r_ < sr_cnt kp) (hj_ : j_ < 4) : sr_P l D (sr_tC cI cR) (sr_ZC a) (sr_WC cI cR a kp cx sg) yX4_figure cX4_figure 3 (some .int) 0 0 [.ref (a 1), .int (nI r_), .int (nI j_)] (some (.int (sr_fig kp r_ j_))) := by
  refine sr_Pie (by decide +kernel) (Nat.le_of_ble_eq_true rfl) (fun p e s m args below meth c ls Q B hret => ?_)
  obtain ⟨C0, hP, hK, hZ0, hl⟩ := B
  have hZ : sr_Zok (sr_AC a) (sr_ZC a) := sr_ZCok a
  have hS : va_S (sr_AC a) s.heap s.heap [] := va_S.rf
  have hl : lv_has ls 3 [(0, .ref (a 1)), (1, .int (nI r_)), (2, .int (nI j_))] := hl
  have := sr_cnt5 kp
  refine lv_iload_n C0.1 C0.2.1 dX4_figure_0 rfl (lv_at hl 2 rfl) ?_
  rcases (show j_ = 0 ∨ j_ = 1 ∨ j_ = 2 ∨ j_ = 3 by omega) with ej | ej | ej | ej
  · refine sr_chi (show (nI j_) = 0 from by rw [ej]; rfl) ?_
    refine lv_tableIn (tgt := 28) (off := 27) C0.1 C0.2.1 dX4_figure_1 (by decide) (by decide) (by decide) (by decide) ?_
    refine lv_aload_n C0.1 C0.2.1 dX4_figure_28 rfl (lv_at hl 0 rfl) ?_
    refine sr_get (v := .ref (a 9)) C0 hK hP sr_inX4 sr_wC1 rfl 1 (by decide) sw_29 rfl dX4_figure_29 ?_
    refine lv_iload_n C0.1 C0.2.1 dX4_figure_32 rfl (lv_at hl 1 rfl) ?_
    refine sr_ald (k := r_) C0 hK rfl hP sr_wC9 (nI_clamp (by omega)) (vp_in_nI (by omega) (by omega)) dX4_figure_33 ?_
    refine sr_chi (sr_IC_f0 hI (by omega)) ?_
    exact hret _ _ _ dX4_figure_34 (by rw [ej])
  · refine sr_chi (show (nI j_) = 1 from by rw [ej]; rfl) ?_
    refine lv_tableIn (tgt := 35) (off := 34) C0.1 C0.2.1 dX4_figure_1 (by decide) (by decide) (by decide) (by decide) ?_
    refine lv_aload_n C0.1 C0.2.1 dX4_figure_35 rfl (lv_at hl 0 rfl) ?_
    refine sr_get (v := .ref (a 10)) C0 hK hP sr_inX4 sr_wC1 rfl 2 (by decide) sw_31 rfl dX4_figure_36 ?_
    refine lv_iload_n C0.1 C0.2.1 dX4_figure_39 rfl (lv_at hl 1 rfl) ?_
    refine sr_ald (k := r_) C0 hK rfl hP sr_wC10 (nI_clamp (by omega)) (vp_in_nI (by omega) (by omega)) dX4_figure_40 ?_
    refine sr_chi (sr_IC_f1 hI (by omega)) ?_
    exact hret _ _ _ dX4_figure_41 (by rw [ej])
  · refine sr_chi (show (nI j_) = 2 from by rw [ej]; rfl) ?_
    refine lv_tableIn (tgt := 42) (off := 41) C0.1 C0.2.1 dX4_figure_1 (by decide) (by decide) (by decide) (by decide) ?_
    refine lv_aload_n C0.1 C0.2.1 dX4_figure_42 rfl (lv_at hl 0 rfl) ?_
    refine sr_get (v := .ref (a 11)) C0 hK hP sr_inX4 sr_wC1 rfl 3 (by decide) sw_33 rfl dX4_figure_43 ?_
    refine lv_iload_n C0.1 C0.2.1 dX4_figure_46 rfl (lv_at hl 1 rfl) ?_
    refine sr_ald (k := r_) C0 hK rfl hP sr_wC11 (nI_clamp (by omega)) (vp_in_nI (by omega) (by omega)) dX4_figure_47 ?_
    refine sr_chi (sr_IC_f2 hI (by omega)) ?_
    exact hret _ _ _ dX4_figure_48 (by rw [ej])
  · refine sr_chi (show (nI j_) = 3 from by rw [ej]; rfl) ?_
    refine lv_tableOut (tgt := 49) C0.1 C0.2.1 dX4_figure_1 (by decide) (by decide) ?_
    refine lv_aload_n C0.1 C0.2.1 dX4_figure_49 rfl (lv_at hl 0 rfl) ?_
    refine sr_get (v := .ref (a 12)) C0 hK hP sr_inX4 sr_wC1 rfl 4 (by decide) sw_35 rfl dX4_figure_50 ?_
    refine lv_iload_n C0.1 C0.2.1 dX4_figure_53 rfl (lv_at hl 1 rfl) ?_
    refine sr_ald (k := r_) C0 hK rfl hP sr_wC12 (nI_clamp (by omega)) (vp_in_nI (by omega) (by omega)) dX4_figure_54 ?_
    refine sr_chi (sr_IC_f3 hI (by omega)) ?_
    exact hret _ _ _ dX4_figure_55 (by rw [ej])
