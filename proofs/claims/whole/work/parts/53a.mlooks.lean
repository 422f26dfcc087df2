set_option maxRecDepth 100000 in
set_option maxHeartbeats 4000000 in
theorem cc_X8_looks {l : Launch} {D : va_G} {cI : ClassId} {a : Nat → Nat} (ha : ∀ i j, i < 13 → j < 13 → a i = a j → i = j) {kp cx sg : sr_M} (a_ : Nat) (b_ : Nat) (c_ : Nat) (d_ : Nat) (hK_ : sr_IK kp) (hRD : sr_RD kp sg) (ho1 : sg 4 1 = nI a_) (ho2 : sg 4 2 = nI b_) (ho3 : sg 4 3 = nI c_) (ho4 : sg 4 4 = nI d_) (hr_a_ : a_ < sr_cnt kp) (hr_b_ : b_ < sr_cnt kp) (hr_c_ : c_ < sr_cnt kp) (hr_d_ : d_ < sr_cnt kp) : sr_G l D (sr_tM cI) (sr_ZM) (sr_AM a) (sr_WM cI a kp cx sg) yX8_looks cX8_looks 3 none 5 127 [.ref (a 0)] (S := sr_M) (fun u => sr_RD kp u ∧ u 3 = if sr_hc kp a_ b_ c_ d_ then sr_cons kp (sg 3) a_ b_ c_ d_ else sg 3) (fun u => sr_WM cI a kp cx u) (fun _ => none) := by
  refine sr_Gve (by decide +kernel) (Nat.le_of_ble_eq_true rfl) (fun p e s m args below meth c ls Q B hret => ?_)
  obtain ⟨C0, hP, hK, hZ0, hl⟩ := B
  have hZ : sr_Zok (sr_AM a) (sr_ZM) := sr_ZMok
  have hS : va_S (sr_AM a) s.heap s.heap [] := va_S.rf
  have hl : lv_has ls 3 [(0, .ref (a 0))] := hl
  obtain ⟨H, hH⟩ : ∃ H, H = s.heap := ⟨_, rfl⟩
  have hP : va_P D vwCl (sr_WM cI a kp cx sg) H := by rw [hH]; exact hP
  have hS : va_S (sr_AM a) s.heap H [] := by rw [hH]; exact hS
  suffices hG : ∀ locs, va_S (sr_AM a) s.heap H locs → W p l e (sr_rm 5 127) s m args below meth c H locs 0 0 Q (F0 m 0 ls []) from by have h9 := hG [] hS; rw [hH] at h9; exact h9
  clear hS
  intro locs hS
  clear hH
  have hc5 := sr_cnt5 kp
  refine lv_aload_n C0.1 C0.2.1 dX8_looks_0 rfl (lv_at hl 0 rfl) ?_
  refine sr_pVi (As := []) C0 hK hP hZ (sr_Zs hZ hZ0 hS) (cc_X8_hands ha a_ b_ c_ d_ hRD ho1 ho2 ho3 ho4 (by omega) (by omega) (by omega) (by omega)) sk_X8_hands sv_X8_hands sw_921 (ci := 8) rfl sr_wM0 rfl rfl hl.1 (Nat.le_of_ble_eq_true rfl) (Nat.le_of_ble_eq_true rfl) (Nat.le_of_ble_eq_true rfl) dX8_looks_1 ⟨Nat.zero_le _, Nat.zero_le _⟩ ?_
  refine sr_ifne (tgt := 8) C0 dX8_looks_4 (by decide) (fun c4 => ?_) (fun c4 => ?_)
  · refine lv_aload_n C0.1 C0.2.1 dX8_looks_8 rfl (lv_at hl 0 rfl) ?_
    refine sr_get (v := .ref (a 12)) C0 hK hP sr_inX8 sr_wM0 rfl 15 (by decide) sw_625 rfl dX8_looks_9 ?_
    refine lv_iconst (v := 0) C0.1 C0.2.1 dX8_looks_12 (by decide) ?_
    refine lv_aload_n C0.1 C0.2.1 dX8_looks_13 rfl (lv_at hl 0 rfl) ?_
    refine lv_aload_n C0.1 C0.2.1 dX8_looks_14 rfl (lv_at hl 0 rfl) ?_
    refine sr_get (v := .ref (a 12)) C0 hK hP sr_inX8 sr_wM0 rfl 15 (by decide) sw_625 rfl dX8_looks_15 ?_
    refine lv_iconst (v := 4) C0.1 C0.2.1 dX8_looks_18 (by decide) ?_
    refine sr_ald (k := 4) C0 hK rfl hP sr_wM12 (by decide) (sr_inc (by decide)) dX8_looks_19 ?_
    refine sr_chi ho4 ?_
    refine lv_iconst (v := 3) C0.1 C0.2.1 dX8_looks_20 (by decide) ?_
    refine lv_bipush (v := 100) C0.1 C0.2.1 dX8_looks_21 (by decide) ?_
    refine sr_pVi (As := [.int (nI d_), .int 3, .int 100]) C0 hK hP hZ (sr_Zs hZ hZ0 hS) (cc_X8_takesOf ha d_ 3 (100) hRD (by first | assumption | omega | exact sr_th_at hT (by omega)) (by omega)) sk_X8_takesOf sv_X8_takesOf sw_781 (ci := 8) rfl sr_wM0 rfl rfl hl.1 (Nat.le_of_ble_eq_true rfl) (Nat.le_of_ble_eq_true rfl) (Nat.le_of_ble_eq_true rfl) dX8_looks_23 ⟨Nat.zero_le _, Nat.zero_le _⟩ ?_
    refine sr_ast (k := 0) C0 hK rfl hP (sr_DM ha _ _ _) hS sr_wM12 (by decide) (sr_inc (by decide)) sr_sM12 dX8_looks_26 (fun H locs hP hS => ?_)
    refine lv_iconst (v := 0) C0.1 C0.2.1 dX8_looks_27 (by decide) ?_
    refine lv_istore_n (lv' := [(1, .int 0), (0, .ref (a 0))]) C0.1 C0.2.1 dX8_looks_28 rfl hl (by decide) rfl (fun ls hl => ?_)
    have lp29 : ∀ (n29 : Nat) (cc : Nat) (sgz : sr_M) (H : Heap) (locs : List Loc) (ls : Array Slot), (cc ≤ 3) → (4 ≤ cc + n29) → (sgz 3 = sg 3) → (sr_RD kp sgz) → (∀ j, j < 4 → sgz 4 (1 + j) = nI (sr_dg a_ b_ c_ d_ j)) → (∀ j, j < cc → sgz 4 (5 + j) = nI (sr_best kp (sr_dg a_ b_ c_ d_ j) (sr_dg a_ b_ c_ d_ (j + 1)) j 0)) → (sgz 4 0 = sr_sm kp (sr_dg a_ b_ c_ d_) cc) → va_P D vwCl (sr_WM cI a kp cx sgz) H → va_S (sr_AM a) s.heap H locs → lv_has ls 3 [(1, .int (nI cc)), (0, .ref (a 0))] → W p l e (sr_rm 5 127) s m args below meth c H locs 0 0 Q (F0 m 29 ls []) := by
      intro n29
      induction n29 with
      | zero =>
        intro cc sgz H locs ls h_i h_n h_3 hRD h_d h_b h_s hP hS hl
        exact absurd h_n (by omega)
      | succ n29 ih29 =>
        intro cc sgz H locs ls h_i h_n h_3 hRD h_d h_b h_s hP hS hl
        refine lv_iload_n C0.1 C0.2.1 dX8_looks_29 rfl (lv_at hl 0 rfl) ?_
        refine lv_iconst (v := 3) C0.1 C0.2.1 dX8_looks_30 (by decide) ?_
        refine lv_icmp_ge (tgt := 130) C0.1 C0.2.1 dX8_looks_31 (by decide) (fun c31 => ?_) (fun c31 => ?_)
        · have g31 : 3 ≤ cc := (nI_leI (a := 3) (b := cc) (by omega) (by omega)).mp c31
          obtain rfl : cc = 3 := by omega
          obtain ⟨tv, htv⟩ : ∃ z, z = sr_tm kp a_ b_ c_ d_ := ⟨_, rfl⟩
          have q0 : sgz 4 0 = tv := (h_s.trans (sr_sm_e hK_ hr_a_ hr_b_ hr_c_ hr_d_)).trans htv.symm
          have q1 : sgz 4 1 = nI a_ := h_d 0 (by omega)
          have q2 : sgz 4 2 = nI b_ := h_d 1 (by omega)
          have q3 : sgz 4 3 = nI c_ := h_d 2 (by omega)
          have q4 : sgz 4 4 = nI d_ := h_d 3 (by omega)
          have q5 : sgz 4 5 = nI (sr_best kp a_ b_ 0 0) := h_b 0 (by omega)
          have q6 : sgz 4 6 = nI (sr_best kp b_ c_ 1 0) := h_b 1 (by omega)
          have q7 : sgz 4 7 = nI (sr_best kp c_ d_ 2 0) := h_b 2 (by omega)
          clear h_d h_b h_s
          refine lv_aload_n C0.1 C0.2.1 dX8_looks_130 rfl (lv_at hl 1 rfl) ?_
          refine sr_get (v := .ref (a 11)) C0 hK hP sr_inX8 sr_wM0 rfl 14 (by decide) sw_624 rfl dX8_looks_131 ?_
          refine lv_iconst (v := 0) C0.1 C0.2.1 dX8_looks_134 (by decide) ?_
          refine sr_ald (k := 0) C0 hK rfl hP sr_wM11 (by decide) (sr_inc (by decide)) dX8_looks_135 ?_
          refine lv_iconst (v := (-1)) C0.1 C0.2.1 dX8_looks_136 (by decide) ?_
          refine lv_icmp_eq (tgt := 155) C0.1 C0.2.1 dX8_looks_137 (by decide) (fun c137 => ?_) (fun c137 => ?_)
          · refine lv_iconst (v := 0) C0.1 C0.2.1 dX8_looks_155 (by decide) ?_
            refine lv_istore_n (lv' := [(1, .int 0), (0, .ref (a 0))]) C0.1 C0.2.1 dX8_looks_156 rfl hl (by decide) rfl (fun ls hl => ?_)
            refine lv_iload_n C0.1 C0.2.1 dX8_looks_157 rfl (lv_at hl 0 rfl) ?_
            refine lv_bipush (v := 8) C0.1 C0.2.1 dX8_looks_158 (by decide) ?_
            refine lv_icmp_ge (tgt := 181) C0.1 C0.2.1 dX8_looks_160 (by decide) (fun q => absurd q (by decide)) (fun _ => ?_)
            refine lv_aload_n C0.1 C0.2.1 dX8_looks_163 rfl (lv_at hl 1 rfl) ?_
            refine sr_get (v := .ref (a 11)) C0 hK hP sr_inX8 sr_wM0 rfl 14 (by decide) sw_624 rfl dX8_looks_164 ?_
            refine lv_iload_n C0.1 C0.2.1 dX8_looks_167 rfl (lv_at hl 0 rfl) ?_
            refine lv_aload_n C0.1 C0.2.1 dX8_looks_168 rfl (lv_at hl 1 rfl) ?_
            refine sr_get (v := .ref (a 12)) C0 hK hP sr_inX8 sr_wM0 rfl 15 (by decide) sw_625 rfl dX8_looks_169 ?_
            refine lv_iload_n C0.1 C0.2.1 dX8_looks_172 rfl (lv_at hl 0 rfl) ?_
            refine sr_ald (k := 0) C0 hK rfl hP sr_wM12 (by decide) (sr_inc (by decide)) dX8_looks_173 ?_
            refine sr_chi q0 ?_
            refine sr_ast (k := 0) C0 hK rfl hP (sr_DM ha _ _ _) hS sr_wM11 (by decide) (sr_inc (by decide)) sr_sM11 dX8_looks_174 (fun H locs hP hS => ?_)
            refine lv_iinc (v := 1) (lv' := [(1, .int 1), (0, .ref (a 0))]) C0.1 C0.2.1 dX8_looks_175 hl (k := 0) rfl (by decide) (by decide) rfl (fun ls hl => ?_)
            refine lv_goto (tgt := 157) C0.1 C0.2.1 dX8_looks_178 (by decide) ?_
            refine lv_iload_n C0.1 C0.2.1 dX8_looks_157 rfl (lv_at hl 0 rfl) ?_
            refine lv_bipush (v := 8) C0.1 C0.2.1 dX8_looks_158 (by decide) ?_
            refine lv_icmp_ge (tgt := 181) C0.1 C0.2.1 dX8_looks_160 (by decide) (fun q => absurd q (by decide)) (fun _ => ?_)
            refine lv_aload_n C0.1 C0.2.1 dX8_looks_163 rfl (lv_at hl 1 rfl) ?_
            refine sr_get (v := .ref (a 11)) C0 hK hP sr_inX8 sr_wM0 rfl 14 (by decide) sw_624 rfl dX8_looks_164 ?_
            refine lv_iload_n C0.1 C0.2.1 dX8_looks_167 rfl (lv_at hl 0 rfl) ?_
            refine lv_aload_n C0.1 C0.2.1 dX8_looks_168 rfl (lv_at hl 1 rfl) ?_
            refine sr_get (v := .ref (a 12)) C0 hK hP sr_inX8 sr_wM0 rfl 15 (by decide) sw_625 rfl dX8_looks_169 ?_
            refine lv_iload_n C0.1 C0.2.1 dX8_looks_172 rfl (lv_at hl 0 rfl) ?_
            refine sr_ald (k := 1) C0 hK rfl hP sr_wM12 (by decide) (sr_inc (by decide)) dX8_looks_173 ?_
            refine sr_chi (show ((va_up sgz 3 (upd (sgz 3) 0 tv)) 4 1 : Int32) = (sgz 4 1) from rfl) ?_
            refine sr_chi q1 ?_
            refine sr_ast (k := 1) C0 hK rfl hP (sr_DM ha _ _ _) hS sr_wM11 (by decide) (sr_inc (by decide)) sr_sM11 dX8_looks_174 (fun H locs hP hS => ?_)
            have hP : va_P D vwCl (sr_WM cI a kp cx (va_up sgz 3 (upd (upd (sgz 3) 0 tv) 1 (nI a_)))) H := hP
            refine lv_iinc (v := 2) (lv' := [(1, .int 2), (0, .ref (a 0))]) C0.1 C0.2.1 dX8_looks_175 hl (k := 0) rfl (by decide) (by decide) rfl (fun ls hl => ?_)
            refine lv_goto (tgt := 157) C0.1 C0.2.1 dX8_looks_178 (by decide) ?_
            refine lv_iload_n C0.1 C0.2.1 dX8_looks_157 rfl (lv_at hl 0 rfl) ?_
            refine lv_bipush (v := 8) C0.1 C0.2.1 dX8_looks_158 (by decide) ?_
            refine lv_icmp_ge (tgt := 181) C0.1 C0.2.1 dX8_looks_160 (by decide) (fun q => absurd q (by decide)) (fun _ => ?_)
            refine lv_aload_n C0.1 C0.2.1 dX8_looks_163 rfl (lv_at hl 1 rfl) ?_
            refine sr_get (v := .ref (a 11)) C0 hK hP sr_inX8 sr_wM0 rfl 14 (by decide) sw_624 rfl dX8_looks_164 ?_
            refine lv_iload_n C0.1 C0.2.1 dX8_looks_167 rfl (lv_at hl 0 rfl) ?_
            refine lv_aload_n C0.1 C0.2.1 dX8_looks_168 rfl (lv_at hl 1 rfl) ?_
            refine sr_get (v := .ref (a 12)) C0 hK hP sr_inX8 sr_wM0 rfl 15 (by decide) sw_625 rfl dX8_looks_169 ?_
            refine lv_iload_n C0.1 C0.2.1 dX8_looks_172 rfl (lv_at hl 0 rfl) ?_
            refine sr_ald (k := 2) C0 hK rfl hP sr_wM12 (by decide) (sr_inc (by decide)) dX8_looks_173 ?_
            refine sr_chi (show ((va_up sgz 3 (upd (upd (sgz 3) 0 tv) 1 (nI a_))) 4 2 : Int32) = (sgz 4 2) from rfl) ?_
            refine sr_chi q2 ?_
            refine sr_ast (k := 2) C0 hK rfl hP (sr_DM ha _ _ _) hS sr_wM11 (by decide) (sr_inc (by decide)) sr_sM11 dX8_looks_174 (fun H locs hP hS => ?_)
            have hP : va_P D vwCl (sr_WM cI a kp cx (va_up sgz 3 (upd (upd (upd (sgz 3) 0 tv) 1 (nI a_)) 2 (nI b_)))) H := hP
            refine lv_iinc (v := 3) (lv' := [(1, .int 3), (0, .ref (a 0))]) C0.1 C0.2.1 dX8_looks_175 hl (k := 0) rfl (by decide) (by decide) rfl (fun ls hl => ?_)
            refine lv_goto (tgt := 157) C0.1 C0.2.1 dX8_looks_178 (by decide) ?_
            refine lv_iload_n C0.1 C0.2.1 dX8_looks_157 rfl (lv_at hl 0 rfl) ?_
            refine lv_bipush (v := 8) C0.1 C0.2.1 dX8_looks_158 (by decide) ?_
            refine lv_icmp_ge (tgt := 181) C0.1 C0.2.1 dX8_looks_160 (by decide) (fun q => absurd q (by decide)) (fun _ => ?_)
            refine lv_aload_n C0.1 C0.2.1 dX8_looks_163 rfl (lv_at hl 1 rfl) ?_
            refine sr_get (v := .ref (a 11)) C0 hK hP sr_inX8 sr_wM0 rfl 14 (by decide) sw_624 rfl dX8_looks_164 ?_
            refine lv_iload_n C0.1 C0.2.1 dX8_looks_167 rfl (lv_at hl 0 rfl) ?_
            refine lv_aload_n C0.1 C0.2.1 dX8_looks_168 rfl (lv_at hl 1 rfl) ?_
            refine sr_get (v := .ref (a 12)) C0 hK hP sr_inX8 sr_wM0 rfl 15 (by decide) sw_625 rfl dX8_looks_169 ?_
            refine lv_iload_n C0.1 C0.2.1 dX8_looks_172 rfl (lv_at hl 0 rfl) ?_
            refine sr_ald (k := 3) C0 hK rfl hP sr_wM12 (by decide) (sr_inc (by decide)) dX8_looks_173 ?_
            refine sr_chi (show ((va_up sgz 3 (upd (upd (upd (sgz 3) 0 tv) 1 (nI a_)) 2 (nI b_))) 4 3 : Int32) = (sgz 4 3) from rfl) ?_
            refine sr_chi q3 ?_
            refine sr_ast (k := 3) C0 hK rfl hP (sr_DM ha _ _ _) hS sr_wM11 (by decide) (sr_inc (by decide)) sr_sM11 dX8_looks_174 (fun H locs hP hS => ?_)
            have hP : va_P D vwCl (sr_WM cI a kp cx (va_up sgz 3 (upd (upd (upd (upd (sgz 3) 0 tv) 1 (nI a_)) 2 (nI b_)) 3 (nI c_)))) H := hP
            refine lv_iinc (v := 4) (lv' := [(1, .int 4), (0, .ref (a 0))]) C0.1 C0.2.1 dX8_looks_175 hl (k := 0) rfl (by decide) (by decide) rfl (fun ls hl => ?_)
            refine lv_goto (tgt := 157) C0.1 C0.2.1 dX8_looks_178 (by decide) ?_
            refine lv_iload_n C0.1 C0.2.1 dX8_looks_157 rfl (lv_at hl 0 rfl) ?_
            refine lv_bipush (v := 8) C0.1 C0.2.1 dX8_looks_158 (by decide) ?_
            refine lv_icmp_ge (tgt := 181) C0.1 C0.2.1 dX8_looks_160 (by decide) (fun q => absurd q (by decide)) (fun _ => ?_)
            refine lv_aload_n C0.1 C0.2.1 dX8_looks_163 rfl (lv_at hl 1 rfl) ?_
            refine sr_get (v := .ref (a 11)) C0 hK hP sr_inX8 sr_wM0 rfl 14 (by decide) sw_624 rfl dX8_looks_164 ?_
            refine lv_iload_n C0.1 C0.2.1 dX8_looks_167 rfl (lv_at hl 0 rfl) ?_
            refine lv_aload_n C0.1 C0.2.1 dX8_looks_168 rfl (lv_at hl 1 rfl) ?_
            refine sr_get (v := .ref (a 12)) C0 hK hP sr_inX8 sr_wM0 rfl 15 (by decide) sw_625 rfl dX8_looks_169 ?_
            refine lv_iload_n C0.1 C0.2.1 dX8_looks_172 rfl (lv_at hl 0 rfl) ?_
            refine sr_ald (k := 4) C0 hK rfl hP sr_wM12 (by decide) (sr_inc (by decide)) dX8_looks_173 ?_
            refine sr_chi (show ((va_up sgz 3 (upd (upd (upd (upd (sgz 3) 0 tv) 1 (nI a_)) 2 (nI b_)) 3 (nI c_))) 4 4 : Int32) = (sgz 4 4) from rfl) ?_
            refine sr_chi q4 ?_
            refine sr_ast (k := 4) C0 hK rfl hP (sr_DM ha _ _ _) hS sr_wM11 (by decide) (sr_inc (by decide)) sr_sM11 dX8_looks_174 (fun H locs hP hS => ?_)
            have hP : va_P D vwCl (sr_WM cI a kp cx (va_up sgz 3 (upd (upd (upd (upd (upd (sgz 3) 0 tv) 1 (nI a_)) 2 (nI b_)) 3 (nI c_)) 4 (nI d_)))) H := hP
            refine lv_iinc (v := 5) (lv' := [(1, .int 5), (0, .ref (a 0))]) C0.1 C0.2.1 dX8_looks_175 hl (k := 0) rfl (by decide) (by decide) rfl (fun ls hl => ?_)
            refine lv_goto (tgt := 157) C0.1 C0.2.1 dX8_looks_178 (by decide) ?_
            refine lv_iload_n C0.1 C0.2.1 dX8_looks_157 rfl (lv_at hl 0 rfl) ?_
            refine lv_bipush (v := 8) C0.1 C0.2.1 dX8_looks_158 (by decide) ?_
            refine lv_icmp_ge (tgt := 181) C0.1 C0.2.1 dX8_looks_160 (by decide) (fun q => absurd q (by decide)) (fun _ => ?_)
            refine lv_aload_n C0.1 C0.2.1 dX8_looks_163 rfl (lv_at hl 1 rfl) ?_
            refine sr_get (v := .ref (a 11)) C0 hK hP sr_inX8 sr_wM0 rfl 14 (by decide) sw_624 rfl dX8_looks_164 ?_
            refine lv_iload_n C0.1 C0.2.1 dX8_looks_167 rfl (lv_at hl 0 rfl) ?_
            refine lv_aload_n C0.1 C0.2.1 dX8_looks_168 rfl (lv_at hl 1 rfl) ?_
            refine sr_get (v := .ref (a 12)) C0 hK hP sr_inX8 sr_wM0 rfl 15 (by decide) sw_625 rfl dX8_looks_169 ?_
            refine lv_iload_n C0.1 C0.2.1 dX8_looks_172 rfl (lv_at hl 0 rfl) ?_
            refine sr_ald (k := 5) C0 hK rfl hP sr_wM12 (by decide) (sr_inc (by decide)) dX8_looks_173 ?_
            refine sr_chi (show ((va_up sgz 3 (upd (upd (upd (upd (upd (sgz 3) 0 tv) 1 (nI a_)) 2 (nI b_)) 3 (nI c_)) 4 (nI d_))) 4 5 : Int32) = (sgz 4 5) from rfl) ?_
            refine sr_chi q5 ?_
            refine sr_ast (k := 5) C0 hK rfl hP (sr_DM ha _ _ _) hS sr_wM11 (by decide) (sr_inc (by decide)) sr_sM11 dX8_looks_174 (fun H locs hP hS => ?_)
            have hP : va_P D vwCl (sr_WM cI a kp cx (va_up sgz 3 (upd (upd (upd (upd (upd (upd (sgz 3) 0 tv) 1 (nI a_)) 2 (nI b_)) 3 (nI c_)) 4 (nI d_)) 5 (nI (sr_best kp a_ b_ 0 0))))) H := hP
            refine lv_iinc (v := 6) (lv' := [(1, .int 6), (0, .ref (a 0))]) C0.1 C0.2.1 dX8_looks_175 hl (k := 0) rfl (by decide) (by decide) rfl (fun ls hl => ?_)
            refine lv_goto (tgt := 157) C0.1 C0.2.1 dX8_looks_178 (by decide) ?_
            refine lv_iload_n C0.1 C0.2.1 dX8_looks_157 rfl (lv_at hl 0 rfl) ?_
            refine lv_bipush (v := 8) C0.1 C0.2.1 dX8_looks_158 (by decide) ?_
            refine lv_icmp_ge (tgt := 181) C0.1 C0.2.1 dX8_looks_160 (by decide) (fun q => absurd q (by decide)) (fun _ => ?_)
            refine lv_aload_n C0.1 C0.2.1 dX8_looks_163 rfl (lv_at hl 1 rfl) ?_
            refine sr_get (v := .ref (a 11)) C0 hK hP sr_inX8 sr_wM0 rfl 14 (by decide) sw_624 rfl dX8_looks_164 ?_
            refine lv_iload_n C0.1 C0.2.1 dX8_looks_167 rfl (lv_at hl 0 rfl) ?_
            refine lv_aload_n C0.1 C0.2.1 dX8_looks_168 rfl (lv_at hl 1 rfl) ?_
            refine sr_get (v := .ref (a 12)) C0 hK hP sr_inX8 sr_wM0 rfl 15 (by decide) sw_625 rfl dX8_looks_169 ?_
            refine lv_iload_n C0.1 C0.2.1 dX8_looks_172 rfl (lv_at hl 0 rfl) ?_
            refine sr_ald (k := 6) C0 hK rfl hP sr_wM12 (by decide) (sr_inc (by decide)) dX8_looks_173 ?_
            refine sr_chi (show ((va_up sgz 3 (upd (upd (upd (upd (upd (upd (sgz 3) 0 tv) 1 (nI a_)) 2 (nI b_)) 3 (nI c_)) 4 (nI d_)) 5 (nI (sr_best kp a_ b_ 0 0)))) 4 6 : Int32) = (sgz 4 6) from rfl) ?_
            refine sr_chi q6 ?_
            refine sr_ast (k := 6) C0 hK rfl hP (sr_DM ha _ _ _) hS sr_wM11 (by decide) (sr_inc (by decide)) sr_sM11 dX8_looks_174 (fun H locs hP hS => ?_)
            have hP : va_P D vwCl (sr_WM cI a kp cx (va_up sgz 3 (upd (upd (upd (upd (upd (upd (upd (sgz 3) 0 tv) 1 (nI a_)) 2 (nI b_)) 3 (nI c_)) 4 (nI d_)) 5 (nI (sr_best kp a_ b_ 0 0))) 6 (nI (sr_best kp b_ c_ 1 0))))) H := hP
            refine lv_iinc (v := 7) (lv' := [(1, .int 7), (0, .ref (a 0))]) C0.1 C0.2.1 dX8_looks_175 hl (k := 0) rfl (by decide) (by decide) rfl (fun ls hl => ?_)
            refine lv_goto (tgt := 157) C0.1 C0.2.1 dX8_looks_178 (by decide) ?_
            refine lv_iload_n C0.1 C0.2.1 dX8_looks_157 rfl (lv_at hl 0 rfl) ?_
            refine lv_bipush (v := 8) C0.1 C0.2.1 dX8_looks_158 (by decide) ?_
            refine lv_icmp_ge (tgt := 181) C0.1 C0.2.1 dX8_looks_160 (by decide) (fun q => absurd q (by decide)) (fun _ => ?_)
            refine lv_aload_n C0.1 C0.2.1 dX8_looks_163 rfl (lv_at hl 1 rfl) ?_
            refine sr_get (v := .ref (a 11)) C0 hK hP sr_inX8 sr_wM0 rfl 14 (by decide) sw_624 rfl dX8_looks_164 ?_
            refine lv_iload_n C0.1 C0.2.1 dX8_looks_167 rfl (lv_at hl 0 rfl) ?_
            refine lv_aload_n C0.1 C0.2.1 dX8_looks_168 rfl (lv_at hl 1 rfl) ?_
            refine sr_get (v := .ref (a 12)) C0 hK hP sr_inX8 sr_wM0 rfl 15 (by decide) sw_625 rfl dX8_looks_169 ?_
            refine lv_iload_n C0.1 C0.2.1 dX8_looks_172 rfl (lv_at hl 0 rfl) ?_
            refine sr_ald (k := 7) C0 hK rfl hP sr_wM12 (by decide) (sr_inc (by decide)) dX8_looks_173 ?_
            refine sr_chi (show ((va_up sgz 3 (upd (upd (upd (upd (upd (upd (upd (sgz 3) 0 tv) 1 (nI a_)) 2 (nI b_)) 3 (nI c_)) 4 (nI d_)) 5 (nI (sr_best kp a_ b_ 0 0))) 6 (nI (sr_best kp b_ c_ 1 0)))) 4 7 : Int32) = (sgz 4 7) from rfl) ?_
            refine sr_chi q7 ?_
            refine sr_ast (k := 7) C0 hK rfl hP (sr_DM ha _ _ _) hS sr_wM11 (by decide) (sr_inc (by decide)) sr_sM11 dX8_looks_174 (fun H locs hP hS => ?_)
            have hP : va_P D vwCl (sr_WM cI a kp cx (va_up sgz 3 (upd (upd (upd (upd (upd (upd (upd (upd (sgz 3) 0 tv) 1 (nI a_)) 2 (nI b_)) 3 (nI c_)) 4 (nI d_)) 5 (nI (sr_best kp a_ b_ 0 0))) 6 (nI (sr_best kp b_ c_ 1 0))) 7 (nI (sr_best kp c_ d_ 2 0))))) H := hP
            refine lv_iinc (v := 8) (lv' := [(1, .int 8), (0, .ref (a 0))]) C0.1 C0.2.1 dX8_looks_175 hl (k := 0) rfl (by decide) (by decide) rfl (fun ls hl => ?_)
            refine lv_goto (tgt := 157) C0.1 C0.2.1 dX8_looks_178 (by decide) ?_
            refine lv_iload_n C0.1 C0.2.1 dX8_looks_157 rfl (lv_at hl 0 rfl) ?_
            refine lv_bipush (v := 8) C0.1 C0.2.1 dX8_looks_158 (by decide) ?_
            refine lv_icmp_ge (tgt := 181) C0.1 C0.2.1 dX8_looks_160 (by decide) (fun _ => ?_) (fun q => absurd q (by decide))
            subst htv
            exact hret _ _ _ (va_up sgz 3 (upd (upd (upd (upd (upd (upd (upd (upd (sgz 3) 0 (sr_tm kp a_ b_ c_ d_)) 1 (nI a_)) 2 (nI b_)) 3 (nI c_)) 4 (nI d_)) 5 (nI (sr_best kp a_ b_ 0 0))) 6 (nI (sr_best kp b_ c_ 1 0))) 7 (nI (sr_best kp c_ d_ 2 0)))) _ _ dX8_looks_181 hP hS rfl ⟨sr_RDu (by decide) (by decide) hRD, by rw [if_pos c4, ← h_3]; unfold sr_cons; rw [if_pos c137]; exact sr_upS _ 3 _⟩
          · refine lv_aload_n C0.1 C0.2.1 dX8_looks_140 rfl (lv_at hl 1 rfl) ?_
            refine sr_get (v := .ref (a 12)) C0 hK hP sr_inX8 sr_wM0 rfl 15 (by decide) sw_625 rfl dX8_looks_141 ?_
            refine lv_iconst (v := 0) C0.1 C0.2.1 dX8_looks_144 (by decide) ?_
            refine sr_ald (k := 0) C0 hK rfl hP sr_wM12 (by decide) (sr_inc (by decide)) dX8_looks_145 ?_
            refine sr_chi q0 ?_
            refine lv_aload_n C0.1 C0.2.1 dX8_looks_146 rfl (lv_at hl 1 rfl) ?_
            refine sr_get (v := .ref (a 11)) C0 hK hP sr_inX8 sr_wM0 rfl 14 (by decide) sw_624 rfl dX8_looks_147 ?_
            refine lv_iconst (v := 0) C0.1 C0.2.1 dX8_looks_150 (by decide) ?_
            refine sr_ald (k := 0) C0 hK rfl hP sr_wM11 (by decide) (sr_inc (by decide)) dX8_looks_151 ?_
            refine lv_icmp_ge (tgt := 181) C0.1 C0.2.1 dX8_looks_152 (by decide) (fun c152 => ?_) (fun c152 => ?_)
            · subst htv
              exact hret _ _ _ sgz _ _ dX8_looks_181 hP hS rfl ⟨hRD, by rw [if_pos c4, ← h_3]; unfold sr_cons; rw [if_neg c137, if_neg (Int32.not_lt.mpr c152)]⟩
            · refine lv_iconst (v := 0) C0.1 C0.2.1 dX8_looks_155 (by decide) ?_
              refine lv_istore_n (lv' := [(1, .int 0), (0, .ref (a 0))]) C0.1 C0.2.1 dX8_looks_156 rfl hl (by decide) rfl (fun ls hl => ?_)
              refine lv_iload_n C0.1 C0.2.1 dX8_looks_157 rfl (lv_at hl 0 rfl) ?_
              refine lv_bipush (v := 8) C0.1 C0.2.1 dX8_looks_158 (by decide) ?_
              refine lv_icmp_ge (tgt := 181) C0.1 C0.2.1 dX8_looks_160 (by decide) (fun q => absurd q (by decide)) (fun _ => ?_)
              refine lv_aload_n C0.1 C0.2.1 dX8_looks_163 rfl (lv_at hl 1 rfl) ?_
              refine sr_get (v := .ref (a 11)) C0 hK hP sr_inX8 sr_wM0 rfl 14 (by decide) sw_624 rfl dX8_looks_164 ?_
              refine lv_iload_n C0.1 C0.2.1 dX8_looks_167 rfl (lv_at hl 0 rfl) ?_
              refine lv_aload_n C0.1 C0.2.1 dX8_looks_168 rfl (lv_at hl 1 rfl) ?_
              refine sr_get (v := .ref (a 12)) C0 hK hP sr_inX8 sr_wM0 rfl 15 (by decide) sw_625 rfl dX8_looks_169 ?_
              refine lv_iload_n C0.1 C0.2.1 dX8_looks_172 rfl (lv_at hl 0 rfl) ?_
              refine sr_ald (k := 0) C0 hK rfl hP sr_wM12 (by decide) (sr_inc (by decide)) dX8_looks_173 ?_
              refine sr_chi q0 ?_
              refine sr_ast (k := 0) C0 hK rfl hP (sr_DM ha _ _ _) hS sr_wM11 (by decide) (sr_inc (by decide)) sr_sM11 dX8_looks_174 (fun H locs hP hS => ?_)
              refine lv_iinc (v := 1) (lv' := [(1, .int 1), (0, .ref (a 0))]) C0.1 C0.2.1 dX8_looks_175 hl (k := 0) rfl (by decide) (by decide) rfl (fun ls hl => ?_)
              refine lv_goto (tgt := 157) C0.1 C0.2.1 dX8_looks_178 (by decide) ?_
              refine lv_iload_n C0.1 C0.2.1 dX8_looks_157 rfl (lv_at hl 0 rfl) ?_
              refine lv_bipush (v := 8) C0.1 C0.2.1 dX8_looks_158 (by decide) ?_
              refine lv_icmp_ge (tgt := 181) C0.1 C0.2.1 dX8_looks_160 (by decide) (fun q => absurd q (by decide)) (fun _ => ?_)
              refine lv_aload_n C0.1 C0.2.1 dX8_looks_163 rfl (lv_at hl 1 rfl) ?_
              refine sr_get (v := .ref (a 11)) C0 hK hP sr_inX8 sr_wM0 rfl 14 (by decide) sw_624 rfl dX8_looks_164 ?_
              refine lv_iload_n C0.1 C0.2.1 dX8_looks_167 rfl (lv_at hl 0 rfl) ?_
              refine lv_aload_n C0.1 C0.2.1 dX8_looks_168 rfl (lv_at hl 1 rfl) ?_
              refine sr_get (v := .ref (a 12)) C0 hK hP sr_inX8 sr_wM0 rfl 15 (by decide) sw_625 rfl dX8_looks_169 ?_
              refine lv_iload_n C0.1 C0.2.1 dX8_looks_172 rfl (lv_at hl 0 rfl) ?_
              refine sr_ald (k := 1) C0 hK rfl hP sr_wM12 (by decide) (sr_inc (by decide)) dX8_looks_173 ?_
              refine sr_chi (show ((va_up sgz 3 (upd (sgz 3) 0 tv)) 4 1 : Int32) = (sgz 4 1) from rfl) ?_
              refine sr_chi q1 ?_
              refine sr_ast (k := 1) C0 hK rfl hP (sr_DM ha _ _ _) hS sr_wM11 (by decide) (sr_inc (by decide)) sr_sM11 dX8_looks_174 (fun H locs hP hS => ?_)
              have hP : va_P D vwCl (sr_WM cI a kp cx (va_up sgz 3 (upd (upd (sgz 3) 0 tv) 1 (nI a_)))) H := hP
              refine lv_iinc (v := 2) (lv' := [(1, .int 2), (0, .ref (a 0))]) C0.1 C0.2.1 dX8_looks_175 hl (k := 0) rfl (by decide) (by decide) rfl (fun ls hl => ?_)
              refine lv_goto (tgt := 157) C0.1 C0.2.1 dX8_looks_178 (by decide) ?_
              refine lv_iload_n C0.1 C0.2.1 dX8_looks_157 rfl (lv_at hl 0 rfl) ?_
              refine lv_bipush (v := 8) C0.1 C0.2.1 dX8_looks_158 (by decide) ?_
              refine lv_icmp_ge (tgt := 181) C0.1 C0.2.1 dX8_looks_160 (by decide) (fun q => absurd q (by decide)) (fun _ => ?_)
              refine lv_aload_n C0.1 C0.2.1 dX8_looks_163 rfl (lv_at hl 1 rfl) ?_
              refine sr_get (v := .ref (a 11)) C0 hK hP sr_inX8 sr_wM0 rfl 14 (by decide) sw_624 rfl dX8_looks_164 ?_
              refine lv_iload_n C0.1 C0.2.1 dX8_looks_167 rfl (lv_at hl 0 rfl) ?_
              refine lv_aload_n C0.1 C0.2.1 dX8_looks_168 rfl (lv_at hl 1 rfl) ?_
              refine sr_get (v := .ref (a 12)) C0 hK hP sr_inX8 sr_wM0 rfl 15 (by decide) sw_625 rfl dX8_looks_169 ?_
              refine lv_iload_n C0.1 C0.2.1 dX8_looks_172 rfl (lv_at hl 0 rfl) ?_
              refine sr_ald (k := 2) C0 hK rfl hP sr_wM12 (by decide) (sr_inc (by decide)) dX8_looks_173 ?_
              refine sr_chi (show ((va_up sgz 3 (upd (upd (sgz 3) 0 tv) 1 (nI a_))) 4 2 : Int32) = (sgz 4 2) from rfl) ?_
              refine sr_chi q2 ?_
              refine sr_ast (k := 2) C0 hK rfl hP (sr_DM ha _ _ _) hS sr_wM11 (by decide) (sr_inc (by decide)) sr_sM11 dX8_looks_174 (fun H locs hP hS => ?_)
              have hP : va_P D vwCl (sr_WM cI a kp cx (va_up sgz 3 (upd (upd (upd (sgz 3) 0 tv) 1 (nI a_)) 2 (nI b_)))) H := hP
              refine lv_iinc (v := 3) (lv' := [(1, .int 3), (0, .ref (a 0))]) C0.1 C0.2.1 dX8_looks_175 hl (k := 0) rfl (by decide) (by decide) rfl (fun ls hl => ?_)
              refine lv_goto (tgt := 157) C0.1 C0.2.1 dX8_looks_178 (by decide) ?_
              refine lv_iload_n C0.1 C0.2.1 dX8_looks_157 rfl (lv_at hl 0 rfl) ?_
              refine lv_bipush (v := 8) C0.1 C0.2.1 dX8_looks_158 (by decide) ?_
              refine lv_icmp_ge (tgt := 181) C0.1 C0.2.1 dX8_looks_160 (by decide) (fun q => absurd q (by decide)) (fun _ => ?_)
              refine lv_aload_n C0.1 C0.2.1 dX8_looks_163 rfl (lv_at hl 1 rfl) ?_
              refine sr_get (v := .ref (a 11)) C0 hK hP sr_inX8 sr_wM0 rfl 14 (by decide) sw_624 rfl dX8_looks_164 ?_
              refine lv_iload_n C0.1 C0.2.1 dX8_looks_167 rfl (lv_at hl 0 rfl) ?_
              refine lv_aload_n C0.1 C0.2.1 dX8_looks_168 rfl (lv_at hl 1 rfl) ?_
              refine sr_get (v := .ref (a 12)) C0 hK hP sr_inX8 sr_wM0 rfl 15 (by decide) sw_625 rfl dX8_looks_169 ?_
              refine lv_iload_n C0.1 C0.2.1 dX8_looks_172 rfl (lv_at hl 0 rfl) ?_
              refine sr_ald (k := 3) C0 hK rfl hP sr_wM12 (by decide) (sr_inc (by decide)) dX8_looks_173 ?_
              refine sr_chi (show ((va_up sgz 3 (upd (upd (upd (sgz 3) 0 tv) 1 (nI a_)) 2 (nI b_))) 4 3 : Int32) = (sgz 4 3) from rfl) ?_
              refine sr_chi q3 ?_
              refine sr_ast (k := 3) C0 hK rfl hP (sr_DM ha _ _ _) hS sr_wM11 (by decide) (sr_inc (by decide)) sr_sM11 dX8_looks_174 (fun H locs hP hS => ?_)
              have hP : va_P D vwCl (sr_WM cI a kp cx (va_up sgz 3 (upd (upd (upd (upd (sgz 3) 0 tv) 1 (nI a_)) 2 (nI b_)) 3 (nI c_)))) H := hP
              refine lv_iinc (v := 4) (lv' := [(1, .int 4), (0, .ref (a 0))]) C0.1 C0.2.1 dX8_looks_175 hl (k := 0) rfl (by decide) (by decide) rfl (fun ls hl => ?_)
              refine lv_goto (tgt := 157) C0.1 C0.2.1 dX8_looks_178 (by decide) ?_
              refine lv_iload_n C0.1 C0.2.1 dX8_looks_157 rfl (lv_at hl 0 rfl) ?_
              refine lv_bipush (v := 8) C0.1 C0.2.1 dX8_looks_158 (by decide) ?_
              refine lv_icmp_ge (tgt := 181) C0.1 C0.2.1 dX8_looks_160 (by decide) (fun q => absurd q (by decide)) (fun _ => ?_)
              refine lv_aload_n C0.1 C0.2.1 dX8_looks_163 rfl (lv_at hl 1 rfl) ?_
              refine sr_get (v := .ref (a 11)) C0 hK hP sr_inX8 sr_wM0 rfl 14 (by decide) sw_624 rfl dX8_looks_164 ?_
              refine lv_iload_n C0.1 C0.2.1 dX8_looks_167 rfl (lv_at hl 0 rfl) ?_
              refine lv_aload_n C0.1 C0.2.1 dX8_looks_168 rfl (lv_at hl 1 rfl) ?_
              refine sr_get (v := .ref (a 12)) C0 hK hP sr_inX8 sr_wM0 rfl 15 (by decide) sw_625 rfl dX8_looks_169 ?_
              refine lv_iload_n C0.1 C0.2.1 dX8_looks_172 rfl (lv_at hl 0 rfl) ?_
              refine sr_ald (k := 4) C0 hK rfl hP sr_wM12 (by decide) (sr_inc (by decide)) dX8_looks_173 ?_
              refine sr_chi (show ((va_up sgz 3 (upd (upd (upd (upd (sgz 3) 0 tv) 1 (nI a_)) 2 (nI b_)) 3 (nI c_))) 4 4 : Int32) = (sgz 4 4) from rfl) ?_
              refine sr_chi q4 ?_
              refine sr_ast (k := 4) C0 hK rfl hP (sr_DM ha _ _ _) hS sr_wM11 (by decide) (sr_inc (by decide)) sr_sM11 dX8_looks_174 (fun H locs hP hS => ?_)
              have hP : va_P D vwCl (sr_WM cI a kp cx (va_up sgz 3 (upd (upd (upd (upd (upd (sgz 3) 0 tv) 1 (nI a_)) 2 (nI b_)) 3 (nI c_)) 4 (nI d_)))) H := hP
              refine lv_iinc (v := 5) (lv' := [(1, .int 5), (0, .ref (a 0))]) C0.1 C0.2.1 dX8_looks_175 hl (k := 0) rfl (by decide) (by decide) rfl (fun ls hl => ?_)
              refine lv_goto (tgt := 157) C0.1 C0.2.1 dX8_looks_178 (by decide) ?_
              refine lv_iload_n C0.1 C0.2.1 dX8_looks_157 rfl (lv_at hl 0 rfl) ?_
              refine lv_bipush (v := 8) C0.1 C0.2.1 dX8_looks_158 (by decide) ?_
              refine lv_icmp_ge (tgt := 181) C0.1 C0.2.1 dX8_looks_160 (by decide) (fun q => absurd q (by decide)) (fun _ => ?_)
              refine lv_aload_n C0.1 C0.2.1 dX8_looks_163 rfl (lv_at hl 1 rfl) ?_
              refine sr_get (v := .ref (a 11)) C0 hK hP sr_inX8 sr_wM0 rfl 14 (by decide) sw_624 rfl dX8_looks_164 ?_
              refine lv_iload_n C0.1 C0.2.1 dX8_looks_167 rfl (lv_at hl 0 rfl) ?_
              refine lv_aload_n C0.1 C0.2.1 dX8_looks_168 rfl (lv_at hl 1 rfl) ?_
              refine sr_get (v := .ref (a 12)) C0 hK hP sr_inX8 sr_wM0 rfl 15 (by decide) sw_625 rfl dX8_looks_169 ?_
              refine lv_iload_n C0.1 C0.2.1 dX8_looks_172 rfl (lv_at hl 0 rfl) ?_
              refine sr_ald (k := 5) C0 hK rfl hP sr_wM12 (by decide) (sr_inc (by decide)) dX8_looks_173 ?_
              refine sr_chi (show ((va_up sgz 3 (upd (upd (upd (upd (upd (sgz 3) 0 tv) 1 (nI a_)) 2 (nI b_)) 3 (nI c_)) 4 (nI d_))) 4 5 : Int32) = (sgz 4 5) from rfl) ?_
              refine sr_chi q5 ?_
              refine sr_ast (k := 5) C0 hK rfl hP (sr_DM ha _ _ _) hS sr_wM11 (by decide) (sr_inc (by decide)) sr_sM11 dX8_looks_174 (fun H locs hP hS => ?_)
              have hP : va_P D vwCl (sr_WM cI a kp cx (va_up sgz 3 (upd (upd (upd (upd (upd (upd (sgz 3) 0 tv) 1 (nI a_)) 2 (nI b_)) 3 (nI c_)) 4 (nI d_)) 5 (nI (sr_best kp a_ b_ 0 0))))) H := hP
              refine lv_iinc (v := 6) (lv' := [(1, .int 6), (0, .ref (a 0))]) C0.1 C0.2.1 dX8_looks_175 hl (k := 0) rfl (by decide) (by decide) rfl (fun ls hl => ?_)
              refine lv_goto (tgt := 157) C0.1 C0.2.1 dX8_looks_178 (by decide) ?_
              refine lv_iload_n C0.1 C0.2.1 dX8_looks_157 rfl (lv_at hl 0 rfl) ?_
              refine lv_bipush (v := 8) C0.1 C0.2.1 dX8_looks_158 (by decide) ?_
              refine lv_icmp_ge (tgt := 181) C0.1 C0.2.1 dX8_looks_160 (by decide) (fun q => absurd q (by decide)) (fun _ => ?_)
              refine lv_aload_n C0.1 C0.2.1 dX8_looks_163 rfl (lv_at hl 1 rfl) ?_
              refine sr_get (v := .ref (a 11)) C0 hK hP sr_inX8 sr_wM0 rfl 14 (by decide) sw_624 rfl dX8_looks_164 ?_
              refine lv_iload_n C0.1 C0.2.1 dX8_looks_167 rfl (lv_at hl 0 rfl) ?_
              refine lv_aload_n C0.1 C0.2.1 dX8_looks_168 rfl (lv_at hl 1 rfl) ?_
              refine sr_get (v := .ref (a 12)) C0 hK hP sr_inX8 sr_wM0 rfl 15 (by decide) sw_625 rfl dX8_looks_169 ?_
              refine lv_iload_n C0.1 C0.2.1 dX8_looks_172 rfl (lv_at hl 0 rfl) ?_
              refine sr_ald (k := 6) C0 hK rfl hP sr_wM12 (by decide) (sr_inc (by decide)) dX8_looks_173 ?_
              refine sr_chi (show ((va_up sgz 3 (upd (upd (upd (upd (upd (upd (sgz 3) 0 tv) 1 (nI a_)) 2 (nI b_)) 3 (nI c_)) 4 (nI d_)) 5 (nI (sr_best kp a_ b_ 0 0)))) 4 6 : Int32) = (sgz 4 6) from rfl) ?_
              refine sr_chi q6 ?_
              refine sr_ast (k := 6) C0 hK rfl hP (sr_DM ha _ _ _) hS sr_wM11 (by decide) (sr_inc (by decide)) sr_sM11 dX8_looks_174 (fun H locs hP hS => ?_)
              have hP : va_P D vwCl (sr_WM cI a kp cx (va_up sgz 3 (upd (upd (upd (upd (upd (upd (upd (sgz 3) 0 tv) 1 (nI a_)) 2 (nI b_)) 3 (nI c_)) 4 (nI d_)) 5 (nI (sr_best kp a_ b_ 0 0))) 6 (nI (sr_best kp b_ c_ 1 0))))) H := hP
              refine lv_iinc (v := 7) (lv' := [(1, .int 7), (0, .ref (a 0))]) C0.1 C0.2.1 dX8_looks_175 hl (k := 0) rfl (by decide) (by decide) rfl (fun ls hl => ?_)
              refine lv_goto (tgt := 157) C0.1 C0.2.1 dX8_looks_178 (by decide) ?_
              refine lv_iload_n C0.1 C0.2.1 dX8_looks_157 rfl (lv_at hl 0 rfl) ?_
              refine lv_bipush (v := 8) C0.1 C0.2.1 dX8_looks_158 (by decide) ?_
              refine lv_icmp_ge (tgt := 181) C0.1 C0.2.1 dX8_looks_160 (by decide) (fun q => absurd q (by decide)) (fun _ => ?_)
              refine lv_aload_n C0.1 C0.2.1 dX8_looks_163 rfl (lv_at hl 1 rfl) ?_
              refine sr_get (v := .ref (a 11)) C0 hK hP sr_inX8 sr_wM0 rfl 14 (by decide) sw_624 rfl dX8_looks_164 ?_
              refine lv_iload_n C0.1 C0.2.1 dX8_looks_167 rfl (lv_at hl 0 rfl) ?_
              refine lv_aload_n C0.1 C0.2.1 dX8_looks_168 rfl (lv_at hl 1 rfl) ?_
              refine sr_get (v := .ref (a 12)) C0 hK hP sr_inX8 sr_wM0 rfl 15 (by decide) sw_625 rfl dX8_looks_169 ?_
              refine lv_iload_n C0.1 C0.2.1 dX8_looks_172 rfl (lv_at hl 0 rfl) ?_
              refine sr_ald (k := 7) C0 hK rfl hP sr_wM12 (by decide) (sr_inc (by decide)) dX8_looks_173 ?_
              refine sr_chi (show ((va_up sgz 3 (upd (upd (upd (upd (upd (upd (upd (sgz 3) 0 tv) 1 (nI a_)) 2 (nI b_)) 3 (nI c_)) 4 (nI d_)) 5 (nI (sr_best kp a_ b_ 0 0))) 6 (nI (sr_best kp b_ c_ 1 0)))) 4 7 : Int32) = (sgz 4 7) from rfl) ?_
              refine sr_chi q7 ?_
              refine sr_ast (k := 7) C0 hK rfl hP (sr_DM ha _ _ _) hS sr_wM11 (by decide) (sr_inc (by decide)) sr_sM11 dX8_looks_174 (fun H locs hP hS => ?_)
              have hP : va_P D vwCl (sr_WM cI a kp cx (va_up sgz 3 (upd (upd (upd (upd (upd (upd (upd (upd (sgz 3) 0 tv) 1 (nI a_)) 2 (nI b_)) 3 (nI c_)) 4 (nI d_)) 5 (nI (sr_best kp a_ b_ 0 0))) 6 (nI (sr_best kp b_ c_ 1 0))) 7 (nI (sr_best kp c_ d_ 2 0))))) H := hP
              refine lv_iinc (v := 8) (lv' := [(1, .int 8), (0, .ref (a 0))]) C0.1 C0.2.1 dX8_looks_175 hl (k := 0) rfl (by decide) (by decide) rfl (fun ls hl => ?_)
              refine lv_goto (tgt := 157) C0.1 C0.2.1 dX8_looks_178 (by decide) ?_
              refine lv_iload_n C0.1 C0.2.1 dX8_looks_157 rfl (lv_at hl 0 rfl) ?_
              refine lv_bipush (v := 8) C0.1 C0.2.1 dX8_looks_158 (by decide) ?_
              refine lv_icmp_ge (tgt := 181) C0.1 C0.2.1 dX8_looks_160 (by decide) (fun _ => ?_) (fun q => absurd q (by decide))
              subst htv
              exact hret _ _ _ (va_up sgz 3 (upd (upd (upd (upd (upd (upd (upd (upd (sgz 3) 0 (sr_tm kp a_ b_ c_ d_)) 1 (nI a_)) 2 (nI b_)) 3 (nI c_)) 4 (nI d_)) 5 (nI (sr_best kp a_ b_ 0 0))) 6 (nI (sr_best kp b_ c_ 1 0))) 7 (nI (sr_best kp c_ d_ 2 0)))) _ _ dX8_looks_181 hP hS rfl ⟨sr_RDu (by decide) (by decide) hRD, by rw [if_pos c4, ← h_3]; unfold sr_cons; rw [if_neg c137, if_pos (Int32.not_le.mp c152)]; exact sr_upS _ 3 _⟩
        · have g31 : ¬ (3 ≤ cc) := fun q => c31 ((nI_leI (a := 3) (b := cc) (by omega) (by omega)).mpr q)
          have hg0 : sr_dg a_ b_ c_ d_ cc < sr_cnt kp := sr_dgc hr_a_ hr_b_ hr_c_ hr_d_ _
          have hg1 : sr_dg a_ b_ c_ d_ (cc + 1) < sr_cnt kp := sr_dgc hr_a_ hr_b_ hr_c_ hr_d_ _
          refine lv_aload_n C0.1 C0.2.1 dX8_looks_34 rfl (lv_at hl 1 rfl) ?_
          refine lv_aload_n C0.1 C0.2.1 dX8_looks_35 rfl (lv_at hl 1 rfl) ?_
          refine sr_get (v := .ref (a 12)) C0 hK hP sr_inX8 sr_wM0 rfl 15 (by decide) sw_625 rfl dX8_looks_36 ?_
          refine lv_iconst (v := 1) C0.1 C0.2.1 dX8_looks_39 (by decide) ?_
          refine lv_iload_n C0.1 C0.2.1 dX8_looks_40 rfl (lv_at hl 0 rfl) ?_
          refine lv_iadd C0.1 C0.2.1 dX8_looks_41 ?_
          refine sr_chi (nI_add 1 cc) ?_
          refine sr_ald (k := 1 + cc) C0 hK rfl hP sr_wM12 (nI_clamp (by omega)) (vp_in_nI (by omega) (by omega)) dX8_looks_42 ?_
          refine sr_chi (h_d cc (by omega)) ?_
          refine lv_aload_n C0.1 C0.2.1 dX8_looks_43 rfl (lv_at hl 1 rfl) ?_
          refine sr_get (v := .ref (a 12)) C0 hK hP sr_inX8 sr_wM0 rfl 15 (by decide) sw_625 rfl dX8_looks_44 ?_
          refine lv_iconst (v := 2) C0.1 C0.2.1 dX8_looks_47 (by decide) ?_
          refine lv_iload_n C0.1 C0.2.1 dX8_looks_48 rfl (lv_at hl 0 rfl) ?_
          refine lv_iadd C0.1 C0.2.1 dX8_looks_49 ?_
          refine sr_chi (nI_add 2 cc) ?_
          refine sr_ald (k := 2 + cc) C0 hK rfl hP sr_wM12 (nI_clamp (by omega)) (vp_in_nI (by omega) (by omega)) dX8_looks_50 ?_
          refine sr_chi (sr_hd1 h_d cc (by omega)) ?_
          refine lv_iload_n C0.1 C0.2.1 dX8_looks_51 rfl (lv_at hl 0 rfl) ?_
          refine lv_iconst (v := 0) C0.1 C0.2.1 dX8_looks_52 (by decide) ?_
          refine sr_pVi (As := [.int (nI (sr_dg a_ b_ c_ d_ cc)), .int (nI (sr_dg a_ b_ c_ d_ (cc + 1))), .int (nI cc), .int 0]) C0 hK hP hZ (sr_Zs hZ hZ0 hS) (cc_X8_bestBy ha (sr_dg a_ b_ c_ d_ cc) (sr_dg a_ b_ c_ d_ (cc + 1)) cc (0) hK_ hRD (by first | assumption | omega | exact sr_th_at hT (by omega)) (by first | assumption | omega | exact sr_th_at hT (by omega)) (by omega) (by first | assumption | exact sr_IK_sl hK_ (by omega) | exact sr_bs0)) sk_X8_bestBy sv_X8_bestBy sw_899 (ci := 8) rfl sr_wM0 rfl rfl hl.1 (Nat.le_of_ble_eq_true rfl) (Nat.le_of_ble_eq_true rfl) (Nat.le_of_ble_eq_true rfl) dX8_looks_53 ⟨Nat.zero_le _, Nat.zero_le _⟩ ?_
          refine lv_istore_n (lv' := [(2, .int (nI (sr_best kp (sr_dg a_ b_ c_ d_ cc) (sr_dg a_ b_ c_ d_ (cc + 1)) cc 0))), (1, .int (nI cc)), (0, .ref (a 0))]) C0.1 C0.2.1 dX8_looks_56 rfl hl (by decide) rfl (fun ls hl => ?_)
          refine lv_iload_n C0.1 C0.2.1 dX8_looks_57 rfl (lv_at hl 0 rfl) ?_
          refine lv_iconst (v := (-1)) C0.1 C0.2.1 dX8_looks_58 (by decide) ?_
          refine lv_icmp_ne (tgt := 63) C0.1 C0.2.1 dX8_looks_59 (by decide) (fun c59 => ?_) (fun c59 => ?_)
          · refine lv_aload_n C0.1 C0.2.1 dX8_looks_63 rfl (lv_at hl 2 rfl) ?_
            refine sr_get (v := .ref (a 12)) C0 hK hP sr_inX8 sr_wM0 rfl 15 (by decide) sw_625 rfl dX8_looks_64 ?_
            refine lv_iconst (v := 5) C0.1 C0.2.1 dX8_looks_67 (by decide) ?_
            refine lv_iload_n C0.1 C0.2.1 dX8_looks_68 rfl (lv_at hl 1 rfl) ?_
            refine lv_iadd C0.1 C0.2.1 dX8_looks_69 ?_
            refine sr_chi (nI_add 5 cc) ?_
            refine lv_iload_n C0.1 C0.2.1 dX8_looks_70 rfl (lv_at hl 0 rfl) ?_
            refine sr_ast (k := 5 + cc) C0 hK rfl hP (sr_DM ha _ _ _) hS sr_wM12 (nI_clamp (by omega)) (vp_in_nI (by omega) (by omega)) sr_sM12 dX8_looks_71 (fun H locs hP hS => ?_)
            refine lv_aload_n C0.1 C0.2.1 dX8_looks_72 rfl (lv_at hl 2 rfl) ?_
            refine sr_get (v := .ref (a 12)) C0 hK hP sr_inX8 sr_wM0 rfl 15 (by decide) sw_625 rfl dX8_looks_73 ?_
            refine lv_iconst (v := 0) C0.1 C0.2.1 dX8_looks_76 (by decide) ?_
            refine lv_dup2_11 C0.1 C0.2.1 dX8_looks_77 rfl rfl ?_
            refine sr_ald (k := 0) C0 hK rfl hP sr_wM12 (by decide) (sr_inc (by decide)) dX8_looks_78 ?_
            refine sr_chi ((sr_rdu (by omega)).trans h_s) ?_
            refine lv_aload_n C0.1 C0.2.1 dX8_looks_79 rfl (lv_at hl 2 rfl) ?_
            refine lv_aload_n C0.1 C0.2.1 dX8_looks_80 rfl (lv_at hl 2 rfl) ?_
            refine sr_get (v := .ref (a 12)) C0 hK hP sr_inX8 sr_wM0 rfl 15 (by decide) sw_625 rfl dX8_looks_81 ?_
            refine lv_iconst (v := 1) C0.1 C0.2.1 dX8_looks_84 (by decide) ?_
            refine lv_iload_n C0.1 C0.2.1 dX8_looks_85 rfl (lv_at hl 1 rfl) ?_
            refine lv_iadd C0.1 C0.2.1 dX8_looks_86 ?_
            refine sr_chi (nI_add 1 cc) ?_
            refine sr_ald (k := 1 + cc) C0 hK rfl hP sr_wM12 (nI_clamp (by omega)) (vp_in_nI (by omega) (by omega)) dX8_looks_87 ?_
            refine sr_chi ((sr_rdu (by omega)).trans (h_d cc (by omega))) ?_
            refine lv_iload_n C0.1 C0.2.1 dX8_looks_88 rfl (lv_at hl 1 rfl) ?_
            refine lv_iload_n C0.1 C0.2.1 dX8_looks_89 rfl (lv_at hl 0 rfl) ?_
            refine lv_iconst (v := 0) C0.1 C0.2.1 dX8_looks_90 (by decide) ?_
            refine sr_pVi (As := [.int (nI (sr_dg a_ b_ c_ d_ cc)), .int (nI cc), .int (nI (sr_best kp (sr_dg a_ b_ c_ d_ cc) (sr_dg a_ b_ c_ d_ (cc + 1)) cc 0)), .int 0]) C0 hK hP hZ (sr_Zs hZ hZ0 hS) (cc_X8_delay ha (sr_dg a_ b_ c_ d_ cc) cc (nI (sr_best kp (sr_dg a_ b_ c_ d_ cc) (sr_dg a_ b_ c_ d_ (cc + 1)) cc 0)) (0) hRD (by first | assumption | omega | exact sr_th_at hT (by omega)) (by omega)) sk_X8_delay sv_X8_delay sw_803 (ci := 8) rfl sr_wM0 rfl rfl hl.1 (Nat.le_of_ble_eq_true rfl) (Nat.le_of_ble_eq_true rfl) (Nat.le_of_ble_eq_true rfl) dX8_looks_91 ⟨Nat.zero_le _, Nat.zero_le _⟩ ?_
            refine lv_aload_n C0.1 C0.2.1 dX8_looks_94 rfl (lv_at hl 2 rfl) ?_
            refine lv_aload_n C0.1 C0.2.1 dX8_looks_95 rfl (lv_at hl 2 rfl) ?_
            refine lv_aload_n C0.1 C0.2.1 dX8_looks_96 rfl (lv_at hl 2 rfl) ?_
            refine sr_get (v := .ref (a 12)) C0 hK hP sr_inX8 sr_wM0 rfl 15 (by decide) sw_625 rfl dX8_looks_97 ?_
            refine lv_iconst (v := 1) C0.1 C0.2.1 dX8_looks_100 (by decide) ?_
            refine lv_iload_n C0.1 C0.2.1 dX8_looks_101 rfl (lv_at hl 1 rfl) ?_
            refine lv_iadd C0.1 C0.2.1 dX8_looks_102 ?_
            refine sr_chi (nI_add 1 cc) ?_
            refine sr_ald (k := 1 + cc) C0 hK rfl hP sr_wM12 (nI_clamp (by omega)) (vp_in_nI (by omega) (by omega)) dX8_looks_103 ?_
            refine sr_chi ((sr_rdu (by omega)).trans (h_d cc (by omega))) ?_
            refine lv_aload_n C0.1 C0.2.1 dX8_looks_104 rfl (lv_at hl 2 rfl) ?_
            refine sr_get (v := .ref (a 12)) C0 hK hP sr_inX8 sr_wM0 rfl 15 (by decide) sw_625 rfl dX8_looks_105 ?_
            refine lv_iconst (v := 2) C0.1 C0.2.1 dX8_looks_108 (by decide) ?_
            refine lv_iload_n C0.1 C0.2.1 dX8_looks_109 rfl (lv_at hl 1 rfl) ?_
            refine lv_iadd C0.1 C0.2.1 dX8_looks_110 ?_
            refine sr_chi (nI_add 2 cc) ?_
            refine sr_ald (k := 2 + cc) C0 hK rfl hP sr_wM12 (nI_clamp (by omega)) (vp_in_nI (by omega) (by omega)) dX8_looks_111 ?_
            refine sr_chi ((sr_rdu (by omega)).trans (sr_hd1 h_d cc (by omega))) ?_
            refine lv_iload_n C0.1 C0.2.1 dX8_looks_112 rfl (lv_at hl 1 rfl) ?_
            refine lv_iload_n C0.1 C0.2.1 dX8_looks_113 rfl (lv_at hl 0 rfl) ?_
            refine lv_iconst (v := 0) C0.1 C0.2.1 dX8_looks_114 (by decide) ?_
            refine sr_pVi (As := [.int (nI (sr_dg a_ b_ c_ d_ cc)), .int (nI (sr_dg a_ b_ c_ d_ (cc + 1))), .int (nI cc), .int (nI (sr_best kp (sr_dg a_ b_ c_ d_ cc) (sr_dg a_ b_ c_ d_ (cc + 1)) cc 0)), .int 0]) C0 hK hP hZ (sr_Zs hZ hZ0 hS) (cc_X8_meetBy ha (sr_dg a_ b_ c_ d_ cc) (sr_dg a_ b_ c_ d_ (cc + 1)) cc (nI (sr_best kp (sr_dg a_ b_ c_ d_ cc) (sr_dg a_ b_ c_ d_ (cc + 1)) cc 0)) (0) hK_ hRD (by first | assumption | omega | exact sr_th_at hT (by omega)) (by first | assumption | omega | exact sr_th_at hT (by omega)) (by omega)) sk_X8_meetBy sv_X8_meetBy sw_819 (ci := 8) rfl sr_wM0 rfl rfl hl.1 (Nat.le_of_ble_eq_true rfl) (Nat.le_of_ble_eq_true rfl) (Nat.le_of_ble_eq_true rfl) dX8_looks_115 ⟨Nat.zero_le _, Nat.zero_le _⟩ ?_
            refine sr_pVi (As := [.int (sr_mt kp (sr_dg a_ b_ c_ d_ cc) (sr_dg a_ b_ c_ d_ (cc + 1)) cc (nI (sr_best kp (sr_dg a_ b_ c_ d_ cc) (sr_dg a_ b_ c_ d_ (cc + 1)) cc 0)) 0)]) C0 hK hP hZ (sr_Zs hZ hZ0 hS) (cc_X8_lost ha (sr_mt kp (sr_dg a_ b_ c_ d_ cc) (sr_dg a_ b_ c_ d_ (cc + 1)) cc (nI (sr_best kp (sr_dg a_ b_ c_ d_ cc) (sr_dg a_ b_ c_ d_ (cc + 1)) cc 0)) 0)) sk_X8_lost sv_X8_lost sw_903 (ci := 8) rfl sr_wM0 rfl rfl hl.1 (Nat.le_of_ble_eq_true rfl) (Nat.le_of_ble_eq_true rfl) (Nat.le_of_ble_eq_true rfl) dX8_looks_118 ⟨Nat.zero_le _, Nat.zero_le _⟩ ?_
            refine lv_iadd C0.1 C0.2.1 dX8_looks_121 ?_
            refine lv_iadd C0.1 C0.2.1 dX8_looks_122 ?_
            obtain ⟨sv, hsv⟩ : ∃ z, z = sr_sm kp (sr_dg a_ b_ c_ d_) (cc + 1) := ⟨_, rfl⟩
            refine sr_chi ((sr_sm_s kp (sr_dg a_ b_ c_ d_) cc).symm.trans hsv.symm) ?_
            refine sr_ast (k := 0) C0 hK rfl hP (sr_DM ha _ _ _) hS sr_wM12 (by decide) (sr_inc (by decide)) sr_sM12 dX8_looks_123 (fun H locs hP hS => ?_)
            have hP : va_P D vwCl (sr_WM cI a kp cx (va_up sgz 4 (upd (upd (sgz 4) (5 + cc) (nI (sr_best kp (sr_dg a_ b_ c_ d_ cc) (sr_dg a_ b_ c_ d_ (cc + 1)) cc 0))) 0 sv))) H := hP
            refine lv_iinc (v := (nI (cc + 1))) (lv' := [(1, .int (nI (cc + 1))), (2, .int (nI (sr_best kp (sr_dg a_ b_ c_ d_ cc) (sr_dg a_ b_ c_ d_ (cc + 1)) cc 0))), (0, .ref (a 0))]) C0.1 C0.2.1 dX8_looks_124 hl (k := 1) rfl (nI_1 cc) (by decide) rfl (fun ls hl => ?_)
            refine lv_goto (tgt := 29) C0.1 C0.2.1 dX8_looks_127 (by decide) ?_
            exact ih29 (cc + 1) (va_up sgz 4 (upd (upd (sgz 4) (5 + cc) (nI (sr_best kp (sr_dg a_ b_ c_ d_ cc) (sr_dg a_ b_ c_ d_ (cc + 1)) cc 0))) 0 sv)) _ _ _ (by omega) (by omega) ((sr_upN (by decide)).trans h_3) (sr_RDu (by decide) (by decide) hRD) (sr_lkd (by omega) h_d) (sr_lkb (F := fun j => sr_best kp (sr_dg a_ b_ c_ d_ j) (sr_dg a_ b_ c_ d_ (j + 1)) j 0) (by omega) h_b) (sr_lks.trans hsv) hP hS (lv_sub hl [0, 2] rfl)
          · exact absurd c59 (sr_m1 (Nat.lt_of_le_of_lt (sr_best40 _ _ _ _ _) (Nat.le_of_ble_eq_true rfl)))
    exact lp29 4 0 (va_up sg 4 (upd (sg 4) 0 (sr_T kp d_ 3 100))) _ _ _ (by omega) (by omega) (sr_upN (by decide)) (sr_RDu (by decide) (by decide) hRD) (sr_lk0 ho1 ho2 ho3 ho4) (fun j hj => absurd hj (by omega)) (((congrFun (sr_upS _ 4 _) 0).trans pk_us).trans (sr_sm0 kp a_ b_ c_ d_).symm) hP hS (lv_sub hl [0, 1] rfl)
  · exact hret _ _ _ sg _ _ dX8_looks_7 hP hS rfl ⟨hRD, (if_neg c4).symm⟩
