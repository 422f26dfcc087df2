set_option maxRecDepth 100000 in
set_option maxHeartbeats 4000000 in
theorem cc_X8_orderOf {l : Launch} {D : va_G} {cI : ClassId} {a : Nat → Nat} (ha : ∀ i j, i < 13 → j < 13 → a i = a j → i = j) {kp cx sg : sr_M} (wo_ : Int32) (j_ : Nat) (hK_ : sr_IK kp) (hRD : sr_RD kp sg) (hwo : wo_ = -1 ∨ ∃ w, w < 5 ∧ wo_ = nI w) (hj_ : j_ < 8) : sr_G l D (sr_tM cI) (sr_ZM) (sr_AM a) (sr_WM cI a kp cx sg) yX8_orderOf cX8_orderOf 9 (some .int) 6 149 [.ref (a 0), .int wo_, .int (nI j_)] (S := sr_M) (fun u => sr_RD kp u ∧ ∀ j, j < 8 → u 3 j = sr_od kp wo_ j) (fun u => sr_WM cI a kp cx u) (fun u => some (.int (sr_od kp wo_ j_))) := by
  refine sr_Gie (by decide +kernel) (Nat.le_of_ble_eq_true rfl) (fun p e s m args below meth c ls Q B hret => ?_)
  obtain ⟨C0, hP, hK, hZ0, hl⟩ := B
  have hZ : sr_Zok (sr_AM a) (sr_ZM) := sr_ZMok
  have hS : va_S (sr_AM a) s.heap s.heap [] := va_S.rf
  have hl : lv_has ls 9 [(0, .ref (a 0)), (1, .int wo_), (2, .int (nI j_))] := hl
  obtain ⟨H, hH⟩ : ∃ H, H = s.heap := ⟨_, rfl⟩
  have hP : va_P D vwCl (sr_WM cI a kp cx sg) H := by rw [hH]; exact hP
  have hS : va_S (sr_AM a) s.heap H [] := by rw [hH]; exact hS
  suffices hG : ∀ locs, va_S (sr_AM a) s.heap H locs → W p l e (sr_rm 6 149) s m args below meth c H locs 0 0 Q (F0 m 0 ls []) from by have h9 := hG [] hS; rw [hH] at h9; exact h9
  clear hS
  intro locs hS
  clear hH
  have hc5 := sr_cnt5 kp
  refine lv_iconst (v := 0) C0.1 C0.2.1 dX8_orderOf_0 (by decide) ?_
  refine lv_istore_n (lv' := [(3, .int 0), (0, .ref (a 0)), (1, .int wo_), (2, .int (nI j_))]) C0.1 C0.2.1 dX8_orderOf_1 rfl hl (by decide) rfl (fun ls hl => ?_)
  refine lv_iload_n C0.1 C0.2.1 dX8_orderOf_2 rfl (lv_at hl 0 rfl) ?_
  refine lv_bipush (v := 8) C0.1 C0.2.1 dX8_orderOf_3 (by decide) ?_
  refine lv_icmp_ge (tgt := 21) C0.1 C0.2.1 dX8_orderOf_5 (by decide) (fun q => absurd q (by decide)) (fun _ => ?_)
  refine lv_aload_n C0.1 C0.2.1 dX8_orderOf_8 rfl (lv_at hl 1 rfl) ?_
  refine sr_get (v := .ref (a 11)) C0 hK hP sr_inX8 sr_wM0 rfl 14 (by decide) sw_624 rfl dX8_orderOf_9 ?_
  refine lv_iload_n C0.1 C0.2.1 dX8_orderOf_12 rfl (lv_at hl 0 rfl) ?_
  refine lv_iconst (v := (-1)) C0.1 C0.2.1 dX8_orderOf_13 (by decide) ?_
  refine sr_ast (k := 0) C0 hK rfl hP (sr_DM ha _ _ _) hS sr_wM11 (by decide) (sr_inc (by decide)) sr_sM11 dX8_orderOf_14 (fun H locs hP hS => ?_)
  refine lv_iinc (v := 1) (lv' := [(3, .int 1), (0, .ref (a 0)), (1, .int wo_), (2, .int (nI j_))]) C0.1 C0.2.1 dX8_orderOf_15 hl (k := 0) rfl (by decide) (by decide) rfl (fun ls hl => ?_)
  refine lv_goto (tgt := 2) C0.1 C0.2.1 dX8_orderOf_18 (by decide) ?_
  refine lv_iload_n C0.1 C0.2.1 dX8_orderOf_2 rfl (lv_at hl 0 rfl) ?_
  refine lv_bipush (v := 8) C0.1 C0.2.1 dX8_orderOf_3 (by decide) ?_
  refine lv_icmp_ge (tgt := 21) C0.1 C0.2.1 dX8_orderOf_5 (by decide) (fun q => absurd q (by decide)) (fun _ => ?_)
  refine lv_aload_n C0.1 C0.2.1 dX8_orderOf_8 rfl (lv_at hl 1 rfl) ?_
  refine sr_get (v := .ref (a 11)) C0 hK hP sr_inX8 sr_wM0 rfl 14 (by decide) sw_624 rfl dX8_orderOf_9 ?_
  refine lv_iload_n C0.1 C0.2.1 dX8_orderOf_12 rfl (lv_at hl 0 rfl) ?_
  refine lv_iconst (v := (-1)) C0.1 C0.2.1 dX8_orderOf_13 (by decide) ?_
  refine sr_ast (k := 1) C0 hK rfl hP (sr_DM ha _ _ _) hS sr_wM11 (by decide) (sr_inc (by decide)) sr_sM11 dX8_orderOf_14 (fun H locs hP hS => ?_)
  have hP : va_P D vwCl (sr_WM cI a kp cx (va_up sg 3 (upd (upd (sg 3) 0 (-1)) 1 (-1)))) H := hP
  refine lv_iinc (v := 2) (lv' := [(3, .int 2), (0, .ref (a 0)), (1, .int wo_), (2, .int (nI j_))]) C0.1 C0.2.1 dX8_orderOf_15 hl (k := 0) rfl (by decide) (by decide) rfl (fun ls hl => ?_)
  refine lv_goto (tgt := 2) C0.1 C0.2.1 dX8_orderOf_18 (by decide) ?_
  refine lv_iload_n C0.1 C0.2.1 dX8_orderOf_2 rfl (lv_at hl 0 rfl) ?_
  refine lv_bipush (v := 8) C0.1 C0.2.1 dX8_orderOf_3 (by decide) ?_
  refine lv_icmp_ge (tgt := 21) C0.1 C0.2.1 dX8_orderOf_5 (by decide) (fun q => absurd q (by decide)) (fun _ => ?_)
  refine lv_aload_n C0.1 C0.2.1 dX8_orderOf_8 rfl (lv_at hl 1 rfl) ?_
  refine sr_get (v := .ref (a 11)) C0 hK hP sr_inX8 sr_wM0 rfl 14 (by decide) sw_624 rfl dX8_orderOf_9 ?_
  refine lv_iload_n C0.1 C0.2.1 dX8_orderOf_12 rfl (lv_at hl 0 rfl) ?_
  refine lv_iconst (v := (-1)) C0.1 C0.2.1 dX8_orderOf_13 (by decide) ?_
  refine sr_ast (k := 2) C0 hK rfl hP (sr_DM ha _ _ _) hS sr_wM11 (by decide) (sr_inc (by decide)) sr_sM11 dX8_orderOf_14 (fun H locs hP hS => ?_)
  have hP : va_P D vwCl (sr_WM cI a kp cx (va_up sg 3 (upd (upd (upd (sg 3) 0 (-1)) 1 (-1)) 2 (-1)))) H := hP
  refine lv_iinc (v := 3) (lv' := [(3, .int 3), (0, .ref (a 0)), (1, .int wo_), (2, .int (nI j_))]) C0.1 C0.2.1 dX8_orderOf_15 hl (k := 0) rfl (by decide) (by decide) rfl (fun ls hl => ?_)
  refine lv_goto (tgt := 2) C0.1 C0.2.1 dX8_orderOf_18 (by decide) ?_
  refine lv_iload_n C0.1 C0.2.1 dX8_orderOf_2 rfl (lv_at hl 0 rfl) ?_
  refine lv_bipush (v := 8) C0.1 C0.2.1 dX8_orderOf_3 (by decide) ?_
  refine lv_icmp_ge (tgt := 21) C0.1 C0.2.1 dX8_orderOf_5 (by decide) (fun q => absurd q (by decide)) (fun _ => ?_)
  refine lv_aload_n C0.1 C0.2.1 dX8_orderOf_8 rfl (lv_at hl 1 rfl) ?_
  refine sr_get (v := .ref (a 11)) C0 hK hP sr_inX8 sr_wM0 rfl 14 (by decide) sw_624 rfl dX8_orderOf_9 ?_
  refine lv_iload_n C0.1 C0.2.1 dX8_orderOf_12 rfl (lv_at hl 0 rfl) ?_
  refine lv_iconst (v := (-1)) C0.1 C0.2.1 dX8_orderOf_13 (by decide) ?_
  refine sr_ast (k := 3) C0 hK rfl hP (sr_DM ha _ _ _) hS sr_wM11 (by decide) (sr_inc (by decide)) sr_sM11 dX8_orderOf_14 (fun H locs hP hS => ?_)
  have hP : va_P D vwCl (sr_WM cI a kp cx (va_up sg 3 (upd (upd (upd (upd (sg 3) 0 (-1)) 1 (-1)) 2 (-1)) 3 (-1)))) H := hP
  refine lv_iinc (v := 4) (lv' := [(3, .int 4), (0, .ref (a 0)), (1, .int wo_), (2, .int (nI j_))]) C0.1 C0.2.1 dX8_orderOf_15 hl (k := 0) rfl (by decide) (by decide) rfl (fun ls hl => ?_)
  refine lv_goto (tgt := 2) C0.1 C0.2.1 dX8_orderOf_18 (by decide) ?_
  refine lv_iload_n C0.1 C0.2.1 dX8_orderOf_2 rfl (lv_at hl 0 rfl) ?_
  refine lv_bipush (v := 8) C0.1 C0.2.1 dX8_orderOf_3 (by decide) ?_
  refine lv_icmp_ge (tgt := 21) C0.1 C0.2.1 dX8_orderOf_5 (by decide) (fun q => absurd q (by decide)) (fun _ => ?_)
  refine lv_aload_n C0.1 C0.2.1 dX8_orderOf_8 rfl (lv_at hl 1 rfl) ?_
  refine sr_get (v := .ref (a 11)) C0 hK hP sr_inX8 sr_wM0 rfl 14 (by decide) sw_624 rfl dX8_orderOf_9 ?_
  refine lv_iload_n C0.1 C0.2.1 dX8_orderOf_12 rfl (lv_at hl 0 rfl) ?_
  refine lv_iconst (v := (-1)) C0.1 C0.2.1 dX8_orderOf_13 (by decide) ?_
  refine sr_ast (k := 4) C0 hK rfl hP (sr_DM ha _ _ _) hS sr_wM11 (by decide) (sr_inc (by decide)) sr_sM11 dX8_orderOf_14 (fun H locs hP hS => ?_)
  have hP : va_P D vwCl (sr_WM cI a kp cx (va_up sg 3 (upd (upd (upd (upd (upd (sg 3) 0 (-1)) 1 (-1)) 2 (-1)) 3 (-1)) 4 (-1)))) H := hP
  refine lv_iinc (v := 5) (lv' := [(3, .int 5), (0, .ref (a 0)), (1, .int wo_), (2, .int (nI j_))]) C0.1 C0.2.1 dX8_orderOf_15 hl (k := 0) rfl (by decide) (by decide) rfl (fun ls hl => ?_)
  refine lv_goto (tgt := 2) C0.1 C0.2.1 dX8_orderOf_18 (by decide) ?_
  refine lv_iload_n C0.1 C0.2.1 dX8_orderOf_2 rfl (lv_at hl 0 rfl) ?_
  refine lv_bipush (v := 8) C0.1 C0.2.1 dX8_orderOf_3 (by decide) ?_
  refine lv_icmp_ge (tgt := 21) C0.1 C0.2.1 dX8_orderOf_5 (by decide) (fun q => absurd q (by decide)) (fun _ => ?_)
  refine lv_aload_n C0.1 C0.2.1 dX8_orderOf_8 rfl (lv_at hl 1 rfl) ?_
  refine sr_get (v := .ref (a 11)) C0 hK hP sr_inX8 sr_wM0 rfl 14 (by decide) sw_624 rfl dX8_orderOf_9 ?_
  refine lv_iload_n C0.1 C0.2.1 dX8_orderOf_12 rfl (lv_at hl 0 rfl) ?_
  refine lv_iconst (v := (-1)) C0.1 C0.2.1 dX8_orderOf_13 (by decide) ?_
  refine sr_ast (k := 5) C0 hK rfl hP (sr_DM ha _ _ _) hS sr_wM11 (by decide) (sr_inc (by decide)) sr_sM11 dX8_orderOf_14 (fun H locs hP hS => ?_)
  have hP : va_P D vwCl (sr_WM cI a kp cx (va_up sg 3 (upd (upd (upd (upd (upd (upd (sg 3) 0 (-1)) 1 (-1)) 2 (-1)) 3 (-1)) 4 (-1)) 5 (-1)))) H := hP
  refine lv_iinc (v := 6) (lv' := [(3, .int 6), (0, .ref (a 0)), (1, .int wo_), (2, .int (nI j_))]) C0.1 C0.2.1 dX8_orderOf_15 hl (k := 0) rfl (by decide) (by decide) rfl (fun ls hl => ?_)
  refine lv_goto (tgt := 2) C0.1 C0.2.1 dX8_orderOf_18 (by decide) ?_
  refine lv_iload_n C0.1 C0.2.1 dX8_orderOf_2 rfl (lv_at hl 0 rfl) ?_
  refine lv_bipush (v := 8) C0.1 C0.2.1 dX8_orderOf_3 (by decide) ?_
  refine lv_icmp_ge (tgt := 21) C0.1 C0.2.1 dX8_orderOf_5 (by decide) (fun q => absurd q (by decide)) (fun _ => ?_)
  refine lv_aload_n C0.1 C0.2.1 dX8_orderOf_8 rfl (lv_at hl 1 rfl) ?_
  refine sr_get (v := .ref (a 11)) C0 hK hP sr_inX8 sr_wM0 rfl 14 (by decide) sw_624 rfl dX8_orderOf_9 ?_
  refine lv_iload_n C0.1 C0.2.1 dX8_orderOf_12 rfl (lv_at hl 0 rfl) ?_
  refine lv_iconst (v := (-1)) C0.1 C0.2.1 dX8_orderOf_13 (by decide) ?_
  refine sr_ast (k := 6) C0 hK rfl hP (sr_DM ha _ _ _) hS sr_wM11 (by decide) (sr_inc (by decide)) sr_sM11 dX8_orderOf_14 (fun H locs hP hS => ?_)
  have hP : va_P D vwCl (sr_WM cI a kp cx (va_up sg 3 (upd (upd (upd (upd (upd (upd (upd (sg 3) 0 (-1)) 1 (-1)) 2 (-1)) 3 (-1)) 4 (-1)) 5 (-1)) 6 (-1)))) H := hP
  refine lv_iinc (v := 7) (lv' := [(3, .int 7), (0, .ref (a 0)), (1, .int wo_), (2, .int (nI j_))]) C0.1 C0.2.1 dX8_orderOf_15 hl (k := 0) rfl (by decide) (by decide) rfl (fun ls hl => ?_)
  refine lv_goto (tgt := 2) C0.1 C0.2.1 dX8_orderOf_18 (by decide) ?_
  refine lv_iload_n C0.1 C0.2.1 dX8_orderOf_2 rfl (lv_at hl 0 rfl) ?_
  refine lv_bipush (v := 8) C0.1 C0.2.1 dX8_orderOf_3 (by decide) ?_
  refine lv_icmp_ge (tgt := 21) C0.1 C0.2.1 dX8_orderOf_5 (by decide) (fun q => absurd q (by decide)) (fun _ => ?_)
  refine lv_aload_n C0.1 C0.2.1 dX8_orderOf_8 rfl (lv_at hl 1 rfl) ?_
  refine sr_get (v := .ref (a 11)) C0 hK hP sr_inX8 sr_wM0 rfl 14 (by decide) sw_624 rfl dX8_orderOf_9 ?_
  refine lv_iload_n C0.1 C0.2.1 dX8_orderOf_12 rfl (lv_at hl 0 rfl) ?_
  refine lv_iconst (v := (-1)) C0.1 C0.2.1 dX8_orderOf_13 (by decide) ?_
  refine sr_ast (k := 7) C0 hK rfl hP (sr_DM ha _ _ _) hS sr_wM11 (by decide) (sr_inc (by decide)) sr_sM11 dX8_orderOf_14 (fun H locs hP hS => ?_)
  have hP : va_P D vwCl (sr_WM cI a kp cx (va_up sg 3 (upd (upd (upd (upd (upd (upd (upd (upd (sg 3) 0 (-1)) 1 (-1)) 2 (-1)) 3 (-1)) 4 (-1)) 5 (-1)) 6 (-1)) 7 (-1)))) H := hP
  refine lv_iinc (v := 8) (lv' := [(3, .int 8), (0, .ref (a 0)), (1, .int wo_), (2, .int (nI j_))]) C0.1 C0.2.1 dX8_orderOf_15 hl (k := 0) rfl (by decide) (by decide) rfl (fun ls hl => ?_)
  refine lv_goto (tgt := 2) C0.1 C0.2.1 dX8_orderOf_18 (by decide) ?_
  refine lv_iload_n C0.1 C0.2.1 dX8_orderOf_2 rfl (lv_at hl 0 rfl) ?_
  refine lv_bipush (v := 8) C0.1 C0.2.1 dX8_orderOf_3 (by decide) ?_
  refine lv_icmp_ge (tgt := 21) C0.1 C0.2.1 dX8_orderOf_5 (by decide) (fun _ => ?_) (fun q => absurd q (by decide))
  refine lv_iconst (v := 0) C0.1 C0.2.1 dX8_orderOf_21 (by decide) ?_
  refine lv_istore_n (lv' := [(3, .int 0), (0, .ref (a 0)), (1, .int wo_), (2, .int (nI j_))]) C0.1 C0.2.1 dX8_orderOf_22 rfl hl (by decide) rfl (fun ls hl => ?_)
  have lp23 : ∀ (n23 : Nat) (i : Nat) (sgi : sr_M) (H : Heap) (locs : List Loc) (ls : Array Slot), (i ≤ 625) → (626 ≤ i + n23) → (sr_RD kp sgi) → (sr_L (sr_f5 kp wo_) 625 0 (sr_fl (sg 3) (-1) 8) = sr_L (sr_f5 kp wo_) (625 - i) i (sgi 3)) → va_P D vwCl (sr_WM cI a kp cx sgi) H → va_S (sr_AM a) s.heap H locs → lv_has ls 9 [(3, .int (nI i)), (0, .ref (a 0)), (1, .int wo_), (2, .int (nI j_))] → W p l e (sr_rm 6 149) s m args below meth c H locs 0 0 Q (F0 m 23 ls []) := by
    intro n23
    induction n23 with
    | zero =>
      intro i sgi H locs ls h_i h_n hRD h_f hP hS hl
      exact absurd h_n (by omega)
    | succ n23 ih23 =>
      intro i sgi H locs ls h_i h_n hRD h_f hP hS hl
      refine lv_iload_n C0.1 C0.2.1 dX8_orderOf_23 rfl (lv_at hl 0 rfl) ?_
      refine lv_sipush (v := 625) C0.1 C0.2.1 dX8_orderOf_24 (by decide) ?_
      refine lv_icmp_ge (tgt := 137) C0.1 C0.2.1 dX8_orderOf_27 (by decide) (fun c27 => ?_) (fun c27 => ?_)
      · have g27 : 625 ≤ i := (nI_leI (a := 625) (b := i) (by omega) (by omega)).mp c27
        refine lv_aload_n C0.1 C0.2.1 dX8_orderOf_137 rfl (lv_at hl 1 rfl) ?_
        refine sr_get (v := .ref (a 11)) C0 hK hP sr_inX8 sr_wM0 rfl 14 (by decide) sw_624 rfl dX8_orderOf_138 ?_
        refine lv_iload_n C0.1 C0.2.1 dX8_orderOf_141 rfl (lv_at hl 3 rfl) ?_
        refine sr_ald (k := j_) C0 hK rfl hP sr_wM11 (nI_clamp (by omega)) (vp_in_nI (by omega) (by omega)) dX8_orderOf_142 ?_
        have hfo : ∀ j, j < 8 → sgi 3 j = sr_od kp wo_ j := fun j hj => by rw [← sr_so_od (kp := kp) (wo := wo_) (g := sg 3) hj, show sr_so kp (sr_bar wo_) (sg 3) = sgi 3 from by unfold sr_so; rw [← sr_f5E kp hwo, h_f, show 625 - i = 0 by omega]; rfl]
        exact hret _ _ _ sgi _ _ _ dX8_orderOf_143 hP hS rfl (hfo j_ hj_) ⟨hRD, hfo⟩
      · have g27 : ¬ (625 ≤ i) := fun q => c27 ((nI_leI (a := 625) (b := i) (by omega) (by omega)).mpr q)
        refine lv_iload_n C0.1 C0.2.1 dX8_orderOf_30 rfl (lv_at hl 0 rfl) ?_
        refine lv_istore (lv' := [(4, .int (nI i)), (3, .int (nI i)), (0, .ref (a 0)), (1, .int wo_), (2, .int (nI j_))]) C0.1 C0.2.1 dX8_orderOf_31 hl (by decide) rfl (fun ls hl => ?_)
        refine lv_iconst (v := 0) C0.1 C0.2.1 dX8_orderOf_33 (by decide) ?_
        refine lv_istore (lv' := [(5, .int 0), (4, .int (nI i)), (3, .int (nI i)), (0, .ref (a 0)), (1, .int wo_), (2, .int (nI j_))]) C0.1 C0.2.1 dX8_orderOf_34 hl (by decide) rfl (fun ls hl => ?_)
        refine lv_iconst (v := 1) C0.1 C0.2.1 dX8_orderOf_36 (by decide) ?_
        refine lv_istore (lv' := [(6, .int 1), (5, .int 0), (4, .int (nI i)), (3, .int (nI i)), (0, .ref (a 0)), (1, .int wo_), (2, .int (nI j_))]) C0.1 C0.2.1 dX8_orderOf_37 hl (by decide) rfl (fun ls hl => ?_)
        refine lv_iconst (v := 3) C0.1 C0.2.1 dX8_orderOf_39 (by decide) ?_
        refine lv_istore (lv' := [(7, .int 3), (6, .int 1), (5, .int 0), (4, .int (nI i)), (3, .int (nI i)), (0, .ref (a 0)), (1, .int wo_), (2, .int (nI j_))]) C0.1 C0.2.1 dX8_orderOf_40 hl (by decide) rfl (fun ls hl => ?_)
        refine lv_iload C0.1 C0.2.1 dX8_orderOf_42 (lv_at hl 0 rfl) ?_
        refine lv_if_lt (tgt := 122) C0.1 C0.2.1 dX8_orderOf_44 (by decide) (fun q => absurd q (by decide)) (fun _ => ?_)
        refine lv_iload C0.1 C0.2.1 dX8_orderOf_47 (lv_at hl 3 rfl) ?_
        refine lv_iconst (v := 5) C0.1 C0.2.1 dX8_orderOf_49 (by decide) ?_
        refine lv_irem C0.1 C0.2.1 dX8_orderOf_50 (by decide) ?_
        refine sr_chi (pk_rem (a := i) (d := 5) (by omega) (by omega) (by omega)) ?_
        refine lv_istore (lv' := [(8, .int (nI (i % 5))), (7, .int 3), (6, .int 1), (5, .int 0), (4, .int (nI i)), (3, .int (nI i)), (0, .ref (a 0)), (1, .int wo_), (2, .int (nI j_))]) C0.1 C0.2.1 dX8_orderOf_51 hl (by decide) rfl (fun ls hl => ?_)
        refine lv_iload C0.1 C0.2.1 dX8_orderOf_53 (lv_at hl 4 rfl) ?_
        refine lv_iconst (v := 5) C0.1 C0.2.1 dX8_orderOf_55 (by decide) ?_
        refine lv_idiv C0.1 C0.2.1 dX8_orderOf_56 (by decide) ?_
        refine sr_chi (pk_div (a := i) (d := 5) (by omega) (by omega) (by omega)) ?_
        refine lv_istore (lv' := [(4, .int (nI (i / 5))), (8, .int (nI (i % 5))), (7, .int 3), (6, .int 1), (5, .int 0), (3, .int (nI i)), (0, .ref (a 0)), (1, .int wo_), (2, .int (nI j_))]) C0.1 C0.2.1 dX8_orderOf_57 hl (by decide) rfl (fun ls hl => ?_)
        refine lv_aload_n C0.1 C0.2.1 dX8_orderOf_59 rfl (lv_at hl 6 rfl) ?_
        refine sr_get (v := .ref (a 12)) C0 hK hP sr_inX8 sr_wM0 rfl 15 (by decide) sw_625 rfl dX8_orderOf_60 ?_
        refine lv_iconst (v := 1) C0.1 C0.2.1 dX8_orderOf_63 (by decide) ?_
        refine lv_iload C0.1 C0.2.1 dX8_orderOf_64 (lv_at hl 2 rfl) ?_
        refine lv_iadd C0.1 C0.2.1 dX8_orderOf_66 ?_
        refine sr_chi (by decide : (1 + 3 : Int32) = 4) ?_
        refine lv_iload C0.1 C0.2.1 dX8_orderOf_67 (lv_at hl 1 rfl) ?_
        refine sr_ast (k := 4) C0 hK rfl hP (sr_DM ha _ _ _) hS sr_wM12 (by decide) (sr_inc (by decide)) sr_sM12 dX8_orderOf_69 (fun H locs hP hS => ?_)
        refine lv_iload C0.1 C0.2.1 dX8_orderOf_70 (lv_at hl 3 rfl) ?_
        refine lv_if_eq (tgt := 104) C0.1 C0.2.1 dX8_orderOf_72 (by decide) (fun q => absurd q (by decide)) (fun _ => ?_)
        refine lv_iload C0.1 C0.2.1 dX8_orderOf_75 (lv_at hl 1 rfl) ?_
        refine lv_aload_n C0.1 C0.2.1 dX8_orderOf_77 rfl (lv_at hl 6 rfl) ?_
        refine sr_get (v := .int (sgi 1 1)) C0 hK hP sr_inX8 sr_wM0 rfl 8 (by decide) sw_618 rfl dX8_orderOf_78 ?_
        refine sr_chi hRD.1 ?_
        have hJ105 : ∀ (k105_0 : Int32), k105_0 = (if ¬ ((nI (sr_cnt kp)) ≤ (nI (i % 5))) ∧ (¬ ((nI (i % 5)) = wo_) ∧ ((((0 : Int32) >>> (((nI (i % 5)) : Int32) &&& 31)) &&& 1) = 0)) then 1 else 0) → W p l e (sr_rm 6 149) s m args below meth c H locs 0 0 Q (F0 m 105 ls [.int k105_0]) := by
          intro k105_0 e_k105_0
          subst e_k105_0
          refine lv_istore (lv' := [(6, .int (if ¬ ((nI (sr_cnt kp)) ≤ (nI (i % 5))) ∧ (¬ ((nI (i % 5)) = wo_) ∧ ((((0 : Int32) >>> (((nI (i % 5)) : Int32) &&& 31)) &&& 1) = 0)) then 1 else 0)), (4, .int (nI (i / 5))), (8, .int (nI (i % 5))), (7, .int 3), (5, .int 0), (3, .int (nI i)), (0, .ref (a 0)), (1, .int wo_), (2, .int (nI j_))]) C0.1 C0.2.1 dX8_orderOf_105 hl (by decide) rfl (fun ls hl => ?_)
          refine lv_iload C0.1 C0.2.1 dX8_orderOf_107 (lv_at hl 4 rfl) ?_
          refine lv_iconst (v := 1) C0.1 C0.2.1 dX8_orderOf_109 (by decide) ?_
          refine lv_iload C0.1 C0.2.1 dX8_orderOf_110 (lv_at hl 2 rfl) ?_
          refine lv_ishl C0.1 C0.2.1 dX8_orderOf_112 ?_
          refine lv_ior C0.1 C0.2.1 dX8_orderOf_113 ?_
          refine lv_istore (lv' := [(5, .int (0 ||| ((1 : Int32) <<< (((nI (i % 5)) : Int32) &&& 31)))), (6, .int (if ¬ ((nI (sr_cnt kp)) ≤ (nI (i % 5))) ∧ (¬ ((nI (i % 5)) = wo_) ∧ ((((0 : Int32) >>> (((nI (i % 5)) : Int32) &&& 31)) &&& 1) = 0)) then 1 else 0)), (4, .int (nI (i / 5))), (8, .int (nI (i % 5))), (7, .int 3), (3, .int (nI i)), (0, .ref (a 0)), (1, .int wo_), (2, .int (nI j_))]) C0.1 C0.2.1 dX8_orderOf_114 hl (by decide) rfl (fun ls hl => ?_)
          refine lv_iinc (v := 2) (lv' := [(7, .int 2), (5, .int (0 ||| ((1 : Int32) <<< (((nI (i % 5)) : Int32) &&& 31)))), (6, .int (if ¬ ((nI (sr_cnt kp)) ≤ (nI (i % 5))) ∧ (¬ ((nI (i % 5)) = wo_) ∧ ((((0 : Int32) >>> (((nI (i % 5)) : Int32) &&& 31)) &&& 1) = 0)) then 1 else 0)), (4, .int (nI (i / 5))), (8, .int (nI (i % 5))), (3, .int (nI i)), (0, .ref (a 0)), (1, .int wo_), (2, .int (nI j_))]) C0.1 C0.2.1 dX8_orderOf_116 hl (k := 4) rfl (by decide) (by decide) rfl (fun ls hl => ?_)
          refine lv_goto (tgt := 42) C0.1 C0.2.1 dX8_orderOf_119 (by decide) ?_
          refine lv_iload C0.1 C0.2.1 dX8_orderOf_42 (lv_at hl 0 rfl) ?_
          refine lv_if_lt (tgt := 122) C0.1 C0.2.1 dX8_orderOf_44 (by decide) (fun q => absurd q (by decide)) (fun _ => ?_)
          refine lv_iload C0.1 C0.2.1 dX8_orderOf_47 (lv_at hl 3 rfl) ?_
          refine lv_iconst (v := 5) C0.1 C0.2.1 dX8_orderOf_49 (by decide) ?_
          refine lv_irem C0.1 C0.2.1 dX8_orderOf_50 (by decide) ?_
          refine sr_chi (pk_rem (a := i / 5) (d := 5) (by omega) (by omega) (by omega)) ?_
          refine lv_istore (lv' := [(8, .int (nI ((i / 5) % 5))), (7, .int 2), (5, .int (0 ||| ((1 : Int32) <<< (((nI (i % 5)) : Int32) &&& 31)))), (6, .int (if ¬ ((nI (sr_cnt kp)) ≤ (nI (i % 5))) ∧ (¬ ((nI (i % 5)) = wo_) ∧ ((((0 : Int32) >>> (((nI (i % 5)) : Int32) &&& 31)) &&& 1) = 0)) then 1 else 0)), (4, .int (nI (i / 5))), (3, .int (nI i)), (0, .ref (a 0)), (1, .int wo_), (2, .int (nI j_))]) C0.1 C0.2.1 dX8_orderOf_51 hl (by decide) rfl (fun ls hl => ?_)
          refine lv_iload C0.1 C0.2.1 dX8_orderOf_53 (lv_at hl 4 rfl) ?_
          refine lv_iconst (v := 5) C0.1 C0.2.1 dX8_orderOf_55 (by decide) ?_
          refine lv_idiv C0.1 C0.2.1 dX8_orderOf_56 (by decide) ?_
          refine sr_chi (pk_div (a := i / 5) (d := 5) (by omega) (by omega) (by omega)) ?_
          refine lv_istore (lv' := [(4, .int (nI ((i / 5) / 5))), (8, .int (nI ((i / 5) % 5))), (7, .int 2), (5, .int (0 ||| ((1 : Int32) <<< (((nI (i % 5)) : Int32) &&& 31)))), (6, .int (if ¬ ((nI (sr_cnt kp)) ≤ (nI (i % 5))) ∧ (¬ ((nI (i % 5)) = wo_) ∧ ((((0 : Int32) >>> (((nI (i % 5)) : Int32) &&& 31)) &&& 1) = 0)) then 1 else 0)), (3, .int (nI i)), (0, .ref (a 0)), (1, .int wo_), (2, .int (nI j_))]) C0.1 C0.2.1 dX8_orderOf_57 hl (by decide) rfl (fun ls hl => ?_)
          refine lv_aload_n C0.1 C0.2.1 dX8_orderOf_59 rfl (lv_at hl 6 rfl) ?_
          refine sr_get (v := .ref (a 12)) C0 hK hP sr_inX8 sr_wM0 rfl 15 (by decide) sw_625 rfl dX8_orderOf_60 ?_
          refine lv_iconst (v := 1) C0.1 C0.2.1 dX8_orderOf_63 (by decide) ?_
          refine lv_iload C0.1 C0.2.1 dX8_orderOf_64 (lv_at hl 2 rfl) ?_
          refine lv_iadd C0.1 C0.2.1 dX8_orderOf_66 ?_
          refine sr_chi (by decide : (1 + 2 : Int32) = 3) ?_
          refine lv_iload C0.1 C0.2.1 dX8_orderOf_67 (lv_at hl 1 rfl) ?_
          refine sr_ast (k := 3) C0 hK rfl hP (sr_DM ha _ _ _) hS sr_wM12 (by decide) (sr_inc (by decide)) sr_sM12 dX8_orderOf_69 (fun H locs hP hS => ?_)
          have hP : va_P D vwCl (sr_WM cI a kp cx (va_up sgi 4 (upd (upd (sgi 4) 4 (nI (i % 5))) 3 (nI ((i / 5) % 5))))) H := hP
          refine lv_iload C0.1 C0.2.1 dX8_orderOf_70 (lv_at hl 4 rfl) ?_
          have hJ105_2 : ∀ (k105_0 : Int32), k105_0 = (if (¬ ((nI (sr_cnt kp)) ≤ (nI (i % 5))) ∧ (¬ ((nI (i % 5)) = wo_) ∧ ((((0 : Int32) >>> (((nI (i % 5)) : Int32) &&& 31)) &&& 1) = 0))) ∧ (¬ ((nI (sr_cnt kp)) ≤ (nI ((i / 5) % 5))) ∧ (¬ ((nI ((i / 5) % 5)) = wo_) ∧ (((((0 ||| ((1 : Int32) <<< (((nI (i % 5)) : Int32) &&& 31))) : Int32) >>> (((nI ((i / 5) % 5)) : Int32) &&& 31)) &&& 1) = 0))) then 1 else 0) → W p l e (sr_rm 6 149) s m args below meth c H locs 0 0 Q (F0 m 105 ls [.int k105_0]) := by
            intro k105_0 e_k105_0
            subst e_k105_0
            refine lv_istore (lv' := [(6, .int (if (¬ ((nI (sr_cnt kp)) ≤ (nI (i % 5))) ∧ (¬ ((nI (i % 5)) = wo_) ∧ ((((0 : Int32) >>> (((nI (i % 5)) : Int32) &&& 31)) &&& 1) = 0))) ∧ (¬ ((nI (sr_cnt kp)) ≤ (nI ((i / 5) % 5))) ∧ (¬ ((nI ((i / 5) % 5)) = wo_) ∧ (((((0 ||| ((1 : Int32) <<< (((nI (i % 5)) : Int32) &&& 31))) : Int32) >>> (((nI ((i / 5) % 5)) : Int32) &&& 31)) &&& 1) = 0))) then 1 else 0)), (4, .int (nI ((i / 5) / 5))), (8, .int (nI ((i / 5) % 5))), (7, .int 2), (5, .int (0 ||| ((1 : Int32) <<< (((nI (i % 5)) : Int32) &&& 31)))), (3, .int (nI i)), (0, .ref (a 0)), (1, .int wo_), (2, .int (nI j_))]) C0.1 C0.2.1 dX8_orderOf_105 hl (by decide) rfl (fun ls hl => ?_)
            refine lv_iload C0.1 C0.2.1 dX8_orderOf_107 (lv_at hl 4 rfl) ?_
            refine lv_iconst (v := 1) C0.1 C0.2.1 dX8_orderOf_109 (by decide) ?_
            refine lv_iload C0.1 C0.2.1 dX8_orderOf_110 (lv_at hl 2 rfl) ?_
            refine lv_ishl C0.1 C0.2.1 dX8_orderOf_112 ?_
            refine lv_ior C0.1 C0.2.1 dX8_orderOf_113 ?_
            refine lv_istore (lv' := [(5, .int ((0 ||| ((1 : Int32) <<< (((nI (i % 5)) : Int32) &&& 31))) ||| ((1 : Int32) <<< (((nI ((i / 5) % 5)) : Int32) &&& 31)))), (6, .int (if (¬ ((nI (sr_cnt kp)) ≤ (nI (i % 5))) ∧ (¬ ((nI (i % 5)) = wo_) ∧ ((((0 : Int32) >>> (((nI (i % 5)) : Int32) &&& 31)) &&& 1) = 0))) ∧ (¬ ((nI (sr_cnt kp)) ≤ (nI ((i / 5) % 5))) ∧ (¬ ((nI ((i / 5) % 5)) = wo_) ∧ (((((0 ||| ((1 : Int32) <<< (((nI (i % 5)) : Int32) &&& 31))) : Int32) >>> (((nI ((i / 5) % 5)) : Int32) &&& 31)) &&& 1) = 0))) then 1 else 0)), (4, .int (nI ((i / 5) / 5))), (8, .int (nI ((i / 5) % 5))), (7, .int 2), (3, .int (nI i)), (0, .ref (a 0)), (1, .int wo_), (2, .int (nI j_))]) C0.1 C0.2.1 dX8_orderOf_114 hl (by decide) rfl (fun ls hl => ?_)
            refine lv_iinc (v := 1) (lv' := [(7, .int 1), (5, .int ((0 ||| ((1 : Int32) <<< (((nI (i % 5)) : Int32) &&& 31))) ||| ((1 : Int32) <<< (((nI ((i / 5) % 5)) : Int32) &&& 31)))), (6, .int (if (¬ ((nI (sr_cnt kp)) ≤ (nI (i % 5))) ∧ (¬ ((nI (i % 5)) = wo_) ∧ ((((0 : Int32) >>> (((nI (i % 5)) : Int32) &&& 31)) &&& 1) = 0))) ∧ (¬ ((nI (sr_cnt kp)) ≤ (nI ((i / 5) % 5))) ∧ (¬ ((nI ((i / 5) % 5)) = wo_) ∧ (((((0 ||| ((1 : Int32) <<< (((nI (i % 5)) : Int32) &&& 31))) : Int32) >>> (((nI ((i / 5) % 5)) : Int32) &&& 31)) &&& 1) = 0))) then 1 else 0)), (4, .int (nI ((i / 5) / 5))), (8, .int (nI ((i / 5) % 5))), (3, .int (nI i)), (0, .ref (a 0)), (1, .int wo_), (2, .int (nI j_))]) C0.1 C0.2.1 dX8_orderOf_116 hl (k := 4) rfl (by decide) (by decide) rfl (fun ls hl => ?_)
            refine lv_goto (tgt := 42) C0.1 C0.2.1 dX8_orderOf_119 (by decide) ?_
            refine lv_iload C0.1 C0.2.1 dX8_orderOf_42 (lv_at hl 0 rfl) ?_
            refine lv_if_lt (tgt := 122) C0.1 C0.2.1 dX8_orderOf_44 (by decide) (fun q => absurd q (by decide)) (fun _ => ?_)
            refine lv_iload C0.1 C0.2.1 dX8_orderOf_47 (lv_at hl 3 rfl) ?_
            refine lv_iconst (v := 5) C0.1 C0.2.1 dX8_orderOf_49 (by decide) ?_
            refine lv_irem C0.1 C0.2.1 dX8_orderOf_50 (by decide) ?_
            refine sr_chi (pk_rem (a := (i / 5) / 5) (d := 5) (by omega) (by omega) (by omega)) ?_
            refine lv_istore (lv' := [(8, .int (nI (((i / 5) / 5) % 5))), (7, .int 1), (5, .int ((0 ||| ((1 : Int32) <<< (((nI (i % 5)) : Int32) &&& 31))) ||| ((1 : Int32) <<< (((nI ((i / 5) % 5)) : Int32) &&& 31)))), (6, .int (if (¬ ((nI (sr_cnt kp)) ≤ (nI (i % 5))) ∧ (¬ ((nI (i % 5)) = wo_) ∧ ((((0 : Int32) >>> (((nI (i % 5)) : Int32) &&& 31)) &&& 1) = 0))) ∧ (¬ ((nI (sr_cnt kp)) ≤ (nI ((i / 5) % 5))) ∧ (¬ ((nI ((i / 5) % 5)) = wo_) ∧ (((((0 ||| ((1 : Int32) <<< (((nI (i % 5)) : Int32) &&& 31))) : Int32) >>> (((nI ((i / 5) % 5)) : Int32) &&& 31)) &&& 1) = 0))) then 1 else 0)), (4, .int (nI ((i / 5) / 5))), (3, .int (nI i)), (0, .ref (a 0)), (1, .int wo_), (2, .int (nI j_))]) C0.1 C0.2.1 dX8_orderOf_51 hl (by decide) rfl (fun ls hl => ?_)
            refine lv_iload C0.1 C0.2.1 dX8_orderOf_53 (lv_at hl 4 rfl) ?_
            refine lv_iconst (v := 5) C0.1 C0.2.1 dX8_orderOf_55 (by decide) ?_
            refine lv_idiv C0.1 C0.2.1 dX8_orderOf_56 (by decide) ?_
            refine sr_chi (pk_div (a := (i / 5) / 5) (d := 5) (by omega) (by omega) (by omega)) ?_
            refine lv_istore (lv' := [(4, .int (nI (((i / 5) / 5) / 5))), (8, .int (nI (((i / 5) / 5) % 5))), (7, .int 1), (5, .int ((0 ||| ((1 : Int32) <<< (((nI (i % 5)) : Int32) &&& 31))) ||| ((1 : Int32) <<< (((nI ((i / 5) % 5)) : Int32) &&& 31)))), (6, .int (if (¬ ((nI (sr_cnt kp)) ≤ (nI (i % 5))) ∧ (¬ ((nI (i % 5)) = wo_) ∧ ((((0 : Int32) >>> (((nI (i % 5)) : Int32) &&& 31)) &&& 1) = 0))) ∧ (¬ ((nI (sr_cnt kp)) ≤ (nI ((i / 5) % 5))) ∧ (¬ ((nI ((i / 5) % 5)) = wo_) ∧ (((((0 ||| ((1 : Int32) <<< (((nI (i % 5)) : Int32) &&& 31))) : Int32) >>> (((nI ((i / 5) % 5)) : Int32) &&& 31)) &&& 1) = 0))) then 1 else 0)), (3, .int (nI i)), (0, .ref (a 0)), (1, .int wo_), (2, .int (nI j_))]) C0.1 C0.2.1 dX8_orderOf_57 hl (by decide) rfl (fun ls hl => ?_)
            refine lv_aload_n C0.1 C0.2.1 dX8_orderOf_59 rfl (lv_at hl 6 rfl) ?_
            refine sr_get (v := .ref (a 12)) C0 hK hP sr_inX8 sr_wM0 rfl 15 (by decide) sw_625 rfl dX8_orderOf_60 ?_
            refine lv_iconst (v := 1) C0.1 C0.2.1 dX8_orderOf_63 (by decide) ?_
            refine lv_iload C0.1 C0.2.1 dX8_orderOf_64 (lv_at hl 2 rfl) ?_
            refine lv_iadd C0.1 C0.2.1 dX8_orderOf_66 ?_
            refine sr_chi (by decide : (1 + 1 : Int32) = 2) ?_
            refine lv_iload C0.1 C0.2.1 dX8_orderOf_67 (lv_at hl 1 rfl) ?_
            refine sr_ast (k := 2) C0 hK rfl hP (sr_DM ha _ _ _) hS sr_wM12 (by decide) (sr_inc (by decide)) sr_sM12 dX8_orderOf_69 (fun H locs hP hS => ?_)
            have hP : va_P D vwCl (sr_WM cI a kp cx (va_up sgi 4 (upd (upd (upd (sgi 4) 4 (nI (i % 5))) 3 (nI ((i / 5) % 5))) 2 (nI (((i / 5) / 5) % 5))))) H := hP
            refine lv_iload C0.1 C0.2.1 dX8_orderOf_70 (lv_at hl 4 rfl) ?_
            have hJ105_3 : ∀ (k105_0 : Int32), k105_0 = (if ((¬ ((nI (sr_cnt kp)) ≤ (nI (i % 5))) ∧ (¬ ((nI (i % 5)) = wo_) ∧ ((((0 : Int32) >>> (((nI (i % 5)) : Int32) &&& 31)) &&& 1) = 0))) ∧ (¬ ((nI (sr_cnt kp)) ≤ (nI ((i / 5) % 5))) ∧ (¬ ((nI ((i / 5) % 5)) = wo_) ∧ (((((0 ||| ((1 : Int32) <<< (((nI (i % 5)) : Int32) &&& 31))) : Int32) >>> (((nI ((i / 5) % 5)) : Int32) &&& 31)) &&& 1) = 0)))) ∧ (¬ ((nI (sr_cnt kp)) ≤ (nI (((i / 5) / 5) % 5))) ∧ (¬ ((nI (((i / 5) / 5) % 5)) = wo_) ∧ ((((((0 ||| ((1 : Int32) <<< (((nI (i % 5)) : Int32) &&& 31))) ||| ((1 : Int32) <<< (((nI ((i / 5) % 5)) : Int32) &&& 31))) : Int32) >>> (((nI (((i / 5) / 5) % 5)) : Int32) &&& 31)) &&& 1) = 0))) then 1 else 0) → W p l e (sr_rm 6 149) s m args below meth c H locs 0 0 Q (F0 m 105 ls [.int k105_0]) := by
              intro k105_0 e_k105_0
              subst e_k105_0
              refine lv_istore (lv' := [(6, .int (if ((¬ ((nI (sr_cnt kp)) ≤ (nI (i % 5))) ∧ (¬ ((nI (i % 5)) = wo_) ∧ ((((0 : Int32) >>> (((nI (i % 5)) : Int32) &&& 31)) &&& 1) = 0))) ∧ (¬ ((nI (sr_cnt kp)) ≤ (nI ((i / 5) % 5))) ∧ (¬ ((nI ((i / 5) % 5)) = wo_) ∧ (((((0 ||| ((1 : Int32) <<< (((nI (i % 5)) : Int32) &&& 31))) : Int32) >>> (((nI ((i / 5) % 5)) : Int32) &&& 31)) &&& 1) = 0)))) ∧ (¬ ((nI (sr_cnt kp)) ≤ (nI (((i / 5) / 5) % 5))) ∧ (¬ ((nI (((i / 5) / 5) % 5)) = wo_) ∧ ((((((0 ||| ((1 : Int32) <<< (((nI (i % 5)) : Int32) &&& 31))) ||| ((1 : Int32) <<< (((nI ((i / 5) % 5)) : Int32) &&& 31))) : Int32) >>> (((nI (((i / 5) / 5) % 5)) : Int32) &&& 31)) &&& 1) = 0))) then 1 else 0)), (4, .int (nI (((i / 5) / 5) / 5))), (8, .int (nI (((i / 5) / 5) % 5))), (7, .int 1), (5, .int ((0 ||| ((1 : Int32) <<< (((nI (i % 5)) : Int32) &&& 31))) ||| ((1 : Int32) <<< (((nI ((i / 5) % 5)) : Int32) &&& 31)))), (3, .int (nI i)), (0, .ref (a 0)), (1, .int wo_), (2, .int (nI j_))]) C0.1 C0.2.1 dX8_orderOf_105 hl (by decide) rfl (fun ls hl => ?_)
              refine lv_iload C0.1 C0.2.1 dX8_orderOf_107 (lv_at hl 4 rfl) ?_
              refine lv_iconst (v := 1) C0.1 C0.2.1 dX8_orderOf_109 (by decide) ?_
              refine lv_iload C0.1 C0.2.1 dX8_orderOf_110 (lv_at hl 2 rfl) ?_
              refine lv_ishl C0.1 C0.2.1 dX8_orderOf_112 ?_
              refine lv_ior C0.1 C0.2.1 dX8_orderOf_113 ?_
              refine lv_istore (lv' := [(5, .int (((0 ||| ((1 : Int32) <<< (((nI (i % 5)) : Int32) &&& 31))) ||| ((1 : Int32) <<< (((nI ((i / 5) % 5)) : Int32) &&& 31))) ||| ((1 : Int32) <<< (((nI (((i / 5) / 5) % 5)) : Int32) &&& 31)))), (6, .int (if ((¬ ((nI (sr_cnt kp)) ≤ (nI (i % 5))) ∧ (¬ ((nI (i % 5)) = wo_) ∧ ((((0 : Int32) >>> (((nI (i % 5)) : Int32) &&& 31)) &&& 1) = 0))) ∧ (¬ ((nI (sr_cnt kp)) ≤ (nI ((i / 5) % 5))) ∧ (¬ ((nI ((i / 5) % 5)) = wo_) ∧ (((((0 ||| ((1 : Int32) <<< (((nI (i % 5)) : Int32) &&& 31))) : Int32) >>> (((nI ((i / 5) % 5)) : Int32) &&& 31)) &&& 1) = 0)))) ∧ (¬ ((nI (sr_cnt kp)) ≤ (nI (((i / 5) / 5) % 5))) ∧ (¬ ((nI (((i / 5) / 5) % 5)) = wo_) ∧ ((((((0 ||| ((1 : Int32) <<< (((nI (i % 5)) : Int32) &&& 31))) ||| ((1 : Int32) <<< (((nI ((i / 5) % 5)) : Int32) &&& 31))) : Int32) >>> (((nI (((i / 5) / 5) % 5)) : Int32) &&& 31)) &&& 1) = 0))) then 1 else 0)), (4, .int (nI (((i / 5) / 5) / 5))), (8, .int (nI (((i / 5) / 5) % 5))), (7, .int 1), (3, .int (nI i)), (0, .ref (a 0)), (1, .int wo_), (2, .int (nI j_))]) C0.1 C0.2.1 dX8_orderOf_114 hl (by decide) rfl (fun ls hl => ?_)
              refine lv_iinc (v := 0) (lv' := [(7, .int 0), (5, .int (((0 ||| ((1 : Int32) <<< (((nI (i % 5)) : Int32) &&& 31))) ||| ((1 : Int32) <<< (((nI ((i / 5) % 5)) : Int32) &&& 31))) ||| ((1 : Int32) <<< (((nI (((i / 5) / 5) % 5)) : Int32) &&& 31)))), (6, .int (if ((¬ ((nI (sr_cnt kp)) ≤ (nI (i % 5))) ∧ (¬ ((nI (i % 5)) = wo_) ∧ ((((0 : Int32) >>> (((nI (i % 5)) : Int32) &&& 31)) &&& 1) = 0))) ∧ (¬ ((nI (sr_cnt kp)) ≤ (nI ((i / 5) % 5))) ∧ (¬ ((nI ((i / 5) % 5)) = wo_) ∧ (((((0 ||| ((1 : Int32) <<< (((nI (i % 5)) : Int32) &&& 31))) : Int32) >>> (((nI ((i / 5) % 5)) : Int32) &&& 31)) &&& 1) = 0)))) ∧ (¬ ((nI (sr_cnt kp)) ≤ (nI (((i / 5) / 5) % 5))) ∧ (¬ ((nI (((i / 5) / 5) % 5)) = wo_) ∧ ((((((0 ||| ((1 : Int32) <<< (((nI (i % 5)) : Int32) &&& 31))) ||| ((1 : Int32) <<< (((nI ((i / 5) % 5)) : Int32) &&& 31))) : Int32) >>> (((nI (((i / 5) / 5) % 5)) : Int32) &&& 31)) &&& 1) = 0))) then 1 else 0)), (4, .int (nI (((i / 5) / 5) / 5))), (8, .int (nI (((i / 5) / 5) % 5))), (3, .int (nI i)), (0, .ref (a 0)), (1, .int wo_), (2, .int (nI j_))]) C0.1 C0.2.1 dX8_orderOf_116 hl (k := 4) rfl (by decide) (by decide) rfl (fun ls hl => ?_)
              refine lv_goto (tgt := 42) C0.1 C0.2.1 dX8_orderOf_119 (by decide) ?_
              refine lv_iload C0.1 C0.2.1 dX8_orderOf_42 (lv_at hl 0 rfl) ?_
              refine lv_if_lt (tgt := 122) C0.1 C0.2.1 dX8_orderOf_44 (by decide) (fun q => absurd q (by decide)) (fun _ => ?_)
              refine lv_iload C0.1 C0.2.1 dX8_orderOf_47 (lv_at hl 3 rfl) ?_
              refine lv_iconst (v := 5) C0.1 C0.2.1 dX8_orderOf_49 (by decide) ?_
              refine lv_irem C0.1 C0.2.1 dX8_orderOf_50 (by decide) ?_
              refine sr_chi (pk_rem (a := ((i / 5) / 5) / 5) (d := 5) (by omega) (by omega) (by omega)) ?_
              refine lv_istore (lv' := [(8, .int (nI ((((i / 5) / 5) / 5) % 5))), (7, .int 0), (5, .int (((0 ||| ((1 : Int32) <<< (((nI (i % 5)) : Int32) &&& 31))) ||| ((1 : Int32) <<< (((nI ((i / 5) % 5)) : Int32) &&& 31))) ||| ((1 : Int32) <<< (((nI (((i / 5) / 5) % 5)) : Int32) &&& 31)))), (6, .int (if ((¬ ((nI (sr_cnt kp)) ≤ (nI (i % 5))) ∧ (¬ ((nI (i % 5)) = wo_) ∧ ((((0 : Int32) >>> (((nI (i % 5)) : Int32) &&& 31)) &&& 1) = 0))) ∧ (¬ ((nI (sr_cnt kp)) ≤ (nI ((i / 5) % 5))) ∧ (¬ ((nI ((i / 5) % 5)) = wo_) ∧ (((((0 ||| ((1 : Int32) <<< (((nI (i % 5)) : Int32) &&& 31))) : Int32) >>> (((nI ((i / 5) % 5)) : Int32) &&& 31)) &&& 1) = 0)))) ∧ (¬ ((nI (sr_cnt kp)) ≤ (nI (((i / 5) / 5) % 5))) ∧ (¬ ((nI (((i / 5) / 5) % 5)) = wo_) ∧ ((((((0 ||| ((1 : Int32) <<< (((nI (i % 5)) : Int32) &&& 31))) ||| ((1 : Int32) <<< (((nI ((i / 5) % 5)) : Int32) &&& 31))) : Int32) >>> (((nI (((i / 5) / 5) % 5)) : Int32) &&& 31)) &&& 1) = 0))) then 1 else 0)), (4, .int (nI (((i / 5) / 5) / 5))), (3, .int (nI i)), (0, .ref (a 0)), (1, .int wo_), (2, .int (nI j_))]) C0.1 C0.2.1 dX8_orderOf_51 hl (by decide) rfl (fun ls hl => ?_)
              refine lv_iload C0.1 C0.2.1 dX8_orderOf_53 (lv_at hl 4 rfl) ?_
              refine lv_iconst (v := 5) C0.1 C0.2.1 dX8_orderOf_55 (by decide) ?_
              refine lv_idiv C0.1 C0.2.1 dX8_orderOf_56 (by decide) ?_
              refine sr_chi (pk_div (a := ((i / 5) / 5) / 5) (d := 5) (by omega) (by omega) (by omega)) ?_
              refine lv_istore (lv' := [(4, .int (nI ((((i / 5) / 5) / 5) / 5))), (8, .int (nI ((((i / 5) / 5) / 5) % 5))), (7, .int 0), (5, .int (((0 ||| ((1 : Int32) <<< (((nI (i % 5)) : Int32) &&& 31))) ||| ((1 : Int32) <<< (((nI ((i / 5) % 5)) : Int32) &&& 31))) ||| ((1 : Int32) <<< (((nI (((i / 5) / 5) % 5)) : Int32) &&& 31)))), (6, .int (if ((¬ ((nI (sr_cnt kp)) ≤ (nI (i % 5))) ∧ (¬ ((nI (i % 5)) = wo_) ∧ ((((0 : Int32) >>> (((nI (i % 5)) : Int32) &&& 31)) &&& 1) = 0))) ∧ (¬ ((nI (sr_cnt kp)) ≤ (nI ((i / 5) % 5))) ∧ (¬ ((nI ((i / 5) % 5)) = wo_) ∧ (((((0 ||| ((1 : Int32) <<< (((nI (i % 5)) : Int32) &&& 31))) : Int32) >>> (((nI ((i / 5) % 5)) : Int32) &&& 31)) &&& 1) = 0)))) ∧ (¬ ((nI (sr_cnt kp)) ≤ (nI (((i / 5) / 5) % 5))) ∧ (¬ ((nI (((i / 5) / 5) % 5)) = wo_) ∧ ((((((0 ||| ((1 : Int32) <<< (((nI (i % 5)) : Int32) &&& 31))) ||| ((1 : Int32) <<< (((nI ((i / 5) % 5)) : Int32) &&& 31))) : Int32) >>> (((nI (((i / 5) / 5) % 5)) : Int32) &&& 31)) &&& 1) = 0))) then 1 else 0)), (3, .int (nI i)), (0, .ref (a 0)), (1, .int wo_), (2, .int (nI j_))]) C0.1 C0.2.1 dX8_orderOf_57 hl (by decide) rfl (fun ls hl => ?_)
              refine lv_aload_n C0.1 C0.2.1 dX8_orderOf_59 rfl (lv_at hl 6 rfl) ?_
              refine sr_get (v := .ref (a 12)) C0 hK hP sr_inX8 sr_wM0 rfl 15 (by decide) sw_625 rfl dX8_orderOf_60 ?_
              refine lv_iconst (v := 1) C0.1 C0.2.1 dX8_orderOf_63 (by decide) ?_
              refine lv_iload C0.1 C0.2.1 dX8_orderOf_64 (lv_at hl 2 rfl) ?_
              refine lv_iadd C0.1 C0.2.1 dX8_orderOf_66 ?_
              refine sr_chi (by decide : (1 + 0 : Int32) = 1) ?_
              refine lv_iload C0.1 C0.2.1 dX8_orderOf_67 (lv_at hl 1 rfl) ?_
              refine sr_ast (k := 1) C0 hK rfl hP (sr_DM ha _ _ _) hS sr_wM12 (by decide) (sr_inc (by decide)) sr_sM12 dX8_orderOf_69 (fun H locs hP hS => ?_)
              have hP : va_P D vwCl (sr_WM cI a kp cx (va_up sgi 4 (upd (upd (upd (upd (sgi 4) 4 (nI (i % 5))) 3 (nI ((i / 5) % 5))) 2 (nI (((i / 5) / 5) % 5))) 1 (nI ((((i / 5) / 5) / 5) % 5))))) H := hP
              refine lv_iload C0.1 C0.2.1 dX8_orderOf_70 (lv_at hl 4 rfl) ?_
              have hJ105_4 : ∀ (k105_0 : Int32), k105_0 = (if (((¬ ((nI (sr_cnt kp)) ≤ (nI (i % 5))) ∧ (¬ ((nI (i % 5)) = wo_) ∧ ((((0 : Int32) >>> (((nI (i % 5)) : Int32) &&& 31)) &&& 1) = 0))) ∧ (¬ ((nI (sr_cnt kp)) ≤ (nI ((i / 5) % 5))) ∧ (¬ ((nI ((i / 5) % 5)) = wo_) ∧ (((((0 ||| ((1 : Int32) <<< (((nI (i % 5)) : Int32) &&& 31))) : Int32) >>> (((nI ((i / 5) % 5)) : Int32) &&& 31)) &&& 1) = 0)))) ∧ (¬ ((nI (sr_cnt kp)) ≤ (nI (((i / 5) / 5) % 5))) ∧ (¬ ((nI (((i / 5) / 5) % 5)) = wo_) ∧ ((((((0 ||| ((1 : Int32) <<< (((nI (i % 5)) : Int32) &&& 31))) ||| ((1 : Int32) <<< (((nI ((i / 5) % 5)) : Int32) &&& 31))) : Int32) >>> (((nI (((i / 5) / 5) % 5)) : Int32) &&& 31)) &&& 1) = 0)))) ∧ (¬ ((nI (sr_cnt kp)) ≤ (nI ((((i / 5) / 5) / 5) % 5))) ∧ (¬ ((nI ((((i / 5) / 5) / 5) % 5)) = wo_) ∧ (((((((0 ||| ((1 : Int32) <<< (((nI (i % 5)) : Int32) &&& 31))) ||| ((1 : Int32) <<< (((nI ((i / 5) % 5)) : Int32) &&& 31))) ||| ((1 : Int32) <<< (((nI (((i / 5) / 5) % 5)) : Int32) &&& 31))) : Int32) >>> (((nI ((((i / 5) / 5) / 5) % 5)) : Int32) &&& 31)) &&& 1) = 0))) then 1 else 0) → W p l e (sr_rm 6 149) s m args below meth c H locs 0 0 Q (F0 m 105 ls [.int k105_0]) := by
                intro k105_0 e_k105_0
                subst e_k105_0
                refine lv_istore (lv' := [(6, .int (if (((¬ ((nI (sr_cnt kp)) ≤ (nI (i % 5))) ∧ (¬ ((nI (i % 5)) = wo_) ∧ ((((0 : Int32) >>> (((nI (i % 5)) : Int32) &&& 31)) &&& 1) = 0))) ∧ (¬ ((nI (sr_cnt kp)) ≤ (nI ((i / 5) % 5))) ∧ (¬ ((nI ((i / 5) % 5)) = wo_) ∧ (((((0 ||| ((1 : Int32) <<< (((nI (i % 5)) : Int32) &&& 31))) : Int32) >>> (((nI ((i / 5) % 5)) : Int32) &&& 31)) &&& 1) = 0)))) ∧ (¬ ((nI (sr_cnt kp)) ≤ (nI (((i / 5) / 5) % 5))) ∧ (¬ ((nI (((i / 5) / 5) % 5)) = wo_) ∧ ((((((0 ||| ((1 : Int32) <<< (((nI (i % 5)) : Int32) &&& 31))) ||| ((1 : Int32) <<< (((nI ((i / 5) % 5)) : Int32) &&& 31))) : Int32) >>> (((nI (((i / 5) / 5) % 5)) : Int32) &&& 31)) &&& 1) = 0)))) ∧ (¬ ((nI (sr_cnt kp)) ≤ (nI ((((i / 5) / 5) / 5) % 5))) ∧ (¬ ((nI ((((i / 5) / 5) / 5) % 5)) = wo_) ∧ (((((((0 ||| ((1 : Int32) <<< (((nI (i % 5)) : Int32) &&& 31))) ||| ((1 : Int32) <<< (((nI ((i / 5) % 5)) : Int32) &&& 31))) ||| ((1 : Int32) <<< (((nI (((i / 5) / 5) % 5)) : Int32) &&& 31))) : Int32) >>> (((nI ((((i / 5) / 5) / 5) % 5)) : Int32) &&& 31)) &&& 1) = 0))) then 1 else 0)), (4, .int (nI ((((i / 5) / 5) / 5) / 5))), (8, .int (nI ((((i / 5) / 5) / 5) % 5))), (7, .int 0), (5, .int (((0 ||| ((1 : Int32) <<< (((nI (i % 5)) : Int32) &&& 31))) ||| ((1 : Int32) <<< (((nI ((i / 5) % 5)) : Int32) &&& 31))) ||| ((1 : Int32) <<< (((nI (((i / 5) / 5) % 5)) : Int32) &&& 31)))), (3, .int (nI i)), (0, .ref (a 0)), (1, .int wo_), (2, .int (nI j_))]) C0.1 C0.2.1 dX8_orderOf_105 hl (by decide) rfl (fun ls hl => ?_)
                refine lv_iload C0.1 C0.2.1 dX8_orderOf_107 (lv_at hl 4 rfl) ?_
                refine lv_iconst (v := 1) C0.1 C0.2.1 dX8_orderOf_109 (by decide) ?_
                refine lv_iload C0.1 C0.2.1 dX8_orderOf_110 (lv_at hl 2 rfl) ?_
                refine lv_ishl C0.1 C0.2.1 dX8_orderOf_112 ?_
                refine lv_ior C0.1 C0.2.1 dX8_orderOf_113 ?_
                refine lv_istore (lv' := [(5, .int ((((0 ||| ((1 : Int32) <<< (((nI (i % 5)) : Int32) &&& 31))) ||| ((1 : Int32) <<< (((nI ((i / 5) % 5)) : Int32) &&& 31))) ||| ((1 : Int32) <<< (((nI (((i / 5) / 5) % 5)) : Int32) &&& 31))) ||| ((1 : Int32) <<< (((nI ((((i / 5) / 5) / 5) % 5)) : Int32) &&& 31)))), (6, .int (if (((¬ ((nI (sr_cnt kp)) ≤ (nI (i % 5))) ∧ (¬ ((nI (i % 5)) = wo_) ∧ ((((0 : Int32) >>> (((nI (i % 5)) : Int32) &&& 31)) &&& 1) = 0))) ∧ (¬ ((nI (sr_cnt kp)) ≤ (nI ((i / 5) % 5))) ∧ (¬ ((nI ((i / 5) % 5)) = wo_) ∧ (((((0 ||| ((1 : Int32) <<< (((nI (i % 5)) : Int32) &&& 31))) : Int32) >>> (((nI ((i / 5) % 5)) : Int32) &&& 31)) &&& 1) = 0)))) ∧ (¬ ((nI (sr_cnt kp)) ≤ (nI (((i / 5) / 5) % 5))) ∧ (¬ ((nI (((i / 5) / 5) % 5)) = wo_) ∧ ((((((0 ||| ((1 : Int32) <<< (((nI (i % 5)) : Int32) &&& 31))) ||| ((1 : Int32) <<< (((nI ((i / 5) % 5)) : Int32) &&& 31))) : Int32) >>> (((nI (((i / 5) / 5) % 5)) : Int32) &&& 31)) &&& 1) = 0)))) ∧ (¬ ((nI (sr_cnt kp)) ≤ (nI ((((i / 5) / 5) / 5) % 5))) ∧ (¬ ((nI ((((i / 5) / 5) / 5) % 5)) = wo_) ∧ (((((((0 ||| ((1 : Int32) <<< (((nI (i % 5)) : Int32) &&& 31))) ||| ((1 : Int32) <<< (((nI ((i / 5) % 5)) : Int32) &&& 31))) ||| ((1 : Int32) <<< (((nI (((i / 5) / 5) % 5)) : Int32) &&& 31))) : Int32) >>> (((nI ((((i / 5) / 5) / 5) % 5)) : Int32) &&& 31)) &&& 1) = 0))) then 1 else 0)), (4, .int (nI ((((i / 5) / 5) / 5) / 5))), (8, .int (nI ((((i / 5) / 5) / 5) % 5))), (7, .int 0), (3, .int (nI i)), (0, .ref (a 0)), (1, .int wo_), (2, .int (nI j_))]) C0.1 C0.2.1 dX8_orderOf_114 hl (by decide) rfl (fun ls hl => ?_)
                refine lv_iinc (v := (-1)) (lv' := [(7, .int (-1)), (5, .int ((((0 ||| ((1 : Int32) <<< (((nI (i % 5)) : Int32) &&& 31))) ||| ((1 : Int32) <<< (((nI ((i / 5) % 5)) : Int32) &&& 31))) ||| ((1 : Int32) <<< (((nI (((i / 5) / 5) % 5)) : Int32) &&& 31))) ||| ((1 : Int32) <<< (((nI ((((i / 5) / 5) / 5) % 5)) : Int32) &&& 31)))), (6, .int (if (((¬ ((nI (sr_cnt kp)) ≤ (nI (i % 5))) ∧ (¬ ((nI (i % 5)) = wo_) ∧ ((((0 : Int32) >>> (((nI (i % 5)) : Int32) &&& 31)) &&& 1) = 0))) ∧ (¬ ((nI (sr_cnt kp)) ≤ (nI ((i / 5) % 5))) ∧ (¬ ((nI ((i / 5) % 5)) = wo_) ∧ (((((0 ||| ((1 : Int32) <<< (((nI (i % 5)) : Int32) &&& 31))) : Int32) >>> (((nI ((i / 5) % 5)) : Int32) &&& 31)) &&& 1) = 0)))) ∧ (¬ ((nI (sr_cnt kp)) ≤ (nI (((i / 5) / 5) % 5))) ∧ (¬ ((nI (((i / 5) / 5) % 5)) = wo_) ∧ ((((((0 ||| ((1 : Int32) <<< (((nI (i % 5)) : Int32) &&& 31))) ||| ((1 : Int32) <<< (((nI ((i / 5) % 5)) : Int32) &&& 31))) : Int32) >>> (((nI (((i / 5) / 5) % 5)) : Int32) &&& 31)) &&& 1) = 0)))) ∧ (¬ ((nI (sr_cnt kp)) ≤ (nI ((((i / 5) / 5) / 5) % 5))) ∧ (¬ ((nI ((((i / 5) / 5) / 5) % 5)) = wo_) ∧ (((((((0 ||| ((1 : Int32) <<< (((nI (i % 5)) : Int32) &&& 31))) ||| ((1 : Int32) <<< (((nI ((i / 5) % 5)) : Int32) &&& 31))) ||| ((1 : Int32) <<< (((nI (((i / 5) / 5) % 5)) : Int32) &&& 31))) : Int32) >>> (((nI ((((i / 5) / 5) / 5) % 5)) : Int32) &&& 31)) &&& 1) = 0))) then 1 else 0)), (4, .int (nI ((((i / 5) / 5) / 5) / 5))), (8, .int (nI ((((i / 5) / 5) / 5) % 5))), (3, .int (nI i)), (0, .ref (a 0)), (1, .int wo_), (2, .int (nI j_))]) C0.1 C0.2.1 dX8_orderOf_116 hl (k := 4) rfl (by decide) (by decide) rfl (fun ls hl => ?_)
                refine lv_goto (tgt := 42) C0.1 C0.2.1 dX8_orderOf_119 (by decide) ?_
                refine lv_iload C0.1 C0.2.1 dX8_orderOf_42 (lv_at hl 0 rfl) ?_
                refine lv_if_lt (tgt := 122) C0.1 C0.2.1 dX8_orderOf_44 (by decide) (fun _ => ?_) (fun q => absurd q (by decide))
                refine lv_iload C0.1 C0.2.1 dX8_orderOf_122 (lv_at hl 2 rfl) ?_
                refine sr_ifeq (tgt := 131) C0 dX8_orderOf_124 (by decide) (fun c124 => ?_) (fun c124 => ?_)
                · refine lv_iinc (v := (nI (i + 1))) (lv' := [(3, .int (nI (i + 1))), (7, .int (-1)), (5, .int ((((0 ||| ((1 : Int32) <<< (((nI (i % 5)) : Int32) &&& 31))) ||| ((1 : Int32) <<< (((nI ((i / 5) % 5)) : Int32) &&& 31))) ||| ((1 : Int32) <<< (((nI (((i / 5) / 5) % 5)) : Int32) &&& 31))) ||| ((1 : Int32) <<< (((nI ((((i / 5) / 5) / 5) % 5)) : Int32) &&& 31)))), (6, .int (if (((¬ ((nI (sr_cnt kp)) ≤ (nI (i % 5))) ∧ (¬ ((nI (i % 5)) = wo_) ∧ ((((0 : Int32) >>> (((nI (i % 5)) : Int32) &&& 31)) &&& 1) = 0))) ∧ (¬ ((nI (sr_cnt kp)) ≤ (nI ((i / 5) % 5))) ∧ (¬ ((nI ((i / 5) % 5)) = wo_) ∧ (((((0 ||| ((1 : Int32) <<< (((nI (i % 5)) : Int32) &&& 31))) : Int32) >>> (((nI ((i / 5) % 5)) : Int32) &&& 31)) &&& 1) = 0)))) ∧ (¬ ((nI (sr_cnt kp)) ≤ (nI (((i / 5) / 5) % 5))) ∧ (¬ ((nI (((i / 5) / 5) % 5)) = wo_) ∧ ((((((0 ||| ((1 : Int32) <<< (((nI (i % 5)) : Int32) &&& 31))) ||| ((1 : Int32) <<< (((nI ((i / 5) % 5)) : Int32) &&& 31))) : Int32) >>> (((nI (((i / 5) / 5) % 5)) : Int32) &&& 31)) &&& 1) = 0)))) ∧ (¬ ((nI (sr_cnt kp)) ≤ (nI ((((i / 5) / 5) / 5) % 5))) ∧ (¬ ((nI ((((i / 5) / 5) / 5) % 5)) = wo_) ∧ (((((((0 ||| ((1 : Int32) <<< (((nI (i % 5)) : Int32) &&& 31))) ||| ((1 : Int32) <<< (((nI ((i / 5) % 5)) : Int32) &&& 31))) ||| ((1 : Int32) <<< (((nI (((i / 5) / 5) % 5)) : Int32) &&& 31))) : Int32) >>> (((nI ((((i / 5) / 5) / 5) % 5)) : Int32) &&& 31)) &&& 1) = 0))) then 1 else 0)), (4, .int (nI ((((i / 5) / 5) / 5) / 5))), (8, .int (nI ((((i / 5) / 5) / 5) % 5))), (0, .ref (a 0)), (1, .int wo_), (2, .int (nI j_))]) C0.1 C0.2.1 dX8_orderOf_131 hl (k := 5) rfl (nI_1 i) (by decide) rfl (fun ls hl => ?_)
                  refine lv_goto (tgt := 23) C0.1 C0.2.1 dX8_orderOf_134 (by decide) ?_
                  exact ih23 (i + 1) (va_up sgi 4 (upd (upd (upd (upd (sgi 4) 4 (nI (i % 5))) 3 (nI ((i / 5) % 5))) 2 (nI (((i / 5) / 5) % 5))) 1 (nI ((((i / 5) / 5) / 5) % 5)))) _ _ _ (by omega) (by omega) hRD (by rw [h_f, sr_L_s (by omega)]; exact congrArg (sr_L (sr_f5 kp wo_) (625 - (i + 1)) (i + 1)) (if_neg c124)) hP hS (lv_sub hl [0, 6, 7, 8] rfl)
                · have hwl := (sr_wlE (n := sr_cnt kp) hc5 (a := i / 5 / 5 / 5 % 5) (b := i / 5 / 5 % 5) (c := i / 5 % 5) (d := i % 5) (by omega) (by omega) (by omega) (by omega) hwo).mp c124
                  refine lv_aload_n C0.1 C0.2.1 dX8_orderOf_127 rfl (lv_at hl 6 rfl) ?_
                  refine sr_gVv (As := []) C0 hK hP hZ (sr_Zs hZ hZ0 hS) (cc_X8_looks ha ((((i / 5) / 5) / 5) % 5) (((i / 5) / 5) % 5) ((i / 5) % 5) (i % 5) hK_ hRD rfl rfl rfl rfl hwl.1.1 hwl.1.2.1 hwl.1.2.2.1 hwl.1.2.2.2) sk_X8_looks sv_X8_looks sw_917 (ci := 8) rfl sr_wM0 rfl rfl hl.1 (Nat.le_of_ble_eq_true rfl) (Nat.le_of_ble_eq_true rfl) (Nat.le_of_ble_eq_true rfl) dX8_orderOf_128 ⟨Nat.zero_le _, Nat.zero_le _⟩ hS (fun sg1 H locs hlk hP hS => ?_)
                  refine lv_iinc (v := (nI (i + 1))) (lv' := [(3, .int (nI (i + 1))), (7, .int (-1)), (5, .int ((((0 ||| ((1 : Int32) <<< (((nI (i % 5)) : Int32) &&& 31))) ||| ((1 : Int32) <<< (((nI ((i / 5) % 5)) : Int32) &&& 31))) ||| ((1 : Int32) <<< (((nI (((i / 5) / 5) % 5)) : Int32) &&& 31))) ||| ((1 : Int32) <<< (((nI ((((i / 5) / 5) / 5) % 5)) : Int32) &&& 31)))), (6, .int (if (((¬ ((nI (sr_cnt kp)) ≤ (nI (i % 5))) ∧ (¬ ((nI (i % 5)) = wo_) ∧ ((((0 : Int32) >>> (((nI (i % 5)) : Int32) &&& 31)) &&& 1) = 0))) ∧ (¬ ((nI (sr_cnt kp)) ≤ (nI ((i / 5) % 5))) ∧ (¬ ((nI ((i / 5) % 5)) = wo_) ∧ (((((0 ||| ((1 : Int32) <<< (((nI (i % 5)) : Int32) &&& 31))) : Int32) >>> (((nI ((i / 5) % 5)) : Int32) &&& 31)) &&& 1) = 0)))) ∧ (¬ ((nI (sr_cnt kp)) ≤ (nI (((i / 5) / 5) % 5))) ∧ (¬ ((nI (((i / 5) / 5) % 5)) = wo_) ∧ ((((((0 ||| ((1 : Int32) <<< (((nI (i % 5)) : Int32) &&& 31))) ||| ((1 : Int32) <<< (((nI ((i / 5) % 5)) : Int32) &&& 31))) : Int32) >>> (((nI (((i / 5) / 5) % 5)) : Int32) &&& 31)) &&& 1) = 0)))) ∧ (¬ ((nI (sr_cnt kp)) ≤ (nI ((((i / 5) / 5) / 5) % 5))) ∧ (¬ ((nI ((((i / 5) / 5) / 5) % 5)) = wo_) ∧ (((((((0 ||| ((1 : Int32) <<< (((nI (i % 5)) : Int32) &&& 31))) ||| ((1 : Int32) <<< (((nI ((i / 5) % 5)) : Int32) &&& 31))) ||| ((1 : Int32) <<< (((nI (((i / 5) / 5) % 5)) : Int32) &&& 31))) : Int32) >>> (((nI ((((i / 5) / 5) / 5) % 5)) : Int32) &&& 31)) &&& 1) = 0))) then 1 else 0)), (4, .int (nI ((((i / 5) / 5) / 5) / 5))), (8, .int (nI ((((i / 5) / 5) / 5) % 5))), (0, .ref (a 0)), (1, .int wo_), (2, .int (nI j_))]) C0.1 C0.2.1 dX8_orderOf_131 hl (k := 5) rfl (nI_1 i) (by decide) rfl (fun ls hl => ?_)
                  refine lv_goto (tgt := 23) C0.1 C0.2.1 dX8_orderOf_134 (by decide) ?_
                  exact ih23 (i + 1) sg1 _ _ _ (by omega) (by omega) hlk.1 (by rw [h_f, sr_L_s (by omega)]; exact congrArg (sr_L (sr_f5 kp wo_) (625 - (i + 1)) (i + 1)) ((if_pos c124).trans hlk.2.symm)) hP hS (lv_sub hl [0, 6, 7, 8] rfl)
              refine sr_ifeq (tgt := 104) C0 dX8_orderOf_72 (by decide) (fun c72_4 => ?_) (fun c72_4 => ?_)
              · refine lv_iconst (v := 0) C0.1 C0.2.1 dX8_orderOf_104 (by decide) ?_
                exact hJ105_4 _ ((if_neg (fun q => c72_4 q.1)).symm)
              · refine lv_iload C0.1 C0.2.1 dX8_orderOf_75 (lv_at hl 1 rfl) ?_
                refine lv_aload_n C0.1 C0.2.1 dX8_orderOf_77 rfl (lv_at hl 6 rfl) ?_
                refine sr_get (v := .int (sgi 1 1)) C0 hK hP sr_inX8 sr_wM0 rfl 8 (by decide) sw_618 rfl dX8_orderOf_78 ?_
                refine sr_chi hRD.1 ?_
                refine lv_icmp_ge (tgt := 104) C0.1 C0.2.1 dX8_orderOf_81 (by decide) (fun c81_2 => ?_) (fun c81_2 => ?_)
                · have g81_2 : (sr_cnt kp) ≤ (((i / 5) / 5) / 5) % 5 := (nI_leI (a := (sr_cnt kp)) (b := ((((i / 5) / 5) / 5) % 5)) (by omega) (by omega)).mp c81_2
                  refine lv_iconst (v := 0) C0.1 C0.2.1 dX8_orderOf_104 (by decide) ?_
                  exact hJ105_4 _ ((if_neg (fun q => (fun q => q.1 c81_2) q.2)).symm)
                · have g81_2 : ¬ ((sr_cnt kp) ≤ (((i / 5) / 5) / 5) % 5) := fun q => c81_2 ((nI_leI (a := (sr_cnt kp)) (b := ((((i / 5) / 5) / 5) % 5)) (by omega) (by omega)).mpr q)
                  refine lv_iload C0.1 C0.2.1 dX8_orderOf_84 (lv_at hl 1 rfl) ?_
                  refine lv_iload_n C0.1 C0.2.1 dX8_orderOf_86 rfl (lv_at hl 7 rfl) ?_
                  refine lv_icmp_eq (tgt := 104) C0.1 C0.2.1 dX8_orderOf_87 (by decide) (fun c87 => ?_) (fun c87 => ?_)
                  · refine lv_iconst (v := 0) C0.1 C0.2.1 dX8_orderOf_104 (by decide) ?_
                    exact hJ105_4 _ ((if_neg (fun q => (fun q => (fun q => q.1 c87) q.2) q.2)).symm)
                  · refine lv_iload C0.1 C0.2.1 dX8_orderOf_90 (lv_at hl 3 rfl) ?_
                    refine lv_iload C0.1 C0.2.1 dX8_orderOf_92 (lv_at hl 1 rfl) ?_
                    refine lv_ishr C0.1 C0.2.1 dX8_orderOf_94 ?_
                    refine lv_iconst (v := 1) C0.1 C0.2.1 dX8_orderOf_95 (by decide) ?_
                    refine lv_iand C0.1 C0.2.1 dX8_orderOf_96 ?_
                    refine lv_if_ne (tgt := 104) C0.1 C0.2.1 dX8_orderOf_97 (by decide) (fun c97 => ?_) (fun c97 => ?_)
                    · refine lv_iconst (v := 0) C0.1 C0.2.1 dX8_orderOf_104 (by decide) ?_
                      exact hJ105_4 _ ((if_neg (fun q => (fun q => (fun q => c97 q.2) q.2) q.2)).symm)
                    · refine lv_iconst (v := 1) C0.1 C0.2.1 dX8_orderOf_100 (by decide) ?_
                      refine lv_goto (tgt := 105) C0.1 C0.2.1 dX8_orderOf_101 (by decide) ?_
                      exact hJ105_4 _ ((if_pos ⟨c72_4, ⟨c81_2, ⟨c87, c97⟩⟩⟩).symm)
            refine sr_ifeq (tgt := 104) C0 dX8_orderOf_72 (by decide) (fun c72_3 => ?_) (fun c72_3 => ?_)
            · refine lv_iconst (v := 0) C0.1 C0.2.1 dX8_orderOf_104 (by decide) ?_
              exact hJ105_3 _ ((if_neg (fun q => c72_3 q.1)).symm)
            · refine lv_iload C0.1 C0.2.1 dX8_orderOf_75 (lv_at hl 1 rfl) ?_
              refine lv_aload_n C0.1 C0.2.1 dX8_orderOf_77 rfl (lv_at hl 6 rfl) ?_
              refine sr_get (v := .int (sgi 1 1)) C0 hK hP sr_inX8 sr_wM0 rfl 8 (by decide) sw_618 rfl dX8_orderOf_78 ?_
              refine sr_chi hRD.1 ?_
              refine lv_icmp_ge (tgt := 104) C0.1 C0.2.1 dX8_orderOf_81 (by decide) (fun c81_2 => ?_) (fun c81_2 => ?_)
              · have g81_2 : (sr_cnt kp) ≤ ((i / 5) / 5) % 5 := (nI_leI (a := (sr_cnt kp)) (b := (((i / 5) / 5) % 5)) (by omega) (by omega)).mp c81_2
                refine lv_iconst (v := 0) C0.1 C0.2.1 dX8_orderOf_104 (by decide) ?_
                exact hJ105_3 _ ((if_neg (fun q => (fun q => q.1 c81_2) q.2)).symm)
              · have g81_2 : ¬ ((sr_cnt kp) ≤ ((i / 5) / 5) % 5) := fun q => c81_2 ((nI_leI (a := (sr_cnt kp)) (b := (((i / 5) / 5) % 5)) (by omega) (by omega)).mpr q)
                refine lv_iload C0.1 C0.2.1 dX8_orderOf_84 (lv_at hl 1 rfl) ?_
                refine lv_iload_n C0.1 C0.2.1 dX8_orderOf_86 rfl (lv_at hl 7 rfl) ?_
                refine lv_icmp_eq (tgt := 104) C0.1 C0.2.1 dX8_orderOf_87 (by decide) (fun c87 => ?_) (fun c87 => ?_)
                · refine lv_iconst (v := 0) C0.1 C0.2.1 dX8_orderOf_104 (by decide) ?_
                  exact hJ105_3 _ ((if_neg (fun q => (fun q => (fun q => q.1 c87) q.2) q.2)).symm)
                · refine lv_iload C0.1 C0.2.1 dX8_orderOf_90 (lv_at hl 3 rfl) ?_
                  refine lv_iload C0.1 C0.2.1 dX8_orderOf_92 (lv_at hl 1 rfl) ?_
                  refine lv_ishr C0.1 C0.2.1 dX8_orderOf_94 ?_
                  refine lv_iconst (v := 1) C0.1 C0.2.1 dX8_orderOf_95 (by decide) ?_
                  refine lv_iand C0.1 C0.2.1 dX8_orderOf_96 ?_
                  refine lv_if_ne (tgt := 104) C0.1 C0.2.1 dX8_orderOf_97 (by decide) (fun c97 => ?_) (fun c97 => ?_)
                  · refine lv_iconst (v := 0) C0.1 C0.2.1 dX8_orderOf_104 (by decide) ?_
                    exact hJ105_3 _ ((if_neg (fun q => (fun q => (fun q => c97 q.2) q.2) q.2)).symm)
                  · refine lv_iconst (v := 1) C0.1 C0.2.1 dX8_orderOf_100 (by decide) ?_
                    refine lv_goto (tgt := 105) C0.1 C0.2.1 dX8_orderOf_101 (by decide) ?_
                    exact hJ105_3 _ ((if_pos ⟨c72_3, ⟨c81_2, ⟨c87, c97⟩⟩⟩).symm)
          refine sr_ifeq (tgt := 104) C0 dX8_orderOf_72 (by decide) (fun c72_2 => ?_) (fun c72_2 => ?_)
          · refine lv_iconst (v := 0) C0.1 C0.2.1 dX8_orderOf_104 (by decide) ?_
            exact hJ105_2 _ ((if_neg (fun q => c72_2 q.1)).symm)
          · refine lv_iload C0.1 C0.2.1 dX8_orderOf_75 (lv_at hl 1 rfl) ?_
            refine lv_aload_n C0.1 C0.2.1 dX8_orderOf_77 rfl (lv_at hl 6 rfl) ?_
            refine sr_get (v := .int (sgi 1 1)) C0 hK hP sr_inX8 sr_wM0 rfl 8 (by decide) sw_618 rfl dX8_orderOf_78 ?_
            refine sr_chi hRD.1 ?_
            refine lv_icmp_ge (tgt := 104) C0.1 C0.2.1 dX8_orderOf_81 (by decide) (fun c81_2 => ?_) (fun c81_2 => ?_)
            · have g81_2 : (sr_cnt kp) ≤ (i / 5) % 5 := (nI_leI (a := (sr_cnt kp)) (b := ((i / 5) % 5)) (by omega) (by omega)).mp c81_2
              refine lv_iconst (v := 0) C0.1 C0.2.1 dX8_orderOf_104 (by decide) ?_
              exact hJ105_2 _ ((if_neg (fun q => (fun q => q.1 c81_2) q.2)).symm)
            · have g81_2 : ¬ ((sr_cnt kp) ≤ (i / 5) % 5) := fun q => c81_2 ((nI_leI (a := (sr_cnt kp)) (b := ((i / 5) % 5)) (by omega) (by omega)).mpr q)
              refine lv_iload C0.1 C0.2.1 dX8_orderOf_84 (lv_at hl 1 rfl) ?_
              refine lv_iload_n C0.1 C0.2.1 dX8_orderOf_86 rfl (lv_at hl 7 rfl) ?_
              refine lv_icmp_eq (tgt := 104) C0.1 C0.2.1 dX8_orderOf_87 (by decide) (fun c87 => ?_) (fun c87 => ?_)
              · refine lv_iconst (v := 0) C0.1 C0.2.1 dX8_orderOf_104 (by decide) ?_
                exact hJ105_2 _ ((if_neg (fun q => (fun q => (fun q => q.1 c87) q.2) q.2)).symm)
              · refine lv_iload C0.1 C0.2.1 dX8_orderOf_90 (lv_at hl 3 rfl) ?_
                refine lv_iload C0.1 C0.2.1 dX8_orderOf_92 (lv_at hl 1 rfl) ?_
                refine lv_ishr C0.1 C0.2.1 dX8_orderOf_94 ?_
                refine lv_iconst (v := 1) C0.1 C0.2.1 dX8_orderOf_95 (by decide) ?_
                refine lv_iand C0.1 C0.2.1 dX8_orderOf_96 ?_
                refine lv_if_ne (tgt := 104) C0.1 C0.2.1 dX8_orderOf_97 (by decide) (fun c97 => ?_) (fun c97 => ?_)
                · refine lv_iconst (v := 0) C0.1 C0.2.1 dX8_orderOf_104 (by decide) ?_
                  exact hJ105_2 _ ((if_neg (fun q => (fun q => (fun q => c97 q.2) q.2) q.2)).symm)
                · refine lv_iconst (v := 1) C0.1 C0.2.1 dX8_orderOf_100 (by decide) ?_
                  refine lv_goto (tgt := 105) C0.1 C0.2.1 dX8_orderOf_101 (by decide) ?_
                  exact hJ105_2 _ ((if_pos ⟨c72_2, ⟨c81_2, ⟨c87, c97⟩⟩⟩).symm)
        refine lv_icmp_ge (tgt := 104) C0.1 C0.2.1 dX8_orderOf_81 (by decide) (fun c81 => ?_) (fun c81 => ?_)
        · have g81 : (sr_cnt kp) ≤ i % 5 := (nI_leI (a := (sr_cnt kp)) (b := (i % 5)) (by omega) (by omega)).mp c81
          refine lv_iconst (v := 0) C0.1 C0.2.1 dX8_orderOf_104 (by decide) ?_
          exact hJ105 _ ((if_neg (fun q => q.1 c81)).symm)
        · have g81 : ¬ ((sr_cnt kp) ≤ i % 5) := fun q => c81 ((nI_leI (a := (sr_cnt kp)) (b := (i % 5)) (by omega) (by omega)).mpr q)
          refine lv_iload C0.1 C0.2.1 dX8_orderOf_84 (lv_at hl 1 rfl) ?_
          refine lv_iload_n C0.1 C0.2.1 dX8_orderOf_86 rfl (lv_at hl 7 rfl) ?_
          refine lv_icmp_eq (tgt := 104) C0.1 C0.2.1 dX8_orderOf_87 (by decide) (fun c87 => ?_) (fun c87 => ?_)
          · refine lv_iconst (v := 0) C0.1 C0.2.1 dX8_orderOf_104 (by decide) ?_
            exact hJ105 _ ((if_neg (fun q => (fun q => q.1 c87) q.2)).symm)
          · refine lv_iload C0.1 C0.2.1 dX8_orderOf_90 (lv_at hl 4 rfl) ?_
            refine lv_iload C0.1 C0.2.1 dX8_orderOf_92 (lv_at hl 1 rfl) ?_
            refine lv_ishr C0.1 C0.2.1 dX8_orderOf_94 ?_
            refine lv_iconst (v := 1) C0.1 C0.2.1 dX8_orderOf_95 (by decide) ?_
            refine lv_iand C0.1 C0.2.1 dX8_orderOf_96 ?_
            refine lv_if_ne (tgt := 104) C0.1 C0.2.1 dX8_orderOf_97 (by decide) (fun c97 => ?_) (fun c97 => ?_)
            · refine lv_iconst (v := 0) C0.1 C0.2.1 dX8_orderOf_104 (by decide) ?_
              exact hJ105 _ ((if_neg (fun q => (fun q => c97 q.2) q.2)).symm)
            · refine lv_iconst (v := 1) C0.1 C0.2.1 dX8_orderOf_100 (by decide) ?_
              refine lv_goto (tgt := 105) C0.1 C0.2.1 dX8_orderOf_101 (by decide) ?_
              exact hJ105 _ ((if_pos ⟨c81, ⟨c87, c97⟩⟩).symm)
  exact lp23 626 0 (va_up sg 3 (upd (upd (upd (upd (upd (upd (upd (upd (sg 3) 0 (-1)) 1 (-1)) 2 (-1)) 3 (-1)) 4 (-1)) 5 (-1)) 6 (-1)) 7 (-1))) _ _ _ (by omega) (by omega) hRD (congrArg (sr_L (sr_f5 kp wo_) 625 0) (sr_fl8 (sg 3)).symm) hP hS (lv_sub hl [0, 1, 2, 3] rfl)
