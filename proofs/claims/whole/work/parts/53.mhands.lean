set_option maxRecDepth 100000 in
set_option maxHeartbeats 4000000 in
theorem cc_X8_hands {l : Launch} {D : va_G} {cI : ClassId} {a : Nat → Nat} (ha : ∀ i j, i < 13 → j < 13 → a i = a j → i = j) {kp cx sg : sr_M} (a_ : Nat) (b_ : Nat) (c_ : Nat) (d_ : Nat) (hRD : sr_RD kp sg) (ho1 : sg 4 1 = nI a_) (ho2 : sg 4 2 = nI b_) (ho3 : sg 4 3 = nI c_) (ho4 : sg 4 4 = nI d_) (hr_a_ : a_ < sr_cnt kp) (hr_b_ : b_ < sr_cnt kp) (hr_c_ : c_ < sr_cnt kp) (hr_d_ : d_ < sr_cnt kp) : sr_P l D (sr_tM cI) (sr_ZM) (sr_WM cI a kp cx sg) yX8_hands cX8_hands 5 (some .boolean) 0 0 [.ref (a 0)] (some (.int (if sr_hc kp a_ b_ c_ d_ then 1 else 0))) := by
  refine sr_Pze (by decide +kernel) (Nat.le_of_ble_eq_true rfl) (fun p e s m args below meth c ls Q B hret => ?_)
  obtain ⟨C0, hP, hK, hZ0, hl⟩ := B
  have hZ : sr_Zok (sr_AM a) (sr_ZM) := sr_ZMok
  have hS : va_S (sr_AM a) s.heap s.heap [] := va_S.rf
  have hl : lv_has ls 5 [(0, .ref (a 0))] := hl
  have hc5 := sr_cnt5 kp
  refine lv_iconst (v := 1) C0.1 C0.2.1 dX8_hands_0 (by decide) ?_
  refine lv_istore_n (lv' := [(1, .int 1), (0, .ref (a 0))]) C0.1 C0.2.1 dX8_hands_1 rfl hl (by decide) rfl (fun ls hl => ?_)
  refine lv_iconst (v := 1) C0.1 C0.2.1 dX8_hands_2 (by decide) ?_
  refine lv_istore_n (lv' := [(2, .int 1), (1, .int 1), (0, .ref (a 0))]) C0.1 C0.2.1 dX8_hands_3 rfl hl (by decide) rfl (fun ls hl => ?_)
  refine lv_iconst (v := 0) C0.1 C0.2.1 dX8_hands_4 (by decide) ?_
  refine lv_istore_n (lv' := [(3, .int 0), (2, .int 1), (1, .int 1), (0, .ref (a 0))]) C0.1 C0.2.1 dX8_hands_5 rfl hl (by decide) rfl (fun ls hl => ?_)
  refine lv_iload_n C0.1 C0.2.1 dX8_hands_6 rfl (lv_at hl 0 rfl) ?_
  refine lv_iconst (v := 4) C0.1 C0.2.1 dX8_hands_7 (by decide) ?_
  refine lv_icmp_ge (tgt := 90) C0.1 C0.2.1 dX8_hands_8 (by decide) (fun q => absurd q (by decide)) (fun _ => ?_)
  refine lv_aload_n C0.1 C0.2.1 dX8_hands_11 rfl (lv_at hl 3 rfl) ?_
  refine sr_get (v := .ref (a 6)) C0 hK hP sr_inX8 sr_wM0 rfl 9 (by decide) sw_619 rfl dX8_hands_12 ?_
  refine lv_iconst (v := 4) C0.1 C0.2.1 dX8_hands_15 (by decide) ?_
  refine lv_aload_n C0.1 C0.2.1 dX8_hands_16 rfl (lv_at hl 3 rfl) ?_
  refine sr_get (v := .ref (a 12)) C0 hK hP sr_inX8 sr_wM0 rfl 15 (by decide) sw_625 rfl dX8_hands_17 ?_
  refine lv_iconst (v := 1) C0.1 C0.2.1 dX8_hands_20 (by decide) ?_
  refine lv_iload_n C0.1 C0.2.1 dX8_hands_21 rfl (lv_at hl 0 rfl) ?_
  refine lv_iadd C0.1 C0.2.1 dX8_hands_22 ?_
  refine sr_chi (by decide : (1 + 0 : Int32) = 1) ?_
  refine sr_ald (k := 1) C0 hK rfl hP sr_wM12 (by decide) (sr_inc (by decide)) dX8_hands_23 ?_
  refine sr_chi ho1 ?_
  refine lv_imul C0.1 C0.2.1 dX8_hands_24 ?_
  refine sr_chi (pk_mul 4 a_) ?_
  refine lv_iconst (v := 3) C0.1 C0.2.1 dX8_hands_25 (by decide) ?_
  refine lv_iadd C0.1 C0.2.1 dX8_hands_26 ?_
  refine sr_chi (nI_add (4 * a_) 3) ?_
  refine sr_ald (k := (4 * a_) + 3) C0 hK rfl hP sr_wM6 (nI_clamp (by omega)) (vp_in_nI (by omega) (by omega)) dX8_hands_27 ?_
  refine sr_chi (hRD.2 a_ (by first | assumption | omega | exact sr_th_at hT (by omega)) 3 (by omega)) ?_
  refine lv_istore (lv' := [(4, .int (sr_fig kp a_ 3)), (3, .int 0), (2, .int 1), (1, .int 1), (0, .ref (a 0))]) C0.1 C0.2.1 dX8_hands_28 hl (by decide) rfl (fun ls hl => ?_)
  refine lv_iload_n C0.1 C0.2.1 dX8_hands_30 rfl (lv_at hl 3 rfl) ?_
  refine lv_if_eq (tgt := 55) C0.1 C0.2.1 dX8_hands_31 (by decide) (fun q => absurd q (by decide)) (fun _ => ?_)
  refine lv_iload C0.1 C0.2.1 dX8_hands_34 (lv_at hl 0 rfl) ?_
  refine lv_iload_n C0.1 C0.2.1 dX8_hands_36 rfl (lv_at hl 1 rfl) ?_
  refine lv_iconst (v := 2) C0.1 C0.2.1 dX8_hands_37 (by decide) ?_
  refine lv_irem C0.1 C0.2.1 dX8_hands_38 (by decide) ?_
  refine sr_chi (by decide : (0 - 0 / 2 * 2 : Int32) = 0) ?_
  refine lv_if_ne (tgt := 46) C0.1 C0.2.1 dX8_hands_39 (by decide) (fun q => absurd q (by decide)) (fun _ => ?_)
  refine lv_iconst (v := 1) C0.1 C0.2.1 dX8_hands_42 (by decide) ?_
  refine lv_goto (tgt := 47) C0.1 C0.2.1 dX8_hands_43 (by decide) ?_
  refine lv_iand C0.1 C0.2.1 dX8_hands_47 ?_
  have hJ56 : ∀ (k56_0 : Int32), k56_0 = (if ¬ (((sr_fig kp a_ 3) &&& 1) = 0) then 1 else 0) → W p l e (sr_rm 0 0) s m args below meth c s.heap [] 0 0 Q (F0 m 56 ls [.int k56_0]) := by
    intro k56_0 e_k56_0
    subst e_k56_0
    refine lv_istore_n (lv' := [(1, .int (if ¬ (((sr_fig kp a_ 3) &&& 1) = 0) then 1 else 0)), (4, .int (sr_fig kp a_ 3)), (3, .int 0), (2, .int 1), (0, .ref (a 0))]) C0.1 C0.2.1 dX8_hands_56 rfl hl (by decide) rfl (fun ls hl => ?_)
    refine lv_iload_n C0.1 C0.2.1 dX8_hands_57 rfl (lv_at hl 3 rfl) ?_
    refine lv_if_eq (tgt := 82) C0.1 C0.2.1 dX8_hands_58 (by decide) (fun q => absurd q (by decide)) (fun _ => ?_)
    refine lv_iload C0.1 C0.2.1 dX8_hands_61 (lv_at hl 1 rfl) ?_
    refine lv_iload_n C0.1 C0.2.1 dX8_hands_63 rfl (lv_at hl 2 rfl) ?_
    refine lv_iconst (v := 2) C0.1 C0.2.1 dX8_hands_64 (by decide) ?_
    refine lv_irem C0.1 C0.2.1 dX8_hands_65 (by decide) ?_
    refine sr_chi (by decide : (0 - 0 / 2 * 2 : Int32) = 0) ?_
    refine lv_if_ne (tgt := 73) C0.1 C0.2.1 dX8_hands_66 (by decide) (fun q => absurd q (by decide)) (fun _ => ?_)
    refine lv_iconst (v := 2) C0.1 C0.2.1 dX8_hands_69 (by decide) ?_
    refine lv_goto (tgt := 74) C0.1 C0.2.1 dX8_hands_70 (by decide) ?_
    refine lv_iand C0.1 C0.2.1 dX8_hands_74 ?_
    have hJ83 : ∀ (k83_0 : Int32), k83_0 = (if ¬ (((sr_fig kp a_ 3) &&& 2) = 0) then 1 else 0) → W p l e (sr_rm 0 0) s m args below meth c s.heap [] 0 0 Q (F0 m 83 ls [.int k83_0]) := by
      intro k83_0 e_k83_0
      subst e_k83_0
      refine lv_istore_n (lv' := [(2, .int (if ¬ (((sr_fig kp a_ 3) &&& 2) = 0) then 1 else 0)), (1, .int (if ¬ (((sr_fig kp a_ 3) &&& 1) = 0) then 1 else 0)), (4, .int (sr_fig kp a_ 3)), (3, .int 0), (0, .ref (a 0))]) C0.1 C0.2.1 dX8_hands_83 rfl hl (by decide) rfl (fun ls hl => ?_)
      refine lv_iinc (v := 1) (lv' := [(3, .int 1), (2, .int (if ¬ (((sr_fig kp a_ 3) &&& 2) = 0) then 1 else 0)), (1, .int (if ¬ (((sr_fig kp a_ 3) &&& 1) = 0) then 1 else 0)), (4, .int (sr_fig kp a_ 3)), (0, .ref (a 0))]) C0.1 C0.2.1 dX8_hands_84 hl (k := 3) rfl (by decide) (by decide) rfl (fun ls hl => ?_)
      refine lv_goto (tgt := 6) C0.1 C0.2.1 dX8_hands_87 (by decide) ?_
      refine lv_iload_n C0.1 C0.2.1 dX8_hands_6 rfl (lv_at hl 0 rfl) ?_
      refine lv_iconst (v := 4) C0.1 C0.2.1 dX8_hands_7 (by decide) ?_
      refine lv_icmp_ge (tgt := 90) C0.1 C0.2.1 dX8_hands_8 (by decide) (fun q => absurd q (by decide)) (fun _ => ?_)
      refine lv_aload_n C0.1 C0.2.1 dX8_hands_11 rfl (lv_at hl 4 rfl) ?_
      refine sr_get (v := .ref (a 6)) C0 hK hP sr_inX8 sr_wM0 rfl 9 (by decide) sw_619 rfl dX8_hands_12 ?_
      refine lv_iconst (v := 4) C0.1 C0.2.1 dX8_hands_15 (by decide) ?_
      refine lv_aload_n C0.1 C0.2.1 dX8_hands_16 rfl (lv_at hl 4 rfl) ?_
      refine sr_get (v := .ref (a 12)) C0 hK hP sr_inX8 sr_wM0 rfl 15 (by decide) sw_625 rfl dX8_hands_17 ?_
      refine lv_iconst (v := 1) C0.1 C0.2.1 dX8_hands_20 (by decide) ?_
      refine lv_iload_n C0.1 C0.2.1 dX8_hands_21 rfl (lv_at hl 0 rfl) ?_
      refine lv_iadd C0.1 C0.2.1 dX8_hands_22 ?_
      refine sr_chi (by decide : (1 + 1 : Int32) = 2) ?_
      refine sr_ald (k := 2) C0 hK rfl hP sr_wM12 (by decide) (sr_inc (by decide)) dX8_hands_23 ?_
      refine sr_chi ho2 ?_
      refine lv_imul C0.1 C0.2.1 dX8_hands_24 ?_
      refine sr_chi (pk_mul 4 b_) ?_
      refine lv_iconst (v := 3) C0.1 C0.2.1 dX8_hands_25 (by decide) ?_
      refine lv_iadd C0.1 C0.2.1 dX8_hands_26 ?_
      refine sr_chi (nI_add (4 * b_) 3) ?_
      refine sr_ald (k := (4 * b_) + 3) C0 hK rfl hP sr_wM6 (nI_clamp (by omega)) (vp_in_nI (by omega) (by omega)) dX8_hands_27 ?_
      refine sr_chi (hRD.2 b_ (by first | assumption | omega | exact sr_th_at hT (by omega)) 3 (by omega)) ?_
      refine lv_istore (lv' := [(4, .int (sr_fig kp b_ 3)), (3, .int 1), (2, .int (if ¬ (((sr_fig kp a_ 3) &&& 2) = 0) then 1 else 0)), (1, .int (if ¬ (((sr_fig kp a_ 3) &&& 1) = 0) then 1 else 0)), (0, .ref (a 0))]) C0.1 C0.2.1 dX8_hands_28 hl (by decide) rfl (fun ls hl => ?_)
      refine lv_iload_n C0.1 C0.2.1 dX8_hands_30 rfl (lv_at hl 3 rfl) ?_
      have hJ56_2 : ∀ (k56_0 : Int32), k56_0 = (if (¬ (((sr_fig kp a_ 3) &&& 1) = 0)) ∧ (¬ (((sr_fig kp b_ 3) &&& 2) = 0)) then 1 else 0) → W p l e (sr_rm 0 0) s m args below meth c s.heap [] 0 0 Q (F0 m 56 ls [.int k56_0]) := by
        intro k56_0 e_k56_0
        subst e_k56_0
        refine lv_istore_n (lv' := [(1, .int (if (¬ (((sr_fig kp a_ 3) &&& 1) = 0)) ∧ (¬ (((sr_fig kp b_ 3) &&& 2) = 0)) then 1 else 0)), (4, .int (sr_fig kp b_ 3)), (3, .int 1), (2, .int (if ¬ (((sr_fig kp a_ 3) &&& 2) = 0) then 1 else 0)), (0, .ref (a 0))]) C0.1 C0.2.1 dX8_hands_56 rfl hl (by decide) rfl (fun ls hl => ?_)
        refine lv_iload_n C0.1 C0.2.1 dX8_hands_57 rfl (lv_at hl 3 rfl) ?_
        have hJ83_2 : ∀ (k83_0 : Int32), k83_0 = (if (¬ (((sr_fig kp a_ 3) &&& 2) = 0)) ∧ (¬ (((sr_fig kp b_ 3) &&& 1) = 0)) then 1 else 0) → W p l e (sr_rm 0 0) s m args below meth c s.heap [] 0 0 Q (F0 m 83 ls [.int k83_0]) := by
          intro k83_0 e_k83_0
          subst e_k83_0
          refine lv_istore_n (lv' := [(2, .int (if (¬ (((sr_fig kp a_ 3) &&& 2) = 0)) ∧ (¬ (((sr_fig kp b_ 3) &&& 1) = 0)) then 1 else 0)), (1, .int (if (¬ (((sr_fig kp a_ 3) &&& 1) = 0)) ∧ (¬ (((sr_fig kp b_ 3) &&& 2) = 0)) then 1 else 0)), (4, .int (sr_fig kp b_ 3)), (3, .int 1), (0, .ref (a 0))]) C0.1 C0.2.1 dX8_hands_83 rfl hl (by decide) rfl (fun ls hl => ?_)
          refine lv_iinc (v := 2) (lv' := [(3, .int 2), (2, .int (if (¬ (((sr_fig kp a_ 3) &&& 2) = 0)) ∧ (¬ (((sr_fig kp b_ 3) &&& 1) = 0)) then 1 else 0)), (1, .int (if (¬ (((sr_fig kp a_ 3) &&& 1) = 0)) ∧ (¬ (((sr_fig kp b_ 3) &&& 2) = 0)) then 1 else 0)), (4, .int (sr_fig kp b_ 3)), (0, .ref (a 0))]) C0.1 C0.2.1 dX8_hands_84 hl (k := 3) rfl (by decide) (by decide) rfl (fun ls hl => ?_)
          refine lv_goto (tgt := 6) C0.1 C0.2.1 dX8_hands_87 (by decide) ?_
          refine lv_iload_n C0.1 C0.2.1 dX8_hands_6 rfl (lv_at hl 0 rfl) ?_
          refine lv_iconst (v := 4) C0.1 C0.2.1 dX8_hands_7 (by decide) ?_
          refine lv_icmp_ge (tgt := 90) C0.1 C0.2.1 dX8_hands_8 (by decide) (fun q => absurd q (by decide)) (fun _ => ?_)
          refine lv_aload_n C0.1 C0.2.1 dX8_hands_11 rfl (lv_at hl 4 rfl) ?_
          refine sr_get (v := .ref (a 6)) C0 hK hP sr_inX8 sr_wM0 rfl 9 (by decide) sw_619 rfl dX8_hands_12 ?_
          refine lv_iconst (v := 4) C0.1 C0.2.1 dX8_hands_15 (by decide) ?_
          refine lv_aload_n C0.1 C0.2.1 dX8_hands_16 rfl (lv_at hl 4 rfl) ?_
          refine sr_get (v := .ref (a 12)) C0 hK hP sr_inX8 sr_wM0 rfl 15 (by decide) sw_625 rfl dX8_hands_17 ?_
          refine lv_iconst (v := 1) C0.1 C0.2.1 dX8_hands_20 (by decide) ?_
          refine lv_iload_n C0.1 C0.2.1 dX8_hands_21 rfl (lv_at hl 0 rfl) ?_
          refine lv_iadd C0.1 C0.2.1 dX8_hands_22 ?_
          refine sr_chi (by decide : (1 + 2 : Int32) = 3) ?_
          refine sr_ald (k := 3) C0 hK rfl hP sr_wM12 (by decide) (sr_inc (by decide)) dX8_hands_23 ?_
          refine sr_chi ho3 ?_
          refine lv_imul C0.1 C0.2.1 dX8_hands_24 ?_
          refine sr_chi (pk_mul 4 c_) ?_
          refine lv_iconst (v := 3) C0.1 C0.2.1 dX8_hands_25 (by decide) ?_
          refine lv_iadd C0.1 C0.2.1 dX8_hands_26 ?_
          refine sr_chi (nI_add (4 * c_) 3) ?_
          refine sr_ald (k := (4 * c_) + 3) C0 hK rfl hP sr_wM6 (nI_clamp (by omega)) (vp_in_nI (by omega) (by omega)) dX8_hands_27 ?_
          refine sr_chi (hRD.2 c_ (by first | assumption | omega | exact sr_th_at hT (by omega)) 3 (by omega)) ?_
          refine lv_istore (lv' := [(4, .int (sr_fig kp c_ 3)), (3, .int 2), (2, .int (if (¬ (((sr_fig kp a_ 3) &&& 2) = 0)) ∧ (¬ (((sr_fig kp b_ 3) &&& 1) = 0)) then 1 else 0)), (1, .int (if (¬ (((sr_fig kp a_ 3) &&& 1) = 0)) ∧ (¬ (((sr_fig kp b_ 3) &&& 2) = 0)) then 1 else 0)), (0, .ref (a 0))]) C0.1 C0.2.1 dX8_hands_28 hl (by decide) rfl (fun ls hl => ?_)
          refine lv_iload_n C0.1 C0.2.1 dX8_hands_30 rfl (lv_at hl 3 rfl) ?_
          have hJ56_3 : ∀ (k56_0 : Int32), k56_0 = (if ((¬ (((sr_fig kp a_ 3) &&& 1) = 0)) ∧ (¬ (((sr_fig kp b_ 3) &&& 2) = 0))) ∧ (¬ (((sr_fig kp c_ 3) &&& 1) = 0)) then 1 else 0) → W p l e (sr_rm 0 0) s m args below meth c s.heap [] 0 0 Q (F0 m 56 ls [.int k56_0]) := by
            intro k56_0 e_k56_0
            subst e_k56_0
            refine lv_istore_n (lv' := [(1, .int (if ((¬ (((sr_fig kp a_ 3) &&& 1) = 0)) ∧ (¬ (((sr_fig kp b_ 3) &&& 2) = 0))) ∧ (¬ (((sr_fig kp c_ 3) &&& 1) = 0)) then 1 else 0)), (4, .int (sr_fig kp c_ 3)), (3, .int 2), (2, .int (if (¬ (((sr_fig kp a_ 3) &&& 2) = 0)) ∧ (¬ (((sr_fig kp b_ 3) &&& 1) = 0)) then 1 else 0)), (0, .ref (a 0))]) C0.1 C0.2.1 dX8_hands_56 rfl hl (by decide) rfl (fun ls hl => ?_)
            refine lv_iload_n C0.1 C0.2.1 dX8_hands_57 rfl (lv_at hl 3 rfl) ?_
            have hJ83_3 : ∀ (k83_0 : Int32), k83_0 = (if ((¬ (((sr_fig kp a_ 3) &&& 2) = 0)) ∧ (¬ (((sr_fig kp b_ 3) &&& 1) = 0))) ∧ (¬ (((sr_fig kp c_ 3) &&& 2) = 0)) then 1 else 0) → W p l e (sr_rm 0 0) s m args below meth c s.heap [] 0 0 Q (F0 m 83 ls [.int k83_0]) := by
              intro k83_0 e_k83_0
              subst e_k83_0
              refine lv_istore_n (lv' := [(2, .int (if ((¬ (((sr_fig kp a_ 3) &&& 2) = 0)) ∧ (¬ (((sr_fig kp b_ 3) &&& 1) = 0))) ∧ (¬ (((sr_fig kp c_ 3) &&& 2) = 0)) then 1 else 0)), (1, .int (if ((¬ (((sr_fig kp a_ 3) &&& 1) = 0)) ∧ (¬ (((sr_fig kp b_ 3) &&& 2) = 0))) ∧ (¬ (((sr_fig kp c_ 3) &&& 1) = 0)) then 1 else 0)), (4, .int (sr_fig kp c_ 3)), (3, .int 2), (0, .ref (a 0))]) C0.1 C0.2.1 dX8_hands_83 rfl hl (by decide) rfl (fun ls hl => ?_)
              refine lv_iinc (v := 3) (lv' := [(3, .int 3), (2, .int (if ((¬ (((sr_fig kp a_ 3) &&& 2) = 0)) ∧ (¬ (((sr_fig kp b_ 3) &&& 1) = 0))) ∧ (¬ (((sr_fig kp c_ 3) &&& 2) = 0)) then 1 else 0)), (1, .int (if ((¬ (((sr_fig kp a_ 3) &&& 1) = 0)) ∧ (¬ (((sr_fig kp b_ 3) &&& 2) = 0))) ∧ (¬ (((sr_fig kp c_ 3) &&& 1) = 0)) then 1 else 0)), (4, .int (sr_fig kp c_ 3)), (0, .ref (a 0))]) C0.1 C0.2.1 dX8_hands_84 hl (k := 3) rfl (by decide) (by decide) rfl (fun ls hl => ?_)
              refine lv_goto (tgt := 6) C0.1 C0.2.1 dX8_hands_87 (by decide) ?_
              refine lv_iload_n C0.1 C0.2.1 dX8_hands_6 rfl (lv_at hl 0 rfl) ?_
              refine lv_iconst (v := 4) C0.1 C0.2.1 dX8_hands_7 (by decide) ?_
              refine lv_icmp_ge (tgt := 90) C0.1 C0.2.1 dX8_hands_8 (by decide) (fun q => absurd q (by decide)) (fun _ => ?_)
              refine lv_aload_n C0.1 C0.2.1 dX8_hands_11 rfl (lv_at hl 4 rfl) ?_
              refine sr_get (v := .ref (a 6)) C0 hK hP sr_inX8 sr_wM0 rfl 9 (by decide) sw_619 rfl dX8_hands_12 ?_
              refine lv_iconst (v := 4) C0.1 C0.2.1 dX8_hands_15 (by decide) ?_
              refine lv_aload_n C0.1 C0.2.1 dX8_hands_16 rfl (lv_at hl 4 rfl) ?_
              refine sr_get (v := .ref (a 12)) C0 hK hP sr_inX8 sr_wM0 rfl 15 (by decide) sw_625 rfl dX8_hands_17 ?_
              refine lv_iconst (v := 1) C0.1 C0.2.1 dX8_hands_20 (by decide) ?_
              refine lv_iload_n C0.1 C0.2.1 dX8_hands_21 rfl (lv_at hl 0 rfl) ?_
              refine lv_iadd C0.1 C0.2.1 dX8_hands_22 ?_
              refine sr_chi (by decide : (1 + 3 : Int32) = 4) ?_
              refine sr_ald (k := 4) C0 hK rfl hP sr_wM12 (by decide) (sr_inc (by decide)) dX8_hands_23 ?_
              refine sr_chi ho4 ?_
              refine lv_imul C0.1 C0.2.1 dX8_hands_24 ?_
              refine sr_chi (pk_mul 4 d_) ?_
              refine lv_iconst (v := 3) C0.1 C0.2.1 dX8_hands_25 (by decide) ?_
              refine lv_iadd C0.1 C0.2.1 dX8_hands_26 ?_
              refine sr_chi (nI_add (4 * d_) 3) ?_
              refine sr_ald (k := (4 * d_) + 3) C0 hK rfl hP sr_wM6 (nI_clamp (by omega)) (vp_in_nI (by omega) (by omega)) dX8_hands_27 ?_
              refine sr_chi (hRD.2 d_ (by first | assumption | omega | exact sr_th_at hT (by omega)) 3 (by omega)) ?_
              refine lv_istore (lv' := [(4, .int (sr_fig kp d_ 3)), (3, .int 3), (2, .int (if ((¬ (((sr_fig kp a_ 3) &&& 2) = 0)) ∧ (¬ (((sr_fig kp b_ 3) &&& 1) = 0))) ∧ (¬ (((sr_fig kp c_ 3) &&& 2) = 0)) then 1 else 0)), (1, .int (if ((¬ (((sr_fig kp a_ 3) &&& 1) = 0)) ∧ (¬ (((sr_fig kp b_ 3) &&& 2) = 0))) ∧ (¬ (((sr_fig kp c_ 3) &&& 1) = 0)) then 1 else 0)), (0, .ref (a 0))]) C0.1 C0.2.1 dX8_hands_28 hl (by decide) rfl (fun ls hl => ?_)
              refine lv_iload_n C0.1 C0.2.1 dX8_hands_30 rfl (lv_at hl 3 rfl) ?_
              have hJ56_4 : ∀ (k56_0 : Int32), k56_0 = (if (((¬ (((sr_fig kp a_ 3) &&& 1) = 0)) ∧ (¬ (((sr_fig kp b_ 3) &&& 2) = 0))) ∧ (¬ (((sr_fig kp c_ 3) &&& 1) = 0))) ∧ (¬ (((sr_fig kp d_ 3) &&& 2) = 0)) then 1 else 0) → W p l e (sr_rm 0 0) s m args below meth c s.heap [] 0 0 Q (F0 m 56 ls [.int k56_0]) := by
                intro k56_0 e_k56_0
                subst e_k56_0
                refine lv_istore_n (lv' := [(1, .int (if (((¬ (((sr_fig kp a_ 3) &&& 1) = 0)) ∧ (¬ (((sr_fig kp b_ 3) &&& 2) = 0))) ∧ (¬ (((sr_fig kp c_ 3) &&& 1) = 0))) ∧ (¬ (((sr_fig kp d_ 3) &&& 2) = 0)) then 1 else 0)), (4, .int (sr_fig kp d_ 3)), (3, .int 3), (2, .int (if ((¬ (((sr_fig kp a_ 3) &&& 2) = 0)) ∧ (¬ (((sr_fig kp b_ 3) &&& 1) = 0))) ∧ (¬ (((sr_fig kp c_ 3) &&& 2) = 0)) then 1 else 0)), (0, .ref (a 0))]) C0.1 C0.2.1 dX8_hands_56 rfl hl (by decide) rfl (fun ls hl => ?_)
                refine lv_iload_n C0.1 C0.2.1 dX8_hands_57 rfl (lv_at hl 3 rfl) ?_
                have hJ83_4 : ∀ (k83_0 : Int32), k83_0 = (if (((¬ (((sr_fig kp a_ 3) &&& 2) = 0)) ∧ (¬ (((sr_fig kp b_ 3) &&& 1) = 0))) ∧ (¬ (((sr_fig kp c_ 3) &&& 2) = 0))) ∧ (¬ (((sr_fig kp d_ 3) &&& 1) = 0)) then 1 else 0) → W p l e (sr_rm 0 0) s m args below meth c s.heap [] 0 0 Q (F0 m 83 ls [.int k83_0]) := by
                  intro k83_0 e_k83_0
                  subst e_k83_0
                  refine lv_istore_n (lv' := [(2, .int (if (((¬ (((sr_fig kp a_ 3) &&& 2) = 0)) ∧ (¬ (((sr_fig kp b_ 3) &&& 1) = 0))) ∧ (¬ (((sr_fig kp c_ 3) &&& 2) = 0))) ∧ (¬ (((sr_fig kp d_ 3) &&& 1) = 0)) then 1 else 0)), (1, .int (if (((¬ (((sr_fig kp a_ 3) &&& 1) = 0)) ∧ (¬ (((sr_fig kp b_ 3) &&& 2) = 0))) ∧ (¬ (((sr_fig kp c_ 3) &&& 1) = 0))) ∧ (¬ (((sr_fig kp d_ 3) &&& 2) = 0)) then 1 else 0)), (4, .int (sr_fig kp d_ 3)), (3, .int 3), (0, .ref (a 0))]) C0.1 C0.2.1 dX8_hands_83 rfl hl (by decide) rfl (fun ls hl => ?_)
                  refine lv_iinc (v := 4) (lv' := [(3, .int 4), (2, .int (if (((¬ (((sr_fig kp a_ 3) &&& 2) = 0)) ∧ (¬ (((sr_fig kp b_ 3) &&& 1) = 0))) ∧ (¬ (((sr_fig kp c_ 3) &&& 2) = 0))) ∧ (¬ (((sr_fig kp d_ 3) &&& 1) = 0)) then 1 else 0)), (1, .int (if (((¬ (((sr_fig kp a_ 3) &&& 1) = 0)) ∧ (¬ (((sr_fig kp b_ 3) &&& 2) = 0))) ∧ (¬ (((sr_fig kp c_ 3) &&& 1) = 0))) ∧ (¬ (((sr_fig kp d_ 3) &&& 2) = 0)) then 1 else 0)), (4, .int (sr_fig kp d_ 3)), (0, .ref (a 0))]) C0.1 C0.2.1 dX8_hands_84 hl (k := 3) rfl (by decide) (by decide) rfl (fun ls hl => ?_)
                  refine lv_goto (tgt := 6) C0.1 C0.2.1 dX8_hands_87 (by decide) ?_
                  refine lv_iload_n C0.1 C0.2.1 dX8_hands_6 rfl (lv_at hl 0 rfl) ?_
                  refine lv_iconst (v := 4) C0.1 C0.2.1 dX8_hands_7 (by decide) ?_
                  refine lv_icmp_ge (tgt := 90) C0.1 C0.2.1 dX8_hands_8 (by decide) (fun _ => ?_) (fun q => absurd q (by decide))
                  refine lv_iload_n C0.1 C0.2.1 dX8_hands_90 rfl (lv_at hl 2 rfl) ?_
                  refine sr_ifne (tgt := 98) C0 dX8_hands_91 (by decide) (fun c91 => ?_) (fun c91 => ?_)
                  · refine lv_iconst (v := 1) C0.1 C0.2.1 dX8_hands_98 (by decide) ?_
                    refine lv_goto (tgt := 103) C0.1 C0.2.1 dX8_hands_99 (by decide) ?_
                    exact hret _ _ _ dX8_hands_103 (if_pos ((sr_hcE (sr_fgh hr_a_) (sr_fgh hr_b_) (sr_fgh hr_c_) (sr_fgh hr_d_)).mpr (Or.inl c91))).symm
                  · refine lv_iload_n C0.1 C0.2.1 dX8_hands_94 rfl (lv_at hl 1 rfl) ?_
                    refine sr_ifeq (tgt := 102) C0 dX8_hands_95 (by decide) (fun c95 => ?_) (fun c95 => ?_)
                    · refine lv_iconst (v := 0) C0.1 C0.2.1 dX8_hands_102 (by decide) ?_
                      exact hret _ _ _ dX8_hands_103 (if_neg (fun q => ((sr_hcE (sr_fgh hr_a_) (sr_fgh hr_b_) (sr_fgh hr_c_) (sr_fgh hr_d_)).mp q).elim c91 c95)).symm
                    · refine lv_iconst (v := 1) C0.1 C0.2.1 dX8_hands_98 (by decide) ?_
                      refine lv_goto (tgt := 103) C0.1 C0.2.1 dX8_hands_99 (by decide) ?_
                      exact hret _ _ _ dX8_hands_103 (if_pos ((sr_hcE (sr_fgh hr_a_) (sr_fgh hr_b_) (sr_fgh hr_c_) (sr_fgh hr_d_)).mpr (Or.inr c95))).symm
                refine sr_ifeq (tgt := 82) C0 dX8_hands_58 (by decide) (fun c58_4 => ?_) (fun c58_4 => ?_)
                · refine lv_iconst (v := 0) C0.1 C0.2.1 dX8_hands_82 (by decide) ?_
                  exact hJ83_4 _ ((if_neg (fun q => c58_4 q.1)).symm)
                · refine lv_iload C0.1 C0.2.1 dX8_hands_61 (lv_at hl 1 rfl) ?_
                  refine lv_iload_n C0.1 C0.2.1 dX8_hands_63 rfl (lv_at hl 2 rfl) ?_
                  refine lv_iconst (v := 2) C0.1 C0.2.1 dX8_hands_64 (by decide) ?_
                  refine lv_irem C0.1 C0.2.1 dX8_hands_65 (by decide) ?_
                  refine sr_chi (by decide : (3 - 3 / 2 * 2 : Int32) = 1) ?_
                  refine lv_if_ne (tgt := 73) C0.1 C0.2.1 dX8_hands_66 (by decide) (fun _ => ?_) (fun q => absurd q (by decide))
                  refine lv_iconst (v := 1) C0.1 C0.2.1 dX8_hands_73 (by decide) ?_
                  refine lv_iand C0.1 C0.2.1 dX8_hands_74 ?_
                  refine lv_if_eq (tgt := 82) C0.1 C0.2.1 dX8_hands_75 (by decide) (fun c75_2 => ?_) (fun c75_2 => ?_)
                  · refine lv_iconst (v := 0) C0.1 C0.2.1 dX8_hands_82 (by decide) ?_
                    exact hJ83_4 _ ((if_neg (fun q => (fun q => q c75_2) q.2)).symm)
                  · refine lv_iconst (v := 1) C0.1 C0.2.1 dX8_hands_78 (by decide) ?_
                    refine lv_goto (tgt := 83) C0.1 C0.2.1 dX8_hands_79 (by decide) ?_
                    exact hJ83_4 _ ((if_pos ⟨c58_4, c75_2⟩).symm)
              refine sr_ifeq (tgt := 55) C0 dX8_hands_31 (by decide) (fun c31_4 => ?_) (fun c31_4 => ?_)
              · refine lv_iconst (v := 0) C0.1 C0.2.1 dX8_hands_55 (by decide) ?_
                exact hJ56_4 _ ((if_neg (fun q => c31_4 q.1)).symm)
              · refine lv_iload C0.1 C0.2.1 dX8_hands_34 (lv_at hl 0 rfl) ?_
                refine lv_iload_n C0.1 C0.2.1 dX8_hands_36 rfl (lv_at hl 1 rfl) ?_
                refine lv_iconst (v := 2) C0.1 C0.2.1 dX8_hands_37 (by decide) ?_
                refine lv_irem C0.1 C0.2.1 dX8_hands_38 (by decide) ?_
                refine sr_chi (by decide : (3 - 3 / 2 * 2 : Int32) = 1) ?_
                refine lv_if_ne (tgt := 46) C0.1 C0.2.1 dX8_hands_39 (by decide) (fun _ => ?_) (fun q => absurd q (by decide))
                refine lv_iconst (v := 2) C0.1 C0.2.1 dX8_hands_46 (by decide) ?_
                refine lv_iand C0.1 C0.2.1 dX8_hands_47 ?_
                refine lv_if_eq (tgt := 55) C0.1 C0.2.1 dX8_hands_48 (by decide) (fun c48_2 => ?_) (fun c48_2 => ?_)
                · refine lv_iconst (v := 0) C0.1 C0.2.1 dX8_hands_55 (by decide) ?_
                  exact hJ56_4 _ ((if_neg (fun q => (fun q => q c48_2) q.2)).symm)
                · refine lv_iconst (v := 1) C0.1 C0.2.1 dX8_hands_51 (by decide) ?_
                  refine lv_goto (tgt := 56) C0.1 C0.2.1 dX8_hands_52 (by decide) ?_
                  exact hJ56_4 _ ((if_pos ⟨c31_4, c48_2⟩).symm)
            refine sr_ifeq (tgt := 82) C0 dX8_hands_58 (by decide) (fun c58_3 => ?_) (fun c58_3 => ?_)
            · refine lv_iconst (v := 0) C0.1 C0.2.1 dX8_hands_82 (by decide) ?_
              exact hJ83_3 _ ((if_neg (fun q => c58_3 q.1)).symm)
            · refine lv_iload C0.1 C0.2.1 dX8_hands_61 (lv_at hl 1 rfl) ?_
              refine lv_iload_n C0.1 C0.2.1 dX8_hands_63 rfl (lv_at hl 2 rfl) ?_
              refine lv_iconst (v := 2) C0.1 C0.2.1 dX8_hands_64 (by decide) ?_
              refine lv_irem C0.1 C0.2.1 dX8_hands_65 (by decide) ?_
              refine sr_chi (by decide : (2 - 2 / 2 * 2 : Int32) = 0) ?_
              refine lv_if_ne (tgt := 73) C0.1 C0.2.1 dX8_hands_66 (by decide) (fun q => absurd q (by decide)) (fun _ => ?_)
              refine lv_iconst (v := 2) C0.1 C0.2.1 dX8_hands_69 (by decide) ?_
              refine lv_goto (tgt := 74) C0.1 C0.2.1 dX8_hands_70 (by decide) ?_
              refine lv_iand C0.1 C0.2.1 dX8_hands_74 ?_
              refine lv_if_eq (tgt := 82) C0.1 C0.2.1 dX8_hands_75 (by decide) (fun c75_2 => ?_) (fun c75_2 => ?_)
              · refine lv_iconst (v := 0) C0.1 C0.2.1 dX8_hands_82 (by decide) ?_
                exact hJ83_3 _ ((if_neg (fun q => (fun q => q c75_2) q.2)).symm)
              · refine lv_iconst (v := 1) C0.1 C0.2.1 dX8_hands_78 (by decide) ?_
                refine lv_goto (tgt := 83) C0.1 C0.2.1 dX8_hands_79 (by decide) ?_
                exact hJ83_3 _ ((if_pos ⟨c58_3, c75_2⟩).symm)
          refine sr_ifeq (tgt := 55) C0 dX8_hands_31 (by decide) (fun c31_3 => ?_) (fun c31_3 => ?_)
          · refine lv_iconst (v := 0) C0.1 C0.2.1 dX8_hands_55 (by decide) ?_
            exact hJ56_3 _ ((if_neg (fun q => c31_3 q.1)).symm)
          · refine lv_iload C0.1 C0.2.1 dX8_hands_34 (lv_at hl 0 rfl) ?_
            refine lv_iload_n C0.1 C0.2.1 dX8_hands_36 rfl (lv_at hl 1 rfl) ?_
            refine lv_iconst (v := 2) C0.1 C0.2.1 dX8_hands_37 (by decide) ?_
            refine lv_irem C0.1 C0.2.1 dX8_hands_38 (by decide) ?_
            refine sr_chi (by decide : (2 - 2 / 2 * 2 : Int32) = 0) ?_
            refine lv_if_ne (tgt := 46) C0.1 C0.2.1 dX8_hands_39 (by decide) (fun q => absurd q (by decide)) (fun _ => ?_)
            refine lv_iconst (v := 1) C0.1 C0.2.1 dX8_hands_42 (by decide) ?_
            refine lv_goto (tgt := 47) C0.1 C0.2.1 dX8_hands_43 (by decide) ?_
            refine lv_iand C0.1 C0.2.1 dX8_hands_47 ?_
            refine lv_if_eq (tgt := 55) C0.1 C0.2.1 dX8_hands_48 (by decide) (fun c48_2 => ?_) (fun c48_2 => ?_)
            · refine lv_iconst (v := 0) C0.1 C0.2.1 dX8_hands_55 (by decide) ?_
              exact hJ56_3 _ ((if_neg (fun q => (fun q => q c48_2) q.2)).symm)
            · refine lv_iconst (v := 1) C0.1 C0.2.1 dX8_hands_51 (by decide) ?_
              refine lv_goto (tgt := 56) C0.1 C0.2.1 dX8_hands_52 (by decide) ?_
              exact hJ56_3 _ ((if_pos ⟨c31_3, c48_2⟩).symm)
        refine sr_ifeq (tgt := 82) C0 dX8_hands_58 (by decide) (fun c58_2 => ?_) (fun c58_2 => ?_)
        · refine lv_iconst (v := 0) C0.1 C0.2.1 dX8_hands_82 (by decide) ?_
          exact hJ83_2 _ ((if_neg (fun q => c58_2 q.1)).symm)
        · refine lv_iload C0.1 C0.2.1 dX8_hands_61 (lv_at hl 1 rfl) ?_
          refine lv_iload_n C0.1 C0.2.1 dX8_hands_63 rfl (lv_at hl 2 rfl) ?_
          refine lv_iconst (v := 2) C0.1 C0.2.1 dX8_hands_64 (by decide) ?_
          refine lv_irem C0.1 C0.2.1 dX8_hands_65 (by decide) ?_
          refine sr_chi (by decide : (1 - 1 / 2 * 2 : Int32) = 1) ?_
          refine lv_if_ne (tgt := 73) C0.1 C0.2.1 dX8_hands_66 (by decide) (fun _ => ?_) (fun q => absurd q (by decide))
          refine lv_iconst (v := 1) C0.1 C0.2.1 dX8_hands_73 (by decide) ?_
          refine lv_iand C0.1 C0.2.1 dX8_hands_74 ?_
          refine lv_if_eq (tgt := 82) C0.1 C0.2.1 dX8_hands_75 (by decide) (fun c75_2 => ?_) (fun c75_2 => ?_)
          · refine lv_iconst (v := 0) C0.1 C0.2.1 dX8_hands_82 (by decide) ?_
            exact hJ83_2 _ ((if_neg (fun q => (fun q => q c75_2) q.2)).symm)
          · refine lv_iconst (v := 1) C0.1 C0.2.1 dX8_hands_78 (by decide) ?_
            refine lv_goto (tgt := 83) C0.1 C0.2.1 dX8_hands_79 (by decide) ?_
            exact hJ83_2 _ ((if_pos ⟨c58_2, c75_2⟩).symm)
      refine sr_ifeq (tgt := 55) C0 dX8_hands_31 (by decide) (fun c31_2 => ?_) (fun c31_2 => ?_)
      · refine lv_iconst (v := 0) C0.1 C0.2.1 dX8_hands_55 (by decide) ?_
        exact hJ56_2 _ ((if_neg (fun q => c31_2 q.1)).symm)
      · refine lv_iload C0.1 C0.2.1 dX8_hands_34 (lv_at hl 0 rfl) ?_
        refine lv_iload_n C0.1 C0.2.1 dX8_hands_36 rfl (lv_at hl 1 rfl) ?_
        refine lv_iconst (v := 2) C0.1 C0.2.1 dX8_hands_37 (by decide) ?_
        refine lv_irem C0.1 C0.2.1 dX8_hands_38 (by decide) ?_
        refine sr_chi (by decide : (1 - 1 / 2 * 2 : Int32) = 1) ?_
        refine lv_if_ne (tgt := 46) C0.1 C0.2.1 dX8_hands_39 (by decide) (fun _ => ?_) (fun q => absurd q (by decide))
        refine lv_iconst (v := 2) C0.1 C0.2.1 dX8_hands_46 (by decide) ?_
        refine lv_iand C0.1 C0.2.1 dX8_hands_47 ?_
        refine lv_if_eq (tgt := 55) C0.1 C0.2.1 dX8_hands_48 (by decide) (fun c48_2 => ?_) (fun c48_2 => ?_)
        · refine lv_iconst (v := 0) C0.1 C0.2.1 dX8_hands_55 (by decide) ?_
          exact hJ56_2 _ ((if_neg (fun q => (fun q => q c48_2) q.2)).symm)
        · refine lv_iconst (v := 1) C0.1 C0.2.1 dX8_hands_51 (by decide) ?_
          refine lv_goto (tgt := 56) C0.1 C0.2.1 dX8_hands_52 (by decide) ?_
          exact hJ56_2 _ ((if_pos ⟨c31_2, c48_2⟩).symm)
    refine lv_if_eq (tgt := 82) C0.1 C0.2.1 dX8_hands_75 (by decide) (fun c75 => ?_) (fun c75 => ?_)
    · refine lv_iconst (v := 0) C0.1 C0.2.1 dX8_hands_82 (by decide) ?_
      exact hJ83 _ ((if_neg (fun q => q c75)).symm)
    · refine lv_iconst (v := 1) C0.1 C0.2.1 dX8_hands_78 (by decide) ?_
      refine lv_goto (tgt := 83) C0.1 C0.2.1 dX8_hands_79 (by decide) ?_
      exact hJ83 _ ((if_pos c75).symm)
  refine lv_if_eq (tgt := 55) C0.1 C0.2.1 dX8_hands_48 (by decide) (fun c48 => ?_) (fun c48 => ?_)
  · refine lv_iconst (v := 0) C0.1 C0.2.1 dX8_hands_55 (by decide) ?_
    exact hJ56 _ ((if_neg (fun q => q c48)).symm)
  · refine lv_iconst (v := 1) C0.1 C0.2.1 dX8_hands_51 (by decide) ?_
    refine lv_goto (tgt := 56) C0.1 C0.2.1 dX8_hands_52 (by decide) ?_
    exact hJ56 _ ((if_pos c48).symm)
