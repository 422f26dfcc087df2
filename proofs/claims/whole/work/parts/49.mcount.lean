set_option maxRecDepth 100000 in
set_option maxHeartbeats 4000000 in
theorem cc_X8_unlike {l : Launch} {D : va_G} {cI : ClassId} {a : Nat → Nat} (ha : ∀ i j, i < 13 → j < 13 → a i = a j → i = j) {kp cx sg : sr_M} (hK_ : sr_IK kp) : sr_P l D (sr_tM cI) (sr_ZM) (sr_WM cI a kp cx sg) yX8_unlike cX8_unlike 4 (some .int) 0 0 [.ref (a 0)] (some (.int (sr_pop (sr_bits kp)))) := by
  refine sr_Pie (by decide +kernel) (Nat.le_of_ble_eq_true rfl) (fun p e s m args below meth c ls Q B hret => ?_)
  obtain ⟨C0, hP, hK, hZ0, hl⟩ := B
  have hZ : sr_Zok (sr_AM a) (sr_ZM) := sr_ZMok
  have hS : va_S (sr_AM a) s.heap s.heap [] := va_S.rf
  have hl : lv_has ls 4 [(0, .ref (a 0))] := hl
  refine lv_iconst (v := 0) C0.1 C0.2.1 dX8_unlike_0 (by decide) ?_
  refine lv_istore_n (lv' := [(1, .int 0), (0, .ref (a 0))]) C0.1 C0.2.1 dX8_unlike_1 rfl hl (by decide) rfl (fun ls hl => ?_)
  refine lv_iconst (v := 0) C0.1 C0.2.1 dX8_unlike_2 (by decide) ?_
  refine lv_istore_n (lv' := [(2, .int 0), (1, .int 0), (0, .ref (a 0))]) C0.1 C0.2.1 dX8_unlike_3 rfl hl (by decide) rfl (fun ls hl => ?_)
  refine lv_iload_n C0.1 C0.2.1 dX8_unlike_4 rfl (lv_at hl 0 rfl) ?_
  refine lv_iconst (v := 4) C0.1 C0.2.1 dX8_unlike_5 (by decide) ?_
  refine lv_icmp_ge (tgt := 26) C0.1 C0.2.1 dX8_unlike_6 (by decide) (fun q => absurd q (by decide)) (fun _ => ?_)
  refine lv_iload_n C0.1 C0.2.1 dX8_unlike_9 rfl (lv_at hl 1 rfl) ?_
  refine lv_iconst (v := 1) C0.1 C0.2.1 dX8_unlike_10 (by decide) ?_
  refine lv_aload_n C0.1 C0.2.1 dX8_unlike_11 rfl (lv_at hl 2 rfl) ?_
  refine sr_get (v := .ref (a 7)) C0 hK hP sr_inX8 sr_wM0 rfl 10 (by decide) sw_620 rfl dX8_unlike_12 ?_
  refine lv_iload_n C0.1 C0.2.1 dX8_unlike_15 rfl (lv_at hl 0 rfl) ?_
  refine sr_ald (k := 0) C0 hK rfl hP sr_wM7 (by decide) (sr_inc (by decide)) dX8_unlike_16 ?_
  refine sr_chi (sr_IK_ru hK_ (by omega)) ?_
  have := sr_IK_ru5 hK_ (s := 0) (by omega)
  refine lv_ishl C0.1 C0.2.1 dX8_unlike_17 ?_
  refine lv_ior C0.1 C0.2.1 dX8_unlike_18 ?_
  refine lv_istore_n (lv' := [(1, .int (0 ||| ((1 : Int32) <<< (((nI (sr_ru kp 0)) : Int32) &&& 31)))), (2, .int 0), (0, .ref (a 0))]) C0.1 C0.2.1 dX8_unlike_19 rfl hl (by decide) rfl (fun ls hl => ?_)
  refine lv_iinc (v := 1) (lv' := [(2, .int 1), (1, .int (0 ||| ((1 : Int32) <<< (((nI (sr_ru kp 0)) : Int32) &&& 31)))), (0, .ref (a 0))]) C0.1 C0.2.1 dX8_unlike_20 hl (k := 1) rfl (by decide) (by decide) rfl (fun ls hl => ?_)
  refine lv_goto (tgt := 4) C0.1 C0.2.1 dX8_unlike_23 (by decide) ?_
  refine lv_iload_n C0.1 C0.2.1 dX8_unlike_4 rfl (lv_at hl 0 rfl) ?_
  refine lv_iconst (v := 4) C0.1 C0.2.1 dX8_unlike_5 (by decide) ?_
  refine lv_icmp_ge (tgt := 26) C0.1 C0.2.1 dX8_unlike_6 (by decide) (fun q => absurd q (by decide)) (fun _ => ?_)
  refine lv_iload_n C0.1 C0.2.1 dX8_unlike_9 rfl (lv_at hl 1 rfl) ?_
  refine lv_iconst (v := 1) C0.1 C0.2.1 dX8_unlike_10 (by decide) ?_
  refine lv_aload_n C0.1 C0.2.1 dX8_unlike_11 rfl (lv_at hl 2 rfl) ?_
  refine sr_get (v := .ref (a 7)) C0 hK hP sr_inX8 sr_wM0 rfl 10 (by decide) sw_620 rfl dX8_unlike_12 ?_
  refine lv_iload_n C0.1 C0.2.1 dX8_unlike_15 rfl (lv_at hl 0 rfl) ?_
  refine sr_ald (k := 1) C0 hK rfl hP sr_wM7 (by decide) (sr_inc (by decide)) dX8_unlike_16 ?_
  refine sr_chi (sr_IK_ru hK_ (by omega)) ?_
  have := sr_IK_ru5 hK_ (s := 1) (by omega)
  refine lv_ishl C0.1 C0.2.1 dX8_unlike_17 ?_
  refine lv_ior C0.1 C0.2.1 dX8_unlike_18 ?_
  refine lv_istore_n (lv' := [(1, .int ((0 ||| ((1 : Int32) <<< (((nI (sr_ru kp 0)) : Int32) &&& 31))) ||| ((1 : Int32) <<< (((nI (sr_ru kp 1)) : Int32) &&& 31)))), (2, .int 1), (0, .ref (a 0))]) C0.1 C0.2.1 dX8_unlike_19 rfl hl (by decide) rfl (fun ls hl => ?_)
  refine lv_iinc (v := 2) (lv' := [(2, .int 2), (1, .int ((0 ||| ((1 : Int32) <<< (((nI (sr_ru kp 0)) : Int32) &&& 31))) ||| ((1 : Int32) <<< (((nI (sr_ru kp 1)) : Int32) &&& 31)))), (0, .ref (a 0))]) C0.1 C0.2.1 dX8_unlike_20 hl (k := 1) rfl (by decide) (by decide) rfl (fun ls hl => ?_)
  refine lv_goto (tgt := 4) C0.1 C0.2.1 dX8_unlike_23 (by decide) ?_
  refine lv_iload_n C0.1 C0.2.1 dX8_unlike_4 rfl (lv_at hl 0 rfl) ?_
  refine lv_iconst (v := 4) C0.1 C0.2.1 dX8_unlike_5 (by decide) ?_
  refine lv_icmp_ge (tgt := 26) C0.1 C0.2.1 dX8_unlike_6 (by decide) (fun q => absurd q (by decide)) (fun _ => ?_)
  refine lv_iload_n C0.1 C0.2.1 dX8_unlike_9 rfl (lv_at hl 1 rfl) ?_
  refine lv_iconst (v := 1) C0.1 C0.2.1 dX8_unlike_10 (by decide) ?_
  refine lv_aload_n C0.1 C0.2.1 dX8_unlike_11 rfl (lv_at hl 2 rfl) ?_
  refine sr_get (v := .ref (a 7)) C0 hK hP sr_inX8 sr_wM0 rfl 10 (by decide) sw_620 rfl dX8_unlike_12 ?_
  refine lv_iload_n C0.1 C0.2.1 dX8_unlike_15 rfl (lv_at hl 0 rfl) ?_
  refine sr_ald (k := 2) C0 hK rfl hP sr_wM7 (by decide) (sr_inc (by decide)) dX8_unlike_16 ?_
  refine sr_chi (sr_IK_ru hK_ (by omega)) ?_
  have := sr_IK_ru5 hK_ (s := 2) (by omega)
  refine lv_ishl C0.1 C0.2.1 dX8_unlike_17 ?_
  refine lv_ior C0.1 C0.2.1 dX8_unlike_18 ?_
  refine lv_istore_n (lv' := [(1, .int (((0 ||| ((1 : Int32) <<< (((nI (sr_ru kp 0)) : Int32) &&& 31))) ||| ((1 : Int32) <<< (((nI (sr_ru kp 1)) : Int32) &&& 31))) ||| ((1 : Int32) <<< (((nI (sr_ru kp 2)) : Int32) &&& 31)))), (2, .int 2), (0, .ref (a 0))]) C0.1 C0.2.1 dX8_unlike_19 rfl hl (by decide) rfl (fun ls hl => ?_)
  refine lv_iinc (v := 3) (lv' := [(2, .int 3), (1, .int (((0 ||| ((1 : Int32) <<< (((nI (sr_ru kp 0)) : Int32) &&& 31))) ||| ((1 : Int32) <<< (((nI (sr_ru kp 1)) : Int32) &&& 31))) ||| ((1 : Int32) <<< (((nI (sr_ru kp 2)) : Int32) &&& 31)))), (0, .ref (a 0))]) C0.1 C0.2.1 dX8_unlike_20 hl (k := 1) rfl (by decide) (by decide) rfl (fun ls hl => ?_)
  refine lv_goto (tgt := 4) C0.1 C0.2.1 dX8_unlike_23 (by decide) ?_
  refine lv_iload_n C0.1 C0.2.1 dX8_unlike_4 rfl (lv_at hl 0 rfl) ?_
  refine lv_iconst (v := 4) C0.1 C0.2.1 dX8_unlike_5 (by decide) ?_
  refine lv_icmp_ge (tgt := 26) C0.1 C0.2.1 dX8_unlike_6 (by decide) (fun q => absurd q (by decide)) (fun _ => ?_)
  refine lv_iload_n C0.1 C0.2.1 dX8_unlike_9 rfl (lv_at hl 1 rfl) ?_
  refine lv_iconst (v := 1) C0.1 C0.2.1 dX8_unlike_10 (by decide) ?_
  refine lv_aload_n C0.1 C0.2.1 dX8_unlike_11 rfl (lv_at hl 2 rfl) ?_
  refine sr_get (v := .ref (a 7)) C0 hK hP sr_inX8 sr_wM0 rfl 10 (by decide) sw_620 rfl dX8_unlike_12 ?_
  refine lv_iload_n C0.1 C0.2.1 dX8_unlike_15 rfl (lv_at hl 0 rfl) ?_
  refine sr_ald (k := 3) C0 hK rfl hP sr_wM7 (by decide) (sr_inc (by decide)) dX8_unlike_16 ?_
  refine sr_chi (sr_IK_ru hK_ (by omega)) ?_
  have := sr_IK_ru5 hK_ (s := 3) (by omega)
  refine lv_ishl C0.1 C0.2.1 dX8_unlike_17 ?_
  refine lv_ior C0.1 C0.2.1 dX8_unlike_18 ?_
  refine lv_istore_n (lv' := [(1, .int ((((0 ||| ((1 : Int32) <<< (((nI (sr_ru kp 0)) : Int32) &&& 31))) ||| ((1 : Int32) <<< (((nI (sr_ru kp 1)) : Int32) &&& 31))) ||| ((1 : Int32) <<< (((nI (sr_ru kp 2)) : Int32) &&& 31))) ||| ((1 : Int32) <<< (((nI (sr_ru kp 3)) : Int32) &&& 31)))), (2, .int 3), (0, .ref (a 0))]) C0.1 C0.2.1 dX8_unlike_19 rfl hl (by decide) rfl (fun ls hl => ?_)
  refine lv_iinc (v := 4) (lv' := [(2, .int 4), (1, .int ((((0 ||| ((1 : Int32) <<< (((nI (sr_ru kp 0)) : Int32) &&& 31))) ||| ((1 : Int32) <<< (((nI (sr_ru kp 1)) : Int32) &&& 31))) ||| ((1 : Int32) <<< (((nI (sr_ru kp 2)) : Int32) &&& 31))) ||| ((1 : Int32) <<< (((nI (sr_ru kp 3)) : Int32) &&& 31)))), (0, .ref (a 0))]) C0.1 C0.2.1 dX8_unlike_20 hl (k := 1) rfl (by decide) (by decide) rfl (fun ls hl => ?_)
  refine lv_goto (tgt := 4) C0.1 C0.2.1 dX8_unlike_23 (by decide) ?_
  refine lv_iload_n C0.1 C0.2.1 dX8_unlike_4 rfl (lv_at hl 0 rfl) ?_
  refine lv_iconst (v := 4) C0.1 C0.2.1 dX8_unlike_5 (by decide) ?_
  refine lv_icmp_ge (tgt := 26) C0.1 C0.2.1 dX8_unlike_6 (by decide) (fun _ => ?_) (fun q => absurd q (by decide))
  refine lv_iconst (v := 0) C0.1 C0.2.1 dX8_unlike_26 (by decide) ?_
  refine lv_istore_n (lv' := [(2, .int 0), (1, .int ((((0 ||| ((1 : Int32) <<< (((nI (sr_ru kp 0)) : Int32) &&& 31))) ||| ((1 : Int32) <<< (((nI (sr_ru kp 1)) : Int32) &&& 31))) ||| ((1 : Int32) <<< (((nI (sr_ru kp 2)) : Int32) &&& 31))) ||| ((1 : Int32) <<< (((nI (sr_ru kp 3)) : Int32) &&& 31)))), (0, .ref (a 0))]) C0.1 C0.2.1 dX8_unlike_27 rfl hl (by decide) rfl (fun ls hl => ?_)
  refine lv_iload_n C0.1 C0.2.1 dX8_unlike_28 rfl (lv_at hl 1 rfl) ?_
  obtain ⟨m0, hm0, hmb⟩ := sr_bitsN hK_
  refine sr_chi (show ((((0 ||| ((1 : Int32) <<< (((nI (sr_ru kp 0)) : Int32) &&& 31))) ||| ((1 : Int32) <<< (((nI (sr_ru kp 1)) : Int32) &&& 31))) ||| ((1 : Int32) <<< (((nI (sr_ru kp 2)) : Int32) &&& 31))) ||| ((1 : Int32) <<< (((nI (sr_ru kp 3)) : Int32) &&& 31))) = nI m0 from hmb) ?_
  refine lv_istore_n (lv' := [(3, .int (nI m0)), (2, .int 0), (1, .int ((((0 ||| ((1 : Int32) <<< (((nI (sr_ru kp 0)) : Int32) &&& 31))) ||| ((1 : Int32) <<< (((nI (sr_ru kp 1)) : Int32) &&& 31))) ||| ((1 : Int32) <<< (((nI (sr_ru kp 2)) : Int32) &&& 31))) ||| ((1 : Int32) <<< (((nI (sr_ru kp 3)) : Int32) &&& 31)))), (0, .ref (a 0))]) C0.1 C0.2.1 dX8_unlike_29 rfl hl (by decide) rfl (fun ls hl => ?_)
  have lp30 : ∀ (n30 : Nat) (k : Nat) (mm : Nat) (ls : Array Slot), (mm < 32) → (mm + 1 ≤ n30) → (k + mm ≤ 31) → (sr_pop (sr_bits kp) = nI k + sr_pop (nI mm)) → lv_has ls 4 [(3, .int (nI mm)), (2, .int (nI k)), (1, .int ((((0 ||| ((1 : Int32) <<< (((nI (sr_ru kp 0)) : Int32) &&& 31))) ||| ((1 : Int32) <<< (((nI (sr_ru kp 1)) : Int32) &&& 31))) ||| ((1 : Int32) <<< (((nI (sr_ru kp 2)) : Int32) &&& 31))) ||| ((1 : Int32) <<< (((nI (sr_ru kp 3)) : Int32) &&& 31)))), (0, .ref (a 0))] → W p l e (sr_rm 0 0) s m args below meth c s.heap [] 0 0 Q (F0 m 30 ls []) := by
    intro n30
    induction n30 with
    | zero =>
      intro k mm ls h_m h_n h_k h_f hl
      exact absurd h_n (by omega)
    | succ n30 ih30 =>
      intro k mm ls h_m h_n h_k h_f hl
      refine lv_iload_n C0.1 C0.2.1 dX8_unlike_30 rfl (lv_at hl 0 rfl) ?_
      refine lv_if_eq (tgt := 46) C0.1 C0.2.1 dX8_unlike_31 (by decide) (fun c31 => ?_) (fun c31 => ?_)
      · have g31 : mm = 0 := (nI_eq (a := mm) (b := 0) (by omega) (by omega)).mp c31
        refine lv_iload_n C0.1 C0.2.1 dX8_unlike_46 rfl (lv_at hl 1 rfl) ?_
        exact hret _ _ _ dX8_unlike_47 (by rw [h_f, show mm = 0 by omega]; try exact (Int32.add_zero _).symm)
      · have g31 : ¬ (mm = 0) := fun q => c31 ((nI_eq (a := mm) (b := 0) (by omega) (by omega)).mpr q)
        refine lv_iinc (v := (nI (k + 1))) (lv' := [(2, .int (nI (k + 1))), (3, .int (nI mm)), (1, .int ((((0 ||| ((1 : Int32) <<< (((nI (sr_ru kp 0)) : Int32) &&& 31))) ||| ((1 : Int32) <<< (((nI (sr_ru kp 1)) : Int32) &&& 31))) ||| ((1 : Int32) <<< (((nI (sr_ru kp 2)) : Int32) &&& 31))) ||| ((1 : Int32) <<< (((nI (sr_ru kp 3)) : Int32) &&& 31)))), (0, .ref (a 0))]) C0.1 C0.2.1 dX8_unlike_34 hl (k := 1) rfl (nI_1 k) (by decide) rfl (fun ls hl => ?_)
        refine lv_iload_n C0.1 C0.2.1 dX8_unlike_37 rfl (lv_at hl 1 rfl) ?_
        refine lv_iload_n C0.1 C0.2.1 dX8_unlike_38 rfl (lv_at hl 1 rfl) ?_
        refine lv_iconst (v := 1) C0.1 C0.2.1 dX8_unlike_39 (by decide) ?_
        refine lv_isub C0.1 C0.2.1 dX8_unlike_40 ?_
        refine lv_iand C0.1 C0.2.1 dX8_unlike_41 ?_
        have hkg := sr_kng mm (by omega) (by omega)
        refine sr_chi hkg.1 ?_
        refine lv_istore_n (lv' := [(3, .int (nI (mm &&& (mm - 1)))), (2, .int (nI (k + 1))), (1, .int ((((0 ||| ((1 : Int32) <<< (((nI (sr_ru kp 0)) : Int32) &&& 31))) ||| ((1 : Int32) <<< (((nI (sr_ru kp 1)) : Int32) &&& 31))) ||| ((1 : Int32) <<< (((nI (sr_ru kp 2)) : Int32) &&& 31))) ||| ((1 : Int32) <<< (((nI (sr_ru kp 3)) : Int32) &&& 31)))), (0, .ref (a 0))]) C0.1 C0.2.1 dX8_unlike_42 rfl hl (by decide) rfl (fun ls hl => ?_)
        refine lv_goto (tgt := 30) C0.1 C0.2.1 dX8_unlike_43 (by decide) ?_
        exact ih30 (k + 1) (mm &&& (mm - 1)) _ (by omega) (by omega) (by omega) (by rw [h_f, hkg.2.1, ← Int32.add_assoc]; exact congrArg (· + sr_pop (nI (mm &&& (mm - 1)))) (nI_add k 1)) (lv_sub hl [0, 1, 2, 3] rfl)
  exact lp30 32 0 m0 _ hm0 (by omega) (by omega) (by rw [hmb]; exact (Int32.zero_add _).symm) (lv_sub hl [0, 1, 2, 3] rfl)
set_option maxRecDepth 100000 in
set_option maxHeartbeats 4000000 in
theorem cc_X8_count {l : Launch} {D : va_G} {cI : ClassId} {a : Nat → Nat} (ha : ∀ i j, i < 13 → j < 13 → a i = a j → i = j) {kp cx sg : sr_M} (w_ : Int32) (hK_ : sr_IK kp) : sr_G l D (sr_tM cI) (sr_ZM) (sr_AM a) (sr_WM cI a kp cx sg) yX8_count cX8_count 2 (some .int) 3 70 [.ref (a 0), .int w_] (S := sr_M) (fun u => True) (fun u => sr_WM cI a kp cx u) (fun u => some (.int (sp_count kp w_))) := by
  refine sr_Gie (by decide +kernel) (Nat.le_of_ble_eq_true rfl) (fun p e s m args below meth c ls Q B hret => ?_)
  obtain ⟨C0, hP, hK, hZ0, hl⟩ := B
  have hZ : sr_Zok (sr_AM a) (sr_ZM) := sr_ZMok
  have hS : va_S (sr_AM a) s.heap s.heap [] := va_S.rf
  have hl : lv_has ls 2 [(0, .ref (a 0)), (1, .int w_)] := hl
  obtain ⟨H, hH⟩ : ∃ H, H = s.heap := ⟨_, rfl⟩
  have hP : va_P D vwCl (sr_WM cI a kp cx sg) H := by rw [hH]; exact hP
  have hS : va_S (sr_AM a) s.heap H [] := by rw [hH]; exact hS
  suffices hG : ∀ locs, va_S (sr_AM a) s.heap H locs → W p l e (sr_rm 3 70) s m args below meth c H locs 0 0 Q (F0 m 0 ls []) from by have h9 := hG [] hS; rw [hH] at h9; exact h9
  clear hS
  intro locs hS
  clear hH
  refine lv_aload_n C0.1 C0.2.1 dX8_count_0 rfl (lv_at hl 0 rfl) ?_
  refine sr_gVi (As := []) C0 hK hP hZ (sr_Zs hZ hZ0 hS) (cc_X8_reads ha hK_) sk_X8_reads sv_X8_reads sw_719 (ci := 8) rfl sr_wM0 rfl rfl hl.1 (Nat.le_of_ble_eq_true rfl) (Nat.le_of_ble_eq_true rfl) (Nat.le_of_ble_eq_true rfl) dX8_count_1 ⟨Nat.zero_le _, Nat.zero_le _⟩ hS (fun sg1 H locs hRD hP hS => ?_)
  refine lv_pop C0.1 C0.2.1 dX8_count_4 rfl ?_
  refine lv_iload_n C0.1 C0.2.1 dX8_count_5 rfl (lv_at hl 1 rfl) ?_
  rcases (sr_sw9 w_) with rfl | rfl | rfl | rfl | rfl | rfl | rfl | rfl | rfl | hw9
  · refine lv_tableIn (tgt := 56) (off := 50) C0.1 C0.2.1 dX8_count_6 (by decide) (by decide) (by decide) (by decide) ?_
    refine lv_aload_n C0.1 C0.2.1 dX8_count_56 rfl (lv_at hl 0 rfl) ?_
    refine sr_get (v := .int (sg1 1 1)) C0 hK hP sr_inX8 sr_wM0 rfl 8 (by decide) sw_618 rfl dX8_count_57 ?_
    refine sr_chi hRD.1 ?_
    have := sr_cnt5 kp
    exact hret _ _ _ sg1 _ _ _ dX8_count_60 hP hS rfl rfl trivial
  · refine lv_tableIn (tgt := 61) (off := 55) C0.1 C0.2.1 dX8_count_6 (by decide) (by decide) (by decide) (by decide) ?_
    refine lv_aload_n C0.1 C0.2.1 dX8_count_61 rfl (lv_at hl 0 rfl) ?_
    refine sr_get (v := .int (kp 5 0)) C0 hK hP sr_inX8 sr_wM0 rfl 6 (by decide) sw_616 rfl dX8_count_62 ?_
    refine sr_chi (sr_IK_n hK_) ?_
    have := sr_IK_n40 hK_
    exact hret _ _ _ sg1 _ _ _ dX8_count_65 hP hS rfl rfl trivial
  · refine lv_tableIn (tgt := 66) (off := 60) C0.1 C0.2.1 dX8_count_6 (by decide) (by decide) (by decide) (by decide) ?_
    refine lv_aload_n C0.1 C0.2.1 dX8_count_66 rfl (lv_at hl 0 rfl) ?_
    refine sr_get (v := .ref (a 8)) C0 hK hP sr_inX8 sr_wM0 rfl 11 (by decide) sw_621 rfl dX8_count_67 ?_
    refine lv_iconst (v := 0) C0.1 C0.2.1 dX8_count_70 (by decide) ?_
    refine sr_ald (k := 0) C0 hK rfl hP sr_wM8 (by decide) (sr_inc (by decide)) dX8_count_71 ?_
    refine sr_chi (sr_IK_zo hK_) ?_
    have := sr_IK_zo5 hK_
    exact hret _ _ _ sg1 _ _ _ dX8_count_72 hP hS rfl rfl trivial
  · refine lv_tableIn (tgt := 73) (off := 67) C0.1 C0.2.1 dX8_count_6 (by decide) (by decide) (by decide) (by decide) ?_
    refine lv_aload_n C0.1 C0.2.1 dX8_count_73 rfl (lv_at hl 0 rfl) ?_
    refine sr_get (v := .ref (a 9)) C0 hK hP sr_inX8 sr_wM0 rfl 12 (by decide) sw_622 rfl dX8_count_74 ?_
    refine lv_iload_n C0.1 C0.2.1 dX8_count_77 rfl (lv_at hl 1 rfl) ?_
    refine lv_iconst (v := 3) C0.1 C0.2.1 dX8_count_78 (by decide) ?_
    refine lv_isub C0.1 C0.2.1 dX8_count_79 ?_
    refine sr_chi (by decide : (3 - 3 : Int32) = 0) ?_
    refine sr_ald (k := 0) C0 hK rfl hP sr_wM9 (by decide) (sr_inc (by decide)) dX8_count_80 ?_
    exact hret _ _ _ sg1 _ _ _ dX8_count_81 hP hS rfl rfl trivial
  · refine lv_tableIn (tgt := 73) (off := 67) C0.1 C0.2.1 dX8_count_6 (by decide) (by decide) (by decide) (by decide) ?_
    refine lv_aload_n C0.1 C0.2.1 dX8_count_73 rfl (lv_at hl 0 rfl) ?_
    refine sr_get (v := .ref (a 9)) C0 hK hP sr_inX8 sr_wM0 rfl 12 (by decide) sw_622 rfl dX8_count_74 ?_
    refine lv_iload_n C0.1 C0.2.1 dX8_count_77 rfl (lv_at hl 1 rfl) ?_
    refine lv_iconst (v := 3) C0.1 C0.2.1 dX8_count_78 (by decide) ?_
    refine lv_isub C0.1 C0.2.1 dX8_count_79 ?_
    refine sr_chi (by decide : (4 - 3 : Int32) = 1) ?_
    refine sr_ald (k := 1) C0 hK rfl hP sr_wM9 (by decide) (sr_inc (by decide)) dX8_count_80 ?_
    exact hret _ _ _ sg1 _ _ _ dX8_count_81 hP hS rfl rfl trivial
  · refine lv_tableIn (tgt := 73) (off := 67) C0.1 C0.2.1 dX8_count_6 (by decide) (by decide) (by decide) (by decide) ?_
    refine lv_aload_n C0.1 C0.2.1 dX8_count_73 rfl (lv_at hl 0 rfl) ?_
    refine sr_get (v := .ref (a 9)) C0 hK hP sr_inX8 sr_wM0 rfl 12 (by decide) sw_622 rfl dX8_count_74 ?_
    refine lv_iload_n C0.1 C0.2.1 dX8_count_77 rfl (lv_at hl 1 rfl) ?_
    refine lv_iconst (v := 3) C0.1 C0.2.1 dX8_count_78 (by decide) ?_
    refine lv_isub C0.1 C0.2.1 dX8_count_79 ?_
    refine sr_chi (by decide : (5 - 3 : Int32) = 2) ?_
    refine sr_ald (k := 2) C0 hK rfl hP sr_wM9 (by decide) (sr_inc (by decide)) dX8_count_80 ?_
    exact hret _ _ _ sg1 _ _ _ dX8_count_81 hP hS rfl rfl trivial
  · refine lv_tableIn (tgt := 82) (off := 76) C0.1 C0.2.1 dX8_count_6 (by decide) (by decide) (by decide) (by decide) ?_
    refine lv_aload_n C0.1 C0.2.1 dX8_count_82 rfl (lv_at hl 0 rfl) ?_
    refine sr_pVi (As := []) C0 hK hP hZ (sr_Zs hZ hZ0 hS) (cc_X8_unlike ha hK_) sk_X8_unlike sv_X8_unlike sw_963 (ci := 8) rfl sr_wM0 rfl rfl hl.1 (Nat.le_of_ble_eq_true rfl) (Nat.le_of_ble_eq_true rfl) (Nat.le_of_ble_eq_true rfl) dX8_count_83 ⟨Nat.zero_le _, Nat.zero_le _⟩ ?_
    exact hret _ _ _ sg1 _ _ _ dX8_count_86 hP hS rfl rfl trivial
  · refine lv_tableIn (tgt := 87) (off := 81) C0.1 C0.2.1 dX8_count_6 (by decide) (by decide) (by decide) (by decide) ?_
    refine lv_aload_n C0.1 C0.2.1 dX8_count_87 rfl (lv_at hl 0 rfl) ?_
    refine sr_get (v := .ref (a 8)) C0 hK hP sr_inX8 sr_wM0 rfl 11 (by decide) sw_621 rfl dX8_count_88 ?_
    refine lv_iconst (v := 2) C0.1 C0.2.1 dX8_count_91 (by decide) ?_
    refine sr_ald (k := 2) C0 hK rfl hP sr_wM8 (by decide) (sr_inc (by decide)) dX8_count_92 ?_
    exact hret _ _ _ sg1 _ _ _ dX8_count_93 hP hS rfl rfl trivial
  · refine lv_tableIn (tgt := 94) (off := 88) C0.1 C0.2.1 dX8_count_6 (by decide) (by decide) (by decide) (by decide) ?_
    refine lv_aload_n C0.1 C0.2.1 dX8_count_94 rfl (lv_at hl 0 rfl) ?_
    refine sr_get (v := .int (kp 5 1)) C0 hK hP sr_inX8 sr_wM0 rfl 4 (by decide) sw_614 rfl dX8_count_95 ?_
    exact hret _ _ _ sg1 _ _ _ dX8_count_98 hP hS rfl rfl trivial
  · refine lv_tableOut (tgt := 99) C0.1 C0.2.1 dX8_count_6 hw9 (by decide) ?_
    refine lv_bipush (v := (-2)) C0.1 C0.2.1 dX8_count_99 (by decide) ?_
    exact hret _ _ _ sg1 _ _ _ dX8_count_101 hP hS rfl (sr_ctd hw9) trivial
