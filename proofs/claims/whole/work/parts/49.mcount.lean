set_option maxRecDepth 100000 in
set_option maxHeartbeats 4000000 in
theorem cc_X8_unlike {l : Launch} {D : va_G} {cI : ClassId} {a : Nat → Nat} (ha : ∀ i j, i < 13 → j < 13 → a i = a j → i = j) {kp cx sg : sr_M} (hK_ : sr_IK kp) : sr_P l D (sr_tM cI) (sr_ZM) (sr_WM cI a kp cx sg) yX8_unlike cX8_unlike 4 (some .int) 0 0 [.ref (a 0)] (some (.int (sr_pop (sr_bits kp)))) := by
  refine sr_Pie (by decide +kernel) (Nat.le_of_ble_eq_true rfl) (fun p e s m args below meth c ls Q B hret => ?_)
  obtain ⟨C0, hP, hK, hZ0, hl⟩ := B
  have hZ : sr_Zok (sr_AM a) (sr_ZM) := sr_ZMok
  have hS : va_S (sr_AM a) s.heap s.heap [] := va_S.rf
  have hl : lv_has ls 4 [(0, .ref (a 0))] := hl
  refine lv_iconst (v := 0) C0.1 C0.2.1 dX8_unlike_0 (by decide) ?_
  refine lv_istore_n (lv' := [(1, .int 0), (0, .ref (a 0))]) C0.1 C0.2.1 dX8_unlike_1 rfl hl (by decide) rfl (fun ls hl => ?_)
  refine lv_iconst (v := 0) C0.1 C0.2.1 dX8_unlike_2 (by decide) ?_
  refine lv_istore_n (lv' := [(2, .int 0), (1, .int 0), (0, .ref (a 0))]) C0.1 C0.2.1 dX8_unlike_3 rfl hl (by decide) rfl (fun ls hl => ?_)
  refine lv_iload_n C0.1 C0.2.1 dX8_unlike_4 rfl (lv_at hl 0 rfl) ?_
  refine lv_iconst (v := 4) C0.1 C0.2.1 dX8_unlike_5 (by decide) ?_
  refine lv_icmp_ge (tgt := 26) C0.1 C0.2.1 dX8_unlike_6 (by decide) (fun q => absurd q (by decide)) (fun _ => ?_)
  refine lv_iload_n C0.1 C0.2.1 dX8_unlike_9 rfl (lv_at hl 1 rfl) ?_
  refine lv_iconst (v := 1) C0.1 C0.2.1 dX8_unlike_10 (by decide) ?_
  refine lv_aload_n C0.1 C0.2.1 dX8_unlike_11 rfl (lv_at hl 2 rfl) ?_
  refine sr_get (v := .ref (a 7)) C0 hK hP sr_inX8 sr_wM0 rfl 10 (by decide) sw_620 rfl dX8_unlike_12 ?_
  refine lv_iload_n C0.1 C0.2.1 dX8_unlike_15 rfl (lv_at hl 0 rfl) ?_
  refine sr_ald (k := 0) C0 hK rfl hP sr_wM7 (by decide) (sr_inc (by decide)) dX8_unlike_16 ?_
  refine sr_chi (sr_IK_ru hK_ (by omega)) ?_
  have := sr_IK_ru5 hK_ (s := 0) (by omega)
  refine lv_ishl C0.1 C0.2.1 dX8_unlike_17 ?_
  refine lv_ior C0.1 C0.2.1 dX8_unlike_18 ?_
  refine lv_istore_n (lv' := [(1, .int (0 ||| ((1 : Int32) <<< (((nI (sr_ru kp 0)) : Int32) &&& 31)))), (2, .int 0), (0, .ref (a 0))]) C0.1 C0.2.1 dX8_unlike_19 rfl hl (by decide) rfl (fun ls hl => ?_)
  refine lv_iinc (v := 1) (lv' := [(2, .int 1), (1, .int (0 ||| ((1 : Int32) <<< (((nI (sr_ru kp 0)) : Int32) &&& 31)))), (0, .ref (a 0))]) C0.1 C0.2.1 dX8_unlike_20 hl (k := 1) rfl (by decide) (by decide) rfl (fun ls hl => ?_)
  refine lv_goto (tgt := 4) C0.1 C0.2.1 dX8_unlike_23 (by decide) ?_
  refine lv_iload_n C0.1 C0.2.1 dX8_unlike_4 rfl (lv_at hl 0 rfl) ?_
  refine lv_iconst (v := 4) C0.1 C0.2.1 dX8_unlike_5 (by decide) ?_
  refine lv_icmp_ge (tgt := 26) C0.1 C0.2.1 dX8_unlike_6 (by decide) (fun q => absurd q (by decide)) (fun _ => ?_)
  refine lv_iload_n C0.1 C0.2.1 dX8_unlike_9 rfl (lv_at hl 1 rfl) ?_
  refine lv_iconst (v := 1) C0.1 C0.2.1 dX8_unlike_10 (by decide) ?_
  refine lv_aload_n C0.1 C0.2.1 dX8_unlike_11 rfl (lv_at hl 2 rfl) ?_
  refine sr_get (v := .ref (a 7)) C0 hK hP sr_inX8 sr_wM0 rfl 10 (by decide) sw_620 rfl dX8_unlike_12 ?_
  refine lv_iload_n C0.1 C0.2.1 dX8_unlike_15 rfl (lv_at hl 0 rfl) ?_
  refine sr_ald (k := 1) C0 hK rfl hP sr_wM7 (by decide) (sr_inc (by decide)) dX8_unlike_16 ?_
  refine sr_chi (sr_IK_ru hK_ (by omega)) ?_
  have := sr_IK_ru5 hK_ (s := 1) (by omega)
  refine lv_ishl C0.1 C0.2.1 dX8_unlike_17 ?_
  refine lv_ior C0.1 C0.2.1 dX8_unlike_18 ?_
  refine lv_istore_n (lv' := [(1, .int ((0 ||| ((1 : Int32) <<< (((nI (sr_ru kp 0)) : Int32) &&& 31))) ||| ((1 : Int32) <<< (((nI (sr_ru kp 1)) : Int32) &&& 31)))), (2, .int 1), (0, .ref (a 0))]) C0.1 C0.2.1 dX8_unlike_19 rfl hl (by decide) rfl (fun ls hl => ?_)
  refine lv_iinc (v := 2) (lv' := [(2, .int 2), (1, .int ((0 ||| ((1 : Int32) <<< (((nI (sr_ru kp 0)) : Int32) &&& 31))) ||| ((1 : Int32) <<< (((nI (sr_ru kp 1)) : Int32) &&& 31)))), (0, .ref (a 0))]) C0.1 C0.2.1 dX8_unlike_20 hl (k := 1) rfl (by decide) (by decide) rfl (fun ls hl => ?_)
  refine lv_goto (tgt := 4) C0.1 C0.2.1 dX8_unlike_23 (by decide) ?_
  refine lv_iload_n C0.1 C0.2.1 dX8_unlike_4 rfl (lv_at hl 0 rfl) ?_
  refine lv_iconst (v := 4) C0.1 C0.2.1 dX8_unlike_5 (by decide) ?_
  refine lv_icmp_ge (tgt := 26) C0.1 C0.2.1 dX8_unlike_6 (by decide) (fun q => absurd q (by decide)) (fun _ => ?_)
  refine lv_iload_n C0.1 C0.2.1 dX8_unlike_9 rfl (lv_at hl 1 rfl) ?_
  refine lv_iconst (v := 1) C0.1 C0.2.1 dX8_unlike_10 (by decide) ?_
  refine lv_aload_n C0.1 C0.2.1 dX8_unlike_11 rfl (lv_at hl 2 rfl) ?_
  refine sr_get (v := .ref (a 7)) C0 hK hP sr_inX8 sr_wM0 rfl 10 (by decide) sw_620 rfl dX8_unlike_12 ?_
  refine lv_iload_n C0.1 C0.2.1 dX8_unlike_15 rfl (lv_at hl 0 rfl) ?_
  refine sr_ald (k := 2) C0 hK rfl hP sr_wM7 (by decide) (sr_inc (by decide)) dX8_unlike_16 ?_
  refine sr_chi (sr_IK_ru hK_ (by omega)) ?_
  have := sr_IK_ru5 hK_ (s := 2) (by omega)
  refine lv_ishl C0.1 C0.2.1 dX8_unlike_17 ?_
  refine lv_ior C0.1 C0.2.1 dX8_unlike_18 ?_
  refine lv_istore_n (lv' := [(1, .int (((0 ||| ((1 : Int32) <<< (((nI (sr_ru kp 0)) : Int32) &&& 31))) ||| ((1 : Int32) <<< (((nI (sr_ru kp 1)) : Int32) &&& 31))) ||| ((1 : Int32) <<< (((nI (sr_ru kp 2)) : Int32) &&& 31)))), (2, .int 2), (0, .ref (a 0))]) C0.1 C0.2.1 dX8_unlike_19 rfl hl (by decide) rfl (fun ls hl => ?_)
  refine lv_iinc (v := 3) (lv' := [(2, .int 3), (1, .int (((0 ||| ((1 : Int32) <<< (((nI (sr_ru kp 0)) : Int32) &&& 31))) ||| ((1 : Int32) <<< (((nI (sr_ru kp 1)) : Int32) &&& 31))) ||| ((1 : Int32) <<< (((nI (sr_ru kp 2)) : Int32) &&& 31)))), (0, .ref (a 0))]) C0.1 C0.2.1 dX8_unlike_20 hl (k := 1) rfl (by decide) (by decide) rfl (fun ls hl => ?_)
  refine lv_goto (tgt := 4) C0.1 C0.2.1 dX8_unlike_23 (by decide) ?_
  refine lv_iload_n C0.1 C0.2.1 dX8_unlike_4 rfl (lv_at hl 0 rfl) ?_
  refine lv_iconst (v := 4) C0.1 C0.2.1 dX8_unlike_5 (by decide) ?_
  refine lv_icmp_ge (tgt := 26) C0.1 C0.2.1 dX8_unlike_6 (by decide) (fun q => absurd q (by decide)) (fun _ => ?_)
  refine lv_iload_n C0.1 C0.2.1 dX8_unlike_9 rfl (lv_at hl 1 rfl) ?_
  refine lv_iconst (v := 1) C0.1 C0.2.1 dX8_unlike_10 (by decide) ?_
  refine lv_aload_n C0.1 C0.2.1 dX8_unlike_11 rfl (lv_at hl 2 rfl) ?_
  refine sr_get (v := .ref (a 7)) C0 hK hP sr_inX8 sr_wM0 rfl 10 (by decide) sw_620 rfl dX8_unlike_12 ?_
  refine lv_iload_n C0.1 C0.2.1 dX8_unlike_15 rfl (lv_at hl 0 rfl) ?_
  refine sr_ald (k := 3) C0 hK rfl hP sr_wM7 (by decide) (sr_inc (by decide)) dX8_unlike_16 ?_
  refine sr_chi (sr_IK_ru hK_ (by omega)) ?_
  have := sr_IK_ru5 hK_ (s := 3) (by omega)
  refine lv_ishl C0.1 C0.2.1 dX8_unlike_17 ?_
  refine lv_ior C0.1 C0.2.1 dX8_unlike_18 ?_
  refine lv_istore_n (lv' := [(1, .int ((((0 ||| ((1 : Int32) <<< (((nI (sr_ru kp 0)) : Int32) &&& 31))) ||| ((1 : Int32) <<< (((nI (sr_ru kp 1)) : Int32) &&& 31))) ||| ((1 : Int32) <<< (((nI (sr_ru kp 2)) : Int32) &&& 31))) ||| ((1 : Int32) <<< (((nI (sr_ru kp 3)) : Int32) &&& 31)))), (2, .int 3), (0, .ref (a 0))]) C0.1 C0.2.1 dX8_unlike_19 rfl hl (by decide) rfl (fun ls hl => ?_)
  refine lv_iinc (v := 4) (lv' := [(2, .int 4), (1, .int ((((0 ||| ((1 : Int32) <<< (((nI (sr_ru kp 0)) : Int32) &&& 31))) ||| ((1 : Int32) <<< (((nI (sr_ru kp 1)) : Int32) &&& 31))) ||| ((1 : Int32) <<< (((nI (sr_ru kp 2)) : Int32) &&& 31))) ||| ((1 : Int32) <<< (((nI (sr_ru kp 3)) : Int32) &&& 31)))), (0, .ref (a 0))]) C0.1 C0.2.1 dX8_unlike_20 hl (k := 1) rfl (by decide) (by decide) rfl (fun ls hl => ?_)
  refine lv_goto (tgt := 4) C0.1 C0.2.1 dX8_unlike_23 (by decide) ?_
  refine lv_iload_n C0.1 C0.2.1 dX8_unlike_4 rfl (lv_at hl 0 rfl) ?_
  refine lv_iconst (v := 4) C0.1 C0.2.1 dX8_unlike_5 (by decide) ?_
  refine lv_icmp_ge (tgt := 26) C0.1 C0.2.1 dX8_unlike_6 (by decide) (fun _ => ?_) (fun q => absurd q (by decide))
  refine lv_iconst (v := 0) C0.1 C0.2.1 dX8_unlike_26 (by decide) ?_
  refine lv_istore_n (lv' := [(2, .int 0), (1, .int ((((0 ||| ((1 : Int32) <<< (((nI (sr_ru kp 0)) : Int32) &&& 31))) ||| ((1 : Int32) <<< (((nI (sr_ru kp 1)) : Int32) &&& 31))) ||| ((1 : Int32) <<< (((nI (sr_ru kp 2)) : Int32) &&& 31))) ||| ((1 : Int32) <<< (((nI (sr_ru kp 3)) : Int32) &&& 31)))), (0, .ref (a 0))]) C0.1 C0.2.1 dX8_unlike_27 rfl hl (by decide) rfl (fun ls hl => ?_)
  refine lv_iload_n C0.1 C0.2.1 dX8_unlike_28 rfl (lv_at hl 1 rfl) ?_
  obtain ⟨m0, hm0, hmb⟩ := sr_bitsN hK_
  refine sr_chi (show ((((0 ||| ((1 : Int32) <<< (((nI (sr_ru kp 0)) : Int32) &&& 31))) ||| ((1 : Int32) <<< (((nI (sr_ru kp 1)) : Int32) &&& 31))) ||| ((1 : Int32) <<< (((nI (sr_ru kp 2)) : Int32) &&& 31))) ||| ((1 : Int32) <<< (((nI (sr_ru kp 3)) : Int32) &&& 31))) = nI m0 from hmb) ?_
  refine lv_istore_n (lv' := [(3, .int (nI m0)), (2, .int 0), (1, .int ((((0 ||| ((1 : Int32) <<< (((nI (sr_ru kp 0)) : Int32) &&& 31))) ||| ((1 : Int32) <<< (((nI (sr_ru kp 1)) : Int32) &&& 31))) ||| ((1 : Int32) <<< (((nI (sr_ru kp 2)) : Int32) &&& 31))) ||| ((1 : Int32) <<< (((nI (sr_ru kp 3)) : Int32) &&& 31)))), (0, .ref (a 0))]) C0.1 C0.2.1 dX8_unlike_29 rfl hl (by decide) rfl (fun ls hl => ?_)
  have lp30 : ∀ (n30 : Nat) (k : Nat) (m : Nat) (ls : Array Slot), (m < 32) → (m + 1 ≤ n30) → (k + m ≤ 31) → (sr_pop (sr_bits kp) = nI k + sr_pop (nI m)) → lv_has ls 4 [(3, .int (nI m)), (2, .int (nI k)), (1, .int ((((0 ||| ((1 : Int32) <<< (((nI (sr_ru kp 0)) : Int32) &&& 31))) ||| ((1 : Int32) <<< (((nI (sr_ru kp 1)) : Int32) &&& 31))) ||| ((1 : Int32) <<< (((nI (sr_ru kp 2)) : Int32) &&& 31))) ||| ((1 : Int32) <<< (((nI (sr_ru kp 3)) : Int32) &&& 31)))), (0, .ref (a 0))] → W p l e (sr_rm 0 0) s m args below meth c s.heap [] 0 0 Q (F0 m 30 ls []) := by
    intro n30
    induction n30 with
    | zero =>
      intro k m ls h_m h_n h_k h_f hl
      exact absurd h_n (by omega)
    | succ n30 ih30 =>
      intro k m ls h_m h_n h_k h_f hl
      refine lv_iload_n C0.1 C0.2.1 dX8_unlike_30 rfl (lv_at hl 0 rfl) ?_
      refine lv_if_eq (tgt := 46) C0.1 C0.2.1 dX8_unlike_31 (by decide) (fun c31 => ?_) (fun c31 => ?_)
      · have g31 : m = 0 := (nI_eq (a := m) (b := 0) (by omega) (by omega)).mp c31
        refine lv_iload_n C0.1 C0.2.1 dX8_unlike_46 rfl (lv_at hl 1 rfl) ?_
        exact hret _ _ _ dX8_unlike_47 (by rw [h_f, show m = 0 by omega]; exact (Int32.add_zero _).symm)
      · have g31 : ¬ (m = 0) := fun q => c31 ((nI_eq (a := m) (b := 0) (by omega) (by omega)).mpr q)
        refine lv_iinc (v := (nI (k + 1))) (lv' := [(2, .int (nI (k + 1))), (3, .int (nI m)), (1, .int ((((0 ||| ((1 : Int32) <<< (((nI (sr_ru kp 0)) : Int32) &&& 31))) ||| ((1 : Int32) <<< (((nI (sr_ru kp 1)) : Int32) &&& 31))) ||| ((1 : Int32) <<< (((nI (sr_ru kp 2)) : Int32) &&& 31))) ||| ((1 : Int32) <<< (((nI (sr_ru kp 3)) : Int32) &&& 31)))), (0, .ref (a 0))]) C0.1 C0.2.1 dX8_unlike_34 hl (k := 1) rfl (nI_1 k) (by decide) rfl (fun ls hl => ?_)
        refine lv_iload_n C0.1 C0.2.1 dX8_unlike_37 rfl (lv_at hl 1 rfl) ?_
        refine lv_iload_n C0.1 C0.2.1 dX8_unlike_38 rfl (lv_at hl 1 rfl) ?_
        refine lv_iconst (v := 1) C0.1 C0.2.1 dX8_unlike_39 (by decide) ?_
        refine lv_isub C0.1 C0.2.1 dX8_unlike_40 ?_
        refine lv_iand C0.1 C0.2.1 dX8_unlike_41 ?_
        have hkg := sr_kng m (by omega) (by omega)
        refine sr_chi hkg.1 ?_
        refine lv_istore_n (lv' := [(3, .int (nI (m &&& (m - 1)))), (2, .int (nI (k + 1))), (1, .int ((((0 ||| ((1 : Int32) <<< (((nI (sr_ru kp 0)) : Int32) &&& 31))) ||| ((1 : Int32) <<< (((nI (sr_ru kp 1)) : Int32) &&& 31))) ||| ((1 : Int32) <<< (((nI (sr_ru kp 2)) : Int32) &&& 31))) ||| ((1 : Int32) <<< (((nI (sr_ru kp 3)) : Int32) &&& 31)))), (0, .ref (a 0))]) C0.1 C0.2.1 dX8_unlike_42 rfl hl (by decide) rfl (fun ls hl => ?_)
        refine lv_goto (tgt := 30) C0.1 C0.2.1 dX8_unlike_43 (by decide) ?_
        exact ih30 (k + 1) (m &&& (m - 1)) _ (by omega) (by omega) (by omega) (by rw [h_f, hkg.2.1, ← Int32.add_assoc]; exact congrArg (· + sr_pop (nI (m &&& (m - 1)))) (nI_add k 1)) (lv_sub hl [0, 1, 2, 3] rfl)
  exact lp30 32 0 m0 _ hm0 (by omega) (by omega) (by rw [hmb]; exact (Int32.zero_add _).symm) (lv_sub hl [0, 1, 2, 3] rfl)
