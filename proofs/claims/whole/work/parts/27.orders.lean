set_option maxRecDepth 100000 in
set_option maxHeartbeats 4000000 in
theorem cc_X2_weighPairs {l : Launch} {D : va_G} {cI cR : ClassId} {a : Nat → Nat} (ha : ∀ i j, i < 36 → j < 36 → a i = a j → i = j) {kp cx sg : sr_M} (ch : Nat) (hI : sr_IC kp cx) (hs_ch : ch < 3) : sr_G l D (sr_tC cI cR) (sr_ZC a) (sr_AC a) (sr_WC cI cR a kp cx sg) yX2_weighPairs cX2_weighPairs 6 none 4 103 [.ref (a 5), .int (nI ch)] (S := sr_M) (fun u => (∀ q z, q < sr_cnt kp → z < sr_cnt kp → u (1 + ch) (5 * q + z) = nI (sr_best kp q z ch 0) ∧ u (4 + ch) (5 * q + z) = sr_lb kp q z ch) ∧ ∀ k, k ≠ 1 + ch → k ≠ 4 + ch → u k = sg k) (fun u => sr_WC cI cR a kp cx u) (fun _ => none) := by
  refine sr_Gve (by decide +kernel) (Nat.le_of_ble_eq_true rfl) (fun p e s m args below meth c ls Q B hret => ?_)
  obtain ⟨C0, hP, hK, hZ0, hl⟩ := B
  have hZ : sr_Zok (sr_AC a) (sr_ZC a) := sr_ZCok a
  have hS : va_S (sr_AC a) s.heap s.heap [] := va_S.rf
  have hl : lv_has ls 6 [(0, .ref (a 5)), (1, .int (nI ch))] := hl
  obtain ⟨H, hH⟩ : ∃ H, H = s.heap := ⟨_, rfl⟩
  have hP : va_P D vwCl (sr_WC cI cR a kp cx sg) H := by rw [hH]; exact hP
  have hS : va_S (sr_AC a) s.heap H [] := by rw [hH]; exact hS
  suffices hG : ∀ locs, va_S (sr_AC a) s.heap H locs → W p l e (sr_rm 4 103) s m args below meth c H locs 0 0 Q (F0 m 0 ls []) from by have h9 := hG [] hS; rw [hH] at h9; exact h9
  clear hS
  intro locs hS
  clear hH
  have hc5 := sr_cnt5 kp
  refine lv_iconst (v := 0) C0.1 C0.2.1 dX2_weighPairs_0 (by decide) ?_
  refine lv_istore_n (lv' := [(2, .int 0), (0, .ref (a 5)), (1, .int (nI ch))]) C0.1 C0.2.1 dX2_weighPairs_1 rfl hl (by decide) rfl (fun ls hl => ?_)
  have lp2 : ∀ (n2 : Nat) (x : Nat) (sgx : sr_M) (H : Heap) (locs : List Loc) (ls : Array Slot), (x ≤ sr_cnt kp) → (sr_cnt kp + 1 ≤ x + n2) → (∀ q z, q < x → z < sr_cnt kp → sgx (1 + ch) (5 * q + z) = nI (sr_best kp q z ch 0) ∧ sgx (4 + ch) (5 * q + z) = sr_lb kp q z ch) → (∀ k, k ≠ 1 + ch → k ≠ 4 + ch → sgx k = sg k) → va_P D vwCl (sr_WC cI cR a kp cx sgx) H → va_S (sr_AC a) s.heap H locs → lv_has ls 6 [(2, .int (nI x)), (0, .ref (a 5)), (1, .int (nI ch))] → W p l e (sr_rm 4 103) s m args below meth c H locs 0 0 Q (F0 m 2 ls []) := by
    intro n2
    induction n2 with
    | zero =>
      intro x sgx H locs ls h_x h_nx h_wx h_kx hP hS hl
      exact absurd h_nx (by omega)
    | succ n2 ih2 =>
      intro x sgx H locs ls h_x h_nx h_wx h_kx hP hS hl
      refine lv_iload_n C0.1 C0.2.1 dX2_weighPairs_2 rfl (lv_at hl 0 rfl) ?_
      refine lv_aload_n C0.1 C0.2.1 dX2_weighPairs_3 rfl (lv_at hl 1 rfl) ?_
      refine sr_get (v := .ref (a 1)) C0 hK hP sr_inX2 sr_wC5 rfl 0 (by decide) sw_132 rfl dX2_weighPairs_4 ?_
      refine sr_get (v := .int (cx 4 1)) C0 hK hP sr_inX4 sr_wC1 rfl 7 (by decide) sw_43 rfl dX2_weighPairs_7 ?_
      refine sr_chi (sr_IC_1 hI) ?_
      have := sr_cnt5 kp
      refine lv_icmp_ge (tgt := 91) C0.1 C0.2.1 dX2_weighPairs_10 (by decide) (fun c10 => ?_) (fun c10 => ?_)
      · have g10 : (sr_cnt kp) ≤ x := (nI_leI (a := (sr_cnt kp)) (b := x) (by omega) (by omega)).mp c10
        exact hret _ _ _ sgx _ _ dX2_weighPairs_91 hP hS rfl ⟨fun q z h1 h2 => h_wx q z (by omega) h2, h_kx⟩
      · have g10 : ¬ ((sr_cnt kp) ≤ x) := fun q => c10 ((nI_leI (a := (sr_cnt kp)) (b := x) (by omega) (by omega)).mpr q)
        refine lv_iconst (v := 0) C0.1 C0.2.1 dX2_weighPairs_13 (by decide) ?_
        refine lv_istore_n (lv' := [(3, .int 0), (2, .int (nI x)), (0, .ref (a 5)), (1, .int (nI ch))]) C0.1 C0.2.1 dX2_weighPairs_14 rfl hl (by decide) rfl (fun ls hl => ?_)
        have lp15 : ∀ (n15 : Nat) (y : Nat) (sgy : sr_M) (H : Heap) (locs : List Loc) (ls : Array Slot), (y ≤ sr_cnt kp) → (sr_cnt kp + 1 ≤ y + n15) → (∀ q z, (q < x ∨ (q = x ∧ z < y)) → z < sr_cnt kp → sgy (1 + ch) (5 * q + z) = nI (sr_best kp q z ch 0) ∧ sgy (4 + ch) (5 * q + z) = sr_lb kp q z ch) → (∀ k, k ≠ 1 + ch → k ≠ 4 + ch → sgy k = sg k) → va_P D vwCl (sr_WC cI cR a kp cx sgy) H → va_S (sr_AC a) s.heap H locs → lv_has ls 6 [(3, .int (nI y)), (2, .int (nI x)), (0, .ref (a 5)), (1, .int (nI ch))] → W p l e (sr_rm 4 103) s m args below meth c H locs 0 0 Q (F0 m 15 ls []) := by
          intro n15
          induction n15 with
          | zero =>
            intro y sgy H locs ls h_y h_ny h_wy h_ky hP hS hl
            exact absurd h_ny (by omega)
          | succ n15 ih15 =>
            intro y sgy H locs ls h_y h_ny h_wy h_ky hP hS hl
            refine lv_iload_n C0.1 C0.2.1 dX2_weighPairs_15 rfl (lv_at hl 0 rfl) ?_
            refine lv_aload_n C0.1 C0.2.1 dX2_weighPairs_16 rfl (lv_at hl 2 rfl) ?_
            refine sr_get (v := .ref (a 1)) C0 hK hP sr_inX2 sr_wC5 rfl 0 (by decide) sw_132 rfl dX2_weighPairs_17 ?_
            refine sr_get (v := .int (cx 4 1)) C0 hK hP sr_inX4 sr_wC1 rfl 7 (by decide) sw_43 rfl dX2_weighPairs_20 ?_
            refine sr_chi (sr_IC_1 hI) ?_
            have := sr_cnt5 kp
            refine lv_icmp_ge (tgt := 85) C0.1 C0.2.1 dX2_weighPairs_23 (by decide) (fun c23 => ?_) (fun c23 => ?_)
            · have g23 : (sr_cnt kp) ≤ y := (nI_leI (a := (sr_cnt kp)) (b := y) (by omega) (by omega)).mp c23
              refine lv_iinc (v := (nI (x + 1))) (lv' := [(2, .int (nI (x + 1))), (3, .int (nI y)), (0, .ref (a 5)), (1, .int (nI ch))]) C0.1 C0.2.1 dX2_weighPairs_85 hl (k := 1) rfl (nI_1 x) (by decide) rfl (fun ls hl => ?_)
              refine lv_goto (tgt := 2) C0.1 C0.2.1 dX2_weighPairs_88 (by decide) ?_
              exact ih2 (x + 1) sgy _ _ _ (by omega) (by omega) (fun q z h1 h2 => h_wy q z (by omega) h2) h_ky hP hS (lv_sub hl [0, 2, 3] rfl)
            · have g23 : ¬ ((sr_cnt kp) ≤ y) := fun q => c23 ((nI_leI (a := (sr_cnt kp)) (b := y) (by omega) (by omega)).mpr q)
              refine lv_aload_n C0.1 C0.2.1 dX2_weighPairs_26 rfl (lv_at hl 2 rfl) ?_
              refine sr_get (v := .ref (a 2)) C0 hK hP sr_inX2 sr_wC5 rfl 1 (by decide) sw_133 rfl dX2_weighPairs_27 ?_
              refine lv_iload_n C0.1 C0.2.1 dX2_weighPairs_30 rfl (lv_at hl 3 rfl) ?_
              refine lv_iload_n C0.1 C0.2.1 dX2_weighPairs_31 rfl (lv_at hl 1 rfl) ?_
              refine lv_iload_n C0.1 C0.2.1 dX2_weighPairs_32 rfl (lv_at hl 0 rfl) ?_
              refine lv_iconst (v := 0) C0.1 C0.2.1 dX2_weighPairs_33 (by decide) ?_
              refine sr_pVi (As := [.int (nI ch), .int (nI x), .int (nI y), .int 0]) C0 hK hP hZ (sr_Zs hZ hZ0 hS) (cc_X6_farthest ha ch x y (0) hI (by first | omega | exact sr_th_at hT (by omega)) (by first | omega | exact sr_th_at hT (by omega)) (by omega) sr_bs0) sk_X6_farthest sv_X6_farthest sw_474 (ci := 6) rfl sr_wC2 rfl rfl hl.1 (Nat.le_of_ble_eq_true rfl) (Nat.le_of_ble_eq_true rfl) (Nat.le_of_ble_eq_true rfl) dX2_weighPairs_34 ⟨Nat.zero_le _, Nat.zero_le _⟩ ?_
              refine lv_istore (lv' := [(4, .int (nI (sr_best kp x y ch 0))), (3, .int (nI y)), (2, .int (nI x)), (0, .ref (a 5)), (1, .int (nI ch))]) C0.1 C0.2.1 dX2_weighPairs_37 hl (by decide) rfl (fun ls hl => ?_)
              refine lv_iconst (v := 5) C0.1 C0.2.1 dX2_weighPairs_39 (by decide) ?_
              refine lv_iload_n C0.1 C0.2.1 dX2_weighPairs_40 rfl (lv_at hl 2 rfl) ?_
              refine lv_imul C0.1 C0.2.1 dX2_weighPairs_41 ?_
              refine sr_chi (pk_mul 5 x) ?_
              refine lv_iload_n C0.1 C0.2.1 dX2_weighPairs_42 rfl (lv_at hl 1 rfl) ?_
              refine lv_iadd C0.1 C0.2.1 dX2_weighPairs_43 ?_
              refine sr_chi (nI_add (5 * x) y) ?_
              refine lv_istore (lv' := [(5, .int (nI ((5 * x) + y))), (4, .int (nI (sr_best kp x y ch 0))), (3, .int (nI y)), (2, .int (nI x)), (0, .ref (a 5)), (1, .int (nI ch))]) C0.1 C0.2.1 dX2_weighPairs_44 hl (by decide) rfl (fun ls hl => ?_)
              refine lv_aload_n C0.1 C0.2.1 dX2_weighPairs_46 rfl (lv_at hl 4 rfl) ?_
              refine sr_get (v := .ref (a 19)) C0 hK hP sr_inX2 sr_wC5 rfl 2 (by decide) sw_134 rfl dX2_weighPairs_47 ?_
              refine lv_iload_n C0.1 C0.2.1 dX2_weighPairs_50 rfl (lv_at hl 5 rfl) ?_
              refine sr_ald2 (k := ch) (r := a (20 + ch)) C0 hK rfl hP sr_wC19 (nI_clamp (by omega)) (vp_in_nI (by omega) (by omega)) (sr_os (by omega)) dX2_weighPairs_51 ?_
              refine lv_iload C0.1 C0.2.1 dX2_weighPairs_52 (lv_at hl 0 rfl) ?_
              refine lv_iload C0.1 C0.2.1 dX2_weighPairs_54 (lv_at hl 1 rfl) ?_
              refine sr_ast (k := (5 * x) + y) C0 hK rfl hP (sr_DC ha _ _ _) hS (sr_rC19 (by omega)) (nI_clamp (by omega)) (vp_in_nI (by omega) (by omega)) (sr_rsC19 (by omega)) dX2_weighPairs_56 (fun H locs hP hS => ?_)
              refine lv_aload_n C0.1 C0.2.1 dX2_weighPairs_57 rfl (lv_at hl 4 rfl) ?_
              refine sr_get (v := .ref (a 23)) C0 hK hP sr_inX2 sr_wC5 rfl 3 (by decide) sw_135 rfl dX2_weighPairs_58 ?_
              refine lv_iload_n C0.1 C0.2.1 dX2_weighPairs_61 rfl (lv_at hl 5 rfl) ?_
              refine sr_ald2 (k := ch) (r := a (24 + ch)) C0 hK rfl hP sr_wC23 (nI_clamp (by omega)) (vp_in_nI (by omega) (by omega)) (sr_os (by omega)) dX2_weighPairs_62 ?_
              refine lv_iload C0.1 C0.2.1 dX2_weighPairs_63 (lv_at hl 0 rfl) ?_
              refine lv_aload_n C0.1 C0.2.1 dX2_weighPairs_65 rfl (lv_at hl 4 rfl) ?_
              refine sr_get (v := .ref (a 2)) C0 hK hP sr_inX2 sr_wC5 rfl 1 (by decide) sw_133 rfl dX2_weighPairs_66 ?_
              refine lv_iload_n C0.1 C0.2.1 dX2_weighPairs_69 rfl (lv_at hl 5 rfl) ?_
              refine lv_iload_n C0.1 C0.2.1 dX2_weighPairs_70 rfl (lv_at hl 3 rfl) ?_
              refine lv_iload_n C0.1 C0.2.1 dX2_weighPairs_71 rfl (lv_at hl 2 rfl) ?_
              refine lv_iload C0.1 C0.2.1 dX2_weighPairs_72 (lv_at hl 1 rfl) ?_
              refine lv_iconst (v := 0) C0.1 C0.2.1 dX2_weighPairs_74 (by decide) ?_
              refine sr_pVi (As := [.int (nI ch), .int (nI x), .int (nI y), .int (nI (sr_best kp x y ch 0)), .int 0]) C0 hK hP hZ (sr_Zs hZ hZ0 hS) (cc_X6_leg ha ch x y (nI (sr_best kp x y ch 0)) (0) hI (by first | omega | exact sr_th_at hT (by omega)) (by first | omega | exact sr_th_at hT (by omega)) (by omega) (sr_b0n (sr_best40 _ _ _ _ _)) sr_bs0) sk_X6_leg sv_X6_leg sw_475 (ci := 6) rfl sr_wC2 rfl rfl hl.1 (Nat.le_of_ble_eq_true rfl) (Nat.le_of_ble_eq_true rfl) (Nat.le_of_ble_eq_true rfl) dX2_weighPairs_75 ⟨Nat.zero_le _, Nat.zero_le _⟩ ?_
              refine sr_ast (k := (5 * x) + y) C0 hK rfl hP (sr_DC ha _ _ _) hS (sr_rC23 (by omega)) (nI_clamp (by omega)) (vp_in_nI (by omega) (by omega)) (sr_rsC23 (by omega)) dX2_weighPairs_78 (fun H locs hP hS => ?_)
              refine lv_iinc (v := (nI (y + 1))) (lv' := [(3, .int (nI (y + 1))), (5, .int (nI ((5 * x) + y))), (4, .int (nI (sr_best kp x y ch 0))), (2, .int (nI x)), (0, .ref (a 5)), (1, .int (nI ch))]) C0.1 C0.2.1 dX2_weighPairs_79 hl (k := 2) rfl (nI_1 y) (by decide) rfl (fun ls hl => ?_)
              refine lv_goto (tgt := 15) C0.1 C0.2.1 dX2_weighPairs_82 (by decide) ?_
              exact ih15 (y + 1) (va_up (va_up sgy (1 + ch) (upd (sgy (1 + ch)) ((5 * x) + y) (nI (sr_best kp x y ch 0)))) (4 + ch) (upd ((va_up sgy (1 + ch) (upd (sgy (1 + ch)) ((5 * x) + y) (nI (sr_best kp x y ch 0)))) (4 + ch)) ((5 * x) + y) (sr_leg kp x y ch (nI (sr_best kp x y ch 0)) 0))) _ _ _ (by omega) (by omega) (sr_wp_step (by omega) (by omega) (by omega) h_wy rfl rfl) (sr_wp_keep h_ky) hP hS (lv_sub hl [0, 3, 4, 5] rfl)
        exact lp15 (sr_cnt kp + 1) 0 sgx _ _ _ (by omega) (by omega) (fun q z h1 h2 => h_wx q z (by omega) h2) h_kx hP hS (lv_sub hl [0, 1, 2, 3] rfl)
  exact lp2 (sr_cnt kp + 1) 0 sg _ _ _ (by omega) (by omega) (fun q z h1 h2 => absurd h1 (by omega)) (fun k h1 h2 => rfl) hP hS (lv_sub hl [0, 1, 2] rfl)
set_option maxRecDepth 100000 in
set_option maxHeartbeats 4000000 in
theorem cc_X2_areUnlike {l : Launch} {D : va_G} {cI cR : ClassId} {a : Nat → Nat} (ha : ∀ i j, i < 36 → j < 36 → a i = a j → i = j) {kp cx sg : sr_M} (a_ : Nat) (b_ : Nat) (c_ : Nat) (d_ : Nat) (br_ : Int32) : sr_P l D (sr_tC cI cR) (sr_ZC a) (sr_WC cI cR a kp cx sg) yX2_areUnlike cX2_areUnlike 6 (some .boolean) 1 20 [.int (nI a_), .int (nI b_), .int (nI c_), .int (nI d_), .int br_] (some (.int (if sr_ul br_ a_ b_ c_ d_ then 1 else 0))) := by
  refine sr_Pze (by decide +kernel) (Nat.le_of_ble_eq_true rfl) (fun p e s m args below meth c ls Q B hret => ?_)
  obtain ⟨C0, hP, hK, hZ0, hl⟩ := B
  have hZ : sr_Zok (sr_AC a) (sr_ZC a) := sr_ZCok a
  have hS : va_S (sr_AC a) s.heap s.heap [] := va_S.rf
  have hl : lv_has ls 6 [(0, .int (nI a_)), (1, .int (nI b_)), (2, .int (nI c_)), (3, .int (nI d_)), (4, .int br_)] := hl
  refine lv_iconst (v := 1) C0.1 C0.2.1 dX2_areUnlike_0 (by decide) ?_
  refine lv_iload_n C0.1 C0.2.1 dX2_areUnlike_1 rfl (lv_at hl 0 rfl) ?_
  refine lv_ishl C0.1 C0.2.1 dX2_areUnlike_2 ?_
  refine lv_iconst (v := 1) C0.1 C0.2.1 dX2_areUnlike_3 (by decide) ?_
  refine lv_iload_n C0.1 C0.2.1 dX2_areUnlike_4 rfl (lv_at hl 1 rfl) ?_
  refine lv_ishl C0.1 C0.2.1 dX2_areUnlike_5 ?_
  refine lv_ior C0.1 C0.2.1 dX2_areUnlike_6 ?_
  refine lv_iconst (v := 1) C0.1 C0.2.1 dX2_areUnlike_7 (by decide) ?_
  refine lv_iload_n C0.1 C0.2.1 dX2_areUnlike_8 rfl (lv_at hl 2 rfl) ?_
  refine lv_ishl C0.1 C0.2.1 dX2_areUnlike_9 ?_
  refine lv_ior C0.1 C0.2.1 dX2_areUnlike_10 ?_
  refine lv_iconst (v := 1) C0.1 C0.2.1 dX2_areUnlike_11 (by decide) ?_
  refine lv_iload_n C0.1 C0.2.1 dX2_areUnlike_12 rfl (lv_at hl 3 rfl) ?_
  refine lv_ishl C0.1 C0.2.1 dX2_areUnlike_13 ?_
  refine lv_ior C0.1 C0.2.1 dX2_areUnlike_14 ?_
  refine lv_istore (lv' := [(5, .int (((((1 : Int32) <<< (((nI a_) : Int32) &&& 31)) ||| ((1 : Int32) <<< (((nI b_) : Int32) &&& 31))) ||| ((1 : Int32) <<< (((nI c_) : Int32) &&& 31))) ||| ((1 : Int32) <<< (((nI d_) : Int32) &&& 31)))), (0, .int (nI a_)), (1, .int (nI b_)), (2, .int (nI c_)), (3, .int (nI d_)), (4, .int br_)]) C0.1 C0.2.1 dX2_areUnlike_15 hl (by decide) rfl (fun ls hl => ?_)
  refine lv_iload C0.1 C0.2.1 dX2_areUnlike_17 (lv_at hl 0 rfl) ?_
  refine sr_pSi (As := [.int (((((1 : Int32) <<< (((nI a_) : Int32) &&& 31)) ||| ((1 : Int32) <<< (((nI b_) : Int32) &&& 31))) ||| ((1 : Int32) <<< (((nI c_) : Int32) &&& 31))) ||| ((1 : Int32) <<< (((nI d_) : Int32) &&& 31)))]) C0 hK hP hZ hZ0 (cc_J6_bitCount_0f7a4 ha (((((1 : Int32) <<< (((nI a_) : Int32) &&& 31)) ||| ((1 : Int32) <<< (((nI b_) : Int32) &&& 31))) ||| ((1 : Int32) <<< (((nI c_) : Int32) &&& 31))) ||| ((1 : Int32) <<< (((nI d_) : Int32) &&& 31)))) sk_J6_bitCount_0f7a4 (ss_J6_bitCount_0f7a4) sw_479 rfl rfl hl.1 (Nat.le_of_ble_eq_true rfl) (Nat.le_of_ble_eq_true rfl) (Nat.le_of_ble_eq_true rfl) dX2_areUnlike_19 ⟨Nat.zero_le _, Nat.zero_le _⟩ ?_
  refine lv_iconst (v := 4) C0.1 C0.2.1 dX2_areUnlike_22 (by decide) ?_
  refine lv_icmp_ne (tgt := 38) C0.1 C0.2.1 dX2_areUnlike_23 (by decide) (fun c23 => ?_) (fun c23 => ?_)
  · refine lv_iconst (v := 0) C0.1 C0.2.1 dX2_areUnlike_38 (by decide) ?_
    exact hret _ _ _ dX2_areUnlike_39 (if_neg (fun q => c23 q.1)).symm
  · refine lv_iload C0.1 C0.2.1 dX2_areUnlike_26 (lv_at hl 0 rfl) ?_
    refine lv_iload C0.1 C0.2.1 dX2_areUnlike_28 (lv_at hl 5 rfl) ?_
    refine lv_iand C0.1 C0.2.1 dX2_areUnlike_30 ?_
    refine lv_if_ne (tgt := 38) C0.1 C0.2.1 dX2_areUnlike_31 (by decide) (fun c31 => ?_) (fun c31 => ?_)
    · refine lv_iconst (v := 0) C0.1 C0.2.1 dX2_areUnlike_38 (by decide) ?_
      exact hret _ _ _ dX2_areUnlike_39 (if_neg (fun q => c31 q.2)).symm
    · refine lv_iconst (v := 1) C0.1 C0.2.1 dX2_areUnlike_34 (by decide) ?_
      refine lv_goto (tgt := 39) C0.1 C0.2.1 dX2_areUnlike_35 (by decide) ?_
      exact hret _ _ _ dX2_areUnlike_39 (if_pos ⟨c23, c31⟩).symm
set_option maxRecDepth 100000 in
set_option maxHeartbeats 4000000 in
theorem cc_X2_canChangeHands {l : Launch} {D : va_G} {cI cR : ClassId} {a : Nat → Nat} (ha : ∀ i j, i < 36 → j < 36 → a i = a j → i = j) {kp cx sg : sr_M} (a_ : Nat) (b_ : Nat) (c_ : Nat) (d_ : Nat) (hI : sr_IC kp cx) (hr_a_ : a_ < sr_cnt kp) (hr_b_ : b_ < sr_cnt kp) (hr_c_ : c_ < sr_cnt kp) (hr_d_ : d_ < sr_cnt kp) : sr_P l D (sr_tC cI cR) (sr_ZC a) (sr_WC cI cR a kp cx sg) yX2_canChangeHands cX2_canChangeHands 7 (some .boolean) 0 0 [.ref (a 5), .int (nI a_), .int (nI b_), .int (nI c_), .int (nI d_)] (some (.int (if sr_hc kp a_ b_ c_ d_ then 1 else 0))) := by
  refine sr_Pze (by decide +kernel) (Nat.le_of_ble_eq_true rfl) (fun p e s m args below meth c ls Q B hret => ?_)
  obtain ⟨C0, hP, hK, hZ0, hl⟩ := B
  have hZ : sr_Zok (sr_AC a) (sr_ZC a) := sr_ZCok a
  have hS : va_S (sr_AC a) s.heap s.heap [] := va_S.rf
  have hl : lv_has ls 7 [(0, .ref (a 5)), (1, .int (nI a_)), (2, .int (nI b_)), (3, .int (nI c_)), (4, .int (nI d_))] := hl
  have hc5 := sr_cnt5 kp
  refine lv_aload_n C0.1 C0.2.1 dX2_canChangeHands_0 rfl (lv_at hl 0 rfl) ?_
  refine sr_get (v := .ref (a 1)) C0 hK hP sr_inX2 sr_wC5 rfl 0 (by decide) sw_132 rfl dX2_canChangeHands_1 ?_
  refine sr_get (v := .ref (a 12)) C0 hK hP sr_inX4 sr_wC1 rfl 4 (by decide) sw_36 rfl dX2_canChangeHands_4 ?_
  refine lv_iload_n C0.1 C0.2.1 dX2_canChangeHands_7 rfl (lv_at hl 1 rfl) ?_
  refine sr_ald (k := a_) C0 hK rfl hP sr_wC12 (nI_clamp (by omega)) (vp_in_nI (by omega) (by omega)) dX2_canChangeHands_8 ?_
  refine sr_chi (sr_IC_f3 hI (by first | assumption | omega | exact sr_th_at hT (by omega))) ?_
  refine lv_aload_n C0.1 C0.2.1 dX2_canChangeHands_9 rfl (lv_at hl 0 rfl) ?_
  refine sr_get (v := .ref (a 1)) C0 hK hP sr_inX2 sr_wC5 rfl 0 (by decide) sw_132 rfl dX2_canChangeHands_10 ?_
  refine sr_get (v := .ref (a 12)) C0 hK hP sr_inX4 sr_wC1 rfl 4 (by decide) sw_36 rfl dX2_canChangeHands_13 ?_
  refine lv_iload_n C0.1 C0.2.1 dX2_canChangeHands_16 rfl (lv_at hl 3 rfl) ?_
  refine sr_ald (k := c_) C0 hK rfl hP sr_wC12 (nI_clamp (by omega)) (vp_in_nI (by omega) (by omega)) dX2_canChangeHands_17 ?_
  refine sr_chi (sr_IC_f3 hI (by first | assumption | omega | exact sr_th_at hT (by omega))) ?_
  refine lv_iand C0.1 C0.2.1 dX2_canChangeHands_18 ?_
  refine lv_istore (lv' := [(5, .int ((sr_fig kp a_ 3) &&& (sr_fig kp c_ 3))), (0, .ref (a 5)), (1, .int (nI a_)), (2, .int (nI b_)), (3, .int (nI c_)), (4, .int (nI d_))]) C0.1 C0.2.1 dX2_canChangeHands_19 hl (by decide) rfl (fun ls hl => ?_)
  refine lv_aload_n C0.1 C0.2.1 dX2_canChangeHands_21 rfl (lv_at hl 1 rfl) ?_
  refine sr_get (v := .ref (a 1)) C0 hK hP sr_inX2 sr_wC5 rfl 0 (by decide) sw_132 rfl dX2_canChangeHands_22 ?_
  refine sr_get (v := .ref (a 12)) C0 hK hP sr_inX4 sr_wC1 rfl 4 (by decide) sw_36 rfl dX2_canChangeHands_25 ?_
  refine lv_iload_n C0.1 C0.2.1 dX2_canChangeHands_28 rfl (lv_at hl 3 rfl) ?_
  refine sr_ald (k := b_) C0 hK rfl hP sr_wC12 (nI_clamp (by omega)) (vp_in_nI (by omega) (by omega)) dX2_canChangeHands_29 ?_
  refine sr_chi (sr_IC_f3 hI (by first | assumption | omega | exact sr_th_at hT (by omega))) ?_
  refine lv_aload_n C0.1 C0.2.1 dX2_canChangeHands_30 rfl (lv_at hl 1 rfl) ?_
  refine sr_get (v := .ref (a 1)) C0 hK hP sr_inX2 sr_wC5 rfl 0 (by decide) sw_132 rfl dX2_canChangeHands_31 ?_
  refine sr_get (v := .ref (a 12)) C0 hK hP sr_inX4 sr_wC1 rfl 4 (by decide) sw_36 rfl dX2_canChangeHands_34 ?_
  refine lv_iload C0.1 C0.2.1 dX2_canChangeHands_37 (lv_at hl 5 rfl) ?_
  refine sr_ald (k := d_) C0 hK rfl hP sr_wC12 (nI_clamp (by omega)) (vp_in_nI (by omega) (by omega)) dX2_canChangeHands_39 ?_
  refine sr_chi (sr_IC_f3 hI (by first | assumption | omega | exact sr_th_at hT (by omega))) ?_
  refine lv_iand C0.1 C0.2.1 dX2_canChangeHands_40 ?_
  refine lv_istore (lv' := [(6, .int ((sr_fig kp b_ 3) &&& (sr_fig kp d_ 3))), (5, .int ((sr_fig kp a_ 3) &&& (sr_fig kp c_ 3))), (0, .ref (a 5)), (1, .int (nI a_)), (2, .int (nI b_)), (3, .int (nI c_)), (4, .int (nI d_))]) C0.1 C0.2.1 dX2_canChangeHands_41 hl (by decide) rfl (fun ls hl => ?_)
  refine lv_iload C0.1 C0.2.1 dX2_canChangeHands_43 (lv_at hl 1 rfl) ?_
  refine lv_iconst (v := 1) C0.1 C0.2.1 dX2_canChangeHands_45 (by decide) ?_
  refine lv_iand C0.1 C0.2.1 dX2_canChangeHands_46 ?_
  refine lv_if_eq (tgt := 57) C0.1 C0.2.1 dX2_canChangeHands_47 (by decide) (fun c47 => ?_) (fun c47 => ?_)
  · refine lv_iload C0.1 C0.2.1 dX2_canChangeHands_57 (lv_at hl 1 rfl) ?_
    refine lv_iconst (v := 2) C0.1 C0.2.1 dX2_canChangeHands_59 (by decide) ?_
    refine lv_iand C0.1 C0.2.1 dX2_canChangeHands_60 ?_
    refine lv_if_eq (tgt := 75) C0.1 C0.2.1 dX2_canChangeHands_61 (by decide) (fun c61 => ?_) (fun c61 => ?_)
    · refine lv_iconst (v := 0) C0.1 C0.2.1 dX2_canChangeHands_75 (by decide) ?_
      exact hret _ _ _ dX2_canChangeHands_76 (if_neg (fun q => q.elim (fun z => z.1 c47) (fun z => z.1 c61))).symm
    · refine lv_iload C0.1 C0.2.1 dX2_canChangeHands_64 (lv_at hl 0 rfl) ?_
      refine lv_iconst (v := 1) C0.1 C0.2.1 dX2_canChangeHands_66 (by decide) ?_
      refine lv_iand C0.1 C0.2.1 dX2_canChangeHands_67 ?_
      refine lv_if_eq (tgt := 75) C0.1 C0.2.1 dX2_canChangeHands_68 (by decide) (fun c68 => ?_) (fun c68 => ?_)
      · refine lv_iconst (v := 0) C0.1 C0.2.1 dX2_canChangeHands_75 (by decide) ?_
        exact hret _ _ _ dX2_canChangeHands_76 (if_neg (fun q => q.elim (fun z => z.1 c47) (fun z => z.2 c68))).symm
      · refine lv_iconst (v := 1) C0.1 C0.2.1 dX2_canChangeHands_71 (by decide) ?_
        refine lv_goto (tgt := 76) C0.1 C0.2.1 dX2_canChangeHands_72 (by decide) ?_
        exact hret _ _ _ dX2_canChangeHands_76 (if_pos (Or.inr ⟨c61, c68⟩)).symm
  · refine lv_iload C0.1 C0.2.1 dX2_canChangeHands_50 (lv_at hl 0 rfl) ?_
    refine lv_iconst (v := 2) C0.1 C0.2.1 dX2_canChangeHands_52 (by decide) ?_
    refine lv_iand C0.1 C0.2.1 dX2_canChangeHands_53 ?_
    refine lv_if_ne (tgt := 71) C0.1 C0.2.1 dX2_canChangeHands_54 (by decide) (fun c54 => ?_) (fun c54 => ?_)
    · refine lv_iconst (v := 1) C0.1 C0.2.1 dX2_canChangeHands_71 (by decide) ?_
      refine lv_goto (tgt := 76) C0.1 C0.2.1 dX2_canChangeHands_72 (by decide) ?_
      exact hret _ _ _ dX2_canChangeHands_76 (if_pos (Or.inl ⟨c47, c54⟩)).symm
    · refine lv_iload C0.1 C0.2.1 dX2_canChangeHands_57 (lv_at hl 1 rfl) ?_
      refine lv_iconst (v := 2) C0.1 C0.2.1 dX2_canChangeHands_59 (by decide) ?_
      refine lv_iand C0.1 C0.2.1 dX2_canChangeHands_60 ?_
      refine lv_if_eq (tgt := 75) C0.1 C0.2.1 dX2_canChangeHands_61 (by decide) (fun c61 => ?_) (fun c61 => ?_)
      · refine lv_iconst (v := 0) C0.1 C0.2.1 dX2_canChangeHands_75 (by decide) ?_
        exact hret _ _ _ dX2_canChangeHands_76 (if_neg (fun q => q.elim (fun z => z.2 c54) (fun z => z.1 c61))).symm
      · refine lv_iload C0.1 C0.2.1 dX2_canChangeHands_64 (lv_at hl 0 rfl) ?_
        refine lv_iconst (v := 1) C0.1 C0.2.1 dX2_canChangeHands_66 (by decide) ?_
        refine lv_iand C0.1 C0.2.1 dX2_canChangeHands_67 ?_
        refine lv_if_eq (tgt := 75) C0.1 C0.2.1 dX2_canChangeHands_68 (by decide) (fun c68 => ?_) (fun c68 => ?_)
        · refine lv_iconst (v := 0) C0.1 C0.2.1 dX2_canChangeHands_75 (by decide) ?_
          exact hret _ _ _ dX2_canChangeHands_76 (if_neg (fun q => q.elim (fun z => z.2 c54) (fun z => z.2 c68))).symm
        · refine lv_iconst (v := 1) C0.1 C0.2.1 dX2_canChangeHands_71 (by decide) ?_
          refine lv_goto (tgt := 76) C0.1 C0.2.1 dX2_canChangeHands_72 (by decide) ?_
          exact hret _ _ _ dX2_canChangeHands_76 (if_pos (Or.inr ⟨c61, c68⟩)).symm
set_option maxRecDepth 100000 in
set_option maxHeartbeats 4000000 in
theorem cc_X2_consider {l : Launch} {D : va_G} {cI cR : ClassId} {a : Nat → Nat} (ha : ∀ i j, i < 36 → j < 36 → a i = a j → i = j) {kp cx sg : sr_M} (a_ : Nat) (b_ : Nat) (c_ : Nat) (d_ : Nat) (hI : sr_IC kp cx) (hr_a_ : a_ < sr_cnt kp) (hr_b_ : b_ < sr_cnt kp) (hr_c_ : c_ < sr_cnt kp) (hr_d_ : d_ < sr_cnt kp) (hW : sr_Wp kp sg) : sr_G l D (sr_tC cI cR) (sr_ZC a) (sr_AC a) (sr_WC cI cR a kp cx sg) yX2_consider cX2_consider 9 none 1 24 [.ref (a 5), .int (nI a_), .int (nI b_), .int (nI c_), .int (nI d_)] (S := sr_M) (fun u => u 7 = sr_cons kp (sg 7) a_ b_ c_ d_ ∧ ∀ k, k ≠ 7 → u k = sg k) (fun u => sr_WC cI cR a kp cx u) (fun _ => none) := by
  refine sr_Gve (by decide +kernel) (Nat.le_of_ble_eq_true rfl) (fun p e s m args below meth c ls Q B hret => ?_)
  obtain ⟨C0, hP, hK, hZ0, hl⟩ := B
  have hZ : sr_Zok (sr_AC a) (sr_ZC a) := sr_ZCok a
  have hS : va_S (sr_AC a) s.heap s.heap [] := va_S.rf
  have hl : lv_has ls 9 [(0, .ref (a 5)), (1, .int (nI a_)), (2, .int (nI b_)), (3, .int (nI c_)), (4, .int (nI d_))] := hl
  obtain ⟨H, hH⟩ : ∃ H, H = s.heap := ⟨_, rfl⟩
  have hP : va_P D vwCl (sr_WC cI cR a kp cx sg) H := by rw [hH]; exact hP
  have hS : va_S (sr_AC a) s.heap H [] := by rw [hH]; exact hS
  suffices hG : ∀ locs, va_S (sr_AC a) s.heap H locs → W p l e (sr_rm 1 24) s m args below meth c H locs 0 0 Q (F0 m 0 ls []) from by have h9 := hG [] hS; rw [hH] at h9; exact h9
  clear hS
  intro locs hS
  clear hH
  have hc5 := sr_cnt5 kp
  refine lv_iconst (v := 5) C0.1 C0.2.1 dX2_consider_0 (by decide) ?_
  refine lv_iload_n C0.1 C0.2.1 dX2_consider_1 rfl (lv_at hl 1 rfl) ?_
  refine lv_imul C0.1 C0.2.1 dX2_consider_2 ?_
  refine sr_chi (pk_mul 5 a_) ?_
  refine lv_iload_n C0.1 C0.2.1 dX2_consider_3 rfl (lv_at hl 2 rfl) ?_
  refine lv_iadd C0.1 C0.2.1 dX2_consider_4 ?_
  refine sr_chi (nI_add (5 * a_) b_) ?_
  refine lv_istore (lv' := [(5, .int (nI ((5 * a_) + b_))), (0, .ref (a 5)), (1, .int (nI a_)), (2, .int (nI b_)), (3, .int (nI c_)), (4, .int (nI d_))]) C0.1 C0.2.1 dX2_consider_5 hl (by decide) rfl (fun ls hl => ?_)
  refine lv_iconst (v := 5) C0.1 C0.2.1 dX2_consider_7 (by decide) ?_
  refine lv_iload_n C0.1 C0.2.1 dX2_consider_8 rfl (lv_at hl 3 rfl) ?_
  refine lv_imul C0.1 C0.2.1 dX2_consider_9 ?_
  refine sr_chi (pk_mul 5 b_) ?_
  refine lv_iload_n C0.1 C0.2.1 dX2_consider_10 rfl (lv_at hl 4 rfl) ?_
  refine lv_iadd C0.1 C0.2.1 dX2_consider_11 ?_
  refine sr_chi (nI_add (5 * b_) c_) ?_
  refine lv_istore (lv' := [(6, .int (nI ((5 * b_) + c_))), (5, .int (nI ((5 * a_) + b_))), (0, .ref (a 5)), (1, .int (nI a_)), (2, .int (nI b_)), (3, .int (nI c_)), (4, .int (nI d_))]) C0.1 C0.2.1 dX2_consider_12 hl (by decide) rfl (fun ls hl => ?_)
  refine lv_iconst (v := 5) C0.1 C0.2.1 dX2_consider_14 (by decide) ?_
  refine lv_iload_n C0.1 C0.2.1 dX2_consider_15 rfl (lv_at hl 5 rfl) ?_
  refine lv_imul C0.1 C0.2.1 dX2_consider_16 ?_
  refine sr_chi (pk_mul 5 c_) ?_
  refine lv_iload C0.1 C0.2.1 dX2_consider_17 (lv_at hl 6 rfl) ?_
  refine lv_iadd C0.1 C0.2.1 dX2_consider_19 ?_
  refine sr_chi (nI_add (5 * c_) d_) ?_
  refine lv_istore (lv' := [(7, .int (nI ((5 * c_) + d_))), (6, .int (nI ((5 * b_) + c_))), (5, .int (nI ((5 * a_) + b_))), (0, .ref (a 5)), (1, .int (nI a_)), (2, .int (nI b_)), (3, .int (nI c_)), (4, .int (nI d_))]) C0.1 C0.2.1 dX2_consider_20 hl (by decide) rfl (fun ls hl => ?_)
  refine lv_aload_n C0.1 C0.2.1 dX2_consider_22 rfl (lv_at hl 3 rfl) ?_
  refine sr_get (v := .ref (a 23)) C0 hK hP sr_inX2 sr_wC5 rfl 3 (by decide) sw_135 rfl dX2_consider_23 ?_
  refine lv_iconst (v := 0) C0.1 C0.2.1 dX2_consider_26 (by decide) ?_
  refine sr_ald2 (k := 0) (r := a 24) C0 hK rfl hP sr_wC23 (by decide) (sr_inc (by decide)) rfl dX2_consider_27 ?_
  refine lv_iload C0.1 C0.2.1 dX2_consider_28 (lv_at hl 2 rfl) ?_
  refine sr_ald (k := (5 * a_) + b_) C0 hK rfl hP sr_wC24 (nI_clamp (by omega)) (vp_in_nI (by omega) (by omega)) dX2_consider_30 ?_
  refine sr_chi (hW 0 (by omega) a_ b_ hr_a_ hr_b_).2 ?_
  refine lv_aload_n C0.1 C0.2.1 dX2_consider_31 rfl (lv_at hl 3 rfl) ?_
  refine sr_get (v := .ref (a 23)) C0 hK hP sr_inX2 sr_wC5 rfl 3 (by decide) sw_135 rfl dX2_consider_32 ?_
  refine lv_iconst (v := 1) C0.1 C0.2.1 dX2_consider_35 (by decide) ?_
  refine sr_ald2 (k := 1) (r := a 25) C0 hK rfl hP sr_wC23 (by decide) (sr_inc (by decide)) rfl dX2_consider_36 ?_
  refine lv_iload C0.1 C0.2.1 dX2_consider_37 (lv_at hl 1 rfl) ?_
  refine sr_ald (k := (5 * b_) + c_) C0 hK rfl hP sr_wC25 (nI_clamp (by omega)) (vp_in_nI (by omega) (by omega)) dX2_consider_39 ?_
  refine sr_chi (hW 1 (by omega) b_ c_ hr_b_ hr_c_).2 ?_
  refine lv_iadd C0.1 C0.2.1 dX2_consider_40 ?_
  refine lv_aload_n C0.1 C0.2.1 dX2_consider_41 rfl (lv_at hl 3 rfl) ?_
  refine sr_get (v := .ref (a 23)) C0 hK hP sr_inX2 sr_wC5 rfl 3 (by decide) sw_135 rfl dX2_consider_42 ?_
  refine lv_iconst (v := 2) C0.1 C0.2.1 dX2_consider_45 (by decide) ?_
  refine sr_ald2 (k := 2) (r := a 26) C0 hK rfl hP sr_wC23 (by decide) (sr_inc (by decide)) rfl dX2_consider_46 ?_
  refine lv_iload C0.1 C0.2.1 dX2_consider_47 (lv_at hl 0 rfl) ?_
  refine sr_ald (k := (5 * c_) + d_) C0 hK rfl hP sr_wC26 (nI_clamp (by omega)) (vp_in_nI (by omega) (by omega)) dX2_consider_49 ?_
  refine sr_chi (hW 2 (by omega) c_ d_ hr_c_ hr_d_).2 ?_
  refine lv_iadd C0.1 C0.2.1 dX2_consider_50 ?_
  refine lv_aload_n C0.1 C0.2.1 dX2_consider_51 rfl (lv_at hl 3 rfl) ?_
  refine sr_get (v := .ref (a 2)) C0 hK hP sr_inX2 sr_wC5 rfl 1 (by decide) sw_133 rfl dX2_consider_52 ?_
  refine lv_iload C0.1 C0.2.1 dX2_consider_55 (lv_at hl 7 rfl) ?_
  refine lv_iconst (v := 3) C0.1 C0.2.1 dX2_consider_57 (by decide) ?_
  refine lv_bipush (v := 100) C0.1 C0.2.1 dX2_consider_58 (by decide) ?_
  refine sr_pVi (As := [.int (nI d_), .int 3, .int 100]) C0 hK hP hZ (sr_Zs hZ hZ0 hS) (cc_X6_span ha d_ 3 (100) hI (by first | omega | exact sr_th_at hT (by omega)) (by omega)) sk_X6_span sv_X6_span sw_493 (ci := 6) rfl sr_wC2 rfl rfl hl.1 (Nat.le_of_ble_eq_true rfl) (Nat.le_of_ble_eq_true rfl) (Nat.le_of_ble_eq_true rfl) dX2_consider_60 ⟨Nat.zero_le _, Nat.zero_le _⟩ ?_
  refine lv_iadd C0.1 C0.2.1 dX2_consider_63 ?_
  refine sr_chi rfl ?_
  refine lv_istore (lv' := [(8, .int (sr_tm kp a_ b_ c_ d_)), (7, .int (nI ((5 * c_) + d_))), (6, .int (nI ((5 * b_) + c_))), (5, .int (nI ((5 * a_) + b_))), (0, .ref (a 5)), (1, .int (nI a_)), (2, .int (nI b_)), (3, .int (nI c_)), (4, .int (nI d_))]) C0.1 C0.2.1 dX2_consider_64 hl (by decide) rfl (fun ls hl => ?_)
  refine lv_aload_n C0.1 C0.2.1 dX2_consider_66 rfl (lv_at hl 4 rfl) ?_
  refine sr_get (v := .ref (a 27)) C0 hK hP sr_inX2 sr_wC5 rfl 4 (by decide) sw_136 rfl dX2_consider_67 ?_
  refine lv_iconst (v := 0) C0.1 C0.2.1 dX2_consider_70 (by decide) ?_
  refine sr_ald (k := 0) C0 hK rfl hP sr_wC27 (by decide) (sr_inc (by decide)) dX2_consider_71 ?_
  refine lv_iconst (v := (-1)) C0.1 C0.2.1 dX2_consider_72 (by decide) ?_
  refine lv_icmp_eq (tgt := 88) C0.1 C0.2.1 dX2_consider_73 (by decide) (fun c73 => ?_) (fun c73 => ?_)
  · refine lv_aload_n C0.1 C0.2.1 dX2_consider_88 rfl (lv_at hl 4 rfl) ?_
    refine sr_get (v := .ref (a 27)) C0 hK hP sr_inX2 sr_wC5 rfl 4 (by decide) sw_136 rfl dX2_consider_89 ?_
    refine lv_iconst (v := 0) C0.1 C0.2.1 dX2_consider_92 (by decide) ?_
    refine lv_iload C0.1 C0.2.1 dX2_consider_93 (lv_at hl 0 rfl) ?_
    refine sr_ast (k := 0) C0 hK rfl hP (sr_DC ha _ _ _) hS sr_wC27 (by decide) (sr_inc (by decide)) sr_sC27 dX2_consider_95 (fun H locs hP hS => ?_)
    refine lv_aload_n C0.1 C0.2.1 dX2_consider_96 rfl (lv_at hl 4 rfl) ?_
    refine sr_get (v := .ref (a 27)) C0 hK hP sr_inX2 sr_wC5 rfl 4 (by decide) sw_136 rfl dX2_consider_97 ?_
    refine lv_iconst (v := 1) C0.1 C0.2.1 dX2_consider_100 (by decide) ?_
    refine lv_iload_n C0.1 C0.2.1 dX2_consider_101 rfl (lv_at hl 5 rfl) ?_
    refine sr_ast (k := 1) C0 hK rfl hP (sr_DC ha _ _ _) hS sr_wC27 (by decide) (sr_inc (by decide)) sr_sC27 dX2_consider_102 (fun H locs hP hS => ?_)
    have hP : va_P D vwCl (sr_WC cI cR a kp cx (va_up sg 7 (upd (upd (sg 7) 0 (sr_tm kp a_ b_ c_ d_)) 1 (nI a_)))) H := hP
    refine lv_aload_n C0.1 C0.2.1 dX2_consider_103 rfl (lv_at hl 4 rfl) ?_
    refine sr_get (v := .ref (a 27)) C0 hK hP sr_inX2 sr_wC5 rfl 4 (by decide) sw_136 rfl dX2_consider_104 ?_
    refine lv_iconst (v := 2) C0.1 C0.2.1 dX2_consider_107 (by decide) ?_
    refine lv_iload_n C0.1 C0.2.1 dX2_consider_108 rfl (lv_at hl 6 rfl) ?_
    refine sr_ast (k := 2) C0 hK rfl hP (sr_DC ha _ _ _) hS sr_wC27 (by decide) (sr_inc (by decide)) sr_sC27 dX2_consider_109 (fun H locs hP hS => ?_)
    have hP : va_P D vwCl (sr_WC cI cR a kp cx (va_up sg 7 (upd (upd (upd (sg 7) 0 (sr_tm kp a_ b_ c_ d_)) 1 (nI a_)) 2 (nI b_)))) H := hP
    refine lv_aload_n C0.1 C0.2.1 dX2_consider_110 rfl (lv_at hl 4 rfl) ?_
    refine sr_get (v := .ref (a 27)) C0 hK hP sr_inX2 sr_wC5 rfl 4 (by decide) sw_136 rfl dX2_consider_111 ?_
    refine lv_iconst (v := 3) C0.1 C0.2.1 dX2_consider_114 (by decide) ?_
    refine lv_iload_n C0.1 C0.2.1 dX2_consider_115 rfl (lv_at hl 7 rfl) ?_
    refine sr_ast (k := 3) C0 hK rfl hP (sr_DC ha _ _ _) hS sr_wC27 (by decide) (sr_inc (by decide)) sr_sC27 dX2_consider_116 (fun H locs hP hS => ?_)
    have hP : va_P D vwCl (sr_WC cI cR a kp cx (va_up sg 7 (upd (upd (upd (upd (sg 7) 0 (sr_tm kp a_ b_ c_ d_)) 1 (nI a_)) 2 (nI b_)) 3 (nI c_)))) H := hP
    refine lv_aload_n C0.1 C0.2.1 dX2_consider_117 rfl (lv_at hl 4 rfl) ?_
    refine sr_get (v := .ref (a 27)) C0 hK hP sr_inX2 sr_wC5 rfl 4 (by decide) sw_136 rfl dX2_consider_118 ?_
    refine lv_iconst (v := 4) C0.1 C0.2.1 dX2_consider_121 (by decide) ?_
    refine lv_iload C0.1 C0.2.1 dX2_consider_122 (lv_at hl 8 rfl) ?_
    refine sr_ast (k := 4) C0 hK rfl hP (sr_DC ha _ _ _) hS sr_wC27 (by decide) (sr_inc (by decide)) sr_sC27 dX2_consider_124 (fun H locs hP hS => ?_)
    have hP : va_P D vwCl (sr_WC cI cR a kp cx (va_up sg 7 (upd (upd (upd (upd (upd (sg 7) 0 (sr_tm kp a_ b_ c_ d_)) 1 (nI a_)) 2 (nI b_)) 3 (nI c_)) 4 (nI d_)))) H := hP
    refine lv_aload_n C0.1 C0.2.1 dX2_consider_125 rfl (lv_at hl 4 rfl) ?_
    refine sr_get (v := .ref (a 27)) C0 hK hP sr_inX2 sr_wC5 rfl 4 (by decide) sw_136 rfl dX2_consider_126 ?_
    refine lv_iconst (v := 5) C0.1 C0.2.1 dX2_consider_129 (by decide) ?_
    refine lv_aload_n C0.1 C0.2.1 dX2_consider_130 rfl (lv_at hl 4 rfl) ?_
    refine sr_get (v := .ref (a 19)) C0 hK hP sr_inX2 sr_wC5 rfl 2 (by decide) sw_134 rfl dX2_consider_131 ?_
    refine lv_iconst (v := 0) C0.1 C0.2.1 dX2_consider_134 (by decide) ?_
    refine sr_ald2 (k := 0) (r := a 20) C0 hK rfl hP sr_wC19 (by decide) (sr_inc (by decide)) rfl dX2_consider_135 ?_
    refine lv_iload C0.1 C0.2.1 dX2_consider_136 (lv_at hl 3 rfl) ?_
    refine sr_ald (k := (5 * a_) + b_) C0 hK rfl hP sr_wC20 (nI_clamp (by omega)) (vp_in_nI (by omega) (by omega)) dX2_consider_138 ?_
    refine sr_chi (show ((va_up sg 7 (upd (upd (upd (upd (upd (sg 7) 0 (sr_tm kp a_ b_ c_ d_)) 1 (nI a_)) 2 (nI b_)) 3 (nI c_)) 4 (nI d_))) 1 ((5 * a_) + b_) : Int32) = (sg 1 ((5 * a_) + b_)) from rfl) ?_
    refine sr_chi (hW 0 (by omega) a_ b_ hr_a_ hr_b_).1 ?_
    refine sr_ast (k := 5) C0 hK rfl hP (sr_DC ha _ _ _) hS sr_wC27 (by decide) (sr_inc (by decide)) sr_sC27 dX2_consider_139 (fun H locs hP hS => ?_)
    have hP : va_P D vwCl (sr_WC cI cR a kp cx (va_up sg 7 (upd (upd (upd (upd (upd (upd (sg 7) 0 (sr_tm kp a_ b_ c_ d_)) 1 (nI a_)) 2 (nI b_)) 3 (nI c_)) 4 (nI d_)) 5 (nI (sr_best kp a_ b_ 0 0))))) H := hP
    refine lv_aload_n C0.1 C0.2.1 dX2_consider_140 rfl (lv_at hl 4 rfl) ?_
    refine sr_get (v := .ref (a 27)) C0 hK hP sr_inX2 sr_wC5 rfl 4 (by decide) sw_136 rfl dX2_consider_141 ?_
    refine lv_bipush (v := 6) C0.1 C0.2.1 dX2_consider_144 (by decide) ?_
    refine lv_aload_n C0.1 C0.2.1 dX2_consider_146 rfl (lv_at hl 4 rfl) ?_
    refine sr_get (v := .ref (a 19)) C0 hK hP sr_inX2 sr_wC5 rfl 2 (by decide) sw_134 rfl dX2_consider_147 ?_
    refine lv_iconst (v := 1) C0.1 C0.2.1 dX2_consider_150 (by decide) ?_
    refine sr_ald2 (k := 1) (r := a 21) C0 hK rfl hP sr_wC19 (by decide) (sr_inc (by decide)) rfl dX2_consider_151 ?_
    refine lv_iload C0.1 C0.2.1 dX2_consider_152 (lv_at hl 2 rfl) ?_
    refine sr_ald (k := (5 * b_) + c_) C0 hK rfl hP sr_wC21 (nI_clamp (by omega)) (vp_in_nI (by omega) (by omega)) dX2_consider_154 ?_
    refine sr_chi (show ((va_up sg 7 (upd (upd (upd (upd (upd (upd (sg 7) 0 (sr_tm kp a_ b_ c_ d_)) 1 (nI a_)) 2 (nI b_)) 3 (nI c_)) 4 (nI d_)) 5 (nI (sr_best kp a_ b_ 0 0)))) 2 ((5 * b_) + c_) : Int32) = (sg 2 ((5 * b_) + c_)) from rfl) ?_
    refine sr_chi (hW 1 (by omega) b_ c_ hr_b_ hr_c_).1 ?_
    refine sr_ast (k := 6) C0 hK rfl hP (sr_DC ha _ _ _) hS sr_wC27 (by decide) (sr_inc (by decide)) sr_sC27 dX2_consider_155 (fun H locs hP hS => ?_)
    have hP : va_P D vwCl (sr_WC cI cR a kp cx (va_up sg 7 (upd (upd (upd (upd (upd (upd (upd (sg 7) 0 (sr_tm kp a_ b_ c_ d_)) 1 (nI a_)) 2 (nI b_)) 3 (nI c_)) 4 (nI d_)) 5 (nI (sr_best kp a_ b_ 0 0))) 6 (nI (sr_best kp b_ c_ 1 0))))) H := hP
    refine lv_aload_n C0.1 C0.2.1 dX2_consider_156 rfl (lv_at hl 4 rfl) ?_
    refine sr_get (v := .ref (a 27)) C0 hK hP sr_inX2 sr_wC5 rfl 4 (by decide) sw_136 rfl dX2_consider_157 ?_
    refine lv_bipush (v := 7) C0.1 C0.2.1 dX2_consider_160 (by decide) ?_
    refine lv_aload_n C0.1 C0.2.1 dX2_consider_162 rfl (lv_at hl 4 rfl) ?_
    refine sr_get (v := .ref (a 19)) C0 hK hP sr_inX2 sr_wC5 rfl 2 (by decide) sw_134 rfl dX2_consider_163 ?_
    refine lv_iconst (v := 2) C0.1 C0.2.1 dX2_consider_166 (by decide) ?_
    refine sr_ald2 (k := 2) (r := a 22) C0 hK rfl hP sr_wC19 (by decide) (sr_inc (by decide)) rfl dX2_consider_167 ?_
    refine lv_iload C0.1 C0.2.1 dX2_consider_168 (lv_at hl 1 rfl) ?_
    refine sr_ald (k := (5 * c_) + d_) C0 hK rfl hP sr_wC22 (nI_clamp (by omega)) (vp_in_nI (by omega) (by omega)) dX2_consider_170 ?_
    refine sr_chi (show ((va_up sg 7 (upd (upd (upd (upd (upd (upd (upd (sg 7) 0 (sr_tm kp a_ b_ c_ d_)) 1 (nI a_)) 2 (nI b_)) 3 (nI c_)) 4 (nI d_)) 5 (nI (sr_best kp a_ b_ 0 0))) 6 (nI (sr_best kp b_ c_ 1 0)))) 3 ((5 * c_) + d_) : Int32) = (sg 3 ((5 * c_) + d_)) from rfl) ?_
    refine sr_chi (hW 2 (by omega) c_ d_ hr_c_ hr_d_).1 ?_
    refine sr_ast (k := 7) C0 hK rfl hP (sr_DC ha _ _ _) hS sr_wC27 (by decide) (sr_inc (by decide)) sr_sC27 dX2_consider_171 (fun H locs hP hS => ?_)
    have hP : va_P D vwCl (sr_WC cI cR a kp cx (va_up sg 7 (upd (upd (upd (upd (upd (upd (upd (upd (sg 7) 0 (sr_tm kp a_ b_ c_ d_)) 1 (nI a_)) 2 (nI b_)) 3 (nI c_)) 4 (nI d_)) 5 (nI (sr_best kp a_ b_ 0 0))) 6 (nI (sr_best kp b_ c_ 1 0))) 7 (nI (sr_best kp c_ d_ 2 0))))) H := hP
    exact hret _ _ _ (va_up sg 7 (upd (upd (upd (upd (upd (upd (upd (upd (sg 7) 0 (sr_tm kp a_ b_ c_ d_)) 1 (nI a_)) 2 (nI b_)) 3 (nI c_)) 4 (nI d_)) 5 (nI (sr_best kp a_ b_ 0 0))) 6 (nI (sr_best kp b_ c_ 1 0))) 7 (nI (sr_best kp c_ d_ 2 0)))) _ _ dX2_consider_172 hP hS rfl ⟨by unfold sr_cons; rw [if_pos c73]; rfl, fun k hk => by simp only [va_up, if_neg hk]⟩
  · refine lv_aload_n C0.1 C0.2.1 dX2_consider_76 rfl (lv_at hl 4 rfl) ?_
    refine sr_get (v := .ref (a 27)) C0 hK hP sr_inX2 sr_wC5 rfl 4 (by decide) sw_136 rfl dX2_consider_77 ?_
    refine lv_iconst (v := 0) C0.1 C0.2.1 dX2_consider_80 (by decide) ?_
    refine sr_ald (k := 0) C0 hK rfl hP sr_wC27 (by decide) (sr_inc (by decide)) dX2_consider_81 ?_
    refine lv_iload C0.1 C0.2.1 dX2_consider_82 (lv_at hl 0 rfl) ?_
    refine lv_icmp_gt (tgt := 88) C0.1 C0.2.1 dX2_consider_84 (by decide) (fun c84 => ?_) (fun c84 => ?_)
    · refine lv_aload_n C0.1 C0.2.1 dX2_consider_88 rfl (lv_at hl 4 rfl) ?_
      refine sr_get (v := .ref (a 27)) C0 hK hP sr_inX2 sr_wC5 rfl 4 (by decide) sw_136 rfl dX2_consider_89 ?_
      refine lv_iconst (v := 0) C0.1 C0.2.1 dX2_consider_92 (by decide) ?_
      refine lv_iload C0.1 C0.2.1 dX2_consider_93 (lv_at hl 0 rfl) ?_
      refine sr_ast (k := 0) C0 hK rfl hP (sr_DC ha _ _ _) hS sr_wC27 (by decide) (sr_inc (by decide)) sr_sC27 dX2_consider_95 (fun H locs hP hS => ?_)
      refine lv_aload_n C0.1 C0.2.1 dX2_consider_96 rfl (lv_at hl 4 rfl) ?_
      refine sr_get (v := .ref (a 27)) C0 hK hP sr_inX2 sr_wC5 rfl 4 (by decide) sw_136 rfl dX2_consider_97 ?_
      refine lv_iconst (v := 1) C0.1 C0.2.1 dX2_consider_100 (by decide) ?_
      refine lv_iload_n C0.1 C0.2.1 dX2_consider_101 rfl (lv_at hl 5 rfl) ?_
      refine sr_ast (k := 1) C0 hK rfl hP (sr_DC ha _ _ _) hS sr_wC27 (by decide) (sr_inc (by decide)) sr_sC27 dX2_consider_102 (fun H locs hP hS => ?_)
      have hP : va_P D vwCl (sr_WC cI cR a kp cx (va_up sg 7 (upd (upd (sg 7) 0 (sr_tm kp a_ b_ c_ d_)) 1 (nI a_)))) H := hP
      refine lv_aload_n C0.1 C0.2.1 dX2_consider_103 rfl (lv_at hl 4 rfl) ?_
      refine sr_get (v := .ref (a 27)) C0 hK hP sr_inX2 sr_wC5 rfl 4 (by decide) sw_136 rfl dX2_consider_104 ?_
      refine lv_iconst (v := 2) C0.1 C0.2.1 dX2_consider_107 (by decide) ?_
      refine lv_iload_n C0.1 C0.2.1 dX2_consider_108 rfl (lv_at hl 6 rfl) ?_
      refine sr_ast (k := 2) C0 hK rfl hP (sr_DC ha _ _ _) hS sr_wC27 (by decide) (sr_inc (by decide)) sr_sC27 dX2_consider_109 (fun H locs hP hS => ?_)
      have hP : va_P D vwCl (sr_WC cI cR a kp cx (va_up sg 7 (upd (upd (upd (sg 7) 0 (sr_tm kp a_ b_ c_ d_)) 1 (nI a_)) 2 (nI b_)))) H := hP
      refine lv_aload_n C0.1 C0.2.1 dX2_consider_110 rfl (lv_at hl 4 rfl) ?_
      refine sr_get (v := .ref (a 27)) C0 hK hP sr_inX2 sr_wC5 rfl 4 (by decide) sw_136 rfl dX2_consider_111 ?_
      refine lv_iconst (v := 3) C0.1 C0.2.1 dX2_consider_114 (by decide) ?_
      refine lv_iload_n C0.1 C0.2.1 dX2_consider_115 rfl (lv_at hl 7 rfl) ?_
      refine sr_ast (k := 3) C0 hK rfl hP (sr_DC ha _ _ _) hS sr_wC27 (by decide) (sr_inc (by decide)) sr_sC27 dX2_consider_116 (fun H locs hP hS => ?_)
      have hP : va_P D vwCl (sr_WC cI cR a kp cx (va_up sg 7 (upd (upd (upd (upd (sg 7) 0 (sr_tm kp a_ b_ c_ d_)) 1 (nI a_)) 2 (nI b_)) 3 (nI c_)))) H := hP
      refine lv_aload_n C0.1 C0.2.1 dX2_consider_117 rfl (lv_at hl 4 rfl) ?_
      refine sr_get (v := .ref (a 27)) C0 hK hP sr_inX2 sr_wC5 rfl 4 (by decide) sw_136 rfl dX2_consider_118 ?_
      refine lv_iconst (v := 4) C0.1 C0.2.1 dX2_consider_121 (by decide) ?_
      refine lv_iload C0.1 C0.2.1 dX2_consider_122 (lv_at hl 8 rfl) ?_
      refine sr_ast (k := 4) C0 hK rfl hP (sr_DC ha _ _ _) hS sr_wC27 (by decide) (sr_inc (by decide)) sr_sC27 dX2_consider_124 (fun H locs hP hS => ?_)
      have hP : va_P D vwCl (sr_WC cI cR a kp cx (va_up sg 7 (upd (upd (upd (upd (upd (sg 7) 0 (sr_tm kp a_ b_ c_ d_)) 1 (nI a_)) 2 (nI b_)) 3 (nI c_)) 4 (nI d_)))) H := hP
      refine lv_aload_n C0.1 C0.2.1 dX2_consider_125 rfl (lv_at hl 4 rfl) ?_
      refine sr_get (v := .ref (a 27)) C0 hK hP sr_inX2 sr_wC5 rfl 4 (by decide) sw_136 rfl dX2_consider_126 ?_
      refine lv_iconst (v := 5) C0.1 C0.2.1 dX2_consider_129 (by decide) ?_
      refine lv_aload_n C0.1 C0.2.1 dX2_consider_130 rfl (lv_at hl 4 rfl) ?_
      refine sr_get (v := .ref (a 19)) C0 hK hP sr_inX2 sr_wC5 rfl 2 (by decide) sw_134 rfl dX2_consider_131 ?_
      refine lv_iconst (v := 0) C0.1 C0.2.1 dX2_consider_134 (by decide) ?_
      refine sr_ald2 (k := 0) (r := a 20) C0 hK rfl hP sr_wC19 (by decide) (sr_inc (by decide)) rfl dX2_consider_135 ?_
      refine lv_iload C0.1 C0.2.1 dX2_consider_136 (lv_at hl 3 rfl) ?_
      refine sr_ald (k := (5 * a_) + b_) C0 hK rfl hP sr_wC20 (nI_clamp (by omega)) (vp_in_nI (by omega) (by omega)) dX2_consider_138 ?_
      refine sr_chi (show ((va_up sg 7 (upd (upd (upd (upd (upd (sg 7) 0 (sr_tm kp a_ b_ c_ d_)) 1 (nI a_)) 2 (nI b_)) 3 (nI c_)) 4 (nI d_))) 1 ((5 * a_) + b_) : Int32) = (sg 1 ((5 * a_) + b_)) from rfl) ?_
      refine sr_chi (hW 0 (by omega) a_ b_ hr_a_ hr_b_).1 ?_
      refine sr_ast (k := 5) C0 hK rfl hP (sr_DC ha _ _ _) hS sr_wC27 (by decide) (sr_inc (by decide)) sr_sC27 dX2_consider_139 (fun H locs hP hS => ?_)
      have hP : va_P D vwCl (sr_WC cI cR a kp cx (va_up sg 7 (upd (upd (upd (upd (upd (upd (sg 7) 0 (sr_tm kp a_ b_ c_ d_)) 1 (nI a_)) 2 (nI b_)) 3 (nI c_)) 4 (nI d_)) 5 (nI (sr_best kp a_ b_ 0 0))))) H := hP
      refine lv_aload_n C0.1 C0.2.1 dX2_consider_140 rfl (lv_at hl 4 rfl) ?_
      refine sr_get (v := .ref (a 27)) C0 hK hP sr_inX2 sr_wC5 rfl 4 (by decide) sw_136 rfl dX2_consider_141 ?_
      refine lv_bipush (v := 6) C0.1 C0.2.1 dX2_consider_144 (by decide) ?_
      refine lv_aload_n C0.1 C0.2.1 dX2_consider_146 rfl (lv_at hl 4 rfl) ?_
      refine sr_get (v := .ref (a 19)) C0 hK hP sr_inX2 sr_wC5 rfl 2 (by decide) sw_134 rfl dX2_consider_147 ?_
      refine lv_iconst (v := 1) C0.1 C0.2.1 dX2_consider_150 (by decide) ?_
      refine sr_ald2 (k := 1) (r := a 21) C0 hK rfl hP sr_wC19 (by decide) (sr_inc (by decide)) rfl dX2_consider_151 ?_
      refine lv_iload C0.1 C0.2.1 dX2_consider_152 (lv_at hl 2 rfl) ?_
      refine sr_ald (k := (5 * b_) + c_) C0 hK rfl hP sr_wC21 (nI_clamp (by omega)) (vp_in_nI (by omega) (by omega)) dX2_consider_154 ?_
      refine sr_chi (show ((va_up sg 7 (upd (upd (upd (upd (upd (upd (sg 7) 0 (sr_tm kp a_ b_ c_ d_)) 1 (nI a_)) 2 (nI b_)) 3 (nI c_)) 4 (nI d_)) 5 (nI (sr_best kp a_ b_ 0 0)))) 2 ((5 * b_) + c_) : Int32) = (sg 2 ((5 * b_) + c_)) from rfl) ?_
      refine sr_chi (hW 1 (by omega) b_ c_ hr_b_ hr_c_).1 ?_
      refine sr_ast (k := 6) C0 hK rfl hP (sr_DC ha _ _ _) hS sr_wC27 (by decide) (sr_inc (by decide)) sr_sC27 dX2_consider_155 (fun H locs hP hS => ?_)
      have hP : va_P D vwCl (sr_WC cI cR a kp cx (va_up sg 7 (upd (upd (upd (upd (upd (upd (upd (sg 7) 0 (sr_tm kp a_ b_ c_ d_)) 1 (nI a_)) 2 (nI b_)) 3 (nI c_)) 4 (nI d_)) 5 (nI (sr_best kp a_ b_ 0 0))) 6 (nI (sr_best kp b_ c_ 1 0))))) H := hP
      refine lv_aload_n C0.1 C0.2.1 dX2_consider_156 rfl (lv_at hl 4 rfl) ?_
      refine sr_get (v := .ref (a 27)) C0 hK hP sr_inX2 sr_wC5 rfl 4 (by decide) sw_136 rfl dX2_consider_157 ?_
      refine lv_bipush (v := 7) C0.1 C0.2.1 dX2_consider_160 (by decide) ?_
      refine lv_aload_n C0.1 C0.2.1 dX2_consider_162 rfl (lv_at hl 4 rfl) ?_
      refine sr_get (v := .ref (a 19)) C0 hK hP sr_inX2 sr_wC5 rfl 2 (by decide) sw_134 rfl dX2_consider_163 ?_
      refine lv_iconst (v := 2) C0.1 C0.2.1 dX2_consider_166 (by decide) ?_
      refine sr_ald2 (k := 2) (r := a 22) C0 hK rfl hP sr_wC19 (by decide) (sr_inc (by decide)) rfl dX2_consider_167 ?_
      refine lv_iload C0.1 C0.2.1 dX2_consider_168 (lv_at hl 1 rfl) ?_
      refine sr_ald (k := (5 * c_) + d_) C0 hK rfl hP sr_wC22 (nI_clamp (by omega)) (vp_in_nI (by omega) (by omega)) dX2_consider_170 ?_
      refine sr_chi (show ((va_up sg 7 (upd (upd (upd (upd (upd (upd (upd (sg 7) 0 (sr_tm kp a_ b_ c_ d_)) 1 (nI a_)) 2 (nI b_)) 3 (nI c_)) 4 (nI d_)) 5 (nI (sr_best kp a_ b_ 0 0))) 6 (nI (sr_best kp b_ c_ 1 0)))) 3 ((5 * c_) + d_) : Int32) = (sg 3 ((5 * c_) + d_)) from rfl) ?_
      refine sr_chi (hW 2 (by omega) c_ d_ hr_c_ hr_d_).1 ?_
      refine sr_ast (k := 7) C0 hK rfl hP (sr_DC ha _ _ _) hS sr_wC27 (by decide) (sr_inc (by decide)) sr_sC27 dX2_consider_171 (fun H locs hP hS => ?_)
      have hP : va_P D vwCl (sr_WC cI cR a kp cx (va_up sg 7 (upd (upd (upd (upd (upd (upd (upd (upd (sg 7) 0 (sr_tm kp a_ b_ c_ d_)) 1 (nI a_)) 2 (nI b_)) 3 (nI c_)) 4 (nI d_)) 5 (nI (sr_best kp a_ b_ 0 0))) 6 (nI (sr_best kp b_ c_ 1 0))) 7 (nI (sr_best kp c_ d_ 2 0))))) H := hP
      exact hret _ _ _ (va_up sg 7 (upd (upd (upd (upd (upd (upd (upd (upd (sg 7) 0 (sr_tm kp a_ b_ c_ d_)) 1 (nI a_)) 2 (nI b_)) 3 (nI c_)) 4 (nI d_)) 5 (nI (sr_best kp a_ b_ 0 0))) 6 (nI (sr_best kp b_ c_ 1 0))) 7 (nI (sr_best kp c_ d_ 2 0)))) _ _ dX2_consider_172 hP hS rfl ⟨by unfold sr_cons; rw [if_neg c73, if_pos c84]; rfl, fun k hk => by simp only [va_up, if_neg hk]⟩
    · exact hret _ _ _ sg _ _ dX2_consider_87 hP hS rfl ⟨by unfold sr_cons; rw [if_neg c73, if_neg c84], fun k hk => rfl⟩
set_option maxRecDepth 100000 in
set_option maxHeartbeats 4000000 in
theorem cc_X2_search {l : Launch} {D : va_G} {cI cR : ClassId} {a : Nat → Nat} (ha : ∀ i j, i < 36 → j < 36 → a i = a j → i = j) {kp cx sg : sr_M} (wo_ : Int32) (hI : sr_IC kp cx) : sr_G l D (sr_tC cI cR) (sr_ZC a) (sr_AC a) (sr_WC cI cR a kp cx sg) yX2_search cX2_search 8 none 5 128 [.ref (a 5), .int wo_] (S := sr_M) (fun u => u 7 = sr_so kp (sr_bar wo_) (sg 7)) (fun u => sr_WC cI cR a kp cx u) (fun _ => none) := by
  refine sr_Gve (by decide +kernel) (Nat.le_of_ble_eq_true rfl) (fun p e s m args below meth c ls Q B hret => ?_)
  obtain ⟨C0, hP, hK, hZ0, hl⟩ := B
  have hZ : sr_Zok (sr_AC a) (sr_ZC a) := sr_ZCok a
  have hS : va_S (sr_AC a) s.heap s.heap [] := va_S.rf
  have hl : lv_has ls 8 [(0, .ref (a 5)), (1, .int wo_)] := hl
  obtain ⟨H, hH⟩ : ∃ H, H = s.heap := ⟨_, rfl⟩
  have hP : va_P D vwCl (sr_WC cI cR a kp cx sg) H := by rw [hH]; exact hP
  have hS : va_S (sr_AC a) s.heap H [] := by rw [hH]; exact hS
  suffices hG : ∀ locs, va_S (sr_AC a) s.heap H locs → W p l e (sr_rm 5 128) s m args below meth c H locs 0 0 Q (F0 m 0 ls []) from by have h9 := hG [] hS; rw [hH] at h9; exact h9
  clear hS
  intro locs hS
  clear hH
  have hc5 := sr_cnt5 kp
  refine lv_aload_n C0.1 C0.2.1 dX2_search_0 rfl (lv_at hl 0 rfl) ?_
  refine sr_get (v := .ref (a 27)) C0 hK hP sr_inX2 sr_wC5 rfl 4 (by decide) sw_136 rfl dX2_search_1 ?_
  refine lv_iconst (v := (-1)) C0.1 C0.2.1 dX2_search_4 (by decide) ?_
  refine sr_gSv (As := [.ref (a 27), .int (-1)]) C0 hK hP hZ (sr_Zs hZ hZ0 hS) (cc_J7_fill_53178 ha (nn := 8) (q0 := 27) (K := fun _ => kp) (X := fun _ => cx) (G := fun g => va_up sg 7 g) (f := sg 7) ((-1)) (by omega) (fun _ => rfl) (fun _ _ => rfl) rfl) sk_J7_fill_53178 (ss_J7_fill_53178) sw_467 rfl rfl hl.1 (Nat.le_of_ble_eq_true rfl) (Nat.le_of_ble_eq_true rfl) (Nat.le_of_ble_eq_true rfl) dX2_search_5 ⟨Nat.zero_le _, Nat.zero_le _⟩ hS (fun u H locs hu hP hS => ?_)
  refine lv_iconst (v := 0) C0.1 C0.2.1 dX2_search_8 (by decide) ?_
  refine lv_istore_n (lv' := [(2, .int 0), (0, .ref (a 5)), (1, .int wo_)]) C0.1 C0.2.1 dX2_search_9 rfl hl (by decide) rfl (fun ls hl => ?_)
  refine lv_iload_n C0.1 C0.2.1 dX2_search_10 rfl (lv_at hl 0 rfl) ?_
  refine lv_iconst (v := 3) C0.1 C0.2.1 dX2_search_11 (by decide) ?_
  refine lv_icmp_ge (tgt := 26) C0.1 C0.2.1 dX2_search_12 (by decide) (fun q => absurd q (by decide)) (fun _ => ?_)
  refine lv_aload_n C0.1 C0.2.1 dX2_search_15 rfl (lv_at hl 1 rfl) ?_
  refine lv_iload_n C0.1 C0.2.1 dX2_search_16 rfl (lv_at hl 0 rfl) ?_
  refine sr_gVv (As := [.int 0]) C0 hK hP hZ (sr_Zs hZ hZ0 hS) (cc_X2_weighPairs ha 0 hI (by omega)) sk_X2_weighPairs sv_X2_weighPairs sw_470 (ci := 2) rfl sr_wC5 rfl rfl hl.1 (Nat.le_of_ble_eq_true rfl) (Nat.le_of_ble_eq_true rfl) (Nat.le_of_ble_eq_true rfl) dX2_search_17 ⟨Nat.zero_le _, Nat.zero_le _⟩ hS (fun sg1 H locs hw hP hS => ?_)
  refine lv_iinc (v := 1) (lv' := [(2, .int 1), (0, .ref (a 5)), (1, .int wo_)]) C0.1 C0.2.1 dX2_search_20 hl (k := 0) rfl (by decide) (by decide) rfl (fun ls hl => ?_)
  refine lv_goto (tgt := 10) C0.1 C0.2.1 dX2_search_23 (by decide) ?_
  refine lv_iload_n C0.1 C0.2.1 dX2_search_10 rfl (lv_at hl 0 rfl) ?_
  refine lv_iconst (v := 3) C0.1 C0.2.1 dX2_search_11 (by decide) ?_
  refine lv_icmp_ge (tgt := 26) C0.1 C0.2.1 dX2_search_12 (by decide) (fun q => absurd q (by decide)) (fun _ => ?_)
  refine lv_aload_n C0.1 C0.2.1 dX2_search_15 rfl (lv_at hl 1 rfl) ?_
  refine lv_iload_n C0.1 C0.2.1 dX2_search_16 rfl (lv_at hl 0 rfl) ?_
  refine sr_gVv (As := [.int 1]) C0 hK hP hZ (sr_Zs hZ hZ0 hS) (cc_X2_weighPairs ha 1 hI (by omega)) sk_X2_weighPairs sv_X2_weighPairs sw_470 (ci := 2) rfl sr_wC5 rfl rfl hl.1 (Nat.le_of_ble_eq_true rfl) (Nat.le_of_ble_eq_true rfl) (Nat.le_of_ble_eq_true rfl) dX2_search_17 ⟨Nat.zero_le _, Nat.zero_le _⟩ hS (fun sg2 H locs hw_2 hP hS => ?_)
  refine lv_iinc (v := 2) (lv' := [(2, .int 2), (0, .ref (a 5)), (1, .int wo_)]) C0.1 C0.2.1 dX2_search_20 hl (k := 0) rfl (by decide) (by decide) rfl (fun ls hl => ?_)
  refine lv_goto (tgt := 10) C0.1 C0.2.1 dX2_search_23 (by decide) ?_
  refine lv_iload_n C0.1 C0.2.1 dX2_search_10 rfl (lv_at hl 0 rfl) ?_
  refine lv_iconst (v := 3) C0.1 C0.2.1 dX2_search_11 (by decide) ?_
  refine lv_icmp_ge (tgt := 26) C0.1 C0.2.1 dX2_search_12 (by decide) (fun q => absurd q (by decide)) (fun _ => ?_)
  refine lv_aload_n C0.1 C0.2.1 dX2_search_15 rfl (lv_at hl 1 rfl) ?_
  refine lv_iload_n C0.1 C0.2.1 dX2_search_16 rfl (lv_at hl 0 rfl) ?_
  refine sr_gVv (As := [.int 2]) C0 hK hP hZ (sr_Zs hZ hZ0 hS) (cc_X2_weighPairs ha 2 hI (by omega)) sk_X2_weighPairs sv_X2_weighPairs sw_470 (ci := 2) rfl sr_wC5 rfl rfl hl.1 (Nat.le_of_ble_eq_true rfl) (Nat.le_of_ble_eq_true rfl) (Nat.le_of_ble_eq_true rfl) dX2_search_17 ⟨Nat.zero_le _, Nat.zero_le _⟩ hS (fun sg3 H locs hw_3 hP hS => ?_)
  refine lv_iinc (v := 3) (lv' := [(2, .int 3), (0, .ref (a 5)), (1, .int wo_)]) C0.1 C0.2.1 dX2_search_20 hl (k := 0) rfl (by decide) (by decide) rfl (fun ls hl => ?_)
  refine lv_goto (tgt := 10) C0.1 C0.2.1 dX2_search_23 (by decide) ?_
  refine lv_iload_n C0.1 C0.2.1 dX2_search_10 rfl (lv_at hl 0 rfl) ?_
  refine lv_iconst (v := 3) C0.1 C0.2.1 dX2_search_11 (by decide) ?_
  refine lv_icmp_ge (tgt := 26) C0.1 C0.2.1 dX2_search_12 (by decide) (fun _ => ?_) (fun q => absurd q (by decide))
  have h7 : sg3 7 = sr_fl (sg 7) (-1) 8 := by rw [hw_3.2 7 (by omega) (by omega), hw_2.2 7 (by omega) (by omega), hw.2 7 (by omega) (by omega)]; rfl
  have hW : sr_Wp kp sg3 := fun c h x y hx hy => by
    rcases (show c = 0 ∨ c = 1 ∨ c = 2 by omega) with rfl | rfl | rfl
    · show sg3 1 _ = _ ∧ sg3 4 _ = _
      rw [hw_3.2 1 (by omega) (by omega), hw_2.2 1 (by omega) (by omega), hw_3.2 4 (by omega) (by omega), hw_2.2 4 (by omega) (by omega)]
      exact hw.1 x y hx hy
    · show sg3 2 _ = _ ∧ sg3 5 _ = _
      rw [hw_3.2 2 (by omega) (by omega), hw_3.2 5 (by omega) (by omega)]
      exact hw_2.1 x y hx hy
    · exact hw_3.1 x y hx hy
  refine lv_aload_n C0.1 C0.2.1 dX2_search_26 rfl (lv_at hl 1 rfl) ?_
  refine sr_get (v := .ref (a 1)) C0 hK hP sr_inX2 sr_wC5 rfl 0 (by decide) sw_132 rfl dX2_search_27 ?_
  refine sr_get (v := .int (cx 4 1)) C0 hK hP sr_inX4 sr_wC1 rfl 7 (by decide) sw_43 rfl dX2_search_30 ?_
  refine sr_chi (sr_IC_1 hI) ?_
  have := sr_cnt5 kp
  refine lv_istore_n (lv' := [(2, .int (nI (sr_cnt kp))), (0, .ref (a 5)), (1, .int wo_)]) C0.1 C0.2.1 dX2_search_33 rfl hl (by decide) rfl (fun ls hl => ?_)
  refine lv_iload_n C0.1 C0.2.1 dX2_search_34 rfl (lv_at hl 2 rfl) ?_
  refine lv_iconst (v := (-1)) C0.1 C0.2.1 dX2_search_35 (by decide) ?_
  have hJ46 : ∀ (k46_0 : Int32), k46_0 = (if wo_ = (-1) then 0 else ((1 : Int32) <<< ((wo_ : Int32) &&& 31))) → W p l e (sr_rm 5 128) s m args below meth c H locs 0 0 Q (F0 m 46 ls [.int k46_0]) := by
    intro k46_0 e_k46_0
    subst e_k46_0
    refine sr_chi rfl ?_
    refine lv_istore_n (lv' := [(3, .int (sr_bar wo_)), (2, .int (nI (sr_cnt kp))), (0, .ref (a 5)), (1, .int wo_)]) C0.1 C0.2.1 dX2_search_46 rfl hl (by decide) rfl (fun ls hl => ?_)
    refine lv_iconst (v := 0) C0.1 C0.2.1 dX2_search_47 (by decide) ?_
    refine lv_istore (lv' := [(4, .int 0), (3, .int (sr_bar wo_)), (2, .int (nI (sr_cnt kp))), (0, .ref (a 5)), (1, .int wo_)]) C0.1 C0.2.1 dX2_search_48 hl (by decide) rfl (fun ls hl => ?_)
    have lp50 : ∀ (n50 : Nat) (ia : Nat) (sga : sr_M) (H : Heap) (locs : List Loc) (ls : Array Slot), (ia ≤ sr_cnt kp) → (sr_cnt kp + 1 ≤ ia + n50) → (sr_L (sr_fa kp (sr_bar wo_)) (sr_cnt kp) 0 (sg3 7) = sr_L (sr_fa kp (sr_bar wo_)) (sr_cnt kp - ia) ia (sga 7)) → (sr_Wp kp sga) → va_P D vwCl (sr_WC cI cR a kp cx sga) H → va_S (sr_AC a) s.heap H locs → lv_has ls 8 [(4, .int (nI ia)), (3, .int (sr_bar wo_)), (2, .int (nI (sr_cnt kp))), (0, .ref (a 5)), (1, .int wo_)] → W p l e (sr_rm 5 128) s m args below meth c H locs 0 0 Q (F0 m 50 ls []) := by
      intro n50
      induction n50 with
      | zero =>
        intro ia sga H locs ls h_ia h_na h_fa h_Wa hP hS hl
        exact absurd h_na (by omega)
      | succ n50 ih50 =>
        intro ia sga H locs ls h_ia h_na h_fa h_Wa hP hS hl
        refine lv_iload C0.1 C0.2.1 dX2_search_50 (lv_at hl 0 rfl) ?_
        refine lv_iload_n C0.1 C0.2.1 dX2_search_52 rfl (lv_at hl 2 rfl) ?_
        refine lv_icmp_ge (tgt := 149) C0.1 C0.2.1 dX2_search_53 (by decide) (fun c53 => ?_) (fun c53 => ?_)
        · have g53 : (sr_cnt kp) ≤ ia := (nI_leI (a := (sr_cnt kp)) (b := ia) (by omega) (by omega)).mp c53
          exact hret _ _ _ sga _ _ dX2_search_149 hP hS rfl (by unfold sr_so; rw [← h7, h_fa, sr_L_e (by omega)])
        · have g53 : ¬ ((sr_cnt kp) ≤ ia) := fun q => c53 ((nI_leI (a := (sr_cnt kp)) (b := ia) (by omega) (by omega)).mpr q)
          refine lv_iconst (v := 0) C0.1 C0.2.1 dX2_search_56 (by decide) ?_
          refine lv_istore (lv' := [(5, .int 0), (4, .int (nI ia)), (3, .int (sr_bar wo_)), (2, .int (nI (sr_cnt kp))), (0, .ref (a 5)), (1, .int wo_)]) C0.1 C0.2.1 dX2_search_57 hl (by decide) rfl (fun ls hl => ?_)
          have lp59 : ∀ (n59 : Nat) (ib : Nat) (sgb : sr_M) (H : Heap) (locs : List Loc) (ls : Array Slot), (ib ≤ sr_cnt kp) → (sr_cnt kp + 1 ≤ ib + n59) → (sr_L (sr_fb kp (sr_bar wo_) ia) (sr_cnt kp) 0 (sga 7) = sr_L (sr_fb kp (sr_bar wo_) ia) (sr_cnt kp - ib) ib (sgb 7)) → (sr_Wp kp sgb) → va_P D vwCl (sr_WC cI cR a kp cx sgb) H → va_S (sr_AC a) s.heap H locs → lv_has ls 8 [(5, .int (nI ib)), (4, .int (nI ia)), (3, .int (sr_bar wo_)), (2, .int (nI (sr_cnt kp))), (0, .ref (a 5)), (1, .int wo_)] → W p l e (sr_rm 5 128) s m args below meth c H locs 0 0 Q (F0 m 59 ls []) := by
            intro n59
            induction n59 with
            | zero =>
              intro ib sgb H locs ls h_ib h_nb h_fb h_Wb hP hS hl
              exact absurd h_nb (by omega)
            | succ n59 ih59 =>
              intro ib sgb H locs ls h_ib h_nb h_fb h_Wb hP hS hl
              refine lv_iload C0.1 C0.2.1 dX2_search_59 (lv_at hl 0 rfl) ?_
              refine lv_iload_n C0.1 C0.2.1 dX2_search_61 rfl (lv_at hl 3 rfl) ?_
              refine lv_icmp_ge (tgt := 143) C0.1 C0.2.1 dX2_search_62 (by decide) (fun c62 => ?_) (fun c62 => ?_)
              · have g62 : (sr_cnt kp) ≤ ib := (nI_leI (a := (sr_cnt kp)) (b := ib) (by omega) (by omega)).mp c62
                refine lv_iinc (v := (nI (ia + 1))) (lv' := [(4, .int (nI (ia + 1))), (5, .int (nI ib)), (3, .int (sr_bar wo_)), (2, .int (nI (sr_cnt kp))), (0, .ref (a 5)), (1, .int wo_)]) C0.1 C0.2.1 dX2_search_143 hl (k := 1) rfl (nI_1 ia) (by decide) rfl (fun ls hl => ?_)
                refine lv_goto (tgt := 50) C0.1 C0.2.1 dX2_search_146 (by decide) ?_
                exact ih50 (ia + 1) sgb _ _ _ (by omega) (by omega) (by rw [h_fa, sr_L_s (by omega)]; congr 1; exact h_fb.trans (sr_L_e (by omega))) h_Wb hP hS (lv_sub hl [0, 2, 3, 4, 5] rfl)
              · have g62 : ¬ ((sr_cnt kp) ≤ ib) := fun q => c62 ((nI_leI (a := (sr_cnt kp)) (b := ib) (by omega) (by omega)).mpr q)
                refine lv_iconst (v := 0) C0.1 C0.2.1 dX2_search_65 (by decide) ?_
                refine lv_istore (lv' := [(6, .int 0), (5, .int (nI ib)), (4, .int (nI ia)), (3, .int (sr_bar wo_)), (2, .int (nI (sr_cnt kp))), (0, .ref (a 5)), (1, .int wo_)]) C0.1 C0.2.1 dX2_search_66 hl (by decide) rfl (fun ls hl => ?_)
                have lp68 : ∀ (n68 : Nat) (ic : Nat) (sgc : sr_M) (H : Heap) (locs : List Loc) (ls : Array Slot), (ic ≤ sr_cnt kp) → (sr_cnt kp + 1 ≤ ic + n68) → (sr_L (sr_fc kp (sr_bar wo_) ia ib) (sr_cnt kp) 0 (sgb 7) = sr_L (sr_fc kp (sr_bar wo_) ia ib) (sr_cnt kp - ic) ic (sgc 7)) → (sr_Wp kp sgc) → va_P D vwCl (sr_WC cI cR a kp cx sgc) H → va_S (sr_AC a) s.heap H locs → lv_has ls 8 [(6, .int (nI ic)), (5, .int (nI ib)), (4, .int (nI ia)), (3, .int (sr_bar wo_)), (2, .int (nI (sr_cnt kp))), (0, .ref (a 5)), (1, .int wo_)] → W p l e (sr_rm 5 128) s m args below meth c H locs 0 0 Q (F0 m 68 ls []) := by
                  intro n68
                  induction n68 with
                  | zero =>
                    intro ic sgc H locs ls h_ic h_nc h_fc h_Wc hP hS hl
                    exact absurd h_nc (by omega)
                  | succ n68 ih68 =>
                    intro ic sgc H locs ls h_ic h_nc h_fc h_Wc hP hS hl
                    refine lv_iload C0.1 C0.2.1 dX2_search_68 (lv_at hl 0 rfl) ?_
                    refine lv_iload_n C0.1 C0.2.1 dX2_search_70 rfl (lv_at hl 4 rfl) ?_
                    refine lv_icmp_ge (tgt := 137) C0.1 C0.2.1 dX2_search_71 (by decide) (fun c71 => ?_) (fun c71 => ?_)
                    · have g71 : (sr_cnt kp) ≤ ic := (nI_leI (a := (sr_cnt kp)) (b := ic) (by omega) (by omega)).mp c71
                      refine lv_iinc (v := (nI (ib + 1))) (lv' := [(5, .int (nI (ib + 1))), (6, .int (nI ic)), (4, .int (nI ia)), (3, .int (sr_bar wo_)), (2, .int (nI (sr_cnt kp))), (0, .ref (a 5)), (1, .int wo_)]) C0.1 C0.2.1 dX2_search_137 hl (k := 1) rfl (nI_1 ib) (by decide) rfl (fun ls hl => ?_)
                      refine lv_goto (tgt := 59) C0.1 C0.2.1 dX2_search_140 (by decide) ?_
                      exact ih59 (ib + 1) sgc _ _ _ (by omega) (by omega) (by rw [h_fb, sr_L_s (by omega)]; congr 1; exact h_fc.trans (sr_L_e (by omega))) h_Wc hP hS (lv_sub hl [0, 2, 3, 4, 5, 6] rfl)
                    · have g71 : ¬ ((sr_cnt kp) ≤ ic) := fun q => c71 ((nI_leI (a := (sr_cnt kp)) (b := ic) (by omega) (by omega)).mpr q)
                      refine lv_iconst (v := 0) C0.1 C0.2.1 dX2_search_74 (by decide) ?_
                      refine lv_istore (lv' := [(7, .int 0), (6, .int (nI ic)), (5, .int (nI ib)), (4, .int (nI ia)), (3, .int (sr_bar wo_)), (2, .int (nI (sr_cnt kp))), (0, .ref (a 5)), (1, .int wo_)]) C0.1 C0.2.1 dX2_search_75 hl (by decide) rfl (fun ls hl => ?_)
                      have lp77 : ∀ (n77 : Nat) (id : Nat) (sgd : sr_M) (H : Heap) (locs : List Loc) (ls : Array Slot), (id ≤ sr_cnt kp) → (sr_cnt kp + 1 ≤ id + n77) → (sr_L (sr_st4 kp (sr_bar wo_) ia ib ic) (sr_cnt kp) 0 (sgc 7) = sr_L (sr_st4 kp (sr_bar wo_) ia ib ic) (sr_cnt kp - id) id (sgd 7)) → (sr_Wp kp sgd) → va_P D vwCl (sr_WC cI cR a kp cx sgd) H → va_S (sr_AC a) s.heap H locs → lv_has ls 8 [(7, .int (nI id)), (6, .int (nI ic)), (5, .int (nI ib)), (4, .int (nI ia)), (3, .int (sr_bar wo_)), (2, .int (nI (sr_cnt kp))), (0, .ref (a 5)), (1, .int wo_)] → W p l e (sr_rm 5 128) s m args below meth c H locs 0 0 Q (F0 m 77 ls []) := by
                        intro n77
                        induction n77 with
                        | zero =>
                          intro id sgd H locs ls h_id h_nd h_fd h_Wd hP hS hl
                          exact absurd h_nd (by omega)
                        | succ n77 ih77 =>
                          intro id sgd H locs ls h_id h_nd h_fd h_Wd hP hS hl
                          refine lv_iload C0.1 C0.2.1 dX2_search_77 (lv_at hl 0 rfl) ?_
                          refine lv_iload_n C0.1 C0.2.1 dX2_search_79 rfl (lv_at hl 5 rfl) ?_
                          refine lv_icmp_ge (tgt := 131) C0.1 C0.2.1 dX2_search_80 (by decide) (fun c80 => ?_) (fun c80 => ?_)
                          · have g80 : (sr_cnt kp) ≤ id := (nI_leI (a := (sr_cnt kp)) (b := id) (by omega) (by omega)).mp c80
                            refine lv_iinc (v := (nI (ic + 1))) (lv' := [(6, .int (nI (ic + 1))), (7, .int (nI id)), (5, .int (nI ib)), (4, .int (nI ia)), (3, .int (sr_bar wo_)), (2, .int (nI (sr_cnt kp))), (0, .ref (a 5)), (1, .int wo_)]) C0.1 C0.2.1 dX2_search_131 hl (k := 1) rfl (nI_1 ic) (by decide) rfl (fun ls hl => ?_)
                            refine lv_goto (tgt := 68) C0.1 C0.2.1 dX2_search_134 (by decide) ?_
                            exact ih68 (ic + 1) sgd _ _ _ (by omega) (by omega) (by rw [h_fc, sr_L_s (by omega)]; congr 1; exact h_fd.trans (sr_L_e (by omega))) h_Wd hP hS (lv_sub hl [0, 2, 3, 4, 5, 6, 7] rfl)
                          · have g80 : ¬ ((sr_cnt kp) ≤ id) := fun q => c80 ((nI_leI (a := (sr_cnt kp)) (b := id) (by omega) (by omega)).mpr q)
                            refine lv_iload C0.1 C0.2.1 dX2_search_83 (lv_at hl 3 rfl) ?_
                            refine lv_iload C0.1 C0.2.1 dX2_search_85 (lv_at hl 2 rfl) ?_
                            refine lv_iload C0.1 C0.2.1 dX2_search_87 (lv_at hl 1 rfl) ?_
                            refine lv_iload C0.1 C0.2.1 dX2_search_89 (lv_at hl 0 rfl) ?_
                            refine lv_iload_n C0.1 C0.2.1 dX2_search_91 rfl (lv_at hl 4 rfl) ?_
                            refine sr_pSi (As := [.int (nI ia), .int (nI ib), .int (nI ic), .int (nI id), .int (sr_bar wo_)]) C0 hK hP hZ (sr_Zs hZ hZ0 hS) (cc_X2_areUnlike ha ia ib ic id (sr_bar wo_)) sk_X2_areUnlike (ss_X2_areUnlike) sw_476 rfl rfl hl.1 (Nat.le_of_ble_eq_true rfl) (Nat.le_of_ble_eq_true rfl) (Nat.le_of_ble_eq_true rfl) dX2_search_92 ⟨Nat.zero_le _, Nat.zero_le _⟩ ?_
                            refine sr_ifeq (tgt := 125) C0 dX2_search_95 (by decide) (fun c95 => ?_) (fun c95 => ?_)
                            · refine lv_iinc (v := (nI (id + 1))) (lv' := [(7, .int (nI (id + 1))), (6, .int (nI ic)), (5, .int (nI ib)), (4, .int (nI ia)), (3, .int (sr_bar wo_)), (2, .int (nI (sr_cnt kp))), (0, .ref (a 5)), (1, .int wo_)]) C0.1 C0.2.1 dX2_search_125 hl (k := 0) rfl (nI_1 id) (by decide) rfl (fun ls hl => ?_)
                              refine lv_goto (tgt := 77) C0.1 C0.2.1 dX2_search_128 (by decide) ?_
                              exact ih77 (id + 1) sgd _ _ _ (by omega) (by omega) (by rw [h_fd, sr_L_s (by omega)]; congr 1; exact if_neg c95) h_Wd hP hS (lv_sub hl [0, 1, 2, 3, 4, 5, 6, 7] rfl)
                            · refine lv_aload_n C0.1 C0.2.1 dX2_search_98 rfl (lv_at hl 6 rfl) ?_
                              refine lv_iload C0.1 C0.2.1 dX2_search_99 (lv_at hl 3 rfl) ?_
                              refine lv_iload C0.1 C0.2.1 dX2_search_101 (lv_at hl 2 rfl) ?_
                              refine lv_iload C0.1 C0.2.1 dX2_search_103 (lv_at hl 1 rfl) ?_
                              refine lv_iload C0.1 C0.2.1 dX2_search_105 (lv_at hl 0 rfl) ?_
                              refine sr_pVi (As := [.int (nI ia), .int (nI ib), .int (nI ic), .int (nI id)]) C0 hK hP hZ (sr_Zs hZ hZ0 hS) (cc_X2_canChangeHands ha ia ib ic id hI (by first | omega | exact sr_th_at hT (by omega)) (by first | omega | exact sr_th_at hT (by omega)) (by first | omega | exact sr_th_at hT (by omega)) (by first | omega | exact sr_th_at hT (by omega))) sk_X2_canChangeHands sv_X2_canChangeHands sw_485 (ci := 2) rfl sr_wC5 rfl rfl hl.1 (Nat.le_of_ble_eq_true rfl) (Nat.le_of_ble_eq_true rfl) (Nat.le_of_ble_eq_true rfl) dX2_search_107 ⟨Nat.zero_le _, Nat.zero_le _⟩ ?_
                              refine sr_ifeq (tgt := 125) C0 dX2_search_110 (by decide) (fun c110 => ?_) (fun c110 => ?_)
                              · refine lv_iinc (v := (nI (id + 1))) (lv' := [(7, .int (nI (id + 1))), (6, .int (nI ic)), (5, .int (nI ib)), (4, .int (nI ia)), (3, .int (sr_bar wo_)), (2, .int (nI (sr_cnt kp))), (0, .ref (a 5)), (1, .int wo_)]) C0.1 C0.2.1 dX2_search_125 hl (k := 0) rfl (nI_1 id) (by decide) rfl (fun ls hl => ?_)
                                refine lv_goto (tgt := 77) C0.1 C0.2.1 dX2_search_128 (by decide) ?_
                                exact ih77 (id + 1) sgd _ _ _ (by omega) (by omega) (by rw [h_fd, sr_L_s (by omega)]; congr 1; exact (if_pos c95).trans (if_neg c110)) h_Wd hP hS (lv_sub hl [0, 1, 2, 3, 4, 5, 6, 7] rfl)
                              · refine lv_aload_n C0.1 C0.2.1 dX2_search_113 rfl (lv_at hl 6 rfl) ?_
                                refine lv_iload C0.1 C0.2.1 dX2_search_114 (lv_at hl 3 rfl) ?_
                                refine lv_iload C0.1 C0.2.1 dX2_search_116 (lv_at hl 2 rfl) ?_
                                refine lv_iload C0.1 C0.2.1 dX2_search_118 (lv_at hl 1 rfl) ?_
                                refine lv_iload C0.1 C0.2.1 dX2_search_120 (lv_at hl 0 rfl) ?_
                                refine sr_gVv (As := [.int (nI ia), .int (nI ib), .int (nI ic), .int (nI id)]) C0 hK hP hZ (sr_Zs hZ hZ0 hS) (cc_X2_consider ha ia ib ic id hI (by first | omega | exact sr_th_at hT (by omega)) (by first | omega | exact sr_th_at hT (by omega)) (by first | omega | exact sr_th_at hT (by omega)) (by first | omega | exact sr_th_at hT (by omega)) h_Wd) sk_X2_consider sv_X2_consider sw_489 (ci := 2) rfl sr_wC5 rfl rfl hl.1 (Nat.le_of_ble_eq_true rfl) (Nat.le_of_ble_eq_true rfl) (Nat.le_of_ble_eq_true rfl) dX2_search_122 ⟨Nat.zero_le _, Nat.zero_le _⟩ hS (fun sg4 H locs hc hP hS => ?_)
                                refine lv_iinc (v := (nI (id + 1))) (lv' := [(7, .int (nI (id + 1))), (6, .int (nI ic)), (5, .int (nI ib)), (4, .int (nI ia)), (3, .int (sr_bar wo_)), (2, .int (nI (sr_cnt kp))), (0, .ref (a 5)), (1, .int wo_)]) C0.1 C0.2.1 dX2_search_125 hl (k := 0) rfl (nI_1 id) (by decide) rfl (fun ls hl => ?_)
                                refine lv_goto (tgt := 77) C0.1 C0.2.1 dX2_search_128 (by decide) ?_
                                exact ih77 (id + 1) sg4 _ _ _ (by omega) (by omega) (by rw [h_fd, sr_L_s (by omega)]; congr 1; exact ((if_pos c95).trans (if_pos c110)).trans hc.1.symm) (fun c h x y hx hy => by rw [hc.2 (1 + c) (by omega), hc.2 (4 + c) (by omega)]; exact h_Wd c h x y hx hy) hP hS (lv_sub hl [0, 1, 2, 3, 4, 5, 6, 7] rfl)
                      exact lp77 (sr_cnt kp + 1) 0 sgc _ _ _ (by omega) (by omega) rfl h_Wc hP hS (lv_sub hl [0, 1, 2, 3, 4, 5, 6, 7] rfl)
                exact lp68 (sr_cnt kp + 1) 0 sgb _ _ _ (by omega) (by omega) rfl h_Wb hP hS (lv_sub hl [0, 1, 2, 3, 4, 5, 6] rfl)
          exact lp59 (sr_cnt kp + 1) 0 sga _ _ _ (by omega) (by omega) rfl h_Wa hP hS (lv_sub hl [0, 1, 2, 3, 4, 5] rfl)
    exact lp50 (sr_cnt kp + 1) 0 sg3 _ _ _ (by omega) (by omega) rfl hW hP hS (lv_sub hl [0, 1, 2, 3, 4] rfl)
  refine lv_icmp_ne (tgt := 43) C0.1 C0.2.1 dX2_search_36 (by decide) (fun c36 => ?_) (fun c36 => ?_)
  · refine lv_iconst (v := 1) C0.1 C0.2.1 dX2_search_43 (by decide) ?_
    refine lv_iload_n C0.1 C0.2.1 dX2_search_44 rfl (lv_at hl 2 rfl) ?_
    refine lv_ishl C0.1 C0.2.1 dX2_search_45 ?_
    exact hJ46 _ (by rw [if_neg c36])
  · refine lv_iconst (v := 0) C0.1 C0.2.1 dX2_search_39 (by decide) ?_
    refine lv_goto (tgt := 46) C0.1 C0.2.1 dX2_search_40 (by decide) ?_
    exact hJ46 _ (by rw [if_pos c36])
