set_option maxRecDepth 100000 in
set_option maxHeartbeats 4000000 in
theorem cc_X7_swap {l : Launch} {D : va_G} {cI cR : ClassId} {a : Nat → Nat} (ha : ∀ i j, i < 36 → j < 36 → a i = a j → i = j) {kp cx sg : sr_M} {kp2 cx2 sg2 : sr_M} {q q0 nn : Nat} {f : Nat → Int32} (he : (sr_WC cI cR a kp cx sg)[q0]? = some (q, .inl (cI, nn, .inl f))) (i : Nat) (v : Int32) (hi : i < nn) (hn : nn < 100) (hw : (sr_WC cI cR a kp cx sg).set q0 (q, .inl (cI, nn, .inl (upd f i v))) = sr_WC cI cR a kp2 cx2 sg2) : sr_G l D (sr_tC cI cR) (sr_ZC a) (sr_AC a) (sr_WC cI cR a kp cx sg) yX7_swap cX7_swap 4 (some .int) 0 0 [.ref q, .int (nI i), .int v] (S := Unit) (fun u => True) (fun u => sr_WC cI cR a kp2 cx2 sg2) (fun u => some (.int (f i))) := by
  refine sr_Gie (by decide +kernel) (Nat.le_of_ble_eq_true rfl) (fun p e s m args below meth c ls Q B hret => ?_)
  obtain ⟨C0, hP, hK, hZ0, hl⟩ := B
  have hZ : sr_Zok (sr_AC a) (sr_ZC a) := sr_ZCok a
  have hS : va_S (sr_AC a) s.heap s.heap [] := va_S.rf
  have hl : lv_has ls 4 [(0, .ref q), (1, .int (nI i)), (2, .int v)] := hl
  obtain ⟨H, hH⟩ : ∃ H, H = s.heap := ⟨_, rfl⟩
  have hP : va_P D vwCl (sr_WC cI cR a kp cx sg) H := by rw [hH]; exact hP
  have hS : va_S (sr_AC a) s.heap H [] := by rw [hH]; exact hS
  suffices hG : ∀ locs, va_S (sr_AC a) s.heap H locs → W p l e (sr_rm 0 0) s m args below meth c H locs 0 0 Q (F0 m 0 ls []) from by have h9 := hG [] hS; rw [hH] at h9; exact h9
  clear hS
  intro locs hS
  clear hH
  refine lv_aload_n C0.1 C0.2.1 dX7_swap_0 rfl (lv_at hl 0 rfl) ?_
  refine lv_iload_n C0.1 C0.2.1 dX7_swap_1 rfl (lv_at hl 1 rfl) ?_
  refine sr_ald (k := i) C0 hK rfl hP he (nI_clamp (by omega)) (vp_in_nI (by omega) (by omega)) dX7_swap_2 ?_
  refine lv_istore_n (lv' := [(3, .int (f i)), (0, .ref q), (1, .int (nI i)), (2, .int v)]) C0.1 C0.2.1 dX7_swap_3 rfl hl (by decide) rfl (fun ls hl => ?_)
  refine lv_aload_n C0.1 C0.2.1 dX7_swap_4 rfl (lv_at hl 1 rfl) ?_
  refine lv_iload_n C0.1 C0.2.1 dX7_swap_5 rfl (lv_at hl 2 rfl) ?_
  refine lv_iload_n C0.1 C0.2.1 dX7_swap_6 rfl (lv_at hl 3 rfl) ?_
  refine sr_ast (k := i) C0 hK rfl hP (sr_DC ha _ _ _) hS he (nI_clamp (by omega)) (vp_in_nI (by omega) (by omega)) hw dX7_swap_7 (fun H locs hP hS => ?_)
  refine lv_iload_n C0.1 C0.2.1 dX7_swap_8 rfl (lv_at hl 0 rfl) ?_
  exact hret _ _ _ () _ _ _ dX7_swap_9 hP hS rfl rfl trivial
set_option maxRecDepth 100000 in
set_option maxHeartbeats 4000000 in
theorem cc_X6_setRule {l : Launch} {D : va_G} {cI cR : ClassId} {a : Nat → Nat} (ha : ∀ i j, i < 36 → j < 36 → a i = a j → i = j) {kp cx sg : sr_M} (w_ : Nat) (v : Int32) (hI : sr_IC kp cx) (hw_ : w_ < 7) : sr_G l D (sr_tC cI cR) (sr_ZC a) (sr_AC a) (sr_WC cI cR a kp cx sg) yX6_setRule cX6_setRule 5 (some .int) 1 23 [.ref (a 2), .int (nI w_), .int v] (S := sr_M) (fun u => (∀ k, k ≠ 5 → u k = cx k) ∧ ∀ s, s < 4 → u 5 s = sr_ex (va_up kp 2 (upd (kp 2) w_ v)) s) (fun u => sr_WC cI cR a (va_up kp 2 (upd (kp 2) w_ v)) u sg) (fun u => some (.int (kp 2 w_))) := by
  refine sr_Gie (by decide +kernel) (Nat.le_of_ble_eq_true rfl) (fun p e s m args below meth c ls Q B hret => ?_)
  obtain ⟨C0, hP, hK, hZ0, hl⟩ := B
  have hZ : sr_Zok (sr_AC a) (sr_ZC a) := sr_ZCok a
  have hS : va_S (sr_AC a) s.heap s.heap [] := va_S.rf
  have hl : lv_has ls 5 [(0, .ref (a 2)), (1, .int (nI w_)), (2, .int v)] := hl
  obtain ⟨H, hH⟩ : ∃ H, H = s.heap := ⟨_, rfl⟩
  have hP : va_P D vwCl (sr_WC cI cR a kp cx sg) H := by rw [hH]; exact hP
  have hS : va_S (sr_AC a) s.heap H [] := by rw [hH]; exact hS
  suffices hG : ∀ locs, va_S (sr_AC a) s.heap H locs → W p l e (sr_rm 1 23) s m args below meth c H locs 0 0 Q (F0 m 0 ls []) from by have h9 := hG [] hS; rw [hH] at h9; exact h9
  clear hS
  intro locs hS
  clear hH
  refine lv_aload_n C0.1 C0.2.1 dX6_setRule_0 rfl (lv_at hl 0 rfl) ?_
  refine sr_get (v := .ref (a 13)) C0 hK hP sr_inX6 sr_wC2 rfl 1 (by decide) sw_70 rfl dX6_setRule_1 ?_
  refine lv_iload_n C0.1 C0.2.1 dX6_setRule_4 rfl (lv_at hl 1 rfl) ?_
  refine lv_iload_n C0.1 C0.2.1 dX6_setRule_5 rfl (lv_at hl 2 rfl) ?_
  refine sr_gNi (As := [.ref (a 13), .int (nI w_), .int v]) C0 hK hP hZ (sr_Zs hZ hZ0 hS) (cc_X7_swap ha sr_wC13 w_ v (by omega) (by omega) sr_sC13) sk_X7_swap (ss_X7_swap) (sr_Zn22 hZ0) rfl rfl hl.1 (Nat.le_of_ble_eq_true rfl) (Nat.le_of_ble_eq_true rfl) (Nat.le_of_ble_eq_true rfl) dX6_setRule_6 ⟨Nat.zero_le _, Nat.zero_le _⟩ hS (fun u H locs hu hP hS => ?_)
  generalize hkp2 : va_up kp 2 (upd (kp 2) w_ v) = kp2 at hP
  refine lv_istore_n (lv' := [(3, .int (kp 2 w_)), (0, .ref (a 2)), (1, .int (nI w_)), (2, .int v)]) C0.1 C0.2.1 dX6_setRule_9 rfl hl (by decide) rfl (fun ls hl => ?_)
  refine lv_iconst (v := 0) C0.1 C0.2.1 dX6_setRule_10 (by decide) ?_
  refine lv_istore (lv' := [(4, .int 0), (3, .int (kp 2 w_)), (0, .ref (a 2)), (1, .int (nI w_)), (2, .int v)]) C0.1 C0.2.1 dX6_setRule_11 hl (by decide) rfl (fun ls hl => ?_)
  refine lv_iload C0.1 C0.2.1 dX6_setRule_13 (lv_at hl 0 rfl) ?_
  refine lv_iconst (v := 4) C0.1 C0.2.1 dX6_setRule_15 (by decide) ?_
  refine lv_icmp_ge (tgt := 56) C0.1 C0.2.1 dX6_setRule_16 (by decide) (fun q => absurd q (by decide)) (fun _ => ?_)
  refine lv_aload_n C0.1 C0.2.1 dX6_setRule_19 rfl (lv_at hl 2 rfl) ?_
  refine sr_get (v := .ref (a 14)) C0 hK hP sr_inX6 sr_wC2 rfl 2 (by decide) sw_73 rfl dX6_setRule_20 ?_
  refine lv_iload C0.1 C0.2.1 dX6_setRule_23 (lv_at hl 0 rfl) ?_
  refine lv_aload_n C0.1 C0.2.1 dX6_setRule_25 rfl (lv_at hl 2 rfl) ?_
  refine sr_get (v := .ref (a 13)) C0 hK hP sr_inX6 sr_wC2 rfl 1 (by decide) sw_70 rfl dX6_setRule_26 ?_
  refine lv_iconst (v := 3) C0.1 C0.2.1 dX6_setRule_29 (by decide) ?_
  refine sr_ald (k := 3) C0 hK rfl hP sr_wC13 (by decide) (sr_inc (by decide)) dX6_setRule_30 ?_
  refine lv_iload C0.1 C0.2.1 dX6_setRule_31 (lv_at hl 0 rfl) ?_
  refine lv_iconst (v := 2) C0.1 C0.2.1 dX6_setRule_33 (by decide) ?_
  refine lv_irem C0.1 C0.2.1 dX6_setRule_34 (by decide) ?_
  refine sr_chi (by decide : (0 - 0 / 2 * 2 : Int32) = 0) ?_
  refine lv_if_ne (tgt := 47) C0.1 C0.2.1 dX6_setRule_35 (by decide) (fun q => absurd q (by decide)) (fun _ => ?_)
  refine lv_aload_n C0.1 C0.2.1 dX6_setRule_38 rfl (lv_at hl 2 rfl) ?_
  refine sr_get (v := .ref (a 13)) C0 hK hP sr_inX6 sr_wC2 rfl 1 (by decide) sw_70 rfl dX6_setRule_39 ?_
  refine lv_iconst (v := 4) C0.1 C0.2.1 dX6_setRule_42 (by decide) ?_
  refine sr_ald (k := 4) C0 hK rfl hP sr_wC13 (by decide) (sr_inc (by decide)) dX6_setRule_43 ?_
  refine lv_goto (tgt := 48) C0.1 C0.2.1 dX6_setRule_44 (by decide) ?_
  refine lv_iadd C0.1 C0.2.1 dX6_setRule_48 ?_
  refine sr_ast (k := 0) C0 hK rfl hP (sr_DC ha _ _ _) hS sr_wC14 (by decide) (sr_inc (by decide)) sr_sC14 dX6_setRule_49 (fun H locs hP hS => ?_)
  refine lv_iinc (v := 1) (lv' := [(4, .int 1), (3, .int (kp 2 w_)), (0, .ref (a 2)), (1, .int (nI w_)), (2, .int v)]) C0.1 C0.2.1 dX6_setRule_50 hl (k := 0) rfl (by decide) (by decide) rfl (fun ls hl => ?_)
  refine lv_goto (tgt := 13) C0.1 C0.2.1 dX6_setRule_53 (by decide) ?_
  refine lv_iload C0.1 C0.2.1 dX6_setRule_13 (lv_at hl 0 rfl) ?_
  refine lv_iconst (v := 4) C0.1 C0.2.1 dX6_setRule_15 (by decide) ?_
  refine lv_icmp_ge (tgt := 56) C0.1 C0.2.1 dX6_setRule_16 (by decide) (fun q => absurd q (by decide)) (fun _ => ?_)
  refine lv_aload_n C0.1 C0.2.1 dX6_setRule_19 rfl (lv_at hl 2 rfl) ?_
  refine sr_get (v := .ref (a 14)) C0 hK hP sr_inX6 sr_wC2 rfl 2 (by decide) sw_73 rfl dX6_setRule_20 ?_
  refine lv_iload C0.1 C0.2.1 dX6_setRule_23 (lv_at hl 0 rfl) ?_
  refine lv_aload_n C0.1 C0.2.1 dX6_setRule_25 rfl (lv_at hl 2 rfl) ?_
  refine sr_get (v := .ref (a 13)) C0 hK hP sr_inX6 sr_wC2 rfl 1 (by decide) sw_70 rfl dX6_setRule_26 ?_
  refine lv_iconst (v := 3) C0.1 C0.2.1 dX6_setRule_29 (by decide) ?_
  refine sr_ald (k := 3) C0 hK rfl hP sr_wC13 (by decide) (sr_inc (by decide)) dX6_setRule_30 ?_
  refine lv_iload C0.1 C0.2.1 dX6_setRule_31 (lv_at hl 0 rfl) ?_
  refine lv_iconst (v := 2) C0.1 C0.2.1 dX6_setRule_33 (by decide) ?_
  refine lv_irem C0.1 C0.2.1 dX6_setRule_34 (by decide) ?_
  refine sr_chi (by decide : (1 - 1 / 2 * 2 : Int32) = 1) ?_
  refine lv_if_ne (tgt := 47) C0.1 C0.2.1 dX6_setRule_35 (by decide) (fun _ => ?_) (fun q => absurd q (by decide))
  refine lv_iconst (v := 0) C0.1 C0.2.1 dX6_setRule_47 (by decide) ?_
  refine lv_iadd C0.1 C0.2.1 dX6_setRule_48 ?_
  refine sr_ast (k := 1) C0 hK rfl hP (sr_DC ha _ _ _) hS sr_wC14 (by decide) (sr_inc (by decide)) sr_sC14 dX6_setRule_49 (fun H locs hP hS => ?_)
  have hP : va_P D vwCl (sr_WC cI cR a kp2 (va_up cx 5 (upd (upd (cx 5) 0 ((kp2 2 3) + (kp2 2 4))) 1 ((kp2 2 3) + 0))) sg) H := hP
  refine lv_iinc (v := 2) (lv' := [(4, .int 2), (3, .int (kp 2 w_)), (0, .ref (a 2)), (1, .int (nI w_)), (2, .int v)]) C0.1 C0.2.1 dX6_setRule_50 hl (k := 0) rfl (by decide) (by decide) rfl (fun ls hl => ?_)
  refine lv_goto (tgt := 13) C0.1 C0.2.1 dX6_setRule_53 (by decide) ?_
  refine lv_iload C0.1 C0.2.1 dX6_setRule_13 (lv_at hl 0 rfl) ?_
  refine lv_iconst (v := 4) C0.1 C0.2.1 dX6_setRule_15 (by decide) ?_
  refine lv_icmp_ge (tgt := 56) C0.1 C0.2.1 dX6_setRule_16 (by decide) (fun q => absurd q (by decide)) (fun _ => ?_)
  refine lv_aload_n C0.1 C0.2.1 dX6_setRule_19 rfl (lv_at hl 2 rfl) ?_
  refine sr_get (v := .ref (a 14)) C0 hK hP sr_inX6 sr_wC2 rfl 2 (by decide) sw_73 rfl dX6_setRule_20 ?_
  refine lv_iload C0.1 C0.2.1 dX6_setRule_23 (lv_at hl 0 rfl) ?_
  refine lv_aload_n C0.1 C0.2.1 dX6_setRule_25 rfl (lv_at hl 2 rfl) ?_
  refine sr_get (v := .ref (a 13)) C0 hK hP sr_inX6 sr_wC2 rfl 1 (by decide) sw_70 rfl dX6_setRule_26 ?_
  refine lv_iconst (v := 3) C0.1 C0.2.1 dX6_setRule_29 (by decide) ?_
  refine sr_ald (k := 3) C0 hK rfl hP sr_wC13 (by decide) (sr_inc (by decide)) dX6_setRule_30 ?_
  refine lv_iload C0.1 C0.2.1 dX6_setRule_31 (lv_at hl 0 rfl) ?_
  refine lv_iconst (v := 2) C0.1 C0.2.1 dX6_setRule_33 (by decide) ?_
  refine lv_irem C0.1 C0.2.1 dX6_setRule_34 (by decide) ?_
  refine sr_chi (by decide : (2 - 2 / 2 * 2 : Int32) = 0) ?_
  refine lv_if_ne (tgt := 47) C0.1 C0.2.1 dX6_setRule_35 (by decide) (fun q => absurd q (by decide)) (fun _ => ?_)
  refine lv_aload_n C0.1 C0.2.1 dX6_setRule_38 rfl (lv_at hl 2 rfl) ?_
  refine sr_get (v := .ref (a 13)) C0 hK hP sr_inX6 sr_wC2 rfl 1 (by decide) sw_70 rfl dX6_setRule_39 ?_
  refine lv_iconst (v := 4) C0.1 C0.2.1 dX6_setRule_42 (by decide) ?_
  refine sr_ald (k := 4) C0 hK rfl hP sr_wC13 (by decide) (sr_inc (by decide)) dX6_setRule_43 ?_
  refine lv_goto (tgt := 48) C0.1 C0.2.1 dX6_setRule_44 (by decide) ?_
  refine lv_iadd C0.1 C0.2.1 dX6_setRule_48 ?_
  refine sr_ast (k := 2) C0 hK rfl hP (sr_DC ha _ _ _) hS sr_wC14 (by decide) (sr_inc (by decide)) sr_sC14 dX6_setRule_49 (fun H locs hP hS => ?_)
  have hP : va_P D vwCl (sr_WC cI cR a kp2 (va_up cx 5 (upd (upd (upd (cx 5) 0 ((kp2 2 3) + (kp2 2 4))) 1 ((kp2 2 3) + 0)) 2 ((kp2 2 3) + (kp2 2 4)))) sg) H := hP
  refine lv_iinc (v := 3) (lv' := [(4, .int 3), (3, .int (kp 2 w_)), (0, .ref (a 2)), (1, .int (nI w_)), (2, .int v)]) C0.1 C0.2.1 dX6_setRule_50 hl (k := 0) rfl (by decide) (by decide) rfl (fun ls hl => ?_)
  refine lv_goto (tgt := 13) C0.1 C0.2.1 dX6_setRule_53 (by decide) ?_
  refine lv_iload C0.1 C0.2.1 dX6_setRule_13 (lv_at hl 0 rfl) ?_
  refine lv_iconst (v := 4) C0.1 C0.2.1 dX6_setRule_15 (by decide) ?_
  refine lv_icmp_ge (tgt := 56) C0.1 C0.2.1 dX6_setRule_16 (by decide) (fun q => absurd q (by decide)) (fun _ => ?_)
  refine lv_aload_n C0.1 C0.2.1 dX6_setRule_19 rfl (lv_at hl 2 rfl) ?_
  refine sr_get (v := .ref (a 14)) C0 hK hP sr_inX6 sr_wC2 rfl 2 (by decide) sw_73 rfl dX6_setRule_20 ?_
  refine lv_iload C0.1 C0.2.1 dX6_setRule_23 (lv_at hl 0 rfl) ?_
  refine lv_aload_n C0.1 C0.2.1 dX6_setRule_25 rfl (lv_at hl 2 rfl) ?_
  refine sr_get (v := .ref (a 13)) C0 hK hP sr_inX6 sr_wC2 rfl 1 (by decide) sw_70 rfl dX6_setRule_26 ?_
  refine lv_iconst (v := 3) C0.1 C0.2.1 dX6_setRule_29 (by decide) ?_
  refine sr_ald (k := 3) C0 hK rfl hP sr_wC13 (by decide) (sr_inc (by decide)) dX6_setRule_30 ?_
  refine lv_iload C0.1 C0.2.1 dX6_setRule_31 (lv_at hl 0 rfl) ?_
  refine lv_iconst (v := 2) C0.1 C0.2.1 dX6_setRule_33 (by decide) ?_
  refine lv_irem C0.1 C0.2.1 dX6_setRule_34 (by decide) ?_
  refine sr_chi (by decide : (3 - 3 / 2 * 2 : Int32) = 1) ?_
  refine lv_if_ne (tgt := 47) C0.1 C0.2.1 dX6_setRule_35 (by decide) (fun _ => ?_) (fun q => absurd q (by decide))
  refine lv_iconst (v := 0) C0.1 C0.2.1 dX6_setRule_47 (by decide) ?_
  refine lv_iadd C0.1 C0.2.1 dX6_setRule_48 ?_
  refine sr_ast (k := 3) C0 hK rfl hP (sr_DC ha _ _ _) hS sr_wC14 (by decide) (sr_inc (by decide)) sr_sC14 dX6_setRule_49 (fun H locs hP hS => ?_)
  have hP : va_P D vwCl (sr_WC cI cR a kp2 (va_up cx 5 (upd (upd (upd (upd (cx 5) 0 ((kp2 2 3) + (kp2 2 4))) 1 ((kp2 2 3) + 0)) 2 ((kp2 2 3) + (kp2 2 4))) 3 ((kp2 2 3) + 0))) sg) H := hP
  refine lv_iinc (v := 4) (lv' := [(4, .int 4), (3, .int (kp 2 w_)), (0, .ref (a 2)), (1, .int (nI w_)), (2, .int v)]) C0.1 C0.2.1 dX6_setRule_50 hl (k := 0) rfl (by decide) (by decide) rfl (fun ls hl => ?_)
  refine lv_goto (tgt := 13) C0.1 C0.2.1 dX6_setRule_53 (by decide) ?_
  refine lv_iload C0.1 C0.2.1 dX6_setRule_13 (lv_at hl 0 rfl) ?_
  refine lv_iconst (v := 4) C0.1 C0.2.1 dX6_setRule_15 (by decide) ?_
  refine lv_icmp_ge (tgt := 56) C0.1 C0.2.1 dX6_setRule_16 (by decide) (fun _ => ?_) (fun q => absurd q (by decide))
  refine lv_iload_n C0.1 C0.2.1 dX6_setRule_56 rfl (lv_at hl 1 rfl) ?_
  exact hret _ _ _ (va_up cx 5 (upd (upd (upd (upd (cx 5) 0 ((kp2 2 3) + (kp2 2 4))) 1 ((kp2 2 3) + 0)) 2 ((kp2 2 3) + (kp2 2 4))) 3 ((kp2 2 3) + 0))) _ _ _ dX6_setRule_57 hP hS (by rw [hkp2]) rfl ⟨fun k hk => by simp [va_up, hk], fun s hs => by rw [hkp2]; rcases (show s = 0 ∨ s = 1 ∨ s = 2 ∨ s = 3 by omega) with rfl | rfl | rfl | rfl <;> rfl⟩
set_option maxRecDepth 100000 in
set_option maxHeartbeats 4000000 in
theorem cc_X3_lacksSomebody {l : Launch} {D : va_G} {cI cR : ClassId} {a : Nat → Nat} (ha : ∀ i j, i < 36 → j < 36 → a i = a j → i = j) {kp cx sg : sr_M} (hI : sr_IC kp cx) : sr_P l D (sr_tC cI cR) (sr_ZC a) (sr_WC cI cR a kp cx sg) yX3_lacksSomebody cX3_lacksSomebody 5 (some .boolean) 0 0 [.ref (a 3)] (some (.int (if ¬ sr_th kp then 1 else 0))) := by
  refine sr_Pze (by decide +kernel) (Nat.le_of_ble_eq_true rfl) (fun p e s m args below meth c ls Q B hret => ?_)
  obtain ⟨C0, hP, hK, hZ0, hl⟩ := B
  have hZ : sr_Zok (sr_AC a) (sr_ZC a) := sr_ZCok a
  have hS : va_S (sr_AC a) s.heap s.heap [] := va_S.rf
  have hl : lv_has ls 5 [(0, .ref (a 3))] := hl
  refine lv_aload_n C0.1 C0.2.1 dX3_lacksSomebody_0 rfl (lv_at hl 0 rfl) ?_
  refine sr_get (v := .ref (a 15)) C0 hK hP sr_inX3 sr_wC3 rfl 2 (by decide) sw_89 rfl dX3_lacksSomebody_1 ?_
  refine lv_astore_n (lv' := [(1, .ref (a 15)), (0, .ref (a 3))]) C0.1 C0.2.1 dX3_lacksSomebody_4 rfl hl (by decide) rfl (fun ls hl => ?_)
  refine lv_aload_n C0.1 C0.2.1 dX3_lacksSomebody_5 rfl (lv_at hl 0 rfl) ?_
  refine va_alen (v := 4) C0.1 C0.2.1 hK hP 15 0 sr_wC15 rfl rfl dX3_lacksSomebody_6 ?_
  refine lv_istore_n (lv' := [(2, .int 4), (1, .ref (a 15)), (0, .ref (a 3))]) C0.1 C0.2.1 dX3_lacksSomebody_7 rfl hl (by decide) rfl (fun ls hl => ?_)
  refine lv_iconst (v := 0) C0.1 C0.2.1 dX3_lacksSomebody_8 (by decide) ?_
  refine lv_istore_n (lv' := [(3, .int 0), (2, .int 4), (1, .ref (a 15)), (0, .ref (a 3))]) C0.1 C0.2.1 dX3_lacksSomebody_9 rfl hl (by decide) rfl (fun ls hl => ?_)
  refine lv_iload_n C0.1 C0.2.1 dX3_lacksSomebody_10 rfl (lv_at hl 0 rfl) ?_
  refine lv_iload_n C0.1 C0.2.1 dX3_lacksSomebody_11 rfl (lv_at hl 1 rfl) ?_
  refine lv_icmp_ge (tgt := 40) C0.1 C0.2.1 dX3_lacksSomebody_12 (by decide) (fun q => absurd q (by decide)) (fun _ => ?_)
  refine lv_aload_n C0.1 C0.2.1 dX3_lacksSomebody_15 rfl (lv_at hl 2 rfl) ?_
  refine lv_iload_n C0.1 C0.2.1 dX3_lacksSomebody_16 rfl (lv_at hl 0 rfl) ?_
  refine sr_ald (k := 0) C0 hK rfl hP sr_wC15 (by decide) (sr_inc (by decide)) dX3_lacksSomebody_17 ?_
  refine sr_chi (sr_IK_ru (sr_IC_K hI) (by omega)) ?_
  have := sr_IK_ru5 (sr_IC_K hI) (s := 0) (by omega)
  refine lv_istore (lv' := [(4, .int (nI (sr_ru kp 0))), (3, .int 0), (2, .int 4), (1, .ref (a 15)), (0, .ref (a 3))]) C0.1 C0.2.1 dX3_lacksSomebody_18 hl (by decide) rfl (fun ls hl => ?_)
  refine lv_iload C0.1 C0.2.1 dX3_lacksSomebody_20 (lv_at hl 0 rfl) ?_
  refine lv_aload_n C0.1 C0.2.1 dX3_lacksSomebody_22 rfl (lv_at hl 4 rfl) ?_
  refine sr_get (v := .ref (a 1)) C0 hK hP sr_inX3 sr_wC3 rfl 0 (by decide) sw_87 rfl dX3_lacksSomebody_23 ?_
  refine sr_get (v := .int (cx 4 1)) C0 hK hP sr_inX4 sr_wC1 rfl 7 (by decide) sw_42 rfl dX3_lacksSomebody_26 ?_
  refine sr_chi (sr_IC_1 hI) ?_
  have := sr_cnt5 kp
  refine lv_icmp_lt (tgt := 34) C0.1 C0.2.1 dX3_lacksSomebody_29 (by decide) (fun c29 => ?_) (fun c29 => ?_)
  · have g29 : (sr_ru kp 0) < (sr_cnt kp) := (nI_ltI (a := (sr_ru kp 0)) (b := (sr_cnt kp)) (by omega) (by omega)).mp c29
    refine lv_iinc (v := 1) (lv' := [(3, .int 1), (4, .int (nI (sr_ru kp 0))), (2, .int 4), (1, .ref (a 15)), (0, .ref (a 3))]) C0.1 C0.2.1 dX3_lacksSomebody_34 hl (k := 1) rfl (by decide) (by decide) rfl (fun ls hl => ?_)
    refine lv_goto (tgt := 10) C0.1 C0.2.1 dX3_lacksSomebody_37 (by decide) ?_
    refine lv_iload_n C0.1 C0.2.1 dX3_lacksSomebody_10 rfl (lv_at hl 0 rfl) ?_
    refine lv_iload_n C0.1 C0.2.1 dX3_lacksSomebody_11 rfl (lv_at hl 2 rfl) ?_
    refine lv_icmp_ge (tgt := 40) C0.1 C0.2.1 dX3_lacksSomebody_12 (by decide) (fun q => absurd q (by decide)) (fun _ => ?_)
    refine lv_aload_n C0.1 C0.2.1 dX3_lacksSomebody_15 rfl (lv_at hl 3 rfl) ?_
    refine lv_iload_n C0.1 C0.2.1 dX3_lacksSomebody_16 rfl (lv_at hl 0 rfl) ?_
    refine sr_ald (k := 1) C0 hK rfl hP sr_wC15 (by decide) (sr_inc (by decide)) dX3_lacksSomebody_17 ?_
    refine sr_chi (sr_IK_ru (sr_IC_K hI) (by omega)) ?_
    have := sr_IK_ru5 (sr_IC_K hI) (s := 1) (by omega)
    refine lv_istore (lv' := [(4, .int (nI (sr_ru kp 1))), (3, .int 1), (2, .int 4), (1, .ref (a 15)), (0, .ref (a 3))]) C0.1 C0.2.1 dX3_lacksSomebody_18 hl (by decide) rfl (fun ls hl => ?_)
    refine lv_iload C0.1 C0.2.1 dX3_lacksSomebody_20 (lv_at hl 0 rfl) ?_
    refine lv_aload_n C0.1 C0.2.1 dX3_lacksSomebody_22 rfl (lv_at hl 4 rfl) ?_
    refine sr_get (v := .ref (a 1)) C0 hK hP sr_inX3 sr_wC3 rfl 0 (by decide) sw_87 rfl dX3_lacksSomebody_23 ?_
    refine sr_get (v := .int (cx 4 1)) C0 hK hP sr_inX4 sr_wC1 rfl 7 (by decide) sw_42 rfl dX3_lacksSomebody_26 ?_
    refine sr_chi (sr_IC_1 hI) ?_
    have := sr_cnt5 kp
    refine lv_icmp_lt (tgt := 34) C0.1 C0.2.1 dX3_lacksSomebody_29 (by decide) (fun c29_2 => ?_) (fun c29_2 => ?_)
    · have g29_2 : (sr_ru kp 1) < (sr_cnt kp) := (nI_ltI (a := (sr_ru kp 1)) (b := (sr_cnt kp)) (by omega) (by omega)).mp c29_2
      refine lv_iinc (v := 2) (lv' := [(3, .int 2), (4, .int (nI (sr_ru kp 1))), (2, .int 4), (1, .ref (a 15)), (0, .ref (a 3))]) C0.1 C0.2.1 dX3_lacksSomebody_34 hl (k := 1) rfl (by decide) (by decide) rfl (fun ls hl => ?_)
      refine lv_goto (tgt := 10) C0.1 C0.2.1 dX3_lacksSomebody_37 (by decide) ?_
      refine lv_iload_n C0.1 C0.2.1 dX3_lacksSomebody_10 rfl (lv_at hl 0 rfl) ?_
      refine lv_iload_n C0.1 C0.2.1 dX3_lacksSomebody_11 rfl (lv_at hl 2 rfl) ?_
      refine lv_icmp_ge (tgt := 40) C0.1 C0.2.1 dX3_lacksSomebody_12 (by decide) (fun q => absurd q (by decide)) (fun _ => ?_)
      refine lv_aload_n C0.1 C0.2.1 dX3_lacksSomebody_15 rfl (lv_at hl 3 rfl) ?_
      refine lv_iload_n C0.1 C0.2.1 dX3_lacksSomebody_16 rfl (lv_at hl 0 rfl) ?_
      refine sr_ald (k := 2) C0 hK rfl hP sr_wC15 (by decide) (sr_inc (by decide)) dX3_lacksSomebody_17 ?_
      refine sr_chi (sr_IK_ru (sr_IC_K hI) (by omega)) ?_
      have := sr_IK_ru5 (sr_IC_K hI) (s := 2) (by omega)
      refine lv_istore (lv' := [(4, .int (nI (sr_ru kp 2))), (3, .int 2), (2, .int 4), (1, .ref (a 15)), (0, .ref (a 3))]) C0.1 C0.2.1 dX3_lacksSomebody_18 hl (by decide) rfl (fun ls hl => ?_)
      refine lv_iload C0.1 C0.2.1 dX3_lacksSomebody_20 (lv_at hl 0 rfl) ?_
      refine lv_aload_n C0.1 C0.2.1 dX3_lacksSomebody_22 rfl (lv_at hl 4 rfl) ?_
      refine sr_get (v := .ref (a 1)) C0 hK hP sr_inX3 sr_wC3 rfl 0 (by decide) sw_87 rfl dX3_lacksSomebody_23 ?_
      refine sr_get (v := .int (cx 4 1)) C0 hK hP sr_inX4 sr_wC1 rfl 7 (by decide) sw_42 rfl dX3_lacksSomebody_26 ?_
      refine sr_chi (sr_IC_1 hI) ?_
      have := sr_cnt5 kp
      refine lv_icmp_lt (tgt := 34) C0.1 C0.2.1 dX3_lacksSomebody_29 (by decide) (fun c29_3 => ?_) (fun c29_3 => ?_)
      · have g29_3 : (sr_ru kp 2) < (sr_cnt kp) := (nI_ltI (a := (sr_ru kp 2)) (b := (sr_cnt kp)) (by omega) (by omega)).mp c29_3
        refine lv_iinc (v := 3) (lv' := [(3, .int 3), (4, .int (nI (sr_ru kp 2))), (2, .int 4), (1, .ref (a 15)), (0, .ref (a 3))]) C0.1 C0.2.1 dX3_lacksSomebody_34 hl (k := 1) rfl (by decide) (by decide) rfl (fun ls hl => ?_)
        refine lv_goto (tgt := 10) C0.1 C0.2.1 dX3_lacksSomebody_37 (by decide) ?_
        refine lv_iload_n C0.1 C0.2.1 dX3_lacksSomebody_10 rfl (lv_at hl 0 rfl) ?_
        refine lv_iload_n C0.1 C0.2.1 dX3_lacksSomebody_11 rfl (lv_at hl 2 rfl) ?_
        refine lv_icmp_ge (tgt := 40) C0.1 C0.2.1 dX3_lacksSomebody_12 (by decide) (fun q => absurd q (by decide)) (fun _ => ?_)
        refine lv_aload_n C0.1 C0.2.1 dX3_lacksSomebody_15 rfl (lv_at hl 3 rfl) ?_
        refine lv_iload_n C0.1 C0.2.1 dX3_lacksSomebody_16 rfl (lv_at hl 0 rfl) ?_
        refine sr_ald (k := 3) C0 hK rfl hP sr_wC15 (by decide) (sr_inc (by decide)) dX3_lacksSomebody_17 ?_
        refine sr_chi (sr_IK_ru (sr_IC_K hI) (by omega)) ?_
        have := sr_IK_ru5 (sr_IC_K hI) (s := 3) (by omega)
        refine lv_istore (lv' := [(4, .int (nI (sr_ru kp 3))), (3, .int 3), (2, .int 4), (1, .ref (a 15)), (0, .ref (a 3))]) C0.1 C0.2.1 dX3_lacksSomebody_18 hl (by decide) rfl (fun ls hl => ?_)
        refine lv_iload C0.1 C0.2.1 dX3_lacksSomebody_20 (lv_at hl 0 rfl) ?_
        refine lv_aload_n C0.1 C0.2.1 dX3_lacksSomebody_22 rfl (lv_at hl 4 rfl) ?_
        refine sr_get (v := .ref (a 1)) C0 hK hP sr_inX3 sr_wC3 rfl 0 (by decide) sw_87 rfl dX3_lacksSomebody_23 ?_
        refine sr_get (v := .int (cx 4 1)) C0 hK hP sr_inX4 sr_wC1 rfl 7 (by decide) sw_42 rfl dX3_lacksSomebody_26 ?_
        refine sr_chi (sr_IC_1 hI) ?_
        have := sr_cnt5 kp
        refine lv_icmp_lt (tgt := 34) C0.1 C0.2.1 dX3_lacksSomebody_29 (by decide) (fun c29_4 => ?_) (fun c29_4 => ?_)
        · have g29_4 : (sr_ru kp 3) < (sr_cnt kp) := (nI_ltI (a := (sr_ru kp 3)) (b := (sr_cnt kp)) (by omega) (by omega)).mp c29_4
          refine lv_iinc (v := 4) (lv' := [(3, .int 4), (4, .int (nI (sr_ru kp 3))), (2, .int 4), (1, .ref (a 15)), (0, .ref (a 3))]) C0.1 C0.2.1 dX3_lacksSomebody_34 hl (k := 1) rfl (by decide) (by decide) rfl (fun ls hl => ?_)
          refine lv_goto (tgt := 10) C0.1 C0.2.1 dX3_lacksSomebody_37 (by decide) ?_
          refine lv_iload_n C0.1 C0.2.1 dX3_lacksSomebody_10 rfl (lv_at hl 0 rfl) ?_
          refine lv_iload_n C0.1 C0.2.1 dX3_lacksSomebody_11 rfl (lv_at hl 2 rfl) ?_
          refine lv_icmp_ge (tgt := 40) C0.1 C0.2.1 dX3_lacksSomebody_12 (by decide) (fun _ => ?_) (fun q => absurd q (by decide))
          refine lv_iconst (v := 0) C0.1 C0.2.1 dX3_lacksSomebody_40 (by decide) ?_
          exact hret _ _ _ dX3_lacksSomebody_41 (by first | exact (if_pos (by simp only [sr_th]; omega)).symm | exact (if_neg (by simp only [sr_th]; omega)).symm)
        · have g29_4 : ¬ ((sr_ru kp 3) < (sr_cnt kp)) := fun q => c29_4 ((nI_ltI (a := (sr_ru kp 3)) (b := (sr_cnt kp)) (by omega) (by omega)).mpr q)
          refine lv_iconst (v := 1) C0.1 C0.2.1 dX3_lacksSomebody_32 (by decide) ?_
          exact hret _ _ _ dX3_lacksSomebody_33 (by first | exact (if_pos (by simp only [sr_th]; omega)).symm | exact (if_neg (by simp only [sr_th]; omega)).symm)
      · have g29_3 : ¬ ((sr_ru kp 2) < (sr_cnt kp)) := fun q => c29_3 ((nI_ltI (a := (sr_ru kp 2)) (b := (sr_cnt kp)) (by omega) (by omega)).mpr q)
        refine lv_iconst (v := 1) C0.1 C0.2.1 dX3_lacksSomebody_32 (by decide) ?_
        exact hret _ _ _ dX3_lacksSomebody_33 (by first | exact (if_pos (by simp only [sr_th]; omega)).symm | exact (if_neg (by simp only [sr_th]; omega)).symm)
    · have g29_2 : ¬ ((sr_ru kp 1) < (sr_cnt kp)) := fun q => c29_2 ((nI_ltI (a := (sr_ru kp 1)) (b := (sr_cnt kp)) (by omega) (by omega)).mpr q)
      refine lv_iconst (v := 1) C0.1 C0.2.1 dX3_lacksSomebody_32 (by decide) ?_
      exact hret _ _ _ dX3_lacksSomebody_33 (by first | exact (if_pos (by simp only [sr_th]; omega)).symm | exact (if_neg (by simp only [sr_th]; omega)).symm)
  · have g29 : ¬ ((sr_ru kp 0) < (sr_cnt kp)) := fun q => c29 ((nI_ltI (a := (sr_ru kp 0)) (b := (sr_cnt kp)) (by omega) (by omega)).mpr q)
    refine lv_iconst (v := 1) C0.1 C0.2.1 dX3_lacksSomebody_32 (by decide) ?_
    exact hret _ _ _ dX3_lacksSomebody_33 (by first | exact (if_pos (by simp only [sr_th]; omega)).symm | exact (if_neg (by simp only [sr_th]; omega)).symm)
set_option maxRecDepth 100000 in
set_option maxHeartbeats 4000000 in
theorem cc_X3_offAt {l : Launch} {D : va_G} {cI cR : ClassId} {a : Nat → Nat} (ha : ∀ i j, i < 36 → j < 36 → a i = a j → i = j) {kp cx sg : sr_M} (us : Nat) (hI : sr_IC kp cx) (hT : sr_th kp) (hs_us : us < 4) : sr_P l D (sr_tC cI cR) (sr_ZC a) (sr_WC cI cR a kp cx sg) yX3_offAt cX3_offAt 4 (some .int) 2 48 [.ref (a 3), .int (nI us)] (some (.int (sr_gs kp us))) := by
  refine sr_Pie (by decide +kernel) (Nat.le_of_ble_eq_true rfl) (fun p e s m args below meth c ls Q B hret => ?_)
  obtain ⟨C0, hP, hK, hZ0, hl⟩ := B
  have hZ : sr_Zok (sr_AC a) (sr_ZC a) := sr_ZCok a
  have hS : va_S (sr_AC a) s.heap s.heap [] := va_S.rf
  have hl : lv_has ls 4 [(0, .ref (a 3)), (1, .int (nI us))] := hl
  have := sr_cnt5 kp
  refine lv_iconst (v := 0) C0.1 C0.2.1 dX3_offAt_0 (by decide) ?_
  refine lv_istore_n (lv' := [(2, .int 0), (0, .ref (a 3)), (1, .int (nI us))]) C0.1 C0.2.1 dX3_offAt_1 rfl hl (by decide) rfl (fun ls hl => ?_)
  refine lv_iconst (v := 0) C0.1 C0.2.1 dX3_offAt_2 (by decide) ?_
  refine lv_istore_n (lv' := [(3, .int 0), (2, .int 0), (0, .ref (a 3)), (1, .int (nI us))]) C0.1 C0.2.1 dX3_offAt_3 rfl hl (by decide) rfl (fun ls hl => ?_)
  have lp4 : ∀ (n4 : Nat) (i : Nat) (ls : Array Slot), (i ≤ us) → (us + 1 ≤ i + n4) → lv_has ls 4 [(3, .int (nI i)), (2, .int (sr_gs kp i)), (0, .ref (a 3)), (1, .int (nI us))] → W p l e (sr_rm 2 48) s m args below meth c s.heap [] 0 0 Q (F0 m 4 ls []) := by
    intro n4
    induction n4 with
    | zero =>
      intro i ls h_i h_n hl
      exact absurd h_n (by omega)
    | succ n4 ih4 =>
      intro i ls h_i h_n hl
      refine lv_iload_n C0.1 C0.2.1 dX3_offAt_4 rfl (lv_at hl 0 rfl) ?_
      refine lv_iload_n C0.1 C0.2.1 dX3_offAt_5 rfl (lv_at hl 3 rfl) ?_
      refine lv_icmp_ge (tgt := 44) C0.1 C0.2.1 dX3_offAt_6 (by decide) (fun c6 => ?_) (fun c6 => ?_)
      · have g6 : us ≤ i := (nI_leI (a := us) (b := i) (by omega) (by omega)).mp c6
        refine lv_iload_n C0.1 C0.2.1 dX3_offAt_44 rfl (lv_at hl 1 rfl) ?_
        exact hret _ _ _ dX3_offAt_45 (by rw [show us = i by omega])
      · have g6 : ¬ (us ≤ i) := fun q => c6 ((nI_leI (a := us) (b := i) (by omega) (by omega)).mpr q)
        refine lv_iload_n C0.1 C0.2.1 dX3_offAt_9 rfl (lv_at hl 1 rfl) ?_
        refine lv_aload_n C0.1 C0.2.1 dX3_offAt_10 rfl (lv_at hl 2 rfl) ?_
        refine sr_get (v := .ref (a 2)) C0 hK hP sr_inX3 sr_wC3 rfl 1 (by decide) sw_88 rfl dX3_offAt_11 ?_
        refine lv_iload_n C0.1 C0.2.1 dX3_offAt_14 rfl (lv_at hl 0 rfl) ?_
        refine lv_aload_n C0.1 C0.2.1 dX3_offAt_15 rfl (lv_at hl 2 rfl) ?_
        refine sr_get (v := .ref (a 15)) C0 hK hP sr_inX3 sr_wC3 rfl 2 (by decide) sw_89 rfl dX3_offAt_16 ?_
        refine lv_iload_n C0.1 C0.2.1 dX3_offAt_19 rfl (lv_at hl 0 rfl) ?_
        refine sr_ald (k := i) C0 hK rfl hP sr_wC15 (nI_clamp (by omega)) (vp_in_nI (by omega) (by omega)) dX3_offAt_20 ?_
        refine sr_chi (sr_IK_ru (sr_IC_K hI) (by omega)) ?_
        have := sr_IK_ru5 (sr_IC_K hI) (s := i) (by omega)
        refine lv_aload_n C0.1 C0.2.1 dX3_offAt_21 rfl (lv_at hl 2 rfl) ?_
        refine sr_get (v := .ref (a 16)) C0 hK hP sr_inX3 sr_wC3 rfl 3 (by decide) sw_92 rfl dX3_offAt_22 ?_
        refine lv_iload_n C0.1 C0.2.1 dX3_offAt_25 rfl (lv_at hl 0 rfl) ?_
        refine sr_ald (k := i) C0 hK rfl hP sr_wC16 (nI_clamp (by omega)) (vp_in_nI (by omega) (by omega)) dX3_offAt_26 ?_
        refine lv_aload_n C0.1 C0.2.1 dX3_offAt_27 rfl (lv_at hl 2 rfl) ?_
        refine sr_get (v := .ref (a 17)) C0 hK hP sr_inX3 sr_wC3 rfl 4 (by decide) sw_95 rfl dX3_offAt_28 ?_
        refine lv_iload_n C0.1 C0.2.1 dX3_offAt_31 rfl (lv_at hl 0 rfl) ?_
        refine sr_ald (k := i) C0 hK rfl hP sr_wC17 (nI_clamp (by omega)) (vp_in_nI (by omega) (by omega)) dX3_offAt_32 ?_
        refine sr_pVi (As := [.int (nI i), .int (nI (sr_ru kp i)), .int (kp 3 i), .int (kp 4 i)]) C0 hK hP hZ hZ0 (cc_X6_untilNext ha i (sr_ru kp i) (kp 3 i) (kp 4 i) hI (by first | omega | exact sr_th_at hT (by omega)) (by omega)) sk_X6_untilNext sv_X6_untilNext sw_345 (ci := 6) rfl sr_wC2 rfl rfl hl.1 (Nat.le_of_ble_eq_true rfl) (Nat.le_of_ble_eq_true rfl) (Nat.le_of_ble_eq_true rfl) dX3_offAt_33 ⟨Nat.zero_le _, Nat.zero_le _⟩ ?_
        refine lv_iadd C0.1 C0.2.1 dX3_offAt_36 ?_
        refine lv_istore_n (lv' := [(2, .int ((sr_gs kp i) + (sr_Dl kp (sr_ru kp i) i (kp 3 i) (kp 4 i)))), (3, .int (nI i)), (0, .ref (a 3)), (1, .int (nI us))]) C0.1 C0.2.1 dX3_offAt_37 rfl hl (by decide) rfl (fun ls hl => ?_)
        refine lv_iinc (v := (nI (i + 1))) (lv' := [(3, .int (nI (i + 1))), (2, .int ((sr_gs kp i) + (sr_Dl kp (sr_ru kp i) i (kp 3 i) (kp 4 i)))), (0, .ref (a 3)), (1, .int (nI us))]) C0.1 C0.2.1 dX3_offAt_38 hl (k := 1) rfl (nI_1 i) (by decide) rfl (fun ls hl => ?_)
        refine lv_goto (tgt := 4) C0.1 C0.2.1 dX3_offAt_41 (by decide) ?_
        exact ih4 (i + 1) _ (by omega) (by omega) (lv_sub hl [0, 1, 2, 3] rfl)
  exact lp4 (us + 1) 0 _ (by omega) (by omega) (lv_sub hl [0, 1, 2, 3] rfl)
set_option maxRecDepth 100000 in
set_option maxHeartbeats 4000000 in
theorem cc_X3_meeting {l : Launch} {D : va_G} {cI cR : ClassId} {a : Nat → Nat} (ha : ∀ i j, i < 36 → j < 36 → a i = a j → i = j) {kp cx sg : sr_M} (cn : Nat) (sl : Int32) (hI : sr_IC kp cx) (hT : sr_th kp) (hs_cn : cn < 3) (hl_sl : sr_bs sl) : sr_P l D (sr_tC cI cR) (sr_ZC a) (sr_WC cI cR a kp cx sg) yX3_meeting cX3_meeting 3 (some .int) 3 77 [.ref (a 3), .int (nI cn), .int sl] (some (.int (sr_mt kp (sr_ru kp cn) (sr_ru kp (cn + 1)) cn (kp 3 cn) sl))) := by
  refine sr_Pie (by decide +kernel) (Nat.le_of_ble_eq_true rfl) (fun p e s m args below meth c ls Q B hret => ?_)
  obtain ⟨C0, hP, hK, hZ0, hl⟩ := B
  have hZ : sr_Zok (sr_AC a) (sr_ZC a) := sr_ZCok a
  have hS : va_S (sr_AC a) s.heap s.heap [] := va_S.rf
  have hl : lv_has ls 3 [(0, .ref (a 3)), (1, .int (nI cn)), (2, .int sl)] := hl
  refine lv_aload_n C0.1 C0.2.1 dX3_meeting_0 rfl (lv_at hl 0 rfl) ?_
  refine sr_get (v := .ref (a 2)) C0 hK hP sr_inX3 sr_wC3 rfl 1 (by decide) sw_88 rfl dX3_meeting_1 ?_
  refine lv_iload_n C0.1 C0.2.1 dX3_meeting_4 rfl (lv_at hl 1 rfl) ?_
  refine lv_aload_n C0.1 C0.2.1 dX3_meeting_5 rfl (lv_at hl 0 rfl) ?_
  refine sr_get (v := .ref (a 15)) C0 hK hP sr_inX3 sr_wC3 rfl 2 (by decide) sw_89 rfl dX3_meeting_6 ?_
  refine lv_iload_n C0.1 C0.2.1 dX3_meeting_9 rfl (lv_at hl 1 rfl) ?_
  refine sr_ald (k := cn) C0 hK rfl hP sr_wC15 (nI_clamp (by omega)) (vp_in_nI (by omega) (by omega)) dX3_meeting_10 ?_
  refine sr_chi (sr_IK_ru (sr_IC_K hI) (by omega)) ?_
  have := sr_IK_ru5 (sr_IC_K hI) (s := cn) (by omega)
  refine lv_aload_n C0.1 C0.2.1 dX3_meeting_11 rfl (lv_at hl 0 rfl) ?_
  refine sr_get (v := .ref (a 15)) C0 hK hP sr_inX3 sr_wC3 rfl 2 (by decide) sw_89 rfl dX3_meeting_12 ?_
  refine lv_iload_n C0.1 C0.2.1 dX3_meeting_15 rfl (lv_at hl 1 rfl) ?_
  refine lv_iconst (v := 1) C0.1 C0.2.1 dX3_meeting_16 (by decide) ?_
  refine lv_iadd C0.1 C0.2.1 dX3_meeting_17 ?_
  refine sr_chi (nI_add cn 1) ?_
  refine sr_ald (k := cn + 1) C0 hK rfl hP sr_wC15 (nI_clamp (by omega)) (vp_in_nI (by omega) (by omega)) dX3_meeting_18 ?_
  refine sr_chi (sr_IK_ru (sr_IC_K hI) (by omega)) ?_
  have := sr_IK_ru5 (sr_IC_K hI) (s := (cn + 1)) (by omega)
  refine lv_aload_n C0.1 C0.2.1 dX3_meeting_19 rfl (lv_at hl 0 rfl) ?_
  refine sr_get (v := .ref (a 16)) C0 hK hP sr_inX3 sr_wC3 rfl 3 (by decide) sw_92 rfl dX3_meeting_20 ?_
  refine lv_iload_n C0.1 C0.2.1 dX3_meeting_23 rfl (lv_at hl 1 rfl) ?_
  refine sr_ald (k := cn) C0 hK rfl hP sr_wC16 (nI_clamp (by omega)) (vp_in_nI (by omega) (by omega)) dX3_meeting_24 ?_
  refine lv_iload_n C0.1 C0.2.1 dX3_meeting_25 rfl (lv_at hl 2 rfl) ?_
  refine sr_pVi (As := [.int (nI cn), .int (nI (sr_ru kp cn)), .int (nI (sr_ru kp (cn + 1))), .int (kp 3 cn), .int sl]) C0 hK hP hZ hZ0 (cc_X6_meeting ha cn (sr_ru kp cn) (sr_ru kp (cn + 1)) (kp 3 cn) sl hI (by first | omega | exact sr_th_at hT (by omega)) (by first | omega | exact sr_th_at hT (by omega)) (by omega) (by first | assumption | exact sr_IK_mb (sr_IC_K hI) (by omega) | exact sr_b0n (by omega)) (by first | assumption | exact sr_IK_sl (sr_IC_K hI) (by omega) | exact sr_bs0 | exact sr_bsp (sr_IC_K hI) (by omega))) sk_X6_meeting sv_X6_meeting sw_361 (ci := 6) rfl sr_wC2 rfl rfl hl.1 (Nat.le_of_ble_eq_true rfl) (Nat.le_of_ble_eq_true rfl) (Nat.le_of_ble_eq_true rfl) dX3_meeting_26 ⟨Nat.zero_le _, Nat.zero_le _⟩ ?_
  exact hret _ _ _ dX3_meeting_29 rfl
set_option maxRecDepth 100000 in
set_option maxHeartbeats 4000000 in
theorem cc_X3_bestMark {l : Launch} {D : va_G} {cI cR : ClassId} {a : Nat → Nat} (ha : ∀ i j, i < 36 → j < 36 → a i = a j → i = j) {kp cx sg : sr_M} (cn : Nat) (hI : sr_IC kp cx) (hT : sr_th kp) (hs_cn : cn < 3) : sr_P l D (sr_tC cI cR) (sr_ZC a) (sr_WC cI cR a kp cx sg) yX3_bestMark cX3_bestMark 2 (some .int) 3 77 [.ref (a 3), .int (nI cn)] (some (.int (nI (sr_best kp (sr_ru kp cn) (sr_ru kp (cn + 1)) cn (kp 4 cn))))) := by
  refine sr_Pie (by decide +kernel) (Nat.le_of_ble_eq_true rfl) (fun p e s m args below meth c ls Q B hret => ?_)
  obtain ⟨C0, hP, hK, hZ0, hl⟩ := B
  have hZ : sr_Zok (sr_AC a) (sr_ZC a) := sr_ZCok a
  have hS : va_S (sr_AC a) s.heap s.heap [] := va_S.rf
  have hl : lv_has ls 2 [(0, .ref (a 3)), (1, .int (nI cn))] := hl
  refine lv_aload_n C0.1 C0.2.1 dX3_bestMark_0 rfl (lv_at hl 0 rfl) ?_
  refine sr_get (v := .ref (a 2)) C0 hK hP sr_inX3 sr_wC3 rfl 1 (by decide) sw_88 rfl dX3_bestMark_1 ?_
  refine lv_iload_n C0.1 C0.2.1 dX3_bestMark_4 rfl (lv_at hl 1 rfl) ?_
  refine lv_aload_n C0.1 C0.2.1 dX3_bestMark_5 rfl (lv_at hl 0 rfl) ?_
  refine sr_get (v := .ref (a 15)) C0 hK hP sr_inX3 sr_wC3 rfl 2 (by decide) sw_89 rfl dX3_bestMark_6 ?_
  refine lv_iload_n C0.1 C0.2.1 dX3_bestMark_9 rfl (lv_at hl 1 rfl) ?_
  refine sr_ald (k := cn) C0 hK rfl hP sr_wC15 (nI_clamp (by omega)) (vp_in_nI (by omega) (by omega)) dX3_bestMark_10 ?_
  refine sr_chi (sr_IK_ru (sr_IC_K hI) (by omega)) ?_
  have := sr_IK_ru5 (sr_IC_K hI) (s := cn) (by omega)
  refine lv_aload_n C0.1 C0.2.1 dX3_bestMark_11 rfl (lv_at hl 0 rfl) ?_
  refine sr_get (v := .ref (a 15)) C0 hK hP sr_inX3 sr_wC3 rfl 2 (by decide) sw_89 rfl dX3_bestMark_12 ?_
  refine lv_iload_n C0.1 C0.2.1 dX3_bestMark_15 rfl (lv_at hl 1 rfl) ?_
  refine lv_iconst (v := 1) C0.1 C0.2.1 dX3_bestMark_16 (by decide) ?_
  refine lv_iadd C0.1 C0.2.1 dX3_bestMark_17 ?_
  refine sr_chi (nI_add cn 1) ?_
  refine sr_ald (k := cn + 1) C0 hK rfl hP sr_wC15 (nI_clamp (by omega)) (vp_in_nI (by omega) (by omega)) dX3_bestMark_18 ?_
  refine sr_chi (sr_IK_ru (sr_IC_K hI) (by omega)) ?_
  have := sr_IK_ru5 (sr_IC_K hI) (s := (cn + 1)) (by omega)
  refine lv_aload_n C0.1 C0.2.1 dX3_bestMark_19 rfl (lv_at hl 0 rfl) ?_
  refine sr_get (v := .ref (a 17)) C0 hK hP sr_inX3 sr_wC3 rfl 4 (by decide) sw_95 rfl dX3_bestMark_20 ?_
  refine lv_iload_n C0.1 C0.2.1 dX3_bestMark_23 rfl (lv_at hl 1 rfl) ?_
  refine sr_ald (k := cn) C0 hK rfl hP sr_wC17 (nI_clamp (by omega)) (vp_in_nI (by omega) (by omega)) dX3_bestMark_24 ?_
  refine sr_pVi (As := [.int (nI cn), .int (nI (sr_ru kp cn)), .int (nI (sr_ru kp (cn + 1))), .int (kp 4 cn)]) C0 hK hP hZ hZ0 (cc_X6_farthest ha cn (sr_ru kp cn) (sr_ru kp (cn + 1)) (kp 4 cn) hI (by first | omega | exact sr_th_at hT (by omega)) (by first | omega | exact sr_th_at hT (by omega)) (by omega) (by first | assumption | exact sr_IK_sl (sr_IC_K hI) (by omega) | exact sr_bs0 | exact sr_bsp (sr_IC_K hI) (by omega))) sk_X6_farthest sv_X6_farthest sw_458 (ci := 6) rfl sr_wC2 rfl rfl hl.1 (Nat.le_of_ble_eq_true rfl) (Nat.le_of_ble_eq_true rfl) (Nat.le_of_ble_eq_true rfl) dX3_bestMark_25 ⟨Nat.zero_le _, Nat.zero_le _⟩ ?_
  exact hret _ _ _ dX3_bestMark_28 rfl
set_option maxRecDepth 100000 in
set_option maxHeartbeats 4000000 in
theorem cc_X3_carried {l : Launch} {D : va_G} {cI cR : ClassId} {a : Nat → Nat} (ha : ∀ i j, i < 36 → j < 36 → a i = a j → i = j) {kp cx sg : sr_M} (us : Nat) (hI : sr_IC kp cx) (hT : sr_th kp) (hs_us : us < 4) : sr_P l D (sr_tC cI cR) (sr_ZC a) (sr_WC cI cR a kp cx sg) yX3_carried cX3_carried 4 (some .int) 4 99 [.ref (a 3), .int (nI us)] (some (.int (sr_ca kp us))) := by
  refine sr_Pie (by decide +kernel) (Nat.le_of_ble_eq_true rfl) (fun p e s m args below meth c ls Q B hret => ?_)
  obtain ⟨C0, hP, hK, hZ0, hl⟩ := B
  have hZ : sr_Zok (sr_AC a) (sr_ZC a) := sr_ZCok a
  have hS : va_S (sr_AC a) s.heap s.heap [] := va_S.rf
  have hl : lv_has ls 4 [(0, .ref (a 3)), (1, .int (nI us))] := hl
  refine lv_iload_n C0.1 C0.2.1 dX3_carried_0 rfl (lv_at hl 1 rfl) ?_
  have hJ23 : ∀ (k23_0 : Int32), k23_0 = (if (nI us) = 0 then 0 else (sr_mt kp (sr_ru kp (us - 1)) (sr_ru kp ((us - 1) + 1)) (us - 1) (kp 3 (us - 1)) (kp 4 (us - 1)))) → W p l e (sr_rm 4 99) s m args below meth c s.heap [] 0 0 Q (F0 m 23 ls [.int k23_0]) := by
    intro k23_0 e_k23_0
    subst e_k23_0
    refine sr_chi (sr_fr_e hs_us) ?_
    refine lv_istore_n (lv' := [(2, .int (sr_fr kp us)), (0, .ref (a 3)), (1, .int (nI us))]) C0.1 C0.2.1 dX3_carried_23 rfl hl (by decide) rfl (fun ls hl => ?_)
    refine lv_iload_n C0.1 C0.2.1 dX3_carried_24 rfl (lv_at hl 2 rfl) ?_
    refine lv_iconst (v := 3) C0.1 C0.2.1 dX3_carried_25 (by decide) ?_
    have hJ44 : ∀ (k44_0 : Int32), k44_0 = (if (nI us) = 3 then 0 else (sr_mt kp (sr_ru kp us) (sr_ru kp (us + 1)) us (kp 3 us) (kp 4 us))) → W p l e (sr_rm 4 99) s m args below meth c s.heap [] 0 0 Q (F0 m 44 ls [.int k44_0]) := by
      intro k44_0 e_k44_0
      subst e_k44_0
      refine sr_chi (sr_tt_e hs_us) ?_
      refine lv_istore_n (lv' := [(3, .int (sr_tt kp us)), (2, .int (sr_fr kp us)), (0, .ref (a 3)), (1, .int (nI us))]) C0.1 C0.2.1 dX3_carried_44 rfl hl (by decide) rfl (fun ls hl => ?_)
      refine lv_iload_n C0.1 C0.2.1 dX3_carried_45 rfl (lv_at hl 1 rfl) ?_
      refine lv_iconst (v := (-1)) C0.1 C0.2.1 dX3_carried_46 (by decide) ?_
      refine lv_icmp_eq (tgt := 55) C0.1 C0.2.1 dX3_carried_47 (by decide) (fun c47 => ?_) (fun c47 => ?_)
      · refine lv_iconst (v := (-1)) C0.1 C0.2.1 dX3_carried_55 (by decide) ?_
        refine lv_goto (tgt := 65) C0.1 C0.2.1 dX3_carried_56 (by decide) ?_
        exact hret _ _ _ dX3_carried_65 (by unfold sr_ca; rw [if_pos c47])
      · refine lv_iload_n C0.1 C0.2.1 dX3_carried_50 rfl (lv_at hl 0 rfl) ?_
        refine lv_iconst (v := (-1)) C0.1 C0.2.1 dX3_carried_51 (by decide) ?_
        refine lv_icmp_ne (tgt := 59) C0.1 C0.2.1 dX3_carried_52 (by decide) (fun c52 => ?_) (fun c52 => ?_)
        · refine lv_bipush (v := 100) C0.1 C0.2.1 dX3_carried_59 (by decide) ?_
          refine lv_iload_n C0.1 C0.2.1 dX3_carried_61 rfl (lv_at hl 0 rfl) ?_
          refine lv_iadd C0.1 C0.2.1 dX3_carried_62 ?_
          refine lv_iload_n C0.1 C0.2.1 dX3_carried_63 rfl (lv_at hl 1 rfl) ?_
          refine lv_isub C0.1 C0.2.1 dX3_carried_64 ?_
          exact hret _ _ _ dX3_carried_65 (by unfold sr_ca; rw [if_neg c47, if_neg c52])
        · refine lv_iconst (v := (-1)) C0.1 C0.2.1 dX3_carried_55 (by decide) ?_
          refine lv_goto (tgt := 65) C0.1 C0.2.1 dX3_carried_56 (by decide) ?_
          exact hret _ _ _ dX3_carried_65 (by unfold sr_ca; rw [if_neg c47, if_pos c52])
    refine lv_icmp_ne (tgt := 33) C0.1 C0.2.1 dX3_carried_26 (by decide) (fun c26 => ?_) (fun c26 => ?_)
    · have g26 : ¬ (us = 3) := fun q => c26 ((nI_eq (a := us) (b := 3) (by omega) (by omega)).mpr q)
      refine lv_aload_n C0.1 C0.2.1 dX3_carried_33 rfl (lv_at hl 1 rfl) ?_
      refine lv_iload_n C0.1 C0.2.1 dX3_carried_34 rfl (lv_at hl 2 rfl) ?_
      refine lv_aload_n C0.1 C0.2.1 dX3_carried_35 rfl (lv_at hl 1 rfl) ?_
      refine sr_get (v := .ref (a 17)) C0 hK hP sr_inX3 sr_wC3 rfl 4 (by decide) sw_95 rfl dX3_carried_36 ?_
      refine lv_iload_n C0.1 C0.2.1 dX3_carried_39 rfl (lv_at hl 2 rfl) ?_
      refine sr_ald (k := us) C0 hK rfl hP sr_wC17 (nI_clamp (by omega)) (vp_in_nI (by omega) (by omega)) dX3_carried_40 ?_
      refine sr_pVi (As := [.int (nI us), .int (kp 4 us)]) C0 hK hP hZ hZ0 (cc_X3_meeting ha us (kp 4 us) hI hT (by omega) (by first | assumption | exact sr_IK_sl (sr_IC_K hI) (by omega) | exact sr_bs0 | exact sr_bsp (sr_IC_K hI) (by omega))) sk_X3_meeting sv_X3_meeting sw_404 (ci := 3) rfl sr_wC3 rfl rfl hl.1 (Nat.le_of_ble_eq_true rfl) (Nat.le_of_ble_eq_true rfl) (Nat.le_of_ble_eq_true rfl) dX3_carried_41 ⟨Nat.zero_le _, Nat.zero_le _⟩ ?_
      exact hJ44 _ (by rw [if_neg c26])
    · have g26 : us = 3 := (nI_eq (a := us) (b := 3) (by omega) (by omega)).mp c26
      refine lv_iconst (v := 0) C0.1 C0.2.1 dX3_carried_29 (by decide) ?_
      refine lv_goto (tgt := 44) C0.1 C0.2.1 dX3_carried_30 (by decide) ?_
      exact hJ44 _ (by rw [if_pos c26])
  refine lv_if_ne (tgt := 8) C0.1 C0.2.1 dX3_carried_1 (by decide) (fun c1 => ?_) (fun c1 => ?_)
  · have g1 : ¬ (us = 0) := fun q => c1 ((nI_eq (a := us) (b := 0) (by omega) (by omega)).mpr q)
    refine lv_aload_n C0.1 C0.2.1 dX3_carried_8 rfl (lv_at hl 0 rfl) ?_
    refine lv_iload_n C0.1 C0.2.1 dX3_carried_9 rfl (lv_at hl 1 rfl) ?_
    refine lv_iconst (v := 1) C0.1 C0.2.1 dX3_carried_10 (by decide) ?_
    refine lv_isub C0.1 C0.2.1 dX3_carried_11 ?_
    refine sr_chi (pk_sub (a := us) (b := 1) (by omega)) ?_
    refine lv_aload_n C0.1 C0.2.1 dX3_carried_12 rfl (lv_at hl 0 rfl) ?_
    refine sr_get (v := .ref (a 17)) C0 hK hP sr_inX3 sr_wC3 rfl 4 (by decide) sw_95 rfl dX3_carried_13 ?_
    refine lv_iload_n C0.1 C0.2.1 dX3_carried_16 rfl (lv_at hl 1 rfl) ?_
    refine lv_iconst (v := 1) C0.1 C0.2.1 dX3_carried_17 (by decide) ?_
    refine lv_isub C0.1 C0.2.1 dX3_carried_18 ?_
    refine sr_chi (pk_sub (a := us) (b := 1) (by omega)) ?_
    refine sr_ald (k := us - 1) C0 hK rfl hP sr_wC17 (nI_clamp (by omega)) (vp_in_nI (by omega) (by omega)) dX3_carried_19 ?_
    refine sr_pVi (As := [.int (nI (us - 1)), .int (kp 4 (us - 1))]) C0 hK hP hZ hZ0 (cc_X3_meeting ha (us - 1) (kp 4 (us - 1)) hI hT (by omega) (by first | assumption | exact sr_IK_sl (sr_IC_K hI) (by omega) | exact sr_bs0 | exact sr_bsp (sr_IC_K hI) (by omega))) sk_X3_meeting sv_X3_meeting sw_404 (ci := 3) rfl sr_wC3 rfl rfl hl.1 (Nat.le_of_ble_eq_true rfl) (Nat.le_of_ble_eq_true rfl) (Nat.le_of_ble_eq_true rfl) dX3_carried_20 ⟨Nat.zero_le _, Nat.zero_le _⟩ ?_
    exact hJ23 _ (by rw [if_neg c1])
  · have g1 : us = 0 := (nI_eq (a := us) (b := 0) (by omega) (by omega)).mp c1
    refine lv_iconst (v := 0) C0.1 C0.2.1 dX3_carried_4 (by decide) ?_
    refine lv_goto (tgt := 23) C0.1 C0.2.1 dX3_carried_5 (by decide) ?_
    exact hJ23 _ (by rw [if_pos c1])
set_option maxRecDepth 100000 in
set_option maxHeartbeats 4000000 in
theorem cc_X3_timeBy {l : Launch} {D : va_G} {cI cR : ClassId} {a : Nat → Nat} (ha : ∀ i j, i < 36 → j < 36 → a i = a j → i = j) {kp cx sg : sr_M} (hI : sr_IC kp cx) (hT : sr_th kp) {q q0 : Nat} {f : Nat → Int32} (he : (sr_WC cI cR a kp cx sg)[q0]? = some (q, .inl (cI, 3, .inl f))) (hf : ∀ c, c < 3 → sr_bs (f c)) : sr_P l D (sr_tC cI cR) (sr_ZC a) (sr_WC cI cR a kp cx sg) yX3_timeBy cX3_timeBy 5 (some .int) 4 103 [.ref (a 3), .ref q] (some (.int (sr_ti kp f))) := by
  refine sr_Pie (by decide +kernel) (Nat.le_of_ble_eq_true rfl) (fun p e s m args below meth c ls Q B hret => ?_)
  obtain ⟨C0, hP, hK, hZ0, hl⟩ := B
  have hZ : sr_Zok (sr_AC a) (sr_ZC a) := sr_ZCok a
  have hS : va_S (sr_AC a) s.heap s.heap [] := va_S.rf
  have hl : lv_has ls 5 [(0, .ref (a 3)), (1, .ref q)] := hl
  refine lv_iconst (v := 0) C0.1 C0.2.1 dX3_timeBy_0 (by decide) ?_
  refine lv_istore_n (lv' := [(2, .int 0), (0, .ref (a 3)), (1, .ref q)]) C0.1 C0.2.1 dX3_timeBy_1 rfl hl (by decide) rfl (fun ls hl => ?_)
  refine lv_iconst (v := 0) C0.1 C0.2.1 dX3_timeBy_2 (by decide) ?_
  refine lv_istore_n (lv' := [(3, .int 0), (2, .int 0), (0, .ref (a 3)), (1, .ref q)]) C0.1 C0.2.1 dX3_timeBy_3 rfl hl (by decide) rfl (fun ls hl => ?_)
  refine lv_iload_n C0.1 C0.2.1 dX3_timeBy_4 rfl (lv_at hl 0 rfl) ?_
  refine lv_iconst (v := 3) C0.1 C0.2.1 dX3_timeBy_5 (by decide) ?_
  refine lv_icmp_ge (tgt := 61) C0.1 C0.2.1 dX3_timeBy_6 (by decide) (fun q => absurd q (by decide)) (fun _ => ?_)
  refine lv_aload_n C0.1 C0.2.1 dX3_timeBy_9 rfl (lv_at hl 2 rfl) ?_
  refine sr_get (v := .ref (a 2)) C0 hK hP sr_inX3 sr_wC3 rfl 1 (by decide) sw_88 rfl dX3_timeBy_10 ?_
  refine lv_iload_n C0.1 C0.2.1 dX3_timeBy_13 rfl (lv_at hl 0 rfl) ?_
  refine lv_aload_n C0.1 C0.2.1 dX3_timeBy_14 rfl (lv_at hl 2 rfl) ?_
  refine sr_get (v := .ref (a 15)) C0 hK hP sr_inX3 sr_wC3 rfl 2 (by decide) sw_89 rfl dX3_timeBy_15 ?_
  refine lv_iload_n C0.1 C0.2.1 dX3_timeBy_18 rfl (lv_at hl 0 rfl) ?_
  refine sr_ald (k := 0) C0 hK rfl hP sr_wC15 (by decide) (sr_inc (by decide)) dX3_timeBy_19 ?_
  refine sr_chi (sr_IK_ru (sr_IC_K hI) (by omega)) ?_
  have := sr_IK_ru5 (sr_IC_K hI) (s := 0) (by omega)
  refine lv_aload_n C0.1 C0.2.1 dX3_timeBy_20 rfl (lv_at hl 2 rfl) ?_
  refine sr_get (v := .ref (a 15)) C0 hK hP sr_inX3 sr_wC3 rfl 2 (by decide) sw_89 rfl dX3_timeBy_21 ?_
  refine lv_iload_n C0.1 C0.2.1 dX3_timeBy_24 rfl (lv_at hl 0 rfl) ?_
  refine lv_iconst (v := 1) C0.1 C0.2.1 dX3_timeBy_25 (by decide) ?_
  refine lv_iadd C0.1 C0.2.1 dX3_timeBy_26 ?_
  refine sr_chi (by decide : (0 + 1 : Int32) = 1) ?_
  refine sr_ald (k := 1) C0 hK rfl hP sr_wC15 (by decide) (sr_inc (by decide)) dX3_timeBy_27 ?_
  refine sr_chi (sr_IK_ru (sr_IC_K hI) (by omega)) ?_
  have := sr_IK_ru5 (sr_IC_K hI) (s := 1) (by omega)
  refine lv_aload_n C0.1 C0.2.1 dX3_timeBy_28 rfl (lv_at hl 2 rfl) ?_
  refine sr_get (v := .ref (a 16)) C0 hK hP sr_inX3 sr_wC3 rfl 3 (by decide) sw_92 rfl dX3_timeBy_29 ?_
  refine lv_iload_n C0.1 C0.2.1 dX3_timeBy_32 rfl (lv_at hl 0 rfl) ?_
  refine sr_ald (k := 0) C0 hK rfl hP sr_wC16 (by decide) (sr_inc (by decide)) dX3_timeBy_33 ?_
  refine lv_aload_n C0.1 C0.2.1 dX3_timeBy_34 rfl (lv_at hl 3 rfl) ?_
  refine lv_iload_n C0.1 C0.2.1 dX3_timeBy_35 rfl (lv_at hl 0 rfl) ?_
  refine sr_ald (k := 0) C0 hK rfl hP he (by decide) (sr_inc (by decide)) dX3_timeBy_36 ?_
  refine sr_pVi (As := [.int 0, .int (nI (sr_ru kp 0)), .int (nI (sr_ru kp 1)), .int (kp 3 0), .int (f 0)]) C0 hK hP hZ hZ0 (cc_X6_leg ha 0 (sr_ru kp 0) (sr_ru kp 1) (kp 3 0) (f 0) hI (by first | omega | exact sr_th_at hT (by omega)) (by first | omega | exact sr_th_at hT (by omega)) (by omega) (by first | assumption | exact sr_IK_mb (sr_IC_K hI) (by omega) | exact sr_b0n (by omega)) (hf _ (by omega))) sk_X6_leg sv_X6_leg sw_389 (ci := 6) rfl sr_wC2 rfl rfl hl.1 (Nat.le_of_ble_eq_true rfl) (Nat.le_of_ble_eq_true rfl) (Nat.le_of_ble_eq_true rfl) dX3_timeBy_37 ⟨Nat.zero_le _, Nat.zero_le _⟩ ?_
  refine lv_istore (lv' := [(4, .int (sr_leg kp (sr_ru kp 0) (sr_ru kp 1) 0 (kp 3 0) (f 0))), (3, .int 0), (2, .int 0), (0, .ref (a 3)), (1, .ref q)]) C0.1 C0.2.1 dX3_timeBy_40 hl (by decide) rfl (fun ls hl => ?_)
  refine lv_iload C0.1 C0.2.1 dX3_timeBy_42 (lv_at hl 0 rfl) ?_
  refine lv_iconst (v := (-1)) C0.1 C0.2.1 dX3_timeBy_44 (by decide) ?_
  refine lv_icmp_ne (tgt := 50) C0.1 C0.2.1 dX3_timeBy_45 (by decide) (fun c45 => ?_) (fun c45 => ?_)
  · refine lv_iload_n C0.1 C0.2.1 dX3_timeBy_50 rfl (lv_at hl 2 rfl) ?_
    refine lv_iload C0.1 C0.2.1 dX3_timeBy_51 (lv_at hl 0 rfl) ?_
    refine lv_iadd C0.1 C0.2.1 dX3_timeBy_53 ?_
    refine lv_istore_n (lv' := [(2, .int (0 + (sr_leg kp (sr_ru kp 0) (sr_ru kp 1) 0 (kp 3 0) (f 0)))), (4, .int (sr_leg kp (sr_ru kp 0) (sr_ru kp 1) 0 (kp 3 0) (f 0))), (3, .int 0), (0, .ref (a 3)), (1, .ref q)]) C0.1 C0.2.1 dX3_timeBy_54 rfl hl (by decide) rfl (fun ls hl => ?_)
    refine lv_iinc (v := 1) (lv' := [(3, .int 1), (2, .int (0 + (sr_leg kp (sr_ru kp 0) (sr_ru kp 1) 0 (kp 3 0) (f 0)))), (4, .int (sr_leg kp (sr_ru kp 0) (sr_ru kp 1) 0 (kp 3 0) (f 0))), (0, .ref (a 3)), (1, .ref q)]) C0.1 C0.2.1 dX3_timeBy_55 hl (k := 2) rfl (by decide) (by decide) rfl (fun ls hl => ?_)
    refine lv_goto (tgt := 4) C0.1 C0.2.1 dX3_timeBy_58 (by decide) ?_
    refine lv_iload_n C0.1 C0.2.1 dX3_timeBy_4 rfl (lv_at hl 0 rfl) ?_
    refine lv_iconst (v := 3) C0.1 C0.2.1 dX3_timeBy_5 (by decide) ?_
    refine lv_icmp_ge (tgt := 61) C0.1 C0.2.1 dX3_timeBy_6 (by decide) (fun q => absurd q (by decide)) (fun _ => ?_)
    refine lv_aload_n C0.1 C0.2.1 dX3_timeBy_9 rfl (lv_at hl 3 rfl) ?_
    refine sr_get (v := .ref (a 2)) C0 hK hP sr_inX3 sr_wC3 rfl 1 (by decide) sw_88 rfl dX3_timeBy_10 ?_
    refine lv_iload_n C0.1 C0.2.1 dX3_timeBy_13 rfl (lv_at hl 0 rfl) ?_
    refine lv_aload_n C0.1 C0.2.1 dX3_timeBy_14 rfl (lv_at hl 3 rfl) ?_
    refine sr_get (v := .ref (a 15)) C0 hK hP sr_inX3 sr_wC3 rfl 2 (by decide) sw_89 rfl dX3_timeBy_15 ?_
    refine lv_iload_n C0.1 C0.2.1 dX3_timeBy_18 rfl (lv_at hl 0 rfl) ?_
    refine sr_ald (k := 1) C0 hK rfl hP sr_wC15 (by decide) (sr_inc (by decide)) dX3_timeBy_19 ?_
    refine sr_chi (sr_IK_ru (sr_IC_K hI) (by omega)) ?_
    have := sr_IK_ru5 (sr_IC_K hI) (s := 1) (by omega)
    refine lv_aload_n C0.1 C0.2.1 dX3_timeBy_20 rfl (lv_at hl 3 rfl) ?_
    refine sr_get (v := .ref (a 15)) C0 hK hP sr_inX3 sr_wC3 rfl 2 (by decide) sw_89 rfl dX3_timeBy_21 ?_
    refine lv_iload_n C0.1 C0.2.1 dX3_timeBy_24 rfl (lv_at hl 0 rfl) ?_
    refine lv_iconst (v := 1) C0.1 C0.2.1 dX3_timeBy_25 (by decide) ?_
    refine lv_iadd C0.1 C0.2.1 dX3_timeBy_26 ?_
    refine sr_chi (by decide : (1 + 1 : Int32) = 2) ?_
    refine sr_ald (k := 2) C0 hK rfl hP sr_wC15 (by decide) (sr_inc (by decide)) dX3_timeBy_27 ?_
    refine sr_chi (sr_IK_ru (sr_IC_K hI) (by omega)) ?_
    have := sr_IK_ru5 (sr_IC_K hI) (s := 2) (by omega)
    refine lv_aload_n C0.1 C0.2.1 dX3_timeBy_28 rfl (lv_at hl 3 rfl) ?_
    refine sr_get (v := .ref (a 16)) C0 hK hP sr_inX3 sr_wC3 rfl 3 (by decide) sw_92 rfl dX3_timeBy_29 ?_
    refine lv_iload_n C0.1 C0.2.1 dX3_timeBy_32 rfl (lv_at hl 0 rfl) ?_
    refine sr_ald (k := 1) C0 hK rfl hP sr_wC16 (by decide) (sr_inc (by decide)) dX3_timeBy_33 ?_
    refine lv_aload_n C0.1 C0.2.1 dX3_timeBy_34 rfl (lv_at hl 4 rfl) ?_
    refine lv_iload_n C0.1 C0.2.1 dX3_timeBy_35 rfl (lv_at hl 0 rfl) ?_
    refine sr_ald (k := 1) C0 hK rfl hP he (by decide) (sr_inc (by decide)) dX3_timeBy_36 ?_
    refine sr_pVi (As := [.int 1, .int (nI (sr_ru kp 1)), .int (nI (sr_ru kp 2)), .int (kp 3 1), .int (f 1)]) C0 hK hP hZ hZ0 (cc_X6_leg ha 1 (sr_ru kp 1) (sr_ru kp 2) (kp 3 1) (f 1) hI (by first | omega | exact sr_th_at hT (by omega)) (by first | omega | exact sr_th_at hT (by omega)) (by omega) (by first | assumption | exact sr_IK_mb (sr_IC_K hI) (by omega) | exact sr_b0n (by omega)) (hf _ (by omega))) sk_X6_leg sv_X6_leg sw_389 (ci := 6) rfl sr_wC2 rfl rfl hl.1 (Nat.le_of_ble_eq_true rfl) (Nat.le_of_ble_eq_true rfl) (Nat.le_of_ble_eq_true rfl) dX3_timeBy_37 ⟨Nat.zero_le _, Nat.zero_le _⟩ ?_
    refine lv_istore (lv' := [(4, .int (sr_leg kp (sr_ru kp 1) (sr_ru kp 2) 1 (kp 3 1) (f 1))), (3, .int 1), (2, .int (0 + (sr_leg kp (sr_ru kp 0) (sr_ru kp 1) 0 (kp 3 0) (f 0)))), (0, .ref (a 3)), (1, .ref q)]) C0.1 C0.2.1 dX3_timeBy_40 hl (by decide) rfl (fun ls hl => ?_)
    refine lv_iload C0.1 C0.2.1 dX3_timeBy_42 (lv_at hl 0 rfl) ?_
    refine lv_iconst (v := (-1)) C0.1 C0.2.1 dX3_timeBy_44 (by decide) ?_
    refine lv_icmp_ne (tgt := 50) C0.1 C0.2.1 dX3_timeBy_45 (by decide) (fun c45_2 => ?_) (fun c45_2 => ?_)
    · refine lv_iload_n C0.1 C0.2.1 dX3_timeBy_50 rfl (lv_at hl 2 rfl) ?_
      refine lv_iload C0.1 C0.2.1 dX3_timeBy_51 (lv_at hl 0 rfl) ?_
      refine lv_iadd C0.1 C0.2.1 dX3_timeBy_53 ?_
      refine lv_istore_n (lv' := [(2, .int ((0 + (sr_leg kp (sr_ru kp 0) (sr_ru kp 1) 0 (kp 3 0) (f 0))) + (sr_leg kp (sr_ru kp 1) (sr_ru kp 2) 1 (kp 3 1) (f 1)))), (4, .int (sr_leg kp (sr_ru kp 1) (sr_ru kp 2) 1 (kp 3 1) (f 1))), (3, .int 1), (0, .ref (a 3)), (1, .ref q)]) C0.1 C0.2.1 dX3_timeBy_54 rfl hl (by decide) rfl (fun ls hl => ?_)
      refine lv_iinc (v := 2) (lv' := [(3, .int 2), (2, .int ((0 + (sr_leg kp (sr_ru kp 0) (sr_ru kp 1) 0 (kp 3 0) (f 0))) + (sr_leg kp (sr_ru kp 1) (sr_ru kp 2) 1 (kp 3 1) (f 1)))), (4, .int (sr_leg kp (sr_ru kp 1) (sr_ru kp 2) 1 (kp 3 1) (f 1))), (0, .ref (a 3)), (1, .ref q)]) C0.1 C0.2.1 dX3_timeBy_55 hl (k := 2) rfl (by decide) (by decide) rfl (fun ls hl => ?_)
      refine lv_goto (tgt := 4) C0.1 C0.2.1 dX3_timeBy_58 (by decide) ?_
      refine lv_iload_n C0.1 C0.2.1 dX3_timeBy_4 rfl (lv_at hl 0 rfl) ?_
      refine lv_iconst (v := 3) C0.1 C0.2.1 dX3_timeBy_5 (by decide) ?_
      refine lv_icmp_ge (tgt := 61) C0.1 C0.2.1 dX3_timeBy_6 (by decide) (fun q => absurd q (by decide)) (fun _ => ?_)
      refine lv_aload_n C0.1 C0.2.1 dX3_timeBy_9 rfl (lv_at hl 3 rfl) ?_
      refine sr_get (v := .ref (a 2)) C0 hK hP sr_inX3 sr_wC3 rfl 1 (by decide) sw_88 rfl dX3_timeBy_10 ?_
      refine lv_iload_n C0.1 C0.2.1 dX3_timeBy_13 rfl (lv_at hl 0 rfl) ?_
      refine lv_aload_n C0.1 C0.2.1 dX3_timeBy_14 rfl (lv_at hl 3 rfl) ?_
      refine sr_get (v := .ref (a 15)) C0 hK hP sr_inX3 sr_wC3 rfl 2 (by decide) sw_89 rfl dX3_timeBy_15 ?_
      refine lv_iload_n C0.1 C0.2.1 dX3_timeBy_18 rfl (lv_at hl 0 rfl) ?_
      refine sr_ald (k := 2) C0 hK rfl hP sr_wC15 (by decide) (sr_inc (by decide)) dX3_timeBy_19 ?_
      refine sr_chi (sr_IK_ru (sr_IC_K hI) (by omega)) ?_
      have := sr_IK_ru5 (sr_IC_K hI) (s := 2) (by omega)
      refine lv_aload_n C0.1 C0.2.1 dX3_timeBy_20 rfl (lv_at hl 3 rfl) ?_
      refine sr_get (v := .ref (a 15)) C0 hK hP sr_inX3 sr_wC3 rfl 2 (by decide) sw_89 rfl dX3_timeBy_21 ?_
      refine lv_iload_n C0.1 C0.2.1 dX3_timeBy_24 rfl (lv_at hl 0 rfl) ?_
      refine lv_iconst (v := 1) C0.1 C0.2.1 dX3_timeBy_25 (by decide) ?_
      refine lv_iadd C0.1 C0.2.1 dX3_timeBy_26 ?_
      refine sr_chi (by decide : (2 + 1 : Int32) = 3) ?_
      refine sr_ald (k := 3) C0 hK rfl hP sr_wC15 (by decide) (sr_inc (by decide)) dX3_timeBy_27 ?_
      refine sr_chi (sr_IK_ru (sr_IC_K hI) (by omega)) ?_
      have := sr_IK_ru5 (sr_IC_K hI) (s := 3) (by omega)
      refine lv_aload_n C0.1 C0.2.1 dX3_timeBy_28 rfl (lv_at hl 3 rfl) ?_
      refine sr_get (v := .ref (a 16)) C0 hK hP sr_inX3 sr_wC3 rfl 3 (by decide) sw_92 rfl dX3_timeBy_29 ?_
      refine lv_iload_n C0.1 C0.2.1 dX3_timeBy_32 rfl (lv_at hl 0 rfl) ?_
      refine sr_ald (k := 2) C0 hK rfl hP sr_wC16 (by decide) (sr_inc (by decide)) dX3_timeBy_33 ?_
      refine lv_aload_n C0.1 C0.2.1 dX3_timeBy_34 rfl (lv_at hl 4 rfl) ?_
      refine lv_iload_n C0.1 C0.2.1 dX3_timeBy_35 rfl (lv_at hl 0 rfl) ?_
      refine sr_ald (k := 2) C0 hK rfl hP he (by decide) (sr_inc (by decide)) dX3_timeBy_36 ?_
      refine sr_pVi (As := [.int 2, .int (nI (sr_ru kp 2)), .int (nI (sr_ru kp 3)), .int (kp 3 2), .int (f 2)]) C0 hK hP hZ hZ0 (cc_X6_leg ha 2 (sr_ru kp 2) (sr_ru kp 3) (kp 3 2) (f 2) hI (by first | omega | exact sr_th_at hT (by omega)) (by first | omega | exact sr_th_at hT (by omega)) (by omega) (by first | assumption | exact sr_IK_mb (sr_IC_K hI) (by omega) | exact sr_b0n (by omega)) (hf _ (by omega))) sk_X6_leg sv_X6_leg sw_389 (ci := 6) rfl sr_wC2 rfl rfl hl.1 (Nat.le_of_ble_eq_true rfl) (Nat.le_of_ble_eq_true rfl) (Nat.le_of_ble_eq_true rfl) dX3_timeBy_37 ⟨Nat.zero_le _, Nat.zero_le _⟩ ?_
      refine lv_istore (lv' := [(4, .int (sr_leg kp (sr_ru kp 2) (sr_ru kp 3) 2 (kp 3 2) (f 2))), (3, .int 2), (2, .int ((0 + (sr_leg kp (sr_ru kp 0) (sr_ru kp 1) 0 (kp 3 0) (f 0))) + (sr_leg kp (sr_ru kp 1) (sr_ru kp 2) 1 (kp 3 1) (f 1)))), (0, .ref (a 3)), (1, .ref q)]) C0.1 C0.2.1 dX3_timeBy_40 hl (by decide) rfl (fun ls hl => ?_)
      refine lv_iload C0.1 C0.2.1 dX3_timeBy_42 (lv_at hl 0 rfl) ?_
      refine lv_iconst (v := (-1)) C0.1 C0.2.1 dX3_timeBy_44 (by decide) ?_
      refine lv_icmp_ne (tgt := 50) C0.1 C0.2.1 dX3_timeBy_45 (by decide) (fun c45_3 => ?_) (fun c45_3 => ?_)
      · refine lv_iload_n C0.1 C0.2.1 dX3_timeBy_50 rfl (lv_at hl 2 rfl) ?_
        refine lv_iload C0.1 C0.2.1 dX3_timeBy_51 (lv_at hl 0 rfl) ?_
        refine lv_iadd C0.1 C0.2.1 dX3_timeBy_53 ?_
        refine lv_istore_n (lv' := [(2, .int (((0 + (sr_leg kp (sr_ru kp 0) (sr_ru kp 1) 0 (kp 3 0) (f 0))) + (sr_leg kp (sr_ru kp 1) (sr_ru kp 2) 1 (kp 3 1) (f 1))) + (sr_leg kp (sr_ru kp 2) (sr_ru kp 3) 2 (kp 3 2) (f 2)))), (4, .int (sr_leg kp (sr_ru kp 2) (sr_ru kp 3) 2 (kp 3 2) (f 2))), (3, .int 2), (0, .ref (a 3)), (1, .ref q)]) C0.1 C0.2.1 dX3_timeBy_54 rfl hl (by decide) rfl (fun ls hl => ?_)
        refine lv_iinc (v := 3) (lv' := [(3, .int 3), (2, .int (((0 + (sr_leg kp (sr_ru kp 0) (sr_ru kp 1) 0 (kp 3 0) (f 0))) + (sr_leg kp (sr_ru kp 1) (sr_ru kp 2) 1 (kp 3 1) (f 1))) + (sr_leg kp (sr_ru kp 2) (sr_ru kp 3) 2 (kp 3 2) (f 2)))), (4, .int (sr_leg kp (sr_ru kp 2) (sr_ru kp 3) 2 (kp 3 2) (f 2))), (0, .ref (a 3)), (1, .ref q)]) C0.1 C0.2.1 dX3_timeBy_55 hl (k := 2) rfl (by decide) (by decide) rfl (fun ls hl => ?_)
        refine lv_goto (tgt := 4) C0.1 C0.2.1 dX3_timeBy_58 (by decide) ?_
        refine lv_iload_n C0.1 C0.2.1 dX3_timeBy_4 rfl (lv_at hl 0 rfl) ?_
        refine lv_iconst (v := 3) C0.1 C0.2.1 dX3_timeBy_5 (by decide) ?_
        refine lv_icmp_ge (tgt := 61) C0.1 C0.2.1 dX3_timeBy_6 (by decide) (fun _ => ?_) (fun q => absurd q (by decide))
        refine lv_iload_n C0.1 C0.2.1 dX3_timeBy_61 rfl (lv_at hl 1 rfl) ?_
        refine lv_aload_n C0.1 C0.2.1 dX3_timeBy_62 rfl (lv_at hl 3 rfl) ?_
        refine sr_get (v := .ref (a 2)) C0 hK hP sr_inX3 sr_wC3 rfl 1 (by decide) sw_88 rfl dX3_timeBy_63 ?_
        refine lv_aload_n C0.1 C0.2.1 dX3_timeBy_66 rfl (lv_at hl 3 rfl) ?_
        refine sr_get (v := .ref (a 15)) C0 hK hP sr_inX3 sr_wC3 rfl 2 (by decide) sw_89 rfl dX3_timeBy_67 ?_
        refine lv_iconst (v := 3) C0.1 C0.2.1 dX3_timeBy_70 (by decide) ?_
        refine sr_ald (k := 3) C0 hK rfl hP sr_wC15 (by decide) (sr_inc (by decide)) dX3_timeBy_71 ?_
        refine sr_chi (sr_IK_ru (sr_IC_K hI) (by omega)) ?_
        have := sr_IK_ru5 (sr_IC_K hI) (s := 3) (by omega)
        refine lv_iconst (v := 3) C0.1 C0.2.1 dX3_timeBy_72 (by decide) ?_
        refine lv_bipush (v := 100) C0.1 C0.2.1 dX3_timeBy_73 (by decide) ?_
        refine sr_pVi (As := [.int (nI (sr_ru kp 3)), .int 3, .int 100]) C0 hK hP hZ hZ0 (cc_X6_span ha (sr_ru kp 3) 3 (100) hI (by first | omega | exact sr_th_at hT (by omega)) (by omega)) sk_X6_span sv_X6_span sw_395 (ci := 6) rfl sr_wC2 rfl rfl hl.1 (Nat.le_of_ble_eq_true rfl) (Nat.le_of_ble_eq_true rfl) (Nat.le_of_ble_eq_true rfl) dX3_timeBy_75 ⟨Nat.zero_le _, Nat.zero_le _⟩ ?_
        refine lv_iadd C0.1 C0.2.1 dX3_timeBy_78 ?_
        exact hret _ _ _ dX3_timeBy_79 (by unfold sr_ti; rw [if_neg (show ¬ sr_lg kp f 0 = -1 from c45), if_neg (show ¬ sr_lg kp f 1 = -1 from c45_2), if_neg (show ¬ sr_lg kp f 2 = -1 from c45_3)] <;> rfl)
      · refine lv_iconst (v := (-1)) C0.1 C0.2.1 dX3_timeBy_48 (by decide) ?_
        exact hret _ _ _ dX3_timeBy_49 (by unfold sr_ti; rw [if_neg (show ¬ sr_lg kp f 0 = -1 from c45), if_neg (show ¬ sr_lg kp f 1 = -1 from c45_2), if_pos (show sr_lg kp f 2 = -1 from c45_3)] <;> rfl)
    · refine lv_iconst (v := (-1)) C0.1 C0.2.1 dX3_timeBy_48 (by decide) ?_
      exact hret _ _ _ dX3_timeBy_49 (by unfold sr_ti; rw [if_neg (show ¬ sr_lg kp f 0 = -1 from c45), if_pos (show sr_lg kp f 1 = -1 from c45_2)] <;> rfl)
  · refine lv_iconst (v := (-1)) C0.1 C0.2.1 dX3_timeBy_48 (by decide) ?_
    exact hret _ _ _ dX3_timeBy_49 (by unfold sr_ti; rw [if_pos (show sr_lg kp f 0 = -1 from c45)] <;> rfl)
set_option maxRecDepth 100000 in
set_option maxHeartbeats 4000000 in
theorem cc_J6_bitCount_0f7a4 {l : Launch} {D : va_G} {cI cR : ClassId} {a : Nat → Nat} (ha : ∀ i j, i < 36 → j < 36 → a i = a j → i = j) {kp cx sg : sr_M} (x : Int32) : sr_P l D (sr_tC cI cR) (sr_ZC a) (sr_WC cI cR a kp cx sg) yJ6_bitCount_0f7a4 cJ6_bitCount_0f7a4 1 (some .int) 0 0 [.int x] (some (.int (sr_pop x))) := by
  refine sr_Pie (by decide +kernel) (Nat.le_of_ble_eq_true rfl) (fun p e s m args below meth c ls Q B hret => ?_)
  obtain ⟨C0, hP, hK, hZ0, hl⟩ := B
  have hZ : sr_Zok (sr_AC a) (sr_ZC a) := sr_ZCok a
  have hS : va_S (sr_AC a) s.heap s.heap [] := va_S.rf
  have hl : lv_has ls 1 [(0, .int x)] := hl
  refine lv_iload_n C0.1 C0.2.1 dJ6_bitCount_0f7a4_0 rfl (lv_at hl 0 rfl) ?_
  refine lv_iload_n C0.1 C0.2.1 dJ6_bitCount_0f7a4_1 rfl (lv_at hl 0 rfl) ?_
  refine lv_iconst (v := 1) C0.1 C0.2.1 dJ6_bitCount_0f7a4_2 (by decide) ?_
  refine lv_iushr C0.1 C0.2.1 dJ6_bitCount_0f7a4_3 rfl ?_
  refine lv_ldcw (v := 1431655765) C0.1 C0.2.1 C0.2.2.2.1 (C0.2.2.2.2 _ sw_482) dJ6_bitCount_0f7a4_4 ?_
  refine lv_iand C0.1 C0.2.1 dJ6_bitCount_0f7a4_7 ?_
  refine lv_isub C0.1 C0.2.1 dJ6_bitCount_0f7a4_8 ?_
  refine lv_istore_n (lv' := [(0, .int (x - ((((x : Int32).toUInt32 >>> ((1 : Int32).toUInt32 &&& Int32.toUInt32 31)).toInt32) &&& 1431655765)))]) C0.1 C0.2.1 dJ6_bitCount_0f7a4_9 rfl hl (by decide) rfl (fun ls hl => ?_)
  refine lv_iload_n C0.1 C0.2.1 dJ6_bitCount_0f7a4_10 rfl (lv_at hl 0 rfl) ?_
  refine lv_ldcw (v := 858993459) C0.1 C0.2.1 C0.2.2.2.1 (C0.2.2.2.2 _ sw_483) dJ6_bitCount_0f7a4_11 ?_
  refine lv_iand C0.1 C0.2.1 dJ6_bitCount_0f7a4_14 ?_
  refine lv_iload_n C0.1 C0.2.1 dJ6_bitCount_0f7a4_15 rfl (lv_at hl 0 rfl) ?_
  refine lv_iconst (v := 2) C0.1 C0.2.1 dJ6_bitCount_0f7a4_16 (by decide) ?_
  refine lv_iushr C0.1 C0.2.1 dJ6_bitCount_0f7a4_17 rfl ?_
  refine lv_ldcw (v := 858993459) C0.1 C0.2.1 C0.2.2.2.1 (C0.2.2.2.2 _ sw_483) dJ6_bitCount_0f7a4_18 ?_
  refine lv_iand C0.1 C0.2.1 dJ6_bitCount_0f7a4_21 ?_
  refine lv_iadd C0.1 C0.2.1 dJ6_bitCount_0f7a4_22 ?_
  refine lv_istore_n (lv' := [(0, .int (((x - ((((x : Int32).toUInt32 >>> ((1 : Int32).toUInt32 &&& Int32.toUInt32 31)).toInt32) &&& 1431655765)) &&& 858993459) + (((((x - ((((x : Int32).toUInt32 >>> ((1 : Int32).toUInt32 &&& Int32.toUInt32 31)).toInt32) &&& 1431655765)) : Int32).toUInt32 >>> ((2 : Int32).toUInt32 &&& Int32.toUInt32 31)).toInt32) &&& 858993459)))]) C0.1 C0.2.1 dJ6_bitCount_0f7a4_23 rfl hl (by decide) rfl (fun ls hl => ?_)
  refine lv_iload_n C0.1 C0.2.1 dJ6_bitCount_0f7a4_24 rfl (lv_at hl 0 rfl) ?_
  refine lv_iload_n C0.1 C0.2.1 dJ6_bitCount_0f7a4_25 rfl (lv_at hl 0 rfl) ?_
  refine lv_iconst (v := 4) C0.1 C0.2.1 dJ6_bitCount_0f7a4_26 (by decide) ?_
  refine lv_iushr C0.1 C0.2.1 dJ6_bitCount_0f7a4_27 rfl ?_
  refine lv_iadd C0.1 C0.2.1 dJ6_bitCount_0f7a4_28 ?_
  refine lv_ldcw (v := 252645135) C0.1 C0.2.1 C0.2.2.2.1 (C0.2.2.2.2 _ sw_484) dJ6_bitCount_0f7a4_29 ?_
  refine lv_iand C0.1 C0.2.1 dJ6_bitCount_0f7a4_32 ?_
  refine lv_istore_n (lv' := [(0, .int (((((x - ((((x : Int32).toUInt32 >>> ((1 : Int32).toUInt32 &&& Int32.toUInt32 31)).toInt32) &&& 1431655765)) &&& 858993459) + (((((x - ((((x : Int32).toUInt32 >>> ((1 : Int32).toUInt32 &&& Int32.toUInt32 31)).toInt32) &&& 1431655765)) : Int32).toUInt32 >>> ((2 : Int32).toUInt32 &&& Int32.toUInt32 31)).toInt32) &&& 858993459)) + ((((((x - ((((x : Int32).toUInt32 >>> ((1 : Int32).toUInt32 &&& Int32.toUInt32 31)).toInt32) &&& 1431655765)) &&& 858993459) + (((((x - ((((x : Int32).toUInt32 >>> ((1 : Int32).toUInt32 &&& Int32.toUInt32 31)).toInt32) &&& 1431655765)) : Int32).toUInt32 >>> ((2 : Int32).toUInt32 &&& Int32.toUInt32 31)).toInt32) &&& 858993459)) : Int32).toUInt32 >>> ((4 : Int32).toUInt32 &&& Int32.toUInt32 31)).toInt32)) &&& 252645135))]) C0.1 C0.2.1 dJ6_bitCount_0f7a4_33 rfl hl (by decide) rfl (fun ls hl => ?_)
  refine lv_iload_n C0.1 C0.2.1 dJ6_bitCount_0f7a4_34 rfl (lv_at hl 0 rfl) ?_
  refine lv_iload_n C0.1 C0.2.1 dJ6_bitCount_0f7a4_35 rfl (lv_at hl 0 rfl) ?_
  refine lv_bipush (v := 8) C0.1 C0.2.1 dJ6_bitCount_0f7a4_36 (by decide) ?_
  refine lv_iushr C0.1 C0.2.1 dJ6_bitCount_0f7a4_38 rfl ?_
  refine lv_iadd C0.1 C0.2.1 dJ6_bitCount_0f7a4_39 ?_
  refine lv_istore_n (lv' := [(0, .int ((((((x - ((((x : Int32).toUInt32 >>> ((1 : Int32).toUInt32 &&& Int32.toUInt32 31)).toInt32) &&& 1431655765)) &&& 858993459) + (((((x - ((((x : Int32).toUInt32 >>> ((1 : Int32).toUInt32 &&& Int32.toUInt32 31)).toInt32) &&& 1431655765)) : Int32).toUInt32 >>> ((2 : Int32).toUInt32 &&& Int32.toUInt32 31)).toInt32) &&& 858993459)) + ((((((x - ((((x : Int32).toUInt32 >>> ((1 : Int32).toUInt32 &&& Int32.toUInt32 31)).toInt32) &&& 1431655765)) &&& 858993459) + (((((x - ((((x : Int32).toUInt32 >>> ((1 : Int32).toUInt32 &&& Int32.toUInt32 31)).toInt32) &&& 1431655765)) : Int32).toUInt32 >>> ((2 : Int32).toUInt32 &&& Int32.toUInt32 31)).toInt32) &&& 858993459)) : Int32).toUInt32 >>> ((4 : Int32).toUInt32 &&& Int32.toUInt32 31)).toInt32)) &&& 252645135) + ((((((((x - ((((x : Int32).toUInt32 >>> ((1 : Int32).toUInt32 &&& Int32.toUInt32 31)).toInt32) &&& 1431655765)) &&& 858993459) + (((((x - ((((x : Int32).toUInt32 >>> ((1 : Int32).toUInt32 &&& Int32.toUInt32 31)).toInt32) &&& 1431655765)) : Int32).toUInt32 >>> ((2 : Int32).toUInt32 &&& Int32.toUInt32 31)).toInt32) &&& 858993459)) + ((((((x - ((((x : Int32).toUInt32 >>> ((1 : Int32).toUInt32 &&& Int32.toUInt32 31)).toInt32) &&& 1431655765)) &&& 858993459) + (((((x - ((((x : Int32).toUInt32 >>> ((1 : Int32).toUInt32 &&& Int32.toUInt32 31)).toInt32) &&& 1431655765)) : Int32).toUInt32 >>> ((2 : Int32).toUInt32 &&& Int32.toUInt32 31)).toInt32) &&& 858993459)) : Int32).toUInt32 >>> ((4 : Int32).toUInt32 &&& Int32.toUInt32 31)).toInt32)) &&& 252645135) : Int32).toUInt32 >>> ((8 : Int32).toUInt32 &&& Int32.toUInt32 31)).toInt32)))]) C0.1 C0.2.1 dJ6_bitCount_0f7a4_40 rfl hl (by decide) rfl (fun ls hl => ?_)
  refine lv_iload_n C0.1 C0.2.1 dJ6_bitCount_0f7a4_41 rfl (lv_at hl 0 rfl) ?_
  refine lv_iload_n C0.1 C0.2.1 dJ6_bitCount_0f7a4_42 rfl (lv_at hl 0 rfl) ?_
  refine lv_bipush (v := 16) C0.1 C0.2.1 dJ6_bitCount_0f7a4_43 (by decide) ?_
  refine lv_iushr C0.1 C0.2.1 dJ6_bitCount_0f7a4_45 rfl ?_
  refine lv_iadd C0.1 C0.2.1 dJ6_bitCount_0f7a4_46 ?_
  refine lv_istore_n (lv' := [(0, .int (((((((x - ((((x : Int32).toUInt32 >>> ((1 : Int32).toUInt32 &&& Int32.toUInt32 31)).toInt32) &&& 1431655765)) &&& 858993459) + (((((x - ((((x : Int32).toUInt32 >>> ((1 : Int32).toUInt32 &&& Int32.toUInt32 31)).toInt32) &&& 1431655765)) : Int32).toUInt32 >>> ((2 : Int32).toUInt32 &&& Int32.toUInt32 31)).toInt32) &&& 858993459)) + ((((((x - ((((x : Int32).toUInt32 >>> ((1 : Int32).toUInt32 &&& Int32.toUInt32 31)).toInt32) &&& 1431655765)) &&& 858993459) + (((((x - ((((x : Int32).toUInt32 >>> ((1 : Int32).toUInt32 &&& Int32.toUInt32 31)).toInt32) &&& 1431655765)) : Int32).toUInt32 >>> ((2 : Int32).toUInt32 &&& Int32.toUInt32 31)).toInt32) &&& 858993459)) : Int32).toUInt32 >>> ((4 : Int32).toUInt32 &&& Int32.toUInt32 31)).toInt32)) &&& 252645135) + ((((((((x - ((((x : Int32).toUInt32 >>> ((1 : Int32).toUInt32 &&& Int32.toUInt32 31)).toInt32) &&& 1431655765)) &&& 858993459) + (((((x - ((((x : Int32).toUInt32 >>> ((1 : Int32).toUInt32 &&& Int32.toUInt32 31)).toInt32) &&& 1431655765)) : Int32).toUInt32 >>> ((2 : Int32).toUInt32 &&& Int32.toUInt32 31)).toInt32) &&& 858993459)) + ((((((x - ((((x : Int32).toUInt32 >>> ((1 : Int32).toUInt32 &&& Int32.toUInt32 31)).toInt32) &&& 1431655765)) &&& 858993459) + (((((x - ((((x : Int32).toUInt32 >>> ((1 : Int32).toUInt32 &&& Int32.toUInt32 31)).toInt32) &&& 1431655765)) : Int32).toUInt32 >>> ((2 : Int32).toUInt32 &&& Int32.toUInt32 31)).toInt32) &&& 858993459)) : Int32).toUInt32 >>> ((4 : Int32).toUInt32 &&& Int32.toUInt32 31)).toInt32)) &&& 252645135) : Int32).toUInt32 >>> ((8 : Int32).toUInt32 &&& Int32.toUInt32 31)).toInt32)) + (((((((((x - ((((x : Int32).toUInt32 >>> ((1 : Int32).toUInt32 &&& Int32.toUInt32 31)).toInt32) &&& 1431655765)) &&& 858993459) + (((((x - ((((x : Int32).toUInt32 >>> ((1 : Int32).toUInt32 &&& Int32.toUInt32 31)).toInt32) &&& 1431655765)) : Int32).toUInt32 >>> ((2 : Int32).toUInt32 &&& Int32.toUInt32 31)).toInt32) &&& 858993459)) + ((((((x - ((((x : Int32).toUInt32 >>> ((1 : Int32).toUInt32 &&& Int32.toUInt32 31)).toInt32) &&& 1431655765)) &&& 858993459) + (((((x - ((((x : Int32).toUInt32 >>> ((1 : Int32).toUInt32 &&& Int32.toUInt32 31)).toInt32) &&& 1431655765)) : Int32).toUInt32 >>> ((2 : Int32).toUInt32 &&& Int32.toUInt32 31)).toInt32) &&& 858993459)) : Int32).toUInt32 >>> ((4 : Int32).toUInt32 &&& Int32.toUInt32 31)).toInt32)) &&& 252645135) + ((((((((x - ((((x : Int32).toUInt32 >>> ((1 : Int32).toUInt32 &&& Int32.toUInt32 31)).toInt32) &&& 1431655765)) &&& 858993459) + (((((x - ((((x : Int32).toUInt32 >>> ((1 : Int32).toUInt32 &&& Int32.toUInt32 31)).toInt32) &&& 1431655765)) : Int32).toUInt32 >>> ((2 : Int32).toUInt32 &&& Int32.toUInt32 31)).toInt32) &&& 858993459)) + ((((((x - ((((x : Int32).toUInt32 >>> ((1 : Int32).toUInt32 &&& Int32.toUInt32 31)).toInt32) &&& 1431655765)) &&& 858993459) + (((((x - ((((x : Int32).toUInt32 >>> ((1 : Int32).toUInt32 &&& Int32.toUInt32 31)).toInt32) &&& 1431655765)) : Int32).toUInt32 >>> ((2 : Int32).toUInt32 &&& Int32.toUInt32 31)).toInt32) &&& 858993459)) : Int32).toUInt32 >>> ((4 : Int32).toUInt32 &&& Int32.toUInt32 31)).toInt32)) &&& 252645135) : Int32).toUInt32 >>> ((8 : Int32).toUInt32 &&& Int32.toUInt32 31)).toInt32)) : Int32).toUInt32 >>> ((16 : Int32).toUInt32 &&& Int32.toUInt32 31)).toInt32)))]) C0.1 C0.2.1 dJ6_bitCount_0f7a4_47 rfl hl (by decide) rfl (fun ls hl => ?_)
  refine lv_iload_n C0.1 C0.2.1 dJ6_bitCount_0f7a4_48 rfl (lv_at hl 0 rfl) ?_
  refine lv_bipush (v := 63) C0.1 C0.2.1 dJ6_bitCount_0f7a4_49 (by decide) ?_
  refine lv_iand C0.1 C0.2.1 dJ6_bitCount_0f7a4_51 ?_
  exact hret _ _ _ dJ6_bitCount_0f7a4_52 rfl
set_option maxRecDepth 100000 in
set_option maxHeartbeats 4000000 in
theorem cc_X3_unlikeOnes {l : Launch} {D : va_G} {cI cR : ClassId} {a : Nat → Nat} (ha : ∀ i j, i < 36 → j < 36 → a i = a j → i = j) {kp cx sg : sr_M} (hI : sr_IC kp cx) : sr_P l D (sr_tC cI cR) (sr_ZC a) (sr_WC cI cR a kp cx sg) yX3_unlikeOnes cX3_unlikeOnes 6 (some .int) 1 20 [.ref (a 3)] (some (.int (sr_pop (sr_bits kp)))) := by
  refine sr_Pie (by decide +kernel) (Nat.le_of_ble_eq_true rfl) (fun p e s m args below meth c ls Q B hret => ?_)
  obtain ⟨C0, hP, hK, hZ0, hl⟩ := B
  have hZ : sr_Zok (sr_AC a) (sr_ZC a) := sr_ZCok a
  have hS : va_S (sr_AC a) s.heap s.heap [] := va_S.rf
  have hl : lv_has ls 6 [(0, .ref (a 3))] := hl
  refine lv_iconst (v := 0) C0.1 C0.2.1 dX3_unlikeOnes_0 (by decide) ?_
  refine lv_istore_n (lv' := [(1, .int 0), (0, .ref (a 3))]) C0.1 C0.2.1 dX3_unlikeOnes_1 rfl hl (by decide) rfl (fun ls hl => ?_)
  refine lv_aload_n C0.1 C0.2.1 dX3_unlikeOnes_2 rfl (lv_at hl 1 rfl) ?_
  refine sr_get (v := .ref (a 15)) C0 hK hP sr_inX3 sr_wC3 rfl 2 (by decide) sw_89 rfl dX3_unlikeOnes_3 ?_
  refine lv_astore_n (lv' := [(2, .ref (a 15)), (1, .int 0), (0, .ref (a 3))]) C0.1 C0.2.1 dX3_unlikeOnes_6 rfl hl (by decide) rfl (fun ls hl => ?_)
  refine lv_aload_n C0.1 C0.2.1 dX3_unlikeOnes_7 rfl (lv_at hl 0 rfl) ?_
  refine va_alen (v := 4) C0.1 C0.2.1 hK hP 15 0 sr_wC15 rfl rfl dX3_unlikeOnes_8 ?_
  refine lv_istore_n (lv' := [(3, .int 4), (2, .ref (a 15)), (1, .int 0), (0, .ref (a 3))]) C0.1 C0.2.1 dX3_unlikeOnes_9 rfl hl (by decide) rfl (fun ls hl => ?_)
  refine lv_iconst (v := 0) C0.1 C0.2.1 dX3_unlikeOnes_10 (by decide) ?_
  refine lv_istore (lv' := [(4, .int 0), (3, .int 4), (2, .ref (a 15)), (1, .int 0), (0, .ref (a 3))]) C0.1 C0.2.1 dX3_unlikeOnes_11 hl (by decide) rfl (fun ls hl => ?_)
  refine lv_iload C0.1 C0.2.1 dX3_unlikeOnes_13 (lv_at hl 0 rfl) ?_
  refine lv_iload_n C0.1 C0.2.1 dX3_unlikeOnes_15 rfl (lv_at hl 1 rfl) ?_
  refine lv_icmp_ge (tgt := 38) C0.1 C0.2.1 dX3_unlikeOnes_16 (by decide) (fun q => absurd q (by decide)) (fun _ => ?_)
  refine lv_aload_n C0.1 C0.2.1 dX3_unlikeOnes_19 rfl (lv_at hl 2 rfl) ?_
  refine lv_iload C0.1 C0.2.1 dX3_unlikeOnes_20 (lv_at hl 0 rfl) ?_
  refine sr_ald (k := 0) C0 hK rfl hP sr_wC15 (by decide) (sr_inc (by decide)) dX3_unlikeOnes_22 ?_
  refine sr_chi (sr_IK_ru (sr_IC_K hI) (by omega)) ?_
  have := sr_IK_ru5 (sr_IC_K hI) (s := 0) (by omega)
  refine lv_istore (lv' := [(5, .int (nI (sr_ru kp 0))), (4, .int 0), (3, .int 4), (2, .ref (a 15)), (1, .int 0), (0, .ref (a 3))]) C0.1 C0.2.1 dX3_unlikeOnes_23 hl (by decide) rfl (fun ls hl => ?_)
  refine lv_iload_n C0.1 C0.2.1 dX3_unlikeOnes_25 rfl (lv_at hl 4 rfl) ?_
  refine lv_iconst (v := 1) C0.1 C0.2.1 dX3_unlikeOnes_26 (by decide) ?_
  refine lv_iload C0.1 C0.2.1 dX3_unlikeOnes_27 (lv_at hl 0 rfl) ?_
  refine lv_ishl C0.1 C0.2.1 dX3_unlikeOnes_29 ?_
  refine lv_ior C0.1 C0.2.1 dX3_unlikeOnes_30 ?_
  refine lv_istore_n (lv' := [(1, .int (0 ||| ((1 : Int32) <<< (((nI (sr_ru kp 0)) : Int32) &&& 31)))), (5, .int (nI (sr_ru kp 0))), (4, .int 0), (3, .int 4), (2, .ref (a 15)), (0, .ref (a 3))]) C0.1 C0.2.1 dX3_unlikeOnes_31 rfl hl (by decide) rfl (fun ls hl => ?_)
  refine lv_iinc (v := 1) (lv' := [(4, .int 1), (1, .int (0 ||| ((1 : Int32) <<< (((nI (sr_ru kp 0)) : Int32) &&& 31)))), (5, .int (nI (sr_ru kp 0))), (3, .int 4), (2, .ref (a 15)), (0, .ref (a 3))]) C0.1 C0.2.1 dX3_unlikeOnes_32 hl (k := 2) rfl (by decide) (by decide) rfl (fun ls hl => ?_)
  refine lv_goto (tgt := 13) C0.1 C0.2.1 dX3_unlikeOnes_35 (by decide) ?_
  refine lv_iload C0.1 C0.2.1 dX3_unlikeOnes_13 (lv_at hl 0 rfl) ?_
  refine lv_iload_n C0.1 C0.2.1 dX3_unlikeOnes_15 rfl (lv_at hl 3 rfl) ?_
  refine lv_icmp_ge (tgt := 38) C0.1 C0.2.1 dX3_unlikeOnes_16 (by decide) (fun q => absurd q (by decide)) (fun _ => ?_)
  refine lv_aload_n C0.1 C0.2.1 dX3_unlikeOnes_19 rfl (lv_at hl 4 rfl) ?_
  refine lv_iload C0.1 C0.2.1 dX3_unlikeOnes_20 (lv_at hl 0 rfl) ?_
  refine sr_ald (k := 1) C0 hK rfl hP sr_wC15 (by decide) (sr_inc (by decide)) dX3_unlikeOnes_22 ?_
  refine sr_chi (sr_IK_ru (sr_IC_K hI) (by omega)) ?_
  have := sr_IK_ru5 (sr_IC_K hI) (s := 1) (by omega)
  refine lv_istore (lv' := [(5, .int (nI (sr_ru kp 1))), (4, .int 1), (1, .int (0 ||| ((1 : Int32) <<< (((nI (sr_ru kp 0)) : Int32) &&& 31)))), (3, .int 4), (2, .ref (a 15)), (0, .ref (a 3))]) C0.1 C0.2.1 dX3_unlikeOnes_23 hl (by decide) rfl (fun ls hl => ?_)
  refine lv_iload_n C0.1 C0.2.1 dX3_unlikeOnes_25 rfl (lv_at hl 2 rfl) ?_
  refine lv_iconst (v := 1) C0.1 C0.2.1 dX3_unlikeOnes_26 (by decide) ?_
  refine lv_iload C0.1 C0.2.1 dX3_unlikeOnes_27 (lv_at hl 0 rfl) ?_
  refine lv_ishl C0.1 C0.2.1 dX3_unlikeOnes_29 ?_
  refine lv_ior C0.1 C0.2.1 dX3_unlikeOnes_30 ?_
  refine lv_istore_n (lv' := [(1, .int ((0 ||| ((1 : Int32) <<< (((nI (sr_ru kp 0)) : Int32) &&& 31))) ||| ((1 : Int32) <<< (((nI (sr_ru kp 1)) : Int32) &&& 31)))), (5, .int (nI (sr_ru kp 1))), (4, .int 1), (3, .int 4), (2, .ref (a 15)), (0, .ref (a 3))]) C0.1 C0.2.1 dX3_unlikeOnes_31 rfl hl (by decide) rfl (fun ls hl => ?_)
  refine lv_iinc (v := 2) (lv' := [(4, .int 2), (1, .int ((0 ||| ((1 : Int32) <<< (((nI (sr_ru kp 0)) : Int32) &&& 31))) ||| ((1 : Int32) <<< (((nI (sr_ru kp 1)) : Int32) &&& 31)))), (5, .int (nI (sr_ru kp 1))), (3, .int 4), (2, .ref (a 15)), (0, .ref (a 3))]) C0.1 C0.2.1 dX3_unlikeOnes_32 hl (k := 2) rfl (by decide) (by decide) rfl (fun ls hl => ?_)
  refine lv_goto (tgt := 13) C0.1 C0.2.1 dX3_unlikeOnes_35 (by decide) ?_
  refine lv_iload C0.1 C0.2.1 dX3_unlikeOnes_13 (lv_at hl 0 rfl) ?_
  refine lv_iload_n C0.1 C0.2.1 dX3_unlikeOnes_15 rfl (lv_at hl 3 rfl) ?_
  refine lv_icmp_ge (tgt := 38) C0.1 C0.2.1 dX3_unlikeOnes_16 (by decide) (fun q => absurd q (by decide)) (fun _ => ?_)
  refine lv_aload_n C0.1 C0.2.1 dX3_unlikeOnes_19 rfl (lv_at hl 4 rfl) ?_
  refine lv_iload C0.1 C0.2.1 dX3_unlikeOnes_20 (lv_at hl 0 rfl) ?_
  refine sr_ald (k := 2) C0 hK rfl hP sr_wC15 (by decide) (sr_inc (by decide)) dX3_unlikeOnes_22 ?_
  refine sr_chi (sr_IK_ru (sr_IC_K hI) (by omega)) ?_
  have := sr_IK_ru5 (sr_IC_K hI) (s := 2) (by omega)
  refine lv_istore (lv' := [(5, .int (nI (sr_ru kp 2))), (4, .int 2), (1, .int ((0 ||| ((1 : Int32) <<< (((nI (sr_ru kp 0)) : Int32) &&& 31))) ||| ((1 : Int32) <<< (((nI (sr_ru kp 1)) : Int32) &&& 31)))), (3, .int 4), (2, .ref (a 15)), (0, .ref (a 3))]) C0.1 C0.2.1 dX3_unlikeOnes_23 hl (by decide) rfl (fun ls hl => ?_)
  refine lv_iload_n C0.1 C0.2.1 dX3_unlikeOnes_25 rfl (lv_at hl 2 rfl) ?_
  refine lv_iconst (v := 1) C0.1 C0.2.1 dX3_unlikeOnes_26 (by decide) ?_
  refine lv_iload C0.1 C0.2.1 dX3_unlikeOnes_27 (lv_at hl 0 rfl) ?_
  refine lv_ishl C0.1 C0.2.1 dX3_unlikeOnes_29 ?_
  refine lv_ior C0.1 C0.2.1 dX3_unlikeOnes_30 ?_
  refine lv_istore_n (lv' := [(1, .int (((0 ||| ((1 : Int32) <<< (((nI (sr_ru kp 0)) : Int32) &&& 31))) ||| ((1 : Int32) <<< (((nI (sr_ru kp 1)) : Int32) &&& 31))) ||| ((1 : Int32) <<< (((nI (sr_ru kp 2)) : Int32) &&& 31)))), (5, .int (nI (sr_ru kp 2))), (4, .int 2), (3, .int 4), (2, .ref (a 15)), (0, .ref (a 3))]) C0.1 C0.2.1 dX3_unlikeOnes_31 rfl hl (by decide) rfl (fun ls hl => ?_)
  refine lv_iinc (v := 3) (lv' := [(4, .int 3), (1, .int (((0 ||| ((1 : Int32) <<< (((nI (sr_ru kp 0)) : Int32) &&& 31))) ||| ((1 : Int32) <<< (((nI (sr_ru kp 1)) : Int32) &&& 31))) ||| ((1 : Int32) <<< (((nI (sr_ru kp 2)) : Int32) &&& 31)))), (5, .int (nI (sr_ru kp 2))), (3, .int 4), (2, .ref (a 15)), (0, .ref (a 3))]) C0.1 C0.2.1 dX3_unlikeOnes_32 hl (k := 2) rfl (by decide) (by decide) rfl (fun ls hl => ?_)
  refine lv_goto (tgt := 13) C0.1 C0.2.1 dX3_unlikeOnes_35 (by decide) ?_
  refine lv_iload C0.1 C0.2.1 dX3_unlikeOnes_13 (lv_at hl 0 rfl) ?_
  refine lv_iload_n C0.1 C0.2.1 dX3_unlikeOnes_15 rfl (lv_at hl 3 rfl) ?_
  refine lv_icmp_ge (tgt := 38) C0.1 C0.2.1 dX3_unlikeOnes_16 (by decide) (fun q => absurd q (by decide)) (fun _ => ?_)
  refine lv_aload_n C0.1 C0.2.1 dX3_unlikeOnes_19 rfl (lv_at hl 4 rfl) ?_
  refine lv_iload C0.1 C0.2.1 dX3_unlikeOnes_20 (lv_at hl 0 rfl) ?_
  refine sr_ald (k := 3) C0 hK rfl hP sr_wC15 (by decide) (sr_inc (by decide)) dX3_unlikeOnes_22 ?_
  refine sr_chi (sr_IK_ru (sr_IC_K hI) (by omega)) ?_
  have := sr_IK_ru5 (sr_IC_K hI) (s := 3) (by omega)
  refine lv_istore (lv' := [(5, .int (nI (sr_ru kp 3))), (4, .int 3), (1, .int (((0 ||| ((1 : Int32) <<< (((nI (sr_ru kp 0)) : Int32) &&& 31))) ||| ((1 : Int32) <<< (((nI (sr_ru kp 1)) : Int32) &&& 31))) ||| ((1 : Int32) <<< (((nI (sr_ru kp 2)) : Int32) &&& 31)))), (3, .int 4), (2, .ref (a 15)), (0, .ref (a 3))]) C0.1 C0.2.1 dX3_unlikeOnes_23 hl (by decide) rfl (fun ls hl => ?_)
  refine lv_iload_n C0.1 C0.2.1 dX3_unlikeOnes_25 rfl (lv_at hl 2 rfl) ?_
  refine lv_iconst (v := 1) C0.1 C0.2.1 dX3_unlikeOnes_26 (by decide) ?_
  refine lv_iload C0.1 C0.2.1 dX3_unlikeOnes_27 (lv_at hl 0 rfl) ?_
  refine lv_ishl C0.1 C0.2.1 dX3_unlikeOnes_29 ?_
  refine lv_ior C0.1 C0.2.1 dX3_unlikeOnes_30 ?_
  refine lv_istore_n (lv' := [(1, .int ((((0 ||| ((1 : Int32) <<< (((nI (sr_ru kp 0)) : Int32) &&& 31))) ||| ((1 : Int32) <<< (((nI (sr_ru kp 1)) : Int32) &&& 31))) ||| ((1 : Int32) <<< (((nI (sr_ru kp 2)) : Int32) &&& 31))) ||| ((1 : Int32) <<< (((nI (sr_ru kp 3)) : Int32) &&& 31)))), (5, .int (nI (sr_ru kp 3))), (4, .int 3), (3, .int 4), (2, .ref (a 15)), (0, .ref (a 3))]) C0.1 C0.2.1 dX3_unlikeOnes_31 rfl hl (by decide) rfl (fun ls hl => ?_)
  refine lv_iinc (v := 4) (lv' := [(4, .int 4), (1, .int ((((0 ||| ((1 : Int32) <<< (((nI (sr_ru kp 0)) : Int32) &&& 31))) ||| ((1 : Int32) <<< (((nI (sr_ru kp 1)) : Int32) &&& 31))) ||| ((1 : Int32) <<< (((nI (sr_ru kp 2)) : Int32) &&& 31))) ||| ((1 : Int32) <<< (((nI (sr_ru kp 3)) : Int32) &&& 31)))), (5, .int (nI (sr_ru kp 3))), (3, .int 4), (2, .ref (a 15)), (0, .ref (a 3))]) C0.1 C0.2.1 dX3_unlikeOnes_32 hl (k := 2) rfl (by decide) (by decide) rfl (fun ls hl => ?_)
  refine lv_goto (tgt := 13) C0.1 C0.2.1 dX3_unlikeOnes_35 (by decide) ?_
  refine lv_iload C0.1 C0.2.1 dX3_unlikeOnes_13 (lv_at hl 0 rfl) ?_
  refine lv_iload_n C0.1 C0.2.1 dX3_unlikeOnes_15 rfl (lv_at hl 3 rfl) ?_
  refine lv_icmp_ge (tgt := 38) C0.1 C0.2.1 dX3_unlikeOnes_16 (by decide) (fun _ => ?_) (fun q => absurd q (by decide))
  refine lv_iload_n C0.1 C0.2.1 dX3_unlikeOnes_38 rfl (lv_at hl 1 rfl) ?_
  refine sr_pSi (As := [.int ((((0 ||| ((1 : Int32) <<< (((nI (sr_ru kp 0)) : Int32) &&& 31))) ||| ((1 : Int32) <<< (((nI (sr_ru kp 1)) : Int32) &&& 31))) ||| ((1 : Int32) <<< (((nI (sr_ru kp 2)) : Int32) &&& 31))) ||| ((1 : Int32) <<< (((nI (sr_ru kp 3)) : Int32) &&& 31)))]) C0 hK hP hZ hZ0 (cc_J6_bitCount_0f7a4 ha ((((0 ||| ((1 : Int32) <<< (((nI (sr_ru kp 0)) : Int32) &&& 31))) ||| ((1 : Int32) <<< (((nI (sr_ru kp 1)) : Int32) &&& 31))) ||| ((1 : Int32) <<< (((nI (sr_ru kp 2)) : Int32) &&& 31))) ||| ((1 : Int32) <<< (((nI (sr_ru kp 3)) : Int32) &&& 31)))) sk_J6_bitCount_0f7a4 (ss_J6_bitCount_0f7a4) sw_581 rfl rfl hl.1 (Nat.le_of_ble_eq_true rfl) (Nat.le_of_ble_eq_true rfl) (Nat.le_of_ble_eq_true rfl) dX3_unlikeOnes_39 ⟨Nat.zero_le _, Nat.zero_le _⟩ ?_
  exact hret _ _ _ dX3_unlikeOnes_42 rfl
set_option maxRecDepth 100000 in
set_option maxHeartbeats 4000000 in
theorem cc_X1_slipAt {l : Launch} {D : va_G} {cI cR : ClassId} {a : Nat → Nat} (ha : ∀ i j, i < 36 → j < 36 → a i = a j → i = j) {kp cx sg : sr_M} (i : Nat) (hI : sr_IC kp cx) : sr_P l D (sr_tC cI cR) (sr_ZC a) (sr_WC cI cR a kp cx sg) yX1_slipAt cX1_slipAt 2 (some .int) 0 0 [.ref (a 4), .int (nI i)] (some (.int (sr_sp kp i))) := by
  refine sr_Pie (by decide +kernel) (Nat.le_of_ble_eq_true rfl) (fun p e s m args below meth c ls Q B hret => ?_)
  obtain ⟨C0, hP, hK, hZ0, hl⟩ := B
  have hZ : sr_Zok (sr_AC a) (sr_ZC a) := sr_ZCok a
  have hS : va_S (sr_AC a) s.heap s.heap [] := va_S.rf
  have hl : lv_has ls 2 [(0, .ref (a 4)), (1, .int (nI i))] := hl
  refine lv_iload_n C0.1 C0.2.1 dX1_slipAt_0 rfl (lv_at hl 1 rfl) ?_
  refine lv_iconst (v := 2) C0.1 C0.2.1 dX1_slipAt_1 (by decide) ?_
  refine lv_isub C0.1 C0.2.1 dX1_slipAt_2 ?_
  refine lv_aload_n C0.1 C0.2.1 dX1_slipAt_3 rfl (lv_at hl 0 rfl) ?_
  refine sr_get (v := .ref (a 2)) C0 hK hP sr_inX1 sr_wC4 rfl 0 (by decide) sw_114 rfl dX1_slipAt_4 ?_
  refine sr_get (v := .ref (a 13)) C0 hK hP sr_inX6 sr_wC2 rfl 1 (by decide) sw_71 rfl dX1_slipAt_7 ?_
  refine lv_bipush (v := 6) C0.1 C0.2.1 dX1_slipAt_10 (by decide) ?_
  refine sr_ald (k := 6) C0 hK rfl hP sr_wC13 (by decide) (sr_inc (by decide)) dX1_slipAt_12 ?_
  refine lv_imul C0.1 C0.2.1 dX1_slipAt_13 ?_
  exact hret _ _ _ dX1_slipAt_14 rfl
set_option maxRecDepth 100000 in
set_option maxHeartbeats 4000000 in
theorem cc_X1_weigh {l : Launch} {D : va_G} {cI cR : ClassId} {a : Nat → Nat} (ha : ∀ i j, i < 36 → j < 36 → a i = a j → i = j) {kp cx sg : sr_M} (cn : Nat) (hI : sr_IC kp cx) (hT : sr_th kp) (hs_cn : cn < 3) : sr_G l D (sr_tC cI cR) (sr_ZC a) (sr_AC a) (sr_WC cI cR a kp cx sg) yX1_weigh cX1_weigh 5 none 3 77 [.ref (a 4), .int (nI cn)] (S := sr_M) (fun u => ∀ i, i < 5 → u 0 i = nI (sr_best kp (sr_ru kp cn) (sr_ru kp (cn + 1)) cn (sr_sp kp i))) (fun u => sr_WC cI cR a kp cx u) (fun _ => none) := by
  refine sr_Gve (by decide +kernel) (Nat.le_of_ble_eq_true rfl) (fun p e s m args below meth c ls Q B hret => ?_)
  obtain ⟨C0, hP, hK, hZ0, hl⟩ := B
  have hZ : sr_Zok (sr_AC a) (sr_ZC a) := sr_ZCok a
  have hS : va_S (sr_AC a) s.heap s.heap [] := va_S.rf
  have hl : lv_has ls 5 [(0, .ref (a 4)), (1, .int (nI cn))] := hl
  obtain ⟨H, hH⟩ : ∃ H, H = s.heap := ⟨_, rfl⟩
  have hP : va_P D vwCl (sr_WC cI cR a kp cx sg) H := by rw [hH]; exact hP
  have hS : va_S (sr_AC a) s.heap H [] := by rw [hH]; exact hS
  suffices hG : ∀ locs, va_S (sr_AC a) s.heap H locs → W p l e (sr_rm 3 77) s m args below meth c H locs 0 0 Q (F0 m 0 ls []) from by have h9 := hG [] hS; rw [hH] at h9; exact h9
  clear hS
  intro locs hS
  clear hH
  refine lv_aload_n C0.1 C0.2.1 dX1_weigh_0 rfl (lv_at hl 0 rfl) ?_
  refine sr_get (v := .ref (a 3)) C0 hK hP sr_inX1 sr_wC4 rfl 1 (by decide) sw_115 rfl dX1_weigh_1 ?_
  refine sr_get (v := .ref (a 15)) C0 hK hP sr_inX3 sr_wC3 rfl 2 (by decide) sw_90 rfl dX1_weigh_4 ?_
  refine lv_iload_n C0.1 C0.2.1 dX1_weigh_7 rfl (lv_at hl 1 rfl) ?_
  refine sr_ald (k := cn) C0 hK rfl hP sr_wC15 (nI_clamp (by omega)) (vp_in_nI (by omega) (by omega)) dX1_weigh_8 ?_
  refine sr_chi (sr_IK_ru (sr_IC_K hI) (by omega)) ?_
  have := sr_IK_ru5 (sr_IC_K hI) (s := cn) (by omega)
  refine lv_istore_n (lv' := [(2, .int (nI (sr_ru kp cn))), (0, .ref (a 4)), (1, .int (nI cn))]) C0.1 C0.2.1 dX1_weigh_9 rfl hl (by decide) rfl (fun ls hl => ?_)
  refine lv_aload_n C0.1 C0.2.1 dX1_weigh_10 rfl (lv_at hl 1 rfl) ?_
  refine sr_get (v := .ref (a 3)) C0 hK hP sr_inX1 sr_wC4 rfl 1 (by decide) sw_115 rfl dX1_weigh_11 ?_
  refine sr_get (v := .ref (a 15)) C0 hK hP sr_inX3 sr_wC3 rfl 2 (by decide) sw_90 rfl dX1_weigh_14 ?_
  refine lv_iload_n C0.1 C0.2.1 dX1_weigh_17 rfl (lv_at hl 2 rfl) ?_
  refine lv_iconst (v := 1) C0.1 C0.2.1 dX1_weigh_18 (by decide) ?_
  refine lv_iadd C0.1 C0.2.1 dX1_weigh_19 ?_
  refine sr_chi (nI_add cn 1) ?_
  refine sr_ald (k := cn + 1) C0 hK rfl hP sr_wC15 (nI_clamp (by omega)) (vp_in_nI (by omega) (by omega)) dX1_weigh_20 ?_
  refine sr_chi (sr_IK_ru (sr_IC_K hI) (by omega)) ?_
  have := sr_IK_ru5 (sr_IC_K hI) (s := (cn + 1)) (by omega)
  refine lv_istore_n (lv' := [(3, .int (nI (sr_ru kp (cn + 1)))), (2, .int (nI (sr_ru kp cn))), (0, .ref (a 4)), (1, .int (nI cn))]) C0.1 C0.2.1 dX1_weigh_21 rfl hl (by decide) rfl (fun ls hl => ?_)
  refine lv_iconst (v := 0) C0.1 C0.2.1 dX1_weigh_22 (by decide) ?_
  refine lv_istore (lv' := [(4, .int 0), (3, .int (nI (sr_ru kp (cn + 1)))), (2, .int (nI (sr_ru kp cn))), (0, .ref (a 4)), (1, .int (nI cn))]) C0.1 C0.2.1 dX1_weigh_23 hl (by decide) rfl (fun ls hl => ?_)
  refine lv_iload C0.1 C0.2.1 dX1_weigh_25 (lv_at hl 0 rfl) ?_
  refine lv_iconst (v := 5) C0.1 C0.2.1 dX1_weigh_27 (by decide) ?_
  refine lv_icmp_ge (tgt := 60) C0.1 C0.2.1 dX1_weigh_28 (by decide) (fun q => absurd q (by decide)) (fun _ => ?_)
  refine lv_aload_n C0.1 C0.2.1 dX1_weigh_31 rfl (lv_at hl 3 rfl) ?_
  refine sr_get (v := .ref (a 18)) C0 hK hP sr_inX1 sr_wC4 rfl 2 (by decide) sw_116 rfl dX1_weigh_32 ?_
  refine lv_iload C0.1 C0.2.1 dX1_weigh_35 (lv_at hl 0 rfl) ?_
  refine lv_aload_n C0.1 C0.2.1 dX1_weigh_37 rfl (lv_at hl 3 rfl) ?_
  refine sr_get (v := .ref (a 2)) C0 hK hP sr_inX1 sr_wC4 rfl 0 (by decide) sw_114 rfl dX1_weigh_38 ?_
  refine lv_iload_n C0.1 C0.2.1 dX1_weigh_41 rfl (lv_at hl 4 rfl) ?_
  refine lv_iload_n C0.1 C0.2.1 dX1_weigh_42 rfl (lv_at hl 2 rfl) ?_
  refine lv_iload_n C0.1 C0.2.1 dX1_weigh_43 rfl (lv_at hl 1 rfl) ?_
  refine lv_aload_n C0.1 C0.2.1 dX1_weigh_44 rfl (lv_at hl 3 rfl) ?_
  refine lv_iload C0.1 C0.2.1 dX1_weigh_45 (lv_at hl 0 rfl) ?_
  refine sr_pVi (As := [.int 0]) C0 hK hP hZ (sr_Zs hZ hZ0 hS) (cc_X1_slipAt ha 0 hI) sk_X1_slipAt sv_X1_slipAt sw_417 (ci := 1) rfl sr_wC4 rfl rfl hl.1 (Nat.le_of_ble_eq_true rfl) (Nat.le_of_ble_eq_true rfl) (Nat.le_of_ble_eq_true rfl) dX1_weigh_47 ⟨Nat.zero_le _, Nat.zero_le _⟩ ?_
  refine sr_pVi (As := [.int (nI cn), .int (nI (sr_ru kp cn)), .int (nI (sr_ru kp (cn + 1))), .int (sr_sp kp 0)]) C0 hK hP hZ (sr_Zs hZ hZ0 hS) (cc_X6_farthest ha cn (sr_ru kp cn) (sr_ru kp (cn + 1)) (sr_sp kp 0) hI (by first | omega | exact sr_th_at hT (by omega)) (by first | omega | exact sr_th_at hT (by omega)) (by omega) (by first | assumption | exact sr_IK_sl (sr_IC_K hI) (by omega) | exact sr_bs0 | exact sr_bsp (sr_IC_K hI) (by omega))) sk_X6_farthest sv_X6_farthest sw_421 (ci := 6) rfl sr_wC2 rfl rfl hl.1 (Nat.le_of_ble_eq_true rfl) (Nat.le_of_ble_eq_true rfl) (Nat.le_of_ble_eq_true rfl) dX1_weigh_50 ⟨Nat.zero_le _, Nat.zero_le _⟩ ?_
  refine sr_ast (k := 0) C0 hK rfl hP (sr_DC ha _ _ _) hS sr_wC18 (by decide) (sr_inc (by decide)) sr_sC18 dX1_weigh_53 (fun H locs hP hS => ?_)
  refine lv_iinc (v := 1) (lv' := [(4, .int 1), (3, .int (nI (sr_ru kp (cn + 1)))), (2, .int (nI (sr_ru kp cn))), (0, .ref (a 4)), (1, .int (nI cn))]) C0.1 C0.2.1 dX1_weigh_54 hl (k := 0) rfl (by decide) (by decide) rfl (fun ls hl => ?_)
  refine lv_goto (tgt := 25) C0.1 C0.2.1 dX1_weigh_57 (by decide) ?_
  refine lv_iload C0.1 C0.2.1 dX1_weigh_25 (lv_at hl 0 rfl) ?_
  refine lv_iconst (v := 5) C0.1 C0.2.1 dX1_weigh_27 (by decide) ?_
  refine lv_icmp_ge (tgt := 60) C0.1 C0.2.1 dX1_weigh_28 (by decide) (fun q => absurd q (by decide)) (fun _ => ?_)
  refine lv_aload_n C0.1 C0.2.1 dX1_weigh_31 rfl (lv_at hl 3 rfl) ?_
  refine sr_get (v := .ref (a 18)) C0 hK hP sr_inX1 sr_wC4 rfl 2 (by decide) sw_116 rfl dX1_weigh_32 ?_
  refine lv_iload C0.1 C0.2.1 dX1_weigh_35 (lv_at hl 0 rfl) ?_
  refine lv_aload_n C0.1 C0.2.1 dX1_weigh_37 rfl (lv_at hl 3 rfl) ?_
  refine sr_get (v := .ref (a 2)) C0 hK hP sr_inX1 sr_wC4 rfl 0 (by decide) sw_114 rfl dX1_weigh_38 ?_
  refine lv_iload_n C0.1 C0.2.1 dX1_weigh_41 rfl (lv_at hl 4 rfl) ?_
  refine lv_iload_n C0.1 C0.2.1 dX1_weigh_42 rfl (lv_at hl 2 rfl) ?_
  refine lv_iload_n C0.1 C0.2.1 dX1_weigh_43 rfl (lv_at hl 1 rfl) ?_
  refine lv_aload_n C0.1 C0.2.1 dX1_weigh_44 rfl (lv_at hl 3 rfl) ?_
  refine lv_iload C0.1 C0.2.1 dX1_weigh_45 (lv_at hl 0 rfl) ?_
  refine sr_pVi (As := [.int 1]) C0 hK hP hZ (sr_Zs hZ hZ0 hS) (cc_X1_slipAt ha 1 hI) sk_X1_slipAt sv_X1_slipAt sw_417 (ci := 1) rfl sr_wC4 rfl rfl hl.1 (Nat.le_of_ble_eq_true rfl) (Nat.le_of_ble_eq_true rfl) (Nat.le_of_ble_eq_true rfl) dX1_weigh_47 ⟨Nat.zero_le _, Nat.zero_le _⟩ ?_
  refine sr_pVi (As := [.int (nI cn), .int (nI (sr_ru kp cn)), .int (nI (sr_ru kp (cn + 1))), .int (sr_sp kp 1)]) C0 hK hP hZ (sr_Zs hZ hZ0 hS) (cc_X6_farthest ha cn (sr_ru kp cn) (sr_ru kp (cn + 1)) (sr_sp kp 1) hI (by first | omega | exact sr_th_at hT (by omega)) (by first | omega | exact sr_th_at hT (by omega)) (by omega) (by first | assumption | exact sr_IK_sl (sr_IC_K hI) (by omega) | exact sr_bs0 | exact sr_bsp (sr_IC_K hI) (by omega))) sk_X6_farthest sv_X6_farthest sw_421 (ci := 6) rfl sr_wC2 rfl rfl hl.1 (Nat.le_of_ble_eq_true rfl) (Nat.le_of_ble_eq_true rfl) (Nat.le_of_ble_eq_true rfl) dX1_weigh_50 ⟨Nat.zero_le _, Nat.zero_le _⟩ ?_
  refine sr_ast (k := 1) C0 hK rfl hP (sr_DC ha _ _ _) hS sr_wC18 (by decide) (sr_inc (by decide)) sr_sC18 dX1_weigh_53 (fun H locs hP hS => ?_)
  have hP : va_P D vwCl (sr_WC cI cR a kp cx (va_up sg 0 (upd (upd (sg 0) 0 (nI (sr_best kp (sr_ru kp cn) (sr_ru kp (cn + 1)) cn (sr_sp kp 0)))) 1 (nI (sr_best kp (sr_ru kp cn) (sr_ru kp (cn + 1)) cn (sr_sp kp 1)))))) H := hP
  refine lv_iinc (v := 2) (lv' := [(4, .int 2), (3, .int (nI (sr_ru kp (cn + 1)))), (2, .int (nI (sr_ru kp cn))), (0, .ref (a 4)), (1, .int (nI cn))]) C0.1 C0.2.1 dX1_weigh_54 hl (k := 0) rfl (by decide) (by decide) rfl (fun ls hl => ?_)
  refine lv_goto (tgt := 25) C0.1 C0.2.1 dX1_weigh_57 (by decide) ?_
  refine lv_iload C0.1 C0.2.1 dX1_weigh_25 (lv_at hl 0 rfl) ?_
  refine lv_iconst (v := 5) C0.1 C0.2.1 dX1_weigh_27 (by decide) ?_
  refine lv_icmp_ge (tgt := 60) C0.1 C0.2.1 dX1_weigh_28 (by decide) (fun q => absurd q (by decide)) (fun _ => ?_)
  refine lv_aload_n C0.1 C0.2.1 dX1_weigh_31 rfl (lv_at hl 3 rfl) ?_
  refine sr_get (v := .ref (a 18)) C0 hK hP sr_inX1 sr_wC4 rfl 2 (by decide) sw_116 rfl dX1_weigh_32 ?_
  refine lv_iload C0.1 C0.2.1 dX1_weigh_35 (lv_at hl 0 rfl) ?_
  refine lv_aload_n C0.1 C0.2.1 dX1_weigh_37 rfl (lv_at hl 3 rfl) ?_
  refine sr_get (v := .ref (a 2)) C0 hK hP sr_inX1 sr_wC4 rfl 0 (by decide) sw_114 rfl dX1_weigh_38 ?_
  refine lv_iload_n C0.1 C0.2.1 dX1_weigh_41 rfl (lv_at hl 4 rfl) ?_
  refine lv_iload_n C0.1 C0.2.1 dX1_weigh_42 rfl (lv_at hl 2 rfl) ?_
  refine lv_iload_n C0.1 C0.2.1 dX1_weigh_43 rfl (lv_at hl 1 rfl) ?_
  refine lv_aload_n C0.1 C0.2.1 dX1_weigh_44 rfl (lv_at hl 3 rfl) ?_
  refine lv_iload C0.1 C0.2.1 dX1_weigh_45 (lv_at hl 0 rfl) ?_
  refine sr_pVi (As := [.int 2]) C0 hK hP hZ (sr_Zs hZ hZ0 hS) (cc_X1_slipAt ha 2 hI) sk_X1_slipAt sv_X1_slipAt sw_417 (ci := 1) rfl sr_wC4 rfl rfl hl.1 (Nat.le_of_ble_eq_true rfl) (Nat.le_of_ble_eq_true rfl) (Nat.le_of_ble_eq_true rfl) dX1_weigh_47 ⟨Nat.zero_le _, Nat.zero_le _⟩ ?_
  refine sr_pVi (As := [.int (nI cn), .int (nI (sr_ru kp cn)), .int (nI (sr_ru kp (cn + 1))), .int (sr_sp kp 2)]) C0 hK hP hZ (sr_Zs hZ hZ0 hS) (cc_X6_farthest ha cn (sr_ru kp cn) (sr_ru kp (cn + 1)) (sr_sp kp 2) hI (by first | omega | exact sr_th_at hT (by omega)) (by first | omega | exact sr_th_at hT (by omega)) (by omega) (by first | assumption | exact sr_IK_sl (sr_IC_K hI) (by omega) | exact sr_bs0 | exact sr_bsp (sr_IC_K hI) (by omega))) sk_X6_farthest sv_X6_farthest sw_421 (ci := 6) rfl sr_wC2 rfl rfl hl.1 (Nat.le_of_ble_eq_true rfl) (Nat.le_of_ble_eq_true rfl) (Nat.le_of_ble_eq_true rfl) dX1_weigh_50 ⟨Nat.zero_le _, Nat.zero_le _⟩ ?_
  refine sr_ast (k := 2) C0 hK rfl hP (sr_DC ha _ _ _) hS sr_wC18 (by decide) (sr_inc (by decide)) sr_sC18 dX1_weigh_53 (fun H locs hP hS => ?_)
  have hP : va_P D vwCl (sr_WC cI cR a kp cx (va_up sg 0 (upd (upd (upd (sg 0) 0 (nI (sr_best kp (sr_ru kp cn) (sr_ru kp (cn + 1)) cn (sr_sp kp 0)))) 1 (nI (sr_best kp (sr_ru kp cn) (sr_ru kp (cn + 1)) cn (sr_sp kp 1)))) 2 (nI (sr_best kp (sr_ru kp cn) (sr_ru kp (cn + 1)) cn (sr_sp kp 2)))))) H := hP
  refine lv_iinc (v := 3) (lv' := [(4, .int 3), (3, .int (nI (sr_ru kp (cn + 1)))), (2, .int (nI (sr_ru kp cn))), (0, .ref (a 4)), (1, .int (nI cn))]) C0.1 C0.2.1 dX1_weigh_54 hl (k := 0) rfl (by decide) (by decide) rfl (fun ls hl => ?_)
  refine lv_goto (tgt := 25) C0.1 C0.2.1 dX1_weigh_57 (by decide) ?_
  refine lv_iload C0.1 C0.2.1 dX1_weigh_25 (lv_at hl 0 rfl) ?_
  refine lv_iconst (v := 5) C0.1 C0.2.1 dX1_weigh_27 (by decide) ?_
  refine lv_icmp_ge (tgt := 60) C0.1 C0.2.1 dX1_weigh_28 (by decide) (fun q => absurd q (by decide)) (fun _ => ?_)
  refine lv_aload_n C0.1 C0.2.1 dX1_weigh_31 rfl (lv_at hl 3 rfl) ?_
  refine sr_get (v := .ref (a 18)) C0 hK hP sr_inX1 sr_wC4 rfl 2 (by decide) sw_116 rfl dX1_weigh_32 ?_
  refine lv_iload C0.1 C0.2.1 dX1_weigh_35 (lv_at hl 0 rfl) ?_
  refine lv_aload_n C0.1 C0.2.1 dX1_weigh_37 rfl (lv_at hl 3 rfl) ?_
  refine sr_get (v := .ref (a 2)) C0 hK hP sr_inX1 sr_wC4 rfl 0 (by decide) sw_114 rfl dX1_weigh_38 ?_
  refine lv_iload_n C0.1 C0.2.1 dX1_weigh_41 rfl (lv_at hl 4 rfl) ?_
  refine lv_iload_n C0.1 C0.2.1 dX1_weigh_42 rfl (lv_at hl 2 rfl) ?_
  refine lv_iload_n C0.1 C0.2.1 dX1_weigh_43 rfl (lv_at hl 1 rfl) ?_
  refine lv_aload_n C0.1 C0.2.1 dX1_weigh_44 rfl (lv_at hl 3 rfl) ?_
  refine lv_iload C0.1 C0.2.1 dX1_weigh_45 (lv_at hl 0 rfl) ?_
  refine sr_pVi (As := [.int 3]) C0 hK hP hZ (sr_Zs hZ hZ0 hS) (cc_X1_slipAt ha 3 hI) sk_X1_slipAt sv_X1_slipAt sw_417 (ci := 1) rfl sr_wC4 rfl rfl hl.1 (Nat.le_of_ble_eq_true rfl) (Nat.le_of_ble_eq_true rfl) (Nat.le_of_ble_eq_true rfl) dX1_weigh_47 ⟨Nat.zero_le _, Nat.zero_le _⟩ ?_
  refine sr_pVi (As := [.int (nI cn), .int (nI (sr_ru kp cn)), .int (nI (sr_ru kp (cn + 1))), .int (sr_sp kp 3)]) C0 hK hP hZ (sr_Zs hZ hZ0 hS) (cc_X6_farthest ha cn (sr_ru kp cn) (sr_ru kp (cn + 1)) (sr_sp kp 3) hI (by first | omega | exact sr_th_at hT (by omega)) (by first | omega | exact sr_th_at hT (by omega)) (by omega) (by first | assumption | exact sr_IK_sl (sr_IC_K hI) (by omega) | exact sr_bs0 | exact sr_bsp (sr_IC_K hI) (by omega))) sk_X6_farthest sv_X6_farthest sw_421 (ci := 6) rfl sr_wC2 rfl rfl hl.1 (Nat.le_of_ble_eq_true rfl) (Nat.le_of_ble_eq_true rfl) (Nat.le_of_ble_eq_true rfl) dX1_weigh_50 ⟨Nat.zero_le _, Nat.zero_le _⟩ ?_
  refine sr_ast (k := 3) C0 hK rfl hP (sr_DC ha _ _ _) hS sr_wC18 (by decide) (sr_inc (by decide)) sr_sC18 dX1_weigh_53 (fun H locs hP hS => ?_)
  have hP : va_P D vwCl (sr_WC cI cR a kp cx (va_up sg 0 (upd (upd (upd (upd (sg 0) 0 (nI (sr_best kp (sr_ru kp cn) (sr_ru kp (cn + 1)) cn (sr_sp kp 0)))) 1 (nI (sr_best kp (sr_ru kp cn) (sr_ru kp (cn + 1)) cn (sr_sp kp 1)))) 2 (nI (sr_best kp (sr_ru kp cn) (sr_ru kp (cn + 1)) cn (sr_sp kp 2)))) 3 (nI (sr_best kp (sr_ru kp cn) (sr_ru kp (cn + 1)) cn (sr_sp kp 3)))))) H := hP
  refine lv_iinc (v := 4) (lv' := [(4, .int 4), (3, .int (nI (sr_ru kp (cn + 1)))), (2, .int (nI (sr_ru kp cn))), (0, .ref (a 4)), (1, .int (nI cn))]) C0.1 C0.2.1 dX1_weigh_54 hl (k := 0) rfl (by decide) (by decide) rfl (fun ls hl => ?_)
  refine lv_goto (tgt := 25) C0.1 C0.2.1 dX1_weigh_57 (by decide) ?_
  refine lv_iload C0.1 C0.2.1 dX1_weigh_25 (lv_at hl 0 rfl) ?_
  refine lv_iconst (v := 5) C0.1 C0.2.1 dX1_weigh_27 (by decide) ?_
  refine lv_icmp_ge (tgt := 60) C0.1 C0.2.1 dX1_weigh_28 (by decide) (fun q => absurd q (by decide)) (fun _ => ?_)
  refine lv_aload_n C0.1 C0.2.1 dX1_weigh_31 rfl (lv_at hl 3 rfl) ?_
  refine sr_get (v := .ref (a 18)) C0 hK hP sr_inX1 sr_wC4 rfl 2 (by decide) sw_116 rfl dX1_weigh_32 ?_
  refine lv_iload C0.1 C0.2.1 dX1_weigh_35 (lv_at hl 0 rfl) ?_
  refine lv_aload_n C0.1 C0.2.1 dX1_weigh_37 rfl (lv_at hl 3 rfl) ?_
  refine sr_get (v := .ref (a 2)) C0 hK hP sr_inX1 sr_wC4 rfl 0 (by decide) sw_114 rfl dX1_weigh_38 ?_
  refine lv_iload_n C0.1 C0.2.1 dX1_weigh_41 rfl (lv_at hl 4 rfl) ?_
  refine lv_iload_n C0.1 C0.2.1 dX1_weigh_42 rfl (lv_at hl 2 rfl) ?_
  refine lv_iload_n C0.1 C0.2.1 dX1_weigh_43 rfl (lv_at hl 1 rfl) ?_
  refine lv_aload_n C0.1 C0.2.1 dX1_weigh_44 rfl (lv_at hl 3 rfl) ?_
  refine lv_iload C0.1 C0.2.1 dX1_weigh_45 (lv_at hl 0 rfl) ?_
  refine sr_pVi (As := [.int 4]) C0 hK hP hZ (sr_Zs hZ hZ0 hS) (cc_X1_slipAt ha 4 hI) sk_X1_slipAt sv_X1_slipAt sw_417 (ci := 1) rfl sr_wC4 rfl rfl hl.1 (Nat.le_of_ble_eq_true rfl) (Nat.le_of_ble_eq_true rfl) (Nat.le_of_ble_eq_true rfl) dX1_weigh_47 ⟨Nat.zero_le _, Nat.zero_le _⟩ ?_
  refine sr_pVi (As := [.int (nI cn), .int (nI (sr_ru kp cn)), .int (nI (sr_ru kp (cn + 1))), .int (sr_sp kp 4)]) C0 hK hP hZ (sr_Zs hZ hZ0 hS) (cc_X6_farthest ha cn (sr_ru kp cn) (sr_ru kp (cn + 1)) (sr_sp kp 4) hI (by first | omega | exact sr_th_at hT (by omega)) (by first | omega | exact sr_th_at hT (by omega)) (by omega) (by first | assumption | exact sr_IK_sl (sr_IC_K hI) (by omega) | exact sr_bs0 | exact sr_bsp (sr_IC_K hI) (by omega))) sk_X6_farthest sv_X6_farthest sw_421 (ci := 6) rfl sr_wC2 rfl rfl hl.1 (Nat.le_of_ble_eq_true rfl) (Nat.le_of_ble_eq_true rfl) (Nat.le_of_ble_eq_true rfl) dX1_weigh_50 ⟨Nat.zero_le _, Nat.zero_le _⟩ ?_
  refine sr_ast (k := 4) C0 hK rfl hP (sr_DC ha _ _ _) hS sr_wC18 (by decide) (sr_inc (by decide)) sr_sC18 dX1_weigh_53 (fun H locs hP hS => ?_)
  have hP : va_P D vwCl (sr_WC cI cR a kp cx (va_up sg 0 (upd (upd (upd (upd (upd (sg 0) 0 (nI (sr_best kp (sr_ru kp cn) (sr_ru kp (cn + 1)) cn (sr_sp kp 0)))) 1 (nI (sr_best kp (sr_ru kp cn) (sr_ru kp (cn + 1)) cn (sr_sp kp 1)))) 2 (nI (sr_best kp (sr_ru kp cn) (sr_ru kp (cn + 1)) cn (sr_sp kp 2)))) 3 (nI (sr_best kp (sr_ru kp cn) (sr_ru kp (cn + 1)) cn (sr_sp kp 3)))) 4 (nI (sr_best kp (sr_ru kp cn) (sr_ru kp (cn + 1)) cn (sr_sp kp 4)))))) H := hP
  refine lv_iinc (v := 5) (lv' := [(4, .int 5), (3, .int (nI (sr_ru kp (cn + 1)))), (2, .int (nI (sr_ru kp cn))), (0, .ref (a 4)), (1, .int (nI cn))]) C0.1 C0.2.1 dX1_weigh_54 hl (k := 0) rfl (by decide) (by decide) rfl (fun ls hl => ?_)
  refine lv_goto (tgt := 25) C0.1 C0.2.1 dX1_weigh_57 (by decide) ?_
  refine lv_iload C0.1 C0.2.1 dX1_weigh_25 (lv_at hl 0 rfl) ?_
  refine lv_iconst (v := 5) C0.1 C0.2.1 dX1_weigh_27 (by decide) ?_
  refine lv_icmp_ge (tgt := 60) C0.1 C0.2.1 dX1_weigh_28 (by decide) (fun _ => ?_) (fun q => absurd q (by decide))
  exact hret _ _ _ (va_up sg 0 (upd (upd (upd (upd (upd (sg 0) 0 (nI (sr_best kp (sr_ru kp cn) (sr_ru kp (cn + 1)) cn (sr_sp kp 0)))) 1 (nI (sr_best kp (sr_ru kp cn) (sr_ru kp (cn + 1)) cn (sr_sp kp 1)))) 2 (nI (sr_best kp (sr_ru kp cn) (sr_ru kp (cn + 1)) cn (sr_sp kp 2)))) 3 (nI (sr_best kp (sr_ru kp cn) (sr_ru kp (cn + 1)) cn (sr_sp kp 3)))) 4 (nI (sr_best kp (sr_ru kp cn) (sr_ru kp (cn + 1)) cn (sr_sp kp 4))))) _ _ dX1_weigh_60 hP hS rfl (fun i hi => by rcases (show i = 0 ∨ i = 1 ∨ i = 2 ∨ i = 3 ∨ i = 4 by omega) with rfl | rfl | rfl | rfl | rfl <;> rfl)
set_option maxRecDepth 100000 in
set_option maxHeartbeats 4000000 in
theorem cc_X1_sharesAt {l : Launch} {D : va_G} {cI cR : ClassId} {a : Nat → Nat} (ha : ∀ i j, i < 36 → j < 36 → a i = a j → i = j) {kp cx sg : sr_M} (co : Nat) (go : Nat) (cn : Nat) (m_ : Nat) (hI : sr_IC kp cx) (hr_co : co < sr_cnt kp) (hr_go : go < sr_cnt kp) (hF : ∀ i, i < 5 → sg 0 i = nI (sr_best kp co go cn (sr_sp kp i))) (hm_ : m_ ≤ 40) : sr_P l D (sr_tC cI cR) (sr_ZC a) (sr_WC cI cR a kp cx sg) yX1_sharesAt cX1_sharesAt 4 (some .int) 0 0 [.ref (a 4), .int (nI m_)] (some (.int (nI (sr_cN kp co go cn m_)))) := by
  refine sr_Pie (by decide +kernel) (Nat.le_of_ble_eq_true rfl) (fun p e s m args below meth c ls Q B hret => ?_)
  obtain ⟨C0, hP, hK, hZ0, hl⟩ := B
  have hZ : sr_Zok (sr_AC a) (sr_ZC a) := sr_ZCok a
  have hS : va_S (sr_AC a) s.heap s.heap [] := va_S.rf
  have hl : lv_has ls 4 [(0, .ref (a 4)), (1, .int (nI m_))] := hl
  have b0 := sr_best40 kp co go cn (sr_sp kp 0)
  have b1 := sr_best40 kp co go cn (sr_sp kp 1)
  have b2 := sr_best40 kp co go cn (sr_sp kp 2)
  have b3 := sr_best40 kp co go cn (sr_sp kp 3)
  have b4 := sr_best40 kp co go cn (sr_sp kp 4)
  refine lv_iconst (v := 0) C0.1 C0.2.1 dX1_sharesAt_0 (by decide) ?_
  refine lv_istore_n (lv' := [(2, .int 0), (0, .ref (a 4)), (1, .int (nI m_))]) C0.1 C0.2.1 dX1_sharesAt_1 rfl hl (by decide) rfl (fun ls hl => ?_)
  refine lv_iconst (v := 0) C0.1 C0.2.1 dX1_sharesAt_2 (by decide) ?_
  refine lv_istore_n (lv' := [(3, .int 0), (2, .int 0), (0, .ref (a 4)), (1, .int (nI m_))]) C0.1 C0.2.1 dX1_sharesAt_3 rfl hl (by decide) rfl (fun ls hl => ?_)
  refine lv_iload_n C0.1 C0.2.1 dX1_sharesAt_4 rfl (lv_at hl 0 rfl) ?_
  refine lv_iconst (v := 5) C0.1 C0.2.1 dX1_sharesAt_5 (by decide) ?_
  refine lv_icmp_ge (tgt := 33) C0.1 C0.2.1 dX1_sharesAt_6 (by decide) (fun q => absurd q (by decide)) (fun _ => ?_)
  refine lv_aload_n C0.1 C0.2.1 dX1_sharesAt_9 rfl (lv_at hl 2 rfl) ?_
  refine sr_get (v := .ref (a 18)) C0 hK hP sr_inX1 sr_wC4 rfl 2 (by decide) sw_116 rfl dX1_sharesAt_10 ?_
  refine lv_iload_n C0.1 C0.2.1 dX1_sharesAt_13 rfl (lv_at hl 0 rfl) ?_
  refine sr_ald (k := 0) C0 hK rfl hP sr_wC18 (by decide) (sr_inc (by decide)) dX1_sharesAt_14 ?_
  refine sr_chi (hF 0 (by omega)) ?_
  refine lv_iload_n C0.1 C0.2.1 dX1_sharesAt_15 rfl (lv_at hl 3 rfl) ?_
  have hJ27 : ∀ (ls : Array Slot) (j27_2 : Int32), j27_2 = (if (nI (sr_best kp co go cn (sr_sp kp 0))) < (nI m_) then 0 else (0 + (sr_tS 0))) → lv_has ls 4 [(3, .int 0), (2, .int j27_2), (0, .ref (a 4)), (1, .int (nI m_))] → W p l e (sr_rm 0 0) s m args below meth c s.heap [] 0 0 Q (F0 m 27 ls []) := by
    intro ls j27_2 e_j27_2 hl
    subst e_j27_2
    refine lv_iinc (v := 1) (lv' := [(3, .int 1), (2, .int (if (nI (sr_best kp co go cn (sr_sp kp 0))) < (nI m_) then 0 else (0 + (sr_tS 0)))), (0, .ref (a 4)), (1, .int (nI m_))]) C0.1 C0.2.1 dX1_sharesAt_27 hl (k := 0) rfl (by decide) (by decide) rfl (fun ls hl => ?_)
    refine lv_goto (tgt := 4) C0.1 C0.2.1 dX1_sharesAt_30 (by decide) ?_
    refine lv_iload_n C0.1 C0.2.1 dX1_sharesAt_4 rfl (lv_at hl 0 rfl) ?_
    refine lv_iconst (v := 5) C0.1 C0.2.1 dX1_sharesAt_5 (by decide) ?_
    refine lv_icmp_ge (tgt := 33) C0.1 C0.2.1 dX1_sharesAt_6 (by decide) (fun q => absurd q (by decide)) (fun _ => ?_)
    refine lv_aload_n C0.1 C0.2.1 dX1_sharesAt_9 rfl (lv_at hl 2 rfl) ?_
    refine sr_get (v := .ref (a 18)) C0 hK hP sr_inX1 sr_wC4 rfl 2 (by decide) sw_116 rfl dX1_sharesAt_10 ?_
    refine lv_iload_n C0.1 C0.2.1 dX1_sharesAt_13 rfl (lv_at hl 0 rfl) ?_
    refine sr_ald (k := 1) C0 hK rfl hP sr_wC18 (by decide) (sr_inc (by decide)) dX1_sharesAt_14 ?_
    refine sr_chi (hF 1 (by omega)) ?_
    refine lv_iload_n C0.1 C0.2.1 dX1_sharesAt_15 rfl (lv_at hl 3 rfl) ?_
    have hJ27_2 : ∀ (ls : Array Slot) (j27_2 : Int32), j27_2 = (if (nI (sr_best kp co go cn (sr_sp kp 1))) < (nI m_) then (if (nI (sr_best kp co go cn (sr_sp kp 0))) < (nI m_) then 0 else (0 + (sr_tS 0))) else ((if (nI (sr_best kp co go cn (sr_sp kp 0))) < (nI m_) then 0 else (0 + (sr_tS 0))) + (sr_tS 1))) → lv_has ls 4 [(3, .int 1), (2, .int j27_2), (0, .ref (a 4)), (1, .int (nI m_))] → W p l e (sr_rm 0 0) s m args below meth c s.heap [] 0 0 Q (F0 m 27 ls []) := by
      intro ls j27_2 e_j27_2 hl
      subst e_j27_2
      refine lv_iinc (v := 2) (lv' := [(3, .int 2), (2, .int (if (nI (sr_best kp co go cn (sr_sp kp 1))) < (nI m_) then (if (nI (sr_best kp co go cn (sr_sp kp 0))) < (nI m_) then 0 else (0 + (sr_tS 0))) else ((if (nI (sr_best kp co go cn (sr_sp kp 0))) < (nI m_) then 0 else (0 + (sr_tS 0))) + (sr_tS 1)))), (0, .ref (a 4)), (1, .int (nI m_))]) C0.1 C0.2.1 dX1_sharesAt_27 hl (k := 0) rfl (by decide) (by decide) rfl (fun ls hl => ?_)
      refine lv_goto (tgt := 4) C0.1 C0.2.1 dX1_sharesAt_30 (by decide) ?_
      refine lv_iload_n C0.1 C0.2.1 dX1_sharesAt_4 rfl (lv_at hl 0 rfl) ?_
      refine lv_iconst (v := 5) C0.1 C0.2.1 dX1_sharesAt_5 (by decide) ?_
      refine lv_icmp_ge (tgt := 33) C0.1 C0.2.1 dX1_sharesAt_6 (by decide) (fun q => absurd q (by decide)) (fun _ => ?_)
      refine lv_aload_n C0.1 C0.2.1 dX1_sharesAt_9 rfl (lv_at hl 2 rfl) ?_
      refine sr_get (v := .ref (a 18)) C0 hK hP sr_inX1 sr_wC4 rfl 2 (by decide) sw_116 rfl dX1_sharesAt_10 ?_
      refine lv_iload_n C0.1 C0.2.1 dX1_sharesAt_13 rfl (lv_at hl 0 rfl) ?_
      refine sr_ald (k := 2) C0 hK rfl hP sr_wC18 (by decide) (sr_inc (by decide)) dX1_sharesAt_14 ?_
      refine sr_chi (hF 2 (by omega)) ?_
      refine lv_iload_n C0.1 C0.2.1 dX1_sharesAt_15 rfl (lv_at hl 3 rfl) ?_
      have hJ27_3 : ∀ (ls : Array Slot) (j27_2 : Int32), j27_2 = (if (nI (sr_best kp co go cn (sr_sp kp 2))) < (nI m_) then (if (nI (sr_best kp co go cn (sr_sp kp 1))) < (nI m_) then (if (nI (sr_best kp co go cn (sr_sp kp 0))) < (nI m_) then 0 else (0 + (sr_tS 0))) else ((if (nI (sr_best kp co go cn (sr_sp kp 0))) < (nI m_) then 0 else (0 + (sr_tS 0))) + (sr_tS 1))) else ((if (nI (sr_best kp co go cn (sr_sp kp 1))) < (nI m_) then (if (nI (sr_best kp co go cn (sr_sp kp 0))) < (nI m_) then 0 else (0 + (sr_tS 0))) else ((if (nI (sr_best kp co go cn (sr_sp kp 0))) < (nI m_) then 0 else (0 + (sr_tS 0))) + (sr_tS 1))) + (sr_tS 2))) → lv_has ls 4 [(3, .int 2), (2, .int j27_2), (0, .ref (a 4)), (1, .int (nI m_))] → W p l e (sr_rm 0 0) s m args below meth c s.heap [] 0 0 Q (F0 m 27 ls []) := by
        intro ls j27_2 e_j27_2 hl
        subst e_j27_2
        refine lv_iinc (v := 3) (lv' := [(3, .int 3), (2, .int (if (nI (sr_best kp co go cn (sr_sp kp 2))) < (nI m_) then (if (nI (sr_best kp co go cn (sr_sp kp 1))) < (nI m_) then (if (nI (sr_best kp co go cn (sr_sp kp 0))) < (nI m_) then 0 else (0 + (sr_tS 0))) else ((if (nI (sr_best kp co go cn (sr_sp kp 0))) < (nI m_) then 0 else (0 + (sr_tS 0))) + (sr_tS 1))) else ((if (nI (sr_best kp co go cn (sr_sp kp 1))) < (nI m_) then (if (nI (sr_best kp co go cn (sr_sp kp 0))) < (nI m_) then 0 else (0 + (sr_tS 0))) else ((if (nI (sr_best kp co go cn (sr_sp kp 0))) < (nI m_) then 0 else (0 + (sr_tS 0))) + (sr_tS 1))) + (sr_tS 2)))), (0, .ref (a 4)), (1, .int (nI m_))]) C0.1 C0.2.1 dX1_sharesAt_27 hl (k := 0) rfl (by decide) (by decide) rfl (fun ls hl => ?_)
        refine lv_goto (tgt := 4) C0.1 C0.2.1 dX1_sharesAt_30 (by decide) ?_
        refine lv_iload_n C0.1 C0.2.1 dX1_sharesAt_4 rfl (lv_at hl 0 rfl) ?_
        refine lv_iconst (v := 5) C0.1 C0.2.1 dX1_sharesAt_5 (by decide) ?_
        refine lv_icmp_ge (tgt := 33) C0.1 C0.2.1 dX1_sharesAt_6 (by decide) (fun q => absurd q (by decide)) (fun _ => ?_)
        refine lv_aload_n C0.1 C0.2.1 dX1_sharesAt_9 rfl (lv_at hl 2 rfl) ?_
        refine sr_get (v := .ref (a 18)) C0 hK hP sr_inX1 sr_wC4 rfl 2 (by decide) sw_116 rfl dX1_sharesAt_10 ?_
        refine lv_iload_n C0.1 C0.2.1 dX1_sharesAt_13 rfl (lv_at hl 0 rfl) ?_
        refine sr_ald (k := 3) C0 hK rfl hP sr_wC18 (by decide) (sr_inc (by decide)) dX1_sharesAt_14 ?_
        refine sr_chi (hF 3 (by omega)) ?_
        refine lv_iload_n C0.1 C0.2.1 dX1_sharesAt_15 rfl (lv_at hl 3 rfl) ?_
        have hJ27_4 : ∀ (ls : Array Slot) (j27_2 : Int32), j27_2 = (if (nI (sr_best kp co go cn (sr_sp kp 3))) < (nI m_) then (if (nI (sr_best kp co go cn (sr_sp kp 2))) < (nI m_) then (if (nI (sr_best kp co go cn (sr_sp kp 1))) < (nI m_) then (if (nI (sr_best kp co go cn (sr_sp kp 0))) < (nI m_) then 0 else (0 + (sr_tS 0))) else ((if (nI (sr_best kp co go cn (sr_sp kp 0))) < (nI m_) then 0 else (0 + (sr_tS 0))) + (sr_tS 1))) else ((if (nI (sr_best kp co go cn (sr_sp kp 1))) < (nI m_) then (if (nI (sr_best kp co go cn (sr_sp kp 0))) < (nI m_) then 0 else (0 + (sr_tS 0))) else ((if (nI (sr_best kp co go cn (sr_sp kp 0))) < (nI m_) then 0 else (0 + (sr_tS 0))) + (sr_tS 1))) + (sr_tS 2))) else ((if (nI (sr_best kp co go cn (sr_sp kp 2))) < (nI m_) then (if (nI (sr_best kp co go cn (sr_sp kp 1))) < (nI m_) then (if (nI (sr_best kp co go cn (sr_sp kp 0))) < (nI m_) then 0 else (0 + (sr_tS 0))) else ((if (nI (sr_best kp co go cn (sr_sp kp 0))) < (nI m_) then 0 else (0 + (sr_tS 0))) + (sr_tS 1))) else ((if (nI (sr_best kp co go cn (sr_sp kp 1))) < (nI m_) then (if (nI (sr_best kp co go cn (sr_sp kp 0))) < (nI m_) then 0 else (0 + (sr_tS 0))) else ((if (nI (sr_best kp co go cn (sr_sp kp 0))) < (nI m_) then 0 else (0 + (sr_tS 0))) + (sr_tS 1))) + (sr_tS 2))) + (sr_tS 3))) → lv_has ls 4 [(3, .int 3), (2, .int j27_2), (0, .ref (a 4)), (1, .int (nI m_))] → W p l e (sr_rm 0 0) s m args below meth c s.heap [] 0 0 Q (F0 m 27 ls []) := by
          intro ls j27_2 e_j27_2 hl
          subst e_j27_2
          refine lv_iinc (v := 4) (lv' := [(3, .int 4), (2, .int (if (nI (sr_best kp co go cn (sr_sp kp 3))) < (nI m_) then (if (nI (sr_best kp co go cn (sr_sp kp 2))) < (nI m_) then (if (nI (sr_best kp co go cn (sr_sp kp 1))) < (nI m_) then (if (nI (sr_best kp co go cn (sr_sp kp 0))) < (nI m_) then 0 else (0 + (sr_tS 0))) else ((if (nI (sr_best kp co go cn (sr_sp kp 0))) < (nI m_) then 0 else (0 + (sr_tS 0))) + (sr_tS 1))) else ((if (nI (sr_best kp co go cn (sr_sp kp 1))) < (nI m_) then (if (nI (sr_best kp co go cn (sr_sp kp 0))) < (nI m_) then 0 else (0 + (sr_tS 0))) else ((if (nI (sr_best kp co go cn (sr_sp kp 0))) < (nI m_) then 0 else (0 + (sr_tS 0))) + (sr_tS 1))) + (sr_tS 2))) else ((if (nI (sr_best kp co go cn (sr_sp kp 2))) < (nI m_) then (if (nI (sr_best kp co go cn (sr_sp kp 1))) < (nI m_) then (if (nI (sr_best kp co go cn (sr_sp kp 0))) < (nI m_) then 0 else (0 + (sr_tS 0))) else ((if (nI (sr_best kp co go cn (sr_sp kp 0))) < (nI m_) then 0 else (0 + (sr_tS 0))) + (sr_tS 1))) else ((if (nI (sr_best kp co go cn (sr_sp kp 1))) < (nI m_) then (if (nI (sr_best kp co go cn (sr_sp kp 0))) < (nI m_) then 0 else (0 + (sr_tS 0))) else ((if (nI (sr_best kp co go cn (sr_sp kp 0))) < (nI m_) then 0 else (0 + (sr_tS 0))) + (sr_tS 1))) + (sr_tS 2))) + (sr_tS 3)))), (0, .ref (a 4)), (1, .int (nI m_))]) C0.1 C0.2.1 dX1_sharesAt_27 hl (k := 0) rfl (by decide) (by decide) rfl (fun ls hl => ?_)
          refine lv_goto (tgt := 4) C0.1 C0.2.1 dX1_sharesAt_30 (by decide) ?_
          refine lv_iload_n C0.1 C0.2.1 dX1_sharesAt_4 rfl (lv_at hl 0 rfl) ?_
          refine lv_iconst (v := 5) C0.1 C0.2.1 dX1_sharesAt_5 (by decide) ?_
          refine lv_icmp_ge (tgt := 33) C0.1 C0.2.1 dX1_sharesAt_6 (by decide) (fun q => absurd q (by decide)) (fun _ => ?_)
          refine lv_aload_n C0.1 C0.2.1 dX1_sharesAt_9 rfl (lv_at hl 2 rfl) ?_
          refine sr_get (v := .ref (a 18)) C0 hK hP sr_inX1 sr_wC4 rfl 2 (by decide) sw_116 rfl dX1_sharesAt_10 ?_
          refine lv_iload_n C0.1 C0.2.1 dX1_sharesAt_13 rfl (lv_at hl 0 rfl) ?_
          refine sr_ald (k := 4) C0 hK rfl hP sr_wC18 (by decide) (sr_inc (by decide)) dX1_sharesAt_14 ?_
          refine sr_chi (hF 4 (by omega)) ?_
          refine lv_iload_n C0.1 C0.2.1 dX1_sharesAt_15 rfl (lv_at hl 3 rfl) ?_
          have hJ27_5 : ∀ (ls : Array Slot) (j27_2 : Int32), j27_2 = (if (nI (sr_best kp co go cn (sr_sp kp 4))) < (nI m_) then (if (nI (sr_best kp co go cn (sr_sp kp 3))) < (nI m_) then (if (nI (sr_best kp co go cn (sr_sp kp 2))) < (nI m_) then (if (nI (sr_best kp co go cn (sr_sp kp 1))) < (nI m_) then (if (nI (sr_best kp co go cn (sr_sp kp 0))) < (nI m_) then 0 else (0 + (sr_tS 0))) else ((if (nI (sr_best kp co go cn (sr_sp kp 0))) < (nI m_) then 0 else (0 + (sr_tS 0))) + (sr_tS 1))) else ((if (nI (sr_best kp co go cn (sr_sp kp 1))) < (nI m_) then (if (nI (sr_best kp co go cn (sr_sp kp 0))) < (nI m_) then 0 else (0 + (sr_tS 0))) else ((if (nI (sr_best kp co go cn (sr_sp kp 0))) < (nI m_) then 0 else (0 + (sr_tS 0))) + (sr_tS 1))) + (sr_tS 2))) else ((if (nI (sr_best kp co go cn (sr_sp kp 2))) < (nI m_) then (if (nI (sr_best kp co go cn (sr_sp kp 1))) < (nI m_) then (if (nI (sr_best kp co go cn (sr_sp kp 0))) < (nI m_) then 0 else (0 + (sr_tS 0))) else ((if (nI (sr_best kp co go cn (sr_sp kp 0))) < (nI m_) then 0 else (0 + (sr_tS 0))) + (sr_tS 1))) else ((if (nI (sr_best kp co go cn (sr_sp kp 1))) < (nI m_) then (if (nI (sr_best kp co go cn (sr_sp kp 0))) < (nI m_) then 0 else (0 + (sr_tS 0))) else ((if (nI (sr_best kp co go cn (sr_sp kp 0))) < (nI m_) then 0 else (0 + (sr_tS 0))) + (sr_tS 1))) + (sr_tS 2))) + (sr_tS 3))) else ((if (nI (sr_best kp co go cn (sr_sp kp 3))) < (nI m_) then (if (nI (sr_best kp co go cn (sr_sp kp 2))) < (nI m_) then (if (nI (sr_best kp co go cn (sr_sp kp 1))) < (nI m_) then (if (nI (sr_best kp co go cn (sr_sp kp 0))) < (nI m_) then 0 else (0 + (sr_tS 0))) else ((if (nI (sr_best kp co go cn (sr_sp kp 0))) < (nI m_) then 0 else (0 + (sr_tS 0))) + (sr_tS 1))) else ((if (nI (sr_best kp co go cn (sr_sp kp 1))) < (nI m_) then (if (nI (sr_best kp co go cn (sr_sp kp 0))) < (nI m_) then 0 else (0 + (sr_tS 0))) else ((if (nI (sr_best kp co go cn (sr_sp kp 0))) < (nI m_) then 0 else (0 + (sr_tS 0))) + (sr_tS 1))) + (sr_tS 2))) else ((if (nI (sr_best kp co go cn (sr_sp kp 2))) < (nI m_) then (if (nI (sr_best kp co go cn (sr_sp kp 1))) < (nI m_) then (if (nI (sr_best kp co go cn (sr_sp kp 0))) < (nI m_) then 0 else (0 + (sr_tS 0))) else ((if (nI (sr_best kp co go cn (sr_sp kp 0))) < (nI m_) then 0 else (0 + (sr_tS 0))) + (sr_tS 1))) else ((if (nI (sr_best kp co go cn (sr_sp kp 1))) < (nI m_) then (if (nI (sr_best kp co go cn (sr_sp kp 0))) < (nI m_) then 0 else (0 + (sr_tS 0))) else ((if (nI (sr_best kp co go cn (sr_sp kp 0))) < (nI m_) then 0 else (0 + (sr_tS 0))) + (sr_tS 1))) + (sr_tS 2))) + (sr_tS 3))) + (sr_tS 4))) → lv_has ls 4 [(3, .int 4), (2, .int j27_2), (0, .ref (a 4)), (1, .int (nI m_))] → W p l e (sr_rm 0 0) s m args below meth c s.heap [] 0 0 Q (F0 m 27 ls []) := by
            intro ls j27_2 e_j27_2 hl
            subst e_j27_2
            refine lv_iinc (v := 5) (lv' := [(3, .int 5), (2, .int (if (nI (sr_best kp co go cn (sr_sp kp 4))) < (nI m_) then (if (nI (sr_best kp co go cn (sr_sp kp 3))) < (nI m_) then (if (nI (sr_best kp co go cn (sr_sp kp 2))) < (nI m_) then (if (nI (sr_best kp co go cn (sr_sp kp 1))) < (nI m_) then (if (nI (sr_best kp co go cn (sr_sp kp 0))) < (nI m_) then 0 else (0 + (sr_tS 0))) else ((if (nI (sr_best kp co go cn (sr_sp kp 0))) < (nI m_) then 0 else (0 + (sr_tS 0))) + (sr_tS 1))) else ((if (nI (sr_best kp co go cn (sr_sp kp 1))) < (nI m_) then (if (nI (sr_best kp co go cn (sr_sp kp 0))) < (nI m_) then 0 else (0 + (sr_tS 0))) else ((if (nI (sr_best kp co go cn (sr_sp kp 0))) < (nI m_) then 0 else (0 + (sr_tS 0))) + (sr_tS 1))) + (sr_tS 2))) else ((if (nI (sr_best kp co go cn (sr_sp kp 2))) < (nI m_) then (if (nI (sr_best kp co go cn (sr_sp kp 1))) < (nI m_) then (if (nI (sr_best kp co go cn (sr_sp kp 0))) < (nI m_) then 0 else (0 + (sr_tS 0))) else ((if (nI (sr_best kp co go cn (sr_sp kp 0))) < (nI m_) then 0 else (0 + (sr_tS 0))) + (sr_tS 1))) else ((if (nI (sr_best kp co go cn (sr_sp kp 1))) < (nI m_) then (if (nI (sr_best kp co go cn (sr_sp kp 0))) < (nI m_) then 0 else (0 + (sr_tS 0))) else ((if (nI (sr_best kp co go cn (sr_sp kp 0))) < (nI m_) then 0 else (0 + (sr_tS 0))) + (sr_tS 1))) + (sr_tS 2))) + (sr_tS 3))) else ((if (nI (sr_best kp co go cn (sr_sp kp 3))) < (nI m_) then (if (nI (sr_best kp co go cn (sr_sp kp 2))) < (nI m_) then (if (nI (sr_best kp co go cn (sr_sp kp 1))) < (nI m_) then (if (nI (sr_best kp co go cn (sr_sp kp 0))) < (nI m_) then 0 else (0 + (sr_tS 0))) else ((if (nI (sr_best kp co go cn (sr_sp kp 0))) < (nI m_) then 0 else (0 + (sr_tS 0))) + (sr_tS 1))) else ((if (nI (sr_best kp co go cn (sr_sp kp 1))) < (nI m_) then (if (nI (sr_best kp co go cn (sr_sp kp 0))) < (nI m_) then 0 else (0 + (sr_tS 0))) else ((if (nI (sr_best kp co go cn (sr_sp kp 0))) < (nI m_) then 0 else (0 + (sr_tS 0))) + (sr_tS 1))) + (sr_tS 2))) else ((if (nI (sr_best kp co go cn (sr_sp kp 2))) < (nI m_) then (if (nI (sr_best kp co go cn (sr_sp kp 1))) < (nI m_) then (if (nI (sr_best kp co go cn (sr_sp kp 0))) < (nI m_) then 0 else (0 + (sr_tS 0))) else ((if (nI (sr_best kp co go cn (sr_sp kp 0))) < (nI m_) then 0 else (0 + (sr_tS 0))) + (sr_tS 1))) else ((if (nI (sr_best kp co go cn (sr_sp kp 1))) < (nI m_) then (if (nI (sr_best kp co go cn (sr_sp kp 0))) < (nI m_) then 0 else (0 + (sr_tS 0))) else ((if (nI (sr_best kp co go cn (sr_sp kp 0))) < (nI m_) then 0 else (0 + (sr_tS 0))) + (sr_tS 1))) + (sr_tS 2))) + (sr_tS 3))) + (sr_tS 4)))), (0, .ref (a 4)), (1, .int (nI m_))]) C0.1 C0.2.1 dX1_sharesAt_27 hl (k := 0) rfl (by decide) (by decide) rfl (fun ls hl => ?_)
            refine lv_goto (tgt := 4) C0.1 C0.2.1 dX1_sharesAt_30 (by decide) ?_
            refine lv_iload_n C0.1 C0.2.1 dX1_sharesAt_4 rfl (lv_at hl 0 rfl) ?_
            refine lv_iconst (v := 5) C0.1 C0.2.1 dX1_sharesAt_5 (by decide) ?_
            refine lv_icmp_ge (tgt := 33) C0.1 C0.2.1 dX1_sharesAt_6 (by decide) (fun _ => ?_) (fun q => absurd q (by decide))
            refine lv_iload_n C0.1 C0.2.1 dX1_sharesAt_33 rfl (lv_at hl 1 rfl) ?_
            exact hret _ _ _ dX1_sharesAt_34 (sr_shA (sr_IC_K hI) hr_co hr_go hm_ rfl rfl rfl rfl rfl)
          refine lv_icmp_lt (tgt := 27) C0.1 C0.2.1 dX1_sharesAt_16 (by decide) (fun c16_5 => ?_) (fun c16_5 => ?_)
          · have g16_5 : (sr_best kp co go cn (sr_sp kp 4)) < m_ := (nI_ltI (a := (sr_best kp co go cn (sr_sp kp 4))) (b := m_) (by omega) (by omega)).mp c16_5
            exact hJ27_5 _ _ (by rw [if_pos c16_5]) (lv_sub hl [0, 1, 2, 3] rfl)
          · have g16_5 : ¬ ((sr_best kp co go cn (sr_sp kp 4)) < m_) := fun q => c16_5 ((nI_ltI (a := (sr_best kp co go cn (sr_sp kp 4))) (b := m_) (by omega) (by omega)).mpr q)
            refine lv_iload_n C0.1 C0.2.1 dX1_sharesAt_19 rfl (lv_at hl 1 rfl) ?_
            obtain ⟨tS, tSz, tSt⟩ := sr_ZZS hZ0
            refine sr_gst C0 tSz hS sw_430 dX1_sharesAt_20 ?_
            refine lv_iload_n C0.1 C0.2.1 dX1_sharesAt_23 rfl (lv_at hl 0 rfl) ?_
            refine sr_tld (k := 4) C0 tSt hS (by decide) (sr_inc (by decide)) dX1_sharesAt_24 ?_
            refine lv_iadd C0.1 C0.2.1 dX1_sharesAt_25 ?_
            refine lv_istore_n (lv' := [(2, .int ((if (nI (sr_best kp co go cn (sr_sp kp 3))) < (nI m_) then (if (nI (sr_best kp co go cn (sr_sp kp 2))) < (nI m_) then (if (nI (sr_best kp co go cn (sr_sp kp 1))) < (nI m_) then (if (nI (sr_best kp co go cn (sr_sp kp 0))) < (nI m_) then 0 else (0 + (sr_tS 0))) else ((if (nI (sr_best kp co go cn (sr_sp kp 0))) < (nI m_) then 0 else (0 + (sr_tS 0))) + (sr_tS 1))) else ((if (nI (sr_best kp co go cn (sr_sp kp 1))) < (nI m_) then (if (nI (sr_best kp co go cn (sr_sp kp 0))) < (nI m_) then 0 else (0 + (sr_tS 0))) else ((if (nI (sr_best kp co go cn (sr_sp kp 0))) < (nI m_) then 0 else (0 + (sr_tS 0))) + (sr_tS 1))) + (sr_tS 2))) else ((if (nI (sr_best kp co go cn (sr_sp kp 2))) < (nI m_) then (if (nI (sr_best kp co go cn (sr_sp kp 1))) < (nI m_) then (if (nI (sr_best kp co go cn (sr_sp kp 0))) < (nI m_) then 0 else (0 + (sr_tS 0))) else ((if (nI (sr_best kp co go cn (sr_sp kp 0))) < (nI m_) then 0 else (0 + (sr_tS 0))) + (sr_tS 1))) else ((if (nI (sr_best kp co go cn (sr_sp kp 1))) < (nI m_) then (if (nI (sr_best kp co go cn (sr_sp kp 0))) < (nI m_) then 0 else (0 + (sr_tS 0))) else ((if (nI (sr_best kp co go cn (sr_sp kp 0))) < (nI m_) then 0 else (0 + (sr_tS 0))) + (sr_tS 1))) + (sr_tS 2))) + (sr_tS 3))) + (sr_tS 4))), (3, .int 4), (0, .ref (a 4)), (1, .int (nI m_))]) C0.1 C0.2.1 dX1_sharesAt_26 rfl hl (by decide) rfl (fun ls hl => ?_)
            exact hJ27_5 _ _ (by rw [if_neg c16_5]) (lv_sub hl [1, 0, 2, 3] rfl)
        refine lv_icmp_lt (tgt := 27) C0.1 C0.2.1 dX1_sharesAt_16 (by decide) (fun c16_4 => ?_) (fun c16_4 => ?_)
        · have g16_4 : (sr_best kp co go cn (sr_sp kp 3)) < m_ := (nI_ltI (a := (sr_best kp co go cn (sr_sp kp 3))) (b := m_) (by omega) (by omega)).mp c16_4
          exact hJ27_4 _ _ (by rw [if_pos c16_4]) (lv_sub hl [0, 1, 2, 3] rfl)
        · have g16_4 : ¬ ((sr_best kp co go cn (sr_sp kp 3)) < m_) := fun q => c16_4 ((nI_ltI (a := (sr_best kp co go cn (sr_sp kp 3))) (b := m_) (by omega) (by omega)).mpr q)
          refine lv_iload_n C0.1 C0.2.1 dX1_sharesAt_19 rfl (lv_at hl 1 rfl) ?_
          obtain ⟨tS, tSz, tSt⟩ := sr_ZZS hZ0
          refine sr_gst C0 tSz hS sw_430 dX1_sharesAt_20 ?_
          refine lv_iload_n C0.1 C0.2.1 dX1_sharesAt_23 rfl (lv_at hl 0 rfl) ?_
          refine sr_tld (k := 3) C0 tSt hS (by decide) (sr_inc (by decide)) dX1_sharesAt_24 ?_
          refine lv_iadd C0.1 C0.2.1 dX1_sharesAt_25 ?_
          refine lv_istore_n (lv' := [(2, .int ((if (nI (sr_best kp co go cn (sr_sp kp 2))) < (nI m_) then (if (nI (sr_best kp co go cn (sr_sp kp 1))) < (nI m_) then (if (nI (sr_best kp co go cn (sr_sp kp 0))) < (nI m_) then 0 else (0 + (sr_tS 0))) else ((if (nI (sr_best kp co go cn (sr_sp kp 0))) < (nI m_) then 0 else (0 + (sr_tS 0))) + (sr_tS 1))) else ((if (nI (sr_best kp co go cn (sr_sp kp 1))) < (nI m_) then (if (nI (sr_best kp co go cn (sr_sp kp 0))) < (nI m_) then 0 else (0 + (sr_tS 0))) else ((if (nI (sr_best kp co go cn (sr_sp kp 0))) < (nI m_) then 0 else (0 + (sr_tS 0))) + (sr_tS 1))) + (sr_tS 2))) + (sr_tS 3))), (3, .int 3), (0, .ref (a 4)), (1, .int (nI m_))]) C0.1 C0.2.1 dX1_sharesAt_26 rfl hl (by decide) rfl (fun ls hl => ?_)
          exact hJ27_4 _ _ (by rw [if_neg c16_4]) (lv_sub hl [1, 0, 2, 3] rfl)
      refine lv_icmp_lt (tgt := 27) C0.1 C0.2.1 dX1_sharesAt_16 (by decide) (fun c16_3 => ?_) (fun c16_3 => ?_)
      · have g16_3 : (sr_best kp co go cn (sr_sp kp 2)) < m_ := (nI_ltI (a := (sr_best kp co go cn (sr_sp kp 2))) (b := m_) (by omega) (by omega)).mp c16_3
        exact hJ27_3 _ _ (by rw [if_pos c16_3]) (lv_sub hl [0, 1, 2, 3] rfl)
      · have g16_3 : ¬ ((sr_best kp co go cn (sr_sp kp 2)) < m_) := fun q => c16_3 ((nI_ltI (a := (sr_best kp co go cn (sr_sp kp 2))) (b := m_) (by omega) (by omega)).mpr q)
        refine lv_iload_n C0.1 C0.2.1 dX1_sharesAt_19 rfl (lv_at hl 1 rfl) ?_
        obtain ⟨tS, tSz, tSt⟩ := sr_ZZS hZ0
        refine sr_gst C0 tSz hS sw_430 dX1_sharesAt_20 ?_
        refine lv_iload_n C0.1 C0.2.1 dX1_sharesAt_23 rfl (lv_at hl 0 rfl) ?_
        refine sr_tld (k := 2) C0 tSt hS (by decide) (sr_inc (by decide)) dX1_sharesAt_24 ?_
        refine lv_iadd C0.1 C0.2.1 dX1_sharesAt_25 ?_
        refine lv_istore_n (lv' := [(2, .int ((if (nI (sr_best kp co go cn (sr_sp kp 1))) < (nI m_) then (if (nI (sr_best kp co go cn (sr_sp kp 0))) < (nI m_) then 0 else (0 + (sr_tS 0))) else ((if (nI (sr_best kp co go cn (sr_sp kp 0))) < (nI m_) then 0 else (0 + (sr_tS 0))) + (sr_tS 1))) + (sr_tS 2))), (3, .int 2), (0, .ref (a 4)), (1, .int (nI m_))]) C0.1 C0.2.1 dX1_sharesAt_26 rfl hl (by decide) rfl (fun ls hl => ?_)
        exact hJ27_3 _ _ (by rw [if_neg c16_3]) (lv_sub hl [1, 0, 2, 3] rfl)
    refine lv_icmp_lt (tgt := 27) C0.1 C0.2.1 dX1_sharesAt_16 (by decide) (fun c16_2 => ?_) (fun c16_2 => ?_)
    · have g16_2 : (sr_best kp co go cn (sr_sp kp 1)) < m_ := (nI_ltI (a := (sr_best kp co go cn (sr_sp kp 1))) (b := m_) (by omega) (by omega)).mp c16_2
      exact hJ27_2 _ _ (by rw [if_pos c16_2]) (lv_sub hl [0, 1, 2, 3] rfl)
    · have g16_2 : ¬ ((sr_best kp co go cn (sr_sp kp 1)) < m_) := fun q => c16_2 ((nI_ltI (a := (sr_best kp co go cn (sr_sp kp 1))) (b := m_) (by omega) (by omega)).mpr q)
      refine lv_iload_n C0.1 C0.2.1 dX1_sharesAt_19 rfl (lv_at hl 1 rfl) ?_
      obtain ⟨tS, tSz, tSt⟩ := sr_ZZS hZ0
      refine sr_gst C0 tSz hS sw_430 dX1_sharesAt_20 ?_
      refine lv_iload_n C0.1 C0.2.1 dX1_sharesAt_23 rfl (lv_at hl 0 rfl) ?_
      refine sr_tld (k := 1) C0 tSt hS (by decide) (sr_inc (by decide)) dX1_sharesAt_24 ?_
      refine lv_iadd C0.1 C0.2.1 dX1_sharesAt_25 ?_
      refine lv_istore_n (lv' := [(2, .int ((if (nI (sr_best kp co go cn (sr_sp kp 0))) < (nI m_) then 0 else (0 + (sr_tS 0))) + (sr_tS 1))), (3, .int 1), (0, .ref (a 4)), (1, .int (nI m_))]) C0.1 C0.2.1 dX1_sharesAt_26 rfl hl (by decide) rfl (fun ls hl => ?_)
      exact hJ27_2 _ _ (by rw [if_neg c16_2]) (lv_sub hl [1, 0, 2, 3] rfl)
  refine lv_icmp_lt (tgt := 27) C0.1 C0.2.1 dX1_sharesAt_16 (by decide) (fun c16 => ?_) (fun c16 => ?_)
  · have g16 : (sr_best kp co go cn (sr_sp kp 0)) < m_ := (nI_ltI (a := (sr_best kp co go cn (sr_sp kp 0))) (b := m_) (by omega) (by omega)).mp c16
    exact hJ27 _ _ (by rw [if_pos c16]) (lv_sub hl [0, 1, 2, 3] rfl)
  · have g16 : ¬ ((sr_best kp co go cn (sr_sp kp 0)) < m_) := fun q => c16 ((nI_ltI (a := (sr_best kp co go cn (sr_sp kp 0))) (b := m_) (by omega) (by omega)).mpr q)
    refine lv_iload_n C0.1 C0.2.1 dX1_sharesAt_19 rfl (lv_at hl 1 rfl) ?_
    obtain ⟨tS, tSz, tSt⟩ := sr_ZZS hZ0
    refine sr_gst C0 tSz hS sw_430 dX1_sharesAt_20 ?_
    refine lv_iload_n C0.1 C0.2.1 dX1_sharesAt_23 rfl (lv_at hl 0 rfl) ?_
    refine sr_tld (k := 0) C0 tSt hS (by decide) (sr_inc (by decide)) dX1_sharesAt_24 ?_
    refine lv_iadd C0.1 C0.2.1 dX1_sharesAt_25 ?_
    refine lv_istore_n (lv' := [(2, .int (0 + (sr_tS 0))), (3, .int 0), (0, .ref (a 4)), (1, .int (nI m_))]) C0.1 C0.2.1 dX1_sharesAt_26 rfl hl (by decide) rfl (fun ls hl => ?_)
    exact hJ27 _ _ (by rw [if_neg c16]) (lv_sub hl [1, 0, 2, 3] rfl)
set_option maxRecDepth 100000 in
set_option maxHeartbeats 4000000 in
theorem cc_X1_sixteenths {l : Launch} {D : va_G} {cI cR : ClassId} {a : Nat → Nat} (ha : ∀ i j, i < 36 → j < 36 → a i = a j → i = j) {kp cx sg : sr_M} (cn : Nat) (hI : sr_IC kp cx) (hT : sr_th kp) (hs_cn : cn < 3) : sr_G l D (sr_tC cI cR) (sr_ZC a) (sr_AC a) (sr_WC cI cR a kp cx sg) yX1_sixteenths cX1_sixteenths 2 (some .int) 4 101 [.ref (a 4), .int (nI cn)] (S := sr_M) (fun u => True) (fun u => sr_WC cI cR a kp cx u) (fun u => some (.int (nI (sr_cN kp (sr_ru kp cn) (sr_ru kp (cn + 1)) cn (sr_mk kp cn))))) := by
  refine sr_Gie (by decide +kernel) (Nat.le_of_ble_eq_true rfl) (fun p e s m args below meth c ls Q B hret => ?_)
  obtain ⟨C0, hP, hK, hZ0, hl⟩ := B
  have hZ : sr_Zok (sr_AC a) (sr_ZC a) := sr_ZCok a
  have hS : va_S (sr_AC a) s.heap s.heap [] := va_S.rf
  have hl : lv_has ls 2 [(0, .ref (a 4)), (1, .int (nI cn))] := hl
  obtain ⟨H, hH⟩ : ∃ H, H = s.heap := ⟨_, rfl⟩
  have hP : va_P D vwCl (sr_WC cI cR a kp cx sg) H := by rw [hH]; exact hP
  have hS : va_S (sr_AC a) s.heap H [] := by rw [hH]; exact hS
  suffices hG : ∀ locs, va_S (sr_AC a) s.heap H locs → W p l e (sr_rm 4 101) s m args below meth c H locs 0 0 Q (F0 m 0 ls []) from by have h9 := hG [] hS; rw [hH] at h9; exact h9
  clear hS
  intro locs hS
  clear hH
  refine lv_aload_n C0.1 C0.2.1 dX1_sixteenths_0 rfl (lv_at hl 0 rfl) ?_
  refine lv_iload_n C0.1 C0.2.1 dX1_sixteenths_1 rfl (lv_at hl 1 rfl) ?_
  refine sr_gVv (As := [.int (nI cn)]) C0 hK hP hZ (sr_Zs hZ hZ0 hS) (cc_X1_weigh ha cn hI hT (by omega)) sk_X1_weigh sv_X1_weigh sw_413 (ci := 1) rfl sr_wC4 rfl rfl hl.1 (Nat.le_of_ble_eq_true rfl) (Nat.le_of_ble_eq_true rfl) (Nat.le_of_ble_eq_true rfl) dX1_sixteenths_2 ⟨Nat.zero_le _, Nat.zero_le _⟩ hS (fun sg1 H locs hF hP hS => ?_)
  refine lv_aload_n C0.1 C0.2.1 dX1_sixteenths_5 rfl (lv_at hl 0 rfl) ?_
  refine lv_aload_n C0.1 C0.2.1 dX1_sixteenths_6 rfl (lv_at hl 0 rfl) ?_
  refine sr_get (v := .ref (a 3)) C0 hK hP sr_inX1 sr_wC4 rfl 1 (by decide) sw_115 rfl dX1_sixteenths_7 ?_
  refine sr_get (v := .ref (a 16)) C0 hK hP sr_inX3 sr_wC3 rfl 3 (by decide) sw_93 rfl dX1_sixteenths_10 ?_
  refine lv_iload_n C0.1 C0.2.1 dX1_sixteenths_13 rfl (lv_at hl 1 rfl) ?_
  refine sr_ald (k := cn) C0 hK rfl hP sr_wC16 (nI_clamp (by omega)) (vp_in_nI (by omega) (by omega)) dX1_sixteenths_14 ?_
  refine sr_chi (sr_IK_mk (sr_IC_K hI) (by omega)) ?_
  have := sr_IK_mk40 (sr_IC_K hI) (c := cn) (by omega)
  refine sr_pVi (As := [.int (nI (sr_mk kp cn))]) C0 hK hP hZ (sr_Zs hZ hZ0 hS) (cc_X1_sharesAt ha (sr_ru kp cn) (sr_ru kp (cn + 1)) cn (sr_mk kp cn) hI (sr_th_at hT (by omega)) (sr_th_at hT (by omega)) hF (by omega)) sk_X1_sharesAt sv_X1_sharesAt sw_426 (ci := 1) rfl sr_wC4 rfl rfl hl.1 (Nat.le_of_ble_eq_true rfl) (Nat.le_of_ble_eq_true rfl) (Nat.le_of_ble_eq_true rfl) dX1_sixteenths_15 ⟨Nat.zero_le _, Nat.zero_le _⟩ ?_
  exact hret _ _ _ sg1 _ _ _ dX1_sixteenths_18 hP hS rfl rfl trivial
set_option maxRecDepth 100000 in
set_option maxHeartbeats 4000000 in
theorem cc_X1_fractionOfAll {l : Launch} {D : va_G} {cI cR : ClassId} {a : Nat → Nat} (ha : ∀ i j, i < 36 → j < 36 → a i = a j → i = j) {kp cx sg : sr_M} (wt : Int32) (hI : sr_IC kp cx) (hT : sr_th kp) : sr_G l D (sr_tC cI cR) (sr_ZC a) (sr_AC a) (sr_WC cI cR a kp cx sg) yX1_fractionOfAll cX1_fractionOfAll 5 (some .int) 4 101 [.ref (a 4), .int wt] (S := sr_M) (fun u => True) (fun u => sr_WC cI cR a kp cx u) (fun u => some (.int (nI (sr_fo kp wt)))) := by
  refine sr_Gie (by decide +kernel) (Nat.le_of_ble_eq_true rfl) (fun p e s m args below meth c ls Q B hret => ?_)
  obtain ⟨C0, hP, hK, hZ0, hl⟩ := B
  have hZ : sr_Zok (sr_AC a) (sr_ZC a) := sr_ZCok a
  have hS : va_S (sr_AC a) s.heap s.heap [] := va_S.rf
  have hl : lv_has ls 5 [(0, .ref (a 4)), (1, .int wt)] := hl
  obtain ⟨H, hH⟩ : ∃ H, H = s.heap := ⟨_, rfl⟩
  have hP : va_P D vwCl (sr_WC cI cR a kp cx sg) H := by rw [hH]; exact hP
  have hS : va_S (sr_AC a) s.heap H [] := by rw [hH]; exact hS
  suffices hG : ∀ locs, va_S (sr_AC a) s.heap H locs → W p l e (sr_rm 4 101) s m args below meth c H locs 0 0 Q (F0 m 0 ls []) from by have h9 := hG [] hS; rw [hH] at h9; exact h9
  clear hS
  intro locs hS
  clear hH
  refine lv_iconst (v := 1) C0.1 C0.2.1 dX1_fractionOfAll_0 (by decide) ?_
  refine lv_istore_n (lv' := [(2, .int 1), (0, .ref (a 4)), (1, .int wt)]) C0.1 C0.2.1 dX1_fractionOfAll_1 rfl hl (by decide) rfl (fun ls hl => ?_)
  refine lv_iconst (v := 1) C0.1 C0.2.1 dX1_fractionOfAll_2 (by decide) ?_
  refine lv_istore_n (lv' := [(3, .int 1), (2, .int 1), (0, .ref (a 4)), (1, .int wt)]) C0.1 C0.2.1 dX1_fractionOfAll_3 rfl hl (by decide) rfl (fun ls hl => ?_)
  refine lv_iconst (v := 0) C0.1 C0.2.1 dX1_fractionOfAll_4 (by decide) ?_
  refine lv_istore (lv' := [(4, .int 0), (3, .int 1), (2, .int 1), (0, .ref (a 4)), (1, .int wt)]) C0.1 C0.2.1 dX1_fractionOfAll_5 hl (by decide) rfl (fun ls hl => ?_)
  refine lv_iload C0.1 C0.2.1 dX1_fractionOfAll_7 (lv_at hl 0 rfl) ?_
  refine lv_iconst (v := 3) C0.1 C0.2.1 dX1_fractionOfAll_9 (by decide) ?_
  refine lv_icmp_ge (tgt := 47) C0.1 C0.2.1 dX1_fractionOfAll_10 (by decide) (fun q => absurd q (by decide)) (fun _ => ?_)
  refine lv_aload_n C0.1 C0.2.1 dX1_fractionOfAll_13 rfl (lv_at hl 3 rfl) ?_
  refine lv_iload C0.1 C0.2.1 dX1_fractionOfAll_14 (lv_at hl 0 rfl) ?_
  refine sr_gVv (As := [.int 0]) C0 hK hP hZ (sr_Zs hZ hZ0 hS) (cc_X1_weigh ha 0 hI hT (by omega)) sk_X1_weigh sv_X1_weigh sw_413 (ci := 1) rfl sr_wC4 rfl rfl hl.1 (Nat.le_of_ble_eq_true rfl) (Nat.le_of_ble_eq_true rfl) (Nat.le_of_ble_eq_true rfl) dX1_fractionOfAll_16 ⟨Nat.zero_le _, Nat.zero_le _⟩ hS (fun sg1 H locs hF hP hS => ?_)
  refine lv_iload_n C0.1 C0.2.1 dX1_fractionOfAll_19 rfl (lv_at hl 2 rfl) ?_
  refine lv_aload_n C0.1 C0.2.1 dX1_fractionOfAll_20 rfl (lv_at hl 3 rfl) ?_
  refine lv_aload_n C0.1 C0.2.1 dX1_fractionOfAll_21 rfl (lv_at hl 3 rfl) ?_
  refine sr_get (v := .ref (a 3)) C0 hK hP sr_inX1 sr_wC4 rfl 1 (by decide) sw_115 rfl dX1_fractionOfAll_22 ?_
  refine sr_get (v := .ref (a 16)) C0 hK hP sr_inX3 sr_wC3 rfl 3 (by decide) sw_93 rfl dX1_fractionOfAll_25 ?_
  refine lv_iload C0.1 C0.2.1 dX1_fractionOfAll_28 (lv_at hl 0 rfl) ?_
  refine sr_ald (k := 0) C0 hK rfl hP sr_wC16 (by decide) (sr_inc (by decide)) dX1_fractionOfAll_30 ?_
  refine sr_chi (sr_IK_mk (sr_IC_K hI) (by omega)) ?_
  have := sr_IK_mk40 (sr_IC_K hI) (c := 0) (by omega)
  refine sr_pVi (As := [.int (nI (sr_mk kp 0))]) C0 hK hP hZ (sr_Zs hZ hZ0 hS) (cc_X1_sharesAt ha (sr_ru kp 0) (sr_ru kp (0 + 1)) 0 (sr_mk kp 0) hI (sr_th_at hT (by omega)) (sr_th_at hT (by omega)) hF (by omega)) sk_X1_sharesAt sv_X1_sharesAt sw_426 (ci := 1) rfl sr_wC4 rfl rfl hl.1 (Nat.le_of_ble_eq_true rfl) (Nat.le_of_ble_eq_true rfl) (Nat.le_of_ble_eq_true rfl) dX1_fractionOfAll_31 ⟨Nat.zero_le _, Nat.zero_le _⟩ ?_
  refine lv_imul C0.1 C0.2.1 dX1_fractionOfAll_34 ?_
  refine sr_chi (pk_mul 1 (sr_cN kp (sr_ru kp 0) (sr_ru kp (0 + 1)) 0 (sr_mk kp 0))) ?_
  refine lv_istore_n (lv' := [(2, .int (nI (1 * (sr_cN kp (sr_ru kp 0) (sr_ru kp (0 + 1)) 0 (sr_mk kp 0))))), (4, .int 0), (3, .int 1), (0, .ref (a 4)), (1, .int wt)]) C0.1 C0.2.1 dX1_fractionOfAll_35 rfl hl (by decide) rfl (fun ls hl => ?_)
  refine lv_iload_n C0.1 C0.2.1 dX1_fractionOfAll_36 rfl (lv_at hl 2 rfl) ?_
  refine lv_bipush (v := 16) C0.1 C0.2.1 dX1_fractionOfAll_37 (by decide) ?_
  refine lv_imul C0.1 C0.2.1 dX1_fractionOfAll_39 ?_
  refine sr_chi (by decide : (1 * 16 : Int32) = 16) ?_
  refine lv_istore_n (lv' := [(3, .int 16), (2, .int (nI (1 * (sr_cN kp (sr_ru kp 0) (sr_ru kp (0 + 1)) 0 (sr_mk kp 0))))), (4, .int 0), (0, .ref (a 4)), (1, .int wt)]) C0.1 C0.2.1 dX1_fractionOfAll_40 rfl hl (by decide) rfl (fun ls hl => ?_)
  refine lv_iinc (v := 1) (lv' := [(4, .int 1), (3, .int 16), (2, .int (nI (1 * (sr_cN kp (sr_ru kp 0) (sr_ru kp (0 + 1)) 0 (sr_mk kp 0))))), (0, .ref (a 4)), (1, .int wt)]) C0.1 C0.2.1 dX1_fractionOfAll_41 hl (k := 2) rfl (by decide) (by decide) rfl (fun ls hl => ?_)
  refine lv_goto (tgt := 7) C0.1 C0.2.1 dX1_fractionOfAll_44 (by decide) ?_
  refine lv_iload C0.1 C0.2.1 dX1_fractionOfAll_7 (lv_at hl 0 rfl) ?_
  refine lv_iconst (v := 3) C0.1 C0.2.1 dX1_fractionOfAll_9 (by decide) ?_
  refine lv_icmp_ge (tgt := 47) C0.1 C0.2.1 dX1_fractionOfAll_10 (by decide) (fun q => absurd q (by decide)) (fun _ => ?_)
  refine lv_aload_n C0.1 C0.2.1 dX1_fractionOfAll_13 rfl (lv_at hl 3 rfl) ?_
  refine lv_iload C0.1 C0.2.1 dX1_fractionOfAll_14 (lv_at hl 0 rfl) ?_
  refine sr_gVv (As := [.int 1]) C0 hK hP hZ (sr_Zs hZ hZ0 hS) (cc_X1_weigh ha 1 hI hT (by omega)) sk_X1_weigh sv_X1_weigh sw_413 (ci := 1) rfl sr_wC4 rfl rfl hl.1 (Nat.le_of_ble_eq_true rfl) (Nat.le_of_ble_eq_true rfl) (Nat.le_of_ble_eq_true rfl) dX1_fractionOfAll_16 ⟨Nat.zero_le _, Nat.zero_le _⟩ hS (fun sg2 H locs hF_2 hP hS => ?_)
  refine lv_iload_n C0.1 C0.2.1 dX1_fractionOfAll_19 rfl (lv_at hl 2 rfl) ?_
  refine lv_aload_n C0.1 C0.2.1 dX1_fractionOfAll_20 rfl (lv_at hl 3 rfl) ?_
  refine lv_aload_n C0.1 C0.2.1 dX1_fractionOfAll_21 rfl (lv_at hl 3 rfl) ?_
  refine sr_get (v := .ref (a 3)) C0 hK hP sr_inX1 sr_wC4 rfl 1 (by decide) sw_115 rfl dX1_fractionOfAll_22 ?_
  refine sr_get (v := .ref (a 16)) C0 hK hP sr_inX3 sr_wC3 rfl 3 (by decide) sw_93 rfl dX1_fractionOfAll_25 ?_
  refine lv_iload C0.1 C0.2.1 dX1_fractionOfAll_28 (lv_at hl 0 rfl) ?_
  refine sr_ald (k := 1) C0 hK rfl hP sr_wC16 (by decide) (sr_inc (by decide)) dX1_fractionOfAll_30 ?_
  refine sr_chi (sr_IK_mk (sr_IC_K hI) (by omega)) ?_
  have := sr_IK_mk40 (sr_IC_K hI) (c := 1) (by omega)
  refine sr_pVi (As := [.int (nI (sr_mk kp 1))]) C0 hK hP hZ (sr_Zs hZ hZ0 hS) (cc_X1_sharesAt ha (sr_ru kp 1) (sr_ru kp (1 + 1)) 1 (sr_mk kp 1) hI (sr_th_at hT (by omega)) (sr_th_at hT (by omega)) hF_2 (by omega)) sk_X1_sharesAt sv_X1_sharesAt sw_426 (ci := 1) rfl sr_wC4 rfl rfl hl.1 (Nat.le_of_ble_eq_true rfl) (Nat.le_of_ble_eq_true rfl) (Nat.le_of_ble_eq_true rfl) dX1_fractionOfAll_31 ⟨Nat.zero_le _, Nat.zero_le _⟩ ?_
  refine lv_imul C0.1 C0.2.1 dX1_fractionOfAll_34 ?_
  refine sr_chi (pk_mul (1 * (sr_cN kp (sr_ru kp 0) (sr_ru kp (0 + 1)) 0 (sr_mk kp 0))) (sr_cN kp (sr_ru kp 1) (sr_ru kp (1 + 1)) 1 (sr_mk kp 1))) ?_
  refine lv_istore_n (lv' := [(2, .int (nI ((1 * (sr_cN kp (sr_ru kp 0) (sr_ru kp (0 + 1)) 0 (sr_mk kp 0))) * (sr_cN kp (sr_ru kp 1) (sr_ru kp (1 + 1)) 1 (sr_mk kp 1))))), (4, .int 1), (3, .int 16), (0, .ref (a 4)), (1, .int wt)]) C0.1 C0.2.1 dX1_fractionOfAll_35 rfl hl (by decide) rfl (fun ls hl => ?_)
  refine lv_iload_n C0.1 C0.2.1 dX1_fractionOfAll_36 rfl (lv_at hl 2 rfl) ?_
  refine lv_bipush (v := 16) C0.1 C0.2.1 dX1_fractionOfAll_37 (by decide) ?_
  refine lv_imul C0.1 C0.2.1 dX1_fractionOfAll_39 ?_
  refine sr_chi (by decide : (16 * 16 : Int32) = 256) ?_
  refine lv_istore_n (lv' := [(3, .int 256), (2, .int (nI ((1 * (sr_cN kp (sr_ru kp 0) (sr_ru kp (0 + 1)) 0 (sr_mk kp 0))) * (sr_cN kp (sr_ru kp 1) (sr_ru kp (1 + 1)) 1 (sr_mk kp 1))))), (4, .int 1), (0, .ref (a 4)), (1, .int wt)]) C0.1 C0.2.1 dX1_fractionOfAll_40 rfl hl (by decide) rfl (fun ls hl => ?_)
  refine lv_iinc (v := 2) (lv' := [(4, .int 2), (3, .int 256), (2, .int (nI ((1 * (sr_cN kp (sr_ru kp 0) (sr_ru kp (0 + 1)) 0 (sr_mk kp 0))) * (sr_cN kp (sr_ru kp 1) (sr_ru kp (1 + 1)) 1 (sr_mk kp 1))))), (0, .ref (a 4)), (1, .int wt)]) C0.1 C0.2.1 dX1_fractionOfAll_41 hl (k := 2) rfl (by decide) (by decide) rfl (fun ls hl => ?_)
  refine lv_goto (tgt := 7) C0.1 C0.2.1 dX1_fractionOfAll_44 (by decide) ?_
  refine lv_iload C0.1 C0.2.1 dX1_fractionOfAll_7 (lv_at hl 0 rfl) ?_
  refine lv_iconst (v := 3) C0.1 C0.2.1 dX1_fractionOfAll_9 (by decide) ?_
  refine lv_icmp_ge (tgt := 47) C0.1 C0.2.1 dX1_fractionOfAll_10 (by decide) (fun q => absurd q (by decide)) (fun _ => ?_)
  refine lv_aload_n C0.1 C0.2.1 dX1_fractionOfAll_13 rfl (lv_at hl 3 rfl) ?_
  refine lv_iload C0.1 C0.2.1 dX1_fractionOfAll_14 (lv_at hl 0 rfl) ?_
  refine sr_gVv (As := [.int 2]) C0 hK hP hZ (sr_Zs hZ hZ0 hS) (cc_X1_weigh ha 2 hI hT (by omega)) sk_X1_weigh sv_X1_weigh sw_413 (ci := 1) rfl sr_wC4 rfl rfl hl.1 (Nat.le_of_ble_eq_true rfl) (Nat.le_of_ble_eq_true rfl) (Nat.le_of_ble_eq_true rfl) dX1_fractionOfAll_16 ⟨Nat.zero_le _, Nat.zero_le _⟩ hS (fun sg3 H locs hF_3 hP hS => ?_)
  refine lv_iload_n C0.1 C0.2.1 dX1_fractionOfAll_19 rfl (lv_at hl 2 rfl) ?_
  refine lv_aload_n C0.1 C0.2.1 dX1_fractionOfAll_20 rfl (lv_at hl 3 rfl) ?_
  refine lv_aload_n C0.1 C0.2.1 dX1_fractionOfAll_21 rfl (lv_at hl 3 rfl) ?_
  refine sr_get (v := .ref (a 3)) C0 hK hP sr_inX1 sr_wC4 rfl 1 (by decide) sw_115 rfl dX1_fractionOfAll_22 ?_
  refine sr_get (v := .ref (a 16)) C0 hK hP sr_inX3 sr_wC3 rfl 3 (by decide) sw_93 rfl dX1_fractionOfAll_25 ?_
  refine lv_iload C0.1 C0.2.1 dX1_fractionOfAll_28 (lv_at hl 0 rfl) ?_
  refine sr_ald (k := 2) C0 hK rfl hP sr_wC16 (by decide) (sr_inc (by decide)) dX1_fractionOfAll_30 ?_
  refine sr_chi (sr_IK_mk (sr_IC_K hI) (by omega)) ?_
  have := sr_IK_mk40 (sr_IC_K hI) (c := 2) (by omega)
  refine sr_pVi (As := [.int (nI (sr_mk kp 2))]) C0 hK hP hZ (sr_Zs hZ hZ0 hS) (cc_X1_sharesAt ha (sr_ru kp 2) (sr_ru kp (2 + 1)) 2 (sr_mk kp 2) hI (sr_th_at hT (by omega)) (sr_th_at hT (by omega)) hF_3 (by omega)) sk_X1_sharesAt sv_X1_sharesAt sw_426 (ci := 1) rfl sr_wC4 rfl rfl hl.1 (Nat.le_of_ble_eq_true rfl) (Nat.le_of_ble_eq_true rfl) (Nat.le_of_ble_eq_true rfl) dX1_fractionOfAll_31 ⟨Nat.zero_le _, Nat.zero_le _⟩ ?_
  refine lv_imul C0.1 C0.2.1 dX1_fractionOfAll_34 ?_
  refine sr_chi (pk_mul ((1 * (sr_cN kp (sr_ru kp 0) (sr_ru kp (0 + 1)) 0 (sr_mk kp 0))) * (sr_cN kp (sr_ru kp 1) (sr_ru kp (1 + 1)) 1 (sr_mk kp 1))) (sr_cN kp (sr_ru kp 2) (sr_ru kp (2 + 1)) 2 (sr_mk kp 2))) ?_
  refine lv_istore_n (lv' := [(2, .int (nI (((1 * (sr_cN kp (sr_ru kp 0) (sr_ru kp (0 + 1)) 0 (sr_mk kp 0))) * (sr_cN kp (sr_ru kp 1) (sr_ru kp (1 + 1)) 1 (sr_mk kp 1))) * (sr_cN kp (sr_ru kp 2) (sr_ru kp (2 + 1)) 2 (sr_mk kp 2))))), (4, .int 2), (3, .int 256), (0, .ref (a 4)), (1, .int wt)]) C0.1 C0.2.1 dX1_fractionOfAll_35 rfl hl (by decide) rfl (fun ls hl => ?_)
  refine lv_iload_n C0.1 C0.2.1 dX1_fractionOfAll_36 rfl (lv_at hl 2 rfl) ?_
  refine lv_bipush (v := 16) C0.1 C0.2.1 dX1_fractionOfAll_37 (by decide) ?_
  refine lv_imul C0.1 C0.2.1 dX1_fractionOfAll_39 ?_
  refine sr_chi (by decide : (256 * 16 : Int32) = 4096) ?_
  refine lv_istore_n (lv' := [(3, .int 4096), (2, .int (nI (((1 * (sr_cN kp (sr_ru kp 0) (sr_ru kp (0 + 1)) 0 (sr_mk kp 0))) * (sr_cN kp (sr_ru kp 1) (sr_ru kp (1 + 1)) 1 (sr_mk kp 1))) * (sr_cN kp (sr_ru kp 2) (sr_ru kp (2 + 1)) 2 (sr_mk kp 2))))), (4, .int 2), (0, .ref (a 4)), (1, .int wt)]) C0.1 C0.2.1 dX1_fractionOfAll_40 rfl hl (by decide) rfl (fun ls hl => ?_)
  refine lv_iinc (v := 3) (lv' := [(4, .int 3), (3, .int 4096), (2, .int (nI (((1 * (sr_cN kp (sr_ru kp 0) (sr_ru kp (0 + 1)) 0 (sr_mk kp 0))) * (sr_cN kp (sr_ru kp 1) (sr_ru kp (1 + 1)) 1 (sr_mk kp 1))) * (sr_cN kp (sr_ru kp 2) (sr_ru kp (2 + 1)) 2 (sr_mk kp 2))))), (0, .ref (a 4)), (1, .int wt)]) C0.1 C0.2.1 dX1_fractionOfAll_41 hl (k := 2) rfl (by decide) (by decide) rfl (fun ls hl => ?_)
  refine lv_goto (tgt := 7) C0.1 C0.2.1 dX1_fractionOfAll_44 (by decide) ?_
  refine lv_iload C0.1 C0.2.1 dX1_fractionOfAll_7 (lv_at hl 0 rfl) ?_
  refine lv_iconst (v := 3) C0.1 C0.2.1 dX1_fractionOfAll_9 (by decide) ?_
  refine lv_icmp_ge (tgt := 47) C0.1 C0.2.1 dX1_fractionOfAll_10 (by decide) (fun _ => ?_) (fun q => absurd q (by decide))
  refine lv_iconst (v := 0) C0.1 C0.2.1 dX1_fractionOfAll_47 (by decide) ?_
  refine lv_istore (lv' := [(4, .int 0), (3, .int 4096), (2, .int (nI (((1 * (sr_cN kp (sr_ru kp 0) (sr_ru kp (0 + 1)) 0 (sr_mk kp 0))) * (sr_cN kp (sr_ru kp 1) (sr_ru kp (1 + 1)) 1 (sr_mk kp 1))) * (sr_cN kp (sr_ru kp 2) (sr_ru kp (2 + 1)) 2 (sr_mk kp 2))))), (0, .ref (a 4)), (1, .int wt)]) C0.1 C0.2.1 dX1_fractionOfAll_48 hl (by decide) rfl (fun ls hl => ?_)
  have lp50 : ∀ (n50 : Nat) (i : Nat) (A_ : Nat) (B_ : Nat) (H : Heap) (locs : List Loc) (ls : Array Slot), (i ≤ 12) → (13 ≤ i + n50) → (A_ ≤ 4096) → (B_ ≤ 4096) → (sr_hv 12 (sr_c3 kp) 4096 = sr_hv (12 - i) A_ B_) → va_P D vwCl (sr_WC cI cR a kp cx sg3) H → va_S (sr_AC a) s.heap H locs → lv_has ls 5 [(4, .int (nI i)), (3, .int (nI B_)), (2, .int (nI A_)), (0, .ref (a 4)), (1, .int wt)] → W p l e (sr_rm 4 101) s m args below meth c H locs 0 0 Q (F0 m 50 ls []) := by
    intro n50
    induction n50 with
    | zero =>
      intro i A_ B_ H locs ls h_i h_n h_A h_B h_f hP hS hl
      exact absurd h_n (by omega)
    | succ n50 ih50 =>
      intro i A_ B_ H locs ls h_i h_n h_A h_B h_f hP hS hl
      refine lv_iload C0.1 C0.2.1 dX1_fractionOfAll_50 (lv_at hl 0 rfl) ?_
      refine lv_bipush (v := 12) C0.1 C0.2.1 dX1_fractionOfAll_52 (by decide) ?_
      refine lv_icmp_ge (tgt := 77) C0.1 C0.2.1 dX1_fractionOfAll_54 (by decide) (fun c54 => ?_) (fun c54 => ?_)
      · have g54 : 12 ≤ i := (nI_leI (a := 12) (b := i) (by omega) (by omega)).mp c54
        refine lv_iload_n C0.1 C0.2.1 dX1_fractionOfAll_77 rfl (lv_at hl 4 rfl) ?_
        refine lv_if_ne (tgt := 85) C0.1 C0.2.1 dX1_fractionOfAll_78 (by decide) (fun c78 => ?_) (fun c78 => ?_)
        · refine lv_iload_n C0.1 C0.2.1 dX1_fractionOfAll_85 rfl (lv_at hl 1 rfl) ?_
          have hz : sr_hv 12 (sr_c3 kp) 4096 = (A_, B_) := by rw [h_f, show 12 - i = 0 by omega]; rfl
          exact hret _ _ _ sg3 _ _ _ dX1_fractionOfAll_86 hP hS rfl (by unfold sr_fo; rw [if_neg c78, hz]) trivial
        · refine lv_iload_n C0.1 C0.2.1 dX1_fractionOfAll_81 rfl (lv_at hl 2 rfl) ?_
          refine lv_goto (tgt := 86) C0.1 C0.2.1 dX1_fractionOfAll_82 (by decide) ?_
          have hz : sr_hv 12 (sr_c3 kp) 4096 = (A_, B_) := by rw [h_f, show 12 - i = 0 by omega]; rfl
          exact hret _ _ _ sg3 _ _ _ dX1_fractionOfAll_86 hP hS rfl (by unfold sr_fo; rw [if_pos c78, hz]) trivial
      · have g54 : ¬ (12 ≤ i) := fun q => c54 ((nI_leI (a := 12) (b := i) (by omega) (by omega)).mpr q)
        refine lv_iload_n C0.1 C0.2.1 dX1_fractionOfAll_57 rfl (lv_at hl 2 rfl) ?_
        refine lv_iconst (v := 2) C0.1 C0.2.1 dX1_fractionOfAll_58 (by decide) ?_
        refine lv_irem C0.1 C0.2.1 dX1_fractionOfAll_59 (by decide) ?_
        refine sr_chi (pk_rem (a := A_) (d := 2) (by omega) (by omega) (by omega)) ?_
        refine lv_if_ne (tgt := 77) C0.1 C0.2.1 dX1_fractionOfAll_60 (by decide) (fun c60 => ?_) (fun c60 => ?_)
        · have g60 : ¬ (A_ % 2 = 0) := fun q => c60 ((nI_eq (a := (A_ % 2)) (b := 0) (by omega) (by omega)).mpr q)
          refine lv_iload_n C0.1 C0.2.1 dX1_fractionOfAll_77 rfl (lv_at hl 4 rfl) ?_
          refine lv_if_ne (tgt := 85) C0.1 C0.2.1 dX1_fractionOfAll_78 (by decide) (fun c78 => ?_) (fun c78 => ?_)
          · refine lv_iload_n C0.1 C0.2.1 dX1_fractionOfAll_85 rfl (lv_at hl 1 rfl) ?_
            have hz : sr_hv 12 (sr_c3 kp) 4096 = (A_, B_) := by rw [h_f, sr_hv_o (by omega) g60]
            exact hret _ _ _ sg3 _ _ _ dX1_fractionOfAll_86 hP hS rfl (by unfold sr_fo; rw [if_neg c78, hz]) trivial
          · refine lv_iload_n C0.1 C0.2.1 dX1_fractionOfAll_81 rfl (lv_at hl 2 rfl) ?_
            refine lv_goto (tgt := 86) C0.1 C0.2.1 dX1_fractionOfAll_82 (by decide) ?_
            have hz : sr_hv 12 (sr_c3 kp) 4096 = (A_, B_) := by rw [h_f, sr_hv_o (by omega) g60]
            exact hret _ _ _ sg3 _ _ _ dX1_fractionOfAll_86 hP hS rfl (by unfold sr_fo; rw [if_pos c78, hz]) trivial
        · have g60 : A_ % 2 = 0 := (nI_eq (a := (A_ % 2)) (b := 0) (by omega) (by omega)).mp c60
          refine lv_iload_n C0.1 C0.2.1 dX1_fractionOfAll_63 rfl (lv_at hl 2 rfl) ?_
          refine lv_iconst (v := 2) C0.1 C0.2.1 dX1_fractionOfAll_64 (by decide) ?_
          refine lv_idiv C0.1 C0.2.1 dX1_fractionOfAll_65 (by decide) ?_
          refine sr_chi (pk_div (a := A_) (d := 2) (by omega) (by omega) (by omega)) ?_
          refine lv_istore_n (lv' := [(2, .int (nI (A_ / 2))), (4, .int (nI i)), (3, .int (nI B_)), (0, .ref (a 4)), (1, .int wt)]) C0.1 C0.2.1 dX1_fractionOfAll_66 rfl hl (by decide) rfl (fun ls hl => ?_)
          refine lv_iload_n C0.1 C0.2.1 dX1_fractionOfAll_67 rfl (lv_at hl 2 rfl) ?_
          refine lv_iconst (v := 2) C0.1 C0.2.1 dX1_fractionOfAll_68 (by decide) ?_
          refine lv_idiv C0.1 C0.2.1 dX1_fractionOfAll_69 (by decide) ?_
          refine sr_chi (pk_div (a := B_) (d := 2) (by omega) (by omega) (by omega)) ?_
          refine lv_istore_n (lv' := [(3, .int (nI (B_ / 2))), (2, .int (nI (A_ / 2))), (4, .int (nI i)), (0, .ref (a 4)), (1, .int wt)]) C0.1 C0.2.1 dX1_fractionOfAll_70 rfl hl (by decide) rfl (fun ls hl => ?_)
          refine lv_iinc (v := (nI (i + 1))) (lv' := [(4, .int (nI (i + 1))), (3, .int (nI (B_ / 2))), (2, .int (nI (A_ / 2))), (0, .ref (a 4)), (1, .int wt)]) C0.1 C0.2.1 dX1_fractionOfAll_71 hl (k := 2) rfl (nI_1 i) (by decide) rfl (fun ls hl => ?_)
          refine lv_goto (tgt := 50) C0.1 C0.2.1 dX1_fractionOfAll_74 (by decide) ?_
          exact ih50 (i + 1) (A_ / 2) (B_ / 2) _ _ _ (by omega) (by omega) (by omega) (by omega) (by rw [h_f, sr_hv_e (by omega) g60]) hP hS (lv_sub hl [0, 1, 2, 3, 4] rfl)
  exact lp50 13 0 (((1 * (sr_cN kp (sr_ru kp 0) (sr_ru kp (0 + 1)) 0 (sr_mk kp 0))) * (sr_cN kp (sr_ru kp 1) (sr_ru kp (1 + 1)) 1 (sr_mk kp 1))) * (sr_cN kp (sr_ru kp 2) (sr_ru kp (2 + 1)) 2 (sr_mk kp 2))) 4096 _ _ _ (by omega) (by omega) (sr_c3_le kp) (by omega) rfl hP hS (lv_sub hl [0, 1, 2, 3, 4] rfl)
set_option maxRecDepth 100000 in
set_option maxHeartbeats 4000000 in
theorem cc_X1_safest {l : Launch} {D : va_G} {cI cR : ClassId} {a : Nat → Nat} (ha : ∀ i j, i < 36 → j < 36 → a i = a j → i = j) {kp cx sg : sr_M} (cn : Nat) (k_ : Int32) (hI : sr_IC kp cx) (hT : sr_th kp) (hs_cn : cn < 3) : sr_G l D (sr_tC cI cR) (sr_ZC a) (sr_AC a) (sr_WC cI cR a kp cx sg) yX1_safest cX1_safest 4 (some .int) 4 101 [.ref (a 4), .int (nI cn), .int k_] (S := sr_M) (fun u => True) (fun u => sr_WC cI cR a kp cx u) (fun u => some (.int (sr_sf kp (sr_ru kp cn) (sr_ru kp (cn + 1)) cn k_))) := by
  refine sr_Gie (by decide +kernel) (Nat.le_of_ble_eq_true rfl) (fun p e s m args below meth c ls Q B hret => ?_)
  obtain ⟨C0, hP, hK, hZ0, hl⟩ := B
  have hZ : sr_Zok (sr_AC a) (sr_ZC a) := sr_ZCok a
  have hS : va_S (sr_AC a) s.heap s.heap [] := va_S.rf
  have hl : lv_has ls 4 [(0, .ref (a 4)), (1, .int (nI cn)), (2, .int k_)] := hl
  obtain ⟨H, hH⟩ : ∃ H, H = s.heap := ⟨_, rfl⟩
  have hP : va_P D vwCl (sr_WC cI cR a kp cx sg) H := by rw [hH]; exact hP
  have hS : va_S (sr_AC a) s.heap H [] := by rw [hH]; exact hS
  suffices hG : ∀ locs, va_S (sr_AC a) s.heap H locs → W p l e (sr_rm 4 101) s m args below meth c H locs 0 0 Q (F0 m 0 ls []) from by have h9 := hG [] hS; rw [hH] at h9; exact h9
  clear hS
  intro locs hS
  clear hH
  refine lv_aload_n C0.1 C0.2.1 dX1_safest_0 rfl (lv_at hl 0 rfl) ?_
  refine lv_iload_n C0.1 C0.2.1 dX1_safest_1 rfl (lv_at hl 1 rfl) ?_
  refine sr_gVv (As := [.int (nI cn)]) C0 hK hP hZ (sr_Zs hZ hZ0 hS) (cc_X1_weigh ha cn hI hT (by omega)) sk_X1_weigh sv_X1_weigh sw_413 (ci := 1) rfl sr_wC4 rfl rfl hl.1 (Nat.le_of_ble_eq_true rfl) (Nat.le_of_ble_eq_true rfl) (Nat.le_of_ble_eq_true rfl) dX1_safest_2 ⟨Nat.zero_le _, Nat.zero_le _⟩ hS (fun sg1 H locs hF hP hS => ?_)
  refine lv_bipush (v := 40) C0.1 C0.2.1 dX1_safest_5 (by decide) ?_
  refine lv_istore_n (lv' := [(3, .int 40), (0, .ref (a 4)), (1, .int (nI cn)), (2, .int k_)]) C0.1 C0.2.1 dX1_safest_7 rfl hl (by decide) rfl (fun ls hl => ?_)
  have lp8 : ∀ (n8 : Nat) (j : Nat) (ls : Array Slot), (j ≤ 41) → (j + 1 ≤ n8) → (sr_sf kp (sr_ru kp cn) (sr_ru kp (cn + 1)) cn k_ = sr_dn (fun m => decide (k_ ≤ nI (sr_cN kp (sr_ru kp cn) (sr_ru kp (cn + 1)) cn m))) j) → lv_has ls 4 [(3, .int (nI j + (-1))), (0, .ref (a 4)), (1, .int (nI cn)), (2, .int k_)] → W p l e (sr_rm 4 101) s m args below meth c H locs 0 0 Q (F0 m 8 ls []) := by
    intro n8
    induction n8 with
    | zero =>
      intro j ls h_i h_n h_f hl
      exact absurd h_n (by omega)
    | succ n8 ih8 =>
      intro j ls h_i h_n h_f hl
      refine lv_iload_n C0.1 C0.2.1 dX1_safest_8 rfl (lv_at hl 0 rfl) ?_
      refine lv_if_lt (tgt := 29) C0.1 C0.2.1 dX1_safest_9 (by decide) (fun c9 => ?_) (fun c9 => ?_)
      · refine lv_iconst (v := (-1)) C0.1 C0.2.1 dX1_safest_29 (by decide) ?_
        have hj : j = 0 := by rcases Nat.eq_zero_or_pos j with q | q; exact q; exact absurd c9 (by obtain ⟨jj, rfl⟩ : ∃ jj, j = jj + 1 := ⟨j - 1, by omega⟩; rw [pk_m1]; exact nI_pos (by omega))
        exact hret _ _ _ sg1 _ _ _ dX1_safest_30 hP hS rfl (by rw [h_f, hj]; rfl) trivial
      · obtain ⟨jj, rfl⟩ : ∃ jj, j = jj + 1 := ⟨j - 1, by have : ¬ j = 0 := fun q => c9 (by rw [q]; decide); omega⟩
        rw [pk_m1] at hl
        refine lv_aload_n C0.1 C0.2.1 dX1_safest_12 rfl (lv_at hl 1 rfl) ?_
        refine lv_iload_n C0.1 C0.2.1 dX1_safest_13 rfl (lv_at hl 0 rfl) ?_
        refine sr_pVi (As := [.int (nI jj)]) C0 hK hP hZ (sr_Zs hZ hZ0 hS) (cc_X1_sharesAt ha (sr_ru kp cn) (sr_ru kp (cn + 1)) cn jj hI (sr_th_at hT (by omega)) (sr_th_at hT (by omega)) hF (by omega)) sk_X1_sharesAt sv_X1_sharesAt sw_426 (ci := 1) rfl sr_wC4 rfl rfl hl.1 (Nat.le_of_ble_eq_true rfl) (Nat.le_of_ble_eq_true rfl) (Nat.le_of_ble_eq_true rfl) dX1_safest_14 ⟨Nat.zero_le _, Nat.zero_le _⟩ ?_
        refine lv_iload_n C0.1 C0.2.1 dX1_safest_17 rfl (lv_at hl 3 rfl) ?_
        refine lv_icmp_lt (tgt := 23) C0.1 C0.2.1 dX1_safest_18 (by decide) (fun c18 => ?_) (fun c18 => ?_)
        · refine lv_iinc (v := ((nI jj) + (-1))) (lv' := [(3, .int ((nI jj) + (-1))), (0, .ref (a 4)), (1, .int (nI cn)), (2, .int k_)]) C0.1 C0.2.1 dX1_safest_23 hl (k := 0) rfl rfl (by decide) rfl (fun ls hl => ?_)
          refine lv_goto (tgt := 8) C0.1 C0.2.1 dX1_safest_26 (by decide) ?_
          exact ih8 jj _ (by omega) (by omega) (by rw [h_f]; exact if_neg (fun q => absurd (of_decide_eq_true q) (Int32.not_le.mpr c18))) (lv_sub hl [0, 1, 2, 3] rfl)
        · refine lv_iload_n C0.1 C0.2.1 dX1_safest_21 rfl (lv_at hl 0 rfl) ?_
          exact hret _ _ _ sg1 _ _ _ dX1_safest_22 hP hS rfl (by rw [h_f]; exact (if_pos (decide_eq_true (Int32.not_lt.mp c18))).symm) trivial
  exact lp8 42 41 _ (by omega) (by omega) rfl (lv_sub hl [0, 1, 2, 3] rfl)
set_option maxRecDepth 100000 in
set_option maxHeartbeats 4000000 in
theorem cc_X1_guilty {l : Launch} {D : va_G} {cI cR : ClassId} {a : Nat → Nat} (ha : ∀ i j, i < 36 → j < 36 → a i = a j → i = j) {kp cx sg : sr_M} (cn : Nat) (x_ : Int32) (hI : sr_IC kp cx) (hT : sr_th kp) (hs_cn : cn < 3) : sr_P l D (sr_tC cI cR) (sr_ZC a) (sr_WC cI cR a kp cx sg) yX1_guilty cX1_guilty 5 (some .int) 4 99 [.ref (a 4), .int (nI cn), .int x_] (some (.int (sr_gu kp cn x_))) := by
  refine sr_Pie (by decide +kernel) (Nat.le_of_ble_eq_true rfl) (fun p e s m args below meth c ls Q B hret => ?_)
  obtain ⟨C0, hP, hK, hZ0, hl⟩ := B
  have hZ : sr_Zok (sr_AC a) (sr_ZC a) := sr_ZCok a
  have hS : va_S (sr_AC a) s.heap s.heap [] := va_S.rf
  have hl : lv_has ls 5 [(0, .ref (a 4)), (1, .int (nI cn)), (2, .int x_)] := hl
  refine lv_iconst (v := 0) C0.1 C0.2.1 dX1_guilty_0 (by decide) ?_
  refine lv_istore_n (lv' := [(3, .int 0), (0, .ref (a 4)), (1, .int (nI cn)), (2, .int x_)]) C0.1 C0.2.1 dX1_guilty_1 rfl hl (by decide) rfl (fun ls hl => ?_)
  refine lv_iconst (v := 0) C0.1 C0.2.1 dX1_guilty_2 (by decide) ?_
  refine lv_istore (lv' := [(4, .int 0), (3, .int 0), (0, .ref (a 4)), (1, .int (nI cn)), (2, .int x_)]) C0.1 C0.2.1 dX1_guilty_3 hl (by decide) rfl (fun ls hl => ?_)
  refine lv_iload C0.1 C0.2.1 dX1_guilty_5 (lv_at hl 0 rfl) ?_
  refine lv_iconst (v := 5) C0.1 C0.2.1 dX1_guilty_7 (by decide) ?_
  refine lv_icmp_ge (tgt := 42) C0.1 C0.2.1 dX1_guilty_8 (by decide) (fun q => absurd q (by decide)) (fun _ => ?_)
  refine lv_aload_n C0.1 C0.2.1 dX1_guilty_11 rfl (lv_at hl 2 rfl) ?_
  refine sr_get (v := .ref (a 3)) C0 hK hP sr_inX1 sr_wC4 rfl 1 (by decide) sw_115 rfl dX1_guilty_12 ?_
  refine lv_iload_n C0.1 C0.2.1 dX1_guilty_15 rfl (lv_at hl 3 rfl) ?_
  refine lv_aload_n C0.1 C0.2.1 dX1_guilty_16 rfl (lv_at hl 2 rfl) ?_
  refine lv_iload C0.1 C0.2.1 dX1_guilty_17 (lv_at hl 0 rfl) ?_
  refine sr_pVi (As := [.int 0]) C0 hK hP hZ hZ0 (cc_X1_slipAt ha 0 hI) sk_X1_slipAt sv_X1_slipAt sw_417 (ci := 1) rfl sr_wC4 rfl rfl hl.1 (Nat.le_of_ble_eq_true rfl) (Nat.le_of_ble_eq_true rfl) (Nat.le_of_ble_eq_true rfl) dX1_guilty_19 ⟨Nat.zero_le _, Nat.zero_le _⟩ ?_
  refine sr_pVi (As := [.int (nI cn), .int (sr_sp kp 0)]) C0 hK hP hZ hZ0 (cc_X3_meeting ha cn (sr_sp kp 0) hI hT (by omega) (by first | assumption | exact sr_IK_sl (sr_IC_K hI) (by omega) | exact sr_bs0 | exact sr_bsp (sr_IC_K hI) (by omega))) sk_X3_meeting sv_X3_meeting sw_502 (ci := 3) rfl sr_wC3 rfl rfl hl.1 (Nat.le_of_ble_eq_true rfl) (Nat.le_of_ble_eq_true rfl) (Nat.le_of_ble_eq_true rfl) dX1_guilty_22 ⟨Nat.zero_le _, Nat.zero_le _⟩ ?_
  refine lv_iload_n C0.1 C0.2.1 dX1_guilty_25 rfl (lv_at hl 4 rfl) ?_
  have hJ36 : ∀ (ls : Array Slot) (j36_3 : Int32), j36_3 = (if (sr_mt kp (sr_ru kp cn) (sr_ru kp (cn + 1)) cn (kp 3 cn) (sr_sp kp 0)) = x_ then (0 ||| 1) else 0) → lv_has ls 5 [(4, .int 0), (3, .int j36_3), (0, .ref (a 4)), (1, .int (nI cn)), (2, .int x_)] → W p l e (sr_rm 4 99) s m args below meth c s.heap [] 0 0 Q (F0 m 36 ls []) := by
    intro ls j36_3 e_j36_3 hl
    subst e_j36_3
    refine lv_iinc (v := 1) (lv' := [(4, .int 1), (3, .int (if (sr_mt kp (sr_ru kp cn) (sr_ru kp (cn + 1)) cn (kp 3 cn) (sr_sp kp 0)) = x_ then (0 ||| 1) else 0)), (0, .ref (a 4)), (1, .int (nI cn)), (2, .int x_)]) C0.1 C0.2.1 dX1_guilty_36 hl (k := 0) rfl (by decide) (by decide) rfl (fun ls hl => ?_)
    refine lv_goto (tgt := 5) C0.1 C0.2.1 dX1_guilty_39 (by decide) ?_
    refine lv_iload C0.1 C0.2.1 dX1_guilty_5 (lv_at hl 0 rfl) ?_
    refine lv_iconst (v := 5) C0.1 C0.2.1 dX1_guilty_7 (by decide) ?_
    refine lv_icmp_ge (tgt := 42) C0.1 C0.2.1 dX1_guilty_8 (by decide) (fun q => absurd q (by decide)) (fun _ => ?_)
    refine lv_aload_n C0.1 C0.2.1 dX1_guilty_11 rfl (lv_at hl 2 rfl) ?_
    refine sr_get (v := .ref (a 3)) C0 hK hP sr_inX1 sr_wC4 rfl 1 (by decide) sw_115 rfl dX1_guilty_12 ?_
    refine lv_iload_n C0.1 C0.2.1 dX1_guilty_15 rfl (lv_at hl 3 rfl) ?_
    refine lv_aload_n C0.1 C0.2.1 dX1_guilty_16 rfl (lv_at hl 2 rfl) ?_
    refine lv_iload C0.1 C0.2.1 dX1_guilty_17 (lv_at hl 0 rfl) ?_
    refine sr_pVi (As := [.int 1]) C0 hK hP hZ hZ0 (cc_X1_slipAt ha 1 hI) sk_X1_slipAt sv_X1_slipAt sw_417 (ci := 1) rfl sr_wC4 rfl rfl hl.1 (Nat.le_of_ble_eq_true rfl) (Nat.le_of_ble_eq_true rfl) (Nat.le_of_ble_eq_true rfl) dX1_guilty_19 ⟨Nat.zero_le _, Nat.zero_le _⟩ ?_
    refine sr_pVi (As := [.int (nI cn), .int (sr_sp kp 1)]) C0 hK hP hZ hZ0 (cc_X3_meeting ha cn (sr_sp kp 1) hI hT (by omega) (by first | assumption | exact sr_IK_sl (sr_IC_K hI) (by omega) | exact sr_bs0 | exact sr_bsp (sr_IC_K hI) (by omega))) sk_X3_meeting sv_X3_meeting sw_502 (ci := 3) rfl sr_wC3 rfl rfl hl.1 (Nat.le_of_ble_eq_true rfl) (Nat.le_of_ble_eq_true rfl) (Nat.le_of_ble_eq_true rfl) dX1_guilty_22 ⟨Nat.zero_le _, Nat.zero_le _⟩ ?_
    refine lv_iload_n C0.1 C0.2.1 dX1_guilty_25 rfl (lv_at hl 4 rfl) ?_
    have hJ36_2 : ∀ (ls : Array Slot) (j36_3 : Int32), j36_3 = (if (sr_mt kp (sr_ru kp cn) (sr_ru kp (cn + 1)) cn (kp 3 cn) (sr_sp kp 1)) = x_ then ((if (sr_mt kp (sr_ru kp cn) (sr_ru kp (cn + 1)) cn (kp 3 cn) (sr_sp kp 0)) = x_ then (0 ||| 1) else 0) ||| 2) else (if (sr_mt kp (sr_ru kp cn) (sr_ru kp (cn + 1)) cn (kp 3 cn) (sr_sp kp 0)) = x_ then (0 ||| 1) else 0)) → lv_has ls 5 [(4, .int 1), (3, .int j36_3), (0, .ref (a 4)), (1, .int (nI cn)), (2, .int x_)] → W p l e (sr_rm 4 99) s m args below meth c s.heap [] 0 0 Q (F0 m 36 ls []) := by
      intro ls j36_3 e_j36_3 hl
      subst e_j36_3
      refine lv_iinc (v := 2) (lv' := [(4, .int 2), (3, .int (if (sr_mt kp (sr_ru kp cn) (sr_ru kp (cn + 1)) cn (kp 3 cn) (sr_sp kp 1)) = x_ then ((if (sr_mt kp (sr_ru kp cn) (sr_ru kp (cn + 1)) cn (kp 3 cn) (sr_sp kp 0)) = x_ then (0 ||| 1) else 0) ||| 2) else (if (sr_mt kp (sr_ru kp cn) (sr_ru kp (cn + 1)) cn (kp 3 cn) (sr_sp kp 0)) = x_ then (0 ||| 1) else 0))), (0, .ref (a 4)), (1, .int (nI cn)), (2, .int x_)]) C0.1 C0.2.1 dX1_guilty_36 hl (k := 0) rfl (by decide) (by decide) rfl (fun ls hl => ?_)
      refine lv_goto (tgt := 5) C0.1 C0.2.1 dX1_guilty_39 (by decide) ?_
      refine lv_iload C0.1 C0.2.1 dX1_guilty_5 (lv_at hl 0 rfl) ?_
      refine lv_iconst (v := 5) C0.1 C0.2.1 dX1_guilty_7 (by decide) ?_
      refine lv_icmp_ge (tgt := 42) C0.1 C0.2.1 dX1_guilty_8 (by decide) (fun q => absurd q (by decide)) (fun _ => ?_)
      refine lv_aload_n C0.1 C0.2.1 dX1_guilty_11 rfl (lv_at hl 2 rfl) ?_
      refine sr_get (v := .ref (a 3)) C0 hK hP sr_inX1 sr_wC4 rfl 1 (by decide) sw_115 rfl dX1_guilty_12 ?_
      refine lv_iload_n C0.1 C0.2.1 dX1_guilty_15 rfl (lv_at hl 3 rfl) ?_
      refine lv_aload_n C0.1 C0.2.1 dX1_guilty_16 rfl (lv_at hl 2 rfl) ?_
      refine lv_iload C0.1 C0.2.1 dX1_guilty_17 (lv_at hl 0 rfl) ?_
      refine sr_pVi (As := [.int 2]) C0 hK hP hZ hZ0 (cc_X1_slipAt ha 2 hI) sk_X1_slipAt sv_X1_slipAt sw_417 (ci := 1) rfl sr_wC4 rfl rfl hl.1 (Nat.le_of_ble_eq_true rfl) (Nat.le_of_ble_eq_true rfl) (Nat.le_of_ble_eq_true rfl) dX1_guilty_19 ⟨Nat.zero_le _, Nat.zero_le _⟩ ?_
      refine sr_pVi (As := [.int (nI cn), .int (sr_sp kp 2)]) C0 hK hP hZ hZ0 (cc_X3_meeting ha cn (sr_sp kp 2) hI hT (by omega) (by first | assumption | exact sr_IK_sl (sr_IC_K hI) (by omega) | exact sr_bs0 | exact sr_bsp (sr_IC_K hI) (by omega))) sk_X3_meeting sv_X3_meeting sw_502 (ci := 3) rfl sr_wC3 rfl rfl hl.1 (Nat.le_of_ble_eq_true rfl) (Nat.le_of_ble_eq_true rfl) (Nat.le_of_ble_eq_true rfl) dX1_guilty_22 ⟨Nat.zero_le _, Nat.zero_le _⟩ ?_
      refine lv_iload_n C0.1 C0.2.1 dX1_guilty_25 rfl (lv_at hl 4 rfl) ?_
      have hJ36_3 : ∀ (ls : Array Slot) (j36_3 : Int32), j36_3 = (if (sr_mt kp (sr_ru kp cn) (sr_ru kp (cn + 1)) cn (kp 3 cn) (sr_sp kp 2)) = x_ then ((if (sr_mt kp (sr_ru kp cn) (sr_ru kp (cn + 1)) cn (kp 3 cn) (sr_sp kp 1)) = x_ then ((if (sr_mt kp (sr_ru kp cn) (sr_ru kp (cn + 1)) cn (kp 3 cn) (sr_sp kp 0)) = x_ then (0 ||| 1) else 0) ||| 2) else (if (sr_mt kp (sr_ru kp cn) (sr_ru kp (cn + 1)) cn (kp 3 cn) (sr_sp kp 0)) = x_ then (0 ||| 1) else 0)) ||| 4) else (if (sr_mt kp (sr_ru kp cn) (sr_ru kp (cn + 1)) cn (kp 3 cn) (sr_sp kp 1)) = x_ then ((if (sr_mt kp (sr_ru kp cn) (sr_ru kp (cn + 1)) cn (kp 3 cn) (sr_sp kp 0)) = x_ then (0 ||| 1) else 0) ||| 2) else (if (sr_mt kp (sr_ru kp cn) (sr_ru kp (cn + 1)) cn (kp 3 cn) (sr_sp kp 0)) = x_ then (0 ||| 1) else 0))) → lv_has ls 5 [(4, .int 2), (3, .int j36_3), (0, .ref (a 4)), (1, .int (nI cn)), (2, .int x_)] → W p l e (sr_rm 4 99) s m args below meth c s.heap [] 0 0 Q (F0 m 36 ls []) := by
        intro ls j36_3 e_j36_3 hl
        subst e_j36_3
        refine lv_iinc (v := 3) (lv' := [(4, .int 3), (3, .int (if (sr_mt kp (sr_ru kp cn) (sr_ru kp (cn + 1)) cn (kp 3 cn) (sr_sp kp 2)) = x_ then ((if (sr_mt kp (sr_ru kp cn) (sr_ru kp (cn + 1)) cn (kp 3 cn) (sr_sp kp 1)) = x_ then ((if (sr_mt kp (sr_ru kp cn) (sr_ru kp (cn + 1)) cn (kp 3 cn) (sr_sp kp 0)) = x_ then (0 ||| 1) else 0) ||| 2) else (if (sr_mt kp (sr_ru kp cn) (sr_ru kp (cn + 1)) cn (kp 3 cn) (sr_sp kp 0)) = x_ then (0 ||| 1) else 0)) ||| 4) else (if (sr_mt kp (sr_ru kp cn) (sr_ru kp (cn + 1)) cn (kp 3 cn) (sr_sp kp 1)) = x_ then ((if (sr_mt kp (sr_ru kp cn) (sr_ru kp (cn + 1)) cn (kp 3 cn) (sr_sp kp 0)) = x_ then (0 ||| 1) else 0) ||| 2) else (if (sr_mt kp (sr_ru kp cn) (sr_ru kp (cn + 1)) cn (kp 3 cn) (sr_sp kp 0)) = x_ then (0 ||| 1) else 0)))), (0, .ref (a 4)), (1, .int (nI cn)), (2, .int x_)]) C0.1 C0.2.1 dX1_guilty_36 hl (k := 0) rfl (by decide) (by decide) rfl (fun ls hl => ?_)
        refine lv_goto (tgt := 5) C0.1 C0.2.1 dX1_guilty_39 (by decide) ?_
        refine lv_iload C0.1 C0.2.1 dX1_guilty_5 (lv_at hl 0 rfl) ?_
        refine lv_iconst (v := 5) C0.1 C0.2.1 dX1_guilty_7 (by decide) ?_
        refine lv_icmp_ge (tgt := 42) C0.1 C0.2.1 dX1_guilty_8 (by decide) (fun q => absurd q (by decide)) (fun _ => ?_)
        refine lv_aload_n C0.1 C0.2.1 dX1_guilty_11 rfl (lv_at hl 2 rfl) ?_
        refine sr_get (v := .ref (a 3)) C0 hK hP sr_inX1 sr_wC4 rfl 1 (by decide) sw_115 rfl dX1_guilty_12 ?_
        refine lv_iload_n C0.1 C0.2.1 dX1_guilty_15 rfl (lv_at hl 3 rfl) ?_
        refine lv_aload_n C0.1 C0.2.1 dX1_guilty_16 rfl (lv_at hl 2 rfl) ?_
        refine lv_iload C0.1 C0.2.1 dX1_guilty_17 (lv_at hl 0 rfl) ?_
        refine sr_pVi (As := [.int 3]) C0 hK hP hZ hZ0 (cc_X1_slipAt ha 3 hI) sk_X1_slipAt sv_X1_slipAt sw_417 (ci := 1) rfl sr_wC4 rfl rfl hl.1 (Nat.le_of_ble_eq_true rfl) (Nat.le_of_ble_eq_true rfl) (Nat.le_of_ble_eq_true rfl) dX1_guilty_19 ⟨Nat.zero_le _, Nat.zero_le _⟩ ?_
        refine sr_pVi (As := [.int (nI cn), .int (sr_sp kp 3)]) C0 hK hP hZ hZ0 (cc_X3_meeting ha cn (sr_sp kp 3) hI hT (by omega) (by first | assumption | exact sr_IK_sl (sr_IC_K hI) (by omega) | exact sr_bs0 | exact sr_bsp (sr_IC_K hI) (by omega))) sk_X3_meeting sv_X3_meeting sw_502 (ci := 3) rfl sr_wC3 rfl rfl hl.1 (Nat.le_of_ble_eq_true rfl) (Nat.le_of_ble_eq_true rfl) (Nat.le_of_ble_eq_true rfl) dX1_guilty_22 ⟨Nat.zero_le _, Nat.zero_le _⟩ ?_
        refine lv_iload_n C0.1 C0.2.1 dX1_guilty_25 rfl (lv_at hl 4 rfl) ?_
        have hJ36_4 : ∀ (ls : Array Slot) (j36_3 : Int32), j36_3 = (if (sr_mt kp (sr_ru kp cn) (sr_ru kp (cn + 1)) cn (kp 3 cn) (sr_sp kp 3)) = x_ then ((if (sr_mt kp (sr_ru kp cn) (sr_ru kp (cn + 1)) cn (kp 3 cn) (sr_sp kp 2)) = x_ then ((if (sr_mt kp (sr_ru kp cn) (sr_ru kp (cn + 1)) cn (kp 3 cn) (sr_sp kp 1)) = x_ then ((if (sr_mt kp (sr_ru kp cn) (sr_ru kp (cn + 1)) cn (kp 3 cn) (sr_sp kp 0)) = x_ then (0 ||| 1) else 0) ||| 2) else (if (sr_mt kp (sr_ru kp cn) (sr_ru kp (cn + 1)) cn (kp 3 cn) (sr_sp kp 0)) = x_ then (0 ||| 1) else 0)) ||| 4) else (if (sr_mt kp (sr_ru kp cn) (sr_ru kp (cn + 1)) cn (kp 3 cn) (sr_sp kp 1)) = x_ then ((if (sr_mt kp (sr_ru kp cn) (sr_ru kp (cn + 1)) cn (kp 3 cn) (sr_sp kp 0)) = x_ then (0 ||| 1) else 0) ||| 2) else (if (sr_mt kp (sr_ru kp cn) (sr_ru kp (cn + 1)) cn (kp 3 cn) (sr_sp kp 0)) = x_ then (0 ||| 1) else 0))) ||| 8) else (if (sr_mt kp (sr_ru kp cn) (sr_ru kp (cn + 1)) cn (kp 3 cn) (sr_sp kp 2)) = x_ then ((if (sr_mt kp (sr_ru kp cn) (sr_ru kp (cn + 1)) cn (kp 3 cn) (sr_sp kp 1)) = x_ then ((if (sr_mt kp (sr_ru kp cn) (sr_ru kp (cn + 1)) cn (kp 3 cn) (sr_sp kp 0)) = x_ then (0 ||| 1) else 0) ||| 2) else (if (sr_mt kp (sr_ru kp cn) (sr_ru kp (cn + 1)) cn (kp 3 cn) (sr_sp kp 0)) = x_ then (0 ||| 1) else 0)) ||| 4) else (if (sr_mt kp (sr_ru kp cn) (sr_ru kp (cn + 1)) cn (kp 3 cn) (sr_sp kp 1)) = x_ then ((if (sr_mt kp (sr_ru kp cn) (sr_ru kp (cn + 1)) cn (kp 3 cn) (sr_sp kp 0)) = x_ then (0 ||| 1) else 0) ||| 2) else (if (sr_mt kp (sr_ru kp cn) (sr_ru kp (cn + 1)) cn (kp 3 cn) (sr_sp kp 0)) = x_ then (0 ||| 1) else 0)))) → lv_has ls 5 [(4, .int 3), (3, .int j36_3), (0, .ref (a 4)), (1, .int (nI cn)), (2, .int x_)] → W p l e (sr_rm 4 99) s m args below meth c s.heap [] 0 0 Q (F0 m 36 ls []) := by
          intro ls j36_3 e_j36_3 hl
          subst e_j36_3
          refine lv_iinc (v := 4) (lv' := [(4, .int 4), (3, .int (if (sr_mt kp (sr_ru kp cn) (sr_ru kp (cn + 1)) cn (kp 3 cn) (sr_sp kp 3)) = x_ then ((if (sr_mt kp (sr_ru kp cn) (sr_ru kp (cn + 1)) cn (kp 3 cn) (sr_sp kp 2)) = x_ then ((if (sr_mt kp (sr_ru kp cn) (sr_ru kp (cn + 1)) cn (kp 3 cn) (sr_sp kp 1)) = x_ then ((if (sr_mt kp (sr_ru kp cn) (sr_ru kp (cn + 1)) cn (kp 3 cn) (sr_sp kp 0)) = x_ then (0 ||| 1) else 0) ||| 2) else (if (sr_mt kp (sr_ru kp cn) (sr_ru kp (cn + 1)) cn (kp 3 cn) (sr_sp kp 0)) = x_ then (0 ||| 1) else 0)) ||| 4) else (if (sr_mt kp (sr_ru kp cn) (sr_ru kp (cn + 1)) cn (kp 3 cn) (sr_sp kp 1)) = x_ then ((if (sr_mt kp (sr_ru kp cn) (sr_ru kp (cn + 1)) cn (kp 3 cn) (sr_sp kp 0)) = x_ then (0 ||| 1) else 0) ||| 2) else (if (sr_mt kp (sr_ru kp cn) (sr_ru kp (cn + 1)) cn (kp 3 cn) (sr_sp kp 0)) = x_ then (0 ||| 1) else 0))) ||| 8) else (if (sr_mt kp (sr_ru kp cn) (sr_ru kp (cn + 1)) cn (kp 3 cn) (sr_sp kp 2)) = x_ then ((if (sr_mt kp (sr_ru kp cn) (sr_ru kp (cn + 1)) cn (kp 3 cn) (sr_sp kp 1)) = x_ then ((if (sr_mt kp (sr_ru kp cn) (sr_ru kp (cn + 1)) cn (kp 3 cn) (sr_sp kp 0)) = x_ then (0 ||| 1) else 0) ||| 2) else (if (sr_mt kp (sr_ru kp cn) (sr_ru kp (cn + 1)) cn (kp 3 cn) (sr_sp kp 0)) = x_ then (0 ||| 1) else 0)) ||| 4) else (if (sr_mt kp (sr_ru kp cn) (sr_ru kp (cn + 1)) cn (kp 3 cn) (sr_sp kp 1)) = x_ then ((if (sr_mt kp (sr_ru kp cn) (sr_ru kp (cn + 1)) cn (kp 3 cn) (sr_sp kp 0)) = x_ then (0 ||| 1) else 0) ||| 2) else (if (sr_mt kp (sr_ru kp cn) (sr_ru kp (cn + 1)) cn (kp 3 cn) (sr_sp kp 0)) = x_ then (0 ||| 1) else 0))))), (0, .ref (a 4)), (1, .int (nI cn)), (2, .int x_)]) C0.1 C0.2.1 dX1_guilty_36 hl (k := 0) rfl (by decide) (by decide) rfl (fun ls hl => ?_)
          refine lv_goto (tgt := 5) C0.1 C0.2.1 dX1_guilty_39 (by decide) ?_
          refine lv_iload C0.1 C0.2.1 dX1_guilty_5 (lv_at hl 0 rfl) ?_
          refine lv_iconst (v := 5) C0.1 C0.2.1 dX1_guilty_7 (by decide) ?_
          refine lv_icmp_ge (tgt := 42) C0.1 C0.2.1 dX1_guilty_8 (by decide) (fun q => absurd q (by decide)) (fun _ => ?_)
          refine lv_aload_n C0.1 C0.2.1 dX1_guilty_11 rfl (lv_at hl 2 rfl) ?_
          refine sr_get (v := .ref (a 3)) C0 hK hP sr_inX1 sr_wC4 rfl 1 (by decide) sw_115 rfl dX1_guilty_12 ?_
          refine lv_iload_n C0.1 C0.2.1 dX1_guilty_15 rfl (lv_at hl 3 rfl) ?_
          refine lv_aload_n C0.1 C0.2.1 dX1_guilty_16 rfl (lv_at hl 2 rfl) ?_
          refine lv_iload C0.1 C0.2.1 dX1_guilty_17 (lv_at hl 0 rfl) ?_
          refine sr_pVi (As := [.int 4]) C0 hK hP hZ hZ0 (cc_X1_slipAt ha 4 hI) sk_X1_slipAt sv_X1_slipAt sw_417 (ci := 1) rfl sr_wC4 rfl rfl hl.1 (Nat.le_of_ble_eq_true rfl) (Nat.le_of_ble_eq_true rfl) (Nat.le_of_ble_eq_true rfl) dX1_guilty_19 ⟨Nat.zero_le _, Nat.zero_le _⟩ ?_
          refine sr_pVi (As := [.int (nI cn), .int (sr_sp kp 4)]) C0 hK hP hZ hZ0 (cc_X3_meeting ha cn (sr_sp kp 4) hI hT (by omega) (by first | assumption | exact sr_IK_sl (sr_IC_K hI) (by omega) | exact sr_bs0 | exact sr_bsp (sr_IC_K hI) (by omega))) sk_X3_meeting sv_X3_meeting sw_502 (ci := 3) rfl sr_wC3 rfl rfl hl.1 (Nat.le_of_ble_eq_true rfl) (Nat.le_of_ble_eq_true rfl) (Nat.le_of_ble_eq_true rfl) dX1_guilty_22 ⟨Nat.zero_le _, Nat.zero_le _⟩ ?_
          refine lv_iload_n C0.1 C0.2.1 dX1_guilty_25 rfl (lv_at hl 4 rfl) ?_
          have hJ36_5 : ∀ (ls : Array Slot) (j36_3 : Int32), j36_3 = (if (sr_mt kp (sr_ru kp cn) (sr_ru kp (cn + 1)) cn (kp 3 cn) (sr_sp kp 4)) = x_ then ((if (sr_mt kp (sr_ru kp cn) (sr_ru kp (cn + 1)) cn (kp 3 cn) (sr_sp kp 3)) = x_ then ((if (sr_mt kp (sr_ru kp cn) (sr_ru kp (cn + 1)) cn (kp 3 cn) (sr_sp kp 2)) = x_ then ((if (sr_mt kp (sr_ru kp cn) (sr_ru kp (cn + 1)) cn (kp 3 cn) (sr_sp kp 1)) = x_ then ((if (sr_mt kp (sr_ru kp cn) (sr_ru kp (cn + 1)) cn (kp 3 cn) (sr_sp kp 0)) = x_ then (0 ||| 1) else 0) ||| 2) else (if (sr_mt kp (sr_ru kp cn) (sr_ru kp (cn + 1)) cn (kp 3 cn) (sr_sp kp 0)) = x_ then (0 ||| 1) else 0)) ||| 4) else (if (sr_mt kp (sr_ru kp cn) (sr_ru kp (cn + 1)) cn (kp 3 cn) (sr_sp kp 1)) = x_ then ((if (sr_mt kp (sr_ru kp cn) (sr_ru kp (cn + 1)) cn (kp 3 cn) (sr_sp kp 0)) = x_ then (0 ||| 1) else 0) ||| 2) else (if (sr_mt kp (sr_ru kp cn) (sr_ru kp (cn + 1)) cn (kp 3 cn) (sr_sp kp 0)) = x_ then (0 ||| 1) else 0))) ||| 8) else (if (sr_mt kp (sr_ru kp cn) (sr_ru kp (cn + 1)) cn (kp 3 cn) (sr_sp kp 2)) = x_ then ((if (sr_mt kp (sr_ru kp cn) (sr_ru kp (cn + 1)) cn (kp 3 cn) (sr_sp kp 1)) = x_ then ((if (sr_mt kp (sr_ru kp cn) (sr_ru kp (cn + 1)) cn (kp 3 cn) (sr_sp kp 0)) = x_ then (0 ||| 1) else 0) ||| 2) else (if (sr_mt kp (sr_ru kp cn) (sr_ru kp (cn + 1)) cn (kp 3 cn) (sr_sp kp 0)) = x_ then (0 ||| 1) else 0)) ||| 4) else (if (sr_mt kp (sr_ru kp cn) (sr_ru kp (cn + 1)) cn (kp 3 cn) (sr_sp kp 1)) = x_ then ((if (sr_mt kp (sr_ru kp cn) (sr_ru kp (cn + 1)) cn (kp 3 cn) (sr_sp kp 0)) = x_ then (0 ||| 1) else 0) ||| 2) else (if (sr_mt kp (sr_ru kp cn) (sr_ru kp (cn + 1)) cn (kp 3 cn) (sr_sp kp 0)) = x_ then (0 ||| 1) else 0)))) ||| 16) else (if (sr_mt kp (sr_ru kp cn) (sr_ru kp (cn + 1)) cn (kp 3 cn) (sr_sp kp 3)) = x_ then ((if (sr_mt kp (sr_ru kp cn) (sr_ru kp (cn + 1)) cn (kp 3 cn) (sr_sp kp 2)) = x_ then ((if (sr_mt kp (sr_ru kp cn) (sr_ru kp (cn + 1)) cn (kp 3 cn) (sr_sp kp 1)) = x_ then ((if (sr_mt kp (sr_ru kp cn) (sr_ru kp (cn + 1)) cn (kp 3 cn) (sr_sp kp 0)) = x_ then (0 ||| 1) else 0) ||| 2) else (if (sr_mt kp (sr_ru kp cn) (sr_ru kp (cn + 1)) cn (kp 3 cn) (sr_sp kp 0)) = x_ then (0 ||| 1) else 0)) ||| 4) else (if (sr_mt kp (sr_ru kp cn) (sr_ru kp (cn + 1)) cn (kp 3 cn) (sr_sp kp 1)) = x_ then ((if (sr_mt kp (sr_ru kp cn) (sr_ru kp (cn + 1)) cn (kp 3 cn) (sr_sp kp 0)) = x_ then (0 ||| 1) else 0) ||| 2) else (if (sr_mt kp (sr_ru kp cn) (sr_ru kp (cn + 1)) cn (kp 3 cn) (sr_sp kp 0)) = x_ then (0 ||| 1) else 0))) ||| 8) else (if (sr_mt kp (sr_ru kp cn) (sr_ru kp (cn + 1)) cn (kp 3 cn) (sr_sp kp 2)) = x_ then ((if (sr_mt kp (sr_ru kp cn) (sr_ru kp (cn + 1)) cn (kp 3 cn) (sr_sp kp 1)) = x_ then ((if (sr_mt kp (sr_ru kp cn) (sr_ru kp (cn + 1)) cn (kp 3 cn) (sr_sp kp 0)) = x_ then (0 ||| 1) else 0) ||| 2) else (if (sr_mt kp (sr_ru kp cn) (sr_ru kp (cn + 1)) cn (kp 3 cn) (sr_sp kp 0)) = x_ then (0 ||| 1) else 0)) ||| 4) else (if (sr_mt kp (sr_ru kp cn) (sr_ru kp (cn + 1)) cn (kp 3 cn) (sr_sp kp 1)) = x_ then ((if (sr_mt kp (sr_ru kp cn) (sr_ru kp (cn + 1)) cn (kp 3 cn) (sr_sp kp 0)) = x_ then (0 ||| 1) else 0) ||| 2) else (if (sr_mt kp (sr_ru kp cn) (sr_ru kp (cn + 1)) cn (kp 3 cn) (sr_sp kp 0)) = x_ then (0 ||| 1) else 0))))) → lv_has ls 5 [(4, .int 4), (3, .int j36_3), (0, .ref (a 4)), (1, .int (nI cn)), (2, .int x_)] → W p l e (sr_rm 4 99) s m args below meth c s.heap [] 0 0 Q (F0 m 36 ls []) := by
            intro ls j36_3 e_j36_3 hl
            subst e_j36_3
            refine lv_iinc (v := 5) (lv' := [(4, .int 5), (3, .int (if (sr_mt kp (sr_ru kp cn) (sr_ru kp (cn + 1)) cn (kp 3 cn) (sr_sp kp 4)) = x_ then ((if (sr_mt kp (sr_ru kp cn) (sr_ru kp (cn + 1)) cn (kp 3 cn) (sr_sp kp 3)) = x_ then ((if (sr_mt kp (sr_ru kp cn) (sr_ru kp (cn + 1)) cn (kp 3 cn) (sr_sp kp 2)) = x_ then ((if (sr_mt kp (sr_ru kp cn) (sr_ru kp (cn + 1)) cn (kp 3 cn) (sr_sp kp 1)) = x_ then ((if (sr_mt kp (sr_ru kp cn) (sr_ru kp (cn + 1)) cn (kp 3 cn) (sr_sp kp 0)) = x_ then (0 ||| 1) else 0) ||| 2) else (if (sr_mt kp (sr_ru kp cn) (sr_ru kp (cn + 1)) cn (kp 3 cn) (sr_sp kp 0)) = x_ then (0 ||| 1) else 0)) ||| 4) else (if (sr_mt kp (sr_ru kp cn) (sr_ru kp (cn + 1)) cn (kp 3 cn) (sr_sp kp 1)) = x_ then ((if (sr_mt kp (sr_ru kp cn) (sr_ru kp (cn + 1)) cn (kp 3 cn) (sr_sp kp 0)) = x_ then (0 ||| 1) else 0) ||| 2) else (if (sr_mt kp (sr_ru kp cn) (sr_ru kp (cn + 1)) cn (kp 3 cn) (sr_sp kp 0)) = x_ then (0 ||| 1) else 0))) ||| 8) else (if (sr_mt kp (sr_ru kp cn) (sr_ru kp (cn + 1)) cn (kp 3 cn) (sr_sp kp 2)) = x_ then ((if (sr_mt kp (sr_ru kp cn) (sr_ru kp (cn + 1)) cn (kp 3 cn) (sr_sp kp 1)) = x_ then ((if (sr_mt kp (sr_ru kp cn) (sr_ru kp (cn + 1)) cn (kp 3 cn) (sr_sp kp 0)) = x_ then (0 ||| 1) else 0) ||| 2) else (if (sr_mt kp (sr_ru kp cn) (sr_ru kp (cn + 1)) cn (kp 3 cn) (sr_sp kp 0)) = x_ then (0 ||| 1) else 0)) ||| 4) else (if (sr_mt kp (sr_ru kp cn) (sr_ru kp (cn + 1)) cn (kp 3 cn) (sr_sp kp 1)) = x_ then ((if (sr_mt kp (sr_ru kp cn) (sr_ru kp (cn + 1)) cn (kp 3 cn) (sr_sp kp 0)) = x_ then (0 ||| 1) else 0) ||| 2) else (if (sr_mt kp (sr_ru kp cn) (sr_ru kp (cn + 1)) cn (kp 3 cn) (sr_sp kp 0)) = x_ then (0 ||| 1) else 0)))) ||| 16) else (if (sr_mt kp (sr_ru kp cn) (sr_ru kp (cn + 1)) cn (kp 3 cn) (sr_sp kp 3)) = x_ then ((if (sr_mt kp (sr_ru kp cn) (sr_ru kp (cn + 1)) cn (kp 3 cn) (sr_sp kp 2)) = x_ then ((if (sr_mt kp (sr_ru kp cn) (sr_ru kp (cn + 1)) cn (kp 3 cn) (sr_sp kp 1)) = x_ then ((if (sr_mt kp (sr_ru kp cn) (sr_ru kp (cn + 1)) cn (kp 3 cn) (sr_sp kp 0)) = x_ then (0 ||| 1) else 0) ||| 2) else (if (sr_mt kp (sr_ru kp cn) (sr_ru kp (cn + 1)) cn (kp 3 cn) (sr_sp kp 0)) = x_ then (0 ||| 1) else 0)) ||| 4) else (if (sr_mt kp (sr_ru kp cn) (sr_ru kp (cn + 1)) cn (kp 3 cn) (sr_sp kp 1)) = x_ then ((if (sr_mt kp (sr_ru kp cn) (sr_ru kp (cn + 1)) cn (kp 3 cn) (sr_sp kp 0)) = x_ then (0 ||| 1) else 0) ||| 2) else (if (sr_mt kp (sr_ru kp cn) (sr_ru kp (cn + 1)) cn (kp 3 cn) (sr_sp kp 0)) = x_ then (0 ||| 1) else 0))) ||| 8) else (if (sr_mt kp (sr_ru kp cn) (sr_ru kp (cn + 1)) cn (kp 3 cn) (sr_sp kp 2)) = x_ then ((if (sr_mt kp (sr_ru kp cn) (sr_ru kp (cn + 1)) cn (kp 3 cn) (sr_sp kp 1)) = x_ then ((if (sr_mt kp (sr_ru kp cn) (sr_ru kp (cn + 1)) cn (kp 3 cn) (sr_sp kp 0)) = x_ then (0 ||| 1) else 0) ||| 2) else (if (sr_mt kp (sr_ru kp cn) (sr_ru kp (cn + 1)) cn (kp 3 cn) (sr_sp kp 0)) = x_ then (0 ||| 1) else 0)) ||| 4) else (if (sr_mt kp (sr_ru kp cn) (sr_ru kp (cn + 1)) cn (kp 3 cn) (sr_sp kp 1)) = x_ then ((if (sr_mt kp (sr_ru kp cn) (sr_ru kp (cn + 1)) cn (kp 3 cn) (sr_sp kp 0)) = x_ then (0 ||| 1) else 0) ||| 2) else (if (sr_mt kp (sr_ru kp cn) (sr_ru kp (cn + 1)) cn (kp 3 cn) (sr_sp kp 0)) = x_ then (0 ||| 1) else 0)))))), (0, .ref (a 4)), (1, .int (nI cn)), (2, .int x_)]) C0.1 C0.2.1 dX1_guilty_36 hl (k := 0) rfl (by decide) (by decide) rfl (fun ls hl => ?_)
            refine lv_goto (tgt := 5) C0.1 C0.2.1 dX1_guilty_39 (by decide) ?_
            refine lv_iload C0.1 C0.2.1 dX1_guilty_5 (lv_at hl 0 rfl) ?_
            refine lv_iconst (v := 5) C0.1 C0.2.1 dX1_guilty_7 (by decide) ?_
            refine lv_icmp_ge (tgt := 42) C0.1 C0.2.1 dX1_guilty_8 (by decide) (fun _ => ?_) (fun q => absurd q (by decide))
            refine lv_iload_n C0.1 C0.2.1 dX1_guilty_42 rfl (lv_at hl 1 rfl) ?_
            exact hret _ _ _ dX1_guilty_43 rfl
          refine lv_icmp_ne (tgt := 36) C0.1 C0.2.1 dX1_guilty_26 (by decide) (fun c26_5 => ?_) (fun c26_5 => ?_)
          · exact hJ36_5 _ _ (by rw [if_neg c26_5]) (lv_sub hl [0, 1, 2, 3, 4] rfl)
          · refine lv_iload_n C0.1 C0.2.1 dX1_guilty_29 rfl (lv_at hl 1 rfl) ?_
            refine lv_iconst (v := 1) C0.1 C0.2.1 dX1_guilty_30 (by decide) ?_
            refine lv_iload C0.1 C0.2.1 dX1_guilty_31 (lv_at hl 0 rfl) ?_
            refine lv_ishl C0.1 C0.2.1 dX1_guilty_33 ?_
            refine sr_chi (by decide : ((1 : Int32) <<< ((4 : Int32) &&& 31) : Int32) = 16) ?_
            refine lv_ior C0.1 C0.2.1 dX1_guilty_34 ?_
            refine lv_istore_n (lv' := [(3, .int ((if (sr_mt kp (sr_ru kp cn) (sr_ru kp (cn + 1)) cn (kp 3 cn) (sr_sp kp 3)) = x_ then ((if (sr_mt kp (sr_ru kp cn) (sr_ru kp (cn + 1)) cn (kp 3 cn) (sr_sp kp 2)) = x_ then ((if (sr_mt kp (sr_ru kp cn) (sr_ru kp (cn + 1)) cn (kp 3 cn) (sr_sp kp 1)) = x_ then ((if (sr_mt kp (sr_ru kp cn) (sr_ru kp (cn + 1)) cn (kp 3 cn) (sr_sp kp 0)) = x_ then (0 ||| 1) else 0) ||| 2) else (if (sr_mt kp (sr_ru kp cn) (sr_ru kp (cn + 1)) cn (kp 3 cn) (sr_sp kp 0)) = x_ then (0 ||| 1) else 0)) ||| 4) else (if (sr_mt kp (sr_ru kp cn) (sr_ru kp (cn + 1)) cn (kp 3 cn) (sr_sp kp 1)) = x_ then ((if (sr_mt kp (sr_ru kp cn) (sr_ru kp (cn + 1)) cn (kp 3 cn) (sr_sp kp 0)) = x_ then (0 ||| 1) else 0) ||| 2) else (if (sr_mt kp (sr_ru kp cn) (sr_ru kp (cn + 1)) cn (kp 3 cn) (sr_sp kp 0)) = x_ then (0 ||| 1) else 0))) ||| 8) else (if (sr_mt kp (sr_ru kp cn) (sr_ru kp (cn + 1)) cn (kp 3 cn) (sr_sp kp 2)) = x_ then ((if (sr_mt kp (sr_ru kp cn) (sr_ru kp (cn + 1)) cn (kp 3 cn) (sr_sp kp 1)) = x_ then ((if (sr_mt kp (sr_ru kp cn) (sr_ru kp (cn + 1)) cn (kp 3 cn) (sr_sp kp 0)) = x_ then (0 ||| 1) else 0) ||| 2) else (if (sr_mt kp (sr_ru kp cn) (sr_ru kp (cn + 1)) cn (kp 3 cn) (sr_sp kp 0)) = x_ then (0 ||| 1) else 0)) ||| 4) else (if (sr_mt kp (sr_ru kp cn) (sr_ru kp (cn + 1)) cn (kp 3 cn) (sr_sp kp 1)) = x_ then ((if (sr_mt kp (sr_ru kp cn) (sr_ru kp (cn + 1)) cn (kp 3 cn) (sr_sp kp 0)) = x_ then (0 ||| 1) else 0) ||| 2) else (if (sr_mt kp (sr_ru kp cn) (sr_ru kp (cn + 1)) cn (kp 3 cn) (sr_sp kp 0)) = x_ then (0 ||| 1) else 0)))) ||| 16)), (4, .int 4), (0, .ref (a 4)), (1, .int (nI cn)), (2, .int x_)]) C0.1 C0.2.1 dX1_guilty_35 rfl hl (by decide) rfl (fun ls hl => ?_)
            exact hJ36_5 _ _ (by rw [if_pos c26_5]) (lv_sub hl [1, 0, 2, 3, 4] rfl)
        refine lv_icmp_ne (tgt := 36) C0.1 C0.2.1 dX1_guilty_26 (by decide) (fun c26_4 => ?_) (fun c26_4 => ?_)
        · exact hJ36_4 _ _ (by rw [if_neg c26_4]) (lv_sub hl [0, 1, 2, 3, 4] rfl)
        · refine lv_iload_n C0.1 C0.2.1 dX1_guilty_29 rfl (lv_at hl 1 rfl) ?_
          refine lv_iconst (v := 1) C0.1 C0.2.1 dX1_guilty_30 (by decide) ?_
          refine lv_iload C0.1 C0.2.1 dX1_guilty_31 (lv_at hl 0 rfl) ?_
          refine lv_ishl C0.1 C0.2.1 dX1_guilty_33 ?_
          refine sr_chi (by decide : ((1 : Int32) <<< ((3 : Int32) &&& 31) : Int32) = 8) ?_
          refine lv_ior C0.1 C0.2.1 dX1_guilty_34 ?_
          refine lv_istore_n (lv' := [(3, .int ((if (sr_mt kp (sr_ru kp cn) (sr_ru kp (cn + 1)) cn (kp 3 cn) (sr_sp kp 2)) = x_ then ((if (sr_mt kp (sr_ru kp cn) (sr_ru kp (cn + 1)) cn (kp 3 cn) (sr_sp kp 1)) = x_ then ((if (sr_mt kp (sr_ru kp cn) (sr_ru kp (cn + 1)) cn (kp 3 cn) (sr_sp kp 0)) = x_ then (0 ||| 1) else 0) ||| 2) else (if (sr_mt kp (sr_ru kp cn) (sr_ru kp (cn + 1)) cn (kp 3 cn) (sr_sp kp 0)) = x_ then (0 ||| 1) else 0)) ||| 4) else (if (sr_mt kp (sr_ru kp cn) (sr_ru kp (cn + 1)) cn (kp 3 cn) (sr_sp kp 1)) = x_ then ((if (sr_mt kp (sr_ru kp cn) (sr_ru kp (cn + 1)) cn (kp 3 cn) (sr_sp kp 0)) = x_ then (0 ||| 1) else 0) ||| 2) else (if (sr_mt kp (sr_ru kp cn) (sr_ru kp (cn + 1)) cn (kp 3 cn) (sr_sp kp 0)) = x_ then (0 ||| 1) else 0))) ||| 8)), (4, .int 3), (0, .ref (a 4)), (1, .int (nI cn)), (2, .int x_)]) C0.1 C0.2.1 dX1_guilty_35 rfl hl (by decide) rfl (fun ls hl => ?_)
          exact hJ36_4 _ _ (by rw [if_pos c26_4]) (lv_sub hl [1, 0, 2, 3, 4] rfl)
      refine lv_icmp_ne (tgt := 36) C0.1 C0.2.1 dX1_guilty_26 (by decide) (fun c26_3 => ?_) (fun c26_3 => ?_)
      · exact hJ36_3 _ _ (by rw [if_neg c26_3]) (lv_sub hl [0, 1, 2, 3, 4] rfl)
      · refine lv_iload_n C0.1 C0.2.1 dX1_guilty_29 rfl (lv_at hl 1 rfl) ?_
        refine lv_iconst (v := 1) C0.1 C0.2.1 dX1_guilty_30 (by decide) ?_
        refine lv_iload C0.1 C0.2.1 dX1_guilty_31 (lv_at hl 0 rfl) ?_
        refine lv_ishl C0.1 C0.2.1 dX1_guilty_33 ?_
        refine sr_chi (by decide : ((1 : Int32) <<< ((2 : Int32) &&& 31) : Int32) = 4) ?_
        refine lv_ior C0.1 C0.2.1 dX1_guilty_34 ?_
        refine lv_istore_n (lv' := [(3, .int ((if (sr_mt kp (sr_ru kp cn) (sr_ru kp (cn + 1)) cn (kp 3 cn) (sr_sp kp 1)) = x_ then ((if (sr_mt kp (sr_ru kp cn) (sr_ru kp (cn + 1)) cn (kp 3 cn) (sr_sp kp 0)) = x_ then (0 ||| 1) else 0) ||| 2) else (if (sr_mt kp (sr_ru kp cn) (sr_ru kp (cn + 1)) cn (kp 3 cn) (sr_sp kp 0)) = x_ then (0 ||| 1) else 0)) ||| 4)), (4, .int 2), (0, .ref (a 4)), (1, .int (nI cn)), (2, .int x_)]) C0.1 C0.2.1 dX1_guilty_35 rfl hl (by decide) rfl (fun ls hl => ?_)
        exact hJ36_3 _ _ (by rw [if_pos c26_3]) (lv_sub hl [1, 0, 2, 3, 4] rfl)
    refine lv_icmp_ne (tgt := 36) C0.1 C0.2.1 dX1_guilty_26 (by decide) (fun c26_2 => ?_) (fun c26_2 => ?_)
    · exact hJ36_2 _ _ (by rw [if_neg c26_2]) (lv_sub hl [0, 1, 2, 3, 4] rfl)
    · refine lv_iload_n C0.1 C0.2.1 dX1_guilty_29 rfl (lv_at hl 1 rfl) ?_
      refine lv_iconst (v := 1) C0.1 C0.2.1 dX1_guilty_30 (by decide) ?_
      refine lv_iload C0.1 C0.2.1 dX1_guilty_31 (lv_at hl 0 rfl) ?_
      refine lv_ishl C0.1 C0.2.1 dX1_guilty_33 ?_
      refine sr_chi (by decide : ((1 : Int32) <<< ((1 : Int32) &&& 31) : Int32) = 2) ?_
      refine lv_ior C0.1 C0.2.1 dX1_guilty_34 ?_
      refine lv_istore_n (lv' := [(3, .int ((if (sr_mt kp (sr_ru kp cn) (sr_ru kp (cn + 1)) cn (kp 3 cn) (sr_sp kp 0)) = x_ then (0 ||| 1) else 0) ||| 2)), (4, .int 1), (0, .ref (a 4)), (1, .int (nI cn)), (2, .int x_)]) C0.1 C0.2.1 dX1_guilty_35 rfl hl (by decide) rfl (fun ls hl => ?_)
      exact hJ36_2 _ _ (by rw [if_pos c26_2]) (lv_sub hl [1, 0, 2, 3, 4] rfl)
  refine lv_icmp_ne (tgt := 36) C0.1 C0.2.1 dX1_guilty_26 (by decide) (fun c26 => ?_) (fun c26 => ?_)
  · exact hJ36 _ _ (by rw [if_neg c26]) (lv_sub hl [0, 1, 2, 3, 4] rfl)
  · refine lv_iload_n C0.1 C0.2.1 dX1_guilty_29 rfl (lv_at hl 1 rfl) ?_
    refine lv_iconst (v := 1) C0.1 C0.2.1 dX1_guilty_30 (by decide) ?_
    refine lv_iload C0.1 C0.2.1 dX1_guilty_31 (lv_at hl 0 rfl) ?_
    refine lv_ishl C0.1 C0.2.1 dX1_guilty_33 ?_
    refine sr_chi (by decide : ((1 : Int32) <<< ((0 : Int32) &&& 31) : Int32) = 1) ?_
    refine lv_ior C0.1 C0.2.1 dX1_guilty_34 ?_
    refine lv_istore_n (lv' := [(3, .int (0 ||| 1)), (4, .int 0), (0, .ref (a 4)), (1, .int (nI cn)), (2, .int x_)]) C0.1 C0.2.1 dX1_guilty_35 rfl hl (by decide) rfl (fun ls hl => ?_)
    exact hJ36 _ _ (by rw [if_pos c26]) (lv_sub hl [1, 0, 2, 3, 4] rfl)
