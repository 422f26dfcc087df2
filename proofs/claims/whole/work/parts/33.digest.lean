set_option maxRecDepth 100000 in
set_option maxHeartbeats 40000000 in
theorem cc_X7_digest {l : Launch} {D : va_G} {cI cR : ClassId} {a : Nat → Nat} (ha : ∀ i j, i < 36 → j < 36 → a i = a j → i = j) {kp cx sg : sr_M} (hI : sr_IC kp cx) : sr_G l D (sr_tC cI cR) (sr_ZC a) (sr_AC a) (sr_WC cI cR a kp cx sg) yX7_digest cX7_digest 5 (some .long) 6 155 [.ref (a 0)] (S := sr_M) (fun u => True) (fun u => sr_WC cI cR a kp cx u) (fun u => some (.long (sp_digest kp))) := by
  refine sr_Gle (by decide +kernel) (Nat.le_of_ble_eq_true rfl) (fun p e s m args below meth c ls Q B hret => ?_)
  obtain ⟨C0, hP, hK, hZ0, hl⟩ := B
  have hZ : sr_Zok (sr_AC a) (sr_ZC a) := sr_ZCok a
  have hS : va_S (sr_AC a) s.heap s.heap [] := va_S.rf
  have hl : lv_has ls 5 [(0, .ref (a 0))] := hl
  obtain ⟨H, hH⟩ : ∃ H, H = s.heap := ⟨_, rfl⟩
  have hP : va_P D vwCl (sr_WC cI cR a kp cx sg) H := by rw [hH]; exact hP
  have hS : va_S (sr_AC a) s.heap H [] := by rw [hH]; exact hS
  suffices hG : ∀ locs, va_S (sr_AC a) s.heap H locs → W p l e (sr_rm 6 155) s m args below meth c H locs 0 0 Q (F0 m 0 ls []) from by have h9 := hG [] hS; rw [hH] at h9; exact h9
  clear hS
  intro locs hS
  clear hH
  refine lv_ldc2 (v := 17) C0.1 C0.2.1 C0.2.2.2.1 (C0.2.2.2.2 _ sw_586) dX7_digest_0 ?_
  refine lv_lstore_n (lv' := [(1, .long 17), (0, .ref (a 0))]) C0.1 C0.2.1 dX7_digest_3 rfl hl (by decide) rfl (fun ls hl => ?_)
  refine lv_iconst (v := 0) C0.1 C0.2.1 dX7_digest_4 (by decide) ?_
  refine lv_istore_n (lv' := [(3, .int 0), (1, .long 17), (0, .ref (a 0))]) C0.1 C0.2.1 dX7_digest_5 rfl hl (by decide) rfl (fun ls hl => ?_)
  refine lv_iload_n C0.1 C0.2.1 dX7_digest_6 rfl (lv_at hl 0 rfl) ?_
  refine lv_bipush (v := 7) C0.1 C0.2.1 dX7_digest_7 (by decide) ?_
  refine lv_icmp_gt (tgt := 31) C0.1 C0.2.1 dX7_digest_9 (by decide) (fun q => absurd q (by decide)) (fun _ => ?_)
  refine lv_ldc2 (v := 31) C0.1 C0.2.1 C0.2.2.2.1 (C0.2.2.2.2 _ sw_587) dX7_digest_12 ?_
  refine lv_lload_n C0.1 C0.2.1 dX7_digest_15 rfl (lv_at hl 1 rfl) ?_
  refine lv_lmul C0.1 C0.2.1 dX7_digest_16 ?_
  refine sr_chl (by decide : (31 * 17 : Int64) = 527) ?_
  refine lv_aload_n C0.1 C0.2.1 dX7_digest_17 rfl (lv_at hl 2 rfl) ?_
  refine lv_iload_n C0.1 C0.2.1 dX7_digest_18 rfl (lv_at hl 0 rfl) ?_
  refine sr_pVi (As := [.int 0]) C0 hK hP hZ (sr_Zs hZ hZ0 hS) (cc_X7_count ha (0) hI) sk_X7_count sv_X7_count sw_588 (ci := 7) rfl sr_wC0 rfl rfl hl.1 (Nat.le_of_ble_eq_true rfl) (Nat.le_of_ble_eq_true rfl) (Nat.le_of_ble_eq_true rfl) dX7_digest_19 ⟨Nat.zero_le _, Nat.zero_le _⟩ ?_
  refine lv_i2l C0.1 C0.2.1 dX7_digest_22 rfl ?_
  refine lv_ladd C0.1 C0.2.1 dX7_digest_23 ?_
  refine sr_nml (fun h1 eh1 => ?_)
  refine lv_lstore_n (lv' := [(1, .long h1), (3, .int 0), (0, .ref (a 0))]) C0.1 C0.2.1 dX7_digest_24 rfl hl (by decide) rfl (fun ls hl => ?_)
  refine lv_iinc (v := 1) (lv' := [(3, .int 1), (1, .long h1), (0, .ref (a 0))]) C0.1 C0.2.1 dX7_digest_25 hl (k := 1) rfl (by decide) (by decide) rfl (fun ls hl => ?_)
  refine lv_goto (tgt := 6) C0.1 C0.2.1 dX7_digest_28 (by decide) ?_
  refine lv_iload_n C0.1 C0.2.1 dX7_digest_6 rfl (lv_at hl 0 rfl) ?_
  refine lv_bipush (v := 7) C0.1 C0.2.1 dX7_digest_7 (by decide) ?_
  refine lv_icmp_gt (tgt := 31) C0.1 C0.2.1 dX7_digest_9 (by decide) (fun q => absurd q (by decide)) (fun _ => ?_)
  refine lv_ldc2 (v := 31) C0.1 C0.2.1 C0.2.2.2.1 (C0.2.2.2.2 _ sw_587) dX7_digest_12 ?_
  refine lv_lload_n C0.1 C0.2.1 dX7_digest_15 rfl (lv_at hl 1 rfl) ?_
  refine lv_lmul C0.1 C0.2.1 dX7_digest_16 ?_
  refine lv_aload_n C0.1 C0.2.1 dX7_digest_17 rfl (lv_at hl 2 rfl) ?_
  refine lv_iload_n C0.1 C0.2.1 dX7_digest_18 rfl (lv_at hl 0 rfl) ?_
  refine sr_pVi (As := [.int 1]) C0 hK hP hZ (sr_Zs hZ hZ0 hS) (cc_X7_count ha (1) hI) sk_X7_count sv_X7_count sw_588 (ci := 7) rfl sr_wC0 rfl rfl hl.1 (Nat.le_of_ble_eq_true rfl) (Nat.le_of_ble_eq_true rfl) (Nat.le_of_ble_eq_true rfl) dX7_digest_19 ⟨Nat.zero_le _, Nat.zero_le _⟩ ?_
  refine lv_i2l C0.1 C0.2.1 dX7_digest_22 rfl ?_
  refine lv_ladd C0.1 C0.2.1 dX7_digest_23 ?_
  refine sr_nml (fun h2 eh2 => ?_)
  refine lv_lstore_n (lv' := [(1, .long h2), (3, .int 1), (0, .ref (a 0))]) C0.1 C0.2.1 dX7_digest_24 rfl hl (by decide) rfl (fun ls hl => ?_)
  refine lv_iinc (v := 2) (lv' := [(3, .int 2), (1, .long h2), (0, .ref (a 0))]) C0.1 C0.2.1 dX7_digest_25 hl (k := 1) rfl (by decide) (by decide) rfl (fun ls hl => ?_)
  refine lv_goto (tgt := 6) C0.1 C0.2.1 dX7_digest_28 (by decide) ?_
  refine lv_iload_n C0.1 C0.2.1 dX7_digest_6 rfl (lv_at hl 0 rfl) ?_
  refine lv_bipush (v := 7) C0.1 C0.2.1 dX7_digest_7 (by decide) ?_
  refine lv_icmp_gt (tgt := 31) C0.1 C0.2.1 dX7_digest_9 (by decide) (fun q => absurd q (by decide)) (fun _ => ?_)
  refine lv_ldc2 (v := 31) C0.1 C0.2.1 C0.2.2.2.1 (C0.2.2.2.2 _ sw_587) dX7_digest_12 ?_
  refine lv_lload_n C0.1 C0.2.1 dX7_digest_15 rfl (lv_at hl 1 rfl) ?_
  refine lv_lmul C0.1 C0.2.1 dX7_digest_16 ?_
  refine lv_aload_n C0.1 C0.2.1 dX7_digest_17 rfl (lv_at hl 2 rfl) ?_
  refine lv_iload_n C0.1 C0.2.1 dX7_digest_18 rfl (lv_at hl 0 rfl) ?_
  refine sr_pVi (As := [.int 2]) C0 hK hP hZ (sr_Zs hZ hZ0 hS) (cc_X7_count ha (2) hI) sk_X7_count sv_X7_count sw_588 (ci := 7) rfl sr_wC0 rfl rfl hl.1 (Nat.le_of_ble_eq_true rfl) (Nat.le_of_ble_eq_true rfl) (Nat.le_of_ble_eq_true rfl) dX7_digest_19 ⟨Nat.zero_le _, Nat.zero_le _⟩ ?_
  refine lv_i2l C0.1 C0.2.1 dX7_digest_22 rfl ?_
  refine lv_ladd C0.1 C0.2.1 dX7_digest_23 ?_
  refine sr_nml (fun h3 eh3 => ?_)
  refine lv_lstore_n (lv' := [(1, .long h3), (3, .int 2), (0, .ref (a 0))]) C0.1 C0.2.1 dX7_digest_24 rfl hl (by decide) rfl (fun ls hl => ?_)
  refine lv_iinc (v := 3) (lv' := [(3, .int 3), (1, .long h3), (0, .ref (a 0))]) C0.1 C0.2.1 dX7_digest_25 hl (k := 1) rfl (by decide) (by decide) rfl (fun ls hl => ?_)
  refine lv_goto (tgt := 6) C0.1 C0.2.1 dX7_digest_28 (by decide) ?_
  refine lv_iload_n C0.1 C0.2.1 dX7_digest_6 rfl (lv_at hl 0 rfl) ?_
  refine lv_bipush (v := 7) C0.1 C0.2.1 dX7_digest_7 (by decide) ?_
  refine lv_icmp_gt (tgt := 31) C0.1 C0.2.1 dX7_digest_9 (by decide) (fun q => absurd q (by decide)) (fun _ => ?_)
  refine lv_ldc2 (v := 31) C0.1 C0.2.1 C0.2.2.2.1 (C0.2.2.2.2 _ sw_587) dX7_digest_12 ?_
  refine lv_lload_n C0.1 C0.2.1 dX7_digest_15 rfl (lv_at hl 1 rfl) ?_
  refine lv_lmul C0.1 C0.2.1 dX7_digest_16 ?_
  refine lv_aload_n C0.1 C0.2.1 dX7_digest_17 rfl (lv_at hl 2 rfl) ?_
  refine lv_iload_n C0.1 C0.2.1 dX7_digest_18 rfl (lv_at hl 0 rfl) ?_
  refine sr_pVi (As := [.int 3]) C0 hK hP hZ (sr_Zs hZ hZ0 hS) (cc_X7_count ha (3) hI) sk_X7_count sv_X7_count sw_588 (ci := 7) rfl sr_wC0 rfl rfl hl.1 (Nat.le_of_ble_eq_true rfl) (Nat.le_of_ble_eq_true rfl) (Nat.le_of_ble_eq_true rfl) dX7_digest_19 ⟨Nat.zero_le _, Nat.zero_le _⟩ ?_
  refine lv_i2l C0.1 C0.2.1 dX7_digest_22 rfl ?_
  refine lv_ladd C0.1 C0.2.1 dX7_digest_23 ?_
  refine sr_nml (fun h4 eh4 => ?_)
  refine lv_lstore_n (lv' := [(1, .long h4), (3, .int 3), (0, .ref (a 0))]) C0.1 C0.2.1 dX7_digest_24 rfl hl (by decide) rfl (fun ls hl => ?_)
  refine lv_iinc (v := 4) (lv' := [(3, .int 4), (1, .long h4), (0, .ref (a 0))]) C0.1 C0.2.1 dX7_digest_25 hl (k := 1) rfl (by decide) (by decide) rfl (fun ls hl => ?_)
  refine lv_goto (tgt := 6) C0.1 C0.2.1 dX7_digest_28 (by decide) ?_
  refine lv_iload_n C0.1 C0.2.1 dX7_digest_6 rfl (lv_at hl 0 rfl) ?_
  refine lv_bipush (v := 7) C0.1 C0.2.1 dX7_digest_7 (by decide) ?_
  refine lv_icmp_gt (tgt := 31) C0.1 C0.2.1 dX7_digest_9 (by decide) (fun q => absurd q (by decide)) (fun _ => ?_)
  refine lv_ldc2 (v := 31) C0.1 C0.2.1 C0.2.2.2.1 (C0.2.2.2.2 _ sw_587) dX7_digest_12 ?_
  refine lv_lload_n C0.1 C0.2.1 dX7_digest_15 rfl (lv_at hl 1 rfl) ?_
  refine lv_lmul C0.1 C0.2.1 dX7_digest_16 ?_
  refine lv_aload_n C0.1 C0.2.1 dX7_digest_17 rfl (lv_at hl 2 rfl) ?_
  refine lv_iload_n C0.1 C0.2.1 dX7_digest_18 rfl (lv_at hl 0 rfl) ?_
  refine sr_pVi (As := [.int 4]) C0 hK hP hZ (sr_Zs hZ hZ0 hS) (cc_X7_count ha (4) hI) sk_X7_count sv_X7_count sw_588 (ci := 7) rfl sr_wC0 rfl rfl hl.1 (Nat.le_of_ble_eq_true rfl) (Nat.le_of_ble_eq_true rfl) (Nat.le_of_ble_eq_true rfl) dX7_digest_19 ⟨Nat.zero_le _, Nat.zero_le _⟩ ?_
  refine lv_i2l C0.1 C0.2.1 dX7_digest_22 rfl ?_
  refine lv_ladd C0.1 C0.2.1 dX7_digest_23 ?_
  refine sr_nml (fun h5 eh5 => ?_)
  refine lv_lstore_n (lv' := [(1, .long h5), (3, .int 4), (0, .ref (a 0))]) C0.1 C0.2.1 dX7_digest_24 rfl hl (by decide) rfl (fun ls hl => ?_)
  refine lv_iinc (v := 5) (lv' := [(3, .int 5), (1, .long h5), (0, .ref (a 0))]) C0.1 C0.2.1 dX7_digest_25 hl (k := 1) rfl (by decide) (by decide) rfl (fun ls hl => ?_)
  refine lv_goto (tgt := 6) C0.1 C0.2.1 dX7_digest_28 (by decide) ?_
  refine lv_iload_n C0.1 C0.2.1 dX7_digest_6 rfl (lv_at hl 0 rfl) ?_
  refine lv_bipush (v := 7) C0.1 C0.2.1 dX7_digest_7 (by decide) ?_
  refine lv_icmp_gt (tgt := 31) C0.1 C0.2.1 dX7_digest_9 (by decide) (fun q => absurd q (by decide)) (fun _ => ?_)
  refine lv_ldc2 (v := 31) C0.1 C0.2.1 C0.2.2.2.1 (C0.2.2.2.2 _ sw_587) dX7_digest_12 ?_
  refine lv_lload_n C0.1 C0.2.1 dX7_digest_15 rfl (lv_at hl 1 rfl) ?_
  refine lv_lmul C0.1 C0.2.1 dX7_digest_16 ?_
  refine lv_aload_n C0.1 C0.2.1 dX7_digest_17 rfl (lv_at hl 2 rfl) ?_
  refine lv_iload_n C0.1 C0.2.1 dX7_digest_18 rfl (lv_at hl 0 rfl) ?_
  refine sr_pVi (As := [.int 5]) C0 hK hP hZ (sr_Zs hZ hZ0 hS) (cc_X7_count ha (5) hI) sk_X7_count sv_X7_count sw_588 (ci := 7) rfl sr_wC0 rfl rfl hl.1 (Nat.le_of_ble_eq_true rfl) (Nat.le_of_ble_eq_true rfl) (Nat.le_of_ble_eq_true rfl) dX7_digest_19 ⟨Nat.zero_le _, Nat.zero_le _⟩ ?_
  refine lv_i2l C0.1 C0.2.1 dX7_digest_22 rfl ?_
  refine lv_ladd C0.1 C0.2.1 dX7_digest_23 ?_
  refine sr_nml (fun h6 eh6 => ?_)
  refine lv_lstore_n (lv' := [(1, .long h6), (3, .int 5), (0, .ref (a 0))]) C0.1 C0.2.1 dX7_digest_24 rfl hl (by decide) rfl (fun ls hl => ?_)
  refine lv_iinc (v := 6) (lv' := [(3, .int 6), (1, .long h6), (0, .ref (a 0))]) C0.1 C0.2.1 dX7_digest_25 hl (k := 1) rfl (by decide) (by decide) rfl (fun ls hl => ?_)
  refine lv_goto (tgt := 6) C0.1 C0.2.1 dX7_digest_28 (by decide) ?_
  refine lv_iload_n C0.1 C0.2.1 dX7_digest_6 rfl (lv_at hl 0 rfl) ?_
  refine lv_bipush (v := 7) C0.1 C0.2.1 dX7_digest_7 (by decide) ?_
  refine lv_icmp_gt (tgt := 31) C0.1 C0.2.1 dX7_digest_9 (by decide) (fun q => absurd q (by decide)) (fun _ => ?_)
  refine lv_ldc2 (v := 31) C0.1 C0.2.1 C0.2.2.2.1 (C0.2.2.2.2 _ sw_587) dX7_digest_12 ?_
  refine lv_lload_n C0.1 C0.2.1 dX7_digest_15 rfl (lv_at hl 1 rfl) ?_
  refine lv_lmul C0.1 C0.2.1 dX7_digest_16 ?_
  refine lv_aload_n C0.1 C0.2.1 dX7_digest_17 rfl (lv_at hl 2 rfl) ?_
  refine lv_iload_n C0.1 C0.2.1 dX7_digest_18 rfl (lv_at hl 0 rfl) ?_
  refine sr_pVi (As := [.int 6]) C0 hK hP hZ (sr_Zs hZ hZ0 hS) (cc_X7_count ha (6) hI) sk_X7_count sv_X7_count sw_588 (ci := 7) rfl sr_wC0 rfl rfl hl.1 (Nat.le_of_ble_eq_true rfl) (Nat.le_of_ble_eq_true rfl) (Nat.le_of_ble_eq_true rfl) dX7_digest_19 ⟨Nat.zero_le _, Nat.zero_le _⟩ ?_
  refine lv_i2l C0.1 C0.2.1 dX7_digest_22 rfl ?_
  refine lv_ladd C0.1 C0.2.1 dX7_digest_23 ?_
  refine sr_nml (fun h7 eh7 => ?_)
  refine lv_lstore_n (lv' := [(1, .long h7), (3, .int 6), (0, .ref (a 0))]) C0.1 C0.2.1 dX7_digest_24 rfl hl (by decide) rfl (fun ls hl => ?_)
  refine lv_iinc (v := 7) (lv' := [(3, .int 7), (1, .long h7), (0, .ref (a 0))]) C0.1 C0.2.1 dX7_digest_25 hl (k := 1) rfl (by decide) (by decide) rfl (fun ls hl => ?_)
  refine lv_goto (tgt := 6) C0.1 C0.2.1 dX7_digest_28 (by decide) ?_
  refine lv_iload_n C0.1 C0.2.1 dX7_digest_6 rfl (lv_at hl 0 rfl) ?_
  refine lv_bipush (v := 7) C0.1 C0.2.1 dX7_digest_7 (by decide) ?_
  refine lv_icmp_gt (tgt := 31) C0.1 C0.2.1 dX7_digest_9 (by decide) (fun q => absurd q (by decide)) (fun _ => ?_)
  refine lv_ldc2 (v := 31) C0.1 C0.2.1 C0.2.2.2.1 (C0.2.2.2.2 _ sw_587) dX7_digest_12 ?_
  refine lv_lload_n C0.1 C0.2.1 dX7_digest_15 rfl (lv_at hl 1 rfl) ?_
  refine lv_lmul C0.1 C0.2.1 dX7_digest_16 ?_
  refine lv_aload_n C0.1 C0.2.1 dX7_digest_17 rfl (lv_at hl 2 rfl) ?_
  refine lv_iload_n C0.1 C0.2.1 dX7_digest_18 rfl (lv_at hl 0 rfl) ?_
  refine sr_pVi (As := [.int 7]) C0 hK hP hZ (sr_Zs hZ hZ0 hS) (cc_X7_count ha (7) hI) sk_X7_count sv_X7_count sw_588 (ci := 7) rfl sr_wC0 rfl rfl hl.1 (Nat.le_of_ble_eq_true rfl) (Nat.le_of_ble_eq_true rfl) (Nat.le_of_ble_eq_true rfl) dX7_digest_19 ⟨Nat.zero_le _, Nat.zero_le _⟩ ?_
  refine lv_i2l C0.1 C0.2.1 dX7_digest_22 rfl ?_
  refine lv_ladd C0.1 C0.2.1 dX7_digest_23 ?_
  refine sr_nml (fun h8 eh8 => ?_)
  refine lv_lstore_n (lv' := [(1, .long h8), (3, .int 7), (0, .ref (a 0))]) C0.1 C0.2.1 dX7_digest_24 rfl hl (by decide) rfl (fun ls hl => ?_)
  refine lv_iinc (v := 8) (lv' := [(3, .int 8), (1, .long h8), (0, .ref (a 0))]) C0.1 C0.2.1 dX7_digest_25 hl (k := 1) rfl (by decide) (by decide) rfl (fun ls hl => ?_)
  refine lv_goto (tgt := 6) C0.1 C0.2.1 dX7_digest_28 (by decide) ?_
  refine lv_iload_n C0.1 C0.2.1 dX7_digest_6 rfl (lv_at hl 0 rfl) ?_
  refine lv_bipush (v := 7) C0.1 C0.2.1 dX7_digest_7 (by decide) ?_
  refine lv_icmp_gt (tgt := 31) C0.1 C0.2.1 dX7_digest_9 (by decide) (fun _ => ?_) (fun q => absurd q (by decide))
  refine lv_ldc2 (v := 31) C0.1 C0.2.1 C0.2.2.2.1 (C0.2.2.2.2 _ sw_587) dX7_digest_31 ?_
  refine lv_lload_n C0.1 C0.2.1 dX7_digest_34 rfl (lv_at hl 1 rfl) ?_
  refine lv_lmul C0.1 C0.2.1 dX7_digest_35 ?_
  refine lv_aload_n C0.1 C0.2.1 dX7_digest_36 rfl (lv_at hl 2 rfl) ?_
  refine sr_pVi (As := []) C0 hK hP hZ (sr_Zs hZ hZ0 hS) (cc_X7_fault ha hI) sk_X7_fault sv_X7_fault sw_589 (ci := 7) rfl sr_wC0 rfl rfl hl.1 (Nat.le_of_ble_eq_true rfl) (Nat.le_of_ble_eq_true rfl) (Nat.le_of_ble_eq_true rfl) dX7_digest_37 ⟨Nat.zero_le _, Nat.zero_le _⟩ ?_
  refine lv_i2l C0.1 C0.2.1 dX7_digest_40 rfl ?_
  refine lv_ladd C0.1 C0.2.1 dX7_digest_41 ?_
  refine sr_nml (fun h9 eh9 => ?_)
  refine lv_lstore_n (lv' := [(1, .long h9), (3, .int 8), (0, .ref (a 0))]) C0.1 C0.2.1 dX7_digest_42 rfl hl (by decide) rfl (fun ls hl => ?_)
  refine lv_iconst (v := 0) C0.1 C0.2.1 dX7_digest_43 (by decide) ?_
  refine lv_istore_n (lv' := [(3, .int 0), (1, .long h9), (0, .ref (a 0))]) C0.1 C0.2.1 dX7_digest_44 rfl hl (by decide) rfl (fun ls hl => ?_)
  have lp45 : ∀ (n45 : Nat) (i : Nat) (H : Heap) (locs : List Loc) (ls : Array Slot), (i ≤ sr_cnt kp) → (sr_cnt kp + 1 ≤ i + n45) → va_P D vwCl (sr_WC cI cR a kp cx sg) H → va_S (sr_AC a) s.heap H locs → lv_has ls 5 [(3, .int (nI i)), (1, .long (sr_dr kp h9 i)), (0, .ref (a 0))] → W p l e (sr_rm 6 155) s m args below meth c H locs 0 0 Q (F0 m 45 ls []) := by
    intro n45
    induction n45 with
    | zero =>
      intro i H locs ls h_i h_n hP hS hl
      exact absurd h_n (by omega)
    | succ n45 ih45 =>
      intro i H locs ls h_i h_n hP hS hl
      have hc5 := sr_cnt5 kp
      refine lv_iload_n C0.1 C0.2.1 dX7_digest_45 rfl (lv_at hl 0 rfl) ?_
      refine lv_aload_n C0.1 C0.2.1 dX7_digest_46 rfl (lv_at hl 2 rfl) ?_
      refine sr_get (v := .ref (a 1)) C0 hK hP sr_inX7 sr_wC0 rfl 0 (by decide) sw_188 rfl dX7_digest_47 ?_
      refine sr_get (v := .int (cx 4 1)) C0 hK hP sr_inX4 sr_wC1 rfl 7 (by decide) sw_44 rfl dX7_digest_50 ?_
      refine sr_chi (sr_IC_1 hI) ?_
      have := sr_cnt5 kp
      refine lv_icmp_ge (tgt := 108) C0.1 C0.2.1 dX7_digest_53 (by decide) (fun c53 => ?_) (fun c53 => ?_)
      · have g53 : (sr_cnt kp) ≤ i := (nI_leI (a := (sr_cnt kp)) (b := i) (by omega) (by omega)).mp c53
        obtain rfl : i = sr_cnt kp := by omega
        refine lv_iconst (v := 0) C0.1 C0.2.1 dX7_digest_108 (by decide) ?_
        refine lv_istore_n (lv' := [(3, .int 0), (1, .long (sr_dr kp h9 (sr_cnt kp))), (0, .ref (a 0))]) C0.1 C0.2.1 dX7_digest_109 rfl hl (by decide) rfl (fun ls hl => ?_)
        refine lv_iload_n C0.1 C0.2.1 dX7_digest_110 rfl (lv_at hl 0 rfl) ?_
        refine lv_iconst (v := 4) C0.1 C0.2.1 dX7_digest_111 (by decide) ?_
        refine lv_icmp_ge (tgt := 162) C0.1 C0.2.1 dX7_digest_112 (by decide) (fun q => absurd q (by decide)) (fun _ => ?_)
        refine lv_ldc2 (v := 31) C0.1 C0.2.1 C0.2.2.2.1 (C0.2.2.2.2 _ sw_587) dX7_digest_115 ?_
        refine lv_lload_n C0.1 C0.2.1 dX7_digest_118 rfl (lv_at hl 1 rfl) ?_
        refine lv_lmul C0.1 C0.2.1 dX7_digest_119 ?_
        refine lv_aload_n C0.1 C0.2.1 dX7_digest_120 rfl (lv_at hl 2 rfl) ?_
        refine lv_iload_n C0.1 C0.2.1 dX7_digest_121 rfl (lv_at hl 0 rfl) ?_
        refine lv_iconst (v := 0) C0.1 C0.2.1 dX7_digest_122 (by decide) ?_
        refine sr_pVi (As := [.int 0, .int 0]) C0 hK hP hZ (sr_Zs hZ hZ0 hS) (cc_X7_when ha (0) (0) hI) sk_X7_when sv_X7_when sw_592 (ci := 7) rfl sr_wC0 rfl rfl hl.1 (Nat.le_of_ble_eq_true rfl) (Nat.le_of_ble_eq_true rfl) (Nat.le_of_ble_eq_true rfl) dX7_digest_123 ⟨Nat.zero_le _, Nat.zero_le _⟩ ?_
        refine lv_i2l C0.1 C0.2.1 dX7_digest_126 rfl ?_
        refine lv_ladd C0.1 C0.2.1 dX7_digest_127 ?_
        refine sr_nml (fun h10 eh10 => ?_)
        refine lv_lstore_n (lv' := [(1, .long h10), (3, .int 0), (0, .ref (a 0))]) C0.1 C0.2.1 dX7_digest_128 rfl hl (by decide) rfl (fun ls hl => ?_)
        refine lv_ldc2 (v := 31) C0.1 C0.2.1 C0.2.2.2.1 (C0.2.2.2.2 _ sw_587) dX7_digest_129 ?_
        refine lv_lload_n C0.1 C0.2.1 dX7_digest_132 rfl (lv_at hl 0 rfl) ?_
        refine lv_lmul C0.1 C0.2.1 dX7_digest_133 ?_
        refine lv_aload_n C0.1 C0.2.1 dX7_digest_134 rfl (lv_at hl 2 rfl) ?_
        refine lv_iload_n C0.1 C0.2.1 dX7_digest_135 rfl (lv_at hl 1 rfl) ?_
        refine lv_iconst (v := 1) C0.1 C0.2.1 dX7_digest_136 (by decide) ?_
        refine sr_pVi (As := [.int 0, .int 1]) C0 hK hP hZ (sr_Zs hZ hZ0 hS) (cc_X7_when ha (0) (1) hI) sk_X7_when sv_X7_when sw_592 (ci := 7) rfl sr_wC0 rfl rfl hl.1 (Nat.le_of_ble_eq_true rfl) (Nat.le_of_ble_eq_true rfl) (Nat.le_of_ble_eq_true rfl) dX7_digest_137 ⟨Nat.zero_le _, Nat.zero_le _⟩ ?_
        refine lv_i2l C0.1 C0.2.1 dX7_digest_140 rfl ?_
        refine lv_ladd C0.1 C0.2.1 dX7_digest_141 ?_
        refine sr_nml (fun h11 eh11 => ?_)
        refine lv_lstore_n (lv' := [(1, .long h11), (3, .int 0), (0, .ref (a 0))]) C0.1 C0.2.1 dX7_digest_142 rfl hl (by decide) rfl (fun ls hl => ?_)
        refine lv_ldc2 (v := 31) C0.1 C0.2.1 C0.2.2.2.1 (C0.2.2.2.2 _ sw_587) dX7_digest_143 ?_
        refine lv_lload_n C0.1 C0.2.1 dX7_digest_146 rfl (lv_at hl 0 rfl) ?_
        refine lv_lmul C0.1 C0.2.1 dX7_digest_147 ?_
        refine lv_aload_n C0.1 C0.2.1 dX7_digest_148 rfl (lv_at hl 2 rfl) ?_
        refine lv_iload_n C0.1 C0.2.1 dX7_digest_149 rfl (lv_at hl 1 rfl) ?_
        refine sr_pVi (As := [.int 0]) C0 hK hP hZ (sr_Zs hZ hZ0 hS) (cc_X7_carries ha (0) hI) sk_X7_carries sv_X7_carries sw_593 (ci := 7) rfl sr_wC0 rfl rfl hl.1 (Nat.le_of_ble_eq_true rfl) (Nat.le_of_ble_eq_true rfl) (Nat.le_of_ble_eq_true rfl) dX7_digest_150 ⟨Nat.zero_le _, Nat.zero_le _⟩ ?_
        refine lv_i2l C0.1 C0.2.1 dX7_digest_153 rfl ?_
        refine lv_ladd C0.1 C0.2.1 dX7_digest_154 ?_
        refine sr_nml (fun h12 eh12 => ?_)
        refine lv_lstore_n (lv' := [(1, .long h12), (3, .int 0), (0, .ref (a 0))]) C0.1 C0.2.1 dX7_digest_155 rfl hl (by decide) rfl (fun ls hl => ?_)
        refine lv_iinc (v := 1) (lv' := [(3, .int 1), (1, .long h12), (0, .ref (a 0))]) C0.1 C0.2.1 dX7_digest_156 hl (k := 1) rfl (by decide) (by decide) rfl (fun ls hl => ?_)
        refine lv_goto (tgt := 110) C0.1 C0.2.1 dX7_digest_159 (by decide) ?_
        refine lv_iload_n C0.1 C0.2.1 dX7_digest_110 rfl (lv_at hl 0 rfl) ?_
        refine lv_iconst (v := 4) C0.1 C0.2.1 dX7_digest_111 (by decide) ?_
        refine lv_icmp_ge (tgt := 162) C0.1 C0.2.1 dX7_digest_112 (by decide) (fun q => absurd q (by decide)) (fun _ => ?_)
        refine lv_ldc2 (v := 31) C0.1 C0.2.1 C0.2.2.2.1 (C0.2.2.2.2 _ sw_587) dX7_digest_115 ?_
        refine lv_lload_n C0.1 C0.2.1 dX7_digest_118 rfl (lv_at hl 1 rfl) ?_
        refine lv_lmul C0.1 C0.2.1 dX7_digest_119 ?_
        refine lv_aload_n C0.1 C0.2.1 dX7_digest_120 rfl (lv_at hl 2 rfl) ?_
        refine lv_iload_n C0.1 C0.2.1 dX7_digest_121 rfl (lv_at hl 0 rfl) ?_
        refine lv_iconst (v := 0) C0.1 C0.2.1 dX7_digest_122 (by decide) ?_
        refine sr_pVi (As := [.int 1, .int 0]) C0 hK hP hZ (sr_Zs hZ hZ0 hS) (cc_X7_when ha (1) (0) hI) sk_X7_when sv_X7_when sw_592 (ci := 7) rfl sr_wC0 rfl rfl hl.1 (Nat.le_of_ble_eq_true rfl) (Nat.le_of_ble_eq_true rfl) (Nat.le_of_ble_eq_true rfl) dX7_digest_123 ⟨Nat.zero_le _, Nat.zero_le _⟩ ?_
        refine lv_i2l C0.1 C0.2.1 dX7_digest_126 rfl ?_
        refine lv_ladd C0.1 C0.2.1 dX7_digest_127 ?_
        refine sr_nml (fun h13 eh13 => ?_)
        refine lv_lstore_n (lv' := [(1, .long h13), (3, .int 1), (0, .ref (a 0))]) C0.1 C0.2.1 dX7_digest_128 rfl hl (by decide) rfl (fun ls hl => ?_)
        refine lv_ldc2 (v := 31) C0.1 C0.2.1 C0.2.2.2.1 (C0.2.2.2.2 _ sw_587) dX7_digest_129 ?_
        refine lv_lload_n C0.1 C0.2.1 dX7_digest_132 rfl (lv_at hl 0 rfl) ?_
        refine lv_lmul C0.1 C0.2.1 dX7_digest_133 ?_
        refine lv_aload_n C0.1 C0.2.1 dX7_digest_134 rfl (lv_at hl 2 rfl) ?_
        refine lv_iload_n C0.1 C0.2.1 dX7_digest_135 rfl (lv_at hl 1 rfl) ?_
        refine lv_iconst (v := 1) C0.1 C0.2.1 dX7_digest_136 (by decide) ?_
        refine sr_pVi (As := [.int 1, .int 1]) C0 hK hP hZ (sr_Zs hZ hZ0 hS) (cc_X7_when ha (1) (1) hI) sk_X7_when sv_X7_when sw_592 (ci := 7) rfl sr_wC0 rfl rfl hl.1 (Nat.le_of_ble_eq_true rfl) (Nat.le_of_ble_eq_true rfl) (Nat.le_of_ble_eq_true rfl) dX7_digest_137 ⟨Nat.zero_le _, Nat.zero_le _⟩ ?_
        refine lv_i2l C0.1 C0.2.1 dX7_digest_140 rfl ?_
        refine lv_ladd C0.1 C0.2.1 dX7_digest_141 ?_
        refine sr_nml (fun h14 eh14 => ?_)
        refine lv_lstore_n (lv' := [(1, .long h14), (3, .int 1), (0, .ref (a 0))]) C0.1 C0.2.1 dX7_digest_142 rfl hl (by decide) rfl (fun ls hl => ?_)
        refine lv_ldc2 (v := 31) C0.1 C0.2.1 C0.2.2.2.1 (C0.2.2.2.2 _ sw_587) dX7_digest_143 ?_
        refine lv_lload_n C0.1 C0.2.1 dX7_digest_146 rfl (lv_at hl 0 rfl) ?_
        refine lv_lmul C0.1 C0.2.1 dX7_digest_147 ?_
        refine lv_aload_n C0.1 C0.2.1 dX7_digest_148 rfl (lv_at hl 2 rfl) ?_
        refine lv_iload_n C0.1 C0.2.1 dX7_digest_149 rfl (lv_at hl 1 rfl) ?_
        refine sr_pVi (As := [.int 1]) C0 hK hP hZ (sr_Zs hZ hZ0 hS) (cc_X7_carries ha (1) hI) sk_X7_carries sv_X7_carries sw_593 (ci := 7) rfl sr_wC0 rfl rfl hl.1 (Nat.le_of_ble_eq_true rfl) (Nat.le_of_ble_eq_true rfl) (Nat.le_of_ble_eq_true rfl) dX7_digest_150 ⟨Nat.zero_le _, Nat.zero_le _⟩ ?_
        refine lv_i2l C0.1 C0.2.1 dX7_digest_153 rfl ?_
        refine lv_ladd C0.1 C0.2.1 dX7_digest_154 ?_
        refine sr_nml (fun h15 eh15 => ?_)
        refine lv_lstore_n (lv' := [(1, .long h15), (3, .int 1), (0, .ref (a 0))]) C0.1 C0.2.1 dX7_digest_155 rfl hl (by decide) rfl (fun ls hl => ?_)
        refine lv_iinc (v := 2) (lv' := [(3, .int 2), (1, .long h15), (0, .ref (a 0))]) C0.1 C0.2.1 dX7_digest_156 hl (k := 1) rfl (by decide) (by decide) rfl (fun ls hl => ?_)
        refine lv_goto (tgt := 110) C0.1 C0.2.1 dX7_digest_159 (by decide) ?_
        refine lv_iload_n C0.1 C0.2.1 dX7_digest_110 rfl (lv_at hl 0 rfl) ?_
        refine lv_iconst (v := 4) C0.1 C0.2.1 dX7_digest_111 (by decide) ?_
        refine lv_icmp_ge (tgt := 162) C0.1 C0.2.1 dX7_digest_112 (by decide) (fun q => absurd q (by decide)) (fun _ => ?_)
        refine lv_ldc2 (v := 31) C0.1 C0.2.1 C0.2.2.2.1 (C0.2.2.2.2 _ sw_587) dX7_digest_115 ?_
        refine lv_lload_n C0.1 C0.2.1 dX7_digest_118 rfl (lv_at hl 1 rfl) ?_
        refine lv_lmul C0.1 C0.2.1 dX7_digest_119 ?_
        refine lv_aload_n C0.1 C0.2.1 dX7_digest_120 rfl (lv_at hl 2 rfl) ?_
        refine lv_iload_n C0.1 C0.2.1 dX7_digest_121 rfl (lv_at hl 0 rfl) ?_
        refine lv_iconst (v := 0) C0.1 C0.2.1 dX7_digest_122 (by decide) ?_
        refine sr_pVi (As := [.int 2, .int 0]) C0 hK hP hZ (sr_Zs hZ hZ0 hS) (cc_X7_when ha (2) (0) hI) sk_X7_when sv_X7_when sw_592 (ci := 7) rfl sr_wC0 rfl rfl hl.1 (Nat.le_of_ble_eq_true rfl) (Nat.le_of_ble_eq_true rfl) (Nat.le_of_ble_eq_true rfl) dX7_digest_123 ⟨Nat.zero_le _, Nat.zero_le _⟩ ?_
        refine lv_i2l C0.1 C0.2.1 dX7_digest_126 rfl ?_
        refine lv_ladd C0.1 C0.2.1 dX7_digest_127 ?_
        refine sr_nml (fun h16 eh16 => ?_)
        refine lv_lstore_n (lv' := [(1, .long h16), (3, .int 2), (0, .ref (a 0))]) C0.1 C0.2.1 dX7_digest_128 rfl hl (by decide) rfl (fun ls hl => ?_)
        refine lv_ldc2 (v := 31) C0.1 C0.2.1 C0.2.2.2.1 (C0.2.2.2.2 _ sw_587) dX7_digest_129 ?_
        refine lv_lload_n C0.1 C0.2.1 dX7_digest_132 rfl (lv_at hl 0 rfl) ?_
        refine lv_lmul C0.1 C0.2.1 dX7_digest_133 ?_
        refine lv_aload_n C0.1 C0.2.1 dX7_digest_134 rfl (lv_at hl 2 rfl) ?_
        refine lv_iload_n C0.1 C0.2.1 dX7_digest_135 rfl (lv_at hl 1 rfl) ?_
        refine lv_iconst (v := 1) C0.1 C0.2.1 dX7_digest_136 (by decide) ?_
        refine sr_pVi (As := [.int 2, .int 1]) C0 hK hP hZ (sr_Zs hZ hZ0 hS) (cc_X7_when ha (2) (1) hI) sk_X7_when sv_X7_when sw_592 (ci := 7) rfl sr_wC0 rfl rfl hl.1 (Nat.le_of_ble_eq_true rfl) (Nat.le_of_ble_eq_true rfl) (Nat.le_of_ble_eq_true rfl) dX7_digest_137 ⟨Nat.zero_le _, Nat.zero_le _⟩ ?_
        refine lv_i2l C0.1 C0.2.1 dX7_digest_140 rfl ?_
        refine lv_ladd C0.1 C0.2.1 dX7_digest_141 ?_
        refine sr_nml (fun h17 eh17 => ?_)
        refine lv_lstore_n (lv' := [(1, .long h17), (3, .int 2), (0, .ref (a 0))]) C0.1 C0.2.1 dX7_digest_142 rfl hl (by decide) rfl (fun ls hl => ?_)
        refine lv_ldc2 (v := 31) C0.1 C0.2.1 C0.2.2.2.1 (C0.2.2.2.2 _ sw_587) dX7_digest_143 ?_
        refine lv_lload_n C0.1 C0.2.1 dX7_digest_146 rfl (lv_at hl 0 rfl) ?_
        refine lv_lmul C0.1 C0.2.1 dX7_digest_147 ?_
        refine lv_aload_n C0.1 C0.2.1 dX7_digest_148 rfl (lv_at hl 2 rfl) ?_
        refine lv_iload_n C0.1 C0.2.1 dX7_digest_149 rfl (lv_at hl 1 rfl) ?_
        refine sr_pVi (As := [.int 2]) C0 hK hP hZ (sr_Zs hZ hZ0 hS) (cc_X7_carries ha (2) hI) sk_X7_carries sv_X7_carries sw_593 (ci := 7) rfl sr_wC0 rfl rfl hl.1 (Nat.le_of_ble_eq_true rfl) (Nat.le_of_ble_eq_true rfl) (Nat.le_of_ble_eq_true rfl) dX7_digest_150 ⟨Nat.zero_le _, Nat.zero_le _⟩ ?_
        refine lv_i2l C0.1 C0.2.1 dX7_digest_153 rfl ?_
        refine lv_ladd C0.1 C0.2.1 dX7_digest_154 ?_
        refine sr_nml (fun h18 eh18 => ?_)
        refine lv_lstore_n (lv' := [(1, .long h18), (3, .int 2), (0, .ref (a 0))]) C0.1 C0.2.1 dX7_digest_155 rfl hl (by decide) rfl (fun ls hl => ?_)
        refine lv_iinc (v := 3) (lv' := [(3, .int 3), (1, .long h18), (0, .ref (a 0))]) C0.1 C0.2.1 dX7_digest_156 hl (k := 1) rfl (by decide) (by decide) rfl (fun ls hl => ?_)
        refine lv_goto (tgt := 110) C0.1 C0.2.1 dX7_digest_159 (by decide) ?_
        refine lv_iload_n C0.1 C0.2.1 dX7_digest_110 rfl (lv_at hl 0 rfl) ?_
        refine lv_iconst (v := 4) C0.1 C0.2.1 dX7_digest_111 (by decide) ?_
        refine lv_icmp_ge (tgt := 162) C0.1 C0.2.1 dX7_digest_112 (by decide) (fun q => absurd q (by decide)) (fun _ => ?_)
        refine lv_ldc2 (v := 31) C0.1 C0.2.1 C0.2.2.2.1 (C0.2.2.2.2 _ sw_587) dX7_digest_115 ?_
        refine lv_lload_n C0.1 C0.2.1 dX7_digest_118 rfl (lv_at hl 1 rfl) ?_
        refine lv_lmul C0.1 C0.2.1 dX7_digest_119 ?_
        refine lv_aload_n C0.1 C0.2.1 dX7_digest_120 rfl (lv_at hl 2 rfl) ?_
        refine lv_iload_n C0.1 C0.2.1 dX7_digest_121 rfl (lv_at hl 0 rfl) ?_
        refine lv_iconst (v := 0) C0.1 C0.2.1 dX7_digest_122 (by decide) ?_
        refine sr_pVi (As := [.int 3, .int 0]) C0 hK hP hZ (sr_Zs hZ hZ0 hS) (cc_X7_when ha (3) (0) hI) sk_X7_when sv_X7_when sw_592 (ci := 7) rfl sr_wC0 rfl rfl hl.1 (Nat.le_of_ble_eq_true rfl) (Nat.le_of_ble_eq_true rfl) (Nat.le_of_ble_eq_true rfl) dX7_digest_123 ⟨Nat.zero_le _, Nat.zero_le _⟩ ?_
        refine lv_i2l C0.1 C0.2.1 dX7_digest_126 rfl ?_
        refine lv_ladd C0.1 C0.2.1 dX7_digest_127 ?_
        refine sr_nml (fun h19 eh19 => ?_)
        refine lv_lstore_n (lv' := [(1, .long h19), (3, .int 3), (0, .ref (a 0))]) C0.1 C0.2.1 dX7_digest_128 rfl hl (by decide) rfl (fun ls hl => ?_)
        refine lv_ldc2 (v := 31) C0.1 C0.2.1 C0.2.2.2.1 (C0.2.2.2.2 _ sw_587) dX7_digest_129 ?_
        refine lv_lload_n C0.1 C0.2.1 dX7_digest_132 rfl (lv_at hl 0 rfl) ?_
        refine lv_lmul C0.1 C0.2.1 dX7_digest_133 ?_
        refine lv_aload_n C0.1 C0.2.1 dX7_digest_134 rfl (lv_at hl 2 rfl) ?_
        refine lv_iload_n C0.1 C0.2.1 dX7_digest_135 rfl (lv_at hl 1 rfl) ?_
        refine lv_iconst (v := 1) C0.1 C0.2.1 dX7_digest_136 (by decide) ?_
        refine sr_pVi (As := [.int 3, .int 1]) C0 hK hP hZ (sr_Zs hZ hZ0 hS) (cc_X7_when ha (3) (1) hI) sk_X7_when sv_X7_when sw_592 (ci := 7) rfl sr_wC0 rfl rfl hl.1 (Nat.le_of_ble_eq_true rfl) (Nat.le_of_ble_eq_true rfl) (Nat.le_of_ble_eq_true rfl) dX7_digest_137 ⟨Nat.zero_le _, Nat.zero_le _⟩ ?_
        refine lv_i2l C0.1 C0.2.1 dX7_digest_140 rfl ?_
        refine lv_ladd C0.1 C0.2.1 dX7_digest_141 ?_
        refine sr_nml (fun h20 eh20 => ?_)
        refine lv_lstore_n (lv' := [(1, .long h20), (3, .int 3), (0, .ref (a 0))]) C0.1 C0.2.1 dX7_digest_142 rfl hl (by decide) rfl (fun ls hl => ?_)
        refine lv_ldc2 (v := 31) C0.1 C0.2.1 C0.2.2.2.1 (C0.2.2.2.2 _ sw_587) dX7_digest_143 ?_
        refine lv_lload_n C0.1 C0.2.1 dX7_digest_146 rfl (lv_at hl 0 rfl) ?_
        refine lv_lmul C0.1 C0.2.1 dX7_digest_147 ?_
        refine lv_aload_n C0.1 C0.2.1 dX7_digest_148 rfl (lv_at hl 2 rfl) ?_
        refine lv_iload_n C0.1 C0.2.1 dX7_digest_149 rfl (lv_at hl 1 rfl) ?_
        refine sr_pVi (As := [.int 3]) C0 hK hP hZ (sr_Zs hZ hZ0 hS) (cc_X7_carries ha (3) hI) sk_X7_carries sv_X7_carries sw_593 (ci := 7) rfl sr_wC0 rfl rfl hl.1 (Nat.le_of_ble_eq_true rfl) (Nat.le_of_ble_eq_true rfl) (Nat.le_of_ble_eq_true rfl) dX7_digest_150 ⟨Nat.zero_le _, Nat.zero_le _⟩ ?_
        refine lv_i2l C0.1 C0.2.1 dX7_digest_153 rfl ?_
        refine lv_ladd C0.1 C0.2.1 dX7_digest_154 ?_
        refine sr_nml (fun h21 eh21 => ?_)
        refine lv_lstore_n (lv' := [(1, .long h21), (3, .int 3), (0, .ref (a 0))]) C0.1 C0.2.1 dX7_digest_155 rfl hl (by decide) rfl (fun ls hl => ?_)
        refine lv_iinc (v := 4) (lv' := [(3, .int 4), (1, .long h21), (0, .ref (a 0))]) C0.1 C0.2.1 dX7_digest_156 hl (k := 1) rfl (by decide) (by decide) rfl (fun ls hl => ?_)
        refine lv_goto (tgt := 110) C0.1 C0.2.1 dX7_digest_159 (by decide) ?_
        refine lv_iload_n C0.1 C0.2.1 dX7_digest_110 rfl (lv_at hl 0 rfl) ?_
        refine lv_iconst (v := 4) C0.1 C0.2.1 dX7_digest_111 (by decide) ?_
        refine lv_icmp_ge (tgt := 162) C0.1 C0.2.1 dX7_digest_112 (by decide) (fun _ => ?_) (fun q => absurd q (by decide))
        refine lv_iconst (v := 0) C0.1 C0.2.1 dX7_digest_162 (by decide) ?_
        refine lv_istore_n (lv' := [(3, .int 0), (1, .long h21), (0, .ref (a 0))]) C0.1 C0.2.1 dX7_digest_163 rfl hl (by decide) rfl (fun ls hl => ?_)
        refine lv_iload_n C0.1 C0.2.1 dX7_digest_164 rfl (lv_at hl 0 rfl) ?_
        refine lv_iconst (v := 3) C0.1 C0.2.1 dX7_digest_165 (by decide) ?_
        refine lv_icmp_ge (tgt := 256) C0.1 C0.2.1 dX7_digest_166 (by decide) (fun q => absurd q (by decide)) (fun _ => ?_)
        refine lv_ldc2 (v := 31) C0.1 C0.2.1 C0.2.2.2.1 (C0.2.2.2.2 _ sw_587) dX7_digest_169 ?_
        refine lv_lload_n C0.1 C0.2.1 dX7_digest_172 rfl (lv_at hl 1 rfl) ?_
        refine lv_lmul C0.1 C0.2.1 dX7_digest_173 ?_
        refine lv_aload_n C0.1 C0.2.1 dX7_digest_174 rfl (lv_at hl 2 rfl) ?_
        refine lv_iload_n C0.1 C0.2.1 dX7_digest_175 rfl (lv_at hl 0 rfl) ?_
        refine sr_pVi (As := [.int 0]) C0 hK hP hZ (sr_Zs hZ hZ0 hS) (cc_X7_meet ha (0) hI) sk_X7_meet sv_X7_meet sw_594 (ci := 7) rfl sr_wC0 rfl rfl hl.1 (Nat.le_of_ble_eq_true rfl) (Nat.le_of_ble_eq_true rfl) (Nat.le_of_ble_eq_true rfl) dX7_digest_176 ⟨Nat.zero_le _, Nat.zero_le _⟩ ?_
        refine lv_i2l C0.1 C0.2.1 dX7_digest_179 rfl ?_
        refine lv_ladd C0.1 C0.2.1 dX7_digest_180 ?_
        refine sr_nml (fun h22 eh22 => ?_)
        refine lv_lstore_n (lv' := [(1, .long h22), (3, .int 0), (0, .ref (a 0))]) C0.1 C0.2.1 dX7_digest_181 rfl hl (by decide) rfl (fun ls hl => ?_)
        refine lv_ldc2 (v := 31) C0.1 C0.2.1 C0.2.2.2.1 (C0.2.2.2.2 _ sw_587) dX7_digest_182 ?_
        refine lv_lload_n C0.1 C0.2.1 dX7_digest_185 rfl (lv_at hl 0 rfl) ?_
        refine lv_lmul C0.1 C0.2.1 dX7_digest_186 ?_
        refine lv_aload_n C0.1 C0.2.1 dX7_digest_187 rfl (lv_at hl 2 rfl) ?_
        refine lv_iload_n C0.1 C0.2.1 dX7_digest_188 rfl (lv_at hl 1 rfl) ?_
        refine sr_pVi (As := [.int 0]) C0 hK hP hZ (sr_Zs hZ hZ0 hS) (cc_X7_kind ha (0) hI) sk_X7_kind sv_X7_kind sw_595 (ci := 7) rfl sr_wC0 rfl rfl hl.1 (Nat.le_of_ble_eq_true rfl) (Nat.le_of_ble_eq_true rfl) (Nat.le_of_ble_eq_true rfl) dX7_digest_189 ⟨Nat.zero_le _, Nat.zero_le _⟩ ?_
        refine lv_i2l C0.1 C0.2.1 dX7_digest_192 rfl ?_
        refine lv_ladd C0.1 C0.2.1 dX7_digest_193 ?_
        refine sr_nml (fun h23 eh23 => ?_)
        refine lv_lstore_n (lv' := [(1, .long h23), (3, .int 0), (0, .ref (a 0))]) C0.1 C0.2.1 dX7_digest_194 rfl hl (by decide) rfl (fun ls hl => ?_)
        refine lv_ldc2 (v := 31) C0.1 C0.2.1 C0.2.2.2.1 (C0.2.2.2.2 _ sw_587) dX7_digest_195 ?_
        refine lv_lload_n C0.1 C0.2.1 dX7_digest_198 rfl (lv_at hl 0 rfl) ?_
        refine lv_lmul C0.1 C0.2.1 dX7_digest_199 ?_
        refine lv_aload_n C0.1 C0.2.1 dX7_digest_200 rfl (lv_at hl 2 rfl) ?_
        refine lv_iload_n C0.1 C0.2.1 dX7_digest_201 rfl (lv_at hl 1 rfl) ?_
        refine sr_gVi (As := [.int 0]) C0 hK hP hZ (sr_Zs hZ hZ0 hS) (cc_X7_chance ha (0) hI) sk_X7_chance sv_X7_chance sw_596 (ci := 7) rfl sr_wC0 rfl rfl hl.1 (Nat.le_of_ble_eq_true rfl) (Nat.le_of_ble_eq_true rfl) (Nat.le_of_ble_eq_true rfl) dX7_digest_202 ⟨Nat.zero_le _, Nat.zero_le _⟩ hS (fun sg1 H locs hu hP hS => ?_)
        refine lv_i2l C0.1 C0.2.1 dX7_digest_205 rfl ?_
        refine lv_ladd C0.1 C0.2.1 dX7_digest_206 ?_
        refine sr_nml (fun h24 eh24 => ?_)
        refine lv_lstore_n (lv' := [(1, .long h24), (3, .int 0), (0, .ref (a 0))]) C0.1 C0.2.1 dX7_digest_207 rfl hl (by decide) rfl (fun ls hl => ?_)
        refine lv_ldc2 (v := 31) C0.1 C0.2.1 C0.2.2.2.1 (C0.2.2.2.2 _ sw_587) dX7_digest_208 ?_
        refine lv_lload_n C0.1 C0.2.1 dX7_digest_211 rfl (lv_at hl 0 rfl) ?_
        refine lv_lmul C0.1 C0.2.1 dX7_digest_212 ?_
        refine lv_aload_n C0.1 C0.2.1 dX7_digest_213 rfl (lv_at hl 2 rfl) ?_
        refine lv_iload_n C0.1 C0.2.1 dX7_digest_214 rfl (lv_at hl 1 rfl) ?_
        refine lv_bipush (v := 10) C0.1 C0.2.1 dX7_digest_215 (by decide) ?_
        refine sr_gVi (As := [.int 0, .int 10]) C0 hK hP hZ (sr_Zs hZ hZ0 hS) (cc_X7_safe ha (0) (10) hI) sk_X7_safe sv_X7_safe sw_597 (ci := 7) rfl sr_wC0 rfl rfl hl.1 (Nat.le_of_ble_eq_true rfl) (Nat.le_of_ble_eq_true rfl) (Nat.le_of_ble_eq_true rfl) dX7_digest_217 ⟨Nat.zero_le _, Nat.zero_le _⟩ hS (fun sg2 H locs hu_2 hP hS => ?_)
        refine lv_i2l C0.1 C0.2.1 dX7_digest_220 rfl ?_
        refine lv_ladd C0.1 C0.2.1 dX7_digest_221 ?_
        refine sr_nml (fun h25 eh25 => ?_)
        refine lv_lstore_n (lv' := [(1, .long h25), (3, .int 0), (0, .ref (a 0))]) C0.1 C0.2.1 dX7_digest_222 rfl hl (by decide) rfl (fun ls hl => ?_)
        refine lv_ldc2 (v := 31) C0.1 C0.2.1 C0.2.2.2.1 (C0.2.2.2.2 _ sw_587) dX7_digest_223 ?_
        refine lv_lload_n C0.1 C0.2.1 dX7_digest_226 rfl (lv_at hl 0 rfl) ?_
        refine lv_lmul C0.1 C0.2.1 dX7_digest_227 ?_
        refine lv_aload_n C0.1 C0.2.1 dX7_digest_228 rfl (lv_at hl 2 rfl) ?_
        refine lv_iload_n C0.1 C0.2.1 dX7_digest_229 rfl (lv_at hl 1 rfl) ?_
        refine sr_pVi (As := [.int 0]) C0 hK hP hZ (sr_Zs hZ hZ0 hS) (cc_X7_best ha (0) hI) sk_X7_best sv_X7_best sw_598 (ci := 7) rfl sr_wC0 rfl rfl hl.1 (Nat.le_of_ble_eq_true rfl) (Nat.le_of_ble_eq_true rfl) (Nat.le_of_ble_eq_true rfl) dX7_digest_230 ⟨Nat.zero_le _, Nat.zero_le _⟩ ?_
        refine lv_i2l C0.1 C0.2.1 dX7_digest_233 rfl ?_
        refine lv_ladd C0.1 C0.2.1 dX7_digest_234 ?_
        refine sr_nml (fun h26 eh26 => ?_)
        refine lv_lstore_n (lv' := [(1, .long h26), (3, .int 0), (0, .ref (a 0))]) C0.1 C0.2.1 dX7_digest_235 rfl hl (by decide) rfl (fun ls hl => ?_)
        refine lv_ldc2 (v := 31) C0.1 C0.2.1 C0.2.2.2.1 (C0.2.2.2.2 _ sw_587) dX7_digest_236 ?_
        refine lv_lload_n C0.1 C0.2.1 dX7_digest_239 rfl (lv_at hl 0 rfl) ?_
        refine lv_lmul C0.1 C0.2.1 dX7_digest_240 ?_
        refine lv_aload_n C0.1 C0.2.1 dX7_digest_241 rfl (lv_at hl 2 rfl) ?_
        refine lv_iload_n C0.1 C0.2.1 dX7_digest_242 rfl (lv_at hl 1 rfl) ?_
        refine lv_iconst (v := 5) C0.1 C0.2.1 dX7_digest_243 (by decide) ?_
        refine sr_pVi (As := [.int 0, .int 5]) C0 hK hP hZ (sr_Zs hZ hZ0 hS) (cc_X7_blame ha (0) (5) hI) sk_X7_blame sv_X7_blame sw_599 (ci := 7) rfl sr_wC0 rfl rfl hl.1 (Nat.le_of_ble_eq_true rfl) (Nat.le_of_ble_eq_true rfl) (Nat.le_of_ble_eq_true rfl) dX7_digest_244 ⟨Nat.zero_le _, Nat.zero_le _⟩ ?_
        refine lv_i2l C0.1 C0.2.1 dX7_digest_247 rfl ?_
        refine lv_ladd C0.1 C0.2.1 dX7_digest_248 ?_
        refine sr_nml (fun h27 eh27 => ?_)
        refine lv_lstore_n (lv' := [(1, .long h27), (3, .int 0), (0, .ref (a 0))]) C0.1 C0.2.1 dX7_digest_249 rfl hl (by decide) rfl (fun ls hl => ?_)
        refine lv_iinc (v := 1) (lv' := [(3, .int 1), (1, .long h27), (0, .ref (a 0))]) C0.1 C0.2.1 dX7_digest_250 hl (k := 1) rfl (by decide) (by decide) rfl (fun ls hl => ?_)
        refine lv_goto (tgt := 164) C0.1 C0.2.1 dX7_digest_253 (by decide) ?_
        refine lv_iload_n C0.1 C0.2.1 dX7_digest_164 rfl (lv_at hl 0 rfl) ?_
        refine lv_iconst (v := 3) C0.1 C0.2.1 dX7_digest_165 (by decide) ?_
        refine lv_icmp_ge (tgt := 256) C0.1 C0.2.1 dX7_digest_166 (by decide) (fun q => absurd q (by decide)) (fun _ => ?_)
        refine lv_ldc2 (v := 31) C0.1 C0.2.1 C0.2.2.2.1 (C0.2.2.2.2 _ sw_587) dX7_digest_169 ?_
        refine lv_lload_n C0.1 C0.2.1 dX7_digest_172 rfl (lv_at hl 1 rfl) ?_
        refine lv_lmul C0.1 C0.2.1 dX7_digest_173 ?_
        refine lv_aload_n C0.1 C0.2.1 dX7_digest_174 rfl (lv_at hl 2 rfl) ?_
        refine lv_iload_n C0.1 C0.2.1 dX7_digest_175 rfl (lv_at hl 0 rfl) ?_
        refine sr_pVi (As := [.int 1]) C0 hK hP hZ (sr_Zs hZ hZ0 hS) (cc_X7_meet ha (1) hI) sk_X7_meet sv_X7_meet sw_594 (ci := 7) rfl sr_wC0 rfl rfl hl.1 (Nat.le_of_ble_eq_true rfl) (Nat.le_of_ble_eq_true rfl) (Nat.le_of_ble_eq_true rfl) dX7_digest_176 ⟨Nat.zero_le _, Nat.zero_le _⟩ ?_
        refine lv_i2l C0.1 C0.2.1 dX7_digest_179 rfl ?_
        refine lv_ladd C0.1 C0.2.1 dX7_digest_180 ?_
        refine sr_nml (fun h28 eh28 => ?_)
        refine lv_lstore_n (lv' := [(1, .long h28), (3, .int 1), (0, .ref (a 0))]) C0.1 C0.2.1 dX7_digest_181 rfl hl (by decide) rfl (fun ls hl => ?_)
        refine lv_ldc2 (v := 31) C0.1 C0.2.1 C0.2.2.2.1 (C0.2.2.2.2 _ sw_587) dX7_digest_182 ?_
        refine lv_lload_n C0.1 C0.2.1 dX7_digest_185 rfl (lv_at hl 0 rfl) ?_
        refine lv_lmul C0.1 C0.2.1 dX7_digest_186 ?_
        refine lv_aload_n C0.1 C0.2.1 dX7_digest_187 rfl (lv_at hl 2 rfl) ?_
        refine lv_iload_n C0.1 C0.2.1 dX7_digest_188 rfl (lv_at hl 1 rfl) ?_
        refine sr_pVi (As := [.int 1]) C0 hK hP hZ (sr_Zs hZ hZ0 hS) (cc_X7_kind ha (1) hI) sk_X7_kind sv_X7_kind sw_595 (ci := 7) rfl sr_wC0 rfl rfl hl.1 (Nat.le_of_ble_eq_true rfl) (Nat.le_of_ble_eq_true rfl) (Nat.le_of_ble_eq_true rfl) dX7_digest_189 ⟨Nat.zero_le _, Nat.zero_le _⟩ ?_
        refine lv_i2l C0.1 C0.2.1 dX7_digest_192 rfl ?_
        refine lv_ladd C0.1 C0.2.1 dX7_digest_193 ?_
        refine sr_nml (fun h29 eh29 => ?_)
        refine lv_lstore_n (lv' := [(1, .long h29), (3, .int 1), (0, .ref (a 0))]) C0.1 C0.2.1 dX7_digest_194 rfl hl (by decide) rfl (fun ls hl => ?_)
        refine lv_ldc2 (v := 31) C0.1 C0.2.1 C0.2.2.2.1 (C0.2.2.2.2 _ sw_587) dX7_digest_195 ?_
        refine lv_lload_n C0.1 C0.2.1 dX7_digest_198 rfl (lv_at hl 0 rfl) ?_
        refine lv_lmul C0.1 C0.2.1 dX7_digest_199 ?_
        refine lv_aload_n C0.1 C0.2.1 dX7_digest_200 rfl (lv_at hl 2 rfl) ?_
        refine lv_iload_n C0.1 C0.2.1 dX7_digest_201 rfl (lv_at hl 1 rfl) ?_
        refine sr_gVi (As := [.int 1]) C0 hK hP hZ (sr_Zs hZ hZ0 hS) (cc_X7_chance ha (1) hI) sk_X7_chance sv_X7_chance sw_596 (ci := 7) rfl sr_wC0 rfl rfl hl.1 (Nat.le_of_ble_eq_true rfl) (Nat.le_of_ble_eq_true rfl) (Nat.le_of_ble_eq_true rfl) dX7_digest_202 ⟨Nat.zero_le _, Nat.zero_le _⟩ hS (fun sg3 H locs hu_3 hP hS => ?_)
        refine lv_i2l C0.1 C0.2.1 dX7_digest_205 rfl ?_
        refine lv_ladd C0.1 C0.2.1 dX7_digest_206 ?_
        refine sr_nml (fun h30 eh30 => ?_)
        refine lv_lstore_n (lv' := [(1, .long h30), (3, .int 1), (0, .ref (a 0))]) C0.1 C0.2.1 dX7_digest_207 rfl hl (by decide) rfl (fun ls hl => ?_)
        refine lv_ldc2 (v := 31) C0.1 C0.2.1 C0.2.2.2.1 (C0.2.2.2.2 _ sw_587) dX7_digest_208 ?_
        refine lv_lload_n C0.1 C0.2.1 dX7_digest_211 rfl (lv_at hl 0 rfl) ?_
        refine lv_lmul C0.1 C0.2.1 dX7_digest_212 ?_
        refine lv_aload_n C0.1 C0.2.1 dX7_digest_213 rfl (lv_at hl 2 rfl) ?_
        refine lv_iload_n C0.1 C0.2.1 dX7_digest_214 rfl (lv_at hl 1 rfl) ?_
        refine lv_bipush (v := 10) C0.1 C0.2.1 dX7_digest_215 (by decide) ?_
        refine sr_gVi (As := [.int 1, .int 10]) C0 hK hP hZ (sr_Zs hZ hZ0 hS) (cc_X7_safe ha (1) (10) hI) sk_X7_safe sv_X7_safe sw_597 (ci := 7) rfl sr_wC0 rfl rfl hl.1 (Nat.le_of_ble_eq_true rfl) (Nat.le_of_ble_eq_true rfl) (Nat.le_of_ble_eq_true rfl) dX7_digest_217 ⟨Nat.zero_le _, Nat.zero_le _⟩ hS (fun sg4 H locs hu_4 hP hS => ?_)
        refine lv_i2l C0.1 C0.2.1 dX7_digest_220 rfl ?_
        refine lv_ladd C0.1 C0.2.1 dX7_digest_221 ?_
        refine sr_nml (fun h31 eh31 => ?_)
        refine lv_lstore_n (lv' := [(1, .long h31), (3, .int 1), (0, .ref (a 0))]) C0.1 C0.2.1 dX7_digest_222 rfl hl (by decide) rfl (fun ls hl => ?_)
        refine lv_ldc2 (v := 31) C0.1 C0.2.1 C0.2.2.2.1 (C0.2.2.2.2 _ sw_587) dX7_digest_223 ?_
        refine lv_lload_n C0.1 C0.2.1 dX7_digest_226 rfl (lv_at hl 0 rfl) ?_
        refine lv_lmul C0.1 C0.2.1 dX7_digest_227 ?_
        refine lv_aload_n C0.1 C0.2.1 dX7_digest_228 rfl (lv_at hl 2 rfl) ?_
        refine lv_iload_n C0.1 C0.2.1 dX7_digest_229 rfl (lv_at hl 1 rfl) ?_
        refine sr_pVi (As := [.int 1]) C0 hK hP hZ (sr_Zs hZ hZ0 hS) (cc_X7_best ha (1) hI) sk_X7_best sv_X7_best sw_598 (ci := 7) rfl sr_wC0 rfl rfl hl.1 (Nat.le_of_ble_eq_true rfl) (Nat.le_of_ble_eq_true rfl) (Nat.le_of_ble_eq_true rfl) dX7_digest_230 ⟨Nat.zero_le _, Nat.zero_le _⟩ ?_
        refine lv_i2l C0.1 C0.2.1 dX7_digest_233 rfl ?_
        refine lv_ladd C0.1 C0.2.1 dX7_digest_234 ?_
        refine sr_nml (fun h32 eh32 => ?_)
        refine lv_lstore_n (lv' := [(1, .long h32), (3, .int 1), (0, .ref (a 0))]) C0.1 C0.2.1 dX7_digest_235 rfl hl (by decide) rfl (fun ls hl => ?_)
        refine lv_ldc2 (v := 31) C0.1 C0.2.1 C0.2.2.2.1 (C0.2.2.2.2 _ sw_587) dX7_digest_236 ?_
        refine lv_lload_n C0.1 C0.2.1 dX7_digest_239 rfl (lv_at hl 0 rfl) ?_
        refine lv_lmul C0.1 C0.2.1 dX7_digest_240 ?_
        refine lv_aload_n C0.1 C0.2.1 dX7_digest_241 rfl (lv_at hl 2 rfl) ?_
        refine lv_iload_n C0.1 C0.2.1 dX7_digest_242 rfl (lv_at hl 1 rfl) ?_
        refine lv_iconst (v := 5) C0.1 C0.2.1 dX7_digest_243 (by decide) ?_
        refine sr_pVi (As := [.int 1, .int 5]) C0 hK hP hZ (sr_Zs hZ hZ0 hS) (cc_X7_blame ha (1) (5) hI) sk_X7_blame sv_X7_blame sw_599 (ci := 7) rfl sr_wC0 rfl rfl hl.1 (Nat.le_of_ble_eq_true rfl) (Nat.le_of_ble_eq_true rfl) (Nat.le_of_ble_eq_true rfl) dX7_digest_244 ⟨Nat.zero_le _, Nat.zero_le _⟩ ?_
        refine lv_i2l C0.1 C0.2.1 dX7_digest_247 rfl ?_
        refine lv_ladd C0.1 C0.2.1 dX7_digest_248 ?_
        refine sr_nml (fun h33 eh33 => ?_)
        refine lv_lstore_n (lv' := [(1, .long h33), (3, .int 1), (0, .ref (a 0))]) C0.1 C0.2.1 dX7_digest_249 rfl hl (by decide) rfl (fun ls hl => ?_)
        refine lv_iinc (v := 2) (lv' := [(3, .int 2), (1, .long h33), (0, .ref (a 0))]) C0.1 C0.2.1 dX7_digest_250 hl (k := 1) rfl (by decide) (by decide) rfl (fun ls hl => ?_)
        refine lv_goto (tgt := 164) C0.1 C0.2.1 dX7_digest_253 (by decide) ?_
        refine lv_iload_n C0.1 C0.2.1 dX7_digest_164 rfl (lv_at hl 0 rfl) ?_
        refine lv_iconst (v := 3) C0.1 C0.2.1 dX7_digest_165 (by decide) ?_
        refine lv_icmp_ge (tgt := 256) C0.1 C0.2.1 dX7_digest_166 (by decide) (fun q => absurd q (by decide)) (fun _ => ?_)
        refine lv_ldc2 (v := 31) C0.1 C0.2.1 C0.2.2.2.1 (C0.2.2.2.2 _ sw_587) dX7_digest_169 ?_
        refine lv_lload_n C0.1 C0.2.1 dX7_digest_172 rfl (lv_at hl 1 rfl) ?_
        refine lv_lmul C0.1 C0.2.1 dX7_digest_173 ?_
        refine lv_aload_n C0.1 C0.2.1 dX7_digest_174 rfl (lv_at hl 2 rfl) ?_
        refine lv_iload_n C0.1 C0.2.1 dX7_digest_175 rfl (lv_at hl 0 rfl) ?_
        refine sr_pVi (As := [.int 2]) C0 hK hP hZ (sr_Zs hZ hZ0 hS) (cc_X7_meet ha (2) hI) sk_X7_meet sv_X7_meet sw_594 (ci := 7) rfl sr_wC0 rfl rfl hl.1 (Nat.le_of_ble_eq_true rfl) (Nat.le_of_ble_eq_true rfl) (Nat.le_of_ble_eq_true rfl) dX7_digest_176 ⟨Nat.zero_le _, Nat.zero_le _⟩ ?_
        refine lv_i2l C0.1 C0.2.1 dX7_digest_179 rfl ?_
        refine lv_ladd C0.1 C0.2.1 dX7_digest_180 ?_
        refine sr_nml (fun h34 eh34 => ?_)
        refine lv_lstore_n (lv' := [(1, .long h34), (3, .int 2), (0, .ref (a 0))]) C0.1 C0.2.1 dX7_digest_181 rfl hl (by decide) rfl (fun ls hl => ?_)
        refine lv_ldc2 (v := 31) C0.1 C0.2.1 C0.2.2.2.1 (C0.2.2.2.2 _ sw_587) dX7_digest_182 ?_
        refine lv_lload_n C0.1 C0.2.1 dX7_digest_185 rfl (lv_at hl 0 rfl) ?_
        refine lv_lmul C0.1 C0.2.1 dX7_digest_186 ?_
        refine lv_aload_n C0.1 C0.2.1 dX7_digest_187 rfl (lv_at hl 2 rfl) ?_
        refine lv_iload_n C0.1 C0.2.1 dX7_digest_188 rfl (lv_at hl 1 rfl) ?_
        refine sr_pVi (As := [.int 2]) C0 hK hP hZ (sr_Zs hZ hZ0 hS) (cc_X7_kind ha (2) hI) sk_X7_kind sv_X7_kind sw_595 (ci := 7) rfl sr_wC0 rfl rfl hl.1 (Nat.le_of_ble_eq_true rfl) (Nat.le_of_ble_eq_true rfl) (Nat.le_of_ble_eq_true rfl) dX7_digest_189 ⟨Nat.zero_le _, Nat.zero_le _⟩ ?_
        refine lv_i2l C0.1 C0.2.1 dX7_digest_192 rfl ?_
        refine lv_ladd C0.1 C0.2.1 dX7_digest_193 ?_
        refine sr_nml (fun h35 eh35 => ?_)
        refine lv_lstore_n (lv' := [(1, .long h35), (3, .int 2), (0, .ref (a 0))]) C0.1 C0.2.1 dX7_digest_194 rfl hl (by decide) rfl (fun ls hl => ?_)
        refine lv_ldc2 (v := 31) C0.1 C0.2.1 C0.2.2.2.1 (C0.2.2.2.2 _ sw_587) dX7_digest_195 ?_
        refine lv_lload_n C0.1 C0.2.1 dX7_digest_198 rfl (lv_at hl 0 rfl) ?_
        refine lv_lmul C0.1 C0.2.1 dX7_digest_199 ?_
        refine lv_aload_n C0.1 C0.2.1 dX7_digest_200 rfl (lv_at hl 2 rfl) ?_
        refine lv_iload_n C0.1 C0.2.1 dX7_digest_201 rfl (lv_at hl 1 rfl) ?_
        refine sr_gVi (As := [.int 2]) C0 hK hP hZ (sr_Zs hZ hZ0 hS) (cc_X7_chance ha (2) hI) sk_X7_chance sv_X7_chance sw_596 (ci := 7) rfl sr_wC0 rfl rfl hl.1 (Nat.le_of_ble_eq_true rfl) (Nat.le_of_ble_eq_true rfl) (Nat.le_of_ble_eq_true rfl) dX7_digest_202 ⟨Nat.zero_le _, Nat.zero_le _⟩ hS (fun sg5 H locs hu_5 hP hS => ?_)
        refine lv_i2l C0.1 C0.2.1 dX7_digest_205 rfl ?_
        refine lv_ladd C0.1 C0.2.1 dX7_digest_206 ?_
        refine sr_nml (fun h36 eh36 => ?_)
        refine lv_lstore_n (lv' := [(1, .long h36), (3, .int 2), (0, .ref (a 0))]) C0.1 C0.2.1 dX7_digest_207 rfl hl (by decide) rfl (fun ls hl => ?_)
        refine lv_ldc2 (v := 31) C0.1 C0.2.1 C0.2.2.2.1 (C0.2.2.2.2 _ sw_587) dX7_digest_208 ?_
        refine lv_lload_n C0.1 C0.2.1 dX7_digest_211 rfl (lv_at hl 0 rfl) ?_
        refine lv_lmul C0.1 C0.2.1 dX7_digest_212 ?_
        refine lv_aload_n C0.1 C0.2.1 dX7_digest_213 rfl (lv_at hl 2 rfl) ?_
        refine lv_iload_n C0.1 C0.2.1 dX7_digest_214 rfl (lv_at hl 1 rfl) ?_
        refine lv_bipush (v := 10) C0.1 C0.2.1 dX7_digest_215 (by decide) ?_
        refine sr_gVi (As := [.int 2, .int 10]) C0 hK hP hZ (sr_Zs hZ hZ0 hS) (cc_X7_safe ha (2) (10) hI) sk_X7_safe sv_X7_safe sw_597 (ci := 7) rfl sr_wC0 rfl rfl hl.1 (Nat.le_of_ble_eq_true rfl) (Nat.le_of_ble_eq_true rfl) (Nat.le_of_ble_eq_true rfl) dX7_digest_217 ⟨Nat.zero_le _, Nat.zero_le _⟩ hS (fun sg6 H locs hu_6 hP hS => ?_)
        refine lv_i2l C0.1 C0.2.1 dX7_digest_220 rfl ?_
        refine lv_ladd C0.1 C0.2.1 dX7_digest_221 ?_
        refine sr_nml (fun h37 eh37 => ?_)
        refine lv_lstore_n (lv' := [(1, .long h37), (3, .int 2), (0, .ref (a 0))]) C0.1 C0.2.1 dX7_digest_222 rfl hl (by decide) rfl (fun ls hl => ?_)
        refine lv_ldc2 (v := 31) C0.1 C0.2.1 C0.2.2.2.1 (C0.2.2.2.2 _ sw_587) dX7_digest_223 ?_
        refine lv_lload_n C0.1 C0.2.1 dX7_digest_226 rfl (lv_at hl 0 rfl) ?_
        refine lv_lmul C0.1 C0.2.1 dX7_digest_227 ?_
        refine lv_aload_n C0.1 C0.2.1 dX7_digest_228 rfl (lv_at hl 2 rfl) ?_
        refine lv_iload_n C0.1 C0.2.1 dX7_digest_229 rfl (lv_at hl 1 rfl) ?_
        refine sr_pVi (As := [.int 2]) C0 hK hP hZ (sr_Zs hZ hZ0 hS) (cc_X7_best ha (2) hI) sk_X7_best sv_X7_best sw_598 (ci := 7) rfl sr_wC0 rfl rfl hl.1 (Nat.le_of_ble_eq_true rfl) (Nat.le_of_ble_eq_true rfl) (Nat.le_of_ble_eq_true rfl) dX7_digest_230 ⟨Nat.zero_le _, Nat.zero_le _⟩ ?_
        refine lv_i2l C0.1 C0.2.1 dX7_digest_233 rfl ?_
        refine lv_ladd C0.1 C0.2.1 dX7_digest_234 ?_
        refine sr_nml (fun h38 eh38 => ?_)
        refine lv_lstore_n (lv' := [(1, .long h38), (3, .int 2), (0, .ref (a 0))]) C0.1 C0.2.1 dX7_digest_235 rfl hl (by decide) rfl (fun ls hl => ?_)
        refine lv_ldc2 (v := 31) C0.1 C0.2.1 C0.2.2.2.1 (C0.2.2.2.2 _ sw_587) dX7_digest_236 ?_
        refine lv_lload_n C0.1 C0.2.1 dX7_digest_239 rfl (lv_at hl 0 rfl) ?_
        refine lv_lmul C0.1 C0.2.1 dX7_digest_240 ?_
        refine lv_aload_n C0.1 C0.2.1 dX7_digest_241 rfl (lv_at hl 2 rfl) ?_
        refine lv_iload_n C0.1 C0.2.1 dX7_digest_242 rfl (lv_at hl 1 rfl) ?_
        refine lv_iconst (v := 5) C0.1 C0.2.1 dX7_digest_243 (by decide) ?_
        refine sr_pVi (As := [.int 2, .int 5]) C0 hK hP hZ (sr_Zs hZ hZ0 hS) (cc_X7_blame ha (2) (5) hI) sk_X7_blame sv_X7_blame sw_599 (ci := 7) rfl sr_wC0 rfl rfl hl.1 (Nat.le_of_ble_eq_true rfl) (Nat.le_of_ble_eq_true rfl) (Nat.le_of_ble_eq_true rfl) dX7_digest_244 ⟨Nat.zero_le _, Nat.zero_le _⟩ ?_
        refine lv_i2l C0.1 C0.2.1 dX7_digest_247 rfl ?_
        refine lv_ladd C0.1 C0.2.1 dX7_digest_248 ?_
        refine sr_nml (fun h39 eh39 => ?_)
        refine lv_lstore_n (lv' := [(1, .long h39), (3, .int 2), (0, .ref (a 0))]) C0.1 C0.2.1 dX7_digest_249 rfl hl (by decide) rfl (fun ls hl => ?_)
        refine lv_iinc (v := 3) (lv' := [(3, .int 3), (1, .long h39), (0, .ref (a 0))]) C0.1 C0.2.1 dX7_digest_250 hl (k := 1) rfl (by decide) (by decide) rfl (fun ls hl => ?_)
        refine lv_goto (tgt := 164) C0.1 C0.2.1 dX7_digest_253 (by decide) ?_
        refine lv_iload_n C0.1 C0.2.1 dX7_digest_164 rfl (lv_at hl 0 rfl) ?_
        refine lv_iconst (v := 3) C0.1 C0.2.1 dX7_digest_165 (by decide) ?_
        refine lv_icmp_ge (tgt := 256) C0.1 C0.2.1 dX7_digest_166 (by decide) (fun _ => ?_) (fun q => absurd q (by decide))
        refine lv_ldc2 (v := 31) C0.1 C0.2.1 C0.2.2.2.1 (C0.2.2.2.2 _ sw_587) dX7_digest_256 ?_
        refine lv_lload_n C0.1 C0.2.1 dX7_digest_259 rfl (lv_at hl 1 rfl) ?_
        refine lv_lmul C0.1 C0.2.1 dX7_digest_260 ?_
        refine lv_aload_n C0.1 C0.2.1 dX7_digest_261 rfl (lv_at hl 2 rfl) ?_
        refine sr_pVi (As := []) C0 hK hP hZ (sr_Zs hZ hZ0 hS) (cc_X7_time ha hI) sk_X7_time sv_X7_time sw_600 (ci := 7) rfl sr_wC0 rfl rfl hl.1 (Nat.le_of_ble_eq_true rfl) (Nat.le_of_ble_eq_true rfl) (Nat.le_of_ble_eq_true rfl) dX7_digest_262 ⟨Nat.zero_le _, Nat.zero_le _⟩ ?_
        refine lv_i2l C0.1 C0.2.1 dX7_digest_265 rfl ?_
        refine lv_ladd C0.1 C0.2.1 dX7_digest_266 ?_
        refine sr_nml (fun h40 eh40 => ?_)
        refine lv_lstore_n (lv' := [(1, .long h40), (3, .int 3), (0, .ref (a 0))]) C0.1 C0.2.1 dX7_digest_267 rfl hl (by decide) rfl (fun ls hl => ?_)
        refine lv_ldc2 (v := 31) C0.1 C0.2.1 C0.2.2.2.1 (C0.2.2.2.2 _ sw_587) dX7_digest_268 ?_
        refine lv_lload_n C0.1 C0.2.1 dX7_digest_271 rfl (lv_at hl 0 rfl) ?_
        refine lv_lmul C0.1 C0.2.1 dX7_digest_272 ?_
        refine lv_aload_n C0.1 C0.2.1 dX7_digest_273 rfl (lv_at hl 2 rfl) ?_
        refine lv_iconst (v := 0) C0.1 C0.2.1 dX7_digest_274 (by decide) ?_
        refine sr_gVl (As := [.int 0]) C0 hK hP hZ (sr_Zs hZ hZ0 hS) (cc_X7_all ha (0) hI) sk_X7_all sv_X7_all sw_601 (ci := 7) rfl sr_wC0 rfl rfl hl.1 (Nat.le_of_ble_eq_true rfl) (Nat.le_of_ble_eq_true rfl) (Nat.le_of_ble_eq_true rfl) dX7_digest_275 ⟨Nat.zero_le _, Nat.zero_le _⟩ hS (fun sg7 H locs hu_7 hP hS => ?_)
        refine lv_ladd C0.1 C0.2.1 dX7_digest_278 ?_
        refine sr_nml (fun h41 eh41 => ?_)
        refine lv_lstore_n (lv' := [(1, .long h41), (3, .int 3), (0, .ref (a 0))]) C0.1 C0.2.1 dX7_digest_279 rfl hl (by decide) rfl (fun ls hl => ?_)
        refine lv_ldc2 (v := 31) C0.1 C0.2.1 C0.2.2.2.1 (C0.2.2.2.2 _ sw_587) dX7_digest_280 ?_
        refine lv_lload_n C0.1 C0.2.1 dX7_digest_283 rfl (lv_at hl 0 rfl) ?_
        refine lv_lmul C0.1 C0.2.1 dX7_digest_284 ?_
        refine lv_aload_n C0.1 C0.2.1 dX7_digest_285 rfl (lv_at hl 2 rfl) ?_
        refine lv_iconst (v := 1) C0.1 C0.2.1 dX7_digest_286 (by decide) ?_
        refine sr_gVl (As := [.int 1]) C0 hK hP hZ (sr_Zs hZ hZ0 hS) (cc_X7_all ha (1) hI) sk_X7_all sv_X7_all sw_601 (ci := 7) rfl sr_wC0 rfl rfl hl.1 (Nat.le_of_ble_eq_true rfl) (Nat.le_of_ble_eq_true rfl) (Nat.le_of_ble_eq_true rfl) dX7_digest_287 ⟨Nat.zero_le _, Nat.zero_le _⟩ hS (fun sg8 H locs hu_8 hP hS => ?_)
        refine lv_ladd C0.1 C0.2.1 dX7_digest_290 ?_
        refine sr_nml (fun h42 eh42 => ?_)
        refine lv_lstore_n (lv' := [(1, .long h42), (3, .int 3), (0, .ref (a 0))]) C0.1 C0.2.1 dX7_digest_291 rfl hl (by decide) rfl (fun ls hl => ?_)
        refine lv_aload_n C0.1 C0.2.1 dX7_digest_292 rfl (lv_at hl 2 rfl) ?_
        refine sr_get (v := .ref (a 5)) C0 hK hP sr_inX7 sr_wC0 rfl 4 (by decide) sw_192 rfl dX7_digest_293 ?_
        refine lv_iconst (v := (-1)) C0.1 C0.2.1 dX7_digest_296 (by decide) ?_
        refine sr_gVv (As := [.int (-1)]) C0 hK hP hZ (sr_Zs hZ hZ0 hS) (cc_X2_search ha ((-1)) hI) sk_X2_search sv_X2_search sw_463 (ci := 2) rfl sr_wC5 rfl rfl hl.1 (Nat.le_of_ble_eq_true rfl) (Nat.le_of_ble_eq_true rfl) (Nat.le_of_ble_eq_true rfl) dX7_digest_297 ⟨Nat.zero_le _, Nat.zero_le _⟩ hS (fun sg9 H locs ho hP hS => ?_)
        refine lv_iconst (v := 0) C0.1 C0.2.1 dX7_digest_300 (by decide) ?_
        refine lv_istore_n (lv' := [(3, .int 0), (1, .long h42), (0, .ref (a 0))]) C0.1 C0.2.1 dX7_digest_301 rfl hl (by decide) rfl (fun ls hl => ?_)
        refine lv_iload_n C0.1 C0.2.1 dX7_digest_302 rfl (lv_at hl 0 rfl) ?_
        refine lv_bipush (v := 7) C0.1 C0.2.1 dX7_digest_303 (by decide) ?_
        refine lv_icmp_gt (tgt := 331) C0.1 C0.2.1 dX7_digest_305 (by decide) (fun q => absurd q (by decide)) (fun _ => ?_)
        refine lv_ldc2 (v := 31) C0.1 C0.2.1 C0.2.2.2.1 (C0.2.2.2.2 _ sw_587) dX7_digest_308 ?_
        refine lv_lload_n C0.1 C0.2.1 dX7_digest_311 rfl (lv_at hl 1 rfl) ?_
        refine lv_lmul C0.1 C0.2.1 dX7_digest_312 ?_
        refine lv_aload_n C0.1 C0.2.1 dX7_digest_313 rfl (lv_at hl 2 rfl) ?_
        refine sr_get (v := .ref (a 5)) C0 hK hP sr_inX7 sr_wC0 rfl 4 (by decide) sw_192 rfl dX7_digest_314 ?_
        refine sr_get (v := .ref (a 27)) C0 hK hP sr_inX2 sr_wC5 rfl 4 (by decide) sw_137 rfl dX7_digest_317 ?_
        refine lv_iload_n C0.1 C0.2.1 dX7_digest_320 rfl (lv_at hl 0 rfl) ?_
        refine sr_ald (k := 0) C0 hK rfl hP sr_wC27 (by decide) (sr_inc (by decide)) dX7_digest_321 ?_
        refine sr_chi (show sg9 7 0 = sr_od kp (-1) 0 from (congrFun ho 0).trans (sr_so_od (by omega))) ?_
        refine lv_i2l C0.1 C0.2.1 dX7_digest_322 rfl ?_
        refine lv_ladd C0.1 C0.2.1 dX7_digest_323 ?_
        refine sr_nml (fun h43 eh43 => ?_)
        refine lv_lstore_n (lv' := [(1, .long h43), (3, .int 0), (0, .ref (a 0))]) C0.1 C0.2.1 dX7_digest_324 rfl hl (by decide) rfl (fun ls hl => ?_)
        refine lv_iinc (v := 1) (lv' := [(3, .int 1), (1, .long h43), (0, .ref (a 0))]) C0.1 C0.2.1 dX7_digest_325 hl (k := 1) rfl (by decide) (by decide) rfl (fun ls hl => ?_)
        refine lv_goto (tgt := 302) C0.1 C0.2.1 dX7_digest_328 (by decide) ?_
        refine lv_iload_n C0.1 C0.2.1 dX7_digest_302 rfl (lv_at hl 0 rfl) ?_
        refine lv_bipush (v := 7) C0.1 C0.2.1 dX7_digest_303 (by decide) ?_
        refine lv_icmp_gt (tgt := 331) C0.1 C0.2.1 dX7_digest_305 (by decide) (fun q => absurd q (by decide)) (fun _ => ?_)
        refine lv_ldc2 (v := 31) C0.1 C0.2.1 C0.2.2.2.1 (C0.2.2.2.2 _ sw_587) dX7_digest_308 ?_
        refine lv_lload_n C0.1 C0.2.1 dX7_digest_311 rfl (lv_at hl 1 rfl) ?_
        refine lv_lmul C0.1 C0.2.1 dX7_digest_312 ?_
        refine lv_aload_n C0.1 C0.2.1 dX7_digest_313 rfl (lv_at hl 2 rfl) ?_
        refine sr_get (v := .ref (a 5)) C0 hK hP sr_inX7 sr_wC0 rfl 4 (by decide) sw_192 rfl dX7_digest_314 ?_
        refine sr_get (v := .ref (a 27)) C0 hK hP sr_inX2 sr_wC5 rfl 4 (by decide) sw_137 rfl dX7_digest_317 ?_
        refine lv_iload_n C0.1 C0.2.1 dX7_digest_320 rfl (lv_at hl 0 rfl) ?_
        refine sr_ald (k := 1) C0 hK rfl hP sr_wC27 (by decide) (sr_inc (by decide)) dX7_digest_321 ?_
        refine sr_chi (show sg9 7 1 = sr_od kp (-1) 1 from (congrFun ho 1).trans (sr_so_od (by omega))) ?_
        refine lv_i2l C0.1 C0.2.1 dX7_digest_322 rfl ?_
        refine lv_ladd C0.1 C0.2.1 dX7_digest_323 ?_
        refine sr_nml (fun h44 eh44 => ?_)
        refine lv_lstore_n (lv' := [(1, .long h44), (3, .int 1), (0, .ref (a 0))]) C0.1 C0.2.1 dX7_digest_324 rfl hl (by decide) rfl (fun ls hl => ?_)
        refine lv_iinc (v := 2) (lv' := [(3, .int 2), (1, .long h44), (0, .ref (a 0))]) C0.1 C0.2.1 dX7_digest_325 hl (k := 1) rfl (by decide) (by decide) rfl (fun ls hl => ?_)
        refine lv_goto (tgt := 302) C0.1 C0.2.1 dX7_digest_328 (by decide) ?_
        refine lv_iload_n C0.1 C0.2.1 dX7_digest_302 rfl (lv_at hl 0 rfl) ?_
        refine lv_bipush (v := 7) C0.1 C0.2.1 dX7_digest_303 (by decide) ?_
        refine lv_icmp_gt (tgt := 331) C0.1 C0.2.1 dX7_digest_305 (by decide) (fun q => absurd q (by decide)) (fun _ => ?_)
        refine lv_ldc2 (v := 31) C0.1 C0.2.1 C0.2.2.2.1 (C0.2.2.2.2 _ sw_587) dX7_digest_308 ?_
        refine lv_lload_n C0.1 C0.2.1 dX7_digest_311 rfl (lv_at hl 1 rfl) ?_
        refine lv_lmul C0.1 C0.2.1 dX7_digest_312 ?_
        refine lv_aload_n C0.1 C0.2.1 dX7_digest_313 rfl (lv_at hl 2 rfl) ?_
        refine sr_get (v := .ref (a 5)) C0 hK hP sr_inX7 sr_wC0 rfl 4 (by decide) sw_192 rfl dX7_digest_314 ?_
        refine sr_get (v := .ref (a 27)) C0 hK hP sr_inX2 sr_wC5 rfl 4 (by decide) sw_137 rfl dX7_digest_317 ?_
        refine lv_iload_n C0.1 C0.2.1 dX7_digest_320 rfl (lv_at hl 0 rfl) ?_
        refine sr_ald (k := 2) C0 hK rfl hP sr_wC27 (by decide) (sr_inc (by decide)) dX7_digest_321 ?_
        refine sr_chi (show sg9 7 2 = sr_od kp (-1) 2 from (congrFun ho 2).trans (sr_so_od (by omega))) ?_
        refine lv_i2l C0.1 C0.2.1 dX7_digest_322 rfl ?_
        refine lv_ladd C0.1 C0.2.1 dX7_digest_323 ?_
        refine sr_nml (fun h45 eh45 => ?_)
        refine lv_lstore_n (lv' := [(1, .long h45), (3, .int 2), (0, .ref (a 0))]) C0.1 C0.2.1 dX7_digest_324 rfl hl (by decide) rfl (fun ls hl => ?_)
        refine lv_iinc (v := 3) (lv' := [(3, .int 3), (1, .long h45), (0, .ref (a 0))]) C0.1 C0.2.1 dX7_digest_325 hl (k := 1) rfl (by decide) (by decide) rfl (fun ls hl => ?_)
        refine lv_goto (tgt := 302) C0.1 C0.2.1 dX7_digest_328 (by decide) ?_
        refine lv_iload_n C0.1 C0.2.1 dX7_digest_302 rfl (lv_at hl 0 rfl) ?_
        refine lv_bipush (v := 7) C0.1 C0.2.1 dX7_digest_303 (by decide) ?_
        refine lv_icmp_gt (tgt := 331) C0.1 C0.2.1 dX7_digest_305 (by decide) (fun q => absurd q (by decide)) (fun _ => ?_)
        refine lv_ldc2 (v := 31) C0.1 C0.2.1 C0.2.2.2.1 (C0.2.2.2.2 _ sw_587) dX7_digest_308 ?_
        refine lv_lload_n C0.1 C0.2.1 dX7_digest_311 rfl (lv_at hl 1 rfl) ?_
        refine lv_lmul C0.1 C0.2.1 dX7_digest_312 ?_
        refine lv_aload_n C0.1 C0.2.1 dX7_digest_313 rfl (lv_at hl 2 rfl) ?_
        refine sr_get (v := .ref (a 5)) C0 hK hP sr_inX7 sr_wC0 rfl 4 (by decide) sw_192 rfl dX7_digest_314 ?_
        refine sr_get (v := .ref (a 27)) C0 hK hP sr_inX2 sr_wC5 rfl 4 (by decide) sw_137 rfl dX7_digest_317 ?_
        refine lv_iload_n C0.1 C0.2.1 dX7_digest_320 rfl (lv_at hl 0 rfl) ?_
        refine sr_ald (k := 3) C0 hK rfl hP sr_wC27 (by decide) (sr_inc (by decide)) dX7_digest_321 ?_
        refine sr_chi (show sg9 7 3 = sr_od kp (-1) 3 from (congrFun ho 3).trans (sr_so_od (by omega))) ?_
        refine lv_i2l C0.1 C0.2.1 dX7_digest_322 rfl ?_
        refine lv_ladd C0.1 C0.2.1 dX7_digest_323 ?_
        refine sr_nml (fun h46 eh46 => ?_)
        refine lv_lstore_n (lv' := [(1, .long h46), (3, .int 3), (0, .ref (a 0))]) C0.1 C0.2.1 dX7_digest_324 rfl hl (by decide) rfl (fun ls hl => ?_)
        refine lv_iinc (v := 4) (lv' := [(3, .int 4), (1, .long h46), (0, .ref (a 0))]) C0.1 C0.2.1 dX7_digest_325 hl (k := 1) rfl (by decide) (by decide) rfl (fun ls hl => ?_)
        refine lv_goto (tgt := 302) C0.1 C0.2.1 dX7_digest_328 (by decide) ?_
        refine lv_iload_n C0.1 C0.2.1 dX7_digest_302 rfl (lv_at hl 0 rfl) ?_
        refine lv_bipush (v := 7) C0.1 C0.2.1 dX7_digest_303 (by decide) ?_
        refine lv_icmp_gt (tgt := 331) C0.1 C0.2.1 dX7_digest_305 (by decide) (fun q => absurd q (by decide)) (fun _ => ?_)
        refine lv_ldc2 (v := 31) C0.1 C0.2.1 C0.2.2.2.1 (C0.2.2.2.2 _ sw_587) dX7_digest_308 ?_
        refine lv_lload_n C0.1 C0.2.1 dX7_digest_311 rfl (lv_at hl 1 rfl) ?_
        refine lv_lmul C0.1 C0.2.1 dX7_digest_312 ?_
        refine lv_aload_n C0.1 C0.2.1 dX7_digest_313 rfl (lv_at hl 2 rfl) ?_
        refine sr_get (v := .ref (a 5)) C0 hK hP sr_inX7 sr_wC0 rfl 4 (by decide) sw_192 rfl dX7_digest_314 ?_
        refine sr_get (v := .ref (a 27)) C0 hK hP sr_inX2 sr_wC5 rfl 4 (by decide) sw_137 rfl dX7_digest_317 ?_
        refine lv_iload_n C0.1 C0.2.1 dX7_digest_320 rfl (lv_at hl 0 rfl) ?_
        refine sr_ald (k := 4) C0 hK rfl hP sr_wC27 (by decide) (sr_inc (by decide)) dX7_digest_321 ?_
        refine sr_chi (show sg9 7 4 = sr_od kp (-1) 4 from (congrFun ho 4).trans (sr_so_od (by omega))) ?_
        refine lv_i2l C0.1 C0.2.1 dX7_digest_322 rfl ?_
        refine lv_ladd C0.1 C0.2.1 dX7_digest_323 ?_
        refine sr_nml (fun h47 eh47 => ?_)
        refine lv_lstore_n (lv' := [(1, .long h47), (3, .int 4), (0, .ref (a 0))]) C0.1 C0.2.1 dX7_digest_324 rfl hl (by decide) rfl (fun ls hl => ?_)
        refine lv_iinc (v := 5) (lv' := [(3, .int 5), (1, .long h47), (0, .ref (a 0))]) C0.1 C0.2.1 dX7_digest_325 hl (k := 1) rfl (by decide) (by decide) rfl (fun ls hl => ?_)
        refine lv_goto (tgt := 302) C0.1 C0.2.1 dX7_digest_328 (by decide) ?_
        refine lv_iload_n C0.1 C0.2.1 dX7_digest_302 rfl (lv_at hl 0 rfl) ?_
        refine lv_bipush (v := 7) C0.1 C0.2.1 dX7_digest_303 (by decide) ?_
        refine lv_icmp_gt (tgt := 331) C0.1 C0.2.1 dX7_digest_305 (by decide) (fun q => absurd q (by decide)) (fun _ => ?_)
        refine lv_ldc2 (v := 31) C0.1 C0.2.1 C0.2.2.2.1 (C0.2.2.2.2 _ sw_587) dX7_digest_308 ?_
        refine lv_lload_n C0.1 C0.2.1 dX7_digest_311 rfl (lv_at hl 1 rfl) ?_
        refine lv_lmul C0.1 C0.2.1 dX7_digest_312 ?_
        refine lv_aload_n C0.1 C0.2.1 dX7_digest_313 rfl (lv_at hl 2 rfl) ?_
        refine sr_get (v := .ref (a 5)) C0 hK hP sr_inX7 sr_wC0 rfl 4 (by decide) sw_192 rfl dX7_digest_314 ?_
        refine sr_get (v := .ref (a 27)) C0 hK hP sr_inX2 sr_wC5 rfl 4 (by decide) sw_137 rfl dX7_digest_317 ?_
        refine lv_iload_n C0.1 C0.2.1 dX7_digest_320 rfl (lv_at hl 0 rfl) ?_
        refine sr_ald (k := 5) C0 hK rfl hP sr_wC27 (by decide) (sr_inc (by decide)) dX7_digest_321 ?_
        refine sr_chi (show sg9 7 5 = sr_od kp (-1) 5 from (congrFun ho 5).trans (sr_so_od (by omega))) ?_
        refine lv_i2l C0.1 C0.2.1 dX7_digest_322 rfl ?_
        refine lv_ladd C0.1 C0.2.1 dX7_digest_323 ?_
        refine sr_nml (fun h48 eh48 => ?_)
        refine lv_lstore_n (lv' := [(1, .long h48), (3, .int 5), (0, .ref (a 0))]) C0.1 C0.2.1 dX7_digest_324 rfl hl (by decide) rfl (fun ls hl => ?_)
        refine lv_iinc (v := 6) (lv' := [(3, .int 6), (1, .long h48), (0, .ref (a 0))]) C0.1 C0.2.1 dX7_digest_325 hl (k := 1) rfl (by decide) (by decide) rfl (fun ls hl => ?_)
        refine lv_goto (tgt := 302) C0.1 C0.2.1 dX7_digest_328 (by decide) ?_
        refine lv_iload_n C0.1 C0.2.1 dX7_digest_302 rfl (lv_at hl 0 rfl) ?_
        refine lv_bipush (v := 7) C0.1 C0.2.1 dX7_digest_303 (by decide) ?_
        refine lv_icmp_gt (tgt := 331) C0.1 C0.2.1 dX7_digest_305 (by decide) (fun q => absurd q (by decide)) (fun _ => ?_)
        refine lv_ldc2 (v := 31) C0.1 C0.2.1 C0.2.2.2.1 (C0.2.2.2.2 _ sw_587) dX7_digest_308 ?_
        refine lv_lload_n C0.1 C0.2.1 dX7_digest_311 rfl (lv_at hl 1 rfl) ?_
        refine lv_lmul C0.1 C0.2.1 dX7_digest_312 ?_
        refine lv_aload_n C0.1 C0.2.1 dX7_digest_313 rfl (lv_at hl 2 rfl) ?_
        refine sr_get (v := .ref (a 5)) C0 hK hP sr_inX7 sr_wC0 rfl 4 (by decide) sw_192 rfl dX7_digest_314 ?_
        refine sr_get (v := .ref (a 27)) C0 hK hP sr_inX2 sr_wC5 rfl 4 (by decide) sw_137 rfl dX7_digest_317 ?_
        refine lv_iload_n C0.1 C0.2.1 dX7_digest_320 rfl (lv_at hl 0 rfl) ?_
        refine sr_ald (k := 6) C0 hK rfl hP sr_wC27 (by decide) (sr_inc (by decide)) dX7_digest_321 ?_
        refine sr_chi (show sg9 7 6 = sr_od kp (-1) 6 from (congrFun ho 6).trans (sr_so_od (by omega))) ?_
        refine lv_i2l C0.1 C0.2.1 dX7_digest_322 rfl ?_
        refine lv_ladd C0.1 C0.2.1 dX7_digest_323 ?_
        refine sr_nml (fun h49 eh49 => ?_)
        refine lv_lstore_n (lv' := [(1, .long h49), (3, .int 6), (0, .ref (a 0))]) C0.1 C0.2.1 dX7_digest_324 rfl hl (by decide) rfl (fun ls hl => ?_)
        refine lv_iinc (v := 7) (lv' := [(3, .int 7), (1, .long h49), (0, .ref (a 0))]) C0.1 C0.2.1 dX7_digest_325 hl (k := 1) rfl (by decide) (by decide) rfl (fun ls hl => ?_)
        refine lv_goto (tgt := 302) C0.1 C0.2.1 dX7_digest_328 (by decide) ?_
        refine lv_iload_n C0.1 C0.2.1 dX7_digest_302 rfl (lv_at hl 0 rfl) ?_
        refine lv_bipush (v := 7) C0.1 C0.2.1 dX7_digest_303 (by decide) ?_
        refine lv_icmp_gt (tgt := 331) C0.1 C0.2.1 dX7_digest_305 (by decide) (fun q => absurd q (by decide)) (fun _ => ?_)
        refine lv_ldc2 (v := 31) C0.1 C0.2.1 C0.2.2.2.1 (C0.2.2.2.2 _ sw_587) dX7_digest_308 ?_
        refine lv_lload_n C0.1 C0.2.1 dX7_digest_311 rfl (lv_at hl 1 rfl) ?_
        refine lv_lmul C0.1 C0.2.1 dX7_digest_312 ?_
        refine lv_aload_n C0.1 C0.2.1 dX7_digest_313 rfl (lv_at hl 2 rfl) ?_
        refine sr_get (v := .ref (a 5)) C0 hK hP sr_inX7 sr_wC0 rfl 4 (by decide) sw_192 rfl dX7_digest_314 ?_
        refine sr_get (v := .ref (a 27)) C0 hK hP sr_inX2 sr_wC5 rfl 4 (by decide) sw_137 rfl dX7_digest_317 ?_
        refine lv_iload_n C0.1 C0.2.1 dX7_digest_320 rfl (lv_at hl 0 rfl) ?_
        refine sr_ald (k := 7) C0 hK rfl hP sr_wC27 (by decide) (sr_inc (by decide)) dX7_digest_321 ?_
        refine sr_chi (show sg9 7 7 = sr_od kp (-1) 7 from (congrFun ho 7).trans (sr_so_od (by omega))) ?_
        refine lv_i2l C0.1 C0.2.1 dX7_digest_322 rfl ?_
        refine lv_ladd C0.1 C0.2.1 dX7_digest_323 ?_
        refine sr_nml (fun h50 eh50 => ?_)
        refine lv_lstore_n (lv' := [(1, .long h50), (3, .int 7), (0, .ref (a 0))]) C0.1 C0.2.1 dX7_digest_324 rfl hl (by decide) rfl (fun ls hl => ?_)
        refine lv_iinc (v := 8) (lv' := [(3, .int 8), (1, .long h50), (0, .ref (a 0))]) C0.1 C0.2.1 dX7_digest_325 hl (k := 1) rfl (by decide) (by decide) rfl (fun ls hl => ?_)
        refine lv_goto (tgt := 302) C0.1 C0.2.1 dX7_digest_328 (by decide) ?_
        refine lv_iload_n C0.1 C0.2.1 dX7_digest_302 rfl (lv_at hl 0 rfl) ?_
        refine lv_bipush (v := 7) C0.1 C0.2.1 dX7_digest_303 (by decide) ?_
        refine lv_icmp_gt (tgt := 331) C0.1 C0.2.1 dX7_digest_305 (by decide) (fun _ => ?_) (fun q => absurd q (by decide))
        refine lv_aload_n C0.1 C0.2.1 dX7_digest_331 rfl (lv_at hl 2 rfl) ?_
        refine sr_get (v := .ref (a 5)) C0 hK hP sr_inX7 sr_wC0 rfl 4 (by decide) sw_192 rfl dX7_digest_332 ?_
        refine lv_iconst (v := 1) C0.1 C0.2.1 dX7_digest_335 (by decide) ?_
        refine sr_gVv (As := [.int 1]) C0 hK hP hZ (sr_Zs hZ hZ0 hS) (cc_X2_search ha (1) hI) sk_X2_search sv_X2_search sw_463 (ci := 2) rfl sr_wC5 rfl rfl hl.1 (Nat.le_of_ble_eq_true rfl) (Nat.le_of_ble_eq_true rfl) (Nat.le_of_ble_eq_true rfl) dX7_digest_336 ⟨Nat.zero_le _, Nat.zero_le _⟩ hS (fun sg10 H locs ho_2 hP hS => ?_)
        refine lv_ldc2 (v := 31) C0.1 C0.2.1 C0.2.2.2.1 (C0.2.2.2.2 _ sw_587) dX7_digest_339 ?_
        refine lv_lload_n C0.1 C0.2.1 dX7_digest_342 rfl (lv_at hl 1 rfl) ?_
        refine lv_lmul C0.1 C0.2.1 dX7_digest_343 ?_
        refine lv_aload_n C0.1 C0.2.1 dX7_digest_344 rfl (lv_at hl 2 rfl) ?_
        refine sr_get (v := .ref (a 5)) C0 hK hP sr_inX7 sr_wC0 rfl 4 (by decide) sw_192 rfl dX7_digest_345 ?_
        refine sr_get (v := .ref (a 27)) C0 hK hP sr_inX2 sr_wC5 rfl 4 (by decide) sw_137 rfl dX7_digest_348 ?_
        refine lv_iconst (v := 0) C0.1 C0.2.1 dX7_digest_351 (by decide) ?_
        refine sr_ald (k := 0) C0 hK rfl hP sr_wC27 (by decide) (sr_inc (by decide)) dX7_digest_352 ?_
        refine sr_chi (show sg10 7 0 = sr_od kp 1 0 from (congrFun ho_2 0).trans (sr_so_od (by omega))) ?_
        refine lv_i2l C0.1 C0.2.1 dX7_digest_353 rfl ?_
        refine lv_ladd C0.1 C0.2.1 dX7_digest_354 ?_
        refine sr_nml (fun h51 eh51 => ?_)
        refine lv_lstore_n (lv' := [(1, .long h51), (3, .int 8), (0, .ref (a 0))]) C0.1 C0.2.1 dX7_digest_355 rfl hl (by decide) rfl (fun ls hl => ?_)
        refine lv_ldc2 (v := 31) C0.1 C0.2.1 C0.2.2.2.1 (C0.2.2.2.2 _ sw_587) dX7_digest_356 ?_
        refine lv_lload_n C0.1 C0.2.1 dX7_digest_359 rfl (lv_at hl 0 rfl) ?_
        refine lv_lmul C0.1 C0.2.1 dX7_digest_360 ?_
        refine lv_aload_n C0.1 C0.2.1 dX7_digest_361 rfl (lv_at hl 2 rfl) ?_
        refine lv_bipush (v := 7) C0.1 C0.2.1 dX7_digest_362 (by decide) ?_
        refine sr_gVi (As := [.int 7]) C0 hK hP hZ (sr_Zs hZ hZ0 hS) (cc_X7_lot ha (7) hI) sk_X7_lot sv_X7_lot sw_602 (ci := 7) rfl sr_wC0 rfl rfl hl.1 (Nat.le_of_ble_eq_true rfl) (Nat.le_of_ble_eq_true rfl) (Nat.le_of_ble_eq_true rfl) dX7_digest_364 ⟨Nat.zero_le _, Nat.zero_le _⟩ hS (fun sg11 H locs hu_9 hP hS => ?_)
        refine lv_i2l C0.1 C0.2.1 dX7_digest_367 rfl ?_
        refine lv_ladd C0.1 C0.2.1 dX7_digest_368 ?_
        refine sr_nml (fun h52 eh52 => ?_)
        refine lv_lstore_n (lv' := [(1, .long h52), (3, .int 8), (0, .ref (a 0))]) C0.1 C0.2.1 dX7_digest_369 rfl hl (by decide) rfl (fun ls hl => ?_)
        refine lv_ldc2 (v := 31) C0.1 C0.2.1 C0.2.2.2.1 (C0.2.2.2.2 _ sw_587) dX7_digest_370 ?_
        refine lv_lload_n C0.1 C0.2.1 dX7_digest_373 rfl (lv_at hl 0 rfl) ?_
        refine lv_lmul C0.1 C0.2.1 dX7_digest_374 ?_
        refine lv_aload_n C0.1 C0.2.1 dX7_digest_375 rfl (lv_at hl 2 rfl) ?_
        refine lv_bipush (v := 7) C0.1 C0.2.1 dX7_digest_376 (by decide) ?_
        refine lv_bipush (v := 10) C0.1 C0.2.1 dX7_digest_378 (by decide) ?_
        refine lv_sipush (v := 5000) C0.1 C0.2.1 dX7_digest_380 (by decide) ?_
        refine sr_gVi (As := [.int 7, .int 10, .int 5000]) C0 hK hP hZ (sr_Zs hZ hZ0 hS) (cc_X7_races ha (7) (10) (5000) hI) sk_X7_races sv_X7_races sw_603 (ci := 7) rfl sr_wC0 rfl rfl hl.1 (Nat.le_of_ble_eq_true rfl) (Nat.le_of_ble_eq_true rfl) (Nat.le_of_ble_eq_true rfl) dX7_digest_383 ⟨Nat.zero_le _, Nat.zero_le _⟩ hS (fun sg12 H locs hu_10 hP hS => ?_)
        refine lv_i2l C0.1 C0.2.1 dX7_digest_386 rfl ?_
        refine lv_ladd C0.1 C0.2.1 dX7_digest_387 ?_
        exact hret _ _ _ sg12 _ _ _ dX7_digest_388 hP hS rfl (by rw [eh52, eh51, eh50, eh49, eh48, eh47, eh46, eh45, eh44, eh43, eh42, eh41, eh40, eh39, eh38, eh37, eh36, eh35, eh34, eh33, eh32, eh31, eh30, eh29, eh28, eh27, eh26, eh25, eh24, eh23, eh22, eh21, eh20, eh19, eh18, eh17, eh16, eh15, eh14, eh13, eh12, eh11, eh10, eh9, eh8, eh7, eh6, eh5, eh4, eh3, eh2, eh1]; rfl) trivial
      · have g53 : ¬ ((sr_cnt kp) ≤ i) := fun q => c53 ((nI_leI (a := (sr_cnt kp)) (b := i) (by omega) (by omega)).mpr q)
        refine lv_iconst (v := 0) C0.1 C0.2.1 dX7_digest_56 (by decide) ?_
        refine lv_istore (lv' := [(4, .int 0), (3, .int (nI i)), (1, .long (sr_dr kp h9 i)), (0, .ref (a 0))]) C0.1 C0.2.1 dX7_digest_57 hl (by decide) rfl (fun ls hl => ?_)
        refine lv_iload C0.1 C0.2.1 dX7_digest_59 (lv_at hl 0 rfl) ?_
        refine lv_iconst (v := 3) C0.1 C0.2.1 dX7_digest_61 (by decide) ?_
        refine lv_icmp_gt (tgt := 86) C0.1 C0.2.1 dX7_digest_62 (by decide) (fun q => absurd q (by decide)) (fun _ => ?_)
        refine lv_ldc2 (v := 31) C0.1 C0.2.1 C0.2.2.2.1 (C0.2.2.2.2 _ sw_587) dX7_digest_65 ?_
        refine lv_lload_n C0.1 C0.2.1 dX7_digest_68 rfl (lv_at hl 2 rfl) ?_
        refine lv_lmul C0.1 C0.2.1 dX7_digest_69 ?_
        refine lv_aload_n C0.1 C0.2.1 dX7_digest_70 rfl (lv_at hl 3 rfl) ?_
        refine lv_iload_n C0.1 C0.2.1 dX7_digest_71 rfl (lv_at hl 1 rfl) ?_
        refine lv_iload C0.1 C0.2.1 dX7_digest_72 (lv_at hl 0 rfl) ?_
        refine sr_pVi (As := [.int (nI i), .int 0]) C0 hK hP hZ (sr_Zs hZ hZ0 hS) (cc_X7_runner ha (nI i) (0) hI) sk_X7_runner sv_X7_runner sw_590 (ci := 7) rfl sr_wC0 rfl rfl hl.1 (Nat.le_of_ble_eq_true rfl) (Nat.le_of_ble_eq_true rfl) (Nat.le_of_ble_eq_true rfl) dX7_digest_74 ⟨Nat.zero_le _, Nat.zero_le _⟩ ?_
        refine sr_chi (show sp_runner kp (nI i) 0 = sr_fig kp i 0 from sr_runner_i (w := 0) (by omega) (by omega)) ?_
        refine lv_i2l C0.1 C0.2.1 dX7_digest_77 rfl ?_
        refine lv_ladd C0.1 C0.2.1 dX7_digest_78 ?_
        refine lv_lstore_n (lv' := [(1, .long ((31 * (sr_dr kp h9 i)) + ((sr_fig kp i 0).toInt64))), (4, .int 0), (3, .int (nI i)), (0, .ref (a 0))]) C0.1 C0.2.1 dX7_digest_79 rfl hl (by decide) rfl (fun ls hl => ?_)
        refine lv_iinc (v := 1) (lv' := [(4, .int 1), (1, .long ((31 * (sr_dr kp h9 i)) + ((sr_fig kp i 0).toInt64))), (3, .int (nI i)), (0, .ref (a 0))]) C0.1 C0.2.1 dX7_digest_80 hl (k := 1) rfl (by decide) (by decide) rfl (fun ls hl => ?_)
        refine lv_goto (tgt := 59) C0.1 C0.2.1 dX7_digest_83 (by decide) ?_
        refine lv_iload C0.1 C0.2.1 dX7_digest_59 (lv_at hl 0 rfl) ?_
        refine lv_iconst (v := 3) C0.1 C0.2.1 dX7_digest_61 (by decide) ?_
        refine lv_icmp_gt (tgt := 86) C0.1 C0.2.1 dX7_digest_62 (by decide) (fun q => absurd q (by decide)) (fun _ => ?_)
        refine lv_ldc2 (v := 31) C0.1 C0.2.1 C0.2.2.2.1 (C0.2.2.2.2 _ sw_587) dX7_digest_65 ?_
        refine lv_lload_n C0.1 C0.2.1 dX7_digest_68 rfl (lv_at hl 1 rfl) ?_
        refine lv_lmul C0.1 C0.2.1 dX7_digest_69 ?_
        refine lv_aload_n C0.1 C0.2.1 dX7_digest_70 rfl (lv_at hl 3 rfl) ?_
        refine lv_iload_n C0.1 C0.2.1 dX7_digest_71 rfl (lv_at hl 2 rfl) ?_
        refine lv_iload C0.1 C0.2.1 dX7_digest_72 (lv_at hl 0 rfl) ?_
        refine sr_pVi (As := [.int (nI i), .int 1]) C0 hK hP hZ (sr_Zs hZ hZ0 hS) (cc_X7_runner ha (nI i) (1) hI) sk_X7_runner sv_X7_runner sw_590 (ci := 7) rfl sr_wC0 rfl rfl hl.1 (Nat.le_of_ble_eq_true rfl) (Nat.le_of_ble_eq_true rfl) (Nat.le_of_ble_eq_true rfl) dX7_digest_74 ⟨Nat.zero_le _, Nat.zero_le _⟩ ?_
        refine sr_chi (show sp_runner kp (nI i) 1 = sr_fig kp i 1 from sr_runner_i (w := 1) (by omega) (by omega)) ?_
        refine lv_i2l C0.1 C0.2.1 dX7_digest_77 rfl ?_
        refine lv_ladd C0.1 C0.2.1 dX7_digest_78 ?_
        refine lv_lstore_n (lv' := [(1, .long ((31 * ((31 * (sr_dr kp h9 i)) + ((sr_fig kp i 0).toInt64))) + ((sr_fig kp i 1).toInt64))), (4, .int 1), (3, .int (nI i)), (0, .ref (a 0))]) C0.1 C0.2.1 dX7_digest_79 rfl hl (by decide) rfl (fun ls hl => ?_)
        refine lv_iinc (v := 2) (lv' := [(4, .int 2), (1, .long ((31 * ((31 * (sr_dr kp h9 i)) + ((sr_fig kp i 0).toInt64))) + ((sr_fig kp i 1).toInt64))), (3, .int (nI i)), (0, .ref (a 0))]) C0.1 C0.2.1 dX7_digest_80 hl (k := 1) rfl (by decide) (by decide) rfl (fun ls hl => ?_)
        refine lv_goto (tgt := 59) C0.1 C0.2.1 dX7_digest_83 (by decide) ?_
        refine lv_iload C0.1 C0.2.1 dX7_digest_59 (lv_at hl 0 rfl) ?_
        refine lv_iconst (v := 3) C0.1 C0.2.1 dX7_digest_61 (by decide) ?_
        refine lv_icmp_gt (tgt := 86) C0.1 C0.2.1 dX7_digest_62 (by decide) (fun q => absurd q (by decide)) (fun _ => ?_)
        refine lv_ldc2 (v := 31) C0.1 C0.2.1 C0.2.2.2.1 (C0.2.2.2.2 _ sw_587) dX7_digest_65 ?_
        refine lv_lload_n C0.1 C0.2.1 dX7_digest_68 rfl (lv_at hl 1 rfl) ?_
        refine lv_lmul C0.1 C0.2.1 dX7_digest_69 ?_
        refine lv_aload_n C0.1 C0.2.1 dX7_digest_70 rfl (lv_at hl 3 rfl) ?_
        refine lv_iload_n C0.1 C0.2.1 dX7_digest_71 rfl (lv_at hl 2 rfl) ?_
        refine lv_iload C0.1 C0.2.1 dX7_digest_72 (lv_at hl 0 rfl) ?_
        refine sr_pVi (As := [.int (nI i), .int 2]) C0 hK hP hZ (sr_Zs hZ hZ0 hS) (cc_X7_runner ha (nI i) (2) hI) sk_X7_runner sv_X7_runner sw_590 (ci := 7) rfl sr_wC0 rfl rfl hl.1 (Nat.le_of_ble_eq_true rfl) (Nat.le_of_ble_eq_true rfl) (Nat.le_of_ble_eq_true rfl) dX7_digest_74 ⟨Nat.zero_le _, Nat.zero_le _⟩ ?_
        refine sr_chi (show sp_runner kp (nI i) 2 = sr_fig kp i 2 from sr_runner_i (w := 2) (by omega) (by omega)) ?_
        refine lv_i2l C0.1 C0.2.1 dX7_digest_77 rfl ?_
        refine lv_ladd C0.1 C0.2.1 dX7_digest_78 ?_
        refine lv_lstore_n (lv' := [(1, .long ((31 * ((31 * ((31 * (sr_dr kp h9 i)) + ((sr_fig kp i 0).toInt64))) + ((sr_fig kp i 1).toInt64))) + ((sr_fig kp i 2).toInt64))), (4, .int 2), (3, .int (nI i)), (0, .ref (a 0))]) C0.1 C0.2.1 dX7_digest_79 rfl hl (by decide) rfl (fun ls hl => ?_)
        refine lv_iinc (v := 3) (lv' := [(4, .int 3), (1, .long ((31 * ((31 * ((31 * (sr_dr kp h9 i)) + ((sr_fig kp i 0).toInt64))) + ((sr_fig kp i 1).toInt64))) + ((sr_fig kp i 2).toInt64))), (3, .int (nI i)), (0, .ref (a 0))]) C0.1 C0.2.1 dX7_digest_80 hl (k := 1) rfl (by decide) (by decide) rfl (fun ls hl => ?_)
        refine lv_goto (tgt := 59) C0.1 C0.2.1 dX7_digest_83 (by decide) ?_
        refine lv_iload C0.1 C0.2.1 dX7_digest_59 (lv_at hl 0 rfl) ?_
        refine lv_iconst (v := 3) C0.1 C0.2.1 dX7_digest_61 (by decide) ?_
        refine lv_icmp_gt (tgt := 86) C0.1 C0.2.1 dX7_digest_62 (by decide) (fun q => absurd q (by decide)) (fun _ => ?_)
        refine lv_ldc2 (v := 31) C0.1 C0.2.1 C0.2.2.2.1 (C0.2.2.2.2 _ sw_587) dX7_digest_65 ?_
        refine lv_lload_n C0.1 C0.2.1 dX7_digest_68 rfl (lv_at hl 1 rfl) ?_
        refine lv_lmul C0.1 C0.2.1 dX7_digest_69 ?_
        refine lv_aload_n C0.1 C0.2.1 dX7_digest_70 rfl (lv_at hl 3 rfl) ?_
        refine lv_iload_n C0.1 C0.2.1 dX7_digest_71 rfl (lv_at hl 2 rfl) ?_
        refine lv_iload C0.1 C0.2.1 dX7_digest_72 (lv_at hl 0 rfl) ?_
        refine sr_pVi (As := [.int (nI i), .int 3]) C0 hK hP hZ (sr_Zs hZ hZ0 hS) (cc_X7_runner ha (nI i) (3) hI) sk_X7_runner sv_X7_runner sw_590 (ci := 7) rfl sr_wC0 rfl rfl hl.1 (Nat.le_of_ble_eq_true rfl) (Nat.le_of_ble_eq_true rfl) (Nat.le_of_ble_eq_true rfl) dX7_digest_74 ⟨Nat.zero_le _, Nat.zero_le _⟩ ?_
        refine sr_chi (show sp_runner kp (nI i) 3 = sr_fig kp i 3 from sr_runner_i (w := 3) (by omega) (by omega)) ?_
        refine lv_i2l C0.1 C0.2.1 dX7_digest_77 rfl ?_
        refine lv_ladd C0.1 C0.2.1 dX7_digest_78 ?_
        refine lv_lstore_n (lv' := [(1, .long ((31 * ((31 * ((31 * ((31 * (sr_dr kp h9 i)) + ((sr_fig kp i 0).toInt64))) + ((sr_fig kp i 1).toInt64))) + ((sr_fig kp i 2).toInt64))) + ((sr_fig kp i 3).toInt64))), (4, .int 3), (3, .int (nI i)), (0, .ref (a 0))]) C0.1 C0.2.1 dX7_digest_79 rfl hl (by decide) rfl (fun ls hl => ?_)
        refine lv_iinc (v := 4) (lv' := [(4, .int 4), (1, .long ((31 * ((31 * ((31 * ((31 * (sr_dr kp h9 i)) + ((sr_fig kp i 0).toInt64))) + ((sr_fig kp i 1).toInt64))) + ((sr_fig kp i 2).toInt64))) + ((sr_fig kp i 3).toInt64))), (3, .int (nI i)), (0, .ref (a 0))]) C0.1 C0.2.1 dX7_digest_80 hl (k := 1) rfl (by decide) (by decide) rfl (fun ls hl => ?_)
        refine lv_goto (tgt := 59) C0.1 C0.2.1 dX7_digest_83 (by decide) ?_
        refine lv_iload C0.1 C0.2.1 dX7_digest_59 (lv_at hl 0 rfl) ?_
        refine lv_iconst (v := 3) C0.1 C0.2.1 dX7_digest_61 (by decide) ?_
        refine lv_icmp_gt (tgt := 86) C0.1 C0.2.1 dX7_digest_62 (by decide) (fun _ => ?_) (fun q => absurd q (by decide))
        refine lv_ldc2 (v := 31) C0.1 C0.2.1 C0.2.2.2.1 (C0.2.2.2.2 _ sw_587) dX7_digest_86 ?_
        refine lv_lload_n C0.1 C0.2.1 dX7_digest_89 rfl (lv_at hl 1 rfl) ?_
        refine lv_lmul C0.1 C0.2.1 dX7_digest_90 ?_
        refine lv_aload_n C0.1 C0.2.1 dX7_digest_91 rfl (lv_at hl 3 rfl) ?_
        refine lv_iload_n C0.1 C0.2.1 dX7_digest_92 rfl (lv_at hl 2 rfl) ?_
        refine lv_iconst (v := 1) C0.1 C0.2.1 dX7_digest_93 (by decide) ?_
        refine lv_bipush (v := 50) C0.1 C0.2.1 dX7_digest_94 (by decide) ?_
        refine sr_pVi (As := [.int (nI i), .int 1, .int 50]) C0 hK hP hZ (sr_Zs hZ hZ0 hS) (cc_X7_takes ha (nI i) (1) (50) hI) sk_X7_takes sv_X7_takes sw_591 (ci := 7) rfl sr_wC0 rfl rfl hl.1 (Nat.le_of_ble_eq_true rfl) (Nat.le_of_ble_eq_true rfl) (Nat.le_of_ble_eq_true rfl) dX7_digest_96 ⟨Nat.zero_le _, Nat.zero_le _⟩ ?_
        refine sr_chi (show sp_takes kp (nI i) 1 50 = sr_T kp i 1 50 from sr_takes_i (by omega)) ?_
        refine lv_i2l C0.1 C0.2.1 dX7_digest_99 rfl ?_
        refine lv_ladd C0.1 C0.2.1 dX7_digest_100 ?_
        refine lv_lstore_n (lv' := [(1, .long ((31 * ((31 * ((31 * ((31 * ((31 * (sr_dr kp h9 i)) + ((sr_fig kp i 0).toInt64))) + ((sr_fig kp i 1).toInt64))) + ((sr_fig kp i 2).toInt64))) + ((sr_fig kp i 3).toInt64))) + ((sr_T kp i 1 50).toInt64))), (4, .int 4), (3, .int (nI i)), (0, .ref (a 0))]) C0.1 C0.2.1 dX7_digest_101 rfl hl (by decide) rfl (fun ls hl => ?_)
        refine lv_iinc (v := (nI (i + 1))) (lv' := [(3, .int (nI (i + 1))), (1, .long ((31 * ((31 * ((31 * ((31 * ((31 * (sr_dr kp h9 i)) + ((sr_fig kp i 0).toInt64))) + ((sr_fig kp i 1).toInt64))) + ((sr_fig kp i 2).toInt64))) + ((sr_fig kp i 3).toInt64))) + ((sr_T kp i 1 50).toInt64))), (4, .int 4), (0, .ref (a 0))]) C0.1 C0.2.1 dX7_digest_102 hl (k := 2) rfl (nI_1 i) (by decide) rfl (fun ls hl => ?_)
        refine lv_goto (tgt := 45) C0.1 C0.2.1 dX7_digest_105 (by decide) ?_
        exact ih45 (i + 1) _ _ _ (by omega) (by omega) hP hS (lv_sub hl [0, 1, 3] rfl)
  exact lp45 (sr_cnt kp + 1) 0 _ _ _ (by omega) (by omega) hP hS (lv_sub hl [0, 1, 2] rfl)
