set_option maxRecDepth 100000 in
set_option maxHeartbeats 40000000 in
theorem cc_X8_digest {l : Launch} {D : va_G} {cI : ClassId} {a : Nat → Nat} (ha : ∀ i j, i < 13 → j < 13 → a i = a j → i = j) {kp cx sg : sr_M} (hK_ : sr_IK kp) : sr_G l D (sr_tM cI) (sr_ZM) (sr_AM a) (sr_WM cI a kp cx sg) yX8_digest cX8_digest 5 (some .long) 8 194 [.ref (a 0)] (S := sr_M) (fun u => True) (fun u => sr_WM cI a kp cx u) (fun u => some (.long (sp_digest kp))) := by
  refine sr_Gle (by decide +kernel) (Nat.le_of_ble_eq_true rfl) (fun p e s m args below meth c ls Q B hret => ?_)
  obtain ⟨C0, hP, hK, hZ0, hl⟩ := B
  have hZ : sr_Zok (sr_AM a) (sr_ZM) := sr_ZMok
  have hS : va_S (sr_AM a) s.heap s.heap [] := va_S.rf
  have hl : lv_has ls 5 [(0, .ref (a 0))] := hl
  obtain ⟨H, hH⟩ : ∃ H, H = s.heap := ⟨_, rfl⟩
  have hP : va_P D vwCl (sr_WM cI a kp cx sg) H := by rw [hH]; exact hP
  have hS : va_S (sr_AM a) s.heap H [] := by rw [hH]; exact hS
  suffices hG : ∀ locs, va_S (sr_AM a) s.heap H locs → W p l e (sr_rm 8 194) s m args below meth c H locs 0 0 Q (F0 m 0 ls []) from by have h9 := hG [] hS; rw [hH] at h9; exact h9
  clear hS
  intro locs hS
  clear hH
  refine lv_ldc2 (v := 17) C0.1 C0.2.1 C0.2.2.2.1 (C0.2.2.2.2 _ sw_971) dX8_digest_0 ?_
  refine lv_lstore_n (lv' := [(1, .long 17), (0, .ref (a 0))]) C0.1 C0.2.1 dX8_digest_3 rfl hl (by decide) rfl (fun ls hl => ?_)
  refine lv_iconst (v := 0) C0.1 C0.2.1 dX8_digest_4 (by decide) ?_
  refine lv_istore_n (lv' := [(3, .int 0), (1, .long 17), (0, .ref (a 0))]) C0.1 C0.2.1 dX8_digest_5 rfl hl (by decide) rfl (fun ls hl => ?_)
  refine lv_iload_n C0.1 C0.2.1 dX8_digest_6 rfl (lv_at hl 0 rfl) ?_
  refine lv_bipush (v := 8) C0.1 C0.2.1 dX8_digest_7 (by decide) ?_
  refine lv_icmp_ge (tgt := 31) C0.1 C0.2.1 dX8_digest_9 (by decide) (fun q => absurd q (by decide)) (fun _ => ?_)
  refine lv_ldc2 (v := 31) C0.1 C0.2.1 C0.2.2.2.1 (C0.2.2.2.2 _ sw_972) dX8_digest_12 ?_
  refine lv_lload_n C0.1 C0.2.1 dX8_digest_15 rfl (lv_at hl 1 rfl) ?_
  refine lv_lmul C0.1 C0.2.1 dX8_digest_16 ?_
  refine sr_chl (by decide : (31 * 17 : Int64) = 527) ?_
  refine lv_aload_n C0.1 C0.2.1 dX8_digest_17 rfl (lv_at hl 2 rfl) ?_
  refine lv_iload_n C0.1 C0.2.1 dX8_digest_18 rfl (lv_at hl 0 rfl) ?_
  refine sr_gVi (As := [.int 0]) C0 hK hP hZ (sr_Zs hZ hZ0 hS) (cc_X8_count ha (0) hK_) sk_X8_count sv_X8_count sw_973 (ci := 8) rfl sr_wM0 rfl rfl hl.1 (Nat.le_of_ble_eq_true rfl) (Nat.le_of_ble_eq_true rfl) (Nat.le_of_ble_eq_true rfl) dX8_digest_19 ⟨Nat.zero_le _, Nat.zero_le _⟩ hS (fun sg1 H locs hu hP hS => ?_)
  refine lv_i2l C0.1 C0.2.1 dX8_digest_22 rfl ?_
  refine lv_ladd C0.1 C0.2.1 dX8_digest_23 ?_
  refine sr_nml (fun h1 eh1 => ?_)
  refine lv_lstore_n (lv' := [(1, .long h1), (3, .int 0), (0, .ref (a 0))]) C0.1 C0.2.1 dX8_digest_24 rfl hl (by decide) rfl (fun ls hl => ?_)
  refine lv_iinc (v := 1) (lv' := [(3, .int 1), (1, .long h1), (0, .ref (a 0))]) C0.1 C0.2.1 dX8_digest_25 hl (k := 1) rfl (by decide) (by decide) rfl (fun ls hl => ?_)
  refine lv_goto (tgt := 6) C0.1 C0.2.1 dX8_digest_28 (by decide) ?_
  refine lv_iload_n C0.1 C0.2.1 dX8_digest_6 rfl (lv_at hl 0 rfl) ?_
  refine lv_bipush (v := 8) C0.1 C0.2.1 dX8_digest_7 (by decide) ?_
  refine lv_icmp_ge (tgt := 31) C0.1 C0.2.1 dX8_digest_9 (by decide) (fun q => absurd q (by decide)) (fun _ => ?_)
  refine lv_ldc2 (v := 31) C0.1 C0.2.1 C0.2.2.2.1 (C0.2.2.2.2 _ sw_972) dX8_digest_12 ?_
  refine lv_lload_n C0.1 C0.2.1 dX8_digest_15 rfl (lv_at hl 1 rfl) ?_
  refine lv_lmul C0.1 C0.2.1 dX8_digest_16 ?_
  refine lv_aload_n C0.1 C0.2.1 dX8_digest_17 rfl (lv_at hl 2 rfl) ?_
  refine lv_iload_n C0.1 C0.2.1 dX8_digest_18 rfl (lv_at hl 0 rfl) ?_
  refine sr_gVi (As := [.int 1]) C0 hK hP hZ (sr_Zs hZ hZ0 hS) (cc_X8_count ha (1) hK_) sk_X8_count sv_X8_count sw_973 (ci := 8) rfl sr_wM0 rfl rfl hl.1 (Nat.le_of_ble_eq_true rfl) (Nat.le_of_ble_eq_true rfl) (Nat.le_of_ble_eq_true rfl) dX8_digest_19 ⟨Nat.zero_le _, Nat.zero_le _⟩ hS (fun sg2 H locs hu_2 hP hS => ?_)
  refine lv_i2l C0.1 C0.2.1 dX8_digest_22 rfl ?_
  refine lv_ladd C0.1 C0.2.1 dX8_digest_23 ?_
  refine sr_nml (fun h2 eh2 => ?_)
  refine lv_lstore_n (lv' := [(1, .long h2), (3, .int 1), (0, .ref (a 0))]) C0.1 C0.2.1 dX8_digest_24 rfl hl (by decide) rfl (fun ls hl => ?_)
  refine lv_iinc (v := 2) (lv' := [(3, .int 2), (1, .long h2), (0, .ref (a 0))]) C0.1 C0.2.1 dX8_digest_25 hl (k := 1) rfl (by decide) (by decide) rfl (fun ls hl => ?_)
  refine lv_goto (tgt := 6) C0.1 C0.2.1 dX8_digest_28 (by decide) ?_
  refine lv_iload_n C0.1 C0.2.1 dX8_digest_6 rfl (lv_at hl 0 rfl) ?_
  refine lv_bipush (v := 8) C0.1 C0.2.1 dX8_digest_7 (by decide) ?_
  refine lv_icmp_ge (tgt := 31) C0.1 C0.2.1 dX8_digest_9 (by decide) (fun q => absurd q (by decide)) (fun _ => ?_)
  refine lv_ldc2 (v := 31) C0.1 C0.2.1 C0.2.2.2.1 (C0.2.2.2.2 _ sw_972) dX8_digest_12 ?_
  refine lv_lload_n C0.1 C0.2.1 dX8_digest_15 rfl (lv_at hl 1 rfl) ?_
  refine lv_lmul C0.1 C0.2.1 dX8_digest_16 ?_
  refine lv_aload_n C0.1 C0.2.1 dX8_digest_17 rfl (lv_at hl 2 rfl) ?_
  refine lv_iload_n C0.1 C0.2.1 dX8_digest_18 rfl (lv_at hl 0 rfl) ?_
  refine sr_gVi (As := [.int 2]) C0 hK hP hZ (sr_Zs hZ hZ0 hS) (cc_X8_count ha (2) hK_) sk_X8_count sv_X8_count sw_973 (ci := 8) rfl sr_wM0 rfl rfl hl.1 (Nat.le_of_ble_eq_true rfl) (Nat.le_of_ble_eq_true rfl) (Nat.le_of_ble_eq_true rfl) dX8_digest_19 ⟨Nat.zero_le _, Nat.zero_le _⟩ hS (fun sg3 H locs hu_3 hP hS => ?_)
  refine lv_i2l C0.1 C0.2.1 dX8_digest_22 rfl ?_
  refine lv_ladd C0.1 C0.2.1 dX8_digest_23 ?_
  refine sr_nml (fun h3 eh3 => ?_)
  refine lv_lstore_n (lv' := [(1, .long h3), (3, .int 2), (0, .ref (a 0))]) C0.1 C0.2.1 dX8_digest_24 rfl hl (by decide) rfl (fun ls hl => ?_)
  refine lv_iinc (v := 3) (lv' := [(3, .int 3), (1, .long h3), (0, .ref (a 0))]) C0.1 C0.2.1 dX8_digest_25 hl (k := 1) rfl (by decide) (by decide) rfl (fun ls hl => ?_)
  refine lv_goto (tgt := 6) C0.1 C0.2.1 dX8_digest_28 (by decide) ?_
  refine lv_iload_n C0.1 C0.2.1 dX8_digest_6 rfl (lv_at hl 0 rfl) ?_
  refine lv_bipush (v := 8) C0.1 C0.2.1 dX8_digest_7 (by decide) ?_
  refine lv_icmp_ge (tgt := 31) C0.1 C0.2.1 dX8_digest_9 (by decide) (fun q => absurd q (by decide)) (fun _ => ?_)
  refine lv_ldc2 (v := 31) C0.1 C0.2.1 C0.2.2.2.1 (C0.2.2.2.2 _ sw_972) dX8_digest_12 ?_
  refine lv_lload_n C0.1 C0.2.1 dX8_digest_15 rfl (lv_at hl 1 rfl) ?_
  refine lv_lmul C0.1 C0.2.1 dX8_digest_16 ?_
  refine lv_aload_n C0.1 C0.2.1 dX8_digest_17 rfl (lv_at hl 2 rfl) ?_
  refine lv_iload_n C0.1 C0.2.1 dX8_digest_18 rfl (lv_at hl 0 rfl) ?_
  refine sr_gVi (As := [.int 3]) C0 hK hP hZ (sr_Zs hZ hZ0 hS) (cc_X8_count ha (3) hK_) sk_X8_count sv_X8_count sw_973 (ci := 8) rfl sr_wM0 rfl rfl hl.1 (Nat.le_of_ble_eq_true rfl) (Nat.le_of_ble_eq_true rfl) (Nat.le_of_ble_eq_true rfl) dX8_digest_19 ⟨Nat.zero_le _, Nat.zero_le _⟩ hS (fun sg4 H locs hu_4 hP hS => ?_)
  refine lv_i2l C0.1 C0.2.1 dX8_digest_22 rfl ?_
  refine lv_ladd C0.1 C0.2.1 dX8_digest_23 ?_
  refine sr_nml (fun h4 eh4 => ?_)
  refine lv_lstore_n (lv' := [(1, .long h4), (3, .int 3), (0, .ref (a 0))]) C0.1 C0.2.1 dX8_digest_24 rfl hl (by decide) rfl (fun ls hl => ?_)
  refine lv_iinc (v := 4) (lv' := [(3, .int 4), (1, .long h4), (0, .ref (a 0))]) C0.1 C0.2.1 dX8_digest_25 hl (k := 1) rfl (by decide) (by decide) rfl (fun ls hl => ?_)
  refine lv_goto (tgt := 6) C0.1 C0.2.1 dX8_digest_28 (by decide) ?_
  refine lv_iload_n C0.1 C0.2.1 dX8_digest_6 rfl (lv_at hl 0 rfl) ?_
  refine lv_bipush (v := 8) C0.1 C0.2.1 dX8_digest_7 (by decide) ?_
  refine lv_icmp_ge (tgt := 31) C0.1 C0.2.1 dX8_digest_9 (by decide) (fun q => absurd q (by decide)) (fun _ => ?_)
  refine lv_ldc2 (v := 31) C0.1 C0.2.1 C0.2.2.2.1 (C0.2.2.2.2 _ sw_972) dX8_digest_12 ?_
  refine lv_lload_n C0.1 C0.2.1 dX8_digest_15 rfl (lv_at hl 1 rfl) ?_
  refine lv_lmul C0.1 C0.2.1 dX8_digest_16 ?_
  refine lv_aload_n C0.1 C0.2.1 dX8_digest_17 rfl (lv_at hl 2 rfl) ?_
  refine lv_iload_n C0.1 C0.2.1 dX8_digest_18 rfl (lv_at hl 0 rfl) ?_
  refine sr_gVi (As := [.int 4]) C0 hK hP hZ (sr_Zs hZ hZ0 hS) (cc_X8_count ha (4) hK_) sk_X8_count sv_X8_count sw_973 (ci := 8) rfl sr_wM0 rfl rfl hl.1 (Nat.le_of_ble_eq_true rfl) (Nat.le_of_ble_eq_true rfl) (Nat.le_of_ble_eq_true rfl) dX8_digest_19 ⟨Nat.zero_le _, Nat.zero_le _⟩ hS (fun sg5 H locs hu_5 hP hS => ?_)
  refine lv_i2l C0.1 C0.2.1 dX8_digest_22 rfl ?_
  refine lv_ladd C0.1 C0.2.1 dX8_digest_23 ?_
  refine sr_nml (fun h5 eh5 => ?_)
  refine lv_lstore_n (lv' := [(1, .long h5), (3, .int 4), (0, .ref (a 0))]) C0.1 C0.2.1 dX8_digest_24 rfl hl (by decide) rfl (fun ls hl => ?_)
  refine lv_iinc (v := 5) (lv' := [(3, .int 5), (1, .long h5), (0, .ref (a 0))]) C0.1 C0.2.1 dX8_digest_25 hl (k := 1) rfl (by decide) (by decide) rfl (fun ls hl => ?_)
  refine lv_goto (tgt := 6) C0.1 C0.2.1 dX8_digest_28 (by decide) ?_
  refine lv_iload_n C0.1 C0.2.1 dX8_digest_6 rfl (lv_at hl 0 rfl) ?_
  refine lv_bipush (v := 8) C0.1 C0.2.1 dX8_digest_7 (by decide) ?_
  refine lv_icmp_ge (tgt := 31) C0.1 C0.2.1 dX8_digest_9 (by decide) (fun q => absurd q (by decide)) (fun _ => ?_)
  refine lv_ldc2 (v := 31) C0.1 C0.2.1 C0.2.2.2.1 (C0.2.2.2.2 _ sw_972) dX8_digest_12 ?_
  refine lv_lload_n C0.1 C0.2.1 dX8_digest_15 rfl (lv_at hl 1 rfl) ?_
  refine lv_lmul C0.1 C0.2.1 dX8_digest_16 ?_
  refine lv_aload_n C0.1 C0.2.1 dX8_digest_17 rfl (lv_at hl 2 rfl) ?_
  refine lv_iload_n C0.1 C0.2.1 dX8_digest_18 rfl (lv_at hl 0 rfl) ?_
  refine sr_gVi (As := [.int 5]) C0 hK hP hZ (sr_Zs hZ hZ0 hS) (cc_X8_count ha (5) hK_) sk_X8_count sv_X8_count sw_973 (ci := 8) rfl sr_wM0 rfl rfl hl.1 (Nat.le_of_ble_eq_true rfl) (Nat.le_of_ble_eq_true rfl) (Nat.le_of_ble_eq_true rfl) dX8_digest_19 ⟨Nat.zero_le _, Nat.zero_le _⟩ hS (fun sg6 H locs hu_6 hP hS => ?_)
  refine lv_i2l C0.1 C0.2.1 dX8_digest_22 rfl ?_
  refine lv_ladd C0.1 C0.2.1 dX8_digest_23 ?_
  refine sr_nml (fun h6 eh6 => ?_)
  refine lv_lstore_n (lv' := [(1, .long h6), (3, .int 5), (0, .ref (a 0))]) C0.1 C0.2.1 dX8_digest_24 rfl hl (by decide) rfl (fun ls hl => ?_)
  refine lv_iinc (v := 6) (lv' := [(3, .int 6), (1, .long h6), (0, .ref (a 0))]) C0.1 C0.2.1 dX8_digest_25 hl (k := 1) rfl (by decide) (by decide) rfl (fun ls hl => ?_)
  refine lv_goto (tgt := 6) C0.1 C0.2.1 dX8_digest_28 (by decide) ?_
  refine lv_iload_n C0.1 C0.2.1 dX8_digest_6 rfl (lv_at hl 0 rfl) ?_
  refine lv_bipush (v := 8) C0.1 C0.2.1 dX8_digest_7 (by decide) ?_
  refine lv_icmp_ge (tgt := 31) C0.1 C0.2.1 dX8_digest_9 (by decide) (fun q => absurd q (by decide)) (fun _ => ?_)
  refine lv_ldc2 (v := 31) C0.1 C0.2.1 C0.2.2.2.1 (C0.2.2.2.2 _ sw_972) dX8_digest_12 ?_
  refine lv_lload_n C0.1 C0.2.1 dX8_digest_15 rfl (lv_at hl 1 rfl) ?_
  refine lv_lmul C0.1 C0.2.1 dX8_digest_16 ?_
  refine lv_aload_n C0.1 C0.2.1 dX8_digest_17 rfl (lv_at hl 2 rfl) ?_
  refine lv_iload_n C0.1 C0.2.1 dX8_digest_18 rfl (lv_at hl 0 rfl) ?_
  refine sr_gVi (As := [.int 6]) C0 hK hP hZ (sr_Zs hZ hZ0 hS) (cc_X8_count ha (6) hK_) sk_X8_count sv_X8_count sw_973 (ci := 8) rfl sr_wM0 rfl rfl hl.1 (Nat.le_of_ble_eq_true rfl) (Nat.le_of_ble_eq_true rfl) (Nat.le_of_ble_eq_true rfl) dX8_digest_19 ⟨Nat.zero_le _, Nat.zero_le _⟩ hS (fun sg7 H locs hu_7 hP hS => ?_)
  refine lv_i2l C0.1 C0.2.1 dX8_digest_22 rfl ?_
  refine lv_ladd C0.1 C0.2.1 dX8_digest_23 ?_
  refine sr_nml (fun h7 eh7 => ?_)
  refine lv_lstore_n (lv' := [(1, .long h7), (3, .int 6), (0, .ref (a 0))]) C0.1 C0.2.1 dX8_digest_24 rfl hl (by decide) rfl (fun ls hl => ?_)
  refine lv_iinc (v := 7) (lv' := [(3, .int 7), (1, .long h7), (0, .ref (a 0))]) C0.1 C0.2.1 dX8_digest_25 hl (k := 1) rfl (by decide) (by decide) rfl (fun ls hl => ?_)
  refine lv_goto (tgt := 6) C0.1 C0.2.1 dX8_digest_28 (by decide) ?_
  refine lv_iload_n C0.1 C0.2.1 dX8_digest_6 rfl (lv_at hl 0 rfl) ?_
  refine lv_bipush (v := 8) C0.1 C0.2.1 dX8_digest_7 (by decide) ?_
  refine lv_icmp_ge (tgt := 31) C0.1 C0.2.1 dX8_digest_9 (by decide) (fun q => absurd q (by decide)) (fun _ => ?_)
  refine lv_ldc2 (v := 31) C0.1 C0.2.1 C0.2.2.2.1 (C0.2.2.2.2 _ sw_972) dX8_digest_12 ?_
  refine lv_lload_n C0.1 C0.2.1 dX8_digest_15 rfl (lv_at hl 1 rfl) ?_
  refine lv_lmul C0.1 C0.2.1 dX8_digest_16 ?_
  refine lv_aload_n C0.1 C0.2.1 dX8_digest_17 rfl (lv_at hl 2 rfl) ?_
  refine lv_iload_n C0.1 C0.2.1 dX8_digest_18 rfl (lv_at hl 0 rfl) ?_
  refine sr_gVi (As := [.int 7]) C0 hK hP hZ (sr_Zs hZ hZ0 hS) (cc_X8_count ha (7) hK_) sk_X8_count sv_X8_count sw_973 (ci := 8) rfl sr_wM0 rfl rfl hl.1 (Nat.le_of_ble_eq_true rfl) (Nat.le_of_ble_eq_true rfl) (Nat.le_of_ble_eq_true rfl) dX8_digest_19 ⟨Nat.zero_le _, Nat.zero_le _⟩ hS (fun sg8 H locs hu_8 hP hS => ?_)
  refine lv_i2l C0.1 C0.2.1 dX8_digest_22 rfl ?_
  refine lv_ladd C0.1 C0.2.1 dX8_digest_23 ?_
  refine sr_nml (fun h8 eh8 => ?_)
  refine lv_lstore_n (lv' := [(1, .long h8), (3, .int 7), (0, .ref (a 0))]) C0.1 C0.2.1 dX8_digest_24 rfl hl (by decide) rfl (fun ls hl => ?_)
  refine lv_iinc (v := 8) (lv' := [(3, .int 8), (1, .long h8), (0, .ref (a 0))]) C0.1 C0.2.1 dX8_digest_25 hl (k := 1) rfl (by decide) (by decide) rfl (fun ls hl => ?_)
  refine lv_goto (tgt := 6) C0.1 C0.2.1 dX8_digest_28 (by decide) ?_
  refine lv_iload_n C0.1 C0.2.1 dX8_digest_6 rfl (lv_at hl 0 rfl) ?_
  refine lv_bipush (v := 8) C0.1 C0.2.1 dX8_digest_7 (by decide) ?_
  refine lv_icmp_ge (tgt := 31) C0.1 C0.2.1 dX8_digest_9 (by decide) (fun _ => ?_) (fun q => absurd q (by decide))
  refine lv_ldc2 (v := 31) C0.1 C0.2.1 C0.2.2.2.1 (C0.2.2.2.2 _ sw_972) dX8_digest_31 ?_
  refine lv_lload_n C0.1 C0.2.1 dX8_digest_34 rfl (lv_at hl 1 rfl) ?_
  refine lv_lmul C0.1 C0.2.1 dX8_digest_35 ?_
  refine lv_aload_n C0.1 C0.2.1 dX8_digest_36 rfl (lv_at hl 2 rfl) ?_
  refine sr_gVi (As := []) C0 hK hP hZ (sr_Zs hZ hZ0 hS) (cc_X8_reads ha hK_) sk_X8_reads sv_X8_reads sw_719 (ci := 8) rfl sr_wM0 rfl rfl hl.1 (Nat.le_of_ble_eq_true rfl) (Nat.le_of_ble_eq_true rfl) (Nat.le_of_ble_eq_true rfl) dX8_digest_37 ⟨Nat.zero_le _, Nat.zero_le _⟩ hS (fun sg9 H locs hRD hP hS => ?_)
  refine lv_i2l C0.1 C0.2.1 dX8_digest_40 rfl ?_
  refine lv_ladd C0.1 C0.2.1 dX8_digest_41 ?_
  refine sr_nml (fun h9 eh9 => ?_)
  refine lv_lstore_n (lv' := [(1, .long h9), (3, .int 8), (0, .ref (a 0))]) C0.1 C0.2.1 dX8_digest_42 rfl hl (by decide) rfl (fun ls hl => ?_)
  refine lv_iconst (v := 0) C0.1 C0.2.1 dX8_digest_43 (by decide) ?_
  refine lv_istore_n (lv' := [(3, .int 0), (1, .long h9), (0, .ref (a 0))]) C0.1 C0.2.1 dX8_digest_44 rfl hl (by decide) rfl (fun ls hl => ?_)
  have lp45 : ∀ (n45 : Nat) (i : Nat) (ls : Array Slot), (i ≤ sr_cnt kp) → (sr_cnt kp + 1 ≤ i + n45) → lv_has ls 5 [(3, .int (nI i)), (1, .long (sr_dr kp h9 i)), (0, .ref (a 0))] → W p l e (sr_rm 8 194) s m args below meth c H locs 0 0 Q (F0 m 45 ls []) := by
    intro n45
    induction n45 with
    | zero =>
      intro i ls h_i h_n hl
      exact absurd h_n (by omega)
    | succ n45 ih45 =>
      intro i ls h_i h_n hl
      have hc5 := sr_cnt5 kp
      refine lv_iload_n C0.1 C0.2.1 dX8_digest_45 rfl (lv_at hl 0 rfl) ?_
      refine lv_aload_n C0.1 C0.2.1 dX8_digest_46 rfl (lv_at hl 2 rfl) ?_
      refine sr_get (v := .int (sg9 1 1)) C0 hK hP sr_inX8 sr_wM0 rfl 8 (by decide) sw_618 rfl dX8_digest_47 ?_
      refine sr_chi hRD.1 ?_
      have := sr_cnt5 kp
      refine lv_icmp_ge (tgt := 109) C0.1 C0.2.1 dX8_digest_50 (by decide) (fun c50 => ?_) (fun c50 => ?_)
      · have g50 : (sr_cnt kp) ≤ i := (nI_leI (a := (sr_cnt kp)) (b := i) (by omega) (by omega)).mp c50
        obtain rfl : i = sr_cnt kp := by omega
        refine lv_iconst (v := 0) C0.1 C0.2.1 dX8_digest_109 (by decide) ?_
        refine lv_istore_n (lv' := [(3, .int 0), (1, .long (sr_dr kp h9 (sr_cnt kp))), (0, .ref (a 0))]) C0.1 C0.2.1 dX8_digest_110 rfl hl (by decide) rfl (fun ls hl => ?_)
        refine lv_iload_n C0.1 C0.2.1 dX8_digest_111 rfl (lv_at hl 0 rfl) ?_
        refine lv_iconst (v := 4) C0.1 C0.2.1 dX8_digest_112 (by decide) ?_
        refine lv_icmp_ge (tgt := 163) C0.1 C0.2.1 dX8_digest_113 (by decide) (fun q => absurd q (by decide)) (fun _ => ?_)
        refine lv_ldc2 (v := 31) C0.1 C0.2.1 C0.2.2.2.1 (C0.2.2.2.2 _ sw_972) dX8_digest_116 ?_
        refine lv_lload_n C0.1 C0.2.1 dX8_digest_119 rfl (lv_at hl 1 rfl) ?_
        refine lv_lmul C0.1 C0.2.1 dX8_digest_120 ?_
        refine lv_aload_n C0.1 C0.2.1 dX8_digest_121 rfl (lv_at hl 2 rfl) ?_
        refine lv_iload_n C0.1 C0.2.1 dX8_digest_122 rfl (lv_at hl 0 rfl) ?_
        refine lv_iconst (v := 0) C0.1 C0.2.1 dX8_digest_123 (by decide) ?_
        refine sr_gVi (As := [.int 0, .int 0]) C0 hK hP hZ (sr_Zs hZ hZ0 hS) (cc_X8_when ha (0) (0) hK_) sk_X8_when sv_X8_when sw_974 (ci := 8) rfl sr_wM0 rfl rfl hl.1 (Nat.le_of_ble_eq_true rfl) (Nat.le_of_ble_eq_true rfl) (Nat.le_of_ble_eq_true rfl) dX8_digest_124 ⟨Nat.zero_le _, Nat.zero_le _⟩ hS (fun sg10 H locs hu_9 hP hS => ?_)
        refine lv_i2l C0.1 C0.2.1 dX8_digest_127 rfl ?_
        refine lv_ladd C0.1 C0.2.1 dX8_digest_128 ?_
        refine sr_nml (fun h10 eh10 => ?_)
        refine lv_lstore_n (lv' := [(1, .long h10), (3, .int 0), (0, .ref (a 0))]) C0.1 C0.2.1 dX8_digest_129 rfl hl (by decide) rfl (fun ls hl => ?_)
        refine lv_ldc2 (v := 31) C0.1 C0.2.1 C0.2.2.2.1 (C0.2.2.2.2 _ sw_972) dX8_digest_130 ?_
        refine lv_lload_n C0.1 C0.2.1 dX8_digest_133 rfl (lv_at hl 0 rfl) ?_
        refine lv_lmul C0.1 C0.2.1 dX8_digest_134 ?_
        refine lv_aload_n C0.1 C0.2.1 dX8_digest_135 rfl (lv_at hl 2 rfl) ?_
        refine lv_iload_n C0.1 C0.2.1 dX8_digest_136 rfl (lv_at hl 1 rfl) ?_
        refine lv_iconst (v := 1) C0.1 C0.2.1 dX8_digest_137 (by decide) ?_
        refine sr_gVi (As := [.int 0, .int 1]) C0 hK hP hZ (sr_Zs hZ hZ0 hS) (cc_X8_when ha (0) (1) hK_) sk_X8_when sv_X8_when sw_974 (ci := 8) rfl sr_wM0 rfl rfl hl.1 (Nat.le_of_ble_eq_true rfl) (Nat.le_of_ble_eq_true rfl) (Nat.le_of_ble_eq_true rfl) dX8_digest_138 ⟨Nat.zero_le _, Nat.zero_le _⟩ hS (fun sg11 H locs hu_10 hP hS => ?_)
        refine lv_i2l C0.1 C0.2.1 dX8_digest_141 rfl ?_
        refine lv_ladd C0.1 C0.2.1 dX8_digest_142 ?_
        refine sr_nml (fun h11 eh11 => ?_)
        refine lv_lstore_n (lv' := [(1, .long h11), (3, .int 0), (0, .ref (a 0))]) C0.1 C0.2.1 dX8_digest_143 rfl hl (by decide) rfl (fun ls hl => ?_)
        refine lv_ldc2 (v := 31) C0.1 C0.2.1 C0.2.2.2.1 (C0.2.2.2.2 _ sw_972) dX8_digest_144 ?_
        refine lv_lload_n C0.1 C0.2.1 dX8_digest_147 rfl (lv_at hl 0 rfl) ?_
        refine lv_lmul C0.1 C0.2.1 dX8_digest_148 ?_
        refine lv_aload_n C0.1 C0.2.1 dX8_digest_149 rfl (lv_at hl 2 rfl) ?_
        refine lv_iload_n C0.1 C0.2.1 dX8_digest_150 rfl (lv_at hl 1 rfl) ?_
        refine sr_gVi (As := [.int 0]) C0 hK hP hZ (sr_Zs hZ hZ0 hS) (cc_X8_carriesNow ha 0 hK_ (by omega)) sk_X8_carriesNow sv_X8_carriesNow sw_843 (ci := 8) rfl sr_wM0 rfl rfl hl.1 (Nat.le_of_ble_eq_true rfl) (Nat.le_of_ble_eq_true rfl) (Nat.le_of_ble_eq_true rfl) dX8_digest_151 ⟨Nat.zero_le _, Nat.zero_le _⟩ hS (fun sg12 H locs hRD_2 hP hS => ?_)
        refine sr_chi (show sn_carries kp 0 = sp_carries kp 0 from sr_cv_carries (s := 0) (by omega)) ?_
        refine lv_i2l C0.1 C0.2.1 dX8_digest_154 rfl ?_
        refine lv_ladd C0.1 C0.2.1 dX8_digest_155 ?_
        refine sr_nml (fun h12 eh12 => ?_)
        refine lv_lstore_n (lv' := [(1, .long h12), (3, .int 0), (0, .ref (a 0))]) C0.1 C0.2.1 dX8_digest_156 rfl hl (by decide) rfl (fun ls hl => ?_)
        refine lv_iinc (v := 1) (lv' := [(3, .int 1), (1, .long h12), (0, .ref (a 0))]) C0.1 C0.2.1 dX8_digest_157 hl (k := 1) rfl (by decide) (by decide) rfl (fun ls hl => ?_)
        refine lv_goto (tgt := 111) C0.1 C0.2.1 dX8_digest_160 (by decide) ?_
        refine lv_iload_n C0.1 C0.2.1 dX8_digest_111 rfl (lv_at hl 0 rfl) ?_
        refine lv_iconst (v := 4) C0.1 C0.2.1 dX8_digest_112 (by decide) ?_
        refine lv_icmp_ge (tgt := 163) C0.1 C0.2.1 dX8_digest_113 (by decide) (fun q => absurd q (by decide)) (fun _ => ?_)
        refine lv_ldc2 (v := 31) C0.1 C0.2.1 C0.2.2.2.1 (C0.2.2.2.2 _ sw_972) dX8_digest_116 ?_
        refine lv_lload_n C0.1 C0.2.1 dX8_digest_119 rfl (lv_at hl 1 rfl) ?_
        refine lv_lmul C0.1 C0.2.1 dX8_digest_120 ?_
        refine lv_aload_n C0.1 C0.2.1 dX8_digest_121 rfl (lv_at hl 2 rfl) ?_
        refine lv_iload_n C0.1 C0.2.1 dX8_digest_122 rfl (lv_at hl 0 rfl) ?_
        refine lv_iconst (v := 0) C0.1 C0.2.1 dX8_digest_123 (by decide) ?_
        refine sr_gVi (As := [.int 1, .int 0]) C0 hK hP hZ (sr_Zs hZ hZ0 hS) (cc_X8_when ha (1) (0) hK_) sk_X8_when sv_X8_when sw_974 (ci := 8) rfl sr_wM0 rfl rfl hl.1 (Nat.le_of_ble_eq_true rfl) (Nat.le_of_ble_eq_true rfl) (Nat.le_of_ble_eq_true rfl) dX8_digest_124 ⟨Nat.zero_le _, Nat.zero_le _⟩ hS (fun sg13 H locs hu_11 hP hS => ?_)
        refine lv_i2l C0.1 C0.2.1 dX8_digest_127 rfl ?_
        refine lv_ladd C0.1 C0.2.1 dX8_digest_128 ?_
        refine sr_nml (fun h13 eh13 => ?_)
        refine lv_lstore_n (lv' := [(1, .long h13), (3, .int 1), (0, .ref (a 0))]) C0.1 C0.2.1 dX8_digest_129 rfl hl (by decide) rfl (fun ls hl => ?_)
        refine lv_ldc2 (v := 31) C0.1 C0.2.1 C0.2.2.2.1 (C0.2.2.2.2 _ sw_972) dX8_digest_130 ?_
        refine lv_lload_n C0.1 C0.2.1 dX8_digest_133 rfl (lv_at hl 0 rfl) ?_
        refine lv_lmul C0.1 C0.2.1 dX8_digest_134 ?_
        refine lv_aload_n C0.1 C0.2.1 dX8_digest_135 rfl (lv_at hl 2 rfl) ?_
        refine lv_iload_n C0.1 C0.2.1 dX8_digest_136 rfl (lv_at hl 1 rfl) ?_
        refine lv_iconst (v := 1) C0.1 C0.2.1 dX8_digest_137 (by decide) ?_
        refine sr_gVi (As := [.int 1, .int 1]) C0 hK hP hZ (sr_Zs hZ hZ0 hS) (cc_X8_when ha (1) (1) hK_) sk_X8_when sv_X8_when sw_974 (ci := 8) rfl sr_wM0 rfl rfl hl.1 (Nat.le_of_ble_eq_true rfl) (Nat.le_of_ble_eq_true rfl) (Nat.le_of_ble_eq_true rfl) dX8_digest_138 ⟨Nat.zero_le _, Nat.zero_le _⟩ hS (fun sg14 H locs hu_12 hP hS => ?_)
        refine lv_i2l C0.1 C0.2.1 dX8_digest_141 rfl ?_
        refine lv_ladd C0.1 C0.2.1 dX8_digest_142 ?_
        refine sr_nml (fun h14 eh14 => ?_)
        refine lv_lstore_n (lv' := [(1, .long h14), (3, .int 1), (0, .ref (a 0))]) C0.1 C0.2.1 dX8_digest_143 rfl hl (by decide) rfl (fun ls hl => ?_)
        refine lv_ldc2 (v := 31) C0.1 C0.2.1 C0.2.2.2.1 (C0.2.2.2.2 _ sw_972) dX8_digest_144 ?_
        refine lv_lload_n C0.1 C0.2.1 dX8_digest_147 rfl (lv_at hl 0 rfl) ?_
        refine lv_lmul C0.1 C0.2.1 dX8_digest_148 ?_
        refine lv_aload_n C0.1 C0.2.1 dX8_digest_149 rfl (lv_at hl 2 rfl) ?_
        refine lv_iload_n C0.1 C0.2.1 dX8_digest_150 rfl (lv_at hl 1 rfl) ?_
        refine sr_gVi (As := [.int 1]) C0 hK hP hZ (sr_Zs hZ hZ0 hS) (cc_X8_carriesNow ha 1 hK_ (by omega)) sk_X8_carriesNow sv_X8_carriesNow sw_843 (ci := 8) rfl sr_wM0 rfl rfl hl.1 (Nat.le_of_ble_eq_true rfl) (Nat.le_of_ble_eq_true rfl) (Nat.le_of_ble_eq_true rfl) dX8_digest_151 ⟨Nat.zero_le _, Nat.zero_le _⟩ hS (fun sg15 H locs hRD_3 hP hS => ?_)
        refine sr_chi (show sn_carries kp 1 = sp_carries kp 1 from sr_cv_carries (s := 1) (by omega)) ?_
        refine lv_i2l C0.1 C0.2.1 dX8_digest_154 rfl ?_
        refine lv_ladd C0.1 C0.2.1 dX8_digest_155 ?_
        refine sr_nml (fun h15 eh15 => ?_)
        refine lv_lstore_n (lv' := [(1, .long h15), (3, .int 1), (0, .ref (a 0))]) C0.1 C0.2.1 dX8_digest_156 rfl hl (by decide) rfl (fun ls hl => ?_)
        refine lv_iinc (v := 2) (lv' := [(3, .int 2), (1, .long h15), (0, .ref (a 0))]) C0.1 C0.2.1 dX8_digest_157 hl (k := 1) rfl (by decide) (by decide) rfl (fun ls hl => ?_)
        refine lv_goto (tgt := 111) C0.1 C0.2.1 dX8_digest_160 (by decide) ?_
        refine lv_iload_n C0.1 C0.2.1 dX8_digest_111 rfl (lv_at hl 0 rfl) ?_
        refine lv_iconst (v := 4) C0.1 C0.2.1 dX8_digest_112 (by decide) ?_
        refine lv_icmp_ge (tgt := 163) C0.1 C0.2.1 dX8_digest_113 (by decide) (fun q => absurd q (by decide)) (fun _ => ?_)
        refine lv_ldc2 (v := 31) C0.1 C0.2.1 C0.2.2.2.1 (C0.2.2.2.2 _ sw_972) dX8_digest_116 ?_
        refine lv_lload_n C0.1 C0.2.1 dX8_digest_119 rfl (lv_at hl 1 rfl) ?_
        refine lv_lmul C0.1 C0.2.1 dX8_digest_120 ?_
        refine lv_aload_n C0.1 C0.2.1 dX8_digest_121 rfl (lv_at hl 2 rfl) ?_
        refine lv_iload_n C0.1 C0.2.1 dX8_digest_122 rfl (lv_at hl 0 rfl) ?_
        refine lv_iconst (v := 0) C0.1 C0.2.1 dX8_digest_123 (by decide) ?_
        refine sr_gVi (As := [.int 2, .int 0]) C0 hK hP hZ (sr_Zs hZ hZ0 hS) (cc_X8_when ha (2) (0) hK_) sk_X8_when sv_X8_when sw_974 (ci := 8) rfl sr_wM0 rfl rfl hl.1 (Nat.le_of_ble_eq_true rfl) (Nat.le_of_ble_eq_true rfl) (Nat.le_of_ble_eq_true rfl) dX8_digest_124 ⟨Nat.zero_le _, Nat.zero_le _⟩ hS (fun sg16 H locs hu_13 hP hS => ?_)
        refine lv_i2l C0.1 C0.2.1 dX8_digest_127 rfl ?_
        refine lv_ladd C0.1 C0.2.1 dX8_digest_128 ?_
        refine sr_nml (fun h16 eh16 => ?_)
        refine lv_lstore_n (lv' := [(1, .long h16), (3, .int 2), (0, .ref (a 0))]) C0.1 C0.2.1 dX8_digest_129 rfl hl (by decide) rfl (fun ls hl => ?_)
        refine lv_ldc2 (v := 31) C0.1 C0.2.1 C0.2.2.2.1 (C0.2.2.2.2 _ sw_972) dX8_digest_130 ?_
        refine lv_lload_n C0.1 C0.2.1 dX8_digest_133 rfl (lv_at hl 0 rfl) ?_
        refine lv_lmul C0.1 C0.2.1 dX8_digest_134 ?_
        refine lv_aload_n C0.1 C0.2.1 dX8_digest_135 rfl (lv_at hl 2 rfl) ?_
        refine lv_iload_n C0.1 C0.2.1 dX8_digest_136 rfl (lv_at hl 1 rfl) ?_
        refine lv_iconst (v := 1) C0.1 C0.2.1 dX8_digest_137 (by decide) ?_
        refine sr_gVi (As := [.int 2, .int 1]) C0 hK hP hZ (sr_Zs hZ hZ0 hS) (cc_X8_when ha (2) (1) hK_) sk_X8_when sv_X8_when sw_974 (ci := 8) rfl sr_wM0 rfl rfl hl.1 (Nat.le_of_ble_eq_true rfl) (Nat.le_of_ble_eq_true rfl) (Nat.le_of_ble_eq_true rfl) dX8_digest_138 ⟨Nat.zero_le _, Nat.zero_le _⟩ hS (fun sg17 H locs hu_14 hP hS => ?_)
        refine lv_i2l C0.1 C0.2.1 dX8_digest_141 rfl ?_
        refine lv_ladd C0.1 C0.2.1 dX8_digest_142 ?_
        refine sr_nml (fun h17 eh17 => ?_)
        refine lv_lstore_n (lv' := [(1, .long h17), (3, .int 2), (0, .ref (a 0))]) C0.1 C0.2.1 dX8_digest_143 rfl hl (by decide) rfl (fun ls hl => ?_)
        refine lv_ldc2 (v := 31) C0.1 C0.2.1 C0.2.2.2.1 (C0.2.2.2.2 _ sw_972) dX8_digest_144 ?_
        refine lv_lload_n C0.1 C0.2.1 dX8_digest_147 rfl (lv_at hl 0 rfl) ?_
        refine lv_lmul C0.1 C0.2.1 dX8_digest_148 ?_
        refine lv_aload_n C0.1 C0.2.1 dX8_digest_149 rfl (lv_at hl 2 rfl) ?_
        refine lv_iload_n C0.1 C0.2.1 dX8_digest_150 rfl (lv_at hl 1 rfl) ?_
        refine sr_gVi (As := [.int 2]) C0 hK hP hZ (sr_Zs hZ hZ0 hS) (cc_X8_carriesNow ha 2 hK_ (by omega)) sk_X8_carriesNow sv_X8_carriesNow sw_843 (ci := 8) rfl sr_wM0 rfl rfl hl.1 (Nat.le_of_ble_eq_true rfl) (Nat.le_of_ble_eq_true rfl) (Nat.le_of_ble_eq_true rfl) dX8_digest_151 ⟨Nat.zero_le _, Nat.zero_le _⟩ hS (fun sg18 H locs hRD_4 hP hS => ?_)
        refine sr_chi (show sn_carries kp 2 = sp_carries kp 2 from sr_cv_carries (s := 2) (by omega)) ?_
        refine lv_i2l C0.1 C0.2.1 dX8_digest_154 rfl ?_
        refine lv_ladd C0.1 C0.2.1 dX8_digest_155 ?_
        refine sr_nml (fun h18 eh18 => ?_)
        refine lv_lstore_n (lv' := [(1, .long h18), (3, .int 2), (0, .ref (a 0))]) C0.1 C0.2.1 dX8_digest_156 rfl hl (by decide) rfl (fun ls hl => ?_)
        refine lv_iinc (v := 3) (lv' := [(3, .int 3), (1, .long h18), (0, .ref (a 0))]) C0.1 C0.2.1 dX8_digest_157 hl (k := 1) rfl (by decide) (by decide) rfl (fun ls hl => ?_)
        refine lv_goto (tgt := 111) C0.1 C0.2.1 dX8_digest_160 (by decide) ?_
        refine lv_iload_n C0.1 C0.2.1 dX8_digest_111 rfl (lv_at hl 0 rfl) ?_
        refine lv_iconst (v := 4) C0.1 C0.2.1 dX8_digest_112 (by decide) ?_
        refine lv_icmp_ge (tgt := 163) C0.1 C0.2.1 dX8_digest_113 (by decide) (fun q => absurd q (by decide)) (fun _ => ?_)
        refine lv_ldc2 (v := 31) C0.1 C0.2.1 C0.2.2.2.1 (C0.2.2.2.2 _ sw_972) dX8_digest_116 ?_
        refine lv_lload_n C0.1 C0.2.1 dX8_digest_119 rfl (lv_at hl 1 rfl) ?_
        refine lv_lmul C0.1 C0.2.1 dX8_digest_120 ?_
        refine lv_aload_n C0.1 C0.2.1 dX8_digest_121 rfl (lv_at hl 2 rfl) ?_
        refine lv_iload_n C0.1 C0.2.1 dX8_digest_122 rfl (lv_at hl 0 rfl) ?_
        refine lv_iconst (v := 0) C0.1 C0.2.1 dX8_digest_123 (by decide) ?_
        refine sr_gVi (As := [.int 3, .int 0]) C0 hK hP hZ (sr_Zs hZ hZ0 hS) (cc_X8_when ha (3) (0) hK_) sk_X8_when sv_X8_when sw_974 (ci := 8) rfl sr_wM0 rfl rfl hl.1 (Nat.le_of_ble_eq_true rfl) (Nat.le_of_ble_eq_true rfl) (Nat.le_of_ble_eq_true rfl) dX8_digest_124 ⟨Nat.zero_le _, Nat.zero_le _⟩ hS (fun sg19 H locs hu_15 hP hS => ?_)
        refine lv_i2l C0.1 C0.2.1 dX8_digest_127 rfl ?_
        refine lv_ladd C0.1 C0.2.1 dX8_digest_128 ?_
        refine sr_nml (fun h19 eh19 => ?_)
        refine lv_lstore_n (lv' := [(1, .long h19), (3, .int 3), (0, .ref (a 0))]) C0.1 C0.2.1 dX8_digest_129 rfl hl (by decide) rfl (fun ls hl => ?_)
        refine lv_ldc2 (v := 31) C0.1 C0.2.1 C0.2.2.2.1 (C0.2.2.2.2 _ sw_972) dX8_digest_130 ?_
        refine lv_lload_n C0.1 C0.2.1 dX8_digest_133 rfl (lv_at hl 0 rfl) ?_
        refine lv_lmul C0.1 C0.2.1 dX8_digest_134 ?_
        refine lv_aload_n C0.1 C0.2.1 dX8_digest_135 rfl (lv_at hl 2 rfl) ?_
        refine lv_iload_n C0.1 C0.2.1 dX8_digest_136 rfl (lv_at hl 1 rfl) ?_
        refine lv_iconst (v := 1) C0.1 C0.2.1 dX8_digest_137 (by decide) ?_
        refine sr_gVi (As := [.int 3, .int 1]) C0 hK hP hZ (sr_Zs hZ hZ0 hS) (cc_X8_when ha (3) (1) hK_) sk_X8_when sv_X8_when sw_974 (ci := 8) rfl sr_wM0 rfl rfl hl.1 (Nat.le_of_ble_eq_true rfl) (Nat.le_of_ble_eq_true rfl) (Nat.le_of_ble_eq_true rfl) dX8_digest_138 ⟨Nat.zero_le _, Nat.zero_le _⟩ hS (fun sg20 H locs hu_16 hP hS => ?_)
        refine lv_i2l C0.1 C0.2.1 dX8_digest_141 rfl ?_
        refine lv_ladd C0.1 C0.2.1 dX8_digest_142 ?_
        refine sr_nml (fun h20 eh20 => ?_)
        refine lv_lstore_n (lv' := [(1, .long h20), (3, .int 3), (0, .ref (a 0))]) C0.1 C0.2.1 dX8_digest_143 rfl hl (by decide) rfl (fun ls hl => ?_)
        refine lv_ldc2 (v := 31) C0.1 C0.2.1 C0.2.2.2.1 (C0.2.2.2.2 _ sw_972) dX8_digest_144 ?_
        refine lv_lload_n C0.1 C0.2.1 dX8_digest_147 rfl (lv_at hl 0 rfl) ?_
        refine lv_lmul C0.1 C0.2.1 dX8_digest_148 ?_
        refine lv_aload_n C0.1 C0.2.1 dX8_digest_149 rfl (lv_at hl 2 rfl) ?_
        refine lv_iload_n C0.1 C0.2.1 dX8_digest_150 rfl (lv_at hl 1 rfl) ?_
        refine sr_gVi (As := [.int 3]) C0 hK hP hZ (sr_Zs hZ hZ0 hS) (cc_X8_carriesNow ha 3 hK_ (by omega)) sk_X8_carriesNow sv_X8_carriesNow sw_843 (ci := 8) rfl sr_wM0 rfl rfl hl.1 (Nat.le_of_ble_eq_true rfl) (Nat.le_of_ble_eq_true rfl) (Nat.le_of_ble_eq_true rfl) dX8_digest_151 ⟨Nat.zero_le _, Nat.zero_le _⟩ hS (fun sg21 H locs hRD_5 hP hS => ?_)
        refine sr_chi (show sn_carries kp 3 = sp_carries kp 3 from sr_cv_carries (s := 3) (by omega)) ?_
        refine lv_i2l C0.1 C0.2.1 dX8_digest_154 rfl ?_
        refine lv_ladd C0.1 C0.2.1 dX8_digest_155 ?_
        refine sr_nml (fun h21 eh21 => ?_)
        refine lv_lstore_n (lv' := [(1, .long h21), (3, .int 3), (0, .ref (a 0))]) C0.1 C0.2.1 dX8_digest_156 rfl hl (by decide) rfl (fun ls hl => ?_)
        refine lv_iinc (v := 4) (lv' := [(3, .int 4), (1, .long h21), (0, .ref (a 0))]) C0.1 C0.2.1 dX8_digest_157 hl (k := 1) rfl (by decide) (by decide) rfl (fun ls hl => ?_)
        refine lv_goto (tgt := 111) C0.1 C0.2.1 dX8_digest_160 (by decide) ?_
        refine lv_iload_n C0.1 C0.2.1 dX8_digest_111 rfl (lv_at hl 0 rfl) ?_
        refine lv_iconst (v := 4) C0.1 C0.2.1 dX8_digest_112 (by decide) ?_
        refine lv_icmp_ge (tgt := 163) C0.1 C0.2.1 dX8_digest_113 (by decide) (fun _ => ?_) (fun q => absurd q (by decide))
        refine lv_iconst (v := 0) C0.1 C0.2.1 dX8_digest_163 (by decide) ?_
        refine lv_istore_n (lv' := [(3, .int 0), (1, .long h21), (0, .ref (a 0))]) C0.1 C0.2.1 dX8_digest_164 rfl hl (by decide) rfl (fun ls hl => ?_)
        refine lv_iload_n C0.1 C0.2.1 dX8_digest_165 rfl (lv_at hl 0 rfl) ?_
        refine lv_iconst (v := 3) C0.1 C0.2.1 dX8_digest_166 (by decide) ?_
        refine lv_icmp_ge (tgt := 257) C0.1 C0.2.1 dX8_digest_167 (by decide) (fun q => absurd q (by decide)) (fun _ => ?_)
        refine lv_ldc2 (v := 31) C0.1 C0.2.1 C0.2.2.2.1 (C0.2.2.2.2 _ sw_972) dX8_digest_170 ?_
        refine lv_lload_n C0.1 C0.2.1 dX8_digest_173 rfl (lv_at hl 1 rfl) ?_
        refine lv_lmul C0.1 C0.2.1 dX8_digest_174 ?_
        refine lv_aload_n C0.1 C0.2.1 dX8_digest_175 rfl (lv_at hl 2 rfl) ?_
        refine lv_iload_n C0.1 C0.2.1 dX8_digest_176 rfl (lv_at hl 0 rfl) ?_
        refine sr_gVi (As := [.int 0]) C0 hK hP hZ (sr_Zs hZ hZ0 hS) (cc_X8_meetNow ha 0 hK_ (by omega)) sk_X8_meetNow sv_X8_meetNow sw_811 (ci := 8) rfl sr_wM0 rfl rfl hl.1 (Nat.le_of_ble_eq_true rfl) (Nat.le_of_ble_eq_true rfl) (Nat.le_of_ble_eq_true rfl) dX8_digest_177 ⟨Nat.zero_le _, Nat.zero_le _⟩ hS (fun sg22 H locs hRD_6 hP hS => ?_)
        refine sr_chi (show sn_meet kp 0 = sp_meet kp 0 from sr_cv_meet (s := 0) (by omega)) ?_
        refine lv_i2l C0.1 C0.2.1 dX8_digest_180 rfl ?_
        refine lv_ladd C0.1 C0.2.1 dX8_digest_181 ?_
        refine sr_nml (fun h22 eh22 => ?_)
        refine lv_lstore_n (lv' := [(1, .long h22), (3, .int 0), (0, .ref (a 0))]) C0.1 C0.2.1 dX8_digest_182 rfl hl (by decide) rfl (fun ls hl => ?_)
        refine lv_ldc2 (v := 31) C0.1 C0.2.1 C0.2.2.2.1 (C0.2.2.2.2 _ sw_972) dX8_digest_183 ?_
        refine lv_lload_n C0.1 C0.2.1 dX8_digest_186 rfl (lv_at hl 0 rfl) ?_
        refine lv_lmul C0.1 C0.2.1 dX8_digest_187 ?_
        refine lv_aload_n C0.1 C0.2.1 dX8_digest_188 rfl (lv_at hl 2 rfl) ?_
        refine lv_iload_n C0.1 C0.2.1 dX8_digest_189 rfl (lv_at hl 1 rfl) ?_
        refine sr_gVi (As := [.int 0]) C0 hK hP hZ (sr_Zs hZ hZ0 hS) (cc_X8_kindNow ha 0 hK_ (by omega)) sk_X8_kindNow sv_X8_kindNow sw_827 (ci := 8) rfl sr_wM0 rfl rfl hl.1 (Nat.le_of_ble_eq_true rfl) (Nat.le_of_ble_eq_true rfl) (Nat.le_of_ble_eq_true rfl) dX8_digest_190 ⟨Nat.zero_le _, Nat.zero_le _⟩ hS (fun sg23 H locs hRD_7 hP hS => ?_)
        refine sr_chi (show sn_kind kp 0 = sp_kind kp 0 from sr_cv_kind (s := 0) (by omega)) ?_
        refine lv_i2l C0.1 C0.2.1 dX8_digest_193 rfl ?_
        refine lv_ladd C0.1 C0.2.1 dX8_digest_194 ?_
        refine sr_nml (fun h23 eh23 => ?_)
        refine lv_lstore_n (lv' := [(1, .long h23), (3, .int 0), (0, .ref (a 0))]) C0.1 C0.2.1 dX8_digest_195 rfl hl (by decide) rfl (fun ls hl => ?_)
        refine lv_ldc2 (v := 31) C0.1 C0.2.1 C0.2.2.2.1 (C0.2.2.2.2 _ sw_972) dX8_digest_196 ?_
        refine lv_lload_n C0.1 C0.2.1 dX8_digest_199 rfl (lv_at hl 0 rfl) ?_
        refine lv_lmul C0.1 C0.2.1 dX8_digest_200 ?_
        refine lv_aload_n C0.1 C0.2.1 dX8_digest_201 rfl (lv_at hl 2 rfl) ?_
        refine lv_iload_n C0.1 C0.2.1 dX8_digest_202 rfl (lv_at hl 1 rfl) ?_
        refine sr_gVi (As := [.int 0]) C0 hK hP hZ (sr_Zs hZ hZ0 hS) (cc_X8_chanceNow ha 0 hK_ (by omega)) sk_X8_chanceNow sv_X8_chanceNow sw_855 (ci := 8) rfl sr_wM0 rfl rfl hl.1 (Nat.le_of_ble_eq_true rfl) (Nat.le_of_ble_eq_true rfl) (Nat.le_of_ble_eq_true rfl) dX8_digest_203 ⟨Nat.zero_le _, Nat.zero_le _⟩ hS (fun sg24 H locs hRD_8 hP hS => ?_)
        refine sr_chi (show sn_chance kp 0 = sp_chance kp 0 from sr_cv_chance (s := 0) (by omega)) ?_
        refine lv_i2l C0.1 C0.2.1 dX8_digest_206 rfl ?_
        refine lv_ladd C0.1 C0.2.1 dX8_digest_207 ?_
        refine sr_nml (fun h24 eh24 => ?_)
        refine lv_lstore_n (lv' := [(1, .long h24), (3, .int 0), (0, .ref (a 0))]) C0.1 C0.2.1 dX8_digest_208 rfl hl (by decide) rfl (fun ls hl => ?_)
        refine lv_ldc2 (v := 31) C0.1 C0.2.1 C0.2.2.2.1 (C0.2.2.2.2 _ sw_972) dX8_digest_209 ?_
        refine lv_lload_n C0.1 C0.2.1 dX8_digest_212 rfl (lv_at hl 0 rfl) ?_
        refine lv_lmul C0.1 C0.2.1 dX8_digest_213 ?_
        refine lv_aload_n C0.1 C0.2.1 dX8_digest_214 rfl (lv_at hl 2 rfl) ?_
        refine lv_iload_n C0.1 C0.2.1 dX8_digest_215 rfl (lv_at hl 1 rfl) ?_
        refine lv_bipush (v := 10) C0.1 C0.2.1 dX8_digest_216 (by decide) ?_
        refine sr_gVi (As := [.int 0, .int 10]) C0 hK hP hZ (sr_Zs hZ hZ0 hS) (cc_X8_safeNow ha 0 (10) hK_ (by omega)) sk_X8_safeNow sv_X8_safeNow sw_887 (ci := 8) rfl sr_wM0 rfl rfl hl.1 (Nat.le_of_ble_eq_true rfl) (Nat.le_of_ble_eq_true rfl) (Nat.le_of_ble_eq_true rfl) dX8_digest_218 ⟨Nat.zero_le _, Nat.zero_le _⟩ hS (fun sg25 H locs hRD_9 hP hS => ?_)
        refine sr_chi (show sn_safe kp 0 10 = sp_safe kp 0 10 from sr_cv_safe (s := 0) (by omega)) ?_
        refine lv_i2l C0.1 C0.2.1 dX8_digest_221 rfl ?_
        refine lv_ladd C0.1 C0.2.1 dX8_digest_222 ?_
        refine sr_nml (fun h25 eh25 => ?_)
        refine lv_lstore_n (lv' := [(1, .long h25), (3, .int 0), (0, .ref (a 0))]) C0.1 C0.2.1 dX8_digest_223 rfl hl (by decide) rfl (fun ls hl => ?_)
        refine lv_ldc2 (v := 31) C0.1 C0.2.1 C0.2.2.2.1 (C0.2.2.2.2 _ sw_972) dX8_digest_224 ?_
        refine lv_lload_n C0.1 C0.2.1 dX8_digest_227 rfl (lv_at hl 0 rfl) ?_
        refine lv_lmul C0.1 C0.2.1 dX8_digest_228 ?_
        refine lv_aload_n C0.1 C0.2.1 dX8_digest_229 rfl (lv_at hl 2 rfl) ?_
        refine lv_iload_n C0.1 C0.2.1 dX8_digest_230 rfl (lv_at hl 1 rfl) ?_
        refine sr_gVi (As := [.int 0]) C0 hK hP hZ (sr_Zs hZ hZ0 hS) (cc_X8_bestNow ha 0 hK_ (by omega)) sk_X8_bestNow sv_X8_bestNow sw_895 (ci := 8) rfl sr_wM0 rfl rfl hl.1 (Nat.le_of_ble_eq_true rfl) (Nat.le_of_ble_eq_true rfl) (Nat.le_of_ble_eq_true rfl) dX8_digest_231 ⟨Nat.zero_le _, Nat.zero_le _⟩ hS (fun sg26 H locs hRD_10 hP hS => ?_)
        refine sr_chi (show sn_best kp 0 = sp_best kp 0 from sr_cv_best (s := 0) (by omega)) ?_
        refine lv_i2l C0.1 C0.2.1 dX8_digest_234 rfl ?_
        refine lv_ladd C0.1 C0.2.1 dX8_digest_235 ?_
        refine sr_nml (fun h26 eh26 => ?_)
        refine lv_lstore_n (lv' := [(1, .long h26), (3, .int 0), (0, .ref (a 0))]) C0.1 C0.2.1 dX8_digest_236 rfl hl (by decide) rfl (fun ls hl => ?_)
        refine lv_ldc2 (v := 31) C0.1 C0.2.1 C0.2.2.2.1 (C0.2.2.2.2 _ sw_972) dX8_digest_237 ?_
        refine lv_lload_n C0.1 C0.2.1 dX8_digest_240 rfl (lv_at hl 0 rfl) ?_
        refine lv_lmul C0.1 C0.2.1 dX8_digest_241 ?_
        refine lv_aload_n C0.1 C0.2.1 dX8_digest_242 rfl (lv_at hl 2 rfl) ?_
        refine lv_iload_n C0.1 C0.2.1 dX8_digest_243 rfl (lv_at hl 1 rfl) ?_
        refine lv_iconst (v := 5) C0.1 C0.2.1 dX8_digest_244 (by decide) ?_
        refine sr_gVi (As := [.int 0, .int 5]) C0 hK hP hZ (sr_Zs hZ hZ0 hS) (cc_X8_blame ha (0) (5) hK_) sk_X8_blame sv_X8_blame sw_975 (ci := 8) rfl sr_wM0 rfl rfl hl.1 (Nat.le_of_ble_eq_true rfl) (Nat.le_of_ble_eq_true rfl) (Nat.le_of_ble_eq_true rfl) dX8_digest_245 ⟨Nat.zero_le _, Nat.zero_le _⟩ hS (fun sg27 H locs hu_17 hP hS => ?_)
        refine lv_i2l C0.1 C0.2.1 dX8_digest_248 rfl ?_
        refine lv_ladd C0.1 C0.2.1 dX8_digest_249 ?_
        refine sr_nml (fun h27 eh27 => ?_)
        refine lv_lstore_n (lv' := [(1, .long h27), (3, .int 0), (0, .ref (a 0))]) C0.1 C0.2.1 dX8_digest_250 rfl hl (by decide) rfl (fun ls hl => ?_)
        refine lv_iinc (v := 1) (lv' := [(3, .int 1), (1, .long h27), (0, .ref (a 0))]) C0.1 C0.2.1 dX8_digest_251 hl (k := 1) rfl (by decide) (by decide) rfl (fun ls hl => ?_)
        refine lv_goto (tgt := 165) C0.1 C0.2.1 dX8_digest_254 (by decide) ?_
        refine lv_iload_n C0.1 C0.2.1 dX8_digest_165 rfl (lv_at hl 0 rfl) ?_
        refine lv_iconst (v := 3) C0.1 C0.2.1 dX8_digest_166 (by decide) ?_
        refine lv_icmp_ge (tgt := 257) C0.1 C0.2.1 dX8_digest_167 (by decide) (fun q => absurd q (by decide)) (fun _ => ?_)
        refine lv_ldc2 (v := 31) C0.1 C0.2.1 C0.2.2.2.1 (C0.2.2.2.2 _ sw_972) dX8_digest_170 ?_
        refine lv_lload_n C0.1 C0.2.1 dX8_digest_173 rfl (lv_at hl 1 rfl) ?_
        refine lv_lmul C0.1 C0.2.1 dX8_digest_174 ?_
        refine lv_aload_n C0.1 C0.2.1 dX8_digest_175 rfl (lv_at hl 2 rfl) ?_
        refine lv_iload_n C0.1 C0.2.1 dX8_digest_176 rfl (lv_at hl 0 rfl) ?_
        refine sr_gVi (As := [.int 1]) C0 hK hP hZ (sr_Zs hZ hZ0 hS) (cc_X8_meetNow ha 1 hK_ (by omega)) sk_X8_meetNow sv_X8_meetNow sw_811 (ci := 8) rfl sr_wM0 rfl rfl hl.1 (Nat.le_of_ble_eq_true rfl) (Nat.le_of_ble_eq_true rfl) (Nat.le_of_ble_eq_true rfl) dX8_digest_177 ⟨Nat.zero_le _, Nat.zero_le _⟩ hS (fun sg28 H locs hRD_11 hP hS => ?_)
        refine sr_chi (show sn_meet kp 1 = sp_meet kp 1 from sr_cv_meet (s := 1) (by omega)) ?_
        refine lv_i2l C0.1 C0.2.1 dX8_digest_180 rfl ?_
        refine lv_ladd C0.1 C0.2.1 dX8_digest_181 ?_
        refine sr_nml (fun h28 eh28 => ?_)
        refine lv_lstore_n (lv' := [(1, .long h28), (3, .int 1), (0, .ref (a 0))]) C0.1 C0.2.1 dX8_digest_182 rfl hl (by decide) rfl (fun ls hl => ?_)
        refine lv_ldc2 (v := 31) C0.1 C0.2.1 C0.2.2.2.1 (C0.2.2.2.2 _ sw_972) dX8_digest_183 ?_
        refine lv_lload_n C0.1 C0.2.1 dX8_digest_186 rfl (lv_at hl 0 rfl) ?_
        refine lv_lmul C0.1 C0.2.1 dX8_digest_187 ?_
        refine lv_aload_n C0.1 C0.2.1 dX8_digest_188 rfl (lv_at hl 2 rfl) ?_
        refine lv_iload_n C0.1 C0.2.1 dX8_digest_189 rfl (lv_at hl 1 rfl) ?_
        refine sr_gVi (As := [.int 1]) C0 hK hP hZ (sr_Zs hZ hZ0 hS) (cc_X8_kindNow ha 1 hK_ (by omega)) sk_X8_kindNow sv_X8_kindNow sw_827 (ci := 8) rfl sr_wM0 rfl rfl hl.1 (Nat.le_of_ble_eq_true rfl) (Nat.le_of_ble_eq_true rfl) (Nat.le_of_ble_eq_true rfl) dX8_digest_190 ⟨Nat.zero_le _, Nat.zero_le _⟩ hS (fun sg29 H locs hRD_12 hP hS => ?_)
        refine sr_chi (show sn_kind kp 1 = sp_kind kp 1 from sr_cv_kind (s := 1) (by omega)) ?_
        refine lv_i2l C0.1 C0.2.1 dX8_digest_193 rfl ?_
        refine lv_ladd C0.1 C0.2.1 dX8_digest_194 ?_
        refine sr_nml (fun h29 eh29 => ?_)
        refine lv_lstore_n (lv' := [(1, .long h29), (3, .int 1), (0, .ref (a 0))]) C0.1 C0.2.1 dX8_digest_195 rfl hl (by decide) rfl (fun ls hl => ?_)
        refine lv_ldc2 (v := 31) C0.1 C0.2.1 C0.2.2.2.1 (C0.2.2.2.2 _ sw_972) dX8_digest_196 ?_
        refine lv_lload_n C0.1 C0.2.1 dX8_digest_199 rfl (lv_at hl 0 rfl) ?_
        refine lv_lmul C0.1 C0.2.1 dX8_digest_200 ?_
        refine lv_aload_n C0.1 C0.2.1 dX8_digest_201 rfl (lv_at hl 2 rfl) ?_
        refine lv_iload_n C0.1 C0.2.1 dX8_digest_202 rfl (lv_at hl 1 rfl) ?_
        refine sr_gVi (As := [.int 1]) C0 hK hP hZ (sr_Zs hZ hZ0 hS) (cc_X8_chanceNow ha 1 hK_ (by omega)) sk_X8_chanceNow sv_X8_chanceNow sw_855 (ci := 8) rfl sr_wM0 rfl rfl hl.1 (Nat.le_of_ble_eq_true rfl) (Nat.le_of_ble_eq_true rfl) (Nat.le_of_ble_eq_true rfl) dX8_digest_203 ⟨Nat.zero_le _, Nat.zero_le _⟩ hS (fun sg30 H locs hRD_13 hP hS => ?_)
        refine sr_chi (show sn_chance kp 1 = sp_chance kp 1 from sr_cv_chance (s := 1) (by omega)) ?_
        refine lv_i2l C0.1 C0.2.1 dX8_digest_206 rfl ?_
        refine lv_ladd C0.1 C0.2.1 dX8_digest_207 ?_
        refine sr_nml (fun h30 eh30 => ?_)
        refine lv_lstore_n (lv' := [(1, .long h30), (3, .int 1), (0, .ref (a 0))]) C0.1 C0.2.1 dX8_digest_208 rfl hl (by decide) rfl (fun ls hl => ?_)
        refine lv_ldc2 (v := 31) C0.1 C0.2.1 C0.2.2.2.1 (C0.2.2.2.2 _ sw_972) dX8_digest_209 ?_
        refine lv_lload_n C0.1 C0.2.1 dX8_digest_212 rfl (lv_at hl 0 rfl) ?_
        refine lv_lmul C0.1 C0.2.1 dX8_digest_213 ?_
        refine lv_aload_n C0.1 C0.2.1 dX8_digest_214 rfl (lv_at hl 2 rfl) ?_
        refine lv_iload_n C0.1 C0.2.1 dX8_digest_215 rfl (lv_at hl 1 rfl) ?_
        refine lv_bipush (v := 10) C0.1 C0.2.1 dX8_digest_216 (by decide) ?_
        refine sr_gVi (As := [.int 1, .int 10]) C0 hK hP hZ (sr_Zs hZ hZ0 hS) (cc_X8_safeNow ha 1 (10) hK_ (by omega)) sk_X8_safeNow sv_X8_safeNow sw_887 (ci := 8) rfl sr_wM0 rfl rfl hl.1 (Nat.le_of_ble_eq_true rfl) (Nat.le_of_ble_eq_true rfl) (Nat.le_of_ble_eq_true rfl) dX8_digest_218 ⟨Nat.zero_le _, Nat.zero_le _⟩ hS (fun sg31 H locs hRD_14 hP hS => ?_)
        refine sr_chi (show sn_safe kp 1 10 = sp_safe kp 1 10 from sr_cv_safe (s := 1) (by omega)) ?_
        refine lv_i2l C0.1 C0.2.1 dX8_digest_221 rfl ?_
        refine lv_ladd C0.1 C0.2.1 dX8_digest_222 ?_
        refine sr_nml (fun h31 eh31 => ?_)
        refine lv_lstore_n (lv' := [(1, .long h31), (3, .int 1), (0, .ref (a 0))]) C0.1 C0.2.1 dX8_digest_223 rfl hl (by decide) rfl (fun ls hl => ?_)
        refine lv_ldc2 (v := 31) C0.1 C0.2.1 C0.2.2.2.1 (C0.2.2.2.2 _ sw_972) dX8_digest_224 ?_
        refine lv_lload_n C0.1 C0.2.1 dX8_digest_227 rfl (lv_at hl 0 rfl) ?_
        refine lv_lmul C0.1 C0.2.1 dX8_digest_228 ?_
        refine lv_aload_n C0.1 C0.2.1 dX8_digest_229 rfl (lv_at hl 2 rfl) ?_
        refine lv_iload_n C0.1 C0.2.1 dX8_digest_230 rfl (lv_at hl 1 rfl) ?_
        refine sr_gVi (As := [.int 1]) C0 hK hP hZ (sr_Zs hZ hZ0 hS) (cc_X8_bestNow ha 1 hK_ (by omega)) sk_X8_bestNow sv_X8_bestNow sw_895 (ci := 8) rfl sr_wM0 rfl rfl hl.1 (Nat.le_of_ble_eq_true rfl) (Nat.le_of_ble_eq_true rfl) (Nat.le_of_ble_eq_true rfl) dX8_digest_231 ⟨Nat.zero_le _, Nat.zero_le _⟩ hS (fun sg32 H locs hRD_15 hP hS => ?_)
        refine sr_chi (show sn_best kp 1 = sp_best kp 1 from sr_cv_best (s := 1) (by omega)) ?_
        refine lv_i2l C0.1 C0.2.1 dX8_digest_234 rfl ?_
        refine lv_ladd C0.1 C0.2.1 dX8_digest_235 ?_
        refine sr_nml (fun h32 eh32 => ?_)
        refine lv_lstore_n (lv' := [(1, .long h32), (3, .int 1), (0, .ref (a 0))]) C0.1 C0.2.1 dX8_digest_236 rfl hl (by decide) rfl (fun ls hl => ?_)
        refine lv_ldc2 (v := 31) C0.1 C0.2.1 C0.2.2.2.1 (C0.2.2.2.2 _ sw_972) dX8_digest_237 ?_
        refine lv_lload_n C0.1 C0.2.1 dX8_digest_240 rfl (lv_at hl 0 rfl) ?_
        refine lv_lmul C0.1 C0.2.1 dX8_digest_241 ?_
        refine lv_aload_n C0.1 C0.2.1 dX8_digest_242 rfl (lv_at hl 2 rfl) ?_
        refine lv_iload_n C0.1 C0.2.1 dX8_digest_243 rfl (lv_at hl 1 rfl) ?_
        refine lv_iconst (v := 5) C0.1 C0.2.1 dX8_digest_244 (by decide) ?_
        refine sr_gVi (As := [.int 1, .int 5]) C0 hK hP hZ (sr_Zs hZ hZ0 hS) (cc_X8_blame ha (1) (5) hK_) sk_X8_blame sv_X8_blame sw_975 (ci := 8) rfl sr_wM0 rfl rfl hl.1 (Nat.le_of_ble_eq_true rfl) (Nat.le_of_ble_eq_true rfl) (Nat.le_of_ble_eq_true rfl) dX8_digest_245 ⟨Nat.zero_le _, Nat.zero_le _⟩ hS (fun sg33 H locs hu_18 hP hS => ?_)
        refine lv_i2l C0.1 C0.2.1 dX8_digest_248 rfl ?_
        refine lv_ladd C0.1 C0.2.1 dX8_digest_249 ?_
        refine sr_nml (fun h33 eh33 => ?_)
        refine lv_lstore_n (lv' := [(1, .long h33), (3, .int 1), (0, .ref (a 0))]) C0.1 C0.2.1 dX8_digest_250 rfl hl (by decide) rfl (fun ls hl => ?_)
        refine lv_iinc (v := 2) (lv' := [(3, .int 2), (1, .long h33), (0, .ref (a 0))]) C0.1 C0.2.1 dX8_digest_251 hl (k := 1) rfl (by decide) (by decide) rfl (fun ls hl => ?_)
        refine lv_goto (tgt := 165) C0.1 C0.2.1 dX8_digest_254 (by decide) ?_
        refine lv_iload_n C0.1 C0.2.1 dX8_digest_165 rfl (lv_at hl 0 rfl) ?_
        refine lv_iconst (v := 3) C0.1 C0.2.1 dX8_digest_166 (by decide) ?_
        refine lv_icmp_ge (tgt := 257) C0.1 C0.2.1 dX8_digest_167 (by decide) (fun q => absurd q (by decide)) (fun _ => ?_)
        refine lv_ldc2 (v := 31) C0.1 C0.2.1 C0.2.2.2.1 (C0.2.2.2.2 _ sw_972) dX8_digest_170 ?_
        refine lv_lload_n C0.1 C0.2.1 dX8_digest_173 rfl (lv_at hl 1 rfl) ?_
        refine lv_lmul C0.1 C0.2.1 dX8_digest_174 ?_
        refine lv_aload_n C0.1 C0.2.1 dX8_digest_175 rfl (lv_at hl 2 rfl) ?_
        refine lv_iload_n C0.1 C0.2.1 dX8_digest_176 rfl (lv_at hl 0 rfl) ?_
        refine sr_gVi (As := [.int 2]) C0 hK hP hZ (sr_Zs hZ hZ0 hS) (cc_X8_meetNow ha 2 hK_ (by omega)) sk_X8_meetNow sv_X8_meetNow sw_811 (ci := 8) rfl sr_wM0 rfl rfl hl.1 (Nat.le_of_ble_eq_true rfl) (Nat.le_of_ble_eq_true rfl) (Nat.le_of_ble_eq_true rfl) dX8_digest_177 ⟨Nat.zero_le _, Nat.zero_le _⟩ hS (fun sg34 H locs hRD_16 hP hS => ?_)
        refine sr_chi (show sn_meet kp 2 = sp_meet kp 2 from sr_cv_meet (s := 2) (by omega)) ?_
        refine lv_i2l C0.1 C0.2.1 dX8_digest_180 rfl ?_
        refine lv_ladd C0.1 C0.2.1 dX8_digest_181 ?_
        refine sr_nml (fun h34 eh34 => ?_)
        refine lv_lstore_n (lv' := [(1, .long h34), (3, .int 2), (0, .ref (a 0))]) C0.1 C0.2.1 dX8_digest_182 rfl hl (by decide) rfl (fun ls hl => ?_)
        refine lv_ldc2 (v := 31) C0.1 C0.2.1 C0.2.2.2.1 (C0.2.2.2.2 _ sw_972) dX8_digest_183 ?_
        refine lv_lload_n C0.1 C0.2.1 dX8_digest_186 rfl (lv_at hl 0 rfl) ?_
        refine lv_lmul C0.1 C0.2.1 dX8_digest_187 ?_
        refine lv_aload_n C0.1 C0.2.1 dX8_digest_188 rfl (lv_at hl 2 rfl) ?_
        refine lv_iload_n C0.1 C0.2.1 dX8_digest_189 rfl (lv_at hl 1 rfl) ?_
        refine sr_gVi (As := [.int 2]) C0 hK hP hZ (sr_Zs hZ hZ0 hS) (cc_X8_kindNow ha 2 hK_ (by omega)) sk_X8_kindNow sv_X8_kindNow sw_827 (ci := 8) rfl sr_wM0 rfl rfl hl.1 (Nat.le_of_ble_eq_true rfl) (Nat.le_of_ble_eq_true rfl) (Nat.le_of_ble_eq_true rfl) dX8_digest_190 ⟨Nat.zero_le _, Nat.zero_le _⟩ hS (fun sg35 H locs hRD_17 hP hS => ?_)
        refine sr_chi (show sn_kind kp 2 = sp_kind kp 2 from sr_cv_kind (s := 2) (by omega)) ?_
        refine lv_i2l C0.1 C0.2.1 dX8_digest_193 rfl ?_
        refine lv_ladd C0.1 C0.2.1 dX8_digest_194 ?_
        refine sr_nml (fun h35 eh35 => ?_)
        refine lv_lstore_n (lv' := [(1, .long h35), (3, .int 2), (0, .ref (a 0))]) C0.1 C0.2.1 dX8_digest_195 rfl hl (by decide) rfl (fun ls hl => ?_)
        refine lv_ldc2 (v := 31) C0.1 C0.2.1 C0.2.2.2.1 (C0.2.2.2.2 _ sw_972) dX8_digest_196 ?_
        refine lv_lload_n C0.1 C0.2.1 dX8_digest_199 rfl (lv_at hl 0 rfl) ?_
        refine lv_lmul C0.1 C0.2.1 dX8_digest_200 ?_
        refine lv_aload_n C0.1 C0.2.1 dX8_digest_201 rfl (lv_at hl 2 rfl) ?_
        refine lv_iload_n C0.1 C0.2.1 dX8_digest_202 rfl (lv_at hl 1 rfl) ?_
        refine sr_gVi (As := [.int 2]) C0 hK hP hZ (sr_Zs hZ hZ0 hS) (cc_X8_chanceNow ha 2 hK_ (by omega)) sk_X8_chanceNow sv_X8_chanceNow sw_855 (ci := 8) rfl sr_wM0 rfl rfl hl.1 (Nat.le_of_ble_eq_true rfl) (Nat.le_of_ble_eq_true rfl) (Nat.le_of_ble_eq_true rfl) dX8_digest_203 ⟨Nat.zero_le _, Nat.zero_le _⟩ hS (fun sg36 H locs hRD_18 hP hS => ?_)
        refine sr_chi (show sn_chance kp 2 = sp_chance kp 2 from sr_cv_chance (s := 2) (by omega)) ?_
        refine lv_i2l C0.1 C0.2.1 dX8_digest_206 rfl ?_
        refine lv_ladd C0.1 C0.2.1 dX8_digest_207 ?_
        refine sr_nml (fun h36 eh36 => ?_)
        refine lv_lstore_n (lv' := [(1, .long h36), (3, .int 2), (0, .ref (a 0))]) C0.1 C0.2.1 dX8_digest_208 rfl hl (by decide) rfl (fun ls hl => ?_)
        refine lv_ldc2 (v := 31) C0.1 C0.2.1 C0.2.2.2.1 (C0.2.2.2.2 _ sw_972) dX8_digest_209 ?_
        refine lv_lload_n C0.1 C0.2.1 dX8_digest_212 rfl (lv_at hl 0 rfl) ?_
        refine lv_lmul C0.1 C0.2.1 dX8_digest_213 ?_
        refine lv_aload_n C0.1 C0.2.1 dX8_digest_214 rfl (lv_at hl 2 rfl) ?_
        refine lv_iload_n C0.1 C0.2.1 dX8_digest_215 rfl (lv_at hl 1 rfl) ?_
        refine lv_bipush (v := 10) C0.1 C0.2.1 dX8_digest_216 (by decide) ?_
        refine sr_gVi (As := [.int 2, .int 10]) C0 hK hP hZ (sr_Zs hZ hZ0 hS) (cc_X8_safeNow ha 2 (10) hK_ (by omega)) sk_X8_safeNow sv_X8_safeNow sw_887 (ci := 8) rfl sr_wM0 rfl rfl hl.1 (Nat.le_of_ble_eq_true rfl) (Nat.le_of_ble_eq_true rfl) (Nat.le_of_ble_eq_true rfl) dX8_digest_218 ⟨Nat.zero_le _, Nat.zero_le _⟩ hS (fun sg37 H locs hRD_19 hP hS => ?_)
        refine sr_chi (show sn_safe kp 2 10 = sp_safe kp 2 10 from sr_cv_safe (s := 2) (by omega)) ?_
        refine lv_i2l C0.1 C0.2.1 dX8_digest_221 rfl ?_
        refine lv_ladd C0.1 C0.2.1 dX8_digest_222 ?_
        refine sr_nml (fun h37 eh37 => ?_)
        refine lv_lstore_n (lv' := [(1, .long h37), (3, .int 2), (0, .ref (a 0))]) C0.1 C0.2.1 dX8_digest_223 rfl hl (by decide) rfl (fun ls hl => ?_)
        refine lv_ldc2 (v := 31) C0.1 C0.2.1 C0.2.2.2.1 (C0.2.2.2.2 _ sw_972) dX8_digest_224 ?_
        refine lv_lload_n C0.1 C0.2.1 dX8_digest_227 rfl (lv_at hl 0 rfl) ?_
        refine lv_lmul C0.1 C0.2.1 dX8_digest_228 ?_
        refine lv_aload_n C0.1 C0.2.1 dX8_digest_229 rfl (lv_at hl 2 rfl) ?_
        refine lv_iload_n C0.1 C0.2.1 dX8_digest_230 rfl (lv_at hl 1 rfl) ?_
        refine sr_gVi (As := [.int 2]) C0 hK hP hZ (sr_Zs hZ hZ0 hS) (cc_X8_bestNow ha 2 hK_ (by omega)) sk_X8_bestNow sv_X8_bestNow sw_895 (ci := 8) rfl sr_wM0 rfl rfl hl.1 (Nat.le_of_ble_eq_true rfl) (Nat.le_of_ble_eq_true rfl) (Nat.le_of_ble_eq_true rfl) dX8_digest_231 ⟨Nat.zero_le _, Nat.zero_le _⟩ hS (fun sg38 H locs hRD_20 hP hS => ?_)
        refine sr_chi (show sn_best kp 2 = sp_best kp 2 from sr_cv_best (s := 2) (by omega)) ?_
        refine lv_i2l C0.1 C0.2.1 dX8_digest_234 rfl ?_
        refine lv_ladd C0.1 C0.2.1 dX8_digest_235 ?_
        refine sr_nml (fun h38 eh38 => ?_)
        refine lv_lstore_n (lv' := [(1, .long h38), (3, .int 2), (0, .ref (a 0))]) C0.1 C0.2.1 dX8_digest_236 rfl hl (by decide) rfl (fun ls hl => ?_)
        refine lv_ldc2 (v := 31) C0.1 C0.2.1 C0.2.2.2.1 (C0.2.2.2.2 _ sw_972) dX8_digest_237 ?_
        refine lv_lload_n C0.1 C0.2.1 dX8_digest_240 rfl (lv_at hl 0 rfl) ?_
        refine lv_lmul C0.1 C0.2.1 dX8_digest_241 ?_
        refine lv_aload_n C0.1 C0.2.1 dX8_digest_242 rfl (lv_at hl 2 rfl) ?_
        refine lv_iload_n C0.1 C0.2.1 dX8_digest_243 rfl (lv_at hl 1 rfl) ?_
        refine lv_iconst (v := 5) C0.1 C0.2.1 dX8_digest_244 (by decide) ?_
        refine sr_gVi (As := [.int 2, .int 5]) C0 hK hP hZ (sr_Zs hZ hZ0 hS) (cc_X8_blame ha (2) (5) hK_) sk_X8_blame sv_X8_blame sw_975 (ci := 8) rfl sr_wM0 rfl rfl hl.1 (Nat.le_of_ble_eq_true rfl) (Nat.le_of_ble_eq_true rfl) (Nat.le_of_ble_eq_true rfl) dX8_digest_245 ⟨Nat.zero_le _, Nat.zero_le _⟩ hS (fun sg39 H locs hu_19 hP hS => ?_)
        refine lv_i2l C0.1 C0.2.1 dX8_digest_248 rfl ?_
        refine lv_ladd C0.1 C0.2.1 dX8_digest_249 ?_
        refine sr_nml (fun h39 eh39 => ?_)
        refine lv_lstore_n (lv' := [(1, .long h39), (3, .int 2), (0, .ref (a 0))]) C0.1 C0.2.1 dX8_digest_250 rfl hl (by decide) rfl (fun ls hl => ?_)
        refine lv_iinc (v := 3) (lv' := [(3, .int 3), (1, .long h39), (0, .ref (a 0))]) C0.1 C0.2.1 dX8_digest_251 hl (k := 1) rfl (by decide) (by decide) rfl (fun ls hl => ?_)
        refine lv_goto (tgt := 165) C0.1 C0.2.1 dX8_digest_254 (by decide) ?_
        refine lv_iload_n C0.1 C0.2.1 dX8_digest_165 rfl (lv_at hl 0 rfl) ?_
        refine lv_iconst (v := 3) C0.1 C0.2.1 dX8_digest_166 (by decide) ?_
        refine lv_icmp_ge (tgt := 257) C0.1 C0.2.1 dX8_digest_167 (by decide) (fun _ => ?_) (fun q => absurd q (by decide))
        refine lv_ldc2 (v := 31) C0.1 C0.2.1 C0.2.2.2.1 (C0.2.2.2.2 _ sw_972) dX8_digest_257 ?_
        refine lv_lload_n C0.1 C0.2.1 dX8_digest_260 rfl (lv_at hl 1 rfl) ?_
        refine lv_lmul C0.1 C0.2.1 dX8_digest_261 ?_
        refine lv_aload_n C0.1 C0.2.1 dX8_digest_262 rfl (lv_at hl 2 rfl) ?_
        refine sr_gVi (As := []) C0 hK hP hZ (sr_Zs hZ hZ0 hS) (cc_X8_time ha hK_) sk_X8_time sv_X8_time sw_976 (ci := 8) rfl sr_wM0 rfl rfl hl.1 (Nat.le_of_ble_eq_true rfl) (Nat.le_of_ble_eq_true rfl) (Nat.le_of_ble_eq_true rfl) dX8_digest_263 ⟨Nat.zero_le _, Nat.zero_le _⟩ hS (fun sg40 H locs hu_20 hP hS => ?_)
        refine lv_i2l C0.1 C0.2.1 dX8_digest_266 rfl ?_
        refine lv_ladd C0.1 C0.2.1 dX8_digest_267 ?_
        refine sr_nml (fun h40 eh40 => ?_)
        refine lv_lstore_n (lv' := [(1, .long h40), (3, .int 3), (0, .ref (a 0))]) C0.1 C0.2.1 dX8_digest_268 rfl hl (by decide) rfl (fun ls hl => ?_)
        refine lv_iconst (v := 0) C0.1 C0.2.1 dX8_digest_269 (by decide) ?_
        refine lv_istore_n (lv' := [(3, .int 0), (1, .long h40), (0, .ref (a 0))]) C0.1 C0.2.1 dX8_digest_270 rfl hl (by decide) rfl (fun ls hl => ?_)
        refine lv_iload_n C0.1 C0.2.1 dX8_digest_271 rfl (lv_at hl 0 rfl) ?_
        refine lv_iconst (v := 2) C0.1 C0.2.1 dX8_digest_272 (by decide) ?_
        refine lv_icmp_ge (tgt := 294) C0.1 C0.2.1 dX8_digest_273 (by decide) (fun q => absurd q (by decide)) (fun _ => ?_)
        refine lv_ldc2 (v := 31) C0.1 C0.2.1 C0.2.2.2.1 (C0.2.2.2.2 _ sw_972) dX8_digest_276 ?_
        refine lv_lload_n C0.1 C0.2.1 dX8_digest_279 rfl (lv_at hl 1 rfl) ?_
        refine lv_lmul C0.1 C0.2.1 dX8_digest_280 ?_
        refine lv_aload_n C0.1 C0.2.1 dX8_digest_281 rfl (lv_at hl 2 rfl) ?_
        refine lv_iload_n C0.1 C0.2.1 dX8_digest_282 rfl (lv_at hl 0 rfl) ?_
        refine sr_gVl (As := [.int 0]) C0 hK hP hZ (sr_Zs hZ hZ0 hS) (cc_X8_allNow ha (0) hK_) sk_X8_allNow sv_X8_allNow sw_870 (ci := 8) rfl sr_wM0 rfl rfl hl.1 (Nat.le_of_ble_eq_true rfl) (Nat.le_of_ble_eq_true rfl) (Nat.le_of_ble_eq_true rfl) dX8_digest_283 ⟨Nat.zero_le _, Nat.zero_le _⟩ hS (fun sg41 H locs hRD_21 hP hS => ?_)
        have hRD := hRD_21
        refine sr_chl (show sn_all kp 0 = sp_all kp 0 from (sr_cv_all0 kp)) ?_
        refine lv_ladd C0.1 C0.2.1 dX8_digest_286 ?_
        refine sr_nml (fun h41 eh41 => ?_)
        refine lv_lstore_n (lv' := [(1, .long h41), (3, .int 0), (0, .ref (a 0))]) C0.1 C0.2.1 dX8_digest_287 rfl hl (by decide) rfl (fun ls hl => ?_)
        refine lv_iinc (v := 1) (lv' := [(3, .int 1), (1, .long h41), (0, .ref (a 0))]) C0.1 C0.2.1 dX8_digest_288 hl (k := 1) rfl (by decide) (by decide) rfl (fun ls hl => ?_)
        refine lv_goto (tgt := 271) C0.1 C0.2.1 dX8_digest_291 (by decide) ?_
        refine lv_iload_n C0.1 C0.2.1 dX8_digest_271 rfl (lv_at hl 0 rfl) ?_
        refine lv_iconst (v := 2) C0.1 C0.2.1 dX8_digest_272 (by decide) ?_
        refine lv_icmp_ge (tgt := 294) C0.1 C0.2.1 dX8_digest_273 (by decide) (fun q => absurd q (by decide)) (fun _ => ?_)
        refine lv_ldc2 (v := 31) C0.1 C0.2.1 C0.2.2.2.1 (C0.2.2.2.2 _ sw_972) dX8_digest_276 ?_
        refine lv_lload_n C0.1 C0.2.1 dX8_digest_279 rfl (lv_at hl 1 rfl) ?_
        refine lv_lmul C0.1 C0.2.1 dX8_digest_280 ?_
        refine lv_aload_n C0.1 C0.2.1 dX8_digest_281 rfl (lv_at hl 2 rfl) ?_
        refine lv_iload_n C0.1 C0.2.1 dX8_digest_282 rfl (lv_at hl 0 rfl) ?_
        refine sr_gVl (As := [.int 1]) C0 hK hP hZ (sr_Zs hZ hZ0 hS) (cc_X8_allNow ha (1) hK_) sk_X8_allNow sv_X8_allNow sw_870 (ci := 8) rfl sr_wM0 rfl rfl hl.1 (Nat.le_of_ble_eq_true rfl) (Nat.le_of_ble_eq_true rfl) (Nat.le_of_ble_eq_true rfl) dX8_digest_283 ⟨Nat.zero_le _, Nat.zero_le _⟩ hS (fun sg42 H locs hRD_22 hP hS => ?_)
        have hRD := hRD_22
        refine sr_chl (show sn_all kp 1 = sp_all kp 1 from (sr_cv_all1 kp)) ?_
        refine lv_ladd C0.1 C0.2.1 dX8_digest_286 ?_
        refine sr_nml (fun h42 eh42 => ?_)
        refine lv_lstore_n (lv' := [(1, .long h42), (3, .int 1), (0, .ref (a 0))]) C0.1 C0.2.1 dX8_digest_287 rfl hl (by decide) rfl (fun ls hl => ?_)
        refine lv_iinc (v := 2) (lv' := [(3, .int 2), (1, .long h42), (0, .ref (a 0))]) C0.1 C0.2.1 dX8_digest_288 hl (k := 1) rfl (by decide) (by decide) rfl (fun ls hl => ?_)
        refine lv_goto (tgt := 271) C0.1 C0.2.1 dX8_digest_291 (by decide) ?_
        refine lv_iload_n C0.1 C0.2.1 dX8_digest_271 rfl (lv_at hl 0 rfl) ?_
        refine lv_iconst (v := 2) C0.1 C0.2.1 dX8_digest_272 (by decide) ?_
        refine lv_icmp_ge (tgt := 294) C0.1 C0.2.1 dX8_digest_273 (by decide) (fun _ => ?_) (fun q => absurd q (by decide))
        refine lv_aload_n C0.1 C0.2.1 dX8_digest_294 rfl (lv_at hl 2 rfl) ?_
        refine lv_iconst (v := (-1)) C0.1 C0.2.1 dX8_digest_295 (by decide) ?_
        refine lv_iconst (v := 0) C0.1 C0.2.1 dX8_digest_296 (by decide) ?_
        refine sr_gVi (As := [.int (-1), .int 0]) C0 hK hP hZ (sr_Zs hZ hZ0 hS) (cc_X8_orderOf ha ((-1)) 0 hK_ hRD (Or.inl rfl) (by omega)) sk_X8_orderOf sv_X8_orderOf sw_913 (ci := 8) rfl sr_wM0 rfl rfl hl.1 (Nat.le_of_ble_eq_true rfl) (Nat.le_of_ble_eq_true rfl) (Nat.le_of_ble_eq_true rfl) dX8_digest_297 ⟨Nat.zero_le _, Nat.zero_le _⟩ hS (fun sg43 H locs hod hP hS => ?_)
        have hRD := hod.1
        refine lv_pop C0.1 C0.2.1 dX8_digest_300 rfl ?_
        refine lv_iconst (v := 0) C0.1 C0.2.1 dX8_digest_301 (by decide) ?_
        refine lv_istore_n (lv' := [(3, .int 0), (1, .long h42), (0, .ref (a 0))]) C0.1 C0.2.1 dX8_digest_302 rfl hl (by decide) rfl (fun ls hl => ?_)
        refine lv_iload_n C0.1 C0.2.1 dX8_digest_303 rfl (lv_at hl 0 rfl) ?_
        refine lv_bipush (v := 8) C0.1 C0.2.1 dX8_digest_304 (by decide) ?_
        refine lv_icmp_ge (tgt := 329) C0.1 C0.2.1 dX8_digest_306 (by decide) (fun q => absurd q (by decide)) (fun _ => ?_)
        refine lv_ldc2 (v := 31) C0.1 C0.2.1 C0.2.2.2.1 (C0.2.2.2.2 _ sw_972) dX8_digest_309 ?_
        refine lv_lload_n C0.1 C0.2.1 dX8_digest_312 rfl (lv_at hl 1 rfl) ?_
        refine lv_lmul C0.1 C0.2.1 dX8_digest_313 ?_
        refine lv_aload_n C0.1 C0.2.1 dX8_digest_314 rfl (lv_at hl 2 rfl) ?_
        refine sr_get (v := .ref (a 11)) C0 hK hP sr_inX8 sr_wM0 rfl 14 (by decide) sw_624 rfl dX8_digest_315 ?_
        refine lv_iload_n C0.1 C0.2.1 dX8_digest_318 rfl (lv_at hl 0 rfl) ?_
        refine sr_ald (k := 0) C0 hK rfl hP sr_wM11 (by decide) (sr_inc (by decide)) dX8_digest_319 ?_
        refine sr_chi (show sg43 3 0 = sr_od kp (-1) 0 from hod.2 0 (by omega)) ?_
        refine lv_i2l C0.1 C0.2.1 dX8_digest_320 rfl ?_
        refine lv_ladd C0.1 C0.2.1 dX8_digest_321 ?_
        refine sr_nml (fun h43 eh43 => ?_)
        refine lv_lstore_n (lv' := [(1, .long h43), (3, .int 0), (0, .ref (a 0))]) C0.1 C0.2.1 dX8_digest_322 rfl hl (by decide) rfl (fun ls hl => ?_)
        refine lv_iinc (v := 1) (lv' := [(3, .int 1), (1, .long h43), (0, .ref (a 0))]) C0.1 C0.2.1 dX8_digest_323 hl (k := 1) rfl (by decide) (by decide) rfl (fun ls hl => ?_)
        refine lv_goto (tgt := 303) C0.1 C0.2.1 dX8_digest_326 (by decide) ?_
        refine lv_iload_n C0.1 C0.2.1 dX8_digest_303 rfl (lv_at hl 0 rfl) ?_
        refine lv_bipush (v := 8) C0.1 C0.2.1 dX8_digest_304 (by decide) ?_
        refine lv_icmp_ge (tgt := 329) C0.1 C0.2.1 dX8_digest_306 (by decide) (fun q => absurd q (by decide)) (fun _ => ?_)
        refine lv_ldc2 (v := 31) C0.1 C0.2.1 C0.2.2.2.1 (C0.2.2.2.2 _ sw_972) dX8_digest_309 ?_
        refine lv_lload_n C0.1 C0.2.1 dX8_digest_312 rfl (lv_at hl 1 rfl) ?_
        refine lv_lmul C0.1 C0.2.1 dX8_digest_313 ?_
        refine lv_aload_n C0.1 C0.2.1 dX8_digest_314 rfl (lv_at hl 2 rfl) ?_
        refine sr_get (v := .ref (a 11)) C0 hK hP sr_inX8 sr_wM0 rfl 14 (by decide) sw_624 rfl dX8_digest_315 ?_
        refine lv_iload_n C0.1 C0.2.1 dX8_digest_318 rfl (lv_at hl 0 rfl) ?_
        refine sr_ald (k := 1) C0 hK rfl hP sr_wM11 (by decide) (sr_inc (by decide)) dX8_digest_319 ?_
        refine sr_chi (show sg43 3 1 = sr_od kp (-1) 1 from hod.2 1 (by omega)) ?_
        refine lv_i2l C0.1 C0.2.1 dX8_digest_320 rfl ?_
        refine lv_ladd C0.1 C0.2.1 dX8_digest_321 ?_
        refine sr_nml (fun h44 eh44 => ?_)
        refine lv_lstore_n (lv' := [(1, .long h44), (3, .int 1), (0, .ref (a 0))]) C0.1 C0.2.1 dX8_digest_322 rfl hl (by decide) rfl (fun ls hl => ?_)
        refine lv_iinc (v := 2) (lv' := [(3, .int 2), (1, .long h44), (0, .ref (a 0))]) C0.1 C0.2.1 dX8_digest_323 hl (k := 1) rfl (by decide) (by decide) rfl (fun ls hl => ?_)
        refine lv_goto (tgt := 303) C0.1 C0.2.1 dX8_digest_326 (by decide) ?_
        refine lv_iload_n C0.1 C0.2.1 dX8_digest_303 rfl (lv_at hl 0 rfl) ?_
        refine lv_bipush (v := 8) C0.1 C0.2.1 dX8_digest_304 (by decide) ?_
        refine lv_icmp_ge (tgt := 329) C0.1 C0.2.1 dX8_digest_306 (by decide) (fun q => absurd q (by decide)) (fun _ => ?_)
        refine lv_ldc2 (v := 31) C0.1 C0.2.1 C0.2.2.2.1 (C0.2.2.2.2 _ sw_972) dX8_digest_309 ?_
        refine lv_lload_n C0.1 C0.2.1 dX8_digest_312 rfl (lv_at hl 1 rfl) ?_
        refine lv_lmul C0.1 C0.2.1 dX8_digest_313 ?_
        refine lv_aload_n C0.1 C0.2.1 dX8_digest_314 rfl (lv_at hl 2 rfl) ?_
        refine sr_get (v := .ref (a 11)) C0 hK hP sr_inX8 sr_wM0 rfl 14 (by decide) sw_624 rfl dX8_digest_315 ?_
        refine lv_iload_n C0.1 C0.2.1 dX8_digest_318 rfl (lv_at hl 0 rfl) ?_
        refine sr_ald (k := 2) C0 hK rfl hP sr_wM11 (by decide) (sr_inc (by decide)) dX8_digest_319 ?_
        refine sr_chi (show sg43 3 2 = sr_od kp (-1) 2 from hod.2 2 (by omega)) ?_
        refine lv_i2l C0.1 C0.2.1 dX8_digest_320 rfl ?_
        refine lv_ladd C0.1 C0.2.1 dX8_digest_321 ?_
        refine sr_nml (fun h45 eh45 => ?_)
        refine lv_lstore_n (lv' := [(1, .long h45), (3, .int 2), (0, .ref (a 0))]) C0.1 C0.2.1 dX8_digest_322 rfl hl (by decide) rfl (fun ls hl => ?_)
        refine lv_iinc (v := 3) (lv' := [(3, .int 3), (1, .long h45), (0, .ref (a 0))]) C0.1 C0.2.1 dX8_digest_323 hl (k := 1) rfl (by decide) (by decide) rfl (fun ls hl => ?_)
        refine lv_goto (tgt := 303) C0.1 C0.2.1 dX8_digest_326 (by decide) ?_
        refine lv_iload_n C0.1 C0.2.1 dX8_digest_303 rfl (lv_at hl 0 rfl) ?_
        refine lv_bipush (v := 8) C0.1 C0.2.1 dX8_digest_304 (by decide) ?_
        refine lv_icmp_ge (tgt := 329) C0.1 C0.2.1 dX8_digest_306 (by decide) (fun q => absurd q (by decide)) (fun _ => ?_)
        refine lv_ldc2 (v := 31) C0.1 C0.2.1 C0.2.2.2.1 (C0.2.2.2.2 _ sw_972) dX8_digest_309 ?_
        refine lv_lload_n C0.1 C0.2.1 dX8_digest_312 rfl (lv_at hl 1 rfl) ?_
        refine lv_lmul C0.1 C0.2.1 dX8_digest_313 ?_
        refine lv_aload_n C0.1 C0.2.1 dX8_digest_314 rfl (lv_at hl 2 rfl) ?_
        refine sr_get (v := .ref (a 11)) C0 hK hP sr_inX8 sr_wM0 rfl 14 (by decide) sw_624 rfl dX8_digest_315 ?_
        refine lv_iload_n C0.1 C0.2.1 dX8_digest_318 rfl (lv_at hl 0 rfl) ?_
        refine sr_ald (k := 3) C0 hK rfl hP sr_wM11 (by decide) (sr_inc (by decide)) dX8_digest_319 ?_
        refine sr_chi (show sg43 3 3 = sr_od kp (-1) 3 from hod.2 3 (by omega)) ?_
        refine lv_i2l C0.1 C0.2.1 dX8_digest_320 rfl ?_
        refine lv_ladd C0.1 C0.2.1 dX8_digest_321 ?_
        refine sr_nml (fun h46 eh46 => ?_)
        refine lv_lstore_n (lv' := [(1, .long h46), (3, .int 3), (0, .ref (a 0))]) C0.1 C0.2.1 dX8_digest_322 rfl hl (by decide) rfl (fun ls hl => ?_)
        refine lv_iinc (v := 4) (lv' := [(3, .int 4), (1, .long h46), (0, .ref (a 0))]) C0.1 C0.2.1 dX8_digest_323 hl (k := 1) rfl (by decide) (by decide) rfl (fun ls hl => ?_)
        refine lv_goto (tgt := 303) C0.1 C0.2.1 dX8_digest_326 (by decide) ?_
        refine lv_iload_n C0.1 C0.2.1 dX8_digest_303 rfl (lv_at hl 0 rfl) ?_
        refine lv_bipush (v := 8) C0.1 C0.2.1 dX8_digest_304 (by decide) ?_
        refine lv_icmp_ge (tgt := 329) C0.1 C0.2.1 dX8_digest_306 (by decide) (fun q => absurd q (by decide)) (fun _ => ?_)
        refine lv_ldc2 (v := 31) C0.1 C0.2.1 C0.2.2.2.1 (C0.2.2.2.2 _ sw_972) dX8_digest_309 ?_
        refine lv_lload_n C0.1 C0.2.1 dX8_digest_312 rfl (lv_at hl 1 rfl) ?_
        refine lv_lmul C0.1 C0.2.1 dX8_digest_313 ?_
        refine lv_aload_n C0.1 C0.2.1 dX8_digest_314 rfl (lv_at hl 2 rfl) ?_
        refine sr_get (v := .ref (a 11)) C0 hK hP sr_inX8 sr_wM0 rfl 14 (by decide) sw_624 rfl dX8_digest_315 ?_
        refine lv_iload_n C0.1 C0.2.1 dX8_digest_318 rfl (lv_at hl 0 rfl) ?_
        refine sr_ald (k := 4) C0 hK rfl hP sr_wM11 (by decide) (sr_inc (by decide)) dX8_digest_319 ?_
        refine sr_chi (show sg43 3 4 = sr_od kp (-1) 4 from hod.2 4 (by omega)) ?_
        refine lv_i2l C0.1 C0.2.1 dX8_digest_320 rfl ?_
        refine lv_ladd C0.1 C0.2.1 dX8_digest_321 ?_
        refine sr_nml (fun h47 eh47 => ?_)
        refine lv_lstore_n (lv' := [(1, .long h47), (3, .int 4), (0, .ref (a 0))]) C0.1 C0.2.1 dX8_digest_322 rfl hl (by decide) rfl (fun ls hl => ?_)
        refine lv_iinc (v := 5) (lv' := [(3, .int 5), (1, .long h47), (0, .ref (a 0))]) C0.1 C0.2.1 dX8_digest_323 hl (k := 1) rfl (by decide) (by decide) rfl (fun ls hl => ?_)
        refine lv_goto (tgt := 303) C0.1 C0.2.1 dX8_digest_326 (by decide) ?_
        refine lv_iload_n C0.1 C0.2.1 dX8_digest_303 rfl (lv_at hl 0 rfl) ?_
        refine lv_bipush (v := 8) C0.1 C0.2.1 dX8_digest_304 (by decide) ?_
        refine lv_icmp_ge (tgt := 329) C0.1 C0.2.1 dX8_digest_306 (by decide) (fun q => absurd q (by decide)) (fun _ => ?_)
        refine lv_ldc2 (v := 31) C0.1 C0.2.1 C0.2.2.2.1 (C0.2.2.2.2 _ sw_972) dX8_digest_309 ?_
        refine lv_lload_n C0.1 C0.2.1 dX8_digest_312 rfl (lv_at hl 1 rfl) ?_
        refine lv_lmul C0.1 C0.2.1 dX8_digest_313 ?_
        refine lv_aload_n C0.1 C0.2.1 dX8_digest_314 rfl (lv_at hl 2 rfl) ?_
        refine sr_get (v := .ref (a 11)) C0 hK hP sr_inX8 sr_wM0 rfl 14 (by decide) sw_624 rfl dX8_digest_315 ?_
        refine lv_iload_n C0.1 C0.2.1 dX8_digest_318 rfl (lv_at hl 0 rfl) ?_
        refine sr_ald (k := 5) C0 hK rfl hP sr_wM11 (by decide) (sr_inc (by decide)) dX8_digest_319 ?_
        refine sr_chi (show sg43 3 5 = sr_od kp (-1) 5 from hod.2 5 (by omega)) ?_
        refine lv_i2l C0.1 C0.2.1 dX8_digest_320 rfl ?_
        refine lv_ladd C0.1 C0.2.1 dX8_digest_321 ?_
        refine sr_nml (fun h48 eh48 => ?_)
        refine lv_lstore_n (lv' := [(1, .long h48), (3, .int 5), (0, .ref (a 0))]) C0.1 C0.2.1 dX8_digest_322 rfl hl (by decide) rfl (fun ls hl => ?_)
        refine lv_iinc (v := 6) (lv' := [(3, .int 6), (1, .long h48), (0, .ref (a 0))]) C0.1 C0.2.1 dX8_digest_323 hl (k := 1) rfl (by decide) (by decide) rfl (fun ls hl => ?_)
        refine lv_goto (tgt := 303) C0.1 C0.2.1 dX8_digest_326 (by decide) ?_
        refine lv_iload_n C0.1 C0.2.1 dX8_digest_303 rfl (lv_at hl 0 rfl) ?_
        refine lv_bipush (v := 8) C0.1 C0.2.1 dX8_digest_304 (by decide) ?_
        refine lv_icmp_ge (tgt := 329) C0.1 C0.2.1 dX8_digest_306 (by decide) (fun q => absurd q (by decide)) (fun _ => ?_)
        refine lv_ldc2 (v := 31) C0.1 C0.2.1 C0.2.2.2.1 (C0.2.2.2.2 _ sw_972) dX8_digest_309 ?_
        refine lv_lload_n C0.1 C0.2.1 dX8_digest_312 rfl (lv_at hl 1 rfl) ?_
        refine lv_lmul C0.1 C0.2.1 dX8_digest_313 ?_
        refine lv_aload_n C0.1 C0.2.1 dX8_digest_314 rfl (lv_at hl 2 rfl) ?_
        refine sr_get (v := .ref (a 11)) C0 hK hP sr_inX8 sr_wM0 rfl 14 (by decide) sw_624 rfl dX8_digest_315 ?_
        refine lv_iload_n C0.1 C0.2.1 dX8_digest_318 rfl (lv_at hl 0 rfl) ?_
        refine sr_ald (k := 6) C0 hK rfl hP sr_wM11 (by decide) (sr_inc (by decide)) dX8_digest_319 ?_
        refine sr_chi (show sg43 3 6 = sr_od kp (-1) 6 from hod.2 6 (by omega)) ?_
        refine lv_i2l C0.1 C0.2.1 dX8_digest_320 rfl ?_
        refine lv_ladd C0.1 C0.2.1 dX8_digest_321 ?_
        refine sr_nml (fun h49 eh49 => ?_)
        refine lv_lstore_n (lv' := [(1, .long h49), (3, .int 6), (0, .ref (a 0))]) C0.1 C0.2.1 dX8_digest_322 rfl hl (by decide) rfl (fun ls hl => ?_)
        refine lv_iinc (v := 7) (lv' := [(3, .int 7), (1, .long h49), (0, .ref (a 0))]) C0.1 C0.2.1 dX8_digest_323 hl (k := 1) rfl (by decide) (by decide) rfl (fun ls hl => ?_)
        refine lv_goto (tgt := 303) C0.1 C0.2.1 dX8_digest_326 (by decide) ?_
        refine lv_iload_n C0.1 C0.2.1 dX8_digest_303 rfl (lv_at hl 0 rfl) ?_
        refine lv_bipush (v := 8) C0.1 C0.2.1 dX8_digest_304 (by decide) ?_
        refine lv_icmp_ge (tgt := 329) C0.1 C0.2.1 dX8_digest_306 (by decide) (fun q => absurd q (by decide)) (fun _ => ?_)
        refine lv_ldc2 (v := 31) C0.1 C0.2.1 C0.2.2.2.1 (C0.2.2.2.2 _ sw_972) dX8_digest_309 ?_
        refine lv_lload_n C0.1 C0.2.1 dX8_digest_312 rfl (lv_at hl 1 rfl) ?_
        refine lv_lmul C0.1 C0.2.1 dX8_digest_313 ?_
        refine lv_aload_n C0.1 C0.2.1 dX8_digest_314 rfl (lv_at hl 2 rfl) ?_
        refine sr_get (v := .ref (a 11)) C0 hK hP sr_inX8 sr_wM0 rfl 14 (by decide) sw_624 rfl dX8_digest_315 ?_
        refine lv_iload_n C0.1 C0.2.1 dX8_digest_318 rfl (lv_at hl 0 rfl) ?_
        refine sr_ald (k := 7) C0 hK rfl hP sr_wM11 (by decide) (sr_inc (by decide)) dX8_digest_319 ?_
        refine sr_chi (show sg43 3 7 = sr_od kp (-1) 7 from hod.2 7 (by omega)) ?_
        refine lv_i2l C0.1 C0.2.1 dX8_digest_320 rfl ?_
        refine lv_ladd C0.1 C0.2.1 dX8_digest_321 ?_
        refine sr_nml (fun h50 eh50 => ?_)
        refine lv_lstore_n (lv' := [(1, .long h50), (3, .int 7), (0, .ref (a 0))]) C0.1 C0.2.1 dX8_digest_322 rfl hl (by decide) rfl (fun ls hl => ?_)
        refine lv_iinc (v := 8) (lv' := [(3, .int 8), (1, .long h50), (0, .ref (a 0))]) C0.1 C0.2.1 dX8_digest_323 hl (k := 1) rfl (by decide) (by decide) rfl (fun ls hl => ?_)
        refine lv_goto (tgt := 303) C0.1 C0.2.1 dX8_digest_326 (by decide) ?_
        refine lv_iload_n C0.1 C0.2.1 dX8_digest_303 rfl (lv_at hl 0 rfl) ?_
        refine lv_bipush (v := 8) C0.1 C0.2.1 dX8_digest_304 (by decide) ?_
        refine lv_icmp_ge (tgt := 329) C0.1 C0.2.1 dX8_digest_306 (by decide) (fun _ => ?_) (fun q => absurd q (by decide))
        refine lv_ldc2 (v := 31) C0.1 C0.2.1 C0.2.2.2.1 (C0.2.2.2.2 _ sw_972) dX8_digest_329 ?_
        refine lv_lload_n C0.1 C0.2.1 dX8_digest_332 rfl (lv_at hl 1 rfl) ?_
        refine lv_lmul C0.1 C0.2.1 dX8_digest_333 ?_
        refine lv_aload_n C0.1 C0.2.1 dX8_digest_334 rfl (lv_at hl 2 rfl) ?_
        refine lv_iconst (v := 1) C0.1 C0.2.1 dX8_digest_335 (by decide) ?_
        refine lv_iconst (v := 0) C0.1 C0.2.1 dX8_digest_336 (by decide) ?_
        refine sr_gVi (As := [.int 1, .int 0]) C0 hK hP hZ (sr_Zs hZ hZ0 hS) (cc_X8_orderOf ha (1) 0 hK_ hRD (Or.inr ⟨1, by omega, rfl⟩) (by omega)) sk_X8_orderOf sv_X8_orderOf sw_913 (ci := 8) rfl sr_wM0 rfl rfl hl.1 (Nat.le_of_ble_eq_true rfl) (Nat.le_of_ble_eq_true rfl) (Nat.le_of_ble_eq_true rfl) dX8_digest_337 ⟨Nat.zero_le _, Nat.zero_le _⟩ hS (fun sg44 H locs hod_2 hP hS => ?_)
        have hRD := hod_2.1
        refine lv_i2l C0.1 C0.2.1 dX8_digest_340 rfl ?_
        refine lv_ladd C0.1 C0.2.1 dX8_digest_341 ?_
        refine sr_nml (fun h51 eh51 => ?_)
        refine lv_lstore_n (lv' := [(1, .long h51), (3, .int 8), (0, .ref (a 0))]) C0.1 C0.2.1 dX8_digest_342 rfl hl (by decide) rfl (fun ls hl => ?_)
        refine lv_ldc2 (v := 31) C0.1 C0.2.1 C0.2.2.2.1 (C0.2.2.2.2 _ sw_972) dX8_digest_343 ?_
        refine lv_lload_n C0.1 C0.2.1 dX8_digest_346 rfl (lv_at hl 0 rfl) ?_
        refine lv_lmul C0.1 C0.2.1 dX8_digest_347 ?_
        refine lv_aload_n C0.1 C0.2.1 dX8_digest_348 rfl (lv_at hl 2 rfl) ?_
        refine lv_bipush (v := 7) C0.1 C0.2.1 dX8_digest_349 (by decide) ?_
        refine sr_gVi (As := [.int 7]) C0 hK hP hZ (sr_Zs hZ hZ0 hS) (cc_X8_lot ha (7) hK_) sk_X8_lot sv_X8_lot sw_977 (ci := 8) rfl sr_wM0 rfl rfl hl.1 (Nat.le_of_ble_eq_true rfl) (Nat.le_of_ble_eq_true rfl) (Nat.le_of_ble_eq_true rfl) dX8_digest_351 ⟨Nat.zero_le _, Nat.zero_le _⟩ hS (fun sg45 H locs hu_21 hP hS => ?_)
        refine lv_i2l C0.1 C0.2.1 dX8_digest_354 rfl ?_
        refine lv_ladd C0.1 C0.2.1 dX8_digest_355 ?_
        refine sr_nml (fun h52 eh52 => ?_)
        refine lv_lstore_n (lv' := [(1, .long h52), (3, .int 8), (0, .ref (a 0))]) C0.1 C0.2.1 dX8_digest_356 rfl hl (by decide) rfl (fun ls hl => ?_)
        refine lv_ldc2 (v := 31) C0.1 C0.2.1 C0.2.2.2.1 (C0.2.2.2.2 _ sw_972) dX8_digest_357 ?_
        refine lv_lload_n C0.1 C0.2.1 dX8_digest_360 rfl (lv_at hl 0 rfl) ?_
        refine lv_lmul C0.1 C0.2.1 dX8_digest_361 ?_
        refine lv_aload_n C0.1 C0.2.1 dX8_digest_362 rfl (lv_at hl 2 rfl) ?_
        refine lv_bipush (v := 7) C0.1 C0.2.1 dX8_digest_363 (by decide) ?_
        refine lv_bipush (v := 10) C0.1 C0.2.1 dX8_digest_365 (by decide) ?_
        refine lv_sipush (v := 5000) C0.1 C0.2.1 dX8_digest_367 (by decide) ?_
        refine sr_gVi (As := [.int 7, .int 10, .int 5000]) C0 hK hP hZ (sr_Zs hZ hZ0 hS) (cc_X8_races ha (7) (10) (5000) hK_) sk_X8_races sv_X8_races sw_978 (ci := 8) rfl sr_wM0 rfl rfl hl.1 (Nat.le_of_ble_eq_true rfl) (Nat.le_of_ble_eq_true rfl) (Nat.le_of_ble_eq_true rfl) dX8_digest_370 ⟨Nat.zero_le _, Nat.zero_le _⟩ hS (fun sg46 H locs hu_22 hP hS => ?_)
        refine lv_i2l C0.1 C0.2.1 dX8_digest_373 rfl ?_
        refine lv_ladd C0.1 C0.2.1 dX8_digest_374 ?_
        exact hret _ _ _ sg46 _ _ _ dX8_digest_375 hP hS rfl (by rw [eh52, eh51, eh50, eh49, eh48, eh47, eh46, eh45, eh44, eh43, eh42, eh41, eh40, eh39, eh38, eh37, eh36, eh35, eh34, eh33, eh32, eh31, eh30, eh29, eh28, eh27, eh26, eh25, eh24, eh23, eh22, eh21, eh20, eh19, eh18, eh17, eh16, eh15, eh14, eh13, eh12, eh11, eh10, eh9, eh8, eh7, eh6, eh5, eh4, eh3, eh2, eh1]; rfl) trivial
      · have g50 : ¬ ((sr_cnt kp) ≤ i) := fun q => c50 ((nI_leI (a := (sr_cnt kp)) (b := i) (by omega) (by omega)).mpr q)
        refine lv_iconst (v := 0) C0.1 C0.2.1 dX8_digest_53 (by decide) ?_
        refine lv_istore (lv' := [(4, .int 0), (3, .int (nI i)), (1, .long (sr_dr kp h9 i)), (0, .ref (a 0))]) C0.1 C0.2.1 dX8_digest_54 hl (by decide) rfl (fun ls hl => ?_)
        refine lv_iload C0.1 C0.2.1 dX8_digest_56 (lv_at hl 0 rfl) ?_
        refine lv_iconst (v := 4) C0.1 C0.2.1 dX8_digest_58 (by decide) ?_
        refine lv_icmp_ge (tgt := 87) C0.1 C0.2.1 dX8_digest_59 (by decide) (fun q => absurd q (by decide)) (fun _ => ?_)
        refine lv_ldc2 (v := 31) C0.1 C0.2.1 C0.2.2.2.1 (C0.2.2.2.2 _ sw_972) dX8_digest_62 ?_
        refine lv_lload_n C0.1 C0.2.1 dX8_digest_65 rfl (lv_at hl 2 rfl) ?_
        refine lv_lmul C0.1 C0.2.1 dX8_digest_66 ?_
        refine lv_aload_n C0.1 C0.2.1 dX8_digest_67 rfl (lv_at hl 3 rfl) ?_
        refine sr_get (v := .ref (a 6)) C0 hK hP sr_inX8 sr_wM0 rfl 9 (by decide) sw_619 rfl dX8_digest_68 ?_
        refine lv_iconst (v := 4) C0.1 C0.2.1 dX8_digest_71 (by decide) ?_
        refine lv_iload_n C0.1 C0.2.1 dX8_digest_72 rfl (lv_at hl 1 rfl) ?_
        refine lv_imul C0.1 C0.2.1 dX8_digest_73 ?_
        refine sr_chi (pk_mul 4 i) ?_
        refine lv_iload C0.1 C0.2.1 dX8_digest_74 (lv_at hl 0 rfl) ?_
        refine lv_iadd C0.1 C0.2.1 dX8_digest_76 ?_
        refine sr_chi (nI_add (4 * i) 0) ?_
        refine sr_ald (k := (4 * i) + 0) C0 hK rfl hP sr_wM6 (nI_clamp (by omega)) (vp_in_nI (by omega) (by omega)) dX8_digest_77 ?_
        refine sr_chi (hRD.2 i (by first | assumption | omega | exact sr_th_at hT (by omega)) 0 (by omega)) ?_
        refine lv_i2l C0.1 C0.2.1 dX8_digest_78 rfl ?_
        refine lv_ladd C0.1 C0.2.1 dX8_digest_79 ?_
        refine lv_lstore_n (lv' := [(1, .long ((31 * (sr_dr kp h9 i)) + ((sr_fig kp i 0).toInt64))), (4, .int 0), (3, .int (nI i)), (0, .ref (a 0))]) C0.1 C0.2.1 dX8_digest_80 rfl hl (by decide) rfl (fun ls hl => ?_)
        refine lv_iinc (v := 1) (lv' := [(4, .int 1), (1, .long ((31 * (sr_dr kp h9 i)) + ((sr_fig kp i 0).toInt64))), (3, .int (nI i)), (0, .ref (a 0))]) C0.1 C0.2.1 dX8_digest_81 hl (k := 1) rfl (by decide) (by decide) rfl (fun ls hl => ?_)
        refine lv_goto (tgt := 56) C0.1 C0.2.1 dX8_digest_84 (by decide) ?_
        refine lv_iload C0.1 C0.2.1 dX8_digest_56 (lv_at hl 0 rfl) ?_
        refine lv_iconst (v := 4) C0.1 C0.2.1 dX8_digest_58 (by decide) ?_
        refine lv_icmp_ge (tgt := 87) C0.1 C0.2.1 dX8_digest_59 (by decide) (fun q => absurd q (by decide)) (fun _ => ?_)
        refine lv_ldc2 (v := 31) C0.1 C0.2.1 C0.2.2.2.1 (C0.2.2.2.2 _ sw_972) dX8_digest_62 ?_
        refine lv_lload_n C0.1 C0.2.1 dX8_digest_65 rfl (lv_at hl 1 rfl) ?_
        refine lv_lmul C0.1 C0.2.1 dX8_digest_66 ?_
        refine lv_aload_n C0.1 C0.2.1 dX8_digest_67 rfl (lv_at hl 3 rfl) ?_
        refine sr_get (v := .ref (a 6)) C0 hK hP sr_inX8 sr_wM0 rfl 9 (by decide) sw_619 rfl dX8_digest_68 ?_
        refine lv_iconst (v := 4) C0.1 C0.2.1 dX8_digest_71 (by decide) ?_
        refine lv_iload_n C0.1 C0.2.1 dX8_digest_72 rfl (lv_at hl 2 rfl) ?_
        refine lv_imul C0.1 C0.2.1 dX8_digest_73 ?_
        refine sr_chi (pk_mul 4 i) ?_
        refine lv_iload C0.1 C0.2.1 dX8_digest_74 (lv_at hl 0 rfl) ?_
        refine lv_iadd C0.1 C0.2.1 dX8_digest_76 ?_
        refine sr_chi (nI_add (4 * i) 1) ?_
        refine sr_ald (k := (4 * i) + 1) C0 hK rfl hP sr_wM6 (nI_clamp (by omega)) (vp_in_nI (by omega) (by omega)) dX8_digest_77 ?_
        refine sr_chi (hRD.2 i (by first | assumption | omega | exact sr_th_at hT (by omega)) 1 (by omega)) ?_
        refine lv_i2l C0.1 C0.2.1 dX8_digest_78 rfl ?_
        refine lv_ladd C0.1 C0.2.1 dX8_digest_79 ?_
        refine lv_lstore_n (lv' := [(1, .long ((31 * ((31 * (sr_dr kp h9 i)) + ((sr_fig kp i 0).toInt64))) + ((sr_fig kp i 1).toInt64))), (4, .int 1), (3, .int (nI i)), (0, .ref (a 0))]) C0.1 C0.2.1 dX8_digest_80 rfl hl (by decide) rfl (fun ls hl => ?_)
        refine lv_iinc (v := 2) (lv' := [(4, .int 2), (1, .long ((31 * ((31 * (sr_dr kp h9 i)) + ((sr_fig kp i 0).toInt64))) + ((sr_fig kp i 1).toInt64))), (3, .int (nI i)), (0, .ref (a 0))]) C0.1 C0.2.1 dX8_digest_81 hl (k := 1) rfl (by decide) (by decide) rfl (fun ls hl => ?_)
        refine lv_goto (tgt := 56) C0.1 C0.2.1 dX8_digest_84 (by decide) ?_
        refine lv_iload C0.1 C0.2.1 dX8_digest_56 (lv_at hl 0 rfl) ?_
        refine lv_iconst (v := 4) C0.1 C0.2.1 dX8_digest_58 (by decide) ?_
        refine lv_icmp_ge (tgt := 87) C0.1 C0.2.1 dX8_digest_59 (by decide) (fun q => absurd q (by decide)) (fun _ => ?_)
        refine lv_ldc2 (v := 31) C0.1 C0.2.1 C0.2.2.2.1 (C0.2.2.2.2 _ sw_972) dX8_digest_62 ?_
        refine lv_lload_n C0.1 C0.2.1 dX8_digest_65 rfl (lv_at hl 1 rfl) ?_
        refine lv_lmul C0.1 C0.2.1 dX8_digest_66 ?_
        refine lv_aload_n C0.1 C0.2.1 dX8_digest_67 rfl (lv_at hl 3 rfl) ?_
        refine sr_get (v := .ref (a 6)) C0 hK hP sr_inX8 sr_wM0 rfl 9 (by decide) sw_619 rfl dX8_digest_68 ?_
        refine lv_iconst (v := 4) C0.1 C0.2.1 dX8_digest_71 (by decide) ?_
        refine lv_iload_n C0.1 C0.2.1 dX8_digest_72 rfl (lv_at hl 2 rfl) ?_
        refine lv_imul C0.1 C0.2.1 dX8_digest_73 ?_
        refine sr_chi (pk_mul 4 i) ?_
        refine lv_iload C0.1 C0.2.1 dX8_digest_74 (lv_at hl 0 rfl) ?_
        refine lv_iadd C0.1 C0.2.1 dX8_digest_76 ?_
        refine sr_chi (nI_add (4 * i) 2) ?_
        refine sr_ald (k := (4 * i) + 2) C0 hK rfl hP sr_wM6 (nI_clamp (by omega)) (vp_in_nI (by omega) (by omega)) dX8_digest_77 ?_
        refine sr_chi (hRD.2 i (by first | assumption | omega | exact sr_th_at hT (by omega)) 2 (by omega)) ?_
        refine lv_i2l C0.1 C0.2.1 dX8_digest_78 rfl ?_
        refine lv_ladd C0.1 C0.2.1 dX8_digest_79 ?_
        refine lv_lstore_n (lv' := [(1, .long ((31 * ((31 * ((31 * (sr_dr kp h9 i)) + ((sr_fig kp i 0).toInt64))) + ((sr_fig kp i 1).toInt64))) + ((sr_fig kp i 2).toInt64))), (4, .int 2), (3, .int (nI i)), (0, .ref (a 0))]) C0.1 C0.2.1 dX8_digest_80 rfl hl (by decide) rfl (fun ls hl => ?_)
        refine lv_iinc (v := 3) (lv' := [(4, .int 3), (1, .long ((31 * ((31 * ((31 * (sr_dr kp h9 i)) + ((sr_fig kp i 0).toInt64))) + ((sr_fig kp i 1).toInt64))) + ((sr_fig kp i 2).toInt64))), (3, .int (nI i)), (0, .ref (a 0))]) C0.1 C0.2.1 dX8_digest_81 hl (k := 1) rfl (by decide) (by decide) rfl (fun ls hl => ?_)
        refine lv_goto (tgt := 56) C0.1 C0.2.1 dX8_digest_84 (by decide) ?_
        refine lv_iload C0.1 C0.2.1 dX8_digest_56 (lv_at hl 0 rfl) ?_
        refine lv_iconst (v := 4) C0.1 C0.2.1 dX8_digest_58 (by decide) ?_
        refine lv_icmp_ge (tgt := 87) C0.1 C0.2.1 dX8_digest_59 (by decide) (fun q => absurd q (by decide)) (fun _ => ?_)
        refine lv_ldc2 (v := 31) C0.1 C0.2.1 C0.2.2.2.1 (C0.2.2.2.2 _ sw_972) dX8_digest_62 ?_
        refine lv_lload_n C0.1 C0.2.1 dX8_digest_65 rfl (lv_at hl 1 rfl) ?_
        refine lv_lmul C0.1 C0.2.1 dX8_digest_66 ?_
        refine lv_aload_n C0.1 C0.2.1 dX8_digest_67 rfl (lv_at hl 3 rfl) ?_
        refine sr_get (v := .ref (a 6)) C0 hK hP sr_inX8 sr_wM0 rfl 9 (by decide) sw_619 rfl dX8_digest_68 ?_
        refine lv_iconst (v := 4) C0.1 C0.2.1 dX8_digest_71 (by decide) ?_
        refine lv_iload_n C0.1 C0.2.1 dX8_digest_72 rfl (lv_at hl 2 rfl) ?_
        refine lv_imul C0.1 C0.2.1 dX8_digest_73 ?_
        refine sr_chi (pk_mul 4 i) ?_
        refine lv_iload C0.1 C0.2.1 dX8_digest_74 (lv_at hl 0 rfl) ?_
        refine lv_iadd C0.1 C0.2.1 dX8_digest_76 ?_
        refine sr_chi (nI_add (4 * i) 3) ?_
        refine sr_ald (k := (4 * i) + 3) C0 hK rfl hP sr_wM6 (nI_clamp (by omega)) (vp_in_nI (by omega) (by omega)) dX8_digest_77 ?_
        refine sr_chi (hRD.2 i (by first | assumption | omega | exact sr_th_at hT (by omega)) 3 (by omega)) ?_
        refine lv_i2l C0.1 C0.2.1 dX8_digest_78 rfl ?_
        refine lv_ladd C0.1 C0.2.1 dX8_digest_79 ?_
        refine lv_lstore_n (lv' := [(1, .long ((31 * ((31 * ((31 * ((31 * (sr_dr kp h9 i)) + ((sr_fig kp i 0).toInt64))) + ((sr_fig kp i 1).toInt64))) + ((sr_fig kp i 2).toInt64))) + ((sr_fig kp i 3).toInt64))), (4, .int 3), (3, .int (nI i)), (0, .ref (a 0))]) C0.1 C0.2.1 dX8_digest_80 rfl hl (by decide) rfl (fun ls hl => ?_)
        refine lv_iinc (v := 4) (lv' := [(4, .int 4), (1, .long ((31 * ((31 * ((31 * ((31 * (sr_dr kp h9 i)) + ((sr_fig kp i 0).toInt64))) + ((sr_fig kp i 1).toInt64))) + ((sr_fig kp i 2).toInt64))) + ((sr_fig kp i 3).toInt64))), (3, .int (nI i)), (0, .ref (a 0))]) C0.1 C0.2.1 dX8_digest_81 hl (k := 1) rfl (by decide) (by decide) rfl (fun ls hl => ?_)
        refine lv_goto (tgt := 56) C0.1 C0.2.1 dX8_digest_84 (by decide) ?_
        refine lv_iload C0.1 C0.2.1 dX8_digest_56 (lv_at hl 0 rfl) ?_
        refine lv_iconst (v := 4) C0.1 C0.2.1 dX8_digest_58 (by decide) ?_
        refine lv_icmp_ge (tgt := 87) C0.1 C0.2.1 dX8_digest_59 (by decide) (fun _ => ?_) (fun q => absurd q (by decide))
        refine lv_ldc2 (v := 31) C0.1 C0.2.1 C0.2.2.2.1 (C0.2.2.2.2 _ sw_972) dX8_digest_87 ?_
        refine lv_lload_n C0.1 C0.2.1 dX8_digest_90 rfl (lv_at hl 1 rfl) ?_
        refine lv_lmul C0.1 C0.2.1 dX8_digest_91 ?_
        refine lv_aload_n C0.1 C0.2.1 dX8_digest_92 rfl (lv_at hl 3 rfl) ?_
        refine lv_iload_n C0.1 C0.2.1 dX8_digest_93 rfl (lv_at hl 2 rfl) ?_
        refine lv_iconst (v := 1) C0.1 C0.2.1 dX8_digest_94 (by decide) ?_
        refine lv_bipush (v := 50) C0.1 C0.2.1 dX8_digest_95 (by decide) ?_
        refine sr_pVi (As := [.int (nI i), .int 1, .int 50]) C0 hK hP hZ (sr_Zs hZ hZ0 hS) (cc_X8_takesOf ha i 1 (50) hRD (by first | assumption | omega | exact sr_th_at hT (by omega)) (by omega)) sk_X8_takesOf sv_X8_takesOf sw_781 (ci := 8) rfl sr_wM0 rfl rfl hl.1 (Nat.le_of_ble_eq_true rfl) (Nat.le_of_ble_eq_true rfl) (Nat.le_of_ble_eq_true rfl) dX8_digest_97 ⟨Nat.zero_le _, Nat.zero_le _⟩ ?_
        refine lv_i2l C0.1 C0.2.1 dX8_digest_100 rfl ?_
        refine lv_ladd C0.1 C0.2.1 dX8_digest_101 ?_
        refine lv_lstore_n (lv' := [(1, .long ((31 * ((31 * ((31 * ((31 * ((31 * (sr_dr kp h9 i)) + ((sr_fig kp i 0).toInt64))) + ((sr_fig kp i 1).toInt64))) + ((sr_fig kp i 2).toInt64))) + ((sr_fig kp i 3).toInt64))) + ((sr_T kp i 1 50).toInt64))), (4, .int 4), (3, .int (nI i)), (0, .ref (a 0))]) C0.1 C0.2.1 dX8_digest_102 rfl hl (by decide) rfl (fun ls hl => ?_)
        refine lv_iinc (v := (nI (i + 1))) (lv' := [(3, .int (nI (i + 1))), (1, .long ((31 * ((31 * ((31 * ((31 * ((31 * (sr_dr kp h9 i)) + ((sr_fig kp i 0).toInt64))) + ((sr_fig kp i 1).toInt64))) + ((sr_fig kp i 2).toInt64))) + ((sr_fig kp i 3).toInt64))) + ((sr_T kp i 1 50).toInt64))), (4, .int 4), (0, .ref (a 0))]) C0.1 C0.2.1 dX8_digest_103 hl (k := 2) rfl (nI_1 i) (by decide) rfl (fun ls hl => ?_)
        refine lv_goto (tgt := 45) C0.1 C0.2.1 dX8_digest_106 (by decide) ?_
        exact ih45 (i + 1) _ (by omega) (by omega) (lv_sub hl [0, 1, 3] rfl)
  exact lp45 (sr_cnt kp + 1) 0 _ (by omega) (by omega) (lv_sub hl [0, 1, 2] rfl)
