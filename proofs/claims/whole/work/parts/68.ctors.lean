set_option maxRecDepth 100000 in
set_option maxHeartbeats 8000000 in
theorem nn_X4_init {l : Launch} {D : va_G} {cI cR : ClassId} (q0 sz : Nat) : sr_N l D (sr_tC cI cR) sz [(q0, .inr (4, [.null, .null, .null, .null, .null, .int 0, .int 0, .int 0]))] yX4_init cX4_init 1 1 20 5 60 [.ref q0] (S := Nat → Nat) (fun _ => True) (fun u => [(q0, .inr (4, [.ref (u 0), .ref (u 1), .ref (u 2), .ref (u 3), .ref (u 4), .int 0, .int (-1), .int 0])), ((u 0), .inl (cI, 40, .inl (fun _ => 0))), ((u 1), .inl (cI, 5, .inl (fun _ => 0))), ((u 2), .inl (cI, 5, .inl (fun _ => 0))), ((u 3), .inl (cI, 5, .inl (fun _ => 0))), ((u 4), .inl (cI, 5, .inl (fun _ => 0)))]) := by
  refine sr_Nof (by decide +kernel) rfl (Nat.le_of_ble_eq_true rfl) (fun p e s m args below meth c ls Q A C0 hin hP hK hD hA hZ hl hret => ?_)
  have hl : lv_has ls 1 [(0, .ref q0)] := hl
  have hS : va_S A s.heap s.heap [] := va_S.rf
  refine lv_aload_n C0.1 C0.2.1 dX4_init_0 rfl (lv_at hl 0 rfl) ?_
  refine W.objInit C0.1 C0.2.1 C0.2.2.2.1 (C0.2.2.2.2 _ sw_27) (C0.2.2.2.2 _ sw_20) (C0.2.2.2.2 _ sw_21) rfl (hl.1.trans C0.2.2.1.symm) rfl dX4_init_1 (Nat.le_of_ble_eq_true rfl) (Nat.le_of_ble_eq_true rfl) ?_
  refine W.eq (g2 := F0 m 4 ls []) rfl ?_
  refine lv_aload_n C0.1 C0.2.1 dX4_init_4 rfl (lv_at hl 0 rfl) ?_
  refine lv_bipush (v := 40) C0.1 C0.2.1 dX4_init_5 (by decide) ?_
  refine sr_newa (k := 40) (N' := 40) C0 hK hP hD hS hA (by decide) (by decide) (Nat.le_of_ble_eq_true rfl) (Nat.le_of_ble_eq_true rfl) (Nat.le_of_ble_eq_true rfl) dX4_init_7 (fun q1 H hP hD hS => ?_)
  have hP : va_P D vwCl [(q0, .inr (4, [.null, .null, .null, .null, .null, .int 0, .int 0, .int 0])), (q1, .inl (cI, 40, .inl (fun _ => 0)))] H := hP
  have hD : va_D A [(q0, .inr (4, [.null, .null, .null, .null, .null, .int 0, .int 0, .int 0])), (q1, .inl (cI, 40, .inl (fun _ => 0)))] := hD
  refine W.widen (k := 1) (n := 40) (by omega) (by omega) ?_
  refine va_putF (D := D) (ci := 4) (v := .ref q1) (ty := (.array .int)) (C := RX4) (T := TX4) (N := 8) C0.1 C0.2.1 C0.2.2.2.2 sr_inX4 tyX4 tyX4_ok nmX4 C0.2.2.2.1 hK hP hD hS 0 rfl rfl 0 (by decide) (C0.2.2.2.2 _ sw_28) (fun _ h9 => h9) rfl hin rfl (by decide +kernel) rfl rfl (Nat.le_of_ble_eq_true rfl) dX4_init_9 (fun H locs hP hD hS => ?_)
  have hP : va_P D vwCl [(q0, .inr (4, [.ref q1, .null, .null, .null, .null, .int 0, .int 0, .int 0])), (q1, .inl (cI, 40, .inl (fun _ => 0)))] H := hP
  have hD : va_D A [(q0, .inr (4, [.ref q1, .null, .null, .null, .null, .int 0, .int 0, .int 0])), (q1, .inl (cI, 40, .inl (fun _ => 0)))] := hD
  refine lv_aload_n C0.1 C0.2.1 dX4_init_12 rfl (lv_at hl 0 rfl) ?_
  refine lv_iconst (v := 5) C0.1 C0.2.1 dX4_init_13 (by decide) ?_
  refine sr_newa (k := 5) (N' := 5) C0 hK hP hD hS hA (by decide) (by decide) (Nat.le_of_ble_eq_true rfl) (Nat.le_of_ble_eq_true rfl) (Nat.le_of_ble_eq_true rfl) dX4_init_14 (fun q2 H hP hD hS => ?_)
  have hP : va_P D vwCl [(q0, .inr (4, [.ref q1, .null, .null, .null, .null, .int 0, .int 0, .int 0])), (q1, .inl (cI, 40, .inl (fun _ => 0))), (q2, .inl (cI, 5, .inl (fun _ => 0)))] H := hP
  have hD : va_D A [(q0, .inr (4, [.ref q1, .null, .null, .null, .null, .int 0, .int 0, .int 0])), (q1, .inl (cI, 40, .inl (fun _ => 0))), (q2, .inl (cI, 5, .inl (fun _ => 0)))] := hD
  refine W.widen (k := 2) (n := 45) (by omega) (by omega) ?_
  refine va_putF (D := D) (ci := 4) (v := .ref q2) (ty := (.array .int)) (C := RX4) (T := TX4) (N := 8) C0.1 C0.2.1 C0.2.2.2.2 sr_inX4 tyX4 tyX4_ok nmX4 C0.2.2.2.1 hK hP hD hS 0 rfl rfl 1 (by decide) (C0.2.2.2.2 _ sw_29) (fun _ h9 => h9) rfl hin rfl (by decide +kernel) rfl rfl (Nat.le_of_ble_eq_true rfl) dX4_init_16 (fun H locs hP hD hS => ?_)
  have hP : va_P D vwCl [(q0, .inr (4, [.ref q1, .ref q2, .null, .null, .null, .int 0, .int 0, .int 0])), (q1, .inl (cI, 40, .inl (fun _ => 0))), (q2, .inl (cI, 5, .inl (fun _ => 0)))] H := hP
  have hD : va_D A [(q0, .inr (4, [.ref q1, .ref q2, .null, .null, .null, .int 0, .int 0, .int 0])), (q1, .inl (cI, 40, .inl (fun _ => 0))), (q2, .inl (cI, 5, .inl (fun _ => 0)))] := hD
  refine lv_aload_n C0.1 C0.2.1 dX4_init_19 rfl (lv_at hl 0 rfl) ?_
  refine lv_iconst (v := 5) C0.1 C0.2.1 dX4_init_20 (by decide) ?_
  refine sr_newa (k := 5) (N' := 5) C0 hK hP hD hS hA (by decide) (by decide) (Nat.le_of_ble_eq_true rfl) (Nat.le_of_ble_eq_true rfl) (Nat.le_of_ble_eq_true rfl) dX4_init_21 (fun q3 H hP hD hS => ?_)
  have hP : va_P D vwCl [(q0, .inr (4, [.ref q1, .ref q2, .null, .null, .null, .int 0, .int 0, .int 0])), (q1, .inl (cI, 40, .inl (fun _ => 0))), (q2, .inl (cI, 5, .inl (fun _ => 0))), (q3, .inl (cI, 5, .inl (fun _ => 0)))] H := hP
  have hD : va_D A [(q0, .inr (4, [.ref q1, .ref q2, .null, .null, .null, .int 0, .int 0, .int 0])), (q1, .inl (cI, 40, .inl (fun _ => 0))), (q2, .inl (cI, 5, .inl (fun _ => 0))), (q3, .inl (cI, 5, .inl (fun _ => 0)))] := hD
  refine W.widen (k := 3) (n := 50) (by omega) (by omega) ?_
  refine va_putF (D := D) (ci := 4) (v := .ref q3) (ty := (.array .int)) (C := RX4) (T := TX4) (N := 8) C0.1 C0.2.1 C0.2.2.2.2 sr_inX4 tyX4 tyX4_ok nmX4 C0.2.2.2.1 hK hP hD hS 0 rfl rfl 2 (by decide) (C0.2.2.2.2 _ sw_31) (fun _ h9 => h9) rfl hin rfl (by decide +kernel) rfl rfl (Nat.le_of_ble_eq_true rfl) dX4_init_23 (fun H locs hP hD hS => ?_)
  have hP : va_P D vwCl [(q0, .inr (4, [.ref q1, .ref q2, .ref q3, .null, .null, .int 0, .int 0, .int 0])), (q1, .inl (cI, 40, .inl (fun _ => 0))), (q2, .inl (cI, 5, .inl (fun _ => 0))), (q3, .inl (cI, 5, .inl (fun _ => 0)))] H := hP
  have hD : va_D A [(q0, .inr (4, [.ref q1, .ref q2, .ref q3, .null, .null, .int 0, .int 0, .int 0])), (q1, .inl (cI, 40, .inl (fun _ => 0))), (q2, .inl (cI, 5, .inl (fun _ => 0))), (q3, .inl (cI, 5, .inl (fun _ => 0)))] := hD
  refine lv_aload_n C0.1 C0.2.1 dX4_init_26 rfl (lv_at hl 0 rfl) ?_
  refine lv_iconst (v := 5) C0.1 C0.2.1 dX4_init_27 (by decide) ?_
  refine sr_newa (k := 5) (N' := 5) C0 hK hP hD hS hA (by decide) (by decide) (Nat.le_of_ble_eq_true rfl) (Nat.le_of_ble_eq_true rfl) (Nat.le_of_ble_eq_true rfl) dX4_init_28 (fun q4 H hP hD hS => ?_)
  have hP : va_P D vwCl [(q0, .inr (4, [.ref q1, .ref q2, .ref q3, .null, .null, .int 0, .int 0, .int 0])), (q1, .inl (cI, 40, .inl (fun _ => 0))), (q2, .inl (cI, 5, .inl (fun _ => 0))), (q3, .inl (cI, 5, .inl (fun _ => 0))), (q4, .inl (cI, 5, .inl (fun _ => 0)))] H := hP
  have hD : va_D A [(q0, .inr (4, [.ref q1, .ref q2, .ref q3, .null, .null, .int 0, .int 0, .int 0])), (q1, .inl (cI, 40, .inl (fun _ => 0))), (q2, .inl (cI, 5, .inl (fun _ => 0))), (q3, .inl (cI, 5, .inl (fun _ => 0))), (q4, .inl (cI, 5, .inl (fun _ => 0)))] := hD
  refine W.widen (k := 4) (n := 55) (by omega) (by omega) ?_
  refine va_putF (D := D) (ci := 4) (v := .ref q4) (ty := (.array .int)) (C := RX4) (T := TX4) (N := 8) C0.1 C0.2.1 C0.2.2.2.2 sr_inX4 tyX4 tyX4_ok nmX4 C0.2.2.2.1 hK hP hD hS 0 rfl rfl 3 (by decide) (C0.2.2.2.2 _ sw_33) (fun _ h9 => h9) rfl hin rfl (by decide +kernel) rfl rfl (Nat.le_of_ble_eq_true rfl) dX4_init_30 (fun H locs hP hD hS => ?_)
  have hP : va_P D vwCl [(q0, .inr (4, [.ref q1, .ref q2, .ref q3, .ref q4, .null, .int 0, .int 0, .int 0])), (q1, .inl (cI, 40, .inl (fun _ => 0))), (q2, .inl (cI, 5, .inl (fun _ => 0))), (q3, .inl (cI, 5, .inl (fun _ => 0))), (q4, .inl (cI, 5, .inl (fun _ => 0)))] H := hP
  have hD : va_D A [(q0, .inr (4, [.ref q1, .ref q2, .ref q3, .ref q4, .null, .int 0, .int 0, .int 0])), (q1, .inl (cI, 40, .inl (fun _ => 0))), (q2, .inl (cI, 5, .inl (fun _ => 0))), (q3, .inl (cI, 5, .inl (fun _ => 0))), (q4, .inl (cI, 5, .inl (fun _ => 0)))] := hD
  refine lv_aload_n C0.1 C0.2.1 dX4_init_33 rfl (lv_at hl 0 rfl) ?_
  refine lv_iconst (v := 5) C0.1 C0.2.1 dX4_init_34 (by decide) ?_
  refine sr_newa (k := 5) (N' := 5) C0 hK hP hD hS hA (by decide) (by decide) (Nat.le_of_ble_eq_true rfl) (Nat.le_of_ble_eq_true rfl) (Nat.le_of_ble_eq_true rfl) dX4_init_35 (fun q5 H hP hD hS => ?_)
  have hP : va_P D vwCl [(q0, .inr (4, [.ref q1, .ref q2, .ref q3, .ref q4, .null, .int 0, .int 0, .int 0])), (q1, .inl (cI, 40, .inl (fun _ => 0))), (q2, .inl (cI, 5, .inl (fun _ => 0))), (q3, .inl (cI, 5, .inl (fun _ => 0))), (q4, .inl (cI, 5, .inl (fun _ => 0))), (q5, .inl (cI, 5, .inl (fun _ => 0)))] H := hP
  have hD : va_D A [(q0, .inr (4, [.ref q1, .ref q2, .ref q3, .ref q4, .null, .int 0, .int 0, .int 0])), (q1, .inl (cI, 40, .inl (fun _ => 0))), (q2, .inl (cI, 5, .inl (fun _ => 0))), (q3, .inl (cI, 5, .inl (fun _ => 0))), (q4, .inl (cI, 5, .inl (fun _ => 0))), (q5, .inl (cI, 5, .inl (fun _ => 0)))] := hD
  refine W.widen (k := 5) (n := 60) (by omega) (by omega) ?_
  refine va_putF (D := D) (ci := 4) (v := .ref q5) (ty := (.array .int)) (C := RX4) (T := TX4) (N := 8) C0.1 C0.2.1 C0.2.2.2.2 sr_inX4 tyX4 tyX4_ok nmX4 C0.2.2.2.1 hK hP hD hS 0 rfl rfl 4 (by decide) (C0.2.2.2.2 _ sw_35) (fun _ h9 => h9) rfl hin rfl (by decide +kernel) rfl rfl (Nat.le_of_ble_eq_true rfl) dX4_init_37 (fun H locs hP hD hS => ?_)
  have hP : va_P D vwCl [(q0, .inr (4, [.ref q1, .ref q2, .ref q3, .ref q4, .ref q5, .int 0, .int 0, .int 0])), (q1, .inl (cI, 40, .inl (fun _ => 0))), (q2, .inl (cI, 5, .inl (fun _ => 0))), (q3, .inl (cI, 5, .inl (fun _ => 0))), (q4, .inl (cI, 5, .inl (fun _ => 0))), (q5, .inl (cI, 5, .inl (fun _ => 0)))] H := hP
  have hD : va_D A [(q0, .inr (4, [.ref q1, .ref q2, .ref q3, .ref q4, .ref q5, .int 0, .int 0, .int 0])), (q1, .inl (cI, 40, .inl (fun _ => 0))), (q2, .inl (cI, 5, .inl (fun _ => 0))), (q3, .inl (cI, 5, .inl (fun _ => 0))), (q4, .inl (cI, 5, .inl (fun _ => 0))), (q5, .inl (cI, 5, .inl (fun _ => 0)))] := hD
  refine lv_aload_n C0.1 C0.2.1 dX4_init_40 rfl (lv_at hl 0 rfl) ?_
  refine lv_iconst (v := 0) C0.1 C0.2.1 dX4_init_41 (by decide) ?_
  refine va_put (D := D) (ci := 4) (v := .int 0) (ty := .int) (C := RX4) (T := TX4) (N := 8) C0.1 C0.2.1 C0.2.2.2.2 sr_inX4 tyX4 tyX4_ok nmX4 C0.2.2.2.1 hK hP hD hS 0 rfl rfl 5 (by decide) (C0.2.2.2.2 _ sw_37) (fun _ h9 => h9) rfl (by decide +kernel) rfl rfl (Nat.le_of_ble_eq_true rfl) dX4_init_42 (fun H locs hP hD hS => ?_)
  have hP : va_P D vwCl [(q0, .inr (4, [.ref q1, .ref q2, .ref q3, .ref q4, .ref q5, .int 0, .int 0, .int 0])), (q1, .inl (cI, 40, .inl (fun _ => 0))), (q2, .inl (cI, 5, .inl (fun _ => 0))), (q3, .inl (cI, 5, .inl (fun _ => 0))), (q4, .inl (cI, 5, .inl (fun _ => 0))), (q5, .inl (cI, 5, .inl (fun _ => 0)))] H := hP
  have hD : va_D A [(q0, .inr (4, [.ref q1, .ref q2, .ref q3, .ref q4, .ref q5, .int 0, .int 0, .int 0])), (q1, .inl (cI, 40, .inl (fun _ => 0))), (q2, .inl (cI, 5, .inl (fun _ => 0))), (q3, .inl (cI, 5, .inl (fun _ => 0))), (q4, .inl (cI, 5, .inl (fun _ => 0))), (q5, .inl (cI, 5, .inl (fun _ => 0)))] := hD
  refine lv_aload_n C0.1 C0.2.1 dX4_init_45 rfl (lv_at hl 0 rfl) ?_
  refine lv_iconst (v := (-1)) C0.1 C0.2.1 dX4_init_46 (by decide) ?_
  refine va_put (D := D) (ci := 4) (v := .int (-1)) (ty := .int) (C := RX4) (T := TX4) (N := 8) C0.1 C0.2.1 C0.2.2.2.2 sr_inX4 tyX4 tyX4_ok nmX4 C0.2.2.2.1 hK hP hD hS 0 rfl rfl 6 (by decide) (C0.2.2.2.2 _ sw_39) (fun _ h9 => h9) rfl (by decide +kernel) rfl rfl (Nat.le_of_ble_eq_true rfl) dX4_init_47 (fun H locs hP hD hS => ?_)
  have hP : va_P D vwCl [(q0, .inr (4, [.ref q1, .ref q2, .ref q3, .ref q4, .ref q5, .int 0, .int (-1), .int 0])), (q1, .inl (cI, 40, .inl (fun _ => 0))), (q2, .inl (cI, 5, .inl (fun _ => 0))), (q3, .inl (cI, 5, .inl (fun _ => 0))), (q4, .inl (cI, 5, .inl (fun _ => 0))), (q5, .inl (cI, 5, .inl (fun _ => 0)))] H := hP
  have hD : va_D A [(q0, .inr (4, [.ref q1, .ref q2, .ref q3, .ref q4, .ref q5, .int 0, .int (-1), .int 0])), (q1, .inl (cI, 40, .inl (fun _ => 0))), (q2, .inl (cI, 5, .inl (fun _ => 0))), (q3, .inl (cI, 5, .inl (fun _ => 0))), (q4, .inl (cI, 5, .inl (fun _ => 0))), (q5, .inl (cI, 5, .inl (fun _ => 0)))] := hD
  refine lv_aload_n C0.1 C0.2.1 dX4_init_50 rfl (lv_at hl 0 rfl) ?_
  refine lv_iconst (v := 0) C0.1 C0.2.1 dX4_init_51 (by decide) ?_
  refine va_put (D := D) (ci := 4) (v := .int 0) (ty := .int) (C := RX4) (T := TX4) (N := 8) C0.1 C0.2.1 C0.2.2.2.2 sr_inX4 tyX4 tyX4_ok nmX4 C0.2.2.2.1 hK hP hD hS 0 rfl rfl 7 (by decide) (C0.2.2.2.2 _ sw_41) (fun _ h9 => h9) rfl (by decide +kernel) rfl rfl (Nat.le_of_ble_eq_true rfl) dX4_init_52 (fun H locs hP hD hS => ?_)
  have hP : va_P D vwCl [(q0, .inr (4, [.ref q1, .ref q2, .ref q3, .ref q4, .ref q5, .int 0, .int (-1), .int 0])), (q1, .inl (cI, 40, .inl (fun _ => 0))), (q2, .inl (cI, 5, .inl (fun _ => 0))), (q3, .inl (cI, 5, .inl (fun _ => 0))), (q4, .inl (cI, 5, .inl (fun _ => 0))), (q5, .inl (cI, 5, .inl (fun _ => 0)))] H := hP
  have hD : va_D A [(q0, .inr (4, [.ref q1, .ref q2, .ref q3, .ref q4, .ref q5, .int 0, .int (-1), .int 0])), (q1, .inl (cI, 40, .inl (fun _ => 0))), (q2, .inl (cI, 5, .inl (fun _ => 0))), (q3, .inl (cI, 5, .inl (fun _ => 0))), (q4, .inl (cI, 5, .inl (fun _ => 0))), (q5, .inl (cI, 5, .inl (fun _ => 0)))] := hD
  exact hret _ _ _ (fun k => ([q1, q2, q3, q4, q5] : List Nat).getD k 0) _ _ dX4_init_55 hP hD hS rfl trivial
set_option maxRecDepth 100000 in
set_option maxHeartbeats 8000000 in
theorem nn_X6_init {l : Launch} {D : va_G} {cI cR : ClassId} (q0 sz : Nat) (x0 : Nat) : sr_N l D (sr_tC cI cR) sz [(q0, .inr (6, [.null, .null, .null]))] yX6_init cX6_init 2 1 20 2 11 [.ref q0, .ref x0] (S := Nat → Nat) (fun _ => True) (fun u => [(q0, .inr (6, [.ref x0, .ref (u 0), .ref (u 1)])), ((u 0), .inl (cI, 7, .inl (upd (upd (upd (upd (upd (fun _ => 0) 0 20) 1 1) 2 20) 5 30) 6 5))), ((u 1), .inl (cI, 4, .inl (fun _ => 0)))]) := by
  refine sr_Nof (by decide +kernel) rfl (Nat.le_of_ble_eq_true rfl) (fun p e s m args below meth c ls Q A C0 hin hP hK hD hA hZ hl hret => ?_)
  have hl : lv_has ls 2 [(0, .ref q0), (1, .ref x0)] := hl
  have hS : va_S A s.heap s.heap [] := va_S.rf
  refine lv_aload_n C0.1 C0.2.1 dX6_init_0 rfl (lv_at hl 0 rfl) ?_
  refine W.objInit C0.1 C0.2.1 C0.2.2.2.1 (C0.2.2.2.2 _ sw_68) (C0.2.2.2.2 _ sw_20) (C0.2.2.2.2 _ sw_21) rfl (hl.1.trans C0.2.2.1.symm) rfl dX6_init_1 (Nat.le_of_ble_eq_true rfl) (Nat.le_of_ble_eq_true rfl) ?_
  refine W.eq (g2 := F0 m 4 ls []) rfl ?_
  refine lv_aload_n C0.1 C0.2.1 dX6_init_4 rfl (lv_at hl 0 rfl) ?_
  refine lv_bipush (v := 7) C0.1 C0.2.1 dX6_init_5 (by decide) ?_
  refine sr_newa (k := 7) (N' := 7) C0 hK hP hD hS hA (by decide) (by decide) (Nat.le_of_ble_eq_true rfl) (Nat.le_of_ble_eq_true rfl) (Nat.le_of_ble_eq_true rfl) dX6_init_7 (fun q1 H hP hD hS => ?_)
  have hP : va_P D vwCl [(q0, .inr (6, [.null, .null, .null])), (q1, .inl (cI, 7, .inl (fun _ => 0)))] H := hP
  have hD : va_D A [(q0, .inr (6, [.null, .null, .null])), (q1, .inl (cI, 7, .inl (fun _ => 0)))] := hD
  refine W.widen (k := 1) (n := 7) (by omega) (by omega) ?_
  refine lv_dup C0.1 C0.2.1 dX6_init_9 rfl ?_
  refine lv_iconst (v := 0) C0.1 C0.2.1 dX6_init_10 (by decide) ?_
  refine lv_bipush (v := 20) C0.1 C0.2.1 dX6_init_11 (by decide) ?_
  refine va_iast C0.1 C0.2.1 hK hP hD hS 1 0 rfl rfl (sr_inc (by decide)) dX6_init_13 (fun H locs hP hD hS => ?_)
  have hP : va_P D vwCl [(q0, .inr (6, [.null, .null, .null])), (q1, .inl (cI, 7, .inl (upd (fun _ => 0) 0 20)))] H := hP
  have hD : va_D A [(q0, .inr (6, [.null, .null, .null])), (q1, .inl (cI, 7, .inl (upd (fun _ => 0) 0 20)))] := hD
  refine lv_dup C0.1 C0.2.1 dX6_init_14 rfl ?_
  refine lv_iconst (v := 1) C0.1 C0.2.1 dX6_init_15 (by decide) ?_
  refine lv_iconst (v := 1) C0.1 C0.2.1 dX6_init_16 (by decide) ?_
  refine va_iast C0.1 C0.2.1 hK hP hD hS 1 0 rfl rfl (sr_inc (by decide)) dX6_init_17 (fun H locs hP hD hS => ?_)
  have hP : va_P D vwCl [(q0, .inr (6, [.null, .null, .null])), (q1, .inl (cI, 7, .inl (upd (upd (fun _ => 0) 0 20) 1 1)))] H := hP
  have hD : va_D A [(q0, .inr (6, [.null, .null, .null])), (q1, .inl (cI, 7, .inl (upd (upd (fun _ => 0) 0 20) 1 1)))] := hD
  refine lv_dup C0.1 C0.2.1 dX6_init_18 rfl ?_
  refine lv_iconst (v := 2) C0.1 C0.2.1 dX6_init_19 (by decide) ?_
  refine lv_bipush (v := 20) C0.1 C0.2.1 dX6_init_20 (by decide) ?_
  refine va_iast C0.1 C0.2.1 hK hP hD hS 1 0 rfl rfl (sr_inc (by decide)) dX6_init_22 (fun H locs hP hD hS => ?_)
  have hP : va_P D vwCl [(q0, .inr (6, [.null, .null, .null])), (q1, .inl (cI, 7, .inl (upd (upd (upd (fun _ => 0) 0 20) 1 1) 2 20)))] H := hP
  have hD : va_D A [(q0, .inr (6, [.null, .null, .null])), (q1, .inl (cI, 7, .inl (upd (upd (upd (fun _ => 0) 0 20) 1 1) 2 20)))] := hD
  refine lv_dup C0.1 C0.2.1 dX6_init_23 rfl ?_
  refine lv_iconst (v := 3) C0.1 C0.2.1 dX6_init_24 (by decide) ?_
  refine lv_iconst (v := 0) C0.1 C0.2.1 dX6_init_25 (by decide) ?_
  refine va_iast C0.1 C0.2.1 hK hP hD hS 1 0 rfl rfl (sr_inc (by decide)) dX6_init_26 (fun H locs hP hD hS => ?_)
  have hP : va_P D vwCl [(q0, .inr (6, [.null, .null, .null])), (q1, .inl (cI, 7, .inl (upd (upd (upd (upd (fun _ => 0) 0 20) 1 1) 2 20) 3 0)))] H := hP
  have hD : va_D A [(q0, .inr (6, [.null, .null, .null])), (q1, .inl (cI, 7, .inl (upd (upd (upd (upd (fun _ => 0) 0 20) 1 1) 2 20) 3 0)))] := hD
  have eU : upd (upd (upd (upd (fun _ => 0) 0 20) 1 1) 2 20) 3 0 = (upd (upd (upd (fun _ => 0) 0 20) 1 1) 2 20) := sr_uz rfl
  rw [eU] at hP hD
  clear eU
  refine lv_dup C0.1 C0.2.1 dX6_init_27 rfl ?_
  refine lv_iconst (v := 4) C0.1 C0.2.1 dX6_init_28 (by decide) ?_
  refine lv_iconst (v := 0) C0.1 C0.2.1 dX6_init_29 (by decide) ?_
  refine va_iast C0.1 C0.2.1 hK hP hD hS 1 0 rfl rfl (sr_inc (by decide)) dX6_init_30 (fun H locs hP hD hS => ?_)
  have hP : va_P D vwCl [(q0, .inr (6, [.null, .null, .null])), (q1, .inl (cI, 7, .inl (upd (upd (upd (upd (fun _ => 0) 0 20) 1 1) 2 20) 4 0)))] H := hP
  have hD : va_D A [(q0, .inr (6, [.null, .null, .null])), (q1, .inl (cI, 7, .inl (upd (upd (upd (upd (fun _ => 0) 0 20) 1 1) 2 20) 4 0)))] := hD
  have eU : upd (upd (upd (upd (fun _ => 0) 0 20) 1 1) 2 20) 4 0 = (upd (upd (upd (fun _ => 0) 0 20) 1 1) 2 20) := sr_uz rfl
  rw [eU] at hP hD
  clear eU
  refine lv_dup C0.1 C0.2.1 dX6_init_31 rfl ?_
  refine lv_iconst (v := 5) C0.1 C0.2.1 dX6_init_32 (by decide) ?_
  refine lv_bipush (v := 30) C0.1 C0.2.1 dX6_init_33 (by decide) ?_
  refine va_iast C0.1 C0.2.1 hK hP hD hS 1 0 rfl rfl (sr_inc (by decide)) dX6_init_35 (fun H locs hP hD hS => ?_)
  have hP : va_P D vwCl [(q0, .inr (6, [.null, .null, .null])), (q1, .inl (cI, 7, .inl (upd (upd (upd (upd (fun _ => 0) 0 20) 1 1) 2 20) 5 30)))] H := hP
  have hD : va_D A [(q0, .inr (6, [.null, .null, .null])), (q1, .inl (cI, 7, .inl (upd (upd (upd (upd (fun _ => 0) 0 20) 1 1) 2 20) 5 30)))] := hD
  refine lv_dup C0.1 C0.2.1 dX6_init_36 rfl ?_
  refine lv_bipush (v := 6) C0.1 C0.2.1 dX6_init_37 (by decide) ?_
  refine lv_iconst (v := 5) C0.1 C0.2.1 dX6_init_39 (by decide) ?_
  refine va_iast C0.1 C0.2.1 hK hP hD hS 1 0 rfl rfl (sr_inc (by decide)) dX6_init_40 (fun H locs hP hD hS => ?_)
  have hP : va_P D vwCl [(q0, .inr (6, [.null, .null, .null])), (q1, .inl (cI, 7, .inl (upd (upd (upd (upd (upd (fun _ => 0) 0 20) 1 1) 2 20) 5 30) 6 5)))] H := hP
  have hD : va_D A [(q0, .inr (6, [.null, .null, .null])), (q1, .inl (cI, 7, .inl (upd (upd (upd (upd (upd (fun _ => 0) 0 20) 1 1) 2 20) 5 30) 6 5)))] := hD
  refine va_putF (D := D) (ci := 6) (v := .ref q1) (ty := (.array .int)) (C := RX6) (T := TX6) (N := 3) C0.1 C0.2.1 C0.2.2.2.2 sr_inX6 tyX6 tyX6_ok nmX6 C0.2.2.2.1 hK hP hD hS 0 rfl rfl 1 (by decide) (C0.2.2.2.2 _ sw_70) (fun _ h9 => h9) rfl hin rfl (by decide +kernel) rfl rfl (Nat.le_of_ble_eq_true rfl) dX6_init_41 (fun H locs hP hD hS => ?_)
  have hP : va_P D vwCl [(q0, .inr (6, [.null, .ref q1, .null])), (q1, .inl (cI, 7, .inl (upd (upd (upd (upd (upd (fun _ => 0) 0 20) 1 1) 2 20) 5 30) 6 5)))] H := hP
  have hD : va_D A [(q0, .inr (6, [.null, .ref q1, .null])), (q1, .inl (cI, 7, .inl (upd (upd (upd (upd (upd (fun _ => 0) 0 20) 1 1) 2 20) 5 30) 6 5)))] := hD
  refine lv_aload_n C0.1 C0.2.1 dX6_init_44 rfl (lv_at hl 0 rfl) ?_
  refine lv_iconst (v := 4) C0.1 C0.2.1 dX6_init_45 (by decide) ?_
  refine sr_newa (k := 4) (N' := 4) C0 hK hP hD hS hA (by decide) (by decide) (Nat.le_of_ble_eq_true rfl) (Nat.le_of_ble_eq_true rfl) (Nat.le_of_ble_eq_true rfl) dX6_init_46 (fun q2 H hP hD hS => ?_)
  have hP : va_P D vwCl [(q0, .inr (6, [.null, .ref q1, .null])), (q1, .inl (cI, 7, .inl (upd (upd (upd (upd (upd (fun _ => 0) 0 20) 1 1) 2 20) 5 30) 6 5))), (q2, .inl (cI, 4, .inl (fun _ => 0)))] H := hP
  have hD : va_D A [(q0, .inr (6, [.null, .ref q1, .null])), (q1, .inl (cI, 7, .inl (upd (upd (upd (upd (upd (fun _ => 0) 0 20) 1 1) 2 20) 5 30) 6 5))), (q2, .inl (cI, 4, .inl (fun _ => 0)))] := hD
  refine W.widen (k := 2) (n := 11) (by omega) (by omega) ?_
  refine lv_dup C0.1 C0.2.1 dX6_init_48 rfl ?_
  refine lv_iconst (v := 0) C0.1 C0.2.1 dX6_init_49 (by decide) ?_
  refine lv_iconst (v := 0) C0.1 C0.2.1 dX6_init_50 (by decide) ?_
  refine va_iast C0.1 C0.2.1 hK hP hD hS 2 0 rfl rfl (sr_inc (by decide)) dX6_init_51 (fun H locs hP hD hS => ?_)
  have hP : va_P D vwCl [(q0, .inr (6, [.null, .ref q1, .null])), (q1, .inl (cI, 7, .inl (upd (upd (upd (upd (upd (fun _ => 0) 0 20) 1 1) 2 20) 5 30) 6 5))), (q2, .inl (cI, 4, .inl (upd (fun _ => 0) 0 0)))] H := hP
  have hD : va_D A [(q0, .inr (6, [.null, .ref q1, .null])), (q1, .inl (cI, 7, .inl (upd (upd (upd (upd (upd (fun _ => 0) 0 20) 1 1) 2 20) 5 30) 6 5))), (q2, .inl (cI, 4, .inl (upd (fun _ => 0) 0 0)))] := hD
  have eU : upd (fun _ => 0) 0 0 = (fun _ => 0) := sr_uz rfl
  rw [eU] at hP hD
  clear eU
  refine lv_dup C0.1 C0.2.1 dX6_init_52 rfl ?_
  refine lv_iconst (v := 1) C0.1 C0.2.1 dX6_init_53 (by decide) ?_
  refine lv_iconst (v := 0) C0.1 C0.2.1 dX6_init_54 (by decide) ?_
  refine va_iast C0.1 C0.2.1 hK hP hD hS 2 0 rfl rfl (sr_inc (by decide)) dX6_init_55 (fun H locs hP hD hS => ?_)
  have hP : va_P D vwCl [(q0, .inr (6, [.null, .ref q1, .null])), (q1, .inl (cI, 7, .inl (upd (upd (upd (upd (upd (fun _ => 0) 0 20) 1 1) 2 20) 5 30) 6 5))), (q2, .inl (cI, 4, .inl (upd (fun _ => 0) 1 0)))] H := hP
  have hD : va_D A [(q0, .inr (6, [.null, .ref q1, .null])), (q1, .inl (cI, 7, .inl (upd (upd (upd (upd (upd (fun _ => 0) 0 20) 1 1) 2 20) 5 30) 6 5))), (q2, .inl (cI, 4, .inl (upd (fun _ => 0) 1 0)))] := hD
  have eU : upd (fun _ => 0) 1 0 = (fun _ => 0) := sr_uz rfl
  rw [eU] at hP hD
  clear eU
  refine lv_dup C0.1 C0.2.1 dX6_init_56 rfl ?_
  refine lv_iconst (v := 2) C0.1 C0.2.1 dX6_init_57 (by decide) ?_
  refine lv_iconst (v := 0) C0.1 C0.2.1 dX6_init_58 (by decide) ?_
  refine va_iast C0.1 C0.2.1 hK hP hD hS 2 0 rfl rfl (sr_inc (by decide)) dX6_init_59 (fun H locs hP hD hS => ?_)
  have hP : va_P D vwCl [(q0, .inr (6, [.null, .ref q1, .null])), (q1, .inl (cI, 7, .inl (upd (upd (upd (upd (upd (fun _ => 0) 0 20) 1 1) 2 20) 5 30) 6 5))), (q2, .inl (cI, 4, .inl (upd (fun _ => 0) 2 0)))] H := hP
  have hD : va_D A [(q0, .inr (6, [.null, .ref q1, .null])), (q1, .inl (cI, 7, .inl (upd (upd (upd (upd (upd (fun _ => 0) 0 20) 1 1) 2 20) 5 30) 6 5))), (q2, .inl (cI, 4, .inl (upd (fun _ => 0) 2 0)))] := hD
  have eU : upd (fun _ => 0) 2 0 = (fun _ => 0) := sr_uz rfl
  rw [eU] at hP hD
  clear eU
  refine lv_dup C0.1 C0.2.1 dX6_init_60 rfl ?_
  refine lv_iconst (v := 3) C0.1 C0.2.1 dX6_init_61 (by decide) ?_
  refine lv_iconst (v := 0) C0.1 C0.2.1 dX6_init_62 (by decide) ?_
  refine va_iast C0.1 C0.2.1 hK hP hD hS 2 0 rfl rfl (sr_inc (by decide)) dX6_init_63 (fun H locs hP hD hS => ?_)
  have hP : va_P D vwCl [(q0, .inr (6, [.null, .ref q1, .null])), (q1, .inl (cI, 7, .inl (upd (upd (upd (upd (upd (fun _ => 0) 0 20) 1 1) 2 20) 5 30) 6 5))), (q2, .inl (cI, 4, .inl (upd (fun _ => 0) 3 0)))] H := hP
  have hD : va_D A [(q0, .inr (6, [.null, .ref q1, .null])), (q1, .inl (cI, 7, .inl (upd (upd (upd (upd (upd (fun _ => 0) 0 20) 1 1) 2 20) 5 30) 6 5))), (q2, .inl (cI, 4, .inl (upd (fun _ => 0) 3 0)))] := hD
  have eU : upd (fun _ => 0) 3 0 = (fun _ => 0) := sr_uz rfl
  rw [eU] at hP hD
  clear eU
  refine va_putF (D := D) (ci := 6) (v := .ref q2) (ty := (.array .int)) (C := RX6) (T := TX6) (N := 3) C0.1 C0.2.1 C0.2.2.2.2 sr_inX6 tyX6 tyX6_ok nmX6 C0.2.2.2.1 hK hP hD hS 0 rfl rfl 2 (by decide) (C0.2.2.2.2 _ sw_73) (fun _ h9 => h9) rfl hin rfl (by decide +kernel) rfl rfl (Nat.le_of_ble_eq_true rfl) dX6_init_64 (fun H locs hP hD hS => ?_)
  have hP : va_P D vwCl [(q0, .inr (6, [.null, .ref q1, .ref q2])), (q1, .inl (cI, 7, .inl (upd (upd (upd (upd (upd (fun _ => 0) 0 20) 1 1) 2 20) 5 30) 6 5))), (q2, .inl (cI, 4, .inl (fun _ => 0)))] H := hP
  have hD : va_D A [(q0, .inr (6, [.null, .ref q1, .ref q2])), (q1, .inl (cI, 7, .inl (upd (upd (upd (upd (upd (fun _ => 0) 0 20) 1 1) 2 20) 5 30) 6 5))), (q2, .inl (cI, 4, .inl (fun _ => 0)))] := hD
  refine lv_aload_n C0.1 C0.2.1 dX6_init_67 rfl (lv_at hl 0 rfl) ?_
  refine lv_aload_n C0.1 C0.2.1 dX6_init_68 rfl (lv_at hl 1 rfl) ?_
  refine va_putF (D := D) (ci := 6) (v := .ref x0) (ty := (.object "StickRelay$Roster")) (C := RX6) (T := TX6) (N := 3) C0.1 C0.2.1 C0.2.2.2.2 sr_inX6 tyX6 tyX6_ok nmX6 C0.2.2.2.1 hK hP hD hS 0 rfl rfl 0 (by decide) (C0.2.2.2.2 _ sw_69) (fun _ h9 => h9) rfl hin rfl (by decide +kernel) rfl rfl (Nat.le_of_ble_eq_true rfl) dX6_init_69 (fun H locs hP hD hS => ?_)
  have hP : va_P D vwCl [(q0, .inr (6, [.ref x0, .ref q1, .ref q2])), (q1, .inl (cI, 7, .inl (upd (upd (upd (upd (upd (fun _ => 0) 0 20) 1 1) 2 20) 5 30) 6 5))), (q2, .inl (cI, 4, .inl (fun _ => 0)))] H := hP
  have hD : va_D A [(q0, .inr (6, [.ref x0, .ref q1, .ref q2])), (q1, .inl (cI, 7, .inl (upd (upd (upd (upd (upd (fun _ => 0) 0 20) 1 1) 2 20) 5 30) 6 5))), (q2, .inl (cI, 4, .inl (fun _ => 0)))] := hD
  exact hret _ _ _ (fun k => ([q1, q2] : List Nat).getD k 0) _ _ dX6_init_72 hP hD hS rfl trivial
set_option maxRecDepth 100000 in
set_option maxHeartbeats 8000000 in
theorem nn_X3_init {l : Launch} {D : va_G} {cI cR : ClassId} (q0 sz : Nat) (x0 : Nat) (x1 : Nat) : sr_N l D (sr_tC cI cR) sz [(q0, .inr (3, [.null, .null, .null, .null, .null]))] yX3_init cX3_init 3 1 20 3 10 [.ref q0, .ref x0, .ref x1] (S := Nat → Nat) (fun _ => True) (fun u => [(q0, .inr (3, [.ref x0, .ref x1, .ref (u 0), .ref (u 1), .ref (u 2)])), ((u 0), .inl (cI, 4, .inl (upd (upd (upd (fun _ => 0) 1 1) 2 2) 3 3))), ((u 1), .inl (cI, 3, .inl (upd (upd (upd (fun _ => 0) 0 8) 1 8) 2 8))), ((u 2), .inl (cI, 3, .inl (fun _ => 0)))]) := by
  refine sr_Nof (by decide +kernel) rfl (Nat.le_of_ble_eq_true rfl) (fun p e s m args below meth c ls Q A C0 hin hP hK hD hA hZ hl hret => ?_)
  have hl : lv_has ls 3 [(0, .ref q0), (1, .ref x0), (2, .ref x1)] := hl
  have hS : va_S A s.heap s.heap [] := va_S.rf
  refine lv_aload_n C0.1 C0.2.1 dX3_init_0 rfl (lv_at hl 0 rfl) ?_
  refine W.objInit C0.1 C0.2.1 C0.2.2.2.1 (C0.2.2.2.2 _ sw_86) (C0.2.2.2.2 _ sw_20) (C0.2.2.2.2 _ sw_21) rfl (hl.1.trans C0.2.2.1.symm) rfl dX3_init_1 (Nat.le_of_ble_eq_true rfl) (Nat.le_of_ble_eq_true rfl) ?_
  refine W.eq (g2 := F0 m 4 ls []) rfl ?_
  refine lv_aload_n C0.1 C0.2.1 dX3_init_4 rfl (lv_at hl 0 rfl) ?_
  refine lv_iconst (v := 4) C0.1 C0.2.1 dX3_init_5 (by decide) ?_
  refine sr_newa (k := 4) (N' := 4) C0 hK hP hD hS hA (by decide) (by decide) (Nat.le_of_ble_eq_true rfl) (Nat.le_of_ble_eq_true rfl) (Nat.le_of_ble_eq_true rfl) dX3_init_6 (fun q1 H hP hD hS => ?_)
  have hP : va_P D vwCl [(q0, .inr (3, [.null, .null, .null, .null, .null])), (q1, .inl (cI, 4, .inl (fun _ => 0)))] H := hP
  have hD : va_D A [(q0, .inr (3, [.null, .null, .null, .null, .null])), (q1, .inl (cI, 4, .inl (fun _ => 0)))] := hD
  refine W.widen (k := 1) (n := 4) (by omega) (by omega) ?_
  refine lv_dup C0.1 C0.2.1 dX3_init_8 rfl ?_
  refine lv_iconst (v := 0) C0.1 C0.2.1 dX3_init_9 (by decide) ?_
  refine lv_iconst (v := 0) C0.1 C0.2.1 dX3_init_10 (by decide) ?_
  refine va_iast C0.1 C0.2.1 hK hP hD hS 1 0 rfl rfl (sr_inc (by decide)) dX3_init_11 (fun H locs hP hD hS => ?_)
  have hP : va_P D vwCl [(q0, .inr (3, [.null, .null, .null, .null, .null])), (q1, .inl (cI, 4, .inl (upd (fun _ => 0) 0 0)))] H := hP
  have hD : va_D A [(q0, .inr (3, [.null, .null, .null, .null, .null])), (q1, .inl (cI, 4, .inl (upd (fun _ => 0) 0 0)))] := hD
  have eU : upd (fun _ => 0) 0 0 = (fun _ => 0) := sr_uz rfl
  rw [eU] at hP hD
  clear eU
  refine lv_dup C0.1 C0.2.1 dX3_init_12 rfl ?_
  refine lv_iconst (v := 1) C0.1 C0.2.1 dX3_init_13 (by decide) ?_
  refine lv_iconst (v := 1) C0.1 C0.2.1 dX3_init_14 (by decide) ?_
  refine va_iast C0.1 C0.2.1 hK hP hD hS 1 0 rfl rfl (sr_inc (by decide)) dX3_init_15 (fun H locs hP hD hS => ?_)
  have hP : va_P D vwCl [(q0, .inr (3, [.null, .null, .null, .null, .null])), (q1, .inl (cI, 4, .inl (upd (fun _ => 0) 1 1)))] H := hP
  have hD : va_D A [(q0, .inr (3, [.null, .null, .null, .null, .null])), (q1, .inl (cI, 4, .inl (upd (fun _ => 0) 1 1)))] := hD
  refine lv_dup C0.1 C0.2.1 dX3_init_16 rfl ?_
  refine lv_iconst (v := 2) C0.1 C0.2.1 dX3_init_17 (by decide) ?_
  refine lv_iconst (v := 2) C0.1 C0.2.1 dX3_init_18 (by decide) ?_
  refine va_iast C0.1 C0.2.1 hK hP hD hS 1 0 rfl rfl (sr_inc (by decide)) dX3_init_19 (fun H locs hP hD hS => ?_)
  have hP : va_P D vwCl [(q0, .inr (3, [.null, .null, .null, .null, .null])), (q1, .inl (cI, 4, .inl (upd (upd (fun _ => 0) 1 1) 2 2)))] H := hP
  have hD : va_D A [(q0, .inr (3, [.null, .null, .null, .null, .null])), (q1, .inl (cI, 4, .inl (upd (upd (fun _ => 0) 1 1) 2 2)))] := hD
  refine lv_dup C0.1 C0.2.1 dX3_init_20 rfl ?_
  refine lv_iconst (v := 3) C0.1 C0.2.1 dX3_init_21 (by decide) ?_
  refine lv_iconst (v := 3) C0.1 C0.2.1 dX3_init_22 (by decide) ?_
  refine va_iast C0.1 C0.2.1 hK hP hD hS 1 0 rfl rfl (sr_inc (by decide)) dX3_init_23 (fun H locs hP hD hS => ?_)
  have hP : va_P D vwCl [(q0, .inr (3, [.null, .null, .null, .null, .null])), (q1, .inl (cI, 4, .inl (upd (upd (upd (fun _ => 0) 1 1) 2 2) 3 3)))] H := hP
  have hD : va_D A [(q0, .inr (3, [.null, .null, .null, .null, .null])), (q1, .inl (cI, 4, .inl (upd (upd (upd (fun _ => 0) 1 1) 2 2) 3 3)))] := hD
  refine va_putF (D := D) (ci := 3) (v := .ref q1) (ty := (.array .int)) (C := RX3) (T := TX3) (N := 5) C0.1 C0.2.1 C0.2.2.2.2 sr_inX3 tyX3 tyX3_ok nmX3 C0.2.2.2.1 hK hP hD hS 0 rfl rfl 2 (by decide) (C0.2.2.2.2 _ sw_89) (fun _ h9 => h9) rfl hin rfl (by decide +kernel) rfl rfl (Nat.le_of_ble_eq_true rfl) dX3_init_24 (fun H locs hP hD hS => ?_)
  have hP : va_P D vwCl [(q0, .inr (3, [.null, .null, .ref q1, .null, .null])), (q1, .inl (cI, 4, .inl (upd (upd (upd (fun _ => 0) 1 1) 2 2) 3 3)))] H := hP
  have hD : va_D A [(q0, .inr (3, [.null, .null, .ref q1, .null, .null])), (q1, .inl (cI, 4, .inl (upd (upd (upd (fun _ => 0) 1 1) 2 2) 3 3)))] := hD
  refine lv_aload_n C0.1 C0.2.1 dX3_init_27 rfl (lv_at hl 0 rfl) ?_
  refine lv_iconst (v := 3) C0.1 C0.2.1 dX3_init_28 (by decide) ?_
  refine sr_newa (k := 3) (N' := 3) C0 hK hP hD hS hA (by decide) (by decide) (Nat.le_of_ble_eq_true rfl) (Nat.le_of_ble_eq_true rfl) (Nat.le_of_ble_eq_true rfl) dX3_init_29 (fun q2 H hP hD hS => ?_)
  have hP : va_P D vwCl [(q0, .inr (3, [.null, .null, .ref q1, .null, .null])), (q1, .inl (cI, 4, .inl (upd (upd (upd (fun _ => 0) 1 1) 2 2) 3 3))), (q2, .inl (cI, 3, .inl (fun _ => 0)))] H := hP
  have hD : va_D A [(q0, .inr (3, [.null, .null, .ref q1, .null, .null])), (q1, .inl (cI, 4, .inl (upd (upd (upd (fun _ => 0) 1 1) 2 2) 3 3))), (q2, .inl (cI, 3, .inl (fun _ => 0)))] := hD
  refine W.widen (k := 2) (n := 7) (by omega) (by omega) ?_
  refine lv_dup C0.1 C0.2.1 dX3_init_31 rfl ?_
  refine lv_iconst (v := 0) C0.1 C0.2.1 dX3_init_32 (by decide) ?_
  refine lv_bipush (v := 8) C0.1 C0.2.1 dX3_init_33 (by decide) ?_
  refine va_iast C0.1 C0.2.1 hK hP hD hS 2 0 rfl rfl (sr_inc (by decide)) dX3_init_35 (fun H locs hP hD hS => ?_)
  have hP : va_P D vwCl [(q0, .inr (3, [.null, .null, .ref q1, .null, .null])), (q1, .inl (cI, 4, .inl (upd (upd (upd (fun _ => 0) 1 1) 2 2) 3 3))), (q2, .inl (cI, 3, .inl (upd (fun _ => 0) 0 8)))] H := hP
  have hD : va_D A [(q0, .inr (3, [.null, .null, .ref q1, .null, .null])), (q1, .inl (cI, 4, .inl (upd (upd (upd (fun _ => 0) 1 1) 2 2) 3 3))), (q2, .inl (cI, 3, .inl (upd (fun _ => 0) 0 8)))] := hD
  refine lv_dup C0.1 C0.2.1 dX3_init_36 rfl ?_
  refine lv_iconst (v := 1) C0.1 C0.2.1 dX3_init_37 (by decide) ?_
  refine lv_bipush (v := 8) C0.1 C0.2.1 dX3_init_38 (by decide) ?_
  refine va_iast C0.1 C0.2.1 hK hP hD hS 2 0 rfl rfl (sr_inc (by decide)) dX3_init_40 (fun H locs hP hD hS => ?_)
  have hP : va_P D vwCl [(q0, .inr (3, [.null, .null, .ref q1, .null, .null])), (q1, .inl (cI, 4, .inl (upd (upd (upd (fun _ => 0) 1 1) 2 2) 3 3))), (q2, .inl (cI, 3, .inl (upd (upd (fun _ => 0) 0 8) 1 8)))] H := hP
  have hD : va_D A [(q0, .inr (3, [.null, .null, .ref q1, .null, .null])), (q1, .inl (cI, 4, .inl (upd (upd (upd (fun _ => 0) 1 1) 2 2) 3 3))), (q2, .inl (cI, 3, .inl (upd (upd (fun _ => 0) 0 8) 1 8)))] := hD
  refine lv_dup C0.1 C0.2.1 dX3_init_41 rfl ?_
  refine lv_iconst (v := 2) C0.1 C0.2.1 dX3_init_42 (by decide) ?_
  refine lv_bipush (v := 8) C0.1 C0.2.1 dX3_init_43 (by decide) ?_
  refine va_iast C0.1 C0.2.1 hK hP hD hS 2 0 rfl rfl (sr_inc (by decide)) dX3_init_45 (fun H locs hP hD hS => ?_)
  have hP : va_P D vwCl [(q0, .inr (3, [.null, .null, .ref q1, .null, .null])), (q1, .inl (cI, 4, .inl (upd (upd (upd (fun _ => 0) 1 1) 2 2) 3 3))), (q2, .inl (cI, 3, .inl (upd (upd (upd (fun _ => 0) 0 8) 1 8) 2 8)))] H := hP
  have hD : va_D A [(q0, .inr (3, [.null, .null, .ref q1, .null, .null])), (q1, .inl (cI, 4, .inl (upd (upd (upd (fun _ => 0) 1 1) 2 2) 3 3))), (q2, .inl (cI, 3, .inl (upd (upd (upd (fun _ => 0) 0 8) 1 8) 2 8)))] := hD
  refine va_putF (D := D) (ci := 3) (v := .ref q2) (ty := (.array .int)) (C := RX3) (T := TX3) (N := 5) C0.1 C0.2.1 C0.2.2.2.2 sr_inX3 tyX3 tyX3_ok nmX3 C0.2.2.2.1 hK hP hD hS 0 rfl rfl 3 (by decide) (C0.2.2.2.2 _ sw_92) (fun _ h9 => h9) rfl hin rfl (by decide +kernel) rfl rfl (Nat.le_of_ble_eq_true rfl) dX3_init_46 (fun H locs hP hD hS => ?_)
  have hP : va_P D vwCl [(q0, .inr (3, [.null, .null, .ref q1, .ref q2, .null])), (q1, .inl (cI, 4, .inl (upd (upd (upd (fun _ => 0) 1 1) 2 2) 3 3))), (q2, .inl (cI, 3, .inl (upd (upd (upd (fun _ => 0) 0 8) 1 8) 2 8)))] H := hP
  have hD : va_D A [(q0, .inr (3, [.null, .null, .ref q1, .ref q2, .null])), (q1, .inl (cI, 4, .inl (upd (upd (upd (fun _ => 0) 1 1) 2 2) 3 3))), (q2, .inl (cI, 3, .inl (upd (upd (upd (fun _ => 0) 0 8) 1 8) 2 8)))] := hD
  refine lv_aload_n C0.1 C0.2.1 dX3_init_49 rfl (lv_at hl 0 rfl) ?_
  refine lv_iconst (v := 3) C0.1 C0.2.1 dX3_init_50 (by decide) ?_
  refine sr_newa (k := 3) (N' := 3) C0 hK hP hD hS hA (by decide) (by decide) (Nat.le_of_ble_eq_true rfl) (Nat.le_of_ble_eq_true rfl) (Nat.le_of_ble_eq_true rfl) dX3_init_51 (fun q3 H hP hD hS => ?_)
  have hP : va_P D vwCl [(q0, .inr (3, [.null, .null, .ref q1, .ref q2, .null])), (q1, .inl (cI, 4, .inl (upd (upd (upd (fun _ => 0) 1 1) 2 2) 3 3))), (q2, .inl (cI, 3, .inl (upd (upd (upd (fun _ => 0) 0 8) 1 8) 2 8))), (q3, .inl (cI, 3, .inl (fun _ => 0)))] H := hP
  have hD : va_D A [(q0, .inr (3, [.null, .null, .ref q1, .ref q2, .null])), (q1, .inl (cI, 4, .inl (upd (upd (upd (fun _ => 0) 1 1) 2 2) 3 3))), (q2, .inl (cI, 3, .inl (upd (upd (upd (fun _ => 0) 0 8) 1 8) 2 8))), (q3, .inl (cI, 3, .inl (fun _ => 0)))] := hD
  refine W.widen (k := 3) (n := 10) (by omega) (by omega) ?_
  refine lv_dup C0.1 C0.2.1 dX3_init_53 rfl ?_
  refine lv_iconst (v := 0) C0.1 C0.2.1 dX3_init_54 (by decide) ?_
  refine lv_iconst (v := 0) C0.1 C0.2.1 dX3_init_55 (by decide) ?_
  refine va_iast C0.1 C0.2.1 hK hP hD hS 3 0 rfl rfl (sr_inc (by decide)) dX3_init_56 (fun H locs hP hD hS => ?_)
  have hP : va_P D vwCl [(q0, .inr (3, [.null, .null, .ref q1, .ref q2, .null])), (q1, .inl (cI, 4, .inl (upd (upd (upd (fun _ => 0) 1 1) 2 2) 3 3))), (q2, .inl (cI, 3, .inl (upd (upd (upd (fun _ => 0) 0 8) 1 8) 2 8))), (q3, .inl (cI, 3, .inl (upd (fun _ => 0) 0 0)))] H := hP
  have hD : va_D A [(q0, .inr (3, [.null, .null, .ref q1, .ref q2, .null])), (q1, .inl (cI, 4, .inl (upd (upd (upd (fun _ => 0) 1 1) 2 2) 3 3))), (q2, .inl (cI, 3, .inl (upd (upd (upd (fun _ => 0) 0 8) 1 8) 2 8))), (q3, .inl (cI, 3, .inl (upd (fun _ => 0) 0 0)))] := hD
  have eU : upd (fun _ => 0) 0 0 = (fun _ => 0) := sr_uz rfl
  rw [eU] at hP hD
  clear eU
  refine lv_dup C0.1 C0.2.1 dX3_init_57 rfl ?_
  refine lv_iconst (v := 1) C0.1 C0.2.1 dX3_init_58 (by decide) ?_
  refine lv_iconst (v := 0) C0.1 C0.2.1 dX3_init_59 (by decide) ?_
  refine va_iast C0.1 C0.2.1 hK hP hD hS 3 0 rfl rfl (sr_inc (by decide)) dX3_init_60 (fun H locs hP hD hS => ?_)
  have hP : va_P D vwCl [(q0, .inr (3, [.null, .null, .ref q1, .ref q2, .null])), (q1, .inl (cI, 4, .inl (upd (upd (upd (fun _ => 0) 1 1) 2 2) 3 3))), (q2, .inl (cI, 3, .inl (upd (upd (upd (fun _ => 0) 0 8) 1 8) 2 8))), (q3, .inl (cI, 3, .inl (upd (fun _ => 0) 1 0)))] H := hP
  have hD : va_D A [(q0, .inr (3, [.null, .null, .ref q1, .ref q2, .null])), (q1, .inl (cI, 4, .inl (upd (upd (upd (fun _ => 0) 1 1) 2 2) 3 3))), (q2, .inl (cI, 3, .inl (upd (upd (upd (fun _ => 0) 0 8) 1 8) 2 8))), (q3, .inl (cI, 3, .inl (upd (fun _ => 0) 1 0)))] := hD
  have eU : upd (fun _ => 0) 1 0 = (fun _ => 0) := sr_uz rfl
  rw [eU] at hP hD
  clear eU
  refine lv_dup C0.1 C0.2.1 dX3_init_61 rfl ?_
  refine lv_iconst (v := 2) C0.1 C0.2.1 dX3_init_62 (by decide) ?_
  refine lv_iconst (v := 0) C0.1 C0.2.1 dX3_init_63 (by decide) ?_
  refine va_iast C0.1 C0.2.1 hK hP hD hS 3 0 rfl rfl (sr_inc (by decide)) dX3_init_64 (fun H locs hP hD hS => ?_)
  have hP : va_P D vwCl [(q0, .inr (3, [.null, .null, .ref q1, .ref q2, .null])), (q1, .inl (cI, 4, .inl (upd (upd (upd (fun _ => 0) 1 1) 2 2) 3 3))), (q2, .inl (cI, 3, .inl (upd (upd (upd (fun _ => 0) 0 8) 1 8) 2 8))), (q3, .inl (cI, 3, .inl (upd (fun _ => 0) 2 0)))] H := hP
  have hD : va_D A [(q0, .inr (3, [.null, .null, .ref q1, .ref q2, .null])), (q1, .inl (cI, 4, .inl (upd (upd (upd (fun _ => 0) 1 1) 2 2) 3 3))), (q2, .inl (cI, 3, .inl (upd (upd (upd (fun _ => 0) 0 8) 1 8) 2 8))), (q3, .inl (cI, 3, .inl (upd (fun _ => 0) 2 0)))] := hD
  have eU : upd (fun _ => 0) 2 0 = (fun _ => 0) := sr_uz rfl
  rw [eU] at hP hD
  clear eU
  refine va_putF (D := D) (ci := 3) (v := .ref q3) (ty := (.array .int)) (C := RX3) (T := TX3) (N := 5) C0.1 C0.2.1 C0.2.2.2.2 sr_inX3 tyX3 tyX3_ok nmX3 C0.2.2.2.1 hK hP hD hS 0 rfl rfl 4 (by decide) (C0.2.2.2.2 _ sw_95) (fun _ h9 => h9) rfl hin rfl (by decide +kernel) rfl rfl (Nat.le_of_ble_eq_true rfl) dX3_init_65 (fun H locs hP hD hS => ?_)
  have hP : va_P D vwCl [(q0, .inr (3, [.null, .null, .ref q1, .ref q2, .ref q3])), (q1, .inl (cI, 4, .inl (upd (upd (upd (fun _ => 0) 1 1) 2 2) 3 3))), (q2, .inl (cI, 3, .inl (upd (upd (upd (fun _ => 0) 0 8) 1 8) 2 8))), (q3, .inl (cI, 3, .inl (fun _ => 0)))] H := hP
  have hD : va_D A [(q0, .inr (3, [.null, .null, .ref q1, .ref q2, .ref q3])), (q1, .inl (cI, 4, .inl (upd (upd (upd (fun _ => 0) 1 1) 2 2) 3 3))), (q2, .inl (cI, 3, .inl (upd (upd (upd (fun _ => 0) 0 8) 1 8) 2 8))), (q3, .inl (cI, 3, .inl (fun _ => 0)))] := hD
  refine lv_aload_n C0.1 C0.2.1 dX3_init_68 rfl (lv_at hl 0 rfl) ?_
  refine lv_aload_n C0.1 C0.2.1 dX3_init_69 rfl (lv_at hl 1 rfl) ?_
  refine va_putF (D := D) (ci := 3) (v := .ref x0) (ty := (.object "StickRelay$Roster")) (C := RX3) (T := TX3) (N := 5) C0.1 C0.2.1 C0.2.2.2.2 sr_inX3 tyX3 tyX3_ok nmX3 C0.2.2.2.1 hK hP hD hS 0 rfl rfl 0 (by decide) (C0.2.2.2.2 _ sw_87) (fun _ h9 => h9) rfl hin rfl (by decide +kernel) rfl rfl (Nat.le_of_ble_eq_true rfl) dX3_init_70 (fun H locs hP hD hS => ?_)
  have hP : va_P D vwCl [(q0, .inr (3, [.ref x0, .null, .ref q1, .ref q2, .ref q3])), (q1, .inl (cI, 4, .inl (upd (upd (upd (fun _ => 0) 1 1) 2 2) 3 3))), (q2, .inl (cI, 3, .inl (upd (upd (upd (fun _ => 0) 0 8) 1 8) 2 8))), (q3, .inl (cI, 3, .inl (fun _ => 0)))] H := hP
  have hD : va_D A [(q0, .inr (3, [.ref x0, .null, .ref q1, .ref q2, .ref q3])), (q1, .inl (cI, 4, .inl (upd (upd (upd (fun _ => 0) 1 1) 2 2) 3 3))), (q2, .inl (cI, 3, .inl (upd (upd (upd (fun _ => 0) 0 8) 1 8) 2 8))), (q3, .inl (cI, 3, .inl (fun _ => 0)))] := hD
  refine lv_aload_n C0.1 C0.2.1 dX3_init_73 rfl (lv_at hl 0 rfl) ?_
  refine lv_aload_n C0.1 C0.2.1 dX3_init_74 rfl (lv_at hl 2 rfl) ?_
  refine va_putF (D := D) (ci := 3) (v := .ref x1) (ty := (.object "StickRelay$Track")) (C := RX3) (T := TX3) (N := 5) C0.1 C0.2.1 C0.2.2.2.2 sr_inX3 tyX3 tyX3_ok nmX3 C0.2.2.2.1 hK hP hD hS 0 rfl rfl 1 (by decide) (C0.2.2.2.2 _ sw_88) (fun _ h9 => h9) rfl hin rfl (by decide +kernel) rfl rfl (Nat.le_of_ble_eq_true rfl) dX3_init_75 (fun H locs hP hD hS => ?_)
  have hP : va_P D vwCl [(q0, .inr (3, [.ref x0, .ref x1, .ref q1, .ref q2, .ref q3])), (q1, .inl (cI, 4, .inl (upd (upd (upd (fun _ => 0) 1 1) 2 2) 3 3))), (q2, .inl (cI, 3, .inl (upd (upd (upd (fun _ => 0) 0 8) 1 8) 2 8))), (q3, .inl (cI, 3, .inl (fun _ => 0)))] H := hP
  have hD : va_D A [(q0, .inr (3, [.ref x0, .ref x1, .ref q1, .ref q2, .ref q3])), (q1, .inl (cI, 4, .inl (upd (upd (upd (fun _ => 0) 1 1) 2 2) 3 3))), (q2, .inl (cI, 3, .inl (upd (upd (upd (fun _ => 0) 0 8) 1 8) 2 8))), (q3, .inl (cI, 3, .inl (fun _ => 0)))] := hD
  exact hret _ _ _ (fun k => ([q1, q2, q3] : List Nat).getD k 0) _ _ dX3_init_78 hP hD hS rfl trivial
set_option maxRecDepth 100000 in
set_option maxHeartbeats 8000000 in
theorem nn_X1_init {l : Launch} {D : va_G} {cI cR : ClassId} (q0 sz : Nat) (x0 : Nat) (x1 : Nat) : sr_N l D (sr_tC cI cR) sz [(q0, .inr (1, [.null, .null, .null]))] yX1_init cX1_init 3 1 20 1 5 [.ref q0, .ref x0, .ref x1] (S := Nat → Nat) (fun _ => True) (fun u => [(q0, .inr (1, [.ref x0, .ref x1, .ref (u 0)])), ((u 0), .inl (cI, 5, .inl (fun _ => 0)))]) := by
  refine sr_Nof (by decide +kernel) rfl (Nat.le_of_ble_eq_true rfl) (fun p e s m args below meth c ls Q A C0 hin hP hK hD hA hZ hl hret => ?_)
  have hl : lv_has ls 3 [(0, .ref q0), (1, .ref x0), (2, .ref x1)] := hl
  have hS : va_S A s.heap s.heap [] := va_S.rf
  refine lv_aload_n C0.1 C0.2.1 dX1_init_0 rfl (lv_at hl 0 rfl) ?_
  refine W.objInit C0.1 C0.2.1 C0.2.2.2.1 (C0.2.2.2.2 _ sw_113) (C0.2.2.2.2 _ sw_20) (C0.2.2.2.2 _ sw_21) rfl (hl.1.trans C0.2.2.1.symm) rfl dX1_init_1 (Nat.le_of_ble_eq_true rfl) (Nat.le_of_ble_eq_true rfl) ?_
  refine W.eq (g2 := F0 m 4 ls []) rfl ?_
  refine lv_aload_n C0.1 C0.2.1 dX1_init_4 rfl (lv_at hl 0 rfl) ?_
  refine lv_iconst (v := 5) C0.1 C0.2.1 dX1_init_5 (by decide) ?_
  refine sr_newa (k := 5) (N' := 5) C0 hK hP hD hS hA (by decide) (by decide) (Nat.le_of_ble_eq_true rfl) (Nat.le_of_ble_eq_true rfl) (Nat.le_of_ble_eq_true rfl) dX1_init_6 (fun q1 H hP hD hS => ?_)
  have hP : va_P D vwCl [(q0, .inr (1, [.null, .null, .null])), (q1, .inl (cI, 5, .inl (fun _ => 0)))] H := hP
  have hD : va_D A [(q0, .inr (1, [.null, .null, .null])), (q1, .inl (cI, 5, .inl (fun _ => 0)))] := hD
  refine W.widen (k := 1) (n := 5) (by omega) (by omega) ?_
  refine va_putF (D := D) (ci := 1) (v := .ref q1) (ty := (.array .int)) (C := RX1) (T := TX1) (N := 3) C0.1 C0.2.1 C0.2.2.2.2 sr_inX1 tyX1 tyX1_ok nmX1 C0.2.2.2.1 hK hP hD hS 0 rfl rfl 2 (by decide) (C0.2.2.2.2 _ sw_116) (fun _ h9 => h9) rfl hin rfl (by decide +kernel) rfl rfl (Nat.le_of_ble_eq_true rfl) dX1_init_8 (fun H locs hP hD hS => ?_)
  have hP : va_P D vwCl [(q0, .inr (1, [.null, .null, .ref q1])), (q1, .inl (cI, 5, .inl (fun _ => 0)))] H := hP
  have hD : va_D A [(q0, .inr (1, [.null, .null, .ref q1])), (q1, .inl (cI, 5, .inl (fun _ => 0)))] := hD
  refine lv_aload_n C0.1 C0.2.1 dX1_init_11 rfl (lv_at hl 0 rfl) ?_
  refine lv_aload_n C0.1 C0.2.1 dX1_init_12 rfl (lv_at hl 1 rfl) ?_
  refine va_putF (D := D) (ci := 1) (v := .ref x0) (ty := (.object "StickRelay$Track")) (C := RX1) (T := TX1) (N := 3) C0.1 C0.2.1 C0.2.2.2.2 sr_inX1 tyX1 tyX1_ok nmX1 C0.2.2.2.1 hK hP hD hS 0 rfl rfl 0 (by decide) (C0.2.2.2.2 _ sw_114) (fun _ h9 => h9) rfl hin rfl (by decide +kernel) rfl rfl (Nat.le_of_ble_eq_true rfl) dX1_init_13 (fun H locs hP hD hS => ?_)
  have hP : va_P D vwCl [(q0, .inr (1, [.ref x0, .null, .ref q1])), (q1, .inl (cI, 5, .inl (fun _ => 0)))] H := hP
  have hD : va_D A [(q0, .inr (1, [.ref x0, .null, .ref q1])), (q1, .inl (cI, 5, .inl (fun _ => 0)))] := hD
  refine lv_aload_n C0.1 C0.2.1 dX1_init_16 rfl (lv_at hl 0 rfl) ?_
  refine lv_aload_n C0.1 C0.2.1 dX1_init_17 rfl (lv_at hl 2 rfl) ?_
  refine va_putF (D := D) (ci := 1) (v := .ref x1) (ty := (.object "StickRelay$Race")) (C := RX1) (T := TX1) (N := 3) C0.1 C0.2.1 C0.2.2.2.2 sr_inX1 tyX1 tyX1_ok nmX1 C0.2.2.2.1 hK hP hD hS 0 rfl rfl 1 (by decide) (C0.2.2.2.2 _ sw_115) (fun _ h9 => h9) rfl hin rfl (by decide +kernel) rfl rfl (Nat.le_of_ble_eq_true rfl) dX1_init_18 (fun H locs hP hD hS => ?_)
  have hP : va_P D vwCl [(q0, .inr (1, [.ref x0, .ref x1, .ref q1])), (q1, .inl (cI, 5, .inl (fun _ => 0)))] H := hP
  have hD : va_D A [(q0, .inr (1, [.ref x0, .ref x1, .ref q1])), (q1, .inl (cI, 5, .inl (fun _ => 0)))] := hD
  exact hret _ _ _ (fun k => ([q1] : List Nat).getD k 0) _ _ dX1_init_21 hP hD hS rfl trivial
set_option maxRecDepth 100000 in
set_option maxHeartbeats 8000000 in
theorem nn_X2_init {l : Launch} {D : va_G} {cI cR : ClassId} (q0 sz : Nat) (x0 : Nat) (x1 : Nat) : sr_N l D (sr_tC cI cR) sz [(q0, .inr (2, [.null, .null, .null, .null, .null]))] yX2_init cX2_init 3 1 20 9 164 [.ref q0, .ref x0, .ref x1] (S := Nat → Nat) (fun _ => True) (fun u => [(q0, .inr (2, [.ref x0, .ref x1, .ref (u 0), .ref (u 4), .ref (u 8)])), ((u 0), .inl (cR, 3, .inr (.inr (.inr (.inr (sr_o u 1 3)))))), ((u 1), .inl (cI, 25, .inl (fun _ => 0))), ((u 2), .inl (cI, 25, .inl (fun _ => 0))), ((u 3), .inl (cI, 25, .inl (fun _ => 0))), ((u 4), .inl (cR, 3, .inr (.inr (.inr (.inr (sr_o u 5 3)))))), ((u 5), .inl (cI, 25, .inl (fun _ => 0))), ((u 6), .inl (cI, 25, .inl (fun _ => 0))), ((u 7), .inl (cI, 25, .inl (fun _ => 0))), ((u 8), .inl (cI, 8, .inl (fun _ => 0)))]) := by
  refine sr_Nof (by decide +kernel) rfl (Nat.le_of_ble_eq_true rfl) (fun p e s m args below meth c ls Q A C0 hin hP hK hD hA hZ hl hret => ?_)
  have hl : lv_has ls 3 [(0, .ref q0), (1, .ref x0), (2, .ref x1)] := hl
  have hS : va_S A s.heap s.heap [] := va_S.rf
  refine lv_aload_n C0.1 C0.2.1 dX2_init_0 rfl (lv_at hl 0 rfl) ?_
  refine W.objInit C0.1 C0.2.1 C0.2.2.2.1 (C0.2.2.2.2 _ sw_129) (C0.2.2.2.2 _ sw_20) (C0.2.2.2.2 _ sw_21) rfl (hl.1.trans C0.2.2.1.symm) rfl dX2_init_1 (Nat.le_of_ble_eq_true rfl) (Nat.le_of_ble_eq_true rfl) ?_
  refine W.eq (g2 := F0 m 4 ls []) rfl ?_
  refine lv_aload_n C0.1 C0.2.1 dX2_init_4 rfl (lv_at hl 0 rfl) ?_
  refine lv_iconst (v := 3) C0.1 C0.2.1 dX2_init_5 (by decide) ?_
  refine lv_bipush (v := 25) C0.1 C0.2.1 dX2_init_6 (by decide) ?_
  refine sr_mna (n := 3) (k := 25) (N' := 3) (K' := 25) C0 hK hP hD hS hA hZ sw_130 (by decide) (by decide) (by decide) (by decide) (Nat.le_of_ble_eq_true rfl) (Nat.le_of_ble_eq_true rfl) (Nat.le_of_ble_eq_true rfl) (Nat.le_of_ble_eq_true rfl) dX2_init_8 (fun q1 r1 H hP hD hS => ?_)
  have hP : va_P D vwCl [(q0, .inr (2, [.null, .null, .null, .null, .null])), (q1, .inl (cR, 3, .inr (.inr (.inr (.inr (sr_o r1 0 3)))))), ((r1 0), .inl (cI, 25, .inl (fun _ => 0))), ((r1 1), .inl (cI, 25, .inl (fun _ => 0))), ((r1 2), .inl (cI, 25, .inl (fun _ => 0)))] H := hP
  have hD : va_D A [(q0, .inr (2, [.null, .null, .null, .null, .null])), (q1, .inl (cR, 3, .inr (.inr (.inr (.inr (sr_o r1 0 3)))))), ((r1 0), .inl (cI, 25, .inl (fun _ => 0))), ((r1 1), .inl (cI, 25, .inl (fun _ => 0))), ((r1 2), .inl (cI, 25, .inl (fun _ => 0)))] := hD
  refine W.widen (k := 4) (n := 78) (by omega) (by omega) ?_
  refine va_putF (D := D) (ci := 2) (v := .ref q1) (ty := (.array (.array .int))) (C := RX2) (T := TX2) (N := 5) C0.1 C0.2.1 C0.2.2.2.2 sr_inX2 tyX2 tyX2_ok nmX2 C0.2.2.2.1 hK hP hD hS 0 rfl rfl 2 (by decide) (C0.2.2.2.2 _ sw_134) (fun _ h9 => h9) rfl hin rfl (by decide +kernel) rfl rfl (Nat.le_of_ble_eq_true rfl) dX2_init_12 (fun H locs hP hD hS => ?_)
  have hP : va_P D vwCl [(q0, .inr (2, [.null, .null, .ref q1, .null, .null])), (q1, .inl (cR, 3, .inr (.inr (.inr (.inr (sr_o r1 0 3)))))), ((r1 0), .inl (cI, 25, .inl (fun _ => 0))), ((r1 1), .inl (cI, 25, .inl (fun _ => 0))), ((r1 2), .inl (cI, 25, .inl (fun _ => 0)))] H := hP
  have hD : va_D A [(q0, .inr (2, [.null, .null, .ref q1, .null, .null])), (q1, .inl (cR, 3, .inr (.inr (.inr (.inr (sr_o r1 0 3)))))), ((r1 0), .inl (cI, 25, .inl (fun _ => 0))), ((r1 1), .inl (cI, 25, .inl (fun _ => 0))), ((r1 2), .inl (cI, 25, .inl (fun _ => 0)))] := hD
  refine lv_aload_n C0.1 C0.2.1 dX2_init_15 rfl (lv_at hl 0 rfl) ?_
  refine lv_iconst (v := 3) C0.1 C0.2.1 dX2_init_16 (by decide) ?_
  refine lv_bipush (v := 25) C0.1 C0.2.1 dX2_init_17 (by decide) ?_
  refine sr_mna (n := 3) (k := 25) (N' := 3) (K' := 25) C0 hK hP hD hS hA hZ sw_130 (by decide) (by decide) (by decide) (by decide) (Nat.le_of_ble_eq_true rfl) (Nat.le_of_ble_eq_true rfl) (Nat.le_of_ble_eq_true rfl) (Nat.le_of_ble_eq_true rfl) dX2_init_19 (fun q2 r2 H hP hD hS => ?_)
  have hP : va_P D vwCl [(q0, .inr (2, [.null, .null, .ref q1, .null, .null])), (q1, .inl (cR, 3, .inr (.inr (.inr (.inr (sr_o r1 0 3)))))), ((r1 0), .inl (cI, 25, .inl (fun _ => 0))), ((r1 1), .inl (cI, 25, .inl (fun _ => 0))), ((r1 2), .inl (cI, 25, .inl (fun _ => 0))), (q2, .inl (cR, 3, .inr (.inr (.inr (.inr (sr_o r2 0 3)))))), ((r2 0), .inl (cI, 25, .inl (fun _ => 0))), ((r2 1), .inl (cI, 25, .inl (fun _ => 0))), ((r2 2), .inl (cI, 25, .inl (fun _ => 0)))] H := hP
  have hD : va_D A [(q0, .inr (2, [.null, .null, .ref q1, .null, .null])), (q1, .inl (cR, 3, .inr (.inr (.inr (.inr (sr_o r1 0 3)))))), ((r1 0), .inl (cI, 25, .inl (fun _ => 0))), ((r1 1), .inl (cI, 25, .inl (fun _ => 0))), ((r1 2), .inl (cI, 25, .inl (fun _ => 0))), (q2, .inl (cR, 3, .inr (.inr (.inr (.inr (sr_o r2 0 3)))))), ((r2 0), .inl (cI, 25, .inl (fun _ => 0))), ((r2 1), .inl (cI, 25, .inl (fun _ => 0))), ((r2 2), .inl (cI, 25, .inl (fun _ => 0)))] := hD
  refine W.widen (k := 8) (n := 156) (by omega) (by omega) ?_
  refine va_putF (D := D) (ci := 2) (v := .ref q2) (ty := (.array (.array .int))) (C := RX2) (T := TX2) (N := 5) C0.1 C0.2.1 C0.2.2.2.2 sr_inX2 tyX2 tyX2_ok nmX2 C0.2.2.2.1 hK hP hD hS 0 rfl rfl 3 (by decide) (C0.2.2.2.2 _ sw_135) (fun _ h9 => h9) rfl hin rfl (by decide +kernel) rfl rfl (Nat.le_of_ble_eq_true rfl) dX2_init_23 (fun H locs hP hD hS => ?_)
  have hP : va_P D vwCl [(q0, .inr (2, [.null, .null, .ref q1, .ref q2, .null])), (q1, .inl (cR, 3, .inr (.inr (.inr (.inr (sr_o r1 0 3)))))), ((r1 0), .inl (cI, 25, .inl (fun _ => 0))), ((r1 1), .inl (cI, 25, .inl (fun _ => 0))), ((r1 2), .inl (cI, 25, .inl (fun _ => 0))), (q2, .inl (cR, 3, .inr (.inr (.inr (.inr (sr_o r2 0 3)))))), ((r2 0), .inl (cI, 25, .inl (fun _ => 0))), ((r2 1), .inl (cI, 25, .inl (fun _ => 0))), ((r2 2), .inl (cI, 25, .inl (fun _ => 0)))] H := hP
  have hD : va_D A [(q0, .inr (2, [.null, .null, .ref q1, .ref q2, .null])), (q1, .inl (cR, 3, .inr (.inr (.inr (.inr (sr_o r1 0 3)))))), ((r1 0), .inl (cI, 25, .inl (fun _ => 0))), ((r1 1), .inl (cI, 25, .inl (fun _ => 0))), ((r1 2), .inl (cI, 25, .inl (fun _ => 0))), (q2, .inl (cR, 3, .inr (.inr (.inr (.inr (sr_o r2 0 3)))))), ((r2 0), .inl (cI, 25, .inl (fun _ => 0))), ((r2 1), .inl (cI, 25, .inl (fun _ => 0))), ((r2 2), .inl (cI, 25, .inl (fun _ => 0)))] := hD
  refine lv_aload_n C0.1 C0.2.1 dX2_init_26 rfl (lv_at hl 0 rfl) ?_
  refine lv_bipush (v := 8) C0.1 C0.2.1 dX2_init_27 (by decide) ?_
  refine sr_newa (k := 8) (N' := 8) C0 hK hP hD hS hA (by decide) (by decide) (Nat.le_of_ble_eq_true rfl) (Nat.le_of_ble_eq_true rfl) (Nat.le_of_ble_eq_true rfl) dX2_init_29 (fun q3 H hP hD hS => ?_)
  have hP : va_P D vwCl [(q0, .inr (2, [.null, .null, .ref q1, .ref q2, .null])), (q1, .inl (cR, 3, .inr (.inr (.inr (.inr (sr_o r1 0 3)))))), ((r1 0), .inl (cI, 25, .inl (fun _ => 0))), ((r1 1), .inl (cI, 25, .inl (fun _ => 0))), ((r1 2), .inl (cI, 25, .inl (fun _ => 0))), (q2, .inl (cR, 3, .inr (.inr (.inr (.inr (sr_o r2 0 3)))))), ((r2 0), .inl (cI, 25, .inl (fun _ => 0))), ((r2 1), .inl (cI, 25, .inl (fun _ => 0))), ((r2 2), .inl (cI, 25, .inl (fun _ => 0))), (q3, .inl (cI, 8, .inl (fun _ => 0)))] H := hP
  have hD : va_D A [(q0, .inr (2, [.null, .null, .ref q1, .ref q2, .null])), (q1, .inl (cR, 3, .inr (.inr (.inr (.inr (sr_o r1 0 3)))))), ((r1 0), .inl (cI, 25, .inl (fun _ => 0))), ((r1 1), .inl (cI, 25, .inl (fun _ => 0))), ((r1 2), .inl (cI, 25, .inl (fun _ => 0))), (q2, .inl (cR, 3, .inr (.inr (.inr (.inr (sr_o r2 0 3)))))), ((r2 0), .inl (cI, 25, .inl (fun _ => 0))), ((r2 1), .inl (cI, 25, .inl (fun _ => 0))), ((r2 2), .inl (cI, 25, .inl (fun _ => 0))), (q3, .inl (cI, 8, .inl (fun _ => 0)))] := hD
  refine W.widen (k := 9) (n := 164) (by omega) (by omega) ?_
  refine va_putF (D := D) (ci := 2) (v := .ref q3) (ty := (.array .int)) (C := RX2) (T := TX2) (N := 5) C0.1 C0.2.1 C0.2.2.2.2 sr_inX2 tyX2 tyX2_ok nmX2 C0.2.2.2.1 hK hP hD hS 0 rfl rfl 4 (by decide) (C0.2.2.2.2 _ sw_136) (fun _ h9 => h9) rfl hin rfl (by decide +kernel) rfl rfl (Nat.le_of_ble_eq_true rfl) dX2_init_31 (fun H locs hP hD hS => ?_)
  have hP : va_P D vwCl [(q0, .inr (2, [.null, .null, .ref q1, .ref q2, .ref q3])), (q1, .inl (cR, 3, .inr (.inr (.inr (.inr (sr_o r1 0 3)))))), ((r1 0), .inl (cI, 25, .inl (fun _ => 0))), ((r1 1), .inl (cI, 25, .inl (fun _ => 0))), ((r1 2), .inl (cI, 25, .inl (fun _ => 0))), (q2, .inl (cR, 3, .inr (.inr (.inr (.inr (sr_o r2 0 3)))))), ((r2 0), .inl (cI, 25, .inl (fun _ => 0))), ((r2 1), .inl (cI, 25, .inl (fun _ => 0))), ((r2 2), .inl (cI, 25, .inl (fun _ => 0))), (q3, .inl (cI, 8, .inl (fun _ => 0)))] H := hP
  have hD : va_D A [(q0, .inr (2, [.null, .null, .ref q1, .ref q2, .ref q3])), (q1, .inl (cR, 3, .inr (.inr (.inr (.inr (sr_o r1 0 3)))))), ((r1 0), .inl (cI, 25, .inl (fun _ => 0))), ((r1 1), .inl (cI, 25, .inl (fun _ => 0))), ((r1 2), .inl (cI, 25, .inl (fun _ => 0))), (q2, .inl (cR, 3, .inr (.inr (.inr (.inr (sr_o r2 0 3)))))), ((r2 0), .inl (cI, 25, .inl (fun _ => 0))), ((r2 1), .inl (cI, 25, .inl (fun _ => 0))), ((r2 2), .inl (cI, 25, .inl (fun _ => 0))), (q3, .inl (cI, 8, .inl (fun _ => 0)))] := hD
  refine lv_aload_n C0.1 C0.2.1 dX2_init_34 rfl (lv_at hl 0 rfl) ?_
  refine lv_aload_n C0.1 C0.2.1 dX2_init_35 rfl (lv_at hl 1 rfl) ?_
  refine va_putF (D := D) (ci := 2) (v := .ref x0) (ty := (.object "StickRelay$Roster")) (C := RX2) (T := TX2) (N := 5) C0.1 C0.2.1 C0.2.2.2.2 sr_inX2 tyX2 tyX2_ok nmX2 C0.2.2.2.1 hK hP hD hS 0 rfl rfl 0 (by decide) (C0.2.2.2.2 _ sw_132) (fun _ h9 => h9) rfl hin rfl (by decide +kernel) rfl rfl (Nat.le_of_ble_eq_true rfl) dX2_init_36 (fun H locs hP hD hS => ?_)
  have hP : va_P D vwCl [(q0, .inr (2, [.ref x0, .null, .ref q1, .ref q2, .ref q3])), (q1, .inl (cR, 3, .inr (.inr (.inr (.inr (sr_o r1 0 3)))))), ((r1 0), .inl (cI, 25, .inl (fun _ => 0))), ((r1 1), .inl (cI, 25, .inl (fun _ => 0))), ((r1 2), .inl (cI, 25, .inl (fun _ => 0))), (q2, .inl (cR, 3, .inr (.inr (.inr (.inr (sr_o r2 0 3)))))), ((r2 0), .inl (cI, 25, .inl (fun _ => 0))), ((r2 1), .inl (cI, 25, .inl (fun _ => 0))), ((r2 2), .inl (cI, 25, .inl (fun _ => 0))), (q3, .inl (cI, 8, .inl (fun _ => 0)))] H := hP
  have hD : va_D A [(q0, .inr (2, [.ref x0, .null, .ref q1, .ref q2, .ref q3])), (q1, .inl (cR, 3, .inr (.inr (.inr (.inr (sr_o r1 0 3)))))), ((r1 0), .inl (cI, 25, .inl (fun _ => 0))), ((r1 1), .inl (cI, 25, .inl (fun _ => 0))), ((r1 2), .inl (cI, 25, .inl (fun _ => 0))), (q2, .inl (cR, 3, .inr (.inr (.inr (.inr (sr_o r2 0 3)))))), ((r2 0), .inl (cI, 25, .inl (fun _ => 0))), ((r2 1), .inl (cI, 25, .inl (fun _ => 0))), ((r2 2), .inl (cI, 25, .inl (fun _ => 0))), (q3, .inl (cI, 8, .inl (fun _ => 0)))] := hD
  refine lv_aload_n C0.1 C0.2.1 dX2_init_39 rfl (lv_at hl 0 rfl) ?_
  refine lv_aload_n C0.1 C0.2.1 dX2_init_40 rfl (lv_at hl 2 rfl) ?_
  refine va_putF (D := D) (ci := 2) (v := .ref x1) (ty := (.object "StickRelay$Track")) (C := RX2) (T := TX2) (N := 5) C0.1 C0.2.1 C0.2.2.2.2 sr_inX2 tyX2 tyX2_ok nmX2 C0.2.2.2.1 hK hP hD hS 0 rfl rfl 1 (by decide) (C0.2.2.2.2 _ sw_133) (fun _ h9 => h9) rfl hin rfl (by decide +kernel) rfl rfl (Nat.le_of_ble_eq_true rfl) dX2_init_41 (fun H locs hP hD hS => ?_)
  have hP : va_P D vwCl [(q0, .inr (2, [.ref x0, .ref x1, .ref q1, .ref q2, .ref q3])), (q1, .inl (cR, 3, .inr (.inr (.inr (.inr (sr_o r1 0 3)))))), ((r1 0), .inl (cI, 25, .inl (fun _ => 0))), ((r1 1), .inl (cI, 25, .inl (fun _ => 0))), ((r1 2), .inl (cI, 25, .inl (fun _ => 0))), (q2, .inl (cR, 3, .inr (.inr (.inr (.inr (sr_o r2 0 3)))))), ((r2 0), .inl (cI, 25, .inl (fun _ => 0))), ((r2 1), .inl (cI, 25, .inl (fun _ => 0))), ((r2 2), .inl (cI, 25, .inl (fun _ => 0))), (q3, .inl (cI, 8, .inl (fun _ => 0)))] H := hP
  have hD : va_D A [(q0, .inr (2, [.ref x0, .ref x1, .ref q1, .ref q2, .ref q3])), (q1, .inl (cR, 3, .inr (.inr (.inr (.inr (sr_o r1 0 3)))))), ((r1 0), .inl (cI, 25, .inl (fun _ => 0))), ((r1 1), .inl (cI, 25, .inl (fun _ => 0))), ((r1 2), .inl (cI, 25, .inl (fun _ => 0))), (q2, .inl (cR, 3, .inr (.inr (.inr (.inr (sr_o r2 0 3)))))), ((r2 0), .inl (cI, 25, .inl (fun _ => 0))), ((r2 1), .inl (cI, 25, .inl (fun _ => 0))), ((r2 2), .inl (cI, 25, .inl (fun _ => 0))), (q3, .inl (cI, 8, .inl (fun _ => 0)))] := hD
  have er1 : sr_o r1 0 3 = sr_o (fun k => ([q1, (r1 0), (r1 1), (r1 2), q2, (r2 0), (r2 1), (r2 2), q3] : List Nat).getD k 0) 1 3 := sr_o_c (fun i hi => by rcases (show i = 0 ∨ i = 1 ∨ i = 2 by omega) with rfl | rfl | rfl <;> rfl)
  rw [er1] at hP hD
  have er2 : sr_o r2 0 3 = sr_o (fun k => ([q1, (r1 0), (r1 1), (r1 2), q2, (r2 0), (r2 1), (r2 2), q3] : List Nat).getD k 0) 5 3 := sr_o_c (fun i hi => by rcases (show i = 0 ∨ i = 1 ∨ i = 2 by omega) with rfl | rfl | rfl <;> rfl)
  rw [er2] at hP hD
  exact hret _ _ _ (fun k => ([q1, (r1 0), (r1 1), (r1 2), q2, (r2 0), (r2 1), (r2 2), q3] : List Nat).getD k 0) _ _ dX2_init_44 hP hD hS rfl trivial
set_option maxRecDepth 100000 in
set_option maxHeartbeats 8000000 in
theorem nn_X0_init {l : Launch} {D : va_G} {cI cR : ClassId} (q0 sz : Nat) : sr_N l D (sr_tC cI cR) sz [(q0, .inr (0, [.null, .int 0]))] yX0_init cX0_init 1 1 20 1 3 [.ref q0] (S := Nat → Nat) (fun _ => True) (fun u => [(q0, .inr (0, [.ref (u 0), .int 0])), ((u 0), .inl (cI, 3, .inl (fun _ => 0)))]) := by
  refine sr_Nof (by decide +kernel) rfl (Nat.le_of_ble_eq_true rfl) (fun p e s m args below meth c ls Q A C0 hin hP hK hD hA hZ hl hret => ?_)
  have hl : lv_has ls 1 [(0, .ref q0)] := hl
  have hS : va_S A s.heap s.heap [] := va_S.rf
  refine lv_aload_n C0.1 C0.2.1 dX0_init_0 rfl (lv_at hl 0 rfl) ?_
  refine W.objInit C0.1 C0.2.1 C0.2.2.2.1 (C0.2.2.2.2 _ sw_154) (C0.2.2.2.2 _ sw_20) (C0.2.2.2.2 _ sw_21) rfl (hl.1.trans C0.2.2.1.symm) rfl dX0_init_1 (Nat.le_of_ble_eq_true rfl) (Nat.le_of_ble_eq_true rfl) ?_
  refine W.eq (g2 := F0 m 4 ls []) rfl ?_
  refine lv_aload_n C0.1 C0.2.1 dX0_init_4 rfl (lv_at hl 0 rfl) ?_
  refine lv_iconst (v := 3) C0.1 C0.2.1 dX0_init_5 (by decide) ?_
  refine sr_newa (k := 3) (N' := 3) C0 hK hP hD hS hA (by decide) (by decide) (Nat.le_of_ble_eq_true rfl) (Nat.le_of_ble_eq_true rfl) (Nat.le_of_ble_eq_true rfl) dX0_init_6 (fun q1 H hP hD hS => ?_)
  have hP : va_P D vwCl [(q0, .inr (0, [.null, .int 0])), (q1, .inl (cI, 3, .inl (fun _ => 0)))] H := hP
  have hD : va_D A [(q0, .inr (0, [.null, .int 0])), (q1, .inl (cI, 3, .inl (fun _ => 0)))] := hD
  refine W.widen (k := 1) (n := 3) (by omega) (by omega) ?_
  refine va_putF (D := D) (ci := 0) (v := .ref q1) (ty := (.array .int)) (C := RX0) (T := TX0) (N := 2) C0.1 C0.2.1 C0.2.2.2.2 sr_inX0 tyX0 tyX0_ok nmX0 C0.2.2.2.1 hK hP hD hS 0 rfl rfl 0 (by decide) (C0.2.2.2.2 _ sw_155) (fun _ h9 => h9) rfl hin rfl (by decide +kernel) rfl rfl (Nat.le_of_ble_eq_true rfl) dX0_init_8 (fun H locs hP hD hS => ?_)
  have hP : va_P D vwCl [(q0, .inr (0, [.ref q1, .int 0])), (q1, .inl (cI, 3, .inl (fun _ => 0)))] H := hP
  have hD : va_D A [(q0, .inr (0, [.ref q1, .int 0])), (q1, .inl (cI, 3, .inl (fun _ => 0)))] := hD
  refine lv_aload_n C0.1 C0.2.1 dX0_init_11 rfl (lv_at hl 0 rfl) ?_
  refine lv_iconst (v := 0) C0.1 C0.2.1 dX0_init_12 (by decide) ?_
  refine va_put (D := D) (ci := 0) (v := .int 0) (ty := .int) (C := RX0) (T := TX0) (N := 2) C0.1 C0.2.1 C0.2.2.2.2 sr_inX0 tyX0 tyX0_ok nmX0 C0.2.2.2.1 hK hP hD hS 0 rfl rfl 1 (by decide) (C0.2.2.2.2 _ sw_157) (fun _ h9 => h9) rfl (by decide +kernel) rfl rfl (Nat.le_of_ble_eq_true rfl) dX0_init_13 (fun H locs hP hD hS => ?_)
  have hP : va_P D vwCl [(q0, .inr (0, [.ref q1, .int 0])), (q1, .inl (cI, 3, .inl (fun _ => 0)))] H := hP
  have hD : va_D A [(q0, .inr (0, [.ref q1, .int 0])), (q1, .inl (cI, 3, .inl (fun _ => 0)))] := hD
  exact hret _ _ _ (fun k => ([q1] : List Nat).getD k 0) _ _ dX0_init_16 hP hD hS rfl trivial
set_option maxRecDepth 100000 in
set_option maxHeartbeats 8000000 in
theorem nn_X5_init {l : Launch} {D : va_G} {cI cR : ClassId} (q0 sz : Nat) : sr_N l D (sr_tC cI cR) sz [(q0, .inr (5, [.null, .null, .null, .int 0]))] yX5_init cX5_init 1 1 20 7 252 [.ref q0] (S := Nat → Nat) (fun _ => True) (fun u => [(q0, .inr (5, [.ref (u 0), .ref (u 5), .ref (u 6), .int 0])), ((u 0), .inl (cR, 4, .inr (.inr (.inr (.inr (sr_o u 1 4)))))), ((u 1), .inl (cI, 60, .inl (fun _ => 0))), ((u 2), .inl (cI, 60, .inl (fun _ => 0))), ((u 3), .inl (cI, 60, .inl (fun _ => 0))), ((u 4), .inl (cI, 60, .inl (fun _ => 0))), ((u 5), .inl (cI, 4, .inl (fun _ => 0))), ((u 6), .inl (cI, 4, .inl (upd (upd (upd (upd (fun _ => 0) 0 (-1)) 1 (-1)) 2 (-1)) 3 (-1))))]) := by
  refine sr_Nof (by decide +kernel) rfl (Nat.le_of_ble_eq_true rfl) (fun p e s m args below meth c ls Q A C0 hin hP hK hD hA hZ hl hret => ?_)
  have hl : lv_has ls 1 [(0, .ref q0)] := hl
  have hS : va_S A s.heap s.heap [] := va_S.rf
  refine lv_aload_n C0.1 C0.2.1 dX5_init_0 rfl (lv_at hl 0 rfl) ?_
  refine W.objInit C0.1 C0.2.1 C0.2.2.2.1 (C0.2.2.2.2 _ sw_169) (C0.2.2.2.2 _ sw_20) (C0.2.2.2.2 _ sw_21) rfl (hl.1.trans C0.2.2.1.symm) rfl dX5_init_1 (Nat.le_of_ble_eq_true rfl) (Nat.le_of_ble_eq_true rfl) ?_
  refine W.eq (g2 := F0 m 4 ls []) rfl ?_
  refine lv_aload_n C0.1 C0.2.1 dX5_init_4 rfl (lv_at hl 0 rfl) ?_
  refine lv_iconst (v := 4) C0.1 C0.2.1 dX5_init_5 (by decide) ?_
  refine lv_bipush (v := 60) C0.1 C0.2.1 dX5_init_6 (by decide) ?_
  refine sr_mna (n := 4) (k := 60) (N' := 4) (K' := 60) C0 hK hP hD hS hA hZ sw_170 (by decide) (by decide) (by decide) (by decide) (Nat.le_of_ble_eq_true rfl) (Nat.le_of_ble_eq_true rfl) (Nat.le_of_ble_eq_true rfl) (Nat.le_of_ble_eq_true rfl) dX5_init_8 (fun q1 r1 H hP hD hS => ?_)
  have hP : va_P D vwCl [(q0, .inr (5, [.null, .null, .null, .int 0])), (q1, .inl (cR, 4, .inr (.inr (.inr (.inr (sr_o r1 0 4)))))), ((r1 0), .inl (cI, 60, .inl (fun _ => 0))), ((r1 1), .inl (cI, 60, .inl (fun _ => 0))), ((r1 2), .inl (cI, 60, .inl (fun _ => 0))), ((r1 3), .inl (cI, 60, .inl (fun _ => 0)))] H := hP
  have hD : va_D A [(q0, .inr (5, [.null, .null, .null, .int 0])), (q1, .inl (cR, 4, .inr (.inr (.inr (.inr (sr_o r1 0 4)))))), ((r1 0), .inl (cI, 60, .inl (fun _ => 0))), ((r1 1), .inl (cI, 60, .inl (fun _ => 0))), ((r1 2), .inl (cI, 60, .inl (fun _ => 0))), ((r1 3), .inl (cI, 60, .inl (fun _ => 0)))] := hD
  refine W.widen (k := 5) (n := 244) (by omega) (by omega) ?_
  refine va_putF (D := D) (ci := 5) (v := .ref q1) (ty := (.array (.array .int))) (C := RX5) (T := TX5) (N := 4) C0.1 C0.2.1 C0.2.2.2.2 sr_inX5 tyX5 tyX5_ok nmX5 C0.2.2.2.1 hK hP hD hS 0 rfl rfl 0 (by decide) (C0.2.2.2.2 _ sw_171) (fun _ h9 => h9) rfl hin rfl (by decide +kernel) rfl rfl (Nat.le_of_ble_eq_true rfl) dX5_init_12 (fun H locs hP hD hS => ?_)
  have hP : va_P D vwCl [(q0, .inr (5, [.ref q1, .null, .null, .int 0])), (q1, .inl (cR, 4, .inr (.inr (.inr (.inr (sr_o r1 0 4)))))), ((r1 0), .inl (cI, 60, .inl (fun _ => 0))), ((r1 1), .inl (cI, 60, .inl (fun _ => 0))), ((r1 2), .inl (cI, 60, .inl (fun _ => 0))), ((r1 3), .inl (cI, 60, .inl (fun _ => 0)))] H := hP
  have hD : va_D A [(q0, .inr (5, [.ref q1, .null, .null, .int 0])), (q1, .inl (cR, 4, .inr (.inr (.inr (.inr (sr_o r1 0 4)))))), ((r1 0), .inl (cI, 60, .inl (fun _ => 0))), ((r1 1), .inl (cI, 60, .inl (fun _ => 0))), ((r1 2), .inl (cI, 60, .inl (fun _ => 0))), ((r1 3), .inl (cI, 60, .inl (fun _ => 0)))] := hD
  refine lv_aload_n C0.1 C0.2.1 dX5_init_15 rfl (lv_at hl 0 rfl) ?_
  refine lv_iconst (v := 4) C0.1 C0.2.1 dX5_init_16 (by decide) ?_
  refine sr_newa (k := 4) (N' := 4) C0 hK hP hD hS hA (by decide) (by decide) (Nat.le_of_ble_eq_true rfl) (Nat.le_of_ble_eq_true rfl) (Nat.le_of_ble_eq_true rfl) dX5_init_17 (fun q2 H hP hD hS => ?_)
  have hP : va_P D vwCl [(q0, .inr (5, [.ref q1, .null, .null, .int 0])), (q1, .inl (cR, 4, .inr (.inr (.inr (.inr (sr_o r1 0 4)))))), ((r1 0), .inl (cI, 60, .inl (fun _ => 0))), ((r1 1), .inl (cI, 60, .inl (fun _ => 0))), ((r1 2), .inl (cI, 60, .inl (fun _ => 0))), ((r1 3), .inl (cI, 60, .inl (fun _ => 0))), (q2, .inl (cI, 4, .inl (fun _ => 0)))] H := hP
  have hD : va_D A [(q0, .inr (5, [.ref q1, .null, .null, .int 0])), (q1, .inl (cR, 4, .inr (.inr (.inr (.inr (sr_o r1 0 4)))))), ((r1 0), .inl (cI, 60, .inl (fun _ => 0))), ((r1 1), .inl (cI, 60, .inl (fun _ => 0))), ((r1 2), .inl (cI, 60, .inl (fun _ => 0))), ((r1 3), .inl (cI, 60, .inl (fun _ => 0))), (q2, .inl (cI, 4, .inl (fun _ => 0)))] := hD
  refine W.widen (k := 6) (n := 248) (by omega) (by omega) ?_
  refine lv_dup C0.1 C0.2.1 dX5_init_19 rfl ?_
  refine lv_iconst (v := 0) C0.1 C0.2.1 dX5_init_20 (by decide) ?_
  refine lv_iconst (v := 0) C0.1 C0.2.1 dX5_init_21 (by decide) ?_
  refine va_iast C0.1 C0.2.1 hK hP hD hS 6 0 rfl rfl (sr_inc (by decide)) dX5_init_22 (fun H locs hP hD hS => ?_)
  have hP : va_P D vwCl [(q0, .inr (5, [.ref q1, .null, .null, .int 0])), (q1, .inl (cR, 4, .inr (.inr (.inr (.inr (sr_o r1 0 4)))))), ((r1 0), .inl (cI, 60, .inl (fun _ => 0))), ((r1 1), .inl (cI, 60, .inl (fun _ => 0))), ((r1 2), .inl (cI, 60, .inl (fun _ => 0))), ((r1 3), .inl (cI, 60, .inl (fun _ => 0))), (q2, .inl (cI, 4, .inl (upd (fun _ => 0) 0 0)))] H := hP
  have hD : va_D A [(q0, .inr (5, [.ref q1, .null, .null, .int 0])), (q1, .inl (cR, 4, .inr (.inr (.inr (.inr (sr_o r1 0 4)))))), ((r1 0), .inl (cI, 60, .inl (fun _ => 0))), ((r1 1), .inl (cI, 60, .inl (fun _ => 0))), ((r1 2), .inl (cI, 60, .inl (fun _ => 0))), ((r1 3), .inl (cI, 60, .inl (fun _ => 0))), (q2, .inl (cI, 4, .inl (upd (fun _ => 0) 0 0)))] := hD
  have eU : upd (fun _ => 0) 0 0 = (fun _ => 0) := sr_uz rfl
  rw [eU] at hP hD
  clear eU
  refine lv_dup C0.1 C0.2.1 dX5_init_23 rfl ?_
  refine lv_iconst (v := 1) C0.1 C0.2.1 dX5_init_24 (by decide) ?_
  refine lv_iconst (v := 0) C0.1 C0.2.1 dX5_init_25 (by decide) ?_
  refine va_iast C0.1 C0.2.1 hK hP hD hS 6 0 rfl rfl (sr_inc (by decide)) dX5_init_26 (fun H locs hP hD hS => ?_)
  have hP : va_P D vwCl [(q0, .inr (5, [.ref q1, .null, .null, .int 0])), (q1, .inl (cR, 4, .inr (.inr (.inr (.inr (sr_o r1 0 4)))))), ((r1 0), .inl (cI, 60, .inl (fun _ => 0))), ((r1 1), .inl (cI, 60, .inl (fun _ => 0))), ((r1 2), .inl (cI, 60, .inl (fun _ => 0))), ((r1 3), .inl (cI, 60, .inl (fun _ => 0))), (q2, .inl (cI, 4, .inl (upd (fun _ => 0) 1 0)))] H := hP
  have hD : va_D A [(q0, .inr (5, [.ref q1, .null, .null, .int 0])), (q1, .inl (cR, 4, .inr (.inr (.inr (.inr (sr_o r1 0 4)))))), ((r1 0), .inl (cI, 60, .inl (fun _ => 0))), ((r1 1), .inl (cI, 60, .inl (fun _ => 0))), ((r1 2), .inl (cI, 60, .inl (fun _ => 0))), ((r1 3), .inl (cI, 60, .inl (fun _ => 0))), (q2, .inl (cI, 4, .inl (upd (fun _ => 0) 1 0)))] := hD
  have eU : upd (fun _ => 0) 1 0 = (fun _ => 0) := sr_uz rfl
  rw [eU] at hP hD
  clear eU
  refine lv_dup C0.1 C0.2.1 dX5_init_27 rfl ?_
  refine lv_iconst (v := 2) C0.1 C0.2.1 dX5_init_28 (by decide) ?_
  refine lv_iconst (v := 0) C0.1 C0.2.1 dX5_init_29 (by decide) ?_
  refine va_iast C0.1 C0.2.1 hK hP hD hS 6 0 rfl rfl (sr_inc (by decide)) dX5_init_30 (fun H locs hP hD hS => ?_)
  have hP : va_P D vwCl [(q0, .inr (5, [.ref q1, .null, .null, .int 0])), (q1, .inl (cR, 4, .inr (.inr (.inr (.inr (sr_o r1 0 4)))))), ((r1 0), .inl (cI, 60, .inl (fun _ => 0))), ((r1 1), .inl (cI, 60, .inl (fun _ => 0))), ((r1 2), .inl (cI, 60, .inl (fun _ => 0))), ((r1 3), .inl (cI, 60, .inl (fun _ => 0))), (q2, .inl (cI, 4, .inl (upd (fun _ => 0) 2 0)))] H := hP
  have hD : va_D A [(q0, .inr (5, [.ref q1, .null, .null, .int 0])), (q1, .inl (cR, 4, .inr (.inr (.inr (.inr (sr_o r1 0 4)))))), ((r1 0), .inl (cI, 60, .inl (fun _ => 0))), ((r1 1), .inl (cI, 60, .inl (fun _ => 0))), ((r1 2), .inl (cI, 60, .inl (fun _ => 0))), ((r1 3), .inl (cI, 60, .inl (fun _ => 0))), (q2, .inl (cI, 4, .inl (upd (fun _ => 0) 2 0)))] := hD
  have eU : upd (fun _ => 0) 2 0 = (fun _ => 0) := sr_uz rfl
  rw [eU] at hP hD
  clear eU
  refine lv_dup C0.1 C0.2.1 dX5_init_31 rfl ?_
  refine lv_iconst (v := 3) C0.1 C0.2.1 dX5_init_32 (by decide) ?_
  refine lv_iconst (v := 0) C0.1 C0.2.1 dX5_init_33 (by decide) ?_
  refine va_iast C0.1 C0.2.1 hK hP hD hS 6 0 rfl rfl (sr_inc (by decide)) dX5_init_34 (fun H locs hP hD hS => ?_)
  have hP : va_P D vwCl [(q0, .inr (5, [.ref q1, .null, .null, .int 0])), (q1, .inl (cR, 4, .inr (.inr (.inr (.inr (sr_o r1 0 4)))))), ((r1 0), .inl (cI, 60, .inl (fun _ => 0))), ((r1 1), .inl (cI, 60, .inl (fun _ => 0))), ((r1 2), .inl (cI, 60, .inl (fun _ => 0))), ((r1 3), .inl (cI, 60, .inl (fun _ => 0))), (q2, .inl (cI, 4, .inl (upd (fun _ => 0) 3 0)))] H := hP
  have hD : va_D A [(q0, .inr (5, [.ref q1, .null, .null, .int 0])), (q1, .inl (cR, 4, .inr (.inr (.inr (.inr (sr_o r1 0 4)))))), ((r1 0), .inl (cI, 60, .inl (fun _ => 0))), ((r1 1), .inl (cI, 60, .inl (fun _ => 0))), ((r1 2), .inl (cI, 60, .inl (fun _ => 0))), ((r1 3), .inl (cI, 60, .inl (fun _ => 0))), (q2, .inl (cI, 4, .inl (upd (fun _ => 0) 3 0)))] := hD
  have eU : upd (fun _ => 0) 3 0 = (fun _ => 0) := sr_uz rfl
  rw [eU] at hP hD
  clear eU
  refine va_putF (D := D) (ci := 5) (v := .ref q2) (ty := (.array .int)) (C := RX5) (T := TX5) (N := 4) C0.1 C0.2.1 C0.2.2.2.2 sr_inX5 tyX5 tyX5_ok nmX5 C0.2.2.2.1 hK hP hD hS 0 rfl rfl 1 (by decide) (C0.2.2.2.2 _ sw_173) (fun _ h9 => h9) rfl hin rfl (by decide +kernel) rfl rfl (Nat.le_of_ble_eq_true rfl) dX5_init_35 (fun H locs hP hD hS => ?_)
  have hP : va_P D vwCl [(q0, .inr (5, [.ref q1, .ref q2, .null, .int 0])), (q1, .inl (cR, 4, .inr (.inr (.inr (.inr (sr_o r1 0 4)))))), ((r1 0), .inl (cI, 60, .inl (fun _ => 0))), ((r1 1), .inl (cI, 60, .inl (fun _ => 0))), ((r1 2), .inl (cI, 60, .inl (fun _ => 0))), ((r1 3), .inl (cI, 60, .inl (fun _ => 0))), (q2, .inl (cI, 4, .inl (fun _ => 0)))] H := hP
  have hD : va_D A [(q0, .inr (5, [.ref q1, .ref q2, .null, .int 0])), (q1, .inl (cR, 4, .inr (.inr (.inr (.inr (sr_o r1 0 4)))))), ((r1 0), .inl (cI, 60, .inl (fun _ => 0))), ((r1 1), .inl (cI, 60, .inl (fun _ => 0))), ((r1 2), .inl (cI, 60, .inl (fun _ => 0))), ((r1 3), .inl (cI, 60, .inl (fun _ => 0))), (q2, .inl (cI, 4, .inl (fun _ => 0)))] := hD
  refine lv_aload_n C0.1 C0.2.1 dX5_init_38 rfl (lv_at hl 0 rfl) ?_
  refine lv_iconst (v := 4) C0.1 C0.2.1 dX5_init_39 (by decide) ?_
  refine sr_newa (k := 4) (N' := 4) C0 hK hP hD hS hA (by decide) (by decide) (Nat.le_of_ble_eq_true rfl) (Nat.le_of_ble_eq_true rfl) (Nat.le_of_ble_eq_true rfl) dX5_init_40 (fun q3 H hP hD hS => ?_)
  have hP : va_P D vwCl [(q0, .inr (5, [.ref q1, .ref q2, .null, .int 0])), (q1, .inl (cR, 4, .inr (.inr (.inr (.inr (sr_o r1 0 4)))))), ((r1 0), .inl (cI, 60, .inl (fun _ => 0))), ((r1 1), .inl (cI, 60, .inl (fun _ => 0))), ((r1 2), .inl (cI, 60, .inl (fun _ => 0))), ((r1 3), .inl (cI, 60, .inl (fun _ => 0))), (q2, .inl (cI, 4, .inl (fun _ => 0))), (q3, .inl (cI, 4, .inl (fun _ => 0)))] H := hP
  have hD : va_D A [(q0, .inr (5, [.ref q1, .ref q2, .null, .int 0])), (q1, .inl (cR, 4, .inr (.inr (.inr (.inr (sr_o r1 0 4)))))), ((r1 0), .inl (cI, 60, .inl (fun _ => 0))), ((r1 1), .inl (cI, 60, .inl (fun _ => 0))), ((r1 2), .inl (cI, 60, .inl (fun _ => 0))), ((r1 3), .inl (cI, 60, .inl (fun _ => 0))), (q2, .inl (cI, 4, .inl (fun _ => 0))), (q3, .inl (cI, 4, .inl (fun _ => 0)))] := hD
  refine W.widen (k := 7) (n := 252) (by omega) (by omega) ?_
  refine lv_dup C0.1 C0.2.1 dX5_init_42 rfl ?_
  refine lv_iconst (v := 0) C0.1 C0.2.1 dX5_init_43 (by decide) ?_
  refine lv_iconst (v := (-1)) C0.1 C0.2.1 dX5_init_44 (by decide) ?_
  refine va_iast C0.1 C0.2.1 hK hP hD hS 7 0 rfl rfl (sr_inc (by decide)) dX5_init_45 (fun H locs hP hD hS => ?_)
  have hP : va_P D vwCl [(q0, .inr (5, [.ref q1, .ref q2, .null, .int 0])), (q1, .inl (cR, 4, .inr (.inr (.inr (.inr (sr_o r1 0 4)))))), ((r1 0), .inl (cI, 60, .inl (fun _ => 0))), ((r1 1), .inl (cI, 60, .inl (fun _ => 0))), ((r1 2), .inl (cI, 60, .inl (fun _ => 0))), ((r1 3), .inl (cI, 60, .inl (fun _ => 0))), (q2, .inl (cI, 4, .inl (fun _ => 0))), (q3, .inl (cI, 4, .inl (upd (fun _ => 0) 0 (-1))))] H := hP
  have hD : va_D A [(q0, .inr (5, [.ref q1, .ref q2, .null, .int 0])), (q1, .inl (cR, 4, .inr (.inr (.inr (.inr (sr_o r1 0 4)))))), ((r1 0), .inl (cI, 60, .inl (fun _ => 0))), ((r1 1), .inl (cI, 60, .inl (fun _ => 0))), ((r1 2), .inl (cI, 60, .inl (fun _ => 0))), ((r1 3), .inl (cI, 60, .inl (fun _ => 0))), (q2, .inl (cI, 4, .inl (fun _ => 0))), (q3, .inl (cI, 4, .inl (upd (fun _ => 0) 0 (-1))))] := hD
  refine lv_dup C0.1 C0.2.1 dX5_init_46 rfl ?_
  refine lv_iconst (v := 1) C0.1 C0.2.1 dX5_init_47 (by decide) ?_
  refine lv_iconst (v := (-1)) C0.1 C0.2.1 dX5_init_48 (by decide) ?_
  refine va_iast C0.1 C0.2.1 hK hP hD hS 7 0 rfl rfl (sr_inc (by decide)) dX5_init_49 (fun H locs hP hD hS => ?_)
  have hP : va_P D vwCl [(q0, .inr (5, [.ref q1, .ref q2, .null, .int 0])), (q1, .inl (cR, 4, .inr (.inr (.inr (.inr (sr_o r1 0 4)))))), ((r1 0), .inl (cI, 60, .inl (fun _ => 0))), ((r1 1), .inl (cI, 60, .inl (fun _ => 0))), ((r1 2), .inl (cI, 60, .inl (fun _ => 0))), ((r1 3), .inl (cI, 60, .inl (fun _ => 0))), (q2, .inl (cI, 4, .inl (fun _ => 0))), (q3, .inl (cI, 4, .inl (upd (upd (fun _ => 0) 0 (-1)) 1 (-1))))] H := hP
  have hD : va_D A [(q0, .inr (5, [.ref q1, .ref q2, .null, .int 0])), (q1, .inl (cR, 4, .inr (.inr (.inr (.inr (sr_o r1 0 4)))))), ((r1 0), .inl (cI, 60, .inl (fun _ => 0))), ((r1 1), .inl (cI, 60, .inl (fun _ => 0))), ((r1 2), .inl (cI, 60, .inl (fun _ => 0))), ((r1 3), .inl (cI, 60, .inl (fun _ => 0))), (q2, .inl (cI, 4, .inl (fun _ => 0))), (q3, .inl (cI, 4, .inl (upd (upd (fun _ => 0) 0 (-1)) 1 (-1))))] := hD
  refine lv_dup C0.1 C0.2.1 dX5_init_50 rfl ?_
  refine lv_iconst (v := 2) C0.1 C0.2.1 dX5_init_51 (by decide) ?_
  refine lv_iconst (v := (-1)) C0.1 C0.2.1 dX5_init_52 (by decide) ?_
  refine va_iast C0.1 C0.2.1 hK hP hD hS 7 0 rfl rfl (sr_inc (by decide)) dX5_init_53 (fun H locs hP hD hS => ?_)
  have hP : va_P D vwCl [(q0, .inr (5, [.ref q1, .ref q2, .null, .int 0])), (q1, .inl (cR, 4, .inr (.inr (.inr (.inr (sr_o r1 0 4)))))), ((r1 0), .inl (cI, 60, .inl (fun _ => 0))), ((r1 1), .inl (cI, 60, .inl (fun _ => 0))), ((r1 2), .inl (cI, 60, .inl (fun _ => 0))), ((r1 3), .inl (cI, 60, .inl (fun _ => 0))), (q2, .inl (cI, 4, .inl (fun _ => 0))), (q3, .inl (cI, 4, .inl (upd (upd (upd (fun _ => 0) 0 (-1)) 1 (-1)) 2 (-1))))] H := hP
  have hD : va_D A [(q0, .inr (5, [.ref q1, .ref q2, .null, .int 0])), (q1, .inl (cR, 4, .inr (.inr (.inr (.inr (sr_o r1 0 4)))))), ((r1 0), .inl (cI, 60, .inl (fun _ => 0))), ((r1 1), .inl (cI, 60, .inl (fun _ => 0))), ((r1 2), .inl (cI, 60, .inl (fun _ => 0))), ((r1 3), .inl (cI, 60, .inl (fun _ => 0))), (q2, .inl (cI, 4, .inl (fun _ => 0))), (q3, .inl (cI, 4, .inl (upd (upd (upd (fun _ => 0) 0 (-1)) 1 (-1)) 2 (-1))))] := hD
  refine lv_dup C0.1 C0.2.1 dX5_init_54 rfl ?_
  refine lv_iconst (v := 3) C0.1 C0.2.1 dX5_init_55 (by decide) ?_
  refine lv_iconst (v := (-1)) C0.1 C0.2.1 dX5_init_56 (by decide) ?_
  refine va_iast C0.1 C0.2.1 hK hP hD hS 7 0 rfl rfl (sr_inc (by decide)) dX5_init_57 (fun H locs hP hD hS => ?_)
  have hP : va_P D vwCl [(q0, .inr (5, [.ref q1, .ref q2, .null, .int 0])), (q1, .inl (cR, 4, .inr (.inr (.inr (.inr (sr_o r1 0 4)))))), ((r1 0), .inl (cI, 60, .inl (fun _ => 0))), ((r1 1), .inl (cI, 60, .inl (fun _ => 0))), ((r1 2), .inl (cI, 60, .inl (fun _ => 0))), ((r1 3), .inl (cI, 60, .inl (fun _ => 0))), (q2, .inl (cI, 4, .inl (fun _ => 0))), (q3, .inl (cI, 4, .inl (upd (upd (upd (upd (fun _ => 0) 0 (-1)) 1 (-1)) 2 (-1)) 3 (-1))))] H := hP
  have hD : va_D A [(q0, .inr (5, [.ref q1, .ref q2, .null, .int 0])), (q1, .inl (cR, 4, .inr (.inr (.inr (.inr (sr_o r1 0 4)))))), ((r1 0), .inl (cI, 60, .inl (fun _ => 0))), ((r1 1), .inl (cI, 60, .inl (fun _ => 0))), ((r1 2), .inl (cI, 60, .inl (fun _ => 0))), ((r1 3), .inl (cI, 60, .inl (fun _ => 0))), (q2, .inl (cI, 4, .inl (fun _ => 0))), (q3, .inl (cI, 4, .inl (upd (upd (upd (upd (fun _ => 0) 0 (-1)) 1 (-1)) 2 (-1)) 3 (-1))))] := hD
  refine va_putF (D := D) (ci := 5) (v := .ref q3) (ty := (.array .int)) (C := RX5) (T := TX5) (N := 4) C0.1 C0.2.1 C0.2.2.2.2 sr_inX5 tyX5 tyX5_ok nmX5 C0.2.2.2.1 hK hP hD hS 0 rfl rfl 2 (by decide) (C0.2.2.2.2 _ sw_175) (fun _ h9 => h9) rfl hin rfl (by decide +kernel) rfl rfl (Nat.le_of_ble_eq_true rfl) dX5_init_58 (fun H locs hP hD hS => ?_)
  have hP : va_P D vwCl [(q0, .inr (5, [.ref q1, .ref q2, .ref q3, .int 0])), (q1, .inl (cR, 4, .inr (.inr (.inr (.inr (sr_o r1 0 4)))))), ((r1 0), .inl (cI, 60, .inl (fun _ => 0))), ((r1 1), .inl (cI, 60, .inl (fun _ => 0))), ((r1 2), .inl (cI, 60, .inl (fun _ => 0))), ((r1 3), .inl (cI, 60, .inl (fun _ => 0))), (q2, .inl (cI, 4, .inl (fun _ => 0))), (q3, .inl (cI, 4, .inl (upd (upd (upd (upd (fun _ => 0) 0 (-1)) 1 (-1)) 2 (-1)) 3 (-1))))] H := hP
  have hD : va_D A [(q0, .inr (5, [.ref q1, .ref q2, .ref q3, .int 0])), (q1, .inl (cR, 4, .inr (.inr (.inr (.inr (sr_o r1 0 4)))))), ((r1 0), .inl (cI, 60, .inl (fun _ => 0))), ((r1 1), .inl (cI, 60, .inl (fun _ => 0))), ((r1 2), .inl (cI, 60, .inl (fun _ => 0))), ((r1 3), .inl (cI, 60, .inl (fun _ => 0))), (q2, .inl (cI, 4, .inl (fun _ => 0))), (q3, .inl (cI, 4, .inl (upd (upd (upd (upd (fun _ => 0) 0 (-1)) 1 (-1)) 2 (-1)) 3 (-1))))] := hD
  refine lv_aload_n C0.1 C0.2.1 dX5_init_61 rfl (lv_at hl 0 rfl) ?_
  refine lv_iconst (v := 0) C0.1 C0.2.1 dX5_init_62 (by decide) ?_
  refine va_put (D := D) (ci := 5) (v := .int 0) (ty := .int) (C := RX5) (T := TX5) (N := 4) C0.1 C0.2.1 C0.2.2.2.2 sr_inX5 tyX5 tyX5_ok nmX5 C0.2.2.2.1 hK hP hD hS 0 rfl rfl 3 (by decide) (C0.2.2.2.2 _ sw_177) (fun _ h9 => h9) rfl (by decide +kernel) rfl rfl (Nat.le_of_ble_eq_true rfl) dX5_init_63 (fun H locs hP hD hS => ?_)
  have hP : va_P D vwCl [(q0, .inr (5, [.ref q1, .ref q2, .ref q3, .int 0])), (q1, .inl (cR, 4, .inr (.inr (.inr (.inr (sr_o r1 0 4)))))), ((r1 0), .inl (cI, 60, .inl (fun _ => 0))), ((r1 1), .inl (cI, 60, .inl (fun _ => 0))), ((r1 2), .inl (cI, 60, .inl (fun _ => 0))), ((r1 3), .inl (cI, 60, .inl (fun _ => 0))), (q2, .inl (cI, 4, .inl (fun _ => 0))), (q3, .inl (cI, 4, .inl (upd (upd (upd (upd (fun _ => 0) 0 (-1)) 1 (-1)) 2 (-1)) 3 (-1))))] H := hP
  have hD : va_D A [(q0, .inr (5, [.ref q1, .ref q2, .ref q3, .int 0])), (q1, .inl (cR, 4, .inr (.inr (.inr (.inr (sr_o r1 0 4)))))), ((r1 0), .inl (cI, 60, .inl (fun _ => 0))), ((r1 1), .inl (cI, 60, .inl (fun _ => 0))), ((r1 2), .inl (cI, 60, .inl (fun _ => 0))), ((r1 3), .inl (cI, 60, .inl (fun _ => 0))), (q2, .inl (cI, 4, .inl (fun _ => 0))), (q3, .inl (cI, 4, .inl (upd (upd (upd (upd (fun _ => 0) 0 (-1)) 1 (-1)) 2 (-1)) 3 (-1))))] := hD
  have er1 : sr_o r1 0 4 = sr_o (fun k => ([q1, (r1 0), (r1 1), (r1 2), (r1 3), q2, q3] : List Nat).getD k 0) 1 4 := sr_o_c (fun i hi => by rcases (show i = 0 ∨ i = 1 ∨ i = 2 ∨ i = 3 by omega) with rfl | rfl | rfl | rfl <;> rfl)
  rw [er1] at hP hD
  exact hret _ _ _ (fun k => ([q1, (r1 0), (r1 1), (r1 2), (r1 3), q2, q3] : List Nat).getD k 0) _ _ dX5_init_66 hP hD hS rfl trivial
