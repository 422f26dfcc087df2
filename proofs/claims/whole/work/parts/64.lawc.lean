set_option maxRecDepth 100000 in
set_option maxHeartbeats 4000000 in
theorem lw_c24 {p : Program} {l : Launch} {e : Env} {s : State} {m : MethodId} {below : List Frame} {meth : Method} {c : Code} {Q : State → Prop} {D : va_G} {cI cR : ClassId} {aC aM : Nat → Nat} {b L : Nat} {xs : Nat → Int32} (hC : sr_LC D cI cR aC aM b L xs p s m #[.ref b] c) {kp X g cM r : sr_M} {H : Heap} {locs : List Loc} {ls : Array Slot} {ix : Nat} (hH : sr_LH D cI cR aC aM s H locs kp X g cM r) (hl : lv_has ls 4 [(3, .int (nI ix)), (2, .ref (aM 0)), (1, .ref (aC 0)), (0, .ref b)]) (hi : ix + 6 ≤ L) (hL : L ≤ 384)
    (kk : ∀ (kp X g cM r : sr_M) (H : Heap) (locs : List Loc) (ls : Array Slot), sr_LH D cI cR aC aM s H locs kp X g cM r → lv_has ls 4 [(3, .int (nI ix)), (2, .ref (aM 0)), (1, .ref (aC 0)), (0, .ref b)] → W p l e room_1 s m #[.ref b] below meth c H locs 600000 7302249 Q (F0 m 1104 ls [])) : W p l e room_1 s m #[.ref b] below meth c H locs 600000 7302249 Q (F0 m 819 ls []) := by
  obtain ⟨C0, hK, hZ0, haC, haM, hdis, hloC, hloM, hX, hbl⟩ := hC
  obtain ⟨hJ, hP, hPM, hS⟩ := hH
  have hI := hJ.1
  have hSC := hJ.2.1
  have hRX := hJ.2.2
  have hK_ := sr_IC_K hI
  have hKM : va_K D vwCl (sr_tM cI) s := hK.sub [0] rfl
  have hbA : ¬ (fun q : Nat => s.heap.size ≤ q) b := Nat.not_le.mpr hbl
  refine lv_aload_n C0.1 C0.2.1 dL_law_819 rfl (lv_at hl 2 rfl) ?_
  refine lv_aload_n C0.1 C0.2.1 dL_law_820 rfl (lv_at hl 3 rfl) ?_
  refine lv_iload_n C0.1 C0.2.1 dL_law_821 rfl (lv_at hl 0 rfl) ?_
  refine lv_iconst (v := 1) C0.1 C0.2.1 dL_law_822 (by decide) ?_
  refine lv_iadd C0.1 C0.2.1 dL_law_823 ?_
  refine sr_chi (nI_add ix 1) ?_
  refine va_sld C0.1 C0.2.1 hX hbl hbA hS (vp_in_nI (by omega) (by omega)) dL_law_824 ?_
  refine sr_chi (congrArg xs (nI_clamp (n := ix + 1) (by omega))) ?_
  refine lv_aload_n C0.1 C0.2.1 dL_law_825 rfl (lv_at hl 3 rfl) ?_
  refine lv_iload_n C0.1 C0.2.1 dL_law_826 rfl (lv_at hl 0 rfl) ?_
  refine lv_iconst (v := 2) C0.1 C0.2.1 dL_law_827 (by decide) ?_
  refine lv_iadd C0.1 C0.2.1 dL_law_828 ?_
  refine sr_chi (nI_add ix 2) ?_
  refine va_sld C0.1 C0.2.1 hX hbl hbA hS (vp_in_nI (by omega) (by omega)) dL_law_829 ?_
  refine sr_chi (congrArg xs (nI_clamp (n := ix + 2) (by omega))) ?_
  refine lv_aload_n C0.1 C0.2.1 dL_law_830 rfl (lv_at hl 3 rfl) ?_
  refine lv_iload_n C0.1 C0.2.1 dL_law_831 rfl (lv_at hl 0 rfl) ?_
  refine lv_iconst (v := 3) C0.1 C0.2.1 dL_law_832 (by decide) ?_
  refine lv_iadd C0.1 C0.2.1 dL_law_833 ?_
  refine sr_chi (nI_add ix 3) ?_
  refine va_sld C0.1 C0.2.1 hX hbl hbA hS (vp_in_nI (by omega) (by omega)) dL_law_834 ?_
  refine sr_chi (congrArg xs (nI_clamp (n := ix + 3) (by omega))) ?_
  refine sr_lVi (As := [.int (xs (ix + 1)), .int (xs (ix + 2)), .int (xs (ix + 3))]) C0 hK hP (sr_ZCok aC) (sr_ZCl hS hZ0) (cc_X7_sheet haC (xs (ix + 1)) (xs (ix + 2)) (xs (ix + 3))) sk_X7_sheet sv_X7_sheet sw_523 (ci := 7) rfl sr_wC0 rfl rfl hl.1 (Nat.le_of_ble_eq_true rfl) (Nat.le_of_ble_eq_true rfl) (Nat.le_of_ble_eq_true rfl) dL_law_835 ⟨Nat.le_of_ble_eq_true rfl, Nat.le_of_ble_eq_true rfl⟩ hS (fun q hq => sr_loC hloC hq) (fun u H1 locs hu hP hS hkq => ?_)
  have hPM := sr_keepM hdis hPM hkq
  clear hkq
  refine lv_aload_n C0.1 C0.2.1 dL_law_838 rfl (lv_at hl 1 rfl) ?_
  refine lv_aload_n C0.1 C0.2.1 dL_law_839 rfl (lv_at hl 3 rfl) ?_
  refine lv_iload_n C0.1 C0.2.1 dL_law_840 rfl (lv_at hl 0 rfl) ?_
  refine lv_iconst (v := 1) C0.1 C0.2.1 dL_law_841 (by decide) ?_
  refine lv_iadd C0.1 C0.2.1 dL_law_842 ?_
  refine sr_chi (nI_add ix 1) ?_
  refine va_sld C0.1 C0.2.1 hX hbl hbA hS (vp_in_nI (by omega) (by omega)) dL_law_843 ?_
  refine sr_chi (congrArg xs (nI_clamp (n := ix + 1) (by omega))) ?_
  refine lv_aload_n C0.1 C0.2.1 dL_law_844 rfl (lv_at hl 3 rfl) ?_
  refine lv_iload_n C0.1 C0.2.1 dL_law_845 rfl (lv_at hl 0 rfl) ?_
  refine lv_iconst (v := 2) C0.1 C0.2.1 dL_law_846 (by decide) ?_
  refine lv_iadd C0.1 C0.2.1 dL_law_847 ?_
  refine sr_chi (nI_add ix 2) ?_
  refine va_sld C0.1 C0.2.1 hX hbl hbA hS (vp_in_nI (by omega) (by omega)) dL_law_848 ?_
  refine sr_chi (congrArg xs (nI_clamp (n := ix + 2) (by omega))) ?_
  refine lv_aload_n C0.1 C0.2.1 dL_law_849 rfl (lv_at hl 3 rfl) ?_
  refine lv_iload_n C0.1 C0.2.1 dL_law_850 rfl (lv_at hl 0 rfl) ?_
  refine lv_iconst (v := 3) C0.1 C0.2.1 dL_law_851 (by decide) ?_
  refine lv_iadd C0.1 C0.2.1 dL_law_852 ?_
  refine sr_chi (nI_add ix 3) ?_
  refine va_sld C0.1 C0.2.1 hX hbl hbA hS (vp_in_nI (by omega) (by omega)) dL_law_853 ?_
  refine sr_chi (congrArg xs (nI_clamp (n := ix + 3) (by omega))) ?_
  refine sr_lVi (As := [.int (xs (ix + 1)), .int (xs (ix + 2)), .int (xs (ix + 3))]) C0 hKM hPM sr_ZMok trivial (cc_X8_sheet haM X (xs (ix + 1)) (xs (ix + 2)) (xs (ix + 3)) hSC hRX) sk_X8_sheet sv_X8_sheet sw_662 (ci := 8) rfl sr_wM0 rfl rfl hl.1 (Nat.le_of_ble_eq_true rfl) (Nat.le_of_ble_eq_true rfl) (Nat.le_of_ble_eq_true rfl) dL_law_854 ⟨Nat.le_of_ble_eq_true rfl, Nat.le_of_ble_eq_true rfl⟩ hS (fun q hq => sr_loM hloM hq) (fun v H2 locs hv hPM hS hkq => ?_)
  have hP := sr_keepC hdis hP hkq
  refine lv_icmp_eq (tgt := 1104) C0.1 C0.2.1 dL_law_857 (by decide) (fun _ => ?_) (fun z => absurd rfl z)
  exact kk _ _ _ _ _ _ _ _ ⟨sr_LJ_x hJ (sr_fk_sheet _ _ _ _) (sr_Xk_sheet hSC hu) (hv _ hu), hP, hPM, hS⟩ hl
set_option maxRecDepth 100000 in
set_option maxHeartbeats 4000000 in
theorem lw_c25 {p : Program} {l : Launch} {e : Env} {s : State} {m : MethodId} {below : List Frame} {meth : Method} {c : Code} {Q : State → Prop} {D : va_G} {cI cR : ClassId} {aC aM : Nat → Nat} {b L : Nat} {xs : Nat → Int32} (hC : sr_LC D cI cR aC aM b L xs p s m #[.ref b] c) {kp X g cM r : sr_M} {H : Heap} {locs : List Loc} {ls : Array Slot} {ix : Nat} (hH : sr_LH D cI cR aC aM s H locs kp X g cM r) (hl : lv_has ls 4 [(3, .int (nI ix)), (2, .ref (aM 0)), (1, .ref (aC 0)), (0, .ref b)]) (hi : ix + 6 ≤ L) (hL : L ≤ 384)
    (kk : ∀ (kp X g cM r : sr_M) (H : Heap) (locs : List Loc) (ls : Array Slot), sr_LH D cI cR aC aM s H locs kp X g cM r → lv_has ls 4 [(3, .int (nI ix)), (2, .ref (aM 0)), (1, .ref (aC 0)), (0, .ref b)] → W p l e room_1 s m #[.ref b] below meth c H locs 600000 7302249 Q (F0 m 1104 ls [])) : W p l e room_1 s m #[.ref b] below meth c H locs 600000 7302249 Q (F0 m 862 ls []) := by
  obtain ⟨C0, hK, hZ0, haC, haM, hdis, hloC, hloM, hX, hbl⟩ := hC
  obtain ⟨hJ, hP, hPM, hS⟩ := hH
  have hI := hJ.1
  have hSC := hJ.2.1
  have hRX := hJ.2.2
  have hK_ := sr_IC_K hI
  have hKM : va_K D vwCl (sr_tM cI) s := hK.sub [0] rfl
  have hbA : ¬ (fun q : Nat => s.heap.size ≤ q) b := Nat.not_le.mpr hbl
  refine lv_aload_n C0.1 C0.2.1 dL_law_862 rfl (lv_at hl 2 rfl) ?_
  refine lv_aload_n C0.1 C0.2.1 dL_law_863 rfl (lv_at hl 3 rfl) ?_
  refine lv_iload_n C0.1 C0.2.1 dL_law_864 rfl (lv_at hl 0 rfl) ?_
  refine lv_iconst (v := 1) C0.1 C0.2.1 dL_law_865 (by decide) ?_
  refine lv_iadd C0.1 C0.2.1 dL_law_866 ?_
  refine sr_chi (nI_add ix 1) ?_
  refine va_sld C0.1 C0.2.1 hX hbl hbA hS (vp_in_nI (by omega) (by omega)) dL_law_867 ?_
  refine sr_chi (congrArg xs (nI_clamp (n := ix + 1) (by omega))) ?_
  refine sr_lVi (As := [.int (xs (ix + 1))]) C0 hK hP (sr_ZCok aC) (sr_ZCl hS hZ0) (cc_X7_lose haC (xs (ix + 1))) sk_X7_lose sv_X7_lose sw_535 (ci := 7) rfl sr_wC0 rfl rfl hl.1 (Nat.le_of_ble_eq_true rfl) (Nat.le_of_ble_eq_true rfl) (Nat.le_of_ble_eq_true rfl) dL_law_868 ⟨Nat.le_of_ble_eq_true rfl, Nat.le_of_ble_eq_true rfl⟩ hS (fun q hq => sr_loC hloC hq) (fun u H1 locs hu hP hS hkq => ?_)
  have hPM := sr_keepM hdis hPM hkq
  clear hkq
  refine lv_aload_n C0.1 C0.2.1 dL_law_871 rfl (lv_at hl 1 rfl) ?_
  refine lv_aload_n C0.1 C0.2.1 dL_law_872 rfl (lv_at hl 3 rfl) ?_
  refine lv_iload_n C0.1 C0.2.1 dL_law_873 rfl (lv_at hl 0 rfl) ?_
  refine lv_iconst (v := 1) C0.1 C0.2.1 dL_law_874 (by decide) ?_
  refine lv_iadd C0.1 C0.2.1 dL_law_875 ?_
  refine sr_chi (nI_add ix 1) ?_
  refine va_sld C0.1 C0.2.1 hX hbl hbA hS (vp_in_nI (by omega) (by omega)) dL_law_876 ?_
  refine sr_chi (congrArg xs (nI_clamp (n := ix + 1) (by omega))) ?_
  refine sr_lVi (As := [.int (xs (ix + 1))]) C0 hKM hPM sr_ZMok trivial (cc_X8_lose haM X (xs (ix + 1)) hSC hRX) sk_X8_lose sv_X8_lose sw_678 (ci := 8) rfl sr_wM0 rfl rfl hl.1 (Nat.le_of_ble_eq_true rfl) (Nat.le_of_ble_eq_true rfl) (Nat.le_of_ble_eq_true rfl) dL_law_877 ⟨Nat.le_of_ble_eq_true rfl, Nat.le_of_ble_eq_true rfl⟩ hS (fun q hq => sr_loM hloM hq) (fun v H2 locs hv hPM hS hkq => ?_)
  have hP := sr_keepC hdis hP hkq
  refine lv_icmp_eq (tgt := 1104) C0.1 C0.2.1 dL_law_880 (by decide) (fun _ => ?_) (fun z => absurd rfl z)
  exact kk _ _ _ _ _ _ _ _ ⟨sr_LJ_x hJ (sr_fk_lose _ _ _) (sr_Xk_lose hSC _) hv, hP, hPM, hS⟩ hl
set_option maxRecDepth 100000 in
set_option maxHeartbeats 4000000 in
theorem lw_c26 {p : Program} {l : Launch} {e : Env} {s : State} {m : MethodId} {below : List Frame} {meth : Method} {c : Code} {Q : State → Prop} {D : va_G} {cI cR : ClassId} {aC aM : Nat → Nat} {b L : Nat} {xs : Nat → Int32} (hC : sr_LC D cI cR aC aM b L xs p s m #[.ref b] c) {kp X g cM r : sr_M} {H : Heap} {locs : List Loc} {ls : Array Slot} {ix : Nat} (hH : sr_LH D cI cR aC aM s H locs kp X g cM r) (hl : lv_has ls 4 [(3, .int (nI ix)), (2, .ref (aM 0)), (1, .ref (aC 0)), (0, .ref b)]) (hi : ix + 6 ≤ L) (hL : L ≤ 384)
    (kk : ∀ (kp X g cM r : sr_M) (H : Heap) (locs : List Loc) (ls : Array Slot), sr_LH D cI cR aC aM s H locs kp X g cM r → lv_has ls 4 [(3, .int (nI ix)), (2, .ref (aM 0)), (1, .ref (aC 0)), (0, .ref b)] → W p l e room_1 s m #[.ref b] below meth c H locs 600000 7302249 Q (F0 m 1104 ls [])) : W p l e room_1 s m #[.ref b] below meth c H locs 600000 7302249 Q (F0 m 885 ls []) := by
  obtain ⟨C0, hK, hZ0, haC, haM, hdis, hloC, hloM, hX, hbl⟩ := hC
  obtain ⟨hJ, hP, hPM, hS⟩ := hH
  have hI := hJ.1
  have hSC := hJ.2.1
  have hRX := hJ.2.2
  have hK_ := sr_IC_K hI
  have hKM : va_K D vwCl (sr_tM cI) s := hK.sub [0] rfl
  have hbA : ¬ (fun q : Nat => s.heap.size ≤ q) b := Nat.not_le.mpr hbl
  refine lv_aload_n C0.1 C0.2.1 dL_law_885 rfl (lv_at hl 2 rfl) ?_
  refine lv_aload_n C0.1 C0.2.1 dL_law_886 rfl (lv_at hl 3 rfl) ?_
  refine lv_iload_n C0.1 C0.2.1 dL_law_887 rfl (lv_at hl 0 rfl) ?_
  refine lv_iconst (v := 1) C0.1 C0.2.1 dL_law_888 (by decide) ?_
  refine lv_iadd C0.1 C0.2.1 dL_law_889 ?_
  refine sr_chi (nI_add ix 1) ?_
  refine va_sld C0.1 C0.2.1 hX hbl hbA hS (vp_in_nI (by omega) (by omega)) dL_law_890 ?_
  refine sr_chi (congrArg xs (nI_clamp (n := ix + 1) (by omega))) ?_
  refine lv_aload_n C0.1 C0.2.1 dL_law_891 rfl (lv_at hl 3 rfl) ?_
  refine lv_iload_n C0.1 C0.2.1 dL_law_892 rfl (lv_at hl 0 rfl) ?_
  refine lv_iconst (v := 2) C0.1 C0.2.1 dL_law_893 (by decide) ?_
  refine lv_iadd C0.1 C0.2.1 dL_law_894 ?_
  refine sr_chi (nI_add ix 2) ?_
  refine va_sld C0.1 C0.2.1 hX hbl hbA hS (vp_in_nI (by omega) (by omega)) dL_law_895 ?_
  refine sr_chi (congrArg xs (nI_clamp (n := ix + 2) (by omega))) ?_
  refine lv_aload_n C0.1 C0.2.1 dL_law_896 rfl (lv_at hl 3 rfl) ?_
  refine lv_iload_n C0.1 C0.2.1 dL_law_897 rfl (lv_at hl 0 rfl) ?_
  refine lv_iconst (v := 3) C0.1 C0.2.1 dL_law_898 (by decide) ?_
  refine lv_iadd C0.1 C0.2.1 dL_law_899 ?_
  refine sr_chi (nI_add ix 3) ?_
  refine va_sld C0.1 C0.2.1 hX hbl hbA hS (vp_in_nI (by omega) (by omega)) dL_law_900 ?_
  refine sr_chi (congrArg xs (nI_clamp (n := ix + 3) (by omega))) ?_
  refine lv_aload_n C0.1 C0.2.1 dL_law_901 rfl (lv_at hl 3 rfl) ?_
  refine lv_iload_n C0.1 C0.2.1 dL_law_902 rfl (lv_at hl 0 rfl) ?_
  refine lv_iconst (v := 4) C0.1 C0.2.1 dL_law_903 (by decide) ?_
  refine lv_iadd C0.1 C0.2.1 dL_law_904 ?_
  refine sr_chi (nI_add ix 4) ?_
  refine va_sld C0.1 C0.2.1 hX hbl hbA hS (vp_in_nI (by omega) (by omega)) dL_law_905 ?_
  refine sr_chi (congrArg xs (nI_clamp (n := ix + 4) (by omega))) ?_
  refine sr_lVi (As := [.int (xs (ix + 1)), .int (xs (ix + 2)), .int (xs (ix + 3)), .int (xs (ix + 4))]) C0 hK hP (sr_ZCok aC) (sr_ZCl hS hZ0) (cc_X7_lay haC (xs (ix + 1)) (xs (ix + 2)) (xs (ix + 3)) (xs (ix + 4)) hSC) sk_X7_lay sv_X7_lay sw_539 (ci := 7) rfl sr_wC0 rfl rfl hl.1 (Nat.le_of_ble_eq_true rfl) (Nat.le_of_ble_eq_true rfl) (Nat.le_of_ble_eq_true rfl) dL_law_906 ⟨Nat.le_of_ble_eq_true rfl, Nat.le_of_ble_eq_true rfl⟩ hS (fun q hq => sr_loC hloC hq) (fun u H1 locs hu hP hS hkq => ?_)
  have hPM := sr_keepM hdis hPM hkq
  clear hkq
  refine lv_aload_n C0.1 C0.2.1 dL_law_909 rfl (lv_at hl 1 rfl) ?_
  refine lv_aload_n C0.1 C0.2.1 dL_law_910 rfl (lv_at hl 3 rfl) ?_
  refine lv_iload_n C0.1 C0.2.1 dL_law_911 rfl (lv_at hl 0 rfl) ?_
  refine lv_iconst (v := 1) C0.1 C0.2.1 dL_law_912 (by decide) ?_
  refine lv_iadd C0.1 C0.2.1 dL_law_913 ?_
  refine sr_chi (nI_add ix 1) ?_
  refine va_sld C0.1 C0.2.1 hX hbl hbA hS (vp_in_nI (by omega) (by omega)) dL_law_914 ?_
  refine sr_chi (congrArg xs (nI_clamp (n := ix + 1) (by omega))) ?_
  refine lv_aload_n C0.1 C0.2.1 dL_law_915 rfl (lv_at hl 3 rfl) ?_
  refine lv_iload_n C0.1 C0.2.1 dL_law_916 rfl (lv_at hl 0 rfl) ?_
  refine lv_iconst (v := 2) C0.1 C0.2.1 dL_law_917 (by decide) ?_
  refine lv_iadd C0.1 C0.2.1 dL_law_918 ?_
  refine sr_chi (nI_add ix 2) ?_
  refine va_sld C0.1 C0.2.1 hX hbl hbA hS (vp_in_nI (by omega) (by omega)) dL_law_919 ?_
  refine sr_chi (congrArg xs (nI_clamp (n := ix + 2) (by omega))) ?_
  refine lv_aload_n C0.1 C0.2.1 dL_law_920 rfl (lv_at hl 3 rfl) ?_
  refine lv_iload_n C0.1 C0.2.1 dL_law_921 rfl (lv_at hl 0 rfl) ?_
  refine lv_iconst (v := 3) C0.1 C0.2.1 dL_law_922 (by decide) ?_
  refine lv_iadd C0.1 C0.2.1 dL_law_923 ?_
  refine sr_chi (nI_add ix 3) ?_
  refine va_sld C0.1 C0.2.1 hX hbl hbA hS (vp_in_nI (by omega) (by omega)) dL_law_924 ?_
  refine sr_chi (congrArg xs (nI_clamp (n := ix + 3) (by omega))) ?_
  refine lv_aload_n C0.1 C0.2.1 dL_law_925 rfl (lv_at hl 3 rfl) ?_
  refine lv_iload_n C0.1 C0.2.1 dL_law_926 rfl (lv_at hl 0 rfl) ?_
  refine lv_iconst (v := 4) C0.1 C0.2.1 dL_law_927 (by decide) ?_
  refine lv_iadd C0.1 C0.2.1 dL_law_928 ?_
  refine sr_chi (nI_add ix 4) ?_
  refine va_sld C0.1 C0.2.1 hX hbl hbA hS (vp_in_nI (by omega) (by omega)) dL_law_929 ?_
  refine sr_chi (congrArg xs (nI_clamp (n := ix + 4) (by omega))) ?_
  refine sr_lVi (As := [.int (xs (ix + 1)), .int (xs (ix + 2)), .int (xs (ix + 3)), .int (xs (ix + 4))]) C0 hKM hPM sr_ZMok trivial (cc_X8_lay haM X (xs (ix + 1)) (xs (ix + 2)) (xs (ix + 3)) (xs (ix + 4)) hSC hRX) sk_X8_lay sv_X8_lay sw_682 (ci := 8) rfl sr_wM0 rfl rfl hl.1 (Nat.le_of_ble_eq_true rfl) (Nat.le_of_ble_eq_true rfl) (Nat.le_of_ble_eq_true rfl) dL_law_930 ⟨Nat.le_of_ble_eq_true rfl, Nat.le_of_ble_eq_true rfl⟩ hS (fun q hq => sr_loM hloM hq) (fun v H2 locs hv hPM hS hkq => ?_)
  have hP := sr_keepC hdis hP hkq
  refine lv_icmp_eq (tgt := 1104) C0.1 C0.2.1 dL_law_933 (by decide) (fun _ => ?_) (fun z => absurd rfl z)
  exact kk _ _ _ _ _ _ _ _ ⟨sr_LJ_x hJ (sr_fk_lay _ _ _ _ _) (sr_Xk_lay hSC _ _ _ _) hv, hP, hPM, hS⟩ hl
set_option maxRecDepth 100000 in
set_option maxHeartbeats 4000000 in
theorem lw_c27 {p : Program} {l : Launch} {e : Env} {s : State} {m : MethodId} {below : List Frame} {meth : Method} {c : Code} {Q : State → Prop} {D : va_G} {cI cR : ClassId} {aC aM : Nat → Nat} {b L : Nat} {xs : Nat → Int32} (hC : sr_LC D cI cR aC aM b L xs p s m #[.ref b] c) {kp X g cM r : sr_M} {H : Heap} {locs : List Loc} {ls : Array Slot} {ix : Nat} (hH : sr_LH D cI cR aC aM s H locs kp X g cM r) (hl : lv_has ls 4 [(3, .int (nI ix)), (2, .ref (aM 0)), (1, .ref (aC 0)), (0, .ref b)]) (hi : ix + 6 ≤ L) (hL : L ≤ 384)
    (kk : ∀ (kp X g cM r : sr_M) (H : Heap) (locs : List Loc) (ls : Array Slot), sr_LH D cI cR aC aM s H locs kp X g cM r → lv_has ls 4 [(3, .int (nI ix)), (2, .ref (aM 0)), (1, .ref (aC 0)), (0, .ref b)] → W p l e room_1 s m #[.ref b] below meth c H locs 600000 7302249 Q (F0 m 1104 ls [])) : W p l e room_1 s m #[.ref b] below meth c H locs 600000 7302249 Q (F0 m 938 ls []) := by
  obtain ⟨C0, hK, hZ0, haC, haM, hdis, hloC, hloM, hX, hbl⟩ := hC
  obtain ⟨hJ, hP, hPM, hS⟩ := hH
  have hI := hJ.1
  have hSC := hJ.2.1
  have hRX := hJ.2.2
  have hK_ := sr_IC_K hI
  have hKM : va_K D vwCl (sr_tM cI) s := hK.sub [0] rfl
  have hbA : ¬ (fun q : Nat => s.heap.size ≤ q) b := Nat.not_le.mpr hbl
  refine lv_aload_n C0.1 C0.2.1 dL_law_938 rfl (lv_at hl 2 rfl) ?_
  refine lv_aload_n C0.1 C0.2.1 dL_law_939 rfl (lv_at hl 3 rfl) ?_
  refine lv_iload_n C0.1 C0.2.1 dL_law_940 rfl (lv_at hl 0 rfl) ?_
  refine lv_iconst (v := 1) C0.1 C0.2.1 dL_law_941 (by decide) ?_
  refine lv_iadd C0.1 C0.2.1 dL_law_942 ?_
  refine sr_chi (nI_add ix 1) ?_
  refine va_sld C0.1 C0.2.1 hX hbl hbA hS (vp_in_nI (by omega) (by omega)) dL_law_943 ?_
  refine sr_chi (congrArg xs (nI_clamp (n := ix + 1) (by omega))) ?_
  refine lv_aload_n C0.1 C0.2.1 dL_law_944 rfl (lv_at hl 3 rfl) ?_
  refine lv_iload_n C0.1 C0.2.1 dL_law_945 rfl (lv_at hl 0 rfl) ?_
  refine lv_iconst (v := 2) C0.1 C0.2.1 dL_law_946 (by decide) ?_
  refine lv_iadd C0.1 C0.2.1 dL_law_947 ?_
  refine sr_chi (nI_add ix 2) ?_
  refine va_sld C0.1 C0.2.1 hX hbl hbA hS (vp_in_nI (by omega) (by omega)) dL_law_948 ?_
  refine sr_chi (congrArg xs (nI_clamp (n := ix + 2) (by omega))) ?_
  refine lv_aload_n C0.1 C0.2.1 dL_law_949 rfl (lv_at hl 3 rfl) ?_
  refine lv_iload_n C0.1 C0.2.1 dL_law_950 rfl (lv_at hl 0 rfl) ?_
  refine lv_iconst (v := 3) C0.1 C0.2.1 dL_law_951 (by decide) ?_
  refine lv_iadd C0.1 C0.2.1 dL_law_952 ?_
  refine sr_chi (nI_add ix 3) ?_
  refine va_sld C0.1 C0.2.1 hX hbl hbA hS (vp_in_nI (by omega) (by omega)) dL_law_953 ?_
  refine sr_chi (congrArg xs (nI_clamp (n := ix + 3) (by omega))) ?_
  refine sr_lVi (As := [.int (xs (ix + 1)), .int (xs (ix + 2)), .int (xs (ix + 3))]) C0 hK hP (sr_ZCok aC) (sr_ZCl hS hZ0) (cc_X7_get haC (xs (ix + 1)) (xs (ix + 2)) (xs (ix + 3)) hSC) sk_X7_get sv_X7_get sw_553 (ci := 7) rfl sr_wC0 rfl rfl hl.1 (Nat.le_of_ble_eq_true rfl) (Nat.le_of_ble_eq_true rfl) (Nat.le_of_ble_eq_true rfl) dL_law_954 ⟨Nat.le_of_ble_eq_true rfl, Nat.le_of_ble_eq_true rfl⟩ hS (fun q hq => sr_loC hloC hq) (fun u H1 locs hu hP hS hkq => ?_)
  have hPM := sr_keepM hdis hPM hkq
  clear hkq
  refine lv_aload_n C0.1 C0.2.1 dL_law_957 rfl (lv_at hl 1 rfl) ?_
  refine lv_aload_n C0.1 C0.2.1 dL_law_958 rfl (lv_at hl 3 rfl) ?_
  refine lv_iload_n C0.1 C0.2.1 dL_law_959 rfl (lv_at hl 0 rfl) ?_
  refine lv_iconst (v := 1) C0.1 C0.2.1 dL_law_960 (by decide) ?_
  refine lv_iadd C0.1 C0.2.1 dL_law_961 ?_
  refine sr_chi (nI_add ix 1) ?_
  refine va_sld C0.1 C0.2.1 hX hbl hbA hS (vp_in_nI (by omega) (by omega)) dL_law_962 ?_
  refine sr_chi (congrArg xs (nI_clamp (n := ix + 1) (by omega))) ?_
  refine lv_aload_n C0.1 C0.2.1 dL_law_963 rfl (lv_at hl 3 rfl) ?_
  refine lv_iload_n C0.1 C0.2.1 dL_law_964 rfl (lv_at hl 0 rfl) ?_
  refine lv_iconst (v := 2) C0.1 C0.2.1 dL_law_965 (by decide) ?_
  refine lv_iadd C0.1 C0.2.1 dL_law_966 ?_
  refine sr_chi (nI_add ix 2) ?_
  refine va_sld C0.1 C0.2.1 hX hbl hbA hS (vp_in_nI (by omega) (by omega)) dL_law_967 ?_
  refine sr_chi (congrArg xs (nI_clamp (n := ix + 2) (by omega))) ?_
  refine lv_aload_n C0.1 C0.2.1 dL_law_968 rfl (lv_at hl 3 rfl) ?_
  refine lv_iload_n C0.1 C0.2.1 dL_law_969 rfl (lv_at hl 0 rfl) ?_
  refine lv_iconst (v := 3) C0.1 C0.2.1 dL_law_970 (by decide) ?_
  refine lv_iadd C0.1 C0.2.1 dL_law_971 ?_
  refine sr_chi (nI_add ix 3) ?_
  refine va_sld C0.1 C0.2.1 hX hbl hbA hS (vp_in_nI (by omega) (by omega)) dL_law_972 ?_
  refine sr_chi (congrArg xs (nI_clamp (n := ix + 3) (by omega))) ?_
  refine sr_lVi (As := [.int (xs (ix + 1)), .int (xs (ix + 2)), .int (xs (ix + 3))]) C0 hKM hPM sr_ZMok trivial (cc_X8_get haM X (xs (ix + 1)) (xs (ix + 2)) (xs (ix + 3)) hSC hRX) sk_X8_get sv_X8_get sw_693 (ci := 8) rfl sr_wM0 rfl rfl hl.1 (Nat.le_of_ble_eq_true rfl) (Nat.le_of_ble_eq_true rfl) (Nat.le_of_ble_eq_true rfl) dL_law_973 ⟨Nat.le_of_ble_eq_true rfl, Nat.le_of_ble_eq_true rfl⟩ hS (fun q hq => sr_loM hloM hq) (fun v H2 locs hv hPM hS hkq => ?_)
  have hP := sr_keepC hdis hP hkq
  refine lv_icmp_eq (tgt := 1104) C0.1 C0.2.1 dL_law_976 (by decide) (fun _ => ?_) (fun z => absurd rfl z)
  exact kk _ _ _ _ _ _ _ _ ⟨sr_LJ_x hJ (sr_fk_get _ _ _ _ _) (sr_Xk_r hSC) hRX, hP, hPM, hS⟩ hl
set_option maxRecDepth 100000 in
set_option maxHeartbeats 4000000 in
theorem lw_c28 {p : Program} {l : Launch} {e : Env} {s : State} {m : MethodId} {below : List Frame} {meth : Method} {c : Code} {Q : State → Prop} {D : va_G} {cI cR : ClassId} {aC aM : Nat → Nat} {b L : Nat} {xs : Nat → Int32} (hC : sr_LC D cI cR aC aM b L xs p s m #[.ref b] c) {kp X g cM r : sr_M} {H : Heap} {locs : List Loc} {ls : Array Slot} {ix : Nat} (hH : sr_LH D cI cR aC aM s H locs kp X g cM r) (hl : lv_has ls 4 [(3, .int (nI ix)), (2, .ref (aM 0)), (1, .ref (aC 0)), (0, .ref b)]) (hi : ix + 6 ≤ L) (hL : L ≤ 384)
    (kk : ∀ (kp X g cM r : sr_M) (H : Heap) (locs : List Loc) (ls : Array Slot), sr_LH D cI cR aC aM s H locs kp X g cM r → lv_has ls 4 [(3, .int (nI ix)), (2, .ref (aM 0)), (1, .ref (aC 0)), (0, .ref b)] → W p l e room_1 s m #[.ref b] below meth c H locs 600000 7302249 Q (F0 m 1104 ls [])) : W p l e room_1 s m #[.ref b] below meth c H locs 600000 7302249 Q (F0 m 981 ls []) := by
  obtain ⟨C0, hK, hZ0, haC, haM, hdis, hloC, hloM, hX, hbl⟩ := hC
  obtain ⟨hJ, hP, hPM, hS⟩ := hH
  have hI := hJ.1
  have hSC := hJ.2.1
  have hRX := hJ.2.2
  have hK_ := sr_IC_K hI
  have hKM : va_K D vwCl (sr_tM cI) s := hK.sub [0] rfl
  have hbA : ¬ (fun q : Nat => s.heap.size ≤ q) b := Nat.not_le.mpr hbl
  refine lv_aload_n C0.1 C0.2.1 dL_law_981 rfl (lv_at hl 2 rfl) ?_
  refine lv_aload_n C0.1 C0.2.1 dL_law_982 rfl (lv_at hl 3 rfl) ?_
  refine lv_iload_n C0.1 C0.2.1 dL_law_983 rfl (lv_at hl 0 rfl) ?_
  refine lv_iconst (v := 1) C0.1 C0.2.1 dL_law_984 (by decide) ?_
  refine lv_iadd C0.1 C0.2.1 dL_law_985 ?_
  refine sr_chi (nI_add ix 1) ?_
  refine va_sld C0.1 C0.2.1 hX hbl hbA hS (vp_in_nI (by omega) (by omega)) dL_law_986 ?_
  refine sr_chi (congrArg xs (nI_clamp (n := ix + 1) (by omega))) ?_
  refine lv_aload_n C0.1 C0.2.1 dL_law_987 rfl (lv_at hl 3 rfl) ?_
  refine lv_iload_n C0.1 C0.2.1 dL_law_988 rfl (lv_at hl 0 rfl) ?_
  refine lv_iconst (v := 2) C0.1 C0.2.1 dL_law_989 (by decide) ?_
  refine lv_iadd C0.1 C0.2.1 dL_law_990 ?_
  refine sr_chi (nI_add ix 2) ?_
  refine va_sld C0.1 C0.2.1 hX hbl hbA hS (vp_in_nI (by omega) (by omega)) dL_law_991 ?_
  refine sr_chi (congrArg xs (nI_clamp (n := ix + 2) (by omega))) ?_
  refine lv_aload_n C0.1 C0.2.1 dL_law_992 rfl (lv_at hl 3 rfl) ?_
  refine lv_iload_n C0.1 C0.2.1 dL_law_993 rfl (lv_at hl 0 rfl) ?_
  refine lv_iconst (v := 3) C0.1 C0.2.1 dL_law_994 (by decide) ?_
  refine lv_iadd C0.1 C0.2.1 dL_law_995 ?_
  refine sr_chi (nI_add ix 3) ?_
  refine va_sld C0.1 C0.2.1 hX hbl hbA hS (vp_in_nI (by omega) (by omega)) dL_law_996 ?_
  refine sr_chi (congrArg xs (nI_clamp (n := ix + 3) (by omega))) ?_
  refine lv_aload_n C0.1 C0.2.1 dL_law_997 rfl (lv_at hl 3 rfl) ?_
  refine lv_iload_n C0.1 C0.2.1 dL_law_998 rfl (lv_at hl 0 rfl) ?_
  refine lv_iconst (v := 4) C0.1 C0.2.1 dL_law_999 (by decide) ?_
  refine lv_iadd C0.1 C0.2.1 dL_law_1000 ?_
  refine sr_chi (nI_add ix 4) ?_
  refine va_sld C0.1 C0.2.1 hX hbl hbA hS (vp_in_nI (by omega) (by omega)) dL_law_1001 ?_
  refine sr_chi (congrArg xs (nI_clamp (n := ix + 4) (by omega))) ?_
  refine lv_aload_n C0.1 C0.2.1 dL_law_1002 rfl (lv_at hl 3 rfl) ?_
  refine lv_iload_n C0.1 C0.2.1 dL_law_1003 rfl (lv_at hl 0 rfl) ?_
  refine lv_iconst (v := 5) C0.1 C0.2.1 dL_law_1004 (by decide) ?_
  refine lv_iadd C0.1 C0.2.1 dL_law_1005 ?_
  refine sr_chi (nI_add ix 5) ?_
  refine va_sld C0.1 C0.2.1 hX hbl hbA hS (vp_in_nI (by omega) (by omega)) dL_law_1006 ?_
  refine sr_chi (congrArg xs (nI_clamp (n := ix + 5) (by omega))) ?_
  refine sr_lVi (As := [.int (xs (ix + 1)), .int (xs (ix + 2)), .int (xs (ix + 3)), .int (xs (ix + 4)), .int (xs (ix + 5))]) C0 hK hP (sr_ZCok aC) (sr_ZCl hS hZ0) (cc_X7_copy haC (xs (ix + 1)) (xs (ix + 2)) (xs (ix + 3)) (xs (ix + 4)) (xs (ix + 5)) hSC) sk_X7_copy sv_X7_copy sw_558 (ci := 7) rfl sr_wC0 rfl rfl hl.1 (Nat.le_of_ble_eq_true rfl) (Nat.le_of_ble_eq_true rfl) (Nat.le_of_ble_eq_true rfl) dL_law_1007 ⟨Nat.le_of_ble_eq_true rfl, Nat.le_of_ble_eq_true rfl⟩ hS (fun q hq => sr_loC hloC hq) (fun u H1 locs hu hP hS hkq => ?_)
  have hPM := sr_keepM hdis hPM hkq
  clear hkq
  refine lv_aload_n C0.1 C0.2.1 dL_law_1010 rfl (lv_at hl 1 rfl) ?_
  refine lv_aload_n C0.1 C0.2.1 dL_law_1011 rfl (lv_at hl 3 rfl) ?_
  refine lv_iload_n C0.1 C0.2.1 dL_law_1012 rfl (lv_at hl 0 rfl) ?_
  refine lv_iconst (v := 1) C0.1 C0.2.1 dL_law_1013 (by decide) ?_
  refine lv_iadd C0.1 C0.2.1 dL_law_1014 ?_
  refine sr_chi (nI_add ix 1) ?_
  refine va_sld C0.1 C0.2.1 hX hbl hbA hS (vp_in_nI (by omega) (by omega)) dL_law_1015 ?_
  refine sr_chi (congrArg xs (nI_clamp (n := ix + 1) (by omega))) ?_
  refine lv_aload_n C0.1 C0.2.1 dL_law_1016 rfl (lv_at hl 3 rfl) ?_
  refine lv_iload_n C0.1 C0.2.1 dL_law_1017 rfl (lv_at hl 0 rfl) ?_
  refine lv_iconst (v := 2) C0.1 C0.2.1 dL_law_1018 (by decide) ?_
  refine lv_iadd C0.1 C0.2.1 dL_law_1019 ?_
  refine sr_chi (nI_add ix 2) ?_
  refine va_sld C0.1 C0.2.1 hX hbl hbA hS (vp_in_nI (by omega) (by omega)) dL_law_1020 ?_
  refine sr_chi (congrArg xs (nI_clamp (n := ix + 2) (by omega))) ?_
  refine lv_aload_n C0.1 C0.2.1 dL_law_1021 rfl (lv_at hl 3 rfl) ?_
  refine lv_iload_n C0.1 C0.2.1 dL_law_1022 rfl (lv_at hl 0 rfl) ?_
  refine lv_iconst (v := 3) C0.1 C0.2.1 dL_law_1023 (by decide) ?_
  refine lv_iadd C0.1 C0.2.1 dL_law_1024 ?_
  refine sr_chi (nI_add ix 3) ?_
  refine va_sld C0.1 C0.2.1 hX hbl hbA hS (vp_in_nI (by omega) (by omega)) dL_law_1025 ?_
  refine sr_chi (congrArg xs (nI_clamp (n := ix + 3) (by omega))) ?_
  refine lv_aload_n C0.1 C0.2.1 dL_law_1026 rfl (lv_at hl 3 rfl) ?_
  refine lv_iload_n C0.1 C0.2.1 dL_law_1027 rfl (lv_at hl 0 rfl) ?_
  refine lv_iconst (v := 4) C0.1 C0.2.1 dL_law_1028 (by decide) ?_
  refine lv_iadd C0.1 C0.2.1 dL_law_1029 ?_
  refine sr_chi (nI_add ix 4) ?_
  refine va_sld C0.1 C0.2.1 hX hbl hbA hS (vp_in_nI (by omega) (by omega)) dL_law_1030 ?_
  refine sr_chi (congrArg xs (nI_clamp (n := ix + 4) (by omega))) ?_
  refine lv_aload_n C0.1 C0.2.1 dL_law_1031 rfl (lv_at hl 3 rfl) ?_
  refine lv_iload_n C0.1 C0.2.1 dL_law_1032 rfl (lv_at hl 0 rfl) ?_
  refine lv_iconst (v := 5) C0.1 C0.2.1 dL_law_1033 (by decide) ?_
  refine lv_iadd C0.1 C0.2.1 dL_law_1034 ?_
  refine sr_chi (nI_add ix 5) ?_
  refine va_sld C0.1 C0.2.1 hX hbl hbA hS (vp_in_nI (by omega) (by omega)) dL_law_1035 ?_
  refine sr_chi (congrArg xs (nI_clamp (n := ix + 5) (by omega))) ?_
  refine sr_lVi (As := [.int (xs (ix + 1)), .int (xs (ix + 2)), .int (xs (ix + 3)), .int (xs (ix + 4)), .int (xs (ix + 5))]) C0 hKM hPM sr_ZMok trivial (cc_X8_copy haM X (xs (ix + 1)) (xs (ix + 2)) (xs (ix + 3)) (xs (ix + 4)) (xs (ix + 5)) hSC hRX) sk_X8_copy sv_X8_copy sw_698 (ci := 8) rfl sr_wM0 rfl rfl hl.1 (Nat.le_of_ble_eq_true rfl) (Nat.le_of_ble_eq_true rfl) (Nat.le_of_ble_eq_true rfl) dL_law_1036 ⟨Nat.le_of_ble_eq_true rfl, Nat.le_of_ble_eq_true rfl⟩ hS (fun q hq => sr_loM hloM hq) (fun v H2 locs hv hPM hS hkq => ?_)
  have hP := sr_keepC hdis hP hkq
  refine lv_icmp_eq (tgt := 1104) C0.1 C0.2.1 dL_law_1039 (by decide) (fun _ => ?_) (fun z => absurd rfl z)
  exact kk _ _ _ _ _ _ _ _ ⟨sr_LJ_x hJ (sr_fk_copy _ _ _ _ _ _ _) (sr_Xk_copy hSC _ _ _ _ _) hv, hP, hPM, hS⟩ hl
set_option maxRecDepth 100000 in
set_option maxHeartbeats 4000000 in
theorem lw_c29 {p : Program} {l : Launch} {e : Env} {s : State} {m : MethodId} {below : List Frame} {meth : Method} {c : Code} {Q : State → Prop} {D : va_G} {cI cR : ClassId} {aC aM : Nat → Nat} {b L : Nat} {xs : Nat → Int32} (hC : sr_LC D cI cR aC aM b L xs p s m #[.ref b] c) {kp X g cM r : sr_M} {H : Heap} {locs : List Loc} {ls : Array Slot} {ix : Nat} (hH : sr_LH D cI cR aC aM s H locs kp X g cM r) (hl : lv_has ls 4 [(3, .int (nI ix)), (2, .ref (aM 0)), (1, .ref (aC 0)), (0, .ref b)]) (hi : ix + 6 ≤ L) (hL : L ≤ 384)
    (kk : ∀ (kp X g cM r : sr_M) (H : Heap) (locs : List Loc) (ls : Array Slot), sr_LH D cI cR aC aM s H locs kp X g cM r → lv_has ls 4 [(3, .int (nI ix)), (2, .ref (aM 0)), (1, .ref (aC 0)), (0, .ref b)] → W p l e room_1 s m #[.ref b] below meth c H locs 600000 7302249 Q (F0 m 1104 ls [])) : W p l e room_1 s m #[.ref b] below meth c H locs 600000 7302249 Q (F0 m 1044 ls []) := by
  obtain ⟨C0, hK, hZ0, haC, haM, hdis, hloC, hloM, hX, hbl⟩ := hC
  obtain ⟨hJ, hP, hPM, hS⟩ := hH
  have hI := hJ.1
  have hSC := hJ.2.1
  have hRX := hJ.2.2
  have hK_ := sr_IC_K hI
  have hKM : va_K D vwCl (sr_tM cI) s := hK.sub [0] rfl
  have hbA : ¬ (fun q : Nat => s.heap.size ≤ q) b := Nat.not_le.mpr hbl
  refine lv_aload_n C0.1 C0.2.1 dL_law_1044 rfl (lv_at hl 2 rfl) ?_
  refine lv_aload_n C0.1 C0.2.1 dL_law_1045 rfl (lv_at hl 3 rfl) ?_
  refine lv_iload_n C0.1 C0.2.1 dL_law_1046 rfl (lv_at hl 0 rfl) ?_
  refine lv_iconst (v := 1) C0.1 C0.2.1 dL_law_1047 (by decide) ?_
  refine lv_iadd C0.1 C0.2.1 dL_law_1048 ?_
  refine sr_chi (nI_add ix 1) ?_
  refine va_sld C0.1 C0.2.1 hX hbl hbA hS (vp_in_nI (by omega) (by omega)) dL_law_1049 ?_
  refine sr_chi (congrArg xs (nI_clamp (n := ix + 1) (by omega))) ?_
  refine sr_lVi (As := [.int (xs (ix + 1))]) C0 hK hP (sr_ZCok aC) (sr_ZCl hS hZ0) (cc_X7_write haC (xs (ix + 1)) hI hSC) sk_X7_write sv_X7_write sw_569 (ci := 7) rfl sr_wC0 rfl rfl hl.1 (Nat.le_of_ble_eq_true rfl) (Nat.le_of_ble_eq_true rfl) (Nat.le_of_ble_eq_true rfl) dL_law_1050 ⟨Nat.le_of_ble_eq_true rfl, Nat.le_of_ble_eq_true rfl⟩ hS (fun q hq => sr_loC hloC hq) (fun u H1 locs hu hP hS hkq => ?_)
  have hPM := sr_keepM hdis hPM hkq
  clear hkq
  refine lv_aload_n C0.1 C0.2.1 dL_law_1053 rfl (lv_at hl 1 rfl) ?_
  refine lv_aload_n C0.1 C0.2.1 dL_law_1054 rfl (lv_at hl 3 rfl) ?_
  refine lv_iload_n C0.1 C0.2.1 dL_law_1055 rfl (lv_at hl 0 rfl) ?_
  refine lv_iconst (v := 1) C0.1 C0.2.1 dL_law_1056 (by decide) ?_
  refine lv_iadd C0.1 C0.2.1 dL_law_1057 ?_
  refine sr_chi (nI_add ix 1) ?_
  refine va_sld C0.1 C0.2.1 hX hbl hbA hS (vp_in_nI (by omega) (by omega)) dL_law_1058 ?_
  refine sr_chi (congrArg xs (nI_clamp (n := ix + 1) (by omega))) ?_
  refine sr_lVi (As := [.int (xs (ix + 1))]) C0 hKM hPM sr_ZMok trivial (cc_X8_write haM X (xs (ix + 1)) hK_ hSC hRX) sk_X8_write sv_X8_write sw_955 (ci := 8) rfl sr_wM0 rfl rfl hl.1 (Nat.le_of_ble_eq_true rfl) (Nat.le_of_ble_eq_true rfl) (Nat.le_of_ble_eq_true rfl) dL_law_1059 ⟨Nat.le_of_ble_eq_true rfl, Nat.le_of_ble_eq_true rfl⟩ hS (fun q hq => sr_loM hloM hq) (fun v H2 locs hv hPM hS hkq => ?_)
  have hP := sr_keepC hdis hP hkq
  refine lv_icmp_eq (tgt := 1104) C0.1 C0.2.1 dL_law_1062 (by decide) (fun _ => ?_) (fun z => absurd rfl z)
  exact kk _ _ _ _ _ _ _ _ ⟨sr_LJ_x hJ (sr_fk_write _ _ _) (sr_Xk_write hSC _) hv, hP, hPM, hS⟩ hl
set_option maxRecDepth 100000 in
set_option maxHeartbeats 4000000 in
theorem lw_c30 {p : Program} {l : Launch} {e : Env} {s : State} {m : MethodId} {below : List Frame} {meth : Method} {c : Code} {Q : State → Prop} {D : va_G} {cI cR : ClassId} {aC aM : Nat → Nat} {b L : Nat} {xs : Nat → Int32} (hC : sr_LC D cI cR aC aM b L xs p s m #[.ref b] c) {kp X g cM r : sr_M} {H : Heap} {locs : List Loc} {ls : Array Slot} {ix : Nat} (hH : sr_LH D cI cR aC aM s H locs kp X g cM r) (hl : lv_has ls 4 [(3, .int (nI ix)), (2, .ref (aM 0)), (1, .ref (aC 0)), (0, .ref b)]) (hi : ix + 6 ≤ L) (hL : L ≤ 384)
    (kk : ∀ (kp X g cM r : sr_M) (H : Heap) (locs : List Loc) (ls : Array Slot), sr_LH D cI cR aC aM s H locs kp X g cM r → lv_has ls 4 [(3, .int (nI ix)), (2, .ref (aM 0)), (1, .ref (aC 0)), (0, .ref b)] → W p l e room_1 s m #[.ref b] below meth c H locs 600000 7302249 Q (F0 m 1104 ls [])) : W p l e room_1 s m #[.ref b] below meth c H locs 600000 7302249 Q (F0 m 1067 ls []) := by
  obtain ⟨C0, hK, hZ0, haC, haM, hdis, hloC, hloM, hX, hbl⟩ := hC
  obtain ⟨hJ, hP, hPM, hS⟩ := hH
  have hI := hJ.1
  have hSC := hJ.2.1
  have hRX := hJ.2.2
  have hK_ := sr_IC_K hI
  have hKM : va_K D vwCl (sr_tM cI) s := hK.sub [0] rfl
  have hbA : ¬ (fun q : Nat => s.heap.size ≤ q) b := Nat.not_le.mpr hbl
  refine lv_aload_n C0.1 C0.2.1 dL_law_1067 rfl (lv_at hl 2 rfl) ?_
  refine lv_aload_n C0.1 C0.2.1 dL_law_1068 rfl (lv_at hl 3 rfl) ?_
  refine lv_iload_n C0.1 C0.2.1 dL_law_1069 rfl (lv_at hl 0 rfl) ?_
  refine lv_iconst (v := 1) C0.1 C0.2.1 dL_law_1070 (by decide) ?_
  refine lv_iadd C0.1 C0.2.1 dL_law_1071 ?_
  refine sr_chi (nI_add ix 1) ?_
  refine va_sld C0.1 C0.2.1 hX hbl hbA hS (vp_in_nI (by omega) (by omega)) dL_law_1072 ?_
  refine sr_chi (congrArg xs (nI_clamp (n := ix + 1) (by omega))) ?_
  refine sr_pVi (As := [.int (xs (ix + 1))]) C0 hK hP (sr_ZCok aC) (sr_ZCl hS hZ0) (cc_X7_count haC (xs (ix + 1)) hI) sk_X7_count sv_X7_count sw_573 (ci := 7) rfl sr_wC0 rfl rfl hl.1 (Nat.le_of_ble_eq_true rfl) (Nat.le_of_ble_eq_true rfl) (Nat.le_of_ble_eq_true rfl) dL_law_1073 ⟨Nat.le_of_ble_eq_true rfl, Nat.le_of_ble_eq_true rfl⟩ ?_
  refine lv_aload_n C0.1 C0.2.1 dL_law_1076 rfl (lv_at hl 1 rfl) ?_
  refine lv_aload_n C0.1 C0.2.1 dL_law_1077 rfl (lv_at hl 3 rfl) ?_
  refine lv_iload_n C0.1 C0.2.1 dL_law_1078 rfl (lv_at hl 0 rfl) ?_
  refine lv_iconst (v := 1) C0.1 C0.2.1 dL_law_1079 (by decide) ?_
  refine lv_iadd C0.1 C0.2.1 dL_law_1080 ?_
  refine sr_chi (nI_add ix 1) ?_
  refine va_sld C0.1 C0.2.1 hX hbl hbA hS (vp_in_nI (by omega) (by omega)) dL_law_1081 ?_
  refine sr_chi (congrArg xs (nI_clamp (n := ix + 1) (by omega))) ?_
  refine sr_lVi (As := [.int (xs (ix + 1))]) C0 hKM hPM sr_ZMok trivial (cc_X8_count haM (xs (ix + 1)) hK_) sk_X8_count sv_X8_count sw_959 (ci := 8) rfl sr_wM0 rfl rfl hl.1 (Nat.le_of_ble_eq_true rfl) (Nat.le_of_ble_eq_true rfl) (Nat.le_of_ble_eq_true rfl) dL_law_1082 ⟨Nat.le_of_ble_eq_true rfl, Nat.le_of_ble_eq_true rfl⟩ hS (fun q hq => sr_loM hloM hq) (fun v H2 locs hv hPM hS hkq => ?_)
  have hP := sr_keepC hdis hP hkq
  refine lv_icmp_eq (tgt := 1104) C0.1 C0.2.1 dL_law_1085 (by decide) (fun _ => ?_) (fun z => absurd rfl z)
  exact kk _ _ _ _ _ _ _ _ ⟨hJ, hP, hPM, hS⟩ hl
set_option maxRecDepth 100000 in
set_option maxHeartbeats 4000000 in
theorem lw_c31 {p : Program} {l : Launch} {e : Env} {s : State} {m : MethodId} {below : List Frame} {meth : Method} {c : Code} {Q : State → Prop} {D : va_G} {cI cR : ClassId} {aC aM : Nat → Nat} {b L : Nat} {xs : Nat → Int32} (hC : sr_LC D cI cR aC aM b L xs p s m #[.ref b] c) {kp X g cM r : sr_M} {H : Heap} {locs : List Loc} {ls : Array Slot} {ix : Nat} (hH : sr_LH D cI cR aC aM s H locs kp X g cM r) (hl : lv_has ls 4 [(3, .int (nI ix)), (2, .ref (aM 0)), (1, .ref (aC 0)), (0, .ref b)]) (hi : ix + 6 ≤ L) (hL : L ≤ 384)
    (kk : ∀ (kp X g cM r : sr_M) (H : Heap) (locs : List Loc) (ls : Array Slot), sr_LH D cI cR aC aM s H locs kp X g cM r → lv_has ls 4 [(3, .int (nI ix)), (2, .ref (aM 0)), (1, .ref (aC 0)), (0, .ref b)] → W p l e room_1 s m #[.ref b] below meth c H locs 600000 7302249 Q (F0 m 1104 ls [])) : W p l e room_1 s m #[.ref b] below meth c H locs 600000 7302249 Q (F0 m 1090 ls []) := by
  obtain ⟨C0, hK, hZ0, haC, haM, hdis, hloC, hloM, hX, hbl⟩ := hC
  obtain ⟨hJ, hP, hPM, hS⟩ := hH
  have hI := hJ.1
  have hSC := hJ.2.1
  have hRX := hJ.2.2
  have hK_ := sr_IC_K hI
  have hKM : va_K D vwCl (sr_tM cI) s := hK.sub [0] rfl
  have hbA : ¬ (fun q : Nat => s.heap.size ≤ q) b := Nat.not_le.mpr hbl
  refine lv_aload_n C0.1 C0.2.1 dL_law_1090 rfl (lv_at hl 2 rfl) ?_
  refine sr_lVl (As := []) C0 hK hP (sr_ZCok aC) (sr_ZCl hS hZ0) (cc_X7_digest haC hI) sk_X7_digest sv_X7_digest sw_582 (ci := 7) rfl sr_wC0 rfl rfl hl.1 (Nat.le_of_ble_eq_true rfl) (Nat.le_of_ble_eq_true rfl) (Nat.le_of_ble_eq_true rfl) dL_law_1091 ⟨Nat.le_of_ble_eq_true rfl, Nat.le_of_ble_eq_true rfl⟩ hS (fun q hq => sr_loC hloC hq) (fun u H1 locs hu hP hS hkq => ?_)
  have hPM := sr_keepM hdis hPM hkq
  clear hkq
  refine lv_aload_n C0.1 C0.2.1 dL_law_1094 rfl (lv_at hl 1 rfl) ?_
  refine sr_lVl (As := []) C0 hKM hPM sr_ZMok trivial (cc_X8_digest haM hK_) sk_X8_digest sv_X8_digest sw_967 (ci := 8) rfl sr_wM0 rfl rfl hl.1 (Nat.le_of_ble_eq_true rfl) (Nat.le_of_ble_eq_true rfl) (Nat.le_of_ble_eq_true rfl) dL_law_1095 ⟨Nat.le_of_ble_eq_true rfl, Nat.le_of_ble_eq_true rfl⟩ hS (fun q hq => sr_loM hloM hq) (fun v H2 locs hv hPM hS hkq => ?_)
  have hP := sr_keepC hdis hP hkq
  refine W.lcmp C0.1 C0.2.1 dL_law_1098 ?_
  refine sr_lceq (tgt := 1104) C0 dL_law_1099 (by decide) (fun _ => ?_) (fun z => absurd rfl z)
  exact kk _ _ _ _ _ _ _ _ ⟨hJ, hP, hPM, hS⟩ hl
