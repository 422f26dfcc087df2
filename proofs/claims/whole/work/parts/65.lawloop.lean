set_option maxRecDepth 100000 in
set_option maxHeartbeats 8000000 in
theorem lw_loop {p : Program} {l : Launch} {e : Env} {s : State} {m : MethodId} {below : List Frame} {meth : Method} {c : Code} {Q : State → Prop} {D : va_G} {cI cR : ClassId} {aC aM : Nat → Nat} {b L : Nat} {xs : Nat → Int32} (hC : sr_LC D cI cR aC aM b L xs p s m #[.ref b] c) (hL : L ≤ 384) (hend : ∀ (H : Heap) (locs : List Loc) (ls : Array Slot), va_S (fun q : Nat => s.heap.size ≤ q) s.heap H locs → W p l e room_1 s m #[.ref b] below meth c H locs 600000 7302249 Q (F0 m 1110 ls [])) : ∀ (n ix : Nat) (kp X g cM r : sr_M) (H : Heap) (locs : List Loc) (ls : Array Slot), L + 1 ≤ ix + n → sr_LH D cI cR aC aM s H locs kp X g cM r → lv_has ls 4 [(3, .int (nI ix)), (2, .ref (aM 0)), (1, .ref (aC 0)), (0, .ref b)] → ix ≤ L → W p l e room_1 s m #[.ref b] below meth c H locs 600000 7302249 Q (F0 m 18 ls []) := by
  intro n
  induction n with
  | zero =>
    intro ix kp X g cM r H locs ls hn hH hl hx
    exact absurd hn (by omega)
  | succ n ih =>
    intro ix kp X g cM r H locs ls hn hH hl hx
    have hC2 := hC
    obtain ⟨C0, hK, hZ0, haC, haM, hdis, hloC, hloM, hX, hbl⟩ := hC
    have hS := hH.2.2.2
    have hbA : ¬ (fun q : Nat => s.heap.size ≤ q) b := Nat.not_le.mpr hbl
    refine lv_iload_n C0.1 C0.2.1 dL_law_18 rfl (lv_at hl 0 rfl) ?_
    refine lv_aload_n C0.1 C0.2.1 dL_law_19 rfl (lv_at hl 3 rfl) ?_
    refine va_slen C0.1 C0.2.1 hX hbl hbA hS dL_law_20 ?_
    refine lv_bipush (v := 6) C0.1 C0.2.1 dL_law_21 (by decide) ?_
    refine lv_isub C0.1 C0.2.1 dL_law_23 ?_
    refine lv_icmp_gt (tgt := 1110) C0.1 C0.2.1 dL_law_24 (by decide) (fun c24 => ?_) (fun c24 => ?_)
    · exact hend _ _ _ hS
    · have h6 : ix + 6 ≤ L := sr_ix6 (by omega) (by omega) c24
      refine lv_aload_n C0.1 C0.2.1 dL_law_27 rfl (lv_at hl 3 rfl) ?_
      refine lv_iload_n C0.1 C0.2.1 dL_law_28 rfl (lv_at hl 0 rfl) ?_
      refine va_sld C0.1 C0.2.1 hX hbl hbA hS (vp_in_nI (by omega) (by omega)) dL_law_29 ?_
      refine lv_bipush (v := 31) C0.1 C0.2.1 dL_law_30 (by decide) ?_
      refine lv_iand C0.1 C0.2.1 dL_law_32 ?_
      obtain ⟨k, hk, ek⟩ := sr_and31 (xs (nI ix).toNatClampNeg)
      refine sr_chi ek ?_
      clear ek
      have kk : ∀ (kp X g cM r : sr_M) (H : Heap) (locs : List Loc) (ls : Array Slot), sr_LH D cI cR aC aM s H locs kp X g cM r → lv_has ls 4 [(3, .int (nI ix)), (2, .ref (aM 0)), (1, .ref (aC 0)), (0, .ref b)] → W p l e room_1 s m #[.ref b] below meth c H locs 600000 7302249 Q (F0 m 1104 ls []) := by
        intro kp X g cM r H locs ls hH hl
        refine lv_iinc (v := nI (ix + 6)) (lv' := [(3, .int (nI (ix + 6))), (2, .ref (aM 0)), (1, .ref (aC 0)), (0, .ref b)]) C0.1 C0.2.1 dL_law_1104 hl (k := 0) rfl (nI_add ix 6) (by decide) rfl (fun ls hl => ?_)
        refine lv_goto (tgt := 18) C0.1 C0.2.1 dL_law_1107 (by decide) ?_
        exact ih (ix + 6) _ _ _ _ _ _ _ _ (by omega) hH hl (by omega)
      rcases sr_k32 k hk with rfl | rfl | rfl | rfl | rfl | rfl | rfl | rfl | rfl | rfl | rfl | rfl | rfl | rfl | rfl | rfl | rfl | rfl | rfl | rfl | rfl | rfl | rfl | rfl | rfl | rfl | rfl | rfl | rfl | rfl | rfl | rfl
      · refine sr_chi (show nI 0 = 0 from rfl) ?_
        refine lv_tableIn (tgt := 176) (off := 143) C0.1 C0.2.1 dL_law_33 (by decide) (by decide) (by decide) (by decide) ?_
        exact lw_c0 hC2 hH hl h6 hL kk
      · refine sr_chi (show nI 1 = 1 from rfl) ?_
        refine lv_tableIn (tgt := 199) (off := 166) C0.1 C0.2.1 dL_law_33 (by decide) (by decide) (by decide) (by decide) ?_
        exact lw_c1 hC2 hH hl h6 hL kk
      · refine sr_chi (show nI 2 = 2 from rfl) ?_
        refine lv_tableIn (tgt := 212) (off := 179) C0.1 C0.2.1 dL_law_33 (by decide) (by decide) (by decide) (by decide) ?_
        exact lw_c2 hC2 hH hl h6 hL kk
      · refine sr_chi (show nI 3 = 3 from rfl) ?_
        refine lv_tableIn (tgt := 225) (off := 192) C0.1 C0.2.1 dL_law_33 (by decide) (by decide) (by decide) (by decide) ?_
        exact lw_c3 hC2 hH hl h6 hL kk
      · refine sr_chi (show nI 4 = 4 from rfl) ?_
        refine lv_tableIn (tgt := 238) (off := 205) C0.1 C0.2.1 dL_law_33 (by decide) (by decide) (by decide) (by decide) ?_
        exact lw_c4 hC2 hH hl h6 hL kk
      · refine sr_chi (show nI 5 = 5 from rfl) ?_
        refine lv_tableIn (tgt := 271) (off := 238) C0.1 C0.2.1 dL_law_33 (by decide) (by decide) (by decide) (by decide) ?_
        exact lw_c5 hC2 hH hl h6 hL kk
      · refine sr_chi (show nI 6 = 6 from rfl) ?_
        refine lv_tableIn (tgt := 304) (off := 271) C0.1 C0.2.1 dL_law_33 (by decide) (by decide) (by decide) (by decide) ?_
        exact lw_c6 hC2 hH hl h6 hL kk
      · refine sr_chi (show nI 7 = 7 from rfl) ?_
        refine lv_tableIn (tgt := 337) (off := 304) C0.1 C0.2.1 dL_law_33 (by decide) (by decide) (by decide) (by decide) ?_
        exact lw_c7 hC2 hH hl h6 hL kk
      · refine sr_chi (show nI 8 = 8 from rfl) ?_
        refine lv_tableIn (tgt := 370) (off := 337) C0.1 C0.2.1 dL_law_33 (by decide) (by decide) (by decide) (by decide) ?_
        exact lw_c8 hC2 hH hl h6 hL kk
      · refine sr_chi (show nI 9 = 9 from rfl) ?_
        refine lv_tableIn (tgt := 403) (off := 370) C0.1 C0.2.1 dL_law_33 (by decide) (by decide) (by decide) (by decide) ?_
        exact lw_c9 hC2 hH hl h6 hL kk
      · refine sr_chi (show nI 10 = 10 from rfl) ?_
        refine lv_tableIn (tgt := 426) (off := 393) C0.1 C0.2.1 dL_law_33 (by decide) (by decide) (by decide) (by decide) ?_
        exact lw_c10 hC2 hH hl h6 hL kk
      · refine sr_chi (show nI 11 = 11 from rfl) ?_
        refine lv_tableIn (tgt := 469) (off := 436) C0.1 C0.2.1 dL_law_33 (by decide) (by decide) (by decide) (by decide) ?_
        exact lw_c11 hC2 hH hl h6 hL kk
      · refine sr_chi (show nI 12 = 12 from rfl) ?_
        refine lv_tableIn (tgt := 502) (off := 469) C0.1 C0.2.1 dL_law_33 (by decide) (by decide) (by decide) (by decide) ?_
        exact lw_c12 hC2 hH hl h6 hL kk
      · refine sr_chi (show nI 13 = 13 from rfl) ?_
        refine lv_tableIn (tgt := 525) (off := 492) C0.1 C0.2.1 dL_law_33 (by decide) (by decide) (by decide) (by decide) ?_
        exact lw_c13 hC2 hH hl h6 hL kk
      · refine sr_chi (show nI 14 = 14 from rfl) ?_
        refine lv_tableIn (tgt := 548) (off := 515) C0.1 C0.2.1 dL_law_33 (by decide) (by decide) (by decide) (by decide) ?_
        exact lw_c14 hC2 hH hl h6 hL kk
      · refine sr_chi (show nI 15 = 15 from rfl) ?_
        refine lv_tableIn (tgt := 561) (off := 528) C0.1 C0.2.1 dL_law_33 (by decide) (by decide) (by decide) (by decide) ?_
        exact lw_c15 hC2 hH hl h6 hL kk
      · refine sr_chi (show nI 16 = 16 from rfl) ?_
        refine lv_tableIn (tgt := 584) (off := 551) C0.1 C0.2.1 dL_law_33 (by decide) (by decide) (by decide) (by decide) ?_
        exact lw_c16 hC2 hH hl h6 hL kk
      · refine sr_chi (show nI 17 = 17 from rfl) ?_
        refine lv_tableIn (tgt := 607) (off := 574) C0.1 C0.2.1 dL_law_33 (by decide) (by decide) (by decide) (by decide) ?_
        exact lw_c17 hC2 hH hl h6 hL kk
      · refine sr_chi (show nI 18 = 18 from rfl) ?_
        refine lv_tableIn (tgt := 631) (off := 598) C0.1 C0.2.1 dL_law_33 (by decide) (by decide) (by decide) (by decide) ?_
        exact lw_c18 hC2 hH hl h6 hL kk
      · refine sr_chi (show nI 19 = 19 from rfl) ?_
        refine lv_tableIn (tgt := 664) (off := 631) C0.1 C0.2.1 dL_law_33 (by decide) (by decide) (by decide) (by decide) ?_
        exact lw_c19 hC2 hH hl h6 hL kk
      · refine sr_chi (show nI 20 = 20 from rfl) ?_
        refine lv_tableIn (tgt := 687) (off := 654) C0.1 C0.2.1 dL_law_33 (by decide) (by decide) (by decide) (by decide) ?_
        exact lw_c20 hC2 hH hl h6 hL kk
      · refine sr_chi (show nI 21 = 21 from rfl) ?_
        refine lv_tableIn (tgt := 720) (off := 687) C0.1 C0.2.1 dL_law_33 (by decide) (by decide) (by decide) (by decide) ?_
        exact lw_c21 hC2 hH hl h6 hL kk
      · refine sr_chi (show nI 22 = 22 from rfl) ?_
        refine lv_tableIn (tgt := 753) (off := 720) C0.1 C0.2.1 dL_law_33 (by decide) (by decide) (by decide) (by decide) ?_
        exact lw_c22 hC2 hH hl h6 hL kk
      · refine sr_chi (show nI 23 = 23 from rfl) ?_
        refine lv_tableIn (tgt := 776) (off := 743) C0.1 C0.2.1 dL_law_33 (by decide) (by decide) (by decide) (by decide) ?_
        exact lw_c23 hC2 hH hl h6 hL kk
      · refine sr_chi (show nI 24 = 24 from rfl) ?_
        refine lv_tableIn (tgt := 819) (off := 786) C0.1 C0.2.1 dL_law_33 (by decide) (by decide) (by decide) (by decide) ?_
        exact lw_c24 hC2 hH hl h6 hL kk
      · refine sr_chi (show nI 25 = 25 from rfl) ?_
        refine lv_tableIn (tgt := 862) (off := 829) C0.1 C0.2.1 dL_law_33 (by decide) (by decide) (by decide) (by decide) ?_
        exact lw_c25 hC2 hH hl h6 hL kk
      · refine sr_chi (show nI 26 = 26 from rfl) ?_
        refine lv_tableIn (tgt := 885) (off := 852) C0.1 C0.2.1 dL_law_33 (by decide) (by decide) (by decide) (by decide) ?_
        exact lw_c26 hC2 hH hl h6 hL kk
      · refine sr_chi (show nI 27 = 27 from rfl) ?_
        refine lv_tableIn (tgt := 938) (off := 905) C0.1 C0.2.1 dL_law_33 (by decide) (by decide) (by decide) (by decide) ?_
        exact lw_c27 hC2 hH hl h6 hL kk
      · refine sr_chi (show nI 28 = 28 from rfl) ?_
        refine lv_tableIn (tgt := 981) (off := 948) C0.1 C0.2.1 dL_law_33 (by decide) (by decide) (by decide) (by decide) ?_
        exact lw_c28 hC2 hH hl h6 hL kk
      · refine sr_chi (show nI 29 = 29 from rfl) ?_
        refine lv_tableIn (tgt := 1044) (off := 1011) C0.1 C0.2.1 dL_law_33 (by decide) (by decide) (by decide) (by decide) ?_
        exact lw_c29 hC2 hH hl h6 hL kk
      · refine sr_chi (show nI 30 = 30 from rfl) ?_
        refine lv_tableIn (tgt := 1067) (off := 1034) C0.1 C0.2.1 dL_law_33 (by decide) (by decide) (by decide) (by decide) ?_
        exact lw_c30 hC2 hH hl h6 hL kk
      · refine sr_chi (show nI 31 = 31 from rfl) ?_
        refine lv_tableIn (tgt := 1090) (off := 1057) C0.1 C0.2.1 dL_law_33 (by decide) (by decide) (by decide) (by decide) ?_
        exact lw_c31 hC2 hH hl h6 hL kk
