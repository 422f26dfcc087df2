def sr_fd (kp : sr_M) (k : Int32) : sr_M := va_up kp 5 (upd (kp 5) 1 k)
theorem sr_fl_0 (f : Nat → Int32) (v : Int32) : sr_fl f v 0 = f := by
  funext j
  exact if_neg (by omega)
/-- a row filled: the row at q0, over a world told by it -/
def sr_put1 (cx : sr_M) (s i : Nat) (v : Int32) : sr_M := va_up cx (6 + s) (upd (cx (6 + s)) i (sr_cut (cx 10 s) v))
set_option maxRecDepth 100000 in
set_option maxHeartbeats 4000000 in
theorem cc_J7_fill_53178 {l : Launch} {D : va_G} {cI cR : ClassId} {a : Nat → Nat} (ha : ∀ i j, i < 36 → j < 36 → a i = a j → i = j) {kp cx sg : sr_M} {K X G : (Nat → Int32) → sr_M} {q q0 nn : Nat} {f : Nat → Int32} (v : Int32) (hn : nn < 1000)
    (he : ∀ g, (sr_WC cI cR a (K g) (X g) (G g))[q0]? = some (q, .inl (cI, nn, .inl g))) (hs : ∀ g g', (sr_WC cI cR a (K g) (X g) (G g)).set q0 (q, .inl (cI, nn, .inl g')) = sr_WC cI cR a (K g') (X g') (G g')) (hst : sr_WC cI cR a kp cx sg = sr_WC cI cR a (K f) (X f) (G f)) :
    sr_G l D (sr_tC cI cR) (sr_ZC a) (sr_AC a) (sr_WC cI cR a kp cx sg) yJ7_fill_53178 cJ7_fill_53178 4 none 0 0 [.ref q, .int v] (S := Unit) (fun u => True) (fun u => sr_WC cI cR a (K (sr_fl f v nn)) (X (sr_fl f v nn)) (G (sr_fl f v nn))) (fun _ => none) := by
  refine sr_Gve (by decide +kernel) (Nat.le_of_ble_eq_true rfl) (fun p e s m args below meth c ls Q B hret => ?_)
  obtain ⟨C0, hP, hK, hZ0, hl⟩ := B
  have hl : lv_has ls 4 [(0, .ref q), (1, .int v)] := hl
  rw [hst, ← sr_fl_0 f v] at hP
  have hS : va_S (sr_AC a) s.heap s.heap [] := va_S.rf
  refine lv_iconst (v := 0) C0.1 C0.2.1 dJ7_fill_53178_0 (by decide) ?_
  refine lv_istore_n (lv' := [(2, .int 0), (0, .ref q), (1, .int v)]) C0.1 C0.2.1 dJ7_fill_53178_1 rfl hl (by decide) rfl (fun ls hl => ?_)
  refine lv_aload_n C0.1 C0.2.1 dJ7_fill_53178_2 rfl (lv_at hl 1 rfl) ?_
  refine va_alen (v := nI nn) C0.1 C0.2.1 hK hP q0 0 (he _) rfl rfl dJ7_fill_53178_3 ?_
  refine lv_istore_n (lv' := [(3, .int (nI nn)), (2, .int 0), (0, .ref q), (1, .int v)]) C0.1 C0.2.1 dJ7_fill_53178_4 rfl hl (by decide) rfl (fun ls hl => ?_)
  have lp : ∀ (n i : Nat) (H : Heap) (locs : List Loc) (ls : Array Slot), i ≤ nn → nn + 1 ≤ i + n → va_P D vwCl (sr_WC cI cR a (K (sr_fl f v i)) (X (sr_fl f v i)) (G (sr_fl f v i))) H → va_S (sr_AC a) s.heap H locs → lv_has ls 4 [(2, .int (nI i)), (3, .int (nI nn)), (0, .ref q), (1, .int v)] → W p l e (sr_rm 0 0) s m args below meth c H locs 0 0 Q (F0 m 5 ls []) := by
    intro n
    induction n with
    | zero =>
      intro i H locs ls h1 h2
      exact absurd h2 (by omega)
    | succ n ih =>
      intro i H locs ls h_i h_n hP hS hl
      refine lv_iload_n C0.1 C0.2.1 dJ7_fill_53178_5 rfl (lv_at hl 0 rfl) ?_
      refine lv_iload_n C0.1 C0.2.1 dJ7_fill_53178_6 rfl (lv_at hl 1 rfl) ?_
      refine lv_icmp_ge (tgt := 20) C0.1 C0.2.1 dJ7_fill_53178_7 (by decide) (fun c7 => ?_) (fun c7 => ?_)
      · have g7 : nn ≤ i := (nI_leI (by omega) (by omega)).mp c7
        exact hret _ _ _ () _ _ dJ7_fill_53178_20 hP hS (by rw [show i = nn by omega]) trivial
      · have g7 : ¬ nn ≤ i := fun z => c7 ((nI_leI (by omega) (by omega)).mpr z)
        refine lv_aload_n C0.1 C0.2.1 dJ7_fill_53178_10 rfl (lv_at hl 2 rfl) ?_
        refine lv_iload_n C0.1 C0.2.1 dJ7_fill_53178_11 rfl (lv_at hl 0 rfl) ?_
        refine lv_iload_n C0.1 C0.2.1 dJ7_fill_53178_12 rfl (lv_at hl 3 rfl) ?_
        refine sr_ast (k := i) C0 hK rfl hP (sr_DC ha _ _ _) hS (he _) (nI_clamp (by omega)) (vp_in_nI (by omega) (by omega)) (hs _ _) dJ7_fill_53178_13 (fun H locs hP hS => ?_)
        rw [sr_fl_s] at hP
        refine lv_iinc (v := nI (i + 1)) (lv' := [(2, .int (nI (i + 1))), (3, .int (nI nn)), (0, .ref q), (1, .int v)]) C0.1 C0.2.1 dJ7_fill_53178_14 hl (k := 0) rfl (nI_1 i) (by decide) rfl (fun ls hl => ?_)
        refine lv_goto (tgt := 5) C0.1 C0.2.1 dJ7_fill_53178_17 (by decide) ?_
        exact ih (i + 1) _ _ _ (by omega) (by omega) hP hS hl
  exact lp (nn + 1) 0 _ _ _ (by omega) (by omega) hP hS (lv_sub hl [1, 0, 2, 3] rfl)
/-- a sheet's row, told by a number -/
theorem sr_it1 {cI cR : ClassId} {a : Nat → Nat} {kp cx sg : sr_M} {k : Nat} (h : k < 4) (g : Nat → Int32) : (sr_WC cI cR a kp (va_up cx (6 + k) g) sg)[30 + k]? = some (a (30 + k), .inl (cI, 60, .inl g)) := by
  rcases (show k = 0 ∨ k = 1 ∨ k = 2 ∨ k = 3 by omega) with rfl | rfl | rfl | rfl <;> rfl
theorem sr_it2 {cI cR : ClassId} {a : Nat → Nat} {kp cx sg : sr_M} {k : Nat} (h : k < 4) (g g' : Nat → Int32) : (sr_WC cI cR a kp (va_up cx (6 + k) g) sg).set (30 + k) (a (30 + k), .inl (cI, 60, .inl g')) = sr_WC cI cR a kp (va_up cx (6 + k) g') sg := by
  rcases (show k = 0 ∨ k = 1 ∨ k = 2 ∨ k = 3 by omega) with rfl | rfl | rfl | rfl <;> rfl
theorem sr_it3 {cI cR : ClassId} {a : Nat → Nat} {kp cx sg : sr_M} {k : Nat} (h : k < 4) : sr_WC cI cR a kp cx sg = sr_WC cI cR a kp (va_up cx (6 + k) (cx (6 + k))) sg := by
  rcases (show k = 0 ∨ k = 1 ∨ k = 2 ∨ k = 3 by omega) with rfl | rfl | rfl | rfl <;> rfl
theorem sr_lo_lt (x : Int32) : sr_lo x < 16 := Nat.mod_lt _ (by decide)
/-- three slips drawn from a seed -/
def sr_Ds (sd st : Int32) (u : sr_M) : Prop := u 9 0 = sr_nx (sr_nx (sr_nx sd)) ∧ u 8 0 = sr_ls st (sr_nx sd) ∧ u 8 1 = sr_ls st (sr_nx (sr_nx sd)) ∧ u 8 2 = sr_ls st (sr_nx (sr_nx (sr_nx sd)))
