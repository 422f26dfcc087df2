theorem sr_uz {f : Nat → Int32} {k : Nat} {x : Int32} (h : f k = x) : upd f k x = f := by
  funext j
  by_cases q : j = k
  · rw [q, pk_us, h]
  · rw [pk_un q]
theorem sr_o_c {a b : Nat → Nat} {i0 j0 n : Nat} (h : ∀ i, i < n → a (i0 + i) = b (j0 + i)) : sr_o a i0 n = sr_o b j0 n := by
  funext i
  unfold sr_o
  by_cases q : i < n
  · rw [if_pos q, if_pos q, h i q]
  · rw [if_neg q, if_neg q]
theorem sr_mna_e' {r : Nat → Nat} {f : Nat → va_E} {e : va_E} {N' : Nat} : va_pl ([] ++ (List.range N').map r) (vr_up f ((List.range N').map r) e) = (List.range N').map (fun i => (r i, e)) := by
  rw [List.nil_append]
  unfold va_pl
  rw [List.map_map]
  apply List.map_congr_left
  intro i hi
  show (r i, vr_up f ((List.range N').map r) e (r i)) = (r i, e)
  rw [vr_up_in (List.mem_map.mpr ⟨i, hi, rfl⟩)]
theorem sr_mna_o {r : Nat → Nat} {N' : Nat} : (fun i => if i < N' then some (r i) else none) = sr_o r 0 N' := by
  funext i
  unfold sr_o
  rw [Nat.zero_add]
theorem sr_mna_s : "[" ++ (FieldType.array FieldType.int).toString = "[[I" := by first | rfl | decide +kernel
section SRMN
variable {p : Program} {l : Launch} {e : Env} {R : Room} {s : State} {m : MethodId} {args : Array Value} {below : List Frame} {meth : Method} {c : Code} {H : Heap} {locs : List Loc} {cells slots : Nat} {Q : State → Prop}
variable {cc : ByteArray} {pc nL : Nat} {ls : Array Slot} {rest st0 : List Value} {D : va_G} {A : Nat → Prop} {ws : va_W} {own : String} {index : Nat}
theorem sr_mna {cI cR : ClassId} (C0 : CallFix p m c cc nL s args sr_ws own) (hK : va_K D vwCl (sr_tC cI cR) s) (hP : va_P D vwCl ws H) (hD : va_D A ws) {H0 : Heap} (hS : va_S A H0 H locs) (hA : ∀ q, H0.size ≤ q → A q) (hZ : sr_ZI s) (hcl : Cond.classLink own index "[[I" ∈ sr_ws) {n k : Int32} {N' K' : Nat} (hn : ¬ n < 0) (hk : ¬ k < 0) (hN : n.toNatClampNeg = N') (hM : k.toNatClampNeg = K')
    (hb1 : N' * 4 ≤ 536870912) (hb2 : K' * 4 ≤ 536870912) (hcells : cells + (1 + N') ≤ R.cells) (hslots : slots + (N' + N' * K') ≤ R.slots) (hdg : decode cc pc = .ok (.multianewarray index 2, 4))
    (kk : ∀ (q : Nat) (r : Nat → Nat) (H1 : Heap), va_P D vwCl (ws ++ ((q, .inl (cR, N', .inr (.inr (.inr (.inr (sr_o r 0 N')))))) :: (List.range N').map (fun i => (r i, .inl (cI, K', .inl (fun _ => 0)))))) H1 → va_D A (ws ++ ((q, .inl (cR, N', .inr (.inr (.inr (.inr (sr_o r 0 N')))))) :: (List.range N').map (fun i => (r i, .inl (cI, K', .inl (fun _ => 0)))))) → va_S A H0 H1 locs →
      W p l e R s m args below meth c H1 locs (cells + 1 + N') (slots + N' + N' * K') Q (F0 m (pc + 4) ls (.ref q :: rest))) : W p l e R s m args below meth c H locs cells slots Q (F0 m pc ls (.int k :: .int n :: rest)) := by
  have hP0 : va_P D vwCl (ws ++ va_pl [] (fun _ => .inl (cI, (0, .inl (fun _ => 0))))) H := by
    rw [show va_pl [] (fun _ => (.inl (cI, (0, .inl (fun _ => 0))) : va_E)) = [] from rfl, List.append_nil]
    exact hP
  have hD0 : va_D A (ws ++ va_pl [] (fun _ => .inl (cI, (0, .inl (fun _ => 0))))) := by
    rw [show va_pl [] (fun _ => (.inl (cI, (0, .inl (fun _ => 0))) : va_E)) = [] from rfl, List.append_nil]
    exact hD
  have hz : ∀ c : ClassId, Jvm.Free.Multi.innerC c K' (defaultValue FieldType.int) = vp_cell c (K', .inl (fun _ => 0)) := by
    intro c
    show ({ cls := c, slots := Array.replicate K' (.int 0), vm := .none } : Cell) = _
    rw [arrV_new]
    rfl
  refine va_mna (own := own) (index := index) (ty := FieldType.int) (cy := cI) (z := (K', .inl (fun _ => 0))) C0.1 C0.2.1 C0.2.2.2.1 (by rw [sr_mna_s]; exact C0.2.2.2.2 _ hcl) hZ.2.2.2 (C0.2.2.2.2 _ sw_62) (hK.2 0 _ rfl).2 hK hP0 hD0 hS hA hn hk hN hM hb1 hb2 (by omega) rfl rfl hcells hslots hz hdg (fun q r cA H1 _ _ hK2 hP2 hD2 hS2 => ?_)
  have e1 : s.vm.findClass ("[" ++ (FieldType.array FieldType.int).toString) = some cR := (hK.2 1 _ rfl).2
  have e2 : s.vm.findClass ("[" ++ (FieldType.array FieldType.int).toString) = some cA := (hK2.2 2 _ rfl).2
  have e3 : cR = cA := Option.some.inj (e1.symm.trans e2)
  subst e3
  rw [List.append_assoc, sr_mna_o] at hP2 hD2
  refine kk q r H1 ?_ ?_ hS2
  · have := hP2
    rw [sr_mna_e'] at this
    exact this
  · have := hD2
    rw [sr_mna_e'] at this
    exact this
end SRMN
