theorem sr_uz {f : Nat → Int32} {k : Nat} {x : Int32} (h : f k = x) : upd f k x = f := by
  funext j
  by_cases q : j = k
  · rw [q, pk_us, h]
  · rw [pk_un q]
theorem sr_o_c {a b : Nat → Nat} {i0 j0 n : Nat} (h : ∀ i, i < n → a (i0 + i) = b (j0 + i)) : sr_o a i0 n = sr_o b j0 n := by
  funext i
  unfold sr_o
  by_cases q : i < n
  · rw [if_pos q, if_pos q, h i q]
  · rw [if_neg q, if_neg q]
section SRMN
variable {p : Program} {l : Launch} {e : Env} {R : Room} {s : State} {m : MethodId} {args : Array Value} {below : List Frame} {meth : Method} {c : Code} {H : Heap} {locs : List Loc} {cells slots : Nat} {Q : State → Prop}
variable {cc : ByteArray} {pc nL : Nat} {ls : Array Slot} {rest st0 : List Value} {D : va_G} {A : Nat → Prop} {ws : va_W} {own : String} {index : Nat}
theorem sr_mna {cI cR : ClassId} (C0 : CallFix p m c cc nL s args sr_ws own) (hK : va_K D vwCl (sr_tC cI cR) s) (hP : va_P D vwCl ws H) (hD : va_D A ws) {H0 : Heap} (hS : va_S A H0 H locs) (hA : ∀ q, H0.size ≤ q → A q) (hZ : sr_ZI s) (hcl : Cond.classLink own index "[[I" ∈ sr_ws) {n k : Int32} {N' K' : Nat} (hn : ¬ n < 0) (hk : ¬ k < 0) (hN : n.toNatClampNeg = N') (hM : k.toNatClampNeg = K')
    (hb1 : N' * 4 ≤ 536870912) (hb2 : K' * 4 ≤ 536870912) (hcells : cells + (1 + N') ≤ R.cells) (hslots : slots + (N' + N' * K') ≤ R.slots) (hdg : decode cc pc = .ok (.multianewarray index 2, 4))
    (kk : ∀ (q : Nat) (r : Nat → Nat) (H1 : Heap), va_P D vwCl (ws ++ ((q, .inl (cR, N', .inr (.inr (.inr (.inr (sr_o r 0 N')))))) :: (List.range N').map (fun i => (r i, .inl (cI, K', .inl (fun _ => 0)))))) H1 → va_D A (ws ++ ((q, .inl (cR, N', .inr (.inr (.inr (.inr (sr_o r 0 N')))))) :: (List.range N').map (fun i => (r i, .inl (cI, K', .inl (fun _ => 0)))))) → va_S A H0 H1 locs →
      W p l e R s m args below meth c H1 locs (cells + 1 + N') (slots + N' + N' * K') Q (F0 m (pc + 4) ls (.ref q :: rest))) : W p l e R s m args below meth c H locs cells slots Q (F0 m pc ls (.int k :: .int n :: rest)) := by
  sorry
end SRMN
