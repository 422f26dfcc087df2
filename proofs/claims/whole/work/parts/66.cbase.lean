/-! CONSTRUCTORS: they make cells -/
def sr_AOA (U : State) : Prop := (Cond.arrayOver (.array .int)).before #[] U = true
theorem sr_AOA_of {A : Array Value} {U : State} (h : (Cond.arrayOver (.array .int)).before A U = true) : sr_AOA U := h
theorem sr_AOA_use {A : Array Value} {U : State} (h : sr_AOA U) : (Cond.arrayOver (.array .int)).before A U = true := h
theorem sr_AOA_spec {U : State} (h : sr_AOA U) : ∃ comp c k, U.vm.findClass (FieldType.array .int).toString = some comp ∧ (U.vm.classes.findIdx? fun x => match x.kind with | .array component _ => component == comp | _ => false) = some c ∧ U.vm.classes[c]? = some k ∧ k.kind = .array comp (.array .int) ∧ U.vm.findClass ("[" ++ (FieldType.array .int).toString) = some c := by
  unfold sr_AOA Cond.before at h
  simp only [Cond.holds, Cond.value, beq_iff_eq] at h
  cases hc : U.vm.findClass (FieldType.array .int).toString with
  | none => simp [hc] at h
  | some comp =>
    simp only [hc, Option.bind_some, Option.bind_eq_some_iff, Option.map_eq_some_iff] at h
    obtain ⟨c, hi, k, hk, hb⟩ := h
    obtain ⟨hlt, hp, -⟩ := Array.findIdx?_eq_some_iff_getElem.mp hi
    have hkk : U.vm.classes[c] = k := (Array.getElem?_eq_some_iff.mp hk).2
    rw [hkk] at hp
    cases hkind : k.kind with
    | array component ty =>
      rw [hkind] at hb hp
      simp at hb hp
      exact ⟨comp, c, k, rfl, hi, hk, by rw [hkind, hp, hb.1], hb.2⟩
    | _ => rw [hkind] at hb; simp at hb
theorem sr_AOA_m {u U : State} (hvm : u.vm.Alike U.vm) (h : sr_AOA u) : sr_AOA U := by
  obtain ⟨comp, c, k, h1, h2, h3, h4, h5⟩ := sr_AOA_spec h
  obtain ⟨k', hk', he⟩ := hvm.2.2 _ _ h3
  have hi : (U.vm.classes.findIdx? fun (x : Class) => match x.kind with | .array component _ => component == comp | _ => false) = some c := by
    have hb : U.vm.bare = u.vm.bare := by first | exact hvm.bare_eq | exact hvm.bare_eq.symm
    have e1 := va_idx_bare U.vm comp
    have e2 := va_idx_bare u.vm comp
    rw [hb] at e1
    exact (e1.symm.trans e2).trans h2
  have hkind : k'.kind = .array comp (.array .int) := by rw [he]; exact h4
  have f1 : U.vm.findClass (FieldType.array .int).toString = some comp := by rw [hvm.findClass]; exact h1
  have f2 : U.vm.findClass ("[" ++ (FieldType.array .int).toString) = some c := by rw [hvm.findClass]; exact h5
  unfold sr_AOA Cond.before Cond.holds
  simp only [Cond.value]
  rw [f1, Option.bind_some]
  refine (congrArg (fun o : Option Nat => (o.bind (fun c => (U.vm.classes[c]?).map fun (k : Class) => match k.kind with | .array _ ty => decide (ty = FieldType.array .int) && decide (U.vm.findClass ("[" ++ (FieldType.array .int).toString) = some c) | _ => false) == some true)) hi).trans ?_
  simp [hk', hkind, f2]
def sr_ZI (U : State) : Prop := va_Nw (.methodLinkNest RX7 9 yX4_init RX7) U ∧ va_Nw (.methodLinkNest RX7 52 yX0_init RX7) U ∧ va_Nw (.methodLinkNest RX7 59 yX5_init RX7) U ∧ sr_AOA U
theorem sr_ZI_s {u U : State} (h : u.vm = U.vm) (z : sr_ZI u) : sr_ZI U := by
  have hA : u.vm.Alike U.vm := by rw [h]; exact Vm.Alike.refl _
  exact ⟨z.1.same rfl h, z.2.1.same rfl h, z.2.2.1.same rfl h, sr_AOA_m hA z.2.2.2⟩
theorem sr_ZI_w {u U : State} (h : u.WarmedH U.vm) (z : sr_ZI u) : sr_ZI U := ⟨va_Nw.warmM h z.1, va_Nw.warmM h z.2.1, va_Nw.warmM h z.2.2.1, sr_AOA_m h.alike z.2.2.2⟩
abbrev sr_rnw (fr lo mc ms : Nat) : Room := { frames := fr, cells := mc, slots := ms, locals := lo }
abbrev sr_PN (D : va_G) (tys : List (ClassId × FieldType)) (sz : Nat) (w : va_W) (As : List Value) : Array Value → State → Prop := va_Pc As (fun U => U.heap.size = sz ∧ va_P D vwCl w U.heap ∧ va_K D vwCl tys U ∧ va_D (fun _ => True) w ∧ sr_ZI U)
def sr_QN (D : va_G) (A : Nat → Prop) {S : Type} (P : S → Prop) (w2 : S → va_W) : Array Value → State → Outcome → State → Prop := fun _ st o t => (∃ u : S, o = .returned none ∧ P u ∧ va_P D vwCl (w2 u) t.heap ∧ va_D A (w2 u)) ∧ va_F A st t
def sr_N (l : Launch) (D : va_G) (tys : List (ClassId × FieldType)) (sz : Nat) (w : va_W) (y : MethodName) (b : ByteArray) (n fr lo mc ms : Nat) (As : List Value) {S : Type} (P : S → Prop) (w2 : S → va_W) : Prop :=
  Met l y (Cond.code y b n none :: sr_ws) (sr_rnw fr lo mc ms) (sr_PN D tys sz w As) (sr_QN D (va_A w sz) P w2) mc ms (va_A w sz)
theorem sr_Nof {l : Launch} {D : va_G} {tys : List (ClassId × FieldType)} {sz : Nat} {w : va_W} {y : MethodName} {b : ByteArray} {n fr lo mc ms : Nat} {As : List Value} {S : Type} {P : S → Prop} {w2 : S → va_W} (hy : plainFor y = true) (hyn : y.name = "<init>") (hle : (lg_sl As).length ≤ n)
    (body : ∀ (p : Program) (e : Env) (s : State) (m : MethodId) (args : Array Value) (below : List Frame) (meth : Method) (c : Code) (ls : Array Slot) (Q : State → Prop) (A : Nat → Prop), CallFix p m c b n s args sr_ws y.cls → meth.name = "<init>" → va_P D vwCl w s.heap → va_K D vwCl tys s → va_D A w → (∀ q : Nat, s.heap.size ≤ q → A q) → sr_ZI s → lv_has ls n (lv_args 0 As) →
      (∀ (H : Heap) (locs : List Loc) (w' : va_W) (u : S) (pc : Nat) (ls : Array Slot), decode b pc = .ok (.return_, 1) → va_P D vwCl w' H → va_D A w' → va_S A s.heap H locs → w' = w2 u → P u → W p l e (sr_rnw fr lo mc ms) s m args below meth c H locs mc ms Q (F0 m pc ls [])) →
      W p l e (sr_rnw fr lo mc ms) s m args below meth c s.heap [] 0 0 Q (F0 m 0 ls [])) : sr_N l D tys sz w y b n fr lo mc ms As P w2 := by
  refine sr_ofW (cc := b) (maxL := n) (ret := none) hy rfl ?_
  intro p e s m args below meth c s₁ B hml hv
  obtain ⟨rfl, hsz, hP, hK, hD0, hZ⟩ := hv
  have hts := atoms_spec (ws := Cond.code y b n none :: sr_ws) B.pre
  have hl := lv_entry As (n := n) hle
  have hin : meth.name = "<init>" := (name_of_methodNamed B.named B.method).1.trans hyn
  have hr := B.returns
  have hlk := B.notSynchronized
  subst hsz
  have hD := hD0.self (sz := s.heap.size)
  rw [lg_entry_eq]
  refine body p e s m _ below meth c _ _ (va_A w s.heap.size) ⟨B.exec, B.bytes, hml, findClass_of_methodNamed B.named, fun w h => hts w (List.mem_cons_of_mem _ h)⟩ hin hP hK hD (fun q h => Or.inr h) hZ hl ?_
  intro H locs w' u pc ls hdg hP hD hS hw hu
  subst hw
  exact W.vret B.exec B.bytes hr (fun t ht hW => ⟨⟨u, rfl, hu, by rw [ht]; exact hP, hD⟩, hS.F ht⟩) hS.2.2 hdg hlk
section SRNW
variable {p : Program} {l : Launch} {e : Env} {R : Room} {s : State} {m : MethodId} {args : Array Value} {below : List Frame} {meth : Method} {c : Code} {H : Heap} {locs : List Loc} {cells slots : Nat} {Q : State → Prop}
variable {cc : ByteArray} {pc nL : Nat} {ls : Array Slot} {rest st0 : List Value} {D : va_G} {A : Nat → Prop} {tys : List (ClassId × FieldType)} {ws wr : va_W} {own : String}
variable {y : MethodName} {b : ByteArray} {n na fr lo mc ms index : Nat} {As : List Value} {S : Type} {P : S → Prop} {w2 : S → va_W}
theorem sr_PNb {sz : Nat} {w : va_W} : FrameBlind (sr_PN D tys sz w As) := fun a U g mk q => by
  obtain ⟨q0, q1, qP, qK, qD, qZ⟩ := q
  exact ⟨q0, q1, qP, va_K.moved (u := U) (U := U.calling g mk a) (Vm.Alike.refl U.vm) qK, qD, sr_ZI_s (u := U) (U := U.calling g mk a) rfl qZ⟩
theorem sr_goN {x : Nat × va_E} (hr : va_Run p l e R s m args below meth c H locs cells slots mc ms (F0 m pc ls st0) rest (sr_QN D (va_A [x] H.size) P w2 args) (va_A [x] H.size)) (hP : va_P D vwCl (wr ++ [x]) H) (hD : va_D A (wr ++ [x])) {H0 : Heap} (hS : va_S A H0 H locs) (hA : ∀ q, H0.size ≤ q → A q)
    (kk : ∀ (u : S) (H1 : Heap) (locs1 : List Loc), P u → va_P D vwCl (wr ++ w2 u) H1 → va_D A (wr ++ w2 u) → va_S A H0 H1 locs1 → W p l e R s m args below meth c H1 locs1 (cells + mc) (slots + ms) Q (F0 m (pc + 3) ls rest)) : W p l e R s m args below meth c H locs cells slots Q (F0 m pc ls st0) := by
  intro T hT X
  obtain ⟨v, st₀, t, T', L, h0, X', hL, e1, e2, ⟨⟨u, hv, hp, hb, hd⟩, hz, hk⟩, st⟩ := hr T hT X
  cases hv
  rw [h0] at hz hk
  have hxl : (wr ++ [x])[wr.length]? = some x := by rw [List.getElem?_append_right (Nat.le_refl _), Nat.sub_self]; rfl
  have hAx : ∀ q, va_A [x] H.size q → A q := by
    intro q h
    rcases h with ⟨k, e, h⟩ | h
    · have hk0 : k < 1 := (List.getElem?_eq_some_iff.mp h).1
      rw [show k = 0 by omega] at h
      have hx : x = (q, e) := Option.some.inj h
      have := hD.2 wr.length x hxl
      rw [hx] at this
      exact this
    · exact hA q (Nat.le_trans hS.1 h)
  have hl : ∀ (k : Nat) (q : Nat × va_E), wr[k]? = some q → (wr ++ [x])[k]? = some q := fun k q hq => by rw [List.getElem?_append_left (List.getElem?_eq_some_iff.mp hq).1]; exact hq
  have apart : ∀ (k : Nat) (q : Nat × va_E), wr[k]? = some q → q.1 < H.size ∧ ¬ va_A [x] H.size q.1 := by
    intro k q hq
    have hlt := (hP k q (hl k q hq)).lt
    refine ⟨hlt, fun h => ?_⟩
    rcases h with ⟨k2, e, h⟩ | h
    · have hk0 : k2 < 1 := (List.getElem?_eq_some_iff.mp h).1
      rw [show k2 = 0 by omega] at h
      have hx : x = (q.1, e) := Option.some.inj h
      have := hD.1 k wr.length q x (hl k q hq) hxl (by rw [hx])
      have := (List.getElem?_eq_some_iff.mp hq).1
      omega
    · omega
  have hP1 : va_P D vwCl (wr ++ w2 u) T'.heap := va_P.app (fun k q hq => by
    obtain ⟨g1, g2⟩ := apart k q hq
    exact (hP k q (hl k q hq)).kept (by rw [e1]; exact hk q.1 g1 g2)) (by rw [e1]; exact hb)
  have hDr : va_D A wr := ⟨fun i j a b ha hb h => hD.1 i j a b (hl i a ha) (hl j b hb) h, fun k q hq => hD.2 k q (hl k q hq)⟩
  have hD1 : va_D A (wr ++ w2 u) := va_D.app hDr (hd.weaken (fun k q _ h => hAx q.1 h)) (fun i j a b ha hb h => (apart i a ha).2 (by rw [h]; exact hd.2 j b hb))
  obtain ⟨t2, a1, b1⟩ := kk u T'.heap (locs ++ L) hp hP1 hD1
    ⟨Nat.le_trans hS.1 (by rw [e1]; exact hz), fun q h1 h2 => by rw [e1, hk q (Nat.lt_of_lt_of_le h1 hS.1) (fun z => h2 (hAx q z))]; exact hS.2.1 q h1 h2, fun q hq => by
      rcases List.mem_append.mp hq with h | h
      · exact hS.2.2 q h
      · exact hAx _ (hL q h)⟩ T' rfl X'
  exact ⟨t2, st t2 a1, b1⟩
/-- a constructor called -/
theorem sr_nI {x : Nat × va_E} (C0 : CallFix p m c cc nL s args sr_ws own) (hK : va_K D vwCl tys s) (hP : va_P D vwCl (wr ++ [x]) H) (hD : va_D A (wr ++ [x])) {H0 : Heap} (hS : va_S A H0 H locs) (hA : ∀ q, H0.size ≤ q → A q) (hZ : sr_ZI s) (hM : sr_N l D tys H.size [x] y b n fr lo mc ms (.ref x.1 :: As) P w2) (hk : sr_ok y b n none na) (hyn : y.name = "<init>") (hkI : Cond.instanceMethod y ∈ sr_ws) (hl : Cond.methodLink own index y ∈ sr_ws) (hst : st0 = As.reverse ++ .ref x.1 :: rest) (hn : As.length = na) (hsz : ls.size = nL) (hfr : fr + 1 ≤ R.frames) (hlo : 8 + (n + 11) + lo ≤ R.locals) (hW : (rest.map fun v => v.category).sum ≤ 8) (hdg : decode cc pc = .ok (.invokespecial index, 3)) (hcs : cells + mc ≤ R.cells ∧ slots + ms ≤ R.slots)
    (kk : ∀ (u : S) (H1 : Heap) (locs1 : List Loc), P u → va_P D vwCl (wr ++ w2 u) H1 → va_D A (wr ++ w2 u) → va_S A H0 H1 locs1 → W p l e R s m args below meth c H1 locs1 (cells + mc) (slots + ms) Q (F0 m (pc + 3) ls rest)) : W p l e R s m args below meth c H locs cells slots Q (F0 m pc ls st0) := by
  have hxl : (wr ++ [x])[wr.length]? = some x := by rw [List.getElem?_append_right (Nat.le_refl _), Nat.sub_self]; rfl
  have hx1 : ∀ (k : Nat) (q : Nat × va_E), ([x] : va_W)[k]? = some q → q = x := fun k q hq => by
    have hk0 : k < 1 := (List.getElem?_eq_some_iff.mp hq).1
    rw [show k = 0 by omega] at hq
    exact (Option.some.inj hq).symm
  have hPx : va_P D vwCl [x] H := fun k q hq => by rw [hx1 k q hq]; exact hP wr.length x hxl
  have hDx : va_D (fun _ => True) [x] := ⟨fun i j a b ha hb _ => by have := (List.getElem?_eq_some_iff.mp ha).1; have := (List.getElem?_eq_some_iff.mp hb).1; simp only [List.length_singleton] at *; omega, fun _ _ _ => trivial⟩
  exact sr_goN (va_runI C0 hM ⟨callB_of na C0.2.2.2.2 (sr_gi hk.1) rfl rfl rfl (C0.2.2.2.2 _ hk.2.1) (C0.2.2.2.2 _ hl) hk.2.2 ⟨hfr, hlo⟩, hyn, C0.2.2.2.2 _ hkI⟩ ⟨sr_PNb, fun U hU hW => ⟨rfl, by rw [hU], by rw [hU]; exact hPx, va_K.moved hW.alike hK, hDx, sr_ZI_w hW hZ⟩⟩ rfl hn hsz hst (lv_room hW) hdg hcs) hP hD hS hA kk
theorem sr_nN {host : String} {x : Nat × va_E} (C0 : CallFix p m c cc nL s args sr_ws own) (hK : va_K D vwCl tys s) (hP : va_P D vwCl (wr ++ [x]) H) (hD : va_D A (wr ++ [x])) {H0 : Heap} (hS : va_S A H0 H locs) (hA : ∀ q, H0.size ≤ q → A q) (hZ : sr_ZI s) (hM : sr_N l D tys H.size [x] y b n fr lo mc ms (.ref x.1 :: As) P w2) (hk : sr_ok y b n none na) (hyn : y.name = "<init>") (hkI : Cond.instanceMethod y ∈ sr_ws) (hl : va_Nw (.methodLinkNest own index y host) s) (hst : st0 = As.reverse ++ .ref x.1 :: rest) (hn : As.length = na) (hsz : ls.size = nL) (hfr : fr + 1 ≤ R.frames) (hlo : 8 + (n + 11) + lo ≤ R.locals) (hW : (rest.map fun v => v.category).sum ≤ 8) (hdg : decode cc pc = .ok (.invokespecial index, 3)) (hcs : cells + mc ≤ R.cells ∧ slots + ms ≤ R.slots)
    (kk : ∀ (u : S) (H1 : Heap) (locs1 : List Loc), P u → va_P D vwCl (wr ++ w2 u) H1 → va_D A (wr ++ w2 u) → va_S A H0 H1 locs1 → W p l e R s m args below meth c H1 locs1 (cells + mc) (slots + ms) Q (F0 m (pc + 3) ls rest)) : W p l e R s m args below meth c H locs cells slots Q (F0 m pc ls st0) := by
  have hxl : (wr ++ [x])[wr.length]? = some x := by rw [List.getElem?_append_right (Nat.le_refl _), Nat.sub_self]; rfl
  have hx1 : ∀ (k : Nat) (q : Nat × va_E), ([x] : va_W)[k]? = some q → q = x := fun k q hq => by
    have hk0 : k < 1 := (List.getElem?_eq_some_iff.mp hq).1
    rw [show k = 0 by omega] at hq
    exact (Option.some.inj hq).symm
  have hPx : va_P D vwCl [x] H := fun k q hq => by rw [hx1 k q hq]; exact hP wr.length x hxl
  have hDx : va_D (fun _ => True) [x] := ⟨fun i j a b ha hb _ => by have := (List.getElem?_eq_some_iff.mp ha).1; have := (List.getElem?_eq_some_iff.mp hb).1; simp only [List.length_singleton] at *; omega, fun _ _ _ => trivial⟩
  exact sr_goN (va_runIN C0 hM ⟨va_cnB na C0.2.2.2.2 (sr_gi hk.1) rfl rfl rfl hl (C0.2.2.2.2 _ hk.2.1) hk.2.2 ⟨hfr, hlo⟩, hyn, C0.2.2.2.2 _ hkI⟩ ⟨sr_PNb, fun U hU hW => ⟨rfl, by rw [hU], by rw [hU]; exact hPx, va_K.moved hW.alike hK, hDx, sr_ZI_w hW hZ⟩⟩ rfl hn hsz hst (lv_room hW) hdg hcs) hP hD hS hA kk
theorem sr_newa {cI cR : ClassId} (C0 : CallFix p m c cc nL s args sr_ws own) (hK : va_K D vwCl (sr_tC cI cR) s) (hP : va_P D vwCl ws H) (hD : va_D A ws) {H0 : Heap} (hS : va_S A H0 H locs) (hA : ∀ q, H0.size ≤ q → A q) {k : Int32} {N' : Nat} (hn : ¬ k < 0) (hN : k.toNatClampNeg = N') (hbytes : N' * 4 ≤ 536870912) (hcells : cells + 1 ≤ R.cells) (hslots : slots + N' ≤ R.slots) (hdg : decode cc pc = .ok (.newarray .int, 2))
    (kk : ∀ (q : Nat) (H1 : Heap), va_P D vwCl (ws ++ [(q, .inl (cI, N', .inl (fun _ => 0)))]) H1 → va_D A (ws ++ [(q, .inl (cI, N', .inl (fun _ => 0)))]) → va_S A H0 H1 locs → W p l e R s m args below meth c H1 locs (cells + 1) (slots + N') Q (F0 m (pc + 2) ls (.ref q :: rest))) : W p l e R s m args below meth c H locs cells slots Q (F0 m pc ls (.int k :: rest)) := by
  refine va_newa (atype := .int) (a0 := (N', .inl (fun _ => 0))) C0.1 C0.2.1 (C0.2.2.2.2 _ sw_62) rfl hK hP hD hS hA (fun cA => rfl) hn hN hbytes hcells hslots hdg (fun q cA H1 hK2 hP2 hD2 hS2 => ?_)
  have e1 : s.vm.findClass "[I" = some cI := (hK.2 0 _ rfl).2
  have e2 : s.vm.findClass "[I" = some cA := (hK2.2 2 _ rfl).2
  have e3 : cI = cA := Option.some.inj (e1.symm.trans e2)
  subst e3
  exact kk q H1 hP2 hD2 hS2
end SRNW
