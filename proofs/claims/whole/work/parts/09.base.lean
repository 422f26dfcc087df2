/-! THE FRAME OF THESE PROOFS: a side (class or reference) is ONE world, a list of cells written from its memory (rows of Int32); a contract tells the answer and the memory behind it -/
abbrev sr_M : Type := Nat → Nat → Int32
theorem sr_good {w : Cond} (h : w ∈ sr_ws) : goodWord w = true := (List.mem_filter.mp h).2
theorem sr_gi {c0 : Cond} (hc : c0 ∈ sr_ws) : GoodIn sr_ws (c0 :: sr_ws) := fun w h => by
  have h1 : w ∈ sr_ws := (List.mem_cons.mp h).elim (fun e => by rw [e]; exact hc) id
  exact ⟨h1, good_of_word (sr_good h1)⟩
theorem sr_tbl : ∀ w ∈ sr_ws, w ∈ lw_tbl := fun _ h => (List.mem_filter.mp h).1
def sr_ok (y : MethodName) (b : ByteArray) (n : Nat) (ret : Option FieldType) (na : Nat) : Prop := Cond.code y b n ret ∈ sr_ws ∧ Cond.initialized y.cls ∈ sr_ws ∧ (y.cls ≠ "java/lang/invoke/MethodHandle" ∧ y.cls ≠ "java/lang/invoke/VarHandle" ∧ (parseMethodDescriptor y.desc).map (fun d => d.parameters.length) = some na)
def sr_okV (y : MethodName) : Prop := Cond.instanceMethod y ∈ sr_ws ∧ Cond.selects y.cls y y ∈ sr_ws
abbrev sr_rm (fr lo : Nat) : Room := { frames := fr, cells := 0, slots := 0, locals := lo }
/-- what else holds at a call (static tables), and stays so while nothing outside A changes -/
def sr_Zok (A : Nat → Prop) (Z : State → Heap → Prop) : Prop := (∀ (u U : State) (H : Heap), u.vm = U.vm → Z u H → Z U H) ∧ (∀ (u U : State) (H : Heap), u.WarmedH U.vm → Z u H → Z U H) ∧ ∀ (U : State) (H H1 : Heap), (∀ q : Nat, q < H.size → ¬ A q → H1[q]? = H[q]?) → Z U H → Z U H1
theorem sr_Zok_T (A : Nat → Prop) : sr_Zok A (fun _ _ => True) := ⟨fun _ _ _ _ _ => trivial, fun _ _ _ _ _ => trivial, fun _ _ _ _ _ => trivial⟩
abbrev sr_Pc (D : va_G) (tys : List (ClassId × FieldType)) (Z : State → Heap → Prop) (w : va_W) (As : List Value) : Array Value → State → Prop := va_Pc As (fun U => va_P D vwCl w U.heap ∧ va_K D vwCl tys U ∧ Z U U.heap)
theorem sr_blind {A : Nat → Prop} {D : va_G} {tys : List (ClassId × FieldType)} {Z : State → Heap → Prop} (hZ : sr_Zok A Z) {w : va_W} {As : List Value} : FrameBlind (sr_Pc D tys Z w As) := fun a U g mk q => by
  obtain ⟨q0, qP, qK, qZ⟩ := q
  exact ⟨q0, qP, va_K.moved (u := U) (U := U.calling g mk a) (Vm.Alike.refl U.vm) qK, hZ.1 U (U.calling g mk a) _ rfl qZ⟩
/-- a contract that writes nothing -/
def sr_P (l : Launch) (D : va_G) (tys : List (ClassId × FieldType)) (Z : State → Heap → Prop) (w : va_W) (y : MethodName) (b : ByteArray) (n : Nat) (ret : Option FieldType) (fr lo : Nat) (As : List Value) (ov : Option Value) : Prop :=
  Met l y (Cond.code y b n ret :: sr_ws) (sr_rm fr lo) (sr_Pc D tys Z w As) (fun _ st o t => o = .returned ov ∧ t.heap = st.heap) 0 0 (fun _ => False)
/-- a contract that writes in A: the memory u behind it, with P u; the answer ov u -/
def sr_G (l : Launch) (D : va_G) (tys : List (ClassId × FieldType)) (Z : State → Heap → Prop) (A : Nat → Prop) (w : va_W) (y : MethodName) (b : ByteArray) (n : Nat) (ret : Option FieldType) (fr lo : Nat) (As : List Value) {S : Type} (P : S → Prop) (w2 : S → va_W) (ov : S → Option Value) : Prop :=
  Met l y (Cond.code y b n ret :: sr_ws) (sr_rm fr lo) (sr_Pc D tys Z w As) (fun _ st o t => (∃ u : S, o = .returned (ov u) ∧ P u ∧ va_P D vwCl (w2 u) t.heap) ∧ va_F A st t) 0 0 A
theorem sr_ofW {l : Launch} {y : MethodName} {ws ws' : List Cond} {rm : Room} {Pc : Array Value → State → Prop} {Qc : Array Value → State → Outcome → State → Prop} {mc ms : Nat} {free : Addr → Prop} {cc : ByteArray} {maxL : Nat} {ret : Option FieldType}
    (hy : plainFor y = true) (hw : ws = Cond.code y cc maxL ret :: ws')
    (body : ∀ p e s m args below meth c s₁, BodyLoose p l y (headSpec ws rm) cc maxL ret e s m args below meth c s₁ → c.maxLocals = maxL → Pc args s →
      W p l e (headSpec ws rm).room s m args below meth c s.heap [] 0 0 (MQ below Qc args s mc ms free) (entryFrame m args maxL)) : Met l y ws rm Pc Qc mc ms free := by
  refine MetFree.of_bodySF (code := cc) (maxLocals := maxL) (ret := ret) hy ?_ ?_
  · intro args s m h hn
    obtain ⟨meth, c, h1, h2, h3, h4, h5, h6, -, -⟩ := Cond.code_spec hn (atoms_spec (ws := ws) h _ (by rw [hw]; exact List.mem_cons_self))
    exact ⟨meth, c, h1, h2, h3, h4, h5, h6⟩
  · intro p e s m args below meth c s₁ B hml hP _
    have hh0 : s₁.heap = s.heap := by rw [B.state]; rfl
    obtain ⟨t, a1, o, b1, b2, b3⟩ := body p e s m args below meth c s₁ B hml hP s₁ hh0 (Stand.of_body B)
    exact ⟨t, o, a1, b1, b2, ⟨b3.1, b3.2⟩⟩
theorem sr_Pof {l : Launch} {D : va_G} {tys : List (ClassId × FieldType)} {Z : State → Heap → Prop} {w : va_W} {y : MethodName} {b : ByteArray} {n : Nat} {ret : Option FieldType} {fr lo : Nat} {As : List Value} {ov : Option Value} (hy : plainFor y = true) (hle : (lg_sl As).length ≤ n)
    (body : ∀ (p : Program) (e : Env) (s : State) (m : MethodId) (args : Array Value) (below : List Frame) (meth : Method) (c : Code) (ls : Array Slot), CallFix p m c b n s args sr_ws y.cls → meth.sig.returnType = ret → meth.locks = false → va_P D vwCl w s.heap → va_K D vwCl tys s → Z s s.heap → lv_has ls n (lv_args 0 As) →
      W p l e (sr_rm fr lo) s m args below meth c s.heap [] 0 0 (MQ below (fun _ st o t => o = .returned ov ∧ t.heap = st.heap) args s 0 0 (fun _ => False)) (F0 m 0 ls [])) : sr_P l D tys Z w y b n ret fr lo As ov := by
  refine sr_ofW (cc := b) (maxL := n) (ret := ret) hy rfl ?_
  intro p e s m args below meth c s₁ B hml hv
  obtain ⟨rfl, hP, hK, hZ⟩ := hv
  have hts := atoms_spec (ws := Cond.code y b n ret :: sr_ws) B.pre
  have hl := lv_entry As (n := n) hle
  rw [lg_entry_eq]
  exact body p e s m _ below meth c _ ⟨B.exec, B.bytes, hml, findClass_of_methodNamed B.named, fun w h => hts w (List.mem_cons_of_mem _ h)⟩ B.returns B.notSynchronized hP hK hZ hl
theorem sr_Gof {l : Launch} {D : va_G} {tys : List (ClassId × FieldType)} {Z : State → Heap → Prop} {A : Nat → Prop} {w : va_W} {y : MethodName} {b : ByteArray} {n : Nat} {ret : Option FieldType} {fr lo : Nat} {As : List Value} {S : Type} {P : S → Prop} {w2 : S → va_W} {ov : S → Option Value} (hy : plainFor y = true) (hle : (lg_sl As).length ≤ n)
    (body : ∀ (p : Program) (e : Env) (s : State) (m : MethodId) (args : Array Value) (below : List Frame) (meth : Method) (c : Code) (ls : Array Slot), CallFix p m c b n s args sr_ws y.cls → meth.sig.returnType = ret → meth.locks = false → va_P D vwCl w s.heap → va_K D vwCl tys s → Z s s.heap → lv_has ls n (lv_args 0 As) →
      W p l e (sr_rm fr lo) s m args below meth c s.heap [] 0 0 (MQ below (fun _ st o t => (∃ u : S, o = .returned (ov u) ∧ P u ∧ va_P D vwCl (w2 u) t.heap) ∧ va_F A st t) args s 0 0 A) (F0 m 0 ls [])) : sr_G l D tys Z A w y b n ret fr lo As P w2 ov := by
  refine sr_ofW (cc := b) (maxL := n) (ret := ret) hy rfl ?_
  intro p e s m args below meth c s₁ B hml hv
  obtain ⟨rfl, hP, hK, hZ⟩ := hv
  have hts := atoms_spec (ws := Cond.code y b n ret :: sr_ws) B.pre
  have hl := lv_entry As (n := n) hle
  rw [lg_entry_eq]
  exact body p e s m _ below meth c _ ⟨B.exec, B.bytes, hml, findClass_of_methodNamed B.named, fun w h => hts w (List.mem_cons_of_mem _ h)⟩ B.returns B.notSynchronized hP hK hZ hl
section SRW
variable {p : Program} {l : Launch} {e : Env} {R : Room} {s : State} {m : MethodId} {args : Array Value} {below : List Frame} {meth : Method} {c : Code} {H : Heap} {locs : List Loc} {cells slots : Nat} {Q : State → Prop}
variable {cc : ByteArray} {pc nL : Nat} {ls : Array Slot} {rest st0 : List Value} {D : va_G} {A : Nat → Prop} {tys : List (ClassId × FieldType)} {Z : State → Heap → Prop} {w : va_W} {own : String}
-- the ends
theorem sr_Pi (C0 : CallFix p m c cc nL s args sr_ws own) (hr : meth.sig.returnType = some .int) (hlocks : meth.locks = false) {v f : Int32} (hv : v = f) (hdg : decode cc pc = .ok (.ireturn, 1)) : W p l e R s m args below meth c s.heap [] 0 0 (MQ below (fun _ st o t => o = .returned (some (.int f)) ∧ t.heap = st.heap) args s 0 0 (fun _ => False)) (F0 m pc ls [.int v]) := by
  subst hv
  exact W.iret C0.1 C0.2.1 hr (fun t ht hW => ⟨rfl, ht⟩) (fun q h => by cases h) hdg hlocks
theorem sr_Pz (C0 : CallFix p m c cc nL s args sr_ws own) (hr : meth.sig.returnType = some .boolean) (hlocks : meth.locks = false) {v f : Int32} (hv : v = f) (hn : narrow .boolean (.int v) = .int v) (hdg : decode cc pc = .ok (.ireturn, 1)) : W p l e R s m args below meth c s.heap [] 0 0 (MQ below (fun _ st o t => o = .returned (some (.int f)) ∧ t.heap = st.heap) args s 0 0 (fun _ => False)) (F0 m pc ls [.int v]) := by
  subst hv
  exact W.zret C0.1 C0.2.1 hr hn (fun t ht hW => ⟨rfl, ht⟩) (fun q h => by cases h) hdg hlocks
theorem sr_Pl (C0 : CallFix p m c cc nL s args sr_ws own) (hr : meth.sig.returnType = some .long) (hlocks : meth.locks = false) {v f : Int64} (hv : v = f) (hdg : decode cc pc = .ok (.lreturn, 1)) : W p l e R s m args below meth c s.heap [] 0 0 (MQ below (fun _ st o t => o = .returned (some (.long f)) ∧ t.heap = st.heap) args s 0 0 (fun _ => False)) (F0 m pc ls [.long v]) := by
  subst hv
  exact W.lret C0.1 C0.2.1 hr (fun t ht hW => ⟨rfl, ht⟩) (fun q h => by cases h) hdg hlocks
theorem sr_Gi {S : Type} {P : S → Prop} {w2 : S → va_W} {f : S → Int32} (C0 : CallFix p m c cc nL s args sr_ws own) (hr : meth.sig.returnType = some .int) (hlocks : meth.locks = false) (hP : va_P D vwCl w H) (hS : va_S A s.heap H locs) (u : S) {v : Int32} (hv : v = f u) (hu : P u) (hw : w = w2 u) (hdg : decode cc pc = .ok (.ireturn, 1)) : W p l e R s m args below meth c H locs 0 0 (MQ below (fun _ st o t => (∃ u : S, o = .returned (some (.int (f u))) ∧ P u ∧ va_P D vwCl (w2 u) t.heap) ∧ va_F A st t) args s 0 0 A) (F0 m pc ls [.int v]) := by
  subst hv
  subst hw
  exact W.iret C0.1 C0.2.1 hr (fun t ht hW => ⟨⟨u, rfl, hu, by rw [ht]; exact hP⟩, hS.F ht⟩) hS.2.2 hdg hlocks
theorem sr_Gz {S : Type} {P : S → Prop} {w2 : S → va_W} {f : S → Int32} (C0 : CallFix p m c cc nL s args sr_ws own) (hr : meth.sig.returnType = some .boolean) (hlocks : meth.locks = false) (hP : va_P D vwCl w H) (hS : va_S A s.heap H locs) (u : S) {v : Int32} (hv : v = f u) (hn : narrow .boolean (.int v) = .int v) (hu : P u) (hw : w = w2 u) (hdg : decode cc pc = .ok (.ireturn, 1)) : W p l e R s m args below meth c H locs 0 0 (MQ below (fun _ st o t => (∃ u : S, o = .returned (some (.int (f u))) ∧ P u ∧ va_P D vwCl (w2 u) t.heap) ∧ va_F A st t) args s 0 0 A) (F0 m pc ls [.int v]) := by
  subst hv
  subst hw
  exact W.zret C0.1 C0.2.1 hr hn (fun t ht hW => ⟨⟨u, rfl, hu, by rw [ht]; exact hP⟩, hS.F ht⟩) hS.2.2 hdg hlocks
theorem sr_Gl {S : Type} {P : S → Prop} {w2 : S → va_W} {f : S → Int64} (C0 : CallFix p m c cc nL s args sr_ws own) (hr : meth.sig.returnType = some .long) (hlocks : meth.locks = false) (hP : va_P D vwCl w H) (hS : va_S A s.heap H locs) (u : S) {v : Int64} (hv : v = f u) (hu : P u) (hw : w = w2 u) (hdg : decode cc pc = .ok (.lreturn, 1)) : W p l e R s m args below meth c H locs 0 0 (MQ below (fun _ st o t => (∃ u : S, o = .returned (some (.long (f u))) ∧ P u ∧ va_P D vwCl (w2 u) t.heap) ∧ va_F A st t) args s 0 0 A) (F0 m pc ls [.long v]) := by
  subst hv
  subst hw
  exact W.lret C0.1 C0.2.1 hr (fun t ht hW => ⟨⟨u, rfl, hu, by rw [ht]; exact hP⟩, hS.F ht⟩) hS.2.2 hdg hlocks
theorem sr_Gv {S : Type} {P : S → Prop} {w2 : S → va_W} (C0 : CallFix p m c cc nL s args sr_ws own) (hr : meth.sig.returnType = none) (hlocks : meth.locks = false) (hP : va_P D vwCl w H) (hS : va_S A s.heap H locs) (u : S) (hu : P u) (hw : w = w2 u) (hdg : decode cc pc = .ok (.return_, 1)) : W p l e R s m args below meth c H locs 0 0 (MQ below (fun _ st o t => (∃ u : S, o = .returned none ∧ P u ∧ va_P D vwCl (w2 u) t.heap) ∧ va_F A st t) args s 0 0 A) (F0 m pc ls []) := by
  subst hw
  exact W.vret C0.1 C0.2.1 hr (fun t ht hW => ⟨⟨u, rfl, hu, by rw [ht]; exact hP⟩, hS.F ht⟩) hS.2.2 hdg hlocks
-- the calls: how one runs
variable {y : MethodName} {b : ByteArray} {n na fr lo index : Nat} {ret : Option FieldType} {As : List Value} {Qc : Array Value → State → Outcome → State → Prop} {free : Addr → Prop}
theorem sr_cb (C0 : CallFix p m c cc nL s args sr_ws own) (hk : sr_ok y b n ret na) (hl : Cond.methodLink own index y ∈ sr_ws) (hfr : fr + 1 ≤ R.frames) (hlo : 8 + (n + 11) + lo ≤ R.locals) : CallB R s args own index y b n ret (Cond.code y b n ret :: sr_ws) (sr_rm fr lo) 0 0 na :=
  callB_of na C0.2.2.2.2 (sr_gi hk.1) rfl rfl rfl (C0.2.2.2.2 _ hk.2.1) (C0.2.2.2.2 _ hl) hk.2.2 ⟨hfr, hlo⟩
theorem sr_rV (C0 : CallFix p m c cc nL s args sr_ws own) (hK : va_K D vwCl tys s) (hP : va_P D vwCl w H) (hZ : sr_Zok A Z) (hZs : Z s H) {q : Addr} (hM : Met l y (Cond.code y b n ret :: sr_ws) (sr_rm fr lo) (sr_Pc D tys Z w (.ref q :: As)) Qc 0 0 free) (hk : sr_ok y b n ret na) (hkV : sr_okV y) (hl : Cond.methodLink own index y ∈ sr_ws) {ci q0 N : Nat} {T : u_T} {fs : List Value} (hc : vwCl[ci]? = some (y.cls, T, N)) (he : w[q0]? = some (q, .inr (ci, fs)))
    (hst : st0 = As.reverse ++ .ref q :: rest) (hn : As.length = na) (hsz : ls.size = nL) (hfr : fr + 1 ≤ R.frames) (hlo : 8 + (n + 11) + lo ≤ R.locals) (hW : (rest.map fun v => v.category).sum ≤ 8) (hdg : decode cc pc = .ok (.invokevirtual index, 3)) (hcs : cells ≤ R.cells ∧ slots ≤ R.slots) :
    va_Run p l e R s m args below meth c H locs cells slots 0 0 (F0 m pc ls st0) rest (Qc (Value.ref q :: As).toArray) free :=
  va_runV C0 hM ⟨sr_cb C0 hk hl hfr hlo, C0.2.2.2.2 _ hkV.1, C0.2.2.2.2 _ hkV.2⟩ ⟨sr_blind hZ, va_recv hK hP hc he, fun U hU hW => ⟨rfl, by rw [hU]; exact hP, va_K.moved hW.alike hK, by rw [hU]; exact hZ.2.1 _ _ _ hW hZs⟩⟩ rfl hn hsz hst (lv_room hW) hdg hcs
theorem sr_rS (C0 : CallFix p m c cc nL s args sr_ws own) (hK : va_K D vwCl tys s) (hP : va_P D vwCl w H) (hZ : sr_Zok A Z) (hZs : Z s H) (hM : Met l y (Cond.code y b n ret :: sr_ws) (sr_rm fr lo) (sr_Pc D tys Z w As) Qc 0 0 free) (hk : sr_ok y b n ret na) (hkS : Cond.static y ∈ sr_ws) (hl : Cond.methodLink own index y ∈ sr_ws)
    (hst : st0 = As.reverse ++ rest) (hn : As.length = na) (hsz : ls.size = nL) (hfr : fr + 1 ≤ R.frames) (hlo : 8 + (n + 11) + lo ≤ R.locals) (hW : (rest.map fun v => v.category).sum ≤ 8) (hdg : decode cc pc = .ok (.invokestatic index, 3)) (hcs : cells ≤ R.cells ∧ slots ≤ R.slots) :
    va_Run p l e R s m args below meth c H locs cells slots 0 0 (F0 m pc ls st0) rest (Qc As.toArray) free :=
  va_runS C0 hM ⟨sr_cb C0 hk hl hfr hlo, C0.2.2.2.2 _ hkS⟩ ⟨sr_blind hZ, fun U hU hW => ⟨rfl, by rw [hU]; exact hP, va_K.moved hW.alike hK, by rw [hU]; exact hZ.2.1 _ _ _ hW hZs⟩⟩ rfl hn hsz hst (lv_room hW) hdg hcs
theorem sr_rSN {host : String} (C0 : CallFix p m c cc nL s args sr_ws own) (hK : va_K D vwCl tys s) (hP : va_P D vwCl w H) (hZ : sr_Zok A Z) (hZs : Z s H) (hM : Met l y (Cond.code y b n ret :: sr_ws) (sr_rm fr lo) (sr_Pc D tys Z w As) Qc 0 0 free) (hk : sr_ok y b n ret na) (hkS : Cond.static y ∈ sr_ws) (hl : va_Nw (.methodLinkNest own index y host) s)
    (hst : st0 = As.reverse ++ rest) (hn : As.length = na) (hsz : ls.size = nL) (hfr : fr + 1 ≤ R.frames) (hlo : 8 + (n + 11) + lo ≤ R.locals) (hW : (rest.map fun v => v.category).sum ≤ 8) (hdg : decode cc pc = .ok (.invokestatic index, 3)) (hcs : cells ≤ R.cells ∧ slots ≤ R.slots) :
    va_Run p l e R s m args below meth c H locs cells slots 0 0 (F0 m pc ls st0) rest (Qc As.toArray) free :=
  va_runSN C0 hM ⟨va_cnB na C0.2.2.2.2 (sr_gi hk.1) rfl rfl rfl hl (C0.2.2.2.2 _ hk.2.1) hk.2.2 ⟨hfr, hlo⟩, C0.2.2.2.2 _ hkS, trivial⟩ ⟨sr_blind hZ, fun U hU hW => ⟨rfl, by rw [hU]; exact hP, va_K.moved hW.alike hK, by rw [hU]; exact hZ.2.1 _ _ _ hW hZs⟩⟩ rfl hn hsz hst (lv_room hW) hdg hcs
-- the calls: what stands behind one
theorem sr_goP {ov : Option Value} (hr : va_Run p l e R s m args below meth c H locs cells slots 0 0 (F0 m pc ls st0) rest (fun st o t => o = .returned ov ∧ t.heap = st.heap) (fun _ => False)) (kk : W p l e R s m args below meth c H locs cells slots Q (F0 m (pc + 3) ls (ov.toList ++ rest))) : W p l e R s m args below meth c H locs cells slots Q (F0 m pc ls st0) := by
  intro T hT X
  obtain ⟨v, st₀, t, T', L, h0, X', hL, e1, e2, ⟨hv, hz⟩, st⟩ := hr T hT X
  cases hv
  have hL' : L = [] := List.eq_nil_iff_forall_not_mem.mpr (fun q hq => hL q hq)
  subst hL'
  rw [List.append_nil] at X'
  obtain ⟨t2, a1, b1⟩ := kk T' (by rw [e1, hz, h0]) X'
  exact ⟨t2, st t2 a1, b1⟩
theorem sr_goG {S : Type} {P : S → Prop} {w2 : S → va_W} {ov : S → Option Value} {H0 : Heap} {A0 : Nat → Prop} (hr : va_Run p l e R s m args below meth c H locs cells slots 0 0 (F0 m pc ls st0) rest (fun st o t => (∃ u : S, o = .returned (ov u) ∧ P u ∧ va_P D vwCl (w2 u) t.heap) ∧ va_F A st t) A) (hS : va_S A0 H0 H locs) (hA : ∀ q, A q → A0 q)
    (kk : ∀ (u : S) (H1 : Heap) (locs1 : List Loc), P u → va_P D vwCl (w2 u) H1 → va_S A0 H0 H1 locs1 → H.size ≤ H1.size → (∀ q : Nat, q < H.size → ¬ A q → H1[q]? = H[q]?) → W p l e R s m args below meth c H1 locs1 cells slots Q (F0 m (pc + 3) ls ((ov u).toList ++ rest))) : W p l e R s m args below meth c H locs cells slots Q (F0 m pc ls st0) := by
  intro T hT X
  obtain ⟨v, st₀, t, T', L, h0, X', hL, e1, e2, ⟨⟨u, hv, hp, hb⟩, hz, hk⟩, st⟩ := hr T hT X
  cases hv
  rw [h0] at hz hk
  obtain ⟨t2, a1, b1⟩ := kk u T'.heap (locs ++ L) hp (by rw [e1]; exact hb)
    ⟨Nat.le_trans hS.1 (by rw [e1]; exact hz), fun q h1 h2 => by rw [e1, hk q (Nat.lt_of_lt_of_le h1 hS.1) (fun z => h2 (hA q z))]; exact hS.2.1 q h1 h2, fun q hq => by
      rcases List.mem_append.mp hq with h | h
      · exact hS.2.2 q h
      · exact hA _ (hL q h)⟩ (by rw [e1]; exact hz) (fun q h1 h2 => by rw [e1]; exact hk q h1 h2) T' rfl X'
  exact ⟨t2, st t2 a1, b1⟩
/-- reading an int of an int row -/
theorem sr_ald {cI : ClassId} (C0 : CallFix p m c cc nL s args sr_ws own) (hK : va_K D vwCl tys s) (ht : tys[0]? = some (cI, .int)) (hP : va_P D vwCl w H) {q0 nn a : Nat} {f : Nat → Int32} (ha : w[q0]? = some (a, .inl (cI, nn, .inl f))) {i : Int32} {k : Nat} (hk : i.toNatClampNeg = k) (hin : vp_in i nn) (hdg : decode cc pc = .ok (.iaload, 1))
    (kk : W p l e R s m args below meth c H locs cells slots Q (F0 m (pc + 1) ls (.int (f k) :: rest))) : W p l e R s m args below meth c H locs cells slots Q (F0 m pc ls (.int i :: .ref a :: rest)) := by
  subst hk
  exact va_iald C0.1 C0.2.1 hK hP q0 0 ha ht hin hdg kk
/-- writing one -/
theorem sr_ast {cI : ClassId} {H0 : Heap} (C0 : CallFix p m c cc nL s args sr_ws own) (hK : va_K D vwCl tys s) (ht : tys[0]? = some (cI, .int)) (hP : va_P D vwCl w H) (hD : va_D A w) (hS : va_S A H0 H locs) {q0 nn a : Nat} {f : Nat → Int32} (ha : w[q0]? = some (a, .inl (cI, nn, .inl f))) {i x : Int32} {k : Nat} (hk : i.toNatClampNeg = k) (hin : vp_in i nn) {w' : va_W} (hw : w.set q0 (a, .inl (cI, nn, .inl (upd f k x))) = w') (hdg : decode cc pc = .ok (.iastore, 1))
    (kk : ∀ (H1 : Heap) (locs1 : List Loc), va_P D vwCl w' H1 → va_S A H0 H1 locs1 → W p l e R s m args below meth c H1 locs1 cells slots Q (F0 m (pc + 1) ls rest)) : W p l e R s m args below meth c H locs cells slots Q (F0 m pc ls (.int x :: .int i :: .ref a :: rest)) := by
  subst hk
  subst hw
  exact va_iast C0.1 C0.2.1 hK hP hD hS q0 0 ha ht hin hdg (fun H1 l1 h1 _ h3 => kk H1 l1 h1 h3)
end SRW
