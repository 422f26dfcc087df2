/-! ROWS over the frame: entries with the end as a hypothesis, fields, rows, branches on a told truth, calls -/
theorem sr_Zs {A : Nat → Prop} {Z : State → Heap → Prop} {s : State} {H : Heap} {locs : List Loc} (hZ : sr_Zok A Z) (h0 : Z s s.heap) (hS : va_S A s.heap H locs) : Z s H := hZ.2.2 s s.heap H hS.2.1 h0
section SRE
variable {l : Launch} {D : va_G} {tys : List (ClassId × FieldType)} {Z : State → Heap → Prop} {A : Nat → Prop} {w : va_W} {y : MethodName} {b : ByteArray} {n : Nat} {ret : Option FieldType} {fr lo : Nat} {As : List Value}
/-- what a body begins with -/
def sr_Bg (D : va_G) (tys : List (ClassId × FieldType)) (Z : State → Heap → Prop) (w : va_W) (y : MethodName) (b : ByteArray) (n : Nat) (As : List Value) (p : Program) (s : State) (m : MethodId) (args : Array Value) (c : Code) (ls : Array Slot) : Prop :=
  CallFix p m c b n s args sr_ws y.cls ∧ va_P D vwCl w s.heap ∧ va_K D vwCl tys s ∧ Z s s.heap ∧ lv_has ls n (lv_args 0 As)
theorem sr_Pie {f : Int32} (hy : plainFor y = true) (hle : (lg_sl As).length ≤ n)
    (body : ∀ (p : Program) (e : Env) (s : State) (m : MethodId) (args : Array Value) (below : List Frame) (meth : Method) (c : Code) (ls : Array Slot) (Q : State → Prop), sr_Bg D tys Z w y b n As p s m args c ls →
      (∀ (pc : Nat) (ls : Array Slot) (v : Int32), decode b pc = .ok (.ireturn, 1) → v = f → W p l e (sr_rm fr lo) s m args below meth c s.heap [] 0 0 Q (F0 m pc ls [.int v])) →
      W p l e (sr_rm fr lo) s m args below meth c s.heap [] 0 0 Q (F0 m 0 ls [])) : sr_P l D tys Z w y b n (some .int) fr lo As (some (.int f)) :=
  sr_Pof hy hle (fun p e s m args below meth c ls C0 hr hlk hP hK hZ hl => body p e s m args below meth c ls _ ⟨C0, hP, hK, hZ, hl⟩ (fun _ _ _ hdg hv => sr_Pi C0 hr hlk hv hdg))
theorem sr_nz {v : Int32} (h : v = 0 ∨ v = 1) : narrow .boolean (.int v) = .int v := by rcases h with rfl | rfl <;> rfl
theorem sr_Pze {f : Prop} [Decidable f] (hy : plainFor y = true) (hle : (lg_sl As).length ≤ n)
    (body : ∀ (p : Program) (e : Env) (s : State) (m : MethodId) (args : Array Value) (below : List Frame) (meth : Method) (c : Code) (ls : Array Slot) (Q : State → Prop), sr_Bg D tys Z w y b n As p s m args c ls →
      (∀ (pc : Nat) (ls : Array Slot) (v : Int32), decode b pc = .ok (.ireturn, 1) → v = (if f then 1 else 0) → W p l e (sr_rm fr lo) s m args below meth c s.heap [] 0 0 Q (F0 m pc ls [.int v])) →
      W p l e (sr_rm fr lo) s m args below meth c s.heap [] 0 0 Q (F0 m 0 ls [])) : sr_P l D tys Z w y b n (some .boolean) fr lo As (some (.int (if f then 1 else 0))) :=
  sr_Pof hy hle (fun p e s m args below meth c ls C0 hr hlk hP hK hZ hl => body p e s m args below meth c ls _ ⟨C0, hP, hK, hZ, hl⟩ (fun _ _ _ hdg hv => sr_Pz C0 hr hlk hv (sr_nz (by rw [hv]; by_cases h : f <;> simp [h])) hdg))
theorem sr_Ple {f : Int64} (hy : plainFor y = true) (hle : (lg_sl As).length ≤ n)
    (body : ∀ (p : Program) (e : Env) (s : State) (m : MethodId) (args : Array Value) (below : List Frame) (meth : Method) (c : Code) (ls : Array Slot) (Q : State → Prop), sr_Bg D tys Z w y b n As p s m args c ls →
      (∀ (pc : Nat) (ls : Array Slot) (v : Int64), decode b pc = .ok (.lreturn, 1) → v = f → W p l e (sr_rm fr lo) s m args below meth c s.heap [] 0 0 Q (F0 m pc ls [.long v])) →
      W p l e (sr_rm fr lo) s m args below meth c s.heap [] 0 0 Q (F0 m 0 ls [])) : sr_P l D tys Z w y b n (some .long) fr lo As (some (.long f)) :=
  sr_Pof hy hle (fun p e s m args below meth c ls C0 hr hlk hP hK hZ hl => body p e s m args below meth c ls _ ⟨C0, hP, hK, hZ, hl⟩ (fun _ _ _ hdg hv => sr_Pl C0 hr hlk hv hdg))
theorem sr_Gie {S : Type} {P : S → Prop} {w2 : S → va_W} {f : S → Int32} (hy : plainFor y = true) (hle : (lg_sl As).length ≤ n)
    (body : ∀ (p : Program) (e : Env) (s : State) (m : MethodId) (args : Array Value) (below : List Frame) (meth : Method) (c : Code) (ls : Array Slot) (Q : State → Prop), sr_Bg D tys Z w y b n As p s m args c ls →
      (∀ (H : Heap) (locs : List Loc) (w' : va_W) (u : S) (pc : Nat) (ls : Array Slot) (v : Int32), decode b pc = .ok (.ireturn, 1) → va_P D vwCl w' H → va_S A s.heap H locs → w' = w2 u → v = f u → P u → W p l e (sr_rm fr lo) s m args below meth c H locs 0 0 Q (F0 m pc ls [.int v])) →
      W p l e (sr_rm fr lo) s m args below meth c s.heap [] 0 0 Q (F0 m 0 ls [])) : sr_G l D tys Z A w y b n (some .int) fr lo As P w2 (fun u => some (.int (f u))) :=
  sr_Gof hy hle (fun p e s m args below meth c ls C0 hr hlk hP hK hZ hl => body p e s m args below meth c ls _ ⟨C0, hP, hK, hZ, hl⟩ (fun _ _ _ u _ _ _ hdg hP hS hw hv hu => sr_Gi C0 hr hlk hP hS u hv hu hw hdg))
theorem sr_Gze {S : Type} {P : S → Prop} {w2 : S → va_W} {f : S → Prop} [DecidablePred f] (hy : plainFor y = true) (hle : (lg_sl As).length ≤ n)
    (body : ∀ (p : Program) (e : Env) (s : State) (m : MethodId) (args : Array Value) (below : List Frame) (meth : Method) (c : Code) (ls : Array Slot) (Q : State → Prop), sr_Bg D tys Z w y b n As p s m args c ls →
      (∀ (H : Heap) (locs : List Loc) (w' : va_W) (u : S) (pc : Nat) (ls : Array Slot) (v : Int32), decode b pc = .ok (.ireturn, 1) → va_P D vwCl w' H → va_S A s.heap H locs → w' = w2 u → v = (if f u then 1 else 0) → P u → W p l e (sr_rm fr lo) s m args below meth c H locs 0 0 Q (F0 m pc ls [.int v])) →
      W p l e (sr_rm fr lo) s m args below meth c s.heap [] 0 0 Q (F0 m 0 ls [])) : sr_G l D tys Z A w y b n (some .boolean) fr lo As P w2 (fun u => some (.int (if f u then 1 else 0))) :=
  sr_Gof hy hle (fun p e s m args below meth c ls C0 hr hlk hP hK hZ hl => body p e s m args below meth c ls _ ⟨C0, hP, hK, hZ, hl⟩ (fun _ _ _ u _ _ _ hdg hP hS hw hv hu => sr_Gz (f := fun u => if f u then 1 else 0) C0 hr hlk hP hS u hv (sr_nz (by rw [hv]; by_cases h : f u <;> simp [h])) hu hw hdg))
theorem sr_Gle {S : Type} {P : S → Prop} {w2 : S → va_W} {f : S → Int64} (hy : plainFor y = true) (hle : (lg_sl As).length ≤ n)
    (body : ∀ (p : Program) (e : Env) (s : State) (m : MethodId) (args : Array Value) (below : List Frame) (meth : Method) (c : Code) (ls : Array Slot) (Q : State → Prop), sr_Bg D tys Z w y b n As p s m args c ls →
      (∀ (H : Heap) (locs : List Loc) (w' : va_W) (u : S) (pc : Nat) (ls : Array Slot) (v : Int64), decode b pc = .ok (.lreturn, 1) → va_P D vwCl w' H → va_S A s.heap H locs → w' = w2 u → v = f u → P u → W p l e (sr_rm fr lo) s m args below meth c H locs 0 0 Q (F0 m pc ls [.long v])) →
      W p l e (sr_rm fr lo) s m args below meth c s.heap [] 0 0 Q (F0 m 0 ls [])) : sr_G l D tys Z A w y b n (some .long) fr lo As P w2 (fun u => some (.long (f u))) :=
  sr_Gof hy hle (fun p e s m args below meth c ls C0 hr hlk hP hK hZ hl => body p e s m args below meth c ls _ ⟨C0, hP, hK, hZ, hl⟩ (fun _ _ _ u _ _ _ hdg hP hS hw hv hu => sr_Gl C0 hr hlk hP hS u hv hu hw hdg))
theorem sr_Gve {S : Type} {P : S → Prop} {w2 : S → va_W} (hy : plainFor y = true) (hle : (lg_sl As).length ≤ n)
    (body : ∀ (p : Program) (e : Env) (s : State) (m : MethodId) (args : Array Value) (below : List Frame) (meth : Method) (c : Code) (ls : Array Slot) (Q : State → Prop), sr_Bg D tys Z w y b n As p s m args c ls →
      (∀ (H : Heap) (locs : List Loc) (w' : va_W) (u : S) (pc : Nat) (ls : Array Slot), decode b pc = .ok (.return_, 1) → va_P D vwCl w' H → va_S A s.heap H locs → w' = w2 u → P u → W p l e (sr_rm fr lo) s m args below meth c H locs 0 0 Q (F0 m pc ls [])) →
      W p l e (sr_rm fr lo) s m args below meth c s.heap [] 0 0 Q (F0 m 0 ls [])) : sr_G l D tys Z A w y b n none fr lo As P w2 (fun _ => none) :=
  sr_Gof hy hle (fun p e s m args below meth c ls C0 hr hlk hP hK hZ hl => body p e s m args below meth c ls _ ⟨C0, hP, hK, hZ, hl⟩ (fun _ _ _ u _ _ hdg hP hS hw hu => sr_Gv C0 hr hlk hP hS u hu hw hdg))
end SRE
section SRR
variable {p : Program} {l : Launch} {e : Env} {R : Room} {s : State} {m : MethodId} {args : Array Value} {below : List Frame} {meth : Method} {c : Code} {H : Heap} {locs : List Loc} {cells slots : Nat} {Q : State → Prop}
variable {cc : ByteArray} {pc nL : Nat} {ls : Array Slot} {rest st0 : List Value} {D : va_G} {A : Nat → Prop} {tys : List (ClassId × FieldType)} {Z : State → Heap → Prop} {w : va_W} {own : String}
theorem sr_get {C : String} {T : u_T} {N ci index q0 a : Nat} (C0 : CallFix p m c cc nL s args sr_ws own) (hK : va_K D vwCl tys s) (hP : va_P D vwCl w H) (hin : ∀ x ∈ u_ws C T N, x ∈ sr_ws) {fs : List Value} (he : w[q0]? = some (a, .inr (ci, fs))) (hc : vwCl[ci]? = some (C, T, N)) (k : Nat) (hk : k < N) (hlink : Cond.fieldLink own index (T k).1 (T k).2.1 (T k).2.2.1 ∈ sr_ws) {v : Value} (hv : fs[k]? = some v) (hdg : decode cc pc = .ok (.getfield index, 3))
    (kk : W p l e R s m args below meth c H locs cells slots Q (F0 m (pc + 3) ls (v :: rest))) : W p l e R s m args below meth c H locs cells slots Q (F0 m pc ls (.ref a :: rest)) :=
  va_get C0.1 C0.2.1 C0.2.2.2.2 hin C0.2.2.2.1 hK hP q0 he hc k hk (C0.2.2.2.2 _ hlink) (fun _ h => h) hv hdg kk
theorem sr_put {C : String} {T : u_T} {N ci index q0 a : Nat} {H0 : Heap} (C0 : CallFix p m c cc nL s args sr_ws own) (hK : va_K D vwCl tys s) (hP : va_P D vwCl w H) (hD : va_D A w) (hS : va_S A H0 H locs) (hin : ∀ x ∈ u_ws C T N, x ∈ sr_ws) {ty0 : Nat → FieldType} (hty : ∀ k, k < N → parseFieldDescriptor (T k).2.2.1 = some (ty0 k)) (hnm : ∀ a, a < N → ∀ b, b < N → a ≠ b → (T a).2.1 ≠ (T b).2.1) {fs : List Value} (he : w[q0]? = some (a, .inr (ci, fs))) (hc : vwCl[ci]? = some (C, T, N)) (k : Nat) (hk : k < N) (hlink : Cond.fieldLink own index (T k).1 (T k).2.1 (T k).2.2.1 ∈ sr_ws) (hfin : (T k).2.2.2 = false) (hd : parseFieldDescriptor (T k).2.2.1 = some .int) (hl : k < fs.length) {x : Int32} {w' : va_W} (hw : w.set q0 (a, .inr (ci, fs.set k (.int x))) = w') (hdg : decode cc pc = .ok (.putfield index, 3))
    (kk : ∀ (H1 : Heap) (locs1 : List Loc), va_P D vwCl w' H1 → va_S A H0 H1 locs1 → W p l e R s m args below meth c H1 locs1 cells slots Q (F0 m (pc + 3) ls rest)) : W p l e R s m args below meth c H locs cells slots Q (F0 m pc ls (.int x :: .ref a :: rest)) := by
  subst hw
  exact va_put C0.1 C0.2.1 C0.2.2.2.2 hin ty0 hty hnm C0.2.2.2.1 hK hP hD hS q0 he hc k hk (C0.2.2.2.2 _ hlink) (fun _ h => h) hfin hd rfl rfl hl hdg (fun H1 l1 h1 _ h3 => kk H1 l1 h1 h3)
/-- a row of an array of int rows -/
theorem sr_ald2 {cR : ClassId} (C0 : CallFix p m c cc nL s args sr_ws own) (hK : va_K D vwCl tys s) (ht : tys[1]? = some (cR, .array .int)) (hP : va_P D vwCl w H) {q0 nn a : Nat} {f : Nat → Option Nat} (ha : w[q0]? = some (a, .inl (cR, nn, .inr (.inr (.inr (.inr f)))))) {i : Int32} {k : Nat} (hk : i.toNatClampNeg = k) (hin : vp_in i nn) {r : Nat} (hr : f k = some r) (hdg : decode cc pc = .ok (.aaload, 1))
    (kk : W p l e R s m args below meth c H locs cells slots Q (F0 m (pc + 1) ls (.ref r :: rest))) : W p l e R s m args below meth c H locs cells slots Q (F0 m pc ls (.int i :: .ref a :: rest)) := by
  have hlt : i.toNatClampNeg < nn := Nat.not_le.mp fun q => hin (Or.inr q)
  refine W.aald (v := .ref r) (ty := .array .int) C0.1 C0.2.1 (hP q0 _ ha) ((hK.2 1 _ ht).1 nn (fun j => va_rf (f j))) rfl (fun q => by cases q) (by show ¬ (i < 0 ∨ (arrV _ _ _).slots.size ≤ _); rw [arrV_size]; exact hin) (by show (arrV _ _ _).slots[_]? = _; rw [arrV_read _ _ hlt, hk, hr]; rfl) rfl rfl hdg kk
theorem sr_ifeq {P : Prop} [Decidable P] (C0 : CallFix p m c cc nL s args sr_ws own) {off : Int} {tgt : Nat} (hdg : decode cc pc = .ok (.ifCond .eq off, 3)) (ht : (pc : Int) + off = (tgt : Int)) (kt : ¬ P → W p l e R s m args below meth c H locs cells slots Q (F0 m tgt ls rest)) (kf : P → W p l e R s m args below meth c H locs cells slots Q (F0 m (pc + 3) ls rest)) : W p l e R s m args below meth c H locs cells slots Q (F0 m pc ls (.int (if P then 1 else 0) :: rest)) := by
  by_cases h : P
  · rw [if_pos h]
    exact lv_if_eq C0.1 C0.2.1 hdg ht (fun q => absurd q (by decide)) (fun _ => kf h)
  · rw [if_neg h]
    exact lv_if_eq C0.1 C0.2.1 hdg ht (fun _ => kt h) (fun q => absurd rfl q)
theorem sr_ifne {P : Prop} [Decidable P] (C0 : CallFix p m c cc nL s args sr_ws own) {off : Int} {tgt : Nat} (hdg : decode cc pc = .ok (.ifCond .ne off, 3)) (ht : (pc : Int) + off = (tgt : Int)) (kt : P → W p l e R s m args below meth c H locs cells slots Q (F0 m tgt ls rest)) (kf : ¬ P → W p l e R s m args below meth c H locs cells slots Q (F0 m (pc + 3) ls rest)) : W p l e R s m args below meth c H locs cells slots Q (F0 m pc ls (.int (if P then 1 else 0) :: rest)) := by
  by_cases h : P
  · rw [if_pos h]
    exact lv_if_ne C0.1 C0.2.1 hdg ht (fun _ => kt h) (fun q => absurd q (by decide))
  · rw [if_neg h]
    exact lv_if_ne C0.1 C0.2.1 hdg ht (fun q => absurd rfl q) (fun _ => kf h)
-- calls with their answers; V: virtual, S: static, N: static of a nest mate; the world they need is the caller's
variable {y : MethodName} {b : ByteArray} {n na fr lo index : Nat} {ret : Option FieldType} {As : List Value}
theorem sr_pVi (C0 : CallFix p m c cc nL s args sr_ws own) (hK : va_K D vwCl tys s) (hP : va_P D vwCl w H) (hZ : sr_Zok A Z) (hZs : Z s H) {q : Addr} {f : Int32} (hM : sr_P l D tys Z w y b n ret fr lo (.ref q :: As) (some (.int f))) (hk : sr_ok y b n ret na) (hkV : sr_okV y) (hl : Cond.methodLink own index y ∈ sr_ws) {ci q0 N : Nat} {T : u_T} {fs : List Value} (hc : vwCl[ci]? = some (y.cls, T, N)) (he : w[q0]? = some (q, .inr (ci, fs))) (hst : st0 = As.reverse ++ .ref q :: rest) (hn : As.length = na) (hsz : ls.size = nL) (hfr : fr + 1 ≤ R.frames) (hlo : 8 + (n + 11) + lo ≤ R.locals) (hW : (rest.map fun v => v.category).sum ≤ 8) (hdg : decode cc pc = .ok (.invokevirtual index, 3)) (hcs : cells ≤ R.cells ∧ slots ≤ R.slots)
    (kk : W p l e R s m args below meth c H locs cells slots Q (F0 m (pc + 3) ls (.int f :: rest))) : W p l e R s m args below meth c H locs cells slots Q (F0 m pc ls st0) :=
  sr_goP (sr_rV C0 hK hP hZ hZs hM hk hkV hl hc he hst hn hsz hfr hlo hW hdg hcs) kk
theorem sr_pVl (C0 : CallFix p m c cc nL s args sr_ws own) (hK : va_K D vwCl tys s) (hP : va_P D vwCl w H) (hZ : sr_Zok A Z) (hZs : Z s H) {q : Addr} {f : Int64} (hM : sr_P l D tys Z w y b n ret fr lo (.ref q :: As) (some (.long f))) (hk : sr_ok y b n ret na) (hkV : sr_okV y) (hl : Cond.methodLink own index y ∈ sr_ws) {ci q0 N : Nat} {T : u_T} {fs : List Value} (hc : vwCl[ci]? = some (y.cls, T, N)) (he : w[q0]? = some (q, .inr (ci, fs))) (hst : st0 = As.reverse ++ .ref q :: rest) (hn : As.length = na) (hsz : ls.size = nL) (hfr : fr + 1 ≤ R.frames) (hlo : 8 + (n + 11) + lo ≤ R.locals) (hW : (rest.map fun v => v.category).sum ≤ 8) (hdg : decode cc pc = .ok (.invokevirtual index, 3)) (hcs : cells ≤ R.cells ∧ slots ≤ R.slots)
    (kk : W p l e R s m args below meth c H locs cells slots Q (F0 m (pc + 3) ls (.long f :: rest))) : W p l e R s m args below meth c H locs cells slots Q (F0 m pc ls st0) :=
  sr_goP (sr_rV C0 hK hP hZ hZs hM hk hkV hl hc he hst hn hsz hfr hlo hW hdg hcs) kk
theorem sr_pSi (C0 : CallFix p m c cc nL s args sr_ws own) (hK : va_K D vwCl tys s) (hP : va_P D vwCl w H) (hZ : sr_Zok A Z) (hZs : Z s H) {f : Int32} (hM : sr_P l D tys Z w y b n ret fr lo As (some (.int f))) (hk : sr_ok y b n ret na) (hkS : Cond.static y ∈ sr_ws) (hl : Cond.methodLink own index y ∈ sr_ws) (hst : st0 = As.reverse ++ rest) (hn : As.length = na) (hsz : ls.size = nL) (hfr : fr + 1 ≤ R.frames) (hlo : 8 + (n + 11) + lo ≤ R.locals) (hW : (rest.map fun v => v.category).sum ≤ 8) (hdg : decode cc pc = .ok (.invokestatic index, 3)) (hcs : cells ≤ R.cells ∧ slots ≤ R.slots)
    (kk : W p l e R s m args below meth c H locs cells slots Q (F0 m (pc + 3) ls (.int f :: rest))) : W p l e R s m args below meth c H locs cells slots Q (F0 m pc ls st0) :=
  sr_goP (sr_rS C0 hK hP hZ hZs hM hk hkS hl hst hn hsz hfr hlo hW hdg hcs) kk
theorem sr_pSl (C0 : CallFix p m c cc nL s args sr_ws own) (hK : va_K D vwCl tys s) (hP : va_P D vwCl w H) (hZ : sr_Zok A Z) (hZs : Z s H) {f : Int64} (hM : sr_P l D tys Z w y b n ret fr lo As (some (.long f))) (hk : sr_ok y b n ret na) (hkS : Cond.static y ∈ sr_ws) (hl : Cond.methodLink own index y ∈ sr_ws) (hst : st0 = As.reverse ++ rest) (hn : As.length = na) (hsz : ls.size = nL) (hfr : fr + 1 ≤ R.frames) (hlo : 8 + (n + 11) + lo ≤ R.locals) (hW : (rest.map fun v => v.category).sum ≤ 8) (hdg : decode cc pc = .ok (.invokestatic index, 3)) (hcs : cells ≤ R.cells ∧ slots ≤ R.slots)
    (kk : W p l e R s m args below meth c H locs cells slots Q (F0 m (pc + 3) ls (.long f :: rest))) : W p l e R s m args below meth c H locs cells slots Q (F0 m pc ls st0) :=
  sr_goP (sr_rS C0 hK hP hZ hZs hM hk hkS hl hst hn hsz hfr hlo hW hdg hcs) kk
theorem sr_pNi {host : String} (C0 : CallFix p m c cc nL s args sr_ws own) (hK : va_K D vwCl tys s) (hP : va_P D vwCl w H) (hZ : sr_Zok A Z) (hZs : Z s H) {f : Int32} (hM : sr_P l D tys Z w y b n ret fr lo As (some (.int f))) (hk : sr_ok y b n ret na) (hkS : Cond.static y ∈ sr_ws) (hl : va_Nw (.methodLinkNest own index y host) s) (hst : st0 = As.reverse ++ rest) (hn : As.length = na) (hsz : ls.size = nL) (hfr : fr + 1 ≤ R.frames) (hlo : 8 + (n + 11) + lo ≤ R.locals) (hW : (rest.map fun v => v.category).sum ≤ 8) (hdg : decode cc pc = .ok (.invokestatic index, 3)) (hcs : cells ≤ R.cells ∧ slots ≤ R.slots)
    (kk : W p l e R s m args below meth c H locs cells slots Q (F0 m (pc + 3) ls (.int f :: rest))) : W p l e R s m args below meth c H locs cells slots Q (F0 m pc ls st0) :=
  sr_goP (sr_rSN C0 hK hP hZ hZs hM hk hkS hl hst hn hsz hfr hlo hW hdg hcs) kk
variable {S : Type} {P : S → Prop} {w2 : S → va_W} {H0 : Heap} {A0 : Nat → Prop}
theorem sr_gVi (C0 : CallFix p m c cc nL s args sr_ws own) (hK : va_K D vwCl tys s) (hP : va_P D vwCl w H) (hZ : sr_Zok A Z) (hZs : Z s H) {q : Addr} {f : S → Int32} (hM : sr_G l D tys Z A w y b n ret fr lo (.ref q :: As) P w2 (fun u => some (.int (f u)))) (hk : sr_ok y b n ret na) (hkV : sr_okV y) (hl : Cond.methodLink own index y ∈ sr_ws) {ci q0 N : Nat} {T : u_T} {fs : List Value} (hc : vwCl[ci]? = some (y.cls, T, N)) (he : w[q0]? = some (q, .inr (ci, fs))) (hst : st0 = As.reverse ++ .ref q :: rest) (hn : As.length = na) (hsz : ls.size = nL) (hfr : fr + 1 ≤ R.frames) (hlo : 8 + (n + 11) + lo ≤ R.locals) (hW : (rest.map fun v => v.category).sum ≤ 8) (hdg : decode cc pc = .ok (.invokevirtual index, 3)) (hcs : cells ≤ R.cells ∧ slots ≤ R.slots) (hS : va_S A s.heap H locs)
    (kk : ∀ (u : S) (H1 : Heap) (locs1 : List Loc), P u → va_P D vwCl (w2 u) H1 → va_S A s.heap H1 locs1 → W p l e R s m args below meth c H1 locs1 cells slots Q (F0 m (pc + 3) ls (.int (f u) :: rest))) : W p l e R s m args below meth c H locs cells slots Q (F0 m pc ls st0) :=
  sr_goG (sr_rV C0 hK hP hZ hZs hM hk hkV hl hc he hst hn hsz hfr hlo hW hdg hcs) hS (fun _ h => h) (fun u H1 l1 h1 h2 h3 _ _ => kk u H1 l1 h1 h2 h3)
theorem sr_gVl (C0 : CallFix p m c cc nL s args sr_ws own) (hK : va_K D vwCl tys s) (hP : va_P D vwCl w H) (hZ : sr_Zok A Z) (hZs : Z s H) {q : Addr} {f : S → Int64} (hM : sr_G l D tys Z A w y b n ret fr lo (.ref q :: As) P w2 (fun u => some (.long (f u)))) (hk : sr_ok y b n ret na) (hkV : sr_okV y) (hl : Cond.methodLink own index y ∈ sr_ws) {ci q0 N : Nat} {T : u_T} {fs : List Value} (hc : vwCl[ci]? = some (y.cls, T, N)) (he : w[q0]? = some (q, .inr (ci, fs))) (hst : st0 = As.reverse ++ .ref q :: rest) (hn : As.length = na) (hsz : ls.size = nL) (hfr : fr + 1 ≤ R.frames) (hlo : 8 + (n + 11) + lo ≤ R.locals) (hW : (rest.map fun v => v.category).sum ≤ 8) (hdg : decode cc pc = .ok (.invokevirtual index, 3)) (hcs : cells ≤ R.cells ∧ slots ≤ R.slots) (hS : va_S A s.heap H locs)
    (kk : ∀ (u : S) (H1 : Heap) (locs1 : List Loc), P u → va_P D vwCl (w2 u) H1 → va_S A s.heap H1 locs1 → W p l e R s m args below meth c H1 locs1 cells slots Q (F0 m (pc + 3) ls (.long (f u) :: rest))) : W p l e R s m args below meth c H locs cells slots Q (F0 m pc ls st0) :=
  sr_goG (sr_rV C0 hK hP hZ hZs hM hk hkV hl hc he hst hn hsz hfr hlo hW hdg hcs) hS (fun _ h => h) (fun u H1 l1 h1 h2 h3 _ _ => kk u H1 l1 h1 h2 h3)
theorem sr_gVv (C0 : CallFix p m c cc nL s args sr_ws own) (hK : va_K D vwCl tys s) (hP : va_P D vwCl w H) (hZ : sr_Zok A Z) (hZs : Z s H) {q : Addr} (hM : sr_G l D tys Z A w y b n ret fr lo (.ref q :: As) P w2 (fun _ => none)) (hk : sr_ok y b n ret na) (hkV : sr_okV y) (hl : Cond.methodLink own index y ∈ sr_ws) {ci q0 N : Nat} {T : u_T} {fs : List Value} (hc : vwCl[ci]? = some (y.cls, T, N)) (he : w[q0]? = some (q, .inr (ci, fs))) (hst : st0 = As.reverse ++ .ref q :: rest) (hn : As.length = na) (hsz : ls.size = nL) (hfr : fr + 1 ≤ R.frames) (hlo : 8 + (n + 11) + lo ≤ R.locals) (hW : (rest.map fun v => v.category).sum ≤ 8) (hdg : decode cc pc = .ok (.invokevirtual index, 3)) (hcs : cells ≤ R.cells ∧ slots ≤ R.slots) (hS : va_S A s.heap H locs)
    (kk : ∀ (u : S) (H1 : Heap) (locs1 : List Loc), P u → va_P D vwCl (w2 u) H1 → va_S A s.heap H1 locs1 → W p l e R s m args below meth c H1 locs1 cells slots Q (F0 m (pc + 3) ls rest)) : W p l e R s m args below meth c H locs cells slots Q (F0 m pc ls st0) :=
  sr_goG (sr_rV C0 hK hP hZ hZs hM hk hkV hl hc he hst hn hsz hfr hlo hW hdg hcs) hS (fun _ h => h) (fun u H1 l1 h1 h2 h3 _ _ => kk u H1 l1 h1 h2 h3)
theorem sr_gSi (C0 : CallFix p m c cc nL s args sr_ws own) (hK : va_K D vwCl tys s) (hP : va_P D vwCl w H) (hZ : sr_Zok A Z) (hZs : Z s H) {f : S → Int32} (hM : sr_G l D tys Z A w y b n ret fr lo As P w2 (fun u => some (.int (f u)))) (hk : sr_ok y b n ret na) (hkS : Cond.static y ∈ sr_ws) (hl : Cond.methodLink own index y ∈ sr_ws) (hst : st0 = As.reverse ++ rest) (hn : As.length = na) (hsz : ls.size = nL) (hfr : fr + 1 ≤ R.frames) (hlo : 8 + (n + 11) + lo ≤ R.locals) (hW : (rest.map fun v => v.category).sum ≤ 8) (hdg : decode cc pc = .ok (.invokestatic index, 3)) (hcs : cells ≤ R.cells ∧ slots ≤ R.slots) (hS : va_S A s.heap H locs)
    (kk : ∀ (u : S) (H1 : Heap) (locs1 : List Loc), P u → va_P D vwCl (w2 u) H1 → va_S A s.heap H1 locs1 → W p l e R s m args below meth c H1 locs1 cells slots Q (F0 m (pc + 3) ls (.int (f u) :: rest))) : W p l e R s m args below meth c H locs cells slots Q (F0 m pc ls st0) :=
  sr_goG (sr_rS C0 hK hP hZ hZs hM hk hkS hl hst hn hsz hfr hlo hW hdg hcs) hS (fun _ h => h) (fun u H1 l1 h1 h2 h3 _ _ => kk u H1 l1 h1 h2 h3)
theorem sr_gSv (C0 : CallFix p m c cc nL s args sr_ws own) (hK : va_K D vwCl tys s) (hP : va_P D vwCl w H) (hZ : sr_Zok A Z) (hZs : Z s H) (hM : sr_G l D tys Z A w y b n ret fr lo As P w2 (fun _ => none)) (hk : sr_ok y b n ret na) (hkS : Cond.static y ∈ sr_ws) (hl : Cond.methodLink own index y ∈ sr_ws) (hst : st0 = As.reverse ++ rest) (hn : As.length = na) (hsz : ls.size = nL) (hfr : fr + 1 ≤ R.frames) (hlo : 8 + (n + 11) + lo ≤ R.locals) (hW : (rest.map fun v => v.category).sum ≤ 8) (hdg : decode cc pc = .ok (.invokestatic index, 3)) (hcs : cells ≤ R.cells ∧ slots ≤ R.slots) (hS : va_S A s.heap H locs)
    (kk : ∀ (u : S) (H1 : Heap) (locs1 : List Loc), P u → va_P D vwCl (w2 u) H1 → va_S A s.heap H1 locs1 → W p l e R s m args below meth c H1 locs1 cells slots Q (F0 m (pc + 3) ls rest)) : W p l e R s m args below meth c H locs cells slots Q (F0 m pc ls st0) :=
  sr_goG (sr_rS C0 hK hP hZ hZs hM hk hkS hl hst hn hsz hfr hlo hW hdg hcs) hS (fun _ h => h) (fun u H1 l1 h1 h2 h3 _ _ => kk u H1 l1 h1 h2 h3)
theorem sr_gNi {host : String} (C0 : CallFix p m c cc nL s args sr_ws own) (hK : va_K D vwCl tys s) (hP : va_P D vwCl w H) (hZ : sr_Zok A Z) (hZs : Z s H) {f : S → Int32} (hM : sr_G l D tys Z A w y b n ret fr lo As P w2 (fun u => some (.int (f u)))) (hk : sr_ok y b n ret na) (hkS : Cond.static y ∈ sr_ws) (hl : va_Nw (.methodLinkNest own index y host) s) (hst : st0 = As.reverse ++ rest) (hn : As.length = na) (hsz : ls.size = nL) (hfr : fr + 1 ≤ R.frames) (hlo : 8 + (n + 11) + lo ≤ R.locals) (hW : (rest.map fun v => v.category).sum ≤ 8) (hdg : decode cc pc = .ok (.invokestatic index, 3)) (hcs : cells ≤ R.cells ∧ slots ≤ R.slots) (hS : va_S A s.heap H locs)
    (kk : ∀ (u : S) (H1 : Heap) (locs1 : List Loc), P u → va_P D vwCl (w2 u) H1 → va_S A s.heap H1 locs1 → W p l e R s m args below meth c H1 locs1 cells slots Q (F0 m (pc + 3) ls (.int (f u) :: rest))) : W p l e R s m args below meth c H locs cells slots Q (F0 m pc ls st0) :=
  sr_goG (sr_rSN C0 hK hP hZ hZs hM hk hkS hl hst hn hsz hfr hlo hW hdg hcs) hS (fun _ h => h) (fun u H1 l1 h1 h2 h3 _ _ => kk u H1 l1 h1 h2 h3)
end SRR

section SRX
variable {p : Program} {l : Launch} {e : Env} {R : Room} {s : State} {m : MethodId} {args : Array Value} {below : List Frame} {meth : Method} {c : Code} {H : Heap} {locs : List Loc} {cells slots : Nat} {Q : State → Prop}
variable {cc : ByteArray} {pc nL : Nat} {ls : Array Slot} {rest st0 : List Value} {D : va_G} {A : Nat → Prop} {tys : List (ClassId × FieldType)} {Z : State → Heap → Prop} {w : va_W} {own : String}
theorem sr_chi {x y : Int32} (h : x = y) (k : W p l e R s m args below meth c H locs cells slots Q (F0 m pc ls (.int y :: rest))) : W p l e R s m args below meth c H locs cells slots Q (F0 m pc ls (.int x :: rest)) := by rw [h]; exact k
theorem sr_chl {x y : Int64} (h : x = y) (k : W p l e R s m args below meth c H locs cells slots Q (F0 m pc ls (.long y :: rest))) : W p l e R s m args below meth c H locs cells slots Q (F0 m pc ls (.long x :: rest)) := by rw [h]; exact k
theorem sr_inc {i : Int32} {n : Nat} (h : (!(decide (i < 0) || decide (n ≤ i.toNatClampNeg))) = true) : vp_in i n := by
  intro q
  simp only [Bool.not_eq_true', Bool.or_eq_false_iff, decide_eq_false_iff_not] at h
  exact q.elim h.1 h.2
theorem sr_os {a : Nat → Nat} {b n k : Nat} (h : k < n) : sr_o a b n k = some (a (b + k)) := if_pos h
/-- a comparison of longs, and the branch behind it -/
theorem sr_cmp_lt (x y : Int64) : lg_cmp x y < 0 ↔ x < y := by
  unfold lg_cmp
  split <;> rename_i h1
  · exact ⟨fun q => absurd q (by decide), fun q => absurd q (by simp only [GT.gt, Int64.lt_iff_toInt_lt] at *; omega)⟩
  · split <;> rename_i h2
    · subst h2
      exact ⟨fun q => absurd q (by decide), fun q => absurd q (by simp only [GT.gt, Int64.lt_iff_toInt_lt] at *; omega)⟩
    · exact ⟨fun _ => by simp only [GT.gt, Int64.lt_iff_toInt_lt] at *; have h3 : ¬ x.toInt = y.toInt := fun q => h2 (Int64.toInt_inj.mp q); omega, fun _ => by decide⟩
theorem sr_cmp_gt (x y : Int64) : 0 < lg_cmp x y ↔ y < x := by
  unfold lg_cmp
  split <;> rename_i h1
  · exact ⟨fun _ => h1, fun _ => by decide⟩
  · split <;> exact ⟨fun q => absurd q (by decide), fun q => absurd q h1⟩
theorem sr_cmp_eq (x y : Int64) : lg_cmp x y = 0 ↔ x = y := by
  unfold lg_cmp
  split <;> rename_i h1
  · exact ⟨fun q => absurd q (by decide), fun q => absurd h1 (by subst q; simp only [GT.gt, Int64.lt_iff_toInt_lt]; omega)⟩
  · split <;> rename_i h2
    · exact ⟨fun _ => h2, fun _ => rfl⟩
    · exact ⟨fun q => absurd q (by decide), fun q => absurd q h2⟩
theorem sr_lclt {x y : Int64} (C0 : CallFix p m c cc nL s args sr_ws own) {off : Int} {tgt : Nat} (hdg : decode cc pc = .ok (.ifCond .lt off, 3)) (ht : (pc : Int) + off = (tgt : Int)) (kt : x < y → W p l e R s m args below meth c H locs cells slots Q (F0 m tgt ls rest)) (kf : ¬ x < y → W p l e R s m args below meth c H locs cells slots Q (F0 m (pc + 3) ls rest)) : W p l e R s m args below meth c H locs cells slots Q (F0 m pc ls (.int (lg_cmp x y) :: rest)) :=
  lv_if_lt C0.1 C0.2.1 hdg ht (fun q => kt ((sr_cmp_lt x y).mp q)) (fun q => kf (fun z => q ((sr_cmp_lt x y).mpr z)))
theorem sr_lcgt {x y : Int64} (C0 : CallFix p m c cc nL s args sr_ws own) {off : Int} {tgt : Nat} (hdg : decode cc pc = .ok (.ifCond .gt off, 3)) (ht : (pc : Int) + off = (tgt : Int)) (kt : y < x → W p l e R s m args below meth c H locs cells slots Q (F0 m tgt ls rest)) (kf : ¬ y < x → W p l e R s m args below meth c H locs cells slots Q (F0 m (pc + 3) ls rest)) : W p l e R s m args below meth c H locs cells slots Q (F0 m pc ls (.int (lg_cmp x y) :: rest)) :=
  lv_if_gt C0.1 C0.2.1 hdg ht (fun q => kt ((sr_cmp_gt x y).mp q)) (fun q => kf (fun z => q ((sr_cmp_gt x y).mpr z)))
theorem sr_lceq {x y : Int64} (C0 : CallFix p m c cc nL s args sr_ws own) {off : Int} {tgt : Nat} (hdg : decode cc pc = .ok (.ifCond .eq off, 3)) (ht : (pc : Int) + off = (tgt : Int)) (kt : x = y → W p l e R s m args below meth c H locs cells slots Q (F0 m tgt ls rest)) (kf : ¬ x = y → W p l e R s m args below meth c H locs cells slots Q (F0 m (pc + 3) ls rest)) : W p l e R s m args below meth c H locs cells slots Q (F0 m pc ls (.int (lg_cmp x y) :: rest)) :=
  lv_if_eq C0.1 C0.2.1 hdg ht (fun q => kt ((sr_cmp_eq x y).mp q)) (fun q => kf (fun z => q ((sr_cmp_eq x y).mpr z)))
theorem sr_ls2 {x k1 k2 : Int32} {a1 a2 o1 o2 dflt : Int} {len t1 t2 t3 : Nat} (C0 : CallFix p m c cc nL s args sr_ws own) (hdg : decode cc pc = .ok (.lookupswitch dflt #[(a1, o1), (a2, o2)], len)) (h1 : k1.toInt = a1) (h2 : k2.toInt = a2) (h3 : a1 < a2) (g1 : (pc : Int) + o1 = (t1 : Int)) (g2 : (pc : Int) + o2 = (t2 : Int)) (g3 : (pc : Int) + dflt = (t3 : Int))
    (ka : x = k1 → W p l e R s m args below meth c H locs cells slots Q (F0 m t1 ls rest)) (kb : ¬ x = k1 → x = k2 → W p l e R s m args below meth c H locs cells slots Q (F0 m t2 ls rest)) (kc : ¬ x = k1 → ¬ x = k2 → W p l e R s m args below meth c H locs cells slots Q (F0 m t3 ls rest)) : W p l e R s m args below meth c H locs cells slots Q (F0 m pc ls (.int x :: rest)) := by
  have hp : ((#[(a1, o1), (a2, o2)] : Array (Int × Int)).toList.zip ((#[(a1, o1), (a2, o2)] : Array (Int × Int)).toList.drop 1)).all (fun (a, next) => a.1 < next.1) = true := by simp [h3]
  by_cases e1 : x = k1
  · exact lv_lookup C0.1 C0.2.1 hdg hp (off := o1) (by rw [e1, h1]; simp [Op.lookupswitch.offset]) g1 (ka e1)
  · by_cases e2 : x = k2
    · exact lv_lookup C0.1 C0.2.1 hdg hp (off := o2) (by show Op.lookupswitch.offset [(a1, o1), (a2, o2)] dflt x.toInt = _; rw [lv_osw e1 h1, e2, h2]; simp [Op.lookupswitch.offset]) g2 (kb e1 e2)
    · exact lv_lookup C0.1 C0.2.1 hdg hp (off := dflt) (by show Op.lookupswitch.offset [(a1, o1), (a2, o2)] dflt x.toInt = _; rw [lv_osw e1 h1, lv_osw e2 h2]; simp [Op.lookupswitch.offset]) g3 (kc e1 e2)
/-- a static table -/
theorem sr_gst {C n d : String} {v : Value} {index : Nat} (C0 : CallFix p m c cc nL s args sr_ws own) (hZ : va_Z C n d v A s s.heap) (hS : va_S A s.heap H locs) (hlink : Cond.fieldLink own index C n d ∈ sr_ws) (hdg : decode cc pc = .ok (.getstatic index, 3))
    (kk : W p l e R s m args below meth c H locs cells slots Q (F0 m (pc + 3) ls (v :: rest))) : W p l e R s m args below meth c H locs cells slots Q (F0 m pc ls rest) :=
  va_gets C0.1 C0.2.1 hZ hS C0.2.2.2.1 (C0.2.2.2.2 _ hlink) (fun _ h => h) hdg kk
theorem sr_tld {t n k : Nat} {f : Nat → Int32} (C0 : CallFix p m c cc nL s args sr_ws own) (hT : va_T .int t n (fun j => .int (f j)) A s s.heap) (hS : va_S A s.heap H locs) {i : Int32} (hk : i.toNatClampNeg = k) (hin : vp_in i n) (hdg : decode cc pc = .ok (.iaload, 1))
    (kk : W p l e R s m args below meth c H locs cells slots Q (F0 m (pc + 1) ls (.int (f k) :: rest))) : W p l e R s m args below meth c H locs cells slots Q (F0 m pc ls (.int i :: .ref t :: rest)) :=
  va_ti C0.1 C0.2.1 hT hS hin (by rw [hk]) hdg kk
end SRX
