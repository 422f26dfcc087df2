/-! THE DIGEST -/
def sr_31 (h : Int64) (x : Int32) : Int64 := 31 * h + x.toInt64
def sr_dk (kp : sr_M) (r : Nat) (h : Int64) : Int64 := sr_31 (sr_31 (sr_31 (sr_31 (sr_31 h (sr_fig kp r 0)) (sr_fig kp r 1)) (sr_fig kp r 2)) (sr_fig kp r 3)) (sr_T kp r 1 50)
def sr_dr (kp : sr_M) (h : Int64) : Nat → Int64
  | 0 => h
  | i + 1 => sr_dk kp i (sr_dr kp h i)
def sr_ds1 (kp : sr_M) (s : Int32) (h : Int64) : Int64 := sr_31 (sr_31 (sr_31 h (sp_when kp s 0)) (sp_when kp s 1)) (sp_carries kp s)
def sr_dc1 (kp : sr_M) (c : Int32) (h : Int64) : Int64 := sr_31 (sr_31 (sr_31 (sr_31 (sr_31 (sr_31 h (sp_meet kp c)) (sp_kind kp c)) (sp_chance kp c)) (sp_safe kp c 10)) (sp_best kp c)) (sp_blame kp c 5)
def sr_d0 (kp : sr_M) : Int64 := sr_31 (sr_31 (sr_31 (sr_31 (sr_31 (sr_31 (sr_31 (sr_31 17 (sp_count kp 0)) (sp_count kp 1)) (sp_count kp 2)) (sp_count kp 3)) (sp_count kp 4)) (sp_count kp 5)) (sp_count kp 6)) (sp_count kp 7)
def sr_d1 (kp : sr_M) : Int64 := sr_dr kp (sr_31 (sr_d0 kp) (sr_flt kp)) (sr_cnt kp)
def sr_d2 (kp : sr_M) : Int64 := sr_ds1 kp 3 (sr_ds1 kp 2 (sr_ds1 kp 1 (sr_ds1 kp 0 (sr_d1 kp))))
def sr_d3 (kp : sr_M) : Int64 := sr_dc1 kp 2 (sr_dc1 kp 1 (sr_dc1 kp 0 (sr_d2 kp)))
def sr_d4 (kp : sr_M) : Int64 := 31 * (31 * sr_31 (sr_d3 kp) (sp_time kp) + sp_all kp 0) + sp_all kp 1
def sr_d5 (kp : sr_M) : Int64 := sr_31 (sr_31 (sr_31 (sr_31 (sr_31 (sr_31 (sr_31 (sr_31 (sr_d4 kp) (sr_od kp (-1) 0)) (sr_od kp (-1) 1)) (sr_od kp (-1) 2)) (sr_od kp (-1) 3)) (sr_od kp (-1) 4)) (sr_od kp (-1) 5)) (sr_od kp (-1) 6)) (sr_od kp (-1) 7)
def sp_digest (kp : sr_M) : Int64 := sr_31 (sr_31 (sr_31 (sr_d5 kp) (sr_od kp 1 0)) (sp_lot kp 7)) (sp_races kp 7 10 5000)
theorem sr_rgn {n : Nat} (hn : n ≤ 5) {j : Nat} (hj : j < n) : ¬ (nI j < 0 ∨ nI n - 1 < nI j) := by
  rw [not_or, Int32.lt_iff_toInt_lt, Int32.lt_iff_toInt_lt, sr_subI (by rw [sr_nIi (by omega)]; show _ ≤ (n : Int) - 1; omega) (by rw [sr_nIi (by omega)]; show (n : Int) - 1 < _; omega), sr_nIi (by omega), sr_nIi (by omega)]
  have e1 : (1 : Int32).toInt = 1 := rfl
  have e0 : (0 : Int32).toInt = 0 := rfl
  omega
theorem sr_runner_i {kp : sr_M} {i : Nat} (hi : i < sr_cnt kp) {w : Nat} (hw : w < 4) : sp_runner kp (nI i) (nI w) = sr_fig kp i w := by
  have h5 := sr_cnt5 kp
  unfold sp_runner
  rw [if_neg (sr_rgn h5 hi), if_neg (by rw [not_or, Int32.lt_iff_toInt_lt, Int32.lt_iff_toInt_lt, sr_nIi (by omega)]; have e3 : (3 : Int32).toInt = 3 := rfl; have e0 : (0 : Int32).toInt = 0 := rfl; omega), nI_clamp (by omega), nI_clamp (by omega)]
theorem sr_takes_i {kp : sr_M} {i : Nat} (hi : i < sr_cnt kp) : sp_takes kp (nI i) 1 50 = sr_T kp i 1 50 := by
  have h5 := sr_cnt5 kp
  unfold sp_takes
  rw [if_neg (sr_rgn h5 hi), if_neg (by decide), if_neg (by decide), nI_clamp (by omega)]
  rfl
section SRN
variable {p : Program} {l : Launch} {e : Env} {R : Room} {s : State} {m : MethodId} {args : Array Value} {below : List Frame} {meth : Method} {c : Code} {H : Heap} {locs : List Loc} {cells slots : Nat} {Q : State → Prop} {pc : Nat} {ls : Array Slot} {rest : List Value}
theorem sr_nml {x : Int64} (k : ∀ y : Int64, y = x → W p l e R s m args below meth c H locs cells slots Q (F0 m pc ls (.long y :: rest))) : W p l e R s m args below meth c H locs cells slots Q (F0 m pc ls (.long x :: rest)) := k x rfl
end SRN
