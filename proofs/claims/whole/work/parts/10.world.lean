/-! THE TWO WORLDS: kp: what both sides keep alike (0 text, 1 who runs, 2 rules, 3 marks, 4 slips, 5 length and finding); cx: what one side keeps for itself; sg: its scratch -/
def sr_o (a : Nat → Nat) (b n : Nat) : Nat → Option Nat := fun i => if i < n then some (a (b + i)) else none
def sr_WC (cI cR : ClassId) (a : Nat → Nat) (kp cx sg : sr_M) : va_W := [(a 0, .inr (7, [.ref (a 1), .ref (a 2), .ref (a 3), .ref (a 4), .ref (a 5), .ref (a 6), .ref (a 7)])), (a 1, .inr (4, [.ref (a 8), .ref (a 9), .ref (a 10), .ref (a 11), .ref (a 12), .int (kp 5 0), .int (cx 4 0), .int (cx 4 1)])), (a 2, .inr (6, [.ref (a 1), .ref (a 13), .ref (a 14)])), (a 3, .inr (3, [.ref (a 1), .ref (a 2), .ref (a 15), .ref (a 16), .ref (a 17)])), (a 4, .inr (1, [.ref (a 2), .ref (a 3), .ref (a 18)])), (a 5, .inr (2, [.ref (a 1), .ref (a 2), .ref (a 19), .ref (a 23), .ref (a 27)])), (a 6, .inr (0, [.ref (a 28), .int (sg 9 0)])), (a 7, .inr (5, [.ref (a 29), .ref (a 34), .ref (a 35), .int (kp 5 1)])), (a 8, .inl (cI, 40, .inl (kp 0))), (a 9, .inl (cI, 5, .inl (cx 0))), (a 10, .inl (cI, 5, .inl (cx 1))), (a 11, .inl (cI, 5, .inl (cx 2))), (a 12, .inl (cI, 5, .inl (cx 3))), (a 13, .inl (cI, 7, .inl (kp 2))), (a 14, .inl (cI, 4, .inl (cx 5))), (a 15, .inl (cI, 4, .inl (kp 1))), (a 16, .inl (cI, 3, .inl (kp 3))), (a 17, .inl (cI, 3, .inl (kp 4))), (a 18, .inl (cI, 5, .inl (sg 0))), (a 19, .inl (cR, 3, .inr (.inr (.inr (.inr (sr_o a 20 3)))))), (a 20, .inl (cI, 25, .inl (sg 1))), (a 21, .inl (cI, 25, .inl (sg 2))), (a 22, .inl (cI, 25, .inl (sg 3))), (a 23, .inl (cR, 3, .inr (.inr (.inr (.inr (sr_o a 24 3)))))), (a 24, .inl (cI, 25, .inl (sg 4))), (a 25, .inl (cI, 25, .inl (sg 5))), (a 26, .inl (cI, 25, .inl (sg 6))), (a 27, .inl (cI, 8, .inl (sg 7))), (a 28, .inl (cI, 3, .inl (sg 8))), (a 29, .inl (cR, 4, .inr (.inr (.inr (.inr (sr_o a 30 4)))))), (a 30, .inl (cI, 60, .inl (cx 6))), (a 31, .inl (cI, 60, .inl (cx 7))), (a 32, .inl (cI, 60, .inl (cx 8))), (a 33, .inl (cI, 60, .inl (cx 9))), (a 34, .inl (cI, 4, .inl (cx 10))), (a 35, .inl (cI, 4, .inl (cx 11)))]
def sr_AC (a : Nat → Nat) : Nat → Prop := fun q => ∃ k, k < 36 ∧ q = a k
theorem sr_wC0 {cI cR : ClassId} {a : Nat → Nat} {kp cx sg : sr_M} : (sr_WC cI cR a kp cx sg)[0]? = some (a 0, .inr (7, [.ref (a 1), .ref (a 2), .ref (a 3), .ref (a 4), .ref (a 5), .ref (a 6), .ref (a 7)])) := rfl
theorem sr_wC1 {cI cR : ClassId} {a : Nat → Nat} {kp cx sg : sr_M} : (sr_WC cI cR a kp cx sg)[1]? = some (a 1, .inr (4, [.ref (a 8), .ref (a 9), .ref (a 10), .ref (a 11), .ref (a 12), .int (kp 5 0), .int (cx 4 0), .int (cx 4 1)])) := rfl
theorem sr_wC2 {cI cR : ClassId} {a : Nat → Nat} {kp cx sg : sr_M} : (sr_WC cI cR a kp cx sg)[2]? = some (a 2, .inr (6, [.ref (a 1), .ref (a 13), .ref (a 14)])) := rfl
theorem sr_wC3 {cI cR : ClassId} {a : Nat → Nat} {kp cx sg : sr_M} : (sr_WC cI cR a kp cx sg)[3]? = some (a 3, .inr (3, [.ref (a 1), .ref (a 2), .ref (a 15), .ref (a 16), .ref (a 17)])) := rfl
theorem sr_wC4 {cI cR : ClassId} {a : Nat → Nat} {kp cx sg : sr_M} : (sr_WC cI cR a kp cx sg)[4]? = some (a 4, .inr (1, [.ref (a 2), .ref (a 3), .ref (a 18)])) := rfl
theorem sr_wC5 {cI cR : ClassId} {a : Nat → Nat} {kp cx sg : sr_M} : (sr_WC cI cR a kp cx sg)[5]? = some (a 5, .inr (2, [.ref (a 1), .ref (a 2), .ref (a 19), .ref (a 23), .ref (a 27)])) := rfl
theorem sr_wC6 {cI cR : ClassId} {a : Nat → Nat} {kp cx sg : sr_M} : (sr_WC cI cR a kp cx sg)[6]? = some (a 6, .inr (0, [.ref (a 28), .int (sg 9 0)])) := rfl
theorem sr_wC7 {cI cR : ClassId} {a : Nat → Nat} {kp cx sg : sr_M} : (sr_WC cI cR a kp cx sg)[7]? = some (a 7, .inr (5, [.ref (a 29), .ref (a 34), .ref (a 35), .int (kp 5 1)])) := rfl
theorem sr_wC8 {cI cR : ClassId} {a : Nat → Nat} {kp cx sg : sr_M} : (sr_WC cI cR a kp cx sg)[8]? = some (a 8, .inl (cI, 40, .inl (kp 0))) := rfl
theorem sr_wC9 {cI cR : ClassId} {a : Nat → Nat} {kp cx sg : sr_M} : (sr_WC cI cR a kp cx sg)[9]? = some (a 9, .inl (cI, 5, .inl (cx 0))) := rfl
theorem sr_wC10 {cI cR : ClassId} {a : Nat → Nat} {kp cx sg : sr_M} : (sr_WC cI cR a kp cx sg)[10]? = some (a 10, .inl (cI, 5, .inl (cx 1))) := rfl
theorem sr_wC11 {cI cR : ClassId} {a : Nat → Nat} {kp cx sg : sr_M} : (sr_WC cI cR a kp cx sg)[11]? = some (a 11, .inl (cI, 5, .inl (cx 2))) := rfl
theorem sr_wC12 {cI cR : ClassId} {a : Nat → Nat} {kp cx sg : sr_M} : (sr_WC cI cR a kp cx sg)[12]? = some (a 12, .inl (cI, 5, .inl (cx 3))) := rfl
theorem sr_wC13 {cI cR : ClassId} {a : Nat → Nat} {kp cx sg : sr_M} : (sr_WC cI cR a kp cx sg)[13]? = some (a 13, .inl (cI, 7, .inl (kp 2))) := rfl
theorem sr_wC14 {cI cR : ClassId} {a : Nat → Nat} {kp cx sg : sr_M} : (sr_WC cI cR a kp cx sg)[14]? = some (a 14, .inl (cI, 4, .inl (cx 5))) := rfl
theorem sr_wC15 {cI cR : ClassId} {a : Nat → Nat} {kp cx sg : sr_M} : (sr_WC cI cR a kp cx sg)[15]? = some (a 15, .inl (cI, 4, .inl (kp 1))) := rfl
theorem sr_wC16 {cI cR : ClassId} {a : Nat → Nat} {kp cx sg : sr_M} : (sr_WC cI cR a kp cx sg)[16]? = some (a 16, .inl (cI, 3, .inl (kp 3))) := rfl
theorem sr_wC17 {cI cR : ClassId} {a : Nat → Nat} {kp cx sg : sr_M} : (sr_WC cI cR a kp cx sg)[17]? = some (a 17, .inl (cI, 3, .inl (kp 4))) := rfl
theorem sr_wC18 {cI cR : ClassId} {a : Nat → Nat} {kp cx sg : sr_M} : (sr_WC cI cR a kp cx sg)[18]? = some (a 18, .inl (cI, 5, .inl (sg 0))) := rfl
theorem sr_wC19 {cI cR : ClassId} {a : Nat → Nat} {kp cx sg : sr_M} : (sr_WC cI cR a kp cx sg)[19]? = some (a 19, .inl (cR, 3, .inr (.inr (.inr (.inr (sr_o a 20 3)))))) := rfl
theorem sr_wC20 {cI cR : ClassId} {a : Nat → Nat} {kp cx sg : sr_M} : (sr_WC cI cR a kp cx sg)[20]? = some (a 20, .inl (cI, 25, .inl (sg 1))) := rfl
theorem sr_wC21 {cI cR : ClassId} {a : Nat → Nat} {kp cx sg : sr_M} : (sr_WC cI cR a kp cx sg)[21]? = some (a 21, .inl (cI, 25, .inl (sg 2))) := rfl
theorem sr_wC22 {cI cR : ClassId} {a : Nat → Nat} {kp cx sg : sr_M} : (sr_WC cI cR a kp cx sg)[22]? = some (a 22, .inl (cI, 25, .inl (sg 3))) := rfl
theorem sr_wC23 {cI cR : ClassId} {a : Nat → Nat} {kp cx sg : sr_M} : (sr_WC cI cR a kp cx sg)[23]? = some (a 23, .inl (cR, 3, .inr (.inr (.inr (.inr (sr_o a 24 3)))))) := rfl
theorem sr_wC24 {cI cR : ClassId} {a : Nat → Nat} {kp cx sg : sr_M} : (sr_WC cI cR a kp cx sg)[24]? = some (a 24, .inl (cI, 25, .inl (sg 4))) := rfl
theorem sr_wC25 {cI cR : ClassId} {a : Nat → Nat} {kp cx sg : sr_M} : (sr_WC cI cR a kp cx sg)[25]? = some (a 25, .inl (cI, 25, .inl (sg 5))) := rfl
theorem sr_wC26 {cI cR : ClassId} {a : Nat → Nat} {kp cx sg : sr_M} : (sr_WC cI cR a kp cx sg)[26]? = some (a 26, .inl (cI, 25, .inl (sg 6))) := rfl
theorem sr_wC27 {cI cR : ClassId} {a : Nat → Nat} {kp cx sg : sr_M} : (sr_WC cI cR a kp cx sg)[27]? = some (a 27, .inl (cI, 8, .inl (sg 7))) := rfl
theorem sr_wC28 {cI cR : ClassId} {a : Nat → Nat} {kp cx sg : sr_M} : (sr_WC cI cR a kp cx sg)[28]? = some (a 28, .inl (cI, 3, .inl (sg 8))) := rfl
theorem sr_wC29 {cI cR : ClassId} {a : Nat → Nat} {kp cx sg : sr_M} : (sr_WC cI cR a kp cx sg)[29]? = some (a 29, .inl (cR, 4, .inr (.inr (.inr (.inr (sr_o a 30 4)))))) := rfl
theorem sr_wC30 {cI cR : ClassId} {a : Nat → Nat} {kp cx sg : sr_M} : (sr_WC cI cR a kp cx sg)[30]? = some (a 30, .inl (cI, 60, .inl (cx 6))) := rfl
theorem sr_wC31 {cI cR : ClassId} {a : Nat → Nat} {kp cx sg : sr_M} : (sr_WC cI cR a kp cx sg)[31]? = some (a 31, .inl (cI, 60, .inl (cx 7))) := rfl
theorem sr_wC32 {cI cR : ClassId} {a : Nat → Nat} {kp cx sg : sr_M} : (sr_WC cI cR a kp cx sg)[32]? = some (a 32, .inl (cI, 60, .inl (cx 8))) := rfl
theorem sr_wC33 {cI cR : ClassId} {a : Nat → Nat} {kp cx sg : sr_M} : (sr_WC cI cR a kp cx sg)[33]? = some (a 33, .inl (cI, 60, .inl (cx 9))) := rfl
theorem sr_wC34 {cI cR : ClassId} {a : Nat → Nat} {kp cx sg : sr_M} : (sr_WC cI cR a kp cx sg)[34]? = some (a 34, .inl (cI, 4, .inl (cx 10))) := rfl
theorem sr_wC35 {cI cR : ClassId} {a : Nat → Nat} {kp cx sg : sr_M} : (sr_WC cI cR a kp cx sg)[35]? = some (a 35, .inl (cI, 4, .inl (cx 11))) := rfl
theorem sr_sC8 {cI cR : ClassId} {a : Nat → Nat} {kp cx sg : sr_M} {f : Nat → Int32} : (sr_WC cI cR a kp cx sg).set 8 (a 8, .inl (cI, 40, .inl f)) = sr_WC cI cR a (va_up kp 0 f) cx sg := rfl
theorem sr_sC9 {cI cR : ClassId} {a : Nat → Nat} {kp cx sg : sr_M} {f : Nat → Int32} : (sr_WC cI cR a kp cx sg).set 9 (a 9, .inl (cI, 5, .inl f)) = sr_WC cI cR a kp (va_up cx 0 f) sg := rfl
theorem sr_sC10 {cI cR : ClassId} {a : Nat → Nat} {kp cx sg : sr_M} {f : Nat → Int32} : (sr_WC cI cR a kp cx sg).set 10 (a 10, .inl (cI, 5, .inl f)) = sr_WC cI cR a kp (va_up cx 1 f) sg := rfl
theorem sr_sC11 {cI cR : ClassId} {a : Nat → Nat} {kp cx sg : sr_M} {f : Nat → Int32} : (sr_WC cI cR a kp cx sg).set 11 (a 11, .inl (cI, 5, .inl f)) = sr_WC cI cR a kp (va_up cx 2 f) sg := rfl
theorem sr_sC12 {cI cR : ClassId} {a : Nat → Nat} {kp cx sg : sr_M} {f : Nat → Int32} : (sr_WC cI cR a kp cx sg).set 12 (a 12, .inl (cI, 5, .inl f)) = sr_WC cI cR a kp (va_up cx 3 f) sg := rfl
theorem sr_sC13 {cI cR : ClassId} {a : Nat → Nat} {kp cx sg : sr_M} {f : Nat → Int32} : (sr_WC cI cR a kp cx sg).set 13 (a 13, .inl (cI, 7, .inl f)) = sr_WC cI cR a (va_up kp 2 f) cx sg := rfl
theorem sr_sC14 {cI cR : ClassId} {a : Nat → Nat} {kp cx sg : sr_M} {f : Nat → Int32} : (sr_WC cI cR a kp cx sg).set 14 (a 14, .inl (cI, 4, .inl f)) = sr_WC cI cR a kp (va_up cx 5 f) sg := rfl
theorem sr_sC15 {cI cR : ClassId} {a : Nat → Nat} {kp cx sg : sr_M} {f : Nat → Int32} : (sr_WC cI cR a kp cx sg).set 15 (a 15, .inl (cI, 4, .inl f)) = sr_WC cI cR a (va_up kp 1 f) cx sg := rfl
theorem sr_sC16 {cI cR : ClassId} {a : Nat → Nat} {kp cx sg : sr_M} {f : Nat → Int32} : (sr_WC cI cR a kp cx sg).set 16 (a 16, .inl (cI, 3, .inl f)) = sr_WC cI cR a (va_up kp 3 f) cx sg := rfl
theorem sr_sC17 {cI cR : ClassId} {a : Nat → Nat} {kp cx sg : sr_M} {f : Nat → Int32} : (sr_WC cI cR a kp cx sg).set 17 (a 17, .inl (cI, 3, .inl f)) = sr_WC cI cR a (va_up kp 4 f) cx sg := rfl
theorem sr_sC18 {cI cR : ClassId} {a : Nat → Nat} {kp cx sg : sr_M} {f : Nat → Int32} : (sr_WC cI cR a kp cx sg).set 18 (a 18, .inl (cI, 5, .inl f)) = sr_WC cI cR a kp cx (va_up sg 0 f) := rfl
theorem sr_sC20 {cI cR : ClassId} {a : Nat → Nat} {kp cx sg : sr_M} {f : Nat → Int32} : (sr_WC cI cR a kp cx sg).set 20 (a 20, .inl (cI, 25, .inl f)) = sr_WC cI cR a kp cx (va_up sg 1 f) := rfl
theorem sr_sC21 {cI cR : ClassId} {a : Nat → Nat} {kp cx sg : sr_M} {f : Nat → Int32} : (sr_WC cI cR a kp cx sg).set 21 (a 21, .inl (cI, 25, .inl f)) = sr_WC cI cR a kp cx (va_up sg 2 f) := rfl
theorem sr_sC22 {cI cR : ClassId} {a : Nat → Nat} {kp cx sg : sr_M} {f : Nat → Int32} : (sr_WC cI cR a kp cx sg).set 22 (a 22, .inl (cI, 25, .inl f)) = sr_WC cI cR a kp cx (va_up sg 3 f) := rfl
theorem sr_sC24 {cI cR : ClassId} {a : Nat → Nat} {kp cx sg : sr_M} {f : Nat → Int32} : (sr_WC cI cR a kp cx sg).set 24 (a 24, .inl (cI, 25, .inl f)) = sr_WC cI cR a kp cx (va_up sg 4 f) := rfl
theorem sr_sC25 {cI cR : ClassId} {a : Nat → Nat} {kp cx sg : sr_M} {f : Nat → Int32} : (sr_WC cI cR a kp cx sg).set 25 (a 25, .inl (cI, 25, .inl f)) = sr_WC cI cR a kp cx (va_up sg 5 f) := rfl
theorem sr_sC26 {cI cR : ClassId} {a : Nat → Nat} {kp cx sg : sr_M} {f : Nat → Int32} : (sr_WC cI cR a kp cx sg).set 26 (a 26, .inl (cI, 25, .inl f)) = sr_WC cI cR a kp cx (va_up sg 6 f) := rfl
theorem sr_sC27 {cI cR : ClassId} {a : Nat → Nat} {kp cx sg : sr_M} {f : Nat → Int32} : (sr_WC cI cR a kp cx sg).set 27 (a 27, .inl (cI, 8, .inl f)) = sr_WC cI cR a kp cx (va_up sg 7 f) := rfl
theorem sr_sC28 {cI cR : ClassId} {a : Nat → Nat} {kp cx sg : sr_M} {f : Nat → Int32} : (sr_WC cI cR a kp cx sg).set 28 (a 28, .inl (cI, 3, .inl f)) = sr_WC cI cR a kp cx (va_up sg 8 f) := rfl
theorem sr_sC30 {cI cR : ClassId} {a : Nat → Nat} {kp cx sg : sr_M} {f : Nat → Int32} : (sr_WC cI cR a kp cx sg).set 30 (a 30, .inl (cI, 60, .inl f)) = sr_WC cI cR a kp (va_up cx 6 f) sg := rfl
theorem sr_sC31 {cI cR : ClassId} {a : Nat → Nat} {kp cx sg : sr_M} {f : Nat → Int32} : (sr_WC cI cR a kp cx sg).set 31 (a 31, .inl (cI, 60, .inl f)) = sr_WC cI cR a kp (va_up cx 7 f) sg := rfl
theorem sr_sC32 {cI cR : ClassId} {a : Nat → Nat} {kp cx sg : sr_M} {f : Nat → Int32} : (sr_WC cI cR a kp cx sg).set 32 (a 32, .inl (cI, 60, .inl f)) = sr_WC cI cR a kp (va_up cx 8 f) sg := rfl
theorem sr_sC33 {cI cR : ClassId} {a : Nat → Nat} {kp cx sg : sr_M} {f : Nat → Int32} : (sr_WC cI cR a kp cx sg).set 33 (a 33, .inl (cI, 60, .inl f)) = sr_WC cI cR a kp (va_up cx 9 f) sg := rfl
theorem sr_sC34 {cI cR : ClassId} {a : Nat → Nat} {kp cx sg : sr_M} {f : Nat → Int32} : (sr_WC cI cR a kp cx sg).set 34 (a 34, .inl (cI, 4, .inl f)) = sr_WC cI cR a kp (va_up cx 10 f) sg := rfl
theorem sr_sC35 {cI cR : ClassId} {a : Nat → Nat} {kp cx sg : sr_M} {f : Nat → Int32} : (sr_WC cI cR a kp cx sg).set 35 (a 35, .inl (cI, 4, .inl f)) = sr_WC cI cR a kp (va_up cx 11 f) sg := rfl
theorem sr_fC1_5 {cI cR : ClassId} {a : Nat → Nat} {kp cx sg : sr_M} {x : Int32} : (sr_WC cI cR a kp cx sg).set 1 (a 1, .inr (4, ([.ref (a 8), .ref (a 9), .ref (a 10), .ref (a 11), .ref (a 12), .int (kp 5 0), .int (cx 4 0), .int (cx 4 1)] : List Value).set 5 (.int x))) = sr_WC cI cR a (va_up kp 5 (upd (kp 5) 0 x)) cx sg := rfl
theorem sr_fC1_6 {cI cR : ClassId} {a : Nat → Nat} {kp cx sg : sr_M} {x : Int32} : (sr_WC cI cR a kp cx sg).set 1 (a 1, .inr (4, ([.ref (a 8), .ref (a 9), .ref (a 10), .ref (a 11), .ref (a 12), .int (kp 5 0), .int (cx 4 0), .int (cx 4 1)] : List Value).set 6 (.int x))) = sr_WC cI cR a kp (va_up cx 4 (upd (cx 4) 0 x)) sg := rfl
theorem sr_fC1_7 {cI cR : ClassId} {a : Nat → Nat} {kp cx sg : sr_M} {x : Int32} : (sr_WC cI cR a kp cx sg).set 1 (a 1, .inr (4, ([.ref (a 8), .ref (a 9), .ref (a 10), .ref (a 11), .ref (a 12), .int (kp 5 0), .int (cx 4 0), .int (cx 4 1)] : List Value).set 7 (.int x))) = sr_WC cI cR a kp (va_up cx 4 (upd (cx 4) 1 x)) sg := rfl
theorem sr_fC6_1 {cI cR : ClassId} {a : Nat → Nat} {kp cx sg : sr_M} {x : Int32} : (sr_WC cI cR a kp cx sg).set 6 (a 6, .inr (0, ([.ref (a 28), .int (sg 9 0)] : List Value).set 1 (.int x))) = sr_WC cI cR a kp cx (va_up sg 9 (upd (sg 9) 0 x)) := rfl
theorem sr_fC7_3 {cI cR : ClassId} {a : Nat → Nat} {kp cx sg : sr_M} {x : Int32} : (sr_WC cI cR a kp cx sg).set 7 (a 7, .inr (5, ([.ref (a 29), .ref (a 34), .ref (a 35), .int (kp 5 1)] : List Value).set 3 (.int x))) = sr_WC cI cR a (va_up kp 5 (upd (kp 5) 1 x)) cx sg := rfl
theorem sr_adC {cI cR : ClassId} {a : Nat → Nat} {kp cx sg : sr_M} {k : Nat} {q : Nat × va_E} (h : (sr_WC cI cR a kp cx sg)[k]? = some q) : k < 36 ∧ q.1 = a k := by
  have hk : k < 36 := (List.getElem?_eq_some_iff.mp h).1
  refine ⟨hk, ?_⟩
  rcases (show k = 0 ∨ k = 1 ∨ k = 2 ∨ k = 3 ∨ k = 4 ∨ k = 5 ∨ k = 6 ∨ k = 7 ∨ k = 8 ∨ k = 9 ∨ k = 10 ∨ k = 11 ∨ k = 12 ∨ k = 13 ∨ k = 14 ∨ k = 15 ∨ k = 16 ∨ k = 17 ∨ k = 18 ∨ k = 19 ∨ k = 20 ∨ k = 21 ∨ k = 22 ∨ k = 23 ∨ k = 24 ∨ k = 25 ∨ k = 26 ∨ k = 27 ∨ k = 28 ∨ k = 29 ∨ k = 30 ∨ k = 31 ∨ k = 32 ∨ k = 33 ∨ k = 34 ∨ k = 35 by omega) with rfl | rfl | rfl | rfl | rfl | rfl | rfl | rfl | rfl | rfl | rfl | rfl | rfl | rfl | rfl | rfl | rfl | rfl | rfl | rfl | rfl | rfl | rfl | rfl | rfl | rfl | rfl | rfl | rfl | rfl | rfl | rfl | rfl | rfl | rfl | rfl <;> (cases h; rfl)
theorem sr_DC {cI cR : ClassId} {a : Nat → Nat} (ha : ∀ i j, i < 36 → j < 36 → a i = a j → i = j) (kp cx sg : sr_M) : va_D (sr_AC a) (sr_WC cI cR a kp cx sg) := by
  refine ⟨fun i j x y hx hy hxy => ?_, fun k q hk => ?_⟩
  · obtain ⟨h1, h2⟩ := sr_adC hx
    obtain ⟨h3, h4⟩ := sr_adC hy
    exact ha i j h1 h3 (by rw [← h2, ← h4]; exact hxy)
  · obtain ⟨h1, h2⟩ := sr_adC hk
    exact ⟨k, h1, h2⟩
def sr_WM (cI : ClassId) (a : Nat → Nat) (kp cx sg : sr_M) : va_W := [(a 0, .inr (8, [.ref (a 1), .ref (a 2), .ref (a 3), .ref (a 4), .int (kp 5 1), .ref (a 5), .int (kp 5 0), .int (sg 1 0), .int (sg 1 1), .ref (a 6), .ref (a 7), .ref (a 8), .ref (a 9), .ref (a 10), .ref (a 11), .ref (a 12), .int (sg 1 2)])), (a 1, .inl (cI, 4, .inl (cx 0))), (a 2, .inl (cI, 4, .inl (cx 1))), (a 3, .inl (cI, 240, .inl (cx 2))), (a 4, .inl (cI, 60, .inl (sg 0))), (a 5, .inl (cI, 40, .inl (kp 0))), (a 6, .inl (cI, 20, .inl (sg 2))), (a 7, .inl (cI, 4, .inl (kp 1))), (a 8, .inl (cI, 7, .inl (kp 2))), (a 9, .inl (cI, 3, .inl (kp 3))), (a 10, .inl (cI, 3, .inl (kp 4))), (a 11, .inl (cI, 8, .inl (sg 3))), (a 12, .inl (cI, 8, .inl (sg 4)))]
def sr_AM (a : Nat → Nat) : Nat → Prop := fun q => ∃ k, k < 13 ∧ q = a k
theorem sr_wM0 {cI : ClassId} {a : Nat → Nat} {kp cx sg : sr_M} : (sr_WM cI a kp cx sg)[0]? = some (a 0, .inr (8, [.ref (a 1), .ref (a 2), .ref (a 3), .ref (a 4), .int (kp 5 1), .ref (a 5), .int (kp 5 0), .int (sg 1 0), .int (sg 1 1), .ref (a 6), .ref (a 7), .ref (a 8), .ref (a 9), .ref (a 10), .ref (a 11), .ref (a 12), .int (sg 1 2)])) := rfl
theorem sr_wM1 {cI : ClassId} {a : Nat → Nat} {kp cx sg : sr_M} : (sr_WM cI a kp cx sg)[1]? = some (a 1, .inl (cI, 4, .inl (cx 0))) := rfl
theorem sr_wM2 {cI : ClassId} {a : Nat → Nat} {kp cx sg : sr_M} : (sr_WM cI a kp cx sg)[2]? = some (a 2, .inl (cI, 4, .inl (cx 1))) := rfl
theorem sr_wM3 {cI : ClassId} {a : Nat → Nat} {kp cx sg : sr_M} : (sr_WM cI a kp cx sg)[3]? = some (a 3, .inl (cI, 240, .inl (cx 2))) := rfl
theorem sr_wM4 {cI : ClassId} {a : Nat → Nat} {kp cx sg : sr_M} : (sr_WM cI a kp cx sg)[4]? = some (a 4, .inl (cI, 60, .inl (sg 0))) := rfl
theorem sr_wM5 {cI : ClassId} {a : Nat → Nat} {kp cx sg : sr_M} : (sr_WM cI a kp cx sg)[5]? = some (a 5, .inl (cI, 40, .inl (kp 0))) := rfl
theorem sr_wM6 {cI : ClassId} {a : Nat → Nat} {kp cx sg : sr_M} : (sr_WM cI a kp cx sg)[6]? = some (a 6, .inl (cI, 20, .inl (sg 2))) := rfl
theorem sr_wM7 {cI : ClassId} {a : Nat → Nat} {kp cx sg : sr_M} : (sr_WM cI a kp cx sg)[7]? = some (a 7, .inl (cI, 4, .inl (kp 1))) := rfl
theorem sr_wM8 {cI : ClassId} {a : Nat → Nat} {kp cx sg : sr_M} : (sr_WM cI a kp cx sg)[8]? = some (a 8, .inl (cI, 7, .inl (kp 2))) := rfl
theorem sr_wM9 {cI : ClassId} {a : Nat → Nat} {kp cx sg : sr_M} : (sr_WM cI a kp cx sg)[9]? = some (a 9, .inl (cI, 3, .inl (kp 3))) := rfl
theorem sr_wM10 {cI : ClassId} {a : Nat → Nat} {kp cx sg : sr_M} : (sr_WM cI a kp cx sg)[10]? = some (a 10, .inl (cI, 3, .inl (kp 4))) := rfl
theorem sr_wM11 {cI : ClassId} {a : Nat → Nat} {kp cx sg : sr_M} : (sr_WM cI a kp cx sg)[11]? = some (a 11, .inl (cI, 8, .inl (sg 3))) := rfl
theorem sr_wM12 {cI : ClassId} {a : Nat → Nat} {kp cx sg : sr_M} : (sr_WM cI a kp cx sg)[12]? = some (a 12, .inl (cI, 8, .inl (sg 4))) := rfl
theorem sr_sM1 {cI : ClassId} {a : Nat → Nat} {kp cx sg : sr_M} {f : Nat → Int32} : (sr_WM cI a kp cx sg).set 1 (a 1, .inl (cI, 4, .inl f)) = sr_WM cI a kp (va_up cx 0 f) sg := rfl
theorem sr_sM2 {cI : ClassId} {a : Nat → Nat} {kp cx sg : sr_M} {f : Nat → Int32} : (sr_WM cI a kp cx sg).set 2 (a 2, .inl (cI, 4, .inl f)) = sr_WM cI a kp (va_up cx 1 f) sg := rfl
theorem sr_sM3 {cI : ClassId} {a : Nat → Nat} {kp cx sg : sr_M} {f : Nat → Int32} : (sr_WM cI a kp cx sg).set 3 (a 3, .inl (cI, 240, .inl f)) = sr_WM cI a kp (va_up cx 2 f) sg := rfl
theorem sr_sM4 {cI : ClassId} {a : Nat → Nat} {kp cx sg : sr_M} {f : Nat → Int32} : (sr_WM cI a kp cx sg).set 4 (a 4, .inl (cI, 60, .inl f)) = sr_WM cI a kp cx (va_up sg 0 f) := rfl
theorem sr_sM5 {cI : ClassId} {a : Nat → Nat} {kp cx sg : sr_M} {f : Nat → Int32} : (sr_WM cI a kp cx sg).set 5 (a 5, .inl (cI, 40, .inl f)) = sr_WM cI a (va_up kp 0 f) cx sg := rfl
theorem sr_sM6 {cI : ClassId} {a : Nat → Nat} {kp cx sg : sr_M} {f : Nat → Int32} : (sr_WM cI a kp cx sg).set 6 (a 6, .inl (cI, 20, .inl f)) = sr_WM cI a kp cx (va_up sg 2 f) := rfl
theorem sr_sM7 {cI : ClassId} {a : Nat → Nat} {kp cx sg : sr_M} {f : Nat → Int32} : (sr_WM cI a kp cx sg).set 7 (a 7, .inl (cI, 4, .inl f)) = sr_WM cI a (va_up kp 1 f) cx sg := rfl
theorem sr_sM8 {cI : ClassId} {a : Nat → Nat} {kp cx sg : sr_M} {f : Nat → Int32} : (sr_WM cI a kp cx sg).set 8 (a 8, .inl (cI, 7, .inl f)) = sr_WM cI a (va_up kp 2 f) cx sg := rfl
theorem sr_sM9 {cI : ClassId} {a : Nat → Nat} {kp cx sg : sr_M} {f : Nat → Int32} : (sr_WM cI a kp cx sg).set 9 (a 9, .inl (cI, 3, .inl f)) = sr_WM cI a (va_up kp 3 f) cx sg := rfl
theorem sr_sM10 {cI : ClassId} {a : Nat → Nat} {kp cx sg : sr_M} {f : Nat → Int32} : (sr_WM cI a kp cx sg).set 10 (a 10, .inl (cI, 3, .inl f)) = sr_WM cI a (va_up kp 4 f) cx sg := rfl
theorem sr_sM11 {cI : ClassId} {a : Nat → Nat} {kp cx sg : sr_M} {f : Nat → Int32} : (sr_WM cI a kp cx sg).set 11 (a 11, .inl (cI, 8, .inl f)) = sr_WM cI a kp cx (va_up sg 3 f) := rfl
theorem sr_sM12 {cI : ClassId} {a : Nat → Nat} {kp cx sg : sr_M} {f : Nat → Int32} : (sr_WM cI a kp cx sg).set 12 (a 12, .inl (cI, 8, .inl f)) = sr_WM cI a kp cx (va_up sg 4 f) := rfl
theorem sr_fM0_4 {cI : ClassId} {a : Nat → Nat} {kp cx sg : sr_M} {x : Int32} : (sr_WM cI a kp cx sg).set 0 (a 0, .inr (8, ([.ref (a 1), .ref (a 2), .ref (a 3), .ref (a 4), .int (kp 5 1), .ref (a 5), .int (kp 5 0), .int (sg 1 0), .int (sg 1 1), .ref (a 6), .ref (a 7), .ref (a 8), .ref (a 9), .ref (a 10), .ref (a 11), .ref (a 12), .int (sg 1 2)] : List Value).set 4 (.int x))) = sr_WM cI a (va_up kp 5 (upd (kp 5) 1 x)) cx sg := rfl
theorem sr_fM0_6 {cI : ClassId} {a : Nat → Nat} {kp cx sg : sr_M} {x : Int32} : (sr_WM cI a kp cx sg).set 0 (a 0, .inr (8, ([.ref (a 1), .ref (a 2), .ref (a 3), .ref (a 4), .int (kp 5 1), .ref (a 5), .int (kp 5 0), .int (sg 1 0), .int (sg 1 1), .ref (a 6), .ref (a 7), .ref (a 8), .ref (a 9), .ref (a 10), .ref (a 11), .ref (a 12), .int (sg 1 2)] : List Value).set 6 (.int x))) = sr_WM cI a (va_up kp 5 (upd (kp 5) 0 x)) cx sg := rfl
theorem sr_fM0_7 {cI : ClassId} {a : Nat → Nat} {kp cx sg : sr_M} {x : Int32} : (sr_WM cI a kp cx sg).set 0 (a 0, .inr (8, ([.ref (a 1), .ref (a 2), .ref (a 3), .ref (a 4), .int (kp 5 1), .ref (a 5), .int (kp 5 0), .int (sg 1 0), .int (sg 1 1), .ref (a 6), .ref (a 7), .ref (a 8), .ref (a 9), .ref (a 10), .ref (a 11), .ref (a 12), .int (sg 1 2)] : List Value).set 7 (.int x))) = sr_WM cI a kp cx (va_up sg 1 (upd (sg 1) 0 x)) := rfl
theorem sr_fM0_8 {cI : ClassId} {a : Nat → Nat} {kp cx sg : sr_M} {x : Int32} : (sr_WM cI a kp cx sg).set 0 (a 0, .inr (8, ([.ref (a 1), .ref (a 2), .ref (a 3), .ref (a 4), .int (kp 5 1), .ref (a 5), .int (kp 5 0), .int (sg 1 0), .int (sg 1 1), .ref (a 6), .ref (a 7), .ref (a 8), .ref (a 9), .ref (a 10), .ref (a 11), .ref (a 12), .int (sg 1 2)] : List Value).set 8 (.int x))) = sr_WM cI a kp cx (va_up sg 1 (upd (sg 1) 1 x)) := rfl
theorem sr_fM0_16 {cI : ClassId} {a : Nat → Nat} {kp cx sg : sr_M} {x : Int32} : (sr_WM cI a kp cx sg).set 0 (a 0, .inr (8, ([.ref (a 1), .ref (a 2), .ref (a 3), .ref (a 4), .int (kp 5 1), .ref (a 5), .int (kp 5 0), .int (sg 1 0), .int (sg 1 1), .ref (a 6), .ref (a 7), .ref (a 8), .ref (a 9), .ref (a 10), .ref (a 11), .ref (a 12), .int (sg 1 2)] : List Value).set 16 (.int x))) = sr_WM cI a kp cx (va_up sg 1 (upd (sg 1) 2 x)) := rfl
theorem sr_adM {cI : ClassId} {a : Nat → Nat} {kp cx sg : sr_M} {k : Nat} {q : Nat × va_E} (h : (sr_WM cI a kp cx sg)[k]? = some q) : k < 13 ∧ q.1 = a k := by
  have hk : k < 13 := (List.getElem?_eq_some_iff.mp h).1
  refine ⟨hk, ?_⟩
  rcases (show k = 0 ∨ k = 1 ∨ k = 2 ∨ k = 3 ∨ k = 4 ∨ k = 5 ∨ k = 6 ∨ k = 7 ∨ k = 8 ∨ k = 9 ∨ k = 10 ∨ k = 11 ∨ k = 12 by omega) with rfl | rfl | rfl | rfl | rfl | rfl | rfl | rfl | rfl | rfl | rfl | rfl | rfl <;> (cases h; rfl)
theorem sr_DM {cI : ClassId} {a : Nat → Nat} (ha : ∀ i j, i < 13 → j < 13 → a i = a j → i = j) (kp cx sg : sr_M) : va_D (sr_AM a) (sr_WM cI a kp cx sg) := by
  refine ⟨fun i j x y hx hy hxy => ?_, fun k q hk => ?_⟩
  · obtain ⟨h1, h2⟩ := sr_adM hx
    obtain ⟨h3, h4⟩ := sr_adM hy
    exact ha i j h1 h3 (by rw [← h2, ← h4]; exact hxy)
  · obtain ⟨h1, h2⟩ := sr_adM hk
    exact ⟨k, h1, h2⟩
abbrev sr_tC (cI cR : ClassId) : List (ClassId × FieldType) := [(cI, .int), (cR, .array .int)]
abbrev sr_tM (cI : ClassId) : List (ClassId × FieldType) := [(cI, .int)]
