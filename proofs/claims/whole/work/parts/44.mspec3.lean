theorem sr_ti_e (kp : sr_M) (f : Nat → Int32) (T b0 b1 b2 d0 d1 d2 : Int32) : ((((0 + d0 + d1 + d2) + T) + b0) + b1) + b2 = 0 + (d0 + b0) + (d1 + b1) + (d2 + b2) + T := by grind
theorem sr_sp0 (kp : sr_M) : (-2) * kp 2 6 = sr_sp kp 0 := by unfold sr_sp; rw [show nI 0 - 2 = (-2 : Int32) by decide]
theorem sr_sp1 (kp : sr_M) : (-1) * kp 2 6 = sr_sp kp 1 := by unfold sr_sp; rw [show nI 1 - 2 = (-1 : Int32) by decide]
theorem sr_sp2 (kp : sr_M) : 0 * kp 2 6 = sr_sp kp 2 := by unfold sr_sp; rw [show nI 2 - 2 = (0 : Int32) by decide]
theorem sr_sp3 (kp : sr_M) : 1 * kp 2 6 = sr_sp kp 3 := by unfold sr_sp; rw [show nI 3 - 2 = (1 : Int32) by decide]
theorem sr_sp4 (kp : sr_M) : 2 * kp 2 6 = sr_sp kp 4 := by unfold sr_sp; rw [show nI 4 - 2 = (2 : Int32) by decide]
def sr_odd (x : Int32) : Int32 := if x = 2 then 6 else if x - x / 2 * 2 = 1 then 4 else 1
theorem sr_c1_b (kp : sr_M) (co go c m k : Nat) : (if ¬ (sr_mt kp co go c (nI m) (sr_sp kp k) = -1) then (1 : Int32) else 0) = nI (sr_c1 kp co go c m k 1) := by
  unfold sr_c1
  by_cases q : sr_mt kp co go c (nI m) (sr_sp kp k) = -1
  · rw [if_neg (fun z => z q), if_pos q]; rfl
  · rw [if_pos q, if_neg q]; rfl
theorem sr_c1_i (kp : sr_M) (co go c m k o : Nat) : (if sr_mt kp co go c (nI m) (sr_sp kp k) = -1 then (0 : Int32) else nI o) = nI (sr_c1 kp co go c m k o) := by
  unfold sr_c1
  by_cases q : sr_mt kp co go c (nI m) (sr_sp kp k) = -1
  · rw [if_pos q, if_pos q]; rfl
  · rw [if_neg q, if_neg q]
def sn_chance (kp : sr_M) (c : Nat) : Int32 := if ¬ sr_th kp then -3 else nI (sr_cH kp c)
def sn_safe (kp : sr_M) (c : Nat) (k : Int32) : Int32 := if ¬ sr_th kp then -3 else sr_sf kp (sr_ru kp c) (sr_ru kp (c + 1)) c k
def sn_best (kp : sr_M) (c : Nat) : Int32 := if ¬ sr_th kp then -3 else nI (sr_best kp (sr_ru kp c) (sr_ru kp (c + 1)) c (kp 4 c))
def sn_blame (kp : sr_M) (c : Nat) (x : Int32) : Int32 := if ¬ sr_th kp then -3 else sr_gu kp c x
theorem sr_g1_e (x y b m : Int32) : b ||| (if x = y then m else 0) = sr_g1 x y b m := by
  unfold sr_g1
  by_cases q : x = y
  · rw [if_pos q, if_pos q]
  · rw [if_neg q, if_neg q]
    exact Int32.or_zero
