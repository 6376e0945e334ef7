def bsM (s : Nat → Int32) (R H : Nat) (sn : Nat → Nat) (x : Nat) : Int32 := if s (250 + 5 * x + 3) = -1 then bv (bsN s R H sn x 8) else -1
theorem c_X7_bestFor (l : Launch) (E : EV) {a : Nat → Nat} {th sm ln pl : Int32} {hs : Int64} {s S b w : Nat → Int32} {R H C D : Nat} {sn : Nat → Nat} {x : Nat} (hM : MI s R H C D sn) (hx0 : x < 10) : Rd l E yX7_bestFor cX7_bestFor 5 (some .int) 4 100 [.ref (a 0), .int (nI x)] (mdW E a th sm ln pl hs s S b w) (some (.int (bsM s R H sn x))) := by
  unfold bsM
  by_cases h : s (250 + 5 * x + 3) = -1
  · rw [if_pos h]; exact c_X7_bestFor_u l E hM hx0 h
  · rw [if_neg h]; exact c_X7_bestFor_s l E hM hx0 h
def srM (s : Nat → Int32) (C : Nat) : UInt64 := if s 4 = nI 0 then FP.dconst1 else FP.ddiv (FP.i2d (shM s C)) (FP.i2d (s 4))
def mqA (s : Nat → Int32) (H p : Nat) (h : Int64) : Nat → Int64
  | 0 => h
  | k + 1 => 31 * mqA s H p h k + (tpM s H p (nI k)).toInt64
def mqB (s : Nat → Int32) (R p : Nat) (h : Int64) : Nat → Int64
  | 0 => h
  | k + 1 => 31 * mqB s R p h k + (cnM s (nI p) (nI k) (nI 2) (s 0) R).toInt64
def mqC (s : Nat → Int32) (R H C : Nat) (sn : Nat → Nat) (p : Nat) (h : Int64) : Int64 := 31 * mqB s R p (mqA s H p h 7) 6 + (stM s R H sn (nI p) (nI 16) C).toInt64
def mrA (s : Nat → Int32) (R H : Nat) (sn : Nat → Nat) (x : Nat) (h : Int64) : Nat → Int64
  | 0 => h
  | k + 1 => 31 * mrA s R H sn x h k + (if k < 5 then s (250 + 5 * x + k) else clM s R H sn x 8).toInt64
def mrB (s : Nat → Int32) (R H D : Nat) (sn : Nat → Nat) (x : Nat) (h : Int64) : Nat → Int64
  | 0 => h
  | k + 1 => 31 * (31 * (31 * mrB s R H D sn x h k + (rsM s R H sn x k (s 0)).toInt64) + (lkM s R x (nI k) (s 0)).toInt64) + (fdM s R H sn x k 61 D).toInt64
def mrC (s : Nat → Int32) (R H D : Nat) (sn : Nat → Nat) (x : Nat) (h : Int64) : Int64 := mrB s R H D sn x (31 * mrA s R H sn x h 6 + (bsM s R H sn x).toInt64) 8
