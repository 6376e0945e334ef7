def dsM (s : Nat → Int32) (p q : Nat) : Int32 := if s (10 + p) - s (10 + q) < nI 0 then -(s (10 + p) - s (10 + q)) else s (10 + p) - s (10 + q)
def isM (s : Nat → Int32) (d : Int32) : Int32 := if d ≤ s 3 then s 2 else nI 0
def coM (s : Nat → Int32) (x y : Int32) : Int32 := y * x * x + y * x * x * s 6 / nI 10
def lkM (s : Nat → Int32) (R x : Nat) (p d : Int32) : Int32 := if nI 0 < ndM (s (250 + 5 * x + 0)) (s (250 + 5 * x + 1)) - cnM s p (s (250 + 5 * x + 0)) (s (250 + 5 * x + 1)) d R then ndM (s (250 + 5 * x + 0)) (s (250 + 5 * x + 1)) - cnM s p (s (250 + 5 * x + 0)) (s (250 + 5 * x + 1)) d R else nI 0
def rsM (s : Nat → Int32) (R H : Nat) (sn : Nat → Nat) (x p : Nat) (d : Int32) : Int32 :=
  if ¬ s (250 + 5 * x + 3) = -1 then nI 1 else if nI 5 < dsM s p (sn x) then nI 2 else if isM s d < s (250 + 5 * x + 1) then nI 3 else if ¬ paM s (nI p) d H &&& bpM (s (250 + 5 * x + 0)) = nI 0 then nI 4 else
  if ¬ (s (18 + p) = -1 ∨ (¬ s (18 + p) = d ∧ ¬ s (18 + p) = d - nI 1)) then nI 5 else if nI 0 < lkM s R x (nI p) d then nI 6 else nI 0
def clM (s : Nat → Int32) (R H : Nat) (sn : Nat → Nat) (x : Nat) : Nat → Int32
  | 0 => nI 0
  | n + 1 => if rsM s R H sn x n (s 0) = nI 0 then clM s R H sn x n ||| (nI 1 <<< (nI n &&& 31)) else clM s R H sn x n ||| nI 0
def rkM (s : Nat → Int32) (R : Nat) (sn : Nat → Nat) (x p : Nat) : Int32 := nI 1000 * lkM s R x (nI p) (s 0) + nI 10 * (if nI p = nI (sn x) then nI 0 else nI 1 + dsM s p (sn x)) + nI p
def shM (s : Nat → Int32) : Nat → Int32
  | 0 => nI 0
  | n + 1 => if s (250 + 5 * n + 3) = -1 then shM s n + nI 0 else shM s n + nI 1
def opM (s : Nat → Int32) (R H : Nat) (sn : Nat → Nat) : Nat → Int32
  | 0 => nI 0
  | n + 1 => if clM s R H sn n 8 = nI 0 then opM s R H sn n + nI 0 else opM s R H sn n + nI 1
def stM (s : Nat → Int32) (R H : Nat) (sn : Nat → Nat) (p q : Int32) : Nat → Int32
  | 0 => nI 0
  | n + 1 => if ¬ bpM (s (250 + 5 * n + 0)) &&& q = nI 0 ∧ clM s R H sn n 8 = nI 1 <<< (p &&& 31) then stM s R H sn p q n + nI 1 else stM s R H sn p q n + nI 0
def tpM (s : Nat → Int32) (H p : Nat) (w : Int32) : Int32 := if w = nI 0 then s (10 + p) else if w = nI 1 then paM s (nI p) (s 0) H else if w = nI 2 then laM s (nI p) H else if w = nI 3 then s (34 + p) else if w = nI 4 then s (18 + p) else if w = nI 5 then s (26 + p) else bkM s H (nI p) 6
def tcM (s : Nat → Int32) (R H C : Nat) (sn : Nat → Nat) (sm : Int32) (w : Nat) : Int32 := if nI w = nI 0 then s w else if nI w = nI 1 then s w else if nI w = nI 2 then isM s (s 0) else if nI w = nI 3 then (if s 0 ≤ s 3 then s 3 else -1) else if nI w = nI 4 then s 4 else if nI w = nI 5 then shM s C else if nI w = nI 6 then s 5 else if nI w = nI 7 then s 6 else if nI w = nI 8 then s 7 else if nI w = nI 9 then opM s R H sn C else sm
