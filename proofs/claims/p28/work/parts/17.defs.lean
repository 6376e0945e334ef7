/-! a State of the class: g its numbers (0 day, 1 purse, 2 step, 3 insured to, 4 injuries so far, 5 rehearsals so far, 6 rehearsals kept, 7 injuries kept, 8 scenes told), f its rows (0 sizes, 1 rehearsals today, 2..5 rehearsals, 6..8 injuries, 9..13 scenes), a its addresses -/
abbrev stW (E : EV) (a : Nat → Nat) (g : Nat → Int32) (f : Nat → Nat → Int32) : va_W := [(a 0, .inr (5, [.int (g 0), .int (g 1), .int (g 2), .int (g 3), .int (g 4), .int (g 5), .ref (a 1), .ref (a 2), .ref (a 3), .ref (a 4), .ref (a 5)])), rw_ E (a 1) 8 (f 0), rw_ E (a 2) 8 (f 1),
  (a 3, .inr (2, [.int (g 6), .ref (a 6), .ref (a 7), .ref (a 8), .ref (a 9)])), rw_ E (a 6) 40 (f 2), rw_ E (a 7) 40 (f 3), rw_ E (a 8) 40 (f 4), rw_ E (a 9) 40 (f 5),
  (a 4, .inr (0, [.int (g 7), .ref (a 10), .ref (a 11), .ref (a 12)])), rw_ E (a 10) 12 (f 6), rw_ E (a 11) 12 (f 7), rw_ E (a 12) 12 (f 8),
  (a 5, .inr (4, [.int (g 8), .ref (a 13), .ref (a 14), .ref (a 15), .ref (a 16), .ref (a 17)])), rw_ E (a 13) 10 (f 9), rw_ E (a 14) 10 (f 10), rw_ E (a 15) 10 (f 11), rw_ E (a 16) 10 (f 12), rw_ E (a 17) 10 (f 13)]
abbrev parS (g : Nat → Int32) (f : Nat → Nat → Int32) (d p : Int32) : Int32 := parC (f 6) (f 7) (f 8) d p (g 7).toNatClampNeg
abbrev cntS (g : Nat → Int32) (f : Nat → Nat → Int32) (d p k r : Int32) : Int32 := cntC (f 2) (f 3) (f 4) (f 5) d p k r (g 6).toNatClampNeg
abbrev latS (g : Nat → Int32) (f : Nat → Nat → Int32) (p : Int32) : Int32 := latC (f 12) (f 13) p (g 8).toNatClampNeg
def cosC (g : Nat → Int32) (a b : Int32) : Int32 := b * a * a + b * a * a * g 4 / 10
def stpC (g : Nat → Int32) (d : Int32) : Int32 := if d ≤ g 3 then g 2 else 0
def gapC (f : Nat → Nat → Int32) (a b : Int32) : Int32 := gt (f 0) 8 a - gt (f 0) 8 b
def absC (x : Int32) : Int32 := if x < 0 then -x else x
def lacC (g : Nat → Int32) (f : Nat → Nat → Int32) (x p : Int32) : Int32 := if 0 < ndF (gt (f 9) 10 x) (gt (f 10) 10 x) - cntS g f (g 0) p (gt (f 9) 10 x) (gt (f 10) 10 x) then ndF (gt (f 9) 10 x) (gt (f 10) 10 x) - cntS g f (g 0) p (gt (f 9) 10 x) (gt (f 10) 10 x) else 0
def reaC (g : Nat → Int32) (f : Nat → Nat → Int32) (d x p : Int32) : Int32 :=
  if ¬ gt (f 12) 10 x = -1 then 1 else if ¬ (-5 ≤ gapC f p (gt (f 11) 10 x) ∧ gapC f p (gt (f 11) 10 x) ≤ 5) then 2 else if stpC g d < gt (f 10) 10 x then 3 else if ¬ parS g f d p &&& gt tBar 6 (gt (f 9) 10 x) = 0 then 4 else
  if ¬ latS g f p = -1 ∧ d ≤ latS g f p + 1 then 5 else if cntS g f d p (gt (f 9) 10 x) (gt (f 10) 10 x) < ndF (gt (f 9) 10 x) (gt (f 10) 10 x) then 6 else 0
def fcdC (g : Nat → Int32) (f : Nat → Nat → Int32) (x p : Int32) : Nat → Nat → Int32
  | 0, _ => -1
  | n + 1, k => if reaC g f (g 0 + nI k) x p = 0 then g 0 + nI k else if ¬ reaC g f (g 0 + nI k) x p = 4 ∧ ¬ reaC g f (g 0 + nI k) x p = 5 then -1 else fcdC g f x p n (k + 1)
def btrC (g : Nat → Int32) (f : Nat → Nat → Int32) (x p q : Int32) : Int32 :=
  if ¬ lacC g f x p - lacC g f x q = 0 then bI (lacC g f x p - lacC g f x q < 0) else if p = gt (f 11) 10 x ∨ q = gt (f 11) 10 x then bI (p = gt (f 11) 10 x) else bI (absC (gapC f p (gt (f 11) 10 x)) < absC (gapC f q (gt (f 11) 10 x)))
theorem btrC_nb (g : Nat → Int32) (f : Nat → Nat → Int32) (x p q : Int32) : narrow .boolean (.int (btrC g f x p q)) = .int (btrC g f x p q) := by
  unfold btrC
  split
  · exact nb_bI _
  · split
    · exact nb_bI _
    · exact nb_bI _
def besC (g : Nat → Int32) (f : Nat → Nat → Int32) (x : Int32) : Nat → Int32
  | 0 => -1
  | n + 1 => if ((-5 ≤ gapC f (nI n) (gt (f 11) 10 x) ∧ gapC f (nI n) (gt (f 11) 10 x) ≤ 5) ∧ parS g f (g 0) (nI n) &&& gt tBar 6 (gt (f 9) 10 x) = 0) ∧ (besC g f x n = -1 ∨ ¬ btrC g f x (nI n) (besC g f x n) = 0) then nI n else besC g f x n
def bstC (g : Nat → Int32) (f : Nat → Nat → Int32) (x : Int32) : Int32 := if ¬ gt (f 12) 10 x = -1 then -1 else besC g f x 8
def clrC (g : Nat → Int32) (f : Nat → Nat → Int32) (x : Int32) : Nat → Int32
  | 0 => 0
  | n + 1 => if reaC g f (g 0) x (nI n) = 0 then clrC g f x n ||| (1 <<< (nI n &&& 31)) else clrC g f x n
def sscC (g : Nat → Int32) (f : Nat → Nat → Int32) : Nat → Int32
  | 0 => 0
  | n + 1 => if ¬ clrC g f (nI n) 8 = 0 then sscC g f n + 1 else sscC g f n
def stoC (g : Nat → Int32) (f : Nat → Nat → Int32) (p q : Int32) : Nat → Int32
  | 0 => 0
  | n + 1 => if ¬ q &&& gt tBar 6 (gt (f 9) 10 (nI n)) = 0 ∧ clrC g f (nI n) 8 = 1 <<< (p &&& 31) then stoC g f p q n + 1 else stoC g f p q n
def sbfC (g : Nat → Int32) (f : Nat → Nat → Int32) (p : Int32) : Nat → Int32
  | 0 => 0
  | n + 1 => if gt (f 12) 10 (nI n) = -1 ∧ ¬ parS g f (g 0) p &&& gt tBar 6 (gt (f 9) 10 (nI n)) = 0 then sbfC g f p n + 1 else sbfC g f p n
def kbtC (w : Int32) : Nat → Int32
  | 0 => 0
  | n + 1 => if ¬ w &&& gt tBar 6 (nI n) = 0 then kbtC w n ||| (1 <<< (nI n &&& 31)) else kbtC w n
def perC (g : Nat → Int32) (f : Nat → Nat → Int32) (p w : Int32) : Int32 :=
  if w = 0 then gt (f 0) 8 p else if w = 1 then parS g f (g 0) p else if w = 2 then lasC (f 6) (f 8) (g 0) p (g 7).toNatClampNeg else if w = 3 then gt (f 1) 8 p else if w = 4 then latS g f p else if w = 5 then sbyC (f 12) (f 13) p (g 8).toNatClampNeg else kbtC (parS g f (g 0) p) 6
def scnC (g : Nat → Int32) (f : Nat → Nat → Int32) (x w : Int32) : Int32 :=
  if w = 0 then gt (f 9) 10 x else if w = 1 then gt (f 10) 10 x else if w = 2 then gt (f 11) 10 x else if w = 3 then gt (f 12) 10 x else if w = 4 then gt (f 13) 10 x else clrC g f x 8
def injG (g : Nat → Int32) : Nat → Int32 := va_up (va_up g 4 (g 4 + 1)) 7 (kpI (g 7) 12 + 1)
def injF (g : Nat → Int32) (f : Nat → Nat → Int32) (p q d : Int32) : Nat → Nat → Int32 := va_up (va_up (va_up f 6 (ptF (kpR (g 7) 12 12 (f 6)) 12 (kpI (g 7) 12) p)) 7 (ptF (kpR (g 7) 12 12 (f 7)) 12 (kpI (g 7) 12) q)) 8 (ptF (kpR (g 7) 12 12 (f 8)) 12 (kpI (g 7) 12) (g 0 + d - 1))
def rehG0 (g : Nat → Int32) : Nat → Int32 := va_up g 5 (g 5 + 1)
def rehF0 (f : Nat → Nat → Int32) (p : Int32) : Nat → Nat → Int32 := va_up f 1 (ptF (f 1) 8 p (gt (f 1) 8 p + 1))
def rehG1 (g : Nat → Int32) : Nat → Int32 := va_up g 6 (kpI (g 6) 40 + 1)
def rehF1 (g : Nat → Int32) (f : Nat → Nat → Int32) (p k r : Int32) : Nat → Nat → Int32 := va_up (va_up (va_up (va_up f 2 (ptF (kpR (g 6) 40 40 (f 2)) 40 (kpI (g 6) 40) p)) 3 (ptF (kpR (g 6) 40 40 (f 3)) 40 (kpI (g 6) 40) k)) 4 (ptF (kpR (g 6) 40 40 (f 4)) 40 (kpI (g 6) 40) r)) 5 (ptF (kpR (g 6) 40 40 (f 5)) 40 (kpI (g 6) 40) (g 0))
def rehG (g : Nat → Int32) (f : Nat → Nat → Int32) (p : Int32) : Nat → Int32 := if 3 < gt (f 1) 8 p + 1 then injG (rehG0 g) else rehG1 (rehG0 g)
def rehF (g : Nat → Int32) (f : Nat → Nat → Int32) (p k r : Int32) : Nat → Nat → Int32 := if 3 < gt (f 1) 8 p + 1 then injF (rehG0 g) (rehF0 f p) p (gt tHur 6 k) (2 * r) else rehF1 (rehG0 g) (rehF0 f p) p k r
def tdF (f : Nat → Int32) (k : Nat) : Nat → Int32 := fun j => if j < k then 0 else f j
theorem tdF_s {f : Nat → Int32} {k : Nat} (h : k < 8) : ptF (tdF f k) 8 (nI k) 0 = tdF f (k + 1) := by
  have h0 : ¬ nI k < 0 := nI_pos (by omega)
  have h1 : ¬ nI 8 ≤ nI k := by rw [nI_leI (by omega) (by omega)]; omega
  unfold ptF
  rw [if_neg h0, if_neg h1, nI_clamp (by omega)]
  funext t
  unfold upd tdF
  by_cases e : t = k
  · subst e
    rw [if_pos rfl, if_pos (by omega)]
  · by_cases e2 : t < k
    · rw [if_neg e, if_pos e2, if_pos (by omega)]
    · rw [if_neg e, if_neg e2, if_neg (by omega)]
