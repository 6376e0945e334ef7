def shF (g : Nat → Int32) (f : Nat → Nat → Int32) (x p : Int32) : Nat → Nat → Int32 := va_up (va_up f 12 (ptF (f 12) 10 x (g 0))) 13 (ptF (f 13) 10 x p)
def scG (g : Nat → Int32) : Nat → Int32 := va_up g 8 (g 8 + 1)
def scF (g : Nat → Int32) (f : Nat → Nat → Int32) (k q p : Int32) : Nat → Nat → Int32 := va_up (va_up (va_up (va_up (va_up f 9 (ptF (f 9) 10 (g 8) k)) 10 (ptF (f 10) 10 (g 8) q)) 11 (ptF (f 11) 10 (g 8) p)) 12 (ptF (f 12) 10 (g 8) (-1))) 13 (ptF (f 13) 10 (g 8) (-1))
def isG (g : Nat → Int32) (x y : Int32) : Nat → Int32 := va_up (va_up (va_up g 1 (g 1 - cosC g x y)) 2 x) 3 (g 0 + y - 1)
/-! a plan: parts done, whether it still goes on, the state -/
def plI (g : Nat → Int32) (f : Nat → Nat → Int32) (r : Nat → Int32) (m : Int32) : Nat → Int32 × Int32 × (Nat → Int32) × (Nat → Nat → Int32)
  | 0 => (0, 1, g, f)
  | k + 1 => if (plI g f r m k).2.1 = 0 then plI g f r m k else if nI k = 0 ∨ gt r 60 (nI k - 1) = 59 then
      (if ppR (plI g f r m k).2.2.1 (plI g f r m k).2.2.2 r m (nI k) = 0 then ((plI g f r m k).1 + 0, ppR (plI g f r m k).2.2.1 (plI g f r m k).2.2.2 r m (nI k), ppG (plI g f r m k).2.2.1 (plI g f r m k).2.2.2 r m (nI k), ppF (plI g f r m k).2.2.1 (plI g f r m k).2.2.2 r m (nI k))
       else ((plI g f r m k).1 + 1, ppR (plI g f r m k).2.2.1 (plI g f r m k).2.2.2 r m (nI k), ppG (plI g f r m k).2.2.1 (plI g f r m k).2.2.2 r m (nI k), ppF (plI g f r m k).2.2.1 (plI g f r m k).2.2.2 r m (nI k)))
      else plI g f r m k
theorem plI_stop {g : Nat → Int32} {f : Nat → Nat → Int32} {r : Nat → Int32} {m : Int32} {k N : Nat} (h : k ≤ N) (hc : (plI g f r m k).2.1 = 0) : plI g f r m k = plI g f r m N := by
  induction N with
  | zero => rw [Nat.le_zero.mp h]
  | succ N ih =>
    by_cases e : k = N + 1
    · rw [e]
    · have h1 := ih (by omega)
      rw [h1] at hc ⊢
      rw [plI, if_pos hc]
