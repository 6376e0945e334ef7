def pdG (g : Nat → Int32) (x : Int32) : Nat → Int32 := if g 0 + x ≤ 999 then va_up g 0 (g 0 + x) else g
def pdF (g : Nat → Int32) (f : Nat → Nat → Int32) (x : Int32) : Nat → Nat → Int32 := if g 0 + x ≤ 999 then va_up f 1 (fun _ => 0) else f
def psF (g : Nat → Int32) (f : Nat → Nat → Int32) (x p : Int32) : Nat → Nat → Int32 := if (0 ≤ x ∧ x < g 8) ∧ reaC g f (g 0) x p = 0 then va_up (va_up f 12 (ptF (f 12) 10 x (g 0))) 13 (ptF (f 13) 10 x p) else f
def prG (g : Nat → Int32) (f : Nat → Nat → Int32) (p k : Int32) : Nat → Int32 := if parS g f (g 0) p &&& gt tBar 6 k = 0 then rehG g f p else g
def prF (g : Nat → Int32) (f : Nat → Nat → Int32) (p k s : Int32) : Nat → Nat → Int32 := if parS g f (g 0) p &&& gt tBar 6 k = 0 then rehF g f p k s else f
/-! one part of a plan that begins at i -/
def ppG (g : Nat → Int32) (f : Nat → Nat → Int32) (r : Nat → Int32) (m i : Int32) : Nat → Int32 :=
  if gt r 60 i = 33 then g else if gt r 60 i = 43 then pdG g (dyC r m (i + 1)) else prG g f (gt r 60 i - 48) (gt r 60 (i + 2) - 48)
def ppF (g : Nat → Int32) (f : Nat → Nat → Int32) (r : Nat → Int32) (m i : Int32) : Nat → Nat → Int32 :=
  if gt r 60 i = 33 then psF g f (gt r 60 (i + 1) - 48) (gt r 60 (i + 2) - 48) else if gt r 60 i = 43 then pdF g f (dyC r m (i + 1)) else prF g f (gt r 60 i - 48) (gt r 60 (i + 2) - 48) (gt r 60 (i + 3) - 48)
def ppR (g : Nat → Int32) (f : Nat → Nat → Int32) (r : Nat → Int32) (m i : Int32) : Int32 :=
  if gt r 60 i = 33 then bI ((0 ≤ gt r 60 (i + 1) - 48 ∧ gt r 60 (i + 1) - 48 < g 8) ∧ reaC g f (g 0) (gt r 60 (i + 1) - 48) (gt r 60 (i + 2) - 48) = 0) else if gt r 60 i = 43 then bI (g 0 + dyC r m (i + 1) ≤ 999) else bI (parS g f (g 0) (gt r 60 i - 48) &&& gt tBar 6 (gt r 60 (i + 2) - 48) = 0)
theorem ppR_nb (g : Nat → Int32) (f : Nat → Nat → Int32) (r : Nat → Int32) (m i : Int32) : narrow .boolean (.int (ppR g f r m i)) = .int (ppR g f r m i) := by
  unfold ppR
  split
  · exact nb_bI _
  · split
    · exact nb_bI _
    · exact nb_bI _
