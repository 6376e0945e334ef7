/-! the text of the class: n its length, f its codes -/
abbrev ptO (E : EV) (t u : Nat) (n : Int32) (f : Nat → Int32) : va_W := [(t, .inr (1, [.int n, .ref u])), rw_ E u 60 f]
def dyC (f : Nat → Int32) (n i : Int32) : Int32 := if i + 1 < n ∧ (48 ≤ gt f 60 (i + 1) ∧ gt f 60 (i + 1) ≤ 57) then 10 * (gt f 60 i - 48) + (gt f 60 (i + 1) - 48) else gt f 60 i - 48
def paF (c : Int32) : Int32 := if c = 33 then 6 else if c = 43 then 4 else if 48 ≤ c ∧ c ≤ 55 then 1 else -1
def paP (c : Int32) : Int32 := if c = 59 then 0 else -1
def paC (q c : Int32) : Int32 :=
  if q = 0 then paF c else if q = 1 then (if c = 114 then 2 else -1) else if q = 2 then (if 48 ≤ c ∧ c ≤ 53 then 3 else -1) else if q = 3 then (if 49 ≤ c ∧ c ≤ 53 then 8 else -1) else
  if q = 4 then (if 49 ≤ c ∧ c ≤ 57 then 5 else -1) else if q = 5 then (if 48 ≤ c ∧ c ≤ 57 then 8 else paP c) else if q = 6 then (if 48 ≤ c ∧ c ≤ 57 then 7 else -1) else if q = 7 then (if 48 ≤ c ∧ c ≤ 55 then 8 else -1) else if q = 8 then paP c else -1
def plC (f : Nat → Int32) : Nat → Int32
  | 0 => 0
  | k + 1 => paC (plC f k) (gt f 60 (nI k))
def erC (f : Nat → Int32) (n : Int32) : Nat → Nat → Int32
  | 0, _ => n
  | m + 1, k => if plC f (k + 1) = -1 then nI k else erC f n m (k + 1)
theorem erC_s {f : Nat → Int32} {n : Int32} {N k : Nat} (h : k < N) (hc : ¬ plC f (k + 1) = -1) : erC f n (N - k) k = erC f n (N - (k + 1)) (k + 1) := by
  rw [show N - k = (N - (k + 1)) + 1 by omega, erC, if_neg hc]
theorem erC_r {f : Nat → Int32} {n : Int32} {N k : Nat} (h : k < N) (hc : plC f (k + 1) = -1) : erC f n (N - k) k = nI k := by
  rw [show N - k = (N - (k + 1)) + 1 by omega, erC, if_pos hc]
theorem erC_e {f : Nat → Int32} {n : Int32} {N : Nat} : erC f n (N - N) N = n := by
  rw [Nat.sub_self, erC]
theorem ne_ti {x k : Int32} {n : Int} (h : ¬ x = k) (e : k.toInt = n) : ¬ n = x.toInt := fun q => h (Int32.toInt_inj.mp (q.symm.trans e.symm))
theorem sw_lk2 {x k1 k2 : Int32} {n1 o1 n2 o2 d : Int} (h1 : ¬ x = k1) (h2 : ¬ x = k2) (e1 : k1.toInt = n1) (e2 : k2.toInt = n2) : Op.lookupswitch.offset [(n1, o1), (n2, o2)] d x.toInt = d := by
  rw [Op.lookupswitch.offset_cons, if_neg (ne_ti h1 e1), Op.lookupswitch.offset_cons, if_neg (ne_ti h2 e2), Op.lookupswitch.offset_nil]
