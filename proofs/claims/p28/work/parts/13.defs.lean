/-! rows of records: rehearsals, injuries, scenes; what the class reads off them -/
theorem oi1 : Int32.ofInt 1 = 1 := rfl
abbrev reO (E : EV) (o a1 a2 a3 a4 : Nat) (n : Int32) (fp fk fr fd : Nat → Int32) : va_W := [(o, .inr (2, [.int n, .ref a1, .ref a2, .ref a3, .ref a4])), rw_ E a1 40 fp, rw_ E a2 40 fk, rw_ E a3 40 fr, rw_ E a4 40 fd]
abbrev inO (E : EV) (o a1 a2 a3 : Nat) (n : Int32) (fp fa fl : Nat → Int32) : va_W := [(o, .inr (0, [.int n, .ref a1, .ref a2, .ref a3])), rw_ E a1 12 fp, rw_ E a2 12 fa, rw_ E a3 12 fl]
abbrev scO (E : EV) (o a1 a2 a3 a4 a5 : Nat) (n : Int32) (fk fr fs fd fe : Nat → Int32) : va_W := [(o, .inr (4, [.int n, .ref a1, .ref a2, .ref a3, .ref a4, .ref a5])), rw_ E a1 10 fk, rw_ E a2 10 fr, rw_ E a3 10 fs, rw_ E a4 10 fd, rw_ E a5 10 fe]
def cpF (f g : Nat → Int32) (k : Nat) : Nat → Int32 := fun j => if j < k then f j else g j
def cntC (fp fk fr fd : Nat → Int32) (d p k r : Int32) : Nat → Int32
  | 0 => 0
  | n + 1 => if gt fp 40 (nI n) = p ∧ gt fk 40 (nI n) = k ∧ r - 1 ≤ gt fr 40 (nI n) ∧ d < gt fd 40 (nI n) + gt tCnt 6 k then cntC fp fk fr fd d p k r n + 1 else cntC fp fk fr fd d p k r n
def parC (fp fa fl : Nat → Int32) (d p : Int32) : Nat → Int32
  | 0 => 0
  | n + 1 => if gt fp 12 (nI n) = p ∧ d ≤ gt fl 12 (nI n) then parC fp fa fl d p n ||| gt fa 12 (nI n) else parC fp fa fl d p n
def lasC (fp fl : Nat → Int32) (d p : Int32) : Nat → Int32
  | 0 => -1
  | n + 1 => if gt fp 12 (nI n) = p ∧ d ≤ gt fl 12 (nI n) ∧ lasC fp fl d p n < gt fl 12 (nI n) then gt fl 12 (nI n) else lasC fp fl d p n
def shoC (fd : Nat → Int32) : Nat → Int32
  | 0 => 0
  | n + 1 => if ¬ gt fd 10 (nI n) = -1 then shoC fd n + 1 else shoC fd n
def dblC (fs fd fe : Nat → Int32) : Nat → Int32
  | 0 => 0
  | n + 1 => if ¬ gt fd 10 (nI n) = -1 ∧ ¬ gt fe 10 (nI n) = gt fs 10 (nI n) then dblC fs fd fe n + 1 else dblC fs fd fe n
def sbyC (fd fe : Nat → Int32) (p : Int32) : Nat → Int32
  | 0 => 0
  | n + 1 => if ¬ gt fd 10 (nI n) = -1 ∧ gt fe 10 (nI n) = p then sbyC fd fe p n + 1 else sbyC fd fe p n
def latC (fd fe : Nat → Int32) (p : Int32) : Nat → Int32
  | 0 => -1
  | n + 1 => if gt fe 10 (nI n) = p ∧ latC fd fe p n < gt fd 10 (nI n) then gt fd 10 (nI n) else latC fd fe p n
