/-! the model's digest -/
def ddA (s : Nat → Int32) (R H C : Nat) (sn : Nat → Nat) (sm : Int32) : Nat → Int64
  | 0 => 3527
  | k + 1 => 31 * ddA s R H C sn sm k + (tcM s R H C sn sm k).toInt64
def ddB (s : Nat → Int32) (R H C : Nat) (sn : Nat → Nat) (h : Int64) : Nat → Int64
  | 0 => h
  | k + 1 => mqC s R H C sn k (ddB s R H C sn h k)
def ddD (s : Nat → Int32) (R H D : Nat) (sn : Nat → Nat) (h : Int64) : Nat → Int64
  | 0 => h
  | k + 1 => mrC s R H D sn k (ddD s R H D sn h k)
def ddM (s : Nat → Int32) (R H C D : Nat) (sn : Nat → Nat) (sm : Int32) (L : Nat) : Int64 := 31 * (31 * (31 * ddD s R H D sn (ddB s R H C sn (ddA s R H C sn sm 11) 8) C + (coM s (nI 3) (nI 10)).toInt64) + (srM s C).toInt64) + (nI L).toInt64
def ddE (b : Nat → Int32) (h : Int64) : Nat → Int64
  | 0 => h
  | k + 1 => 31 * ddE b h k + (b k).toInt64
def ddG (s : Nat → Int32) (R H C D : Nat) (sn : Nat → Nat) (sm : Int32) (L : Nat) (b : Nat → Int32) : Int64 := ddE b (ddM s R H C D sn sm L) L
