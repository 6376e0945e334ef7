/-! shares, and the bits of a share as the class works them out -/
def shrC (fd : Nat → Int32) (n : Int32) : UInt64 := if n = 0 then FP.dconst1 else FP.ddiv (FP.i2d (shoC fd n.toNatClampNeg)) (FP.i2d n)
def bfr (x : UInt64) : Nat → UInt64
  | 0 => x
  | k + 1 => FP.dmul (bfr x k) 4611686018427387904
def bex : Nat → Int64
  | 0 => 1023
  | k + 1 => bex k - 1
def bsE (x : UInt64) : Nat → Nat → Nat
  | 0, k => k
  | m + 1, k => if Op.cmpValue (FP.dcmp (bfr x k) FP.dconst1) .g < 0 then bsE x m (k + 1) else k
def bsC (x : UInt64) : Int64 := if 0 < Op.cmpValue (FP.dcmp x FP.dconst0) .g then (bex (bsE x 64 0) <<< ((52 : Int32).toInt64 &&& 63)) + FP.d2l (FP.dmul (FP.dsub (bfr x (bsE x 64 0)) FP.dconst1) 4841369599423283200) else 0
def bsOK (x : UInt64) : Prop := (∀ k, k < bsE x 64 0 → vf_n64 (FP.dmul (bfr x k) 4611686018427387904)) ∧ vf_n64 (FP.dsub (bfr x (bsE x 64 0)) FP.dconst1) ∧ vf_n64 (FP.dmul (FP.dsub (bfr x (bsE x 64 0)) FP.dconst1) 4841369599423283200)
theorem bsC_pos {x : UInt64} {j : Nat} (h : 0 < Op.cmpValue (FP.dcmp x FP.dconst0) .g) (hK : bsE x 64 0 = j) : bsC x = (bex j <<< ((52 : Int32).toInt64 &&& 63)) + FP.d2l (FP.dmul (FP.dsub (bfr x j) FP.dconst1) 4841369599423283200) := by
  rw [bsC, if_pos h, hK]
theorem bsC_neg {x : UInt64} (h : ¬ 0 < Op.cmpValue (FP.dcmp x FP.dconst0) .g) : bsC x = 0 := by
  rw [bsC, if_neg h]
theorem bsE_s {x : UInt64} {k : Nat} (hk : k < 64) (h : Op.cmpValue (FP.dcmp (bfr x k) FP.dconst1) .g < 0) : bsE x (64 - k) k = bsE x (64 - (k + 1)) (k + 1) := by
  rw [show 64 - k = (64 - (k + 1)) + 1 by omega, bsE, if_pos h]
theorem bsE_r {x : UInt64} {k : Nat} (hk : k < 64) (h : ¬ Op.cmpValue (FP.dcmp (bfr x k) FP.dconst1) .g < 0) : bsE x (64 - k) k = k := by
  rw [show 64 - k = (64 - (k + 1)) + 1 by omega, bsE, if_neg h]
theorem bsE_ge (x : UInt64) (m k : Nat) : k ≤ bsE x m k := by
  induction m generalizing k with
  | zero => exact Nat.le_refl _
  | succ m ih =>
    rw [bsE]
    split
    · exact Nat.le_of_succ_le (ih (k + 1))
    · exact Nat.le_refl _
