def feR (b : Nat → Int32) (L : Nat) : Int32 := if fdV b L 61 0 = -1 then nI L else fdV b L 61 0
theorem tm_lo {s : Nat → Int32} {j : Nat} (h : j < 34) (n : Nat) : tmM s n j = s j := by
  induction n with
  | zero => rfl
  | succ n ih => rw [tmM, upd_ne (by omega), ih]
theorem tm_0 {s : Nat → Int32} {x : Int32} : tmM (upd s 0 x) 8 0 = x := by
  rw [tm_lo (by omega), upd_eq]
theorem db_ge {sn : Nat → Nat} {x p : Nat} : ¬ dbM sn x p < nI 0 := by
  unfold dbM
  split <;> decide
theorem dr_ge {s : Nat → Int32} {p : Nat} : ¬ drR s p < nI 0 := by
  unfold drR
  split <;> decide
