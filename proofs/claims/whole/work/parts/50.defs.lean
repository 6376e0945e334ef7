theorem upd_ne {f : Nat → Int32} {k j : Nat} {x : Int32} (h : j ≠ k) : upd f k x j = f j := by
  unfold upd
  exact if_neg h
theorem upd_eq {f : Nat → Int32} {k : Nat} {x : Int32} : upd f k x k = x := by
  unfold upd
  exact if_pos rfl
def ijM (s : Nat → Int32) : Nat → Nat → Int32
  | 0 => s
  | n + 1 => upd (ijM s n) (202 + n) (ijM s n (202 + n + 4))
theorem ijM_0 {s : Nat → Int32} : ijM s (202 - 202) = s := rfl
theorem ijM_s {s : Nat → Int32} {k : Nat} (h : 202 ≤ k) : ijM s (k + 1 - 202) = upd (ijM s (k - 202)) k (ijM s (k - 202) (k + 4)) := by
  rw [show k + 1 - 202 = (k - 202) + 1 by omega, ijM, show 202 + (k - 202) = k by omega]
theorem ijM_lo {s : Nat → Int32} {j : Nat} (h : j < 202) (n : Nat) : ijM s n j = s j := by
  induction n with
  | zero => rfl
  | succ n ih => rw [ijM, upd_ne (by omega), ih]
def ij0 (s : Nat → Int32) : Nat → Int32 := upd (ijM s (246 - 202)) 9 (ijM s (246 - 202) 9 - nI 1)
theorem ij_11 {s : Nat → Int32} (h : s 9 = nI 12) : upd (ijM s (246 - 202)) 9 (ijM s (246 - 202) 9 - nI 1) 9 = nI 11 := by
  rw [upd_eq, ijM_lo (by omega), h]
  exact nI_m1 11
def ij1 (s : Nat → Int32) (H : Nat) (p : Int32) : Nat → Int32 := upd s (202 + 4 * H + 0) p
def ij2 (s : Nat → Int32) (H : Nat) (p q : Int32) : Nat → Int32 := upd (ij1 s H p) (202 + 4 * H + 1) q
def ij3 (s : Nat → Int32) (H : Nat) (p q : Int32) : Nat → Int32 := upd (ij2 s H p q) (202 + 4 * H + 2) (ij2 s H p q 0)
def ij4 (s : Nat → Int32) (H : Nat) (p q x : Int32) : Nat → Int32 := upd (ij3 s H p q) (202 + 4 * H + 3) (ij3 s H p q 0 + x - nI 1)
def ij5 (s : Nat → Int32) (H : Nat) (p q x : Int32) : Nat → Int32 := upd (ij4 s H p q x) 9 (ij4 s H p q x 9 + nI 1)
def ijS (s : Nat → Int32) (H : Nat) (p q x : Int32) : Nat → Int32 := upd (ij5 s H p q x) 6 (ij5 s H p q x 6 + nI 1)
