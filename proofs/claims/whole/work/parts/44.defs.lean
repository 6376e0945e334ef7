def fdM (s : Nat → Int32) (R H : Nat) (sn : Nat → Nat) (x p : Nat) : Nat → Nat → Int32
  | 0, _ => -1
  | m + 1, k => if rsM s R H sn x p (nI k) = nI 0 then nI k else fdM s R H sn x p m (k + 1)
theorem fdM_s {s : Nat → Int32} {R H : Nat} {sn : Nat → Nat} {x p D k : Nat} (h : k < D + 61) (hc : ¬ rsM s R H sn x p (nI k) = nI 0) : fdM s R H sn x p (D + 61 - k) k = fdM s R H sn x p (D + 61 - (k + 1)) (k + 1) := by
  rw [show D + 61 - k = (D + 61 - (k + 1)) + 1 by omega, fdM, if_neg hc]
theorem fdM_r {s : Nat → Int32} {R H : Nat} {sn : Nat → Nat} {x p D k : Nat} (h : k < D + 61) (hc : rsM s R H sn x p (nI k) = nI 0) : fdM s R H sn x p (D + 61 - k) k = nI k := by
  rw [show D + 61 - k = (D + 61 - (k + 1)) + 1 by omega, fdM, if_pos hc]
theorem fdM_e {s : Nat → Int32} {R H : Nat} {sn : Nat → Nat} {x p D : Nat} : fdM s R H sn x p (D + 61 - (D + 61)) (D + 61) = -1 := by
  rw [Nat.sub_self, fdM]
/-! the best one for a scene: 8 for nobody -/
def bv (n : Nat) : Int32 := if n = 8 then -1 else nI n
def bsN (s : Nat → Int32) (R H : Nat) (sn : Nat → Nat) (x : Nat) : Nat → Nat
  | 0 => 8
  | n + 1 => if (dsM s n (sn x) ≤ nI 5 ∧ paM s (nI n) (s 0) H &&& bpM (s (250 + 5 * x + 0)) = nI 0) ∧ (bsN s R H sn x n = 8 ∨ rkM s R sn x n < rkM s R sn x (bsN s R H sn x n)) then n else bsN s R H sn x n
theorem bsN_le (s : Nat → Int32) (R H : Nat) (sn : Nat → Nat) (x n : Nat) (hn : n ≤ 8 := by omega) : bsN s R H sn x n ≤ 8 := by
  induction n with
  | zero => exact Nat.le_refl _
  | succ n ih =>
    rw [bsN]
    split
    · omega
    · exact ih (by omega)
theorem bv_ne {n : Nat} (h : ¬ bv n = -1) : bv n = nI n := by
  unfold bv at h ⊢
  by_cases e : n = 8
  · rw [if_pos e] at h; exact absurd rfl h
  · rw [if_neg e]
theorem bv_lt {n : Nat} (hn : n ≤ 8) (h : ¬ bv n = -1) : n < 8 := by
  by_cases e : n = 8
  · exact absurd (by rw [bv, if_pos e]) h
  · omega
theorem bv_8 {n : Nat} (hn : n ≤ 8) (h : bv n = -1) : n = 8 := by
  by_cases e : n = 8
  · exact e
  · rw [bv, if_neg e] at h
    exact absurd h (by
      rcases (show n = 0 ∨ n = 1 ∨ n = 2 ∨ n = 3 ∨ n = 4 ∨ n = 5 ∨ n = 6 ∨ n = 7 by omega) with q | q | q | q | q | q | q | q <;> subst q <;> decide)
section BS
variable {s : Nat → Int32} {R H : Nat} {sn : Nat → Nat} {x n : Nat}
theorem bv_n {n : Nat} (h : n < 8) : nI n = bv n := by rw [bv, if_neg (by omega)]
theorem bsN_y1 (h1 : dsM s n (sn x) ≤ nI 5) (h2 : paM s (nI n) (s 0) H &&& bpM (s (250 + 5 * x + 0)) = nI 0) (h3 : bv (bsN s R H sn x n) = -1) (hn : n < 8 := by omega) : bv (bsN s R H sn x (n + 1)) = nI n := by
  rw [bsN, if_pos ⟨⟨h1, h2⟩, Or.inl (bv_8 (bsN_le s R H sn x n (by omega)) h3)⟩, ← bv_n hn]
theorem bsN_y2 (h1 : dsM s n (sn x) ≤ nI 5) (h2 : paM s (nI n) (s 0) H &&& bpM (s (250 + 5 * x + 0)) = nI 0) (h4 : rkM s R sn x n < rkM s R sn x (bsN s R H sn x n)) (hn : n < 8 := by omega) : bv (bsN s R H sn x (n + 1)) = nI n := by
  rw [bsN, if_pos ⟨⟨h1, h2⟩, Or.inr h4⟩, ← bv_n hn]
theorem bsN_n1 (h1 : ¬ dsM s n (sn x) ≤ nI 5) : bv (bsN s R H sn x (n + 1)) = bv (bsN s R H sn x n) := by
  rw [bsN, if_neg fun h => h1 h.1.1]
theorem bsN_n2 (h2 : ¬ paM s (nI n) (s 0) H &&& bpM (s (250 + 5 * x + 0)) = nI 0) : bv (bsN s R H sn x (n + 1)) = bv (bsN s R H sn x n) := by
  rw [bsN, if_neg fun h => h2 h.1.2]
theorem bsN_n3 (h3 : ¬ bv (bsN s R H sn x n) = -1) (h4 : ¬ rkM s R sn x n < rkM s R sn x (bsN s R H sn x n)) : bv (bsN s R H sn x (n + 1)) = nI (bsN s R H sn x n) := by
  rw [bsN, if_neg fun h => ?_]
  · exact bv_ne h3
  · rcases h.2 with q | q
    · exact h3 (by rw [bv, if_pos q])
    · exact h4 q
end BS
