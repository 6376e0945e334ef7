/-! reading what the model wrote -/
theorem nI_sub {a b : Nat} (h : b ≤ a) : nI a - nI b = nI (a - b) := by
  have e : nI a = nI (a - b) + nI b := by rw [nI_add, Nat.sub_add_cancel h]
  rw [e]
  exact Int32.add_sub_cancel _ _
theorem dig {x : Int32} {lo hi : Nat} (hh : hi < 2 ^ 31) (h1 : nI lo ≤ x) (h2 : x ≤ nI hi) (hl : lo < 2 ^ 31 := by omega) : ∃ n, x = nI n ∧ lo ≤ n ∧ n ≤ hi := by
  have h0 : ¬ x < 0 := fun h => by
    have := Int32.le_iff_toInt_le.mp h1
    have := Int32.lt_iff_toInt_lt.mp h
    rw [nI_toInt hl] at *
    simp at *
    omega
  obtain ⟨j, hj, rfl⟩ := nI_of h0
  exact ⟨j, rfl, (nI_leI hl hj).mp h1, (nI_leI hj hh).mp h2⟩
theorem tmM_o {s : Nat → Int32} {j : Nat} {n : Nat} (h : ¬ (34 ≤ j ∧ j < 34 + n)) : tmM s n j = s j := by
  induction n with
  | zero => rfl
  | succ n ih => rw [tmM, upd_ne (by omega), ih (by omega)]
theorem tmM_i {s : Nat → Int32} {j : Nat} {n : Nat} (h : j < n) : tmM s n (34 + j) = nI 0 := by
  induction n with
  | zero => omega
  | succ n ih =>
    by_cases e : j = n
    · subst e; rw [tmM, upd_eq]
    · rw [tmM, upd_ne (by omega), ih (by omega)]
theorem ijM_o {s : Nat → Int32} {j : Nat} {n : Nat} (h : ¬ (202 ≤ j ∧ j < 202 + n)) : ijM s n j = s j := by
  induction n with
  | zero => rfl
  | succ n ih => rw [ijM, upd_ne (by omega), ih (by omega)]
theorem ijM_i {s : Nat → Int32} {j : Nat} {n : Nat} (h1 : 202 ≤ j) (h2 : j < 202 + n) : ijM s n j = s (j + 4) := by
  induction n with
  | zero => omega
  | succ n ih =>
    by_cases e : j = 202 + n
    · subst e; rw [ijM, upd_eq, ijM_o (by omega)]
    · rw [ijM, upd_ne (by omega), ih (by omega)]
theorem rjM_o {s : Nat → Int32} {j : Nat} {n : Nat} (h : ¬ (42 ≤ j ∧ j < 42 + n)) : rjM s n j = s j := by
  induction n with
  | zero => rfl
  | succ n ih => rw [rjM, upd_ne (by omega), ih (by omega)]
theorem rjM_i {s : Nat → Int32} {j : Nat} {n : Nat} (h1 : 42 ≤ j) (h2 : j < 42 + n) : rjM s n j = s (j + 4) := by
  induction n with
  | zero => omega
  | succ n ih =>
    by_cases e : j = 42 + n
    · subst e; rw [rjM, upd_eq, rjM_o (by omega)]
    · rw [rjM, upd_ne (by omega), ih (by omega)]
section RD
variable {s : Nat → Int32} {p q x k r : Int32} {H R j : Nat}
theorem ij0_9 : ij0 s 9 = s 9 - nI 1 := by rw [ij0, upd_eq, ijM_lo (by omega)]
theorem ij0_i (h1 : 202 ≤ j) (h2 : j < 246) : ij0 s j = s (j + 4) := by rw [ij0, upd_ne (by omega), ijM_i h1 (by omega)]
theorem ij0_o (h1 : j ≠ 9) (h2 : ¬ (202 ≤ j ∧ j < 246)) : ij0 s j = s j := by rw [ij0, upd_ne h1, ijM_o (by omega)]
theorem rj0_8 : rj0 s 8 = s 8 - nI 1 := by rw [rj0, upd_eq, rjM_lo (by omega)]
theorem rj0_i (h1 : 42 ≤ j) (h2 : j < 198) : rj0 s j = s (j + 4) := by rw [rj0, upd_ne (by omega), rjM_i h1 (by omega)]
theorem rj0_o (h1 : j ≠ 8) (h2 : ¬ (42 ≤ j ∧ j < 198)) : rj0 s j = s j := by rw [rj0, upd_ne h1, rjM_o (by omega)]
theorem ijS_6 (hH : H < 12) : ijS s H p q x 6 = s 6 + nI 1 := by rw [ijS, upd_eq, ij5, upd_ne (by omega), ij4, upd_ne (by omega), ij3, upd_ne (by omega), ij2, upd_ne (by omega), ij1, upd_ne (by omega)]
theorem ijS_9 (hH : H < 12) : ijS s H p q x 9 = s 9 + nI 1 := by rw [ijS, upd_ne (by omega), ij5, upd_eq, ij4, upd_ne (by omega), ij3, upd_ne (by omega), ij2, upd_ne (by omega), ij1, upd_ne (by omega)]
theorem ijS_d (hH : H < 12) : ijS s H p q x (202 + 4 * H + 3) = s 0 + x - nI 1 := by rw [ijS, upd_ne (by omega), ij5, upd_ne (by omega), ij4, upd_eq, ij3, upd_ne (by omega), ij2, upd_ne (by omega), ij1, upd_ne (by omega)]
theorem ijS_c (hH : H < 12) : ijS s H p q x (202 + 4 * H + 2) = s 0 := by rw [ijS, upd_ne (by omega), ij5, upd_ne (by omega), ij4, upd_ne (by omega), ij3, upd_eq, ij2, upd_ne (by omega), ij1, upd_ne (by omega)]
theorem ijS_b (hH : H < 12) : ijS s H p q x (202 + 4 * H + 1) = q := by rw [ijS, upd_ne (by omega), ij5, upd_ne (by omega), ij4, upd_ne (by omega), ij3, upd_ne (by omega), ij2, upd_eq]
theorem ijS_a (hH : H < 12) : ijS s H p q x (202 + 4 * H + 0) = p := by rw [ijS, upd_ne (by omega), ij5, upd_ne (by omega), ij4, upd_ne (by omega), ij3, upd_ne (by omega), ij2, upd_ne (by omega), ij1, upd_eq]
theorem ijS_o (h6 : j ≠ 6) (h9 : j ≠ 9) (h : ¬ (202 + 4 * H ≤ j ∧ j < 202 + 4 * H + 4)) : ijS s H p q x j = s j := by rw [ijS, upd_ne (by omega), ij5, upd_ne (by omega), ij4, upd_ne (by omega), ij3, upd_ne (by omega), ij2, upd_ne (by omega), ij1, upd_ne (by omega)]
theorem kpS_8 (hR : R < 40) : kpS s R p k r 8 = s 8 + nI 1 := by rw [kpS, upd_eq, kp4, upd_ne (by omega), kp3, upd_ne (by omega), kp2, upd_ne (by omega), kp1, upd_ne (by omega)]
theorem kpS_d (hR : R < 40) : kpS s R p k r (42 + 4 * R + 3) = s 0 := by rw [kpS, upd_ne (by omega), kp4, upd_eq, kp3, upd_ne (by omega), kp2, upd_ne (by omega), kp1, upd_ne (by omega)]
theorem kpS_c (hR : R < 40) : kpS s R p k r (42 + 4 * R + 2) = r := by rw [kpS, upd_ne (by omega), kp4, upd_ne (by omega), kp3, upd_eq]
theorem kpS_b (hR : R < 40) : kpS s R p k r (42 + 4 * R + 1) = k := by rw [kpS, upd_ne (by omega), kp4, upd_ne (by omega), kp3, upd_ne (by omega), kp2, upd_eq]
theorem kpS_a (hR : R < 40) : kpS s R p k r (42 + 4 * R + 0) = p := by rw [kpS, upd_ne (by omega), kp4, upd_ne (by omega), kp3, upd_ne (by omega), kp2, upd_ne (by omega), kp1, upd_eq]
theorem kpS_o (h8 : j ≠ 8) (h : ¬ (42 + 4 * R ≤ j ∧ j < 42 + 4 * R + 4)) : kpS s R p k r j = s j := by rw [kpS, upd_ne (by omega), kp4, upd_ne (by omega), kp3, upd_ne (by omega), kp2, upd_ne (by omega), kp1, upd_ne (by omega)]
end RD
section RD2
variable {s : Nat → Int32} {sn : Nat → Nat} {x p j : Nat}
theorem rh2_7 (hp : p < 8) : rh2 s p 7 = s 7 + nI 1 := by rw [rh2, upd_ne (by omega), rh1, upd_eq]
theorem rh2_p (hp : p < 8) : rh2 s p (34 + p) = s (34 + p) + nI 1 := by rw [rh2, upd_eq, rh1, upd_ne (by omega)]
theorem rh2_o (h7 : j ≠ 7) (hj : j ≠ 34 + p) : rh2 s p j = s j := by rw [rh2, upd_ne hj, rh1, upd_ne h7]
theorem doS_5 (hx : x < 10) (hp : p < 8) : doS s sn x p 5 = s 5 + dbM sn x p := by rw [doS, upd_eq, do4, upd_ne (by omega), do3, upd_ne (by omega), do2, upd_ne (by omega), do1, upd_ne (by omega)]
theorem doS_26 (hx : x < 10) (hp : p < 8) : doS s sn x p (26 + p) = s (26 + p) + nI 1 := by rw [doS, upd_ne (by omega), do4, upd_eq, do3, upd_ne (by omega), do2, upd_ne (by omega), do1, upd_ne (by omega)]
theorem doS_18 (hx : x < 10) (hp : p < 8) : doS s sn x p (18 + p) = s 0 := by rw [doS, upd_ne (by omega), do4, upd_ne (by omega), do3, upd_eq, do2, upd_ne (by omega), do1, upd_ne (by omega)]
theorem doS_b (hx : x < 10) (hp : p < 8) : doS s sn x p (250 + 5 * x + 4) = nI p := by rw [doS, upd_ne (by omega), do4, upd_ne (by omega), do3, upd_ne (by omega), do2, upd_eq]
theorem doS_a (hx : x < 10) (hp : p < 8) : doS s sn x p (250 + 5 * x + 3) = s 0 := by rw [doS, upd_ne (by omega), do4, upd_ne (by omega), do3, upd_ne (by omega), do2, upd_ne (by omega), do1, upd_eq]
theorem doS_o (h5 : j ≠ 5) (h1 : j ≠ 26 + p) (h2 : j ≠ 18 + p) (h3 : j ≠ 250 + 5 * x + 4) (h4 : j ≠ 250 + 5 * x + 3) : doS s sn x p j = s j := by rw [doS, upd_ne (by omega), do4, upd_ne (by omega), do3, upd_ne (by omega), do2, upd_ne (by omega), do1, upd_ne (by omega)]
end RD2
