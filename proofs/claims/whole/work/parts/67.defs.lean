theorem rpP_ge (b : Nat → Int32) (L P : Nat) : P ≤ rpP b L P := by
  have h1 := tkP_ge b L P (nI 43)
  have h2 := tkP_ge b L (tkP b L P (nI 43)) (nI 33)
  have h3 := daP_ge b L (tkP b L P (nI 43))
  have h0 := rgP_ge b L (tkP b L (tkP b L P (nI 43)) (nI 33)) (nI 0) (nI 9)
  have h4 := rgP_ge b L (rgP b L (tkP b L (tkP b L P (nI 43)) (nI 33)) (nI 0) (nI 9)) (nI 0) (nI 7)
  have h6 := rgP_ge b L (tkP b L (tkP b L P (nI 43)) (nI 33)) (nI 0) (nI 7)
  have h7 := tkP_ge b L (rgP b L (tkP b L (tkP b L P (nI 43)) (nI 33)) (nI 0) (nI 7)) (nI 114)
  have h8 := rgP_ge b L (tkP b L (rgP b L (tkP b L (tkP b L P (nI 43)) (nI 33)) (nI 0) (nI 7)) (nI 114)) (nI 0) (nI 5)
  have h9 := rgP_ge b L (rgP b L (tkP b L (rgP b L (tkP b L (tkP b L P (nI 43)) (nI 33)) (nI 0) (nI 7)) (nI 114)) (nI 0) (nI 5)) (nI 1) (nI 5)
  unfold rpP
  repeat' split
  all_goals omega
/-! a plan that is played: parts done, whether it goes on, the place, the numbers, the state -/
def pmX (b : Nat → Int32) (L : Nat) (t : Int32 × Int32 × Nat × (Nat → Int32) × (Nat → Int32)) : Int32 × Int32 × Nat × (Nat → Int32) × (Nat → Int32) :=
  if t.2.1 = nI 0 ∨ ¬ t.2.2.1 < L then t else if rpR b L t.2.2.1 = nI 0 then (t.1 + nI 0, nI 0, rpP b L t.2.2.1 + 1, rpW b L t.2.2.1 t.2.2.2.1, t.2.2.2.2) else
  if dpR t.2.2.2.2 (nxM b L t.2.2.1) (rpW b L t.2.2.1 t.2.2.2.1) = nI 0 then (t.1 + nI 0, nI 0, rpP b L t.2.2.1 + 1, rpW b L t.2.2.1 t.2.2.2.1, dpS t.2.2.2.2 (nxM b L t.2.2.1) (rpW b L t.2.2.1 t.2.2.2.1)) else
  (t.1 + nI 1, nI 1, rpP b L t.2.2.1 + 1, rpW b L t.2.2.1 t.2.2.2.1, dpS t.2.2.2.2 (nxM b L t.2.2.1) (rpW b L t.2.2.1 t.2.2.2.1))
def pmT (b : Nat → Int32) (L : Nat) (s w : Nat → Int32) : Nat → Int32 × Int32 × Nat × (Nat → Int32) × (Nat → Int32)
  | 0 => (nI 0, nI 1, 0, w, s)
  | k + 1 => pmX b L (pmT b L s w k)
section PMT
variable {b : Nat → Int32} {L : Nat} {s w : Nat → Int32} {k : Nat}
theorem pm_stop (hk : k ≤ 61) (h : (pmT b L s w k).2.1 = nI 0 ∨ ¬ (pmT b L s w k).2.2.1 < L) : pmT b L s w 61 = pmT b L s w k := by
  have H : ∀ n, pmT b L s w (k + n) = pmT b L s w k := by
    intro n
    induction n with
    | zero => rfl
    | succ n ih =>
      show pmX b L (pmT b L s w (k + n)) = _
      rw [ih, pmX, if_pos h]
  have h2 := H (61 - k)
  rwa [show k + (61 - k) = 61 by omega] at h2
theorem pm_1 (hg : ¬ (pmT b L s w k).2.1 = nI 0) (hp : (pmT b L s w k).2.2.1 < L) (h1 : rpR b L (pmT b L s w k).2.2.1 = nI 0) : pmT b L s w (k + 1) = ((pmT b L s w k).1 + nI 0, nI 0, rpP b L (pmT b L s w k).2.2.1 + 1, rpW b L (pmT b L s w k).2.2.1 (pmT b L s w k).2.2.2.1, (pmT b L s w k).2.2.2.2) := by
  rw [pmT, pmX, if_neg (fun h => h.elim hg (fun q => q hp)), if_pos h1]
theorem pm_2 (hg : ¬ (pmT b L s w k).2.1 = nI 0) (hp : (pmT b L s w k).2.2.1 < L) (h1 : ¬ rpR b L (pmT b L s w k).2.2.1 = nI 0) (h2 : dpR (pmT b L s w k).2.2.2.2 (nxM b L (pmT b L s w k).2.2.1) (rpW b L (pmT b L s w k).2.2.1 (pmT b L s w k).2.2.2.1) = nI 0) : pmT b L s w (k + 1) = ((pmT b L s w k).1 + nI 0, nI 0, rpP b L (pmT b L s w k).2.2.1 + 1, rpW b L (pmT b L s w k).2.2.1 (pmT b L s w k).2.2.2.1, dpS (pmT b L s w k).2.2.2.2 (nxM b L (pmT b L s w k).2.2.1) (rpW b L (pmT b L s w k).2.2.1 (pmT b L s w k).2.2.2.1)) := by
  rw [pmT, pmX, if_neg (fun h => h.elim hg (fun q => q hp)), if_neg h1, if_pos h2]
theorem pm_3 (hg : ¬ (pmT b L s w k).2.1 = nI 0) (hp : (pmT b L s w k).2.2.1 < L) (h1 : ¬ rpR b L (pmT b L s w k).2.2.1 = nI 0) (h2 : ¬ dpR (pmT b L s w k).2.2.2.2 (nxM b L (pmT b L s w k).2.2.1) (rpW b L (pmT b L s w k).2.2.1 (pmT b L s w k).2.2.2.1) = nI 0) : pmT b L s w (k + 1) = ((pmT b L s w k).1 + nI 1, nI 1, rpP b L (pmT b L s w k).2.2.1 + 1, rpW b L (pmT b L s w k).2.2.1 (pmT b L s w k).2.2.2.1, dpS (pmT b L s w k).2.2.2.2 (nxM b L (pmT b L s w k).2.2.1) (rpW b L (pmT b L s w k).2.2.1 (pmT b L s w k).2.2.2.1)) := by
  rw [pmT, pmX, if_neg (fun h => h.elim hg (fun q => q hp)), if_neg h1, if_neg h2]
def pmJ (b : Nat → Int32) (L : Nat) (s w : Nat → Int32) (k : Nat) : Prop := k ≤ (pmT b L s w k).2.2.1 ∧ (pmT b L s w k).2.2.1 ≤ L + 1 ∧ Mi (pmT b L s w k).2.2.2.2
theorem pmJ_s (h : pmJ b L s w k) : (¬ (pmT b L s w k).2.1 = nI 0) → (pmT b L s w k).2.2.1 < L → pmJ b L s w (k + 1) := by
  intro hg hp
  have g0 : (pmT b L s w k).2.2.1 ≤ rpP b L (pmT b L s w k).2.2.1 := rpP_ge _ _ _
  have g1 := rpP_L (b := b) (Nat.le_of_lt hp)
  obtain ⟨a1, a2, a3⟩ := h
  unfold pmJ
  by_cases h1 : rpR b L (pmT b L s w k).2.2.1 = nI 0
  · rw [pm_1 hg hp h1]
    exact ⟨by show k + 1 ≤ rpP b L (pmT b L s w k).2.2.1 + 1; omega, by show rpP b L (pmT b L s w k).2.2.1 + 1 ≤ L + 1; omega, a3⟩
  · have m := Mi_dp a3 (rp_ok (w := (pmT b L s w k).2.2.2.1) (fun q => h1 (q.trans nI_0.symm)))
    by_cases h2 : dpR (pmT b L s w k).2.2.2.2 (nxM b L (pmT b L s w k).2.2.1) (rpW b L (pmT b L s w k).2.2.1 (pmT b L s w k).2.2.2.1) = nI 0
    · rw [pm_2 hg hp h1 h2]
      exact ⟨by show k + 1 ≤ rpP b L (pmT b L s w k).2.2.1 + 1; omega, by show rpP b L (pmT b L s w k).2.2.1 + 1 ≤ L + 1; omega, m⟩
    · rw [pm_3 hg hp h1 h2]
      exact ⟨by show k + 1 ≤ rpP b L (pmT b L s w k).2.2.1 + 1; omega, by show rpP b L (pmT b L s w k).2.2.1 + 1 ≤ L + 1; omega, m⟩
theorem pmJ_0 (h : Mi s) : pmJ b L s w 0 := ⟨Nat.le_refl _, Nat.zero_le _, h⟩
theorem pmJ_lt (hL : L ≤ 60) (h : pmJ b L s w k) (hp : (pmT b L s w k).2.2.1 < L) : k < 61 := by
  have := h.1
  omega
end PMT
