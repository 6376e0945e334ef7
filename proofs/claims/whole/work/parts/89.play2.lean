section PZ
variable {g : Nat → Int32} {f : Nat → Nat → Int32} {s : Nat → Int32} {r b w : Nat → Int32} {L : Nat}
theorem pi_skip (hL : L ≤ 60) (hr : ∀ j, j < L → r j = b j) {Q0 Q1 : Nat} (hn : ∀ j, Q0 ≤ j → j < Q1 → ¬ b j = 59) (hQ : Q1 ≤ L) {j : Nat} (h1 : Q0 + 1 ≤ j) (h2 : j ≤ Q1 + 1) (h3 : j ≤ L) : plI g f r (nI L) j = plI g f r (nI L) (Q0 + 1) := by
  induction j with
  | zero => omega
  | succ j ih =>
    by_cases e : j = Q0
    · rw [e]
    · have ih := ih (by omega) (by omega) (by omega)
      rw [plI]
      have c : ¬ (nI j = 0 ∨ gt r 60 (nI j - 1) = 59) := by
        rintro (k | k)
        · exact nI_ne0 (by omega) (by omega) k
        · have e1 : nI j - 1 = nI (j - 1) := by
            have := nI_m1 (j - 1)
            rw [show j - 1 + 1 = j by omega] at this
            exact this
          rw [e1, gt_n (by omega), hr _ (by omega)] at k
          exact hn (j - 1) (by omega) (by omega) k
      rw [if_neg c, ih]
      split <;> rfl
def pjI (g : Nat → Int32) (f : Nat → Nat → Int32) (s r b w : Nat → Int32) (L k : Nat) : Prop := ∃ g' f', plI g f r (nI L) (min (pmT b L s w k).2.2.1 L) = ((pmT b L s w k).1, (pmT b L s w k).2.1, g', f') ∧ Rc g' f' (pmT b L s w k).2.2.2.2 ∧
  ((pmT b L s w k).2.1 = nI 0 ∨ (pmT b L s w k).2.2.1 = L + 1 ∨ (k ≤ (pmT b L s w k).2.2.1 ∧ (pmT b L s w k).2.2.1 < L ∧ (pmT b L s w k).2.1 = nI 1 ∧ plC r (pmT b L s w k).2.2.1 = 0 ∧ ((pmT b L s w k).2.2.1 = 0 ∨ b ((pmT b L s w k).2.2.1 - 1) = 59)))
theorem cm_pos (hc : Cm r L) : 0 < L := by
  rcases Nat.eq_zero_or_pos L with e | e
  · subst e
    rcases hc with w | w
    · exact absurd w (by show ¬ (0 : Int32) = 8; decide)
    · exact absurd w (by show ¬ (0 : Int32) = 5; decide)
  · exact e
theorem pj_0 (hc : Cm r L) (h : Rc g f s) : pjI g f s r b w L 0 := by
  refine ⟨g, f, ?_, h, Or.inr (Or.inr ⟨Nat.le_refl _, cm_pos hc, rfl, rfl, Or.inl rfl⟩)⟩
  rw [show min (pmT b L s w 0).2.2.1 L = 0 from Nat.zero_min L]
  rfl
theorem pj_s (hL : L ≤ 60) (hr : ∀ j, j < L → r j = b j) (hc : Cm r L) {k : Nat} (h : pjI g f s r b w L k) : pjI g f s r b w L (k + 1) := by
  obtain ⟨g', f', h1, h2, h3⟩ := h
  have stop : ((pmT b L s w k).2.1 = nI 0 ∨ ¬ (pmT b L s w k).2.2.1 < L) → pmT b L s w (k + 1) = pmT b L s w k := fun q => by rw [pmT, pmX, if_pos q]
  rcases h3 with h3 | h3 | ⟨k1, k2, k3, k4, k5⟩
  · have e := stop (Or.inl h3)
    unfold pjI
    rw [e]
    exact ⟨g', f', h1, h2, Or.inl h3⟩
  · have e := stop (Or.inr (by omega))
    unfold pjI
    rw [e]
    exact ⟨g', f', h1, h2, Or.inr (Or.inl h3)⟩
  · have hgo : ¬ (pmT b L s w k).2.1 = nI 0 := by rw [k3]; decide
    have hmin : min (pmT b L s w k).2.2.1 L = (pmT b L s w k).2.2.1 := by omega
    rw [hmin] at h1
    rcases part_tx hL hr (Nat.le_of_lt k2) k4 with ⟨hok, hg⟩ | ⟨hno, hb⟩
    · have hg1 := hg
      obtain ⟨g1, g2, g3, g4, g5⟩ := hg1
      have hnext : rpP b L (pmT b L s w k).2.2.1 < L → b (rpP b L (pmT b L s w k).2.2.1) = 59 ∧ plC r (rpP b L (pmT b L s w k).2.2.1 + 1) = 0 := fun hlt => by
        obtain ⟨n1, n2⟩ := gd_next hL hr hg hlt
        by_cases e : b (rpP b L (pmT b L s w k).2.2.1) = 59
        · exact ⟨e, n1 e⟩
        · have := pl_dead (n2 e) (k := L) (by omega)
          rcases hc with q | q <;> rw [this] at q <;> exact absurd q (by decide)
      obtain ⟨hR, hS⟩ := pp_eq (w := (pmT b L s w k).2.2.2.1) hL hr k2 hok h2
      have hst : nI (pmT b L s w k).2.2.1 = 0 ∨ gt r 60 (nI (pmT b L s w k).2.2.1 - 1) = 59 := by
        by_cases e : (pmT b L s w k).2.2.1 = 0
        · exact Or.inl (by rw [e]; exact nI_0)
        · refine Or.inr ?_
          have e1 : nI (pmT b L s w k).2.2.1 - 1 = nI ((pmT b L s w k).2.2.1 - 1) := by
            have := nI_m1 ((pmT b L s w k).2.2.1 - 1)
            rw [show (pmT b L s w k).2.2.1 - 1 + 1 = (pmT b L s w k).2.2.1 by omega] at this
            exact this
          rw [e1, gt_n (by omega), hr _ (by omega)]
          exact k5.resolve_left e
      have hne : ¬ (plI g f r (nI L) (pmT b L s w k).2.2.1).2.1 = 0 := by
        rw [h1]
        show ¬ (pmT b L s w k).2.1 = 0
        rw [k3]
        decide
      have hone : plI g f r (nI L) ((pmT b L s w k).2.2.1 + 1) = (if ppR g' f' r (nI L) (nI (pmT b L s w k).2.2.1) = 0 then ((pmT b L s w k).1 + 0, ppR g' f' r (nI L) (nI (pmT b L s w k).2.2.1), ppG g' f' r (nI L) (nI (pmT b L s w k).2.2.1), ppF g' f' r (nI L) (nI (pmT b L s w k).2.2.1)) else ((pmT b L s w k).1 + 1, ppR g' f' r (nI L) (nI (pmT b L s w k).2.2.1), ppG g' f' r (nI L) (nI (pmT b L s w k).2.2.1), ppF g' f' r (nI L) (nI (pmT b L s w k).2.2.1))) := by
        rw [plI, if_neg hne, if_pos hst, h1]
      have hto : plI g f r (nI L) (min (rpP b L (pmT b L s w k).2.2.1 + 1) L) = plI g f r (nI L) ((pmT b L s w k).2.2.1 + 1) := pi_skip hL hr g4 g2 (by omega) (by omega) (by omega)
      have tail : rpP b L (pmT b L s w k).2.2.1 + 1 = L + 1 ∨ (k + 1 ≤ rpP b L (pmT b L s w k).2.2.1 + 1 ∧ rpP b L (pmT b L s w k).2.2.1 + 1 < L ∧ plC r (rpP b L (pmT b L s w k).2.2.1 + 1) = 0 ∧ b (rpP b L (pmT b L s w k).2.2.1 + 1 - 1) = 59) := by
        by_cases e : rpP b L (pmT b L s w k).2.2.1 = L
        · exact Or.inl (by omega)
        · obtain ⟨n1, n2⟩ := hnext (by omega)
          refine Or.inr ⟨by omega, ?_, n2, n1⟩
          rcases Nat.lt_or_ge (rpP b L (pmT b L s w k).2.2.1 + 1) L with q | q
          · exact q
          · have e2 : rpP b L (pmT b L s w k).2.2.1 + 1 = L := by omega
            rw [e2] at n2
            rcases hc with c | c <;> rw [n2] at c <;> exact absurd c (by decide)
      have hok' : ¬ rpR b L (pmT b L s w k).2.2.1 = nI 0 := fun q => hok (q.trans nI_0)
      rw [hR] at hone
      unfold pjI
      by_cases hz : dpR (pmT b L s w k).2.2.2.2 (nxM b L (pmT b L s w k).2.2.1) (rpW b L (pmT b L s w k).2.2.1 (pmT b L s w k).2.2.2.1) = nI 0
      · rw [pm_2 hgo k2 hok' hz]
        refine ⟨_, _, ?_, hS, Or.inl rfl⟩
        show plI g f r (nI L) (min (rpP b L (pmT b L s w k).2.2.1 + 1) L) = _
        rw [hto, hone, if_pos (hz.trans nI_0), hz]
        rfl
      · rw [pm_3 hgo k2 hok' hz]
        have h1' : dpR (pmT b L s w k).2.2.2.2 (nxM b L (pmT b L s w k).2.2.1) (rpW b L (pmT b L s w k).2.2.1 (pmT b L s w k).2.2.2.1) = nI 1 := by
          unfold dpR at hz ⊢
          revert hz
          repeat' split
          all_goals (intro hz; first | rfl | exact absurd rfl hz)
        refine ⟨_, _, ?_, hS, ?_⟩
        · show plI g f r (nI L) (min (rpP b L (pmT b L s w k).2.2.1 + 1) L) = _
          rw [hto, hone, if_neg (fun q => hz (q.trans nI_0.symm)), h1']
          rfl
        · rcases tail with q | ⟨q1, q2, q3, q4⟩
          · exact Or.inr (Or.inl q)
          · exact Or.inr (Or.inr ⟨q1, q2, rfl, q3, Or.inr q4⟩)
    · exfalso
      obtain ⟨b1, b2, b3, b4, b5⟩ := hb
      by_cases e : rpP b L (pmT b L s w k).2.2.1 = L
      · exact b5 e hc
      · have hlt : rpP b L (pmT b L s w k).2.2.1 < L := by omega
        have pm : plC r (rpP b L (pmT b L s w k).2.2.1 + 1) = -1 := by rw [pl_s hL hr hlt]; exact b4 hlt
        have := pl_dead pm (k := L) (by omega)
        rcases hc with q | q <;> rw [this] at q <;> exact absurd q (by decide)
theorem play_eq (hL : L ≤ 60) (hr : ∀ j, j < L → r j = b j) (hc : Cm r L) (h : Rc g f s) : (plI g f r (nI L) L).1 = (pmT b L s w 61).1 ∧ Rc (plI g f r (nI L) L).2.2.1 (plI g f r (nI L) L).2.2.2 (pmT b L s w 61).2.2.2.2 := by
  have hk : ∀ k, pjI g f s r b w L k := fun k => by
    induction k with
    | zero => exact pj_0 hc h
    | succ k ih => exact pj_s hL hr hc ih
  have h61 := hk 61
  unfold pjI at h61
  generalize pmT b L s w 61 = T at h61 ⊢
  obtain ⟨g', f', h1, h2, h3⟩ := h61
  have e : plI g f r (nI L) L = (T.1, T.2.1, g', f') := by
    rcases h3 with h3 | h3 | ⟨k1, k2, -⟩
    · rw [← h1]
      refine (plI_stop (Nat.min_le_right _ _) ?_).symm
      rw [h1]
      exact h3.trans nI_0
    · rw [← h1, show min T.2.2.1 L = L by omega]
    · omega
  rw [e]
  exact ⟨rfl, h2⟩
end PZ
