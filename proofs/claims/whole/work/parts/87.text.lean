/-! the class's table of places beside the model's reader -/
theorem pa_0 (c : Int32) : paC 0 c = (paF c) := by unfold paC; rw [if_pos rfl]
theorem pa_1 (c : Int32) : paC 1 c = (if c = 114 then 2 else -1) := by unfold paC; rw [if_neg (by decide), if_pos rfl]
theorem pa_2 (c : Int32) : paC 2 c = (if 48 ≤ c ∧ c ≤ 53 then 3 else -1) := by unfold paC; rw [if_neg (by decide), if_neg (by decide), if_pos rfl]
theorem pa_3 (c : Int32) : paC 3 c = (if 49 ≤ c ∧ c ≤ 53 then 8 else -1) := by unfold paC; rw [if_neg (by decide), if_neg (by decide), if_neg (by decide), if_pos rfl]
theorem pa_4 (c : Int32) : paC 4 c = (if 49 ≤ c ∧ c ≤ 57 then 5 else -1) := by unfold paC; rw [if_neg (by decide), if_neg (by decide), if_neg (by decide), if_neg (by decide), if_pos rfl]
theorem pa_5 (c : Int32) : paC 5 c = (if 48 ≤ c ∧ c ≤ 57 then 8 else paP c) := by unfold paC; rw [if_neg (by decide), if_neg (by decide), if_neg (by decide), if_neg (by decide), if_neg (by decide), if_pos rfl]
theorem pa_6 (c : Int32) : paC 6 c = (if 48 ≤ c ∧ c ≤ 57 then 7 else -1) := by unfold paC; rw [if_neg (by decide), if_neg (by decide), if_neg (by decide), if_neg (by decide), if_neg (by decide), if_neg (by decide), if_pos rfl]
theorem pa_7 (c : Int32) : paC 7 c = (if 48 ≤ c ∧ c ≤ 55 then 8 else -1) := by unfold paC; rw [if_neg (by decide), if_neg (by decide), if_neg (by decide), if_neg (by decide), if_neg (by decide), if_neg (by decide), if_neg (by decide), if_pos rfl]
theorem pa_8 (c : Int32) : paC 8 c = (paP c) := by unfold paC; rw [if_neg (by decide), if_neg (by decide), if_neg (by decide), if_neg (by decide), if_neg (by decide), if_neg (by decide), if_neg (by decide), if_neg (by decide), if_pos rfl]
theorem pa_m (c : Int32) : paC (-1) c = -1 := by unfold paC; rw [if_neg (by decide), if_neg (by decide), if_neg (by decide), if_neg (by decide), if_neg (by decide), if_neg (by decide), if_neg (by decide), if_neg (by decide), if_neg (by decide)]
theorem dg_iff {c : Int32} {lo hi : Nat} (hh : hi ≤ 9) (hl : lo ≤ 9) : (nI lo ≤ c - nI 48 ∧ c - nI 48 ≤ nI hi) ↔ (nI (48 + lo) ≤ c ∧ c ≤ nI (48 + hi)) := by
  constructor
  · rintro ⟨h1, h2⟩
    obtain ⟨n, e, n1, n2⟩ := dig (by omega) h1 h2
    have e2 : c = nI (n + 48) := by rw [← nI_add, ← e, Int32.sub_add_cancel]
    rw [e2]
    exact ⟨(nI_leI (by omega) (by omega)).mpr (by omega), (nI_leI (by omega) (by omega)).mpr (by omega)⟩
  · rintro ⟨h1, h2⟩
    obtain ⟨n, e, n1, n2⟩ := dig (by omega) h1 h2
    rw [e, nI_sub (by omega)]
    exact ⟨(nI_leI (by omega) (by omega)).mpr (by omega), (nI_leI (by omega) (by omega)).mpr (by omega)⟩
section TX
variable {r b : Nat → Int32} {L P : Nat}
theorem pl_s (hL : L ≤ 60) (hr : ∀ j, j < L → r j = b j) {j : Nat} (hj : j < L) : plC r (j + 1) = paC (plC r j) (b j) := by
  rw [plC, gt_n (by omega), hr j hj]
theorem nx_in (h : P < L) : nxM b L P = b P := if_pos h
theorem nx_out (h : ¬ P < L) : nxM b L P = nI 0 := if_neg h
theorem ok_iff {lo hi : Nat} (hh : hi ≤ 9) (hl : lo ≤ 9) : (nI lo ≤ dtM b L P ∧ dtM b L P ≤ nI hi) ↔ (P < L ∧ nI (48 + lo) ≤ b P ∧ b P ≤ nI (48 + hi)) := by
  unfold dtM
  by_cases h : P < L
  · rw [nx_in h, dg_iff hh hl]
    exact ⟨fun w => ⟨h, w⟩, fun w => w.2⟩
  · rw [nx_out h, dg_iff hh hl]
    refine ⟨fun w => absurd ((nI_leI (by omega) (by omega)).mp w.1) (by omega), fun w => absurd w.1 h⟩
theorem pl_dead {j k : Nat} (h : plC r j = -1) (hk : j ≤ k) : plC r k = -1 := by
  induction k with
  | zero => rw [← show j = 0 by omega]; exact h
  | succ k ih =>
    by_cases e : j = k + 1
    · rw [← e]; exact h
    · rw [plC, ih (by omega), pa_m]
/-- a part that is read, and where it is not -/
def Gd (r b : Nat → Int32) (L P P' : Nat) : Prop := P < P' ∧ P' ≤ L ∧ (∀ j, P ≤ j → j ≤ P' → ¬ plC r j = -1) ∧ (∀ j, P ≤ j → j < P' → ¬ b j = 59) ∧ (plC r P' = 8 ∨ (plC r P' = 5 ∧ ¬ (P' < L ∧ 48 ≤ b P' ∧ b P' ≤ 57)))
def Bd (r b : Nat → Int32) (L P P' : Nat) : Prop := P ≤ P' ∧ P' ≤ L ∧ (∀ j, P ≤ j → j ≤ P' → ¬ plC r j = -1) ∧ (P' < L → paC (plC r P') (b P') = -1) ∧ (P' = L → ¬ (plC r L = 8 ∨ plC r L = 5))
theorem bd_of {q : Int32} (hP : P ≤ L) {P0 : Nat} (h0 : P0 ≤ P) (hj : ∀ j, P0 ≤ j → j ≤ P → ¬ plC r j = -1) (hq : plC r P = q) (h8 : ¬ q = 8) (h5 : ¬ q = 5) (hb : P < L → paC q (b P) = -1) : Bd r b L P0 P := ⟨h0, hP, hj, fun h => by rw [hq]; exact hb h, fun e => by rw [← e, hq]; exact fun w => w.elim h8 h5⟩
theorem rng {x : Int32} {lo hi : Nat} (h1 : nI lo ≤ x) (h2 : x ≤ nI hi) (hh : hi < 59) : ¬ x = 59 := by
  intro e
  rw [e] at h2
  have : nI 59 ≤ nI hi := h2
  have := (nI_leI (by omega) (by omega)).mp this
  omega
theorem ext1 {Q P0 : Nat} {q : Int32} (hj : ∀ j, P0 ≤ j → j ≤ Q → ¬ plC r j = -1) (h : plC r (Q + 1) = q) (hq : ¬ q = -1) : ∀ j, P0 ≤ j → j ≤ Q + 1 → ¬ plC r j = -1 := fun j a c => by
  by_cases e : j = Q + 1
  · rw [e, h]; exact hq
  · exact hj j a (by omega)
theorem ext2 {Q P0 : Nat} (hj : ∀ j, P0 ≤ j → j < Q → ¬ b j = 59) (h : ¬ b Q = 59) : ∀ j, P0 ≤ j → j < Q + 1 → ¬ b j = 59 := fun j a c => by
  by_cases e : j = Q
  · rw [e]; exact h
  · exact hj j a (by omega)
theorem part_tx (hL : L ≤ 60) (hr : ∀ j, j < L → r j = b j) (hP : P ≤ L) (h0 : plC r P = 0) : (¬ rpR b L P = 0 ∧ Gd r b L P (rpP b L P)) ∨ (rpR b L P = 0 ∧ Bd r b L P (rpP b L P)) := by
  have j0 : ∀ j, P ≤ j → j ≤ P → ¬ plC r j = -1 := fun j a c => by rw [show j = P by omega, h0]; decide
  have n0 : ∀ j, P ≤ j → j < P → ¬ b j = 59 := fun j a c => by omega
  unfold rpR rpP
  by_cases q1 : nxM b L P = nI 43
  · rw [if_pos q1, if_pos q1, tkP_t q1]
    have hPL : P < L := nx_lt (by decide) q1
    have eb : b P = 43 := (nx_in hPL).symm.trans q1
    have s1 : plC r (P + 1) = 4 := by rw [pl_s hL hr hPL, h0, eb]; rfl
    have j1 := ext1 j0 s1 (by decide)
    have n1 := ext2 n0 (by rw [eb]; decide)
    unfold daP
    by_cases o1 : nI 1 ≤ dtM b L (P + 1) ∧ dtM b L (P + 1) ≤ nI 9
    · rw [if_pos o1, rgP_t o1]
      obtain ⟨a1, a2, a3⟩ := (ok_iff (by omega) (by omega)).mp o1
      have s2 : plC r (P + 1 + 1) = 5 := by rw [pl_s hL hr a1, s1, pa_4, if_pos ⟨a2, a3⟩]
      have j2 := ext1 j1 s2 (by decide)
      have n2 := ext2 n1 (rng a2 a3 (by omega))
      refine Or.inl ⟨fun w => bI_0 w o1, ?_⟩
      by_cases o2 : nI 48 ≤ nxM b L (P + 1 + 1) ∧ nxM b L (P + 1 + 1) ≤ nI 57
      · rw [if_pos o2]
        have a4 : P + 1 + 1 < L := Nat.lt_of_not_le fun w => by rw [nx_out (by omega)] at o2; exact absurd o2.1 (by decide)
        rw [nx_in a4] at o2
        have s3 : plC r (P + 1 + 1 + 1) = 8 := by rw [pl_s hL hr a4, s2, pa_5, if_pos ⟨o2.1, o2.2⟩]
        exact ⟨by omega, by omega, ext1 j2 s3 (by decide), ext2 n2 (rng o2.1 o2.2 (by omega)), Or.inl s3⟩
      · rw [if_neg o2]
        exact ⟨by omega, by omega, j2, n2, Or.inr ⟨s2, fun w => o2 (by rw [nx_in w.1]; exact w.2)⟩⟩
    · rw [if_neg o1, rgP_f o1]
      exact Or.inr ⟨bI_f o1, bd_of (by omega) (by omega) j1 s1 (by decide) (by decide) (fun w => by rw [pa_4]; exact if_neg fun k => o1 ((ok_iff (by omega) (by omega)).mpr ⟨w, k⟩))⟩
  · rw [if_neg q1, if_neg q1, tkP_f q1]
    by_cases q2 : nxM b L P = nI 33
    · rw [if_pos q2, if_pos q2, tkP_t q2]
      have hPL : P < L := nx_lt (by decide) q2
      have eb : b P = 33 := (nx_in hPL).symm.trans q2
      have s1 : plC r (P + 1) = 6 := by rw [pl_s hL hr hPL, h0, eb]; rfl
      have j1 := ext1 j0 s1 (by decide)
      have n1 := ext2 n0 (by rw [eb]; decide)
      by_cases o1 : nI 0 ≤ dtM b L (P + 1) ∧ dtM b L (P + 1) ≤ nI 9
      · rw [if_pos o1, if_pos o1, rgP_t o1]
        obtain ⟨a1, a2, a3⟩ := (ok_iff (by omega) (by omega)).mp o1
        have s2 : plC r (P + 1 + 1) = 7 := by rw [pl_s hL hr a1, s1, pa_6, if_pos ⟨a2, a3⟩]
        have j2 := ext1 j1 s2 (by decide)
        have n2 := ext2 n1 (rng a2 a3 (by omega))
        by_cases o2 : nI 0 ≤ dtM b L (P + 1 + 1) ∧ dtM b L (P + 1 + 1) ≤ nI 7
        · rw [if_pos o2, if_pos o2, rgP_t o2]
          obtain ⟨b1, b2, b3⟩ := (ok_iff (by omega) (by omega)).mp o2
          have s3 : plC r (P + 1 + 1 + 1) = 8 := by rw [pl_s hL hr b1, s2, pa_7, if_pos ⟨b2, b3⟩]
          exact Or.inl ⟨by decide, by omega, by omega, ext1 j2 s3 (by decide), ext2 n2 (rng b2 b3 (by omega)), Or.inl s3⟩
        · rw [if_neg o2, if_neg o2, rgP_f o2]
          exact Or.inr ⟨rfl, bd_of (by omega) (by omega) j2 s2 (by decide) (by decide) (fun w => by rw [pa_7]; exact if_neg fun k => o2 ((ok_iff (by omega) (by omega)).mpr ⟨w, k⟩))⟩
      · rw [if_neg o1, if_neg o1, rgP_f o1]
        exact Or.inr ⟨rfl, bd_of (by omega) (by omega) j1 s1 (by decide) (by decide) (fun w => by rw [pa_6]; exact if_neg fun k => o1 ((ok_iff (by omega) (by omega)).mpr ⟨w, k⟩))⟩
    · rw [if_neg q2, if_neg q2, tkP_f q2]
      by_cases o1 : nI 0 ≤ dtM b L P ∧ dtM b L P ≤ nI 7
      · rw [if_pos o1, if_pos o1, rgP_t o1]
        obtain ⟨a1, a2, a3⟩ := (ok_iff (by omega) (by omega)).mp o1
        have f1 : ¬ b P = 43 := fun w => q1 ((nx_in a1).trans w)
        have f2 : ¬ b P = 33 := fun w => q2 ((nx_in a1).trans w)
        have s1 : plC r (P + 1) = 1 := by rw [pl_s hL hr a1, h0, pa_0, paF, if_neg f2, if_neg f1, if_pos ⟨a2, a3⟩]
        have j1 := ext1 j0 s1 (by decide)
        have n1 := ext2 n0 (rng a2 a3 (by omega))
        by_cases q3 : nxM b L (P + 1) = nI 114
        · rw [if_pos q3, if_pos q3, tkP_t q3]
          have c1 : P + 1 < L := nx_lt (by decide) q3
          have ec : b (P + 1) = 114 := (nx_in c1).symm.trans q3
          have s2 : plC r (P + 1 + 1) = 2 := by rw [pl_s hL hr c1, s1, ec]; rfl
          have j2 := ext1 j1 s2 (by decide)
          have n2 := ext2 n1 (by rw [ec]; decide)
          by_cases o2 : nI 0 ≤ dtM b L (P + 1 + 1) ∧ dtM b L (P + 1 + 1) ≤ nI 5
          · rw [if_pos o2, if_pos o2, rgP_t o2]
            obtain ⟨b1, b2, b3⟩ := (ok_iff (by omega) (by omega)).mp o2
            have s3 : plC r (P + 1 + 1 + 1) = 3 := by rw [pl_s hL hr b1, s2, pa_2, if_pos ⟨b2, b3⟩]
            have j3 := ext1 j2 s3 (by decide)
            have n3 := ext2 n2 (rng b2 b3 (by omega))
            by_cases o3 : nI 1 ≤ dtM b L (P + 1 + 1 + 1) ∧ dtM b L (P + 1 + 1 + 1) ≤ nI 5
            · rw [if_pos o3, if_pos o3, rgP_t o3]
              obtain ⟨d1, d2, d3⟩ := (ok_iff (by omega) (by omega)).mp o3
              have s4 : plC r (P + 1 + 1 + 1 + 1) = 8 := by rw [pl_s hL hr d1, s3, pa_3, if_pos ⟨d2, d3⟩]
              exact Or.inl ⟨by decide, by omega, by omega, ext1 j3 s4 (by decide), ext2 n3 (rng d2 d3 (by omega)), Or.inl s4⟩
            · rw [if_neg o3, if_neg o3, rgP_f o3]
              exact Or.inr ⟨rfl, bd_of (by omega) (by omega) j3 s3 (by decide) (by decide) (fun w => by rw [pa_3]; exact if_neg fun k => o3 ((ok_iff (by omega) (by omega)).mpr ⟨w, k⟩))⟩
          · rw [if_neg o2, if_neg o2, rgP_f o2]
            exact Or.inr ⟨rfl, bd_of (by omega) (by omega) j2 s2 (by decide) (by decide) (fun w => by rw [pa_2]; exact if_neg fun k => o2 ((ok_iff (by omega) (by omega)).mpr ⟨w, k⟩))⟩
        · rw [if_neg q3, if_neg q3, tkP_f q3]
          exact Or.inr ⟨rfl, bd_of (by omega) (by omega) j1 s1 (by decide) (by decide) (fun w => by rw [pa_1]; exact if_neg fun k => q3 ((nx_in w).trans k))⟩
      · rw [if_neg o1, if_neg o1, rgP_f o1]
        exact Or.inr ⟨rfl, bd_of hP (Nat.le_refl _) j0 h0 (by decide) (by decide) (fun w => by rw [pa_0, paF, if_neg (show ¬ b P = 33 from fun k => q2 ((nx_in w).trans k)), if_neg (show ¬ b P = 43 from fun k => q1 ((nx_in w).trans k))]; exact if_neg fun k => o1 ((ok_iff (by omega) (by omega)).mpr ⟨w, k⟩))⟩
/-! where the text is wrong, and whether it is complete -/
theorem er_at {n : Int32} {m k e : Nat} (h : ∀ j, k ≤ j → j < e → ¬ plC r (j + 1) = -1) (he : plC r (e + 1) = -1) (hk : k ≤ e) (hm : e < k + m) : erC r n m k = nI e := by
  induction m generalizing k with
  | zero => omega
  | succ m ih =>
    rw [erC]
    by_cases q : k = e
    · subst q; rw [if_pos he]
    · rw [if_neg (h k (Nat.le_refl _) (by omega))]
      exact ih (fun j a c => h j (by omega) c) (by omega) (by omega)
theorem er_none {n : Int32} {m k : Nat} (h : ∀ j, k ≤ j → j < k + m → ¬ plC r (j + 1) = -1) : erC r n m k = n := by
  induction m generalizing k with
  | zero => rfl
  | succ m ih =>
    rw [erC, if_neg (h k (Nat.le_refl _) (by omega))]
    exact ih fun j a c => h j (by omega) (by omega)
def Cm (r : Nat → Int32) (L : Nat) : Prop := plC r L = 8 ∨ plC r L = 5
theorem paP_ne {c : Int32} (h : ¬ c = 59) : paP c = -1 := by unfold paP; exact if_neg h
theorem gd_next (hL : L ≤ 60) (hr : ∀ j, j < L → r j = b j) {P' : Nat} (h : Gd r b L P P') (hlt : P' < L) : (b P' = 59 → plC r (P' + 1) = 0) ∧ (¬ b P' = 59 → plC r (P' + 1) = -1) := by
  obtain ⟨-, -, -, -, h8⟩ := h
  rcases h8 with h8 | ⟨h5, hn⟩
  · exact ⟨fun e => by rw [pl_s hL hr hlt, h8, pa_8, e]; rfl, fun e => by rw [pl_s hL hr hlt, h8, pa_8]; exact paP_ne e⟩
  · have w : ¬ (48 ≤ b P' ∧ b P' ≤ 57) := fun k => hn ⟨hlt, k⟩
    exact ⟨fun e => by rw [pl_s hL hr hlt, h5, pa_5, if_neg w, e]; rfl, fun e => by rw [pl_s hL hr hlt, h5, pa_5, if_neg w]; exact paP_ne e⟩
theorem fd_eq (hL : L ≤ 60) (hr : ∀ j, j < L → r j = b j) {n k : Nat} (hn : n + k = 61) (hk : k ≤ feP b L k) (hf : feP b L k ≤ L) (h0 : plC r (feP b L k) = 0) (hj : ∀ j, j ≤ feP b L k → ¬ plC r j = -1) :
    (fdV b L n k = -1 ∧ Cm r L ∧ erC r (nI L) L 0 = nI L) ∨ (∃ e, fdV b L n k = nI e ∧ e ≤ L ∧ ¬ Cm r L ∧ erC r (nI L) L 0 = nI e) := by
  induction n generalizing k with
  | zero => omega
  | succ n ih =>
    rw [fdV]
    rcases part_tx hL hr hf h0 with ⟨h1, hg⟩ | ⟨h1, hb⟩
    · have hg1 := hg
      obtain ⟨g1, g2, g3, g4, g5⟩ := hg1
      have hj' : ∀ j, j ≤ rpP b L (feP b L k) → ¬ plC r j = -1 := fun j hq => by
        by_cases q : j ≤ feP b L k
        · exact hj j q
        · exact g3 j (by omega) hq
      rw [if_neg h1]
      by_cases h2 : rpP b L (feP b L k) = L
      · rw [if_pos h2]
        refine Or.inl ⟨rfl, ?_, er_none fun j a c => hj' (j + 1) (by omega)⟩
        rw [h2] at g5
        exact g5.imp id fun w => w.1
      · rw [if_neg h2]
        have hlt : rpP b L (feP b L k) < L := by omega
        obtain ⟨n1, n2⟩ := gd_next hL hr hg hlt
        by_cases h3 : nxM b L (rpP b L (feP b L k)) = nI 59
        · rw [if_pos h3]
          have e59 : b (rpP b L (feP b L k)) = 59 := (nx_in hlt).symm.trans h3
          have ef : feP b L (k + 1) = rpP b L (feP b L k) + 1 := by rw [feP, tkP_t h3]
          have p0 := n1 e59
          refine ih (by omega) (by rw [ef]; omega) (by rw [ef]; omega) (by rw [ef]; exact p0) (fun j hq => ?_)
          rw [ef] at hq
          by_cases q : j ≤ rpP b L (feP b L k)
          · exact hj' j q
          · rw [show j = rpP b L (feP b L k) + 1 by omega, p0]; decide
        · rw [if_neg h3, tkP_f h3]
          have e59 : ¬ b (rpP b L (feP b L k)) = 59 := fun w => h3 ((nx_in hlt).trans w)
          have pm := n2 e59
          refine Or.inr ⟨_, rfl, by omega, fun w => ?_, er_at (fun j a c => hj' (j + 1) (by omega)) pm (Nat.zero_le _) (by omega)⟩
          have := pl_dead pm (k := L) (by omega)
          rcases w with w | w <;> rw [this] at w <;> exact absurd w (by decide)
    · rw [if_pos h1]
      obtain ⟨b1, b2, b3, b4, b5⟩ := hb
      have hj' : ∀ j, j ≤ rpP b L (feP b L k) → ¬ plC r j = -1 := fun j hq => by
        by_cases q : j ≤ feP b L k
        · exact hj j q
        · exact b3 j (by omega) hq
      refine Or.inr ⟨_, rfl, b2, ?_, ?_⟩
      · by_cases e : rpP b L (feP b L k) = L
        · exact b5 e
        · have hlt : rpP b L (feP b L k) < L := by omega
          have pm : plC r (rpP b L (feP b L k) + 1) = -1 := by rw [pl_s hL hr hlt]; exact b4 hlt
          intro w
          have := pl_dead pm (k := L) (by omega)
          rcases w with w | w <;> rw [this] at w <;> exact absurd w (by decide)
      · by_cases e : rpP b L (feP b L k) = L
        · rw [e]
          exact er_none fun j a c => hj' (j + 1) (by omega)
        · have hlt : rpP b L (feP b L k) < L := by omega
          have pm : plC r (rpP b L (feP b L k) + 1) = -1 := by rw [pl_s hL hr hlt]; exact b4 hlt
          exact er_at (fun j a c => hj' (j + 1) (by omega)) pm (Nat.zero_le _) (by omega)
theorem fd_all (hL : L ≤ 60) (hr : ∀ j, j < L → r j = b j) : (fdV b L 61 0 = -1 ∧ Cm r L ∧ erC r (nI L) L 0 = nI L) ∨ (∃ e, fdV b L 61 0 = nI e ∧ e ≤ L ∧ ¬ Cm r L ∧ erC r (nI L) L 0 = nI e) :=
  fd_eq hL hr rfl (Nat.le_refl _) (Nat.zero_le _) rfl (fun j hj => by rw [show j = 0 from Nat.le_zero.mp hj]; exact (by decide : ¬ (0 : Int32) = -1))
theorem er_eq (hL : L ≤ 60) (hr : ∀ j, j < L → r j = b j) : erC r (nI L) L 0 = feR b L := by
  unfold feR
  rcases fd_all hL hr with ⟨h1, -, h2⟩ | ⟨e, h1, h2, -, h3⟩
  · rw [if_pos h1, h2]
  · rw [h1, if_neg (nI_m (by omega)), h3]
theorem cm_iff (hL : L ≤ 60) (hr : ∀ j, j < L → r j = b j) : Cm r L ↔ fdV b L 61 0 = -1 := by
  rcases fd_all hL hr with ⟨h1, h2, -⟩ | ⟨e, h1, h2, h3, -⟩
  · exact ⟨fun _ => h1, fun _ => h2⟩
  · exact ⟨fun w => absurd w h3, fun w => absurd (h1.symm.trans w) (nI_m (by omega))⟩
end TX
