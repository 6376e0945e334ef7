/-! how far the reader goes -/
theorem nx_lt {b : Nat → Int32} {L P : Nat} {c : Int32} (hc : ¬ nI 0 = c) (h : nxM b L P = c) : P < L := by
  unfold nxM at h
  by_cases q : P < L
  · exact q
  · rw [if_neg q] at h; exact absurd h hc
theorem dt_lt {b : Nat → Int32} {L P : Nat} {lo : Int32} (hlo : ¬ lo ≤ nI 0 - nI 48) (h : lo ≤ dtM b L P) : P < L := by
  unfold dtM nxM at h
  by_cases q : P < L
  · exact q
  · rw [if_neg q] at h; exact absurd h hlo
theorem tkP_ge (b : Nat → Int32) (L P : Nat) (c : Int32) : P ≤ tkP b L P c := by
  unfold tkP
  split <;> omega
theorem rgP_ge (b : Nat → Int32) (L P : Nat) (lo hi : Int32) : P ≤ rgP b L P lo hi := by
  unfold rgP
  split <;> omega
theorem tkP_L {b : Nat → Int32} {L P : Nat} {c : Int32} (hc : ¬ nI 0 = c) (h : P ≤ L) : tkP b L P c ≤ L := by
  unfold tkP
  split
  · rename_i q
    exact nx_lt hc q
  · exact h
theorem rgP_L {b : Nat → Int32} {L P : Nat} {lo hi : Int32} (hlo : ¬ lo ≤ nI 0 - nI 48) (h : P ≤ L) : rgP b L P lo hi ≤ L := by
  unfold rgP
  split
  · rename_i q
    exact dt_lt hlo q.1
  · exact h
theorem tkP_t {b : Nat → Int32} {L P : Nat} {c : Int32} (h : nxM b L P = c) : tkP b L P c = P + 1 := if_pos h
theorem tkP_f {b : Nat → Int32} {L P : Nat} {c : Int32} (h : ¬ nxM b L P = c) : tkP b L P c = P := if_neg h
theorem rgP_t {b : Nat → Int32} {L P : Nat} {lo hi : Int32} (h : lo ≤ dtM b L P ∧ dtM b L P ≤ hi) : rgP b L P lo hi = P + 1 := if_pos h
theorem rgP_f {b : Nat → Int32} {L P : Nat} {lo hi : Int32} (h : ¬ (lo ≤ dtM b L P ∧ dtM b L P ≤ hi)) : rgP b L P lo hi = P := if_neg h
theorem daP_ge (b : Nat → Int32) (L P : Nat) : P ≤ daP b L P := by
  have h := rgP_ge b L P (nI 1) (nI 9)
  unfold daP
  split
  · split <;> omega
  · omega
theorem daP_L {b : Nat → Int32} {L P : Nat} (h : P ≤ L) : daP b L P ≤ L := by
  have h1 : rgP b L (P) (nI 1) (nI 9) ≤ L := rgP_L (by decide) h
  unfold daP
  split
  · split
    · rename_i q
      refine Nat.lt_of_not_le fun hn => ?_
      have e : nxM b L (rgP b L (P) (nI 1) (nI 9)) = nI 0 := if_neg (by omega)
      rw [e] at q
      exact absurd q.1 (by decide)
    · exact h1
  · exact h1
theorem rpP_L {b : Nat → Int32} {L P : Nat} (h : P ≤ L) : rpP b L P ≤ L := by
  have h1 : tkP b L P (nI 43) ≤ L := tkP_L (by decide) h
  have h2 : tkP b L (tkP b L P (nI 43)) (nI 33) ≤ L := tkP_L (by decide) h1
  have h3 : daP b L (tkP b L P (nI 43)) ≤ L := daP_L h1
  have h4 : rgP b L (tkP b L (tkP b L P (nI 43)) (nI 33)) (nI 0) (nI 9) ≤ L := rgP_L (by decide) h2
  have h5 : rgP b L (rgP b L (tkP b L (tkP b L P (nI 43)) (nI 33)) (nI 0) (nI 9)) (nI 0) (nI 7) ≤ L := rgP_L (by decide) h4
  have h6 : rgP b L (tkP b L (tkP b L P (nI 43)) (nI 33)) (nI 0) (nI 7) ≤ L := rgP_L (by decide) h2
  have h7 : tkP b L (rgP b L (tkP b L (tkP b L P (nI 43)) (nI 33)) (nI 0) (nI 7)) (nI 114) ≤ L := tkP_L (by decide) h6
  have h8 : rgP b L (tkP b L (rgP b L (tkP b L (tkP b L P (nI 43)) (nI 33)) (nI 0) (nI 7)) (nI 114)) (nI 0) (nI 5) ≤ L := rgP_L (by decide) h7
  have h9 : rgP b L (rgP b L (tkP b L (rgP b L (tkP b L (tkP b L P (nI 43)) (nI 33)) (nI 0) (nI 7)) (nI 114)) (nI 0) (nI 5)) (nI 1) (nI 5) ≤ L := rgP_L (by decide) h8
  unfold rpP
  repeat' split
  all_goals assumption
theorem rpP_gt {b : Nat → Int32} {L P : Nat} (h : ¬ rpR b L P = 0) : P < rpP b L P := by
  have h1 := tkP_ge b L P (nI 43)
  have h2 := tkP_ge b L (tkP b L P (nI 43)) (nI 33)
  have h3 := daP_ge b L (tkP b L P (nI 43))
  have h4 := rgP_ge b L (rgP b L (tkP b L (tkP b L P (nI 43)) (nI 33)) (nI 0) (nI 9)) (nI 0) (nI 7)
  have h6 := rgP_ge b L (tkP b L (tkP b L P (nI 43)) (nI 33)) (nI 0) (nI 7)
  have h7 := tkP_ge b L (rgP b L (tkP b L (tkP b L P (nI 43)) (nI 33)) (nI 0) (nI 7)) (nI 114)
  have h8 := rgP_ge b L (tkP b L (rgP b L (tkP b L (tkP b L P (nI 43)) (nI 33)) (nI 0) (nI 7)) (nI 114)) (nI 0) (nI 5)
  have h9 := rgP_ge b L (rgP b L (tkP b L (rgP b L (tkP b L (tkP b L P (nI 43)) (nI 33)) (nI 0) (nI 7)) (nI 114)) (nI 0) (nI 5)) (nI 1) (nI 5)
  unfold rpR at h
  unfold rpP
  by_cases q1 : nxM b L P = nI 43
  · rw [if_pos q1]
    have e := tkP_t q1
    omega
  · rw [if_neg q1] at h ⊢
    by_cases q2 : nxM b L (tkP b L P (nI 43)) = nI 33
    · rw [if_pos q2] at h ⊢
      have e := tkP_t q2
      by_cases q3 : (nI 0 ≤ dtM b L (tkP b L (tkP b L P (nI 43)) (nI 33)) ∧ dtM b L (tkP b L (tkP b L P (nI 43)) (nI 33)) ≤ nI 9)
      · have e3 := rgP_t q3
        rw [if_pos q3]
        split <;> omega
      · rw [if_neg q3] at h
        exact absurd rfl h
    · rw [if_neg q2] at h ⊢
      by_cases q3 : (nI 0 ≤ dtM b L (tkP b L (tkP b L P (nI 43)) (nI 33)) ∧ dtM b L (tkP b L (tkP b L P (nI 43)) (nI 33)) ≤ nI 7)
      · have e3 := rgP_t q3
        rw [if_pos q3]
        repeat' split
        all_goals omega
      · rw [if_neg q3] at h
        exact absurd rfl h
/-! findError: its steps, and what it comes to -/
def feP (b : Nat → Int32) (L : Nat) : Nat → Nat
  | 0 => 0
  | k + 1 => tkP b L (rpP b L (feP b L k)) (nI 59)
def feW (b : Nat → Int32) (L : Nat) (w : Nat → Int32) : Nat → Nat → Int32
  | 0 => w
  | k + 1 => rpW b L (feP b L k) (feW b L w k)
def fdV (b : Nat → Int32) (L : Nat) : Nat → Nat → Int32
  | 0, _ => -1
  | n + 1, k => if rpR b L (feP b L k) = 0 then nI (rpP b L (feP b L k)) else if rpP b L (feP b L k) = L then -1 else if nxM b L (rpP b L (feP b L k)) = nI 59 then fdV b L n (k + 1) else nI (tkP b L (rpP b L (feP b L k)) (nI 59))
def fdP (b : Nat → Int32) (L : Nat) : Nat → Nat → Nat
  | 0, _ => 0
  | n + 1, k => if rpR b L (feP b L k) = 0 then rpP b L (feP b L k) else if rpP b L (feP b L k) = L then rpP b L (feP b L k) else if nxM b L (rpP b L (feP b L k)) = nI 59 then fdP b L n (k + 1) else tkP b L (rpP b L (feP b L k)) (nI 59)
def fdW (b : Nat → Int32) (L : Nat) (w : Nat → Int32) : Nat → Nat → Nat → Int32
  | 0, _ => w
  | n + 1, k => if rpR b L (feP b L k) = 0 then rpW b L (feP b L k) (feW b L w k) else if rpP b L (feP b L k) = L then rpW b L (feP b L k) (feW b L w k) else if nxM b L (rpP b L (feP b L k)) = nI 59 then fdW b L w n (k + 1) else rpW b L (feP b L k) (feW b L w k)
def feJ (b : Nat → Int32) (L : Nat) (w : Nat → Int32) (k : Nat) : Prop := k ≤ feP b L k ∧ feP b L k ≤ L ∧ fdV b L 61 0 = fdV b L (61 - k) k ∧ fdP b L 61 0 = fdP b L (61 - k) k ∧ fdW b L w 61 0 = fdW b L w (61 - k) k
theorem feJ_0 {b : Nat → Int32} {L : Nat} {w : Nat → Int32} : feJ b L w 0 := ⟨Nat.le_refl _, Nat.zero_le _, rfl, rfl, rfl⟩
theorem feJ_lt {b : Nat → Int32} {L : Nat} {w : Nat → Int32} {k : Nat} (hL : L ≤ 60) (h : feJ b L w k) : k < 61 := by
  have := h.1
  have := h.2.1
  omega
theorem feJ_s {b : Nat → Int32} {L : Nat} {w : Nat → Int32} {k : Nat} (hL : L ≤ 60) (h : feJ b L w k) (h1 : ¬ rpR b L (feP b L k) = 0) (h2 : ¬ rpP b L (feP b L k) = L) (h3 : nxM b L (rpP b L (feP b L k)) = nI 59) : feJ b L w (k + 1) := by
  have hk := feJ_lt hL h
  obtain ⟨a1, a2, a3, a4, a5⟩ := h
  have g1 := rpP_gt h1
  have g2 : rpP b L (feP b L k) < L := nx_lt (by decide) h3
  refine ⟨?_, ?_, ?_, ?_, ?_⟩
  · rw [feP, tkP_t h3]; omega
  · rw [feP, tkP_t h3]; omega
  · rw [a3, show 61 - k = (61 - (k + 1)) + 1 by omega, fdV, if_neg h1, if_neg h2, if_pos h3]
  · rw [a4, show 61 - k = (61 - (k + 1)) + 1 by omega, fdP, if_neg h1, if_neg h2, if_pos h3]
  · rw [a5, show 61 - k = (61 - (k + 1)) + 1 by omega, fdW, if_neg h1, if_neg h2, if_pos h3]
theorem fe_1 {b : Nat → Int32} {L : Nat} {w : Nat → Int32} {k : Nat} (hL : L ≤ 60) (h : feJ b L w k) (h1 : rpR b L (feP b L k) = 0) : fdV b L 61 0 = nI (rpP b L (feP b L k)) ∧ fdP b L 61 0 = rpP b L (feP b L k) ∧ fdW b L w 61 0 = rpW b L (feP b L k) (feW b L w k) := by
  have hk := feJ_lt hL h
  obtain ⟨a1, a2, a3, a4, a5⟩ := h
  rw [a3, a4, a5, show 61 - k = (61 - (k + 1)) + 1 by omega, fdV, fdP, fdW, if_pos h1, if_pos h1, if_pos h1]
  exact ⟨rfl, rfl, rfl⟩
theorem fe_2 {b : Nat → Int32} {L : Nat} {w : Nat → Int32} {k : Nat} (hL : L ≤ 60) (h : feJ b L w k) (h1 : ¬ rpR b L (feP b L k) = 0) (h2 : rpP b L (feP b L k) = L) : fdV b L 61 0 = -1 ∧ fdP b L 61 0 = rpP b L (feP b L k) ∧ fdW b L w 61 0 = rpW b L (feP b L k) (feW b L w k) := by
  have hk := feJ_lt hL h
  obtain ⟨a1, a2, a3, a4, a5⟩ := h
  rw [a3, a4, a5, show 61 - k = (61 - (k + 1)) + 1 by omega, fdV, fdP, fdW, if_neg h1, if_neg h1, if_neg h1, if_pos h2, if_pos h2, if_pos h2]
  exact ⟨rfl, rfl, rfl⟩
theorem fe_3 {b : Nat → Int32} {L : Nat} {w : Nat → Int32} {k : Nat} (hL : L ≤ 60) (h : feJ b L w k) (h1 : ¬ rpR b L (feP b L k) = 0) (h2 : ¬ rpP b L (feP b L k) = L) (h3 : ¬ nxM b L (rpP b L (feP b L k)) = nI 59) : fdV b L 61 0 = nI (tkP b L (rpP b L (feP b L k)) (nI 59)) ∧ fdP b L 61 0 = tkP b L (rpP b L (feP b L k)) (nI 59) ∧ fdW b L w 61 0 = rpW b L (feP b L k) (feW b L w k) := by
  have hk := feJ_lt hL h
  obtain ⟨a1, a2, a3, a4, a5⟩ := h
  rw [a3, a4, a5, show 61 - k = (61 - (k + 1)) + 1 by omega, fdV, fdP, fdW, if_neg h1, if_neg h1, if_neg h1, if_neg h2, if_neg h2, if_neg h2, if_neg h3, if_neg h3, if_neg h3]
  exact ⟨rfl, rfl, rfl⟩
