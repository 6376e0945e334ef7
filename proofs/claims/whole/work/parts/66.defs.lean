/-! the model's state, its counts read off itself -/
abbrev tN (x : Int32) : Nat := x.toNatClampNeg
def snc (s : Nat → Int32) : Nat → Nat := fun x => (s (250 + 5 * x + 2)).toNatClampNeg
def Mi (s : Nat → Int32) : Prop := MI s (tN (s 8)) (tN (s 9)) (tN (s 4)) (tN (s 0)) (snc s)
theorem Mi_of {s : Nat → Int32} {R H C D : Nat} {sn : Nat → Nat} (h : MI s R H C D sn) : Mi s := by
  obtain ⟨h0, hD, h8, hR, h9, hH, h4, hC, hs⟩ := h
  have e0 : tN (s 0) = D := by rw [h0, tN, nI_clamp (by omega)]
  have e8 : tN (s 8) = R := by rw [h8, tN, nI_clamp (by omega)]
  have e9 : tN (s 9) = H := by rw [h9, tN, nI_clamp (by omega)]
  have e4 : tN (s 4) = C := by rw [h4, tN, nI_clamp (by omega)]
  unfold Mi
  rw [e0, e8, e9, e4]
  refine ⟨h0, hD, h8, hR, h9, hH, h4, hC, fun x hx => ?_⟩
  obtain ⟨q1, q2⟩ := hs x hx
  have e : snc s x = sn x := by rw [snc, q1, nI_clamp (by omega)]
  rw [e]
  exact ⟨q1, q2⟩
theorem MI_up {s s' : Nat → Int32} {R H C D R' H' D' : Nat} {sn : Nat → Nat} (h : MI s R H C D sn) (h0 : s' 0 = nI D') (hD : D' ≤ 999) (h8 : s' 8 = nI R') (hR : R' ≤ 40) (h9 : s' 9 = nI H') (hH : H' ≤ 12) (h4 : s' 4 = s 4) (hs : ∀ x, x < 10 → s' (250 + 5 * x + 2) = s (250 + 5 * x + 2)) : MI s' R' H' C D' sn := by
  obtain ⟨-, -, -, -, -, -, q4, qC, qs⟩ := h
  refine ⟨h0, hD, h8, hR, h9, hH, h4.trans q4, qC, fun x hx => ?_⟩
  rw [hs x hx]
  exact qs x hx
theorem MI_tm {s : Nat → Int32} {R H C D : Nat} {sn : Nat → Nat} {d : Nat} (h : MI s R H C D sn) (hd : D + d ≤ 999) : MI (tmM (upd s 0 (s 0 + nI d)) 8) R H C (D + d) sn := by
  have h1 := h
  obtain ⟨h0, hD, h8, hR, h9, hH, h4, hC, hs⟩ := h1
  refine MI_up h ?_ hd ?_ hR ?_ hH ?_ fun x hx => ?_
  · rw [tm_0, h0, nI_add]
  · rw [tmM_o (by omega), upd_ne (by omega), h8]
  · rw [tmM_o (by omega), upd_ne (by omega), h9]
  · rw [tmM_o (by omega), upd_ne (by omega)]
  · rw [tmM_o (by omega), upd_ne (by omega)]
theorem MI_do {s : Nat → Int32} {R H C D : Nat} {sn : Nat → Nat} {x p : Nat} (h : MI s R H C D sn) (hx : x < 10) (hp : p < 8) : MI (doS s sn x p) R H C D sn := by
  have h1 := h
  obtain ⟨h0, hD, h8, hR, h9, hH, h4, hC, hs⟩ := h1
  refine MI_up h ?_ hD ?_ hR ?_ hH ?_ fun y hy => ?_
  · rw [doS_o (by omega) (by omega) (by omega) (by omega) (by omega), h0]
  · rw [doS_o (by omega) (by omega) (by omega) (by omega) (by omega), h8]
  · rw [doS_o (by omega) (by omega) (by omega) (by omega) (by omega), h9]
  · rw [doS_o (by omega) (by omega) (by omega) (by omega) (by omega)]
  · rw [doS_o (by omega) (by omega) (by omega) (by omega) (by omega)]
theorem MI_ij {s : Nat → Int32} {R H C D : Nat} {sn : Nat → Nat} {p q x : Int32} (h : MI s R H C D sn) : MI (ijA s H p q x) R (if H < 12 then H + 1 else 12) C D sn := by
  have h1 := h
  obtain ⟨h0, hD, h8, hR, h9, hH, h4, hC, hs⟩ := h1
  unfold ijA
  by_cases e : H < 12
  · rw [if_pos e, if_pos e]
    refine MI_up h ?_ hD ?_ hR ?_ (by omega) ?_ fun y hy => ?_
    · rw [ijS_o (by omega) (by omega) (by omega), h0]
    · rw [ijS_o (by omega) (by omega) (by omega), h8]
    · rw [ijS_9 e, h9, nI_add]
    · rw [ijS_o (by omega) (by omega) (by omega)]
    · rw [ijS_o (by omega) (by omega) (by omega)]
  · rw [if_neg e, if_neg e]
    refine MI_up h ?_ hD ?_ hR ?_ (Nat.le_refl _) ?_ fun y hy => ?_
    · rw [ijS_o (by omega) (by omega) (by omega), ij0_o (by omega) (by omega), h0]
    · rw [ijS_o (by omega) (by omega) (by omega), ij0_o (by omega) (by omega), h8]
    · rw [ijS_9 (by omega), ij0_9, h9, show H = 12 by omega, nI_sub (by omega), nI_add]
    · rw [ijS_o (by omega) (by omega) (by omega), ij0_o (by omega) (by omega)]
    · rw [ijS_o (by omega) (by omega) (by omega), ij0_o (by omega) (by omega)]
theorem MI_rh {s : Nat → Int32} {R H C D : Nat} {sn : Nat → Nat} {p : Nat} (h : MI s R H C D sn) (hp : p < 8) : MI (rh2 s p) R H C D sn := by
  have h1 := h
  obtain ⟨h0, hD, h8, hR, h9, hH, h4, hC, hs⟩ := h1
  refine MI_up h ?_ hD ?_ hR ?_ hH ?_ fun y hy => ?_
  · rw [rh2_o (by omega) (by omega), h0]
  · rw [rh2_o (by omega) (by omega), h8]
  · rw [rh2_o (by omega) (by omega), h9]
  · rw [rh2_o (by omega) (by omega)]
  · rw [rh2_o (by omega) (by omega)]
theorem MI_kp {s : Nat → Int32} {R H C D : Nat} {sn : Nat → Nat} {p k r : Int32} (h : MI s R H C D sn) (e : R < 40) : MI (kpS s R p k r) (R + 1) H C D sn := by
  have h1 := h
  obtain ⟨h0, hD, h8, hR, h9, hH, h4, hC, hs⟩ := h1
  refine MI_up h ?_ hD ?_ (by omega) ?_ hH ?_ fun y hy => ?_
  · rw [kpS_o (by omega) (by omega), h0]
  · rw [kpS_8 e, h8, nI_add]
  · rw [kpS_o (by omega) (by omega), h9]
  · rw [kpS_o (by omega) (by omega)]
  · rw [kpS_o (by omega) (by omega)]
theorem MI_rj {s : Nat → Int32} {R H C D : Nat} {sn : Nat → Nat} (h : MI s R H C D sn) (e : ¬ R < 40) : MI (rj0 s) 39 H C D sn := by
  have h1 := h
  obtain ⟨h0, hD, h8, hR, h9, hH, h4, hC, hs⟩ := h1
  refine MI_up h ?_ hD ?_ (by omega) ?_ hH ?_ fun y hy => ?_
  · rw [rj0_o (by omega) (by omega), h0]
  · rw [rj0_8, h8, show R = 40 by omega, nI_sub (by omega)]
  · rw [rj0_o (by omega) (by omega), h9]
  · rw [rj0_o (by omega) (by omega)]
  · rw [rj0_o (by omega) (by omega)]
theorem Mi_dr {s : Nat → Int32} {R H C D : Nat} {sn : Nat → Nat} {p : Nat} {k r : Int32} (h : MI s R H C D sn) (hp : p < 8) : Mi (drS s R H p k r) := by
  unfold drS
  split
  · exact Mi_of (MI_ij (MI_rh h hp))
  · split
    · rename_i e
      exact Mi_of (MI_kp (MI_rh h hp) e)
    · rename_i e
      exact Mi_of (MI_kp (MI_rj (MI_rh h hp) e) (by omega))
/-! the numbers of a part that was read -/
def NOK (g : Int32) (w : Nat → Int32) : Prop := (g = nI 43 ∧ ∃ d, w 0 = nI d ∧ 1 ≤ d ∧ d ≤ 99) ∨ (g = nI 33 ∧ ∃ x p, w 0 = nI x ∧ x < 10 ∧ w 1 = nI p ∧ p < 8) ∨ (¬ g = nI 43 ∧ ¬ g = nI 33 ∧ ∃ p k r, w 0 = nI p ∧ p < 8 ∧ w 1 = nI k ∧ k < 6 ∧ w 2 = nI r ∧ 1 ≤ r ∧ r ≤ 5)
theorem da_ok {b : Nat → Int32} {L P : Nat} {w : Nat → Int32} (h : (nI 1 ≤ dtM b L (P) ∧ dtM b L (P) ≤ nI 9)) : ∃ d, daW b L P w 0 = nI d ∧ 1 ≤ d ∧ d ≤ 99 := by
  obtain ⟨a, ea, a1, a2⟩ := dig (by omega) h.1 h.2
  unfold daW
  rw [if_pos h]
  split
  · rename_i q
    obtain ⟨c, ec, c1, c2⟩ := dig (by omega) q.1 q.2
    refine ⟨10 * a + c - 48, ?_, by omega, by omega⟩
    rw [upd_eq, upd_eq, ea, ec, pk_mul, nI_add, nI_sub (by omega)]
  · exact ⟨a, by rw [upd_eq, ea], a1, by omega⟩
theorem rp_ok {b : Nat → Int32} {L P : Nat} {w : Nat → Int32} (h : ¬ rpR b L P = 0) : NOK (nxM b L P) (rpW b L P w) := by
  unfold rpR at h
  unfold rpW NOK
  by_cases q1 : nxM b L P = nI 43
  · rw [if_pos q1] at h ⊢
    exact Or.inl ⟨q1, da_ok (bI_1 h)⟩
  · rw [if_neg q1] at h ⊢
    by_cases q2 : nxM b L (tkP b L P (nI 43)) = nI 33
    · rw [if_pos q2] at h ⊢
      rw [tkP_f q1] at q2
      by_cases q3 : (nI 0 ≤ dtM b L (tkP b L (tkP b L P (nI 43)) (nI 33)) ∧ dtM b L (tkP b L (tkP b L P (nI 43)) (nI 33)) ≤ nI 9)
      · rw [if_pos q3] at h ⊢
        by_cases q4 : (nI 0 ≤ dtM b L (rgP b L (tkP b L (tkP b L P (nI 43)) (nI 33)) (nI 0) (nI 9)) ∧ dtM b L (rgP b L (tkP b L (tkP b L P (nI 43)) (nI 33)) (nI 0) (nI 9)) ≤ nI 7)
        · rw [if_pos q4] at h ⊢
          obtain ⟨a, ea, a1, a2⟩ := dig (by omega) q3.1 q3.2
          obtain ⟨c, ec, c1, c2⟩ := dig (by omega) q4.1 q4.2
          exact Or.inr (Or.inl ⟨q2, a, c, by rw [upd_ne (by omega), upd_eq, ea], by omega, by rw [upd_eq, ec], by omega⟩)
        · rw [if_neg q4] at h
          exact absurd rfl h
      · rw [if_neg q3] at h
        exact absurd rfl h
    · rw [if_neg q2] at h ⊢
      rw [tkP_f q1] at q2
      by_cases q3 : (nI 0 ≤ dtM b L (tkP b L (tkP b L P (nI 43)) (nI 33)) ∧ dtM b L (tkP b L (tkP b L P (nI 43)) (nI 33)) ≤ nI 7)
      · rw [if_pos q3] at h ⊢
        by_cases q4 : nxM b L (rgP b L (tkP b L (tkP b L P (nI 43)) (nI 33)) (nI 0) (nI 7)) = nI 114
        · rw [if_pos q4] at h ⊢
          by_cases q5 : (nI 0 ≤ dtM b L (tkP b L (rgP b L (tkP b L (tkP b L P (nI 43)) (nI 33)) (nI 0) (nI 7)) (nI 114)) ∧ dtM b L (tkP b L (rgP b L (tkP b L (tkP b L P (nI 43)) (nI 33)) (nI 0) (nI 7)) (nI 114)) ≤ nI 5)
          · rw [if_pos q5] at h ⊢
            by_cases q6 : (nI 1 ≤ dtM b L (rgP b L (tkP b L (rgP b L (tkP b L (tkP b L P (nI 43)) (nI 33)) (nI 0) (nI 7)) (nI 114)) (nI 0) (nI 5)) ∧ dtM b L (rgP b L (tkP b L (rgP b L (tkP b L (tkP b L P (nI 43)) (nI 33)) (nI 0) (nI 7)) (nI 114)) (nI 0) (nI 5)) ≤ nI 5)
            · rw [if_pos q6] at h ⊢
              obtain ⟨a, ea, a1, a2⟩ := dig (by omega) q3.1 q3.2
              obtain ⟨c, ec, c1, c2⟩ := dig (by omega) q5.1 q5.2
              obtain ⟨d, ed, d1, d2⟩ := dig (by omega) q6.1 q6.2
              exact Or.inr (Or.inr ⟨q1, q2, a, c, d, by rw [upd_ne (by omega), upd_ne (by omega), upd_eq, ea], by omega, by rw [upd_ne (by omega), upd_eq, ec], by omega, by rw [upd_eq, ed], d1, d2⟩)
            · rw [if_neg q6] at h
              exact absurd rfl h
          · rw [if_neg q5] at h
            exact absurd rfl h
        · rw [if_neg q4] at h
          exact absurd rfl h
      · rw [if_neg q3] at h
        exact absurd rfl h
/-! what a part does -/
def dpR (s : Nat → Int32) (g : Int32) (w : Nat → Int32) : Int32 := if g = nI 43 then (if s 0 + w 0 ≤ nI 999 then nI 1 else nI 0) else if g = nI 33 then (if (nI 0 ≤ w 0 ∧ w 0 ≤ s 4 - nI 1) ∧ rsM s (tN (s 8)) (tN (s 9)) (snc s) (tN (w 0)) (tN (w 1)) (s 0) = nI 0 then nI 1 else nI 0) else (if paM s (w 0) (s 0) (tN (s 9)) &&& bpM (w 1) = nI 0 then nI 1 else nI 0)
def dpS (s : Nat → Int32) (g : Int32) (w : Nat → Int32) : Nat → Int32 := if g = nI 43 then (if s 0 + w 0 ≤ nI 999 then tmM (upd s 0 (s 0 + w 0)) 8 else s) else if g = nI 33 then (if (nI 0 ≤ w 0 ∧ w 0 ≤ s 4 - nI 1) ∧ rsM s (tN (s 8)) (tN (s 9)) (snc s) (tN (w 0)) (tN (w 1)) (s 0) = nI 0 then doS s (snc s) (tN (w 0)) (tN (w 1)) else s) else (if paM s (w 0) (s 0) (tN (s 9)) &&& bpM (w 1) = nI 0 then drS s (tN (s 8)) (tN (s 9)) (tN (w 0)) (w 1) (w 2) else s)
theorem dpR_nb (s : Nat → Int32) (g : Int32) (w : Nat → Int32) : narrow .boolean (.int (dpR s g w)) = .int (dpR s g w) := by
  unfold dpR
  repeat' split
  all_goals first | rfl | decide
theorem Mi_dp {s : Nat → Int32} {g : Int32} {w : Nat → Int32} (h : Mi s) (hn : NOK g w) : Mi (dpS s g w) := by
  have h1 := h
  obtain ⟨h0, hD, h8, hR, h9, hH, h4, hC, hs⟩ := h1
  unfold dpS
  rcases hn with ⟨rfl, d, e, d1, d2⟩ | ⟨rfl, x, p, e, hx, e1, hp⟩ | ⟨g1, g2, p, k, r, e, hp, -, -, -, -, -⟩
  · rw [if_pos rfl]
    split
    · rename_i q
      rw [e] at q ⊢
      rw [h0, nI_add, nI_leI (by omega) (by omega)] at q
      exact Mi_of (MI_tm h q)
    · exact h
  · rw [if_neg (by decide), if_pos rfl]
    split
    · rw [e, e1, tN, tN, nI_clamp (by omega), nI_clamp (by omega)]
      exact Mi_of (MI_do h hx hp)
    · exact h
  · rw [if_neg g1, if_neg g2]
    split
    · rw [e, tN, tN, tN, nI_clamp (show p < 2 ^ 31 by omega)]
      exact Mi_dr h hp
    · exact h
theorem c_X7_doesPartA (l : Launch) (E : EV) {a : Nat → Nat} {th sm ln pl : Int32} {hs : Int64} {s S b w : Nat → Int32} {g : Int32} (hM : Mi s) (hn : NOK g w) : Wr l E yX7_doesPart cX7_doesPart 3 (some .boolean) 4 99 [.ref (a 0), .int g] (mdW E a th sm ln pl hs s S b w) (mdW E a th sm ln pl hs (dpS s g w) S b w) (some (.int (dpR s g w))) := by
  have h1 := hM
  obtain ⟨h0, hD, h8, hR, h9, hH, h4, hC, hs⟩ := h1
  unfold dpR dpS
  rcases hn with ⟨rfl, d, e, d1, d2⟩ | ⟨rfl, x, p, e, hx, e1, hp⟩ | ⟨g1, g2, p, k, r, e, hp, -, -, -, -, -⟩
  · rw [if_pos rfl, if_pos rfl, e]
    by_cases q : tN (s 0) + d ≤ 999
    · have q' : s 0 + nI d ≤ nI 999 := by rw [h0, nI_add]; exact (nI_leI (by omega) (by omega)).mpr q
      rw [if_pos q', if_pos q']
      exact c_X7_doesPart_p1 l E h0 hD e ⟨d1, d2⟩ q
    · have q' : ¬ s 0 + nI d ≤ nI 999 := by rw [h0, nI_add]; exact fun h => q ((nI_leI (by omega) (by omega)).mp h)
      rw [if_neg q', if_neg q']
      exact c_X7_doesPart_p0 l E h0 hD e ⟨d1, d2⟩ q
  · rw [if_neg (show ¬ nI 33 = nI 43 by decide), if_neg (show ¬ nI 33 = nI 43 by decide), if_pos (show nI 33 = nI 33 from rfl), if_pos (show nI 33 = nI 33 from rfl), e, e1, tN, tN, tN, tN, nI_clamp (show x < 2 ^ 31 by omega), nI_clamp (show p < 2 ^ 31 by omega)]
    by_cases q : (nI 0 ≤ nI x ∧ nI x ≤ s 4 - nI 1) ∧ rsM s (tN (s 8)) (tN (s 9)) (snc s) x p (s 0) = nI 0
    · rw [if_pos q, if_pos q]
      exact c_X7_doesPart_s1 l E hM e hx e1 hp q.1 q.2
    · rw [if_neg q, if_neg q]
      exact c_X7_doesPart_s0 l E hM e hx e1 hp q
  · rw [if_neg g1, if_neg g1, if_neg g2, if_neg g2, e, tN, tN, tN, nI_clamp (show p < 2 ^ 31 by omega)]
    by_cases q : paM s (nI p) (s 0) (tN (s 9)) &&& bpM (w 1) = nI 0
    · rw [if_pos q, if_pos q]
      exact c_X7_doesPart_r1 l E hM g1 g2 e hp q
    · rw [if_neg q, if_neg q]
      exact c_X7_doesPart_r0 l E hM g1 g2 e hp q
