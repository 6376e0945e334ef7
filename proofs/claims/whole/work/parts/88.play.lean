/-! a plan that is played: the class and the model -/
section PY
variable {r b w : Nat → Int32} {L P : Nat}
theorem dt_gt (hL : L ≤ 60) (hr : ∀ j, j < L → r j = b j) {Q : Nat} (hQ : Q < L) : dtM b L Q = gt r 60 (nI Q) - 48 := by
  unfold dtM
  rw [nx_in hQ, gt_n (by omega), hr Q hQ]
  rfl
theorem add_sub3 (a c d : Int32) : a + c - d = a + (c - d) := by rw [Int32.sub_eq_add_neg, Int32.sub_eq_add_neg, Int32.add_assoc]
theorem rp_num (hL : L ≤ 60) (hr : ∀ j, j < L → r j = b j) (h : ¬ rpR b L P = 0) : (nxM b L P = nI 43 ∧ dyC r (nI L) (nI P + 1) = rpW b L P w 0) ∨ (¬ nxM b L P = nI 43 ∧ nxM b L P = nI 33 ∧ gt r 60 (nI P + 1) - 48 = rpW b L P w 0 ∧ gt r 60 (nI P + 2) - 48 = rpW b L P w 1) ∨ (¬ nxM b L P = nI 43 ∧ ¬ nxM b L P = nI 33 ∧ gt r 60 (nI P) - 48 = rpW b L P w 0 ∧ gt r 60 (nI P + 2) - 48 = rpW b L P w 1 ∧ gt r 60 (nI P + 3) - 48 = rpW b L P w 2) := by
  have a1 : nI P + 1 = nI (P + 1) := nI_add P 1
  have a2 : nI P + 2 = nI (P + 1 + 1) := nI_add P 2
  have a3 : nI P + 3 = nI (P + 1 + 1 + 1) := nI_add P 3
  have a4 : nI (P + 1) + 1 = nI (P + 1 + 1) := nI_add (P + 1) 1
  rw [a1, a2, a3]
  unfold rpR at h
  unfold rpW
  by_cases q1 : nxM b L P = nI 43
  · rw [if_pos q1] at h ⊢
    refine Or.inl ⟨q1, ?_⟩
    have o1 := bI_1 h
    rw [tkP_t q1] at o1 ⊢
    have hQ := dt_lt (by decide) o1.1
    unfold daW dyC
    rw [if_pos o1, rgP_t o1, a4]
    have k : (nI (P + 1 + 1) < nI L ∧ (48 ≤ gt r 60 (nI (P + 1 + 1)) ∧ gt r 60 (nI (P + 1 + 1)) ≤ 57)) ↔ (nI 48 ≤ nxM b L (P + 1 + 1) ∧ nxM b L (P + 1 + 1) ≤ nI 57) := by
      rw [nI_ltI (by omega) (by omega)]
      by_cases e : P + 1 + 1 < L
      · rw [nx_in e, gt_n (by omega), hr _ e]
        exact ⟨fun w => w.2, fun w => ⟨e, w⟩⟩
      · rw [nx_out e]
        exact ⟨fun w => absurd w.1 e, fun w => absurd w.1 (by decide)⟩
    by_cases o2 : nI 48 ≤ nxM b L (P + 1 + 1) ∧ nxM b L (P + 1 + 1) ≤ nI 57
    · rw [if_pos (k.mpr o2), if_pos o2, upd_eq, upd_eq, dt_gt hL hr hQ]
      have e : P + 1 + 1 < L := (nI_ltI (by omega) (by omega)).mp (k.mpr o2).1
      rw [nx_in e, gt_n (i := P + 1 + 1) (by omega), hr _ e, add_sub3]
      rfl
    · rw [if_neg (fun w => o2 (k.mp w)), if_neg o2, upd_eq, dt_gt hL hr hQ]
  · rw [if_neg q1] at h ⊢
    rw [tkP_f q1] at h ⊢
    by_cases q2 : nxM b L P = nI 33
    · rw [if_pos q2] at h ⊢
      refine Or.inr (Or.inl ⟨q1, q2, ?_⟩)
      rw [tkP_t q2] at h ⊢
      by_cases o1 : nI 0 ≤ dtM b L (P + 1) ∧ dtM b L (P + 1) ≤ nI 9
      · rw [if_pos o1] at h ⊢
        rw [rgP_t o1] at h ⊢
        by_cases o2 : nI 0 ≤ dtM b L (P + 1 + 1) ∧ dtM b L (P + 1 + 1) ≤ nI 7
        · rw [if_pos o2] at h ⊢
          rw [upd_ne (by omega), upd_eq, upd_eq, dt_gt hL hr (dt_lt (by decide) o1.1), dt_gt hL hr (dt_lt (by decide) o2.1)]
          exact ⟨rfl, rfl⟩
        · rw [if_neg o2] at h; exact absurd rfl h
      · rw [if_neg o1] at h; exact absurd rfl h
    · rw [if_neg q2] at h ⊢
      refine Or.inr (Or.inr ⟨q1, q2, ?_⟩)
      rw [tkP_f q2] at h ⊢
      by_cases o1 : nI 0 ≤ dtM b L P ∧ dtM b L P ≤ nI 7
      · rw [if_pos o1] at h ⊢
        rw [rgP_t o1] at h ⊢
        by_cases q3 : nxM b L (P + 1) = nI 114
        · rw [if_pos q3] at h ⊢
          rw [tkP_t q3] at h ⊢
          by_cases o2 : nI 0 ≤ dtM b L (P + 1 + 1) ∧ dtM b L (P + 1 + 1) ≤ nI 5
          · rw [if_pos o2] at h ⊢
            rw [rgP_t o2] at h ⊢
            by_cases o3 : nI 1 ≤ dtM b L (P + 1 + 1 + 1) ∧ dtM b L (P + 1 + 1 + 1) ≤ nI 5
            · rw [if_pos o3] at h ⊢
              rw [upd_ne (by omega), upd_ne (by omega), upd_eq, upd_ne (by omega), upd_eq, upd_eq, dt_gt hL hr (dt_lt (by decide) o1.1), dt_gt hL hr (dt_lt (by decide) o2.1), dt_gt hL hr (dt_lt (by decide) o3.1)]
              exact ⟨rfl, rfl, rfl⟩
            · rw [if_neg o3] at h; exact absurd rfl h
          · rw [if_neg o2] at h; exact absurd rfl h
        · rw [if_neg q3] at h; exact absurd rfl h
      · rw [if_neg o1] at h; exact absurd rfl h
end PY
def Rc (g : Nat → Int32) (f : Nat → Nat → Int32) (s : Nat → Int32) : Prop := ∃ R H C D sn, Rl g f s R H C D sn
theorem rs_cg {s : Nat → Int32} {R H : Nat} {sn sm : Nat → Nat} {x p : Nat} {d : Int32} (h : sn x = sm x) : rsM s R H sn x p d = rsM s R H sm x p d := by unfold rsM; rw [h]
theorem do_cg {s : Nat → Int32} {sn sm : Nat → Nat} {x p : Nat} (h : sn x = sm x) : doS s sn x p = doS s sm x p := by unfold doS dbM; rw [h]
theorem tN_n {n : Nat} (h : n < 2 ^ 31) : tN (nI n) = n := nI_clamp h
section PY2
variable {g : Nat → Int32} {f : Nat → Nat → Int32} {s : Nat → Int32} {R H C D d : Nat} {sn : Nat → Nat}
theorem MI.tR (h : MI s R H C D sn) : tN (s 8) = R := by rw [h.2.2.1, tN, nI_clamp (by have := h.2.2.2.1; omega)]
theorem MI.tH (h : MI s R H C D sn) : tN (s 9) = H := by rw [h.2.2.2.2.1, tN, nI_clamp (by have := h.2.2.2.2.2.1; omega)]
theorem MI.ts (h : MI s R H C D sn) {x : Nat} (hx : x < 10) : snc s x = sn x := by
  obtain ⟨e, h8⟩ := h.2.2.2.2.2.2.2.2 x hx
  rw [snc, e, nI_clamp (by omega)]
theorem sc_iff (hM : MI s R H C D sn) {x : Nat} (hx : x < 2 ^ 30) : (nI 0 ≤ nI x ∧ nI x ≤ s 4 - nI 1) ↔ x < C := by
  have hC : C ≤ 10 := hM.2.2.2.2.2.2.2.1
  rw [hM.2.2.2.2.2.2.1]
  by_cases e : C = 0
  · subst e
    refine ⟨fun w => ?_, fun w => by omega⟩
    have k := Int32.le_trans w.1 w.2
    exact absurd k (by decide)
  · rw [nI_sub (by omega), nI_leI (by omega) (by omega), nI_leI (by omega) (by omega)]
    omega
theorem pp_eq {r b w : Nat → Int32} {L P : Nat} (hL : L ≤ 60) (hr : ∀ j, j < L → r j = b j) (hP : P < L) (hok : ¬ rpR b L P = 0) (h : Rc g f s) : ppR g f r (nI L) (nI P) = dpR s (nxM b L P) (rpW b L P w) ∧ Rc (ppG g f r (nI L) (nI P)) (ppF g f r (nI L) (nI P)) (dpS s (nxM b L P) (rpW b L P w)) := by
  obtain ⟨R, H, C, D, sn, h⟩ := h
  have hh := h
  obtain ⟨hA, hB, hC⟩ := hh
  have hM := hB.1
  have hD : D ≤ 999 := hM.2.1
  have hG : gt r 60 (nI P) = nxM b L P := by rw [gt_n (by omega), hr P hP, nx_in hP]
  have hn := rp_ok (w := w) hok
  unfold ppR ppG ppF dpR dpS
  rw [hG]
  rcases rp_num (w := w) hL hr hok with ⟨q1, e⟩ | ⟨q1, q2, e1, e2⟩ | ⟨q1, q2, e1, e2, e3⟩
  · rw [q1, if_neg (show ¬ nI 43 = 33 by decide), if_neg (show ¬ nI 43 = 33 by decide), if_neg (show ¬ nI 43 = 33 by decide), if_pos (show nI 43 = 43 from rfl), if_pos (show nI 43 = 43 from rfl), if_pos (show nI 43 = 43 from rfl), if_pos (show nI 43 = nI 43 from rfl), if_pos (show nI 43 = nI 43 from rfl), e]
    rcases hn with ⟨-, d, ed, d1, d2⟩ | ⟨w1, -⟩ | ⟨w1, -⟩
    · rw [ed]
      unfold pdG pdF
      rw [hA.g0]
      by_cases c : s 0 + nI d ≤ nI 999
      · have c' : s 0 + nI d ≤ 999 := c
        rw [if_pos c, if_pos c, if_pos c', if_pos c', bI_t c']
        refine ⟨rfl, R, H, C, D + d, sn, ?_⟩
        rw [← hA.g0]
        have := up_pass h (d := d) (by rw [hM.1, nI_add] at c; exact (nI_leI (by omega) (by omega)).mp c)
        rw [hA.g0] at *
        exact this
      · have c' : ¬ s 0 + nI d ≤ 999 := c
        rw [if_neg c, if_neg c, if_neg c', if_neg c', bI_f c']
        exact ⟨nI_0.symm, R, H, C, D, sn, h⟩
    · rw [q1] at w1; exact absurd w1 (by decide)
    · exact absurd q1 w1
  · have q1' : ¬ nI 33 = nI 43 := by decide
    rw [q2, if_pos (show nI 33 = 33 from rfl), if_pos (show nI 33 = 33 from rfl), if_pos (show nI 33 = 33 from rfl), if_neg q1', if_neg q1', if_pos (show nI 33 = nI 33 from rfl), if_pos (show nI 33 = nI 33 from rfl), e1, e2]
    rcases hn with ⟨w1, -⟩ | ⟨-, x, p, ex, hx, ep, hp⟩ | ⟨-, w1, -⟩
    · exact absurd w1 q1
    · rw [ex, ep, tN_n (show x < 2 ^ 31 by omega), tN_n (show p < 2 ^ 31 by omega), hM.tR, hM.tH, rs_cg (hM.ts hx)]
      have k1 := sc_iff hM (x := x) (by omega)
      have k2 : (0 ≤ nI x ∧ nI x < g 8) ↔ x < C := by
        rw [hA.g8, hM.2.2.2.2.2.2.1, nI_ltI (by omega) (by have := hM.2.2.2.2.2.2.2.1; omega)]
        exact ⟨fun w => w.2, fun w => ⟨nI_pos' (by omega), w⟩⟩
      unfold psF
      rw [day_eq hA hB]
      by_cases c1 : x < C
      · rw [rea_eq hA hB hC c1 hp (Nat.le_refl _) (by omega), hM.1]
        by_cases c2 : rsM s R H sn x p (nI D) = 0
        · have c2' : rsM s R H sn x p (nI D) = nI 0 := c2.trans nI_0.symm
          have w1 : (nI 0 ≤ nI x ∧ nI x ≤ s 4 - nI 1) ∧ rsM s R H sn x p (nI D) = nI 0 := ⟨k1.mpr c1, c2'⟩
          have w2 : (0 ≤ nI x ∧ nI x < g 8) ∧ rsM s R H sn x p (nI D) = 0 := ⟨k2.mpr c1, c2⟩
          rw [if_pos w1, if_pos w1, if_pos w2, bI_t w2, do_cg (hM.ts hx)]
          have := (up_shoot h c1 hp (rs_0 c2').1).1
          unfold shF at this
          rw [day_eq hA hB] at this
          exact ⟨rfl, R, H, C, D, sn, this⟩
        · have c2' : ¬ rsM s R H sn x p (nI D) = nI 0 := fun w => c2 (w.trans nI_0)
          have w1 : ¬ ((nI 0 ≤ nI x ∧ nI x ≤ s 4 - nI 1) ∧ rsM s R H sn x p (nI D) = nI 0) := fun w => c2' w.2
          have w2 : ¬ ((0 ≤ nI x ∧ nI x < g 8) ∧ rsM s R H sn x p (nI D) = 0) := fun w => c2 w.2
          rw [if_neg w1, if_neg w1, if_neg w2, bI_f w2]
          exact ⟨nI_0.symm, R, H, C, D, sn, h⟩
      · have w1 : ¬ ((nI 0 ≤ nI x ∧ nI x ≤ s 4 - nI 1) ∧ rsM s R H sn x p (s 0) = nI 0) := fun w => c1 (k1.mp w.1)
        have w2 : ¬ ((0 ≤ nI x ∧ nI x < g 8) ∧ reaC g f (nI D) (nI x) (nI p) = 0) := fun w => c1 (k2.mp w.1)
        rw [if_neg w1, if_neg w1, if_neg w2, bI_f w2]
        exact ⟨nI_0.symm, R, H, C, D, sn, h⟩
    · exact absurd q2 w1
  · rw [hG] at e1
    have c33 : ¬ nxM b L P = 33 := q2
    have c43 : ¬ nxM b L P = 43 := q1
    rw [if_neg c33, if_neg c33, if_neg c33, if_neg c43, if_neg c43, if_neg c43, if_neg q1, if_neg q1, if_neg q2, if_neg q2, e1, e2, e3]
    rcases hn with ⟨w1, -⟩ | ⟨w1, -⟩ | ⟨-, -, p, k, ρ, ep, hp, ek, hk, er, r1, r2⟩
    · exact absurd w1 q1
    · exact absurd w1 q2
    · rw [ep, ek, er, tN_n (show p < 2 ^ 31 by omega), hM.tR, hM.tH]
      unfold prG prF
      rw [day_eq hA hB, parS_eq hA hB (Nat.le_refl _) (by omega), tb_eq hk, hM.1]
      by_cases c : paM s (nI p) (nI D) H &&& bpM (nI k) = 0
      · have c' : paM s (nI p) (nI D) H &&& bpM (nI k) = nI 0 := c.trans nI_0.symm
        rw [if_pos c, if_pos c, if_pos c', if_pos c', bI_t c]
        obtain ⟨⟨R', H', this⟩, -⟩ := up_reh (r := nI ρ) h hp hk
        exact ⟨rfl, R', H', C, D, sn, this⟩
      · have c' : ¬ paM s (nI p) (nI D) H &&& bpM (nI k) = nI 0 := fun w => c (w.trans nI_0)
        rw [if_neg c, if_neg c, if_neg c', if_neg c', bI_f c]
        exact ⟨nI_0.symm, R, H, C, D, sn, h⟩
end PY2
