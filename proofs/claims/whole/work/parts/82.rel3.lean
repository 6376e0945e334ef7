section RL3
variable {g : Nat → Int32} {f : Nat → Nat → Int32} {s : Nat → Int32} {R H C D d : Nat} {sn : Nat → Nat}
/-! the first day on which somebody is cleared -/
theorem cn_mono (hB : RB s R H C D sn) {p : Int32} {κ : Nat} (hκ : κ < 6) {r : Int32} {d e : Nat} (hd : D ≤ d) (hde : d ≤ e) (he : e < 2 ^ 30) {n : Nat} (hn : n ≤ R) : ∃ a c, cnM s p (nI κ) r (nI d) n = nI a ∧ cnM s p (nI κ) r (nI e) n = nI c ∧ c ≤ a ∧ a ≤ n := by
  have hR : R ≤ 40 := hB.1.2.2.2.1
  obtain ⟨q, e1, e2, q1, q2⟩ := tc_eq hκ
  induction n with
  | zero => exact ⟨0, 0, rfl, rfl, Nat.le_refl _, Nat.le_refl _⟩
  | succ n ih =>
    obtain ⟨a, c, ha, hc, hac, han⟩ := ih (by omega)
    obtain ⟨z, ez, hz⟩ := hB.2.2.1 n (by omega)
    rw [cnM, cnM, ha, hc, e2, ez, nI_add z q, nI_sub (by omega), nI_add, nI_add, nI_add, nI_add]
    have k2 : nI z ≤ nI d := (nI_leI (by omega) (by omega)).mpr (by omega)
    have k3 : nI d ≤ nI (z + q - 1) ↔ d ≤ z + q - 1 := nI_leI (by omega) (by omega)
    have k4 : nI e ≤ nI (z + q - 1) ↔ e ≤ z + q - 1 := nI_leI (by omega) (by omega)
    by_cases h : (s (42 + 4 * n + 0) = p ∧ s (42 + 4 * n + 1) = nI κ ∧ r - nI 1 ≤ s (42 + 4 * n + 2)) ∧ (nI z ≤ nI e ∧ nI e ≤ nI (z + q - 1))
    · rw [if_pos h, if_pos ⟨h.1, k2, k3.mpr (by have := k4.mp h.2.2; omega)⟩]
      exact ⟨a + 1, c + 1, rfl, rfl, by omega, by omega⟩
    · rw [if_neg h]
      split
      · exact ⟨a + 1, c + 0, rfl, rfl, by omega, by omega⟩
      · exact ⟨a + 0, c + 0, rfl, rfl, by omega, by omega⟩
theorem rs_0 {x p : Nat} {dd : Int32} (h : rsM s R H sn x p dd = nI 0) : s (250 + 5 * x + 3) = -1 ∧ ¬ nI 5 < dsM s p (sn x) ∧ ¬ isM s dd < s (250 + 5 * x + 1) ∧ ¬ nI 0 < lkM s R x (nI p) dd := by
  unfold rsM at h
  by_cases c1 : ¬ s (250 + 5 * x + 3) = -1
  · rw [if_pos c1] at h; exact absurd h (by decide)
  rw [if_neg c1] at h
  by_cases c2 : nI 5 < dsM s p (sn x)
  · rw [if_pos c2] at h; exact absurd h (by decide)
  rw [if_neg c2] at h
  by_cases c3 : isM s dd < s (250 + 5 * x + 1)
  · rw [if_pos c3] at h; exact absurd h (by decide)
  rw [if_neg c3] at h
  refine ⟨Decidable.not_not.mp c1, c2, c3, fun c6 => ?_⟩
  rw [if_pos c6] at h
  split at h
  · exact absurd h (by decide)
  · split at h <;> exact absurd h (by decide)
theorem rs_045 {x p : Nat} {dd : Int32} (c1 : s (250 + 5 * x + 3) = -1) (c2 : ¬ nI 5 < dsM s p (sn x)) (c3 : ¬ isM s dd < s (250 + 5 * x + 1)) (c6 : ¬ nI 0 < lkM s R x (nI p) dd) : rsM s R H sn x p dd = 0 ∨ rsM s R H sn x p dd = 4 ∨ rsM s R H sn x p dd = 5 := by
  unfold rsM
  rw [if_neg (fun h => h c1), if_neg c2, if_neg c3, if_neg c6]
  split
  · exact Or.inr (Or.inl rfl)
  · split
    · exact Or.inr (Or.inr rfl)
    · exact Or.inl nI_0
theorem rs_later (hB : RB s R H C D sn) {x p : Nat} (hx : x < C) {d e : Nat} (hd : D ≤ d) (hde : d ≤ e) (he : e < 2 ^ 30) (h : rsM s R H sn x p (nI e) = nI 0) : rsM s R H sn x p (nI d) = 0 ∨ rsM s R H sn x p (nI d) = 4 ∨ rsM s R H sn x p (nI d) = 5 := by
  obtain ⟨κ, ρ, e1, h1, e2, h2, h3⟩ := hB.2.2.2.2.1 x hx
  obtain ⟨c1, c2, c3, c6⟩ := rs_0 h
  have hR : R ≤ 40 := hB.1.2.2.2.1
  refine rs_045 c1 c2 (fun w => c3 ?_) (fun w => c6 ?_)
  · unfold isM at w ⊢
    by_cases q : nI e ≤ s 3
    · have q2 : nI d ≤ s 3 := Int32.le_trans ((nI_leI (by omega) (by omega)).mpr hde) q
      rw [if_pos q2] at w
      rw [if_pos q]
      exact w
    · rw [if_neg q, e2]
      exact (nI_ltI (by omega) (by omega)).mpr (by omega)
  · rw [lk_lt hB hx] at w ⊢
    rw [e1] at w ⊢
    obtain ⟨a, c, ha, hc, hac, han⟩ := cn_mono hB (p := nI p) h1 (r := s (250 + 5 * x + 1)) hd hde he (Nat.le_refl R)
    obtain ⟨z, ez, hz⟩ := nd_val h1 h3
    rw [e2] at *
    rw [ha, ez] at w
    rw [hc, ez]
    have := (nI_ltI (by omega) (by omega)).mp w
    exact (nI_ltI (by omega) (by omega)).mpr (by omega)
theorem fd_none {x p : Nat} {n k : Nat} (h : ∀ j, k ≤ j → j < k + n → ¬ rsM s R H sn x p (nI j) = nI 0) : fdM s R H sn x p n k = -1 := by
  induction n generalizing k with
  | zero => rfl
  | succ n ih =>
    rw [fdM, if_neg (h k (Nat.le_refl _) (by omega))]
    exact ih fun j h1 h2 => h j (by omega) (by omega)
theorem fcd_eq (hA : RA g f s) (hB : RB s R H C D sn) (hC : RC f s C) {x p : Nat} (hx : x < C) (hp : p < 8) {n k : Nat} (hk : k + n ≤ 100) : fcdC g f (nI x) (nI p) n k = fdM s R H sn x p n (D + k) := by
  have hD : D ≤ 999 := hB.1.2.1
  induction n generalizing k with
  | zero => rfl
  | succ n ih =>
    rw [fcdC, fdM, day_eq hA hB, nI_add, rea_eq hA hB hC hx hp (by omega) (by omega), ih (by omega), nI_0]
    by_cases h : rsM s R H sn x p (nI (D + k)) = 0
    · rw [if_pos h, if_pos h]
    · rw [if_neg h, if_neg h]
      by_cases h2 : ¬ rsM s R H sn x p (nI (D + k)) = 4 ∧ ¬ rsM s R H sn x p (nI (D + k)) = 5
      · rw [if_pos h2]
        refine (fd_none fun j h3 h4 h5 => ?_).symm
        rcases rs_later hB hx (d := D + k) (e := j) (by omega) (by omega) (by omega) h5 with w | w | w
        · exact h w
        · exact h2.1 w
        · exact h2.2 w
      · rw [if_neg h2]
        rfl
/-! what goes over all scenes -/
theorem ssc_eq (hA : RA g f s) (hB : RB s R H C D sn) (hC : RC f s C) {n : Nat} (hn : n ≤ C) : sscC g f n = opM s R H sn n := by
  induction n with
  | zero => rfl
  | succ n ih =>
    rw [sscC, opM, clr_eq hA hB hC (by omega) (Nat.le_refl _), ih (by omega), nI_0]
    by_cases h : clM s R H sn n 8 = 0
    · rw [if_neg (fun w => w h), if_pos h, Int32.add_zero]
    · rw [if_pos h, if_neg h]; rfl
theorem sto_eq (hA : RA g f s) (hB : RB s R H C D sn) (hC : RC f s C) {p q : Int32} {n : Nat} (hn : n ≤ C) : stoC g f p q n = stM s R H sn p q n := by
  have hC10 : C ≤ 10 := hB.1.2.2.2.2.2.2.2.1
  induction n with
  | zero => rfl
  | succ n ih =>
    obtain ⟨κ, ρ, e1, h1, e2, h2, h3⟩ := hB.2.2.2.2.1 n (by omega)
    rw [stoC, stM, clr_eq hA hB hC (by omega) (Nat.le_refl _), ih (by omega), hA.t9 (by omega), e1, tb_eq h1, nI_0, Int32.and_comm q]
    by_cases h : ¬ bpM (nI κ) &&& q = 0 ∧ clM s R H sn n 8 = 1 <<< (p &&& 31)
    · rw [if_pos h, if_pos ⟨h.1, h.2⟩]; rfl
    · rw [if_neg h, if_neg (fun w => h ⟨w.1, w.2⟩), Int32.add_zero]
theorem sbf_eq (hA : RA g f s) (hB : RB s R H C D sn) {p : Int32} {n : Nat} (hn : n ≤ C) : sbfC g f p n = hbM s H p n := by
  have hC10 : C ≤ 10 := hB.1.2.2.2.2.2.2.2.1
  have hD : D ≤ 999 := hB.1.2.1
  induction n with
  | zero => rfl
  | succ n ih =>
    obtain ⟨κ, ρ, e1, h1, e2, h2, h3⟩ := hB.2.2.2.2.1 n (by omega)
    rw [sbfC, hbM, ih (by omega), hA.t12 (by omega), hA.t9 (by omega), e1, tb_eq h1, nI_0, day_eq hA hB, parS_eq hA hB (Nat.le_refl _) (by omega), hB.1.1]
    by_cases h : s (250 + 5 * n + 3) = -1 ∧ ¬ paM s p (nI D) H &&& bpM (nI κ) = 0
    · rw [if_pos h, if_pos h]; rfl
    · rw [if_neg h, if_neg h, Int32.add_zero]
theorem kbt_eq (hA : RA g f s) (hB : RB s R H C D sn) {p : Int32} {n : Nat} (hn : n ≤ 6) : kbtC (parS g f (g 0) p) n = bkM s H p n := by
  have hD : D ≤ 999 := hB.1.2.1
  rw [day_eq hA hB, parS_eq hA hB (Nat.le_refl _) (by omega)]
  induction n with
  | zero => rfl
  | succ n ih =>
    rw [kbtC, bkM, ih (by omega), tb_eq (by omega), nI_0, hB.1.1]
    by_cases h : ¬ paM s p (nI D) H &&& bpM (nI n) = 0
    · rw [if_pos h, if_pos h]; rfl
    · rw [if_neg h, if_neg h, Int32.or_zero]
theorem sho_eq (hA : RA g f s) (hB : RB s R H C D sn) {n : Nat} (hn : n ≤ C) : shoC (f 12) n = shM s n := by
  have hC10 : C ≤ 10 := hB.1.2.2.2.2.2.2.2.1
  induction n with
  | zero => rfl
  | succ n ih =>
    rw [shoC, shM, ih (by omega), hA.t12 (by omega), nI_0]
    by_cases h : s (250 + 5 * n + 3) = -1
    · rw [if_neg (fun w => w h), if_pos h, Int32.add_zero]
    · rw [if_pos h, if_neg h]; rfl
theorem shM_val (s : Nat → Int32) (n : Nat) : ∃ c, shM s n = nI c ∧ c ≤ n := by
  induction n with
  | zero => exact ⟨0, rfl, Nat.le_refl _⟩
  | succ n ih =>
    obtain ⟨c, e, h⟩ := ih
    rw [shM, e]
    split
    · exact ⟨c, nI_add c 0, by omega⟩
    · exact ⟨c + 1, nI_add c 1, by omega⟩
theorem shr_eq (hA : RA g f s) (hB : RB s R H C D sn) : shrC (f 12) (g 8) = srM s C := by
  unfold shrC srM
  rw [hA.cC hB, sho_eq hA hB (Nat.le_refl _), hA.g8, nI_0]
theorem per_eq (hA : RA g f s) (hB : RB s R H C D sn) (hC : RC f s C) {p : Nat} (hp : p < 8) (w : Int32) : perC g f (nI p) w = tpM s H p w := by
  have hD : D ≤ 999 := hB.1.2.1
  have e1 : parS g f (g 0) (nI p) = paM s (nI p) (s 0) H := by rw [day_eq hA hB, parS_eq hA hB (Nat.le_refl _) (by omega), hB.1.1]
  have e2 : lasC (f 6) (f 8) (g 0) (nI p) (g 7).toNatClampNeg = laM s (nI p) H := by rw [hA.cH hB, las_eq hA hB (Nat.le_refl _)]
  have e3 : sbyC (f 12) (f 13) (nI p) (g 8).toNatClampNeg = s (26 + p) := by rw [hA.cC hB]; exact (hC.2.1 p hp).symm
  unfold perC tpM
  rw [kbt_eq hA hB (Nat.le_refl _), e1, e2, e3, hA.t0 hp, hA.t1 hp, latS_eq hA hB hC hp]
  rfl
theorem scn_eq (hA : RA g f s) (hB : RB s R H C D sn) (hC : RC f s C) {x w : Nat} (hx : x < C) (hw : w < 6) : scnC g f (nI x) (nI w) = if w < 5 then s (250 + 5 * x + w) else clM s R H sn x 8 := by
  have hC10 : C ≤ 10 := hB.1.2.2.2.2.2.2.2.1
  unfold scnC
  rw [hA.t9 (by omega), hA.t10 (by omega), hA.t11 (by omega), hA.t12 (by omega), hA.t13 (by omega), clr_eq hA hB hC hx (Nat.le_refl _)]
  rcases (show w = 0 ∨ w = 1 ∨ w = 2 ∨ w = 3 ∨ w = 4 ∨ w = 5 by omega) with rfl | rfl | rfl | rfl | rfl | rfl <;> rfl
theorem cnu_eq (hA : RA g f s) (hB : RB s R H C D sn) (hC : RC f s C) {w : Nat} (hw : w < 11) (n : Int32) : cnuC g f n (nI w) = tcM s R H C sn n w := by
  have e1 : sscC g f (g 8).toNatClampNeg = opM s R H sn C := by rw [hA.cC hB, ssc_eq hA hB hC (Nat.le_refl _)]
  have e2 : shoC (f 12) (g 8).toNatClampNeg = shM s C := by rw [hA.cC hB, sho_eq hA hB (Nat.le_refl _)]
  have e3 : dblC (f 11) (f 12) (f 13) (g 8).toNatClampNeg = s 5 := by rw [hA.cC hB]; exact hC.2.2.symm
  unfold cnuC tcM
  rw [e1, e2, e3, stp_eq hA, hA.g0, hA.g1, hA.g3, hA.g4, hA.g5, hA.g8]
  rcases (show w = 0 ∨ w = 1 ∨ w = 2 ∨ w = 3 ∨ w = 4 ∨ w = 5 ∨ w = 6 ∨ w = 7 ∨ w = 8 ∨ w = 9 ∨ w = 10 by omega) with rfl | rfl | rfl | rfl | rfl | rfl | rfl | rfl | rfl | rfl | rfl <;> rfl
end RL3
