theorem and_n (x : Int32) : x &&& 0 = 0 := Int32.and_zero
theorem dsx : ∀ m : Fin 51, (1 ≤ m.val → -nI m.val < nI 0) ∧ ((-5 ≤ -nI m.val ∧ -nI m.val ≤ 5) ↔ m.val ≤ 5) ∧ ((-5 ≤ nI m.val ∧ nI m.val ≤ 5) ↔ m.val ≤ 5) ∧ - -nI m.val = nI m.val ∧ (nI 5 < nI m.val ↔ 5 < m.val) ∧ ¬ nI m.val < nI 0 := by decide +kernel
theorem ndx : ∀ k : Fin 6, ∀ r : Fin 6, ∃ a : Fin 11, ndM (nI k.val) (nI r.val) = nI a.val := by decide +kernel
theorem ltx : ∀ a : Fin 11, ∀ c : Fin 41, (nI 0 < nI a.val - nI c.val ↔ c.val < a.val) := by decide +kernel
theorem nd_val {κ ρ : Nat} (h1 : κ < 6) (h2 : ρ ≤ 5) : ∃ a, ndM (nI κ) (nI ρ) = nI a ∧ a ≤ 10 := by
  obtain ⟨a, e⟩ := ndx ⟨κ, h1⟩ ⟨ρ, by omega⟩
  exact ⟨a.val, e, by have := a.isLt; omega⟩
theorem cnM_val (s : Nat → Int32) (p k r d : Int32) (n : Nat) : ∃ c, cnM s p k r d n = nI c ∧ c ≤ n := by
  induction n with
  | zero => exact ⟨0, rfl, Nat.le_refl _⟩
  | succ n ih =>
    obtain ⟨c, e, h⟩ := ih
    rw [cnM, e]
    split
    · exact ⟨c + 1, nI_add c 1, by omega⟩
    · exact ⟨c, nI_add c 0, by omega⟩
section RL2
variable {g : Nat → Int32} {f : Nat → Nat → Int32} {s : Nat → Int32} {R H C D d : Nat} {sn : Nat → Nat}
def dst (a b : Nat) : Nat := if b ≤ a then a - b else b - a
theorem ds_val {p q zp zq : Nat} (hp : s (10 + p) = nI zp) (hq : s (10 + q) = nI zq) (h1 : 150 ≤ zp ∧ zp ≤ 200) (h2 : 150 ≤ zq ∧ zq ≤ 200) : dsM s p q = nI (dst zp zq) ∧ ((-5 ≤ nI zp - nI zq ∧ nI zp - nI zq ≤ 5) ↔ dst zp zq ≤ 5) := by
  unfold dsM dst
  rw [hp, hq]
  by_cases h : zq ≤ zp
  · rw [if_pos h, nI_sub h]
    have k := dsx ⟨zp - zq, by omega⟩
    exact ⟨if_neg k.2.2.2.2.2, k.2.2.1⟩
  · rw [if_neg h]
    have e : nI zp - nI zq = -nI (zq - zp) := by rw [← nI_sub (by omega), Int32.neg_sub]
    have k := dsx ⟨zq - zp, by omega⟩
    rw [e]
    exact ⟨(if_pos (k.1 (by show 1 ≤ zq - zp; omega))).trans k.2.2.2.1, k.2.1⟩
theorem alike_eq (hA : RA g f s) (hB : RB s R H C D sn) {p q : Nat} (hp : p < 8) (hq : q < 8) : (-5 ≤ gapC f (nI p) (nI q) ∧ gapC f (nI p) (nI q) ≤ 5) ↔ ¬ nI 5 < dsM s p q := by
  obtain ⟨zp, ep, p1, p2⟩ := hB.2.1 p hp
  obtain ⟨zq, eq, q1, q2⟩ := hB.2.1 q hq
  obtain ⟨k1, k2⟩ := ds_val ep eq ⟨p1, p2⟩ ⟨q1, q2⟩
  have hd : dst zp zq < 51 := by unfold dst; split <;> omega
  have k := (dsx ⟨dst zp zq, hd⟩).2.2.2.2.1
  unfold gapC
  rw [hA.t0 hp, hA.t0 hq, ep, eq, k2, k1, k]
  show dst zp zq ≤ 5 ↔ ¬ 5 < dst zp zq
  omega
theorem abs_eq (hA : RA g f s) {p q : Nat} (hp : p < 8) (hq : q < 8) : absC (gapC f (nI p) (nI q)) = dsM s p q := by
  unfold absC gapC dsM
  rw [hA.t0 hp, hA.t0 hq, nI_0]
/-- what the model keeps of shots, as the scenes say it -/
def RC (f : Nat → Nat → Int32) (s : Nat → Int32) (C : Nat) : Prop := (∀ p, p < 8 → s (18 + p) = latC (f 12) (f 13) (nI p) C) ∧ (∀ p, p < 8 → s (26 + p) = sbyC (f 12) (f 13) (nI p) C) ∧ s 5 = dblC (f 11) (f 12) (f 13) C
theorem lat_val (hA : RA g f s) (hB : RB s R H C D sn) {p : Int32} {n : Nat} (hn : n ≤ C) : latC (f 12) (f 13) p n = -1 ∨ ∃ z, latC (f 12) (f 13) p n = nI z ∧ z ≤ D := by
  have hC : C ≤ 10 := hB.1.2.2.2.2.2.2.2.1
  induction n with
  | zero => exact Or.inl rfl
  | succ n ih =>
    rw [latC]
    split
    · rename_i h
      rw [hA.t12 (by omega)] at h ⊢
      rcases hB.2.2.2.2.2 n (by omega) with w | ⟨z, q, e1, e2, -, -⟩
      · exact Or.inl w.1
      · exact Or.inr ⟨z, e1, e2⟩
    · exact ih (by omega)
theorem latS_eq (hA : RA g f s) (hB : RB s R H C D sn) (hC : RC f s C) {p : Nat} (hp : p < 8) : latS g f (nI p) = s (18 + p) := by
  unfold latS
  rw [hA.cC hB]
  exact (hC.1 p hp).symm
theorem rest_eq (hA : RA g f s) (hB : RB s R H C D sn) (hC : RC f s C) {p : Nat} (hp : p < 8) (hd : D ≤ d) (hd2 : d < 2 ^ 30) : (¬ latS g f (nI p) = -1 ∧ nI d ≤ latS g f (nI p) + 1) ↔ ¬ (s (18 + p) = -1 ∨ (¬ s (18 + p) = nI d ∧ ¬ s (18 + p) = nI d - nI 1)) := by
  rw [latS_eq hA hB hC hp]
  rcases lat_val hA hB (p := nI p) (Nat.le_refl C) with e | ⟨z, e, hz⟩
  · rw [hC.1 p hp, e]
    exact ⟨fun h => absurd rfl h.1, fun h => absurd (Or.inl rfl) h⟩
  · have hD : D ≤ 999 := hB.1.2.1
    rw [hC.1 p hp, e, nI_1]
    have k0 := nI_m (n := z) (by omega)
    have k1 : nI d ≤ nI (z + 1) ↔ d ≤ z + 1 := nI_leI (by omega) (by omega)
    have k2 : nI z = nI d ↔ z = d := nI_eq (by omega) (by omega)
    rw [k1, k2]
    by_cases h0 : d = 0
    · subst h0
      exact ⟨fun _ h => h.elim k0 (fun h => h.1 (by omega)), fun _ => ⟨k0, by omega⟩⟩
    · have k3 : nI z = nI d - nI 1 ↔ z = d - 1 := by rw [nI_sub (by omega)]; exact nI_eq (by omega) (by omega)
      rw [k3]
      exact ⟨fun h w => w.elim k0 (fun w => by omega), fun h => ⟨k0, Decidable.byContradiction fun w => h (Or.inr ⟨by omega, by omega⟩)⟩⟩
theorem lk_lt {x : Nat} {p : Int32} (hB : RB s R H C D sn) (hx : x < C) : nI 0 < lkM s R x p (nI d) ↔ cnM s p (s (250 + 5 * x + 0)) (s (250 + 5 * x + 1)) (nI d) R < ndM (s (250 + 5 * x + 0)) (s (250 + 5 * x + 1)) := by
  obtain ⟨κ, ρ, e1, h1, e2, h2, h3⟩ := hB.2.2.2.2.1 x hx
  have hR : R ≤ 40 := hB.1.2.2.2.1
  unfold lkM
  rw [e1, e2]
  obtain ⟨a, ea, ha⟩ := nd_val h1 h3
  obtain ⟨c, ec, hc⟩ := cnM_val s p (nI κ) (nI ρ) (nI d) R
  rw [ea, ec]
  have k := ltx ⟨a, by omega⟩ ⟨c, by omega⟩
  have k2 : nI c < nI a ↔ c < a := nI_ltI (by omega) (by omega)
  rw [k2]
  split
  · rename_i h
    exact k
  · rename_i h
    exact ⟨fun w => absurd w (by decide), fun w => absurd (k.mpr w) h⟩
theorem rea_eq (hA : RA g f s) (hB : RB s R H C D sn) (hC : RC f s C) {x p : Nat} (hx : x < C) (hp : p < 8) (hd : D ≤ d) (hd2 : d < 2 ^ 30) : reaC g f (nI d) (nI x) (nI p) = rsM s R H sn x p (nI d) := by
  have hC10 : C ≤ 10 := hB.1.2.2.2.2.2.2.2.1
  obtain ⟨κ, ρ, e1, h1, e2, h2, h3⟩ := hB.2.2.2.2.1 x hx
  obtain ⟨e3, h4⟩ := hB.1.2.2.2.2.2.2.2.2 x (by omega)
  unfold reaC rsM
  rw [hA.t12 (by omega), hA.t11 (by omega), hA.t10 (by omega), hA.t9 (by omega), e1, e3, tb_eq h1, parS_eq hA hB hd hd2, stp_eq hA, nd_eq]
  have q1 := alike_eq hA hB hp h4
  have q2 := rest_eq hA hB hC hp hd hd2
  have q3 : cntS g f (nI d) (nI p) (nI κ) (s (250 + 5 * x + 1)) < ndM (nI κ) (s (250 + 5 * x + 1)) ↔ nI 0 < lkM s R x (nI p) (nI d) := by
    rw [lk_lt hB hx, cntS_eq hA hB hd hd2 h1, e1]
  by_cases c1 : ¬ s (250 + 5 * x + 3) = -1
  · rw [if_pos c1, if_pos c1]; rfl
  rw [if_neg c1, if_neg c1]
  by_cases c2 : nI 5 < dsM s p (sn x)
  · rw [if_pos (fun h => q1.mp h c2), if_pos c2]; rfl
  rw [if_neg (fun h => h (q1.mpr c2)), if_neg c2]
  by_cases c3 : isM s (nI d) < s (250 + 5 * x + 1)
  · rw [if_pos c3, if_pos c3]; rfl
  rw [if_neg c3, if_neg c3]
  by_cases c4 : paM s (nI p) (nI d) H &&& bpM (nI κ) = 0
  · rw [if_neg (show ¬ ¬ paM s (nI p) (nI d) H &&& bpM (nI κ) = 0 from fun h => h c4), if_neg (show ¬ ¬ paM s (nI p) (nI d) H &&& bpM (nI κ) = nI 0 from fun h => h (c4.trans nI_0.symm))]
    by_cases c5 : ¬ (s (18 + p) = -1 ∨ (¬ s (18 + p) = nI d ∧ ¬ s (18 + p) = nI d - nI 1))
    · rw [if_pos (q2.mpr c5), if_pos c5]; rfl
    rw [if_neg (fun h => c5 (q2.mp h)), if_neg c5]
    by_cases c6 : nI 0 < lkM s R x (nI p) (nI d)
    · rw [if_pos (q3.mpr c6), if_pos c6]; rfl
    rw [if_neg (fun h => c6 (q3.mp h)), if_neg c6, nI_0]
  · rw [if_pos c4, if_pos (show ¬ paM s (nI p) (nI d) H &&& bpM (nI κ) = nI 0 from fun h => c4 (h.trans nI_0))]; rfl
theorem day_eq (hA : RA g f s) (hB : RB s R H C D sn) : g 0 = nI D := hA.g0.trans hB.1.1
theorem lac_eq (hA : RA g f s) (hB : RB s R H C D sn) {x p : Nat} (hx : x < C) : lacC g f (nI x) (nI p) = lkM s R x (nI p) (s 0) := by
  have hC10 : C ≤ 10 := hB.1.2.2.2.2.2.2.2.1
  have hD : D ≤ 999 := hB.1.2.1
  obtain ⟨κ, ρ, e1, h1, e2, h2, h3⟩ := hB.2.2.2.2.1 x hx
  unfold lacC lkM
  rw [hA.t10 (by omega), hA.t9 (by omega), e1, day_eq hA hB, hB.1.1, cntS_eq hA hB (Nat.le_refl _) (by omega) h1, nd_eq, nI_0]
theorem lac_eq' (hA : RA g f s) (hB : RB s R H C D sn) {x : Nat} {p : Int32} (hx : x < C) : lacC g f (nI x) p = lkM s R x p (s 0) := by
  have hC10 : C ≤ 10 := hB.1.2.2.2.2.2.2.2.1
  have hD : D ≤ 999 := hB.1.2.1
  obtain ⟨κ, ρ, e1, h1, e2, h2, h3⟩ := hB.2.2.2.2.1 x hx
  unfold lacC lkM
  rw [hA.t10 (by omega), hA.t9 (by omega), e1, day_eq hA hB, hB.1.1, cntS_eq hA hB (Nat.le_refl _) (by omega) h1, nd_eq, nI_0]
theorem clr_eq (hA : RA g f s) (hB : RB s R H C D sn) (hC : RC f s C) {x : Nat} (hx : x < C) {n : Nat} (hn : n ≤ 8) : clrC g f (nI x) n = clM s R H sn x n := by
  have hD : D ≤ 999 := hB.1.2.1
  induction n with
  | zero => rfl
  | succ n ih =>
    rw [clrC, clM, day_eq hA hB, rea_eq hA hB hC hx (by omega) (Nat.le_refl _) (by omega), ih (by omega), hB.1.1, nI_0]
    by_cases h : rsM s R H sn x n (nI D) = 0
    · rw [if_pos h, if_pos h]; rfl
    · rw [if_neg h, if_neg h, Int32.or_zero]
end RL2
