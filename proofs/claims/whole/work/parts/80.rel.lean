/-! the class's state beside the model's: RA what is the same, RB what holds of it -/
theorem gt_n {f : Nat → Int32} {N i : Nat} (h : i < N) (hN : N < 2 ^ 31 := by decide) : gt f N (nI i) = f i := by
  unfold gt
  rw [if_neg (nI_pos (by omega)), if_neg (by rw [nI_leI hN (by omega)]; omega), nI_clamp (by omega)]
def RA (g : Nat → Int32) (f : Nat → Nat → Int32) (s : Nat → Int32) : Prop := (g 0 = s 0 ∧ g 1 = s 1 ∧ g 2 = s 2 ∧ g 3 = s 3 ∧ g 4 = s 6 ∧ g 5 = s 7 ∧ g 6 = s 8 ∧ g 7 = s 9 ∧ g 8 = s 4) ∧ (∀ i, i < 8 → f 0 i = s (10 + i)) ∧ (∀ i, i < 8 → f 1 i = s (34 + i)) ∧ (∀ i, i < 40 → f 2 i = s (42 + 4 * i + 0)) ∧ (∀ i, i < 40 → f 3 i = s (42 + 4 * i + 1)) ∧ (∀ i, i < 40 → f 4 i = s (42 + 4 * i + 2)) ∧ (∀ i, i < 40 → f 5 i = s (42 + 4 * i + 3)) ∧ (∀ i, i < 12 → f 6 i = s (202 + 4 * i + 0)) ∧ (∀ i, i < 12 → f 7 i = s (202 + 4 * i + 1)) ∧ (∀ i, i < 12 → f 8 i = s (202 + 4 * i + 3)) ∧ (∀ i, i < 10 → f 9 i = s (250 + 5 * i + 0)) ∧ (∀ i, i < 10 → f 10 i = s (250 + 5 * i + 1)) ∧ (∀ i, i < 10 → f 11 i = s (250 + 5 * i + 2)) ∧ (∀ i, i < 10 → f 12 i = s (250 + 5 * i + 3)) ∧ (∀ i, i < 10 → f 13 i = s (250 + 5 * i + 4))
section RAs
variable {g : Nat → Int32} {f : Nat → Nat → Int32} {s : Nat → Int32}
theorem RA.g0 (h : RA g f s) : g 0 = s 0 := h.1.1
theorem RA.g1 (h : RA g f s) : g 1 = s 1 := h.1.2.1
theorem RA.g2 (h : RA g f s) : g 2 = s 2 := h.1.2.2.1
theorem RA.g3 (h : RA g f s) : g 3 = s 3 := h.1.2.2.2.1
theorem RA.g4 (h : RA g f s) : g 4 = s 6 := h.1.2.2.2.2.1
theorem RA.g5 (h : RA g f s) : g 5 = s 7 := h.1.2.2.2.2.2.1
theorem RA.g6 (h : RA g f s) : g 6 = s 8 := h.1.2.2.2.2.2.2.1
theorem RA.g7 (h : RA g f s) : g 7 = s 9 := h.1.2.2.2.2.2.2.2.1
theorem RA.g8 (h : RA g f s) : g 8 = s 4 := h.1.2.2.2.2.2.2.2.2
theorem RA.f0 (h : RA g f s) {i : Nat} (hi : i < 8) : f 0 i = s (10 + i) := h.2.1 i hi
theorem RA.t0 (h : RA g f s) {i : Nat} (hi : i < 8) : gt (f 0) 8 (nI i) = s (10 + i) := (gt_n hi).trans (h.2.1 i hi)
theorem RA.f1 (h : RA g f s) {i : Nat} (hi : i < 8) : f 1 i = s (34 + i) := h.2.2.1 i hi
theorem RA.t1 (h : RA g f s) {i : Nat} (hi : i < 8) : gt (f 1) 8 (nI i) = s (34 + i) := (gt_n hi).trans (h.2.2.1 i hi)
theorem RA.f2 (h : RA g f s) {i : Nat} (hi : i < 40) : f 2 i = s (42 + 4 * i + 0) := h.2.2.2.1 i hi
theorem RA.t2 (h : RA g f s) {i : Nat} (hi : i < 40) : gt (f 2) 40 (nI i) = s (42 + 4 * i + 0) := (gt_n hi).trans (h.2.2.2.1 i hi)
theorem RA.f3 (h : RA g f s) {i : Nat} (hi : i < 40) : f 3 i = s (42 + 4 * i + 1) := h.2.2.2.2.1 i hi
theorem RA.t3 (h : RA g f s) {i : Nat} (hi : i < 40) : gt (f 3) 40 (nI i) = s (42 + 4 * i + 1) := (gt_n hi).trans (h.2.2.2.2.1 i hi)
theorem RA.f4 (h : RA g f s) {i : Nat} (hi : i < 40) : f 4 i = s (42 + 4 * i + 2) := h.2.2.2.2.2.1 i hi
theorem RA.t4 (h : RA g f s) {i : Nat} (hi : i < 40) : gt (f 4) 40 (nI i) = s (42 + 4 * i + 2) := (gt_n hi).trans (h.2.2.2.2.2.1 i hi)
theorem RA.f5 (h : RA g f s) {i : Nat} (hi : i < 40) : f 5 i = s (42 + 4 * i + 3) := h.2.2.2.2.2.2.1 i hi
theorem RA.t5 (h : RA g f s) {i : Nat} (hi : i < 40) : gt (f 5) 40 (nI i) = s (42 + 4 * i + 3) := (gt_n hi).trans (h.2.2.2.2.2.2.1 i hi)
theorem RA.f6 (h : RA g f s) {i : Nat} (hi : i < 12) : f 6 i = s (202 + 4 * i + 0) := h.2.2.2.2.2.2.2.1 i hi
theorem RA.t6 (h : RA g f s) {i : Nat} (hi : i < 12) : gt (f 6) 12 (nI i) = s (202 + 4 * i + 0) := (gt_n hi).trans (h.2.2.2.2.2.2.2.1 i hi)
theorem RA.f7 (h : RA g f s) {i : Nat} (hi : i < 12) : f 7 i = s (202 + 4 * i + 1) := h.2.2.2.2.2.2.2.2.1 i hi
theorem RA.t7 (h : RA g f s) {i : Nat} (hi : i < 12) : gt (f 7) 12 (nI i) = s (202 + 4 * i + 1) := (gt_n hi).trans (h.2.2.2.2.2.2.2.2.1 i hi)
theorem RA.f8 (h : RA g f s) {i : Nat} (hi : i < 12) : f 8 i = s (202 + 4 * i + 3) := h.2.2.2.2.2.2.2.2.2.1 i hi
theorem RA.t8 (h : RA g f s) {i : Nat} (hi : i < 12) : gt (f 8) 12 (nI i) = s (202 + 4 * i + 3) := (gt_n hi).trans (h.2.2.2.2.2.2.2.2.2.1 i hi)
theorem RA.f9 (h : RA g f s) {i : Nat} (hi : i < 10) : f 9 i = s (250 + 5 * i + 0) := h.2.2.2.2.2.2.2.2.2.2.1 i hi
theorem RA.t9 (h : RA g f s) {i : Nat} (hi : i < 10) : gt (f 9) 10 (nI i) = s (250 + 5 * i + 0) := (gt_n hi).trans (h.2.2.2.2.2.2.2.2.2.2.1 i hi)
theorem RA.f10 (h : RA g f s) {i : Nat} (hi : i < 10) : f 10 i = s (250 + 5 * i + 1) := h.2.2.2.2.2.2.2.2.2.2.2.1 i hi
theorem RA.t10 (h : RA g f s) {i : Nat} (hi : i < 10) : gt (f 10) 10 (nI i) = s (250 + 5 * i + 1) := (gt_n hi).trans (h.2.2.2.2.2.2.2.2.2.2.2.1 i hi)
theorem RA.f11 (h : RA g f s) {i : Nat} (hi : i < 10) : f 11 i = s (250 + 5 * i + 2) := h.2.2.2.2.2.2.2.2.2.2.2.2.1 i hi
theorem RA.t11 (h : RA g f s) {i : Nat} (hi : i < 10) : gt (f 11) 10 (nI i) = s (250 + 5 * i + 2) := (gt_n hi).trans (h.2.2.2.2.2.2.2.2.2.2.2.2.1 i hi)
theorem RA.f12 (h : RA g f s) {i : Nat} (hi : i < 10) : f 12 i = s (250 + 5 * i + 3) := h.2.2.2.2.2.2.2.2.2.2.2.2.2.1 i hi
theorem RA.t12 (h : RA g f s) {i : Nat} (hi : i < 10) : gt (f 12) 10 (nI i) = s (250 + 5 * i + 3) := (gt_n hi).trans (h.2.2.2.2.2.2.2.2.2.2.2.2.2.1 i hi)
theorem RA.f13 (h : RA g f s) {i : Nat} (hi : i < 10) : f 13 i = s (250 + 5 * i + 4) := h.2.2.2.2.2.2.2.2.2.2.2.2.2.2 i hi
theorem RA.t13 (h : RA g f s) {i : Nat} (hi : i < 10) : gt (f 13) 10 (nI i) = s (250 + 5 * i + 4) := (gt_n hi).trans (h.2.2.2.2.2.2.2.2.2.2.2.2.2.2 i hi)
end RAs
def RB (s : Nat → Int32) (R H C D : Nat) (sn : Nat → Nat) : Prop := MI s R H C D sn ∧ (∀ p, p < 8 → ∃ z, s (10 + p) = nI z ∧ 150 ≤ z ∧ z ≤ 200) ∧ (∀ i, i < R → ∃ z, s (42 + 4 * i + 3) = nI z ∧ z ≤ D) ∧ (∀ i, i < H → ∃ z, s (202 + 4 * i + 2) = nI z ∧ z ≤ D) ∧
  (∀ i, i < C → ∃ k r, s (250 + 5 * i + 0) = nI k ∧ k < 6 ∧ s (250 + 5 * i + 1) = nI r ∧ 1 ≤ r ∧ r ≤ 5) ∧ (∀ i, i < C → (s (250 + 5 * i + 3) = -1 ∧ s (250 + 5 * i + 4) = -1) ∨ ∃ z p, s (250 + 5 * i + 3) = nI z ∧ z ≤ D ∧ s (250 + 5 * i + 4) = nI p ∧ p < 8)
theorem neg1 : (-1 : Int32).toInt = -1 := by decide
theorem nI_m {n : Nat} (h : n < 2 ^ 31) : ¬ nI n = -1 := fun e => by
  have := congrArg Int32.toInt e
  rw [nI_toInt h, neg1] at this
  omega
theorem m_lt {n : Nat} (h : n < 2 ^ 31) : (-1 : Int32) < nI n := by
  rw [Int32.lt_iff_toInt_lt, nI_toInt h, neg1]
  omega
theorem tc_eq {κ : Nat} (h : κ < 6) : ∃ q, gt tCnt 6 (nI κ) = nI q ∧ cdM (nI κ) = nI q ∧ 1 ≤ q ∧ q ≤ 30 := by
  rcases (show κ = 0 ∨ κ = 1 ∨ κ = 2 ∨ κ = 3 ∨ κ = 4 ∨ κ = 5 by omega) with rfl | rfl | rfl | rfl | rfl | rfl
  · exact ⟨20, by decide, by decide, by decide, by decide⟩
  · exact ⟨15, by decide, by decide, by decide, by decide⟩
  · exact ⟨10, by decide, by decide, by decide, by decide⟩
  · exact ⟨12, by decide, by decide, by decide, by decide⟩
  · exact ⟨30, by decide, by decide, by decide, by decide⟩
  · exact ⟨25, by decide, by decide, by decide, by decide⟩
theorem tb_eq {κ : Nat} (h : κ < 6) : gt tBar 6 (nI κ) = bpM (nI κ) := by
  rcases (show κ = 0 ∨ κ = 1 ∨ κ = 2 ∨ κ = 3 ∨ κ = 4 ∨ κ = 5 by omega) with rfl | rfl | rfl | rfl | rfl | rfl <;> decide
theorem tcd_eq {κ : Nat} (h : κ < 6) : gt tCnt 6 (nI κ) = cdM (nI κ) := by
  obtain ⟨q, e1, e2, -, -⟩ := tc_eq h
  rw [e1, e2]
theorem th_eq {κ : Nat} (h : κ < 6) : gt tHur 6 (nI κ) = prM (nI κ) := by
  rcases (show κ = 0 ∨ κ = 1 ∨ κ = 2 ∨ κ = 3 ∨ κ = 4 ∨ κ = 5 by omega) with rfl | rfl | rfl | rfl | rfl | rfl <;> decide
theorem nd_eq (k r : Int32) : ndF k r = ndM k r := rfl
section RLs
variable {g : Nat → Int32} {f : Nat → Nat → Int32} {s : Nat → Int32} {R H C D d : Nat} {sn : Nat → Nat} {p : Int32}
theorem par_eq (hA : RA g f s) (hB : RB s R H C D sn) (hd : D ≤ d) (hd2 : d < 2 ^ 30) {n : Nat} (hn : n ≤ H) : parC (f 6) (f 7) (f 8) (nI d) p n = paM s p (nI d) n := by
  have hH : H ≤ 12 := hB.1.2.2.2.2.2.1
  induction n with
  | zero => rfl
  | succ n ih =>
    obtain ⟨z, ez, hz⟩ := hB.2.2.2.1 n (by omega)
    rw [parC, paM, hA.t6 (by omega), hA.t7 (by omega), hA.t8 (by omega), ih (by omega)]
    have hq : s (202 + 4 * n + 2) ≤ nI d := by rw [ez]; exact (nI_leI (by omega) (by omega)).mpr (by omega)
    by_cases h : s (202 + 4 * n + 0) = p ∧ nI d ≤ s (202 + 4 * n + 3)
    · rw [if_pos h, if_pos ⟨h.1, hq, h.2⟩]
    · rw [if_neg h, if_neg fun q => h ⟨q.1, q.2.2⟩, nI_0, Int32.or_zero]
theorem RA.cH (hA : RA g f s) (hB : RB s R H C D sn) : (g 7).toNatClampNeg = H := by rw [hA.g7, hB.1.2.2.2.2.1, nI_clamp (by have := hB.1.2.2.2.2.2.1; omega)]
theorem RA.cR (hA : RA g f s) (hB : RB s R H C D sn) : (g 6).toNatClampNeg = R := by rw [hA.g6, hB.1.2.2.1, nI_clamp (by have := hB.1.2.2.2.1; omega)]
theorem RA.cC (hA : RA g f s) (hB : RB s R H C D sn) : (g 8).toNatClampNeg = C := by rw [hA.g8, hB.1.2.2.2.2.2.2.1, nI_clamp (by have := hB.1.2.2.2.2.2.2.2.1; omega)]
theorem parS_eq (hA : RA g f s) (hB : RB s R H C D sn) (hd : D ≤ d) (hd2 : d < 2 ^ 30) : parS g f (nI d) p = paM s p (nI d) H := by
  unfold parS
  rw [hA.cH hB]
  exact par_eq hA hB hd hd2 (Nat.le_refl _)
theorem cnt_eq (hA : RA g f s) (hB : RB s R H C D sn) (hd : D ≤ d) (hd2 : d < 2 ^ 30) {κ : Nat} (hκ : κ < 6) {r : Int32} {n : Nat} (hn : n ≤ R) : cntC (f 2) (f 3) (f 4) (f 5) (nI d) p (nI κ) r n = cnM s p (nI κ) r (nI d) n := by
  have hR : R ≤ 40 := hB.1.2.2.2.1
  obtain ⟨q, e1, e2, q1, q2⟩ := tc_eq hκ
  induction n with
  | zero => rfl
  | succ n ih =>
    obtain ⟨z, ez, hz⟩ := hB.2.2.1 n (by omega)
    rw [cntC, cnM, hA.t2 (by omega), hA.t3 (by omega), hA.t4 (by omega), hA.t5 (by omega), ih (by omega), e1, e2, ez, nI_add, nI_sub (by omega)]
    have k1 : nI d < nI (z + q) ↔ d < z + q := nI_ltI (by omega) (by omega)
    have k2 : nI z ≤ nI d ↔ z ≤ d := nI_leI (by omega) (by omega)
    have k3 : nI d ≤ nI (z + q - 1) ↔ d ≤ z + q - 1 := nI_leI (by omega) (by omega)
    by_cases h : s (42 + 4 * n + 0) = p ∧ s (42 + 4 * n + 1) = nI κ ∧ r - 1 ≤ s (42 + 4 * n + 2) ∧ nI d < nI (z + q)
    · rw [if_pos h, if_pos ⟨⟨h.1, h.2.1, h.2.2.1⟩, k2.mpr (by omega), k3.mpr (by have := k1.mp h.2.2.2; omega)⟩]
      rfl
    · rw [if_neg h, if_neg fun w => h ⟨w.1.1, w.1.2.1, w.1.2.2, k1.mpr (by have := k3.mp w.2.2; omega)⟩, nI_0, Int32.add_zero]
theorem cntS_eq (hA : RA g f s) (hB : RB s R H C D sn) (hd : D ≤ d) (hd2 : d < 2 ^ 30) {κ : Nat} (hκ : κ < 6) {r : Int32} : cntS g f (nI d) p (nI κ) r = cnM s p (nI κ) r (nI d) R := by
  unfold cntS
  rw [hA.cR hB]
  exact cnt_eq hA hB hd hd2 hκ (Nat.le_refl _)
theorem las_eq (hA : RA g f s) (hB : RB s R H C D sn) {n : Nat} (hn : n ≤ H) : lasC (f 6) (f 8) (g 0) p n = laM s p n := by
  have hH : H ≤ 12 := hB.1.2.2.2.2.2.1
  induction n with
  | zero => rfl
  | succ n ih =>
    obtain ⟨z, ez, hz⟩ := hB.2.2.2.1 n (by omega)
    have hq : s (202 + 4 * n + 2) ≤ s 0 := by
      rw [ez, hB.1.1]
      have := hB.1.2.1
      exact (nI_leI (by omega) (by omega)).mpr (by omega)
    rw [lasC, laM, hA.t6 (by omega), hA.t8 (by omega), ih (by omega), hA.g0]
    by_cases h : s (202 + 4 * n + 0) = p ∧ s 0 ≤ s (202 + 4 * n + 3) ∧ laM s p n < s (202 + 4 * n + 3)
    · rw [if_pos h, if_pos ⟨⟨h.1, hq, h.2.1⟩, h.2.2⟩]
    · rw [if_neg h, if_neg fun q => h ⟨q.1.1, q.1.2.2, q.2⟩]
theorem cos_eq (hA : RA g f s) (x y : Int32) : cosC g x y = coM s x y := by
  unfold cosC coM
  rw [hA.g4]
  rfl
theorem stp_eq (hA : RA g f s) (x : Int32) : stpC g x = isM s x := by
  unfold stpC isM
  rw [hA.g3, hA.g2, nI_0]
end RLs
