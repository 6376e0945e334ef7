theorem l2x : ∀ a : Fin 11, ∀ c : Fin 11, (nI a.val - nI c.val = 0 ↔ a.val = c.val) ∧ (nI a.val - nI c.val < 0 ↔ a.val < c.val) := by decide +kernel
theorem l3x : ∀ a : Fin 11, ∀ c : Fin 41, c.val < a.val → nI a.val - nI c.val = nI (a.val - c.val) := by decide +kernel
theorem bI_n {P : Prop} [Decidable P] : ¬ bI P = 0 ↔ P := ⟨fun h => bI_1 h, fun h w => bI_0 w h⟩
section RL5
variable {g : Nat → Int32} {f : Nat → Nat → Int32} {s : Nat → Int32} {R H C D d : Nat} {sn : Nat → Nat}
theorem lk_val (hB : RB s R H C D sn) {x : Nat} (hx : x < C) (p : Int32) (d : Nat) : ∃ l, lkM s R x p (nI d) = nI l ∧ l ≤ 10 := by
  obtain ⟨κ, ρ, e1, h1, e2, h2, h3⟩ := hB.2.2.2.2.1 x hx
  have hR : R ≤ 40 := hB.1.2.2.2.1
  unfold lkM
  rw [e1, e2]
  obtain ⟨a, ea, ha⟩ := nd_val h1 h3
  obtain ⟨c, ec, hc⟩ := cnM_val s p (nI κ) (nI ρ) (nI d) R
  rw [ea, ec]
  have k := ltx ⟨a, by omega⟩ ⟨c, by omega⟩
  split
  · rename_i h
    have hca : c < a := k.mp h
    exact ⟨a - c, l3x ⟨a, by omega⟩ ⟨c, by omega⟩ hca, by omega⟩
  · exact ⟨0, rfl, by omega⟩
def cand (s : Nat → Int32) (H : Nat) (sn : Nat → Nat) (x n : Nat) : Prop := dsM s n (sn x) ≤ nI 5 ∧ paM s (nI n) (s 0) H &&& bpM (s (250 + 5 * x + 0)) = nI 0
def near (δ : Nat) (b : Bool) : Nat := if b then 0 else 1 + δ
theorem rk_val (hB : RB s R H C D sn) {x n : Nat} (hx : x < C) (hn : n < 8) (hc : cand s H sn x n) : ∃ l δ, lkM s R x (nI n) (s 0) = nI l ∧ l ≤ 10 ∧ dsM s n (sn x) = nI δ ∧ δ ≤ 5 ∧ rkM s R sn x n = nI (1000 * l + 10 * (if n = sn x then 0 else 1 + δ) + n) := by
  have hC10 : C ≤ 10 := hB.1.2.2.2.2.2.2.2.1
  obtain ⟨e3, h4⟩ := hB.1.2.2.2.2.2.2.2.2 x (by omega)
  obtain ⟨l, el, hl⟩ := lk_val hB hx (nI n) D
  obtain ⟨zp, ep, p1, p2⟩ := hB.2.1 n hn
  obtain ⟨zq, eq, q1, q2⟩ := hB.2.1 (sn x) h4
  obtain ⟨k1, k2⟩ := ds_val ep eq ⟨p1, p2⟩ ⟨q1, q2⟩
  have hd : dst zp zq < 51 := by unfold dst; split <;> omega
  have h5 : dst zp zq ≤ 5 := by
    have h := hc.1
    rw [k1] at h
    exact (nI_leI (by omega) (by omega)).mp h
  rw [← hB.1.1] at el
  refine ⟨l, dst zp zq, el, hl, k1, h5, ?_⟩
  unfold rkM
  rw [el, k1, pk_mul]
  have k3 : nI n = nI (sn x) ↔ n = sn x := nI_eq (by omega) (by omega)
  by_cases e : n = sn x
  · rw [if_pos (k3.mpr e), if_pos e, pk_mul, nI_add, nI_add]
  · rw [if_neg (fun w => e (k3.mp w)), if_neg e, nI_add, pk_mul, nI_add, nI_add]
theorem btr_eq (hA : RA g f s) (hB : RB s R H C D sn) {x n q : Nat} (hx : x < C) (hn : n < 8) (hq : q < n) (hcn : cand s H sn x n) (hcq : cand s H sn x q) : ¬ btrC g f (nI x) (nI n) (nI q) = 0 ↔ rkM s R sn x n < rkM s R sn x q := by
  have hC10 : C ≤ 10 := hB.1.2.2.2.2.2.2.2.1
  obtain ⟨e3, h4⟩ := hB.1.2.2.2.2.2.2.2.2 x (by omega)
  obtain ⟨l1, δ1, a1, a2, a3, a4, a5⟩ := rk_val hB hx hn hcn
  obtain ⟨l2, δ2, b1, b2, b3, b4, b5⟩ := rk_val hB hx (show q < 8 by omega) hcq
  unfold btrC
  rw [lac_eq hA hB hx, lac_eq hA hB hx, a1, b1, hA.t11 (by omega), e3, abs_eq hA hn h4, abs_eq hA (by omega) h4, a3, b3, a5, b5]
  have k := l2x ⟨l1, by omega⟩ ⟨l2, by omega⟩
  have k3 : nI n = nI (sn x) ↔ n = sn x := nI_eq (by omega) (by omega)
  have k4 : nI q = nI (sn x) ↔ q = sn x := nI_eq (by omega) (by omega)
  have k5 : nI δ1 < nI δ2 ↔ δ1 < δ2 := nI_ltI (by omega) (by omega)
  have w1 : 1000 * l1 + 10 * (if n = sn x then 0 else 1 + δ1) + n < 2 ^ 31 := by split <;> omega
  have w2 : 1000 * l2 + 10 * (if q = sn x then 0 else 1 + δ2) + q < 2 ^ 31 := by split <;> omega
  rw [nI_ltI w1 w2]
  by_cases c1 : nI l1 - nI l2 = 0
  · have e1 : l1 = l2 := k.1.mp c1
    rw [if_neg (fun h => h c1)]
    by_cases c2 : nI n = nI (sn x) ∨ nI q = nI (sn x)
    · rw [if_pos c2, bI_n, k3]
      rw [k3, k4] at c2
      by_cases c3 : n = sn x
      · rw [if_pos c3, if_neg (show ¬ q = sn x by omega)]
        omega
      · rw [if_neg c3, if_pos (c2.resolve_left c3)]
        omega
    · rw [if_neg c2, bI_n, k5]
      rw [k3, k4] at c2
      rw [if_neg (fun h => c2 (Or.inl h)), if_neg (fun h => c2 (Or.inr h))]
      omega
  · have e1 : ¬ l1 = l2 := fun h => c1 (k.1.mpr h)
    rw [if_pos c1, bI_n, k.2]
    show l1 < l2 ↔ _
    split <;> split <;> omega
theorem bes_eq (hA : RA g f s) (hB : RB s R H C D sn) {x : Nat} (hx : x < C) {n : Nat} (hn : n ≤ 8) : besC g f (nI x) n = bv (bsN s R H sn x n) ∧ (bsN s R H sn x n = 8 ∨ (bsN s R H sn x n < n ∧ cand s H sn x (bsN s R H sn x n))) := by
  have hC10 : C ≤ 10 := hB.1.2.2.2.2.2.2.2.1
  have hD : D ≤ 999 := hB.1.2.1
  obtain ⟨e3, h4⟩ := hB.1.2.2.2.2.2.2.2.2 x (by omega)
  obtain ⟨κ, ρ, e1, h1, e2, h2, h3⟩ := hB.2.2.2.2.1 x hx
  induction n with
  | zero => exact ⟨rfl, Or.inl rfl⟩
  | succ n ih =>
    obtain ⟨i1, i2⟩ := ih (by omega)
    have q1 := alike_eq hA hB (p := n) (q := sn x) (by omega) h4
    have hc : ((-5 ≤ gapC f (nI n) (gt (f 11) 10 (nI x)) ∧ gapC f (nI n) (gt (f 11) 10 (nI x)) ≤ 5) ∧ parS g f (g 0) (nI n) &&& gt tBar 6 (gt (f 9) 10 (nI x)) = 0) ↔ cand s H sn x n := by
      unfold cand
      rw [hA.t11 (by omega), hA.t9 (by omega), e3, e1, tb_eq h1, day_eq hA hB, parS_eq hA hB (Nat.le_refl _) (by omega), hB.1.1, q1, Int32.not_lt, nI_0]
    have hb : (besC g f (nI x) n = -1 ∨ ¬ btrC g f (nI x) (nI n) (besC g f (nI x) n) = 0) → cand s H sn x n → (bsN s R H sn x n = 8 ∨ rkM s R sn x n < rkM s R sn x (bsN s R H sn x n)) := by
      intro w hcn
      rcases i2 with h8 | ⟨hlt, hcq⟩
      · exact Or.inl h8
      · rw [i1] at w
        have e : bv (bsN s R H sn x n) = nI (bsN s R H sn x n) := by rw [bv, if_neg (by omega)]
        rw [e] at w
        refine Or.inr ((btr_eq hA hB hx (by omega) hlt hcn hcq).mp (w.resolve_left (nI_m (by omega))))
    have hb2 : cand s H sn x n → (bsN s R H sn x n = 8 ∨ rkM s R sn x n < rkM s R sn x (bsN s R H sn x n)) → (besC g f (nI x) n = -1 ∨ ¬ btrC g f (nI x) (nI n) (besC g f (nI x) n) = 0) := by
      intro hcn w
      rw [i1]
      rcases i2 with h8 | ⟨hlt, hcq⟩
      · exact Or.inl (by rw [h8, bv, if_pos rfl])
      · have e : bv (bsN s R H sn x n) = nI (bsN s R H sn x n) := by rw [bv, if_neg (by omega)]
        rw [e]
        exact Or.inr ((btr_eq hA hB hx (by omega) hlt hcn hcq).mpr (w.resolve_left (by omega)))
    rw [besC, bsN]
    by_cases h : ((-5 ≤ gapC f (nI n) (gt (f 11) 10 (nI x)) ∧ gapC f (nI n) (gt (f 11) 10 (nI x)) ≤ 5) ∧ parS g f (g 0) (nI n) &&& gt tBar 6 (gt (f 9) 10 (nI x)) = 0) ∧ (besC g f (nI x) n = -1 ∨ ¬ btrC g f (nI x) (nI n) (besC g f (nI x) n) = 0)
    · have hcn := hc.mp h.1
      rw [if_pos h, if_pos ⟨hcn, hb h.2 hcn⟩]
      exact ⟨bv_n (by omega), Or.inr ⟨by omega, hcn⟩⟩
    · rw [if_neg h, if_neg (fun w => h ⟨hc.mpr w.1, hb2 w.1 w.2⟩)]
      exact ⟨i1, i2.imp id fun w => ⟨by omega, w.2⟩⟩
theorem bst_eq (hA : RA g f s) (hB : RB s R H C D sn) {x : Nat} (hx : x < C) : bstC g f (nI x) = bsM s R H sn x := by
  have hC10 : C ≤ 10 := hB.1.2.2.2.2.2.2.2.1
  unfold bstC bsM
  rw [hA.t12 (by omega), (bes_eq hA hB hx (Nat.le_refl 8)).1]
  by_cases h : s (250 + 5 * x + 3) = -1
  · rw [if_neg (fun w => w h), if_pos h]
  · rw [if_pos h, if_neg h]
/-! the digest -/
theorem mp_eq (hA : RA g f s) (hB : RB s R H C D sn) (hC : RC f s C) {p : Nat} (hp : p < 8) (h : Int64) : mpC g f h (nI p) = mqC s R H C sn p h := by
  have hD : D ≤ 999 := hB.1.2.1
  have a : ∀ k, mpA g f h (nI p) k = mqA s H p h k := by
    intro k
    induction k with
    | zero => rfl
    | succ k ih => rw [mpA, mqA, ih, per_eq hA hB hC hp]
  have b : ∀ h' k, k ≤ 6 → mpB g f h' (nI p) k = mqB s R p h' k := by
    intro h' k hk
    induction k with
    | zero => rfl
    | succ k ih =>
      rw [mpB, mqB, ih (by omega), day_eq hA hB, cntS_eq hA hB (Nat.le_refl _) (by omega) (by omega), hB.1.1]
      rfl
  unfold mpC mqC
  rw [a, b _ 6 (Nat.le_refl _), hA.cC hB, sto_eq hA hB hC (Nat.le_refl _)]
  rfl
theorem ms_eq (hA : RA g f s) (hB : RB s R H C D sn) (hC : RC f s C) {x : Nat} (hx : x < C) (h : Int64) : msC g f h (nI x) = mrC s R H D sn x h := by
  have hD : D ≤ 999 := hB.1.2.1
  have a : ∀ k, k ≤ 6 → msA g f h (nI x) k = mrA s R H sn x h k := by
    intro k hk
    induction k with
    | zero => rfl
    | succ k ih => rw [msA, mrA, ih (by omega), scn_eq hA hB hC hx (by omega)]
  have b : ∀ h' k, k ≤ 8 → msB g f h' (nI x) k = mrB s R H D sn x h' k := by
    intro h' k hk
    induction k with
    | zero => rfl
    | succ k ih =>
      rw [msB, mrB, ih (by omega), lac_eq hA hB hx, fcd_eq hA hB hC hx (by omega) (by omega), day_eq hA hB, rea_eq hA hB hC hx (by omega) (Nat.le_refl _) (by omega), hB.1.1]
      rfl
  unfold msC mrC
  rw [a 6 (Nat.le_refl _), b _ 8 (Nat.le_refl _), bst_eq hA hB hx]
theorem dg_eq (hA : RA g f s) (hB : RB s R H C D sn) (hC : RC f s C) {r b : Nat → Int32} {L : Nat} (hL : L ≤ 60) (hr : ∀ j, j < L → r j = b j) (n : Int32) : dgC g f n (nI L) r = ddG s R H C D sn n L b := by
  have a : ∀ k, k ≤ 11 → dgA g f n k = ddA s R H C sn n k := by
    intro k hk
    induction k with
    | zero => rfl
    | succ k ih => rw [dgA, ddA, ih (by omega), cnu_eq hA hB hC (by omega)]
  have b1 : ∀ h k, k ≤ 8 → dgB g f h k = ddB s R H C sn h k := by
    intro h k hk
    induction k with
    | zero => rfl
    | succ k ih => rw [dgB, ddB, ih (by omega), mp_eq hA hB hC (by omega)]
  have c : ∀ h k, k ≤ C → dgD g f h k = ddD s R H D sn h k := by
    intro h k hk
    induction k with
    | zero => rfl
    | succ k ih => rw [dgD, ddD, ih (by omega), ms_eq hA hB hC (by omega)]
  have e : ∀ h k, k ≤ L → dgE r h k = ddE b h k := by
    intro h k hk
    induction k with
    | zero => rfl
    | succ k ih => rw [dgE, ddE, ih (by omega), gt_n (by omega), hr k (by omega)]
  have m : dgM g f n (nI L) = ddM s R H C D sn n L := by
    unfold dgM ddM
    rw [a 11 (Nat.le_refl _), b1 _ 8 (Nat.le_refl _), hA.cC hB, c _ C (Nat.le_refl _), cos_eq hA, shr_eq hA hB, (sr_cases hB).1.2.2.1]
    rfl
  unfold dgC ddG
  rw [nI_clamp (by omega), e _ L (Nat.le_refl _), m]
end RL5
