/-! kept states, and what holds between two calls -/
theorem Rc_cg {g : Nat → Int32} {f : Nat → Nat → Int32} {s s' : Nat → Int32} (he : ∀ k, k < 300 → s' k = s k) (h : Rc g f s) : Rc g f s' := by
  obtain ⟨R, H, C, D, sn, hA, hB, hC⟩ := h
  have hM := hB.1
  obtain ⟨m1, m2, m3, m4, m5, m6, m7, m8, m9⟩ := hM
  exact ⟨R, H, C, D, sn, ⟨⟨(by show g 0 = s' 0; rw [he _ (by omega)]; exact hA.g0), (by show g 1 = s' 1; rw [he _ (by omega)]; exact hA.g1), (by show g 2 = s' 2; rw [he _ (by omega)]; exact hA.g2), (by show g 3 = s' 3; rw [he _ (by omega)]; exact hA.g3), (by show g 4 = s' 6; rw [he _ (by omega)]; exact hA.g4), (by show g 5 = s' 7; rw [he _ (by omega)]; exact hA.g5), (by show g 6 = s' 8; rw [he _ (by omega)]; exact hA.g6), (by show g 7 = s' 9; rw [he _ (by omega)]; exact hA.g7), (by show g 8 = s' 4; rw [he _ (by omega)]; exact hA.g8)⟩, (fun i hi => by show f 0 i = s' (10 + i); rw [he _ (by omega)]; exact hA.f0 hi), (fun i hi => by show f 1 i = s' (34 + i); rw [he _ (by omega)]; exact hA.f1 hi), (fun i hi => by show f 2 i = s' (42 + 4 * i + 0); rw [he _ (by omega)]; exact hA.f2 hi), (fun i hi => by show f 3 i = s' (42 + 4 * i + 1); rw [he _ (by omega)]; exact hA.f3 hi), (fun i hi => by show f 4 i = s' (42 + 4 * i + 2); rw [he _ (by omega)]; exact hA.f4 hi), (fun i hi => by show f 5 i = s' (42 + 4 * i + 3); rw [he _ (by omega)]; exact hA.f5 hi), (fun i hi => by show f 6 i = s' (202 + 4 * i + 0); rw [he _ (by omega)]; exact hA.f6 hi), (fun i hi => by show f 7 i = s' (202 + 4 * i + 1); rw [he _ (by omega)]; exact hA.f7 hi), (fun i hi => by show f 8 i = s' (202 + 4 * i + 3); rw [he _ (by omega)]; exact hA.f8 hi), (fun i hi => by show f 9 i = s' (250 + 5 * i + 0); rw [he _ (by omega)]; exact hA.f9 hi), (fun i hi => by show f 10 i = s' (250 + 5 * i + 1); rw [he _ (by omega)]; exact hA.f10 hi), (fun i hi => by show f 11 i = s' (250 + 5 * i + 2); rw [he _ (by omega)]; exact hA.f11 hi), (fun i hi => by show f 12 i = s' (250 + 5 * i + 3); rw [he _ (by omega)]; exact hA.f12 hi), (fun i hi => by show f 13 i = s' (250 + 5 * i + 4); rw [he _ (by omega)]; exact hA.f13 hi)⟩,
    ⟨⟨(he _ (by omega)).trans m1, m2, (he _ (by omega)).trans m3, m4, (he _ (by omega)).trans m5, m6, (he _ (by omega)).trans m7, m8, fun x hx => by rw [he _ (by omega)]; exact m9 x hx⟩, (fun p hp => by rw [he _ (by omega)]; exact hB.2.1 p hp), (fun i hi => by have hR := hB.1.2.2.2.1; rw [he _ (by omega)]; exact hB.2.2.1 i hi), (fun i hi => by have hH := hB.1.2.2.2.2.2.1; rw [he _ (by omega)]; exact hB.2.2.2.1 i hi), (fun i hi => by have hC := hB.1.2.2.2.2.2.2.2.1; rw [he _ (by omega), he _ (by omega)]; exact hB.2.2.2.2.1 i hi), (fun i hi => by have hC := hB.1.2.2.2.2.2.2.2.1; rw [he _ (by omega), he _ (by omega)]; exact hB.2.2.2.2.2 i hi)⟩,
    ⟨fun p hp => by rw [he _ (by omega)]; exact hC.1 p hp, fun p hp => by rw [he _ (by omega)]; exact hC.2.1 p hp, by rw [he _ (by omega)]; exact hC.2.2⟩⟩
theorem svM_i {S s : Nat → Int32} {M k n : Nat} (h : k < n) : svM S s M n (M * 300 + k) = s k := by
  induction n with
  | zero => omega
  | succ n ih =>
    by_cases e : k = n
    · subst e; rw [svM, upd_eq]
    · rw [svM, upd_ne (by omega), ih (by omega)]
theorem svM_o {S s : Nat → Int32} {M j n : Nat} (h : ¬ (M * 300 ≤ j ∧ j < M * 300 + n)) : svM S s M n j = S j := by
  induction n with
  | zero => rfl
  | succ n ih => rw [svM, upd_ne (by omega), ih (by omega)]
theorem sfM_o {S : Nat → Int32} {j n : Nat} (h : n ≤ j) : sfM S n j = S j := by
  induction n with
  | zero => rfl
  | succ n ih => rw [sfM, upd_ne (by omega), ih (by omega)]
theorem sfM_i {S : Nat → Int32} {j n : Nat} (h : j < n) : sfM S n j = S (j + 300) := by
  induction n with
  | zero => omega
  | succ n ih =>
    by_cases e : j = n
    · subst e; rw [sfM, upd_eq, sfM_o (by omega)]
    · rw [sfM, upd_ne (by omega), ih (by omega)]
theorem unM_i {S s : Nat → Int32} {M k n : Nat} (h : k < n) : unM S s M n k = S (M * 300 + k) := by
  induction n with
  | zero => omega
  | succ n ih =>
    by_cases e : k = n
    · subst e; rw [unM, upd_eq]
    · rw [unM, upd_ne (by omega), ih (by omega)]
def SL (n : Nat) (G : Nat → Nat → Int32) (K : Nat → Nat → Nat → Int32) (S : Nat → Int32) : Prop := ∀ i, i < n → Rc (G i) (K i) (fun k => S (i * 300 + k))
theorem SL_keep {n : Nat} {G : Nat → Nat → Int32} {K : Nat → Nat → Nat → Int32} {S : Nat → Int32} {g : Nat → Int32} {f : Nat → Nat → Int32} {s : Nat → Int32} (hn : n ≤ 6) (h : SL n G K S) (hR : Rc g f s) : SL (kN n) (kG n G g) (kG n K f) (svA S s n) := by
  intro i hi
  unfold kN at hi
  unfold kG svA
  by_cases e : n < 6
  · rw [if_pos e] at hi ⊢
    rw [if_pos e, if_pos e]
    by_cases q : i = n
    · subst q
      rw [va_up_self, va_up_self]
      exact Rc_cg (fun k hk => svM_i hk) hR
    · rw [va_up_ne _ _ q, va_up_ne _ _ q]
      exact Rc_cg (fun k hk => svM_o (by omega)) (h i (by omega))
  · rw [if_neg e] at hi ⊢
    rw [if_neg e, if_neg e]
    obtain rfl : n = 6 := by omega
    by_cases q : i = 5
    · subst q
      rw [va_up_self, va_up_self]
      exact Rc_cg (fun k hk => svM_i hk) hR
    · rw [va_up_ne _ _ q, va_up_ne _ _ q]
      have e1 : rot6 G i = G (i + 1) := by unfold rot6; rw [if_pos (by omega)]
      have e2 : rot6 K i = K (i + 1) := by unfold rot6; rw [if_pos (by omega)]
      rw [e1, e2]
      refine Rc_cg (fun k hk => ?_) (h (i + 1) (by omega))
      show svM (sfM S 1500) s 5 300 (i * 300 + k) = S ((i + 1) * 300 + k)
      rw [svM_o (by omega), sfM_i (by omega)]
      exact congrArg S (by omega)
def LI (E : EV) (d a0 : Nat) (wx wm : va_W) : Prop := ∃ (v0 v1 t u n L : Nat) (a : Nat → Nat) (g : Nat → Int32) (f : Nat → Nat → Int32) (r : Nat → Int32) (B : Nat → Nat → Nat) (G : Nat → Nat → Int32) (K : Nat → Nat → Nat → Int32) (am : Nat → Nat) (th pl : Int32) (hs : Int64) (s S b w : Nat → Int32),
  wx = dW E d v0 v1 t u (nI n) (nI L) r a g f ++ tlW E v1 B G K ∧ wm = mdW E am th (nI n) (nI L) pl hs s S b w ∧ am 0 = a0 ∧ n ≤ 6 ∧ L ≤ 60 ∧ (∀ j, j < L → r j = b j) ∧ Rc g f s ∧ SL n G K S
section LIs
variable {E : EV} {d v0 v1 t u n L : Nat} {a : Nat → Nat} {g g' : Nat → Int32} {f f' : Nat → Nat → Int32} {r : Nat → Int32} {B : Nat → Nat → Nat} {G : Nat → Nat → Int32} {K : Nat → Nat → Nat → Int32} {am : Nat → Nat} {th pl : Int32} {hs : Int64} {s s' S b w : Nat → Int32}
theorem LI_same (hn : n ≤ 6) (hL : L ≤ 60) (hr : ∀ j, j < L → r j = b j) (hR : Rc g f s) (hS : SL n G K S) : LI E d (am 0) (dW E d v0 v1 t u (nI n) (nI L) r a g f ++ tlW E v1 B G K) (mdW E am th (nI n) (nI L) pl hs s S b w) :=
  ⟨v0, v1, t, u, n, L, a, g, f, r, B, G, K, am, th, pl, hs, s, S, b, w, rfl, rfl, rfl, hn, hL, hr, hR, hS⟩
theorem kN_le (hn : n ≤ 6) : kN n ≤ 6 := by unfold kN; split <;> omega
theorem LI_keep (hn : n ≤ 6) (hL : L ≤ 60) (hr : ∀ j, j < L → r j = b j) (hR : Rc g f s) (hS : SL n G K S) (hR' : Rc g' f' s') : LI E d (am 0) (dW E d v0 v1 t u (nI (kN n)) (nI L) r a g' f' ++ tlW E v1 (kB n B) (kG n G g) (kG n K f)) (mdW E am th (nI (kN n)) (nI L) pl hs s' (svA S s n) b w) :=
  LI_same (kN_le hn) hL hr hR' (SL_keep hn hS hR)
theorem md_pm {am : Nat → Nat} {t1 t2 m1 m2 l1 l2 p1 p2 : Int32} {h1 h2 : Int64} {s1 s2 S1 S2 b1 b2 w1 w2 : Nat → Int32} : (ads (mdW E am t1 m1 l1 p1 h1 s1 S1 b1 w1)).Perm (ads (mdW E am t2 m2 l2 p2 h2 s2 S2 b2 w2)) := List.Perm.refl [am 0, am 1, am 2, am 3, am 4]
theorem dw_pm {n1 n2 m1 m2 : Int32} {r1 r2 : Nat → Int32} {g1 g2 : Nat → Int32} {f1 f2 : Nat → Nat → Int32} : (ads (dW E d v0 v1 t u n1 m1 r1 a g1 f1)).Perm (ads (dW E d v0 v1 t u n2 m2 r2 a g2 f2)) := pm_eq rfl
end LIs
theorem prx : ∀ n : Fin 33, 1 ≤ n.val → (nI n.val &&& (nI n.val - 1) = 0 ↔ (nI n.val = nI 1 ∨ nI n.val = nI 2 ∨ nI n.val = nI 4 ∨ nI n.val = nI 8 ∨ nI n.val = nI 16 ∨ nI n.val = nI 32)) := by decide +kernel
theorem prt_iff {q : Int32} : ((1 ≤ q ∧ q ≤ 32) ∧ q &&& (q - 1) = 0) ↔ (q = nI 1 ∨ q = nI 2 ∨ q = nI 4 ∨ q = nI 8 ∨ q = nI 16 ∨ q = nI 32) := by
  constructor
  · rintro ⟨⟨h1, h2⟩, h3⟩
    obtain ⟨n, rfl, n1, n2⟩ := dig (lo := 1) (hi := 32) (by omega) h1 h2
    exact (prx ⟨n, by omega⟩ n1).mp h3
  · rintro (h | h | h | h | h | h) <;> subst h <;> decide
theorem scg_iff {C : Nat} (hC : C ≤ 10) {x : Int32} : (0 ≤ x ∧ x < nI C) ↔ (nI 0 ≤ x ∧ x ≤ nI C - nI 1) := by
  have k0 : (0 : Int32) ≤ x ↔ nI 0 ≤ x := Iff.rfl
  by_cases e : C = 0
  · subst e
    refine ⟨fun w => ?_, fun w => ?_⟩
    · exact absurd (Int32.lt_of_le_of_lt w.1 w.2) (by decide)
    · exact absurd (Int32.le_trans w.1 w.2) (by decide)
  · rw [nI_sub (by omega)]
    by_cases c : x < 0
    · refine ⟨fun w => ?_, fun w => ?_⟩
      · exact absurd (Int32.lt_of_le_of_lt w.1 c) Int32.lt_irrefl
      · exact absurd (Int32.lt_of_le_of_lt w.1 c) (by decide)
    · obtain ⟨j, hj, rfl⟩ := nI_of c
      rw [nI_ltI hj (by omega), nI_leI hj (by omega), nI_leI (by omega) hj]
      exact ⟨fun w => ⟨by omega, by omega⟩, fun w => ⟨nI_pos' hj, by omega⟩⟩
