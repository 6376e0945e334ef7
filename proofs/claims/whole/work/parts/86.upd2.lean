section UP2
variable {g : Nat → Int32} {f : Nat → Nat → Int32} {s : Nat → Int32} {R H C D d : Nat} {sn : Nat → Nat}
theorem up_reh {p κ : Nat} {r : Int32} (h : Rl g f s R H C D sn) (hp : p < 8) (hκ : κ < 6) : (∃ R' H', Rl (rehG g f (nI p)) (rehF g f (nI p) (nI κ) r) (drS s R H p (nI κ) r) R' H' C D sn) ∧ bI (¬ 3 < gt (f 1) 8 (nI p) + 1) = drR s p := by
  have h0 := up_rh h hp
  obtain ⟨hA, hB, hC⟩ := h
  have e : gt (f 1) 8 (nI p) + 1 = rh2 s p (34 + p) := by rw [hA.t1 hp, rh2_p hp]; rfl
  unfold rehG rehF drS drR
  rw [e]
  by_cases c : 3 < rh2 s p (34 + p)
  · have c' : nI 3 < rh2 s p (34 + p) := c
    rw [if_pos c, if_pos c, if_pos c', if_pos c', th_eq hκ]
    exact ⟨⟨R, _, up_ij h0⟩, (bI_f (fun w => w c)).trans nI_0.symm⟩
  · have c' : ¬ nI 3 < rh2 s p (34 + p) := c
    rw [if_neg c, if_neg c, if_neg c', if_neg c']
    exact ⟨⟨_, H, up_kp h0⟩, bI_t c⟩
/-! a scene is told -/
theorem latC_cg {F1 F2 G1 G2 : Nat → Int32} {p : Int32} {n : Nat} (h1 : ∀ i, i < n → gt F1 10 (nI i) = gt G1 10 (nI i)) (h2 : ∀ i, i < n → gt F2 10 (nI i) = gt G2 10 (nI i)) : latC F1 F2 p n = latC G1 G2 p n := by
  induction n with
  | zero => rfl
  | succ n ih => rw [latC, latC, ih (fun i hi => h1 i (by omega)) (fun i hi => h2 i (by omega)), h1 n (by omega), h2 n (by omega)]
theorem sbyC_cg {F1 F2 G1 G2 : Nat → Int32} {p : Int32} {n : Nat} (h1 : ∀ i, i < n → gt F1 10 (nI i) = gt G1 10 (nI i)) (h2 : ∀ i, i < n → gt F2 10 (nI i) = gt G2 10 (nI i)) : sbyC F1 F2 p n = sbyC G1 G2 p n := by
  induction n with
  | zero => rfl
  | succ n ih => rw [sbyC, sbyC, ih (fun i hi => h1 i (by omega)) (fun i hi => h2 i (by omega)), h1 n (by omega), h2 n (by omega)]
theorem dblC_cg {F0 F1 F2 G0 G1 G2 : Nat → Int32} {n : Nat} (h0 : ∀ i, i < n → gt F0 10 (nI i) = gt G0 10 (nI i)) (h1 : ∀ i, i < n → gt F1 10 (nI i) = gt G1 10 (nI i)) (h2 : ∀ i, i < n → gt F2 10 (nI i) = gt G2 10 (nI i)) : dblC F0 F1 F2 n = dblC G0 G1 G2 n := by
  induction n with
  | zero => rfl
  | succ n ih => rw [dblC, dblC, ih (fun i hi => h0 i (by omega)) (fun i hi => h1 i (by omega)) (fun i hi => h2 i (by omega)), h0 n (by omega), h1 n (by omega), h2 n (by omega)]
theorem scS_4 {k q p : Int32} (hC : C < 10) : scS s C k q p 4 = s 4 + nI 1 := by rw [scS, upd_eq, sc5, upd_ne (by omega), sc4, upd_ne (by omega), sc3, upd_ne (by omega), sc2, upd_ne (by omega), sc1, upd_ne (by omega)]
theorem scS_a {k q p : Int32} (hC : C < 10) : scS s C k q p (250 + 5 * C + 0) = k := by rw [scS, upd_ne (by omega), sc5, upd_ne (by omega), sc4, upd_ne (by omega), sc3, upd_ne (by omega), sc2, upd_ne (by omega), sc1, upd_eq]
theorem scS_b {k q p : Int32} (hC : C < 10) : scS s C k q p (250 + 5 * C + 1) = q := by rw [scS, upd_ne (by omega), sc5, upd_ne (by omega), sc4, upd_ne (by omega), sc3, upd_ne (by omega), sc2, upd_eq]
theorem scS_c {k q p : Int32} (hC : C < 10) : scS s C k q p (250 + 5 * C + 2) = p := by rw [scS, upd_ne (by omega), sc5, upd_ne (by omega), sc4, upd_ne (by omega), sc3, upd_eq]
theorem scS_d {k q p : Int32} (hC : C < 10) : scS s C k q p (250 + 5 * C + 3) = -1 := by rw [scS, upd_ne (by omega), sc5, upd_ne (by omega), sc4, upd_eq]
theorem scS_e {k q p : Int32} (hC : C < 10) : scS s C k q p (250 + 5 * C + 4) = -1 := by rw [scS, upd_ne (by omega), sc5, upd_eq]
theorem scS_o {k q p : Int32} {j : Nat} (h4 : j ≠ 4) (h : ¬ (250 + 5 * C ≤ j ∧ j < 250 + 5 * C + 5)) : scS s C k q p j = s j := by rw [scS, upd_ne (by omega), sc5, upd_ne (by omega), sc4, upd_ne (by omega), sc3, upd_ne (by omega), sc2, upd_ne (by omega), sc1, upd_ne (by omega)]
theorem up_scene {κ ρ π : Nat} (h : Rl g f s R H C D sn) (hC10 : C < 10) (h1 : κ < 6) (h2 : 1 ≤ ρ) (h3 : ρ ≤ 5) (h4 : π < 8) : Rl (scG g) (scF g f (nI κ) (nI ρ) (nI π)) (scS s C (nI κ) (nI ρ) (nI π)) R H (C + 1) D (fun x => if x = C then π else sn x) := by
  obtain ⟨hA, hB, hC⟩ := h
  have hM := hB.1
  obtain ⟨m1, m2, m3, m4, m5, m6, m7, m8, m9⟩ := hM
  have e8 : g 8 = nI C := hA.g8.trans m7
  have A' : RA (scG g) (scF g f (nI κ) (nI ρ) (nI π)) (scS s C (nI κ) (nI ρ) (nI π)) := ⟨⟨(by show g 0 = (scS s C (nI κ) (nI ρ) (nI π)) 0; rw [scS_o (by omega) (by omega)]; exact hA.g0), (by show g 1 = (scS s C (nI κ) (nI ρ) (nI π)) 1; rw [scS_o (by omega) (by omega)]; exact hA.g1), (by show g 2 = (scS s C (nI κ) (nI ρ) (nI π)) 2; rw [scS_o (by omega) (by omega)]; exact hA.g2), (by show g 3 = (scS s C (nI κ) (nI ρ) (nI π)) 3; rw [scS_o (by omega) (by omega)]; exact hA.g3), (by show g 4 = (scS s C (nI κ) (nI ρ) (nI π)) 6; rw [scS_o (by omega) (by omega)]; exact hA.g4), (by show g 5 = (scS s C (nI κ) (nI ρ) (nI π)) 7; rw [scS_o (by omega) (by omega)]; exact hA.g5), (by show g 6 = (scS s C (nI κ) (nI ρ) (nI π)) 8; rw [scS_o (by omega) (by omega)]; exact hA.g6), (by show g 7 = (scS s C (nI κ) (nI ρ) (nI π)) 9; rw [scS_o (by omega) (by omega)]; exact hA.g7), (by show g 8 + 1 = scS s C (nI κ) (nI ρ) (nI π) 4; rw [scS_4 hC10, hA.g8]; rfl)⟩, (fun i hi => by show f 0 i = (scS s C (nI κ) (nI ρ) (nI π)) (10 + i); rw [scS_o (by omega) (by omega)]; exact hA.f0 hi), (fun i hi => by show f 1 i = (scS s C (nI κ) (nI ρ) (nI π)) (34 + i); rw [scS_o (by omega) (by omega)]; exact hA.f1 hi), (fun i hi => by show f 2 i = (scS s C (nI κ) (nI ρ) (nI π)) (42 + 4 * i + 0); rw [scS_o (by omega) (by omega)]; exact hA.f2 hi), (fun i hi => by show f 3 i = (scS s C (nI κ) (nI ρ) (nI π)) (42 + 4 * i + 1); rw [scS_o (by omega) (by omega)]; exact hA.f3 hi), (fun i hi => by show f 4 i = (scS s C (nI κ) (nI ρ) (nI π)) (42 + 4 * i + 2); rw [scS_o (by omega) (by omega)]; exact hA.f4 hi), (fun i hi => by show f 5 i = (scS s C (nI κ) (nI ρ) (nI π)) (42 + 4 * i + 3); rw [scS_o (by omega) (by omega)]; exact hA.f5 hi), (fun i hi => by show f 6 i = (scS s C (nI κ) (nI ρ) (nI π)) (202 + 4 * i + 0); rw [scS_o (by omega) (by omega)]; exact hA.f6 hi), (fun i hi => by show f 7 i = (scS s C (nI κ) (nI ρ) (nI π)) (202 + 4 * i + 1); rw [scS_o (by omega) (by omega)]; exact hA.f7 hi), (fun i hi => by show f 8 i = (scS s C (nI κ) (nI ρ) (nI π)) (202 + 4 * i + 3); rw [scS_o (by omega) (by omega)]; exact hA.f8 hi), (fun i hi => by show ptF (f 9) 10 (g 8) (nI κ) i = scS s C (nI κ) (nI ρ) (nI π) (250 + 5 * i + 0); rw [e8]; exact (put_row (T := fun i => s (250 + 5 * i + 0)) (T' := fun i => scS s C (nI κ) (nI ρ) (nI π) (250 + 5 * i + 0)) hC10 (fun i hi => hA.f9 hi) (scS_a hC10) (fun i hi hne => by show scS s C (nI κ) (nI ρ) (nI π) (250 + 5 * i + 0) = s (250 + 5 * i + 0); rw [scS_o (by omega) (by omega)])) i hi), (fun i hi => by show ptF (f 10) 10 (g 8) (nI ρ) i = scS s C (nI κ) (nI ρ) (nI π) (250 + 5 * i + 1); rw [e8]; exact (put_row (T := fun i => s (250 + 5 * i + 1)) (T' := fun i => scS s C (nI κ) (nI ρ) (nI π) (250 + 5 * i + 1)) hC10 (fun i hi => hA.f10 hi) (scS_b hC10) (fun i hi hne => by show scS s C (nI κ) (nI ρ) (nI π) (250 + 5 * i + 1) = s (250 + 5 * i + 1); rw [scS_o (by omega) (by omega)])) i hi), (fun i hi => by show ptF (f 11) 10 (g 8) (nI π) i = scS s C (nI κ) (nI ρ) (nI π) (250 + 5 * i + 2); rw [e8]; exact (put_row (T := fun i => s (250 + 5 * i + 2)) (T' := fun i => scS s C (nI κ) (nI ρ) (nI π) (250 + 5 * i + 2)) hC10 (fun i hi => hA.f11 hi) (scS_c hC10) (fun i hi hne => by show scS s C (nI κ) (nI ρ) (nI π) (250 + 5 * i + 2) = s (250 + 5 * i + 2); rw [scS_o (by omega) (by omega)])) i hi), (fun i hi => by show ptF (f 12) 10 (g 8) (-1) i = scS s C (nI κ) (nI ρ) (nI π) (250 + 5 * i + 3); rw [e8]; exact (put_row (T := fun i => s (250 + 5 * i + 3)) (T' := fun i => scS s C (nI κ) (nI ρ) (nI π) (250 + 5 * i + 3)) hC10 (fun i hi => hA.f12 hi) (scS_d hC10) (fun i hi hne => by show scS s C (nI κ) (nI ρ) (nI π) (250 + 5 * i + 3) = s (250 + 5 * i + 3); rw [scS_o (by omega) (by omega)])) i hi), (fun i hi => by show ptF (f 13) 10 (g 8) (-1) i = scS s C (nI κ) (nI ρ) (nI π) (250 + 5 * i + 4); rw [e8]; exact (put_row (T := fun i => s (250 + 5 * i + 4)) (T' := fun i => scS s C (nI κ) (nI ρ) (nI π) (250 + 5 * i + 4)) hC10 (fun i hi => hA.f13 hi) (scS_e hC10) (fun i hi hne => by show scS s C (nI κ) (nI ρ) (nI π) (250 + 5 * i + 4) = s (250 + 5 * i + 4); rw [scS_o (by omega) (by omega)])) i hi)⟩
  have r11 : ∀ i, i < C → gt (scF g f (nI κ) (nI ρ) (nI π) 11) 10 (nI i) = gt (f 11) 10 (nI i) := fun i hi => by rw [A'.t11 (by omega), hA.t11 (by omega), scS_o (by omega) (by omega)]
  have r12 : ∀ i, i < C → gt (scF g f (nI κ) (nI ρ) (nI π) 12) 10 (nI i) = gt (f 12) 10 (nI i) := fun i hi => by rw [A'.t12 (by omega), hA.t12 (by omega), scS_o (by omega) (by omega)]
  have r13 : ∀ i, i < C → gt (scF g f (nI κ) (nI ρ) (nI π) 13) 10 (nI i) = gt (f 13) 10 (nI i) := fun i hi => by rw [A'.t13 (by omega), hA.t13 (by omega), scS_o (by omega) (by omega)]
  have l12 : gt (scF g f (nI κ) (nI ρ) (nI π) 12) 10 (nI C) = -1 := by rw [A'.t12 (by omega), scS_d hC10]
  have l13 : gt (scF g f (nI κ) (nI ρ) (nI π) 13) 10 (nI C) = -1 := by rw [A'.t13 (by omega), scS_e hC10]
  refine ⟨A', ⟨⟨by rw [scS_o (by omega) (by omega)]; exact m1, m2, by rw [scS_o (by omega) (by omega)]; exact m3, m4, by rw [scS_o (by omega) (by omega)]; exact m5, m6, by rw [scS_4 hC10, m7, nI_add], by omega, fun x hx => ?_⟩, fun p hp => by rw [scS_o (by omega) (by omega)]; exact hB.2.1 p hp, fun i hi => by rw [scS_o (by omega) (by omega)]; exact hB.2.2.1 i hi, fun i hi => by rw [scS_o (by omega) (by omega)]; exact hB.2.2.2.1 i hi, fun i hi => ?_, fun i hi => ?_⟩, fun p hp => ?_, fun p hp => ?_, ?_⟩
  · by_cases e : x = C
    · subst e
      rw [scS_c hC10, show (fun y => if y = x then π else sn y) x = π from if_pos rfl]
      exact ⟨rfl, h4⟩
    · rw [scS_o (by omega) (by omega), show (fun y => if y = C then π else sn y) x = sn x from if_neg e]
      exact m9 x hx
  · by_cases e : i = C
    · subst e
      exact ⟨κ, ρ, scS_a hC10, h1, scS_b hC10, h2, h3⟩
    · rw [scS_o (by omega) (by omega), scS_o (by omega) (by omega)]
      exact hB.2.2.2.2.1 i (by omega)
  · by_cases e : i = C
    · subst e
      exact Or.inl ⟨scS_d hC10, scS_e hC10⟩
    · rw [scS_o (by omega) (by omega), scS_o (by omega) (by omega)]
      exact hB.2.2.2.2.2 i (by omega)
  · rw [scS_o (by omega) (by omega), latC, l12, l13, if_neg (fun w => nI_m (by omega) w.1.symm), latC_cg r12 r13]
    exact hC.1 p hp
  · rw [scS_o (by omega) (by omega), sbyC, l12, l13, if_neg (fun w => w.1 rfl), sbyC_cg r12 r13]
    exact hC.2.1 p hp
  · rw [scS_o (by omega) (by omega), dblC, l12, l13, if_neg (fun w => w.1 rfl), dblC_cg r11 r12 r13]
    exact hC.2.2
/-! a scene is shot -/
theorem up_shoot {x p : Nat} (h : Rl g f s R H C D sn) (hx : x < C) (hp : p < 8) (hs : s (250 + 5 * x + 3) = -1) : Rl g (shF g f (nI x) (nI p)) (doS s sn x p) R H C D sn ∧ bI (¬ gt (shF g f (nI x) (nI p) 12) 10 (nI x) = -1 ∧ ¬ gt (shF g f (nI x) (nI p) 13) 10 (nI x) = gt (shF g f (nI x) (nI p) 11) 10 (nI x)) = dbM sn x p := by
  obtain ⟨hA, hB, hC⟩ := h
  have hM := hB.1
  obtain ⟨m1, m2, m3, m4, m5, m6, m7, m8, m9⟩ := hM
  have hx0 : x < 10 := by omega
  have A' : RA g (shF g f (nI x) (nI p)) (doS s sn x p) := ⟨⟨(by show g 0 = doS s sn x p 0; rw [doS_o (by omega) (by omega) (by omega) (by omega) (by omega)]; exact hA.g0), (by show g 1 = doS s sn x p 1; rw [doS_o (by omega) (by omega) (by omega) (by omega) (by omega)]; exact hA.g1), (by show g 2 = doS s sn x p 2; rw [doS_o (by omega) (by omega) (by omega) (by omega) (by omega)]; exact hA.g2), (by show g 3 = doS s sn x p 3; rw [doS_o (by omega) (by omega) (by omega) (by omega) (by omega)]; exact hA.g3), (by show g 4 = doS s sn x p 6; rw [doS_o (by omega) (by omega) (by omega) (by omega) (by omega)]; exact hA.g4), (by show g 5 = doS s sn x p 7; rw [doS_o (by omega) (by omega) (by omega) (by omega) (by omega)]; exact hA.g5), (by show g 6 = doS s sn x p 8; rw [doS_o (by omega) (by omega) (by omega) (by omega) (by omega)]; exact hA.g6), (by show g 7 = doS s sn x p 9; rw [doS_o (by omega) (by omega) (by omega) (by omega) (by omega)]; exact hA.g7), (by show g 8 = doS s sn x p 4; rw [doS_o (by omega) (by omega) (by omega) (by omega) (by omega)]; exact hA.g8)⟩, (fun i hi => by show f 0 i = doS s sn x p (10 + i); rw [doS_o (by omega) (by omega) (by omega) (by omega) (by omega)]; exact hA.f0 hi), (fun i hi => by show f 1 i = doS s sn x p (34 + i); rw [doS_o (by omega) (by omega) (by omega) (by omega) (by omega)]; exact hA.f1 hi), (fun i hi => by show f 2 i = doS s sn x p (42 + 4 * i + 0); rw [doS_o (by omega) (by omega) (by omega) (by omega) (by omega)]; exact hA.f2 hi), (fun i hi => by show f 3 i = doS s sn x p (42 + 4 * i + 1); rw [doS_o (by omega) (by omega) (by omega) (by omega) (by omega)]; exact hA.f3 hi), (fun i hi => by show f 4 i = doS s sn x p (42 + 4 * i + 2); rw [doS_o (by omega) (by omega) (by omega) (by omega) (by omega)]; exact hA.f4 hi), (fun i hi => by show f 5 i = doS s sn x p (42 + 4 * i + 3); rw [doS_o (by omega) (by omega) (by omega) (by omega) (by omega)]; exact hA.f5 hi), (fun i hi => by show f 6 i = doS s sn x p (202 + 4 * i + 0); rw [doS_o (by omega) (by omega) (by omega) (by omega) (by omega)]; exact hA.f6 hi), (fun i hi => by show f 7 i = doS s sn x p (202 + 4 * i + 1); rw [doS_o (by omega) (by omega) (by omega) (by omega) (by omega)]; exact hA.f7 hi), (fun i hi => by show f 8 i = doS s sn x p (202 + 4 * i + 3); rw [doS_o (by omega) (by omega) (by omega) (by omega) (by omega)]; exact hA.f8 hi), (fun i hi => by show f 9 i = doS s sn x p (250 + 5 * i + 0); rw [doS_o (by omega) (by omega) (by omega) (by omega) (by omega)]; exact hA.f9 hi), (fun i hi => by show f 10 i = doS s sn x p (250 + 5 * i + 1); rw [doS_o (by omega) (by omega) (by omega) (by omega) (by omega)]; exact hA.f10 hi), (fun i hi => by show f 11 i = doS s sn x p (250 + 5 * i + 2); rw [doS_o (by omega) (by omega) (by omega) (by omega) (by omega)]; exact hA.f11 hi), (put_row (T := fun i => s (250 + 5 * i + 3)) (T' := fun i => doS s sn x p (250 + 5 * i + 3)) hx0 (fun i hi => hA.f12 hi) ((doS_a hx0 hp).trans hA.g0.symm) (fun i hi hne => by show doS s sn x p (250 + 5 * i + 3) = s (250 + 5 * i + 3); rw [doS_o (by omega) (by omega) (by omega) (by omega) (by omega)])), (put_row (T := fun i => s (250 + 5 * i + 4)) (T' := fun i => doS s sn x p (250 + 5 * i + 4)) hx0 (fun i hi => hA.f13 hi) (doS_b hx0 hp) (fun i hi hne => by show doS s sn x p (250 + 5 * i + 4) = s (250 + 5 * i + 4); rw [doS_o (by omega) (by omega) (by omega) (by omega) (by omega)]))⟩
  have h4 : s (250 + 5 * x + 4) = -1 := by
    rcases hB.2.2.2.2.2 x hx with w | ⟨z, q, e1, hz, -, -⟩
    · exact w.2
    · rw [hs] at e1; exact absurd e1.symm (nI_m (by omega))
  have B' : RB (doS s sn x p) R H C D sn := ⟨MI_do hB.1 hx0 hp, (fun p hp => by rw [doS_o (by omega) (by omega) (by omega) (by omega) (by omega)]; exact hB.2.1 p hp), (fun i hi => by have hR := hB.1.2.2.2.1; rw [doS_o (by omega) (by omega) (by omega) (by omega) (by omega)]; exact hB.2.2.1 i hi), (fun i hi => by have hH := hB.1.2.2.2.2.2.1; rw [doS_o (by omega) (by omega) (by omega) (by omega) (by omega)]; exact hB.2.2.2.1 i hi), (fun i hi => by have hC := hB.1.2.2.2.2.2.2.2.1; rw [doS_o (by omega) (by omega) (by omega) (by omega) (by omega), doS_o (by omega) (by omega) (by omega) (by omega) (by omega)]; exact hB.2.2.2.2.1 i hi), (fun i hi => by by_cases e : i = x; (subst e; exact Or.inr ⟨D, p, (doS_a hx0 hp).trans m1, Nat.le_refl _, doS_b hx0 hp, hp⟩); (rw [doS_o (by omega) (by omega) (by omega) (by omega) (by omega), doS_o (by omega) (by omega) (by omega) (by omega) (by omega)]; exact hB.2.2.2.2.2 i hi))⟩
  have v12 : ∀ i, i < C → gt (shF g f (nI x) (nI p) 12) 10 (nI i) = if i = x then nI D else gt (f 12) 10 (nI i) := fun i hi => by
    rw [A'.t12 (by omega)]
    by_cases e : i = x
    · subst e; rw [if_pos rfl, doS_a hx0 hp, m1]
    · rw [if_neg e, doS_o (by omega) (by omega) (by omega) (by omega) (by omega), hA.t12 (by omega)]
  have v13 : ∀ i, i < C → gt (shF g f (nI x) (nI p) 13) 10 (nI i) = if i = x then nI p else gt (f 13) 10 (nI i) := fun i hi => by
    rw [A'.t13 (by omega)]
    by_cases e : i = x
    · subst e; rw [if_pos rfl, doS_b hx0 hp]
    · rw [if_neg e, doS_o (by omega) (by omega) (by omega) (by omega) (by omega), hA.t13 (by omega)]
  have o12 : gt (f 12) 10 (nI x) = -1 := (hA.t12 hx0).trans hs
  have o13 : gt (f 13) 10 (nI x) = -1 := (hA.t13 hx0).trans h4
  have o11 : gt (f 11) 10 (nI x) = nI (sn x) := (hA.t11 hx0).trans (m9 x hx0).1
  have nD : ¬ nI D = -1 := nI_m (by omega)
  have lt : ∀ q, q < 8 → ∀ n, n ≤ C → latC (shF g f (nI x) (nI p) 12) (shF g f (nI x) (nI p) 13) (nI q) n = if q = p ∧ x < n then nI D else latC (f 12) (f 13) (nI q) n := by
    intro q hq n hn
    have kq : nI p = nI q ↔ p = q := nI_eq (by omega) (by omega)
    induction n with
    | zero => rw [if_neg (by omega)]; rfl
    | succ n ih =>
      rw [latC, v12 n (by omega), v13 n (by omega), ih (by omega)]
      by_cases e : n = x
      · subst e
        rw [if_pos rfl, if_pos rfl, if_neg (show ¬ (q = p ∧ n < n) by omega)]
        by_cases eq : q = p
        · subst eq
          rw [if_pos (show q = q ∧ n < n + 1 by omega)]
          split
          · rfl
          · rename_i w
            rcases lat_val hA hB (p := nI q) (n := n) (by omega) with w1 | ⟨z, w1, hz⟩
            · exact absurd ⟨rfl, by rw [w1]; exact m_lt (by omega)⟩ w
            · rw [w1] at w ⊢
              have : ¬ nI z < nI D := fun k => w ⟨rfl, k⟩
              rw [nI_ltI (by omega) (by omega)] at this
              rw [show z = D by omega]
        · rw [if_neg (fun w => eq (kq.mp w.1).symm), if_neg (fun w => eq w.1), latC, o12, o13, if_neg (fun w => nI_m (by omega) w.1.symm)]
      · rw [if_neg e, if_neg e]
        by_cases w : q = p ∧ x < n
        · rw [if_pos w, if_pos (show q = p ∧ x < n + 1 by omega)]
          split
          · rename_i k
            rcases hB.2.2.2.2.2 n (by omega) with w1 | ⟨z, y, w1, hz, -, -⟩
            · rw [hA.t12 (by omega), w1.1] at k
              exact absurd (Int32.lt_trans k.2 (m_lt (n := D) (by omega))) Int32.lt_irrefl
            · rw [hA.t12 (by omega), w1] at k
              have := (nI_ltI (by omega) (by omega)).mp k.2
              omega
          · rfl
        · rw [if_neg w, if_neg (show ¬ (q = p ∧ x < n + 1) by omega), latC]
  have sb : ∀ q, q < 8 → ∀ n, n ≤ C → sbyC (shF g f (nI x) (nI p) 12) (shF g f (nI x) (nI p) 13) (nI q) n = if q = p ∧ x < n then sbyC (f 12) (f 13) (nI q) n + 1 else sbyC (f 12) (f 13) (nI q) n := by
    intro q hq n hn
    have kq : nI p = nI q ↔ p = q := nI_eq (by omega) (by omega)
    induction n with
    | zero => rw [if_neg (by omega)]; rfl
    | succ n ih =>
      rw [sbyC, sbyC, v12 n (by omega), v13 n (by omega), ih (by omega)]
      by_cases e : n = x
      · subst e
        rw [if_pos rfl, if_pos rfl, if_neg (show ¬ (q = p ∧ n < n) by omega), o12, o13, if_neg (show ¬ (¬ (-1 : Int32) = -1 ∧ (-1 : Int32) = nI q) from fun w => w.1 rfl)]
        by_cases eq : q = p
        · subst eq
          rw [if_pos ⟨nD, rfl⟩, if_pos (show q = q ∧ n < n + 1 by omega)]
        · rw [if_neg (fun w => eq (kq.mp w.2).symm), if_neg (fun w => eq w.1)]
      · rw [if_neg e, if_neg e]
        by_cases w : q = p ∧ x < n
        · rw [if_pos w, if_pos (show q = p ∧ x < n + 1 by omega)]
          split <;> rfl
        · rw [if_neg w, if_neg (show ¬ (q = p ∧ x < n + 1) by omega)]
  have kp : nI p = nI (sn x) ↔ p = sn x := nI_eq (by omega) (by have := (m9 x hx0).2; omega)
  have db : ∀ n, n ≤ C → dblC (f 11) (shF g f (nI x) (nI p) 12) (shF g f (nI x) (nI p) 13) n = if ¬ p = sn x ∧ x < n then dblC (f 11) (f 12) (f 13) n + 1 else dblC (f 11) (f 12) (f 13) n := by
    intro n hn
    induction n with
    | zero => rw [if_neg (by omega)]; rfl
    | succ n ih =>
      rw [dblC, dblC, v12 n (by omega), v13 n (by omega), ih (by omega)]
      by_cases e : n = x
      · subst e
        rw [if_pos rfl, if_pos rfl, if_neg (show ¬ (¬ p = sn n ∧ n < n) by omega), o12, o13, o11, if_neg (show ¬ (¬ (-1 : Int32) = -1 ∧ ¬ (-1 : Int32) = nI (sn n)) from fun w => w.1 rfl)]
        by_cases eq : p = sn n
        · rw [if_neg (fun w => w.2 (kp.mpr eq)), if_neg (fun w => w.1 eq)]
        · rw [if_pos ⟨nD, fun w => eq (kp.mp w)⟩, if_pos (show ¬ p = sn n ∧ n < n + 1 by omega)]
      · rw [if_neg e, if_neg e]
        by_cases w : ¬ p = sn x ∧ x < n
        · rw [if_pos w, if_pos (show ¬ p = sn x ∧ x < n + 1 by omega)]
          split <;> rfl
        · rw [if_neg w, if_neg (show ¬ (¬ p = sn x ∧ x < n + 1) by omega)]
  refine ⟨⟨A', B', fun q hq => ?_, fun q hq => ?_, ?_⟩, ?_⟩
  · rw [lt q hq C (Nat.le_refl _)]
    by_cases e : q = p
    · subst e
      rw [if_pos ⟨rfl, hx⟩, doS_18 hx0 hp, m1]
    · rw [if_neg (fun w => e w.1), doS_o (by omega) (by omega) (by omega) (by omega) (by omega)]
      exact hC.1 q hq
  · rw [sb q hq C (Nat.le_refl _)]
    by_cases e : q = p
    · subst e
      rw [if_pos ⟨rfl, hx⟩, doS_26 hx0 hp, hC.2.1 q hq]
      rfl
    · rw [if_neg (fun w => e w.1), doS_o (by omega) (by omega) (by omega) (by omega) (by omega)]
      exact hC.2.1 q hq
  · show doS s sn x p 5 = dblC (f 11) (shF g f (nI x) (nI p) 12) (shF g f (nI x) (nI p) 13) C
    rw [db C (Nat.le_refl _), doS_5 hx0 hp, hC.2.2, dbM]
    by_cases e : p = sn x
    · rw [if_pos (kp.mpr e), if_neg (fun w => w.1 e), nI_0, Int32.add_zero]
    · rw [if_neg (fun w => e (kp.mp w)), if_pos ⟨e, hx⟩]
      rfl
  · have e11 : gt (shF g f (nI x) (nI p) 11) 10 (nI x) = nI (sn x) := o11
    rw [v12 x hx, v13 x hx, if_pos rfl, if_pos rfl, e11, dbM]
    by_cases e : nI p = nI (sn x)
    · rw [if_pos e, bI_f (fun w => w.2 e), nI_0]
    · rw [if_neg e, bI_t ⟨nD, e⟩]
      rfl
end UP2
