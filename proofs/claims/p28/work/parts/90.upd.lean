/-! what the calls write, in the class and in the law's rows -/
theorem ptF_n {f : Nat → Int32} {N i : Nat} {v : Int32} (h : i < N) (hN : N < 2 ^ 31 := by decide) : ptF f N (nI i) v = upd f i v := by
  unfold ptF
  rw [if_neg (nI_pos (by omega)), if_neg (by rw [nI_leI hN (by omega)]; omega), nI_clamp (by omega)]
theorem put_row {F T : Nat → Int32} {N q : Nat} {v : Int32} (hq : q < N) (h : ∀ i, i < N → F i = T i) (hN : N < 2 ^ 31 := by decide) : ∀ i, i < N → ptF F N (nI q) v i = upd T q v i := by
  intro i hi
  rw [ptF_n hq hN]
  by_cases e : i = q
  · subst e; rw [upd_eq, upd_eq]
  · rw [upd_ne e, upd_ne e, h i hi]
theorem kpI_lt {n N : Nat} {M : Int32} (hM : M = nI N) (h : n < N) (hN : N < 2 ^ 31) : kpI (nI n) M = nI n := by
  unfold kpI
  rw [hM, if_pos ((nI_ltI (by omega) hN).mpr h)]
theorem kpR_lt {n N K : Nat} {M : Int32} {F : Nat → Int32} (hM : M = nI N) (h : n < N) (hN : N < 2 ^ 31) : kpR (nI n) M K F = F := by
  unfold kpR
  rw [hM, if_pos ((nI_ltI (by omega) hN).mpr h)]
theorem kpR_eq {N K : Nat} {M : Int32} {F : Nat → Int32} (hM : M = nI N) : kpR (nI N) M K F = drF K F := by
  unfold kpR
  rw [hM, if_neg (Int32.lt_irrefl)]
theorem drF_at {N i : Nat} {F : Nat → Int32} (h : i < N - 1) : drF N F i = F (i + 1) := if_pos h
theorem in_app {D q : Nat} {F6 F7 F8 T : Nat → Int32} {a b c e : Int32} (hq : q < 12) (hi : ∀ i, i < q → InO D (F6 i) (F7 i) (F8 i) (T i)) (hn : InO D a b c e) : ∀ i, i < q + 1 → InO D (ptF F6 12 (nI q) a i) (ptF F7 12 (nI q) b i) (ptF F8 12 (nI q) c i) (upd T q e i) := by
  intro i h
  rw [ptF_n hq, ptF_n hq, ptF_n hq]
  by_cases w : i = q
  · subst w; rw [upd_eq, upd_eq, upd_eq, upd_eq]; exact hn
  · rw [upd_ne w, upd_ne w, upd_ne w, upd_ne w]; exact hi i (by omega)
theorem rh_app {D q : Nat} {F2 F3 F4 F5 T : Nat → Int32} {a b c d e : Int32} (hq : q < 40) (hi : ∀ i, i < q → RhO D (F2 i) (F3 i) (F4 i) (F5 i) (T i)) (hn : RhO D a b c d e) : ∀ i, i < q + 1 → RhO D (ptF F2 40 (nI q) a i) (ptF F3 40 (nI q) b i) (ptF F4 40 (nI q) c i) (ptF F5 40 (nI q) d i) (upd T q e i) := by
  intro i h
  rw [ptF_n hq, ptF_n hq, ptF_n hq, ptF_n hq]
  by_cases w : i = q
  · subst w; rw [upd_eq, upd_eq, upd_eq, upd_eq, upd_eq]; exact hn
  · rw [upd_ne w, upd_ne w, upd_ne w, upd_ne w, upd_ne w]; exact hi i (by omega)
theorem latC_cg {F1 F2 G1 G2 : Nat → Int32} {p : Int32} {n : Nat} (h1 : ∀ i, i < n → gt F1 10 (nI i) = gt G1 10 (nI i)) (h2 : ∀ i, i < n → gt F2 10 (nI i) = gt G2 10 (nI i)) : latC F1 F2 p n = latC G1 G2 p n := by
  induction n with
  | zero => rfl
  | succ n ih => rw [latC, latC, ih (fun i hi => h1 i (by omega)) (fun i hi => h2 i (by omega)), h1 n (by omega), h2 n (by omega)]
theorem dblC_cg {F0 F1 F2 G0 G1 G2 : Nat → Int32} {n : Nat} (h0 : ∀ i, i < n → gt F0 10 (nI i) = gt G0 10 (nI i)) (h1 : ∀ i, i < n → gt F1 10 (nI i) = gt G1 10 (nI i)) (h2 : ∀ i, i < n → gt F2 10 (nI i) = gt G2 10 (nI i)) : dblC F0 F1 F2 n = dblC G0 G1 G2 n := by
  induction n with
  | zero => rfl
  | succ n ih => rw [dblC, dblC, ih (fun i hi => h0 i (by omega)) (fun i hi => h1 i (by omega)) (fun i hi => h2 i (by omega)), h0 n (by omega), h1 n (by omega), h2 n (by omega)]
section UP
variable {g : Nat → Int32} {f : Nat → Nat → Int32} {qs zs fo ts rs hs cs : Nat → Int32} {D R H C I P : Nat}
theorem up_size {p : Nat} {w : Int32} (h : LJ g f qs zs fo ts rs hs cs D R H C I P) (hp : p < 8) : LJ g (va_up f 0 (ptF (f 0) 8 (nI p) w)) qs (upd zs p w) fo ts rs hs cs D R H C I P := by
  obtain ⟨hb, hg, hq, hz, ht, ho, hr, hi, hc⟩ := h
  exact ⟨hb, hg, hq, put_row hp hz, ht, ho, hr, hi, hc⟩
theorem up_pass {d : Nat} (h : LJ g f qs zs fo ts rs hs cs D R H C I P) (hd : D + d ≤ 999) : LJ (va_up g 0 (g 0 + nI d)) (va_up f 1 (fun _ => 0)) (upd qs 0 (qs 0 + nI d)) zs fo (ztF ts 8) rs hs cs (D + d) R H C I P := by
  obtain ⟨hb, hg, hq, hz, ht, ho, hr, hi, hc⟩ := h
  exact ⟨⟨hd, hb.2⟩, ⟨by show g 0 + nI d = _; rw [hg.1, nI_add], hg.2⟩, ⟨by rw [upd_eq, hq.1, nI_add], ((upd_ne (by decide)).trans hq.2.1), ((upd_ne (by decide)).trans hq.2.2.1), ((upd_ne (by decide)).trans hq.2.2.2.1), ((upd_ne (by decide)).trans hq.2.2.2.2.1), ((upd_ne (by decide)).trans hq.2.2.2.2.2.1), ((upd_ne (by decide)).trans hq.2.2.2.2.2.2.1), ((upd_ne (by decide)).trans hq.2.2.2.2.2.2.2.1), ((upd_ne (by decide)).trans hq.2.2.2.2.2.2.2.2.1), ((upd_ne (by decide)).trans hq.2.2.2.2.2.2.2.2.2)⟩, hz, fun p hp => (if_pos hp : ztF ts 8 p = nI 0).symm, ho, fun i h => (hr i h).mono (by omega), fun i h => (hi i h).mono (by omega), fun i h => (hc i h).mono (by omega)⟩
theorem co_eq {w v : Int32} (h : LJ g f qs zs fo ts rs hs cs D R H C I P) : coL qs v w = cosC g w v := by
  unfold cosC
  show v * w * w + v * w * w * qs 6 / nI 10 = _
  rw [h.q6, h.g4]; rfl
theorem up_ins {w v : Int32} {K : Nat} (h : LJ g f qs zs fo ts rs hs cs D R H C I P) (hk : coL qs v w = nI K) (hK : K ≤ P) : LJ (isG g w v) f (isQ qs v w) zs fo ts rs hs cs D R H C I (P - K) := by
  have hk2 : cosC g w v = nI K := (co_eq h).symm.trans hk
  obtain ⟨hb, hg, hq, hz, ht, ho, hr, hi, hc⟩ := h
  refine ⟨⟨hb.1, hb.2.1, hb.2.2.1, hb.2.2.2.1, hb.2.2.2.2.1, by omega⟩, ⟨hg.1, ?_, hg.2.2⟩, ⟨((upd_ne (by decide)).trans ((upd_ne (by decide)).trans ((upd_ne (by decide)).trans hq.1))), ?_, (upd_ne (by decide)).trans upd_eq, ?_, ((upd_ne (by decide)).trans ((upd_ne (by decide)).trans ((upd_ne (by decide)).trans hq.2.2.2.2.1))), ((upd_ne (by decide)).trans ((upd_ne (by decide)).trans ((upd_ne (by decide)).trans hq.2.2.2.2.2.1))), ((upd_ne (by decide)).trans ((upd_ne (by decide)).trans ((upd_ne (by decide)).trans hq.2.2.2.2.2.2.1))), ((upd_ne (by decide)).trans ((upd_ne (by decide)).trans ((upd_ne (by decide)).trans hq.2.2.2.2.2.2.2.1))), ((upd_ne (by decide)).trans ((upd_ne (by decide)).trans ((upd_ne (by decide)).trans hq.2.2.2.2.2.2.2.2.1))), ((upd_ne (by decide)).trans ((upd_ne (by decide)).trans ((upd_ne (by decide)).trans hq.2.2.2.2.2.2.2.2.2)))⟩, hz, ht, ho, hr, hi, hc⟩
  · show g 1 - cosC g w v = _
    rw [hg.2.1, hk2, nI_sub hK]
  · refine (upd_ne (by decide)).trans ((upd_ne (by decide)).trans (upd_eq.trans ?_))
    rw [hk, hq.2.1, nI_sub hK]
  · refine upd_eq.trans ?_
    show qs 0 + v - nI 1 = g 0 + v - 1
    rw [hq.1, hg.1]; rfl
theorem up_rh0 {p : Nat} (h : LJ g f qs zs fo ts rs hs cs D R H C I P) (hp : p < 8) : LJ (rehG0 g) (rehF0 f (nI p)) (rhQ qs) zs fo (upd ts p (ts p + nI 1)) rs hs cs D R H C I P := by
  have e := h.t hp
  obtain ⟨hb, hg, hq, hz, ht, ho, hr, hi, hc⟩ := h
  refine ⟨hb, hg, ⟨((upd_ne (by decide)).trans hq.1), ((upd_ne (by decide)).trans hq.2.1), ((upd_ne (by decide)).trans hq.2.2.1), ((upd_ne (by decide)).trans hq.2.2.2.1), ((upd_ne (by decide)).trans hq.2.2.2.2.1), ((upd_ne (by decide)).trans hq.2.2.2.2.2.1), ((upd_ne (by decide)).trans hq.2.2.2.2.2.2.1), ?_, ((upd_ne (by decide)).trans hq.2.2.2.2.2.2.2.2.1), ((upd_ne (by decide)).trans hq.2.2.2.2.2.2.2.2.2)⟩, hz, ?_, ho, hr, hi, hc⟩
  · refine upd_eq.trans ?_
    show qs 7 + nI 1 = g 5 + 1
    rw [hq.2.2.2.2.2.2.2.1]; rfl
  · show ∀ i, i < 8 → ptF (f 1) 8 (nI p) (gt (f 1) 8 (nI p) + 1) i = _
    rw [e]
    exact put_row hp ht
theorem ijV_eq {p u x : Nat} (h : LJ g f qs zs fo ts rs hs cs D R H C I P) (hx : 1 ≤ x) : ijV qs (nI p) (nI u) (nI x) = nI (p + 8 * u + 512 * D + 524288 * (D + x - 1)) := by
  show nI p + nI 8 * nI u + nI 512 * qs 0 + nI 524288 * (qs 0 + nI x - nI 1) = _
  rw [h.q0, pk_mul, nI_add, pk_mul, nI_add, nI_add, nI_sub (by omega), pk_mul, nI_add]
theorem up_ij {p u x : Nat} (h : LJ g f qs zs fo ts rs hs cs D R H C I P) (hp : p < 8) (hu : 1 ≤ u) (hu2 : u < 64) (hx : 1 ≤ x) (hx2 : x ≤ 60) (hI : I + 1 ≤ 40) : LJ (injG g) (injF g f (nI p) (nI u) (nI x)) (ijQ qs (ijN H)) zs fo ts rs (ijH hs H (ijV qs (nI p) (nI u) (nI x))) cs D R (ijN H) C (I + 1) P := by
  have e := ijV_eq (p := p) (u := u) (x := x) h hx
  have hn : InO D (nI p) (nI u) (g 0 + nI x - 1) (ijV qs (nI p) (nI u) (nI x)) := ⟨p, u, D, D + x - 1, hp, hu, hu2, Nat.le_refl _, by have := h.bd; omega, rfl, rfl, by rw [h.g0, nI_add]; exact nI_sub (b := 1) (by omega), e⟩
  have e7 := h.g7
  obtain ⟨hb, hg, hq, hz, ht, ho, hr, hi, hc⟩ := h
  have hQ : ijN H ≤ 12 := ijN_le hb.2.2.1
  have q' : ijQ qs (ijN H) 0 = nI D ∧ ijQ qs (ijN H) 1 = nI P ∧ ijQ qs (ijN H) 2 = g 2 ∧ ijQ qs (ijN H) 3 = g 3 ∧ ijQ qs (ijN H) 4 = nI C ∧ ijQ qs (ijN H) 5 = dblC (f 11) (f 12) (f 13) C ∧ ijQ qs (ijN H) 6 = nI (I + 1) ∧ ijQ qs (ijN H) 7 = g 5 ∧ ijQ qs (ijN H) 8 = nI R ∧ ijQ qs (ijN H) 9 = nI (ijN H) := ⟨((upd_ne (by decide)).trans ((upd_ne (by decide)).trans hq.1)), ((upd_ne (by decide)).trans ((upd_ne (by decide)).trans hq.2.1)), ((upd_ne (by decide)).trans ((upd_ne (by decide)).trans hq.2.2.1)), ((upd_ne (by decide)).trans ((upd_ne (by decide)).trans hq.2.2.2.1)), ((upd_ne (by decide)).trans ((upd_ne (by decide)).trans hq.2.2.2.2.1)), ((upd_ne (by decide)).trans ((upd_ne (by decide)).trans hq.2.2.2.2.2.1)), upd_eq.trans (by rw [hq.2.2.2.2.2.2.1, nI_add]), ((upd_ne (by decide)).trans ((upd_ne (by decide)).trans hq.2.2.2.2.2.2.2.1)), ((upd_ne (by decide)).trans ((upd_ne (by decide)).trans hq.2.2.2.2.2.2.2.2.1)), (upd_ne (by decide)).trans upd_eq⟩
  have g4 : g 4 + 1 = nI (I + 1) := by rw [hg.2.2.1]; exact nI_add I 1
  unfold injG injF ijH
  unfold ijN at *
  by_cases c : H < 12
  · rw [if_pos c] at q' hQ ⊢
    rw [if_pos c, e7, kpI_lt (M := 12) (N := 12) rfl c (by decide), kpR_lt (M := 12) (N := 12) rfl c (by decide), kpR_lt (M := 12) (N := 12) rfl c (by decide), kpR_lt (M := 12) (N := 12) rfl c (by decide)]
    exact ⟨⟨hb.1, hb.2.1, hQ, hb.2.2.2.1, hI, hb.2.2.2.2.2⟩, ⟨hg.1, hg.2.1, g4, hg.2.2.2.1, nI_add H 1, hg.2.2.2.2.2⟩, q', hz, ht, ho, hr, in_app c hi hn, hc⟩
  · obtain rfl : H = 12 := by omega
    rw [if_neg c] at q' hQ ⊢
    rw [if_neg c, e7, show kpI (nI 12) 12 = nI 11 by decide, kpR_eq (M := 12) (N := 12) rfl, kpR_eq (M := 12) (N := 12) rfl, kpR_eq (M := 12) (N := 12) rfl]
    exact ⟨⟨hb.1, hb.2.1, hQ, hb.2.2.2.1, hI, hb.2.2.2.2.2⟩, ⟨hg.1, hg.2.1, g4, hg.2.2.2.1, nI_add 11 1, hg.2.2.2.2.2⟩, q', hz, ht, ho, hr, in_app (q := 11) (by decide) (fun i h => by rw [drF_at (by omega), drF_at (by omega), drF_at (by omega), drF_at (by omega)]; exact hi (i + 1) (by omega)) hn, hc⟩
theorem rhV_eq {p k w : Nat} (h : LJ g f qs zs fo ts rs hs cs D R H C I P) : rhV qs p k (nI w) = nI (p + 8 * k + 64 * w + 512 * D) := by
  show nI (p + 8 * k) + nI 64 * nI w + nI 512 * qs 0 = _
  rw [h.q0, pk_mul, nI_add, pk_mul, nI_add]
theorem up_kp {p k w : Nat} (h : LJ g f qs zs fo ts rs hs cs D R H C I P) (hp : p < 8) (hk : k < 6) (hw : w < 8) : LJ (rehG1 g) (rehF1 g f (nI p) (nI k) (nI w)) (upd qs 8 (nI (rhN R))) zs fo ts (rhR rs R (rhV qs p k (nI w))) hs cs D (rhN R) H C I P := by
  have e := rhV_eq (p := p) (k := k) (w := w) h
  have hn : RhO D (nI p) (nI k) (nI w) (g 0) (rhV qs p k (nI w)) := ⟨p, k, w, D, hp, hk, hw, Nat.le_refl _, rfl, rfl, rfl, h.g0, e⟩
  have e6 := h.g6
  obtain ⟨hb, hg, hq, hz, ht, ho, hr, hi, hc⟩ := h
  have q' : upd qs 8 (nI (rhN R)) 0 = nI D ∧ upd qs 8 (nI (rhN R)) 1 = nI P ∧ upd qs 8 (nI (rhN R)) 2 = g 2 ∧ upd qs 8 (nI (rhN R)) 3 = g 3 ∧ upd qs 8 (nI (rhN R)) 4 = nI C ∧ upd qs 8 (nI (rhN R)) 5 = dblC (f 11) (f 12) (f 13) C ∧ upd qs 8 (nI (rhN R)) 6 = nI I ∧ upd qs 8 (nI (rhN R)) 7 = g 5 ∧ upd qs 8 (nI (rhN R)) 8 = nI (rhN R) ∧ upd qs 8 (nI (rhN R)) 9 = nI H := ⟨((upd_ne (by decide)).trans hq.1), ((upd_ne (by decide)).trans hq.2.1), ((upd_ne (by decide)).trans hq.2.2.1), ((upd_ne (by decide)).trans hq.2.2.2.1), ((upd_ne (by decide)).trans hq.2.2.2.2.1), ((upd_ne (by decide)).trans hq.2.2.2.2.2.1), ((upd_ne (by decide)).trans hq.2.2.2.2.2.2.1), ((upd_ne (by decide)).trans hq.2.2.2.2.2.2.2.1), upd_eq, ((upd_ne (by decide)).trans hq.2.2.2.2.2.2.2.2.2)⟩
  unfold rehG1 rehF1 rhR
  unfold rhN at *
  by_cases c : R < 40
  · rw [if_pos c] at q' ⊢
    rw [if_pos c, e6, kpI_lt (M := 40) (N := 40) rfl c (by decide), kpR_lt (M := 40) (N := 40) rfl c (by decide), kpR_lt (M := 40) (N := 40) rfl c (by decide), kpR_lt (M := 40) (N := 40) rfl c (by decide), kpR_lt (M := 40) (N := 40) rfl c (by decide)]
    exact ⟨⟨hb.1, by omega, hb.2.2⟩, ⟨hg.1, hg.2.1, hg.2.2.1, nI_add R 1, hg.2.2.2.2⟩, q', hz, ht, ho, rh_app c hr hn, hi, hc⟩
  · obtain rfl : R = 40 := by omega
    rw [if_neg c] at q' ⊢
    rw [if_neg c, e6, show kpI (nI 40) 40 = nI 39 by decide, kpR_eq (M := 40) (N := 40) rfl, kpR_eq (M := 40) (N := 40) rfl, kpR_eq (M := 40) (N := 40) rfl, kpR_eq (M := 40) (N := 40) rfl]
    exact ⟨⟨hb.1, by omega, hb.2.2⟩, ⟨hg.1, hg.2.1, hg.2.2.1, nI_add 39 1, hg.2.2.2.2⟩, q', hz, ht, ho, rh_app (q := 39) (by decide) (fun i h => by rw [drF_at (by omega), drF_at (by omega), drF_at (by omega), drF_at (by omega), drF_at (by omega)]; exact hr (i + 1) (by omega)) hn, hi, hc⟩
theorem up_scene {k w p : Nat} (h : LJ g f qs zs fo ts rs hs cs D R H C I P) (hC : C < 10) (hk : k < 6) (hw : w < 8) (hp : p < 8) : LJ (scG g) (scF g f (nI k) (nI w) (nI p)) (upd qs 4 (nI (C + 1))) zs fo ts rs hs (upd cs C (nI (k + 8 * w + 64 * p))) D R H (C + 1) I P := by
  have e8 := h.g8
  obtain ⟨hb, hg, hq, hz, ht, ho, hr, hi, hc⟩ := h
  unfold scG scF
  rw [e8]
  have r : ∀ (F : Nat → Int32) (v : Int32) (i : Nat), i < C → gt (ptF F 10 (nI C) v) 10 (nI i) = gt F 10 (nI i) := fun F v i hi => by rw [gt_n (by omega), gt_n (by omega), ptF_n hC, upd_ne (by omega)]
  have l : ∀ (F : Nat → Int32) (v : Int32), gt (ptF F 10 (nI C) v) 10 (nI C) = v := fun F v => by rw [gt_n hC, ptF_n hC, upd_eq]
  have db : dblC (ptF (f 11) 10 (nI C) (nI p)) (ptF (f 12) 10 (nI C) (-1)) (ptF (f 13) 10 (nI C) (-1)) (C + 1) = dblC (f 11) (f 12) (f 13) C := by
    rw [dblC, l, l, if_neg (fun w => w.1 rfl)]
    exact dblC_cg (r _ _) (r _ _) (r _ _)
  have lt : ∀ q, latC (ptF (f 12) 10 (nI C) (-1)) (ptF (f 13) 10 (nI C) (-1)) (nI q) (C + 1) = latC (f 12) (f 13) (nI q) C ∨ ¬ q < 8 := fun q => by
    by_cases h8 : q < 8
    · left
      rw [latC, l, l, if_neg (fun w => nI_m (by omega) w.1.symm)]
      exact latC_cg (r _ _) (r _ _)
    · exact Or.inr h8
  refine ⟨⟨hb.1, hb.2.1, hb.2.2.1, by omega, hb.2.2.2.2⟩, ⟨hg.1, hg.2.1, hg.2.2.1, hg.2.2.2.1, hg.2.2.2.2.1, nI_add C 1⟩, ⟨((upd_ne (by decide)).trans hq.1), ((upd_ne (by decide)).trans hq.2.1), ((upd_ne (by decide)).trans hq.2.2.1), ((upd_ne (by decide)).trans hq.2.2.2.1), upd_eq, (upd_ne (by decide)).trans (hq.2.2.2.2.2.1.trans db.symm), ((upd_ne (by decide)).trans hq.2.2.2.2.2.2.1), ((upd_ne (by decide)).trans hq.2.2.2.2.2.2.2.1), ((upd_ne (by decide)).trans hq.2.2.2.2.2.2.2.2.1), ((upd_ne (by decide)).trans hq.2.2.2.2.2.2.2.2.2)⟩, hz, ht, fun q hq8 => (ho q hq8).trans ((lt q).resolve_right (fun w => w hq8)).symm, hr, hi, fun i h => ?_⟩
  show ScO D (ptF (f 9) 10 (nI C) (nI k) i) (ptF (f 10) 10 (nI C) (nI w) i) (ptF (f 11) 10 (nI C) (nI p) i) (ptF (f 12) 10 (nI C) (-1) i) (ptF (f 13) 10 (nI C) (-1) i) _
  rw [ptF_n hC, ptF_n hC, ptF_n hC, ptF_n hC, ptF_n hC]
  by_cases e : i = C
  · subst e
    rw [upd_eq, upd_eq, upd_eq, upd_eq, upd_eq, upd_eq]
    exact ⟨k, w, p, hk, hw, hp, rfl, rfl, rfl, Or.inl ⟨rfl, rfl, rfl⟩⟩
  · rw [upd_ne e, upd_ne e, upd_ne e, upd_ne e, upd_ne e, upd_ne e]
    exact hc i (by omega)
theorem up_shoot {x p : Nat} (h : LJ g f qs zs fo ts rs hs cs D R H C I P) (hx : x < C) (hp : p < 8) (h12 : f 12 x = -1) : LJ g (shF g f (nI x) (nI p)) (upd qs 5 (qs 5 + dbL (snL cs x) p)) zs (upd fo p (qs 0)) ts rs hs (upd cs x (cs x + (nI 512 * (qs 0 + nI 1) + nI (524288 * (p + 1))))) D R H C I P ∧ bI (¬ gt (shF g f (nI x) (nI p) 12) 10 (nI x) = -1 ∧ ¬ gt (shF g f (nI x) (nI p) 13) 10 (nI x) = gt (shF g f (nI x) (nI p) 11) 10 (nI x)) = dbL (snL cs x) p := by
  obtain ⟨-, s8, e11⟩ := sn_eq h hx
  have hJ := h
  have hb0 := h.bd
  have e0 := h.g0
  have hx0 : x < 10 := by omega
  obtain ⟨hb, hg, hq, hz, ht, ho, hr, hi, hc⟩ := h
  obtain ⟨k, w, n, k1, k2, k3, a1, a2, a3, k4⟩ := hc x hx
  have k5 : f 13 x = -1 ∧ cs x = nI (k + 8 * w + 64 * n) := by
    rcases k4 with ⟨-, q1, q2⟩ | ⟨y, z, hy, -, q1, -, -⟩
    · exact ⟨q1, q2⟩
    · rw [h12] at q1; exact absurd q1.symm (nI_m (by omega))
  have hF : shF g f (nI x) (nI p) = va_up (va_up f 12 (upd (f 12) x (nI D))) 13 (upd (f 13) x (nI p)) := by
    unfold shF
    rw [e0, ptF_n hx0, ptF_n hx0]
  rw [hF]
  have v12 : ∀ i, i < C → gt (upd (f 12) x (nI D)) 10 (nI i) = if i = x then nI D else gt (f 12) 10 (nI i) := fun i hi => by
    rw [gt_n (by omega), gt_n (by omega)]; rfl
  have v13 : ∀ i, i < C → gt (upd (f 13) x (nI p)) 10 (nI i) = if i = x then nI p else gt (f 13) 10 (nI i) := fun i hi => by
    rw [gt_n (by omega), gt_n (by omega)]; rfl
  have o12 : gt (f 12) 10 (nI x) = -1 := (gt_n hx0).trans h12
  have o13 : gt (f 13) 10 (nI x) = -1 := (gt_n hx0).trans k5.1
  have o11 : gt (f 11) 10 (nI x) = nI (snL cs x) := (gt_n hx0).trans e11
  have nD : ¬ nI D = -1 := nI_m (by omega)
  have lt : ∀ q, q < 8 → ∀ m, m ≤ C → latC (upd (f 12) x (nI D)) (upd (f 13) x (nI p)) (nI q) m = if q = p ∧ x < m then nI D else latC (f 12) (f 13) (nI q) m := by
    intro q hq m hn
    have kq : nI p = nI q ↔ p = q := nI_eq (by omega) (by omega)
    induction m with
    | zero => rw [if_neg (by omega)]; rfl
    | succ m ih =>
      rw [latC, v12 m (by omega), v13 m (by omega), ih (by omega)]
      by_cases e : m = x
      · subst e
        rw [if_pos rfl, if_pos rfl, if_neg (show ¬ (q = p ∧ m < m) by omega)]
        by_cases eq : q = p
        · subst eq
          rw [if_pos (show q = q ∧ m < m + 1 by omega)]
          split
          · rfl
          · rename_i w
            rcases lat_val hJ (nI q) (n := m) (by omega) with w1 | ⟨z, w1, hz⟩
            · exact absurd ⟨rfl, by rw [w1]; exact m_lt (by omega)⟩ w
            · rw [w1] at w ⊢
              have : ¬ nI z < nI D := fun k => w ⟨rfl, k⟩
              rw [nI_ltI (by omega) (by omega)] at this
              rw [show z = D by omega]
        · rw [if_neg (fun w => eq (kq.mp w.1).symm), if_neg (fun w => eq w.1), latC, o12, o13, if_neg (fun w => nI_m (by omega) w.1.symm)]
      · rw [if_neg e, if_neg e]
        by_cases w : q = p ∧ x < m
        · rw [if_pos w, if_pos (show q = p ∧ x < m + 1 by omega)]
          split
          · rename_i k
            obtain ⟨k', w', n', -, -, -, -, -, -, w0⟩ := hc m (by omega)
            rcases w0 with w1 | ⟨z, y, hz, -, w1, -, -⟩
            · rw [gt_n (by omega), gt_n (by omega), w1.1] at k
              exact absurd (Int32.lt_trans k.2 (m_lt (n := D) (by omega))) Int32.lt_irrefl
            · rw [gt_n (by omega), gt_n (by omega), w1] at k
              have := (nI_ltI (by omega) (by omega)).mp k.2
              omega
          · rfl
        · rw [if_neg w, if_neg (show ¬ (q = p ∧ x < m + 1) by omega), latC]
  have kp : nI p = nI (snL cs x) ↔ p = snL cs x := nI_eq (by omega) (by omega)
  have db : ∀ m, m ≤ C → dblC (f 11) (upd (f 12) x (nI D)) (upd (f 13) x (nI p)) m = if ¬ p = snL cs x ∧ x < m then dblC (f 11) (f 12) (f 13) m + 1 else dblC (f 11) (f 12) (f 13) m := by
    intro m hn
    induction m with
    | zero => rw [if_neg (by omega)]; rfl
    | succ m ih =>
      rw [dblC, dblC, v12 m (by omega), v13 m (by omega), ih (by omega)]
      by_cases e : m = x
      · subst e
        rw [if_pos rfl, if_pos rfl, if_neg (show ¬ (¬ p = snL cs m ∧ m < m) by omega), o12, o13, o11, if_neg (show ¬ (¬ (-1 : Int32) = -1 ∧ ¬ (-1 : Int32) = nI (snL cs m)) from fun w => w.1 rfl)]
        by_cases eq : p = snL cs m
        · rw [if_neg (fun w => w.2 (kp.mpr eq)), if_neg (fun w => w.1 eq)]
        · rw [if_pos ⟨nD, fun w => eq (kp.mp w)⟩, if_pos (show ¬ p = snL cs m ∧ m < m + 1 by omega)]
      · rw [if_neg e, if_neg e]
        by_cases w : ¬ p = snL cs x ∧ x < m
        · rw [if_pos w, if_pos (show ¬ p = snL cs x ∧ x < m + 1 by omega)]
          split <;> rfl
        · rw [if_neg w, if_neg (show ¬ (¬ p = snL cs x ∧ x < m + 1) by omega)]
  have e5 : qs 5 + dbL (snL cs x) p = dblC (f 11) (upd (f 12) x (nI D)) (upd (f 13) x (nI p)) C := by
    rw [db C (Nat.le_refl _), hq.2.2.2.2.2.1]
    unfold dbL
    by_cases e : p = snL cs x
    · rw [if_pos (kp.mpr e).symm, if_neg (fun w => w.1 e), ad_z]
    · rw [if_neg (fun w => e (kp.mp w.symm)), if_pos ⟨e, hx⟩]; rfl
  have ec : cs x + (nI 512 * (qs 0 + nI 1) + nI (524288 * (p + 1))) = nI (k + 8 * w + 64 * n + 512 * (D + 1) + 524288 * (p + 1)) := by
    rw [k5.2, hq.1, nI_add, pk_mul, nI_add, nI_add]
    exact congrArg nI (by omega)
  refine ⟨⟨hb, hg, ⟨((upd_ne (by decide)).trans hq.1), ((upd_ne (by decide)).trans hq.2.1), ((upd_ne (by decide)).trans hq.2.2.1), ((upd_ne (by decide)).trans hq.2.2.2.1), ((upd_ne (by decide)).trans hq.2.2.2.2.1), upd_eq.trans e5, ((upd_ne (by decide)).trans hq.2.2.2.2.2.2.1), ((upd_ne (by decide)).trans hq.2.2.2.2.2.2.2.1), ((upd_ne (by decide)).trans hq.2.2.2.2.2.2.2.2.1), ((upd_ne (by decide)).trans hq.2.2.2.2.2.2.2.2.2)⟩, hz, ht, fun q hq8 => ?_, hr, hi, fun i h => ?_⟩, ?_⟩
  · show upd fo p (qs 0) q = latC (upd (f 12) x (nI D)) (upd (f 13) x (nI p)) (nI q) C
    rw [lt q hq8 C (Nat.le_refl _)]
    by_cases e : q = p
    · subst e
      rw [upd_eq, if_pos ⟨rfl, hx⟩, hq.1]
    · rw [upd_ne e, if_neg (fun w => e w.1)]
      exact ho q hq8
  · show ScO D (f 9 i) (f 10 i) (f 11 i) (upd (f 12) x (nI D) i) (upd (f 13) x (nI p) i) _
    by_cases e : i = x
    · subst e
      rw [upd_eq, upd_eq, upd_eq]
      exact ⟨k, w, n, k1, k2, k3, a1, a2, a3, Or.inr ⟨D, p, Nat.le_refl _, hp, rfl, rfl, ec⟩⟩
    · rw [upd_ne e, upd_ne e, upd_ne e]
      exact hc i h
  · show bI (¬ gt (upd (f 12) x (nI D)) 10 (nI x) = -1 ∧ ¬ gt (upd (f 13) x (nI p)) 10 (nI x) = gt (f 11) 10 (nI x)) = _
    rw [v12 x hx, v13 x hx, if_pos rfl, if_pos rfl, o11]
    unfold dbL
    by_cases e : nI p = nI (snL cs x)
    · rw [if_pos e.symm, bI_f (fun w => w.2 e), nI_0]
    · rw [if_neg (fun w => e w.symm), bI_t ⟨nD, e⟩]; rfl
theorem sbf_eq {p : Int32} (h : LJ g f qs zs fo ts rs hs cs D R H C I P) {n : Nat} (hn : n ≤ C) : sbfC g f p n = hbL cs (hpL hs (qs 0) p H) n := by
  have hb := h.bd
  induction n with
  | zero => rfl
  | succ n ih =>
    obtain ⟨k, w, m, h1, h2, h3, e1, e2, e3, e4, e5, e6, e7⟩ := sc_dec hb.1 (h.sc (show n < C by omega))
    rw [sbfC, hbL, ih (by omega), gt_n (by omega), gt_n (by omega), e1, e4, tb_eq h1, parS_eq h]
    have c1 : f 12 n = -1 ↔ shx (cs n) 9 &&& nI 1023 = 0 := by
      rcases e7 with ⟨a1, -, a2, -⟩ | ⟨y, q, a1, a2, a3, -, a4, -⟩
      · rw [a1, a2]; exact ⟨fun _ => rfl, fun _ => rfl⟩
      · rw [a3, a4]; exact ⟨fun q => absurd q (nI_m (by omega)), fun q => absurd q (nI_ne0 (by omega) (by omega))⟩
    by_cases q : f 12 n = -1 ∧ ¬ hpL hs (qs 0) p H &&& bpM (nI k) = 0
    · rw [if_pos q, if_pos ⟨c1.mp q.1, q.2⟩]; rfl
    · rw [if_neg q, if_neg (fun z => q ⟨c1.mpr z.1, z.2⟩), ad_z]
theorem hbL_val (cs : Nat → Int32) (B : Int32) (n : Nat) : ∃ c, hbL cs B n = nI c ∧ c ≤ n := by
  induction n with
  | zero => exact ⟨0, rfl, Nat.le_refl _⟩
  | succ n ih =>
    obtain ⟨c, e, h⟩ := ih
    rw [hbL, e]
    split
    · exact ⟨c + 1, nI_add c 1, by omega⟩
    · exact ⟨c, nI_add c 0, by omega⟩
end UP
