/-! the class's state beside the law's rows -/
theorem gt_n {f : Nat → Int32} {N i : Nat} (h : i < N) (hN : N < 2 ^ 31 := by decide) : gt f N (nI i) = f i := by
  unfold gt
  rw [if_neg (nI_pos (by omega)), if_neg (by rw [nI_leI hN (by omega)]; omega), nI_clamp (by omega)]
theorem d_and {n : Nat} (h : n < 2 ^ 31) (k : Nat) {m : Int32} (hm : m.toBitVec.toNat = 2 ^ k - 1) : nI n &&& m = nI (n % 2 ^ k) := pk_andN (by omega) k hm
theorem d_shr {n : Nat} (h : n < 2 ^ 31) (s : Nat) (hs : ((nI s &&& 31).toBitVec.smod 32).toNat = s) : shx (nI n) s = nI (n / 2 ^ s) := pk_shrN h (nI s &&& 31) s hs
theorem d7 {n : Nat} (h : n < 2 ^ 31) : nI n &&& nI 7 = nI (n % 8) := d_and h 3 (by decide)
theorem d63 {n : Nat} (h : n < 2 ^ 31) : nI n &&& nI 63 = nI (n % 64) := d_and h 6 (by decide)
theorem d1023 {n : Nat} (h : n < 2 ^ 31) : nI n &&& nI 1023 = nI (n % 1024) := d_and h 10 (by decide)
theorem s3_ {n : Nat} (h : n < 2 ^ 31) : shx (nI n) 3 = nI (n / 8) := d_shr h 3 (by decide)
theorem s6_ {n : Nat} (h : n < 2 ^ 31) : shx (nI n) 6 = nI (n / 64) := d_shr h 6 (by decide)
theorem s9_ {n : Nat} (h : n < 2 ^ 31) : shx (nI n) 9 = nI (n / 512) := d_shr h 9 (by decide)
theorem s19_ {n : Nat} (h : n < 2 ^ 31) : shx (nI n) 19 = nI (n / 524288) := d_shr h 19 (by decide)
def RhO (D : Nat) (a b c d e : Int32) : Prop := ∃ p k w x, p < 8 ∧ k < 6 ∧ w < 8 ∧ x ≤ D ∧ a = nI p ∧ b = nI k ∧ c = nI w ∧ d = nI x ∧ e = nI (p + 8 * k + 64 * w + 512 * x)
def InO (D : Nat) (a b c e : Int32) : Prop := ∃ p u x y, p < 8 ∧ 1 ≤ u ∧ u < 64 ∧ x ≤ D ∧ y < 2048 ∧ a = nI p ∧ b = nI u ∧ c = nI y ∧ e = nI (p + 8 * u + 512 * x + 524288 * y)
def ScO (D : Nat) (a b s d e c : Int32) : Prop := ∃ k w n, k < 6 ∧ w < 8 ∧ n < 8 ∧ a = nI k ∧ b = nI w ∧ s = nI n ∧ ((d = -1 ∧ e = -1 ∧ c = nI (k + 8 * w + 64 * n)) ∨ ∃ x p, x ≤ D ∧ p < 8 ∧ d = nI x ∧ e = nI p ∧ c = nI (k + 8 * w + 64 * n + 512 * (x + 1) + 524288 * (p + 1)))
theorem RhO.mono {D D' : Nat} {a b c d e : Int32} (h : RhO D a b c d e) (hD : D ≤ D') : RhO D' a b c d e := by
  obtain ⟨p, k, w, x, h1, h2, h3, h4, h5⟩ := h
  exact ⟨p, k, w, x, h1, h2, h3, by omega, h5⟩
theorem InO.mono {D D' : Nat} {a b c e : Int32} (h : InO D a b c e) (hD : D ≤ D') : InO D' a b c e := by
  obtain ⟨p, u, x, y, h1, h2, h3, h4, h5⟩ := h
  exact ⟨p, u, x, y, h1, h2, h3, by omega, h5⟩
theorem ScO.mono {D D' : Nat} {a b s d e c : Int32} (h : ScO D a b s d e c) (hD : D ≤ D') : ScO D' a b s d e c := by
  obtain ⟨k, w, n, h1, h2, h3, h4, h5, h6, h7⟩ := h
  refine ⟨k, w, n, h1, h2, h3, h4, h5, h6, h7.imp id ?_⟩
  rintro ⟨x, p, g1, g2⟩
  exact ⟨x, p, by omega, g2⟩
def LJ (g : Nat → Int32) (f : Nat → Nat → Int32) (qs zs fo ts rs hs cs : Nat → Int32) (D R H C I P : Nat) : Prop :=
  (D ≤ 999 ∧ R ≤ 40 ∧ H ≤ 12 ∧ C ≤ 10 ∧ I ≤ 40 ∧ P ≤ 2000) ∧ (g 0 = nI D ∧ g 1 = nI P ∧ g 4 = nI I ∧ g 6 = nI R ∧ g 7 = nI H ∧ g 8 = nI C) ∧
  (qs 0 = nI D ∧ qs 1 = nI P ∧ qs 2 = g 2 ∧ qs 3 = g 3 ∧ qs 4 = nI C ∧ qs 5 = dblC (f 11) (f 12) (f 13) C ∧ qs 6 = nI I ∧ qs 7 = g 5 ∧ qs 8 = nI R ∧ qs 9 = nI H) ∧
  (∀ p, p < 8 → f 0 p = zs p) ∧ (∀ p, p < 8 → f 1 p = ts p) ∧ (∀ p, p < 8 → fo p = latC (f 12) (f 13) (nI p) C) ∧
  (∀ i, i < R → RhO D (f 2 i) (f 3 i) (f 4 i) (f 5 i) (rs i)) ∧ (∀ i, i < H → InO D (f 6 i) (f 7 i) (f 8 i) (hs i)) ∧ (∀ i, i < C → ScO D (f 9 i) (f 10 i) (f 11 i) (f 12 i) (f 13 i) (cs i))
section LJs
variable {g : Nat → Int32} {f : Nat → Nat → Int32} {qs zs fo ts rs hs cs : Nat → Int32} {D R H C I P : Nat}
theorem LJ.bd (h : LJ g f qs zs fo ts rs hs cs D R H C I P) : D ≤ 999 ∧ R ≤ 40 ∧ H ≤ 12 ∧ C ≤ 10 ∧ I ≤ 40 ∧ P ≤ 2000 := h.1
theorem LJ.g0 (h : LJ g f qs zs fo ts rs hs cs D R H C I P) : g 0 = nI D := h.2.1.1
theorem LJ.g1 (h : LJ g f qs zs fo ts rs hs cs D R H C I P) : g 1 = nI P := h.2.1.2.1
theorem LJ.g4 (h : LJ g f qs zs fo ts rs hs cs D R H C I P) : g 4 = nI I := h.2.1.2.2.1
theorem LJ.g6 (h : LJ g f qs zs fo ts rs hs cs D R H C I P) : g 6 = nI R := h.2.1.2.2.2.1
theorem LJ.g7 (h : LJ g f qs zs fo ts rs hs cs D R H C I P) : g 7 = nI H := h.2.1.2.2.2.2.1
theorem LJ.g8 (h : LJ g f qs zs fo ts rs hs cs D R H C I P) : g 8 = nI C := h.2.1.2.2.2.2.2
theorem LJ.q0 (h : LJ g f qs zs fo ts rs hs cs D R H C I P) : qs 0 = nI D := h.2.2.1.1
theorem LJ.q1 (h : LJ g f qs zs fo ts rs hs cs D R H C I P) : qs 1 = nI P := h.2.2.1.2.1
theorem LJ.q2 (h : LJ g f qs zs fo ts rs hs cs D R H C I P) : qs 2 = g 2 := h.2.2.1.2.2.1
theorem LJ.q3 (h : LJ g f qs zs fo ts rs hs cs D R H C I P) : qs 3 = g 3 := h.2.2.1.2.2.2.1
theorem LJ.q4 (h : LJ g f qs zs fo ts rs hs cs D R H C I P) : qs 4 = nI C := h.2.2.1.2.2.2.2.1
theorem LJ.q5 (h : LJ g f qs zs fo ts rs hs cs D R H C I P) : qs 5 = dblC (f 11) (f 12) (f 13) C := h.2.2.1.2.2.2.2.2.1
theorem LJ.q6 (h : LJ g f qs zs fo ts rs hs cs D R H C I P) : qs 6 = nI I := h.2.2.1.2.2.2.2.2.2.1
theorem LJ.q7 (h : LJ g f qs zs fo ts rs hs cs D R H C I P) : qs 7 = g 5 := h.2.2.1.2.2.2.2.2.2.2.1
theorem LJ.q8 (h : LJ g f qs zs fo ts rs hs cs D R H C I P) : qs 8 = nI R := h.2.2.1.2.2.2.2.2.2.2.2.1
theorem LJ.q9 (h : LJ g f qs zs fo ts rs hs cs D R H C I P) : qs 9 = nI H := h.2.2.1.2.2.2.2.2.2.2.2.2
theorem LJ.z (h : LJ g f qs zs fo ts rs hs cs D R H C I P) {p : Nat} (hp : p < 8) : gt (f 0) 8 (nI p) = zs p := (gt_n hp).trans (h.2.2.2.1 p hp)
theorem LJ.t (h : LJ g f qs zs fo ts rs hs cs D R H C I P) {p : Nat} (hp : p < 8) : gt (f 1) 8 (nI p) = ts p := (gt_n hp).trans (h.2.2.2.2.1 p hp)
theorem LJ.o (h : LJ g f qs zs fo ts rs hs cs D R H C I P) {p : Nat} (hp : p < 8) : fo p = latC (f 12) (f 13) (nI p) C := h.2.2.2.2.2.1 p hp
theorem LJ.rh (h : LJ g f qs zs fo ts rs hs cs D R H C I P) {i : Nat} (hi : i < R) : RhO D (f 2 i) (f 3 i) (f 4 i) (f 5 i) (rs i) := h.2.2.2.2.2.2.1 i hi
theorem LJ.inj (h : LJ g f qs zs fo ts rs hs cs D R H C I P) {i : Nat} (hi : i < H) : InO D (f 6 i) (f 7 i) (f 8 i) (hs i) := h.2.2.2.2.2.2.2.1 i hi
theorem LJ.sc (h : LJ g f qs zs fo ts rs hs cs D R H C I P) {i : Nat} (hi : i < C) : ScO D (f 9 i) (f 10 i) (f 11 i) (f 12 i) (f 13 i) (cs i) := h.2.2.2.2.2.2.2.2 i hi
end LJs
theorem neg1 : (-1 : Int32).toInt = -1 := by decide
theorem nI_m {n : Nat} (h : n < 2 ^ 31) : ¬ nI n = -1 := fun e => by
  have := congrArg Int32.toInt e
  rw [nI_toInt h, neg1] at this
  omega
theorem m_lt {n : Nat} (h : n < 2 ^ 31) : (-1 : Int32) < nI n := by
  rw [Int32.lt_iff_toInt_lt, nI_toInt h, neg1]
  omega
theorem tc_eq {κ : Nat} (h : κ < 6) : ∃ q, gt tCnt 6 (nI κ) = nI q ∧ cdM (nI κ) = nI q ∧ 1 ≤ q ∧ q ≤ 30 := by
  rcases (show κ = 0 ∨ κ = 1 ∨ κ = 2 ∨ κ = 3 ∨ κ = 4 ∨ κ = 5 by omega) with rfl | rfl | rfl | rfl | rfl | rfl
  · exact ⟨20, by decide, by decide, by decide, by decide⟩
  · exact ⟨15, by decide, by decide, by decide, by decide⟩
  · exact ⟨10, by decide, by decide, by decide, by decide⟩
  · exact ⟨12, by decide, by decide, by decide, by decide⟩
  · exact ⟨30, by decide, by decide, by decide, by decide⟩
  · exact ⟨25, by decide, by decide, by decide, by decide⟩
theorem tb_eq {κ : Nat} (h : κ < 6) : gt tBar 6 (nI κ) = bpM (nI κ) := by
  rcases (show κ = 0 ∨ κ = 1 ∨ κ = 2 ∨ κ = 3 ∨ κ = 4 ∨ κ = 5 by omega) with rfl | rfl | rfl | rfl | rfl | rfl <;> decide
theorem th_eq {κ : Nat} (h : κ < 6) : gt tHur 6 (nI κ) = prL κ := by
  rcases (show κ = 0 ∨ κ = 1 ∨ κ = 2 ∨ κ = 3 ∨ κ = 4 ∨ κ = 5 by omega) with rfl | rfl | rfl | rfl | rfl | rfl <;> decide
theorem nd_eq (k r : Int32) : ndF k r = ndM k r := rfl
theorem or_z (x : Int32) : x ||| nI 0 = x := by rw [nI_0, Int32.or_zero]
theorem ad_z (x : Int32) : x + nI 0 = x := by rw [nI_0, Int32.add_zero]
theorem one_n : (1 : Int32) = nI 1 := rfl
/-! decoding -/
theorem in_dec {D : Nat} {a b c e : Int32} (hD : D ≤ 999) (h : InO D a b c e) : ∃ p u y, p < 8 ∧ 1 ≤ u ∧ u < 64 ∧ y < 2048 ∧ a = nI p ∧ b = nI u ∧ c = nI y ∧ e &&& nI 7 = nI p ∧ shx e 9 &&& nI 1023 ≤ nI D ∧ shx e 19 = nI y ∧ shx e 3 &&& nI 63 = nI u := by
  obtain ⟨p, u, x, y, h1, h2, h3, h4, h5, rfl, rfl, rfl, rfl⟩ := h
  have hb : p + 8 * u + 512 * x + 524288 * y < 2 ^ 31 := by omega
  refine ⟨p, u, y, h1, h2, h3, h5, rfl, rfl, rfl, ?_, ?_, ?_, ?_⟩
  · rw [d7 hb]; exact congrArg nI (by omega)
  · rw [s9_ hb, d1023 (by omega)]; exact (nI_leI (by omega) (by omega)).mpr (by omega)
  · rw [s19_ hb]; exact congrArg nI (by omega)
  · rw [s3_ hb, d63 (by omega)]; exact congrArg nI (by omega)
theorem rh_dec {D : Nat} {a b c d e : Int32} (hD : D ≤ 999) (h : RhO D a b c d e) : ∃ p k w x, p < 8 ∧ k < 6 ∧ x ≤ D ∧ a = nI p ∧ b = nI k ∧ c = nI w ∧ d = nI x ∧ e &&& nI 63 = nI (p + 8 * k) ∧ shx e 6 &&& nI 7 = nI w ∧ shx e 9 = nI x := by
  obtain ⟨p, k, w, x, h1, h2, h3, h4, rfl, rfl, rfl, rfl, rfl⟩ := h
  have hb : p + 8 * k + 64 * w + 512 * x < 2 ^ 31 := by omega
  refine ⟨p, k, w, x, h1, h2, h4, rfl, rfl, rfl, rfl, ?_, ?_, ?_⟩
  · rw [d63 hb]; exact congrArg nI (by omega)
  · rw [s6_ hb, d7 (by omega)]; exact congrArg nI (by omega)
  · rw [s9_ hb]; exact congrArg nI (by omega)
theorem sc_dec {D : Nat} {a b s d e c : Int32} (hD : D ≤ 999) (h : ScO D a b s d e c) : ∃ k w n, k < 6 ∧ w < 8 ∧ n < 8 ∧ a = nI k ∧ b = nI w ∧ s = nI n ∧ c &&& nI 7 = nI k ∧ shx c 3 &&& nI 7 = nI w ∧ shx c 6 &&& nI 7 = nI n ∧
    ((d = -1 ∧ e = -1 ∧ shx c 9 &&& nI 1023 = nI 0 ∧ shx c 19 = nI 0) ∨ ∃ x p, x ≤ D ∧ p < 8 ∧ d = nI x ∧ e = nI p ∧ shx c 9 &&& nI 1023 = nI (x + 1) ∧ shx c 19 = nI (p + 1)) := by
  obtain ⟨k, w, n, h1, h2, h3, rfl, rfl, rfl, h4⟩ := h
  rcases h4 with ⟨rfl, rfl, rfl⟩ | ⟨x, p, h5, h6, rfl, rfl, rfl⟩
  · have hb : k + 8 * w + 64 * n < 2 ^ 31 := by omega
    refine ⟨k, w, n, h1, h2, h3, rfl, rfl, rfl, ?_, ?_, ?_, Or.inl ⟨rfl, rfl, ?_, ?_⟩⟩
    · rw [d7 hb]; exact congrArg nI (by omega)
    · rw [s3_ hb, d7 (by omega)]; exact congrArg nI (by omega)
    · rw [s6_ hb, d7 (by omega)]; exact congrArg nI (by omega)
    · rw [s9_ hb, d1023 (by omega)]; exact congrArg nI (by omega)
    · rw [s19_ hb]; exact congrArg nI (by omega)
  · have hb : k + 8 * w + 64 * n + 512 * (x + 1) + 524288 * (p + 1) < 2 ^ 31 := by omega
    refine ⟨k, w, n, h1, h2, h3, rfl, rfl, rfl, ?_, ?_, ?_, Or.inr ⟨x, p, h5, h6, rfl, rfl, ?_, ?_⟩⟩
    · rw [d7 hb]; exact congrArg nI (by omega)
    · rw [s3_ hb, d7 (by omega)]; exact congrArg nI (by omega)
    · rw [s6_ hb, d7 (by omega)]; exact congrArg nI (by omega)
    · rw [s9_ hb, d1023 (by omega)]; exact congrArg nI (by omega)
    · rw [s19_ hb]; exact congrArg nI (by omega)
/-! equalities -/
theorem par_eq {F6 F7 F8 hs : Nat → Int32} {D H : Nat} (hD : D ≤ 999) (hH : H ≤ 12) (hi : ∀ i, i < H → InO D (F6 i) (F7 i) (F8 i) (hs i)) (p : Int32) {n : Nat} (hn : n ≤ H) : parC F6 F7 F8 (nI D) p n = hpL hs (nI D) p n := by
  induction n with
  | zero => rfl
  | succ n ih =>
    obtain ⟨p', u, y, h1, h2, h3, h4, e1, e2, e3, e4, e5, e6, e7⟩ := in_dec hD (hi n (by omega))
    rw [parC, hpL, gt_n (by omega), gt_n (by omega), gt_n (by omega), ih (by omega), e4, e6, e7, e1, e2, e3]
    by_cases h : nI p' = p ∧ nI D ≤ nI y
    · rw [if_pos h, if_pos ⟨h.1, e5, h.2⟩]
    · rw [if_neg h, if_neg fun q => h ⟨q.1, q.2.2⟩, or_z]
theorem cnt_eq {F2 F3 F4 F5 rs : Nat → Int32} {D R : Nat} (hD : D ≤ 999) (hR : R ≤ 40) (hi : ∀ i, i < R → RhO D (F2 i) (F3 i) (F4 i) (F5 i) (rs i)) {p κ : Nat} (hp : p < 8) (hκ : κ < 6) (w : Int32) {n : Nat} (hn : n ≤ R) : cntC F2 F3 F4 F5 (nI D) (nI p) (nI κ) w n = cnL rs (nI D) (nI p) (nI κ) w n := by
  obtain ⟨q, t1, t2, q1, q2⟩ := tc_eq hκ
  induction n with
  | zero => rfl
  | succ n ih =>
    obtain ⟨p', k', w', x, h1, h2, h3, e1, e2, e3, e4, e5, e6, e7⟩ := rh_dec hD (hi n (by omega))
    rw [cntC, cnL, gt_n (by omega), gt_n (by omega), gt_n (by omega), gt_n (by omega), ih (by omega), e5, e6, e7, e1, e2, e3, e4, t1, t2, nI_add, pk_mul, nI_add, nI_sub h3]
    have k1 : nI D < nI (x + q) ↔ D < x + q := nI_ltI (by omega) (by omega)
    have k2 : nI (D - x) < nI q ↔ D - x < q := nI_ltI (by omega) (by omega)
    have k3 : nI (p' + 8 * k') = nI (p + 8 * κ) ↔ p' + 8 * k' = p + 8 * κ := nI_eq (by omega) (by omega)
    have k4 : nI p' = nI p ↔ p' = p := nI_eq (by omega) (by omega)
    have k5 : nI k' = nI κ ↔ k' = κ := nI_eq (by omega) (by omega)
    by_cases h : nI p' = nI p ∧ nI k' = nI κ ∧ w - 1 ≤ nI w' ∧ nI D < nI (x + q)
    · rw [if_pos h, if_pos ⟨k3.mpr (by have := k4.mp h.1; have := k5.mp h.2.1; omega), h.2.2.1, k2.mpr (by have := k1.mp h.2.2.2; omega)⟩]
      rfl
    · rw [if_neg h, if_neg fun z => h ⟨k4.mpr (by have := k3.mp z.1; omega), k5.mpr (by have := k3.mp z.1; omega), z.2.1, k1.mpr (by have := k2.mp z.2.2; omega)⟩, ad_z]
section RL
variable {g : Nat → Int32} {f : Nat → Nat → Int32} {qs zs fo ts rs hs cs : Nat → Int32} {D R H C I P : Nat}
theorem parS_eq (h : LJ g f qs zs fo ts rs hs cs D R H C I P) (p : Int32) : parS g f (g 0) p = hpL hs (qs 0) p H := by
  have hb := h.bd
  unfold parS
  rw [h.g7, h.g0, h.q0, nI_clamp (by omega)]
  exact par_eq hb.1 hb.2.2.1 (fun i hi => h.inj hi) p (Nat.le_refl _)
theorem cntS_eq (h : LJ g f qs zs fo ts rs hs cs D R H C I P) {p κ : Nat} (hp : p < 8) (hκ : κ < 6) (w : Int32) : cntS g f (g 0) (nI p) (nI κ) w = cnL rs (qs 0) (nI p) (nI κ) w R := by
  have hb := h.bd
  unfold cntS
  rw [h.g6, h.g0, h.q0, nI_clamp (by omega)]
  exact cnt_eq hb.1 hb.2.1 (fun i hi => h.rh hi) hp hκ w (Nat.le_refl _)
theorem lat_val (h : LJ g f qs zs fo ts rs hs cs D R H C I P) (p : Int32) {n : Nat} (hn : n ≤ C) : latC (f 12) (f 13) p n = -1 ∨ ∃ z, latC (f 12) (f 13) p n = nI z ∧ z ≤ D := by
  have hb := h.bd
  induction n with
  | zero => exact Or.inl rfl
  | succ n ih =>
    rw [latC]
    split
    · rename_i q
      obtain ⟨k, w, m, -, -, -, -, -, -, h4⟩ := h.sc (show n < C by omega)
      rw [gt_n (by omega)]
      rcases h4 with ⟨e, -, -⟩ | ⟨x, p', hx, -, e, -, -⟩
      · exact Or.inl e
      · exact Or.inr ⟨x, e, hx⟩
    · exact ih (by omega)
theorem latS_eq (h : LJ g f qs zs fo ts rs hs cs D R H C I P) {p : Nat} (hp : p < 8) : latS g f (nI p) = fo p := by
  have hb := h.bd
  unfold latS
  rw [h.g8, nI_clamp (by omega)]
  exact (h.o hp).symm
def snL (cs : Nat → Int32) (x : Nat) : Nat := (shx (cs x) 6 &&& nI 7).toNatClampNeg
theorem sn_eq (h : LJ g f qs zs fo ts rs hs cs D R H C I P) {x : Nat} (hx : x < C) : shx (cs x) 6 &&& nI 7 = nI (snL cs x) ∧ snL cs x < 8 ∧ f 11 x = nI (snL cs x) := by
  obtain ⟨k, w, n, h1, h2, h3, e1, e2, e3, e4, e5, e6, -⟩ := sc_dec h.bd.1 (h.sc hx)
  unfold snL
  rw [e6, nI_clamp (by omega)]
  exact ⟨rfl, h3, e3⟩
theorem rea_eq (h : LJ g f qs zs fo ts rs hs cs D R H C I P) {x p : Nat} (hx : x < C) (hp : p < 8) : reaC g f (g 0) (nI x) (nI p) = rsL qs zs fo rs hs cs H R x p (snL cs x) := by
  have hb := h.bd
  obtain ⟨hsn, hs8, e11⟩ := sn_eq h hx
  obtain ⟨k, w, n, h1, h2, h3, e1, e2, e3, e4, e5, e6, e7⟩ := sc_dec hb.1 (h.sc hx)
  unfold reaC rsL
  rw [gt_n (show x < 10 by omega), gt_n (show x < 10 by omega), gt_n (show x < 10 by omega), gt_n (show x < 10 by omega), e4, e5, e11, e1, e2, tb_eq h1, parS_eq h, latS_eq h hp, cntS_eq h hp h1, nd_eq]
  unfold gapC stpC
  rw [h.z hp, h.z hs8]
  have c1 : (¬ f 12 x = -1) ↔ 0 < shx (cs x) 9 &&& nI 1023 := by
    rcases e7 with ⟨a1, -, a2, -⟩ | ⟨y, q, a1, a2, a3, -, a4, -⟩
    · rw [a1, a2]
      exact ⟨fun q => absurd rfl q, fun q => absurd q (by decide)⟩
    · rw [a3, a4]
      exact ⟨fun _ => (nI_ltI (a := 0) (by omega) (by omega)).mpr (by omega), fun _ => nI_m (by omega)⟩
  by_cases q1 : 0 < shx (cs x) 9 &&& nI 1023
  · rw [if_pos (c1.mpr q1), if_pos q1]; rfl
  rw [if_neg (fun z => q1 (c1.mp z)), if_neg q1]
  by_cases q2 : nI 5 < zs p - zs (snL cs x)
  · rw [if_pos (fun z => absurd z.2 (Int32.not_le.mpr q2)), if_pos q2]; rfl
  rw [if_neg q2]
  by_cases q3 : zs p - zs (snL cs x) < -5
  · rw [if_pos (fun z => absurd z.1 (Int32.not_le.mpr q3)), if_pos q3]; rfl
  rw [if_neg q3, if_neg (fun z => z ⟨Int32.not_lt.mp q3, Int32.not_lt.mp q2⟩)]
  rw [show (if g 0 ≤ g 3 then g 2 else 0) = (if qs 0 ≤ qs 3 then qs 2 else nI 0) by rw [h.q0, h.g0, h.q3, h.q2]; rfl]
  by_cases q4 : (if qs 0 ≤ qs 3 then qs 2 else nI 0) < nI w
  · rw [if_pos q4, if_pos q4]; rfl
  rw [if_neg q4, if_neg q4]
  by_cases q5 : ¬ hpL hs (qs 0) (nI p) H &&& bpM (nI k) = 0
  · rw [if_pos q5, if_pos q5]; rfl
  rw [if_neg q5, if_neg q5]
  have c6 : (¬ fo p = -1 ∧ g 0 ≤ fo p + 1) ↔ (¬ fo p < 0 ∧ qs 0 - fo p < nI 2) := by
    rw [h.o hp]
    rcases lat_val h (nI p) (Nat.le_refl C) with e | ⟨z, e, hz⟩
    · rw [e]
      exact ⟨fun q => absurd rfl q.1, fun q => absurd (by decide) q.1⟩
    · rw [e, h.g0, h.q0, nI_1, nI_sub hz, nI_leI (by omega) (by omega), nI_ltI (by omega) (by omega)]
      exact ⟨fun q => ⟨nI_pos (by omega), by omega⟩, fun q => ⟨nI_m (by omega), by omega⟩⟩
  by_cases q6 : ¬ fo p < 0 ∧ qs 0 - fo p < nI 2
  · rw [if_pos (c6.mpr q6), if_pos q6]; rfl
  rw [if_neg (fun z => q6 (c6.mp z)), if_neg q6]
  rfl
end RL
