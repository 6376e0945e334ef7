/-! what isSo works out, and that the class's looks say the same -/
def shL (cs : Nat → Int32) : Nat → Int32
  | 0 => nI 0
  | n + 1 => if 0 < shx (cs n) 9 &&& nI 1023 then shL cs n + nI 1 else shL cs n + nI 0
def ppL (qs zs fo rs hs cs : Nat → Int32) (H R x : Nat) : Nat → Int32
  | 0 => nI 0
  | p + 1 => if rsL qs zs fo rs hs cs H R x p (snL cs x) = 0 then ppL qs zs fo rs hs cs H R x p ||| (nI 1 <<< (nI p &&& 31)) else ppL qs zs fo rs hs cs H R x p ||| nI 0
def opL (qs zs fo rs hs cs : Nat → Int32) (H R : Nat) : Nat → Int32
  | 0 => nI 0
  | n + 1 => if ppL qs zs fo rs hs cs H R n 8 = 0 then opL qs zs fo rs hs cs H R n + nI 0 else opL qs zs fo rs hs cs H R n + nI 1
def brL (B : Int32) : Nat → Int32
  | 0 => nI 0
  | k + 1 => if B &&& bpM (nI k) = 0 then brL B k ||| nI 0 else brL B k ||| (nI 1 <<< (nI k &&& 31))
theorem lowN_lt {x : Int32} {n : Nat} (h : 0 < n) : lowN x n < n := Nat.mod_lt _ h
theorem nI_r1 {j M : Nat} {y : Int32} (hy : y = nI M) (hM : M < 2 ^ 31) (h1 : 1 ≤ j) (h : j ≤ M) : 1 ≤ nI j ∧ nI j ≤ y := by
  subst hy
  exact ⟨(nI_leI (a := 1) (by omega) (by omega)).mpr h1, (nI_leI (by omega) hM).mpr h⟩
section RS
variable {g : Nat → Int32} {f : Nat → Nat → Int32} {qs zs fo ts rs hs cs : Nat → Int32} {D R H C I P : Nat}
theorem clr_eq (h : LJ g f qs zs fo ts rs hs cs D R H C I P) {x : Nat} (hx : x < C) {n : Nat} (hn : n ≤ 8) : clrC g f (nI x) n = ppL qs zs fo rs hs cs H R x n := by
  induction n with
  | zero => rfl
  | succ n ih =>
    rw [clrC, ppL, rea_eq h hx (by omega), ih (by omega)]
    by_cases q : rsL qs zs fo rs hs cs H R x n (snL cs x) = 0
    · rw [if_pos q, if_pos q]; rfl
    · rw [if_neg q, if_neg q, or_z]
theorem ssc_eq (h : LJ g f qs zs fo ts rs hs cs D R H C I P) {n : Nat} (hn : n ≤ C) : sscC g f n = opL qs zs fo rs hs cs H R n := by
  induction n with
  | zero => rfl
  | succ n ih =>
    rw [sscC, opL, clr_eq h (by omega) (Nat.le_refl _), ih (by omega)]
    by_cases q : ppL qs zs fo rs hs cs H R n 8 = 0
    · rw [if_neg (fun w => w q), if_pos q, ad_z]
    · rw [if_pos q, if_neg q]; rfl
theorem shot_iff (h : LJ g f qs zs fo ts rs hs cs D R H C I P) {x : Nat} (hx : x < C) : (¬ f 12 x = -1) ↔ 0 < shx (cs x) 9 &&& nI 1023 := by
  have hb := h.bd
  obtain ⟨k, w, n, h1, h2, h3, e1, e2, e3, e4, e5, e6, e7⟩ := sc_dec hb.1 (h.sc hx)
  rcases e7 with ⟨a1, -, a2, -⟩ | ⟨y, q, a1, a2, a3, -, a4, -⟩
  · rw [a1, a2]
    exact ⟨fun q => absurd rfl q, fun q => absurd q (by decide)⟩
  · rw [a3, a4]
    exact ⟨fun _ => (nI_ltI (a := 0) (by omega) (by omega)).mpr (by omega), fun _ => nI_m (by omega)⟩
theorem sho_eq (h : LJ g f qs zs fo ts rs hs cs D R H C I P) {n : Nat} (hn : n ≤ C) : shoC (f 12) n = shL cs n := by
  have hb := h.bd
  induction n with
  | zero => rfl
  | succ n ih =>
    rw [shoC, shL, gt_n (by omega), ih (by omega)]
    by_cases q : 0 < shx (cs n) 9 &&& nI 1023
    · rw [if_pos ((shot_iff h (by omega)).mpr q), if_pos q]; rfl
    · rw [if_neg (fun w => q ((shot_iff h (by omega)).mp w)), if_neg q, ad_z]
theorem kbt_eq (B : Int32) {n : Nat} (hn : n ≤ 6) : kbtC B n = brL B n := by
  induction n with
  | zero => rfl
  | succ n ih =>
    rw [kbtC, brL, ih (by omega), tb_eq (by omega)]
    by_cases q : B &&& bpM (nI n) = 0
    · rw [if_neg (fun w => w q), if_pos q, or_z]
    · rw [if_pos q, if_neg q]; rfl
theorem or_ne {x : Int32} {u : Nat} (h1 : 1 ≤ u) (h2 : u < 64) : ¬ x ||| nI u = 0 := fun e => by
  have e2 : (x ||| nI u).toBitVec = 0#32 := congrArg Int32.toBitVec e
  rw [Int32.toBitVec_or, BitVec.or_eq_zero_iff] at e2
  have e3 : nI u = 0 := Int32.toBitVec_inj.mp e2.2
  exact nI_ne0 (by omega) (by omega) e3
theorem las_iff (h : LJ g f qs zs fo ts rs hs cs D R H C I P) (p : Int32) {n : Nat} (hn : n ≤ H) : (lasC (f 6) (f 8) (g 0) p n = -1 ∧ hpL hs (qs 0) p n = 0) ∨ ((∃ y, lasC (f 6) (f 8) (g 0) p n = nI y ∧ y < 2048) ∧ ¬ hpL hs (qs 0) p n = 0) := by
  have hb := h.bd
  rw [h.g0, h.q0]
  induction n with
  | zero => exact Or.inl ⟨rfl, rfl⟩
  | succ n ih =>
    obtain ⟨p', u, y, h1, h2, h3, h4, e1, e2, e3, e4, e5, e6, e7⟩ := in_dec hb.1 (h.inj (show n < H by omega))
    rw [lasC, hpL, gt_n (by omega), gt_n (by omega), e4, e6, e7, e1, e3]
    by_cases q : nI p' = p ∧ nI D ≤ nI y
    · rw [show (if nI p' = p ∧ shx (hs n) 9 &&& nI 1023 ≤ nI D ∧ nI D ≤ nI y then hpL hs (nI D) p n ||| nI u else hpL hs (nI D) p n ||| nI 0) = hpL hs (nI D) p n ||| nI u from if_pos ⟨q.1, e5, q.2⟩]
      refine Or.inr ⟨?_, or_ne h2 h3⟩
      split
      · exact ⟨y, rfl, h4⟩
      · rename_i w
        rcases ih (by omega) with ⟨a, -⟩ | ⟨a, -⟩
        · exact absurd ⟨q.1, q.2, by rw [a]; exact m_lt (by omega)⟩ w
        · exact a
    · rw [if_neg (fun w => q ⟨w.1, w.2.1⟩), if_neg (fun w => q ⟨w.1, w.2.2⟩), or_z]
      exact ih (by omega)
theorem so_las (h : LJ g f qs zs fo ts rs hs cs D R H C I P) {p : Int32} : lasC (f 6) (f 8) (g 0) p H = -1 ↔ hpL hs (qs 0) p H = 0 := by
  rcases las_iff h p (Nat.le_refl H) with ⟨a, b⟩ | ⟨⟨y, a, hy⟩, b⟩
  · exact ⟨fun _ => b, fun _ => a⟩
  · exact ⟨fun w => absurd (a.symm.trans w) (nI_m (by omega)), fun w => absurd w b⟩
theorem so_s0 (h : LJ g f qs zs fo ts rs hs cs D R H C I P) {x : Nat} (hx : x < C) : scnC g f (nI x) (nI 0) = cs x &&& nI 7 := by
  have hb := h.bd
  obtain ⟨k, w, n, h1, h2, h3, e1, e2, e3, e4, e5, e6, e7⟩ := sc_dec hb.1 (h.sc hx)
  show gt (f 9) 10 (nI x) = _
  rw [gt_n (by omega), e1, e4]
theorem so_s1 (h : LJ g f qs zs fo ts rs hs cs D R H C I P) {x : Nat} (hx : x < C) : scnC g f (nI x) (nI 1) = shx (cs x) 3 &&& nI 7 := by
  have hb := h.bd
  obtain ⟨k, w, n, h1, h2, h3, e1, e2, e3, e4, e5, e6, e7⟩ := sc_dec hb.1 (h.sc hx)
  show gt (f 10) 10 (nI x) = _
  rw [gt_n (by omega), e2, e5]
theorem so_s2 (h : LJ g f qs zs fo ts rs hs cs D R H C I P) {x : Nat} (hx : x < C) : scnC g f (nI x) (nI 2) = shx (cs x) 6 &&& nI 7 := by
  have hb := h.bd
  obtain ⟨k, w, n, h1, h2, h3, e1, e2, e3, e4, e5, e6, e7⟩ := sc_dec hb.1 (h.sc hx)
  show gt (f 11) 10 (nI x) = _
  rw [gt_n (by omega), e3, e6]
theorem so_s3 (h : LJ g f qs zs fo ts rs hs cs D R H C I P) {x : Nat} (hx : x < C) : scnC g f (nI x) (nI 3) = (shx (cs x) 9 &&& nI 1023) - nI 1 := by
  have hb := h.bd
  obtain ⟨k, w, n, h1, h2, h3, e1, e2, e3, e4, e5, e6, e7⟩ := sc_dec hb.1 (h.sc hx)
  show gt (f 12) 10 (nI x) = _
  rw [gt_n (by omega)]
  rcases e7 with ⟨a1, -, a2, -⟩ | ⟨y, q, a1, a2, a3, -, a4, -⟩
  · rw [a1, a2]; decide
  · rw [a3, a4, nI_m1]
theorem so_s4 (h : LJ g f qs zs fo ts rs hs cs D R H C I P) {x : Nat} (hx : x < C) : scnC g f (nI x) (nI 4) = shx (cs x) 19 - nI 1 := by
  have hb := h.bd
  obtain ⟨k, w, n, h1, h2, h3, e1, e2, e3, e4, e5, e6, e7⟩ := sc_dec hb.1 (h.sc hx)
  show gt (f 13) 10 (nI x) = _
  rw [gt_n (by omega)]
  rcases e7 with ⟨-, a1, -, a2⟩ | ⟨y, q, a1, a2, -, a3, -, a4⟩
  · rw [a1, a2]; decide
  · rw [a3, a4, nI_m1]
theorem so_s5 (h : LJ g f qs zs fo ts rs hs cs D R H C I P) {x : Nat} (hx : x < C) : scnC g f (nI x) (nI 5) = ppL qs zs fo rs hs cs H R x 8 := by
  unfold scnC
  rw [if_neg (by decide), if_neg (by decide), if_neg (by decide), if_neg (by decide), if_neg (by decide)]
  exact clr_eq h hx (Nat.le_refl _)
theorem so_p0 (h : LJ g f qs zs fo ts rs hs cs D R H C I P) {p : Nat} (hp : p < 8) : perC g f (nI p) (nI 0) = zs p := h.z hp
theorem so_p1 (h : LJ g f qs zs fo ts rs hs cs D R H C I P) {p : Nat} : perC g f (nI p) (nI 1) = hpL hs (qs 0) (nI p) H := parS_eq h _
theorem so_p2 (h : LJ g f qs zs fo ts rs hs cs D R H C I P) {p : Nat} : perC g f (nI p) (nI 2) = lasC (f 6) (f 8) (g 0) (nI p) H := by
  have hb := h.bd
  show lasC (f 6) (f 8) (g 0) (nI p) (g 7).toNatClampNeg = _
  rw [h.g7, nI_clamp (by omega)]
theorem so_p3 (h : LJ g f qs zs fo ts rs hs cs D R H C I P) {p : Nat} (hp : p < 8) : perC g f (nI p) (nI 3) = ts p := h.t hp
theorem so_p4 (h : LJ g f qs zs fo ts rs hs cs D R H C I P) {p : Nat} (hp : p < 8) : perC g f (nI p) (nI 4) = fo p := latS_eq h hp
theorem so_p6 (h : LJ g f qs zs fo ts rs hs cs D R H C I P) {p : Nat} : perC g f (nI p) (nI 6) = brL (hpL hs (qs 0) (nI p) H) 6 := by
  show kbtC (parS g f (g 0) (nI p)) 6 = _
  rw [parS_eq h, kbt_eq _ (Nat.le_refl _)]
theorem so_c0 (h : LJ g f qs zs fo ts rs hs cs D R H C I P) {n : Int32} : cnuC g f n (nI 0) = qs 0 := h.g0.trans h.q0.symm
theorem so_c1 (h : LJ g f qs zs fo ts rs hs cs D R H C I P) {n : Int32} : cnuC g f n (nI 1) = qs 1 := h.g1.trans h.q1.symm
theorem so_c2 (h : LJ g f qs zs fo ts rs hs cs D R H C I P) {n : Int32} : cnuC g f n (nI 2) = if qs 0 ≤ qs 3 then qs 2 else nI 0 := by
  show stpC g (g 0) = _
  unfold stpC
  rw [h.q0, h.g0, h.q3, h.q2]; rfl
theorem so_c3 (h : LJ g f qs zs fo ts rs hs cs D R H C I P) {n : Int32} : cnuC g f n (nI 3) = if qs 0 ≤ qs 3 then qs 3 else -1 := by
  show (if g 0 ≤ g 3 then g 3 else -1) = _
  rw [h.q0, h.g0, h.q3]
theorem so_c4 (h : LJ g f qs zs fo ts rs hs cs D R H C I P) {n : Int32} : cnuC g f n (nI 4) = qs 4 := h.g8.trans h.q4.symm
theorem LJ.cC (h : LJ g f qs zs fo ts rs hs cs D R H C I P) : (g 8).toNatClampNeg = C := by have hb := h.bd; rw [h.g8, nI_clamp (by omega)]
theorem so_c5 (h : LJ g f qs zs fo ts rs hs cs D R H C I P) {n : Int32} : cnuC g f n (nI 5) = shL cs C := by
  show shoC (f 12) (g 8).toNatClampNeg = _
  rw [h.cC, sho_eq h (Nat.le_refl _)]
theorem so_c6 (h : LJ g f qs zs fo ts rs hs cs D R H C I P) {n : Int32} : cnuC g f n (nI 6) = qs 5 := by
  show dblC (f 11) (f 12) (f 13) (g 8).toNatClampNeg = _
  rw [h.cC, h.q5]
theorem so_c7 (h : LJ g f qs zs fo ts rs hs cs D R H C I P) {n : Int32} : cnuC g f n (nI 7) = qs 6 := h.g4.trans h.q6.symm
theorem so_c8 (h : LJ g f qs zs fo ts rs hs cs D R H C I P) {n : Int32} : cnuC g f n (nI 8) = qs 7 := h.q7.symm
theorem so_c9 (h : LJ g f qs zs fo ts rs hs cs D R H C I P) {n : Int32} : cnuC g f n (nI 9) = opL qs zs fo rs hs cs H R C := by
  show sscC g f (g 8).toNatClampNeg = _
  rw [h.cC, ssc_eq h (Nat.le_refl _)]
theorem so_1 (h : LJ g f qs zs fo ts rs hs cs D R H C I P) : ¬ qs 1 < 0 := by have hb := h.bd; rw [h.q1]; exact nI_pos (by omega)
theorem so_t (h : LJ g f qs zs fo ts rs hs cs D R H C I P) : ¬ (0 ≤ nI C ∧ nI C < g 8) := fun w => by rw [h.g8] at w; exact absurd w.2 Int32.lt_irrefl
end RS
def n64b (r : UInt64) : Bool := decide (r &&& 0x7fffffffffffffff ≤ 0x7ff0000000000000)
theorem n64b_ok {r : UInt64} (h : n64b r = true) : vf_n64 r := by
  unfold n64b at h
  unfold vf_n64
  exact of_decide_eq_true h
def shb (x : UInt64) : Bool := n64b x && decide (Op.cmpValue (FP.dcmp x x) .l = 0)
def shK (x : UInt64) : Prop := vf_n64 x ∧ Op.cmpValue (FP.dcmp x x) .l = 0
theorem shb_ok {x : UInt64} (h : shb x = true) : shK x := by
  unfold shb at h
  simp only [Bool.and_eq_true] at h
  exact ⟨n64b_ok h.1, of_decide_eq_true h.2⟩
theorem sh_1 : shb FP.dconst1 = true := by decide +kernel
theorem sh_all : ∀ C : Fin 11, ∀ c : Fin 11, 1 ≤ C.val → c.val ≤ C.val → shb (FP.ddiv (FP.i2d (nI c.val)) (FP.i2d (nI C.val))) = true := by decide +kernel
theorem sh_ok {C c : Nat} (h1 : 1 ≤ C) (h2 : C ≤ 10) (h3 : c ≤ C) : shK (FP.ddiv (FP.i2d (nI c)) (FP.i2d (nI C))) := shb_ok (sh_all ⟨C, by omega⟩ ⟨c, by omega⟩ h1 h3)
theorem shL_val (cs : Nat → Int32) (n : Nat) : ∃ c, shL cs n = nI c ∧ c ≤ n := by
  induction n with
  | zero => exact ⟨0, rfl, Nat.le_refl _⟩
  | succ n ih =>
    obtain ⟨c, e, h⟩ := ih
    rw [shL, e]
    split
    · exact ⟨c + 1, nI_add c 1, by omega⟩
    · exact ⟨c, nI_add c 0, by omega⟩
section RS2
variable {g : Nat → Int32} {f : Nat → Nat → Int32} {qs zs fo ts rs hs cs : Nat → Int32} {D R H C I P : Nat}
theorem so_K (h : LJ g f qs zs fo ts rs hs cs D R H C I P) (h0 : ¬ C = 0) : shK (FP.ddiv (FP.i2d (shL cs C)) (FP.i2d (nI C))) := by
  have hb := h.bd
  obtain ⟨c, e, hc⟩ := shL_val cs C
  rw [e]
  exact sh_ok (by omega) (by omega) hc
theorem so_nn (h : LJ g f qs zs fo ts rs hs cs D R H C I P) : g 8 = 0 ∨ vf_n64 (FP.ddiv (FP.i2d (shoC (f 12) (g 8).toNatClampNeg)) (FP.i2d (g 8))) := by
  by_cases h0 : C = 0
  · exact Or.inl (by rw [h.g8, h0]; rfl)
  · exact Or.inr (by rw [h.cC, sho_eq h (Nat.le_refl _), h.g8]; exact (so_K h h0).1)
theorem so_sh0 (h : LJ g f qs zs fo ts rs hs cs D R H C I P) (h0 : C = 0) : shrC (f 12) (g 8) = FP.dconst1 := by
  unfold shrC
  rw [h.g8, h0]; exact if_pos rfl
theorem so_sh1 (h : LJ g f qs zs fo ts rs hs cs D R H C I P) (h0 : ¬ C = 0) : shrC (f 12) (g 8) = FP.ddiv (FP.i2d (shL cs C)) (FP.i2d (nI C)) := by
  have hb := h.bd
  unfold shrC
  rw [h.cC, sho_eq h (Nat.le_refl _), h.g8]
  exact if_neg (nI_ne0 (by omega) (by omega))
end RS2
