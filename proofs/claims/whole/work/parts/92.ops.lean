/-! each operation keeps what holds between two calls -/
theorem Gx.nil {l : Launch} {E : EV} {y : MethodName} {cc : ByteArray} {ml : Nat} {hh : List (Nat × Nat × Nat × Nat)} {fr lo : Nat} {av : List Value} {x0 x1 : Nat × va_E} {w0 w1 : va_W} {v : Int32} (h : Gx l E y cc ml hh fr lo av (x0 :: (w0 ++ [])) (x1 :: (w1 ++ [])) v) : Gx l E y cc ml hh fr lo av (x0 :: w0) (x1 :: w1) v := by
  rw [List.append_nil, List.append_nil] at h; exact h
def OpQ (l : Launch) (E : EV) (yl : MethodName) (cl : ByteArray) (ml : Nat) (hh : List (Nat × Nat × Nat × Nat)) (fr lo : Nat) (av : List Value) (y7 : MethodName) (c7 : ByteArray) (m7 f7 l7 : Nat) (av7 : List Value) (d a0 o : Nat) (f : Nat → Int64) (wx wm : va_W) : Prop :=
  ∃ (wx' wm' : va_W) (fm fm' : List Value) (f' : Nat → Int64) (kd : Nat) (rv : Int32), Gx l E yl cl ml hh fr lo av (rl_ E o 1 f :: wx) (rl_ E o 1 f' :: wx') (nI kd) ∧ Wr l E y7 c7 m7 (some .int) f7 l7 av7 wm wm' (some (.int rv)) ∧ (ads wm').Perm (ads wm) ∧ wm[0]? = some (a0, .inr (7, fm)) ∧ wm'[0]? = some (a0, .inr (7, fm')) ∧ Rd l E yX7_thrown cX7_thrown 1 (some .int) 0 0 [.ref a0] wm' (some (.int (nI kd))) ∧ kd < 4 ∧ (kd = 0 → f' 0 = rv.toInt64) ∧ LI E d a0 wx' wm'
section OQ
variable {l : Launch} {E : EV} {yl : MethodName} {cl : ByteArray} {ml : Nat} {hh : List (Nat × Nat × Nat × Nat)} {fr lo : Nat} {av : List Value} {y7 : MethodName} {c7 : ByteArray} {m7 f7 l7 : Nat} {av7 : List Value} {d o : Nat} {f : Nat → Int64} {wx wx' : va_W}
variable {am : Nat → Nat} {t1 t2 n1 n2 L1 L2 p1 p2 : Int32} {h1 h2 : Int64} {s1 s2 S1 S2 b1 b2 w1 w2 : Nat → Int32}
theorem oq_ok {v rv : Int32} (hG : Gx l E yl cl ml hh fr lo av (rl_ E o 1 f :: wx) (rl_ E o 1 (vp_updL f 0 v.toInt64) :: wx') (nI 0)) (hv : v = rv) (hM : Wr l E y7 c7 m7 (some .int) f7 l7 av7 (mdW E am t1 n1 L1 p1 h1 s1 S1 b1 w1) (mdW E am (nI 0) n2 L2 p2 h2 s2 S2 b2 w2) (some (.int rv))) (hI : LI E d (am 0) wx' (mdW E am (nI 0) n2 L2 p2 h2 s2 S2 b2 w2)) : OpQ l E yl cl ml hh fr lo av y7 c7 m7 f7 l7 av7 d (am 0) o f wx (mdW E am t1 n1 L1 p1 h1 s1 S1 b1 w1) :=
  ⟨wx', _, _, _, _, 0, rv, hG, hM, md_pm, rfl, rfl, c_X7_thrown l E, by omega, fun _ => by rw [hv]; rfl, hI⟩
theorem oq_no {kd : Nat} {rv : Int32} (hG : Gx l E yl cl ml hh fr lo av (rl_ E o 1 f :: wx) (rl_ E o 1 f :: wx) (nI kd)) (hM : Wr l E y7 c7 m7 (some .int) f7 l7 av7 (mdW E am t1 n1 L1 p1 h1 s1 S1 b1 w1) (mdW E am (nI kd) n2 L2 p2 h2 s2 S2 b2 w2) (some (.int rv))) (hk : 0 < kd) (hk4 : kd < 4) (hI : LI E d (am 0) wx (mdW E am (nI kd) n2 L2 p2 h2 s2 S2 b2 w2)) : OpQ l E yl cl ml hh fr lo av y7 c7 m7 f7 l7 av7 d (am 0) o f wx (mdW E am t1 n1 L1 p1 h1 s1 S1 b1 w1) :=
  ⟨wx, _, _, _, _, kd, rv, hG, hM, md_pm, rfl, rfl, c_X7_thrown l E, hk4, fun h => absurd h (by omega), hI⟩
end OQ
section SG
variable {g : Nat → Int32} {f : Nat → Nat → Int32} {s : Nat → Int32} {R H C D : Nat} {sn : Nat → Nat} {x : Int32}
theorem sgx (hA : RA g f s) (hB : RB s R H C D sn) (h : 0 ≤ x ∧ x < g 8) : ∃ x', x = nI x' ∧ x' < C ∧ x' < 10 ∧ (nI 0 ≤ nI x' ∧ nI x' ≤ s 4 - nI 1) := by
  have hC10 : C ≤ 10 := hB.1.2.2.2.2.2.2.2.1
  have h4 : s 4 = nI C := hB.1.2.2.2.2.2.2.1
  rw [hA.g8, h4] at h
  obtain ⟨j, hj, rfl⟩ := nI_of (Int32.not_lt.mpr h.1)
  have q := (nI_ltI hj (by omega)).mp h.2
  exact ⟨j, rfl, q, by omega, by rw [h4]; exact (scg_iff hC10).mp h⟩
theorem sgn (hA : RA g f s) (hB : RB s R H C D sn) (h : ¬ (0 ≤ x ∧ x < g 8)) : ¬ (nI 0 ≤ x ∧ x ≤ s 4 - nI 1) := by
  have hC10 : C ≤ 10 := hB.1.2.2.2.2.2.2.2.1
  have h4 : s 4 = nI C := hB.1.2.2.2.2.2.2.1
  rw [hA.g8, h4] at h
  rw [h4]
  exact fun w => h ((scg_iff hC10).mpr w)
theorem bar_eq (hA : RA g f s) (hB : RB s R H C D sn) {p κ : Nat} (hκ : κ < 6) : (parS g f (g 0) (nI p) &&& gt tBar 6 (nI κ)) = (paM s (nI p) (s 0) H &&& bpM (nI κ)) := by
  have hD : D ≤ 999 := hB.1.2.1
  rw [day_eq hA hB, parS_eq hA hB (Nat.le_refl D) (by omega), tb_eq hκ, hB.1.1]
theorem rea_eq' (hA : RA g f s) (hB : RB s R H C D sn) (hC : RC f s C) {x p : Nat} (hx : x < C) (hp : p < 8) : reaC g f (g 0) (nI x) (nI p) = rsM s R H sn x p (s 0) := by
  have hD : D ≤ 999 := hB.1.2.1
  rw [day_eq hA hB, rea_eq hA hB hC hx hp (Nat.le_refl D) (by omega), hB.1.1]
end SG
theorem RcMi {g : Nat → Int32} {f : Nat → Nat → Int32} {s : Nat → Int32} (h : Rc g f s) : Mi s := by
  obtain ⟨R, H, C, D, sn, hA, hB, hC⟩ := h
  exact Mi_of hB.1
section LIs2
variable {E : EV} {d v0 v1 t u n L : Nat} {a : Nat → Nat} {g g' : Nat → Int32} {f f' : Nat → Nat → Int32} {r : Nat → Int32} {B : Nat → Nat → Nat} {G : Nat → Nat → Int32} {K : Nat → Nat → Nat → Int32} {am : Nat → Nat} {th pl : Int32} {hs : Int64} {s s' S b w : Nat → Int32}
theorem LI_keep0 (hn : n ≤ 6) (hr : ∀ j, j < L → r j = b j) (hR : Rc g f s) (hS : SL n G K S) (hR' : Rc g' f' s') : LI E d (am 0) (dW E d v0 v1 t u (nI (kN n)) 0 r a g' f' ++ tlW E v1 (kB n B) (kG n G g) (kG n K f)) (mdW E am th (nI (kN n)) (nI 0) pl hs s' (svA S s n) b w) :=
  LI_same (L := 0) (kN_le hn) (by omega) (fun j h => absurd h (by omega)) hR' (SL_keep hn hS hR)
theorem dw_pm2 {n1 n2 m1 m2 : Int32} {r1 r2 : Nat → Int32} {g1 g2 : Nat → Int32} {f1 f2 : Nat → Nat → Int32} {wb : va_W} : (ads (dW E d v0 v1 t u n1 m1 r1 a g1 f1 ++ wb)).Perm (ads (dW E d v0 v1 t u n2 m2 r2 a g2 f2 ++ wb)) := pm_eq rfl
end LIs2
set_option maxHeartbeats 4000000 in
set_option maxRecDepth 100000 in
theorem op_size {l : Launch} {E : EV} {d a0 o : Nat} {f1 : Nat → Int64} {wx wm : va_W} {p0 p1 : Int32} (hst : l.stackTraces = false) (hI : LI E d a0 wx wm) : OpQ l E yL_size cL_size 5 [(0, 10, 13, 13), (0, 10, 17, 15)] 8 126 [.ref d, .int p0, .int p1, .ref o] yX7_size cX7_size 4 2 42 [.ref a0, .int p0, .int p1] d a0 o f1 wx wm := by
  obtain ⟨v0, v1, t, u, n, L, a, g, f, r, B, G, K, am, th, pl, hs, s, S, b, w, rfl, rfl, rfl, hn, hL, hr, hR, hS⟩ := hI
  have hR2 := hR
  obtain ⟨R, H, C, D, sn, hA, hB, hC⟩ := hR2
  by_cases h1 : 0 ≤ p0 ∧ p0 ≤ 7
  · skip
    by_cases h2 : 150 ≤ p1 ∧ p1 ≤ 200
    · skip
      obtain ⟨p, rfl, p_a, p_b⟩ := dig (lo := 0) (hi := 7) (by omega) h1.1 h1.2
      obtain ⟨z, rfl, z_a, z_b⟩ := dig (lo := 150) (hi := 200) (by omega) h2.1 h2.2
      exact oq_ok (Gx.nil (w_L_size l E (wb := []) (c_X6_size l E h1 h2 hn) keep_pm)) (hA.t0 (by omega)) (c_X7_size l E h1 h2 (by omega) hn) (LI_keep hn hL hr hR hS (⟨R, H, C, D, sn, up_size ⟨hA, hB, hC⟩ (by omega) z_a z_b⟩))
    · exact oq_no (kd := 2) (w_L_size_e2 l E (c_X6_size_t2 l E h1 h2 hst)) (c_X7_size_e2 l E h1 h2) (by omega) (by omega) (LI_same hn hL hr hR hS)
  · exact oq_no (kd := 1) (w_L_size_e1 l E (c_X6_size_t1 l E h1 hst)) (c_X7_size_e1 l E h1) (by omega) (by omega) (LI_same hn hL hr hR hS)
set_option maxHeartbeats 4000000 in
set_option maxRecDepth 100000 in
theorem op_pass {l : Launch} {E : EV} {d a0 o : Nat} {f1 : Nat → Int64} {wx wm : va_W} {p0 : Int32} (hst : l.stackTraces = false) (hI : LI E d a0 wx wm) : OpQ l E yL_pass cL_pass 4 [(0, 9, 12, 15), (0, 9, 15, 21)] 8 125 [.ref d, .int p0, .ref o] yX7_pass cX7_pass 2 1 22 [.ref a0, .int p0] d a0 o f1 wx wm := by
  obtain ⟨v0, v1, t, u, n, L, a, g, f, r, B, G, K, am, th, pl, hs, s, S, b, w, rfl, rfl, rfl, hn, hL, hr, hR, hS⟩ := hI
  have hR2 := hR
  obtain ⟨R, H, C, D, sn, hA, hB, hC⟩ := hR2
  by_cases h1 : 1 ≤ p0 ∧ p0 ≤ 99
  · skip
    by_cases h2 : g 0 + p0 ≤ 999
    · skip
      have h2' : s 0 + p0 ≤ nI 999 := by rw [← hA.g0]; exact h2
      obtain ⟨z, rfl, z_a, z_b⟩ := dig (lo := 1) (hi := 99) (by omega) h1.1 h1.2
      have hq : D + z ≤ 999 := by have q := h2'; rw [hB.1.1, nI_add] at q; exact (nI_leI (by have := hB.1.2.1; omega) (by omega)).mp q
      exact oq_ok (Gx.nil (w_L_pass l E (wb := []) (c_X6_pass l E h1 h2 hn) keep_pm)) (by rw [tm_0, hA.g0]) (c_X7_pass l E h1 h2' hn) (LI_keep hn hL hr hR hS (⟨R, H, C, D + z, sn, up_pass ⟨hA, hB, hC⟩ hq⟩))
    · exact oq_no (kd := 2) (w_L_pass_e2 l E (c_X6_pass_t2 l E h1 h2 hst)) (c_X7_pass_e2 l E h1 (by rw [← hA.g0]; exact h2)) (by omega) (by omega) (LI_same hn hL hr hR hS)
  · exact oq_no (kd := 1) (w_L_pass_e1 l E (c_X6_pass_t1 l E h1 hst)) (c_X7_pass_e1 l E h1) (by omega) (by omega) (LI_same hn hL hr hR hS)
set_option maxHeartbeats 4000000 in
set_option maxRecDepth 100000 in
theorem op_rehearse {l : Launch} {E : EV} {d a0 o : Nat} {f1 : Nat → Int64} {wx wm : va_W} {p0 p1 p2 : Int32} (hst : l.stackTraces = false) (hI : LI E d a0 wx wm) : OpQ l E yL_rehearse cL_rehearse 6 [(0, 12, 15, 13), (0, 12, 19, 15), (0, 12, 23, 21)] 8 127 [.ref d, .int p0, .int p1, .int p2, .ref o] yX7_rehearse cX7_rehearse 4 3 70 [.ref a0, .int p0, .int p1, .int p2] d a0 o f1 wx wm := by
  obtain ⟨v0, v1, t, u, n, L, a, g, f, r, B, G, K, am, th, pl, hs, s, S, b, w, rfl, rfl, rfl, hn, hL, hr, hR, hS⟩ := hI
  have hR2 := hR
  obtain ⟨R, H, C, D, sn, hA, hB, hC⟩ := hR2
  by_cases h1 : 0 ≤ p0 ∧ p0 ≤ 7
  · skip
    by_cases h2 : 0 ≤ p1 ∧ p1 ≤ 5
    · skip
      by_cases h3 : 1 ≤ p2 ∧ p2 ≤ 5
      · skip
        obtain ⟨p, rfl, p_a, p_b⟩ := dig (lo := 0) (hi := 7) (by omega) h1.1 h1.2
        obtain ⟨κ, rfl, κ_a, κ_b⟩ := dig (lo := 0) (hi := 5) (by omega) h2.1 h2.2
        have hb := bar_eq (p := p) hA hB (show κ < 6 by omega)
        by_cases h4 : parS g f (g 0) (nI p) &&& gt tBar 6 (nI κ) = 0
        · skip
          obtain ⟨⟨R', H', hJ⟩, hv⟩ := up_reh (r := p2) ⟨hA, hB, hC⟩ (show p < 8 by omega) (show κ < 6 by omega)
          exact oq_ok (Gx.nil (w_L_rehearse l E (wb := []) (c_X6_rehearse l E h1 h2 h3 h4 hn) keep_pm)) (hv) (c_X7_rehearse l E hB.1 h1 h2 h3 (by rw [← hb]; exact h4) (by omega) hn) (LI_keep hn hL hr hR hS (⟨R', H', C, D, sn, hJ⟩))
        · exact oq_no (kd := 3) (w_L_rehearse_e3 l E (c_X6_rehearse_t4 l E h1 h2 h3 h4 hst)) (c_X7_rehearse_e3 l E hB.1 h1 h2 h3 (by rw [← hb]; exact h4) (by omega)) (by omega) (by omega) (LI_same hn hL hr hR hS)
      · exact oq_no (kd := 2) (w_L_rehearse_e2 l E (c_X6_rehearse_t3 l E h1 h2 h3 hst)) (c_X7_rehearse_e2 l E h1 h2 h3) (by omega) (by omega) (LI_same hn hL hr hR hS)
    · exact oq_no (kd := 1) (w_L_rehearse_e1 l E (c_X6_rehearse_t2 l E h1 h2 hst)) (c_X7_rehearse_e1 l E (fun w => h2 w.2)) (by omega) (by omega) (LI_same hn hL hr hR hS)
  · exact oq_no (kd := 1) (w_L_rehearse_e1 l E (c_X6_rehearse_t1 l E h1 hst)) (c_X7_rehearse_e1 l E (fun w => h1 w.1)) (by omega) (by omega) (LI_same hn hL hr hR hS)
set_option maxHeartbeats 4000000 in
set_option maxRecDepth 100000 in
theorem op_hurt {l : Launch} {E : EV} {d a0 o : Nat} {f1 : Nat → Int64} {wx wm : va_W} {p0 p1 p2 : Int32} (hst : l.stackTraces = false) (hI : LI E d a0 wx wm) : OpQ l E yL_hurt cL_hurt 6 [(0, 12, 15, 13), (0, 12, 19, 15)] 8 127 [.ref d, .int p0, .int p1, .int p2, .ref o] yX7_hurt cX7_hurt 7 3 70 [.ref a0, .int p0, .int p1, .int p2] d a0 o f1 wx wm := by
  obtain ⟨v0, v1, t, u, n, L, a, g, f, r, B, G, K, am, th, pl, hs, s, S, b, w, rfl, rfl, rfl, hn, hL, hr, hR, hS⟩ := hI
  have hR2 := hR
  obtain ⟨R, H, C, D, sn, hA, hB, hC⟩ := hR2
  by_cases h1 : 0 ≤ p0 ∧ p0 ≤ 7
  · skip
    by_cases h2 : ((1 ≤ p1 ∧ p1 ≤ 32) ∧ p1 &&& (p1 - 1) = 0) ∧ (1 ≤ p2 ∧ p2 ≤ 60)
    · skip
      have hJ := up_ij (p := p0) (u := p1) (x := p2) ⟨hA, hB, hC⟩
      exact oq_ok (Gx.nil (w_L_hurt l E (wb := []) (c_X6_hurt l E h1 h2 hn) keep_pm)) (by rw [hJ.1.cC hJ.2.1]; exact sbf_eq hJ.1 hJ.2.1 (Nat.le_refl C)) (c_X7_hurt l E hB.1 h1 (prt_iff.mp h2.1) h2.2 hn) (LI_keep hn hL hr hR hS (⟨R, _, C, D, sn, hJ⟩))
    · exact oq_no (kd := 2) (w_L_hurt_e2 l E (c_X6_hurt_t2 l E h1 h2 hst)) (c_X7_hurt_e2 l E h1 (fun w => h2 ⟨prt_iff.mpr w.1, w.2⟩)) (by omega) (by omega) (LI_same hn hL hr hR hS)
  · exact oq_no (kd := 1) (w_L_hurt_e1 l E (c_X6_hurt_t1 l E h1 hst)) (c_X7_hurt_e1 l E h1) (by omega) (by omega) (LI_same hn hL hr hR hS)
set_option maxHeartbeats 4000000 in
set_option maxRecDepth 100000 in
theorem op_insure {l : Launch} {E : EV} {d a0 o : Nat} {f1 : Nat → Int64} {wx wm : va_W} {p0 p1 : Int32} (hst : l.stackTraces = false) (hI : LI E d a0 wx wm) : OpQ l E yL_insure cL_insure 5 [(0, 10, 13, 15), (0, 10, 17, 21)] 8 126 [.ref d, .int p0, .int p1, .ref o] yX7_insure cX7_insure 4 1 23 [.ref a0, .int p0, .int p1] d a0 o f1 wx wm := by
  obtain ⟨v0, v1, t, u, n, L, a, g, f, r, B, G, K, am, th, pl, hs, s, S, b, w, rfl, rfl, rfl, hn, hL, hr, hR, hS⟩ := hI
  have hR2 := hR
  obtain ⟨R, H, C, D, sn, hA, hB, hC⟩ := hR2
  by_cases h1 : (1 ≤ p0 ∧ p0 ≤ 5) ∧ (1 ≤ p1 ∧ p1 ≤ 60)
  · skip
    by_cases h2 : cosC g p0 p1 ≤ g 1
    · skip
      exact oq_ok (Gx.nil (w_L_insure l E (wb := []) (c_X6_insure l E h1 h2 hn) keep_pm)) (by rw [inS_1, hA.g1, cos_eq hA]) (c_X7_insure l E h1.1 h1.2 (by rw [← cos_eq hA, ← hA.g1]; exact h2) hn) (LI_keep hn hL hr hR hS (⟨R, H, C, D, sn, up_ins ⟨hA, hB, hC⟩⟩))
    · exact oq_no (kd := 2) (w_L_insure_e2 l E (c_X6_insure_t2 l E h1 h2 hst)) (c_X7_insure_e2 l E h1.1 h1.2 (by rw [← cos_eq hA, ← hA.g1]; exact h2)) (by omega) (by omega) (LI_same hn hL hr hR hS)
  · exact oq_no (kd := 1) (w_L_insure_e1 l E (c_X6_insure_t1 l E h1 hst)) (c_X7_insure_e1 l E h1) (by omega) (by omega) (LI_same hn hL hr hR hS)
set_option maxHeartbeats 4000000 in
set_option maxRecDepth 100000 in
theorem op_scene {l : Launch} {E : EV} {d a0 o : Nat} {f1 : Nat → Int64} {wx wm : va_W} {p0 p1 p2 : Int32} (hst : l.stackTraces = false) (hI : LI E d a0 wx wm) : OpQ l E yL_scene cL_scene 6 [(0, 12, 15, 13), (0, 12, 19, 15), (0, 12, 23, 21)] 8 127 [.ref d, .int p0, .int p1, .int p2, .ref o] yX7_scene cX7_scene 5 2 42 [.ref a0, .int p0, .int p1, .int p2] d a0 o f1 wx wm := by
  obtain ⟨v0, v1, t, u, n, L, a, g, f, r, B, G, K, am, th, pl, hs, s, S, b, w, rfl, rfl, rfl, hn, hL, hr, hR, hS⟩ := hI
  have hR2 := hR
  obtain ⟨R, H, C, D, sn, hA, hB, hC⟩ := hR2
  by_cases h1 : 0 ≤ p0 ∧ p0 ≤ 5
  · skip
    by_cases h2 : 0 ≤ p2 ∧ p2 ≤ 7
    · skip
      by_cases h3 : 1 ≤ p1 ∧ p1 ≤ 5
      · skip
        have h8 : g 8 = nI C := hA.g8.trans hB.1.2.2.2.2.2.2.1
        have hC10 : C ≤ 10 := hB.1.2.2.2.2.2.2.2.1
        by_cases h4 : g 8 < 10
        · skip
          have hc : C < 10 := by rw [h8] at h4; exact (nI_ltI (b := 10) (by omega) (by omega)).mp h4
          obtain ⟨κ, rfl, κ_a, κ_b⟩ := dig (lo := 0) (hi := 5) (by omega) h1.1 h1.2
          obtain ⟨π, rfl, π_a, π_b⟩ := dig (lo := 0) (hi := 7) (by omega) h2.1 h2.2
          obtain ⟨ρ, rfl, ρ_a, ρ_b⟩ := dig (lo := 1) (hi := 5) (by omega) h3.1 h3.2
          exact oq_ok (Gx.nil (w_L_scene l E (wb := []) (c_X6_scene l E h1 h2 h3 h4 hn) keep_pm)) (by rw [scS_4 hc, hA.g8, hB.1.2.2.2.2.2.2.1, nI_add, nI_sub (by omega)]; rfl) (c_X7_scene l E hB.1 h1 h2 h3 (fun w => by rw [hB.1.2.2.2.2.2.2.1] at w; exact absurd ((nI_ltI (a := C) (b := 10) (by omega) (by omega)).mpr hc) (by rw [w]; exact Int32.lt_irrefl)) hc hn) (LI_keep hn hL hr hR hS (⟨R, H, C + 1, D, _, up_scene ⟨hA, hB, hC⟩ hc (by omega) ρ_a ρ_b (by omega)⟩))
        · exact oq_no (kd := 3) (w_L_scene_e3 l E (c_X6_scene_t4 l E h1 h2 h3 h4 hst)) (c_X7_scene_e3 l E h1 h2 h3 (fun w => h4 (by rw [h8]; exact (nI_ltI (b := 10) (by omega) (by omega)).mpr (by rcases Nat.lt_or_ge C 10 with q | q; exact q; exact absurd (by rw [← hA.g8, h8]; exact congrArg nI (show C = 10 by omega)) w)))) (by omega) (by omega) (LI_same hn hL hr hR hS)
      · exact oq_no (kd := 2) (w_L_scene_e2 l E (c_X6_scene_t3 l E h1 h2 h3 hst)) (c_X7_scene_e2 l E h1 h2 h3) (by omega) (by omega) (LI_same hn hL hr hR hS)
    · exact oq_no (kd := 1) (w_L_scene_e1 l E (c_X6_scene_t2 l E h1 h2 hst)) (c_X7_scene_e1 l E (fun w => h2 w.2)) (by omega) (by omega) (LI_same hn hL hr hR hS)
  · exact oq_no (kd := 1) (w_L_scene_e1 l E (c_X6_scene_t1 l E h1 hst)) (c_X7_scene_e1 l E (fun w => h1 w.1)) (by omega) (by omega) (LI_same hn hL hr hR hS)
set_option maxHeartbeats 4000000 in
set_option maxRecDepth 100000 in
theorem op_shoot {l : Launch} {E : EV} {d a0 o : Nat} {f1 : Nat → Int64} {wx wm : va_W} {p0 p1 : Int32} (hst : l.stackTraces = false) (hI : LI E d a0 wx wm) : OpQ l E yL_shoot cL_shoot 5 [(0, 10, 13, 13), (0, 10, 17, 21)] 8 127 [.ref d, .int p0, .int p1, .ref o] yX7_shoot cX7_shoot 3 4 99 [.ref a0, .int p0, .int p1] d a0 o f1 wx wm := by
  obtain ⟨v0, v1, t, u, n, L, a, g, f, r, B, G, K, am, th, pl, hs, s, S, b, w, rfl, rfl, rfl, hn, hL, hr, hR, hS⟩ := hI
  have hR2 := hR
  obtain ⟨R, H, C, D, sn, hA, hB, hC⟩ := hR2
  by_cases h1 : 0 ≤ p0 ∧ p0 < g 8
  · skip
    by_cases h2 : 0 ≤ p1 ∧ p1 ≤ 7
    · skip
      obtain ⟨x, rfl, hx, hx10, hg⟩ := sgx hA hB h1
      obtain ⟨p, rfl, p_a, p_b⟩ := dig (lo := 0) (hi := 7) (by omega) h2.1 h2.2
      have hq := rea_eq' hA hB hC hx (show p < 8 by omega)
      by_cases h3 : reaC g f (g 0) (nI x) (nI p) = 0
      · skip
        have h3' : rsM s R H sn x p (s 0) = nI 0 := by rw [← hq]; exact h3
        obtain ⟨hJ, hv⟩ := up_shoot ⟨hA, hB, hC⟩ hx (show p < 8 by omega) (rs_0 h3').1
        exact oq_ok (Gx.nil (w_L_shoot l E (wb := []) (c_X6_shoot l E h1 h2 h3 hn) keep_pm)) (hv) (c_X7_shoot l E hB.1 hg h2 h3' hx10 (by omega) hn) (LI_keep hn hL hr hR hS (⟨R, H, C, D, sn, hJ⟩))
      · exact oq_no (kd := 2) (w_L_shoot_e2 l E (c_X6_shoot_t3 l E h1 h2 h3 hst)) (c_X7_shoot_e2 l E hB.1 hg h2 (by rw [← hq]; exact h3) hx10 (by omega)) (by omega) (by omega) (LI_same hn hL hr hR hS)
    · exact oq_no (kd := 1) (w_L_shoot_e1 l E (c_X6_shoot_t2 l E h1 h2 hst)) (c_X7_shoot_e1 l E (fun w => h2 w.2)) (by omega) (by omega) (LI_same hn hL hr hR hS)
  · exact oq_no (kd := 1) (w_L_shoot_e1 l E (c_X6_shoot_t1 l E h1 hst)) (c_X7_shoot_e1 l E (fun w => sgn hA hB h1 w.1)) (by omega) (by omega) (LI_same hn hL hr hR hS)
set_option maxHeartbeats 4000000 in
set_option maxRecDepth 100000 in
theorem op_append {l : Launch} {E : EV} {d a0 o : Nat} {f1 : Nat → Int64} {wx wm : va_W} {p0 : Int32} (hst : l.stackTraces = false) (hI : LI E d a0 wx wm) : OpQ l E yL_append cL_append 4 [(0, 9, 12, 15), (0, 9, 15, 21)] 8 125 [.ref d, .int p0, .ref o] yX7_append cX7_append 2 1 22 [.ref a0, .int p0] d a0 o f1 wx wm := by
  obtain ⟨v0, v1, t, u, n, L, a, g, f, r, B, G, K, am, th, pl, hs, s, S, b, w, rfl, rfl, rfl, hn, hL, hr, hR, hS⟩ := hI
  have hR2 := hR
  obtain ⟨R, H, C, D, sn, hA, hB, hC⟩ := hR2
  by_cases h1 : 33 ≤ p0 ∧ p0 ≤ 126
  · skip
    by_cases h2 : nI L < 60
    · skip
      have hl : L < 60 := (nI_ltI (b := 60) (by omega) (by omega)).mp h2
      have hC6 := c_X6_append l E (d := d) (v0 := v0) (v1 := v1) (t := t) (u := u) (a := a) (g := g) (f := f) (n := nI n) (r := r) h1 h2
      rw [show nI L + 1 = nI (L + 1) from nI_add L 1] at hC6
      exact oq_ok (w_L_append l E (hC6) dw_pm) (rfl) (c_X7_append l E h1 (fun w => absurd h2 (by rw [w]; exact Int32.lt_irrefl)) hl) (LI_same hn (by omega) (fun j hj => by rw [ptF_n hl]; unfold upd; split; rfl; exact hr j (by omega)) hR hS)
    · exact oq_no (kd := 2) (w_L_append_e2 l E (c_X6_append_t2 l E h1 h2 hst)) (c_X7_append_e2 l E h1 (fun w => h2 ((nI_ltI (b := 60) (by omega) (by omega)).mpr (by rcases Nat.lt_or_ge L 60 with q | q; exact q; exact absurd (congrArg nI (show L = 60 by omega)) w))) hL) (by omega) (by omega) (LI_same hn hL hr hR hS)
  · exact oq_no (kd := 1) (w_L_append_e1 l E (c_X6_append_t1 l E h1 hst)) (c_X7_append_e1 l E h1 hL) (by omega) (by omega) (LI_same hn hL hr hR hS)
set_option maxHeartbeats 4000000 in
set_option maxRecDepth 100000 in
theorem op_play {l : Launch} {E : EV} {d a0 o : Nat} {f1 : Nat → Int64} {wx wm : va_W} (hst : l.stackTraces = false) (hI : LI E d a0 wx wm) : OpQ l E yL_play cL_play 3 [(0, 8, 11, 15)] 8 163 [.ref d, .ref o] yX7_play cX7_play 4 5 121 [.ref a0] d a0 o f1 wx wm := by
  obtain ⟨v0, v1, t, u, n, L, a, g, f, r, B, G, K, am, th, pl, hs, s, S, b, w, rfl, rfl, rfl, hn, hL, hr, hR, hS⟩ := hI
  have hR2 := hR
  obtain ⟨R, H, C, D, sn, hA, hB, hC⟩ := hR2
  have hC6 := fun h => c_X6_play l E (d := d) (v0 := v0) (v1 := v1) (t := t) (u := u) (a := a) (g := g) (f := f) (n := n) (m := nI L) (r := r) (B := B) (G := G) (K := K) h hn
  have hT6 := fun h => c_X6_play_t1 l E (d := d) (v0 := v0) (v1 := v1) (t := t) (u := u) (a := a) (g := g) (f := f) (n := nI n) (m := nI L) (r := r) h hst
  rw [nI_clamp (by omega)] at hC6 hT6
  by_cases h1 : Cm r L
  · skip
    have hq := play_eq (w := fdW b L w 61 0) hL hr h1 hR
    exact oq_ok (Gx.nil (w_L_play l E (wb := []) (hC6 h1) keep_pm)) (hq.1) (c_X7_play l E (RcMi hR) hL hn ((cm_iff hL hr).mp h1)) (LI_keep0 hn hr hR hS hq.2)
  · exact oq_no (kd := 1) (w_L_play_e1 l E (hT6 h1)) (c_X7_play_e l E hL (fun w => h1 ((cm_iff hL hr).mpr w))) (by omega) (by omega) (LI_same hn hL hr hR hS)
set_option maxHeartbeats 4000000 in
set_option maxRecDepth 100000 in
theorem op_undo {l : Launch} {E : EV} {d a0 o : Nat} {f1 : Nat → Int64} {wx wm : va_W} (hst : l.stackTraces = false) (hI : LI E d a0 wx wm) : OpQ l E yL_undo cL_undo 3 [(0, 8, 11, 21)] 8 124 [.ref d, .ref o] yX7_undo cX7_undo 2 1 21 [.ref a0] d a0 o f1 wx wm := by
  obtain ⟨v0, v1, t, u, n, L, a, g, f, r, B, G, K, am, th, pl, hs, s, S, b, w, rfl, rfl, rfl, hn, hL, hr, hR, hS⟩ := hI
  have hR2 := hR
  obtain ⟨R, H, C, D, sn, hA, hB, hC⟩ := hR2
  cases n with
  | zero => exact oq_no (kd := 1) (w_L_undo_e1 l E (c_X6_undo_t1 l E (by decide) hst)) (c_X7_undo_e1 l E) (by omega) (by omega) (LI_same hn hL hr hR hS)
  | succ n =>
    have hx : Rc (G n) (K n) (unM S s n 300) := Rc_cg (fun k hk => unM_i hk) (hS n (by omega))
    exact oq_ok (Gx.nil (w_L_undo l E (wb := []) (c_X6_undo l E (show n < 6 by omega)) dw_pm2)) (rfl) (c_X7_undo l E (show n < 6 by omega)) (LI_same (by omega) hL hr hx (fun i hi => hS i (by omega)))
set_option maxHeartbeats 4000000 in
set_option maxRecDepth 100000 in
theorem op_person {l : Launch} {E : EV} {d a0 o : Nat} {f1 : Nat → Int64} {wx wm : va_W} {p0 p1 : Int32} (hst : l.stackTraces = false) (hI : LI E d a0 wx wm) : OpQ l E yL_person cL_person 5 [(0, 10, 13, 13), (0, 10, 17, 15)] 8 126 [.ref d, .int p0, .int p1, .ref o] yX7_person cX7_person 3 5 115 [.ref a0, .int p0, .int p1] d a0 o f1 wx wm := by
  obtain ⟨v0, v1, t, u, n, L, a, g, f, r, B, G, K, am, th, pl, hs, s, S, b, w, rfl, rfl, rfl, hn, hL, hr, hR, hS⟩ := hI
  have hR2 := hR
  obtain ⟨R, H, C, D, sn, hA, hB, hC⟩ := hR2
  by_cases h1 : 0 ≤ p0 ∧ p0 ≤ 7
  · skip
    by_cases h2 : 0 ≤ p1 ∧ p1 ≤ 6
    · skip
      obtain ⟨p, rfl, p_a, p_b⟩ := dig (lo := 0) (hi := 7) (by omega) h1.1 h1.2
      exact oq_ok (w_L_person l E (c_X6_person l E h1 h2)) (per_eq hA hB hC (by omega) p1) (c_X7_person l E hB.1 h1 h2 (by omega)) (LI_same hn hL hr hR hS)
    · exact oq_no (kd := 2) (w_L_person_e2 l E (c_X6_person_t2 l E h1 h2 hst)) (c_X7_person_e2 l E h1 h2) (by omega) (by omega) (LI_same hn hL hr hR hS)
  · exact oq_no (kd := 1) (w_L_person_e1 l E (c_X6_person_t1 l E h1 hst)) (c_X7_person_e1 l E h1) (by omega) (by omega) (LI_same hn hL hr hR hS)
set_option maxHeartbeats 4000000 in
set_option maxRecDepth 100000 in
theorem op_rehearsed {l : Launch} {E : EV} {d a0 o : Nat} {f1 : Nat → Int64} {wx wm : va_W} {p0 p1 p2 : Int32} (hst : l.stackTraces = false) (hI : LI E d a0 wx wm) : OpQ l E yL_rehearsed cL_rehearsed 6 [(0, 12, 15, 13), (0, 12, 19, 15)] 8 127 [.ref d, .int p0, .int p1, .int p2, .ref o] yX7_rehearsed cX7_rehearsed 4 2 50 [.ref a0, .int p0, .int p1, .int p2] d a0 o f1 wx wm := by
  obtain ⟨v0, v1, t, u, n, L, a, g, f, r, B, G, K, am, th, pl, hs, s, S, b, w, rfl, rfl, rfl, hn, hL, hr, hR, hS⟩ := hI
  have hR2 := hR
  obtain ⟨R, H, C, D, sn, hA, hB, hC⟩ := hR2
  by_cases h1 : 0 ≤ p0 ∧ p0 ≤ 7
  · skip
    by_cases h2 : 0 ≤ p1 ∧ p1 ≤ 5
    · skip
      by_cases h3 : 1 ≤ p2 ∧ p2 ≤ 5
      · skip
        obtain ⟨κ, rfl, κ_a, κ_b⟩ := dig (lo := 0) (hi := 5) (by omega) h2.1 h2.2
        have hD : D ≤ 999 := hB.1.2.1
        exact oq_ok (w_L_rehearsed l E (c_X6_rehearsed l E h1 h2 h3)) (by rw [day_eq hA hB, cntS_eq hA hB (Nat.le_refl D) (by omega) (show κ < 6 by omega), hB.1.1]) (c_X7_rehearsed l E hB.1 h1 h2 h3) (LI_same hn hL hr hR hS)
      · exact oq_no (kd := 2) (w_L_rehearsed_e2 l E (c_X6_rehearsed_t3 l E h1 h2 h3 hst)) (c_X7_rehearsed_e2 l E h1 h2 h3) (by omega) (by omega) (LI_same hn hL hr hR hS)
    · exact oq_no (kd := 1) (w_L_rehearsed_e1 l E (c_X6_rehearsed_t2 l E h1 h2 hst)) (c_X7_rehearsed_e1 l E (fun w => h2 w.2)) (by omega) (by omega) (LI_same hn hL hr hR hS)
  · exact oq_no (kd := 1) (w_L_rehearsed_e1 l E (c_X6_rehearsed_t1 l E h1 hst)) (c_X7_rehearsed_e1 l E (fun w => h1 w.1)) (by omega) (by omega) (LI_same hn hL hr hR hS)
set_option maxHeartbeats 4000000 in
set_option maxRecDepth 100000 in
theorem op_kind {l : Launch} {E : EV} {d a0 o : Nat} {f1 : Nat → Int64} {wx wm : va_W} {p0 p1 p2 : Int32} (hst : l.stackTraces = false) (hI : LI E d a0 wx wm) : OpQ l E yL_kind cL_kind 6 [(0, 12, 15, 13), (0, 12, 19, 15)] 8 127 [.ref d, .int p0, .int p1, .int p2, .ref o] yX7_kind cX7_kind 4 2 42 [.ref a0, .int p0, .int p1, .int p2] d a0 o f1 wx wm := by
  obtain ⟨v0, v1, t, u, n, L, a, g, f, r, B, G, K, am, th, pl, hs, s, S, b, w, rfl, rfl, rfl, hn, hL, hr, hR, hS⟩ := hI
  have hR2 := hR
  obtain ⟨R, H, C, D, sn, hA, hB, hC⟩ := hR2
  by_cases h1 : 0 ≤ p0 ∧ p0 ≤ 5
  · skip
    by_cases h2 : (1 ≤ p1 ∧ p1 ≤ 5) ∧ (0 ≤ p2 ∧ p2 ≤ 2)
    · skip
      obtain ⟨κ, rfl, κ_a, κ_b⟩ := dig (lo := 0) (hi := 5) (by omega) h1.1 h1.2
      exact oq_ok (w_L_kind l E (c_X6_kind l E h1 h2)) (by rw [tcd_eq (show κ < 6 by omega), tb_eq (show κ < 6 by omega)]; rfl) (c_X7_kind l E h1 h2.1 h2.2) (LI_same hn hL hr hR hS)
    · exact oq_no (kd := 2) (w_L_kind_e2 l E (c_X6_kind_t2 l E h1 h2 hst)) (c_X7_kind_e2 l E h1 h2) (by omega) (by omega) (LI_same hn hL hr hR hS)
  · exact oq_no (kd := 1) (w_L_kind_e1 l E (c_X6_kind_t1 l E h1 hst)) (c_X7_kind_e1 l E h1) (by omega) (by omega) (LI_same hn hL hr hR hS)
set_option maxHeartbeats 4000000 in
set_option maxRecDepth 100000 in
theorem op_sceneOf {l : Launch} {E : EV} {d a0 o : Nat} {f1 : Nat → Int64} {wx wm : va_W} {p0 p1 : Int32} (hst : l.stackTraces = false) (hI : LI E d a0 wx wm) : OpQ l E yL_sceneOf cL_sceneOf 5 [(0, 10, 13, 13), (0, 10, 17, 15)] 8 141 [.ref d, .int p0, .int p1, .ref o] yX7_sceneOf cX7_sceneOf 3 6 144 [.ref a0, .int p0, .int p1] d a0 o f1 wx wm := by
  obtain ⟨v0, v1, t, u, n, L, a, g, f, r, B, G, K, am, th, pl, hs, s, S, b, w, rfl, rfl, rfl, hn, hL, hr, hR, hS⟩ := hI
  have hR2 := hR
  obtain ⟨R, H, C, D, sn, hA, hB, hC⟩ := hR2
  by_cases h1 : 0 ≤ p0 ∧ p0 < g 8
  · skip
    by_cases h2 : 0 ≤ p1 ∧ p1 ≤ 5
    · skip
      obtain ⟨x, rfl, hx, hx10, hg⟩ := sgx hA hB h1
      obtain ⟨w0, rfl, w0_a, w0_b⟩ := dig (lo := 0) (hi := 5) (by omega) h2.1 h2.2
      exact oq_ok (w_L_sceneOf l E (c_X6_sceneOf l E h1 h2)) (scn_eq hA hB hC hx (by omega)) (c_X7_sceneOf l E hB.1 hg h2 hx10 (by omega)) (LI_same hn hL hr hR hS)
    · exact oq_no (kd := 2) (w_L_sceneOf_e2 l E (c_X6_sceneOf_t2 l E h1 h2 hst)) (by obtain ⟨x, rfl, hx, hx10, hg⟩ := sgx hA hB h1; exact c_X7_sceneOf_e2 l E hg h2) (by omega) (by omega) (LI_same hn hL hr hR hS)
  · exact oq_no (kd := 1) (w_L_sceneOf_e1 l E (c_X6_sceneOf_t1 l E h1 hst)) (c_X7_sceneOf_e1 l E (sgn hA hB h1)) (by omega) (by omega) (LI_same hn hL hr hR hS)
set_option maxHeartbeats 4000000 in
set_option maxRecDepth 100000 in
theorem op_count {l : Launch} {E : EV} {d a0 o : Nat} {f1 : Nat → Int64} {wx wm : va_W} {p0 : Int32} (hst : l.stackTraces = false) (hI : LI E d a0 wx wm) : OpQ l E yL_count cL_count 4 [(0, 9, 12, 15)] 8 161 [.ref d, .int p0, .ref o] yX7_count cX7_count 2 7 165 [.ref a0, .int p0] d a0 o f1 wx wm := by
  obtain ⟨v0, v1, t, u, n, L, a, g, f, r, B, G, K, am, th, pl, hs, s, S, b, w, rfl, rfl, rfl, hn, hL, hr, hR, hS⟩ := hI
  have hR2 := hR
  obtain ⟨R, H, C, D, sn, hA, hB, hC⟩ := hR2
  by_cases h1 : 0 ≤ p0 ∧ p0 ≤ 10
  · skip
    obtain ⟨w0, rfl, w0_a, w0_b⟩ := dig (lo := 0) (hi := 10) (by omega) h1.1 h1.2
    exact oq_ok (w_L_count l E (c_X6_count l E h1)) (cnu_eq hA hB hC (by omega) (nI n)) (c_X7_count l E hB.1 h1 (by omega)) (LI_same hn hL hr hR hS)
  · exact oq_no (kd := 1) (w_L_count_e1 l E (c_X6_count_t1 l E h1 hst)) (c_X7_count_e1 l E h1) (by omega) (by omega) (LI_same hn hL hr hR hS)
set_option maxHeartbeats 4000000 in
set_option maxRecDepth 100000 in
theorem op_refusal {l : Launch} {E : EV} {d a0 o : Nat} {f1 : Nat → Int64} {wx wm : va_W} {p0 p1 : Int32} (hst : l.stackTraces = false) (hI : LI E d a0 wx wm) : OpQ l E yL_refusal cL_refusal 5 [(0, 10, 13, 13)] 8 127 [.ref d, .int p0, .int p1, .ref o] yX7_refusal cX7_refusal 3 4 99 [.ref a0, .int p0, .int p1] d a0 o f1 wx wm := by
  obtain ⟨v0, v1, t, u, n, L, a, g, f, r, B, G, K, am, th, pl, hs, s, S, b, w, rfl, rfl, rfl, hn, hL, hr, hR, hS⟩ := hI
  have hR2 := hR
  obtain ⟨R, H, C, D, sn, hA, hB, hC⟩ := hR2
  by_cases h1 : 0 ≤ p0 ∧ p0 < g 8
  · skip
    by_cases h2 : 0 ≤ p1 ∧ p1 ≤ 7
    · skip
      obtain ⟨x, rfl, hx, hx10, hg⟩ := sgx hA hB h1
      obtain ⟨p, rfl, p_a, p_b⟩ := dig (lo := 0) (hi := 7) (by omega) h2.1 h2.2
      exact oq_ok (w_L_refusal l E (c_X6_refusal l E h1 h2)) (rea_eq' hA hB hC hx (by omega)) (c_X7_refusal l E hB.1 hg h2 hx10 (by omega)) (LI_same hn hL hr hR hS)
    · exact oq_no (kd := 1) (w_L_refusal_e1 l E (c_X6_refusal_t2 l E h1 h2 hst)) (c_X7_refusal_e1 l E (fun w => h2 w.2)) (by omega) (by omega) (LI_same hn hL hr hR hS)
  · exact oq_no (kd := 1) (w_L_refusal_e1 l E (c_X6_refusal_t1 l E h1 hst)) (c_X7_refusal_e1 l E (fun w => sgn hA hB h1 w.1)) (by omega) (by omega) (LI_same hn hL hr hR hS)
set_option maxHeartbeats 4000000 in
set_option maxRecDepth 100000 in
theorem op_soonest {l : Launch} {E : EV} {d a0 o : Nat} {f1 : Nat → Int64} {wx wm : va_W} {p0 p1 : Int32} (hst : l.stackTraces = false) (hI : LI E d a0 wx wm) : OpQ l E yL_soonest cL_soonest 5 [(0, 10, 13, 13)] 8 127 [.ref d, .int p0, .int p1, .ref o] yX7_soonest cX7_soonest 3 5 122 [.ref a0, .int p0, .int p1] d a0 o f1 wx wm := by
  obtain ⟨v0, v1, t, u, n, L, a, g, f, r, B, G, K, am, th, pl, hs, s, S, b, w, rfl, rfl, rfl, hn, hL, hr, hR, hS⟩ := hI
  have hR2 := hR
  obtain ⟨R, H, C, D, sn, hA, hB, hC⟩ := hR2
  by_cases h1 : 0 ≤ p0 ∧ p0 < g 8
  · skip
    by_cases h2 : 0 ≤ p1 ∧ p1 ≤ 7
    · skip
      obtain ⟨x, rfl, hx, hx10, hg⟩ := sgx hA hB h1
      obtain ⟨p, rfl, p_a, p_b⟩ := dig (lo := 0) (hi := 7) (by omega) h2.1 h2.2
      exact oq_ok (w_L_soonest l E (c_X6_soonest l E h1 h2)) (fcd_eq (k := 0) hA hB hC hx (by omega) (by omega)) (c_X7_soonest l E hB.1 hg h2 hx10 (by omega)) (LI_same hn hL hr hR hS)
    · exact oq_no (kd := 1) (w_L_soonest_e1 l E (c_X6_soonest_t2 l E h1 h2 hst)) (c_X7_soonest_e1 l E (fun w => h2 w.2)) (by omega) (by omega) (LI_same hn hL hr hR hS)
  · exact oq_no (kd := 1) (w_L_soonest_e1 l E (c_X6_soonest_t1 l E h1 hst)) (c_X7_soonest_e1 l E (fun w => sgn hA hB h1 w.1)) (by omega) (by omega) (LI_same hn hL hr hR hS)
set_option maxHeartbeats 4000000 in
set_option maxRecDepth 100000 in
theorem op_lacking {l : Launch} {E : EV} {d a0 o : Nat} {f1 : Nat → Int64} {wx wm : va_W} {p0 p1 : Int32} (hst : l.stackTraces = false) (hI : LI E d a0 wx wm) : OpQ l E yL_lacking cL_lacking 5 [(0, 10, 13, 13)] 8 127 [.ref d, .int p0, .int p1, .ref o] yX7_lacking cX7_lacking 3 3 76 [.ref a0, .int p0, .int p1] d a0 o f1 wx wm := by
  obtain ⟨v0, v1, t, u, n, L, a, g, f, r, B, G, K, am, th, pl, hs, s, S, b, w, rfl, rfl, rfl, hn, hL, hr, hR, hS⟩ := hI
  have hR2 := hR
  obtain ⟨R, H, C, D, sn, hA, hB, hC⟩ := hR2
  by_cases h1 : 0 ≤ p0 ∧ p0 < g 8
  · skip
    by_cases h2 : 0 ≤ p1 ∧ p1 ≤ 7
    · skip
      obtain ⟨x, rfl, hx, hx10, hg⟩ := sgx hA hB h1
      obtain ⟨p, rfl, p_a, p_b⟩ := dig (lo := 0) (hi := 7) (by omega) h2.1 h2.2
      exact oq_ok (w_L_lacking l E (c_X6_lacking l E h1 h2)) (lac_eq hA hB hx) (c_X7_lacking l E hB.1 hg h2 hx10) (LI_same hn hL hr hR hS)
    · exact oq_no (kd := 1) (w_L_lacking_e1 l E (c_X6_lacking_t2 l E h1 h2 hst)) (c_X7_lacking_e1 l E (fun w => h2 w.2)) (by omega) (by omega) (LI_same hn hL hr hR hS)
  · exact oq_no (kd := 1) (w_L_lacking_e1 l E (c_X6_lacking_t1 l E h1 hst)) (c_X7_lacking_e1 l E (fun w => sgn hA hB h1 w.1)) (by omega) (by omega) (LI_same hn hL hr hR hS)
set_option maxHeartbeats 4000000 in
set_option maxRecDepth 100000 in
theorem op_best {l : Launch} {E : EV} {d a0 o : Nat} {f1 : Nat → Int64} {wx wm : va_W} {p0 : Int32} (hst : l.stackTraces = false) (hI : LI E d a0 wx wm) : OpQ l E yL_best cL_best 4 [(0, 9, 12, 13)] 8 141 [.ref d, .int p0, .ref o] yX7_best cX7_best 2 5 124 [.ref a0, .int p0] d a0 o f1 wx wm := by
  obtain ⟨v0, v1, t, u, n, L, a, g, f, r, B, G, K, am, th, pl, hs, s, S, b, w, rfl, rfl, rfl, hn, hL, hr, hR, hS⟩ := hI
  have hR2 := hR
  obtain ⟨R, H, C, D, sn, hA, hB, hC⟩ := hR2
  by_cases h1 : 0 ≤ p0 ∧ p0 < g 8
  · skip
    obtain ⟨x, rfl, hx, hx10, hg⟩ := sgx hA hB h1
    exact oq_ok (w_L_best l E (c_X6_best l E h1)) (bst_eq hA hB hx) (c_X7_best l E hB.1 hg hx10) (LI_same hn hL hr hR hS)
  · exact oq_no (kd := 1) (w_L_best_e1 l E (c_X6_best_t1 l E h1 hst)) (c_X7_best_e1 l E (sgn hA hB h1)) (by omega) (by omega) (LI_same hn hL hr hR hS)
set_option maxHeartbeats 4000000 in
set_option maxRecDepth 100000 in
theorem op_cost {l : Launch} {E : EV} {d a0 o : Nat} {f1 : Nat → Int64} {wx wm : va_W} {p0 p1 : Int32} (hst : l.stackTraces = false) (hI : LI E d a0 wx wm) : OpQ l E yL_cost cL_cost 5 [(0, 10, 13, 15)] 8 126 [.ref d, .int p0, .int p1, .ref o] yX7_cost cX7_cost 3 1 23 [.ref a0, .int p0, .int p1] d a0 o f1 wx wm := by
  obtain ⟨v0, v1, t, u, n, L, a, g, f, r, B, G, K, am, th, pl, hs, s, S, b, w, rfl, rfl, rfl, hn, hL, hr, hR, hS⟩ := hI
  have hR2 := hR
  obtain ⟨R, H, C, D, sn, hA, hB, hC⟩ := hR2
  by_cases h1 : (1 ≤ p0 ∧ p0 ≤ 5) ∧ (1 ≤ p1 ∧ p1 ≤ 60)
  · skip
    exact oq_ok (w_L_cost l E (c_X6_cost l E h1)) (cos_eq hA p0 p1) (c_X7_cost l E h1.1 h1.2) (LI_same hn hL hr hR hS)
  · exact oq_no (kd := 1) (w_L_cost_e1 l E (c_X6_cost_t1 l E h1 hst)) (c_X7_cost_e1 l E h1) (by omega) (by omega) (LI_same hn hL hr hR hS)
set_option maxHeartbeats 4000000 in
set_option maxRecDepth 100000 in
theorem op_ifHurt {l : Launch} {E : EV} {d a0 o : Nat} {f1 : Nat → Int64} {wx wm : va_W} {p0 p1 : Int32} (hst : l.stackTraces = false) (hI : LI E d a0 wx wm) : OpQ l E yL_ifHurt cL_ifHurt 5 [(0, 10, 13, 13), (0, 10, 17, 15)] 8 143 [.ref d, .int p0, .int p1, .ref o] yX7_ifHurt cX7_ifHurt 3 6 147 [.ref a0, .int p0, .int p1] d a0 o f1 wx wm := by
  obtain ⟨v0, v1, t, u, n, L, a, g, f, r, B, G, K, am, th, pl, hs, s, S, b, w, rfl, rfl, rfl, hn, hL, hr, hR, hS⟩ := hI
  have hR2 := hR
  obtain ⟨R, H, C, D, sn, hA, hB, hC⟩ := hR2
  by_cases h1 : 0 ≤ p0 ∧ p0 ≤ 7
  · skip
    by_cases h2 : (1 ≤ p1 ∧ p1 ≤ 32) ∧ p1 &&& (p1 - 1) = 0
    · skip
      exact oq_ok (w_L_ifHurt l E (c_X6_ifHurt l E h1 h2)) (by rw [hA.cC hB]; exact sto_eq hA hB hC (Nat.le_refl C)) (c_X7_ifHurt l E hB.1 h1 (prt_iff.mp h2)) (LI_same hn hL hr hR hS)
    · exact oq_no (kd := 2) (w_L_ifHurt_e2 l E (c_X6_ifHurt_t2 l E h1 h2 hst)) (c_X7_ifHurt_e2 l E h1 (fun w => h2 (prt_iff.mpr w))) (by omega) (by omega) (LI_same hn hL hr hR hS)
  · exact oq_no (kd := 1) (w_L_ifHurt_e1 l E (c_X6_ifHurt_t1 l E h1 hst)) (c_X7_ifHurt_e1 l E h1) (by omega) (by omega) (LI_same hn hL hr hR hS)
