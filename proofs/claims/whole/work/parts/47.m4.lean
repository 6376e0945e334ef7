set_option maxHeartbeats 4000000 in
set_option maxRecDepth 100000 in
theorem c_X7_share (l : Launch) (E : EV) {a : Nat → Nat} {th sm ln pl : Int32} {hs : Int64} {s S b w : Nat → Int32} {R H C D : Nat} {sn : Nat → Nat} (hM : MI s R H C D sn) (hnn : s 4 = nI 0 ∨ vf_n64 (FP.ddiv (FP.i2d (shM s C)) (FP.i2d (s 4)))) : Rd l E yX7_share cX7_share 1 (some .double) 2 44 [.ref (a 0)] (mdW E a th sm ln pl hs s S b w) (some (.double (srM s C))) := by
  refine Rd.mk0 (by decide) (Nat.le_of_ble_eq_true rfl) ?_
  intro pP eE sS mM aA bB mt cC F hr hk hE ls hl
  have hl : lv_has ls 1 [(0, .ref (a 0))] := hl
  have hM1 := hM
  obtain ⟨hD0, hD, hkR, hR, hh, hH, hs4, hC, hsn⟩ := hM1
  refine V.aload_n F dX7_share_0 rfl (lv_at hl 0 rfl) ?_
  refine V.getf F hE gX7_7 0 rfl rfl dX7_share_1 ?_
  refine V.iconst (v := nI 4) F dX7_share_4 (by decide) ?_
  refine V.iadn (i := 4) F hE 1 rfl (by omega) (by omega) dX7_share_5 (fun z1 e1 => ?_)
  refine V.if_ne (tgt := 13) F dX7_share_6 (by decide) (fun c2 => ?_) (fun c2 => ?_)
  · skip
    rw [← nI_0] at c2
    refine V.aload_n F dX7_share_13 rfl (lv_at hl 0 rfl) ?_
    refine V.rdV (q0 := 0) F hE (c_X7_shotScenes l E hM) (kX7_165 F.2.2.2.2 ⟨Nat.le_of_ble_eq_true rfl, Nat.le_of_ble_eq_true rfl⟩) rfl rfl [0, 1, 2, 3, 4] rfl rfl hl.1 (Nat.le_of_ble_eq_true rfl) dX7_share_14 rfl ?_
    refine V.topi (fun z3 e3 => ?_)
    refine V.i2d F dX7_share_17 (fun z4 e4 => ?_)
    refine V.aload_n F dX7_share_18 rfl (lv_at hl 0 rfl) ?_
    refine V.getf F hE gX7_7 0 rfl rfl dX7_share_19 ?_
    refine V.iconst (v := nI 4) F dX7_share_22 (by decide) ?_
    refine V.iadn (i := 4) F hE 1 rfl (by omega) (by omega) dX7_share_23 (fun z5 e5 => ?_)
    refine V.i2d F dX7_share_24 (fun z6 e6 => ?_)
    refine V.ddiv F dX7_share_25 (by subst e1 e3 e4 e5 e6; exact hnn.resolve_left (by assumption)) (fun z7 e7 => ?_)
    exact V.dretR F hr hk dX7_share_26 (by subst e1 e3 e4 e5 e6 e7; first | with_reducible rfl | (simp only [srM, c2, oi1n, nI_add, pk_mul, bI, and_true, true_and, and_false, false_and, and_self, or_true, true_or, or_false, false_or, or_self, not_true_eq_false, not_false_eq_true, if_true, if_false, ↓reduceIte] <;> rfl) | rfl | (simp [srM, c2, bI, oi1, nI_succ]; done))
  · skip
    rw [← nI_0] at c2
    refine V.dconst1 F dX7_share_9 ?_
    refine V.goto (tgt := 26) F dX7_share_10 (by decide) ?_
    exact V.dretR F hr hk dX7_share_26 (by subst e1; first | with_reducible rfl | (simp only [srM, eq_true c2, oi1n, nI_add, pk_mul, bI, and_true, true_and, and_false, false_and, and_self, or_true, true_or, or_false, false_or, or_self, not_true_eq_false, not_false_eq_true, if_true, if_false, ↓reduceIte] <;> rfl) | rfl | (simp [srM, eq_true c2, bI, oi1, nI_succ]; done))
set_option maxHeartbeats 4000000 in
set_option maxRecDepth 100000 in
theorem c_X7_mix (l : Launch) (E : EV) {a : Nat → Nat} {th sm ln pl : Int32} {hs : Int64} {s S b w : Nat → Int32} {v : Int64} : Wr l E yX7_mix cX7_mix 3 none 0 0 [.ref (a 0), .long v] (mdW E a th sm ln pl hs s S b w) (mdW E a th sm ln pl (31 * hs + v) s S b w) none := by
  refine Wr.mk0 (by decide) (Nat.le_of_ble_eq_true rfl) ?_
  intro pP eE sS mM aA bB mt cC F hr hk hE hN ls hl
  have hl : lv_has ls 3 [(0, .ref (a 0)), (1, .long v)] := hl
  refine V.aload_n F dX7_mix_0 rfl (lv_at hl 0 rfl) ?_
  refine V.ldc2 F lX7_190 dX7_mix_1 ?_
  refine V.aload_n F dX7_mix_4 rfl (lv_at hl 0 rfl) ?_
  refine V.getf F hE gX7_192 0 rfl rfl dX7_mix_5 (V.topl fun z2 e2 => ?_)
  refine V.lmul F dX7_mix_8 (fun z3 e3 => ?_)
  refine V.lload_n F dX7_mix_9 rfl (lv_at hl 1 rfl) ?_
  refine V.ladd F dX7_mix_10 (fun z4 e4 => ?_)
  refine V.putf F hE hN (by rfl) pX7_192 rfl rfl 0 rfl (by exact Nat.le_of_ble_eq_true rfl) dX7_mix_11 rfl ?_
  exact V.vretW F hr hk dX7_mix_14 (by subst e2 e3 e4; first | with_reducible rfl | (simp only [oi1n, nI_add, pk_mul, bI, and_true, true_and, and_false, false_and, and_self, or_true, true_or, or_false, false_or, or_self, not_true_eq_false, not_false_eq_true, if_true, if_false, ↓reduceIte] <;> rfl) | rfl | (simp [bI, oi1, nI_succ]; done))
