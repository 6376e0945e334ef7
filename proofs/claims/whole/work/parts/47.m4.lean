set_option maxHeartbeats 4000000 in
set_option maxRecDepth 100000 in
theorem c_X7_share (l : Launch) (E : EV) {a : Nat → Nat} {th sm ln pl : Int32} {hs : Int64} {s S b w : Nat → Int32} {R H C D : Nat} {sn : Nat → Nat} (hM : MI s R H C D sn) (hnn : s 4 = nI 0 ∨ vf_n64 (FP.ddiv (FP.i2d (shM s C)) (FP.i2d (s 4)))) : Rd l E yX7_share cX7_share 1 (some .double) 2 44 [.ref (a 0)] (mdW E a th sm ln pl hs s S b w) (some (.double (srM s C))) := by
  refine Rd.mk0 (by decide) (Nat.le_of_ble_eq_true rfl) ?_
  intro pP eE sS mM aA bB mt cC F hr hk hE ls hl
  have hl : lv_has ls 1 [(0, .ref (a 0))] := hl
  have hM1 := hM
  obtain ⟨hD0, hD, hkR, hR, hh, hH, hs4, hC, hsn⟩ := hM1
  refine V.aload_n F dX7_share_0 rfl (lv_at hl 0 rfl) ?_
  refine V.getf F hE gX7_7 0 rfl rfl dX7_share_1 ?_
  refine V.iconst (v := nI 4) F dX7_share_4 (by decide) ?_
  refine V.iadn (i := 4) F hE 1 rfl (by omega) (by omega) dX7_share_5 (fun z1 e1 => ?_)
  refine V.if_ne (tgt := 13) F dX7_share_6 (by decide) (fun c2 => ?_) (fun c2 => ?_)
  · skip
    rw [← nI_0] at c2
    refine V.aload_n F dX7_share_13 rfl (lv_at hl 0 rfl) ?_
    refine V.rdV (q0 := 0) F hE (c_X7_shotScenes l E hM) (kX7_165 F.2.2.2.2 ⟨Nat.le_of_ble_eq_true rfl, Nat.le_of_ble_eq_true rfl⟩) rfl rfl [0, 1, 2, 3, 4] rfl rfl hl.1 (Nat.le_of_ble_eq_true rfl) dX7_share_14 rfl ?_
    refine V.topi (fun z3 e3 => ?_)
    refine V.i2d F dX7_share_17 (fun z4 e4 => ?_)
    refine V.aload_n F dX7_share_18 rfl (lv_at hl 0 rfl) ?_
    refine V.getf F hE gX7_7 0 rfl rfl dX7_share_19 ?_
    refine V.iconst (v := nI 4) F dX7_share_22 (by decide) ?_
    refine V.iadn (i := 4) F hE 1 rfl (by omega) (by omega) dX7_share_23 (fun z5 e5 => ?_)
    refine V.i2d F dX7_share_24 (fun z6 e6 => ?_)
    refine V.ddiv F dX7_share_25 (by subst e1 e3 e4 e5 e6; exact hnn.resolve_left (by assumption)) (fun z7 e7 => ?_)
    exact V.dretR F hr hk dX7_share_26 (by subst e1 e3 e4 e5 e6 e7; first | with_reducible rfl | (simp only [srM, c2, oi1n, nI_add, pk_mul, bI, and_true, true_and, and_false, false_and, and_self, or_true, true_or, or_false, false_or, or_self, not_true_eq_false, not_false_eq_true, if_true, if_false, ↓reduceIte] <;> rfl) | rfl | (simp [srM, c2, bI, oi1, nI_succ]; done))
  · skip
    rw [← nI_0] at c2
    refine V.dconst1 F dX7_share_9 ?_
    refine V.goto (tgt := 26) F dX7_share_10 (by decide) ?_
    exact V.dretR F hr hk dX7_share_26 (by subst e1; first | with_reducible rfl | (simp only [srM, eq_true c2, oi1n, nI_add, pk_mul, bI, and_true, true_and, and_false, false_and, and_self, or_true, true_or, or_false, false_or, or_self, not_true_eq_false, not_false_eq_true, if_true, if_false, ↓reduceIte] <;> rfl) | rfl | (simp [srM, eq_true c2, bI, oi1, nI_succ]; done))
set_option maxHeartbeats 4000000 in
set_option maxRecDepth 100000 in
theorem c_X7_mix (l : Launch) (E : EV) {a : Nat → Nat} {th sm ln pl : Int32} {hs : Int64} {s S b w : Nat → Int32} {v : Int64} : Wr l E yX7_mix cX7_mix 3 none 0 0 [.ref (a 0), .long v] (mdW E a th sm ln pl hs s S b w) (mdW E a th sm ln pl (31 * hs + v) s S b w) none := by
  refine Wr.mk0 (by decide) (Nat.le_of_ble_eq_true rfl) ?_
  intro pP eE sS mM aA bB mt cC F hr hk hE hN ls hl
  have hl : lv_has ls 3 [(0, .ref (a 0)), (1, .long v)] := hl
  refine V.aload_n F dX7_mix_0 rfl (lv_at hl 0 rfl) ?_
  refine V.ldc2 F lX7_190 dX7_mix_1 ?_
  refine V.aload_n F dX7_mix_4 rfl (lv_at hl 0 rfl) ?_
  refine V.getf F hE gX7_192 0 rfl rfl dX7_mix_5 (V.topl fun z2 e2 => ?_)
  refine V.lmul F dX7_mix_8 (fun z3 e3 => ?_)
  refine V.lload_n F dX7_mix_9 rfl (lv_at hl 1 rfl) ?_
  refine V.ladd F dX7_mix_10 (fun z4 e4 => ?_)
  refine V.putf F hE hN (by rfl) pX7_192 rfl rfl 0 rfl (by exact Nat.le_of_ble_eq_true rfl) dX7_mix_11 rfl ?_
  exact V.vretW F hr hk dX7_mix_14 (by subst e2 e3 e4; first | with_reducible rfl | (simp only [oi1n, nI_add, pk_mul, bI, and_true, true_and, and_false, false_and, and_self, or_true, true_or, or_false, false_or, or_self, not_true_eq_false, not_false_eq_true, if_true, if_false, ↓reduceIte] <;> rfl) | rfl | (simp [bI, oi1, nI_succ]; done))
set_option maxHeartbeats 4000000 in
set_option maxRecDepth 100000 in
theorem c_X7_mixPerson (l : Launch) (E : EV) {a : Nat → Nat} {th sm ln pl : Int32} {hs : Int64} {s S b w : Nat → Int32} {R H C D : Nat} {sn : Nat → Nat} {p : Nat} (hM : MI s R H C D sn) (hp0 : p < 8) : Wr l E yX7_mixPerson cX7_mixPerson 3 none 6 147 [.ref (a 0), .int (nI p)] (mdW E a th sm ln pl hs s S b w) (mdW E a th sm ln pl (mqC s R H C sn p hs) s S b w) none := by
  refine Wr.mk0 (by decide) (Nat.le_of_ble_eq_true rfl) ?_
  intro pP eE sS mM aA bB mt cC F hr hk hE hN ls hl
  have hl : lv_has ls 3 [(0, .ref (a 0)), (1, .int (nI p))] := hl
  have hM1 := hM
  obtain ⟨hD0, hD, hkR, hR, hh, hH, hs4, hC, hsn⟩ := hM1
  refine V.iconst (v := nI 0) F dX7_mixPerson_0 (by decide) ?_
  refine V.istore_n (lv' := [(2, .int (nI 0)), (0, .ref (a 0)), (1, .int (nI p))]) F dX7_mixPerson_1 rfl hl (by decide) rfl (fun ls hl => ?_)
  have h2 : nI 0 = nI 0 := (by first | with_reducible rfl | (simp only [oi1n, nI_add]; done) | (rw [mqC]; done) | (rw [mqB]; done) | (rw [mqA]; done))
  refine V.weq (ws' := mdW E a th sm ln pl (mqA s H p hs 0) s S b w) (by first | with_reducible rfl | (simp only [oi1n, nI_add]; done) | (rw [mqC]; done) | (rw [mqB]; done) | (rw [mqA]; done)) ?_
  refine V.loopW (Wd := fun j1 : Nat => mdW E a th sm ln pl (mqA s H p hs j1) s S b w) (N := 7) (k0 := 0) (I := (fun j1 : Nat => [(2, .int (nI j1)), (0, .ref (a 0)), (1, .int (nI p))])) (J := fun _ => True) (Nat.zero_le _) trivial (lv_sub hl [0, 1, 2] (by rw [h2]; rfl)) ?_
  intro j1 j1_N j1_J ihj1 ls hl
  have hl : lv_has ls 3 [(2, .int (nI j1)), (0, .ref (a 0)), (1, .int (nI p))] := hl
  try dsimp only at j1_J ihj1 ⊢
  refine V.iload_n F dX7_mixPerson_2 rfl (lv_at hl 0 rfl) ?_
  refine V.bipush (v := nI 7) F dX7_mixPerson_3 (by decide) ?_
  refine V.icmp_ge (tgt := 25) F dX7_mixPerson_5 (by decide) (fun c3 c3' => ?_) (fun c3 c3' => ?_)
  · skip
    have j1_eq := ((lpL rfl (by omega) j1_N).1 c3).symm
    subst j1_eq
    refine V.iconst (v := nI 0) F dX7_mixPerson_25 (by decide) ?_
    refine V.istore_n (lv' := [(2, .int (nI 0)), (0, .ref (a 0)), (1, .int (nI p))]) F dX7_mixPerson_26 rfl hl (by decide) rfl (fun ls hl => ?_)
    have h5 : nI 0 = nI 0 := (by first | with_reducible rfl | (simp only [oi1n, nI_add]; done) | (rw [mqC]; done) | (rw [mqB]; done) | (rw [mqA]; done))
    refine V.weq (ws' := mdW E a th sm ln pl (mqB s R p (mqA s H p hs 7) 0) s S b w) (by first | with_reducible rfl | (simp only [oi1n, nI_add]; done) | (rw [mqC]; done) | (rw [mqB]; done) | (rw [mqA]; done)) ?_
    refine V.loopW (Wd := fun i4 : Nat => mdW E a th sm ln pl (mqB s R p (mqA s H p hs 7) i4) s S b w) (N := 6) (k0 := 0) (I := (fun i4 : Nat => [(2, .int (nI i4)), (0, .ref (a 0)), (1, .int (nI p))])) (J := fun _ => True) (Nat.zero_le _) trivial (lv_sub hl [0, 1, 2] (by rw [h5]; rfl)) ?_
    intro i4 i4_N i4_J ihi4 ls hl
    have hl : lv_has ls 3 [(2, .int (nI i4)), (0, .ref (a 0)), (1, .int (nI p))] := hl
    try dsimp only at i4_J ihi4 ⊢
    refine V.iload_n F dX7_mixPerson_27 rfl (lv_at hl 0 rfl) ?_
    refine V.bipush (v := nI 6) F dX7_mixPerson_28 (by decide) ?_
    refine V.icmp_ge (tgt := 57) F dX7_mixPerson_30 (by decide) (fun c6 c6' => ?_) (fun c6 c6' => ?_)
    · skip
      have i4_eq := ((lpL rfl (by omega) i4_N).1 c6).symm
      subst i4_eq
      refine V.aload_n F dX7_mixPerson_57 rfl (lv_at hl 1 rfl) ?_
      refine V.aload_n F dX7_mixPerson_58 rfl (lv_at hl 1 rfl) ?_
      refine V.iload_n F dX7_mixPerson_59 rfl (lv_at hl 2 rfl) ?_
      refine V.bipush (v := nI 16) F dX7_mixPerson_60 (by decide) ?_
      refine V.rdV (q0 := 0) F hE (c_X7_stoppedBy l E hM) (kX7_183 F.2.2.2.2 ⟨Nat.le_of_ble_eq_true rfl, Nat.le_of_ble_eq_true rfl⟩) rfl rfl [0, 1, 2, 3, 4] rfl rfl hl.1 (Nat.le_of_ble_eq_true rfl) dX7_mixPerson_62 rfl ?_
      refine V.topi (fun z7 e7 => ?_)
      refine V.i2l F dX7_mixPerson_65 (fun z8 e8 => ?_)
      refine V.wsVn (q0 := 0) (ws' := mdW E a th sm ln pl (31 * (mqB s R p (mqA s H p hs 7) 6) + z8) s S b w) F hE hN (pm_eq (by rfl)) (c_X7_mix l E) (kX7_196 F.2.2.2.2 ⟨Nat.le_of_ble_eq_true rfl, Nat.le_of_ble_eq_true rfl⟩) rfl rfl 0 5 (by rfl) (by rfl) rfl hl.1 (Nat.le_of_ble_eq_true rfl) dX7_mixPerson_66 rfl ?_
      exact V.vretW F hr hk dX7_mixPerson_69 (by subst e7 e8; first | with_reducible rfl | (simp only [oi1n, nI_add]; done) | (rw [mqC]; done) | (rw [mqB]; done) | (rw [mqA]; done))
    · skip
      have i4_lt := (lpL rfl (by omega) i4_N).2 c6
      refine V.aload_n F dX7_mixPerson_33 rfl (lv_at hl 1 rfl) ?_
      refine V.aload_n F dX7_mixPerson_34 rfl (lv_at hl 1 rfl) ?_
      refine V.iload_n F dX7_mixPerson_35 rfl (lv_at hl 2 rfl) ?_
      refine V.iload_n F dX7_mixPerson_36 rfl (lv_at hl 0 rfl) ?_
      refine V.iconst (v := nI 2) F dX7_mixPerson_37 (by decide) ?_
      refine V.aload_n F dX7_mixPerson_38 rfl (lv_at hl 1 rfl) ?_
      refine V.getf F hE gX7_7 0 rfl rfl dX7_mixPerson_39 ?_
      refine V.iconst (v := nI 0) F dX7_mixPerson_42 (by decide) ?_
      refine V.iadn (i := 0) F hE 1 rfl (by omega) (by omega) dX7_mixPerson_43 (fun z9 e9 => ?_)
      refine V.rdV (q0 := 0) F hE (c_X7_counting l E hM) (kX7_69 F.2.2.2.2 ⟨Nat.le_of_ble_eq_true rfl, Nat.le_of_ble_eq_true rfl⟩) rfl rfl [0, 1, 2, 3, 4] rfl rfl hl.1 (Nat.le_of_ble_eq_true rfl) dX7_mixPerson_44 rfl ?_
      refine V.topi (fun z10 e10 => ?_)
      refine V.i2l F dX7_mixPerson_47 (fun z11 e11 => ?_)
      refine V.wsVn (q0 := 0) (ws' := mdW E a th sm ln pl (31 * (mqB s R p (mqA s H p hs 7) i4) + z11) s S b w) F hE hN (pm_eq (by rfl)) (c_X7_mix l E) (kX7_196 F.2.2.2.2 ⟨Nat.le_of_ble_eq_true rfl, Nat.le_of_ble_eq_true rfl⟩) rfl rfl 0 5 (by rfl) (by rfl) rfl hl.1 (Nat.le_of_ble_eq_true rfl) dX7_mixPerson_48 rfl ?_
      refine V.iinc (j := 0) (lv' := fun z12 => [(2, .int z12), (0, .ref (a 0)), (1, .int (nI p))]) F dX7_mixPerson_51 hl rfl (by decide) (fun _ => rfl) (fun z12 e12 ls hl => ?_)
      refine V.goto (tgt := 27) F dX7_mixPerson_54 (by decide) ?_
      have h13 : nI (i4 + 1) = z12 := (by subst e9 e10 e11 e12; first | with_reducible rfl | (simp only [oi1n, nI_add]; done) | (rw [mqC]; done) | (rw [mqB]; done) | (rw [mqA]; done))
      refine V.weq (ws' := mdW E a th sm ln pl (mqB s R p (mqA s H p hs 7) (i4 + 1)) s S b w) (by subst e9 e10 e11 e12; first | with_reducible rfl | (simp only [oi1n, nI_add]; done) | (rw [mqC]; done) | (rw [mqB]; done) | (rw [mqA]; done)) ?_
      exact ihi4 i4_lt trivial _ (lv_sub hl [0, 1, 2] (by rw [h13]; rfl))
  · skip
    have j1_lt := (lpL rfl (by omega) j1_N).2 c3
    refine V.aload_n F dX7_mixPerson_8 rfl (lv_at hl 1 rfl) ?_
    refine V.aload_n F dX7_mixPerson_9 rfl (lv_at hl 1 rfl) ?_
    refine V.iload_n F dX7_mixPerson_10 rfl (lv_at hl 2 rfl) ?_
    refine V.iload_n F dX7_mixPerson_11 rfl (lv_at hl 0 rfl) ?_
    refine V.rdV (q0 := 0) F hE (c_X7_tellsPerson l E hM hp0) (kX7_156 F.2.2.2.2 ⟨Nat.le_of_ble_eq_true rfl, Nat.le_of_ble_eq_true rfl⟩) rfl rfl [0, 1, 2, 3, 4] rfl rfl hl.1 (Nat.le_of_ble_eq_true rfl) dX7_mixPerson_12 rfl ?_
    refine V.topi (fun z14 e14 => ?_)
    refine V.i2l F dX7_mixPerson_15 (fun z15 e15 => ?_)
    refine V.wsVn (q0 := 0) (ws' := mdW E a th sm ln pl (31 * (mqA s H p hs j1) + z15) s S b w) F hE hN (pm_eq (by rfl)) (c_X7_mix l E) (kX7_196 F.2.2.2.2 ⟨Nat.le_of_ble_eq_true rfl, Nat.le_of_ble_eq_true rfl⟩) rfl rfl 0 5 (by rfl) (by rfl) rfl hl.1 (Nat.le_of_ble_eq_true rfl) dX7_mixPerson_16 rfl ?_
    refine V.iinc (j := 0) (lv' := fun z16 => [(2, .int z16), (0, .ref (a 0)), (1, .int (nI p))]) F dX7_mixPerson_19 hl rfl (by decide) (fun _ => rfl) (fun z16 e16 ls hl => ?_)
    refine V.goto (tgt := 2) F dX7_mixPerson_22 (by decide) ?_
    have h17 : nI (j1 + 1) = z16 := (by subst e14 e15 e16; first | with_reducible rfl | (simp only [oi1n, nI_add]; done) | (rw [mqC]; done) | (rw [mqB]; done) | (rw [mqA]; done))
    refine V.weq (ws' := mdW E a th sm ln pl (mqA s H p hs (j1 + 1)) s S b w) (by subst e14 e15 e16; first | with_reducible rfl | (simp only [oi1n, nI_add]; done) | (rw [mqC]; done) | (rw [mqB]; done) | (rw [mqA]; done)) ?_
    exact ihj1 j1_lt trivial _ (lv_sub hl [0, 1, 2] (by rw [h17]; rfl))
set_option maxHeartbeats 4000000 in
set_option maxRecDepth 100000 in
theorem c_X7_mixScene (l : Launch) (E : EV) {a : Nat → Nat} {th sm ln pl : Int32} {hs : Int64} {s S b w : Nat → Int32} {R H C D : Nat} {sn : Nat → Nat} {x : Nat} (hM : MI s R H C D sn) (hx0 : x < 10) : Wr l E yX7_mixScene cX7_mixScene 3 none 6 144 [.ref (a 0), .int (nI x)] (mdW E a th sm ln pl hs s S b w) (mdW E a th sm ln pl (mrC s R H D sn x hs) s S b w) none := by
  refine Wr.mk0 (by decide) (Nat.le_of_ble_eq_true rfl) ?_
  intro pP eE sS mM aA bB mt cC F hr hk hE hN ls hl
  have hl : lv_has ls 3 [(0, .ref (a 0)), (1, .int (nI x))] := hl
  have hM1 := hM
  obtain ⟨hD0, hD, hkR, hR, hh, hH, hs4, hC, hsn⟩ := hM1
  refine V.iconst (v := nI 0) F dX7_mixScene_0 (by decide) ?_
  refine V.istore_n (lv' := [(2, .int (nI 0)), (0, .ref (a 0)), (1, .int (nI x))]) F dX7_mixScene_1 rfl hl (by decide) rfl (fun ls hl => ?_)
  have h2 : nI 0 = nI 0 := (by first | with_reducible rfl | (simp only [oi1n, nI_add]; done) | (rw [mrC]; done) | (rw [mrB]; done) | (rw [mrA]; done))
  refine V.weq (ws' := mdW E a th sm ln pl (mrA s R H sn x hs 0) s S b w) (by first | with_reducible rfl | (simp only [oi1n, nI_add]; done) | (rw [mrC]; done) | (rw [mrB]; done) | (rw [mrA]; done)) ?_
  refine V.loopW (Wd := fun j1 : Nat => mdW E a th sm ln pl (mrA s R H sn x hs j1) s S b w) (N := 6) (k0 := 0) (I := (fun j1 : Nat => [(2, .int (nI j1)), (0, .ref (a 0)), (1, .int (nI x))])) (J := fun _ => True) (Nat.zero_le _) trivial (lv_sub hl [0, 1, 2] (by rw [h2]; rfl)) ?_
  intro j1 j1_N j1_J ihj1 ls hl
  have hl : lv_has ls 3 [(2, .int (nI j1)), (0, .ref (a 0)), (1, .int (nI x))] := hl
  try dsimp only at j1_J ihj1 ⊢
  refine V.iload_n F dX7_mixScene_2 rfl (lv_at hl 0 rfl) ?_
  refine V.bipush (v := nI 6) F dX7_mixScene_3 (by decide) ?_
  refine V.icmp_ge (tgt := 25) F dX7_mixScene_5 (by decide) (fun c3 c3' => ?_) (fun c3 c3' => ?_)
  · skip
    have j1_eq := ((lpL rfl (by omega) j1_N).1 c3).symm
    subst j1_eq
    refine V.aload_n F dX7_mixScene_25 rfl (lv_at hl 1 rfl) ?_
    refine V.aload_n F dX7_mixScene_26 rfl (lv_at hl 1 rfl) ?_
    refine V.iload_n F dX7_mixScene_27 rfl (lv_at hl 2 rfl) ?_
    refine V.rdV (q0 := 0) F hE (c_X7_bestFor l E hM hx0) (kX7_180 F.2.2.2.2 ⟨Nat.le_of_ble_eq_true rfl, Nat.le_of_ble_eq_true rfl⟩) rfl rfl [0, 1, 2, 3, 4] rfl rfl hl.1 (Nat.le_of_ble_eq_true rfl) dX7_mixScene_28 rfl ?_
    refine V.topi (fun z4 e4 => ?_)
    refine V.i2l F dX7_mixScene_31 (fun z5 e5 => ?_)
    refine V.wsVn (q0 := 0) (ws' := mdW E a th sm ln pl (31 * (mrA s R H sn x hs 6) + z5) s S b w) F hE hN (pm_eq (by rfl)) (c_X7_mix l E) (kX7_196 F.2.2.2.2 ⟨Nat.le_of_ble_eq_true rfl, Nat.le_of_ble_eq_true rfl⟩) rfl rfl 0 5 (by rfl) (by rfl) rfl hl.1 (Nat.le_of_ble_eq_true rfl) dX7_mixScene_32 rfl ?_
    refine V.iconst (v := nI 0) F dX7_mixScene_35 (by decide) ?_
    refine V.istore_n (lv' := [(2, .int (nI 0)), (0, .ref (a 0)), (1, .int (nI x))]) F dX7_mixScene_36 rfl hl (by decide) rfl (fun ls hl => ?_)
    have h7 : nI 0 = nI 0 := (by subst e4 e5; first | with_reducible rfl | (simp only [oi1n, nI_add]; done) | (rw [mrC]; done) | (rw [mrB]; done) | (rw [mrA]; done))
    refine V.weq (ws' := mdW E a th sm ln pl (mrB s R H D sn x (31 * mrA s R H sn x hs 6 + (bsM s R H sn x).toInt64) 0) s S b w) (by subst e4 e5; first | with_reducible rfl | (simp only [oi1n, nI_add]; done) | (rw [mrC]; done) | (rw [mrB]; done) | (rw [mrA]; done)) ?_
    refine V.loopW (Wd := fun i6 : Nat => mdW E a th sm ln pl (mrB s R H D sn x (31 * mrA s R H sn x hs 6 + (bsM s R H sn x).toInt64) i6) s S b w) (N := 8) (k0 := 0) (I := (fun i6 : Nat => [(2, .int (nI i6)), (0, .ref (a 0)), (1, .int (nI x))])) (J := fun _ => True) (Nat.zero_le _) trivial (lv_sub hl [0, 1, 2] (by rw [h7]; rfl)) ?_
    intro i6 i6_N i6_J ihi6 ls hl
    have hl : lv_has ls 3 [(2, .int (nI i6)), (0, .ref (a 0)), (1, .int (nI x))] := hl
    try dsimp only at i6_J ihi6 ⊢
    refine V.iload_n F dX7_mixScene_37 rfl (lv_at hl 0 rfl) ?_
    refine V.bipush (v := nI 8) F dX7_mixScene_38 (by decide) ?_
    refine V.icmp_ge (tgt := 94) F dX7_mixScene_40 (by decide) (fun c8 c8' => ?_) (fun c8 c8' => ?_)
    · skip
      have i6_eq := ((lpL rfl (by omega) i6_N).1 c8).symm
      subst i6_eq
      exact V.vretW F hr hk dX7_mixScene_94 (by subst e4 e5; first | with_reducible rfl | (simp only [oi1n, nI_add]; done) | (rw [mrC]; done) | (rw [mrB]; done) | (rw [mrA]; done))
    · skip
      have i6_lt := (lpL rfl (by omega) i6_N).2 c8
      refine V.aload_n F dX7_mixScene_43 rfl (lv_at hl 1 rfl) ?_
      refine V.aload_n F dX7_mixScene_44 rfl (lv_at hl 1 rfl) ?_
      refine V.iload_n F dX7_mixScene_45 rfl (lv_at hl 2 rfl) ?_
      refine V.iload_n F dX7_mixScene_46 rfl (lv_at hl 0 rfl) ?_
      refine V.aload_n F dX7_mixScene_47 rfl (lv_at hl 1 rfl) ?_
      refine V.getf F hE gX7_7 0 rfl rfl dX7_mixScene_48 ?_
      refine V.iconst (v := nI 0) F dX7_mixScene_51 (by decide) ?_
      refine V.iadn (i := 0) F hE 1 rfl (by omega) (by omega) dX7_mixScene_52 (fun z9 e9 => ?_)
      refine V.rdV (q0 := 0) F hE (c_X7_reason l E hM hx0 (by omega)) (kX7_87 F.2.2.2.2 ⟨Nat.le_of_ble_eq_true rfl, Nat.le_of_ble_eq_true rfl⟩) rfl rfl [0, 1, 2, 3, 4] rfl rfl hl.1 (Nat.le_of_ble_eq_true rfl) dX7_mixScene_53 rfl ?_
      refine V.topi (fun z10 e10 => ?_)
      refine V.i2l F dX7_mixScene_56 (fun z11 e11 => ?_)
      refine V.wsVn (q0 := 0) (ws' := mdW E a th sm ln pl (31 * (mrB s R H D sn x (31 * mrA s R H sn x hs 6 + (bsM s R H sn x).toInt64) i6) + z11) s S b w) F hE hN (pm_eq (by rfl)) (c_X7_mix l E) (kX7_196 F.2.2.2.2 ⟨Nat.le_of_ble_eq_true rfl, Nat.le_of_ble_eq_true rfl⟩) rfl rfl 0 5 (by rfl) (by rfl) rfl hl.1 (Nat.le_of_ble_eq_true rfl) dX7_mixScene_57 rfl ?_
      refine V.aload_n F dX7_mixScene_60 rfl (lv_at hl 1 rfl) ?_
      refine V.aload_n F dX7_mixScene_61 rfl (lv_at hl 1 rfl) ?_
      refine V.iload_n F dX7_mixScene_62 rfl (lv_at hl 2 rfl) ?_
      refine V.iload_n F dX7_mixScene_63 rfl (lv_at hl 0 rfl) ?_
      refine V.aload_n F dX7_mixScene_64 rfl (lv_at hl 1 rfl) ?_
      refine V.getf F hE gX7_7 0 rfl rfl dX7_mixScene_65 ?_
      refine V.iconst (v := nI 0) F dX7_mixScene_68 (by decide) ?_
      refine V.iadn (i := 0) F hE 1 rfl (by omega) (by omega) dX7_mixScene_69 (fun z12 e12 => ?_)
      refine V.rdV (q0 := 0) F hE (c_X7_lacks l E hM hx0) (kX7_83 F.2.2.2.2 ⟨Nat.le_of_ble_eq_true rfl, Nat.le_of_ble_eq_true rfl⟩) rfl rfl [0, 1, 2, 3, 4] rfl rfl hl.1 (Nat.le_of_ble_eq_true rfl) dX7_mixScene_70 rfl ?_
      refine V.topi (fun z13 e13 => ?_)
      refine V.i2l F dX7_mixScene_73 (fun z14 e14 => ?_)
      refine V.wsVn (q0 := 0) (ws' := mdW E a th sm ln pl (31 * (31 * (mrB s R H D sn x (31 * mrA s R H sn x hs 6 + (bsM s R H sn x).toInt64) i6) + z11) + z14) s S b w) F hE hN (pm_eq (by rfl)) (c_X7_mix l E) (kX7_196 F.2.2.2.2 ⟨Nat.le_of_ble_eq_true rfl, Nat.le_of_ble_eq_true rfl⟩) rfl rfl 0 5 (by rfl) (by rfl) rfl hl.1 (Nat.le_of_ble_eq_true rfl) dX7_mixScene_74 rfl ?_
      refine V.aload_n F dX7_mixScene_77 rfl (lv_at hl 1 rfl) ?_
      refine V.aload_n F dX7_mixScene_78 rfl (lv_at hl 1 rfl) ?_
      refine V.iload_n F dX7_mixScene_79 rfl (lv_at hl 2 rfl) ?_
      refine V.iload_n F dX7_mixScene_80 rfl (lv_at hl 0 rfl) ?_
      refine V.rdV (q0 := 0) F hE (c_X7_firstDay l E hM hx0 (by omega)) (kX7_174 F.2.2.2.2 ⟨Nat.le_of_ble_eq_true rfl, Nat.le_of_ble_eq_true rfl⟩) rfl rfl [0, 1, 2, 3, 4] rfl rfl hl.1 (Nat.le_of_ble_eq_true rfl) dX7_mixScene_81 rfl ?_
      refine V.topi (fun z15 e15 => ?_)
      refine V.i2l F dX7_mixScene_84 (fun z16 e16 => ?_)
      refine V.wsVn (q0 := 0) (ws' := mdW E a th sm ln pl (31 * (31 * (31 * (mrB s R H D sn x (31 * mrA s R H sn x hs 6 + (bsM s R H sn x).toInt64) i6) + z11) + z14) + z16) s S b w) F hE hN (pm_eq (by rfl)) (c_X7_mix l E) (kX7_196 F.2.2.2.2 ⟨Nat.le_of_ble_eq_true rfl, Nat.le_of_ble_eq_true rfl⟩) rfl rfl 0 5 (by rfl) (by rfl) rfl hl.1 (Nat.le_of_ble_eq_true rfl) dX7_mixScene_85 rfl ?_
      refine V.iinc (j := 0) (lv' := fun z17 => [(2, .int z17), (0, .ref (a 0)), (1, .int (nI x))]) F dX7_mixScene_88 hl rfl (by decide) (fun _ => rfl) (fun z17 e17 ls hl => ?_)
      refine V.goto (tgt := 37) F dX7_mixScene_91 (by decide) ?_
      have h18 : nI (i6 + 1) = z17 := (by subst e4 e5 e9 e10 e11 e12 e13 e14 e15 e16 e17; first | with_reducible rfl | (simp only [oi1n, nI_add]; done) | (rw [mrC]; done) | (rw [mrB]; done) | (rw [mrA]; done))
      refine V.weq (ws' := mdW E a th sm ln pl (mrB s R H D sn x (31 * mrA s R H sn x hs 6 + (bsM s R H sn x).toInt64) (i6 + 1)) s S b w) (by subst e4 e5 e9 e10 e11 e12 e13 e14 e15 e16 e17; first | with_reducible rfl | (simp only [oi1n, nI_add]; done) | (rw [mrC]; done) | (rw [mrB]; done) | (rw [mrA]; done)) ?_
      exact ihi6 i6_lt trivial _ (lv_sub hl [0, 1, 2] (by rw [h18]; rfl))
  · skip
    have j1_lt := (lpL rfl (by omega) j1_N).2 c3
    refine V.aload_n F dX7_mixScene_8 rfl (lv_at hl 1 rfl) ?_
    refine V.aload_n F dX7_mixScene_9 rfl (lv_at hl 1 rfl) ?_
    refine V.iload_n F dX7_mixScene_10 rfl (lv_at hl 2 rfl) ?_
    refine V.iload_n F dX7_mixScene_11 rfl (lv_at hl 0 rfl) ?_
    refine V.rdV (q0 := 0) F hE (c_X7_tellsScene l E hM hx0 (by omega)) (kX7_162 F.2.2.2.2 ⟨Nat.le_of_ble_eq_true rfl, Nat.le_of_ble_eq_true rfl⟩) rfl rfl [0, 1, 2, 3, 4] rfl rfl hl.1 (Nat.le_of_ble_eq_true rfl) dX7_mixScene_12 rfl ?_
    refine V.topi (fun z19 e19 => ?_)
    refine V.i2l F dX7_mixScene_15 (fun z20 e20 => ?_)
    refine V.wsVn (q0 := 0) (ws' := mdW E a th sm ln pl (31 * (mrA s R H sn x hs j1) + z20) s S b w) F hE hN (pm_eq (by rfl)) (c_X7_mix l E) (kX7_196 F.2.2.2.2 ⟨Nat.le_of_ble_eq_true rfl, Nat.le_of_ble_eq_true rfl⟩) rfl rfl 0 5 (by rfl) (by rfl) rfl hl.1 (Nat.le_of_ble_eq_true rfl) dX7_mixScene_16 rfl ?_
    refine V.iinc (j := 0) (lv' := fun z21 => [(2, .int z21), (0, .ref (a 0)), (1, .int (nI x))]) F dX7_mixScene_19 hl rfl (by decide) (fun _ => rfl) (fun z21 e21 ls hl => ?_)
    refine V.goto (tgt := 2) F dX7_mixScene_22 (by decide) ?_
    have h22 : nI (j1 + 1) = z21 := (by subst e19 e20 e21; first | with_reducible rfl | (simp only [oi1n, nI_add]; done) | (rw [mrC]; done) | (rw [mrB]; done) | (rw [mrA]; done))
    refine V.weq (ws' := mdW E a th sm ln pl (mrA s R H sn x hs (j1 + 1)) s S b w) (by subst e19 e20 e21; first | with_reducible rfl | (simp only [oi1n, nI_add]; done) | (rw [mrC]; done) | (rw [mrB]; done) | (rw [mrA]; done)) ?_
    exact ihj1 j1_lt trivial _ (lv_sub hl [0, 1, 2] (by rw [h22]; rfl))
