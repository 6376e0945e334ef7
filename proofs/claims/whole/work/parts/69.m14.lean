set_option maxHeartbeats 4000000 in
set_option maxRecDepth 100000 in
theorem c_X7_person (l : Launch) (E : EV) {a : Nat → Nat} {th sm ln pl : Int32} {hs : Int64} {s S b w : Nat → Int32} {R H C D : Nat} {sn : Nat → Nat} {v : Int32} {p : Nat} (hM : MI s R H C D sn) (h1 : nI 0 ≤ nI p ∧ nI p ≤ nI 7) (h2 : nI 0 ≤ v ∧ v ≤ nI 6) (hp0 : p < 8) : Wr l E yX7_person cX7_person 3 (some .int) 5 115 [.ref (a 0), .int (nI p), .int v] (mdW E a th sm ln pl hs s S b w) (mdW E a (nI 0) sm ln pl hs s S b w) (some (.int (tpM s H p v))) := by
  refine Wr.mk0 (by decide) (Nat.le_of_ble_eq_true rfl) ?_
  intro pP eE sS mM aA bB mt cC F hr hk hE hN ls hl
  have hl : lv_has ls 3 [(0, .ref (a 0)), (1, .int (nI p)), (2, .int v)] := hl
  have hM1 := hM
  obtain ⟨hD0, hD, hkR, hR, hh, hH, hs4, hC, hsn⟩ := hM1
  refine V.aload_n F dX7_person_0 rfl (lv_at hl 0 rfl) ?_
  refine V.iconst (v := nI 0) F dX7_person_1 (by decide) ?_
  refine V.putf (ws' := mdW E a (nI 0) sm ln pl hs s S b w) F hE hN (by rfl) pX7_22 rfl rfl 0 rfl (by exact Nat.le_of_ble_eq_true rfl) dX7_person_2 rfl ?_
  refine V.iload_n F dX7_person_5 rfl (lv_at hl 1 rfl) ?_
  refine V.rdS F hE (c_X7_isPerson l E) (kX7_90 F.2.2.2.2 ⟨Nat.le_of_ble_eq_true rfl, Nat.le_of_ble_eq_true rfl⟩) [] rfl rfl hl.1 (Nat.le_of_ble_eq_true rfl) dX7_person_6 rfl ?_
  refine V.topi (fun z1 e1 => ?_)
  refine V.if_neB (tgt := 18) F e1 dX7_person_9 (by decide) (fun c2 => ?_) (fun c2 => ?_)
  · skip
    refine V.iload_n F dX7_person_18 rfl (lv_at hl 2 rfl) ?_
    refine V.iconst (v := nI 0) F dX7_person_19 (by decide) ?_
    refine V.bipush (v := nI 6) F dX7_person_20 (by decide) ?_
    refine V.rdS F hE (c_X7_within l E) (kX7_26 F.2.2.2.2 ⟨Nat.le_of_ble_eq_true rfl, Nat.le_of_ble_eq_true rfl⟩) [] rfl rfl hl.1 (Nat.le_of_ble_eq_true rfl) dX7_person_22 rfl ?_
    refine V.topi (fun z3 e3 => ?_)
    refine V.if_eqB (tgt := 37) F e3 dX7_person_25 (by decide) (fun c4 => ?_) (fun c4 => ?_)
    · skip
      subst e1 e3; exact absurd h2 c4
    · skip
      refine V.aload_n F dX7_person_28 rfl (lv_at hl 0 rfl) ?_
      refine V.iload_n F dX7_person_29 rfl (lv_at hl 1 rfl) ?_
      refine V.iload_n F dX7_person_30 rfl (lv_at hl 2 rfl) ?_
      refine V.rdV (q0 := 0) F hE (c_X7_tellsPerson l E hM hp0) (kX7_156 F.2.2.2.2 ⟨Nat.le_of_ble_eq_true rfl, Nat.le_of_ble_eq_true rfl⟩) rfl rfl [0, 1, 2, 3, 4] rfl rfl hl.1 (Nat.le_of_ble_eq_true rfl) dX7_person_31 rfl ?_
      refine V.topi (fun z5 e5 => ?_)
      refine V.goto (tgt := 42) F dX7_person_34 (by decide) ?_
      exact V.iretW F hr hk dX7_person_42 (by subst e1 e3 e5; first | with_reducible rfl | (simp only [oi1n, nI_add]; done) | (simp only [eq_true c2, eq_true c4, oi1n, nI_add, pk_mul, if_true, if_false, ↓reduceIte]; done) | (simp only [eq_true c2, eq_true c4, oi1n, nI_add, pk_mul, bI, and_true, true_and, and_false, false_and, and_self, not_true_eq_false, not_false_eq_true, if_true, if_false, ↓reduceIte] <;> rfl)) (by subst e1 e3 e5; first | with_reducible rfl | (simp only [oi1n, nI_add]; done) | (simp only [eq_true c2, eq_true c4, oi1n, nI_add, pk_mul, if_true, if_false, ↓reduceIte]; done) | (simp only [eq_true c2, eq_true c4, oi1n, nI_add, pk_mul, bI, and_true, true_and, and_false, false_and, and_self, not_true_eq_false, not_false_eq_true, if_true, if_false, ↓reduceIte] <;> rfl))
  · skip
    subst e1; exact absurd h1 c2
set_option maxHeartbeats 4000000 in
set_option maxRecDepth 100000 in
theorem c_X7_person_e1 (l : Launch) (E : EV) {a : Nat → Nat} {th sm ln pl : Int32} {hs : Int64} {s S b w : Nat → Int32} {p v : Int32} (h : ¬ (nI 0 ≤ p ∧ p ≤ nI 7)) : Wr l E yX7_person cX7_person 3 (some .int) 5 115 [.ref (a 0), .int p, .int v] (mdW E a th sm ln pl hs s S b w) (mdW E a (nI 1) sm ln pl hs s S b w) (some (.int (nI 0))) := by
  refine Wr.mk0 (by decide) (Nat.le_of_ble_eq_true rfl) ?_
  intro pP eE sS mM aA bB mt cC F hr hk hE hN ls hl
  have hl : lv_has ls 3 [(0, .ref (a 0)), (1, .int p), (2, .int v)] := hl
  refine V.aload_n F dX7_person_0 rfl (lv_at hl 0 rfl) ?_
  refine V.iconst (v := nI 0) F dX7_person_1 (by decide) ?_
  refine V.putf (ws' := mdW E a (nI 0) sm ln pl hs s S b w) F hE hN (by rfl) pX7_22 rfl rfl 0 rfl (by exact Nat.le_of_ble_eq_true rfl) dX7_person_2 rfl ?_
  refine V.iload_n F dX7_person_5 rfl (lv_at hl 1 rfl) ?_
  refine V.rdS F hE (c_X7_isPerson l E) (kX7_90 F.2.2.2.2 ⟨Nat.le_of_ble_eq_true rfl, Nat.le_of_ble_eq_true rfl⟩) [] rfl rfl hl.1 (Nat.le_of_ble_eq_true rfl) dX7_person_6 rfl ?_
  refine V.topi (fun z1 e1 => ?_)
  refine V.if_neB (tgt := 18) F e1 dX7_person_9 (by decide) (fun c2 => ?_) (fun c2 => ?_)
  · skip
    subst e1; exact absurd c2 h
  · skip
    refine V.aload_n F dX7_person_12 rfl (lv_at hl 0 rfl) ?_
    refine V.iconst (v := nI 1) F dX7_person_13 (by decide) ?_
    refine V.wsV (q0 := 0) (ws' := mdW E a (nI 1) sm ln pl hs s S b w) F hE hN (pm_eq (by rfl)) (c_X7_fails l E) (kX7_33 F.2.2.2.2 ⟨Nat.le_of_ble_eq_true rfl, Nat.le_of_ble_eq_true rfl⟩) rfl rfl 0 5 (by rfl) (by rfl) rfl hl.1 (Nat.le_of_ble_eq_true rfl) dX7_person_14 rfl ?_
    refine V.topi (fun z3 e3 => ?_)
    exact V.iretW F hr hk dX7_person_17 (by subst e1 e3; first | with_reducible rfl | (simp only [oi1n, nI_add]; done) | (simp only [c2, oi1n, nI_add, pk_mul, if_true, if_false, ↓reduceIte]; done) | (simp only [c2, oi1n, nI_add, pk_mul, bI, and_true, true_and, and_false, false_and, and_self, not_true_eq_false, not_false_eq_true, if_true, if_false, ↓reduceIte] <;> rfl)) (by subst e1 e3; first | with_reducible rfl | (simp only [oi1n, nI_add]; done) | (simp only [c2, oi1n, nI_add, pk_mul, if_true, if_false, ↓reduceIte]; done) | (simp only [c2, oi1n, nI_add, pk_mul, bI, and_true, true_and, and_false, false_and, and_self, not_true_eq_false, not_false_eq_true, if_true, if_false, ↓reduceIte] <;> rfl))
set_option maxHeartbeats 4000000 in
set_option maxRecDepth 100000 in
theorem c_X7_person_e2 (l : Launch) (E : EV) {a : Nat → Nat} {th sm ln pl : Int32} {hs : Int64} {s S b w : Nat → Int32} {p v : Int32} (h1 : nI 0 ≤ p ∧ p ≤ nI 7) (h : ¬ (nI 0 ≤ v ∧ v ≤ nI 6)) : Wr l E yX7_person cX7_person 3 (some .int) 5 115 [.ref (a 0), .int p, .int v] (mdW E a th sm ln pl hs s S b w) (mdW E a (nI 2) sm ln pl hs s S b w) (some (.int (nI 0))) := by
  refine Wr.mk0 (by decide) (Nat.le_of_ble_eq_true rfl) ?_
  intro pP eE sS mM aA bB mt cC F hr hk hE hN ls hl
  have hl : lv_has ls 3 [(0, .ref (a 0)), (1, .int p), (2, .int v)] := hl
  refine V.aload_n F dX7_person_0 rfl (lv_at hl 0 rfl) ?_
  refine V.iconst (v := nI 0) F dX7_person_1 (by decide) ?_
  refine V.putf (ws' := mdW E a (nI 0) sm ln pl hs s S b w) F hE hN (by rfl) pX7_22 rfl rfl 0 rfl (by exact Nat.le_of_ble_eq_true rfl) dX7_person_2 rfl ?_
  refine V.iload_n F dX7_person_5 rfl (lv_at hl 1 rfl) ?_
  refine V.rdS F hE (c_X7_isPerson l E) (kX7_90 F.2.2.2.2 ⟨Nat.le_of_ble_eq_true rfl, Nat.le_of_ble_eq_true rfl⟩) [] rfl rfl hl.1 (Nat.le_of_ble_eq_true rfl) dX7_person_6 rfl ?_
  refine V.topi (fun z1 e1 => ?_)
  refine V.if_neB (tgt := 18) F e1 dX7_person_9 (by decide) (fun c2 => ?_) (fun c2 => ?_)
  · skip
    refine V.iload_n F dX7_person_18 rfl (lv_at hl 2 rfl) ?_
    refine V.iconst (v := nI 0) F dX7_person_19 (by decide) ?_
    refine V.bipush (v := nI 6) F dX7_person_20 (by decide) ?_
    refine V.rdS F hE (c_X7_within l E) (kX7_26 F.2.2.2.2 ⟨Nat.le_of_ble_eq_true rfl, Nat.le_of_ble_eq_true rfl⟩) [] rfl rfl hl.1 (Nat.le_of_ble_eq_true rfl) dX7_person_22 rfl ?_
    refine V.topi (fun z3 e3 => ?_)
    refine V.if_eqB (tgt := 37) F e3 dX7_person_25 (by decide) (fun c4 => ?_) (fun c4 => ?_)
    · skip
      refine V.aload_n F dX7_person_37 rfl (lv_at hl 0 rfl) ?_
      refine V.iconst (v := nI 2) F dX7_person_38 (by decide) ?_
      refine V.wsV (q0 := 0) (ws' := mdW E a (nI 2) sm ln pl hs s S b w) F hE hN (pm_eq (by rfl)) (c_X7_fails l E) (kX7_33 F.2.2.2.2 ⟨Nat.le_of_ble_eq_true rfl, Nat.le_of_ble_eq_true rfl⟩) rfl rfl 0 5 (by rfl) (by rfl) rfl hl.1 (Nat.le_of_ble_eq_true rfl) dX7_person_39 rfl ?_
      refine V.topi (fun z5 e5 => ?_)
      exact V.iretW F hr hk dX7_person_42 (by subst e1 e3 e5; first | with_reducible rfl | (simp only [oi1n, nI_add]; done) | (simp only [eq_true c2, c4, oi1n, nI_add, pk_mul, if_true, if_false, ↓reduceIte]; done) | (simp only [eq_true c2, c4, oi1n, nI_add, pk_mul, bI, and_true, true_and, and_false, false_and, and_self, not_true_eq_false, not_false_eq_true, if_true, if_false, ↓reduceIte] <;> rfl)) (by subst e1 e3 e5; first | with_reducible rfl | (simp only [oi1n, nI_add]; done) | (simp only [eq_true c2, c4, oi1n, nI_add, pk_mul, if_true, if_false, ↓reduceIte]; done) | (simp only [eq_true c2, c4, oi1n, nI_add, pk_mul, bI, and_true, true_and, and_false, false_and, and_self, not_true_eq_false, not_false_eq_true, if_true, if_false, ↓reduceIte] <;> rfl))
    · skip
      subst e1 e3; exact absurd c4 h
  · skip
    subst e1; exact absurd h1 c2
set_option maxHeartbeats 4000000 in
set_option maxRecDepth 100000 in
theorem c_X7_rehearsed (l : Launch) (E : EV) {a : Nat → Nat} {th sm ln pl : Int32} {hs : Int64} {s S b w : Nat → Int32} {R H C D : Nat} {sn : Nat → Nat} {p k r : Int32} (hM : MI s R H C D sn) (h1 : nI 0 ≤ p ∧ p ≤ nI 7) (h2 : nI 0 ≤ k ∧ k ≤ nI 5) (h3 : nI 1 ≤ r ∧ r ≤ nI 5) : Wr l E yX7_rehearsed cX7_rehearsed 4 (some .int) 2 50 [.ref (a 0), .int p, .int k, .int r] (mdW E a th sm ln pl hs s S b w) (mdW E a (nI 0) sm ln pl hs s S b w) (some (.int (cnM s p k r (s 0) R))) := by
  refine Wr.mk0 (by decide) (Nat.le_of_ble_eq_true rfl) ?_
  intro pP eE sS mM aA bB mt cC F hr hk hE hN ls hl
  have hl : lv_has ls 4 [(0, .ref (a 0)), (1, .int p), (2, .int k), (3, .int r)] := hl
  have hM1 := hM
  obtain ⟨hD0, hD, hkR, hR, hh, hH, hs4, hC, hsn⟩ := hM1
  refine V.aload_n F dX7_rehearsed_0 rfl (lv_at hl 0 rfl) ?_
  refine V.iconst (v := nI 0) F dX7_rehearsed_1 (by decide) ?_
  refine V.putf (ws' := mdW E a (nI 0) sm ln pl hs s S b w) F hE hN (by rfl) pX7_22 rfl rfl 0 rfl (by exact Nat.le_of_ble_eq_true rfl) dX7_rehearsed_2 rfl ?_
  refine V.iload_n F dX7_rehearsed_5 rfl (lv_at hl 1 rfl) ?_
  refine V.rdS F hE (c_X7_isPerson l E) (kX7_90 F.2.2.2.2 ⟨Nat.le_of_ble_eq_true rfl, Nat.le_of_ble_eq_true rfl⟩) [] rfl rfl hl.1 (Nat.le_of_ble_eq_true rfl) dX7_rehearsed_6 rfl ?_
  refine V.topi (fun z1 e1 => ?_)
  refine V.if_eqB (tgt := 19) F e1 dX7_rehearsed_9 (by decide) (fun c2 => ?_) (fun c2 => ?_)
  · skip
    subst e1; exact absurd h1 c2
  · skip
    refine V.iload_n F dX7_rehearsed_12 rfl (lv_at hl 2 rfl) ?_
    refine V.rdS F hE (c_X7_isKind l E) (kX7_100 F.2.2.2.2 ⟨Nat.le_of_ble_eq_true rfl, Nat.le_of_ble_eq_true rfl⟩) [] rfl rfl hl.1 (Nat.le_of_ble_eq_true rfl) dX7_rehearsed_13 rfl ?_
    refine V.topi (fun z3 e3 => ?_)
    refine V.if_neB (tgt := 25) F e3 dX7_rehearsed_16 (by decide) (fun c4 => ?_) (fun c4 => ?_)
    · skip
      refine V.iload_n F dX7_rehearsed_25 rfl (lv_at hl 3 rfl) ?_
      refine V.rdS F hE (c_X7_isRisk l E) (kX7_103 F.2.2.2.2 ⟨Nat.le_of_ble_eq_true rfl, Nat.le_of_ble_eq_true rfl⟩) [] rfl rfl hl.1 (Nat.le_of_ble_eq_true rfl) dX7_rehearsed_26 rfl ?_
      refine V.topi (fun z5 e5 => ?_)
      refine V.if_eqB (tgt := 48) F e5 dX7_rehearsed_29 (by decide) (fun c6 => ?_) (fun c6 => ?_)
      · skip
        subst e1 e3 e5; exact absurd h3 c6
      · skip
        refine V.aload_n F dX7_rehearsed_32 rfl (lv_at hl 0 rfl) ?_
        refine V.iload_n F dX7_rehearsed_33 rfl (lv_at hl 1 rfl) ?_
        refine V.iload_n F dX7_rehearsed_34 rfl (lv_at hl 2 rfl) ?_
        refine V.iload_n F dX7_rehearsed_35 rfl (lv_at hl 3 rfl) ?_
        refine V.aload_n F dX7_rehearsed_36 rfl (lv_at hl 0 rfl) ?_
        refine V.getf F hE gX7_7 0 rfl rfl dX7_rehearsed_37 ?_
        refine V.iconst (v := nI 0) F dX7_rehearsed_40 (by decide) ?_
        refine V.iadn (i := 0) F hE 1 rfl (by omega) (by omega) dX7_rehearsed_41 (fun z7 e7 => ?_)
        refine V.rdV (q0 := 0) F hE (c_X7_counting l E hM) (kX7_69 F.2.2.2.2 ⟨Nat.le_of_ble_eq_true rfl, Nat.le_of_ble_eq_true rfl⟩) rfl rfl [0, 1, 2, 3, 4] rfl rfl hl.1 (Nat.le_of_ble_eq_true rfl) dX7_rehearsed_42 rfl ?_
        refine V.topi (fun z8 e8 => ?_)
        refine V.goto (tgt := 53) F dX7_rehearsed_45 (by decide) ?_
        exact V.iretW F hr hk dX7_rehearsed_53 (by subst e1 e3 e5 e7 e8; first | with_reducible rfl | (simp only [oi1n, nI_add]; done) | (simp only [eq_true c2, eq_true c4, eq_true c6, oi1n, nI_add, pk_mul, if_true, if_false, ↓reduceIte]; done) | (simp only [eq_true c2, eq_true c4, eq_true c6, oi1n, nI_add, pk_mul, bI, and_true, true_and, and_false, false_and, and_self, not_true_eq_false, not_false_eq_true, if_true, if_false, ↓reduceIte] <;> rfl)) (by subst e1 e3 e5 e7 e8; first | with_reducible rfl | (simp only [oi1n, nI_add]; done) | (simp only [eq_true c2, eq_true c4, eq_true c6, oi1n, nI_add, pk_mul, if_true, if_false, ↓reduceIte]; done) | (simp only [eq_true c2, eq_true c4, eq_true c6, oi1n, nI_add, pk_mul, bI, and_true, true_and, and_false, false_and, and_self, not_true_eq_false, not_false_eq_true, if_true, if_false, ↓reduceIte] <;> rfl))
    · skip
      subst e1 e3; exact absurd h2 c4
set_option maxHeartbeats 4000000 in
set_option maxRecDepth 100000 in
theorem c_X7_rehearsed_e1 (l : Launch) (E : EV) {a : Nat → Nat} {th sm ln pl : Int32} {hs : Int64} {s S b w : Nat → Int32} {p k r : Int32} (h : ¬ ((nI 0 ≤ p ∧ p ≤ nI 7) ∧ (nI 0 ≤ k ∧ k ≤ nI 5))) : Wr l E yX7_rehearsed cX7_rehearsed 4 (some .int) 2 50 [.ref (a 0), .int p, .int k, .int r] (mdW E a th sm ln pl hs s S b w) (mdW E a (nI 1) sm ln pl hs s S b w) (some (.int (nI 0))) := by
  refine Wr.mk0 (by decide) (Nat.le_of_ble_eq_true rfl) ?_
  intro pP eE sS mM aA bB mt cC F hr hk hE hN ls hl
  have hl : lv_has ls 4 [(0, .ref (a 0)), (1, .int p), (2, .int k), (3, .int r)] := hl
  refine V.aload_n F dX7_rehearsed_0 rfl (lv_at hl 0 rfl) ?_
  refine V.iconst (v := nI 0) F dX7_rehearsed_1 (by decide) ?_
  refine V.putf (ws' := mdW E a (nI 0) sm ln pl hs s S b w) F hE hN (by rfl) pX7_22 rfl rfl 0 rfl (by exact Nat.le_of_ble_eq_true rfl) dX7_rehearsed_2 rfl ?_
  refine V.iload_n F dX7_rehearsed_5 rfl (lv_at hl 1 rfl) ?_
  refine V.rdS F hE (c_X7_isPerson l E) (kX7_90 F.2.2.2.2 ⟨Nat.le_of_ble_eq_true rfl, Nat.le_of_ble_eq_true rfl⟩) [] rfl rfl hl.1 (Nat.le_of_ble_eq_true rfl) dX7_rehearsed_6 rfl ?_
  refine V.topi (fun z1 e1 => ?_)
  refine V.if_eqB (tgt := 19) F e1 dX7_rehearsed_9 (by decide) (fun c2 => ?_) (fun c2 => ?_)
  · skip
    refine V.aload_n F dX7_rehearsed_19 rfl (lv_at hl 0 rfl) ?_
    refine V.iconst (v := nI 1) F dX7_rehearsed_20 (by decide) ?_
    refine V.wsV (q0 := 0) (ws' := mdW E a (nI 1) sm ln pl hs s S b w) F hE hN (pm_eq (by rfl)) (c_X7_fails l E) (kX7_33 F.2.2.2.2 ⟨Nat.le_of_ble_eq_true rfl, Nat.le_of_ble_eq_true rfl⟩) rfl rfl 0 5 (by rfl) (by rfl) rfl hl.1 (Nat.le_of_ble_eq_true rfl) dX7_rehearsed_21 rfl ?_
    refine V.topi (fun z3 e3 => ?_)
    exact V.iretW F hr hk dX7_rehearsed_24 (by subst e1 e3; first | with_reducible rfl | (simp only [oi1n, nI_add]; done) | (simp only [c2, oi1n, nI_add, pk_mul, if_true, if_false, ↓reduceIte]; done) | (simp only [c2, oi1n, nI_add, pk_mul, bI, and_true, true_and, and_false, false_and, and_self, not_true_eq_false, not_false_eq_true, if_true, if_false, ↓reduceIte] <;> rfl)) (by subst e1 e3; first | with_reducible rfl | (simp only [oi1n, nI_add]; done) | (simp only [c2, oi1n, nI_add, pk_mul, if_true, if_false, ↓reduceIte]; done) | (simp only [c2, oi1n, nI_add, pk_mul, bI, and_true, true_and, and_false, false_and, and_self, not_true_eq_false, not_false_eq_true, if_true, if_false, ↓reduceIte] <;> rfl))
  · skip
    refine V.iload_n F dX7_rehearsed_12 rfl (lv_at hl 2 rfl) ?_
    refine V.rdS F hE (c_X7_isKind l E) (kX7_100 F.2.2.2.2 ⟨Nat.le_of_ble_eq_true rfl, Nat.le_of_ble_eq_true rfl⟩) [] rfl rfl hl.1 (Nat.le_of_ble_eq_true rfl) dX7_rehearsed_13 rfl ?_
    refine V.topi (fun z4 e4 => ?_)
    refine V.if_neB (tgt := 25) F e4 dX7_rehearsed_16 (by decide) (fun c5 => ?_) (fun c5 => ?_)
    · skip
      subst e1 e4; exact absurd ⟨c2, c5⟩ h
    · skip
      refine V.aload_n F dX7_rehearsed_19 rfl (lv_at hl 0 rfl) ?_
      refine V.iconst (v := nI 1) F dX7_rehearsed_20 (by decide) ?_
      refine V.wsV (q0 := 0) (ws' := mdW E a (nI 1) sm ln pl hs s S b w) F hE hN (pm_eq (by rfl)) (c_X7_fails l E) (kX7_33 F.2.2.2.2 ⟨Nat.le_of_ble_eq_true rfl, Nat.le_of_ble_eq_true rfl⟩) rfl rfl 0 5 (by rfl) (by rfl) rfl hl.1 (Nat.le_of_ble_eq_true rfl) dX7_rehearsed_21 rfl ?_
      refine V.topi (fun z6 e6 => ?_)
      exact V.iretW F hr hk dX7_rehearsed_24 (by subst e1 e4 e6; first | with_reducible rfl | (simp only [oi1n, nI_add]; done) | (simp only [eq_true c2, c5, oi1n, nI_add, pk_mul, if_true, if_false, ↓reduceIte]; done) | (simp only [eq_true c2, c5, oi1n, nI_add, pk_mul, bI, and_true, true_and, and_false, false_and, and_self, not_true_eq_false, not_false_eq_true, if_true, if_false, ↓reduceIte] <;> rfl)) (by subst e1 e4 e6; first | with_reducible rfl | (simp only [oi1n, nI_add]; done) | (simp only [eq_true c2, c5, oi1n, nI_add, pk_mul, if_true, if_false, ↓reduceIte]; done) | (simp only [eq_true c2, c5, oi1n, nI_add, pk_mul, bI, and_true, true_and, and_false, false_and, and_self, not_true_eq_false, not_false_eq_true, if_true, if_false, ↓reduceIte] <;> rfl))
set_option maxHeartbeats 4000000 in
set_option maxRecDepth 100000 in
theorem c_X7_rehearsed_e2 (l : Launch) (E : EV) {a : Nat → Nat} {th sm ln pl : Int32} {hs : Int64} {s S b w : Nat → Int32} {p k r : Int32} (h1 : nI 0 ≤ p ∧ p ≤ nI 7) (h2 : nI 0 ≤ k ∧ k ≤ nI 5) (h : ¬ (nI 1 ≤ r ∧ r ≤ nI 5)) : Wr l E yX7_rehearsed cX7_rehearsed 4 (some .int) 2 50 [.ref (a 0), .int p, .int k, .int r] (mdW E a th sm ln pl hs s S b w) (mdW E a (nI 2) sm ln pl hs s S b w) (some (.int (nI 0))) := by
  refine Wr.mk0 (by decide) (Nat.le_of_ble_eq_true rfl) ?_
  intro pP eE sS mM aA bB mt cC F hr hk hE hN ls hl
  have hl : lv_has ls 4 [(0, .ref (a 0)), (1, .int p), (2, .int k), (3, .int r)] := hl
  refine V.aload_n F dX7_rehearsed_0 rfl (lv_at hl 0 rfl) ?_
  refine V.iconst (v := nI 0) F dX7_rehearsed_1 (by decide) ?_
  refine V.putf (ws' := mdW E a (nI 0) sm ln pl hs s S b w) F hE hN (by rfl) pX7_22 rfl rfl 0 rfl (by exact Nat.le_of_ble_eq_true rfl) dX7_rehearsed_2 rfl ?_
  refine V.iload_n F dX7_rehearsed_5 rfl (lv_at hl 1 rfl) ?_
  refine V.rdS F hE (c_X7_isPerson l E) (kX7_90 F.2.2.2.2 ⟨Nat.le_of_ble_eq_true rfl, Nat.le_of_ble_eq_true rfl⟩) [] rfl rfl hl.1 (Nat.le_of_ble_eq_true rfl) dX7_rehearsed_6 rfl ?_
  refine V.topi (fun z1 e1 => ?_)
  refine V.if_eqB (tgt := 19) F e1 dX7_rehearsed_9 (by decide) (fun c2 => ?_) (fun c2 => ?_)
  · skip
    subst e1; exact absurd h1 c2
  · skip
    refine V.iload_n F dX7_rehearsed_12 rfl (lv_at hl 2 rfl) ?_
    refine V.rdS F hE (c_X7_isKind l E) (kX7_100 F.2.2.2.2 ⟨Nat.le_of_ble_eq_true rfl, Nat.le_of_ble_eq_true rfl⟩) [] rfl rfl hl.1 (Nat.le_of_ble_eq_true rfl) dX7_rehearsed_13 rfl ?_
    refine V.topi (fun z3 e3 => ?_)
    refine V.if_neB (tgt := 25) F e3 dX7_rehearsed_16 (by decide) (fun c4 => ?_) (fun c4 => ?_)
    · skip
      refine V.iload_n F dX7_rehearsed_25 rfl (lv_at hl 3 rfl) ?_
      refine V.rdS F hE (c_X7_isRisk l E) (kX7_103 F.2.2.2.2 ⟨Nat.le_of_ble_eq_true rfl, Nat.le_of_ble_eq_true rfl⟩) [] rfl rfl hl.1 (Nat.le_of_ble_eq_true rfl) dX7_rehearsed_26 rfl ?_
      refine V.topi (fun z5 e5 => ?_)
      refine V.if_eqB (tgt := 48) F e5 dX7_rehearsed_29 (by decide) (fun c6 => ?_) (fun c6 => ?_)
      · skip
        refine V.aload_n F dX7_rehearsed_48 rfl (lv_at hl 0 rfl) ?_
        refine V.iconst (v := nI 2) F dX7_rehearsed_49 (by decide) ?_
        refine V.wsV (q0 := 0) (ws' := mdW E a (nI 2) sm ln pl hs s S b w) F hE hN (pm_eq (by rfl)) (c_X7_fails l E) (kX7_33 F.2.2.2.2 ⟨Nat.le_of_ble_eq_true rfl, Nat.le_of_ble_eq_true rfl⟩) rfl rfl 0 5 (by rfl) (by rfl) rfl hl.1 (Nat.le_of_ble_eq_true rfl) dX7_rehearsed_50 rfl ?_
        refine V.topi (fun z7 e7 => ?_)
        exact V.iretW F hr hk dX7_rehearsed_53 (by subst e1 e3 e5 e7; first | with_reducible rfl | (simp only [oi1n, nI_add]; done) | (simp only [eq_true c2, eq_true c4, c6, oi1n, nI_add, pk_mul, if_true, if_false, ↓reduceIte]; done) | (simp only [eq_true c2, eq_true c4, c6, oi1n, nI_add, pk_mul, bI, and_true, true_and, and_false, false_and, and_self, not_true_eq_false, not_false_eq_true, if_true, if_false, ↓reduceIte] <;> rfl)) (by subst e1 e3 e5 e7; first | with_reducible rfl | (simp only [oi1n, nI_add]; done) | (simp only [eq_true c2, eq_true c4, c6, oi1n, nI_add, pk_mul, if_true, if_false, ↓reduceIte]; done) | (simp only [eq_true c2, eq_true c4, c6, oi1n, nI_add, pk_mul, bI, and_true, true_and, and_false, false_and, and_self, not_true_eq_false, not_false_eq_true, if_true, if_false, ↓reduceIte] <;> rfl))
      · skip
        subst e1 e3 e5; exact absurd c6 h
    · skip
      subst e1 e3; exact absurd h2 c4
set_option maxHeartbeats 4000000 in
set_option maxRecDepth 100000 in
theorem c_X7_kind (l : Launch) (E : EV) {a : Nat → Nat} {th sm ln pl : Int32} {hs : Int64} {s S b w : Nat → Int32} {k r v : Int32} (h1 : nI 0 ≤ k ∧ k ≤ nI 5) (h2 : nI 1 ≤ r ∧ r ≤ nI 5) (h3 : nI 0 ≤ v ∧ v ≤ nI 2) : Wr l E yX7_kind cX7_kind 4 (some .int) 2 42 [.ref (a 0), .int k, .int r, .int v] (mdW E a th sm ln pl hs s S b w) (mdW E a (nI 0) sm ln pl hs s S b w) (some (.int (if v = nI 0 then ndM k r else if v = nI 1 then cdM k else bpM k))) := by
  refine Wr.mk0 (by decide) (Nat.le_of_ble_eq_true rfl) ?_
  intro pP eE sS mM aA bB mt cC F hr hk hE hN ls hl
  have hl : lv_has ls 4 [(0, .ref (a 0)), (1, .int k), (2, .int r), (3, .int v)] := hl
  refine V.aload_n F dX7_kind_0 rfl (lv_at hl 0 rfl) ?_
  refine V.iconst (v := nI 0) F dX7_kind_1 (by decide) ?_
  refine V.putf (ws' := mdW E a (nI 0) sm ln pl hs s S b w) F hE hN (by rfl) pX7_22 rfl rfl 0 rfl (by exact Nat.le_of_ble_eq_true rfl) dX7_kind_2 rfl ?_
  refine V.iload_n F dX7_kind_5 rfl (lv_at hl 1 rfl) ?_
  refine V.rdS F hE (c_X7_isKind l E) (kX7_100 F.2.2.2.2 ⟨Nat.le_of_ble_eq_true rfl, Nat.le_of_ble_eq_true rfl⟩) [] rfl rfl hl.1 (Nat.le_of_ble_eq_true rfl) dX7_kind_6 rfl ?_
  refine V.topi (fun z1 e1 => ?_)
  refine V.if_neB (tgt := 18) F e1 dX7_kind_9 (by decide) (fun c2 => ?_) (fun c2 => ?_)
  · skip
    refine V.iload_n F dX7_kind_18 rfl (lv_at hl 2 rfl) ?_
    refine V.rdS F hE (c_X7_isRisk l E) (kX7_103 F.2.2.2.2 ⟨Nat.le_of_ble_eq_true rfl, Nat.le_of_ble_eq_true rfl⟩) [] rfl rfl hl.1 (Nat.le_of_ble_eq_true rfl) dX7_kind_19 rfl ?_
    refine V.topi (fun z3 e3 => ?_)
    refine V.if_eqB (tgt := 34) F e3 dX7_kind_22 (by decide) (fun c4 => ?_) (fun c4 => ?_)
    · skip
      subst e1 e3; exact absurd h2 c4
    · skip
      refine V.iload_n F dX7_kind_25 rfl (lv_at hl 3 rfl) ?_
      refine V.iconst (v := nI 0) F dX7_kind_26 (by decide) ?_
      refine V.iconst (v := nI 2) F dX7_kind_27 (by decide) ?_
      refine V.rdS F hE (c_X7_within l E) (kX7_26 F.2.2.2.2 ⟨Nat.le_of_ble_eq_true rfl, Nat.le_of_ble_eq_true rfl⟩) [] rfl rfl hl.1 (Nat.le_of_ble_eq_true rfl) dX7_kind_28 rfl ?_
      refine V.topi (fun z5 e5 => ?_)
      refine V.if_neB (tgt := 40) F e5 dX7_kind_31 (by decide) (fun c6 => ?_) (fun c6 => ?_)
      · skip
        refine V.iload_n F dX7_kind_40 rfl (lv_at hl 3 rfl) ?_
        refine V.if_ne (tgt := 52) F dX7_kind_41 (by decide) (fun c7 => ?_) (fun c7 => ?_)
        · skip
          rw [← nI_0] at c7
          refine V.iload_n F dX7_kind_52 rfl (lv_at hl 3 rfl) ?_
          refine V.iconst (v := nI 1) F dX7_kind_53 (by decide) ?_
          refine V.icmp_ne (tgt := 64) F dX7_kind_54 (by decide) (fun c8 => ?_) (fun c8 => ?_)
          · skip
            refine V.iload_n F dX7_kind_64 rfl (lv_at hl 1 rfl) ?_
            refine V.rdS F hE (c_X7_barringParts l E) (kX7_44 F.2.2.2.2 ⟨Nat.le_of_ble_eq_true rfl, Nat.le_of_ble_eq_true rfl⟩) [] rfl rfl hl.1 (Nat.le_of_ble_eq_true rfl) dX7_kind_65 rfl ?_
            refine V.topi (fun z9 e9 => ?_)
            exact V.iretW F hr hk dX7_kind_68 (by subst e1 e3 e5 e9; first | with_reducible rfl | (simp only [oi1n, nI_add]; done) | (simp only [eq_true c2, eq_true c4, eq_true c6, c7, c8, oi1n, nI_add, pk_mul, if_true, if_false, ↓reduceIte]; done) | (simp only [eq_true c2, eq_true c4, eq_true c6, c7, c8, oi1n, nI_add, pk_mul, bI, and_true, true_and, and_false, false_and, and_self, not_true_eq_false, not_false_eq_true, if_true, if_false, ↓reduceIte] <;> rfl)) (by subst e1 e3 e5 e9; first | with_reducible rfl | (simp only [oi1n, nI_add]; done) | (simp only [eq_true c2, eq_true c4, eq_true c6, c7, c8, oi1n, nI_add, pk_mul, if_true, if_false, ↓reduceIte]; done) | (simp only [eq_true c2, eq_true c4, eq_true c6, c7, c8, oi1n, nI_add, pk_mul, bI, and_true, true_and, and_false, false_and, and_self, not_true_eq_false, not_false_eq_true, if_true, if_false, ↓reduceIte] <;> rfl))
          · skip
            refine V.iload_n F dX7_kind_57 rfl (lv_at hl 1 rfl) ?_
            refine V.rdS F hE (c_X7_countsFor l E) (kX7_53 F.2.2.2.2 ⟨Nat.le_of_ble_eq_true rfl, Nat.le_of_ble_eq_true rfl⟩) [] rfl rfl hl.1 (Nat.le_of_ble_eq_true rfl) dX7_kind_58 rfl ?_
            refine V.topi (fun z10 e10 => ?_)
            refine V.goto (tgt := 68) F dX7_kind_61 (by decide) ?_
            exact V.iretW F hr hk dX7_kind_68 (by subst e1 e3 e5 e10; first | with_reducible rfl | (simp only [oi1n, nI_add]; done) | (simp only [eq_true c2, eq_true c4, eq_true c6, c7, eq_true c8, oi1n, nI_add, pk_mul, if_true, if_false, ↓reduceIte]; done) | (simp only [eq_true c2, eq_true c4, eq_true c6, c7, eq_true c8, oi1n, nI_add, pk_mul, bI, and_true, true_and, and_false, false_and, and_self, not_true_eq_false, not_false_eq_true, if_true, if_false, ↓reduceIte] <;> rfl)) (by subst e1 e3 e5 e10; first | with_reducible rfl | (simp only [oi1n, nI_add]; done) | (simp only [eq_true c2, eq_true c4, eq_true c6, c7, eq_true c8, oi1n, nI_add, pk_mul, if_true, if_false, ↓reduceIte]; done) | (simp only [eq_true c2, eq_true c4, eq_true c6, c7, eq_true c8, oi1n, nI_add, pk_mul, bI, and_true, true_and, and_false, false_and, and_self, not_true_eq_false, not_false_eq_true, if_true, if_false, ↓reduceIte] <;> rfl))
        · skip
          rw [← nI_0] at c7
          refine V.iload_n F dX7_kind_44 rfl (lv_at hl 1 rfl) ?_
          refine V.iload_n F dX7_kind_45 rfl (lv_at hl 2 rfl) ?_
          refine V.rdS F hE (c_X7_needs l E) (kX7_66 F.2.2.2.2 ⟨Nat.le_of_ble_eq_true rfl, Nat.le_of_ble_eq_true rfl⟩) [] rfl rfl hl.1 (Nat.le_of_ble_eq_true rfl) dX7_kind_46 rfl ?_
          refine V.topi (fun z11 e11 => ?_)
          refine V.goto (tgt := 68) F dX7_kind_49 (by decide) ?_
          exact V.iretW F hr hk dX7_kind_68 (by subst e1 e3 e5 e11; first | with_reducible rfl | (simp only [oi1n, nI_add]; done) | (simp only [eq_true c2, eq_true c4, eq_true c6, eq_true c7, oi1n, nI_add, pk_mul, if_true, if_false, ↓reduceIte]; done) | (simp only [eq_true c2, eq_true c4, eq_true c6, eq_true c7, oi1n, nI_add, pk_mul, bI, and_true, true_and, and_false, false_and, and_self, not_true_eq_false, not_false_eq_true, if_true, if_false, ↓reduceIte] <;> rfl)) (by subst e1 e3 e5 e11; first | with_reducible rfl | (simp only [oi1n, nI_add]; done) | (simp only [eq_true c2, eq_true c4, eq_true c6, eq_true c7, oi1n, nI_add, pk_mul, if_true, if_false, ↓reduceIte]; done) | (simp only [eq_true c2, eq_true c4, eq_true c6, eq_true c7, oi1n, nI_add, pk_mul, bI, and_true, true_and, and_false, false_and, and_self, not_true_eq_false, not_false_eq_true, if_true, if_false, ↓reduceIte] <;> rfl))
      · skip
        subst e1 e3 e5; exact absurd h3 c6
  · skip
    subst e1; exact absurd h1 c2
set_option maxHeartbeats 4000000 in
set_option maxRecDepth 100000 in
theorem c_X7_kind_e1 (l : Launch) (E : EV) {a : Nat → Nat} {th sm ln pl : Int32} {hs : Int64} {s S b w : Nat → Int32} {k r v : Int32} (h : ¬ (nI 0 ≤ k ∧ k ≤ nI 5)) : Wr l E yX7_kind cX7_kind 4 (some .int) 2 42 [.ref (a 0), .int k, .int r, .int v] (mdW E a th sm ln pl hs s S b w) (mdW E a (nI 1) sm ln pl hs s S b w) (some (.int (nI 0))) := by
  refine Wr.mk0 (by decide) (Nat.le_of_ble_eq_true rfl) ?_
  intro pP eE sS mM aA bB mt cC F hr hk hE hN ls hl
  have hl : lv_has ls 4 [(0, .ref (a 0)), (1, .int k), (2, .int r), (3, .int v)] := hl
  refine V.aload_n F dX7_kind_0 rfl (lv_at hl 0 rfl) ?_
  refine V.iconst (v := nI 0) F dX7_kind_1 (by decide) ?_
  refine V.putf (ws' := mdW E a (nI 0) sm ln pl hs s S b w) F hE hN (by rfl) pX7_22 rfl rfl 0 rfl (by exact Nat.le_of_ble_eq_true rfl) dX7_kind_2 rfl ?_
  refine V.iload_n F dX7_kind_5 rfl (lv_at hl 1 rfl) ?_
  refine V.rdS F hE (c_X7_isKind l E) (kX7_100 F.2.2.2.2 ⟨Nat.le_of_ble_eq_true rfl, Nat.le_of_ble_eq_true rfl⟩) [] rfl rfl hl.1 (Nat.le_of_ble_eq_true rfl) dX7_kind_6 rfl ?_
  refine V.topi (fun z1 e1 => ?_)
  refine V.if_neB (tgt := 18) F e1 dX7_kind_9 (by decide) (fun c2 => ?_) (fun c2 => ?_)
  · skip
    subst e1; exact absurd c2 h
  · skip
    refine V.aload_n F dX7_kind_12 rfl (lv_at hl 0 rfl) ?_
    refine V.iconst (v := nI 1) F dX7_kind_13 (by decide) ?_
    refine V.wsV (q0 := 0) (ws' := mdW E a (nI 1) sm ln pl hs s S b w) F hE hN (pm_eq (by rfl)) (c_X7_fails l E) (kX7_33 F.2.2.2.2 ⟨Nat.le_of_ble_eq_true rfl, Nat.le_of_ble_eq_true rfl⟩) rfl rfl 0 5 (by rfl) (by rfl) rfl hl.1 (Nat.le_of_ble_eq_true rfl) dX7_kind_14 rfl ?_
    refine V.topi (fun z3 e3 => ?_)
    exact V.iretW F hr hk dX7_kind_17 (by subst e1 e3; first | with_reducible rfl | (simp only [oi1n, nI_add]; done) | (simp only [c2, oi1n, nI_add, pk_mul, if_true, if_false, ↓reduceIte]; done) | (simp only [c2, oi1n, nI_add, pk_mul, bI, and_true, true_and, and_false, false_and, and_self, not_true_eq_false, not_false_eq_true, if_true, if_false, ↓reduceIte] <;> rfl)) (by subst e1 e3; first | with_reducible rfl | (simp only [oi1n, nI_add]; done) | (simp only [c2, oi1n, nI_add, pk_mul, if_true, if_false, ↓reduceIte]; done) | (simp only [c2, oi1n, nI_add, pk_mul, bI, and_true, true_and, and_false, false_and, and_self, not_true_eq_false, not_false_eq_true, if_true, if_false, ↓reduceIte] <;> rfl))
set_option maxHeartbeats 4000000 in
set_option maxRecDepth 100000 in
theorem c_X7_kind_e2 (l : Launch) (E : EV) {a : Nat → Nat} {th sm ln pl : Int32} {hs : Int64} {s S b w : Nat → Int32} {k r v : Int32} (h1 : nI 0 ≤ k ∧ k ≤ nI 5) (h : ¬ ((nI 1 ≤ r ∧ r ≤ nI 5) ∧ (nI 0 ≤ v ∧ v ≤ nI 2))) : Wr l E yX7_kind cX7_kind 4 (some .int) 2 42 [.ref (a 0), .int k, .int r, .int v] (mdW E a th sm ln pl hs s S b w) (mdW E a (nI 2) sm ln pl hs s S b w) (some (.int (nI 0))) := by
  refine Wr.mk0 (by decide) (Nat.le_of_ble_eq_true rfl) ?_
  intro pP eE sS mM aA bB mt cC F hr hk hE hN ls hl
  have hl : lv_has ls 4 [(0, .ref (a 0)), (1, .int k), (2, .int r), (3, .int v)] := hl
  refine V.aload_n F dX7_kind_0 rfl (lv_at hl 0 rfl) ?_
  refine V.iconst (v := nI 0) F dX7_kind_1 (by decide) ?_
  refine V.putf (ws' := mdW E a (nI 0) sm ln pl hs s S b w) F hE hN (by rfl) pX7_22 rfl rfl 0 rfl (by exact Nat.le_of_ble_eq_true rfl) dX7_kind_2 rfl ?_
  refine V.iload_n F dX7_kind_5 rfl (lv_at hl 1 rfl) ?_
  refine V.rdS F hE (c_X7_isKind l E) (kX7_100 F.2.2.2.2 ⟨Nat.le_of_ble_eq_true rfl, Nat.le_of_ble_eq_true rfl⟩) [] rfl rfl hl.1 (Nat.le_of_ble_eq_true rfl) dX7_kind_6 rfl ?_
  refine V.topi (fun z1 e1 => ?_)
  refine V.if_neB (tgt := 18) F e1 dX7_kind_9 (by decide) (fun c2 => ?_) (fun c2 => ?_)
  · skip
    refine V.iload_n F dX7_kind_18 rfl (lv_at hl 2 rfl) ?_
    refine V.rdS F hE (c_X7_isRisk l E) (kX7_103 F.2.2.2.2 ⟨Nat.le_of_ble_eq_true rfl, Nat.le_of_ble_eq_true rfl⟩) [] rfl rfl hl.1 (Nat.le_of_ble_eq_true rfl) dX7_kind_19 rfl ?_
    refine V.topi (fun z3 e3 => ?_)
    refine V.if_eqB (tgt := 34) F e3 dX7_kind_22 (by decide) (fun c4 => ?_) (fun c4 => ?_)
    · skip
      refine V.aload_n F dX7_kind_34 rfl (lv_at hl 0 rfl) ?_
      refine V.iconst (v := nI 2) F dX7_kind_35 (by decide) ?_
      refine V.wsV (q0 := 0) (ws' := mdW E a (nI 2) sm ln pl hs s S b w) F hE hN (pm_eq (by rfl)) (c_X7_fails l E) (kX7_33 F.2.2.2.2 ⟨Nat.le_of_ble_eq_true rfl, Nat.le_of_ble_eq_true rfl⟩) rfl rfl 0 5 (by rfl) (by rfl) rfl hl.1 (Nat.le_of_ble_eq_true rfl) dX7_kind_36 rfl ?_
      refine V.topi (fun z5 e5 => ?_)
      exact V.iretW F hr hk dX7_kind_39 (by subst e1 e3 e5; first | with_reducible rfl | (simp only [oi1n, nI_add]; done) | (simp only [eq_true c2, c4, oi1n, nI_add, pk_mul, if_true, if_false, ↓reduceIte]; done) | (simp only [eq_true c2, c4, oi1n, nI_add, pk_mul, bI, and_true, true_and, and_false, false_and, and_self, not_true_eq_false, not_false_eq_true, if_true, if_false, ↓reduceIte] <;> rfl)) (by subst e1 e3 e5; first | with_reducible rfl | (simp only [oi1n, nI_add]; done) | (simp only [eq_true c2, c4, oi1n, nI_add, pk_mul, if_true, if_false, ↓reduceIte]; done) | (simp only [eq_true c2, c4, oi1n, nI_add, pk_mul, bI, and_true, true_and, and_false, false_and, and_self, not_true_eq_false, not_false_eq_true, if_true, if_false, ↓reduceIte] <;> rfl))
    · skip
      refine V.iload_n F dX7_kind_25 rfl (lv_at hl 3 rfl) ?_
      refine V.iconst (v := nI 0) F dX7_kind_26 (by decide) ?_
      refine V.iconst (v := nI 2) F dX7_kind_27 (by decide) ?_
      refine V.rdS F hE (c_X7_within l E) (kX7_26 F.2.2.2.2 ⟨Nat.le_of_ble_eq_true rfl, Nat.le_of_ble_eq_true rfl⟩) [] rfl rfl hl.1 (Nat.le_of_ble_eq_true rfl) dX7_kind_28 rfl ?_
      refine V.topi (fun z6 e6 => ?_)
      refine V.if_neB (tgt := 40) F e6 dX7_kind_31 (by decide) (fun c7 => ?_) (fun c7 => ?_)
      · skip
        subst e1 e3 e6; exact absurd ⟨c4, c7⟩ h
      · skip
        refine V.aload_n F dX7_kind_34 rfl (lv_at hl 0 rfl) ?_
        refine V.iconst (v := nI 2) F dX7_kind_35 (by decide) ?_
        refine V.wsV (q0 := 0) (ws' := mdW E a (nI 2) sm ln pl hs s S b w) F hE hN (pm_eq (by rfl)) (c_X7_fails l E) (kX7_33 F.2.2.2.2 ⟨Nat.le_of_ble_eq_true rfl, Nat.le_of_ble_eq_true rfl⟩) rfl rfl 0 5 (by rfl) (by rfl) rfl hl.1 (Nat.le_of_ble_eq_true rfl) dX7_kind_36 rfl ?_
        refine V.topi (fun z8 e8 => ?_)
        exact V.iretW F hr hk dX7_kind_39 (by subst e1 e3 e6 e8; first | with_reducible rfl | (simp only [oi1n, nI_add]; done) | (simp only [eq_true c2, eq_true c4, c7, oi1n, nI_add, pk_mul, if_true, if_false, ↓reduceIte]; done) | (simp only [eq_true c2, eq_true c4, c7, oi1n, nI_add, pk_mul, bI, and_true, true_and, and_false, false_and, and_self, not_true_eq_false, not_false_eq_true, if_true, if_false, ↓reduceIte] <;> rfl)) (by subst e1 e3 e6 e8; first | with_reducible rfl | (simp only [oi1n, nI_add]; done) | (simp only [eq_true c2, eq_true c4, c7, oi1n, nI_add, pk_mul, if_true, if_false, ↓reduceIte]; done) | (simp only [eq_true c2, eq_true c4, c7, oi1n, nI_add, pk_mul, bI, and_true, true_and, and_false, false_and, and_self, not_true_eq_false, not_false_eq_true, if_true, if_false, ↓reduceIte] <;> rfl))
  · skip
    subst e1; exact absurd h1 c2
set_option maxHeartbeats 4000000 in
set_option maxRecDepth 100000 in
theorem c_X7_sceneOf (l : Launch) (E : EV) {a : Nat → Nat} {th sm ln pl : Int32} {hs : Int64} {s S b w : Nat → Int32} {R H C D : Nat} {sn : Nat → Nat} {x w0 : Nat} (hM : MI s R H C D sn) (h1 : nI 0 ≤ nI x ∧ nI x ≤ s 4 - nI 1) (h2 : nI 0 ≤ nI w0 ∧ nI w0 ≤ nI 5) (hx0 : x < 10) (hw0 : w0 < 6) : Wr l E yX7_sceneOf cX7_sceneOf 3 (some .int) 6 144 [.ref (a 0), .int (nI x), .int (nI w0)] (mdW E a th sm ln pl hs s S b w) (mdW E a (nI 0) sm ln pl hs s S b w) (some (.int (if w0 < 5 then s (250 + 5 * x + w0) else clM s R H sn x 8))) := by
  refine Wr.mk0 (by decide) (Nat.le_of_ble_eq_true rfl) ?_
  intro pP eE sS mM aA bB mt cC F hr hk hE hN ls hl
  have hl : lv_has ls 3 [(0, .ref (a 0)), (1, .int (nI x)), (2, .int (nI w0))] := hl
  have hM1 := hM
  obtain ⟨hD0, hD, hkR, hR, hh, hH, hs4, hC, hsn⟩ := hM1
  refine V.aload_n F dX7_sceneOf_0 rfl (lv_at hl 0 rfl) ?_
  refine V.iconst (v := nI 0) F dX7_sceneOf_1 (by decide) ?_
  refine V.putf (ws' := mdW E a (nI 0) sm ln pl hs s S b w) F hE hN (by rfl) pX7_22 rfl rfl 0 rfl (by exact Nat.le_of_ble_eq_true rfl) dX7_sceneOf_2 rfl ?_
  refine V.aload_n F dX7_sceneOf_5 rfl (lv_at hl 0 rfl) ?_
  refine V.iload_n F dX7_sceneOf_6 rfl (lv_at hl 1 rfl) ?_
  refine V.rdV (q0 := 0) F hE (c_X7_isScene l E) (kX7_115 F.2.2.2.2 ⟨Nat.le_of_ble_eq_true rfl, Nat.le_of_ble_eq_true rfl⟩) rfl rfl [0, 1, 2, 3, 4] rfl rfl hl.1 (Nat.le_of_ble_eq_true rfl) dX7_sceneOf_7 rfl ?_
  refine V.topi (fun z1 e1 => ?_)
  refine V.if_neB (tgt := 19) F e1 dX7_sceneOf_10 (by decide) (fun c2 => ?_) (fun c2 => ?_)
  · skip
    refine V.iload_n F dX7_sceneOf_19 rfl (lv_at hl 2 rfl) ?_
    refine V.iconst (v := nI 0) F dX7_sceneOf_20 (by decide) ?_
    refine V.iconst (v := nI 5) F dX7_sceneOf_21 (by decide) ?_
    refine V.rdS F hE (c_X7_within l E) (kX7_26 F.2.2.2.2 ⟨Nat.le_of_ble_eq_true rfl, Nat.le_of_ble_eq_true rfl⟩) [] rfl rfl hl.1 (Nat.le_of_ble_eq_true rfl) dX7_sceneOf_22 rfl ?_
    refine V.topi (fun z3 e3 => ?_)
    refine V.if_eqB (tgt := 37) F e3 dX7_sceneOf_25 (by decide) (fun c4 => ?_) (fun c4 => ?_)
    · skip
      subst e1 e3; exact absurd h2 c4
    · skip
      refine V.aload_n F dX7_sceneOf_28 rfl (lv_at hl 0 rfl) ?_
      refine V.iload_n F dX7_sceneOf_29 rfl (lv_at hl 1 rfl) ?_
      refine V.iload_n F dX7_sceneOf_30 rfl (lv_at hl 2 rfl) ?_
      refine V.rdV (q0 := 0) F hE (c_X7_tellsScene l E hM hx0 hw0) (kX7_162 F.2.2.2.2 ⟨Nat.le_of_ble_eq_true rfl, Nat.le_of_ble_eq_true rfl⟩) rfl rfl [0, 1, 2, 3, 4] rfl rfl hl.1 (Nat.le_of_ble_eq_true rfl) dX7_sceneOf_31 rfl ?_
      refine V.topi (fun z5 e5 => ?_)
      refine V.goto (tgt := 42) F dX7_sceneOf_34 (by decide) ?_
      exact V.iretW F hr hk dX7_sceneOf_42 (by subst e1 e3 e5; first | with_reducible rfl | (simp only [oi1n, nI_add]; done) | (simp only [eq_true c2, eq_true c4, oi1n, nI_add, pk_mul, if_true, if_false, ↓reduceIte]; done) | (simp only [eq_true c2, eq_true c4, oi1n, nI_add, pk_mul, bI, and_true, true_and, and_false, false_and, and_self, not_true_eq_false, not_false_eq_true, if_true, if_false, ↓reduceIte] <;> rfl)) (by subst e1 e3 e5; first | with_reducible rfl | (simp only [oi1n, nI_add]; done) | (simp only [eq_true c2, eq_true c4, oi1n, nI_add, pk_mul, if_true, if_false, ↓reduceIte]; done) | (simp only [eq_true c2, eq_true c4, oi1n, nI_add, pk_mul, bI, and_true, true_and, and_false, false_and, and_self, not_true_eq_false, not_false_eq_true, if_true, if_false, ↓reduceIte] <;> rfl))
  · skip
    subst e1; exact absurd h1 c2
set_option maxHeartbeats 4000000 in
set_option maxRecDepth 100000 in
theorem c_X7_sceneOf_e1 (l : Launch) (E : EV) {a : Nat → Nat} {th sm ln pl : Int32} {hs : Int64} {s S b w : Nat → Int32} {x w0 : Int32} (h : ¬ (nI 0 ≤ x ∧ x ≤ s 4 - nI 1)) : Wr l E yX7_sceneOf cX7_sceneOf 3 (some .int) 6 144 [.ref (a 0), .int x, .int w0] (mdW E a th sm ln pl hs s S b w) (mdW E a (nI 1) sm ln pl hs s S b w) (some (.int (nI 0))) := by
  refine Wr.mk0 (by decide) (Nat.le_of_ble_eq_true rfl) ?_
  intro pP eE sS mM aA bB mt cC F hr hk hE hN ls hl
  have hl : lv_has ls 3 [(0, .ref (a 0)), (1, .int x), (2, .int w0)] := hl
  refine V.aload_n F dX7_sceneOf_0 rfl (lv_at hl 0 rfl) ?_
  refine V.iconst (v := nI 0) F dX7_sceneOf_1 (by decide) ?_
  refine V.putf (ws' := mdW E a (nI 0) sm ln pl hs s S b w) F hE hN (by rfl) pX7_22 rfl rfl 0 rfl (by exact Nat.le_of_ble_eq_true rfl) dX7_sceneOf_2 rfl ?_
  refine V.aload_n F dX7_sceneOf_5 rfl (lv_at hl 0 rfl) ?_
  refine V.iload_n F dX7_sceneOf_6 rfl (lv_at hl 1 rfl) ?_
  refine V.rdV (q0 := 0) F hE (c_X7_isScene l E) (kX7_115 F.2.2.2.2 ⟨Nat.le_of_ble_eq_true rfl, Nat.le_of_ble_eq_true rfl⟩) rfl rfl [0, 1, 2, 3, 4] rfl rfl hl.1 (Nat.le_of_ble_eq_true rfl) dX7_sceneOf_7 rfl ?_
  refine V.topi (fun z1 e1 => ?_)
  refine V.if_neB (tgt := 19) F e1 dX7_sceneOf_10 (by decide) (fun c2 => ?_) (fun c2 => ?_)
  · skip
    subst e1; exact absurd c2 h
  · skip
    refine V.aload_n F dX7_sceneOf_13 rfl (lv_at hl 0 rfl) ?_
    refine V.iconst (v := nI 1) F dX7_sceneOf_14 (by decide) ?_
    refine V.wsV (q0 := 0) (ws' := mdW E a (nI 1) sm ln pl hs s S b w) F hE hN (pm_eq (by rfl)) (c_X7_fails l E) (kX7_33 F.2.2.2.2 ⟨Nat.le_of_ble_eq_true rfl, Nat.le_of_ble_eq_true rfl⟩) rfl rfl 0 5 (by rfl) (by rfl) rfl hl.1 (Nat.le_of_ble_eq_true rfl) dX7_sceneOf_15 rfl ?_
    refine V.topi (fun z3 e3 => ?_)
    exact V.iretW F hr hk dX7_sceneOf_18 (by subst e1 e3; first | with_reducible rfl | (simp only [oi1n, nI_add]; done) | (simp only [c2, oi1n, nI_add, pk_mul, if_true, if_false, ↓reduceIte]; done) | (simp only [c2, oi1n, nI_add, pk_mul, bI, and_true, true_and, and_false, false_and, and_self, not_true_eq_false, not_false_eq_true, if_true, if_false, ↓reduceIte] <;> rfl)) (by subst e1 e3; first | with_reducible rfl | (simp only [oi1n, nI_add]; done) | (simp only [c2, oi1n, nI_add, pk_mul, if_true, if_false, ↓reduceIte]; done) | (simp only [c2, oi1n, nI_add, pk_mul, bI, and_true, true_and, and_false, false_and, and_self, not_true_eq_false, not_false_eq_true, if_true, if_false, ↓reduceIte] <;> rfl))
set_option maxHeartbeats 4000000 in
set_option maxRecDepth 100000 in
theorem c_X7_sceneOf_e2 (l : Launch) (E : EV) {a : Nat → Nat} {th sm ln pl : Int32} {hs : Int64} {s S b w : Nat → Int32} {x w0 : Int32} (h1 : nI 0 ≤ x ∧ x ≤ s 4 - nI 1) (h : ¬ (nI 0 ≤ w0 ∧ w0 ≤ nI 5)) : Wr l E yX7_sceneOf cX7_sceneOf 3 (some .int) 6 144 [.ref (a 0), .int x, .int w0] (mdW E a th sm ln pl hs s S b w) (mdW E a (nI 2) sm ln pl hs s S b w) (some (.int (nI 0))) := by
  refine Wr.mk0 (by decide) (Nat.le_of_ble_eq_true rfl) ?_
  intro pP eE sS mM aA bB mt cC F hr hk hE hN ls hl
  have hl : lv_has ls 3 [(0, .ref (a 0)), (1, .int x), (2, .int w0)] := hl
  refine V.aload_n F dX7_sceneOf_0 rfl (lv_at hl 0 rfl) ?_
  refine V.iconst (v := nI 0) F dX7_sceneOf_1 (by decide) ?_
  refine V.putf (ws' := mdW E a (nI 0) sm ln pl hs s S b w) F hE hN (by rfl) pX7_22 rfl rfl 0 rfl (by exact Nat.le_of_ble_eq_true rfl) dX7_sceneOf_2 rfl ?_
  refine V.aload_n F dX7_sceneOf_5 rfl (lv_at hl 0 rfl) ?_
  refine V.iload_n F dX7_sceneOf_6 rfl (lv_at hl 1 rfl) ?_
  refine V.rdV (q0 := 0) F hE (c_X7_isScene l E) (kX7_115 F.2.2.2.2 ⟨Nat.le_of_ble_eq_true rfl, Nat.le_of_ble_eq_true rfl⟩) rfl rfl [0, 1, 2, 3, 4] rfl rfl hl.1 (Nat.le_of_ble_eq_true rfl) dX7_sceneOf_7 rfl ?_
  refine V.topi (fun z1 e1 => ?_)
  refine V.if_neB (tgt := 19) F e1 dX7_sceneOf_10 (by decide) (fun c2 => ?_) (fun c2 => ?_)
  · skip
    refine V.iload_n F dX7_sceneOf_19 rfl (lv_at hl 2 rfl) ?_
    refine V.iconst (v := nI 0) F dX7_sceneOf_20 (by decide) ?_
    refine V.iconst (v := nI 5) F dX7_sceneOf_21 (by decide) ?_
    refine V.rdS F hE (c_X7_within l E) (kX7_26 F.2.2.2.2 ⟨Nat.le_of_ble_eq_true rfl, Nat.le_of_ble_eq_true rfl⟩) [] rfl rfl hl.1 (Nat.le_of_ble_eq_true rfl) dX7_sceneOf_22 rfl ?_
    refine V.topi (fun z3 e3 => ?_)
    refine V.if_eqB (tgt := 37) F e3 dX7_sceneOf_25 (by decide) (fun c4 => ?_) (fun c4 => ?_)
    · skip
      refine V.aload_n F dX7_sceneOf_37 rfl (lv_at hl 0 rfl) ?_
      refine V.iconst (v := nI 2) F dX7_sceneOf_38 (by decide) ?_
      refine V.wsV (q0 := 0) (ws' := mdW E a (nI 2) sm ln pl hs s S b w) F hE hN (pm_eq (by rfl)) (c_X7_fails l E) (kX7_33 F.2.2.2.2 ⟨Nat.le_of_ble_eq_true rfl, Nat.le_of_ble_eq_true rfl⟩) rfl rfl 0 5 (by rfl) (by rfl) rfl hl.1 (Nat.le_of_ble_eq_true rfl) dX7_sceneOf_39 rfl ?_
      refine V.topi (fun z5 e5 => ?_)
      exact V.iretW F hr hk dX7_sceneOf_42 (by subst e1 e3 e5; first | with_reducible rfl | (simp only [oi1n, nI_add]; done) | (simp only [eq_true c2, c4, oi1n, nI_add, pk_mul, if_true, if_false, ↓reduceIte]; done) | (simp only [eq_true c2, c4, oi1n, nI_add, pk_mul, bI, and_true, true_and, and_false, false_and, and_self, not_true_eq_false, not_false_eq_true, if_true, if_false, ↓reduceIte] <;> rfl)) (by subst e1 e3 e5; first | with_reducible rfl | (simp only [oi1n, nI_add]; done) | (simp only [eq_true c2, c4, oi1n, nI_add, pk_mul, if_true, if_false, ↓reduceIte]; done) | (simp only [eq_true c2, c4, oi1n, nI_add, pk_mul, bI, and_true, true_and, and_false, false_and, and_self, not_true_eq_false, not_false_eq_true, if_true, if_false, ↓reduceIte] <;> rfl))
    · skip
      subst e1 e3; exact absurd c4 h
  · skip
    subst e1; exact absurd h1 c2
set_option maxHeartbeats 4000000 in
set_option maxRecDepth 100000 in
theorem c_X7_count (l : Launch) (E : EV) {a : Nat → Nat} {th sm ln pl : Int32} {hs : Int64} {s S b w : Nat → Int32} {R H C D : Nat} {sn : Nat → Nat} {w0 : Nat} (hM : MI s R H C D sn) (h1 : nI 0 ≤ nI w0 ∧ nI w0 ≤ nI 10) (hw0 : w0 < 11) : Wr l E yX7_count cX7_count 2 (some .int) 7 165 [.ref (a 0), .int (nI w0)] (mdW E a th sm ln pl hs s S b w) (mdW E a (nI 0) sm ln pl hs s S b w) (some (.int (tcM s R H C sn sm w0))) := by
  refine Wr.mk0 (by decide) (Nat.le_of_ble_eq_true rfl) ?_
  intro pP eE sS mM aA bB mt cC F hr hk hE hN ls hl
  have hl : lv_has ls 2 [(0, .ref (a 0)), (1, .int (nI w0))] := hl
  have hM1 := hM
  obtain ⟨hD0, hD, hkR, hR, hh, hH, hs4, hC, hsn⟩ := hM1
  refine V.aload_n F dX7_count_0 rfl (lv_at hl 0 rfl) ?_
  refine V.iconst (v := nI 0) F dX7_count_1 (by decide) ?_
  refine V.putf (ws' := mdW E a (nI 0) sm ln pl hs s S b w) F hE hN (by rfl) pX7_22 rfl rfl 0 rfl (by exact Nat.le_of_ble_eq_true rfl) dX7_count_2 rfl ?_
  refine V.iload_n F dX7_count_5 rfl (lv_at hl 1 rfl) ?_
  refine V.iconst (v := nI 0) F dX7_count_6 (by decide) ?_
  refine V.bipush (v := nI 10) F dX7_count_7 (by decide) ?_
  refine V.rdS F hE (c_X7_within l E) (kX7_26 F.2.2.2.2 ⟨Nat.le_of_ble_eq_true rfl, Nat.le_of_ble_eq_true rfl⟩) [] rfl rfl hl.1 (Nat.le_of_ble_eq_true rfl) dX7_count_9 rfl ?_
  refine V.topi (fun z1 e1 => ?_)
  refine V.if_eqB (tgt := 23) F e1 dX7_count_12 (by decide) (fun c2 => ?_) (fun c2 => ?_)
  · skip
    subst e1; exact absurd h1 c2
  · skip
    refine V.aload_n F dX7_count_15 rfl (lv_at hl 0 rfl) ?_
    refine V.iload_n F dX7_count_16 rfl (lv_at hl 1 rfl) ?_
    refine V.rdV (q0 := 0) F hE (c_X7_tellsCount l E hM hw0) (kX7_171 F.2.2.2.2 ⟨Nat.le_of_ble_eq_true rfl, Nat.le_of_ble_eq_true rfl⟩) rfl rfl [0, 1, 2, 3, 4] rfl rfl hl.1 (Nat.le_of_ble_eq_true rfl) dX7_count_17 rfl ?_
    refine V.topi (fun z3 e3 => ?_)
    refine V.goto (tgt := 28) F dX7_count_20 (by decide) ?_
    exact V.iretW F hr hk dX7_count_28 (by subst e1 e3; first | with_reducible rfl | (simp only [oi1n, nI_add]; done) | (simp only [eq_true c2, oi1n, nI_add, pk_mul, if_true, if_false, ↓reduceIte]; done) | (simp only [eq_true c2, oi1n, nI_add, pk_mul, bI, and_true, true_and, and_false, false_and, and_self, not_true_eq_false, not_false_eq_true, if_true, if_false, ↓reduceIte] <;> rfl)) (by subst e1 e3; first | with_reducible rfl | (simp only [oi1n, nI_add]; done) | (simp only [eq_true c2, oi1n, nI_add, pk_mul, if_true, if_false, ↓reduceIte]; done) | (simp only [eq_true c2, oi1n, nI_add, pk_mul, bI, and_true, true_and, and_false, false_and, and_self, not_true_eq_false, not_false_eq_true, if_true, if_false, ↓reduceIte] <;> rfl))
set_option maxHeartbeats 4000000 in
set_option maxRecDepth 100000 in
theorem c_X7_count_e1 (l : Launch) (E : EV) {a : Nat → Nat} {th sm ln pl : Int32} {hs : Int64} {s S b w : Nat → Int32} {w0 : Int32} (h : ¬ (nI 0 ≤ w0 ∧ w0 ≤ nI 10)) : Wr l E yX7_count cX7_count 2 (some .int) 7 165 [.ref (a 0), .int w0] (mdW E a th sm ln pl hs s S b w) (mdW E a (nI 1) sm ln pl hs s S b w) (some (.int (nI 0))) := by
  refine Wr.mk0 (by decide) (Nat.le_of_ble_eq_true rfl) ?_
  intro pP eE sS mM aA bB mt cC F hr hk hE hN ls hl
  have hl : lv_has ls 2 [(0, .ref (a 0)), (1, .int w0)] := hl
  refine V.aload_n F dX7_count_0 rfl (lv_at hl 0 rfl) ?_
  refine V.iconst (v := nI 0) F dX7_count_1 (by decide) ?_
  refine V.putf (ws' := mdW E a (nI 0) sm ln pl hs s S b w) F hE hN (by rfl) pX7_22 rfl rfl 0 rfl (by exact Nat.le_of_ble_eq_true rfl) dX7_count_2 rfl ?_
  refine V.iload_n F dX7_count_5 rfl (lv_at hl 1 rfl) ?_
  refine V.iconst (v := nI 0) F dX7_count_6 (by decide) ?_
  refine V.bipush (v := nI 10) F dX7_count_7 (by decide) ?_
  refine V.rdS F hE (c_X7_within l E) (kX7_26 F.2.2.2.2 ⟨Nat.le_of_ble_eq_true rfl, Nat.le_of_ble_eq_true rfl⟩) [] rfl rfl hl.1 (Nat.le_of_ble_eq_true rfl) dX7_count_9 rfl ?_
  refine V.topi (fun z1 e1 => ?_)
  refine V.if_eqB (tgt := 23) F e1 dX7_count_12 (by decide) (fun c2 => ?_) (fun c2 => ?_)
  · skip
    refine V.aload_n F dX7_count_23 rfl (lv_at hl 0 rfl) ?_
    refine V.iconst (v := nI 1) F dX7_count_24 (by decide) ?_
    refine V.wsV (q0 := 0) (ws' := mdW E a (nI 1) sm ln pl hs s S b w) F hE hN (pm_eq (by rfl)) (c_X7_fails l E) (kX7_33 F.2.2.2.2 ⟨Nat.le_of_ble_eq_true rfl, Nat.le_of_ble_eq_true rfl⟩) rfl rfl 0 5 (by rfl) (by rfl) rfl hl.1 (Nat.le_of_ble_eq_true rfl) dX7_count_25 rfl ?_
    refine V.topi (fun z3 e3 => ?_)
    exact V.iretW F hr hk dX7_count_28 (by subst e1 e3; first | with_reducible rfl | (simp only [oi1n, nI_add]; done) | (simp only [c2, oi1n, nI_add, pk_mul, if_true, if_false, ↓reduceIte]; done) | (simp only [c2, oi1n, nI_add, pk_mul, bI, and_true, true_and, and_false, false_and, and_self, not_true_eq_false, not_false_eq_true, if_true, if_false, ↓reduceIte] <;> rfl)) (by subst e1 e3; first | with_reducible rfl | (simp only [oi1n, nI_add]; done) | (simp only [c2, oi1n, nI_add, pk_mul, if_true, if_false, ↓reduceIte]; done) | (simp only [c2, oi1n, nI_add, pk_mul, bI, and_true, true_and, and_false, false_and, and_self, not_true_eq_false, not_false_eq_true, if_true, if_false, ↓reduceIte] <;> rfl))
  · skip
    subst e1; exact absurd c2 h
set_option maxHeartbeats 4000000 in
set_option maxRecDepth 100000 in
theorem c_X7_refusal (l : Launch) (E : EV) {a : Nat → Nat} {th sm ln pl : Int32} {hs : Int64} {s S b w : Nat → Int32} {R H C D : Nat} {sn : Nat → Nat} {x p : Nat} (hM : MI s R H C D sn) (h1 : nI 0 ≤ nI x ∧ nI x ≤ s 4 - nI 1) (h2 : nI 0 ≤ nI p ∧ nI p ≤ nI 7) (hx0 : x < 10) (hp0 : p < 8) : Wr l E yX7_refusal cX7_refusal 3 (some .int) 4 99 [.ref (a 0), .int (nI x), .int (nI p)] (mdW E a th sm ln pl hs s S b w) (mdW E a (nI 0) sm ln pl hs s S b w) (some (.int (rsM s R H sn x p (s 0)))) := by
  refine Wr.mk0 (by decide) (Nat.le_of_ble_eq_true rfl) ?_
  intro pP eE sS mM aA bB mt cC F hr hk hE hN ls hl
  have hl : lv_has ls 3 [(0, .ref (a 0)), (1, .int (nI x)), (2, .int (nI p))] := hl
  have hM1 := hM
  obtain ⟨hD0, hD, hkR, hR, hh, hH, hs4, hC, hsn⟩ := hM1
  refine V.aload_n F dX7_refusal_0 rfl (lv_at hl 0 rfl) ?_
  refine V.iconst (v := nI 0) F dX7_refusal_1 (by decide) ?_
  refine V.putf (ws' := mdW E a (nI 0) sm ln pl hs s S b w) F hE hN (by rfl) pX7_22 rfl rfl 0 rfl (by exact Nat.le_of_ble_eq_true rfl) dX7_refusal_2 rfl ?_
  refine V.aload_n F dX7_refusal_5 rfl (lv_at hl 0 rfl) ?_
  refine V.iload_n F dX7_refusal_6 rfl (lv_at hl 1 rfl) ?_
  refine V.rdV (q0 := 0) F hE (c_X7_isScene l E) (kX7_115 F.2.2.2.2 ⟨Nat.le_of_ble_eq_true rfl, Nat.le_of_ble_eq_true rfl⟩) rfl rfl [0, 1, 2, 3, 4] rfl rfl hl.1 (Nat.le_of_ble_eq_true rfl) dX7_refusal_7 rfl ?_
  refine V.topi (fun z1 e1 => ?_)
  refine V.if_eqB (tgt := 20) F e1 dX7_refusal_10 (by decide) (fun c2 => ?_) (fun c2 => ?_)
  · skip
    subst e1; exact absurd h1 c2
  · skip
    refine V.iload_n F dX7_refusal_13 rfl (lv_at hl 2 rfl) ?_
    refine V.rdS F hE (c_X7_isPerson l E) (kX7_90 F.2.2.2.2 ⟨Nat.le_of_ble_eq_true rfl, Nat.le_of_ble_eq_true rfl⟩) [] rfl rfl hl.1 (Nat.le_of_ble_eq_true rfl) dX7_refusal_14 rfl ?_
    refine V.topi (fun z3 e3 => ?_)
    refine V.if_neB (tgt := 26) F e3 dX7_refusal_17 (by decide) (fun c4 => ?_) (fun c4 => ?_)
    · skip
      refine V.aload_n F dX7_refusal_26 rfl (lv_at hl 0 rfl) ?_
      refine V.iload_n F dX7_refusal_27 rfl (lv_at hl 1 rfl) ?_
      refine V.iload_n F dX7_refusal_28 rfl (lv_at hl 2 rfl) ?_
      refine V.aload_n F dX7_refusal_29 rfl (lv_at hl 0 rfl) ?_
      refine V.getf F hE gX7_7 0 rfl rfl dX7_refusal_30 ?_
      refine V.iconst (v := nI 0) F dX7_refusal_33 (by decide) ?_
      refine V.iadn (i := 0) F hE 1 rfl (by omega) (by omega) dX7_refusal_34 (fun z5 e5 => ?_)
      refine V.rdV (q0 := 0) F hE (c_X7_reason l E hM hx0 hp0) (kX7_87 F.2.2.2.2 ⟨Nat.le_of_ble_eq_true rfl, Nat.le_of_ble_eq_true rfl⟩) rfl rfl [0, 1, 2, 3, 4] rfl rfl hl.1 (Nat.le_of_ble_eq_true rfl) dX7_refusal_35 rfl ?_
      refine V.topi (fun z6 e6 => ?_)
      exact V.iretW F hr hk dX7_refusal_38 (by subst e1 e3 e5 e6; first | with_reducible rfl | (simp only [oi1n, nI_add]; done) | (simp only [eq_true c2, eq_true c4, oi1n, nI_add, pk_mul, if_true, if_false, ↓reduceIte]; done) | (simp only [eq_true c2, eq_true c4, oi1n, nI_add, pk_mul, bI, and_true, true_and, and_false, false_and, and_self, not_true_eq_false, not_false_eq_true, if_true, if_false, ↓reduceIte] <;> rfl)) (by subst e1 e3 e5 e6; first | with_reducible rfl | (simp only [oi1n, nI_add]; done) | (simp only [eq_true c2, eq_true c4, oi1n, nI_add, pk_mul, if_true, if_false, ↓reduceIte]; done) | (simp only [eq_true c2, eq_true c4, oi1n, nI_add, pk_mul, bI, and_true, true_and, and_false, false_and, and_self, not_true_eq_false, not_false_eq_true, if_true, if_false, ↓reduceIte] <;> rfl))
    · skip
      subst e1 e3; exact absurd h2 c4
set_option maxHeartbeats 4000000 in
set_option maxRecDepth 100000 in
theorem c_X7_refusal_e1 (l : Launch) (E : EV) {a : Nat → Nat} {th sm ln pl : Int32} {hs : Int64} {s S b w : Nat → Int32} {x p : Int32} (h : ¬ ((nI 0 ≤ x ∧ x ≤ s 4 - nI 1) ∧ (nI 0 ≤ p ∧ p ≤ nI 7))) : Wr l E yX7_refusal cX7_refusal 3 (some .int) 4 99 [.ref (a 0), .int x, .int p] (mdW E a th sm ln pl hs s S b w) (mdW E a (nI 1) sm ln pl hs s S b w) (some (.int (nI 0))) := by
  refine Wr.mk0 (by decide) (Nat.le_of_ble_eq_true rfl) ?_
  intro pP eE sS mM aA bB mt cC F hr hk hE hN ls hl
  have hl : lv_has ls 3 [(0, .ref (a 0)), (1, .int x), (2, .int p)] := hl
  refine V.aload_n F dX7_refusal_0 rfl (lv_at hl 0 rfl) ?_
  refine V.iconst (v := nI 0) F dX7_refusal_1 (by decide) ?_
  refine V.putf (ws' := mdW E a (nI 0) sm ln pl hs s S b w) F hE hN (by rfl) pX7_22 rfl rfl 0 rfl (by exact Nat.le_of_ble_eq_true rfl) dX7_refusal_2 rfl ?_
  refine V.aload_n F dX7_refusal_5 rfl (lv_at hl 0 rfl) ?_
  refine V.iload_n F dX7_refusal_6 rfl (lv_at hl 1 rfl) ?_
  refine V.rdV (q0 := 0) F hE (c_X7_isScene l E) (kX7_115 F.2.2.2.2 ⟨Nat.le_of_ble_eq_true rfl, Nat.le_of_ble_eq_true rfl⟩) rfl rfl [0, 1, 2, 3, 4] rfl rfl hl.1 (Nat.le_of_ble_eq_true rfl) dX7_refusal_7 rfl ?_
  refine V.topi (fun z1 e1 => ?_)
  refine V.if_eqB (tgt := 20) F e1 dX7_refusal_10 (by decide) (fun c2 => ?_) (fun c2 => ?_)
  · skip
    refine V.aload_n F dX7_refusal_20 rfl (lv_at hl 0 rfl) ?_
    refine V.iconst (v := nI 1) F dX7_refusal_21 (by decide) ?_
    refine V.wsV (q0 := 0) (ws' := mdW E a (nI 1) sm ln pl hs s S b w) F hE hN (pm_eq (by rfl)) (c_X7_fails l E) (kX7_33 F.2.2.2.2 ⟨Nat.le_of_ble_eq_true rfl, Nat.le_of_ble_eq_true rfl⟩) rfl rfl 0 5 (by rfl) (by rfl) rfl hl.1 (Nat.le_of_ble_eq_true rfl) dX7_refusal_22 rfl ?_
    refine V.topi (fun z3 e3 => ?_)
    exact V.iretW F hr hk dX7_refusal_25 (by subst e1 e3; first | with_reducible rfl | (simp only [oi1n, nI_add]; done) | (simp only [c2, oi1n, nI_add, pk_mul, if_true, if_false, ↓reduceIte]; done) | (simp only [c2, oi1n, nI_add, pk_mul, bI, and_true, true_and, and_false, false_and, and_self, not_true_eq_false, not_false_eq_true, if_true, if_false, ↓reduceIte] <;> rfl)) (by subst e1 e3; first | with_reducible rfl | (simp only [oi1n, nI_add]; done) | (simp only [c2, oi1n, nI_add, pk_mul, if_true, if_false, ↓reduceIte]; done) | (simp only [c2, oi1n, nI_add, pk_mul, bI, and_true, true_and, and_false, false_and, and_self, not_true_eq_false, not_false_eq_true, if_true, if_false, ↓reduceIte] <;> rfl))
  · skip
    refine V.iload_n F dX7_refusal_13 rfl (lv_at hl 2 rfl) ?_
    refine V.rdS F hE (c_X7_isPerson l E) (kX7_90 F.2.2.2.2 ⟨Nat.le_of_ble_eq_true rfl, Nat.le_of_ble_eq_true rfl⟩) [] rfl rfl hl.1 (Nat.le_of_ble_eq_true rfl) dX7_refusal_14 rfl ?_
    refine V.topi (fun z4 e4 => ?_)
    refine V.if_neB (tgt := 26) F e4 dX7_refusal_17 (by decide) (fun c5 => ?_) (fun c5 => ?_)
    · skip
      subst e1 e4; exact absurd ⟨c2, c5⟩ h
    · skip
      refine V.aload_n F dX7_refusal_20 rfl (lv_at hl 0 rfl) ?_
      refine V.iconst (v := nI 1) F dX7_refusal_21 (by decide) ?_
      refine V.wsV (q0 := 0) (ws' := mdW E a (nI 1) sm ln pl hs s S b w) F hE hN (pm_eq (by rfl)) (c_X7_fails l E) (kX7_33 F.2.2.2.2 ⟨Nat.le_of_ble_eq_true rfl, Nat.le_of_ble_eq_true rfl⟩) rfl rfl 0 5 (by rfl) (by rfl) rfl hl.1 (Nat.le_of_ble_eq_true rfl) dX7_refusal_22 rfl ?_
      refine V.topi (fun z6 e6 => ?_)
      exact V.iretW F hr hk dX7_refusal_25 (by subst e1 e4 e6; first | with_reducible rfl | (simp only [oi1n, nI_add]; done) | (simp only [eq_true c2, c5, oi1n, nI_add, pk_mul, if_true, if_false, ↓reduceIte]; done) | (simp only [eq_true c2, c5, oi1n, nI_add, pk_mul, bI, and_true, true_and, and_false, false_and, and_self, not_true_eq_false, not_false_eq_true, if_true, if_false, ↓reduceIte] <;> rfl)) (by subst e1 e4 e6; first | with_reducible rfl | (simp only [oi1n, nI_add]; done) | (simp only [eq_true c2, c5, oi1n, nI_add, pk_mul, if_true, if_false, ↓reduceIte]; done) | (simp only [eq_true c2, c5, oi1n, nI_add, pk_mul, bI, and_true, true_and, and_false, false_and, and_self, not_true_eq_false, not_false_eq_true, if_true, if_false, ↓reduceIte] <;> rfl))
set_option maxHeartbeats 4000000 in
set_option maxRecDepth 100000 in
theorem c_X7_soonest (l : Launch) (E : EV) {a : Nat → Nat} {th sm ln pl : Int32} {hs : Int64} {s S b w : Nat → Int32} {R H C D : Nat} {sn : Nat → Nat} {x p : Nat} (hM : MI s R H C D sn) (h1 : nI 0 ≤ nI x ∧ nI x ≤ s 4 - nI 1) (h2 : nI 0 ≤ nI p ∧ nI p ≤ nI 7) (hx0 : x < 10) (hp0 : p < 8) : Wr l E yX7_soonest cX7_soonest 3 (some .int) 5 122 [.ref (a 0), .int (nI x), .int (nI p)] (mdW E a th sm ln pl hs s S b w) (mdW E a (nI 0) sm ln pl hs s S b w) (some (.int (fdM s R H sn x p 61 D))) := by
  refine Wr.mk0 (by decide) (Nat.le_of_ble_eq_true rfl) ?_
  intro pP eE sS mM aA bB mt cC F hr hk hE hN ls hl
  have hl : lv_has ls 3 [(0, .ref (a 0)), (1, .int (nI x)), (2, .int (nI p))] := hl
  have hM1 := hM
  obtain ⟨hD0, hD, hkR, hR, hh, hH, hs4, hC, hsn⟩ := hM1
  refine V.aload_n F dX7_soonest_0 rfl (lv_at hl 0 rfl) ?_
  refine V.iconst (v := nI 0) F dX7_soonest_1 (by decide) ?_
  refine V.putf (ws' := mdW E a (nI 0) sm ln pl hs s S b w) F hE hN (by rfl) pX7_22 rfl rfl 0 rfl (by exact Nat.le_of_ble_eq_true rfl) dX7_soonest_2 rfl ?_
  refine V.aload_n F dX7_soonest_5 rfl (lv_at hl 0 rfl) ?_
  refine V.iload_n F dX7_soonest_6 rfl (lv_at hl 1 rfl) ?_
  refine V.rdV (q0 := 0) F hE (c_X7_isScene l E) (kX7_115 F.2.2.2.2 ⟨Nat.le_of_ble_eq_true rfl, Nat.le_of_ble_eq_true rfl⟩) rfl rfl [0, 1, 2, 3, 4] rfl rfl hl.1 (Nat.le_of_ble_eq_true rfl) dX7_soonest_7 rfl ?_
  refine V.topi (fun z1 e1 => ?_)
  refine V.if_eqB (tgt := 29) F e1 dX7_soonest_10 (by decide) (fun c2 => ?_) (fun c2 => ?_)
  · skip
    subst e1; exact absurd h1 c2
  · skip
    refine V.iload_n F dX7_soonest_13 rfl (lv_at hl 2 rfl) ?_
    refine V.rdS F hE (c_X7_isPerson l E) (kX7_90 F.2.2.2.2 ⟨Nat.le_of_ble_eq_true rfl, Nat.le_of_ble_eq_true rfl⟩) [] rfl rfl hl.1 (Nat.le_of_ble_eq_true rfl) dX7_soonest_14 rfl ?_
    refine V.topi (fun z3 e3 => ?_)
    refine V.if_eqB (tgt := 29) F e3 dX7_soonest_17 (by decide) (fun c4 => ?_) (fun c4 => ?_)
    · skip
      subst e1 e3; exact absurd h2 c4
    · skip
      refine V.aload_n F dX7_soonest_20 rfl (lv_at hl 0 rfl) ?_
      refine V.iload_n F dX7_soonest_21 rfl (lv_at hl 1 rfl) ?_
      refine V.iload_n F dX7_soonest_22 rfl (lv_at hl 2 rfl) ?_
      refine V.rdV (q0 := 0) F hE (c_X7_firstDay l E hM hx0 hp0) (kX7_174 F.2.2.2.2 ⟨Nat.le_of_ble_eq_true rfl, Nat.le_of_ble_eq_true rfl⟩) rfl rfl [0, 1, 2, 3, 4] rfl rfl hl.1 (Nat.le_of_ble_eq_true rfl) dX7_soonest_23 rfl ?_
      refine V.topi (fun z5 e5 => ?_)
      refine V.goto (tgt := 34) F dX7_soonest_26 (by decide) ?_
      exact V.iretW F hr hk dX7_soonest_34 (by subst e1 e3 e5; first | with_reducible rfl | (simp only [oi1n, nI_add]; done) | (simp only [eq_true c2, eq_true c4, oi1n, nI_add, pk_mul, if_true, if_false, ↓reduceIte]; done) | (simp only [eq_true c2, eq_true c4, oi1n, nI_add, pk_mul, bI, and_true, true_and, and_false, false_and, and_self, not_true_eq_false, not_false_eq_true, if_true, if_false, ↓reduceIte] <;> rfl)) (by subst e1 e3 e5; first | with_reducible rfl | (simp only [oi1n, nI_add]; done) | (simp only [eq_true c2, eq_true c4, oi1n, nI_add, pk_mul, if_true, if_false, ↓reduceIte]; done) | (simp only [eq_true c2, eq_true c4, oi1n, nI_add, pk_mul, bI, and_true, true_and, and_false, false_and, and_self, not_true_eq_false, not_false_eq_true, if_true, if_false, ↓reduceIte] <;> rfl))
set_option maxHeartbeats 4000000 in
set_option maxRecDepth 100000 in
theorem c_X7_soonest_e1 (l : Launch) (E : EV) {a : Nat → Nat} {th sm ln pl : Int32} {hs : Int64} {s S b w : Nat → Int32} {x p : Int32} (h : ¬ ((nI 0 ≤ x ∧ x ≤ s 4 - nI 1) ∧ (nI 0 ≤ p ∧ p ≤ nI 7))) : Wr l E yX7_soonest cX7_soonest 3 (some .int) 5 122 [.ref (a 0), .int x, .int p] (mdW E a th sm ln pl hs s S b w) (mdW E a (nI 1) sm ln pl hs s S b w) (some (.int (nI 0))) := by
  refine Wr.mk0 (by decide) (Nat.le_of_ble_eq_true rfl) ?_
  intro pP eE sS mM aA bB mt cC F hr hk hE hN ls hl
  have hl : lv_has ls 3 [(0, .ref (a 0)), (1, .int x), (2, .int p)] := hl
  refine V.aload_n F dX7_soonest_0 rfl (lv_at hl 0 rfl) ?_
  refine V.iconst (v := nI 0) F dX7_soonest_1 (by decide) ?_
  refine V.putf (ws' := mdW E a (nI 0) sm ln pl hs s S b w) F hE hN (by rfl) pX7_22 rfl rfl 0 rfl (by exact Nat.le_of_ble_eq_true rfl) dX7_soonest_2 rfl ?_
  refine V.aload_n F dX7_soonest_5 rfl (lv_at hl 0 rfl) ?_
  refine V.iload_n F dX7_soonest_6 rfl (lv_at hl 1 rfl) ?_
  refine V.rdV (q0 := 0) F hE (c_X7_isScene l E) (kX7_115 F.2.2.2.2 ⟨Nat.le_of_ble_eq_true rfl, Nat.le_of_ble_eq_true rfl⟩) rfl rfl [0, 1, 2, 3, 4] rfl rfl hl.1 (Nat.le_of_ble_eq_true rfl) dX7_soonest_7 rfl ?_
  refine V.topi (fun z1 e1 => ?_)
  refine V.if_eqB (tgt := 29) F e1 dX7_soonest_10 (by decide) (fun c2 => ?_) (fun c2 => ?_)
  · skip
    refine V.aload_n F dX7_soonest_29 rfl (lv_at hl 0 rfl) ?_
    refine V.iconst (v := nI 1) F dX7_soonest_30 (by decide) ?_
    refine V.wsV (q0 := 0) (ws' := mdW E a (nI 1) sm ln pl hs s S b w) F hE hN (pm_eq (by rfl)) (c_X7_fails l E) (kX7_33 F.2.2.2.2 ⟨Nat.le_of_ble_eq_true rfl, Nat.le_of_ble_eq_true rfl⟩) rfl rfl 0 5 (by rfl) (by rfl) rfl hl.1 (Nat.le_of_ble_eq_true rfl) dX7_soonest_31 rfl ?_
    refine V.topi (fun z3 e3 => ?_)
    exact V.iretW F hr hk dX7_soonest_34 (by subst e1 e3; first | with_reducible rfl | (simp only [oi1n, nI_add]; done) | (simp only [c2, oi1n, nI_add, pk_mul, if_true, if_false, ↓reduceIte]; done) | (simp only [c2, oi1n, nI_add, pk_mul, bI, and_true, true_and, and_false, false_and, and_self, not_true_eq_false, not_false_eq_true, if_true, if_false, ↓reduceIte] <;> rfl)) (by subst e1 e3; first | with_reducible rfl | (simp only [oi1n, nI_add]; done) | (simp only [c2, oi1n, nI_add, pk_mul, if_true, if_false, ↓reduceIte]; done) | (simp only [c2, oi1n, nI_add, pk_mul, bI, and_true, true_and, and_false, false_and, and_self, not_true_eq_false, not_false_eq_true, if_true, if_false, ↓reduceIte] <;> rfl))
  · skip
    refine V.iload_n F dX7_soonest_13 rfl (lv_at hl 2 rfl) ?_
    refine V.rdS F hE (c_X7_isPerson l E) (kX7_90 F.2.2.2.2 ⟨Nat.le_of_ble_eq_true rfl, Nat.le_of_ble_eq_true rfl⟩) [] rfl rfl hl.1 (Nat.le_of_ble_eq_true rfl) dX7_soonest_14 rfl ?_
    refine V.topi (fun z4 e4 => ?_)
    refine V.if_eqB (tgt := 29) F e4 dX7_soonest_17 (by decide) (fun c5 => ?_) (fun c5 => ?_)
    · skip
      refine V.aload_n F dX7_soonest_29 rfl (lv_at hl 0 rfl) ?_
      refine V.iconst (v := nI 1) F dX7_soonest_30 (by decide) ?_
      refine V.wsV (q0 := 0) (ws' := mdW E a (nI 1) sm ln pl hs s S b w) F hE hN (pm_eq (by rfl)) (c_X7_fails l E) (kX7_33 F.2.2.2.2 ⟨Nat.le_of_ble_eq_true rfl, Nat.le_of_ble_eq_true rfl⟩) rfl rfl 0 5 (by rfl) (by rfl) rfl hl.1 (Nat.le_of_ble_eq_true rfl) dX7_soonest_31 rfl ?_
      refine V.topi (fun z6 e6 => ?_)
      exact V.iretW F hr hk dX7_soonest_34 (by subst e1 e4 e6; first | with_reducible rfl | (simp only [oi1n, nI_add]; done) | (simp only [eq_true c2, c5, oi1n, nI_add, pk_mul, if_true, if_false, ↓reduceIte]; done) | (simp only [eq_true c2, c5, oi1n, nI_add, pk_mul, bI, and_true, true_and, and_false, false_and, and_self, not_true_eq_false, not_false_eq_true, if_true, if_false, ↓reduceIte] <;> rfl)) (by subst e1 e4 e6; first | with_reducible rfl | (simp only [oi1n, nI_add]; done) | (simp only [eq_true c2, c5, oi1n, nI_add, pk_mul, if_true, if_false, ↓reduceIte]; done) | (simp only [eq_true c2, c5, oi1n, nI_add, pk_mul, bI, and_true, true_and, and_false, false_and, and_self, not_true_eq_false, not_false_eq_true, if_true, if_false, ↓reduceIte] <;> rfl))
    · skip
      subst e1 e4; exact absurd ⟨c2, c5⟩ h
set_option maxHeartbeats 4000000 in
set_option maxRecDepth 100000 in
theorem c_X7_lacking (l : Launch) (E : EV) {a : Nat → Nat} {th sm ln pl : Int32} {hs : Int64} {s S b w : Nat → Int32} {R H C D : Nat} {sn : Nat → Nat} {p : Int32} {x : Nat} (hM : MI s R H C D sn) (h1 : nI 0 ≤ nI x ∧ nI x ≤ s 4 - nI 1) (h2 : nI 0 ≤ p ∧ p ≤ nI 7) (hx0 : x < 10) : Wr l E yX7_lacking cX7_lacking 3 (some .int) 3 76 [.ref (a 0), .int (nI x), .int p] (mdW E a th sm ln pl hs s S b w) (mdW E a (nI 0) sm ln pl hs s S b w) (some (.int (lkM s R x p (s 0)))) := by
  refine Wr.mk0 (by decide) (Nat.le_of_ble_eq_true rfl) ?_
  intro pP eE sS mM aA bB mt cC F hr hk hE hN ls hl
  have hl : lv_has ls 3 [(0, .ref (a 0)), (1, .int (nI x)), (2, .int p)] := hl
  have hM1 := hM
  obtain ⟨hD0, hD, hkR, hR, hh, hH, hs4, hC, hsn⟩ := hM1
  refine V.aload_n F dX7_lacking_0 rfl (lv_at hl 0 rfl) ?_
  refine V.iconst (v := nI 0) F dX7_lacking_1 (by decide) ?_
  refine V.putf (ws' := mdW E a (nI 0) sm ln pl hs s S b w) F hE hN (by rfl) pX7_22 rfl rfl 0 rfl (by exact Nat.le_of_ble_eq_true rfl) dX7_lacking_2 rfl ?_
  refine V.aload_n F dX7_lacking_5 rfl (lv_at hl 0 rfl) ?_
  refine V.iload_n F dX7_lacking_6 rfl (lv_at hl 1 rfl) ?_
  refine V.rdV (q0 := 0) F hE (c_X7_isScene l E) (kX7_115 F.2.2.2.2 ⟨Nat.le_of_ble_eq_true rfl, Nat.le_of_ble_eq_true rfl⟩) rfl rfl [0, 1, 2, 3, 4] rfl rfl hl.1 (Nat.le_of_ble_eq_true rfl) dX7_lacking_7 rfl ?_
  refine V.topi (fun z1 e1 => ?_)
  refine V.if_eqB (tgt := 35) F e1 dX7_lacking_10 (by decide) (fun c2 => ?_) (fun c2 => ?_)
  · skip
    subst e1; exact absurd h1 c2
  · skip
    refine V.iload_n F dX7_lacking_13 rfl (lv_at hl 2 rfl) ?_
    refine V.rdS F hE (c_X7_isPerson l E) (kX7_90 F.2.2.2.2 ⟨Nat.le_of_ble_eq_true rfl, Nat.le_of_ble_eq_true rfl⟩) [] rfl rfl hl.1 (Nat.le_of_ble_eq_true rfl) dX7_lacking_14 rfl ?_
    refine V.topi (fun z3 e3 => ?_)
    refine V.if_eqB (tgt := 35) F e3 dX7_lacking_17 (by decide) (fun c4 => ?_) (fun c4 => ?_)
    · skip
      subst e1 e3; exact absurd h2 c4
    · skip
      refine V.aload_n F dX7_lacking_20 rfl (lv_at hl 0 rfl) ?_
      refine V.iload_n F dX7_lacking_21 rfl (lv_at hl 1 rfl) ?_
      refine V.iload_n F dX7_lacking_22 rfl (lv_at hl 2 rfl) ?_
      refine V.aload_n F dX7_lacking_23 rfl (lv_at hl 0 rfl) ?_
      refine V.getf F hE gX7_7 0 rfl rfl dX7_lacking_24 ?_
      refine V.iconst (v := nI 0) F dX7_lacking_27 (by decide) ?_
      refine V.iadn (i := 0) F hE 1 rfl (by omega) (by omega) dX7_lacking_28 (fun z5 e5 => ?_)
      refine V.rdV (q0 := 0) F hE (c_X7_lacks l E hM hx0) (kX7_83 F.2.2.2.2 ⟨Nat.le_of_ble_eq_true rfl, Nat.le_of_ble_eq_true rfl⟩) rfl rfl [0, 1, 2, 3, 4] rfl rfl hl.1 (Nat.le_of_ble_eq_true rfl) dX7_lacking_29 rfl ?_
      refine V.topi (fun z6 e6 => ?_)
      refine V.goto (tgt := 40) F dX7_lacking_32 (by decide) ?_
      exact V.iretW F hr hk dX7_lacking_40 (by subst e1 e3 e5 e6; first | with_reducible rfl | (simp only [oi1n, nI_add]; done) | (simp only [eq_true c2, eq_true c4, oi1n, nI_add, pk_mul, if_true, if_false, ↓reduceIte]; done) | (simp only [eq_true c2, eq_true c4, oi1n, nI_add, pk_mul, bI, and_true, true_and, and_false, false_and, and_self, not_true_eq_false, not_false_eq_true, if_true, if_false, ↓reduceIte] <;> rfl)) (by subst e1 e3 e5 e6; first | with_reducible rfl | (simp only [oi1n, nI_add]; done) | (simp only [eq_true c2, eq_true c4, oi1n, nI_add, pk_mul, if_true, if_false, ↓reduceIte]; done) | (simp only [eq_true c2, eq_true c4, oi1n, nI_add, pk_mul, bI, and_true, true_and, and_false, false_and, and_self, not_true_eq_false, not_false_eq_true, if_true, if_false, ↓reduceIte] <;> rfl))
set_option maxHeartbeats 4000000 in
set_option maxRecDepth 100000 in
theorem c_X7_lacking_e1 (l : Launch) (E : EV) {a : Nat → Nat} {th sm ln pl : Int32} {hs : Int64} {s S b w : Nat → Int32} {x p : Int32} (h : ¬ ((nI 0 ≤ x ∧ x ≤ s 4 - nI 1) ∧ (nI 0 ≤ p ∧ p ≤ nI 7))) : Wr l E yX7_lacking cX7_lacking 3 (some .int) 3 76 [.ref (a 0), .int x, .int p] (mdW E a th sm ln pl hs s S b w) (mdW E a (nI 1) sm ln pl hs s S b w) (some (.int (nI 0))) := by
  refine Wr.mk0 (by decide) (Nat.le_of_ble_eq_true rfl) ?_
  intro pP eE sS mM aA bB mt cC F hr hk hE hN ls hl
  have hl : lv_has ls 3 [(0, .ref (a 0)), (1, .int x), (2, .int p)] := hl
  refine V.aload_n F dX7_lacking_0 rfl (lv_at hl 0 rfl) ?_
  refine V.iconst (v := nI 0) F dX7_lacking_1 (by decide) ?_
  refine V.putf (ws' := mdW E a (nI 0) sm ln pl hs s S b w) F hE hN (by rfl) pX7_22 rfl rfl 0 rfl (by exact Nat.le_of_ble_eq_true rfl) dX7_lacking_2 rfl ?_
  refine V.aload_n F dX7_lacking_5 rfl (lv_at hl 0 rfl) ?_
  refine V.iload_n F dX7_lacking_6 rfl (lv_at hl 1 rfl) ?_
  refine V.rdV (q0 := 0) F hE (c_X7_isScene l E) (kX7_115 F.2.2.2.2 ⟨Nat.le_of_ble_eq_true rfl, Nat.le_of_ble_eq_true rfl⟩) rfl rfl [0, 1, 2, 3, 4] rfl rfl hl.1 (Nat.le_of_ble_eq_true rfl) dX7_lacking_7 rfl ?_
  refine V.topi (fun z1 e1 => ?_)
  refine V.if_eqB (tgt := 35) F e1 dX7_lacking_10 (by decide) (fun c2 => ?_) (fun c2 => ?_)
  · skip
    refine V.aload_n F dX7_lacking_35 rfl (lv_at hl 0 rfl) ?_
    refine V.iconst (v := nI 1) F dX7_lacking_36 (by decide) ?_
    refine V.wsV (q0 := 0) (ws' := mdW E a (nI 1) sm ln pl hs s S b w) F hE hN (pm_eq (by rfl)) (c_X7_fails l E) (kX7_33 F.2.2.2.2 ⟨Nat.le_of_ble_eq_true rfl, Nat.le_of_ble_eq_true rfl⟩) rfl rfl 0 5 (by rfl) (by rfl) rfl hl.1 (Nat.le_of_ble_eq_true rfl) dX7_lacking_37 rfl ?_
    refine V.topi (fun z3 e3 => ?_)
    exact V.iretW F hr hk dX7_lacking_40 (by subst e1 e3; first | with_reducible rfl | (simp only [oi1n, nI_add]; done) | (simp only [c2, oi1n, nI_add, pk_mul, if_true, if_false, ↓reduceIte]; done) | (simp only [c2, oi1n, nI_add, pk_mul, bI, and_true, true_and, and_false, false_and, and_self, not_true_eq_false, not_false_eq_true, if_true, if_false, ↓reduceIte] <;> rfl)) (by subst e1 e3; first | with_reducible rfl | (simp only [oi1n, nI_add]; done) | (simp only [c2, oi1n, nI_add, pk_mul, if_true, if_false, ↓reduceIte]; done) | (simp only [c2, oi1n, nI_add, pk_mul, bI, and_true, true_and, and_false, false_and, and_self, not_true_eq_false, not_false_eq_true, if_true, if_false, ↓reduceIte] <;> rfl))
  · skip
    refine V.iload_n F dX7_lacking_13 rfl (lv_at hl 2 rfl) ?_
    refine V.rdS F hE (c_X7_isPerson l E) (kX7_90 F.2.2.2.2 ⟨Nat.le_of_ble_eq_true rfl, Nat.le_of_ble_eq_true rfl⟩) [] rfl rfl hl.1 (Nat.le_of_ble_eq_true rfl) dX7_lacking_14 rfl ?_
    refine V.topi (fun z4 e4 => ?_)
    refine V.if_eqB (tgt := 35) F e4 dX7_lacking_17 (by decide) (fun c5 => ?_) (fun c5 => ?_)
    · skip
      refine V.aload_n F dX7_lacking_35 rfl (lv_at hl 0 rfl) ?_
      refine V.iconst (v := nI 1) F dX7_lacking_36 (by decide) ?_
      refine V.wsV (q0 := 0) (ws' := mdW E a (nI 1) sm ln pl hs s S b w) F hE hN (pm_eq (by rfl)) (c_X7_fails l E) (kX7_33 F.2.2.2.2 ⟨Nat.le_of_ble_eq_true rfl, Nat.le_of_ble_eq_true rfl⟩) rfl rfl 0 5 (by rfl) (by rfl) rfl hl.1 (Nat.le_of_ble_eq_true rfl) dX7_lacking_37 rfl ?_
      refine V.topi (fun z6 e6 => ?_)
      exact V.iretW F hr hk dX7_lacking_40 (by subst e1 e4 e6; first | with_reducible rfl | (simp only [oi1n, nI_add]; done) | (simp only [eq_true c2, c5, oi1n, nI_add, pk_mul, if_true, if_false, ↓reduceIte]; done) | (simp only [eq_true c2, c5, oi1n, nI_add, pk_mul, bI, and_true, true_and, and_false, false_and, and_self, not_true_eq_false, not_false_eq_true, if_true, if_false, ↓reduceIte] <;> rfl)) (by subst e1 e4 e6; first | with_reducible rfl | (simp only [oi1n, nI_add]; done) | (simp only [eq_true c2, c5, oi1n, nI_add, pk_mul, if_true, if_false, ↓reduceIte]; done) | (simp only [eq_true c2, c5, oi1n, nI_add, pk_mul, bI, and_true, true_and, and_false, false_and, and_self, not_true_eq_false, not_false_eq_true, if_true, if_false, ↓reduceIte] <;> rfl))
    · skip
      subst e1 e4; exact absurd ⟨c2, c5⟩ h
set_option maxHeartbeats 4000000 in
set_option maxRecDepth 100000 in
theorem c_X7_best (l : Launch) (E : EV) {a : Nat → Nat} {th sm ln pl : Int32} {hs : Int64} {s S b w : Nat → Int32} {R H C D : Nat} {sn : Nat → Nat} {x : Nat} (hM : MI s R H C D sn) (h1 : nI 0 ≤ nI x ∧ nI x ≤ s 4 - nI 1) (hx0 : x < 10) : Wr l E yX7_best cX7_best 2 (some .int) 5 124 [.ref (a 0), .int (nI x)] (mdW E a th sm ln pl hs s S b w) (mdW E a (nI 0) sm ln pl hs s S b w) (some (.int (bsM s R H sn x))) := by
  refine Wr.mk0 (by decide) (Nat.le_of_ble_eq_true rfl) ?_
  intro pP eE sS mM aA bB mt cC F hr hk hE hN ls hl
  have hl : lv_has ls 2 [(0, .ref (a 0)), (1, .int (nI x))] := hl
  have hM1 := hM
  obtain ⟨hD0, hD, hkR, hR, hh, hH, hs4, hC, hsn⟩ := hM1
  refine V.aload_n F dX7_best_0 rfl (lv_at hl 0 rfl) ?_
  refine V.iconst (v := nI 0) F dX7_best_1 (by decide) ?_
  refine V.putf (ws' := mdW E a (nI 0) sm ln pl hs s S b w) F hE hN (by rfl) pX7_22 rfl rfl 0 rfl (by exact Nat.le_of_ble_eq_true rfl) dX7_best_2 rfl ?_
  refine V.aload_n F dX7_best_5 rfl (lv_at hl 0 rfl) ?_
  refine V.iload_n F dX7_best_6 rfl (lv_at hl 1 rfl) ?_
  refine V.rdV (q0 := 0) F hE (c_X7_isScene l E) (kX7_115 F.2.2.2.2 ⟨Nat.le_of_ble_eq_true rfl, Nat.le_of_ble_eq_true rfl⟩) rfl rfl [0, 1, 2, 3, 4] rfl rfl hl.1 (Nat.le_of_ble_eq_true rfl) dX7_best_7 rfl ?_
  refine V.topi (fun z1 e1 => ?_)
  refine V.if_eqB (tgt := 21) F e1 dX7_best_10 (by decide) (fun c2 => ?_) (fun c2 => ?_)
  · skip
    subst e1; exact absurd h1 c2
  · skip
    refine V.aload_n F dX7_best_13 rfl (lv_at hl 0 rfl) ?_
    refine V.iload_n F dX7_best_14 rfl (lv_at hl 1 rfl) ?_
    refine V.rdV (q0 := 0) F hE (c_X7_bestFor l E hM hx0) (kX7_180 F.2.2.2.2 ⟨Nat.le_of_ble_eq_true rfl, Nat.le_of_ble_eq_true rfl⟩) rfl rfl [0, 1, 2, 3, 4] rfl rfl hl.1 (Nat.le_of_ble_eq_true rfl) dX7_best_15 rfl ?_
    refine V.topi (fun z3 e3 => ?_)
    refine V.goto (tgt := 26) F dX7_best_18 (by decide) ?_
    exact V.iretW F hr hk dX7_best_26 (by subst e1 e3; first | with_reducible rfl | (simp only [oi1n, nI_add]; done) | (simp only [eq_true c2, oi1n, nI_add, pk_mul, if_true, if_false, ↓reduceIte]; done) | (simp only [eq_true c2, oi1n, nI_add, pk_mul, bI, and_true, true_and, and_false, false_and, and_self, not_true_eq_false, not_false_eq_true, if_true, if_false, ↓reduceIte] <;> rfl)) (by subst e1 e3; first | with_reducible rfl | (simp only [oi1n, nI_add]; done) | (simp only [eq_true c2, oi1n, nI_add, pk_mul, if_true, if_false, ↓reduceIte]; done) | (simp only [eq_true c2, oi1n, nI_add, pk_mul, bI, and_true, true_and, and_false, false_and, and_self, not_true_eq_false, not_false_eq_true, if_true, if_false, ↓reduceIte] <;> rfl))
set_option maxHeartbeats 4000000 in
set_option maxRecDepth 100000 in
theorem c_X7_best_e1 (l : Launch) (E : EV) {a : Nat → Nat} {th sm ln pl : Int32} {hs : Int64} {s S b w : Nat → Int32} {x : Int32} (h : ¬ (nI 0 ≤ x ∧ x ≤ s 4 - nI 1)) : Wr l E yX7_best cX7_best 2 (some .int) 5 124 [.ref (a 0), .int x] (mdW E a th sm ln pl hs s S b w) (mdW E a (nI 1) sm ln pl hs s S b w) (some (.int (nI 0))) := by
  refine Wr.mk0 (by decide) (Nat.le_of_ble_eq_true rfl) ?_
  intro pP eE sS mM aA bB mt cC F hr hk hE hN ls hl
  have hl : lv_has ls 2 [(0, .ref (a 0)), (1, .int x)] := hl
  refine V.aload_n F dX7_best_0 rfl (lv_at hl 0 rfl) ?_
  refine V.iconst (v := nI 0) F dX7_best_1 (by decide) ?_
  refine V.putf (ws' := mdW E a (nI 0) sm ln pl hs s S b w) F hE hN (by rfl) pX7_22 rfl rfl 0 rfl (by exact Nat.le_of_ble_eq_true rfl) dX7_best_2 rfl ?_
  refine V.aload_n F dX7_best_5 rfl (lv_at hl 0 rfl) ?_
  refine V.iload_n F dX7_best_6 rfl (lv_at hl 1 rfl) ?_
  refine V.rdV (q0 := 0) F hE (c_X7_isScene l E) (kX7_115 F.2.2.2.2 ⟨Nat.le_of_ble_eq_true rfl, Nat.le_of_ble_eq_true rfl⟩) rfl rfl [0, 1, 2, 3, 4] rfl rfl hl.1 (Nat.le_of_ble_eq_true rfl) dX7_best_7 rfl ?_
  refine V.topi (fun z1 e1 => ?_)
  refine V.if_eqB (tgt := 21) F e1 dX7_best_10 (by decide) (fun c2 => ?_) (fun c2 => ?_)
  · skip
    refine V.aload_n F dX7_best_21 rfl (lv_at hl 0 rfl) ?_
    refine V.iconst (v := nI 1) F dX7_best_22 (by decide) ?_
    refine V.wsV (q0 := 0) (ws' := mdW E a (nI 1) sm ln pl hs s S b w) F hE hN (pm_eq (by rfl)) (c_X7_fails l E) (kX7_33 F.2.2.2.2 ⟨Nat.le_of_ble_eq_true rfl, Nat.le_of_ble_eq_true rfl⟩) rfl rfl 0 5 (by rfl) (by rfl) rfl hl.1 (Nat.le_of_ble_eq_true rfl) dX7_best_23 rfl ?_
    refine V.topi (fun z3 e3 => ?_)
    exact V.iretW F hr hk dX7_best_26 (by subst e1 e3; first | with_reducible rfl | (simp only [oi1n, nI_add]; done) | (simp only [c2, oi1n, nI_add, pk_mul, if_true, if_false, ↓reduceIte]; done) | (simp only [c2, oi1n, nI_add, pk_mul, bI, and_true, true_and, and_false, false_and, and_self, not_true_eq_false, not_false_eq_true, if_true, if_false, ↓reduceIte] <;> rfl)) (by subst e1 e3; first | with_reducible rfl | (simp only [oi1n, nI_add]; done) | (simp only [c2, oi1n, nI_add, pk_mul, if_true, if_false, ↓reduceIte]; done) | (simp only [c2, oi1n, nI_add, pk_mul, bI, and_true, true_and, and_false, false_and, and_self, not_true_eq_false, not_false_eq_true, if_true, if_false, ↓reduceIte] <;> rfl))
  · skip
    subst e1; exact absurd c2 h
set_option maxHeartbeats 4000000 in
set_option maxRecDepth 100000 in
theorem c_X7_cost (l : Launch) (E : EV) {a : Nat → Nat} {th sm ln pl : Int32} {hs : Int64} {s S b w : Nat → Int32} {x y : Int32} (h1 : nI 1 ≤ x ∧ x ≤ nI 5) (h2 : nI 1 ≤ y ∧ y ≤ nI 60) : Wr l E yX7_cost cX7_cost 3 (some .int) 1 23 [.ref (a 0), .int x, .int y] (mdW E a th sm ln pl hs s S b w) (mdW E a (nI 0) sm ln pl hs s S b w) (some (.int (coM s x y))) := by
  refine Wr.mk0 (by decide) (Nat.le_of_ble_eq_true rfl) ?_
  intro pP eE sS mM aA bB mt cC F hr hk hE hN ls hl
  have hl : lv_has ls 3 [(0, .ref (a 0)), (1, .int x), (2, .int y)] := hl
  refine V.aload_n F dX7_cost_0 rfl (lv_at hl 0 rfl) ?_
  refine V.iconst (v := nI 0) F dX7_cost_1 (by decide) ?_
  refine V.putf (ws' := mdW E a (nI 0) sm ln pl hs s S b w) F hE hN (by rfl) pX7_22 rfl rfl 0 rfl (by exact Nat.le_of_ble_eq_true rfl) dX7_cost_2 rfl ?_
  refine V.iload_n F dX7_cost_5 rfl (lv_at hl 1 rfl) ?_
  refine V.iconst (v := nI 1) F dX7_cost_6 (by decide) ?_
  refine V.iconst (v := nI 5) F dX7_cost_7 (by decide) ?_
  refine V.rdS F hE (c_X7_within l E) (kX7_26 F.2.2.2.2 ⟨Nat.le_of_ble_eq_true rfl, Nat.le_of_ble_eq_true rfl⟩) [] rfl rfl hl.1 (Nat.le_of_ble_eq_true rfl) dX7_cost_8 rfl ?_
  refine V.topi (fun z1 e1 => ?_)
  refine V.if_eqB (tgt := 33) F e1 dX7_cost_11 (by decide) (fun c2 => ?_) (fun c2 => ?_)
  · skip
    subst e1; exact absurd h1 c2
  · skip
    refine V.iload_n F dX7_cost_14 rfl (lv_at hl 2 rfl) ?_
    refine V.iconst (v := nI 1) F dX7_cost_15 (by decide) ?_
    refine V.bipush (v := nI 60) F dX7_cost_16 (by decide) ?_
    refine V.rdS F hE (c_X7_within l E) (kX7_26 F.2.2.2.2 ⟨Nat.le_of_ble_eq_true rfl, Nat.le_of_ble_eq_true rfl⟩) [] rfl rfl hl.1 (Nat.le_of_ble_eq_true rfl) dX7_cost_18 rfl ?_
    refine V.topi (fun z3 e3 => ?_)
    refine V.if_eqB (tgt := 33) F e3 dX7_cost_21 (by decide) (fun c4 => ?_) (fun c4 => ?_)
    · skip
      subst e1 e3; exact absurd h2 c4
    · skip
      refine V.aload_n F dX7_cost_24 rfl (lv_at hl 0 rfl) ?_
      refine V.iload_n F dX7_cost_25 rfl (lv_at hl 1 rfl) ?_
      refine V.iload_n F dX7_cost_26 rfl (lv_at hl 2 rfl) ?_
      refine V.rdV (q0 := 0) F hE (c_X7_costOf l E) (kX7_112 F.2.2.2.2 ⟨Nat.le_of_ble_eq_true rfl, Nat.le_of_ble_eq_true rfl⟩) rfl rfl [0, 1, 2, 3, 4] rfl rfl hl.1 (Nat.le_of_ble_eq_true rfl) dX7_cost_27 rfl ?_
      refine V.topi (fun z5 e5 => ?_)
      refine V.goto (tgt := 38) F dX7_cost_30 (by decide) ?_
      exact V.iretW F hr hk dX7_cost_38 (by subst e1 e3 e5; first | with_reducible rfl | (simp only [oi1n, nI_add]; done) | (simp only [eq_true c2, eq_true c4, oi1n, nI_add, pk_mul, if_true, if_false, ↓reduceIte]; done) | (simp only [eq_true c2, eq_true c4, oi1n, nI_add, pk_mul, bI, and_true, true_and, and_false, false_and, and_self, not_true_eq_false, not_false_eq_true, if_true, if_false, ↓reduceIte] <;> rfl)) (by subst e1 e3 e5; first | with_reducible rfl | (simp only [oi1n, nI_add]; done) | (simp only [eq_true c2, eq_true c4, oi1n, nI_add, pk_mul, if_true, if_false, ↓reduceIte]; done) | (simp only [eq_true c2, eq_true c4, oi1n, nI_add, pk_mul, bI, and_true, true_and, and_false, false_and, and_self, not_true_eq_false, not_false_eq_true, if_true, if_false, ↓reduceIte] <;> rfl))
set_option maxHeartbeats 4000000 in
set_option maxRecDepth 100000 in
theorem c_X7_cost_e1 (l : Launch) (E : EV) {a : Nat → Nat} {th sm ln pl : Int32} {hs : Int64} {s S b w : Nat → Int32} {x y : Int32} (h : ¬ ((nI 1 ≤ x ∧ x ≤ nI 5) ∧ (nI 1 ≤ y ∧ y ≤ nI 60))) : Wr l E yX7_cost cX7_cost 3 (some .int) 1 23 [.ref (a 0), .int x, .int y] (mdW E a th sm ln pl hs s S b w) (mdW E a (nI 1) sm ln pl hs s S b w) (some (.int (nI 0))) := by
  refine Wr.mk0 (by decide) (Nat.le_of_ble_eq_true rfl) ?_
  intro pP eE sS mM aA bB mt cC F hr hk hE hN ls hl
  have hl : lv_has ls 3 [(0, .ref (a 0)), (1, .int x), (2, .int y)] := hl
  refine V.aload_n F dX7_cost_0 rfl (lv_at hl 0 rfl) ?_
  refine V.iconst (v := nI 0) F dX7_cost_1 (by decide) ?_
  refine V.putf (ws' := mdW E a (nI 0) sm ln pl hs s S b w) F hE hN (by rfl) pX7_22 rfl rfl 0 rfl (by exact Nat.le_of_ble_eq_true rfl) dX7_cost_2 rfl ?_
  refine V.iload_n F dX7_cost_5 rfl (lv_at hl 1 rfl) ?_
  refine V.iconst (v := nI 1) F dX7_cost_6 (by decide) ?_
  refine V.iconst (v := nI 5) F dX7_cost_7 (by decide) ?_
  refine V.rdS F hE (c_X7_within l E) (kX7_26 F.2.2.2.2 ⟨Nat.le_of_ble_eq_true rfl, Nat.le_of_ble_eq_true rfl⟩) [] rfl rfl hl.1 (Nat.le_of_ble_eq_true rfl) dX7_cost_8 rfl ?_
  refine V.topi (fun z1 e1 => ?_)
  refine V.if_eqB (tgt := 33) F e1 dX7_cost_11 (by decide) (fun c2 => ?_) (fun c2 => ?_)
  · skip
    refine V.aload_n F dX7_cost_33 rfl (lv_at hl 0 rfl) ?_
    refine V.iconst (v := nI 1) F dX7_cost_34 (by decide) ?_
    refine V.wsV (q0 := 0) (ws' := mdW E a (nI 1) sm ln pl hs s S b w) F hE hN (pm_eq (by rfl)) (c_X7_fails l E) (kX7_33 F.2.2.2.2 ⟨Nat.le_of_ble_eq_true rfl, Nat.le_of_ble_eq_true rfl⟩) rfl rfl 0 5 (by rfl) (by rfl) rfl hl.1 (Nat.le_of_ble_eq_true rfl) dX7_cost_35 rfl ?_
    refine V.topi (fun z3 e3 => ?_)
    exact V.iretW F hr hk dX7_cost_38 (by subst e1 e3; first | with_reducible rfl | (simp only [oi1n, nI_add]; done) | (simp only [c2, oi1n, nI_add, pk_mul, if_true, if_false, ↓reduceIte]; done) | (simp only [c2, oi1n, nI_add, pk_mul, bI, and_true, true_and, and_false, false_and, and_self, not_true_eq_false, not_false_eq_true, if_true, if_false, ↓reduceIte] <;> rfl)) (by subst e1 e3; first | with_reducible rfl | (simp only [oi1n, nI_add]; done) | (simp only [c2, oi1n, nI_add, pk_mul, if_true, if_false, ↓reduceIte]; done) | (simp only [c2, oi1n, nI_add, pk_mul, bI, and_true, true_and, and_false, false_and, and_self, not_true_eq_false, not_false_eq_true, if_true, if_false, ↓reduceIte] <;> rfl))
  · skip
    refine V.iload_n F dX7_cost_14 rfl (lv_at hl 2 rfl) ?_
    refine V.iconst (v := nI 1) F dX7_cost_15 (by decide) ?_
    refine V.bipush (v := nI 60) F dX7_cost_16 (by decide) ?_
    refine V.rdS F hE (c_X7_within l E) (kX7_26 F.2.2.2.2 ⟨Nat.le_of_ble_eq_true rfl, Nat.le_of_ble_eq_true rfl⟩) [] rfl rfl hl.1 (Nat.le_of_ble_eq_true rfl) dX7_cost_18 rfl ?_
    refine V.topi (fun z4 e4 => ?_)
    refine V.if_eqB (tgt := 33) F e4 dX7_cost_21 (by decide) (fun c5 => ?_) (fun c5 => ?_)
    · skip
      refine V.aload_n F dX7_cost_33 rfl (lv_at hl 0 rfl) ?_
      refine V.iconst (v := nI 1) F dX7_cost_34 (by decide) ?_
      refine V.wsV (q0 := 0) (ws' := mdW E a (nI 1) sm ln pl hs s S b w) F hE hN (pm_eq (by rfl)) (c_X7_fails l E) (kX7_33 F.2.2.2.2 ⟨Nat.le_of_ble_eq_true rfl, Nat.le_of_ble_eq_true rfl⟩) rfl rfl 0 5 (by rfl) (by rfl) rfl hl.1 (Nat.le_of_ble_eq_true rfl) dX7_cost_35 rfl ?_
      refine V.topi (fun z6 e6 => ?_)
      exact V.iretW F hr hk dX7_cost_38 (by subst e1 e4 e6; first | with_reducible rfl | (simp only [oi1n, nI_add]; done) | (simp only [eq_true c2, c5, oi1n, nI_add, pk_mul, if_true, if_false, ↓reduceIte]; done) | (simp only [eq_true c2, c5, oi1n, nI_add, pk_mul, bI, and_true, true_and, and_false, false_and, and_self, not_true_eq_false, not_false_eq_true, if_true, if_false, ↓reduceIte] <;> rfl)) (by subst e1 e4 e6; first | with_reducible rfl | (simp only [oi1n, nI_add]; done) | (simp only [eq_true c2, c5, oi1n, nI_add, pk_mul, if_true, if_false, ↓reduceIte]; done) | (simp only [eq_true c2, c5, oi1n, nI_add, pk_mul, bI, and_true, true_and, and_false, false_and, and_self, not_true_eq_false, not_false_eq_true, if_true, if_false, ↓reduceIte] <;> rfl))
    · skip
      subst e1 e4; exact absurd ⟨c2, c5⟩ h
set_option maxHeartbeats 4000000 in
set_option maxRecDepth 100000 in
theorem c_X7_ifHurt (l : Launch) (E : EV) {a : Nat → Nat} {th sm ln pl : Int32} {hs : Int64} {s S b w : Nat → Int32} {R H C D : Nat} {sn : Nat → Nat} {p q : Int32} (hM : MI s R H C D sn) (h1 : nI 0 ≤ p ∧ p ≤ nI 7) (h2 : q = nI 1 ∨ q = nI 2 ∨ q = nI 4 ∨ q = nI 8 ∨ q = nI 16 ∨ q = nI 32) : Wr l E yX7_ifHurt cX7_ifHurt 3 (some .int) 6 147 [.ref (a 0), .int p, .int q] (mdW E a th sm ln pl hs s S b w) (mdW E a (nI 0) sm ln pl hs s S b w) (some (.int (stM s R H sn p q C))) := by
  refine Wr.mk0 (by decide) (Nat.le_of_ble_eq_true rfl) ?_
  intro pP eE sS mM aA bB mt cC F hr hk hE hN ls hl
  have hl : lv_has ls 3 [(0, .ref (a 0)), (1, .int p), (2, .int q)] := hl
  have hM1 := hM
  obtain ⟨hD0, hD, hkR, hR, hh, hH, hs4, hC, hsn⟩ := hM1
  refine V.aload_n F dX7_ifHurt_0 rfl (lv_at hl 0 rfl) ?_
  refine V.iconst (v := nI 0) F dX7_ifHurt_1 (by decide) ?_
  refine V.putf (ws' := mdW E a (nI 0) sm ln pl hs s S b w) F hE hN (by rfl) pX7_22 rfl rfl 0 rfl (by exact Nat.le_of_ble_eq_true rfl) dX7_ifHurt_2 rfl ?_
  refine V.iload_n F dX7_ifHurt_5 rfl (lv_at hl 1 rfl) ?_
  refine V.rdS F hE (c_X7_isPerson l E) (kX7_90 F.2.2.2.2 ⟨Nat.le_of_ble_eq_true rfl, Nat.le_of_ble_eq_true rfl⟩) [] rfl rfl hl.1 (Nat.le_of_ble_eq_true rfl) dX7_ifHurt_6 rfl ?_
  refine V.topi (fun z1 e1 => ?_)
  refine V.if_neB (tgt := 18) F e1 dX7_ifHurt_9 (by decide) (fun c2 => ?_) (fun c2 => ?_)
  · skip
    refine V.iload_n F dX7_ifHurt_18 rfl (lv_at hl 2 rfl) ?_
    refine V.rdS F hE (c_X7_isPart l E) (kX7_109 F.2.2.2.2 ⟨Nat.le_of_ble_eq_true rfl, Nat.le_of_ble_eq_true rfl⟩) [] rfl rfl hl.1 (Nat.le_of_ble_eq_true rfl) dX7_ifHurt_19 rfl ?_
    refine V.topi (fun z3 e3 => ?_)
    refine V.if_eqB (tgt := 34) F e3 dX7_ifHurt_22 (by decide) (fun c4 => ?_) (fun c4 => ?_)
    · skip
      subst e1 e3; exact absurd h2 c4
    · skip
      refine V.aload_n F dX7_ifHurt_25 rfl (lv_at hl 0 rfl) ?_
      refine V.iload_n F dX7_ifHurt_26 rfl (lv_at hl 1 rfl) ?_
      refine V.iload_n F dX7_ifHurt_27 rfl (lv_at hl 2 rfl) ?_
      refine V.rdV (q0 := 0) F hE (c_X7_stoppedBy l E hM) (kX7_183 F.2.2.2.2 ⟨Nat.le_of_ble_eq_true rfl, Nat.le_of_ble_eq_true rfl⟩) rfl rfl [0, 1, 2, 3, 4] rfl rfl hl.1 (Nat.le_of_ble_eq_true rfl) dX7_ifHurt_28 rfl ?_
      refine V.topi (fun z5 e5 => ?_)
      refine V.goto (tgt := 39) F dX7_ifHurt_31 (by decide) ?_
      exact V.iretW F hr hk dX7_ifHurt_39 (by subst e1 e3 e5; first | with_reducible rfl | (simp only [oi1n, nI_add]; done) | (simp only [eq_true c2, eq_true c4, oi1n, nI_add, pk_mul, if_true, if_false, ↓reduceIte]; done) | (simp only [eq_true c2, eq_true c4, oi1n, nI_add, pk_mul, bI, and_true, true_and, and_false, false_and, and_self, not_true_eq_false, not_false_eq_true, if_true, if_false, ↓reduceIte] <;> rfl)) (by subst e1 e3 e5; first | with_reducible rfl | (simp only [oi1n, nI_add]; done) | (simp only [eq_true c2, eq_true c4, oi1n, nI_add, pk_mul, if_true, if_false, ↓reduceIte]; done) | (simp only [eq_true c2, eq_true c4, oi1n, nI_add, pk_mul, bI, and_true, true_and, and_false, false_and, and_self, not_true_eq_false, not_false_eq_true, if_true, if_false, ↓reduceIte] <;> rfl))
  · skip
    subst e1; exact absurd h1 c2
set_option maxHeartbeats 4000000 in
set_option maxRecDepth 100000 in
theorem c_X7_ifHurt_e1 (l : Launch) (E : EV) {a : Nat → Nat} {th sm ln pl : Int32} {hs : Int64} {s S b w : Nat → Int32} {p q : Int32} (h : ¬ (nI 0 ≤ p ∧ p ≤ nI 7)) : Wr l E yX7_ifHurt cX7_ifHurt 3 (some .int) 6 147 [.ref (a 0), .int p, .int q] (mdW E a th sm ln pl hs s S b w) (mdW E a (nI 1) sm ln pl hs s S b w) (some (.int (nI 0))) := by
  refine Wr.mk0 (by decide) (Nat.le_of_ble_eq_true rfl) ?_
  intro pP eE sS mM aA bB mt cC F hr hk hE hN ls hl
  have hl : lv_has ls 3 [(0, .ref (a 0)), (1, .int p), (2, .int q)] := hl
  refine V.aload_n F dX7_ifHurt_0 rfl (lv_at hl 0 rfl) ?_
  refine V.iconst (v := nI 0) F dX7_ifHurt_1 (by decide) ?_
  refine V.putf (ws' := mdW E a (nI 0) sm ln pl hs s S b w) F hE hN (by rfl) pX7_22 rfl rfl 0 rfl (by exact Nat.le_of_ble_eq_true rfl) dX7_ifHurt_2 rfl ?_
  refine V.iload_n F dX7_ifHurt_5 rfl (lv_at hl 1 rfl) ?_
  refine V.rdS F hE (c_X7_isPerson l E) (kX7_90 F.2.2.2.2 ⟨Nat.le_of_ble_eq_true rfl, Nat.le_of_ble_eq_true rfl⟩) [] rfl rfl hl.1 (Nat.le_of_ble_eq_true rfl) dX7_ifHurt_6 rfl ?_
  refine V.topi (fun z1 e1 => ?_)
  refine V.if_neB (tgt := 18) F e1 dX7_ifHurt_9 (by decide) (fun c2 => ?_) (fun c2 => ?_)
  · skip
    subst e1; exact absurd c2 h
  · skip
    refine V.aload_n F dX7_ifHurt_12 rfl (lv_at hl 0 rfl) ?_
    refine V.iconst (v := nI 1) F dX7_ifHurt_13 (by decide) ?_
    refine V.wsV (q0 := 0) (ws' := mdW E a (nI 1) sm ln pl hs s S b w) F hE hN (pm_eq (by rfl)) (c_X7_fails l E) (kX7_33 F.2.2.2.2 ⟨Nat.le_of_ble_eq_true rfl, Nat.le_of_ble_eq_true rfl⟩) rfl rfl 0 5 (by rfl) (by rfl) rfl hl.1 (Nat.le_of_ble_eq_true rfl) dX7_ifHurt_14 rfl ?_
    refine V.topi (fun z3 e3 => ?_)
    exact V.iretW F hr hk dX7_ifHurt_17 (by subst e1 e3; first | with_reducible rfl | (simp only [oi1n, nI_add]; done) | (simp only [c2, oi1n, nI_add, pk_mul, if_true, if_false, ↓reduceIte]; done) | (simp only [c2, oi1n, nI_add, pk_mul, bI, and_true, true_and, and_false, false_and, and_self, not_true_eq_false, not_false_eq_true, if_true, if_false, ↓reduceIte] <;> rfl)) (by subst e1 e3; first | with_reducible rfl | (simp only [oi1n, nI_add]; done) | (simp only [c2, oi1n, nI_add, pk_mul, if_true, if_false, ↓reduceIte]; done) | (simp only [c2, oi1n, nI_add, pk_mul, bI, and_true, true_and, and_false, false_and, and_self, not_true_eq_false, not_false_eq_true, if_true, if_false, ↓reduceIte] <;> rfl))
set_option maxHeartbeats 4000000 in
set_option maxRecDepth 100000 in
theorem c_X7_ifHurt_e2 (l : Launch) (E : EV) {a : Nat → Nat} {th sm ln pl : Int32} {hs : Int64} {s S b w : Nat → Int32} {p q : Int32} (h1 : nI 0 ≤ p ∧ p ≤ nI 7) (h : ¬ (q = nI 1 ∨ q = nI 2 ∨ q = nI 4 ∨ q = nI 8 ∨ q = nI 16 ∨ q = nI 32)) : Wr l E yX7_ifHurt cX7_ifHurt 3 (some .int) 6 147 [.ref (a 0), .int p, .int q] (mdW E a th sm ln pl hs s S b w) (mdW E a (nI 2) sm ln pl hs s S b w) (some (.int (nI 0))) := by
  refine Wr.mk0 (by decide) (Nat.le_of_ble_eq_true rfl) ?_
  intro pP eE sS mM aA bB mt cC F hr hk hE hN ls hl
  have hl : lv_has ls 3 [(0, .ref (a 0)), (1, .int p), (2, .int q)] := hl
  refine V.aload_n F dX7_ifHurt_0 rfl (lv_at hl 0 rfl) ?_
  refine V.iconst (v := nI 0) F dX7_ifHurt_1 (by decide) ?_
  refine V.putf (ws' := mdW E a (nI 0) sm ln pl hs s S b w) F hE hN (by rfl) pX7_22 rfl rfl 0 rfl (by exact Nat.le_of_ble_eq_true rfl) dX7_ifHurt_2 rfl ?_
  refine V.iload_n F dX7_ifHurt_5 rfl (lv_at hl 1 rfl) ?_
  refine V.rdS F hE (c_X7_isPerson l E) (kX7_90 F.2.2.2.2 ⟨Nat.le_of_ble_eq_true rfl, Nat.le_of_ble_eq_true rfl⟩) [] rfl rfl hl.1 (Nat.le_of_ble_eq_true rfl) dX7_ifHurt_6 rfl ?_
  refine V.topi (fun z1 e1 => ?_)
  refine V.if_neB (tgt := 18) F e1 dX7_ifHurt_9 (by decide) (fun c2 => ?_) (fun c2 => ?_)
  · skip
    refine V.iload_n F dX7_ifHurt_18 rfl (lv_at hl 2 rfl) ?_
    refine V.rdS F hE (c_X7_isPart l E) (kX7_109 F.2.2.2.2 ⟨Nat.le_of_ble_eq_true rfl, Nat.le_of_ble_eq_true rfl⟩) [] rfl rfl hl.1 (Nat.le_of_ble_eq_true rfl) dX7_ifHurt_19 rfl ?_
    refine V.topi (fun z3 e3 => ?_)
    refine V.if_eqB (tgt := 34) F e3 dX7_ifHurt_22 (by decide) (fun c4 => ?_) (fun c4 => ?_)
    · skip
      refine V.aload_n F dX7_ifHurt_34 rfl (lv_at hl 0 rfl) ?_
      refine V.iconst (v := nI 2) F dX7_ifHurt_35 (by decide) ?_
      refine V.wsV (q0 := 0) (ws' := mdW E a (nI 2) sm ln pl hs s S b w) F hE hN (pm_eq (by rfl)) (c_X7_fails l E) (kX7_33 F.2.2.2.2 ⟨Nat.le_of_ble_eq_true rfl, Nat.le_of_ble_eq_true rfl⟩) rfl rfl 0 5 (by rfl) (by rfl) rfl hl.1 (Nat.le_of_ble_eq_true rfl) dX7_ifHurt_36 rfl ?_
      refine V.topi (fun z5 e5 => ?_)
      exact V.iretW F hr hk dX7_ifHurt_39 (by subst e1 e3 e5; first | with_reducible rfl | (simp only [oi1n, nI_add]; done) | (simp only [eq_true c2, c4, oi1n, nI_add, pk_mul, if_true, if_false, ↓reduceIte]; done) | (simp only [eq_true c2, c4, oi1n, nI_add, pk_mul, bI, and_true, true_and, and_false, false_and, and_self, not_true_eq_false, not_false_eq_true, if_true, if_false, ↓reduceIte] <;> rfl)) (by subst e1 e3 e5; first | with_reducible rfl | (simp only [oi1n, nI_add]; done) | (simp only [eq_true c2, c4, oi1n, nI_add, pk_mul, if_true, if_false, ↓reduceIte]; done) | (simp only [eq_true c2, c4, oi1n, nI_add, pk_mul, bI, and_true, true_and, and_false, false_and, and_self, not_true_eq_false, not_false_eq_true, if_true, if_false, ↓reduceIte] <;> rfl))
    · skip
      subst e1 e3; exact absurd c4 h
  · skip
    subst e1; exact absurd h1 c2
set_option maxHeartbeats 4000000 in
set_option maxRecDepth 100000 in
theorem c_X7_shotShare (l : Launch) (E : EV) {a : Nat → Nat} {th sm ln pl : Int32} {hs : Int64} {s S b w : Nat → Int32} {R H C D : Nat} {sn : Nat → Nat} (hM : MI s R H C D sn) (hnn : s 4 = nI 0 ∨ vf_n64 (FP.ddiv (FP.i2d (shM s C)) (FP.i2d (s 4)))) : Wr l E yX7_shotShare cX7_shotShare 1 (some .double) 3 64 [.ref (a 0)] (mdW E a th sm ln pl hs s S b w) (mdW E a (nI 0) sm ln pl hs s S b w) (some (.double (srM s C))) := by
  refine Wr.mk0 (by decide) (Nat.le_of_ble_eq_true rfl) ?_
  intro pP eE sS mM aA bB mt cC F hr hk hE hN ls hl
  have hl : lv_has ls 1 [(0, .ref (a 0))] := hl
  have hM1 := hM
  obtain ⟨hD0, hD, hkR, hR, hh, hH, hs4, hC, hsn⟩ := hM1
  refine V.aload_n F dX7_shotShare_0 rfl (lv_at hl 0 rfl) ?_
  refine V.iconst (v := nI 0) F dX7_shotShare_1 (by decide) ?_
  refine V.putf (ws' := mdW E a (nI 0) sm ln pl hs s S b w) F hE hN (by rfl) pX7_22 rfl rfl 0 rfl (by exact Nat.le_of_ble_eq_true rfl) dX7_shotShare_2 rfl ?_
  refine V.aload_n F dX7_shotShare_5 rfl (lv_at hl 0 rfl) ?_
  refine V.rdV (q0 := 0) F hE (c_X7_share l E hM hnn) (kX7_186 F.2.2.2.2 ⟨Nat.le_of_ble_eq_true rfl, Nat.le_of_ble_eq_true rfl⟩) rfl rfl [0, 1, 2, 3, 4] rfl rfl hl.1 (Nat.le_of_ble_eq_true rfl) dX7_shotShare_6 rfl ?_
  refine V.topd (fun z1 e1 => ?_)
  exact V.dretW F hr hk dX7_shotShare_9 (by subst e1; first | with_reducible rfl | (simp only [oi1n, nI_add]; done)) (by subst e1; first | with_reducible rfl | (simp only [oi1n, nI_add]; done))
