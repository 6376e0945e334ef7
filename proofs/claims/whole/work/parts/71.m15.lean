set_option maxHeartbeats 4000000 in
set_option maxRecDepth 100000 in
theorem c_X7_size (l : Launch) (E : EV) {a : Nat → Nat} {th ln pl : Int32} {hs : Int64} {s S b w : Nat → Int32} {y : Int32} {p : Nat} {M : Nat} (h1 : nI 0 ≤ nI p ∧ nI p ≤ nI 7) (h2 : nI 150 ≤ y ∧ y ≤ nI 200) (hp0 : p < 8) (hm : M ≤ 6) : Wr l E yX7_size cX7_size 4 (some .int) 2 42 [.ref (a 0), .int (nI p), .int y] (mdW E a th (nI M) ln pl hs s S b w) (mdW E a (nI 0) (nI (kN M)) ln pl hs (upd s (10 + p) y) (svA S s M) b w) (some (.int (s (10 + p)))) := by
  refine Wr.mk0 (by decide) (Nat.le_of_ble_eq_true rfl) ?_
  intro pP eE sS mM aA bB mt cC F hr hk hE hN ls hl
  have hl : lv_has ls 4 [(0, .ref (a 0)), (1, .int (nI p)), (2, .int y)] := hl
  refine V.aload_n F dX7_size_0 rfl (lv_at hl 0 rfl) ?_
  refine V.iconst (v := nI 0) F dX7_size_1 (by decide) ?_
  refine V.putf (ws' := mdW E a (nI 0) (nI M) ln pl hs s S b w) F hE hN (by rfl) pX7_22 rfl rfl 0 rfl (by exact Nat.le_of_ble_eq_true rfl) dX7_size_2 rfl ?_
  refine V.iload_n F dX7_size_5 rfl (lv_at hl 1 rfl) ?_
  refine V.rdS F hE (c_X7_isPerson l E) (kX7_90 F.2.2.2.2 ⟨Nat.le_of_ble_eq_true rfl, Nat.le_of_ble_eq_true rfl⟩) [] rfl rfl hl.1 (Nat.le_of_ble_eq_true rfl) dX7_size_6 rfl ?_
  refine V.topi (fun z1 e1 => ?_)
  refine V.if_neB (tgt := 18) F e1 dX7_size_9 (by decide) (fun c2 => ?_) (fun c2 => ?_)
  · skip
    refine V.iload_n F dX7_size_18 rfl (lv_at hl 2 rfl) ?_
    refine V.sipush (v := nI 150) F dX7_size_19 (by decide) ?_
    refine V.sipush (v := nI 200) F dX7_size_22 (by decide) ?_
    refine V.rdS F hE (c_X7_within l E) (kX7_26 F.2.2.2.2 ⟨Nat.le_of_ble_eq_true rfl, Nat.le_of_ble_eq_true rfl⟩) [] rfl rfl hl.1 (Nat.le_of_ble_eq_true rfl) dX7_size_25 rfl ?_
    refine V.topi (fun z3 e3 => ?_)
    refine V.if_neB (tgt := 37) F e3 dX7_size_28 (by decide) (fun c4 => ?_) (fun c4 => ?_)
    · skip
      refine V.aload_n F dX7_size_37 rfl (lv_at hl 0 rfl) ?_
      refine V.wsVn (q0 := 0) (ws' := mdW E a (nI 0) (nI (kN M)) ln pl hs s (svA S s M) b w) F hE hN (pm_eq (by rfl)) (c_X7_saveA l E hm) (kX7_94 F.2.2.2.2 ⟨Nat.le_of_ble_eq_true rfl, Nat.le_of_ble_eq_true rfl⟩) rfl rfl 0 5 (by rfl) (by rfl) rfl hl.1 (Nat.le_of_ble_eq_true rfl) dX7_size_38 rfl ?_
      refine V.aload_n F dX7_size_41 rfl (lv_at hl 0 rfl) ?_
      refine V.getf F hE gX7_7 0 rfl rfl dX7_size_42 ?_
      refine V.bipush (v := nI 10) F dX7_size_45 (by decide) ?_
      refine V.iload_n F dX7_size_47 rfl (lv_at hl 1 rfl) ?_
      refine V.iadd F dX7_size_48 (fun z5 e5 => ?_)
      obtain rfl : z5 = nI (10 + p) := e5.trans (nI_add _ _)
      refine V.iadn (i := (10 + p)) F hE 1 rfl (by omega) (by omega) dX7_size_49 (fun z6 e6 => ?_)
      refine V.istore_n (lv' := [(3, .int z6), (0, .ref (a 0)), (1, .int (nI p)), (2, .int y)]) F dX7_size_50 rfl hl (by decide) rfl (fun ls hl => ?_)
      refine V.aload_n F dX7_size_51 rfl (lv_at hl 1 rfl) ?_
      refine V.getf F hE gX7_7 0 rfl rfl dX7_size_52 ?_
      refine V.bipush (v := nI 10) F dX7_size_55 (by decide) ?_
      refine V.iload_n F dX7_size_57 rfl (lv_at hl 2 rfl) ?_
      refine V.iadd F dX7_size_58 (fun z7 e7 => ?_)
      obtain rfl : z7 = nI (10 + p) := e7.trans (nI_add _ _)
      refine V.iload_n F dX7_size_59 rfl (lv_at hl 3 rfl) ?_
      refine V.isn (i := (10 + p)) (ws' := mdW E a (nI 0) (nI (kN M)) ln pl hs (upd s (10 + p) y) (svA S s M) b w) F hE hN (by rfl) 1 rfl (by omega) (by omega) dX7_size_60 rfl ?_
      refine V.iload_n F dX7_size_61 rfl (lv_at hl 0 rfl) ?_
      exact V.iretW F hr hk dX7_size_62 (by subst e1 e3 e6; first | with_reducible rfl | (simp only [oi1n, nI_add]; done) | (simp only [eq_true c2, eq_true c4, oi1n, nI_add, pk_mul, if_true, if_false, ↓reduceIte]; done) | (simp only [eq_true c2, eq_true c4, oi1n, nI_add, pk_mul, bI, and_true, true_and, and_false, false_and, and_self, not_true_eq_false, not_false_eq_true, if_true, if_false, ↓reduceIte] <;> rfl)) (by subst e1 e3 e6; first | with_reducible rfl | (simp only [oi1n, nI_add]; done) | (simp only [eq_true c2, eq_true c4, oi1n, nI_add, pk_mul, if_true, if_false, ↓reduceIte]; done) | (simp only [eq_true c2, eq_true c4, oi1n, nI_add, pk_mul, bI, and_true, true_and, and_false, false_and, and_self, not_true_eq_false, not_false_eq_true, if_true, if_false, ↓reduceIte] <;> rfl))
    · skip
      subst e1 e3; exact absurd h2 c4
  · skip
    subst e1; exact absurd h1 c2
set_option maxHeartbeats 4000000 in
set_option maxRecDepth 100000 in
theorem c_X7_size_e1 (l : Launch) (E : EV) {a : Nat → Nat} {th sm ln pl : Int32} {hs : Int64} {s S b w : Nat → Int32} {p y : Int32} (h : ¬ (nI 0 ≤ p ∧ p ≤ nI 7)) : Wr l E yX7_size cX7_size 4 (some .int) 2 42 [.ref (a 0), .int p, .int y] (mdW E a th sm ln pl hs s S b w) (mdW E a (nI 1) sm ln pl hs s S b w) (some (.int (nI 0))) := by
  refine Wr.mk0 (by decide) (Nat.le_of_ble_eq_true rfl) ?_
  intro pP eE sS mM aA bB mt cC F hr hk hE hN ls hl
  have hl : lv_has ls 4 [(0, .ref (a 0)), (1, .int p), (2, .int y)] := hl
  refine V.aload_n F dX7_size_0 rfl (lv_at hl 0 rfl) ?_
  refine V.iconst (v := nI 0) F dX7_size_1 (by decide) ?_
  refine V.putf (ws' := mdW E a (nI 0) sm ln pl hs s S b w) F hE hN (by rfl) pX7_22 rfl rfl 0 rfl (by exact Nat.le_of_ble_eq_true rfl) dX7_size_2 rfl ?_
  refine V.iload_n F dX7_size_5 rfl (lv_at hl 1 rfl) ?_
  refine V.rdS F hE (c_X7_isPerson l E) (kX7_90 F.2.2.2.2 ⟨Nat.le_of_ble_eq_true rfl, Nat.le_of_ble_eq_true rfl⟩) [] rfl rfl hl.1 (Nat.le_of_ble_eq_true rfl) dX7_size_6 rfl ?_
  refine V.topi (fun z1 e1 => ?_)
  refine V.if_neB (tgt := 18) F e1 dX7_size_9 (by decide) (fun c2 => ?_) (fun c2 => ?_)
  · skip
    subst e1; exact absurd c2 h
  · skip
    refine V.aload_n F dX7_size_12 rfl (lv_at hl 0 rfl) ?_
    refine V.iconst (v := nI 1) F dX7_size_13 (by decide) ?_
    refine V.wsV (q0 := 0) (ws' := mdW E a (nI 1) sm ln pl hs s S b w) F hE hN (pm_eq (by rfl)) (c_X7_fails l E) (kX7_33 F.2.2.2.2 ⟨Nat.le_of_ble_eq_true rfl, Nat.le_of_ble_eq_true rfl⟩) rfl rfl 0 5 (by rfl) (by rfl) rfl hl.1 (Nat.le_of_ble_eq_true rfl) dX7_size_14 rfl ?_
    refine V.topi (fun z3 e3 => ?_)
    exact V.iretW F hr hk dX7_size_17 (by subst e1 e3; first | with_reducible rfl | (simp only [oi1n, nI_add]; done) | (simp only [c2, oi1n, nI_add, pk_mul, if_true, if_false, ↓reduceIte]; done) | (simp only [c2, oi1n, nI_add, pk_mul, bI, and_true, true_and, and_false, false_and, and_self, not_true_eq_false, not_false_eq_true, if_true, if_false, ↓reduceIte] <;> rfl)) (by subst e1 e3; first | with_reducible rfl | (simp only [oi1n, nI_add]; done) | (simp only [c2, oi1n, nI_add, pk_mul, if_true, if_false, ↓reduceIte]; done) | (simp only [c2, oi1n, nI_add, pk_mul, bI, and_true, true_and, and_false, false_and, and_self, not_true_eq_false, not_false_eq_true, if_true, if_false, ↓reduceIte] <;> rfl))
set_option maxHeartbeats 4000000 in
set_option maxRecDepth 100000 in
theorem c_X7_size_e2 (l : Launch) (E : EV) {a : Nat → Nat} {th sm ln pl : Int32} {hs : Int64} {s S b w : Nat → Int32} {p y : Int32} (h1 : nI 0 ≤ p ∧ p ≤ nI 7) (h : ¬ (nI 150 ≤ y ∧ y ≤ nI 200)) : Wr l E yX7_size cX7_size 4 (some .int) 2 42 [.ref (a 0), .int p, .int y] (mdW E a th sm ln pl hs s S b w) (mdW E a (nI 2) sm ln pl hs s S b w) (some (.int (nI 0))) := by
  refine Wr.mk0 (by decide) (Nat.le_of_ble_eq_true rfl) ?_
  intro pP eE sS mM aA bB mt cC F hr hk hE hN ls hl
  have hl : lv_has ls 4 [(0, .ref (a 0)), (1, .int p), (2, .int y)] := hl
  refine V.aload_n F dX7_size_0 rfl (lv_at hl 0 rfl) ?_
  refine V.iconst (v := nI 0) F dX7_size_1 (by decide) ?_
  refine V.putf (ws' := mdW E a (nI 0) sm ln pl hs s S b w) F hE hN (by rfl) pX7_22 rfl rfl 0 rfl (by exact Nat.le_of_ble_eq_true rfl) dX7_size_2 rfl ?_
  refine V.iload_n F dX7_size_5 rfl (lv_at hl 1 rfl) ?_
  refine V.rdS F hE (c_X7_isPerson l E) (kX7_90 F.2.2.2.2 ⟨Nat.le_of_ble_eq_true rfl, Nat.le_of_ble_eq_true rfl⟩) [] rfl rfl hl.1 (Nat.le_of_ble_eq_true rfl) dX7_size_6 rfl ?_
  refine V.topi (fun z1 e1 => ?_)
  refine V.if_neB (tgt := 18) F e1 dX7_size_9 (by decide) (fun c2 => ?_) (fun c2 => ?_)
  · skip
    refine V.iload_n F dX7_size_18 rfl (lv_at hl 2 rfl) ?_
    refine V.sipush (v := nI 150) F dX7_size_19 (by decide) ?_
    refine V.sipush (v := nI 200) F dX7_size_22 (by decide) ?_
    refine V.rdS F hE (c_X7_within l E) (kX7_26 F.2.2.2.2 ⟨Nat.le_of_ble_eq_true rfl, Nat.le_of_ble_eq_true rfl⟩) [] rfl rfl hl.1 (Nat.le_of_ble_eq_true rfl) dX7_size_25 rfl ?_
    refine V.topi (fun z3 e3 => ?_)
    refine V.if_neB (tgt := 37) F e3 dX7_size_28 (by decide) (fun c4 => ?_) (fun c4 => ?_)
    · skip
      subst e1 e3; exact absurd c4 h
    · skip
      refine V.aload_n F dX7_size_31 rfl (lv_at hl 0 rfl) ?_
      refine V.iconst (v := nI 2) F dX7_size_32 (by decide) ?_
      refine V.wsV (q0 := 0) (ws' := mdW E a (nI 2) sm ln pl hs s S b w) F hE hN (pm_eq (by rfl)) (c_X7_fails l E) (kX7_33 F.2.2.2.2 ⟨Nat.le_of_ble_eq_true rfl, Nat.le_of_ble_eq_true rfl⟩) rfl rfl 0 5 (by rfl) (by rfl) rfl hl.1 (Nat.le_of_ble_eq_true rfl) dX7_size_33 rfl ?_
      refine V.topi (fun z5 e5 => ?_)
      exact V.iretW F hr hk dX7_size_36 (by subst e1 e3 e5; first | with_reducible rfl | (simp only [oi1n, nI_add]; done) | (simp only [eq_true c2, c4, oi1n, nI_add, pk_mul, if_true, if_false, ↓reduceIte]; done) | (simp only [eq_true c2, c4, oi1n, nI_add, pk_mul, bI, and_true, true_and, and_false, false_and, and_self, not_true_eq_false, not_false_eq_true, if_true, if_false, ↓reduceIte] <;> rfl)) (by subst e1 e3 e5; first | with_reducible rfl | (simp only [oi1n, nI_add]; done) | (simp only [eq_true c2, c4, oi1n, nI_add, pk_mul, if_true, if_false, ↓reduceIte]; done) | (simp only [eq_true c2, c4, oi1n, nI_add, pk_mul, bI, and_true, true_and, and_false, false_and, and_self, not_true_eq_false, not_false_eq_true, if_true, if_false, ↓reduceIte] <;> rfl))
  · skip
    subst e1; exact absurd h1 c2
set_option maxHeartbeats 4000000 in
set_option maxRecDepth 100000 in
theorem c_X7_pass (l : Launch) (E : EV) {a : Nat → Nat} {th ln pl : Int32} {hs : Int64} {s S b w : Nat → Int32} {x : Int32} {M : Nat} (h1 : nI 1 ≤ x ∧ x ≤ nI 99) (h2 : s 0 + x ≤ nI 999) (hm : M ≤ 6) : Wr l E yX7_pass cX7_pass 2 (some .int) 1 22 [.ref (a 0), .int x] (mdW E a th (nI M) ln pl hs s S b w) (mdW E a (nI 0) (nI (kN M)) ln pl hs (tmM (upd s 0 (s 0 + x)) 8) (svA S s M) b w) (some (.int (tmM (upd s 0 (s 0 + x)) 8 0))) := by
  refine Wr.mk0 (by decide) (Nat.le_of_ble_eq_true rfl) ?_
  intro pP eE sS mM aA bB mt cC F hr hk hE hN ls hl
  have hl : lv_has ls 2 [(0, .ref (a 0)), (1, .int x)] := hl
  refine V.aload_n F dX7_pass_0 rfl (lv_at hl 0 rfl) ?_
  refine V.iconst (v := nI 0) F dX7_pass_1 (by decide) ?_
  refine V.putf (ws' := mdW E a (nI 0) (nI M) ln pl hs s S b w) F hE hN (by rfl) pX7_22 rfl rfl 0 rfl (by exact Nat.le_of_ble_eq_true rfl) dX7_pass_2 rfl ?_
  refine V.iload_n F dX7_pass_5 rfl (lv_at hl 1 rfl) ?_
  refine V.iconst (v := nI 1) F dX7_pass_6 (by decide) ?_
  refine V.bipush (v := nI 99) F dX7_pass_7 (by decide) ?_
  refine V.rdS F hE (c_X7_within l E) (kX7_26 F.2.2.2.2 ⟨Nat.le_of_ble_eq_true rfl, Nat.le_of_ble_eq_true rfl⟩) [] rfl rfl hl.1 (Nat.le_of_ble_eq_true rfl) dX7_pass_9 rfl ?_
  refine V.topi (fun z1 e1 => ?_)
  refine V.if_neB (tgt := 21) F e1 dX7_pass_12 (by decide) (fun c2 => ?_) (fun c2 => ?_)
  · skip
    refine V.aload_n F dX7_pass_21 rfl (lv_at hl 0 rfl) ?_
    refine V.getf F hE gX7_7 0 rfl rfl dX7_pass_22 ?_
    refine V.iconst (v := nI 0) F dX7_pass_25 (by decide) ?_
    refine V.iadn (i := 0) F hE 1 rfl (by omega) (by omega) dX7_pass_26 (fun z3 e3 => ?_)
    refine V.iload_n F dX7_pass_27 rfl (lv_at hl 1 rfl) ?_
    refine V.iadd F dX7_pass_28 (fun z4 e4 => ?_)
    refine V.sipush (v := nI 999) F dX7_pass_29 (by decide) ?_
    refine V.icmp_le (tgt := 41) F dX7_pass_32 (by decide) (fun c5 c5' => ?_) (fun c5 c5' => ?_)
    · skip
      refine V.aload_n F dX7_pass_41 rfl (lv_at hl 0 rfl) ?_
      refine V.wsVn (q0 := 0) (ws' := mdW E a (nI 0) (nI (kN M)) ln pl hs s (svA S s M) b w) F hE hN (pm_eq (by rfl)) (c_X7_saveA l E hm) (kX7_94 F.2.2.2.2 ⟨Nat.le_of_ble_eq_true rfl, Nat.le_of_ble_eq_true rfl⟩) rfl rfl 0 5 (by rfl) (by rfl) rfl hl.1 (Nat.le_of_ble_eq_true rfl) dX7_pass_42 rfl ?_
      refine V.aload_n F dX7_pass_45 rfl (lv_at hl 0 rfl) ?_
      refine V.iload_n F dX7_pass_46 rfl (lv_at hl 1 rfl) ?_
      refine V.wsV (q0 := 0) (ws' := mdW E a (nI 0) (nI (kN M)) ln pl hs (tmM (upd s 0 (s 0 + x)) 8) (svA S s M) b w) F hE hN (pm_eq (by rfl)) (c_X7_doesPass l E) (kX7_97 F.2.2.2.2 ⟨Nat.le_of_ble_eq_true rfl, Nat.le_of_ble_eq_true rfl⟩) rfl rfl 0 5 (by rfl) (by rfl) rfl hl.1 (Nat.le_of_ble_eq_true rfl) dX7_pass_47 rfl ?_
      refine V.topi (fun z6 e6 => ?_)
      exact V.iretW F hr hk dX7_pass_50 (by subst e1 e3 e4 e6; first | with_reducible rfl | (simp only [oi1n, nI_add]; done) | (simp only [eq_true c2, c5, c5', oi1n, nI_add, pk_mul, if_true, if_false, ↓reduceIte]; done) | (simp only [eq_true c2, c5, c5', oi1n, nI_add, pk_mul, bI, and_true, true_and, and_false, false_and, and_self, not_true_eq_false, not_false_eq_true, if_true, if_false, ↓reduceIte] <;> rfl)) (by subst e1 e3 e4 e6; first | with_reducible rfl | (simp only [oi1n, nI_add]; done) | (simp only [eq_true c2, c5, c5', oi1n, nI_add, pk_mul, if_true, if_false, ↓reduceIte]; done) | (simp only [eq_true c2, c5, c5', oi1n, nI_add, pk_mul, bI, and_true, true_and, and_false, false_and, and_self, not_true_eq_false, not_false_eq_true, if_true, if_false, ↓reduceIte] <;> rfl))
    · skip
      subst e1 e3 e4; exact absurd h2 c5
  · skip
    subst e1; exact absurd h1 c2
set_option maxHeartbeats 4000000 in
set_option maxRecDepth 100000 in
theorem c_X7_pass_e1 (l : Launch) (E : EV) {a : Nat → Nat} {th sm ln pl : Int32} {hs : Int64} {s S b w : Nat → Int32} {x : Int32} (h : ¬ (nI 1 ≤ x ∧ x ≤ nI 99)) : Wr l E yX7_pass cX7_pass 2 (some .int) 1 22 [.ref (a 0), .int x] (mdW E a th sm ln pl hs s S b w) (mdW E a (nI 1) sm ln pl hs s S b w) (some (.int (nI 0))) := by
  refine Wr.mk0 (by decide) (Nat.le_of_ble_eq_true rfl) ?_
  intro pP eE sS mM aA bB mt cC F hr hk hE hN ls hl
  have hl : lv_has ls 2 [(0, .ref (a 0)), (1, .int x)] := hl
  refine V.aload_n F dX7_pass_0 rfl (lv_at hl 0 rfl) ?_
  refine V.iconst (v := nI 0) F dX7_pass_1 (by decide) ?_
  refine V.putf (ws' := mdW E a (nI 0) sm ln pl hs s S b w) F hE hN (by rfl) pX7_22 rfl rfl 0 rfl (by exact Nat.le_of_ble_eq_true rfl) dX7_pass_2 rfl ?_
  refine V.iload_n F dX7_pass_5 rfl (lv_at hl 1 rfl) ?_
  refine V.iconst (v := nI 1) F dX7_pass_6 (by decide) ?_
  refine V.bipush (v := nI 99) F dX7_pass_7 (by decide) ?_
  refine V.rdS F hE (c_X7_within l E) (kX7_26 F.2.2.2.2 ⟨Nat.le_of_ble_eq_true rfl, Nat.le_of_ble_eq_true rfl⟩) [] rfl rfl hl.1 (Nat.le_of_ble_eq_true rfl) dX7_pass_9 rfl ?_
  refine V.topi (fun z1 e1 => ?_)
  refine V.if_neB (tgt := 21) F e1 dX7_pass_12 (by decide) (fun c2 => ?_) (fun c2 => ?_)
  · skip
    subst e1; exact absurd c2 h
  · skip
    refine V.aload_n F dX7_pass_15 rfl (lv_at hl 0 rfl) ?_
    refine V.iconst (v := nI 1) F dX7_pass_16 (by decide) ?_
    refine V.wsV (q0 := 0) (ws' := mdW E a (nI 1) sm ln pl hs s S b w) F hE hN (pm_eq (by rfl)) (c_X7_fails l E) (kX7_33 F.2.2.2.2 ⟨Nat.le_of_ble_eq_true rfl, Nat.le_of_ble_eq_true rfl⟩) rfl rfl 0 5 (by rfl) (by rfl) rfl hl.1 (Nat.le_of_ble_eq_true rfl) dX7_pass_17 rfl ?_
    refine V.topi (fun z3 e3 => ?_)
    exact V.iretW F hr hk dX7_pass_20 (by subst e1 e3; first | with_reducible rfl | (simp only [oi1n, nI_add]; done) | (simp only [c2, oi1n, nI_add, pk_mul, if_true, if_false, ↓reduceIte]; done) | (simp only [c2, oi1n, nI_add, pk_mul, bI, and_true, true_and, and_false, false_and, and_self, not_true_eq_false, not_false_eq_true, if_true, if_false, ↓reduceIte] <;> rfl)) (by subst e1 e3; first | with_reducible rfl | (simp only [oi1n, nI_add]; done) | (simp only [c2, oi1n, nI_add, pk_mul, if_true, if_false, ↓reduceIte]; done) | (simp only [c2, oi1n, nI_add, pk_mul, bI, and_true, true_and, and_false, false_and, and_self, not_true_eq_false, not_false_eq_true, if_true, if_false, ↓reduceIte] <;> rfl))
set_option maxHeartbeats 4000000 in
set_option maxRecDepth 100000 in
theorem c_X7_pass_e2 (l : Launch) (E : EV) {a : Nat → Nat} {th sm ln pl : Int32} {hs : Int64} {s S b w : Nat → Int32} {x : Int32} (h1 : nI 1 ≤ x ∧ x ≤ nI 99) (h : ¬ (s 0 + x ≤ nI 999)) : Wr l E yX7_pass cX7_pass 2 (some .int) 1 22 [.ref (a 0), .int x] (mdW E a th sm ln pl hs s S b w) (mdW E a (nI 2) sm ln pl hs s S b w) (some (.int (nI 0))) := by
  refine Wr.mk0 (by decide) (Nat.le_of_ble_eq_true rfl) ?_
  intro pP eE sS mM aA bB mt cC F hr hk hE hN ls hl
  have hl : lv_has ls 2 [(0, .ref (a 0)), (1, .int x)] := hl
  refine V.aload_n F dX7_pass_0 rfl (lv_at hl 0 rfl) ?_
  refine V.iconst (v := nI 0) F dX7_pass_1 (by decide) ?_
  refine V.putf (ws' := mdW E a (nI 0) sm ln pl hs s S b w) F hE hN (by rfl) pX7_22 rfl rfl 0 rfl (by exact Nat.le_of_ble_eq_true rfl) dX7_pass_2 rfl ?_
  refine V.iload_n F dX7_pass_5 rfl (lv_at hl 1 rfl) ?_
  refine V.iconst (v := nI 1) F dX7_pass_6 (by decide) ?_
  refine V.bipush (v := nI 99) F dX7_pass_7 (by decide) ?_
  refine V.rdS F hE (c_X7_within l E) (kX7_26 F.2.2.2.2 ⟨Nat.le_of_ble_eq_true rfl, Nat.le_of_ble_eq_true rfl⟩) [] rfl rfl hl.1 (Nat.le_of_ble_eq_true rfl) dX7_pass_9 rfl ?_
  refine V.topi (fun z1 e1 => ?_)
  refine V.if_neB (tgt := 21) F e1 dX7_pass_12 (by decide) (fun c2 => ?_) (fun c2 => ?_)
  · skip
    refine V.aload_n F dX7_pass_21 rfl (lv_at hl 0 rfl) ?_
    refine V.getf F hE gX7_7 0 rfl rfl dX7_pass_22 ?_
    refine V.iconst (v := nI 0) F dX7_pass_25 (by decide) ?_
    refine V.iadn (i := 0) F hE 1 rfl (by omega) (by omega) dX7_pass_26 (fun z3 e3 => ?_)
    refine V.iload_n F dX7_pass_27 rfl (lv_at hl 1 rfl) ?_
    refine V.iadd F dX7_pass_28 (fun z4 e4 => ?_)
    refine V.sipush (v := nI 999) F dX7_pass_29 (by decide) ?_
    refine V.icmp_le (tgt := 41) F dX7_pass_32 (by decide) (fun c5 c5' => ?_) (fun c5 c5' => ?_)
    · skip
      subst e1 e3 e4; exact absurd c5 h
    · skip
      refine V.aload_n F dX7_pass_35 rfl (lv_at hl 0 rfl) ?_
      refine V.iconst (v := nI 2) F dX7_pass_36 (by decide) ?_
      refine V.wsV (q0 := 0) (ws' := mdW E a (nI 2) sm ln pl hs s S b w) F hE hN (pm_eq (by rfl)) (c_X7_fails l E) (kX7_33 F.2.2.2.2 ⟨Nat.le_of_ble_eq_true rfl, Nat.le_of_ble_eq_true rfl⟩) rfl rfl 0 5 (by rfl) (by rfl) rfl hl.1 (Nat.le_of_ble_eq_true rfl) dX7_pass_37 rfl ?_
      refine V.topi (fun z6 e6 => ?_)
      exact V.iretW F hr hk dX7_pass_40 (by subst e1 e3 e4 e6; first | with_reducible rfl | (simp only [oi1n, nI_add]; done) | (simp only [eq_true c2, c5, c5', oi1n, nI_add, pk_mul, if_true, if_false, ↓reduceIte]; done) | (simp only [eq_true c2, c5, c5', oi1n, nI_add, pk_mul, bI, and_true, true_and, and_false, false_and, and_self, not_true_eq_false, not_false_eq_true, if_true, if_false, ↓reduceIte] <;> rfl)) (by subst e1 e3 e4 e6; first | with_reducible rfl | (simp only [oi1n, nI_add]; done) | (simp only [eq_true c2, c5, c5', oi1n, nI_add, pk_mul, if_true, if_false, ↓reduceIte]; done) | (simp only [eq_true c2, c5, c5', oi1n, nI_add, pk_mul, bI, and_true, true_and, and_false, false_and, and_self, not_true_eq_false, not_false_eq_true, if_true, if_false, ↓reduceIte] <;> rfl))
  · skip
    subst e1; exact absurd h1 c2
set_option maxHeartbeats 4000000 in
set_option maxRecDepth 100000 in
theorem c_X7_rehearse (l : Launch) (E : EV) {a : Nat → Nat} {th ln pl : Int32} {hs : Int64} {s S b w : Nat → Int32} {R H C D : Nat} {sn : Nat → Nat} {k r : Int32} {p : Nat} {M : Nat} (hM : MI s R H C D sn) (h1 : nI 0 ≤ nI p ∧ nI p ≤ nI 7) (h2 : nI 0 ≤ k ∧ k ≤ nI 5) (h3 : nI 1 ≤ r ∧ r ≤ nI 5) (h4 : paM s (nI p) (s 0) H &&& bpM k = nI 0) (hp0 : p < 8) (hm : M ≤ 6) : Wr l E yX7_rehearse cX7_rehearse 4 (some .int) 3 70 [.ref (a 0), .int (nI p), .int k, .int r] (mdW E a th (nI M) ln pl hs s S b w) (mdW E a (nI 0) (nI (kN M)) ln pl hs (drS s R H p k r) (svA S s M) b w) (some (.int (drR s p))) := by
  refine Wr.mk0 (by decide) (Nat.le_of_ble_eq_true rfl) ?_
  intro pP eE sS mM aA bB mt cC F hr hk hE hN ls hl
  have hl : lv_has ls 4 [(0, .ref (a 0)), (1, .int (nI p)), (2, .int k), (3, .int r)] := hl
  have hM1 := hM
  obtain ⟨hD0, hD, hkR, hR, hh, hH, hs4, hC, hsn⟩ := hM1
  refine V.aload_n F dX7_rehearse_0 rfl (lv_at hl 0 rfl) ?_
  refine V.iconst (v := nI 0) F dX7_rehearse_1 (by decide) ?_
  refine V.putf (ws' := mdW E a (nI 0) (nI M) ln pl hs s S b w) F hE hN (by rfl) pX7_22 rfl rfl 0 rfl (by exact Nat.le_of_ble_eq_true rfl) dX7_rehearse_2 rfl ?_
  refine V.iload_n F dX7_rehearse_5 rfl (lv_at hl 1 rfl) ?_
  refine V.rdS F hE (c_X7_isPerson l E) (kX7_90 F.2.2.2.2 ⟨Nat.le_of_ble_eq_true rfl, Nat.le_of_ble_eq_true rfl⟩) [] rfl rfl hl.1 (Nat.le_of_ble_eq_true rfl) dX7_rehearse_6 rfl ?_
  refine V.topi (fun z1 e1 => ?_)
  refine V.if_eqB (tgt := 19) F e1 dX7_rehearse_9 (by decide) (fun c2 => ?_) (fun c2 => ?_)
  · skip
    subst e1; exact absurd h1 c2
  · skip
    refine V.iload_n F dX7_rehearse_12 rfl (lv_at hl 2 rfl) ?_
    refine V.rdS F hE (c_X7_isKind l E) (kX7_100 F.2.2.2.2 ⟨Nat.le_of_ble_eq_true rfl, Nat.le_of_ble_eq_true rfl⟩) [] rfl rfl hl.1 (Nat.le_of_ble_eq_true rfl) dX7_rehearse_13 rfl ?_
    refine V.topi (fun z3 e3 => ?_)
    refine V.if_neB (tgt := 25) F e3 dX7_rehearse_16 (by decide) (fun c4 => ?_) (fun c4 => ?_)
    · skip
      refine V.iload_n F dX7_rehearse_25 rfl (lv_at hl 3 rfl) ?_
      refine V.rdS F hE (c_X7_isRisk l E) (kX7_103 F.2.2.2.2 ⟨Nat.le_of_ble_eq_true rfl, Nat.le_of_ble_eq_true rfl⟩) [] rfl rfl hl.1 (Nat.le_of_ble_eq_true rfl) dX7_rehearse_26 rfl ?_
      refine V.topi (fun z5 e5 => ?_)
      refine V.if_neB (tgt := 38) F e5 dX7_rehearse_29 (by decide) (fun c6 => ?_) (fun c6 => ?_)
      · skip
        refine V.aload_n F dX7_rehearse_38 rfl (lv_at hl 0 rfl) ?_
        refine V.iload_n F dX7_rehearse_39 rfl (lv_at hl 1 rfl) ?_
        refine V.iload_n F dX7_rehearse_40 rfl (lv_at hl 2 rfl) ?_
        refine V.aload_n F dX7_rehearse_41 rfl (lv_at hl 0 rfl) ?_
        refine V.getf F hE gX7_7 0 rfl rfl dX7_rehearse_42 ?_
        refine V.iconst (v := nI 0) F dX7_rehearse_45 (by decide) ?_
        refine V.iadn (i := 0) F hE 1 rfl (by omega) (by omega) dX7_rehearse_46 (fun z7 e7 => ?_)
        refine V.rdV (q0 := 0) F hE (c_X7_isBarred l E hM) (kX7_47 F.2.2.2.2 ⟨Nat.le_of_ble_eq_true rfl, Nat.le_of_ble_eq_true rfl⟩) rfl rfl [0, 1, 2, 3, 4] rfl rfl hl.1 (Nat.le_of_ble_eq_true rfl) dX7_rehearse_47 rfl ?_
        refine V.topi (fun z8 e8 => ?_)
        refine V.if_eqB (tgt := 59) F e8 dX7_rehearse_50 (by decide) (fun c9 => ?_) (fun c9 => ?_)
        · skip
          rw [Decidable.not_not] at c9
          refine V.aload_n F dX7_rehearse_59 rfl (lv_at hl 0 rfl) ?_
          refine V.wsVn (q0 := 0) (ws' := mdW E a (nI 0) (nI (kN M)) ln pl hs s (svA S s M) b w) F hE hN (pm_eq (by rfl)) (c_X7_saveA l E hm) (kX7_94 F.2.2.2.2 ⟨Nat.le_of_ble_eq_true rfl, Nat.le_of_ble_eq_true rfl⟩) rfl rfl 0 5 (by rfl) (by rfl) rfl hl.1 (Nat.le_of_ble_eq_true rfl) dX7_rehearse_60 rfl ?_
          refine V.aload_n F dX7_rehearse_63 rfl (lv_at hl 0 rfl) ?_
          refine V.iload_n F dX7_rehearse_64 rfl (lv_at hl 1 rfl) ?_
          refine V.iload_n F dX7_rehearse_65 rfl (lv_at hl 2 rfl) ?_
          refine V.iload_n F dX7_rehearse_66 rfl (lv_at hl 3 rfl) ?_
          refine V.wsV (q0 := 0) (ws' := mdW E a (nI 0) (nI (kN M)) ln pl hs (drS s R H p k r) (svA S s M) b w) F hE hN (pm_eq (by rfl)) (c_X7_doesRehearseA l E hkR hh hH hp0 hR) (kX7_106 F.2.2.2.2 ⟨Nat.le_of_ble_eq_true rfl, Nat.le_of_ble_eq_true rfl⟩) rfl rfl 0 5 (by rfl) (by rfl) rfl hl.1 (Nat.le_of_ble_eq_true rfl) dX7_rehearse_67 rfl ?_
          refine V.topi (fun z10 e10 => ?_)
          exact V.iretW F hr hk dX7_rehearse_70 (by subst e1 e3 e5 e7 e8 e10; first | with_reducible rfl | (simp only [oi1n, nI_add]; done) | (simp only [eq_true c2, eq_true c4, eq_true c6, eq_true c9, oi1n, nI_add, pk_mul, if_true, if_false, ↓reduceIte]; done) | (simp only [eq_true c2, eq_true c4, eq_true c6, eq_true c9, oi1n, nI_add, pk_mul, bI, and_true, true_and, and_false, false_and, and_self, not_true_eq_false, not_false_eq_true, if_true, if_false, ↓reduceIte] <;> rfl)) (by subst e1 e3 e5 e7 e8 e10; first | with_reducible rfl | (simp only [oi1n, nI_add]; done) | (simp only [eq_true c2, eq_true c4, eq_true c6, eq_true c9, oi1n, nI_add, pk_mul, if_true, if_false, ↓reduceIte]; done) | (simp only [eq_true c2, eq_true c4, eq_true c6, eq_true c9, oi1n, nI_add, pk_mul, bI, and_true, true_and, and_false, false_and, and_self, not_true_eq_false, not_false_eq_true, if_true, if_false, ↓reduceIte] <;> rfl))
        · skip
          subst e1 e3 e5 e7 e8; exact absurd h4 c9
      · skip
        subst e1 e3 e5; exact absurd h3 c6
    · skip
      subst e1 e3; exact absurd h2 c4
set_option maxHeartbeats 4000000 in
set_option maxRecDepth 100000 in
theorem c_X7_rehearse_e1 (l : Launch) (E : EV) {a : Nat → Nat} {th sm ln pl : Int32} {hs : Int64} {s S b w : Nat → Int32} {p k r : Int32} (h : ¬ ((nI 0 ≤ p ∧ p ≤ nI 7) ∧ (nI 0 ≤ k ∧ k ≤ nI 5))) : Wr l E yX7_rehearse cX7_rehearse 4 (some .int) 3 70 [.ref (a 0), .int p, .int k, .int r] (mdW E a th sm ln pl hs s S b w) (mdW E a (nI 1) sm ln pl hs s S b w) (some (.int (nI 0))) := by
  refine Wr.mk0 (by decide) (Nat.le_of_ble_eq_true rfl) ?_
  intro pP eE sS mM aA bB mt cC F hr hk hE hN ls hl
  have hl : lv_has ls 4 [(0, .ref (a 0)), (1, .int p), (2, .int k), (3, .int r)] := hl
  refine V.aload_n F dX7_rehearse_0 rfl (lv_at hl 0 rfl) ?_
  refine V.iconst (v := nI 0) F dX7_rehearse_1 (by decide) ?_
  refine V.putf (ws' := mdW E a (nI 0) sm ln pl hs s S b w) F hE hN (by rfl) pX7_22 rfl rfl 0 rfl (by exact Nat.le_of_ble_eq_true rfl) dX7_rehearse_2 rfl ?_
  refine V.iload_n F dX7_rehearse_5 rfl (lv_at hl 1 rfl) ?_
  refine V.rdS F hE (c_X7_isPerson l E) (kX7_90 F.2.2.2.2 ⟨Nat.le_of_ble_eq_true rfl, Nat.le_of_ble_eq_true rfl⟩) [] rfl rfl hl.1 (Nat.le_of_ble_eq_true rfl) dX7_rehearse_6 rfl ?_
  refine V.topi (fun z1 e1 => ?_)
  refine V.if_eqB (tgt := 19) F e1 dX7_rehearse_9 (by decide) (fun c2 => ?_) (fun c2 => ?_)
  · skip
    refine V.aload_n F dX7_rehearse_19 rfl (lv_at hl 0 rfl) ?_
    refine V.iconst (v := nI 1) F dX7_rehearse_20 (by decide) ?_
    refine V.wsV (q0 := 0) (ws' := mdW E a (nI 1) sm ln pl hs s S b w) F hE hN (pm_eq (by rfl)) (c_X7_fails l E) (kX7_33 F.2.2.2.2 ⟨Nat.le_of_ble_eq_true rfl, Nat.le_of_ble_eq_true rfl⟩) rfl rfl 0 5 (by rfl) (by rfl) rfl hl.1 (Nat.le_of_ble_eq_true rfl) dX7_rehearse_21 rfl ?_
    refine V.topi (fun z3 e3 => ?_)
    exact V.iretW F hr hk dX7_rehearse_24 (by subst e1 e3; first | with_reducible rfl | (simp only [oi1n, nI_add]; done) | (simp only [c2, oi1n, nI_add, pk_mul, if_true, if_false, ↓reduceIte]; done) | (simp only [c2, oi1n, nI_add, pk_mul, bI, and_true, true_and, and_false, false_and, and_self, not_true_eq_false, not_false_eq_true, if_true, if_false, ↓reduceIte] <;> rfl)) (by subst e1 e3; first | with_reducible rfl | (simp only [oi1n, nI_add]; done) | (simp only [c2, oi1n, nI_add, pk_mul, if_true, if_false, ↓reduceIte]; done) | (simp only [c2, oi1n, nI_add, pk_mul, bI, and_true, true_and, and_false, false_and, and_self, not_true_eq_false, not_false_eq_true, if_true, if_false, ↓reduceIte] <;> rfl))
  · skip
    refine V.iload_n F dX7_rehearse_12 rfl (lv_at hl 2 rfl) ?_
    refine V.rdS F hE (c_X7_isKind l E) (kX7_100 F.2.2.2.2 ⟨Nat.le_of_ble_eq_true rfl, Nat.le_of_ble_eq_true rfl⟩) [] rfl rfl hl.1 (Nat.le_of_ble_eq_true rfl) dX7_rehearse_13 rfl ?_
    refine V.topi (fun z4 e4 => ?_)
    refine V.if_neB (tgt := 25) F e4 dX7_rehearse_16 (by decide) (fun c5 => ?_) (fun c5 => ?_)
    · skip
      subst e1 e4; exact absurd ⟨c2, c5⟩ h
    · skip
      refine V.aload_n F dX7_rehearse_19 rfl (lv_at hl 0 rfl) ?_
      refine V.iconst (v := nI 1) F dX7_rehearse_20 (by decide) ?_
      refine V.wsV (q0 := 0) (ws' := mdW E a (nI 1) sm ln pl hs s S b w) F hE hN (pm_eq (by rfl)) (c_X7_fails l E) (kX7_33 F.2.2.2.2 ⟨Nat.le_of_ble_eq_true rfl, Nat.le_of_ble_eq_true rfl⟩) rfl rfl 0 5 (by rfl) (by rfl) rfl hl.1 (Nat.le_of_ble_eq_true rfl) dX7_rehearse_21 rfl ?_
      refine V.topi (fun z6 e6 => ?_)
      exact V.iretW F hr hk dX7_rehearse_24 (by subst e1 e4 e6; first | with_reducible rfl | (simp only [oi1n, nI_add]; done) | (simp only [eq_true c2, c5, oi1n, nI_add, pk_mul, if_true, if_false, ↓reduceIte]; done) | (simp only [eq_true c2, c5, oi1n, nI_add, pk_mul, bI, and_true, true_and, and_false, false_and, and_self, not_true_eq_false, not_false_eq_true, if_true, if_false, ↓reduceIte] <;> rfl)) (by subst e1 e4 e6; first | with_reducible rfl | (simp only [oi1n, nI_add]; done) | (simp only [eq_true c2, c5, oi1n, nI_add, pk_mul, if_true, if_false, ↓reduceIte]; done) | (simp only [eq_true c2, c5, oi1n, nI_add, pk_mul, bI, and_true, true_and, and_false, false_and, and_self, not_true_eq_false, not_false_eq_true, if_true, if_false, ↓reduceIte] <;> rfl))
set_option maxHeartbeats 4000000 in
set_option maxRecDepth 100000 in
theorem c_X7_rehearse_e2 (l : Launch) (E : EV) {a : Nat → Nat} {th sm ln pl : Int32} {hs : Int64} {s S b w : Nat → Int32} {p k r : Int32} (h1 : nI 0 ≤ p ∧ p ≤ nI 7) (h2 : nI 0 ≤ k ∧ k ≤ nI 5) (h : ¬ (nI 1 ≤ r ∧ r ≤ nI 5)) : Wr l E yX7_rehearse cX7_rehearse 4 (some .int) 3 70 [.ref (a 0), .int p, .int k, .int r] (mdW E a th sm ln pl hs s S b w) (mdW E a (nI 2) sm ln pl hs s S b w) (some (.int (nI 0))) := by
  refine Wr.mk0 (by decide) (Nat.le_of_ble_eq_true rfl) ?_
  intro pP eE sS mM aA bB mt cC F hr hk hE hN ls hl
  have hl : lv_has ls 4 [(0, .ref (a 0)), (1, .int p), (2, .int k), (3, .int r)] := hl
  refine V.aload_n F dX7_rehearse_0 rfl (lv_at hl 0 rfl) ?_
  refine V.iconst (v := nI 0) F dX7_rehearse_1 (by decide) ?_
  refine V.putf (ws' := mdW E a (nI 0) sm ln pl hs s S b w) F hE hN (by rfl) pX7_22 rfl rfl 0 rfl (by exact Nat.le_of_ble_eq_true rfl) dX7_rehearse_2 rfl ?_
  refine V.iload_n F dX7_rehearse_5 rfl (lv_at hl 1 rfl) ?_
  refine V.rdS F hE (c_X7_isPerson l E) (kX7_90 F.2.2.2.2 ⟨Nat.le_of_ble_eq_true rfl, Nat.le_of_ble_eq_true rfl⟩) [] rfl rfl hl.1 (Nat.le_of_ble_eq_true rfl) dX7_rehearse_6 rfl ?_
  refine V.topi (fun z1 e1 => ?_)
  refine V.if_eqB (tgt := 19) F e1 dX7_rehearse_9 (by decide) (fun c2 => ?_) (fun c2 => ?_)
  · skip
    subst e1; exact absurd h1 c2
  · skip
    refine V.iload_n F dX7_rehearse_12 rfl (lv_at hl 2 rfl) ?_
    refine V.rdS F hE (c_X7_isKind l E) (kX7_100 F.2.2.2.2 ⟨Nat.le_of_ble_eq_true rfl, Nat.le_of_ble_eq_true rfl⟩) [] rfl rfl hl.1 (Nat.le_of_ble_eq_true rfl) dX7_rehearse_13 rfl ?_
    refine V.topi (fun z3 e3 => ?_)
    refine V.if_neB (tgt := 25) F e3 dX7_rehearse_16 (by decide) (fun c4 => ?_) (fun c4 => ?_)
    · skip
      refine V.iload_n F dX7_rehearse_25 rfl (lv_at hl 3 rfl) ?_
      refine V.rdS F hE (c_X7_isRisk l E) (kX7_103 F.2.2.2.2 ⟨Nat.le_of_ble_eq_true rfl, Nat.le_of_ble_eq_true rfl⟩) [] rfl rfl hl.1 (Nat.le_of_ble_eq_true rfl) dX7_rehearse_26 rfl ?_
      refine V.topi (fun z5 e5 => ?_)
      refine V.if_neB (tgt := 38) F e5 dX7_rehearse_29 (by decide) (fun c6 => ?_) (fun c6 => ?_)
      · skip
        subst e1 e3 e5; exact absurd c6 h
      · skip
        refine V.aload_n F dX7_rehearse_32 rfl (lv_at hl 0 rfl) ?_
        refine V.iconst (v := nI 2) F dX7_rehearse_33 (by decide) ?_
        refine V.wsV (q0 := 0) (ws' := mdW E a (nI 2) sm ln pl hs s S b w) F hE hN (pm_eq (by rfl)) (c_X7_fails l E) (kX7_33 F.2.2.2.2 ⟨Nat.le_of_ble_eq_true rfl, Nat.le_of_ble_eq_true rfl⟩) rfl rfl 0 5 (by rfl) (by rfl) rfl hl.1 (Nat.le_of_ble_eq_true rfl) dX7_rehearse_34 rfl ?_
        refine V.topi (fun z7 e7 => ?_)
        exact V.iretW F hr hk dX7_rehearse_37 (by subst e1 e3 e5 e7; first | with_reducible rfl | (simp only [oi1n, nI_add]; done) | (simp only [eq_true c2, eq_true c4, c6, oi1n, nI_add, pk_mul, if_true, if_false, ↓reduceIte]; done) | (simp only [eq_true c2, eq_true c4, c6, oi1n, nI_add, pk_mul, bI, and_true, true_and, and_false, false_and, and_self, not_true_eq_false, not_false_eq_true, if_true, if_false, ↓reduceIte] <;> rfl)) (by subst e1 e3 e5 e7; first | with_reducible rfl | (simp only [oi1n, nI_add]; done) | (simp only [eq_true c2, eq_true c4, c6, oi1n, nI_add, pk_mul, if_true, if_false, ↓reduceIte]; done) | (simp only [eq_true c2, eq_true c4, c6, oi1n, nI_add, pk_mul, bI, and_true, true_and, and_false, false_and, and_self, not_true_eq_false, not_false_eq_true, if_true, if_false, ↓reduceIte] <;> rfl))
    · skip
      subst e1 e3; exact absurd h2 c4
set_option maxHeartbeats 4000000 in
set_option maxRecDepth 100000 in
theorem c_X7_rehearse_e3 (l : Launch) (E : EV) {a : Nat → Nat} {th sm ln pl : Int32} {hs : Int64} {s S b w : Nat → Int32} {R H C D : Nat} {sn : Nat → Nat} {k r : Int32} {p : Nat} (hM : MI s R H C D sn) (h1 : nI 0 ≤ nI p ∧ nI p ≤ nI 7) (h2 : nI 0 ≤ k ∧ k ≤ nI 5) (h3 : nI 1 ≤ r ∧ r ≤ nI 5) (h : ¬ (paM s (nI p) (s 0) H &&& bpM k = nI 0)) (hp0 : p < 8) : Wr l E yX7_rehearse cX7_rehearse 4 (some .int) 3 70 [.ref (a 0), .int (nI p), .int k, .int r] (mdW E a th sm ln pl hs s S b w) (mdW E a (nI 3) sm ln pl hs s S b w) (some (.int (nI 0))) := by
  refine Wr.mk0 (by decide) (Nat.le_of_ble_eq_true rfl) ?_
  intro pP eE sS mM aA bB mt cC F hr hk hE hN ls hl
  have hl : lv_has ls 4 [(0, .ref (a 0)), (1, .int (nI p)), (2, .int k), (3, .int r)] := hl
  have hM1 := hM
  obtain ⟨hD0, hD, hkR, hR, hh, hH, hs4, hC, hsn⟩ := hM1
  refine V.aload_n F dX7_rehearse_0 rfl (lv_at hl 0 rfl) ?_
  refine V.iconst (v := nI 0) F dX7_rehearse_1 (by decide) ?_
  refine V.putf (ws' := mdW E a (nI 0) sm ln pl hs s S b w) F hE hN (by rfl) pX7_22 rfl rfl 0 rfl (by exact Nat.le_of_ble_eq_true rfl) dX7_rehearse_2 rfl ?_
  refine V.iload_n F dX7_rehearse_5 rfl (lv_at hl 1 rfl) ?_
  refine V.rdS F hE (c_X7_isPerson l E) (kX7_90 F.2.2.2.2 ⟨Nat.le_of_ble_eq_true rfl, Nat.le_of_ble_eq_true rfl⟩) [] rfl rfl hl.1 (Nat.le_of_ble_eq_true rfl) dX7_rehearse_6 rfl ?_
  refine V.topi (fun z1 e1 => ?_)
  refine V.if_eqB (tgt := 19) F e1 dX7_rehearse_9 (by decide) (fun c2 => ?_) (fun c2 => ?_)
  · skip
    subst e1; exact absurd h1 c2
  · skip
    refine V.iload_n F dX7_rehearse_12 rfl (lv_at hl 2 rfl) ?_
    refine V.rdS F hE (c_X7_isKind l E) (kX7_100 F.2.2.2.2 ⟨Nat.le_of_ble_eq_true rfl, Nat.le_of_ble_eq_true rfl⟩) [] rfl rfl hl.1 (Nat.le_of_ble_eq_true rfl) dX7_rehearse_13 rfl ?_
    refine V.topi (fun z3 e3 => ?_)
    refine V.if_neB (tgt := 25) F e3 dX7_rehearse_16 (by decide) (fun c4 => ?_) (fun c4 => ?_)
    · skip
      refine V.iload_n F dX7_rehearse_25 rfl (lv_at hl 3 rfl) ?_
      refine V.rdS F hE (c_X7_isRisk l E) (kX7_103 F.2.2.2.2 ⟨Nat.le_of_ble_eq_true rfl, Nat.le_of_ble_eq_true rfl⟩) [] rfl rfl hl.1 (Nat.le_of_ble_eq_true rfl) dX7_rehearse_26 rfl ?_
      refine V.topi (fun z5 e5 => ?_)
      refine V.if_neB (tgt := 38) F e5 dX7_rehearse_29 (by decide) (fun c6 => ?_) (fun c6 => ?_)
      · skip
        refine V.aload_n F dX7_rehearse_38 rfl (lv_at hl 0 rfl) ?_
        refine V.iload_n F dX7_rehearse_39 rfl (lv_at hl 1 rfl) ?_
        refine V.iload_n F dX7_rehearse_40 rfl (lv_at hl 2 rfl) ?_
        refine V.aload_n F dX7_rehearse_41 rfl (lv_at hl 0 rfl) ?_
        refine V.getf F hE gX7_7 0 rfl rfl dX7_rehearse_42 ?_
        refine V.iconst (v := nI 0) F dX7_rehearse_45 (by decide) ?_
        refine V.iadn (i := 0) F hE 1 rfl (by omega) (by omega) dX7_rehearse_46 (fun z7 e7 => ?_)
        refine V.rdV (q0 := 0) F hE (c_X7_isBarred l E hM) (kX7_47 F.2.2.2.2 ⟨Nat.le_of_ble_eq_true rfl, Nat.le_of_ble_eq_true rfl⟩) rfl rfl [0, 1, 2, 3, 4] rfl rfl hl.1 (Nat.le_of_ble_eq_true rfl) dX7_rehearse_47 rfl ?_
        refine V.topi (fun z8 e8 => ?_)
        refine V.if_eqB (tgt := 59) F e8 dX7_rehearse_50 (by decide) (fun c9 => ?_) (fun c9 => ?_)
        · skip
          subst e1 e3 e5 e7 e8; exact absurd h c9
        · skip
          refine V.aload_n F dX7_rehearse_53 rfl (lv_at hl 0 rfl) ?_
          refine V.iconst (v := nI 3) F dX7_rehearse_54 (by decide) ?_
          refine V.wsV (q0 := 0) (ws' := mdW E a (nI 3) sm ln pl hs s S b w) F hE hN (pm_eq (by rfl)) (c_X7_fails l E) (kX7_33 F.2.2.2.2 ⟨Nat.le_of_ble_eq_true rfl, Nat.le_of_ble_eq_true rfl⟩) rfl rfl 0 5 (by rfl) (by rfl) rfl hl.1 (Nat.le_of_ble_eq_true rfl) dX7_rehearse_55 rfl ?_
          refine V.topi (fun z10 e10 => ?_)
          exact V.iretW F hr hk dX7_rehearse_58 (by subst e1 e3 e5 e7 e8 e10; first | with_reducible rfl | (simp only [oi1n, nI_add]; done) | (simp only [eq_true c2, eq_true c4, eq_true c6, c9, oi1n, nI_add, pk_mul, if_true, if_false, ↓reduceIte]; done) | (simp only [eq_true c2, eq_true c4, eq_true c6, c9, oi1n, nI_add, pk_mul, bI, and_true, true_and, and_false, false_and, and_self, not_true_eq_false, not_false_eq_true, if_true, if_false, ↓reduceIte] <;> rfl)) (by subst e1 e3 e5 e7 e8 e10; first | with_reducible rfl | (simp only [oi1n, nI_add]; done) | (simp only [eq_true c2, eq_true c4, eq_true c6, c9, oi1n, nI_add, pk_mul, if_true, if_false, ↓reduceIte]; done) | (simp only [eq_true c2, eq_true c4, eq_true c6, c9, oi1n, nI_add, pk_mul, bI, and_true, true_and, and_false, false_and, and_self, not_true_eq_false, not_false_eq_true, if_true, if_false, ↓reduceIte] <;> rfl))
      · skip
        subst e1 e3 e5; exact absurd h3 c6
    · skip
      subst e1 e3; exact absurd h2 c4
set_option maxHeartbeats 4000000 in
set_option maxRecDepth 100000 in
theorem c_X7_hurt (l : Launch) (E : EV) {a : Nat → Nat} {th ln pl : Int32} {hs : Int64} {s S b w : Nat → Int32} {R H C D : Nat} {sn : Nat → Nat} {p q x : Int32} {M : Nat} (hM : MI s R H C D sn) (h1 : nI 0 ≤ p ∧ p ≤ nI 7) (h2 : q = nI 1 ∨ q = nI 2 ∨ q = nI 4 ∨ q = nI 8 ∨ q = nI 16 ∨ q = nI 32) (h3 : nI 1 ≤ x ∧ x ≤ nI 60) (hm : M ≤ 6) : Wr l E yX7_hurt cX7_hurt 7 (some .int) 3 70 [.ref (a 0), .int p, .int q, .int x] (mdW E a th (nI M) ln pl hs s S b w) (mdW E a (nI 0) (nI (kN M)) ln pl hs (ijA s H p q x) (svA S s M) b w) (some (.int (hbM (ijA s H p q x) (hN12 H) p C))) := by
  refine Wr.mk0 (by decide) (Nat.le_of_ble_eq_true rfl) ?_
  intro pP eE sS mM aA bB mt cC F hr hk hE hN ls hl
  have hl : lv_has ls 7 [(0, .ref (a 0)), (1, .int p), (2, .int q), (3, .int x)] := hl
  have hM1 := hM
  obtain ⟨hD0, hD, hkR, hR, hh, hH, hs4, hC, hsn⟩ := hM1
  refine V.aload_n F dX7_hurt_0 rfl (lv_at hl 0 rfl) ?_
  refine V.iconst (v := nI 0) F dX7_hurt_1 (by decide) ?_
  refine V.putf (ws' := mdW E a (nI 0) (nI M) ln pl hs s S b w) F hE hN (by rfl) pX7_22 rfl rfl 0 rfl (by exact Nat.le_of_ble_eq_true rfl) dX7_hurt_2 rfl ?_
  refine V.iload_n F dX7_hurt_5 rfl (lv_at hl 1 rfl) ?_
  refine V.rdS F hE (c_X7_isPerson l E) (kX7_90 F.2.2.2.2 ⟨Nat.le_of_ble_eq_true rfl, Nat.le_of_ble_eq_true rfl⟩) [] rfl rfl hl.1 (Nat.le_of_ble_eq_true rfl) dX7_hurt_6 rfl ?_
  refine V.topi (fun z1 e1 => ?_)
  refine V.if_neB (tgt := 18) F e1 dX7_hurt_9 (by decide) (fun c2 => ?_) (fun c2 => ?_)
  · skip
    refine V.iload_n F dX7_hurt_18 rfl (lv_at hl 2 rfl) ?_
    refine V.rdS F hE (c_X7_isPart l E) (kX7_109 F.2.2.2.2 ⟨Nat.le_of_ble_eq_true rfl, Nat.le_of_ble_eq_true rfl⟩) [] rfl rfl hl.1 (Nat.le_of_ble_eq_true rfl) dX7_hurt_19 rfl ?_
    refine V.topi (fun z3 e3 => ?_)
    refine V.if_eqB (tgt := 35) F e3 dX7_hurt_22 (by decide) (fun c4 => ?_) (fun c4 => ?_)
    · skip
      subst e1 e3; exact absurd h2 c4
    · skip
      refine V.iload_n F dX7_hurt_25 rfl (lv_at hl 3 rfl) ?_
      refine V.iconst (v := nI 1) F dX7_hurt_26 (by decide) ?_
      refine V.bipush (v := nI 60) F dX7_hurt_27 (by decide) ?_
      refine V.rdS F hE (c_X7_within l E) (kX7_26 F.2.2.2.2 ⟨Nat.le_of_ble_eq_true rfl, Nat.le_of_ble_eq_true rfl⟩) [] rfl rfl hl.1 (Nat.le_of_ble_eq_true rfl) dX7_hurt_29 rfl ?_
      refine V.topi (fun z5 e5 => ?_)
      refine V.if_neB (tgt := 41) F e5 dX7_hurt_32 (by decide) (fun c6 => ?_) (fun c6 => ?_)
      · skip
        refine V.aload_n F dX7_hurt_41 rfl (lv_at hl 0 rfl) ?_
        refine V.wsVn (q0 := 0) (ws' := mdW E a (nI 0) (nI (kN M)) ln pl hs s (svA S s M) b w) F hE hN (pm_eq (by rfl)) (c_X7_saveA l E hm) (kX7_94 F.2.2.2.2 ⟨Nat.le_of_ble_eq_true rfl, Nat.le_of_ble_eq_true rfl⟩) rfl rfl 0 5 (by rfl) (by rfl) rfl hl.1 (Nat.le_of_ble_eq_true rfl) dX7_hurt_42 rfl ?_
        refine V.aload_n F dX7_hurt_45 rfl (lv_at hl 0 rfl) ?_
        refine V.iload_n F dX7_hurt_46 rfl (lv_at hl 1 rfl) ?_
        refine V.iload_n F dX7_hurt_47 rfl (lv_at hl 2 rfl) ?_
        refine V.iload_n F dX7_hurt_48 rfl (lv_at hl 3 rfl) ?_
        refine V.wsVn (q0 := 0) (ws' := mdW E a (nI 0) (nI (kN M)) ln pl hs (ijA s H p q x) (svA S s M) b w) F hE hN (pm_eq (by rfl)) (c_X7_injureA l E hh hH) (kX7_59 F.2.2.2.2 ⟨Nat.le_of_ble_eq_true rfl, Nat.le_of_ble_eq_true rfl⟩) rfl rfl 0 5 (by rfl) (by rfl) rfl hl.1 (Nat.le_of_ble_eq_true rfl) dX7_hurt_49 rfl ?_
        have hMJ := MI_ij (p := p) (q := q) (x := x) hM
        have hM4 := hMJ.2.2.2.2.2.2.1
        refine V.iconst (v := nI 0) F dX7_hurt_52 (by decide) ?_
        refine V.istore (lv' := [(4, .int (nI 0)), (0, .ref (a 0)), (1, .int p), (2, .int q), (3, .int x)]) F dX7_hurt_53 hl (by decide) rfl (fun ls hl => ?_)
        refine V.iconst (v := nI 0) F dX7_hurt_55 (by decide) ?_
        refine V.istore (lv' := [(5, .int (nI 0)), (4, .int (nI 0)), (0, .ref (a 0)), (1, .int p), (2, .int q), (3, .int x)]) F dX7_hurt_56 hl (by decide) rfl (fun ls hl => ?_)
        have h8 : nI 0 = nI 0 := (by subst e1 e3 e5; first | with_reducible rfl | (simp only [oi1n, nI_add]; done) | (rw [hbM]; done) | (simp only [hbM, hN12]; done) | (rfl; done) | (simp only [hbM, hN12, eq_true c2, eq_true c4, eq_true c6, oi1n, nI_add, pk_mul, if_true, if_false, ↓reduceIte]; done) | (simp only [hbM, hN12, eq_true c2, eq_true c4, eq_true c6, oi1n, nI_add, pk_mul, bI, and_true, true_and, and_false, false_and, and_self, not_true_eq_false, not_false_eq_true, if_true, if_false, ↓reduceIte] <;> rfl))
        have h9 : hbM (ijA s H p q x) (hN12 H) p 0 = nI 0 := (by subst e1 e3 e5; first | with_reducible rfl | (simp only [oi1n, nI_add]; done) | (rw [hbM]; done) | (simp only [hbM, hN12]; done) | (rfl; done) | (simp only [hbM, hN12, eq_true c2, eq_true c4, eq_true c6, oi1n, nI_add, pk_mul, if_true, if_false, ↓reduceIte]; done) | (simp only [hbM, hN12, eq_true c2, eq_true c4, eq_true c6, oi1n, nI_add, pk_mul, bI, and_true, true_and, and_false, false_and, and_self, not_true_eq_false, not_false_eq_true, if_true, if_false, ↓reduceIte] <;> rfl))
        refine V.weq (ws' := mdW E a (nI 0) (nI (kN M)) ln pl hs (ijA s H p q x) (svA S s M) b w) (by subst e1 e3 e5; first | with_reducible rfl | (simp only [oi1n, nI_add]; done) | (rw [hbM]; done) | (simp only [hbM, hN12]; done) | (rfl; done) | (simp only [hbM, hN12, eq_true c2, eq_true c4, eq_true c6, oi1n, nI_add, pk_mul, if_true, if_false, ↓reduceIte]; done) | (simp only [hbM, hN12, eq_true c2, eq_true c4, eq_true c6, oi1n, nI_add, pk_mul, bI, and_true, true_and, and_false, false_and, and_self, not_true_eq_false, not_false_eq_true, if_true, if_false, ↓reduceIte] <;> rfl)) ?_
        refine V.loopW (Wd := fun j7 : Nat => mdW E a (nI 0) (nI (kN M)) ln pl hs (ijA s H p q x) (svA S s M) b w) (N := C) (k0 := 0) (I := (fun j7 : Nat => [(5, .int (nI j7)), (4, .int (hbM (ijA s H p q x) (hN12 H) p j7)), (0, .ref (a 0)), (1, .int p), (2, .int q), (3, .int x)])) (J := fun _ => True) (Nat.zero_le _) trivial (lv_sub hl [0, 1, 2, 3, 4, 5] (by rw [h8, h9]; rfl)) ?_
        intro j7 j7_N j7_J ihj7 ls hl
        have hl : lv_has ls 7 [(5, .int (nI j7)), (4, .int (hbM (ijA s H p q x) (hN12 H) p j7)), (0, .ref (a 0)), (1, .int p), (2, .int q), (3, .int x)] := hl
        try dsimp only at j7_J ihj7 ⊢
        refine V.iload F dX7_hurt_58 (lv_at hl 0 rfl) ?_
        refine V.aload_n F dX7_hurt_60 rfl (lv_at hl 2 rfl) ?_
        refine V.getf F hE gX7_7 0 rfl rfl dX7_hurt_61 ?_
        refine V.iconst (v := nI 4) F dX7_hurt_64 (by decide) ?_
        refine V.iadn (i := 4) F hE 1 rfl (by omega) (by omega) dX7_hurt_65 (fun z10 e10 => ?_)
        obtain rfl : z10 = nI C := e10.trans hM4
        refine V.icmp_ge (tgt := 129) F dX7_hurt_66 (by decide) (fun c11 c11' => ?_) (fun c11 c11' => ?_)
        · skip
          have j7_eq := ((lpL rfl (by omega) j7_N).1 c11).symm
          subst j7_eq
          refine V.iload F dX7_hurt_129 (lv_at hl 1 rfl) ?_
          exact V.iretW F hr hk dX7_hurt_131 (by subst e1 e3 e5; first | with_reducible rfl | (simp only [oi1n, nI_add]; done) | (rw [hbM]; done) | (simp only [hbM, hN12]; done) | (rfl; done) | (simp only [hbM, hN12, eq_true c2, eq_true c4, eq_true c6, c11, c11', oi1n, nI_add, pk_mul, if_true, if_false, ↓reduceIte]; done) | (simp only [hbM, hN12, eq_true c2, eq_true c4, eq_true c6, c11, c11', oi1n, nI_add, pk_mul, bI, and_true, true_and, and_false, false_and, and_self, not_true_eq_false, not_false_eq_true, if_true, if_false, ↓reduceIte] <;> rfl)) (by subst e1 e3 e5; first | with_reducible rfl | (simp only [oi1n, nI_add]; done) | (rw [hbM]; done) | (simp only [hbM, hN12]; done) | (rfl; done) | (simp only [hbM, hN12, eq_true c2, eq_true c4, eq_true c6, c11, c11', oi1n, nI_add, pk_mul, if_true, if_false, ↓reduceIte]; done) | (simp only [hbM, hN12, eq_true c2, eq_true c4, eq_true c6, c11, c11', oi1n, nI_add, pk_mul, bI, and_true, true_and, and_false, false_and, and_self, not_true_eq_false, not_false_eq_true, if_true, if_false, ↓reduceIte] <;> rfl))
        · skip
          have j7_lt := (lpL rfl (by omega) j7_N).2 c11
          refine V.aload_n F dX7_hurt_69 rfl (lv_at hl 2 rfl) ?_
          refine V.iload F dX7_hurt_70 (lv_at hl 0 rfl) ?_
          refine V.iconst (v := nI 3) F dX7_hurt_72 (by decide) ?_
          refine V.rdV (q0 := 0) F hE (c_X7_ofScene l E (by omega) (by omega)) (kX7_63 F.2.2.2.2 ⟨Nat.le_of_ble_eq_true rfl, Nat.le_of_ble_eq_true rfl⟩) rfl rfl [0, 1, 2, 3, 4] rfl rfl hl.1 (Nat.le_of_ble_eq_true rfl) dX7_hurt_73 rfl ?_
          refine V.topi (fun z12 e12 => ?_)
          refine V.iconst (v := (-1)) F dX7_hurt_76 (by decide) ?_
          refine V.icmp_ne (tgt := 84) F dX7_hurt_77 (by decide) (fun c13 => ?_) (fun c13 => ?_)
          · skip
            refine V.iconst (v := nI 0) F dX7_hurt_84 (by decide) ?_
            refine V.istore (lv' := [(6, .int (nI 0)), (5, .int (nI j7)), (4, .int (hbM (ijA s H p q x) (hN12 H) p j7)), (0, .ref (a 0)), (1, .int p), (2, .int q), (3, .int x)]) F dX7_hurt_85 hl (by decide) rfl (fun ls hl => ?_)
            refine V.iload F dX7_hurt_87 (lv_at hl 2 rfl) ?_
            refine V.iload F dX7_hurt_89 (lv_at hl 0 rfl) ?_
            refine V.if_eq (tgt := 119) F dX7_hurt_91 (by decide) (fun _ => ?_) (fun h => absurd h (by decide))
            refine V.iconst (v := nI 0) F dX7_hurt_119 (by decide) ?_
            refine V.iadd F dX7_hurt_120 (fun z15 e15 => ?_)
            refine V.istore (lv' := [(4, .int z15), (6, .int (nI 0)), (5, .int (nI j7)), (0, .ref (a 0)), (1, .int p), (2, .int q), (3, .int x)]) F dX7_hurt_121 hl (by decide) rfl (fun ls hl => ?_)
            refine V.iinc (j := 2) (lv' := fun z16 => [(5, .int z16), (4, .int z15), (6, .int (nI 0)), (0, .ref (a 0)), (1, .int p), (2, .int q), (3, .int x)]) F dX7_hurt_123 hl rfl (by decide) (fun _ => rfl) (fun z16 e16 ls hl => ?_)
            refine V.goto (tgt := 58) F dX7_hurt_126 (by decide) ?_
            have h17 : nI (j7 + 1) = z16 := (by subst e1 e3 e5 e12 e15 e16; first | with_reducible rfl | (simp only [oi1n, nI_add]; done) | (rw [hbM]; done) | (simp only [hbM, hN12]; done) | (rfl; done) | (simp only [hbM, hN12, eq_true c2, eq_true c4, eq_true c6, c11, c11', c13, oi1n, nI_add, pk_mul, if_true, if_false, ↓reduceIte]; done) | (simp only [hbM, hN12, eq_true c2, eq_true c4, eq_true c6, c11, c11', c13, oi1n, nI_add, pk_mul, bI, and_true, true_and, and_false, false_and, and_self, not_true_eq_false, not_false_eq_true, if_true, if_false, ↓reduceIte] <;> rfl))
            have h18 : hbM (ijA s H p q x) (hN12 H) p (j7 + 1) = z15 := (by subst e1 e3 e5 e12 e15 e16; first | with_reducible rfl | (simp only [oi1n, nI_add]; done) | (rw [hbM]; done) | (simp only [hbM, hN12]; done) | (rfl; done) | (simp only [hbM, hN12, eq_true c2, eq_true c4, eq_true c6, c11, c11', c13, oi1n, nI_add, pk_mul, if_true, if_false, ↓reduceIte]; done) | (simp only [hbM, hN12, eq_true c2, eq_true c4, eq_true c6, c11, c11', c13, oi1n, nI_add, pk_mul, bI, and_true, true_and, and_false, false_and, and_self, not_true_eq_false, not_false_eq_true, if_true, if_false, ↓reduceIte] <;> rfl))
            refine V.weq (ws' := mdW E a (nI 0) (nI (kN M)) ln pl hs (ijA s H p q x) (svA S s M) b w) (by subst e1 e3 e5 e12 e15 e16; first | with_reducible rfl | (simp only [oi1n, nI_add]; done) | (rw [hbM]; done) | (simp only [hbM, hN12]; done) | (rfl; done) | (simp only [hbM, hN12, eq_true c2, eq_true c4, eq_true c6, c11, c11', c13, oi1n, nI_add, pk_mul, if_true, if_false, ↓reduceIte]; done) | (simp only [hbM, hN12, eq_true c2, eq_true c4, eq_true c6, c11, c11', c13, oi1n, nI_add, pk_mul, bI, and_true, true_and, and_false, false_and, and_self, not_true_eq_false, not_false_eq_true, if_true, if_false, ↓reduceIte] <;> rfl)) ?_
            exact ihj7 j7_lt trivial _ (lv_sub hl [0, 1, 3, 4, 5, 6] (by rw [h17, h18]; rfl))
          · skip
            refine V.iconst (v := nI 1) F dX7_hurt_80 (by decide) ?_
            refine V.goto (tgt := 85) F dX7_hurt_81 (by decide) ?_
            refine V.istore (lv' := [(6, .int (nI 1)), (5, .int (nI j7)), (4, .int (hbM (ijA s H p q x) (hN12 H) p j7)), (0, .ref (a 0)), (1, .int p), (2, .int q), (3, .int x)]) F dX7_hurt_85 hl (by decide) rfl (fun ls hl => ?_)
            refine V.iload F dX7_hurt_87 (lv_at hl 2 rfl) ?_
            refine V.iload F dX7_hurt_89 (lv_at hl 0 rfl) ?_
            refine V.if_eq (tgt := 119) F dX7_hurt_91 (by decide) (fun h => absurd h (by decide)) (fun _ => ?_)
            refine V.aload_n F dX7_hurt_94 rfl (lv_at hl 3 rfl) ?_
            refine V.iload_n F dX7_hurt_95 rfl (lv_at hl 4 rfl) ?_
            refine V.aload_n F dX7_hurt_96 rfl (lv_at hl 3 rfl) ?_
            refine V.iload F dX7_hurt_97 (lv_at hl 1 rfl) ?_
            refine V.iconst (v := nI 0) F dX7_hurt_99 (by decide) ?_
            refine V.rdV (q0 := 0) F hE (c_X7_ofScene l E (by omega) (by omega)) (kX7_63 F.2.2.2.2 ⟨Nat.le_of_ble_eq_true rfl, Nat.le_of_ble_eq_true rfl⟩) rfl rfl [0, 1, 2, 3, 4] rfl rfl hl.1 (Nat.le_of_ble_eq_true rfl) dX7_hurt_100 rfl ?_
            refine V.topi (fun z20 e20 => ?_)
            refine V.aload_n F dX7_hurt_103 rfl (lv_at hl 3 rfl) ?_
            refine V.getf F hE gX7_7 0 rfl rfl dX7_hurt_104 ?_
            refine V.iconst (v := nI 0) F dX7_hurt_107 (by decide) ?_
            refine V.iadn (i := 0) F hE 1 rfl (by omega) (by omega) dX7_hurt_108 (fun z21 e21 => ?_)
            refine V.rdV (q0 := 0) F hE (c_X7_isBarred l E hMJ) (kX7_47 F.2.2.2.2 ⟨Nat.le_of_ble_eq_true rfl, Nat.le_of_ble_eq_true rfl⟩) rfl rfl [0, 1, 2, 3, 4] rfl rfl hl.1 (Nat.le_of_ble_eq_true rfl) dX7_hurt_109 rfl ?_
            refine V.topi (fun z22 e22 => ?_)
            refine V.if_eqB (tgt := 119) F e22 dX7_hurt_112 (by decide) (fun c23 => ?_) (fun c23 => ?_)
            · skip
              rw [Decidable.not_not] at c23
              refine V.iconst (v := nI 0) F dX7_hurt_119 (by decide) ?_
              refine V.iadd F dX7_hurt_120 (fun z24 e24 => ?_)
              refine V.istore (lv' := [(4, .int z24), (6, .int (nI 1)), (5, .int (nI j7)), (0, .ref (a 0)), (1, .int p), (2, .int q), (3, .int x)]) F dX7_hurt_121 hl (by decide) rfl (fun ls hl => ?_)
              refine V.iinc (j := 2) (lv' := fun z25 => [(5, .int z25), (4, .int z24), (6, .int (nI 1)), (0, .ref (a 0)), (1, .int p), (2, .int q), (3, .int x)]) F dX7_hurt_123 hl rfl (by decide) (fun _ => rfl) (fun z25 e25 ls hl => ?_)
              refine V.goto (tgt := 58) F dX7_hurt_126 (by decide) ?_
              have h26 : nI (j7 + 1) = z25 := (by subst e1 e3 e5 e12 e20 e21 e22 e24 e25; first | with_reducible rfl | (simp only [oi1n, nI_add]; done) | (rw [hbM]; done) | (simp only [hbM, hN12]; done) | (rfl; done) | (simp only [hbM, hN12, eq_true c2, eq_true c4, eq_true c6, c11, c11', eq_true c13, eq_true c23, oi1n, nI_add, pk_mul, if_true, if_false, ↓reduceIte]; done) | (simp only [hbM, hN12, eq_true c2, eq_true c4, eq_true c6, c11, c11', eq_true c13, eq_true c23, oi1n, nI_add, pk_mul, bI, and_true, true_and, and_false, false_and, and_self, not_true_eq_false, not_false_eq_true, if_true, if_false, ↓reduceIte] <;> rfl))
              have h27 : hbM (ijA s H p q x) (hN12 H) p (j7 + 1) = z24 := (by subst e1 e3 e5 e12 e20 e21 e22 e24 e25; first | with_reducible rfl | (simp only [oi1n, nI_add]; done) | (rw [hbM]; done) | (simp only [hbM, hN12]; done) | (rfl; done) | (simp only [hbM, hN12, eq_true c2, eq_true c4, eq_true c6, c11, c11', eq_true c13, eq_true c23, oi1n, nI_add, pk_mul, if_true, if_false, ↓reduceIte]; done) | (simp only [hbM, hN12, eq_true c2, eq_true c4, eq_true c6, c11, c11', eq_true c13, eq_true c23, oi1n, nI_add, pk_mul, bI, and_true, true_and, and_false, false_and, and_self, not_true_eq_false, not_false_eq_true, if_true, if_false, ↓reduceIte] <;> rfl))
              refine V.weq (ws' := mdW E a (nI 0) (nI (kN M)) ln pl hs (ijA s H p q x) (svA S s M) b w) (by subst e1 e3 e5 e12 e20 e21 e22 e24 e25; first | with_reducible rfl | (simp only [oi1n, nI_add]; done) | (rw [hbM]; done) | (simp only [hbM, hN12]; done) | (rfl; done) | (simp only [hbM, hN12, eq_true c2, eq_true c4, eq_true c6, c11, c11', eq_true c13, eq_true c23, oi1n, nI_add, pk_mul, if_true, if_false, ↓reduceIte]; done) | (simp only [hbM, hN12, eq_true c2, eq_true c4, eq_true c6, c11, c11', eq_true c13, eq_true c23, oi1n, nI_add, pk_mul, bI, and_true, true_and, and_false, false_and, and_self, not_true_eq_false, not_false_eq_true, if_true, if_false, ↓reduceIte] <;> rfl)) ?_
              exact ihj7 j7_lt trivial _ (lv_sub hl [0, 1, 3, 4, 5, 6] (by rw [h26, h27]; rfl))
            · skip
              refine V.iconst (v := nI 1) F dX7_hurt_115 (by decide) ?_
              refine V.goto (tgt := 120) F dX7_hurt_116 (by decide) ?_
              refine V.iadd F dX7_hurt_120 (fun z28 e28 => ?_)
              refine V.istore (lv' := [(4, .int z28), (6, .int (nI 1)), (5, .int (nI j7)), (0, .ref (a 0)), (1, .int p), (2, .int q), (3, .int x)]) F dX7_hurt_121 hl (by decide) rfl (fun ls hl => ?_)
              refine V.iinc (j := 2) (lv' := fun z29 => [(5, .int z29), (4, .int z28), (6, .int (nI 1)), (0, .ref (a 0)), (1, .int p), (2, .int q), (3, .int x)]) F dX7_hurt_123 hl rfl (by decide) (fun _ => rfl) (fun z29 e29 ls hl => ?_)
              refine V.goto (tgt := 58) F dX7_hurt_126 (by decide) ?_
              have h30 : nI (j7 + 1) = z29 := (by subst e1 e3 e5 e12 e20 e21 e22 e28 e29; first | with_reducible rfl | (simp only [oi1n, nI_add]; done) | (rw [hbM]; done) | (simp only [hbM, hN12]; done) | (rfl; done) | (simp only [hbM, hN12, eq_true c2, eq_true c4, eq_true c6, c11, c11', eq_true c13, c23, oi1n, nI_add, pk_mul, if_true, if_false, ↓reduceIte]; done) | (simp only [hbM, hN12, eq_true c2, eq_true c4, eq_true c6, c11, c11', eq_true c13, c23, oi1n, nI_add, pk_mul, bI, and_true, true_and, and_false, false_and, and_self, not_true_eq_false, not_false_eq_true, if_true, if_false, ↓reduceIte] <;> rfl))
              have h31 : hbM (ijA s H p q x) (hN12 H) p (j7 + 1) = z28 := (by subst e1 e3 e5 e12 e20 e21 e22 e28 e29; first | with_reducible rfl | (simp only [oi1n, nI_add]; done) | (rw [hbM]; done) | (simp only [hbM, hN12]; done) | (rfl; done) | (simp only [hbM, hN12, eq_true c2, eq_true c4, eq_true c6, c11, c11', eq_true c13, c23, oi1n, nI_add, pk_mul, if_true, if_false, ↓reduceIte]; done) | (simp only [hbM, hN12, eq_true c2, eq_true c4, eq_true c6, c11, c11', eq_true c13, c23, oi1n, nI_add, pk_mul, bI, and_true, true_and, and_false, false_and, and_self, not_true_eq_false, not_false_eq_true, if_true, if_false, ↓reduceIte] <;> rfl))
              refine V.weq (ws' := mdW E a (nI 0) (nI (kN M)) ln pl hs (ijA s H p q x) (svA S s M) b w) (by subst e1 e3 e5 e12 e20 e21 e22 e28 e29; first | with_reducible rfl | (simp only [oi1n, nI_add]; done) | (rw [hbM]; done) | (simp only [hbM, hN12]; done) | (rfl; done) | (simp only [hbM, hN12, eq_true c2, eq_true c4, eq_true c6, c11, c11', eq_true c13, c23, oi1n, nI_add, pk_mul, if_true, if_false, ↓reduceIte]; done) | (simp only [hbM, hN12, eq_true c2, eq_true c4, eq_true c6, c11, c11', eq_true c13, c23, oi1n, nI_add, pk_mul, bI, and_true, true_and, and_false, false_and, and_self, not_true_eq_false, not_false_eq_true, if_true, if_false, ↓reduceIte] <;> rfl)) ?_
              exact ihj7 j7_lt trivial _ (lv_sub hl [0, 1, 3, 4, 5, 6] (by rw [h30, h31]; rfl))
      · skip
        subst e1 e3 e5; exact absurd h3 c6
  · skip
    subst e1; exact absurd h1 c2
set_option maxHeartbeats 4000000 in
set_option maxRecDepth 100000 in
theorem c_X7_hurt_e1 (l : Launch) (E : EV) {a : Nat → Nat} {th sm ln pl : Int32} {hs : Int64} {s S b w : Nat → Int32} {p q x : Int32} (h : ¬ (nI 0 ≤ p ∧ p ≤ nI 7)) : Wr l E yX7_hurt cX7_hurt 7 (some .int) 3 70 [.ref (a 0), .int p, .int q, .int x] (mdW E a th sm ln pl hs s S b w) (mdW E a (nI 1) sm ln pl hs s S b w) (some (.int (nI 0))) := by
  refine Wr.mk0 (by decide) (Nat.le_of_ble_eq_true rfl) ?_
  intro pP eE sS mM aA bB mt cC F hr hk hE hN ls hl
  have hl : lv_has ls 7 [(0, .ref (a 0)), (1, .int p), (2, .int q), (3, .int x)] := hl
  refine V.aload_n F dX7_hurt_0 rfl (lv_at hl 0 rfl) ?_
  refine V.iconst (v := nI 0) F dX7_hurt_1 (by decide) ?_
  refine V.putf (ws' := mdW E a (nI 0) sm ln pl hs s S b w) F hE hN (by rfl) pX7_22 rfl rfl 0 rfl (by exact Nat.le_of_ble_eq_true rfl) dX7_hurt_2 rfl ?_
  refine V.iload_n F dX7_hurt_5 rfl (lv_at hl 1 rfl) ?_
  refine V.rdS F hE (c_X7_isPerson l E) (kX7_90 F.2.2.2.2 ⟨Nat.le_of_ble_eq_true rfl, Nat.le_of_ble_eq_true rfl⟩) [] rfl rfl hl.1 (Nat.le_of_ble_eq_true rfl) dX7_hurt_6 rfl ?_
  refine V.topi (fun z1 e1 => ?_)
  refine V.if_neB (tgt := 18) F e1 dX7_hurt_9 (by decide) (fun c2 => ?_) (fun c2 => ?_)
  · skip
    subst e1; exact absurd c2 h
  · skip
    refine V.aload_n F dX7_hurt_12 rfl (lv_at hl 0 rfl) ?_
    refine V.iconst (v := nI 1) F dX7_hurt_13 (by decide) ?_
    refine V.wsV (q0 := 0) (ws' := mdW E a (nI 1) sm ln pl hs s S b w) F hE hN (pm_eq (by rfl)) (c_X7_fails l E) (kX7_33 F.2.2.2.2 ⟨Nat.le_of_ble_eq_true rfl, Nat.le_of_ble_eq_true rfl⟩) rfl rfl 0 5 (by rfl) (by rfl) rfl hl.1 (Nat.le_of_ble_eq_true rfl) dX7_hurt_14 rfl ?_
    refine V.topi (fun z3 e3 => ?_)
    exact V.iretW F hr hk dX7_hurt_17 (by subst e1 e3; first | with_reducible rfl | (simp only [oi1n, nI_add]; done) | (simp only [c2, oi1n, nI_add, pk_mul, if_true, if_false, ↓reduceIte]; done) | (simp only [c2, oi1n, nI_add, pk_mul, bI, and_true, true_and, and_false, false_and, and_self, not_true_eq_false, not_false_eq_true, if_true, if_false, ↓reduceIte] <;> rfl)) (by subst e1 e3; first | with_reducible rfl | (simp only [oi1n, nI_add]; done) | (simp only [c2, oi1n, nI_add, pk_mul, if_true, if_false, ↓reduceIte]; done) | (simp only [c2, oi1n, nI_add, pk_mul, bI, and_true, true_and, and_false, false_and, and_self, not_true_eq_false, not_false_eq_true, if_true, if_false, ↓reduceIte] <;> rfl))
set_option maxHeartbeats 4000000 in
set_option maxRecDepth 100000 in
theorem c_X7_hurt_e2 (l : Launch) (E : EV) {a : Nat → Nat} {th sm ln pl : Int32} {hs : Int64} {s S b w : Nat → Int32} {p q x : Int32} (h1 : nI 0 ≤ p ∧ p ≤ nI 7) (h : ¬ ((q = nI 1 ∨ q = nI 2 ∨ q = nI 4 ∨ q = nI 8 ∨ q = nI 16 ∨ q = nI 32) ∧ (nI 1 ≤ x ∧ x ≤ nI 60))) : Wr l E yX7_hurt cX7_hurt 7 (some .int) 3 70 [.ref (a 0), .int p, .int q, .int x] (mdW E a th sm ln pl hs s S b w) (mdW E a (nI 2) sm ln pl hs s S b w) (some (.int (nI 0))) := by
  refine Wr.mk0 (by decide) (Nat.le_of_ble_eq_true rfl) ?_
  intro pP eE sS mM aA bB mt cC F hr hk hE hN ls hl
  have hl : lv_has ls 7 [(0, .ref (a 0)), (1, .int p), (2, .int q), (3, .int x)] := hl
  refine V.aload_n F dX7_hurt_0 rfl (lv_at hl 0 rfl) ?_
  refine V.iconst (v := nI 0) F dX7_hurt_1 (by decide) ?_
  refine V.putf (ws' := mdW E a (nI 0) sm ln pl hs s S b w) F hE hN (by rfl) pX7_22 rfl rfl 0 rfl (by exact Nat.le_of_ble_eq_true rfl) dX7_hurt_2 rfl ?_
  refine V.iload_n F dX7_hurt_5 rfl (lv_at hl 1 rfl) ?_
  refine V.rdS F hE (c_X7_isPerson l E) (kX7_90 F.2.2.2.2 ⟨Nat.le_of_ble_eq_true rfl, Nat.le_of_ble_eq_true rfl⟩) [] rfl rfl hl.1 (Nat.le_of_ble_eq_true rfl) dX7_hurt_6 rfl ?_
  refine V.topi (fun z1 e1 => ?_)
  refine V.if_neB (tgt := 18) F e1 dX7_hurt_9 (by decide) (fun c2 => ?_) (fun c2 => ?_)
  · skip
    refine V.iload_n F dX7_hurt_18 rfl (lv_at hl 2 rfl) ?_
    refine V.rdS F hE (c_X7_isPart l E) (kX7_109 F.2.2.2.2 ⟨Nat.le_of_ble_eq_true rfl, Nat.le_of_ble_eq_true rfl⟩) [] rfl rfl hl.1 (Nat.le_of_ble_eq_true rfl) dX7_hurt_19 rfl ?_
    refine V.topi (fun z3 e3 => ?_)
    refine V.if_eqB (tgt := 35) F e3 dX7_hurt_22 (by decide) (fun c4 => ?_) (fun c4 => ?_)
    · skip
      refine V.aload_n F dX7_hurt_35 rfl (lv_at hl 0 rfl) ?_
      refine V.iconst (v := nI 2) F dX7_hurt_36 (by decide) ?_
      refine V.wsV (q0 := 0) (ws' := mdW E a (nI 2) sm ln pl hs s S b w) F hE hN (pm_eq (by rfl)) (c_X7_fails l E) (kX7_33 F.2.2.2.2 ⟨Nat.le_of_ble_eq_true rfl, Nat.le_of_ble_eq_true rfl⟩) rfl rfl 0 5 (by rfl) (by rfl) rfl hl.1 (Nat.le_of_ble_eq_true rfl) dX7_hurt_37 rfl ?_
      refine V.topi (fun z5 e5 => ?_)
      exact V.iretW F hr hk dX7_hurt_40 (by subst e1 e3 e5; first | with_reducible rfl | (simp only [oi1n, nI_add]; done) | (simp only [eq_true c2, c4, oi1n, nI_add, pk_mul, if_true, if_false, ↓reduceIte]; done) | (simp only [eq_true c2, c4, oi1n, nI_add, pk_mul, bI, and_true, true_and, and_false, false_and, and_self, not_true_eq_false, not_false_eq_true, if_true, if_false, ↓reduceIte] <;> rfl)) (by subst e1 e3 e5; first | with_reducible rfl | (simp only [oi1n, nI_add]; done) | (simp only [eq_true c2, c4, oi1n, nI_add, pk_mul, if_true, if_false, ↓reduceIte]; done) | (simp only [eq_true c2, c4, oi1n, nI_add, pk_mul, bI, and_true, true_and, and_false, false_and, and_self, not_true_eq_false, not_false_eq_true, if_true, if_false, ↓reduceIte] <;> rfl))
    · skip
      refine V.iload_n F dX7_hurt_25 rfl (lv_at hl 3 rfl) ?_
      refine V.iconst (v := nI 1) F dX7_hurt_26 (by decide) ?_
      refine V.bipush (v := nI 60) F dX7_hurt_27 (by decide) ?_
      refine V.rdS F hE (c_X7_within l E) (kX7_26 F.2.2.2.2 ⟨Nat.le_of_ble_eq_true rfl, Nat.le_of_ble_eq_true rfl⟩) [] rfl rfl hl.1 (Nat.le_of_ble_eq_true rfl) dX7_hurt_29 rfl ?_
      refine V.topi (fun z6 e6 => ?_)
      refine V.if_neB (tgt := 41) F e6 dX7_hurt_32 (by decide) (fun c7 => ?_) (fun c7 => ?_)
      · skip
        subst e1 e3 e6; exact absurd ⟨c4, c7⟩ h
      · skip
        refine V.aload_n F dX7_hurt_35 rfl (lv_at hl 0 rfl) ?_
        refine V.iconst (v := nI 2) F dX7_hurt_36 (by decide) ?_
        refine V.wsV (q0 := 0) (ws' := mdW E a (nI 2) sm ln pl hs s S b w) F hE hN (pm_eq (by rfl)) (c_X7_fails l E) (kX7_33 F.2.2.2.2 ⟨Nat.le_of_ble_eq_true rfl, Nat.le_of_ble_eq_true rfl⟩) rfl rfl 0 5 (by rfl) (by rfl) rfl hl.1 (Nat.le_of_ble_eq_true rfl) dX7_hurt_37 rfl ?_
        refine V.topi (fun z8 e8 => ?_)
        exact V.iretW F hr hk dX7_hurt_40 (by subst e1 e3 e6 e8; first | with_reducible rfl | (simp only [oi1n, nI_add]; done) | (simp only [eq_true c2, eq_true c4, c7, oi1n, nI_add, pk_mul, if_true, if_false, ↓reduceIte]; done) | (simp only [eq_true c2, eq_true c4, c7, oi1n, nI_add, pk_mul, bI, and_true, true_and, and_false, false_and, and_self, not_true_eq_false, not_false_eq_true, if_true, if_false, ↓reduceIte] <;> rfl)) (by subst e1 e3 e6 e8; first | with_reducible rfl | (simp only [oi1n, nI_add]; done) | (simp only [eq_true c2, eq_true c4, c7, oi1n, nI_add, pk_mul, if_true, if_false, ↓reduceIte]; done) | (simp only [eq_true c2, eq_true c4, c7, oi1n, nI_add, pk_mul, bI, and_true, true_and, and_false, false_and, and_self, not_true_eq_false, not_false_eq_true, if_true, if_false, ↓reduceIte] <;> rfl))
  · skip
    subst e1; exact absurd h1 c2
set_option maxHeartbeats 4000000 in
set_option maxRecDepth 100000 in
theorem c_X7_insure (l : Launch) (E : EV) {a : Nat → Nat} {th ln pl : Int32} {hs : Int64} {s S b w : Nat → Int32} {x y : Int32} {M : Nat} (h1 : nI 1 ≤ x ∧ x ≤ nI 5) (h2 : nI 1 ≤ y ∧ y ≤ nI 60) (h3 : coM s x y ≤ s 1) (hm : M ≤ 6) : Wr l E yX7_insure cX7_insure 4 (some .int) 1 23 [.ref (a 0), .int x, .int y] (mdW E a th (nI M) ln pl hs s S b w) (mdW E a (nI 0) (nI (kN M)) ln pl hs (inS s x y) (svA S s M) b w) (some (.int (inS s x y 1))) := by
  refine Wr.mk0 (by decide) (Nat.le_of_ble_eq_true rfl) ?_
  intro pP eE sS mM aA bB mt cC F hr hk hE hN ls hl
  have hl : lv_has ls 4 [(0, .ref (a 0)), (1, .int x), (2, .int y)] := hl
  refine V.aload_n F dX7_insure_0 rfl (lv_at hl 0 rfl) ?_
  refine V.iconst (v := nI 0) F dX7_insure_1 (by decide) ?_
  refine V.putf (ws' := mdW E a (nI 0) (nI M) ln pl hs s S b w) F hE hN (by rfl) pX7_22 rfl rfl 0 rfl (by exact Nat.le_of_ble_eq_true rfl) dX7_insure_2 rfl ?_
  refine V.iload_n F dX7_insure_5 rfl (lv_at hl 1 rfl) ?_
  refine V.iconst (v := nI 1) F dX7_insure_6 (by decide) ?_
  refine V.iconst (v := nI 5) F dX7_insure_7 (by decide) ?_
  refine V.rdS F hE (c_X7_within l E) (kX7_26 F.2.2.2.2 ⟨Nat.le_of_ble_eq_true rfl, Nat.le_of_ble_eq_true rfl⟩) [] rfl rfl hl.1 (Nat.le_of_ble_eq_true rfl) dX7_insure_8 rfl ?_
  refine V.topi (fun z1 e1 => ?_)
  refine V.if_eqB (tgt := 24) F e1 dX7_insure_11 (by decide) (fun c2 => ?_) (fun c2 => ?_)
  · skip
    subst e1; exact absurd h1 c2
  · skip
    refine V.iload_n F dX7_insure_14 rfl (lv_at hl 2 rfl) ?_
    refine V.iconst (v := nI 1) F dX7_insure_15 (by decide) ?_
    refine V.bipush (v := nI 60) F dX7_insure_16 (by decide) ?_
    refine V.rdS F hE (c_X7_within l E) (kX7_26 F.2.2.2.2 ⟨Nat.le_of_ble_eq_true rfl, Nat.le_of_ble_eq_true rfl⟩) [] rfl rfl hl.1 (Nat.le_of_ble_eq_true rfl) dX7_insure_18 rfl ?_
    refine V.topi (fun z3 e3 => ?_)
    refine V.if_neB (tgt := 30) F e3 dX7_insure_21 (by decide) (fun c4 => ?_) (fun c4 => ?_)
    · skip
      refine V.aload_n F dX7_insure_30 rfl (lv_at hl 0 rfl) ?_
      refine V.iload_n F dX7_insure_31 rfl (lv_at hl 1 rfl) ?_
      refine V.iload_n F dX7_insure_32 rfl (lv_at hl 2 rfl) ?_
      refine V.rdV (q0 := 0) F hE (c_X7_costOf l E) (kX7_112 F.2.2.2.2 ⟨Nat.le_of_ble_eq_true rfl, Nat.le_of_ble_eq_true rfl⟩) rfl rfl [0, 1, 2, 3, 4] rfl rfl hl.1 (Nat.le_of_ble_eq_true rfl) dX7_insure_33 rfl ?_
      refine V.topi (fun z5 e5 => ?_)
      refine V.istore_n (lv' := [(3, .int z5), (0, .ref (a 0)), (1, .int x), (2, .int y)]) F dX7_insure_36 rfl hl (by decide) rfl (fun ls hl => ?_)
      refine V.iload_n F dX7_insure_37 rfl (lv_at hl 0 rfl) ?_
      refine V.aload_n F dX7_insure_38 rfl (lv_at hl 1 rfl) ?_
      refine V.getf F hE gX7_7 0 rfl rfl dX7_insure_39 ?_
      refine V.iconst (v := nI 1) F dX7_insure_42 (by decide) ?_
      refine V.iadn (i := 1) F hE 1 rfl (by omega) (by omega) dX7_insure_43 (fun z6 e6 => ?_)
      refine V.icmp_le (tgt := 53) F dX7_insure_44 (by decide) (fun c7 c7' => ?_) (fun c7 c7' => ?_)
      · skip
        refine V.aload_n F dX7_insure_53 rfl (lv_at hl 1 rfl) ?_
        refine V.wsVn (q0 := 0) (ws' := mdW E a (nI 0) (nI (kN M)) ln pl hs s (svA S s M) b w) F hE hN (pm_eq (by rfl)) (c_X7_saveA l E hm) (kX7_94 F.2.2.2.2 ⟨Nat.le_of_ble_eq_true rfl, Nat.le_of_ble_eq_true rfl⟩) rfl rfl 0 5 (by rfl) (by rfl) rfl hl.1 (Nat.le_of_ble_eq_true rfl) dX7_insure_54 rfl ?_
        refine V.aload_n F dX7_insure_57 rfl (lv_at hl 1 rfl) ?_
        refine V.getf F hE gX7_7 0 rfl rfl dX7_insure_58 ?_
        refine V.iconst (v := nI 1) F dX7_insure_61 (by decide) ?_
        refine V.dup2 F dX7_insure_62 rfl rfl ?_
        refine V.iadn (i := 1) F hE 1 rfl (by omega) (by omega) dX7_insure_63 (fun z8 e8 => ?_)
        refine V.iload_n F dX7_insure_64 rfl (lv_at hl 0 rfl) ?_
        refine V.isub F dX7_insure_65 (fun z9 e9 => ?_)
        refine V.isn (i := 1) (ws' := mdW E a (nI 0) (nI (kN M)) ln pl hs (upd s 1 z9) (svA S s M) b w) F hE hN (by rfl) 1 rfl (by omega) (by omega) dX7_insure_66 rfl ?_
        refine V.aload_n F dX7_insure_67 rfl (lv_at hl 1 rfl) ?_
        refine V.getf F hE gX7_7 0 rfl rfl dX7_insure_68 ?_
        refine V.iconst (v := nI 2) F dX7_insure_71 (by decide) ?_
        refine V.iload_n F dX7_insure_72 rfl (lv_at hl 2 rfl) ?_
        refine V.isn (i := 2) (ws' := mdW E a (nI 0) (nI (kN M)) ln pl hs (upd (upd s 1 z9) 2 x) (svA S s M) b w) F hE hN (by rfl) 1 rfl (by omega) (by omega) dX7_insure_73 rfl ?_
        refine V.aload_n F dX7_insure_74 rfl (lv_at hl 1 rfl) ?_
        refine V.getf F hE gX7_7 0 rfl rfl dX7_insure_75 ?_
        refine V.iconst (v := nI 3) F dX7_insure_78 (by decide) ?_
        refine V.aload_n F dX7_insure_79 rfl (lv_at hl 1 rfl) ?_
        refine V.getf F hE gX7_7 0 rfl rfl dX7_insure_80 ?_
        refine V.iconst (v := nI 0) F dX7_insure_83 (by decide) ?_
        refine V.iadn (i := 0) F hE 1 rfl (by omega) (by omega) dX7_insure_84 (fun z10 e10 => ?_)
        refine V.iload_n F dX7_insure_85 rfl (lv_at hl 3 rfl) ?_
        refine V.iadd F dX7_insure_86 (fun z11 e11 => ?_)
        refine V.iconst (v := nI 1) F dX7_insure_87 (by decide) ?_
        refine V.isub F dX7_insure_88 (fun z12 e12 => ?_)
        refine V.isn (i := 3) (ws' := mdW E a (nI 0) (nI (kN M)) ln pl hs (upd (upd (upd s 1 z9) 2 x) 3 z12) (svA S s M) b w) F hE hN (by rfl) 1 rfl (by omega) (by omega) dX7_insure_89 rfl ?_
        refine V.aload_n F dX7_insure_90 rfl (lv_at hl 1 rfl) ?_
        refine V.getf F hE gX7_7 0 rfl rfl dX7_insure_91 ?_
        refine V.iconst (v := nI 1) F dX7_insure_94 (by decide) ?_
        refine V.iadn (i := 1) F hE 1 rfl (by omega) (by omega) dX7_insure_95 (fun z13 e13 => ?_)
        exact V.iretW F hr hk dX7_insure_96 (by subst e1 e3 e5 e6 e8 e9 e10 e11 e12 e13; first | with_reducible rfl | (simp only [oi1n, nI_add]; done) | (simp only [inS, in2, in1, eq_true c2, eq_true c4, c7, c7', oi1n, nI_add, pk_mul, if_true, if_false, ↓reduceIte]; done) | (simp only [inS, in2, in1, eq_true c2, eq_true c4, c7, c7', oi1n, nI_add, pk_mul, bI, and_true, true_and, and_false, false_and, and_self, not_true_eq_false, not_false_eq_true, if_true, if_false, ↓reduceIte] <;> rfl)) (by subst e1 e3 e5 e6 e8 e9 e10 e11 e12 e13; first | with_reducible rfl | (simp only [oi1n, nI_add]; done) | (simp only [inS, in2, in1, eq_true c2, eq_true c4, c7, c7', oi1n, nI_add, pk_mul, if_true, if_false, ↓reduceIte]; done) | (simp only [inS, in2, in1, eq_true c2, eq_true c4, c7, c7', oi1n, nI_add, pk_mul, bI, and_true, true_and, and_false, false_and, and_self, not_true_eq_false, not_false_eq_true, if_true, if_false, ↓reduceIte] <;> rfl))
      · skip
        subst e1 e3 e5 e6; exact absurd h3 c7
    · skip
      subst e1 e3; exact absurd h2 c4
set_option maxHeartbeats 4000000 in
set_option maxRecDepth 100000 in
theorem c_X7_insure_e1 (l : Launch) (E : EV) {a : Nat → Nat} {th sm ln pl : Int32} {hs : Int64} {s S b w : Nat → Int32} {x y : Int32} (h : ¬ ((nI 1 ≤ x ∧ x ≤ nI 5) ∧ (nI 1 ≤ y ∧ y ≤ nI 60))) : Wr l E yX7_insure cX7_insure 4 (some .int) 1 23 [.ref (a 0), .int x, .int y] (mdW E a th sm ln pl hs s S b w) (mdW E a (nI 1) sm ln pl hs s S b w) (some (.int (nI 0))) := by
  refine Wr.mk0 (by decide) (Nat.le_of_ble_eq_true rfl) ?_
  intro pP eE sS mM aA bB mt cC F hr hk hE hN ls hl
  have hl : lv_has ls 4 [(0, .ref (a 0)), (1, .int x), (2, .int y)] := hl
  refine V.aload_n F dX7_insure_0 rfl (lv_at hl 0 rfl) ?_
  refine V.iconst (v := nI 0) F dX7_insure_1 (by decide) ?_
  refine V.putf (ws' := mdW E a (nI 0) sm ln pl hs s S b w) F hE hN (by rfl) pX7_22 rfl rfl 0 rfl (by exact Nat.le_of_ble_eq_true rfl) dX7_insure_2 rfl ?_
  refine V.iload_n F dX7_insure_5 rfl (lv_at hl 1 rfl) ?_
  refine V.iconst (v := nI 1) F dX7_insure_6 (by decide) ?_
  refine V.iconst (v := nI 5) F dX7_insure_7 (by decide) ?_
  refine V.rdS F hE (c_X7_within l E) (kX7_26 F.2.2.2.2 ⟨Nat.le_of_ble_eq_true rfl, Nat.le_of_ble_eq_true rfl⟩) [] rfl rfl hl.1 (Nat.le_of_ble_eq_true rfl) dX7_insure_8 rfl ?_
  refine V.topi (fun z1 e1 => ?_)
  refine V.if_eqB (tgt := 24) F e1 dX7_insure_11 (by decide) (fun c2 => ?_) (fun c2 => ?_)
  · skip
    refine V.aload_n F dX7_insure_24 rfl (lv_at hl 0 rfl) ?_
    refine V.iconst (v := nI 1) F dX7_insure_25 (by decide) ?_
    refine V.wsV (q0 := 0) (ws' := mdW E a (nI 1) sm ln pl hs s S b w) F hE hN (pm_eq (by rfl)) (c_X7_fails l E) (kX7_33 F.2.2.2.2 ⟨Nat.le_of_ble_eq_true rfl, Nat.le_of_ble_eq_true rfl⟩) rfl rfl 0 5 (by rfl) (by rfl) rfl hl.1 (Nat.le_of_ble_eq_true rfl) dX7_insure_26 rfl ?_
    refine V.topi (fun z3 e3 => ?_)
    exact V.iretW F hr hk dX7_insure_29 (by subst e1 e3; first | with_reducible rfl | (simp only [oi1n, nI_add]; done) | (simp only [c2, oi1n, nI_add, pk_mul, if_true, if_false, ↓reduceIte]; done) | (simp only [c2, oi1n, nI_add, pk_mul, bI, and_true, true_and, and_false, false_and, and_self, not_true_eq_false, not_false_eq_true, if_true, if_false, ↓reduceIte] <;> rfl)) (by subst e1 e3; first | with_reducible rfl | (simp only [oi1n, nI_add]; done) | (simp only [c2, oi1n, nI_add, pk_mul, if_true, if_false, ↓reduceIte]; done) | (simp only [c2, oi1n, nI_add, pk_mul, bI, and_true, true_and, and_false, false_and, and_self, not_true_eq_false, not_false_eq_true, if_true, if_false, ↓reduceIte] <;> rfl))
  · skip
    refine V.iload_n F dX7_insure_14 rfl (lv_at hl 2 rfl) ?_
    refine V.iconst (v := nI 1) F dX7_insure_15 (by decide) ?_
    refine V.bipush (v := nI 60) F dX7_insure_16 (by decide) ?_
    refine V.rdS F hE (c_X7_within l E) (kX7_26 F.2.2.2.2 ⟨Nat.le_of_ble_eq_true rfl, Nat.le_of_ble_eq_true rfl⟩) [] rfl rfl hl.1 (Nat.le_of_ble_eq_true rfl) dX7_insure_18 rfl ?_
    refine V.topi (fun z4 e4 => ?_)
    refine V.if_neB (tgt := 30) F e4 dX7_insure_21 (by decide) (fun c5 => ?_) (fun c5 => ?_)
    · skip
      subst e1 e4; exact absurd ⟨c2, c5⟩ h
    · skip
      refine V.aload_n F dX7_insure_24 rfl (lv_at hl 0 rfl) ?_
      refine V.iconst (v := nI 1) F dX7_insure_25 (by decide) ?_
      refine V.wsV (q0 := 0) (ws' := mdW E a (nI 1) sm ln pl hs s S b w) F hE hN (pm_eq (by rfl)) (c_X7_fails l E) (kX7_33 F.2.2.2.2 ⟨Nat.le_of_ble_eq_true rfl, Nat.le_of_ble_eq_true rfl⟩) rfl rfl 0 5 (by rfl) (by rfl) rfl hl.1 (Nat.le_of_ble_eq_true rfl) dX7_insure_26 rfl ?_
      refine V.topi (fun z6 e6 => ?_)
      exact V.iretW F hr hk dX7_insure_29 (by subst e1 e4 e6; first | with_reducible rfl | (simp only [oi1n, nI_add]; done) | (simp only [eq_true c2, c5, oi1n, nI_add, pk_mul, if_true, if_false, ↓reduceIte]; done) | (simp only [eq_true c2, c5, oi1n, nI_add, pk_mul, bI, and_true, true_and, and_false, false_and, and_self, not_true_eq_false, not_false_eq_true, if_true, if_false, ↓reduceIte] <;> rfl)) (by subst e1 e4 e6; first | with_reducible rfl | (simp only [oi1n, nI_add]; done) | (simp only [eq_true c2, c5, oi1n, nI_add, pk_mul, if_true, if_false, ↓reduceIte]; done) | (simp only [eq_true c2, c5, oi1n, nI_add, pk_mul, bI, and_true, true_and, and_false, false_and, and_self, not_true_eq_false, not_false_eq_true, if_true, if_false, ↓reduceIte] <;> rfl))
set_option maxHeartbeats 4000000 in
set_option maxRecDepth 100000 in
theorem c_X7_insure_e2 (l : Launch) (E : EV) {a : Nat → Nat} {th sm ln pl : Int32} {hs : Int64} {s S b w : Nat → Int32} {x y : Int32} (h1 : nI 1 ≤ x ∧ x ≤ nI 5) (h2 : nI 1 ≤ y ∧ y ≤ nI 60) (h : ¬ (coM s x y ≤ s 1)) : Wr l E yX7_insure cX7_insure 4 (some .int) 1 23 [.ref (a 0), .int x, .int y] (mdW E a th sm ln pl hs s S b w) (mdW E a (nI 2) sm ln pl hs s S b w) (some (.int (nI 0))) := by
  refine Wr.mk0 (by decide) (Nat.le_of_ble_eq_true rfl) ?_
  intro pP eE sS mM aA bB mt cC F hr hk hE hN ls hl
  have hl : lv_has ls 4 [(0, .ref (a 0)), (1, .int x), (2, .int y)] := hl
  refine V.aload_n F dX7_insure_0 rfl (lv_at hl 0 rfl) ?_
  refine V.iconst (v := nI 0) F dX7_insure_1 (by decide) ?_
  refine V.putf (ws' := mdW E a (nI 0) sm ln pl hs s S b w) F hE hN (by rfl) pX7_22 rfl rfl 0 rfl (by exact Nat.le_of_ble_eq_true rfl) dX7_insure_2 rfl ?_
  refine V.iload_n F dX7_insure_5 rfl (lv_at hl 1 rfl) ?_
  refine V.iconst (v := nI 1) F dX7_insure_6 (by decide) ?_
  refine V.iconst (v := nI 5) F dX7_insure_7 (by decide) ?_
  refine V.rdS F hE (c_X7_within l E) (kX7_26 F.2.2.2.2 ⟨Nat.le_of_ble_eq_true rfl, Nat.le_of_ble_eq_true rfl⟩) [] rfl rfl hl.1 (Nat.le_of_ble_eq_true rfl) dX7_insure_8 rfl ?_
  refine V.topi (fun z1 e1 => ?_)
  refine V.if_eqB (tgt := 24) F e1 dX7_insure_11 (by decide) (fun c2 => ?_) (fun c2 => ?_)
  · skip
    subst e1; exact absurd h1 c2
  · skip
    refine V.iload_n F dX7_insure_14 rfl (lv_at hl 2 rfl) ?_
    refine V.iconst (v := nI 1) F dX7_insure_15 (by decide) ?_
    refine V.bipush (v := nI 60) F dX7_insure_16 (by decide) ?_
    refine V.rdS F hE (c_X7_within l E) (kX7_26 F.2.2.2.2 ⟨Nat.le_of_ble_eq_true rfl, Nat.le_of_ble_eq_true rfl⟩) [] rfl rfl hl.1 (Nat.le_of_ble_eq_true rfl) dX7_insure_18 rfl ?_
    refine V.topi (fun z3 e3 => ?_)
    refine V.if_neB (tgt := 30) F e3 dX7_insure_21 (by decide) (fun c4 => ?_) (fun c4 => ?_)
    · skip
      refine V.aload_n F dX7_insure_30 rfl (lv_at hl 0 rfl) ?_
      refine V.iload_n F dX7_insure_31 rfl (lv_at hl 1 rfl) ?_
      refine V.iload_n F dX7_insure_32 rfl (lv_at hl 2 rfl) ?_
      refine V.rdV (q0 := 0) F hE (c_X7_costOf l E) (kX7_112 F.2.2.2.2 ⟨Nat.le_of_ble_eq_true rfl, Nat.le_of_ble_eq_true rfl⟩) rfl rfl [0, 1, 2, 3, 4] rfl rfl hl.1 (Nat.le_of_ble_eq_true rfl) dX7_insure_33 rfl ?_
      refine V.topi (fun z5 e5 => ?_)
      refine V.istore_n (lv' := [(3, .int z5), (0, .ref (a 0)), (1, .int x), (2, .int y)]) F dX7_insure_36 rfl hl (by decide) rfl (fun ls hl => ?_)
      refine V.iload_n F dX7_insure_37 rfl (lv_at hl 0 rfl) ?_
      refine V.aload_n F dX7_insure_38 rfl (lv_at hl 1 rfl) ?_
      refine V.getf F hE gX7_7 0 rfl rfl dX7_insure_39 ?_
      refine V.iconst (v := nI 1) F dX7_insure_42 (by decide) ?_
      refine V.iadn (i := 1) F hE 1 rfl (by omega) (by omega) dX7_insure_43 (fun z6 e6 => ?_)
      refine V.icmp_le (tgt := 53) F dX7_insure_44 (by decide) (fun c7 c7' => ?_) (fun c7 c7' => ?_)
      · skip
        subst e1 e3 e5 e6; exact absurd c7 h
      · skip
        refine V.aload_n F dX7_insure_47 rfl (lv_at hl 1 rfl) ?_
        refine V.iconst (v := nI 2) F dX7_insure_48 (by decide) ?_
        refine V.wsV (q0 := 0) (ws' := mdW E a (nI 2) sm ln pl hs s S b w) F hE hN (pm_eq (by rfl)) (c_X7_fails l E) (kX7_33 F.2.2.2.2 ⟨Nat.le_of_ble_eq_true rfl, Nat.le_of_ble_eq_true rfl⟩) rfl rfl 0 5 (by rfl) (by rfl) rfl hl.1 (Nat.le_of_ble_eq_true rfl) dX7_insure_49 rfl ?_
        refine V.topi (fun z8 e8 => ?_)
        exact V.iretW F hr hk dX7_insure_52 (by subst e1 e3 e5 e6 e8; first | with_reducible rfl | (simp only [oi1n, nI_add]; done) | (simp only [eq_true c2, eq_true c4, c7, c7', oi1n, nI_add, pk_mul, if_true, if_false, ↓reduceIte]; done) | (simp only [eq_true c2, eq_true c4, c7, c7', oi1n, nI_add, pk_mul, bI, and_true, true_and, and_false, false_and, and_self, not_true_eq_false, not_false_eq_true, if_true, if_false, ↓reduceIte] <;> rfl)) (by subst e1 e3 e5 e6 e8; first | with_reducible rfl | (simp only [oi1n, nI_add]; done) | (simp only [eq_true c2, eq_true c4, c7, c7', oi1n, nI_add, pk_mul, if_true, if_false, ↓reduceIte]; done) | (simp only [eq_true c2, eq_true c4, c7, c7', oi1n, nI_add, pk_mul, bI, and_true, true_and, and_false, false_and, and_self, not_true_eq_false, not_false_eq_true, if_true, if_false, ↓reduceIte] <;> rfl))
    · skip
      subst e1 e3; exact absurd h2 c4
set_option maxHeartbeats 4000000 in
set_option maxRecDepth 100000 in
theorem c_X7_scene (l : Launch) (E : EV) {a : Nat → Nat} {th ln pl : Int32} {hs : Int64} {s S b w : Nat → Int32} {R H C D : Nat} {sn : Nat → Nat} {k r p : Int32} {M : Nat} (hM : MI s R H C D sn) (h1 : nI 0 ≤ k ∧ k ≤ nI 5) (h2 : nI 0 ≤ p ∧ p ≤ nI 7) (h3 : nI 1 ≤ r ∧ r ≤ nI 5) (h4 : ¬ s 4 = nI 10) (hC10 : C < 10) (hm : M ≤ 6) : Wr l E yX7_scene cX7_scene 5 (some .int) 2 42 [.ref (a 0), .int k, .int r, .int p] (mdW E a th (nI M) ln pl hs s S b w) (mdW E a (nI 0) (nI (kN M)) ln pl hs (scS s C k r p) (svA S s M) b w) (some (.int (scS s C k r p 4 - nI 1))) := by
  refine Wr.mk0 (by decide) (Nat.le_of_ble_eq_true rfl) ?_
  intro pP eE sS mM aA bB mt cC F hr hk hE hN ls hl
  have hl : lv_has ls 5 [(0, .ref (a 0)), (1, .int k), (2, .int r), (3, .int p)] := hl
  have hM1 := hM
  obtain ⟨hD0, hD, hkR, hR, hh, hH, hs4, hC, hsn⟩ := hM1
  refine V.aload_n F dX7_scene_0 rfl (lv_at hl 0 rfl) ?_
  refine V.iconst (v := nI 0) F dX7_scene_1 (by decide) ?_
  refine V.putf (ws' := mdW E a (nI 0) (nI M) ln pl hs s S b w) F hE hN (by rfl) pX7_22 rfl rfl 0 rfl (by exact Nat.le_of_ble_eq_true rfl) dX7_scene_2 rfl ?_
  refine V.iload_n F dX7_scene_5 rfl (lv_at hl 1 rfl) ?_
  refine V.rdS F hE (c_X7_isKind l E) (kX7_100 F.2.2.2.2 ⟨Nat.le_of_ble_eq_true rfl, Nat.le_of_ble_eq_true rfl⟩) [] rfl rfl hl.1 (Nat.le_of_ble_eq_true rfl) dX7_scene_6 rfl ?_
  refine V.topi (fun z1 e1 => ?_)
  refine V.if_eqB (tgt := 19) F e1 dX7_scene_9 (by decide) (fun c2 => ?_) (fun c2 => ?_)
  · skip
    subst e1; exact absurd h1 c2
  · skip
    refine V.iload_n F dX7_scene_12 rfl (lv_at hl 3 rfl) ?_
    refine V.rdS F hE (c_X7_isPerson l E) (kX7_90 F.2.2.2.2 ⟨Nat.le_of_ble_eq_true rfl, Nat.le_of_ble_eq_true rfl⟩) [] rfl rfl hl.1 (Nat.le_of_ble_eq_true rfl) dX7_scene_13 rfl ?_
    refine V.topi (fun z3 e3 => ?_)
    refine V.if_neB (tgt := 25) F e3 dX7_scene_16 (by decide) (fun c4 => ?_) (fun c4 => ?_)
    · skip
      refine V.iload_n F dX7_scene_25 rfl (lv_at hl 2 rfl) ?_
      refine V.rdS F hE (c_X7_isRisk l E) (kX7_103 F.2.2.2.2 ⟨Nat.le_of_ble_eq_true rfl, Nat.le_of_ble_eq_true rfl⟩) [] rfl rfl hl.1 (Nat.le_of_ble_eq_true rfl) dX7_scene_26 rfl ?_
      refine V.topi (fun z5 e5 => ?_)
      refine V.if_neB (tgt := 38) F e5 dX7_scene_29 (by decide) (fun c6 => ?_) (fun c6 => ?_)
      · skip
        refine V.aload_n F dX7_scene_38 rfl (lv_at hl 0 rfl) ?_
        refine V.getf F hE gX7_7 0 rfl rfl dX7_scene_39 ?_
        refine V.iconst (v := nI 4) F dX7_scene_42 (by decide) ?_
        refine V.iadn (i := 4) F hE 1 rfl (by omega) (by omega) dX7_scene_43 (fun z7 e7 => ?_)
        refine V.bipush (v := nI 10) F dX7_scene_44 (by decide) ?_
        refine V.icmp_ne (tgt := 55) F dX7_scene_46 (by decide) (fun c8 => ?_) (fun c8 => ?_)
        · skip
          refine V.aload_n F dX7_scene_55 rfl (lv_at hl 0 rfl) ?_
          refine V.wsVn (q0 := 0) (ws' := mdW E a (nI 0) (nI (kN M)) ln pl hs s (svA S s M) b w) F hE hN (pm_eq (by rfl)) (c_X7_saveA l E hm) (kX7_94 F.2.2.2.2 ⟨Nat.le_of_ble_eq_true rfl, Nat.le_of_ble_eq_true rfl⟩) rfl rfl 0 5 (by rfl) (by rfl) rfl hl.1 (Nat.le_of_ble_eq_true rfl) dX7_scene_56 rfl ?_
          refine V.sipush (v := nI 250) F dX7_scene_59 (by decide) ?_
          refine V.iconst (v := nI 5) F dX7_scene_62 (by decide) ?_
          refine V.aload_n F dX7_scene_63 rfl (lv_at hl 0 rfl) ?_
          refine V.getf F hE gX7_7 0 rfl rfl dX7_scene_64 ?_
          refine V.iconst (v := nI 4) F dX7_scene_67 (by decide) ?_
          refine V.iadn (i := 4) F hE 1 rfl (by omega) (by omega) dX7_scene_68 (fun z9 e9 => ?_)
          obtain rfl : z9 = nI C := e9.trans hs4
          refine V.imul F dX7_scene_69 (fun z10 e10 => ?_)
          obtain rfl : z10 = nI (5 * C) := e10.trans (pk_mul _ _)
          refine V.iadd F dX7_scene_70 (fun z11 e11 => ?_)
          obtain rfl : z11 = nI (250 + (5 * C)) := e11.trans (nI_add _ _)
          refine V.istore (lv' := [(4, .int (nI (250 + (5 * C)))), (0, .ref (a 0)), (1, .int k), (2, .int r), (3, .int p)]) F dX7_scene_71 hl (by decide) rfl (fun ls hl => ?_)
          refine V.aload_n F dX7_scene_73 rfl (lv_at hl 1 rfl) ?_
          refine V.getf F hE gX7_7 0 rfl rfl dX7_scene_74 ?_
          refine V.iload F dX7_scene_77 (lv_at hl 0 rfl) ?_
          refine V.iconst (v := nI 0) F dX7_scene_79 (by decide) ?_
          refine V.iadd F dX7_scene_80 (fun z12 e12 => ?_)
          obtain rfl : z12 = nI ((250 + (5 * C)) + 0) := e12.trans (nI_add _ _)
          refine V.iload_n F dX7_scene_81 rfl (lv_at hl 2 rfl) ?_
          refine V.isn (i := ((250 + (5 * C)) + 0)) (ws' := mdW E a (nI 0) (nI (kN M)) ln pl hs (upd s ((250 + (5 * C)) + 0) k) (svA S s M) b w) F hE hN (by rfl) 1 rfl (by omega) (by omega) dX7_scene_82 rfl ?_
          refine V.aload_n F dX7_scene_83 rfl (lv_at hl 1 rfl) ?_
          refine V.getf F hE gX7_7 0 rfl rfl dX7_scene_84 ?_
          refine V.iload F dX7_scene_87 (lv_at hl 0 rfl) ?_
          refine V.iconst (v := nI 1) F dX7_scene_89 (by decide) ?_
          refine V.iadd F dX7_scene_90 (fun z13 e13 => ?_)
          obtain rfl : z13 = nI ((250 + (5 * C)) + 1) := e13.trans (nI_add _ _)
          refine V.iload_n F dX7_scene_91 rfl (lv_at hl 3 rfl) ?_
          refine V.isn (i := ((250 + (5 * C)) + 1)) (ws' := mdW E a (nI 0) (nI (kN M)) ln pl hs (upd (upd s ((250 + (5 * C)) + 0) k) ((250 + (5 * C)) + 1) r) (svA S s M) b w) F hE hN (by rfl) 1 rfl (by omega) (by omega) dX7_scene_92 rfl ?_
          refine V.aload_n F dX7_scene_93 rfl (lv_at hl 1 rfl) ?_
          refine V.getf F hE gX7_7 0 rfl rfl dX7_scene_94 ?_
          refine V.iload F dX7_scene_97 (lv_at hl 0 rfl) ?_
          refine V.iconst (v := nI 2) F dX7_scene_99 (by decide) ?_
          refine V.iadd F dX7_scene_100 (fun z14 e14 => ?_)
          obtain rfl : z14 = nI ((250 + (5 * C)) + 2) := e14.trans (nI_add _ _)
          refine V.iload_n F dX7_scene_101 rfl (lv_at hl 4 rfl) ?_
          refine V.isn (i := ((250 + (5 * C)) + 2)) (ws' := mdW E a (nI 0) (nI (kN M)) ln pl hs (upd (upd (upd s ((250 + (5 * C)) + 0) k) ((250 + (5 * C)) + 1) r) ((250 + (5 * C)) + 2) p) (svA S s M) b w) F hE hN (by rfl) 1 rfl (by omega) (by omega) dX7_scene_102 rfl ?_
          refine V.aload_n F dX7_scene_103 rfl (lv_at hl 1 rfl) ?_
          refine V.getf F hE gX7_7 0 rfl rfl dX7_scene_104 ?_
          refine V.iload F dX7_scene_107 (lv_at hl 0 rfl) ?_
          refine V.iconst (v := nI 3) F dX7_scene_109 (by decide) ?_
          refine V.iadd F dX7_scene_110 (fun z15 e15 => ?_)
          obtain rfl : z15 = nI ((250 + (5 * C)) + 3) := e15.trans (nI_add _ _)
          refine V.iconst (v := (-1)) F dX7_scene_111 (by decide) ?_
          refine V.isn (i := ((250 + (5 * C)) + 3)) (ws' := mdW E a (nI 0) (nI (kN M)) ln pl hs (upd (upd (upd (upd s ((250 + (5 * C)) + 0) k) ((250 + (5 * C)) + 1) r) ((250 + (5 * C)) + 2) p) ((250 + (5 * C)) + 3) (-1)) (svA S s M) b w) F hE hN (by rfl) 1 rfl (by omega) (by omega) dX7_scene_112 rfl ?_
          refine V.aload_n F dX7_scene_113 rfl (lv_at hl 1 rfl) ?_
          refine V.getf F hE gX7_7 0 rfl rfl dX7_scene_114 ?_
          refine V.iload F dX7_scene_117 (lv_at hl 0 rfl) ?_
          refine V.iconst (v := nI 4) F dX7_scene_119 (by decide) ?_
          refine V.iadd F dX7_scene_120 (fun z16 e16 => ?_)
          obtain rfl : z16 = nI ((250 + (5 * C)) + 4) := e16.trans (nI_add _ _)
          refine V.iconst (v := (-1)) F dX7_scene_121 (by decide) ?_
          refine V.isn (i := ((250 + (5 * C)) + 4)) (ws' := mdW E a (nI 0) (nI (kN M)) ln pl hs (upd (upd (upd (upd (upd s ((250 + (5 * C)) + 0) k) ((250 + (5 * C)) + 1) r) ((250 + (5 * C)) + 2) p) ((250 + (5 * C)) + 3) (-1)) ((250 + (5 * C)) + 4) (-1)) (svA S s M) b w) F hE hN (by rfl) 1 rfl (by omega) (by omega) dX7_scene_122 rfl ?_
          refine V.aload_n F dX7_scene_123 rfl (lv_at hl 1 rfl) ?_
          refine V.getf F hE gX7_7 0 rfl rfl dX7_scene_124 ?_
          refine V.iconst (v := nI 4) F dX7_scene_127 (by decide) ?_
          refine V.dup2 F dX7_scene_128 rfl rfl ?_
          refine V.iadn (i := 4) F hE 1 rfl (by omega) (by omega) dX7_scene_129 (fun z17 e17 => ?_)
          refine V.iconst (v := nI 1) F dX7_scene_130 (by decide) ?_
          refine V.iadd F dX7_scene_131 (fun z18 e18 => ?_)
          refine V.isn (i := 4) (ws' := mdW E a (nI 0) (nI (kN M)) ln pl hs (upd (upd (upd (upd (upd (upd s ((250 + (5 * C)) + 0) k) ((250 + (5 * C)) + 1) r) ((250 + (5 * C)) + 2) p) ((250 + (5 * C)) + 3) (-1)) ((250 + (5 * C)) + 4) (-1)) 4 z18) (svA S s M) b w) F hE hN (by rfl) 1 rfl (by omega) (by omega) dX7_scene_132 rfl ?_
          refine V.aload_n F dX7_scene_133 rfl (lv_at hl 1 rfl) ?_
          refine V.getf F hE gX7_7 0 rfl rfl dX7_scene_134 ?_
          refine V.iconst (v := nI 4) F dX7_scene_137 (by decide) ?_
          refine V.iadn (i := 4) F hE 1 rfl (by omega) (by omega) dX7_scene_138 (fun z19 e19 => ?_)
          refine V.iconst (v := nI 1) F dX7_scene_139 (by decide) ?_
          refine V.isub F dX7_scene_140 (fun z20 e20 => ?_)
          exact V.iretW F hr hk dX7_scene_141 (by subst e1 e3 e5 e7 e17 e18 e19 e20; first | with_reducible rfl | (simp only [oi1n, nI_add]; done) | (simp only [scS, sc5, sc4, sc3, sc2, sc1, eq_true c2, eq_true c4, eq_true c6, c8, oi1n, nI_add, pk_mul, if_true, if_false, ↓reduceIte]; done) | (simp only [scS, sc5, sc4, sc3, sc2, sc1, eq_true c2, eq_true c4, eq_true c6, c8, oi1n, nI_add, pk_mul, bI, and_true, true_and, and_false, false_and, and_self, not_true_eq_false, not_false_eq_true, if_true, if_false, ↓reduceIte] <;> rfl)) (by subst e1 e3 e5 e7 e17 e18 e19 e20; first | with_reducible rfl | (simp only [oi1n, nI_add]; done) | (simp only [scS, sc5, sc4, sc3, sc2, sc1, eq_true c2, eq_true c4, eq_true c6, c8, oi1n, nI_add, pk_mul, if_true, if_false, ↓reduceIte]; done) | (simp only [scS, sc5, sc4, sc3, sc2, sc1, eq_true c2, eq_true c4, eq_true c6, c8, oi1n, nI_add, pk_mul, bI, and_true, true_and, and_false, false_and, and_self, not_true_eq_false, not_false_eq_true, if_true, if_false, ↓reduceIte] <;> rfl))
        · skip
          subst e1 e3 e5 e7; exact absurd c8 h4
      · skip
        subst e1 e3 e5; exact absurd h3 c6
    · skip
      subst e1 e3; exact absurd h2 c4
set_option maxHeartbeats 4000000 in
set_option maxRecDepth 100000 in
theorem c_X7_scene_e1 (l : Launch) (E : EV) {a : Nat → Nat} {th sm ln pl : Int32} {hs : Int64} {s S b w : Nat → Int32} {k r p : Int32} (h : ¬ ((nI 0 ≤ k ∧ k ≤ nI 5) ∧ (nI 0 ≤ p ∧ p ≤ nI 7))) : Wr l E yX7_scene cX7_scene 5 (some .int) 2 42 [.ref (a 0), .int k, .int r, .int p] (mdW E a th sm ln pl hs s S b w) (mdW E a (nI 1) sm ln pl hs s S b w) (some (.int (nI 0))) := by
  refine Wr.mk0 (by decide) (Nat.le_of_ble_eq_true rfl) ?_
  intro pP eE sS mM aA bB mt cC F hr hk hE hN ls hl
  have hl : lv_has ls 5 [(0, .ref (a 0)), (1, .int k), (2, .int r), (3, .int p)] := hl
  refine V.aload_n F dX7_scene_0 rfl (lv_at hl 0 rfl) ?_
  refine V.iconst (v := nI 0) F dX7_scene_1 (by decide) ?_
  refine V.putf (ws' := mdW E a (nI 0) sm ln pl hs s S b w) F hE hN (by rfl) pX7_22 rfl rfl 0 rfl (by exact Nat.le_of_ble_eq_true rfl) dX7_scene_2 rfl ?_
  refine V.iload_n F dX7_scene_5 rfl (lv_at hl 1 rfl) ?_
  refine V.rdS F hE (c_X7_isKind l E) (kX7_100 F.2.2.2.2 ⟨Nat.le_of_ble_eq_true rfl, Nat.le_of_ble_eq_true rfl⟩) [] rfl rfl hl.1 (Nat.le_of_ble_eq_true rfl) dX7_scene_6 rfl ?_
  refine V.topi (fun z1 e1 => ?_)
  refine V.if_eqB (tgt := 19) F e1 dX7_scene_9 (by decide) (fun c2 => ?_) (fun c2 => ?_)
  · skip
    refine V.aload_n F dX7_scene_19 rfl (lv_at hl 0 rfl) ?_
    refine V.iconst (v := nI 1) F dX7_scene_20 (by decide) ?_
    refine V.wsV (q0 := 0) (ws' := mdW E a (nI 1) sm ln pl hs s S b w) F hE hN (pm_eq (by rfl)) (c_X7_fails l E) (kX7_33 F.2.2.2.2 ⟨Nat.le_of_ble_eq_true rfl, Nat.le_of_ble_eq_true rfl⟩) rfl rfl 0 5 (by rfl) (by rfl) rfl hl.1 (Nat.le_of_ble_eq_true rfl) dX7_scene_21 rfl ?_
    refine V.topi (fun z3 e3 => ?_)
    exact V.iretW F hr hk dX7_scene_24 (by subst e1 e3; first | with_reducible rfl | (simp only [oi1n, nI_add]; done) | (simp only [c2, oi1n, nI_add, pk_mul, if_true, if_false, ↓reduceIte]; done) | (simp only [c2, oi1n, nI_add, pk_mul, bI, and_true, true_and, and_false, false_and, and_self, not_true_eq_false, not_false_eq_true, if_true, if_false, ↓reduceIte] <;> rfl)) (by subst e1 e3; first | with_reducible rfl | (simp only [oi1n, nI_add]; done) | (simp only [c2, oi1n, nI_add, pk_mul, if_true, if_false, ↓reduceIte]; done) | (simp only [c2, oi1n, nI_add, pk_mul, bI, and_true, true_and, and_false, false_and, and_self, not_true_eq_false, not_false_eq_true, if_true, if_false, ↓reduceIte] <;> rfl))
  · skip
    refine V.iload_n F dX7_scene_12 rfl (lv_at hl 3 rfl) ?_
    refine V.rdS F hE (c_X7_isPerson l E) (kX7_90 F.2.2.2.2 ⟨Nat.le_of_ble_eq_true rfl, Nat.le_of_ble_eq_true rfl⟩) [] rfl rfl hl.1 (Nat.le_of_ble_eq_true rfl) dX7_scene_13 rfl ?_
    refine V.topi (fun z4 e4 => ?_)
    refine V.if_neB (tgt := 25) F e4 dX7_scene_16 (by decide) (fun c5 => ?_) (fun c5 => ?_)
    · skip
      subst e1 e4; exact absurd ⟨c2, c5⟩ h
    · skip
      refine V.aload_n F dX7_scene_19 rfl (lv_at hl 0 rfl) ?_
      refine V.iconst (v := nI 1) F dX7_scene_20 (by decide) ?_
      refine V.wsV (q0 := 0) (ws' := mdW E a (nI 1) sm ln pl hs s S b w) F hE hN (pm_eq (by rfl)) (c_X7_fails l E) (kX7_33 F.2.2.2.2 ⟨Nat.le_of_ble_eq_true rfl, Nat.le_of_ble_eq_true rfl⟩) rfl rfl 0 5 (by rfl) (by rfl) rfl hl.1 (Nat.le_of_ble_eq_true rfl) dX7_scene_21 rfl ?_
      refine V.topi (fun z6 e6 => ?_)
      exact V.iretW F hr hk dX7_scene_24 (by subst e1 e4 e6; first | with_reducible rfl | (simp only [oi1n, nI_add]; done) | (simp only [eq_true c2, c5, oi1n, nI_add, pk_mul, if_true, if_false, ↓reduceIte]; done) | (simp only [eq_true c2, c5, oi1n, nI_add, pk_mul, bI, and_true, true_and, and_false, false_and, and_self, not_true_eq_false, not_false_eq_true, if_true, if_false, ↓reduceIte] <;> rfl)) (by subst e1 e4 e6; first | with_reducible rfl | (simp only [oi1n, nI_add]; done) | (simp only [eq_true c2, c5, oi1n, nI_add, pk_mul, if_true, if_false, ↓reduceIte]; done) | (simp only [eq_true c2, c5, oi1n, nI_add, pk_mul, bI, and_true, true_and, and_false, false_and, and_self, not_true_eq_false, not_false_eq_true, if_true, if_false, ↓reduceIte] <;> rfl))
set_option maxHeartbeats 4000000 in
set_option maxRecDepth 100000 in
theorem c_X7_scene_e2 (l : Launch) (E : EV) {a : Nat → Nat} {th sm ln pl : Int32} {hs : Int64} {s S b w : Nat → Int32} {k r p : Int32} (h1 : nI 0 ≤ k ∧ k ≤ nI 5) (h2 : nI 0 ≤ p ∧ p ≤ nI 7) (h : ¬ (nI 1 ≤ r ∧ r ≤ nI 5)) : Wr l E yX7_scene cX7_scene 5 (some .int) 2 42 [.ref (a 0), .int k, .int r, .int p] (mdW E a th sm ln pl hs s S b w) (mdW E a (nI 2) sm ln pl hs s S b w) (some (.int (nI 0))) := by
  refine Wr.mk0 (by decide) (Nat.le_of_ble_eq_true rfl) ?_
  intro pP eE sS mM aA bB mt cC F hr hk hE hN ls hl
  have hl : lv_has ls 5 [(0, .ref (a 0)), (1, .int k), (2, .int r), (3, .int p)] := hl
  refine V.aload_n F dX7_scene_0 rfl (lv_at hl 0 rfl) ?_
  refine V.iconst (v := nI 0) F dX7_scene_1 (by decide) ?_
  refine V.putf (ws' := mdW E a (nI 0) sm ln pl hs s S b w) F hE hN (by rfl) pX7_22 rfl rfl 0 rfl (by exact Nat.le_of_ble_eq_true rfl) dX7_scene_2 rfl ?_
  refine V.iload_n F dX7_scene_5 rfl (lv_at hl 1 rfl) ?_
  refine V.rdS F hE (c_X7_isKind l E) (kX7_100 F.2.2.2.2 ⟨Nat.le_of_ble_eq_true rfl, Nat.le_of_ble_eq_true rfl⟩) [] rfl rfl hl.1 (Nat.le_of_ble_eq_true rfl) dX7_scene_6 rfl ?_
  refine V.topi (fun z1 e1 => ?_)
  refine V.if_eqB (tgt := 19) F e1 dX7_scene_9 (by decide) (fun c2 => ?_) (fun c2 => ?_)
  · skip
    subst e1; exact absurd h1 c2
  · skip
    refine V.iload_n F dX7_scene_12 rfl (lv_at hl 3 rfl) ?_
    refine V.rdS F hE (c_X7_isPerson l E) (kX7_90 F.2.2.2.2 ⟨Nat.le_of_ble_eq_true rfl, Nat.le_of_ble_eq_true rfl⟩) [] rfl rfl hl.1 (Nat.le_of_ble_eq_true rfl) dX7_scene_13 rfl ?_
    refine V.topi (fun z3 e3 => ?_)
    refine V.if_neB (tgt := 25) F e3 dX7_scene_16 (by decide) (fun c4 => ?_) (fun c4 => ?_)
    · skip
      refine V.iload_n F dX7_scene_25 rfl (lv_at hl 2 rfl) ?_
      refine V.rdS F hE (c_X7_isRisk l E) (kX7_103 F.2.2.2.2 ⟨Nat.le_of_ble_eq_true rfl, Nat.le_of_ble_eq_true rfl⟩) [] rfl rfl hl.1 (Nat.le_of_ble_eq_true rfl) dX7_scene_26 rfl ?_
      refine V.topi (fun z5 e5 => ?_)
      refine V.if_neB (tgt := 38) F e5 dX7_scene_29 (by decide) (fun c6 => ?_) (fun c6 => ?_)
      · skip
        subst e1 e3 e5; exact absurd c6 h
      · skip
        refine V.aload_n F dX7_scene_32 rfl (lv_at hl 0 rfl) ?_
        refine V.iconst (v := nI 2) F dX7_scene_33 (by decide) ?_
        refine V.wsV (q0 := 0) (ws' := mdW E a (nI 2) sm ln pl hs s S b w) F hE hN (pm_eq (by rfl)) (c_X7_fails l E) (kX7_33 F.2.2.2.2 ⟨Nat.le_of_ble_eq_true rfl, Nat.le_of_ble_eq_true rfl⟩) rfl rfl 0 5 (by rfl) (by rfl) rfl hl.1 (Nat.le_of_ble_eq_true rfl) dX7_scene_34 rfl ?_
        refine V.topi (fun z7 e7 => ?_)
        exact V.iretW F hr hk dX7_scene_37 (by subst e1 e3 e5 e7; first | with_reducible rfl | (simp only [oi1n, nI_add]; done) | (simp only [eq_true c2, eq_true c4, c6, oi1n, nI_add, pk_mul, if_true, if_false, ↓reduceIte]; done) | (simp only [eq_true c2, eq_true c4, c6, oi1n, nI_add, pk_mul, bI, and_true, true_and, and_false, false_and, and_self, not_true_eq_false, not_false_eq_true, if_true, if_false, ↓reduceIte] <;> rfl)) (by subst e1 e3 e5 e7; first | with_reducible rfl | (simp only [oi1n, nI_add]; done) | (simp only [eq_true c2, eq_true c4, c6, oi1n, nI_add, pk_mul, if_true, if_false, ↓reduceIte]; done) | (simp only [eq_true c2, eq_true c4, c6, oi1n, nI_add, pk_mul, bI, and_true, true_and, and_false, false_and, and_self, not_true_eq_false, not_false_eq_true, if_true, if_false, ↓reduceIte] <;> rfl))
    · skip
      subst e1 e3; exact absurd h2 c4
set_option maxHeartbeats 4000000 in
set_option maxRecDepth 100000 in
theorem c_X7_scene_e3 (l : Launch) (E : EV) {a : Nat → Nat} {th sm ln pl : Int32} {hs : Int64} {s S b w : Nat → Int32} {k r p : Int32} (h1 : nI 0 ≤ k ∧ k ≤ nI 5) (h2 : nI 0 ≤ p ∧ p ≤ nI 7) (h3 : nI 1 ≤ r ∧ r ≤ nI 5) (h : ¬ (¬ s 4 = nI 10)) : Wr l E yX7_scene cX7_scene 5 (some .int) 2 42 [.ref (a 0), .int k, .int r, .int p] (mdW E a th sm ln pl hs s S b w) (mdW E a (nI 3) sm ln pl hs s S b w) (some (.int (nI 0))) := by
  refine Wr.mk0 (by decide) (Nat.le_of_ble_eq_true rfl) ?_
  intro pP eE sS mM aA bB mt cC F hr hk hE hN ls hl
  have hl : lv_has ls 5 [(0, .ref (a 0)), (1, .int k), (2, .int r), (3, .int p)] := hl
  refine V.aload_n F dX7_scene_0 rfl (lv_at hl 0 rfl) ?_
  refine V.iconst (v := nI 0) F dX7_scene_1 (by decide) ?_
  refine V.putf (ws' := mdW E a (nI 0) sm ln pl hs s S b w) F hE hN (by rfl) pX7_22 rfl rfl 0 rfl (by exact Nat.le_of_ble_eq_true rfl) dX7_scene_2 rfl ?_
  refine V.iload_n F dX7_scene_5 rfl (lv_at hl 1 rfl) ?_
  refine V.rdS F hE (c_X7_isKind l E) (kX7_100 F.2.2.2.2 ⟨Nat.le_of_ble_eq_true rfl, Nat.le_of_ble_eq_true rfl⟩) [] rfl rfl hl.1 (Nat.le_of_ble_eq_true rfl) dX7_scene_6 rfl ?_
  refine V.topi (fun z1 e1 => ?_)
  refine V.if_eqB (tgt := 19) F e1 dX7_scene_9 (by decide) (fun c2 => ?_) (fun c2 => ?_)
  · skip
    subst e1; exact absurd h1 c2
  · skip
    refine V.iload_n F dX7_scene_12 rfl (lv_at hl 3 rfl) ?_
    refine V.rdS F hE (c_X7_isPerson l E) (kX7_90 F.2.2.2.2 ⟨Nat.le_of_ble_eq_true rfl, Nat.le_of_ble_eq_true rfl⟩) [] rfl rfl hl.1 (Nat.le_of_ble_eq_true rfl) dX7_scene_13 rfl ?_
    refine V.topi (fun z3 e3 => ?_)
    refine V.if_neB (tgt := 25) F e3 dX7_scene_16 (by decide) (fun c4 => ?_) (fun c4 => ?_)
    · skip
      refine V.iload_n F dX7_scene_25 rfl (lv_at hl 2 rfl) ?_
      refine V.rdS F hE (c_X7_isRisk l E) (kX7_103 F.2.2.2.2 ⟨Nat.le_of_ble_eq_true rfl, Nat.le_of_ble_eq_true rfl⟩) [] rfl rfl hl.1 (Nat.le_of_ble_eq_true rfl) dX7_scene_26 rfl ?_
      refine V.topi (fun z5 e5 => ?_)
      refine V.if_neB (tgt := 38) F e5 dX7_scene_29 (by decide) (fun c6 => ?_) (fun c6 => ?_)
      · skip
        refine V.aload_n F dX7_scene_38 rfl (lv_at hl 0 rfl) ?_
        refine V.getf F hE gX7_7 0 rfl rfl dX7_scene_39 ?_
        refine V.iconst (v := nI 4) F dX7_scene_42 (by decide) ?_
        refine V.iadn (i := 4) F hE 1 rfl (by omega) (by omega) dX7_scene_43 (fun z7 e7 => ?_)
        refine V.bipush (v := nI 10) F dX7_scene_44 (by decide) ?_
        refine V.icmp_ne (tgt := 55) F dX7_scene_46 (by decide) (fun c8 => ?_) (fun c8 => ?_)
        · skip
          subst e1 e3 e5 e7; exact absurd c8 h
        · skip
          refine V.aload_n F dX7_scene_49 rfl (lv_at hl 0 rfl) ?_
          refine V.iconst (v := nI 3) F dX7_scene_50 (by decide) ?_
          refine V.wsV (q0 := 0) (ws' := mdW E a (nI 3) sm ln pl hs s S b w) F hE hN (pm_eq (by rfl)) (c_X7_fails l E) (kX7_33 F.2.2.2.2 ⟨Nat.le_of_ble_eq_true rfl, Nat.le_of_ble_eq_true rfl⟩) rfl rfl 0 5 (by rfl) (by rfl) rfl hl.1 (Nat.le_of_ble_eq_true rfl) dX7_scene_51 rfl ?_
          refine V.topi (fun z9 e9 => ?_)
          exact V.iretW F hr hk dX7_scene_54 (by subst e1 e3 e5 e7 e9; first | with_reducible rfl | (simp only [oi1n, nI_add]; done) | (simp only [eq_true c2, eq_true c4, eq_true c6, eq_true c8, oi1n, nI_add, pk_mul, if_true, if_false, ↓reduceIte]; done) | (simp only [eq_true c2, eq_true c4, eq_true c6, eq_true c8, oi1n, nI_add, pk_mul, bI, and_true, true_and, and_false, false_and, and_self, not_true_eq_false, not_false_eq_true, if_true, if_false, ↓reduceIte] <;> rfl)) (by subst e1 e3 e5 e7 e9; first | with_reducible rfl | (simp only [oi1n, nI_add]; done) | (simp only [eq_true c2, eq_true c4, eq_true c6, eq_true c8, oi1n, nI_add, pk_mul, if_true, if_false, ↓reduceIte]; done) | (simp only [eq_true c2, eq_true c4, eq_true c6, eq_true c8, oi1n, nI_add, pk_mul, bI, and_true, true_and, and_false, false_and, and_self, not_true_eq_false, not_false_eq_true, if_true, if_false, ↓reduceIte] <;> rfl))
      · skip
        subst e1 e3 e5; exact absurd h3 c6
    · skip
      subst e1 e3; exact absurd h2 c4
set_option maxHeartbeats 4000000 in
set_option maxRecDepth 100000 in
theorem c_X7_shoot (l : Launch) (E : EV) {a : Nat → Nat} {th ln pl : Int32} {hs : Int64} {s S b w : Nat → Int32} {R H C D : Nat} {sn : Nat → Nat} {x p : Nat} {M : Nat} (hM : MI s R H C D sn) (h1 : nI 0 ≤ nI x ∧ nI x ≤ s 4 - nI 1) (h2 : nI 0 ≤ nI p ∧ nI p ≤ nI 7) (h3 : rsM s R H sn x p (s 0) = nI 0) (hx0 : x < 10) (hp0 : p < 8) (hm : M ≤ 6) : Wr l E yX7_shoot cX7_shoot 3 (some .int) 4 99 [.ref (a 0), .int (nI x), .int (nI p)] (mdW E a th (nI M) ln pl hs s S b w) (mdW E a (nI 0) (nI (kN M)) ln pl hs (doS s sn x p) (svA S s M) b w) (some (.int (dbM sn x p))) := by
  refine Wr.mk0 (by decide) (Nat.le_of_ble_eq_true rfl) ?_
  intro pP eE sS mM aA bB mt cC F hr hk hE hN ls hl
  have hl : lv_has ls 3 [(0, .ref (a 0)), (1, .int (nI x)), (2, .int (nI p))] := hl
  have hM1 := hM
  obtain ⟨hD0, hD, hkR, hR, hh, hH, hs4, hC, hsn⟩ := hM1
  refine V.aload_n F dX7_shoot_0 rfl (lv_at hl 0 rfl) ?_
  refine V.iconst (v := nI 0) F dX7_shoot_1 (by decide) ?_
  refine V.putf (ws' := mdW E a (nI 0) (nI M) ln pl hs s S b w) F hE hN (by rfl) pX7_22 rfl rfl 0 rfl (by exact Nat.le_of_ble_eq_true rfl) dX7_shoot_2 rfl ?_
  refine V.aload_n F dX7_shoot_5 rfl (lv_at hl 0 rfl) ?_
  refine V.iload_n F dX7_shoot_6 rfl (lv_at hl 1 rfl) ?_
  refine V.rdV (q0 := 0) F hE (c_X7_isScene l E) (kX7_115 F.2.2.2.2 ⟨Nat.le_of_ble_eq_true rfl, Nat.le_of_ble_eq_true rfl⟩) rfl rfl [0, 1, 2, 3, 4] rfl rfl hl.1 (Nat.le_of_ble_eq_true rfl) dX7_shoot_7 rfl ?_
  refine V.topi (fun z1 e1 => ?_)
  refine V.if_eqB (tgt := 20) F e1 dX7_shoot_10 (by decide) (fun c2 => ?_) (fun c2 => ?_)
  · skip
    subst e1; exact absurd h1 c2
  · skip
    refine V.iload_n F dX7_shoot_13 rfl (lv_at hl 2 rfl) ?_
    refine V.rdS F hE (c_X7_isPerson l E) (kX7_90 F.2.2.2.2 ⟨Nat.le_of_ble_eq_true rfl, Nat.le_of_ble_eq_true rfl⟩) [] rfl rfl hl.1 (Nat.le_of_ble_eq_true rfl) dX7_shoot_14 rfl ?_
    refine V.topi (fun z3 e3 => ?_)
    refine V.if_neB (tgt := 26) F e3 dX7_shoot_17 (by decide) (fun c4 => ?_) (fun c4 => ?_)
    · skip
      refine V.aload_n F dX7_shoot_26 rfl (lv_at hl 0 rfl) ?_
      refine V.iload_n F dX7_shoot_27 rfl (lv_at hl 1 rfl) ?_
      refine V.iload_n F dX7_shoot_28 rfl (lv_at hl 2 rfl) ?_
      refine V.aload_n F dX7_shoot_29 rfl (lv_at hl 0 rfl) ?_
      refine V.getf F hE gX7_7 0 rfl rfl dX7_shoot_30 ?_
      refine V.iconst (v := nI 0) F dX7_shoot_33 (by decide) ?_
      refine V.iadn (i := 0) F hE 1 rfl (by omega) (by omega) dX7_shoot_34 (fun z5 e5 => ?_)
      refine V.rdV (q0 := 0) F hE (c_X7_reason l E hM hx0 hp0) (kX7_87 F.2.2.2.2 ⟨Nat.le_of_ble_eq_true rfl, Nat.le_of_ble_eq_true rfl⟩) rfl rfl [0, 1, 2, 3, 4] rfl rfl hl.1 (Nat.le_of_ble_eq_true rfl) dX7_shoot_35 rfl ?_
      refine V.topi (fun z6 e6 => ?_)
      refine V.if_eq (tgt := 47) F dX7_shoot_38 (by decide) (fun c7 => ?_) (fun c7 => ?_)
      · skip
        rw [← nI_0] at c7
        refine V.aload_n F dX7_shoot_47 rfl (lv_at hl 0 rfl) ?_
        refine V.wsVn (q0 := 0) (ws' := mdW E a (nI 0) (nI (kN M)) ln pl hs s (svA S s M) b w) F hE hN (pm_eq (by rfl)) (c_X7_saveA l E hm) (kX7_94 F.2.2.2.2 ⟨Nat.le_of_ble_eq_true rfl, Nat.le_of_ble_eq_true rfl⟩) rfl rfl 0 5 (by rfl) (by rfl) rfl hl.1 (Nat.le_of_ble_eq_true rfl) dX7_shoot_48 rfl ?_
        refine V.aload_n F dX7_shoot_51 rfl (lv_at hl 0 rfl) ?_
        refine V.iload_n F dX7_shoot_52 rfl (lv_at hl 1 rfl) ?_
        refine V.iload_n F dX7_shoot_53 rfl (lv_at hl 2 rfl) ?_
        refine V.wsV (q0 := 0) (ws' := mdW E a (nI 0) (nI (kN M)) ln pl hs (doS s sn x p) (svA S s M) b w) F hE hN (pm_eq (by rfl)) (c_X7_doesShoot l E hM hx0 hp0) (kX7_118 F.2.2.2.2 ⟨Nat.le_of_ble_eq_true rfl, Nat.le_of_ble_eq_true rfl⟩) rfl rfl 0 5 (by rfl) (by rfl) rfl hl.1 (Nat.le_of_ble_eq_true rfl) dX7_shoot_54 rfl ?_
        refine V.topi (fun z8 e8 => ?_)
        exact V.iretW F hr hk dX7_shoot_57 (by subst e1 e3 e5 e6 e8; first | with_reducible rfl | (simp only [oi1n, nI_add]; done) | (simp only [eq_true c2, eq_true c4, eq_true c7, oi1n, nI_add, pk_mul, if_true, if_false, ↓reduceIte]; done) | (simp only [eq_true c2, eq_true c4, eq_true c7, oi1n, nI_add, pk_mul, bI, and_true, true_and, and_false, false_and, and_self, not_true_eq_false, not_false_eq_true, if_true, if_false, ↓reduceIte] <;> rfl)) (by subst e1 e3 e5 e6 e8; first | with_reducible rfl | (simp only [oi1n, nI_add]; done) | (simp only [eq_true c2, eq_true c4, eq_true c7, oi1n, nI_add, pk_mul, if_true, if_false, ↓reduceIte]; done) | (simp only [eq_true c2, eq_true c4, eq_true c7, oi1n, nI_add, pk_mul, bI, and_true, true_and, and_false, false_and, and_self, not_true_eq_false, not_false_eq_true, if_true, if_false, ↓reduceIte] <;> rfl))
      · skip
        rw [← nI_0] at c7
        subst e1 e3 e5 e6; exact absurd h3 c7
    · skip
      subst e1 e3; exact absurd h2 c4
set_option maxHeartbeats 4000000 in
set_option maxRecDepth 100000 in
theorem c_X7_shoot_e1 (l : Launch) (E : EV) {a : Nat → Nat} {th sm ln pl : Int32} {hs : Int64} {s S b w : Nat → Int32} {x p : Int32} (h : ¬ ((nI 0 ≤ x ∧ x ≤ s 4 - nI 1) ∧ (nI 0 ≤ p ∧ p ≤ nI 7))) : Wr l E yX7_shoot cX7_shoot 3 (some .int) 4 99 [.ref (a 0), .int x, .int p] (mdW E a th sm ln pl hs s S b w) (mdW E a (nI 1) sm ln pl hs s S b w) (some (.int (nI 0))) := by
  refine Wr.mk0 (by decide) (Nat.le_of_ble_eq_true rfl) ?_
  intro pP eE sS mM aA bB mt cC F hr hk hE hN ls hl
  have hl : lv_has ls 3 [(0, .ref (a 0)), (1, .int x), (2, .int p)] := hl
  refine V.aload_n F dX7_shoot_0 rfl (lv_at hl 0 rfl) ?_
  refine V.iconst (v := nI 0) F dX7_shoot_1 (by decide) ?_
  refine V.putf (ws' := mdW E a (nI 0) sm ln pl hs s S b w) F hE hN (by rfl) pX7_22 rfl rfl 0 rfl (by exact Nat.le_of_ble_eq_true rfl) dX7_shoot_2 rfl ?_
  refine V.aload_n F dX7_shoot_5 rfl (lv_at hl 0 rfl) ?_
  refine V.iload_n F dX7_shoot_6 rfl (lv_at hl 1 rfl) ?_
  refine V.rdV (q0 := 0) F hE (c_X7_isScene l E) (kX7_115 F.2.2.2.2 ⟨Nat.le_of_ble_eq_true rfl, Nat.le_of_ble_eq_true rfl⟩) rfl rfl [0, 1, 2, 3, 4] rfl rfl hl.1 (Nat.le_of_ble_eq_true rfl) dX7_shoot_7 rfl ?_
  refine V.topi (fun z1 e1 => ?_)
  refine V.if_eqB (tgt := 20) F e1 dX7_shoot_10 (by decide) (fun c2 => ?_) (fun c2 => ?_)
  · skip
    refine V.aload_n F dX7_shoot_20 rfl (lv_at hl 0 rfl) ?_
    refine V.iconst (v := nI 1) F dX7_shoot_21 (by decide) ?_
    refine V.wsV (q0 := 0) (ws' := mdW E a (nI 1) sm ln pl hs s S b w) F hE hN (pm_eq (by rfl)) (c_X7_fails l E) (kX7_33 F.2.2.2.2 ⟨Nat.le_of_ble_eq_true rfl, Nat.le_of_ble_eq_true rfl⟩) rfl rfl 0 5 (by rfl) (by rfl) rfl hl.1 (Nat.le_of_ble_eq_true rfl) dX7_shoot_22 rfl ?_
    refine V.topi (fun z3 e3 => ?_)
    exact V.iretW F hr hk dX7_shoot_25 (by subst e1 e3; first | with_reducible rfl | (simp only [oi1n, nI_add]; done) | (simp only [c2, oi1n, nI_add, pk_mul, if_true, if_false, ↓reduceIte]; done) | (simp only [c2, oi1n, nI_add, pk_mul, bI, and_true, true_and, and_false, false_and, and_self, not_true_eq_false, not_false_eq_true, if_true, if_false, ↓reduceIte] <;> rfl)) (by subst e1 e3; first | with_reducible rfl | (simp only [oi1n, nI_add]; done) | (simp only [c2, oi1n, nI_add, pk_mul, if_true, if_false, ↓reduceIte]; done) | (simp only [c2, oi1n, nI_add, pk_mul, bI, and_true, true_and, and_false, false_and, and_self, not_true_eq_false, not_false_eq_true, if_true, if_false, ↓reduceIte] <;> rfl))
  · skip
    refine V.iload_n F dX7_shoot_13 rfl (lv_at hl 2 rfl) ?_
    refine V.rdS F hE (c_X7_isPerson l E) (kX7_90 F.2.2.2.2 ⟨Nat.le_of_ble_eq_true rfl, Nat.le_of_ble_eq_true rfl⟩) [] rfl rfl hl.1 (Nat.le_of_ble_eq_true rfl) dX7_shoot_14 rfl ?_
    refine V.topi (fun z4 e4 => ?_)
    refine V.if_neB (tgt := 26) F e4 dX7_shoot_17 (by decide) (fun c5 => ?_) (fun c5 => ?_)
    · skip
      subst e1 e4; exact absurd ⟨c2, c5⟩ h
    · skip
      refine V.aload_n F dX7_shoot_20 rfl (lv_at hl 0 rfl) ?_
      refine V.iconst (v := nI 1) F dX7_shoot_21 (by decide) ?_
      refine V.wsV (q0 := 0) (ws' := mdW E a (nI 1) sm ln pl hs s S b w) F hE hN (pm_eq (by rfl)) (c_X7_fails l E) (kX7_33 F.2.2.2.2 ⟨Nat.le_of_ble_eq_true rfl, Nat.le_of_ble_eq_true rfl⟩) rfl rfl 0 5 (by rfl) (by rfl) rfl hl.1 (Nat.le_of_ble_eq_true rfl) dX7_shoot_22 rfl ?_
      refine V.topi (fun z6 e6 => ?_)
      exact V.iretW F hr hk dX7_shoot_25 (by subst e1 e4 e6; first | with_reducible rfl | (simp only [oi1n, nI_add]; done) | (simp only [eq_true c2, c5, oi1n, nI_add, pk_mul, if_true, if_false, ↓reduceIte]; done) | (simp only [eq_true c2, c5, oi1n, nI_add, pk_mul, bI, and_true, true_and, and_false, false_and, and_self, not_true_eq_false, not_false_eq_true, if_true, if_false, ↓reduceIte] <;> rfl)) (by subst e1 e4 e6; first | with_reducible rfl | (simp only [oi1n, nI_add]; done) | (simp only [eq_true c2, c5, oi1n, nI_add, pk_mul, if_true, if_false, ↓reduceIte]; done) | (simp only [eq_true c2, c5, oi1n, nI_add, pk_mul, bI, and_true, true_and, and_false, false_and, and_self, not_true_eq_false, not_false_eq_true, if_true, if_false, ↓reduceIte] <;> rfl))
set_option maxHeartbeats 4000000 in
set_option maxRecDepth 100000 in
theorem c_X7_shoot_e2 (l : Launch) (E : EV) {a : Nat → Nat} {th sm ln pl : Int32} {hs : Int64} {s S b w : Nat → Int32} {R H C D : Nat} {sn : Nat → Nat} {x p : Nat} (hM : MI s R H C D sn) (h1 : nI 0 ≤ nI x ∧ nI x ≤ s 4 - nI 1) (h2 : nI 0 ≤ nI p ∧ nI p ≤ nI 7) (h : ¬ (rsM s R H sn x p (s 0) = nI 0)) (hx0 : x < 10) (hp0 : p < 8) : Wr l E yX7_shoot cX7_shoot 3 (some .int) 4 99 [.ref (a 0), .int (nI x), .int (nI p)] (mdW E a th sm ln pl hs s S b w) (mdW E a (nI 2) sm ln pl hs s S b w) (some (.int (nI 0))) := by
  refine Wr.mk0 (by decide) (Nat.le_of_ble_eq_true rfl) ?_
  intro pP eE sS mM aA bB mt cC F hr hk hE hN ls hl
  have hl : lv_has ls 3 [(0, .ref (a 0)), (1, .int (nI x)), (2, .int (nI p))] := hl
  have hM1 := hM
  obtain ⟨hD0, hD, hkR, hR, hh, hH, hs4, hC, hsn⟩ := hM1
  refine V.aload_n F dX7_shoot_0 rfl (lv_at hl 0 rfl) ?_
  refine V.iconst (v := nI 0) F dX7_shoot_1 (by decide) ?_
  refine V.putf (ws' := mdW E a (nI 0) sm ln pl hs s S b w) F hE hN (by rfl) pX7_22 rfl rfl 0 rfl (by exact Nat.le_of_ble_eq_true rfl) dX7_shoot_2 rfl ?_
  refine V.aload_n F dX7_shoot_5 rfl (lv_at hl 0 rfl) ?_
  refine V.iload_n F dX7_shoot_6 rfl (lv_at hl 1 rfl) ?_
  refine V.rdV (q0 := 0) F hE (c_X7_isScene l E) (kX7_115 F.2.2.2.2 ⟨Nat.le_of_ble_eq_true rfl, Nat.le_of_ble_eq_true rfl⟩) rfl rfl [0, 1, 2, 3, 4] rfl rfl hl.1 (Nat.le_of_ble_eq_true rfl) dX7_shoot_7 rfl ?_
  refine V.topi (fun z1 e1 => ?_)
  refine V.if_eqB (tgt := 20) F e1 dX7_shoot_10 (by decide) (fun c2 => ?_) (fun c2 => ?_)
  · skip
    subst e1; exact absurd h1 c2
  · skip
    refine V.iload_n F dX7_shoot_13 rfl (lv_at hl 2 rfl) ?_
    refine V.rdS F hE (c_X7_isPerson l E) (kX7_90 F.2.2.2.2 ⟨Nat.le_of_ble_eq_true rfl, Nat.le_of_ble_eq_true rfl⟩) [] rfl rfl hl.1 (Nat.le_of_ble_eq_true rfl) dX7_shoot_14 rfl ?_
    refine V.topi (fun z3 e3 => ?_)
    refine V.if_neB (tgt := 26) F e3 dX7_shoot_17 (by decide) (fun c4 => ?_) (fun c4 => ?_)
    · skip
      refine V.aload_n F dX7_shoot_26 rfl (lv_at hl 0 rfl) ?_
      refine V.iload_n F dX7_shoot_27 rfl (lv_at hl 1 rfl) ?_
      refine V.iload_n F dX7_shoot_28 rfl (lv_at hl 2 rfl) ?_
      refine V.aload_n F dX7_shoot_29 rfl (lv_at hl 0 rfl) ?_
      refine V.getf F hE gX7_7 0 rfl rfl dX7_shoot_30 ?_
      refine V.iconst (v := nI 0) F dX7_shoot_33 (by decide) ?_
      refine V.iadn (i := 0) F hE 1 rfl (by omega) (by omega) dX7_shoot_34 (fun z5 e5 => ?_)
      refine V.rdV (q0 := 0) F hE (c_X7_reason l E hM hx0 hp0) (kX7_87 F.2.2.2.2 ⟨Nat.le_of_ble_eq_true rfl, Nat.le_of_ble_eq_true rfl⟩) rfl rfl [0, 1, 2, 3, 4] rfl rfl hl.1 (Nat.le_of_ble_eq_true rfl) dX7_shoot_35 rfl ?_
      refine V.topi (fun z6 e6 => ?_)
      refine V.if_eq (tgt := 47) F dX7_shoot_38 (by decide) (fun c7 => ?_) (fun c7 => ?_)
      · skip
        rw [← nI_0] at c7
        subst e1 e3 e5 e6; exact absurd c7 h
      · skip
        rw [← nI_0] at c7
        refine V.aload_n F dX7_shoot_41 rfl (lv_at hl 0 rfl) ?_
        refine V.iconst (v := nI 2) F dX7_shoot_42 (by decide) ?_
        refine V.wsV (q0 := 0) (ws' := mdW E a (nI 2) sm ln pl hs s S b w) F hE hN (pm_eq (by rfl)) (c_X7_fails l E) (kX7_33 F.2.2.2.2 ⟨Nat.le_of_ble_eq_true rfl, Nat.le_of_ble_eq_true rfl⟩) rfl rfl 0 5 (by rfl) (by rfl) rfl hl.1 (Nat.le_of_ble_eq_true rfl) dX7_shoot_43 rfl ?_
        refine V.topi (fun z8 e8 => ?_)
        exact V.iretW F hr hk dX7_shoot_46 (by subst e1 e3 e5 e6 e8; first | with_reducible rfl | (simp only [oi1n, nI_add]; done) | (simp only [eq_true c2, eq_true c4, c7, oi1n, nI_add, pk_mul, if_true, if_false, ↓reduceIte]; done) | (simp only [eq_true c2, eq_true c4, c7, oi1n, nI_add, pk_mul, bI, and_true, true_and, and_false, false_and, and_self, not_true_eq_false, not_false_eq_true, if_true, if_false, ↓reduceIte] <;> rfl)) (by subst e1 e3 e5 e6 e8; first | with_reducible rfl | (simp only [oi1n, nI_add]; done) | (simp only [eq_true c2, eq_true c4, c7, oi1n, nI_add, pk_mul, if_true, if_false, ↓reduceIte]; done) | (simp only [eq_true c2, eq_true c4, c7, oi1n, nI_add, pk_mul, bI, and_true, true_and, and_false, false_and, and_self, not_true_eq_false, not_false_eq_true, if_true, if_false, ↓reduceIte] <;> rfl))
    · skip
      subst e1 e3; exact absurd h2 c4
set_option maxHeartbeats 4000000 in
set_option maxRecDepth 100000 in
theorem c_X7_append (l : Launch) (E : EV) {a : Nat → Nat} {th sm pl : Int32} {hs : Int64} {s S b w : Nat → Int32} {c : Int32} {L : Nat} (h1 : nI 33 ≤ c ∧ c ≤ nI 126) (h2 : ¬ nI L = nI 60) (hL : L < 60) : Wr l E yX7_append cX7_append 2 (some .int) 1 22 [.ref (a 0), .int c] (mdW E a th sm (nI L) pl hs s S b w) (mdW E a (nI 0) sm (nI (L + 1)) pl hs s S (upd b L c) w) (some (.int (nI (L + 1)))) := by
  refine Wr.mk0 (by decide) (Nat.le_of_ble_eq_true rfl) ?_
  intro pP eE sS mM aA bB mt cC F hr hk hE hN ls hl
  have hl : lv_has ls 2 [(0, .ref (a 0)), (1, .int c)] := hl
  refine V.aload_n F dX7_append_0 rfl (lv_at hl 0 rfl) ?_
  refine V.iconst (v := nI 0) F dX7_append_1 (by decide) ?_
  refine V.putf (ws' := mdW E a (nI 0) sm (nI L) pl hs s S b w) F hE hN (by rfl) pX7_22 rfl rfl 0 rfl (by exact Nat.le_of_ble_eq_true rfl) dX7_append_2 rfl ?_
  refine V.iload_n F dX7_append_5 rfl (lv_at hl 1 rfl) ?_
  refine V.bipush (v := nI 33) F dX7_append_6 (by decide) ?_
  refine V.bipush (v := nI 126) F dX7_append_8 (by decide) ?_
  refine V.rdS F hE (c_X7_within l E) (kX7_26 F.2.2.2.2 ⟨Nat.le_of_ble_eq_true rfl, Nat.le_of_ble_eq_true rfl⟩) [] rfl rfl hl.1 (Nat.le_of_ble_eq_true rfl) dX7_append_10 rfl ?_
  refine V.topi (fun z1 e1 => ?_)
  refine V.if_neB (tgt := 22) F e1 dX7_append_13 (by decide) (fun c2 => ?_) (fun c2 => ?_)
  · skip
    refine V.aload_n F dX7_append_22 rfl (lv_at hl 0 rfl) ?_
    refine V.getfi F hE gX7_121 0 rfl rfl dX7_append_23 (fun z3 e3 => ?_)
    subst e3
    refine V.bipush (v := nI 60) F dX7_append_26 (by decide) ?_
    refine V.icmp_ne (tgt := 37) F dX7_append_28 (by decide) (fun c4 => ?_) (fun c4 => ?_)
    · skip
      refine V.aload_n F dX7_append_37 rfl (lv_at hl 0 rfl) ?_
      refine V.getf F hE gX7_16 0 rfl rfl dX7_append_38 ?_
      refine V.aload_n F dX7_append_41 rfl (lv_at hl 0 rfl) ?_
      refine V.getfi F hE gX7_121 0 rfl rfl dX7_append_42 (fun z5 e5 => ?_)
      subst e5
      refine V.iload_n F dX7_append_45 rfl (lv_at hl 1 rfl) ?_
      refine V.isn (i := L) (ws' := mdW E a (nI 0) sm (nI L) pl hs s S (upd b L c) w) F hE hN (by rfl) 3 rfl (by omega) (by omega) dX7_append_46 rfl ?_
      refine V.aload_n F dX7_append_47 rfl (lv_at hl 0 rfl) ?_
      refine V.dup F dX7_append_48 rfl ?_
      refine V.getfi F hE gX7_121 0 rfl rfl dX7_append_49 (fun z6 e6 => ?_)
      subst e6
      refine V.iconst (v := nI 1) F dX7_append_52 (by decide) ?_
      refine V.iadd F dX7_append_53 (fun z7 e7 => ?_)
      obtain rfl : z7 = nI (L + 1) := e7.trans (nI_add _ _)
      refine V.putf (ws' := mdW E a (nI 0) sm (nI (L + 1)) pl hs s S (upd b L c) w) F hE hN (by rfl) pX7_121 rfl rfl 0 rfl (by exact Nat.le_of_ble_eq_true rfl) dX7_append_54 rfl ?_
      refine V.aload_n F dX7_append_57 rfl (lv_at hl 0 rfl) ?_
      refine V.getfi F hE gX7_121 0 rfl rfl dX7_append_58 (fun z8 e8 => ?_)
      subst e8
      exact V.iretW F hr hk dX7_append_61 (by subst e1; first | with_reducible rfl | (simp only [oi1n, nI_add]; done) | (simp only [eq_true c2, c4, oi1n, nI_add, pk_mul, if_true, if_false, ↓reduceIte]; done) | (simp only [eq_true c2, c4, oi1n, nI_add, pk_mul, bI, and_true, true_and, and_false, false_and, and_self, not_true_eq_false, not_false_eq_true, if_true, if_false, ↓reduceIte] <;> rfl)) (by subst e1; first | with_reducible rfl | (simp only [oi1n, nI_add]; done) | (simp only [eq_true c2, c4, oi1n, nI_add, pk_mul, if_true, if_false, ↓reduceIte]; done) | (simp only [eq_true c2, c4, oi1n, nI_add, pk_mul, bI, and_true, true_and, and_false, false_and, and_self, not_true_eq_false, not_false_eq_true, if_true, if_false, ↓reduceIte] <;> rfl))
    · skip
      subst e1; exact absurd c4 h2
  · skip
    subst e1; exact absurd h1 c2
set_option maxHeartbeats 4000000 in
set_option maxRecDepth 100000 in
theorem c_X7_append_e1 (l : Launch) (E : EV) {a : Nat → Nat} {th sm pl : Int32} {hs : Int64} {s S b w : Nat → Int32} {c : Int32} {L : Nat} (h : ¬ (nI 33 ≤ c ∧ c ≤ nI 126)) (hL : L ≤ 60) : Wr l E yX7_append cX7_append 2 (some .int) 1 22 [.ref (a 0), .int c] (mdW E a th sm (nI L) pl hs s S b w) (mdW E a (nI 1) sm (nI L) pl hs s S b w) (some (.int (nI 0))) := by
  refine Wr.mk0 (by decide) (Nat.le_of_ble_eq_true rfl) ?_
  intro pP eE sS mM aA bB mt cC F hr hk hE hN ls hl
  have hl : lv_has ls 2 [(0, .ref (a 0)), (1, .int c)] := hl
  refine V.aload_n F dX7_append_0 rfl (lv_at hl 0 rfl) ?_
  refine V.iconst (v := nI 0) F dX7_append_1 (by decide) ?_
  refine V.putf (ws' := mdW E a (nI 0) sm (nI L) pl hs s S b w) F hE hN (by rfl) pX7_22 rfl rfl 0 rfl (by exact Nat.le_of_ble_eq_true rfl) dX7_append_2 rfl ?_
  refine V.iload_n F dX7_append_5 rfl (lv_at hl 1 rfl) ?_
  refine V.bipush (v := nI 33) F dX7_append_6 (by decide) ?_
  refine V.bipush (v := nI 126) F dX7_append_8 (by decide) ?_
  refine V.rdS F hE (c_X7_within l E) (kX7_26 F.2.2.2.2 ⟨Nat.le_of_ble_eq_true rfl, Nat.le_of_ble_eq_true rfl⟩) [] rfl rfl hl.1 (Nat.le_of_ble_eq_true rfl) dX7_append_10 rfl ?_
  refine V.topi (fun z1 e1 => ?_)
  refine V.if_neB (tgt := 22) F e1 dX7_append_13 (by decide) (fun c2 => ?_) (fun c2 => ?_)
  · skip
    subst e1; exact absurd c2 h
  · skip
    refine V.aload_n F dX7_append_16 rfl (lv_at hl 0 rfl) ?_
    refine V.iconst (v := nI 1) F dX7_append_17 (by decide) ?_
    refine V.wsV (q0 := 0) (ws' := mdW E a (nI 1) sm (nI L) pl hs s S b w) F hE hN (pm_eq (by rfl)) (c_X7_fails l E) (kX7_33 F.2.2.2.2 ⟨Nat.le_of_ble_eq_true rfl, Nat.le_of_ble_eq_true rfl⟩) rfl rfl 0 5 (by rfl) (by rfl) rfl hl.1 (Nat.le_of_ble_eq_true rfl) dX7_append_18 rfl ?_
    refine V.topi (fun z3 e3 => ?_)
    exact V.iretW F hr hk dX7_append_21 (by subst e1 e3; first | with_reducible rfl | (simp only [oi1n, nI_add]; done) | (simp only [c2, oi1n, nI_add, pk_mul, if_true, if_false, ↓reduceIte]; done) | (simp only [c2, oi1n, nI_add, pk_mul, bI, and_true, true_and, and_false, false_and, and_self, not_true_eq_false, not_false_eq_true, if_true, if_false, ↓reduceIte] <;> rfl)) (by subst e1 e3; first | with_reducible rfl | (simp only [oi1n, nI_add]; done) | (simp only [c2, oi1n, nI_add, pk_mul, if_true, if_false, ↓reduceIte]; done) | (simp only [c2, oi1n, nI_add, pk_mul, bI, and_true, true_and, and_false, false_and, and_self, not_true_eq_false, not_false_eq_true, if_true, if_false, ↓reduceIte] <;> rfl))
set_option maxHeartbeats 4000000 in
set_option maxRecDepth 100000 in
theorem c_X7_append_e2 (l : Launch) (E : EV) {a : Nat → Nat} {th sm pl : Int32} {hs : Int64} {s S b w : Nat → Int32} {c : Int32} {L : Nat} (h1 : nI 33 ≤ c ∧ c ≤ nI 126) (h : ¬ (¬ nI L = nI 60)) (hL : L ≤ 60) : Wr l E yX7_append cX7_append 2 (some .int) 1 22 [.ref (a 0), .int c] (mdW E a th sm (nI L) pl hs s S b w) (mdW E a (nI 2) sm (nI L) pl hs s S b w) (some (.int (nI 0))) := by
  refine Wr.mk0 (by decide) (Nat.le_of_ble_eq_true rfl) ?_
  intro pP eE sS mM aA bB mt cC F hr hk hE hN ls hl
  have hl : lv_has ls 2 [(0, .ref (a 0)), (1, .int c)] := hl
  refine V.aload_n F dX7_append_0 rfl (lv_at hl 0 rfl) ?_
  refine V.iconst (v := nI 0) F dX7_append_1 (by decide) ?_
  refine V.putf (ws' := mdW E a (nI 0) sm (nI L) pl hs s S b w) F hE hN (by rfl) pX7_22 rfl rfl 0 rfl (by exact Nat.le_of_ble_eq_true rfl) dX7_append_2 rfl ?_
  refine V.iload_n F dX7_append_5 rfl (lv_at hl 1 rfl) ?_
  refine V.bipush (v := nI 33) F dX7_append_6 (by decide) ?_
  refine V.bipush (v := nI 126) F dX7_append_8 (by decide) ?_
  refine V.rdS F hE (c_X7_within l E) (kX7_26 F.2.2.2.2 ⟨Nat.le_of_ble_eq_true rfl, Nat.le_of_ble_eq_true rfl⟩) [] rfl rfl hl.1 (Nat.le_of_ble_eq_true rfl) dX7_append_10 rfl ?_
  refine V.topi (fun z1 e1 => ?_)
  refine V.if_neB (tgt := 22) F e1 dX7_append_13 (by decide) (fun c2 => ?_) (fun c2 => ?_)
  · skip
    refine V.aload_n F dX7_append_22 rfl (lv_at hl 0 rfl) ?_
    refine V.getfi F hE gX7_121 0 rfl rfl dX7_append_23 (fun z3 e3 => ?_)
    subst e3
    refine V.bipush (v := nI 60) F dX7_append_26 (by decide) ?_
    refine V.icmp_ne (tgt := 37) F dX7_append_28 (by decide) (fun c4 => ?_) (fun c4 => ?_)
    · skip
      subst e1; exact absurd c4 h
    · skip
      refine V.aload_n F dX7_append_31 rfl (lv_at hl 0 rfl) ?_
      refine V.iconst (v := nI 2) F dX7_append_32 (by decide) ?_
      refine V.wsV (q0 := 0) (ws' := mdW E a (nI 2) sm (nI L) pl hs s S b w) F hE hN (pm_eq (by rfl)) (c_X7_fails l E) (kX7_33 F.2.2.2.2 ⟨Nat.le_of_ble_eq_true rfl, Nat.le_of_ble_eq_true rfl⟩) rfl rfl 0 5 (by rfl) (by rfl) rfl hl.1 (Nat.le_of_ble_eq_true rfl) dX7_append_33 rfl ?_
      refine V.topi (fun z5 e5 => ?_)
      exact V.iretW F hr hk dX7_append_36 (by subst e1 e5; first | with_reducible rfl | (simp only [oi1n, nI_add]; done) | (simp only [eq_true c2, eq_true c4, oi1n, nI_add, pk_mul, if_true, if_false, ↓reduceIte]; done) | (simp only [eq_true c2, eq_true c4, oi1n, nI_add, pk_mul, bI, and_true, true_and, and_false, false_and, and_self, not_true_eq_false, not_false_eq_true, if_true, if_false, ↓reduceIte] <;> rfl)) (by subst e1 e5; first | with_reducible rfl | (simp only [oi1n, nI_add]; done) | (simp only [eq_true c2, eq_true c4, oi1n, nI_add, pk_mul, if_true, if_false, ↓reduceIte]; done) | (simp only [eq_true c2, eq_true c4, oi1n, nI_add, pk_mul, bI, and_true, true_and, and_false, false_and, and_self, not_true_eq_false, not_false_eq_true, if_true, if_false, ↓reduceIte] <;> rfl))
  · skip
    subst e1; exact absurd h1 c2
set_option maxHeartbeats 4000000 in
set_option maxRecDepth 100000 in
theorem c_X7_clearBuffer (l : Launch) (E : EV) {a : Nat → Nat} {th sm ln pl : Int32} {hs : Int64} {s S b w : Nat → Int32} : Wr l E yX7_clearBuffer cX7_clearBuffer 2 (some .int) 0 0 [.ref (a 0)] (mdW E a th sm ln pl hs s S b w) (mdW E a (nI 0) sm (nI 0) pl hs s S b w) (some (.int ln)) := by
  refine Wr.mk0 (by decide) (Nat.le_of_ble_eq_true rfl) ?_
  intro pP eE sS mM aA bB mt cC F hr hk hE hN ls hl
  have hl : lv_has ls 2 [(0, .ref (a 0))] := hl
  refine V.aload_n F dX7_clearBuffer_0 rfl (lv_at hl 0 rfl) ?_
  refine V.iconst (v := nI 0) F dX7_clearBuffer_1 (by decide) ?_
  refine V.putf (ws' := mdW E a (nI 0) sm ln pl hs s S b w) F hE hN (by rfl) pX7_22 rfl rfl 0 rfl (by exact Nat.le_of_ble_eq_true rfl) dX7_clearBuffer_2 rfl ?_
  refine V.aload_n F dX7_clearBuffer_5 rfl (lv_at hl 0 rfl) ?_
  refine V.getfi F hE gX7_121 0 rfl rfl dX7_clearBuffer_6 (fun z1 e1 => ?_)
  refine V.istore_n (lv' := [(1, .int z1), (0, .ref (a 0))]) F dX7_clearBuffer_9 rfl hl (by decide) rfl (fun ls hl => ?_)
  refine V.aload_n F dX7_clearBuffer_10 rfl (lv_at hl 1 rfl) ?_
  refine V.iconst (v := nI 0) F dX7_clearBuffer_11 (by decide) ?_
  refine V.putf (ws' := mdW E a (nI 0) sm (nI 0) pl hs s S b w) F hE hN (by rfl) pX7_121 rfl rfl 0 rfl (by exact Nat.le_of_ble_eq_true rfl) dX7_clearBuffer_12 rfl ?_
  refine V.iload_n F dX7_clearBuffer_15 rfl (lv_at hl 0 rfl) ?_
  exact V.iretW F hr hk dX7_clearBuffer_16 (by subst e1; first | with_reducible rfl | (simp only [oi1n, nI_add]; done)) (by subst e1; first | with_reducible rfl | (simp only [oi1n, nI_add]; done))
set_option maxHeartbeats 4000000 in
set_option maxRecDepth 100000 in
theorem c_X7_undo (l : Launch) (E : EV) {a : Nat → Nat} {th ln pl : Int32} {hs : Int64} {s S b w : Nat → Int32} {M : Nat} (hm : M < 6) : Wr l E yX7_undo cX7_undo 2 (some .int) 1 21 [.ref (a 0)] (mdW E a th (nI (M + 1)) ln pl hs s S b w) (mdW E a (nI 0) (nI M) ln pl hs (unM S s M 300) S b w) (some (.int (nI M))) := by
  refine Wr.mk0 (by decide) (Nat.le_of_ble_eq_true rfl) ?_
  intro pP eE sS mM aA bB mt cC F hr hk hE hN ls hl
  have hl : lv_has ls 2 [(0, .ref (a 0))] := hl
  refine V.aload_n F dX7_undo_0 rfl (lv_at hl 0 rfl) ?_
  refine V.iconst (v := nI 0) F dX7_undo_1 (by decide) ?_
  refine V.putf (ws' := mdW E a (nI 0) (nI (M + 1)) ln pl hs s S b w) F hE hN (by rfl) pX7_22 rfl rfl 0 rfl (by exact Nat.le_of_ble_eq_true rfl) dX7_undo_2 rfl ?_
  refine V.aload_n F dX7_undo_5 rfl (lv_at hl 0 rfl) ?_
  refine V.getfi F hE gX7_30 0 rfl rfl dX7_undo_6 (fun z1 e1 => ?_)
  subst e1
  refine V.if_ne (tgt := 18) F dX7_undo_9 (by decide) (fun c2 => ?_) (fun c2 => ?_)
  · skip
    rw [← nI_0] at c2
    refine V.aload_n F dX7_undo_18 rfl (lv_at hl 0 rfl) ?_
    refine V.dup F dX7_undo_19 rfl ?_
    refine V.getfi F hE gX7_30 0 rfl rfl dX7_undo_20 (fun z3 e3 => ?_)
    subst e3
    refine V.iconst (v := nI 1) F dX7_undo_23 (by decide) ?_
    refine V.isub F dX7_undo_24 (fun z4 e4 => ?_)
    obtain rfl : z4 = nI M := by rw [e4]; exact nI_m1 M
    refine V.putf (ws' := mdW E a (nI 0) (nI M) ln pl hs s S b w) F hE hN (by rfl) pX7_30 rfl rfl 0 rfl (by exact Nat.le_of_ble_eq_true rfl) dX7_undo_25 rfl ?_
    refine V.iconst (v := nI 0) F dX7_undo_28 (by decide) ?_
    refine V.istore_n (lv' := [(1, .int (nI 0)), (0, .ref (a 0))]) F dX7_undo_29 rfl hl (by decide) rfl (fun ls hl => ?_)
    have h6 : nI 0 = nI 0 := (by first | with_reducible rfl | (simp only [oi1n, nI_add]; done) | (rw [unM]; done) | (simp only [c2, oi1n, nI_add, pk_mul, if_true, if_false, ↓reduceIte]; done) | (simp only [c2, oi1n, nI_add, pk_mul, bI, and_true, true_and, and_false, false_and, and_self, not_true_eq_false, not_false_eq_true, if_true, if_false, ↓reduceIte] <;> rfl))
    refine V.weq (ws' := mdW E a (nI 0) (nI M) ln pl hs (unM S s M 0) S b w) (by first | with_reducible rfl | (simp only [oi1n, nI_add]; done) | (rw [unM]; done) | (simp only [c2, oi1n, nI_add, pk_mul, if_true, if_false, ↓reduceIte]; done) | (simp only [c2, oi1n, nI_add, pk_mul, bI, and_true, true_and, and_false, false_and, and_self, not_true_eq_false, not_false_eq_true, if_true, if_false, ↓reduceIte] <;> rfl)) ?_
    refine V.loopW (Wd := fun j5 : Nat => mdW E a (nI 0) (nI M) ln pl hs (unM S s M j5) S b w) (N := 300) (k0 := 0) (I := (fun j5 : Nat => [(1, .int (nI j5)), (0, .ref (a 0))])) (J := fun _ => True) (Nat.zero_le _) trivial (lv_sub hl [0, 1] (by rw [h6]; rfl)) ?_
    intro j5 j5_N j5_J ihj5 ls hl
    have hl : lv_has ls 2 [(1, .int (nI j5)), (0, .ref (a 0))] := hl
    try dsimp only at j5_J ihj5 ⊢
    refine V.iload_n F dX7_undo_30 rfl (lv_at hl 0 rfl) ?_
    refine V.sipush (v := nI 300) F dX7_undo_31 (by decide) ?_
    refine V.icmp_ge (tgt := 64) F dX7_undo_34 (by decide) (fun c7 c7' => ?_) (fun c7 c7' => ?_)
    · skip
      have j5_eq := ((lpL rfl (by omega) j5_N).1 c7).symm
      subst j5_eq
      refine V.aload_n F dX7_undo_64 rfl (lv_at hl 1 rfl) ?_
      refine V.getfi F hE gX7_30 0 rfl rfl dX7_undo_65 (fun z8 e8 => ?_)
      subst e8
      exact V.iretW F hr hk dX7_undo_68 (by first | with_reducible rfl | (simp only [oi1n, nI_add]; done) | (rw [unM]; done) | (simp only [c2, c7, c7', oi1n, nI_add, pk_mul, if_true, if_false, ↓reduceIte]; done) | (simp only [c2, c7, c7', oi1n, nI_add, pk_mul, bI, and_true, true_and, and_false, false_and, and_self, not_true_eq_false, not_false_eq_true, if_true, if_false, ↓reduceIte] <;> rfl)) (by first | with_reducible rfl | (simp only [oi1n, nI_add]; done) | (rw [unM]; done) | (simp only [c2, c7, c7', oi1n, nI_add, pk_mul, if_true, if_false, ↓reduceIte]; done) | (simp only [c2, c7, c7', oi1n, nI_add, pk_mul, bI, and_true, true_and, and_false, false_and, and_self, not_true_eq_false, not_false_eq_true, if_true, if_false, ↓reduceIte] <;> rfl))
    · skip
      have j5_lt := (lpL rfl (by omega) j5_N).2 c7
      refine V.aload_n F dX7_undo_37 rfl (lv_at hl 1 rfl) ?_
      refine V.getf F hE gX7_7 0 rfl rfl dX7_undo_38 ?_
      refine V.iload_n F dX7_undo_41 rfl (lv_at hl 0 rfl) ?_
      refine V.aload_n F dX7_undo_42 rfl (lv_at hl 1 rfl) ?_
      refine V.getf F hE gX7_13 0 rfl rfl dX7_undo_43 ?_
      refine V.aload_n F dX7_undo_46 rfl (lv_at hl 1 rfl) ?_
      refine V.getfi F hE gX7_30 0 rfl rfl dX7_undo_47 (fun z9 e9 => ?_)
      subst e9
      refine V.sipush (v := nI 300) F dX7_undo_50 (by decide) ?_
      refine V.imul F dX7_undo_53 (fun z10 e10 => ?_)
      obtain rfl : z10 = nI (M * 300) := e10.trans (pk_mul _ _)
      refine V.iload_n F dX7_undo_54 rfl (lv_at hl 0 rfl) ?_
      refine V.iadd F dX7_undo_55 (fun z11 e11 => ?_)
      obtain rfl : z11 = nI ((M * 300) + j5) := e11.trans (nI_add _ _)
      refine V.iadn (i := ((M * 300) + j5)) F hE 2 rfl (by omega) (by omega) dX7_undo_56 (fun z12 e12 => ?_)
      refine V.isn (i := j5) (ws' := mdW E a (nI 0) (nI M) ln pl hs (upd (unM S s M j5) j5 z12) S b w) F hE hN (by rfl) 1 rfl (by omega) (by omega) dX7_undo_57 rfl ?_
      refine V.iinc (j := 0) (lv' := fun z13 => [(1, .int z13), (0, .ref (a 0))]) F dX7_undo_58 hl rfl (by decide) (fun _ => rfl) (fun z13 e13 ls hl => ?_)
      refine V.goto (tgt := 30) F dX7_undo_61 (by decide) ?_
      have h14 : nI (j5 + 1) = z13 := (by subst e12 e13; first | with_reducible rfl | (simp only [oi1n, nI_add]; done) | (rw [unM]; done) | (simp only [c2, c7, c7', oi1n, nI_add, pk_mul, if_true, if_false, ↓reduceIte]; done) | (simp only [c2, c7, c7', oi1n, nI_add, pk_mul, bI, and_true, true_and, and_false, false_and, and_self, not_true_eq_false, not_false_eq_true, if_true, if_false, ↓reduceIte] <;> rfl))
      refine V.weq (ws' := mdW E a (nI 0) (nI M) ln pl hs (unM S s M (j5 + 1)) S b w) (by subst e12 e13; first | with_reducible rfl | (simp only [oi1n, nI_add]; done) | (rw [unM]; done) | (simp only [c2, c7, c7', oi1n, nI_add, pk_mul, if_true, if_false, ↓reduceIte]; done) | (simp only [c2, c7, c7', oi1n, nI_add, pk_mul, bI, and_true, true_and, and_false, false_and, and_self, not_true_eq_false, not_false_eq_true, if_true, if_false, ↓reduceIte] <;> rfl)) ?_
      exact ihj5 j5_lt trivial _ (lv_sub hl [0, 1] (by rw [h14]; rfl))
  · skip
    rw [← nI_0] at c2
    exact absurd (show nI (M + 1) = nI 0 from c2) (fun h => by have q := congrArg Int32.toNatClampNeg h; rw [nI_clamp (by omega), nI_clamp (by omega)] at q; omega)
set_option maxHeartbeats 4000000 in
set_option maxRecDepth 100000 in
theorem c_X7_undo_e1 (l : Launch) (E : EV) {a : Nat → Nat} {th ln pl : Int32} {hs : Int64} {s S b w : Nat → Int32} : Wr l E yX7_undo cX7_undo 2 (some .int) 1 21 [.ref (a 0)] (mdW E a th (nI 0) ln pl hs s S b w) (mdW E a (nI 1) (nI 0) ln pl hs s S b w) (some (.int (nI 0))) := by
  refine Wr.mk0 (by decide) (Nat.le_of_ble_eq_true rfl) ?_
  intro pP eE sS mM aA bB mt cC F hr hk hE hN ls hl
  have hl : lv_has ls 2 [(0, .ref (a 0))] := hl
  refine V.aload_n F dX7_undo_0 rfl (lv_at hl 0 rfl) ?_
  refine V.iconst (v := nI 0) F dX7_undo_1 (by decide) ?_
  refine V.putf (ws' := mdW E a (nI 0) (nI 0) ln pl hs s S b w) F hE hN (by rfl) pX7_22 rfl rfl 0 rfl (by exact Nat.le_of_ble_eq_true rfl) dX7_undo_2 rfl ?_
  refine V.aload_n F dX7_undo_5 rfl (lv_at hl 0 rfl) ?_
  refine V.getfi F hE gX7_30 0 rfl rfl dX7_undo_6 (fun z1 e1 => ?_)
  subst e1
  refine V.if_ne (tgt := 18) F dX7_undo_9 (by decide) (fun h => absurd h (by decide)) (fun _ => ?_)
  refine V.aload_n F dX7_undo_12 rfl (lv_at hl 0 rfl) ?_
  refine V.iconst (v := nI 1) F dX7_undo_13 (by decide) ?_
  refine V.wsV (q0 := 0) (ws' := mdW E a (nI 1) (nI 0) ln pl hs s S b w) F hE hN (pm_eq (by rfl)) (c_X7_fails l E) (kX7_33 F.2.2.2.2 ⟨Nat.le_of_ble_eq_true rfl, Nat.le_of_ble_eq_true rfl⟩) rfl rfl 0 5 (by rfl) (by rfl) rfl hl.1 (Nat.le_of_ble_eq_true rfl) dX7_undo_14 rfl ?_
  refine V.topi (fun z3 e3 => ?_)
  exact V.iretW F hr hk dX7_undo_17 (by subst e3; first | with_reducible rfl | (simp only [oi1n, nI_add]; done)) (by subst e3; first | with_reducible rfl | (simp only [oi1n, nI_add]; done))
