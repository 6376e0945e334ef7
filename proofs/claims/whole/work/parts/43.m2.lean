set_option maxHeartbeats 4000000 in
set_option maxRecDepth 100000 in
theorem c_X7_fails (l : Launch) (E : EV) {a : Nat → Nat} {th sm ln pl : Int32} {hs : Int64} {s S b w : Nat → Int32} {x : Int32} : Wr l E yX7_fails cX7_fails 2 (some .int) 0 0 [.ref (a 0), .int x] (mdW E a th sm ln pl hs s S b w) (mdW E a x sm ln pl hs s S b w) (some (.int (nI 0))) := by
  refine Wr.mk0 (by decide) (Nat.le_of_ble_eq_true rfl) ?_
  intro pP eE sS mM aA bB mt cC F hr hk hE hN ls hl
  have hl : lv_has ls 2 [(0, .ref (a 0)), (1, .int x)] := hl
  refine V.aload_n F dX7_fails_0 rfl (lv_at hl 0 rfl) ?_
  refine V.iload_n F dX7_fails_1 rfl (lv_at hl 1 rfl) ?_
  refine V.putf F hE hN (by rfl) pX7_22 rfl rfl 0 rfl (by exact Nat.le_of_ble_eq_true rfl) dX7_fails_2 rfl ?_
  refine V.iconst (v := nI 0) F dX7_fails_5 (by decide) ?_
  exact V.iretW F hr hk dX7_fails_6 (by first | with_reducible rfl | (simp only [oi1n, nI_add, pk_mul, bI, and_true, true_and, and_false, false_and, and_self, or_true, true_or, or_false, false_or, or_self, not_true_eq_false, not_false_eq_true, if_true, if_false, ↓reduceIte] <;> rfl) | rfl | (simp [bI, oi1, nI_succ]; done)) (by first | with_reducible rfl | (simp only [oi1n, nI_add, pk_mul, bI, and_true, true_and, and_false, false_and, and_self, or_true, true_or, or_false, false_or, or_self, not_true_eq_false, not_false_eq_true, if_true, if_false, ↓reduceIte] <;> rfl) | rfl | (simp [bI, oi1, nI_succ]; done))
set_option maxHeartbeats 4000000 in
set_option maxRecDepth 100000 in
theorem c_X7_distance (l : Launch) (E : EV) {a : Nat → Nat} {th sm ln pl : Int32} {hs : Int64} {s S b w : Nat → Int32} {p q : Nat} (hp0 : p < 8) (hq0 : q < 8) : Rd l E yX7_distance cX7_distance 4 (some .int) 0 0 [.ref (a 0), .int (nI p), .int (nI q)] (mdW E a th sm ln pl hs s S b w) (some (.int (dsM s p q))) := by
  refine Rd.mk0 (by decide) (Nat.le_of_ble_eq_true rfl) ?_
  intro pP eE sS mM aA bB mt cC F hr hk hE ls hl
  have hl : lv_has ls 4 [(0, .ref (a 0)), (1, .int (nI p)), (2, .int (nI q))] := hl
  refine V.aload_n F dX7_distance_0 rfl (lv_at hl 0 rfl) ?_
  refine V.getf F hE gX7_7 0 rfl rfl dX7_distance_1 ?_
  refine V.bipush (v := nI 10) F dX7_distance_4 (by decide) ?_
  refine V.iload_n F dX7_distance_6 rfl (lv_at hl 1 rfl) ?_
  refine V.iadd F dX7_distance_7 (fun z1 e1 => ?_)
  obtain rfl : z1 = nI (10 + p) := e1.trans (nI_add _ _)
  refine V.iadn (i := (10 + p)) F hE 1 rfl (by omega) (by omega) dX7_distance_8 (fun z2 e2 => ?_)
  refine V.aload_n F dX7_distance_9 rfl (lv_at hl 0 rfl) ?_
  refine V.getf F hE gX7_7 0 rfl rfl dX7_distance_10 ?_
  refine V.bipush (v := nI 10) F dX7_distance_13 (by decide) ?_
  refine V.iload_n F dX7_distance_15 rfl (lv_at hl 2 rfl) ?_
  refine V.iadd F dX7_distance_16 (fun z3 e3 => ?_)
  obtain rfl : z3 = nI (10 + q) := e3.trans (nI_add _ _)
  refine V.iadn (i := (10 + q)) F hE 1 rfl (by omega) (by omega) dX7_distance_17 (fun z4 e4 => ?_)
  refine V.isub F dX7_distance_18 (fun z5 e5 => ?_)
  refine V.istore_n (lv' := [(3, .int z5), (0, .ref (a 0)), (1, .int (nI p)), (2, .int (nI q))]) F dX7_distance_19 rfl hl (by decide) rfl (fun ls hl => ?_)
  refine V.iload_n F dX7_distance_20 rfl (lv_at hl 0 rfl) ?_
  refine V.if_ge (tgt := 29) F dX7_distance_21 (by decide) (fun c6 c6' => ?_) (fun c6 c6' => ?_)
  · skip
    rw [← nI_0] at c6 c6'
    refine V.iload_n F dX7_distance_29 rfl (lv_at hl 0 rfl) ?_
    exact V.iretR F hr hk dX7_distance_30 (by subst e2 e4 e5; first | with_reducible rfl | (simp only [dsM, c6, c6', oi1n, nI_add, pk_mul, bI, and_true, true_and, and_false, false_and, and_self, or_true, true_or, or_false, false_or, or_self, not_true_eq_false, not_false_eq_true, if_true, if_false, ↓reduceIte] <;> rfl) | rfl | (simp [dsM, c6, c6', bI, oi1, nI_succ]; done))
  · skip
    rw [← nI_0] at c6 c6'
    refine V.iload_n F dX7_distance_24 rfl (lv_at hl 0 rfl) ?_
    refine V.ineg F dX7_distance_25 (fun z7 e7 => ?_)
    refine V.goto (tgt := 30) F dX7_distance_26 (by decide) ?_
    exact V.iretR F hr hk dX7_distance_30 (by subst e2 e4 e5 e7; first | with_reducible rfl | (simp only [dsM, c6, c6', oi1n, nI_add, pk_mul, bI, and_true, true_and, and_false, false_and, and_self, or_true, true_or, or_false, false_or, or_self, not_true_eq_false, not_false_eq_true, if_true, if_false, ↓reduceIte] <;> rfl) | rfl | (simp [dsM, c6, c6', bI, oi1, nI_succ]; done))
set_option maxHeartbeats 4000000 in
set_option maxRecDepth 100000 in
theorem c_X7_insuredStep (l : Launch) (E : EV) {a : Nat → Nat} {th sm ln pl : Int32} {hs : Int64} {s S b w : Nat → Int32} {d : Int32} : Rd l E yX7_insuredStep cX7_insuredStep 2 (some .int) 0 0 [.ref (a 0), .int d] (mdW E a th sm ln pl hs s S b w) (some (.int (isM s d))) := by
  refine Rd.mk0 (by decide) (Nat.le_of_ble_eq_true rfl) ?_
  intro pP eE sS mM aA bB mt cC F hr hk hE ls hl
  have hl : lv_has ls 2 [(0, .ref (a 0)), (1, .int d)] := hl
  refine V.iload_n F dX7_insuredStep_0 rfl (lv_at hl 1 rfl) ?_
  refine V.aload_n F dX7_insuredStep_1 rfl (lv_at hl 0 rfl) ?_
  refine V.getf F hE gX7_7 0 rfl rfl dX7_insuredStep_2 ?_
  refine V.iconst (v := nI 3) F dX7_insuredStep_5 (by decide) ?_
  refine V.iadn (i := 3) F hE 1 rfl (by omega) (by omega) dX7_insuredStep_6 (fun z1 e1 => ?_)
  refine V.icmp_gt (tgt := 19) F dX7_insuredStep_7 (by decide) (fun c2 c2' => ?_) (fun c2 c2' => ?_)
  · skip
    refine V.iconst (v := nI 0) F dX7_insuredStep_19 (by decide) ?_
    exact V.iretR F hr hk dX7_insuredStep_20 (by subst e1; first | with_reducible rfl | (simp only [isM, c2, c2', oi1n, nI_add, pk_mul, bI, and_true, true_and, and_false, false_and, and_self, or_true, true_or, or_false, false_or, or_self, not_true_eq_false, not_false_eq_true, if_true, if_false, ↓reduceIte] <;> rfl) | rfl | (simp [isM, c2, c2', bI, oi1, nI_succ]; done))
  · skip
    refine V.aload_n F dX7_insuredStep_10 rfl (lv_at hl 0 rfl) ?_
    refine V.getf F hE gX7_7 0 rfl rfl dX7_insuredStep_11 ?_
    refine V.iconst (v := nI 2) F dX7_insuredStep_14 (by decide) ?_
    refine V.iadn (i := 2) F hE 1 rfl (by omega) (by omega) dX7_insuredStep_15 (fun z3 e3 => ?_)
    refine V.goto (tgt := 20) F dX7_insuredStep_16 (by decide) ?_
    exact V.iretR F hr hk dX7_insuredStep_20 (by subst e1 e3; first | with_reducible rfl | (simp only [isM, c2, c2', oi1n, nI_add, pk_mul, bI, and_true, true_and, and_false, false_and, and_self, or_true, true_or, or_false, false_or, or_self, not_true_eq_false, not_false_eq_true, if_true, if_false, ↓reduceIte] <;> rfl) | rfl | (simp [isM, c2, c2', bI, oi1, nI_succ]; done))
set_option maxHeartbeats 4000000 in
set_option maxRecDepth 100000 in
theorem c_X7_hasRested (l : Launch) (E : EV) {a : Nat → Nat} {th sm ln pl : Int32} {hs : Int64} {s S b w : Nat → Int32} {d : Int32} {p : Nat} (hp0 : p < 8) : Rd l E yX7_hasRested cX7_hasRested 4 (some .boolean) 0 0 [.ref (a 0), .int (nI p), .int d] (mdW E a th sm ln pl hs s S b w) (some (.int (bI (s (18 + p) = -1 ∨ (¬ s (18 + p) = d ∧ ¬ s (18 + p) = d - nI 1))))) := by
  refine Rd.mk0 (by decide) (Nat.le_of_ble_eq_true rfl) ?_
  intro pP eE sS mM aA bB mt cC F hr hk hE ls hl
  have hl : lv_has ls 4 [(0, .ref (a 0)), (1, .int (nI p)), (2, .int d)] := hl
  refine V.aload_n F dX7_hasRested_0 rfl (lv_at hl 0 rfl) ?_
  refine V.getf F hE gX7_7 0 rfl rfl dX7_hasRested_1 ?_
  refine V.bipush (v := nI 18) F dX7_hasRested_4 (by decide) ?_
  refine V.iload_n F dX7_hasRested_6 rfl (lv_at hl 1 rfl) ?_
  refine V.iadd F dX7_hasRested_7 (fun z1 e1 => ?_)
  obtain rfl : z1 = nI (18 + p) := e1.trans (nI_add _ _)
  refine V.iadn (i := (18 + p)) F hE 1 rfl (by omega) (by omega) dX7_hasRested_8 (fun z2 e2 => ?_)
  refine V.istore_n (lv' := [(3, .int z2), (0, .ref (a 0)), (1, .int (nI p)), (2, .int d)]) F dX7_hasRested_9 rfl hl (by decide) rfl (fun ls hl => ?_)
  refine V.iload_n F dX7_hasRested_10 rfl (lv_at hl 0 rfl) ?_
  refine V.iconst (v := (-1)) F dX7_hasRested_11 (by decide) ?_
  refine V.icmp_eq (tgt := 27) F dX7_hasRested_12 (by decide) (fun c3 => ?_) (fun c3 => ?_)
  · skip
    refine V.iconst (v := nI 1) F dX7_hasRested_27 (by decide) ?_
    refine V.goto (tgt := 32) F dX7_hasRested_28 (by decide) ?_
    exact V.zretR F hr hk dX7_hasRested_32 (nb_bI _) (by subst e2; first | with_reducible rfl | (simp only [eq_true c3, oi1n, nI_add, pk_mul, bI, and_true, true_and, and_false, false_and, and_self, or_true, true_or, or_false, false_or, or_self, not_true_eq_false, not_false_eq_true, if_true, if_false, ↓reduceIte] <;> rfl) | rfl | (simp [eq_true c3, bI, oi1, nI_succ]; done))
  · skip
    refine V.iload_n F dX7_hasRested_15 rfl (lv_at hl 0 rfl) ?_
    refine V.iload_n F dX7_hasRested_16 rfl (lv_at hl 3 rfl) ?_
    refine V.icmp_eq (tgt := 31) F dX7_hasRested_17 (by decide) (fun c4 => ?_) (fun c4 => ?_)
    · skip
      refine V.iconst (v := nI 0) F dX7_hasRested_31 (by decide) ?_
      exact V.zretR F hr hk dX7_hasRested_32 (nb_bI _) (by subst e2; first | with_reducible rfl | (simp only [c3, eq_true c4, oi1n, nI_add, pk_mul, bI, and_true, true_and, and_false, false_and, and_self, or_true, true_or, or_false, false_or, or_self, not_true_eq_false, not_false_eq_true, if_true, if_false, ↓reduceIte] <;> rfl) | rfl | (simp [c3, eq_true c4, bI, oi1, nI_succ]; done))
    · skip
      refine V.iload_n F dX7_hasRested_20 rfl (lv_at hl 0 rfl) ?_
      refine V.iload_n F dX7_hasRested_21 rfl (lv_at hl 3 rfl) ?_
      refine V.iconst (v := nI 1) F dX7_hasRested_22 (by decide) ?_
      refine V.isub F dX7_hasRested_23 (fun z5 e5 => ?_)
      refine V.icmp_eq (tgt := 31) F dX7_hasRested_24 (by decide) (fun c6 => ?_) (fun c6 => ?_)
      · skip
        refine V.iconst (v := nI 0) F dX7_hasRested_31 (by decide) ?_
        exact V.zretR F hr hk dX7_hasRested_32 (nb_bI _) (by subst e2 e5; first | with_reducible rfl | (simp only [c3, c4, eq_true c6, oi1n, nI_add, pk_mul, bI, and_true, true_and, and_false, false_and, and_self, or_true, true_or, or_false, false_or, or_self, not_true_eq_false, not_false_eq_true, if_true, if_false, ↓reduceIte] <;> rfl) | rfl | (simp [c3, c4, eq_true c6, bI, oi1, nI_succ]; done))
      · skip
        refine V.iconst (v := nI 1) F dX7_hasRested_27 (by decide) ?_
        refine V.goto (tgt := 32) F dX7_hasRested_28 (by decide) ?_
        exact V.zretR F hr hk dX7_hasRested_32 (nb_bI _) (by subst e2 e5; first | with_reducible rfl | (simp only [c3, c4, c6, oi1n, nI_add, pk_mul, bI, and_true, true_and, and_false, false_and, and_self, or_true, true_or, or_false, false_or, or_self, not_true_eq_false, not_false_eq_true, if_true, if_false, ↓reduceIte] <;> rfl) | rfl | (simp [c3, c4, c6, bI, oi1, nI_succ]; done))
set_option maxHeartbeats 4000000 in
set_option maxRecDepth 100000 in
theorem c_X7_costOf (l : Launch) (E : EV) {a : Nat → Nat} {th sm ln pl : Int32} {hs : Int64} {s S b w : Nat → Int32} {x y : Int32} : Rd l E yX7_costOf cX7_costOf 4 (some .int) 0 0 [.ref (a 0), .int x, .int y] (mdW E a th sm ln pl hs s S b w) (some (.int (coM s x y))) := by
  refine Rd.mk0 (by decide) (Nat.le_of_ble_eq_true rfl) ?_
  intro pP eE sS mM aA bB mt cC F hr hk hE ls hl
  have hl : lv_has ls 4 [(0, .ref (a 0)), (1, .int x), (2, .int y)] := hl
  refine V.iload_n F dX7_costOf_0 rfl (lv_at hl 2 rfl) ?_
  refine V.iload_n F dX7_costOf_1 rfl (lv_at hl 1 rfl) ?_
  refine V.imul F dX7_costOf_2 (fun z1 e1 => ?_)
  refine V.iload_n F dX7_costOf_3 rfl (lv_at hl 1 rfl) ?_
  refine V.imul F dX7_costOf_4 (fun z2 e2 => ?_)
  refine V.istore_n (lv' := [(3, .int z2), (0, .ref (a 0)), (1, .int x), (2, .int y)]) F dX7_costOf_5 rfl hl (by decide) rfl (fun ls hl => ?_)
  refine V.iload_n F dX7_costOf_6 rfl (lv_at hl 0 rfl) ?_
  refine V.iload_n F dX7_costOf_7 rfl (lv_at hl 0 rfl) ?_
  refine V.aload_n F dX7_costOf_8 rfl (lv_at hl 1 rfl) ?_
  refine V.getf F hE gX7_7 0 rfl rfl dX7_costOf_9 ?_
  refine V.bipush (v := nI 6) F dX7_costOf_12 (by decide) ?_
  refine V.iadn (i := 6) F hE 1 rfl (by omega) (by omega) dX7_costOf_14 (fun z3 e3 => ?_)
  refine V.imul F dX7_costOf_15 (fun z4 e4 => ?_)
  refine V.bipush (v := nI 10) F dX7_costOf_16 (by decide) ?_
  refine V.idiv F dX7_costOf_18 (by decide) (fun z5 e5 => ?_)
  refine V.iadd F dX7_costOf_19 (fun z6 e6 => ?_)
  exact V.iretR F hr hk dX7_costOf_20 (by subst e1 e2 e3 e4 e5 e6; first | with_reducible rfl | (simp only [coM, oi1n, nI_add, pk_mul, bI, and_true, true_and, and_false, false_and, and_self, or_true, true_or, or_false, false_or, or_self, not_true_eq_false, not_false_eq_true, if_true, if_false, ↓reduceIte] <;> rfl) | rfl | (simp [coM, bI, oi1, nI_succ]; done))
set_option maxHeartbeats 4000000 in
set_option maxRecDepth 100000 in
theorem c_X7_lacks (l : Launch) (E : EV) {a : Nat → Nat} {th sm ln pl : Int32} {hs : Int64} {s S b w : Nat → Int32} {R H C D : Nat} {sn : Nat → Nat} {p d : Int32} {x : Nat} (hM : MI s R H C D sn) (hx0 : x < 10) : Rd l E yX7_lacks cX7_lacks 7 (some .int) 2 50 [.ref (a 0), .int (nI x), .int p, .int d] (mdW E a th sm ln pl hs s S b w) (some (.int (lkM s R x p d))) := by
  refine Rd.mk0 (by decide) (Nat.le_of_ble_eq_true rfl) ?_
  intro pP eE sS mM aA bB mt cC F hr hk hE ls hl
  have hl : lv_has ls 7 [(0, .ref (a 0)), (1, .int (nI x)), (2, .int p), (3, .int d)] := hl
  have hM1 := hM
  obtain ⟨hD0, hD, hkR, hR, hh, hH, hs4, hC, hsn⟩ := hM1
  refine V.aload_n F dX7_lacks_0 rfl (lv_at hl 0 rfl) ?_
  refine V.iload_n F dX7_lacks_1 rfl (lv_at hl 1 rfl) ?_
  refine V.iconst (v := nI 0) F dX7_lacks_2 (by decide) ?_
  refine V.rdV (q0 := 0) F hE (c_X7_ofScene l E (by omega) (by omega)) (kX7_63 F.2.2.2.2 ⟨Nat.le_of_ble_eq_true rfl, Nat.le_of_ble_eq_true rfl⟩) rfl rfl [0, 1, 2, 3, 4] rfl rfl hl.1 (Nat.le_of_ble_eq_true rfl) dX7_lacks_3 rfl ?_
  refine V.topi (fun z1 e1 => ?_)
  refine V.istore (lv' := [(4, .int z1), (0, .ref (a 0)), (1, .int (nI x)), (2, .int p), (3, .int d)]) F dX7_lacks_6 hl (by decide) rfl (fun ls hl => ?_)
  refine V.aload_n F dX7_lacks_8 rfl (lv_at hl 1 rfl) ?_
  refine V.iload_n F dX7_lacks_9 rfl (lv_at hl 2 rfl) ?_
  refine V.iconst (v := nI 1) F dX7_lacks_10 (by decide) ?_
  refine V.rdV (q0 := 0) F hE (c_X7_ofScene l E (by omega) (by omega)) (kX7_63 F.2.2.2.2 ⟨Nat.le_of_ble_eq_true rfl, Nat.le_of_ble_eq_true rfl⟩) rfl rfl [0, 1, 2, 3, 4] rfl rfl hl.1 (Nat.le_of_ble_eq_true rfl) dX7_lacks_11 rfl ?_
  refine V.topi (fun z2 e2 => ?_)
  refine V.istore (lv' := [(5, .int z2), (4, .int z1), (0, .ref (a 0)), (1, .int (nI x)), (2, .int p), (3, .int d)]) F dX7_lacks_14 hl (by decide) rfl (fun ls hl => ?_)
  refine V.iload F dX7_lacks_16 (lv_at hl 1 rfl) ?_
  refine V.iload F dX7_lacks_18 (lv_at hl 0 rfl) ?_
  refine V.rdS F hE (c_X7_needs l E) (kX7_66 F.2.2.2.2 ⟨Nat.le_of_ble_eq_true rfl, Nat.le_of_ble_eq_true rfl⟩) [] rfl rfl hl.1 (Nat.le_of_ble_eq_true rfl) dX7_lacks_20 rfl ?_
  refine V.topi (fun z3 e3 => ?_)
  refine V.aload_n F dX7_lacks_23 rfl (lv_at hl 2 rfl) ?_
  refine V.iload_n F dX7_lacks_24 rfl (lv_at hl 4 rfl) ?_
  refine V.iload F dX7_lacks_25 (lv_at hl 1 rfl) ?_
  refine V.iload F dX7_lacks_27 (lv_at hl 0 rfl) ?_
  refine V.iload_n F dX7_lacks_29 rfl (lv_at hl 5 rfl) ?_
  refine V.rdV (q0 := 0) F hE (c_X7_counting l E (by first | assumption | omega)) (kX7_69 F.2.2.2.2 ⟨Nat.le_of_ble_eq_true rfl, Nat.le_of_ble_eq_true rfl⟩) rfl rfl [0, 1, 2, 3, 4] rfl rfl hl.1 (Nat.le_of_ble_eq_true rfl) dX7_lacks_30 rfl ?_
  refine V.topi (fun z4 e4 => ?_)
  refine V.isub F dX7_lacks_33 (fun z5 e5 => ?_)
  refine V.istore (lv' := [(6, .int z5), (5, .int z2), (4, .int z1), (0, .ref (a 0)), (1, .int (nI x)), (2, .int p), (3, .int d)]) F dX7_lacks_34 hl (by decide) rfl (fun ls hl => ?_)
  refine V.iload F dX7_lacks_36 (lv_at hl 0 rfl) ?_
  refine V.if_le (tgt := 46) F dX7_lacks_38 (by decide) (fun c6 c6' => ?_) (fun c6 c6' => ?_)
  · skip
    rw [← nI_0] at c6 c6'
    refine V.iconst (v := nI 0) F dX7_lacks_46 (by decide) ?_
    exact V.iretR F hr hk dX7_lacks_47 (by subst e1 e2 e3 e4 e5; first | with_reducible rfl | (simp only [lkM, c6, c6', oi1n, nI_add, pk_mul, bI, and_true, true_and, and_false, false_and, and_self, or_true, true_or, or_false, false_or, or_self, not_true_eq_false, not_false_eq_true, if_true, if_false, ↓reduceIte] <;> rfl) | rfl | (simp [lkM, c6, c6', bI, oi1, nI_succ]; done))
  · skip
    rw [← nI_0] at c6 c6'
    refine V.iload F dX7_lacks_41 (lv_at hl 0 rfl) ?_
    refine V.goto (tgt := 47) F dX7_lacks_43 (by decide) ?_
    exact V.iretR F hr hk dX7_lacks_47 (by subst e1 e2 e3 e4 e5; first | with_reducible rfl | (simp only [lkM, c6, c6', oi1n, nI_add, pk_mul, bI, and_true, true_and, and_false, false_and, and_self, or_true, true_or, or_false, false_or, or_self, not_true_eq_false, not_false_eq_true, if_true, if_false, ↓reduceIte] <;> rfl) | rfl | (simp [lkM, c6, c6', bI, oi1, nI_succ]; done))
set_option maxHeartbeats 4000000 in
set_option maxRecDepth 100000 in
theorem c_X7_reason (l : Launch) (E : EV) {a : Nat → Nat} {th sm ln pl : Int32} {hs : Int64} {s S b w : Nat → Int32} {R H C D : Nat} {sn : Nat → Nat} {d : Int32} {x p : Nat} (hM : MI s R H C D sn) (hx0 : x < 10) (hp0 : p < 8) : Rd l E yX7_reason cX7_reason 4 (some .int) 3 76 [.ref (a 0), .int (nI x), .int (nI p), .int d] (mdW E a th sm ln pl hs s S b w) (some (.int (rsM s R H sn x p d))) := by
  refine Rd.mk0 (by decide) (Nat.le_of_ble_eq_true rfl) ?_
  intro pP eE sS mM aA bB mt cC F hr hk hE ls hl
  have hl : lv_has ls 4 [(0, .ref (a 0)), (1, .int (nI x)), (2, .int (nI p)), (3, .int d)] := hl
  have hM1 := hM
  obtain ⟨hD0, hD, hkR, hR, hh, hH, hs4, hC, hsn⟩ := hM1
  refine V.aload_n F dX7_reason_0 rfl (lv_at hl 0 rfl) ?_
  refine V.iload_n F dX7_reason_1 rfl (lv_at hl 1 rfl) ?_
  refine V.iconst (v := nI 3) F dX7_reason_2 (by decide) ?_
  refine V.rdV (q0 := 0) F hE (c_X7_ofScene l E (by omega) (by omega)) (kX7_63 F.2.2.2.2 ⟨Nat.le_of_ble_eq_true rfl, Nat.le_of_ble_eq_true rfl⟩) rfl rfl [0, 1, 2, 3, 4] rfl rfl hl.1 (Nat.le_of_ble_eq_true rfl) dX7_reason_3 rfl ?_
  refine V.topi (fun z1 e1 => ?_)
  refine V.iconst (v := (-1)) F dX7_reason_6 (by decide) ?_
  refine V.icmp_eq (tgt := 12) F dX7_reason_7 (by decide) (fun c2 => ?_) (fun c2 => ?_)
  · skip
    refine V.aload_n F dX7_reason_12 rfl (lv_at hl 0 rfl) ?_
    refine V.iload_n F dX7_reason_13 rfl (lv_at hl 2 rfl) ?_
    refine V.aload_n F dX7_reason_14 rfl (lv_at hl 0 rfl) ?_
    refine V.iload_n F dX7_reason_15 rfl (lv_at hl 1 rfl) ?_
    refine V.iconst (v := nI 2) F dX7_reason_16 (by decide) ?_
    refine V.rdV (q0 := 0) F hE (c_X7_ofScene l E (by omega) (by omega)) (kX7_63 F.2.2.2.2 ⟨Nat.le_of_ble_eq_true rfl, Nat.le_of_ble_eq_true rfl⟩) rfl rfl [0, 1, 2, 3, 4] rfl rfl hl.1 (Nat.le_of_ble_eq_true rfl) dX7_reason_17 rfl ?_
    refine V.topi (fun z3 e3 => ?_)
    obtain rfl : z3 = nI (sn x) := e3.trans (hsn x hx0).1
    refine V.rdV (q0 := 0) F hE (c_X7_distance l E hp0 (hsn x hx0).2) (kX7_73 F.2.2.2.2 ⟨Nat.le_of_ble_eq_true rfl, Nat.le_of_ble_eq_true rfl⟩) rfl rfl [0, 1, 2, 3, 4] rfl rfl hl.1 (Nat.le_of_ble_eq_true rfl) dX7_reason_20 rfl ?_
    refine V.topi (fun z4 e4 => ?_)
    refine V.iconst (v := nI 5) F dX7_reason_23 (by decide) ?_
    refine V.icmp_le (tgt := 29) F dX7_reason_24 (by decide) (fun c5 c5' => ?_) (fun c5 c5' => ?_)
    · skip
      refine V.aload_n F dX7_reason_29 rfl (lv_at hl 0 rfl) ?_
      refine V.iload_n F dX7_reason_30 rfl (lv_at hl 3 rfl) ?_
      refine V.rdV (q0 := 0) F hE (c_X7_insuredStep l E) (kX7_76 F.2.2.2.2 ⟨Nat.le_of_ble_eq_true rfl, Nat.le_of_ble_eq_true rfl⟩) rfl rfl [0, 1, 2, 3, 4] rfl rfl hl.1 (Nat.le_of_ble_eq_true rfl) dX7_reason_31 rfl ?_
      refine V.topi (fun z6 e6 => ?_)
      refine V.aload_n F dX7_reason_34 rfl (lv_at hl 0 rfl) ?_
      refine V.iload_n F dX7_reason_35 rfl (lv_at hl 1 rfl) ?_
      refine V.iconst (v := nI 1) F dX7_reason_36 (by decide) ?_
      refine V.rdV (q0 := 0) F hE (c_X7_ofScene l E (by omega) (by omega)) (kX7_63 F.2.2.2.2 ⟨Nat.le_of_ble_eq_true rfl, Nat.le_of_ble_eq_true rfl⟩) rfl rfl [0, 1, 2, 3, 4] rfl rfl hl.1 (Nat.le_of_ble_eq_true rfl) dX7_reason_37 rfl ?_
      refine V.topi (fun z7 e7 => ?_)
      refine V.icmp_ge (tgt := 45) F dX7_reason_40 (by decide) (fun c8 c8' => ?_) (fun c8 c8' => ?_)
      · skip
        refine V.aload_n F dX7_reason_45 rfl (lv_at hl 0 rfl) ?_
        refine V.iload_n F dX7_reason_46 rfl (lv_at hl 2 rfl) ?_
        refine V.aload_n F dX7_reason_47 rfl (lv_at hl 0 rfl) ?_
        refine V.iload_n F dX7_reason_48 rfl (lv_at hl 1 rfl) ?_
        refine V.iconst (v := nI 0) F dX7_reason_49 (by decide) ?_
        refine V.rdV (q0 := 0) F hE (c_X7_ofScene l E (by omega) (by omega)) (kX7_63 F.2.2.2.2 ⟨Nat.le_of_ble_eq_true rfl, Nat.le_of_ble_eq_true rfl⟩) rfl rfl [0, 1, 2, 3, 4] rfl rfl hl.1 (Nat.le_of_ble_eq_true rfl) dX7_reason_50 rfl ?_
        refine V.topi (fun z9 e9 => ?_)
        refine V.iload_n F dX7_reason_53 rfl (lv_at hl 3 rfl) ?_
        refine V.rdV (q0 := 0) F hE (c_X7_isBarred l E (by first | assumption | omega)) (kX7_47 F.2.2.2.2 ⟨Nat.le_of_ble_eq_true rfl, Nat.le_of_ble_eq_true rfl⟩) rfl rfl [0, 1, 2, 3, 4] rfl rfl hl.1 (Nat.le_of_ble_eq_true rfl) dX7_reason_54 rfl ?_
        refine V.topi (fun z10 e10 => ?_)
        refine V.if_eqB (tgt := 62) F e10 dX7_reason_57 (by decide) (fun c11 => ?_) (fun c11 => ?_)
        · skip
          rw [Decidable.not_not] at c11
          refine V.aload_n F dX7_reason_62 rfl (lv_at hl 0 rfl) ?_
          refine V.iload_n F dX7_reason_63 rfl (lv_at hl 2 rfl) ?_
          refine V.iload_n F dX7_reason_64 rfl (lv_at hl 3 rfl) ?_
          refine V.rdV (q0 := 0) F hE (c_X7_hasRested l E (by first | assumption | omega)) (kX7_79 F.2.2.2.2 ⟨Nat.le_of_ble_eq_true rfl, Nat.le_of_ble_eq_true rfl⟩) rfl rfl [0, 1, 2, 3, 4] rfl rfl hl.1 (Nat.le_of_ble_eq_true rfl) dX7_reason_65 rfl ?_
          refine V.topi (fun z12 e12 => ?_)
          refine V.if_neB (tgt := 73) F e12 dX7_reason_68 (by decide) (fun c13 => ?_) (fun c13 => ?_)
          · skip
            refine V.aload_n F dX7_reason_73 rfl (lv_at hl 0 rfl) ?_
            refine V.iload_n F dX7_reason_74 rfl (lv_at hl 1 rfl) ?_
            refine V.iload_n F dX7_reason_75 rfl (lv_at hl 2 rfl) ?_
            refine V.iload_n F dX7_reason_76 rfl (lv_at hl 3 rfl) ?_
            refine V.rdV (q0 := 0) F hE (c_X7_lacks l E (by first | assumption | omega) (by first | assumption | omega)) (kX7_83 F.2.2.2.2 ⟨Nat.le_of_ble_eq_true rfl, Nat.le_of_ble_eq_true rfl⟩) rfl rfl [0, 1, 2, 3, 4] rfl rfl hl.1 (Nat.le_of_ble_eq_true rfl) dX7_reason_77 rfl ?_
            refine V.topi (fun z14 e14 => ?_)
            refine V.if_le (tgt := 88) F dX7_reason_80 (by decide) (fun c15 c15' => ?_) (fun c15 c15' => ?_)
            · skip
              rw [← nI_0] at c15 c15'
              refine V.iconst (v := nI 0) F dX7_reason_88 (by decide) ?_
              exact V.iretR F hr hk dX7_reason_89 (by subst e1 e4 e6 e7 e9 e10 e12 e14; first | with_reducible rfl | (simp only [rsM, eq_true c2, c5, c5', c8, c8', eq_true c11, eq_true c13, c15, c15', oi1n, nI_add, pk_mul, bI, and_true, true_and, and_false, false_and, and_self, or_true, true_or, or_false, false_or, or_self, not_true_eq_false, not_false_eq_true, if_true, if_false, ↓reduceIte] <;> rfl) | rfl | (simp [rsM, eq_true c2, c5, c5', c8, c8', eq_true c11, eq_true c13, c15, c15', bI, oi1, nI_succ]; done))
            · skip
              rw [← nI_0] at c15 c15'
              refine V.bipush (v := nI 6) F dX7_reason_83 (by decide) ?_
              refine V.goto (tgt := 89) F dX7_reason_85 (by decide) ?_
              exact V.iretR F hr hk dX7_reason_89 (by subst e1 e4 e6 e7 e9 e10 e12 e14; first | with_reducible rfl | (simp only [rsM, eq_true c2, c5, c5', c8, c8', eq_true c11, eq_true c13, c15, c15', oi1n, nI_add, pk_mul, bI, and_true, true_and, and_false, false_and, and_self, or_true, true_or, or_false, false_or, or_self, not_true_eq_false, not_false_eq_true, if_true, if_false, ↓reduceIte] <;> rfl) | rfl | (simp [rsM, eq_true c2, c5, c5', c8, c8', eq_true c11, eq_true c13, c15, c15', bI, oi1, nI_succ]; done))
          · skip
            refine V.iconst (v := nI 5) F dX7_reason_71 (by decide) ?_
            exact V.iretR F hr hk dX7_reason_72 (by subst e1 e4 e6 e7 e9 e10 e12; first | with_reducible rfl | (simp only [rsM, eq_true c2, c5, c5', c8, c8', eq_true c11, c13, oi1n, nI_add, pk_mul, bI, and_true, true_and, and_false, false_and, and_self, or_true, true_or, or_false, false_or, or_self, not_true_eq_false, not_false_eq_true, if_true, if_false, ↓reduceIte] <;> rfl) | rfl | (simp [rsM, eq_true c2, c5, c5', c8, c8', eq_true c11, c13, bI, oi1, nI_succ]; done))
        · skip
          refine V.iconst (v := nI 4) F dX7_reason_60 (by decide) ?_
          exact V.iretR F hr hk dX7_reason_61 (by subst e1 e4 e6 e7 e9 e10; first | with_reducible rfl | (simp only [rsM, eq_true c2, c5, c5', c8, c8', c11, oi1n, nI_add, pk_mul, bI, and_true, true_and, and_false, false_and, and_self, or_true, true_or, or_false, false_or, or_self, not_true_eq_false, not_false_eq_true, if_true, if_false, ↓reduceIte] <;> rfl) | rfl | (simp [rsM, eq_true c2, c5, c5', c8, c8', c11, bI, oi1, nI_succ]; done))
      · skip
        refine V.iconst (v := nI 3) F dX7_reason_43 (by decide) ?_
        exact V.iretR F hr hk dX7_reason_44 (by subst e1 e4 e6 e7; first | with_reducible rfl | (simp only [rsM, eq_true c2, c5, c5', c8, c8', oi1n, nI_add, pk_mul, bI, and_true, true_and, and_false, false_and, and_self, or_true, true_or, or_false, false_or, or_self, not_true_eq_false, not_false_eq_true, if_true, if_false, ↓reduceIte] <;> rfl) | rfl | (simp [rsM, eq_true c2, c5, c5', c8, c8', bI, oi1, nI_succ]; done))
    · skip
      refine V.iconst (v := nI 2) F dX7_reason_27 (by decide) ?_
      exact V.iretR F hr hk dX7_reason_28 (by subst e1 e4; first | with_reducible rfl | (simp only [rsM, eq_true c2, c5, c5', oi1n, nI_add, pk_mul, bI, and_true, true_and, and_false, false_and, and_self, or_true, true_or, or_false, false_or, or_self, not_true_eq_false, not_false_eq_true, if_true, if_false, ↓reduceIte] <;> rfl) | rfl | (simp [rsM, eq_true c2, c5, c5', bI, oi1, nI_succ]; done))
  · skip
    refine V.iconst (v := nI 1) F dX7_reason_10 (by decide) ?_
    exact V.iretR F hr hk dX7_reason_11 (by subst e1; first | with_reducible rfl | (simp only [rsM, c2, oi1n, nI_add, pk_mul, bI, and_true, true_and, and_false, false_and, and_self, or_true, true_or, or_false, false_or, or_self, not_true_eq_false, not_false_eq_true, if_true, if_false, ↓reduceIte] <;> rfl) | rfl | (simp [rsM, c2, bI, oi1, nI_succ]; done))
set_option maxHeartbeats 4000000 in
set_option maxRecDepth 100000 in
theorem c_X7_cleared (l : Launch) (E : EV) {a : Nat → Nat} {th sm ln pl : Int32} {hs : Int64} {s S b w : Nat → Int32} {R H C D : Nat} {sn : Nat → Nat} {x : Nat} (hM : MI s R H C D sn) (hx0 : x < 10) : Rd l E yX7_cleared cX7_cleared 4 (some .int) 4 99 [.ref (a 0), .int (nI x)] (mdW E a th sm ln pl hs s S b w) (some (.int (clM s R H sn x 8))) := by
  refine Rd.mk0 (by decide) (Nat.le_of_ble_eq_true rfl) ?_
  intro pP eE sS mM aA bB mt cC F hr hk hE ls hl
  have hl : lv_has ls 4 [(0, .ref (a 0)), (1, .int (nI x))] := hl
  have hM1 := hM
  obtain ⟨hD0, hD, hkR, hR, hh, hH, hs4, hC, hsn⟩ := hM1
  refine V.iconst (v := nI 0) F dX7_cleared_0 (by decide) ?_
  refine V.istore_n (lv' := [(2, .int (nI 0)), (0, .ref (a 0)), (1, .int (nI x))]) F dX7_cleared_1 rfl hl (by decide) rfl (fun ls hl => ?_)
  refine V.iconst (v := nI 0) F dX7_cleared_2 (by decide) ?_
  refine V.istore_n (lv' := [(3, .int (nI 0)), (2, .int (nI 0)), (0, .ref (a 0)), (1, .int (nI x))]) F dX7_cleared_3 rfl hl (by decide) rfl (fun ls hl => ?_)
  have h2 : nI 0 = nI 0 := (by first | with_reducible rfl | (simp only [clM, oi1n, nI_add, pk_mul, bI, and_true, true_and, and_false, false_and, and_self, or_true, true_or, or_false, false_or, or_self, not_true_eq_false, not_false_eq_true, if_true, if_false, ↓reduceIte] <;> rfl) | rfl | (simp [clM, bI, oi1, nI_succ]; done))
  have h3 : clM s R H sn x 0 = nI 0 := (by first | with_reducible rfl | (simp only [clM, oi1n, nI_add, pk_mul, bI, and_true, true_and, and_false, false_and, and_self, or_true, true_or, or_false, false_or, or_self, not_true_eq_false, not_false_eq_true, if_true, if_false, ↓reduceIte] <;> rfl) | rfl | (simp [clM, bI, oi1, nI_succ]; done))
  refine V.loop (N := 8) (k0 := 0) (I := (fun j1 : Nat => [(3, .int (nI j1)), (2, .int (clM s R H sn x j1)), (0, .ref (a 0)), (1, .int (nI x))])) (J := fun _ => True) (Nat.zero_le _) trivial (lv_sub hl [0, 1, 2, 3] (by rw [h2, h3]; rfl)) ?_
  intro j1 j1_N j1_J ihj1 ls hl
  have hl : lv_has ls 4 [(3, .int (nI j1)), (2, .int (clM s R H sn x j1)), (0, .ref (a 0)), (1, .int (nI x))] := hl
  refine V.iload_n F dX7_cleared_4 rfl (lv_at hl 0 rfl) ?_
  refine V.bipush (v := nI 8) F dX7_cleared_5 (by decide) ?_
  refine V.icmp_ge (tgt := 41) F dX7_cleared_7 (by decide) (fun c4 c4' => ?_) (fun c4 c4' => ?_)
  · skip
    have j1_eq := ((lpL rfl (by omega) j1_N).1 c4).symm
    subst j1_eq
    refine V.iload_n F dX7_cleared_41 rfl (lv_at hl 1 rfl) ?_
    exact V.iretR F hr hk dX7_cleared_42 (by first | with_reducible rfl | (simp only [clM, c4, c4', oi1n, nI_add, pk_mul, bI, and_true, true_and, and_false, false_and, and_self, or_true, true_or, or_false, false_or, or_self, not_true_eq_false, not_false_eq_true, if_true, if_false, ↓reduceIte] <;> rfl) | rfl | (simp [clM, c4, c4', bI, oi1, nI_succ]; done))
  · skip
    have j1_lt := (lpL rfl (by omega) j1_N).2 c4
    refine V.iload_n F dX7_cleared_10 rfl (lv_at hl 1 rfl) ?_
    refine V.aload_n F dX7_cleared_11 rfl (lv_at hl 2 rfl) ?_
    refine V.iload_n F dX7_cleared_12 rfl (lv_at hl 3 rfl) ?_
    refine V.iload_n F dX7_cleared_13 rfl (lv_at hl 0 rfl) ?_
    refine V.aload_n F dX7_cleared_14 rfl (lv_at hl 2 rfl) ?_
    refine V.getf F hE gX7_7 0 rfl rfl dX7_cleared_15 ?_
    refine V.iconst (v := nI 0) F dX7_cleared_18 (by decide) ?_
    refine V.iadn (i := 0) F hE 1 rfl (by omega) (by omega) dX7_cleared_19 (fun z5 e5 => ?_)
    refine V.rdV (q0 := 0) F hE (c_X7_reason l E (by first | assumption | omega) (by first | assumption | omega) (by first | assumption | omega)) (kX7_87 F.2.2.2.2 ⟨Nat.le_of_ble_eq_true rfl, Nat.le_of_ble_eq_true rfl⟩) rfl rfl [0, 1, 2, 3, 4] rfl rfl hl.1 (Nat.le_of_ble_eq_true rfl) dX7_cleared_20 rfl ?_
    refine V.topi (fun z6 e6 => ?_)
    refine V.if_ne (tgt := 32) F dX7_cleared_23 (by decide) (fun c7 => ?_) (fun c7 => ?_)
    · skip
      rw [← nI_0] at c7
      refine V.iconst (v := nI 0) F dX7_cleared_32 (by decide) ?_
      refine V.ior F dX7_cleared_33 (fun z8 e8 => ?_)
      refine V.istore_n (lv' := [(2, .int z8), (3, .int (nI j1)), (0, .ref (a 0)), (1, .int (nI x))]) F dX7_cleared_34 rfl hl (by decide) rfl (fun ls hl => ?_)
      refine V.iinc (j := 1) (lv' := fun z9 => [(3, .int z9), (2, .int z8), (0, .ref (a 0)), (1, .int (nI x))]) F dX7_cleared_35 hl rfl (by decide) (fun _ => rfl) (fun z9 e9 ls hl => ?_)
      refine V.goto (tgt := 4) F dX7_cleared_38 (by decide) ?_
      have h10 : nI (j1 + 1) = z9 := (by subst e5 e6 e8 e9; first | with_reducible rfl | (simp only [clM, c4, c4', c7, oi1n, nI_add, pk_mul, bI, and_true, true_and, and_false, false_and, and_self, or_true, true_or, or_false, false_or, or_self, not_true_eq_false, not_false_eq_true, if_true, if_false, ↓reduceIte] <;> rfl) | rfl | (simp [clM, c4, c4', c7, bI, oi1, nI_succ]; done))
      have h11 : clM s R H sn x (j1 + 1) = z8 := (by subst e5 e6 e8 e9; first | with_reducible rfl | (simp only [clM, c4, c4', c7, oi1n, nI_add, pk_mul, bI, and_true, true_and, and_false, false_and, and_self, or_true, true_or, or_false, false_or, or_self, not_true_eq_false, not_false_eq_true, if_true, if_false, ↓reduceIte] <;> rfl) | rfl | (simp [clM, c4, c4', c7, bI, oi1, nI_succ]; done))
      exact ihj1 j1_lt trivial _ (lv_sub hl [0, 1, 2, 3] (by rw [h10, h11]; rfl))
    · skip
      rw [← nI_0] at c7
      refine V.iconst (v := nI 1) F dX7_cleared_26 (by decide) ?_
      refine V.iload_n F dX7_cleared_27 rfl (lv_at hl 0 rfl) ?_
      refine V.ishl F dX7_cleared_28 (fun z12 e12 => ?_)
      refine V.goto (tgt := 33) F dX7_cleared_29 (by decide) ?_
      refine V.ior F dX7_cleared_33 (fun z13 e13 => ?_)
      refine V.istore_n (lv' := [(2, .int z13), (3, .int (nI j1)), (0, .ref (a 0)), (1, .int (nI x))]) F dX7_cleared_34 rfl hl (by decide) rfl (fun ls hl => ?_)
      refine V.iinc (j := 1) (lv' := fun z14 => [(3, .int z14), (2, .int z13), (0, .ref (a 0)), (1, .int (nI x))]) F dX7_cleared_35 hl rfl (by decide) (fun _ => rfl) (fun z14 e14 ls hl => ?_)
      refine V.goto (tgt := 4) F dX7_cleared_38 (by decide) ?_
      have h15 : nI (j1 + 1) = z14 := (by subst e5 e6 e12 e13 e14; first | with_reducible rfl | (simp only [clM, c4, c4', eq_true c7, oi1n, nI_add, pk_mul, bI, and_true, true_and, and_false, false_and, and_self, or_true, true_or, or_false, false_or, or_self, not_true_eq_false, not_false_eq_true, if_true, if_false, ↓reduceIte] <;> rfl) | rfl | (simp [clM, c4, c4', eq_true c7, bI, oi1, nI_succ]; done))
      have h16 : clM s R H sn x (j1 + 1) = z13 := (by subst e5 e6 e12 e13 e14; first | with_reducible rfl | (simp only [clM, c4, c4', eq_true c7, oi1n, nI_add, pk_mul, bI, and_true, true_and, and_false, false_and, and_self, or_true, true_or, or_false, false_or, or_self, not_true_eq_false, not_false_eq_true, if_true, if_false, ↓reduceIte] <;> rfl) | rfl | (simp [clM, c4, c4', eq_true c7, bI, oi1, nI_succ]; done))
      exact ihj1 j1_lt trivial _ (lv_sub hl [0, 1, 2, 3] (by rw [h15, h16]; rfl))
set_option maxHeartbeats 4000000 in
set_option maxRecDepth 100000 in
theorem c_X7_rankFor (l : Launch) (E : EV) {a : Nat → Nat} {th sm ln pl : Int32} {hs : Int64} {s S b w : Nat → Int32} {R H C D : Nat} {sn : Nat → Nat} {x p : Nat} (hM : MI s R H C D sn) (hx0 : x < 10) (hp0 : p < 8) : Rd l E yX7_rankFor cX7_rankFor 5 (some .int) 3 76 [.ref (a 0), .int (nI x), .int (nI p)] (mdW E a th sm ln pl hs s S b w) (some (.int (rkM s R sn x p))) := by
  refine Rd.mk0 (by decide) (Nat.le_of_ble_eq_true rfl) ?_
  intro pP eE sS mM aA bB mt cC F hr hk hE ls hl
  have hl : lv_has ls 5 [(0, .ref (a 0)), (1, .int (nI x)), (2, .int (nI p))] := hl
  have hM1 := hM
  obtain ⟨hD0, hD, hkR, hR, hh, hH, hs4, hC, hsn⟩ := hM1
  refine V.aload_n F dX7_rankFor_0 rfl (lv_at hl 0 rfl) ?_
  refine V.iload_n F dX7_rankFor_1 rfl (lv_at hl 1 rfl) ?_
  refine V.iconst (v := nI 2) F dX7_rankFor_2 (by decide) ?_
  refine V.rdV (q0 := 0) F hE (c_X7_ofScene l E (by omega) (by omega)) (kX7_63 F.2.2.2.2 ⟨Nat.le_of_ble_eq_true rfl, Nat.le_of_ble_eq_true rfl⟩) rfl rfl [0, 1, 2, 3, 4] rfl rfl hl.1 (Nat.le_of_ble_eq_true rfl) dX7_rankFor_3 rfl ?_
  refine V.topi (fun z1 e1 => ?_)
  obtain rfl : z1 = nI (sn x) := e1.trans (hsn x hx0).1
  refine V.istore_n (lv' := [(3, .int (nI (sn x))), (0, .ref (a 0)), (1, .int (nI x)), (2, .int (nI p))]) F dX7_rankFor_6 rfl hl (by decide) rfl (fun ls hl => ?_)
  refine V.iload_n F dX7_rankFor_7 rfl (lv_at hl 3 rfl) ?_
  refine V.iload_n F dX7_rankFor_8 rfl (lv_at hl 0 rfl) ?_
  refine V.icmp_ne (tgt := 16) F dX7_rankFor_9 (by decide) (fun c2 => ?_) (fun c2 => ?_)
  · skip
    refine V.iconst (v := nI 1) F dX7_rankFor_16 (by decide) ?_
    refine V.aload_n F dX7_rankFor_17 rfl (lv_at hl 1 rfl) ?_
    refine V.iload_n F dX7_rankFor_18 rfl (lv_at hl 3 rfl) ?_
    refine V.iload_n F dX7_rankFor_19 rfl (lv_at hl 0 rfl) ?_
    refine V.rdV (q0 := 0) F hE (c_X7_distance l E hp0 (hsn x hx0).2) (kX7_73 F.2.2.2.2 ⟨Nat.le_of_ble_eq_true rfl, Nat.le_of_ble_eq_true rfl⟩) rfl rfl [0, 1, 2, 3, 4] rfl rfl hl.1 (Nat.le_of_ble_eq_true rfl) dX7_rankFor_20 rfl ?_
    refine V.topi (fun z3 e3 => ?_)
    refine V.iadd F dX7_rankFor_23 (fun z4 e4 => ?_)
    refine V.istore (lv' := [(4, .int z4), (3, .int (nI (sn x))), (0, .ref (a 0)), (1, .int (nI x)), (2, .int (nI p))]) F dX7_rankFor_24 hl (by decide) rfl (fun ls hl => ?_)
    refine V.sipush (v := nI 1000) F dX7_rankFor_26 (by decide) ?_
    refine V.aload_n F dX7_rankFor_29 rfl (lv_at hl 2 rfl) ?_
    refine V.iload_n F dX7_rankFor_30 rfl (lv_at hl 3 rfl) ?_
    refine V.iload_n F dX7_rankFor_31 rfl (lv_at hl 4 rfl) ?_
    refine V.aload_n F dX7_rankFor_32 rfl (lv_at hl 2 rfl) ?_
    refine V.getf F hE gX7_7 0 rfl rfl dX7_rankFor_33 ?_
    refine V.iconst (v := nI 0) F dX7_rankFor_36 (by decide) ?_
    refine V.iadn (i := 0) F hE 1 rfl (by omega) (by omega) dX7_rankFor_37 (fun z5 e5 => ?_)
    refine V.rdV (q0 := 0) F hE (c_X7_lacks l E (by first | assumption | omega) (by first | assumption | omega)) (kX7_83 F.2.2.2.2 ⟨Nat.le_of_ble_eq_true rfl, Nat.le_of_ble_eq_true rfl⟩) rfl rfl [0, 1, 2, 3, 4] rfl rfl hl.1 (Nat.le_of_ble_eq_true rfl) dX7_rankFor_38 rfl ?_
    refine V.topi (fun z6 e6 => ?_)
    refine V.imul F dX7_rankFor_41 (fun z7 e7 => ?_)
    refine V.bipush (v := nI 10) F dX7_rankFor_42 (by decide) ?_
    refine V.iload F dX7_rankFor_44 (lv_at hl 0 rfl) ?_
    refine V.imul F dX7_rankFor_46 (fun z8 e8 => ?_)
    refine V.iadd F dX7_rankFor_47 (fun z9 e9 => ?_)
    refine V.iload_n F dX7_rankFor_48 rfl (lv_at hl 4 rfl) ?_
    refine V.iadd F dX7_rankFor_49 (fun z10 e10 => ?_)
    exact V.iretR F hr hk dX7_rankFor_50 (by subst e3 e4 e5 e6 e7 e8 e9 e10; first | with_reducible rfl | (simp only [rkM, c2, oi1n, nI_add, pk_mul, bI, and_true, true_and, and_false, false_and, and_self, or_true, true_or, or_false, false_or, or_self, not_true_eq_false, not_false_eq_true, if_true, if_false, ↓reduceIte] <;> rfl) | rfl | (simp [rkM, c2, bI, oi1, nI_succ]; done))
  · skip
    refine V.iconst (v := nI 0) F dX7_rankFor_12 (by decide) ?_
    refine V.goto (tgt := 24) F dX7_rankFor_13 (by decide) ?_
    refine V.istore (lv' := [(4, .int (nI 0)), (3, .int (nI (sn x))), (0, .ref (a 0)), (1, .int (nI x)), (2, .int (nI p))]) F dX7_rankFor_24 hl (by decide) rfl (fun ls hl => ?_)
    refine V.sipush (v := nI 1000) F dX7_rankFor_26 (by decide) ?_
    refine V.aload_n F dX7_rankFor_29 rfl (lv_at hl 2 rfl) ?_
    refine V.iload_n F dX7_rankFor_30 rfl (lv_at hl 3 rfl) ?_
    refine V.iload_n F dX7_rankFor_31 rfl (lv_at hl 4 rfl) ?_
    refine V.aload_n F dX7_rankFor_32 rfl (lv_at hl 2 rfl) ?_
    refine V.getf F hE gX7_7 0 rfl rfl dX7_rankFor_33 ?_
    refine V.iconst (v := nI 0) F dX7_rankFor_36 (by decide) ?_
    refine V.iadn (i := 0) F hE 1 rfl (by omega) (by omega) dX7_rankFor_37 (fun z11 e11 => ?_)
    refine V.rdV (q0 := 0) F hE (c_X7_lacks l E (by first | assumption | omega) (by first | assumption | omega)) (kX7_83 F.2.2.2.2 ⟨Nat.le_of_ble_eq_true rfl, Nat.le_of_ble_eq_true rfl⟩) rfl rfl [0, 1, 2, 3, 4] rfl rfl hl.1 (Nat.le_of_ble_eq_true rfl) dX7_rankFor_38 rfl ?_
    refine V.topi (fun z12 e12 => ?_)
    refine V.imul F dX7_rankFor_41 (fun z13 e13 => ?_)
    refine V.bipush (v := nI 10) F dX7_rankFor_42 (by decide) ?_
    refine V.iload F dX7_rankFor_44 (lv_at hl 0 rfl) ?_
    refine V.imul F dX7_rankFor_46 (fun z14 e14 => ?_)
    refine V.iadd F dX7_rankFor_47 (fun z15 e15 => ?_)
    refine V.iload_n F dX7_rankFor_48 rfl (lv_at hl 4 rfl) ?_
    refine V.iadd F dX7_rankFor_49 (fun z16 e16 => ?_)
    exact V.iretR F hr hk dX7_rankFor_50 (by subst e11 e12 e13 e14 e15 e16; first | with_reducible rfl | (simp only [rkM, eq_true c2, oi1n, nI_add, pk_mul, bI, and_true, true_and, and_false, false_and, and_self, or_true, true_or, or_false, false_or, or_self, not_true_eq_false, not_false_eq_true, if_true, if_false, ↓reduceIte] <;> rfl) | rfl | (simp [rkM, eq_true c2, bI, oi1, nI_succ]; done))
set_option maxHeartbeats 4000000 in
set_option maxRecDepth 100000 in
theorem c_X7_shotScenes (l : Launch) (E : EV) {a : Nat → Nat} {th sm ln pl : Int32} {hs : Int64} {s S b w : Nat → Int32} {R H C D : Nat} {sn : Nat → Nat} (hM : MI s R H C D sn)  : Rd l E yX7_shotScenes cX7_shotScenes 3 (some .int) 1 22 [.ref (a 0)] (mdW E a th sm ln pl hs s S b w) (some (.int (shM s C))) := by
  refine Rd.mk0 (by decide) (Nat.le_of_ble_eq_true rfl) ?_
  intro pP eE sS mM aA bB mt cC F hr hk hE ls hl
  have hl : lv_has ls 3 [(0, .ref (a 0))] := hl
  have hM1 := hM
  obtain ⟨hD0, hD, hkR, hR, hh, hH, hs4, hC, hsn⟩ := hM1
  refine V.iconst (v := nI 0) F dX7_shotScenes_0 (by decide) ?_
  refine V.istore_n (lv' := [(1, .int (nI 0)), (0, .ref (a 0))]) F dX7_shotScenes_1 rfl hl (by decide) rfl (fun ls hl => ?_)
  refine V.iconst (v := nI 0) F dX7_shotScenes_2 (by decide) ?_
  refine V.istore_n (lv' := [(2, .int (nI 0)), (1, .int (nI 0)), (0, .ref (a 0))]) F dX7_shotScenes_3 rfl hl (by decide) rfl (fun ls hl => ?_)
  have h2 : nI 0 = nI 0 := (by first | with_reducible rfl | (simp only [shM, oi1n, nI_add, pk_mul, bI, and_true, true_and, and_false, false_and, and_self, or_true, true_or, or_false, false_or, or_self, not_true_eq_false, not_false_eq_true, if_true, if_false, ↓reduceIte] <;> rfl) | rfl | (simp [shM, bI, oi1, nI_succ]; done))
  have h3 : shM s 0 = nI 0 := (by first | with_reducible rfl | (simp only [shM, oi1n, nI_add, pk_mul, bI, and_true, true_and, and_false, false_and, and_self, or_true, true_or, or_false, false_or, or_self, not_true_eq_false, not_false_eq_true, if_true, if_false, ↓reduceIte] <;> rfl) | rfl | (simp [shM, bI, oi1, nI_succ]; done))
  refine V.loop (N := C) (k0 := 0) (I := (fun j1 : Nat => [(2, .int (nI j1)), (1, .int (shM s j1)), (0, .ref (a 0))])) (J := fun _ => True) (Nat.zero_le _) trivial (lv_sub hl [0, 1, 2] (by rw [h2, h3]; rfl)) ?_
  intro j1 j1_N j1_J ihj1 ls hl
  have hl : lv_has ls 3 [(2, .int (nI j1)), (1, .int (shM s j1)), (0, .ref (a 0))] := hl
  refine V.iload_n F dX7_shotScenes_4 rfl (lv_at hl 0 rfl) ?_
  refine V.aload_n F dX7_shotScenes_5 rfl (lv_at hl 2 rfl) ?_
  refine V.getf F hE gX7_7 0 rfl rfl dX7_shotScenes_6 ?_
  refine V.iconst (v := nI 4) F dX7_shotScenes_9 (by decide) ?_
  refine V.iadn (i := 4) F hE 1 rfl (by omega) (by omega) dX7_shotScenes_10 (fun z4 e4 => ?_)
  obtain rfl : z4 = nI C := e4.trans hs4
  refine V.icmp_ge (tgt := 38) F dX7_shotScenes_11 (by decide) (fun c5 c5' => ?_) (fun c5 c5' => ?_)
  · skip
    have j1_eq := ((lpL rfl (by omega) j1_N).1 c5).symm
    subst j1_eq
    refine V.iload_n F dX7_shotScenes_38 rfl (lv_at hl 1 rfl) ?_
    exact V.iretR F hr hk dX7_shotScenes_39 (by first | with_reducible rfl | (simp only [shM, c5, c5', oi1n, nI_add, pk_mul, bI, and_true, true_and, and_false, false_and, and_self, or_true, true_or, or_false, false_or, or_self, not_true_eq_false, not_false_eq_true, if_true, if_false, ↓reduceIte] <;> rfl) | rfl | (simp [shM, c5, c5', bI, oi1, nI_succ]; done))
  · skip
    have j1_lt := (lpL rfl (by omega) j1_N).2 c5
    refine V.iload_n F dX7_shotScenes_14 rfl (lv_at hl 1 rfl) ?_
    refine V.aload_n F dX7_shotScenes_15 rfl (lv_at hl 2 rfl) ?_
    refine V.iload_n F dX7_shotScenes_16 rfl (lv_at hl 0 rfl) ?_
    refine V.iconst (v := nI 3) F dX7_shotScenes_17 (by decide) ?_
    refine V.rdV (q0 := 0) F hE (c_X7_ofScene l E (by omega) (by omega)) (kX7_63 F.2.2.2.2 ⟨Nat.le_of_ble_eq_true rfl, Nat.le_of_ble_eq_true rfl⟩) rfl rfl [0, 1, 2, 3, 4] rfl rfl hl.1 (Nat.le_of_ble_eq_true rfl) dX7_shotScenes_18 rfl ?_
    refine V.topi (fun z6 e6 => ?_)
    refine V.iconst (v := (-1)) F dX7_shotScenes_21 (by decide) ?_
    refine V.icmp_ne (tgt := 29) F dX7_shotScenes_22 (by decide) (fun c7 => ?_) (fun c7 => ?_)
    · skip
      refine V.iconst (v := nI 1) F dX7_shotScenes_29 (by decide) ?_
      refine V.iadd F dX7_shotScenes_30 (fun z8 e8 => ?_)
      refine V.istore_n (lv' := [(1, .int z8), (2, .int (nI j1)), (0, .ref (a 0))]) F dX7_shotScenes_31 rfl hl (by decide) rfl (fun ls hl => ?_)
      refine V.iinc (j := 1) (lv' := fun z9 => [(2, .int z9), (1, .int z8), (0, .ref (a 0))]) F dX7_shotScenes_32 hl rfl (by decide) (fun _ => rfl) (fun z9 e9 ls hl => ?_)
      refine V.goto (tgt := 4) F dX7_shotScenes_35 (by decide) ?_
      have h10 : nI (j1 + 1) = z9 := (by subst e6 e8 e9; first | with_reducible rfl | (simp only [shM, c5, c5', c7, oi1n, nI_add, pk_mul, bI, and_true, true_and, and_false, false_and, and_self, or_true, true_or, or_false, false_or, or_self, not_true_eq_false, not_false_eq_true, if_true, if_false, ↓reduceIte] <;> rfl) | rfl | (simp [shM, c5, c5', c7, bI, oi1, nI_succ]; done))
      have h11 : shM s (j1 + 1) = z8 := (by subst e6 e8 e9; first | with_reducible rfl | (simp only [shM, c5, c5', c7, oi1n, nI_add, pk_mul, bI, and_true, true_and, and_false, false_and, and_self, or_true, true_or, or_false, false_or, or_self, not_true_eq_false, not_false_eq_true, if_true, if_false, ↓reduceIte] <;> rfl) | rfl | (simp [shM, c5, c5', c7, bI, oi1, nI_succ]; done))
      exact ihj1 j1_lt trivial _ (lv_sub hl [0, 1, 2] (by rw [h10, h11]; rfl))
    · skip
      refine V.iconst (v := nI 0) F dX7_shotScenes_25 (by decide) ?_
      refine V.goto (tgt := 30) F dX7_shotScenes_26 (by decide) ?_
      refine V.iadd F dX7_shotScenes_30 (fun z12 e12 => ?_)
      refine V.istore_n (lv' := [(1, .int z12), (2, .int (nI j1)), (0, .ref (a 0))]) F dX7_shotScenes_31 rfl hl (by decide) rfl (fun ls hl => ?_)
      refine V.iinc (j := 1) (lv' := fun z13 => [(2, .int z13), (1, .int z12), (0, .ref (a 0))]) F dX7_shotScenes_32 hl rfl (by decide) (fun _ => rfl) (fun z13 e13 ls hl => ?_)
      refine V.goto (tgt := 4) F dX7_shotScenes_35 (by decide) ?_
      have h14 : nI (j1 + 1) = z13 := (by subst e6 e12 e13; first | with_reducible rfl | (simp only [shM, c5, c5', eq_true c7, oi1n, nI_add, pk_mul, bI, and_true, true_and, and_false, false_and, and_self, or_true, true_or, or_false, false_or, or_self, not_true_eq_false, not_false_eq_true, if_true, if_false, ↓reduceIte] <;> rfl) | rfl | (simp [shM, c5, c5', eq_true c7, bI, oi1, nI_succ]; done))
      have h15 : shM s (j1 + 1) = z12 := (by subst e6 e12 e13; first | with_reducible rfl | (simp only [shM, c5, c5', eq_true c7, oi1n, nI_add, pk_mul, bI, and_true, true_and, and_false, false_and, and_self, or_true, true_or, or_false, false_or, or_self, not_true_eq_false, not_false_eq_true, if_true, if_false, ↓reduceIte] <;> rfl) | rfl | (simp [shM, c5, c5', eq_true c7, bI, oi1, nI_succ]; done))
      exact ihj1 j1_lt trivial _ (lv_sub hl [0, 1, 2] (by rw [h14, h15]; rfl))
set_option maxHeartbeats 4000000 in
set_option maxRecDepth 100000 in
theorem c_X7_openScenes (l : Launch) (E : EV) {a : Nat → Nat} {th sm ln pl : Int32} {hs : Int64} {s S b w : Nat → Int32} {R H C D : Nat} {sn : Nat → Nat} (hM : MI s R H C D sn)  : Rd l E yX7_openScenes cX7_openScenes 3 (some .int) 5 122 [.ref (a 0)] (mdW E a th sm ln pl hs s S b w) (some (.int (opM s R H sn C))) := by
  refine Rd.mk0 (by decide) (Nat.le_of_ble_eq_true rfl) ?_
  intro pP eE sS mM aA bB mt cC F hr hk hE ls hl
  have hl : lv_has ls 3 [(0, .ref (a 0))] := hl
  have hM1 := hM
  obtain ⟨hD0, hD, hkR, hR, hh, hH, hs4, hC, hsn⟩ := hM1
  refine V.iconst (v := nI 0) F dX7_openScenes_0 (by decide) ?_
  refine V.istore_n (lv' := [(1, .int (nI 0)), (0, .ref (a 0))]) F dX7_openScenes_1 rfl hl (by decide) rfl (fun ls hl => ?_)
  refine V.iconst (v := nI 0) F dX7_openScenes_2 (by decide) ?_
  refine V.istore_n (lv' := [(2, .int (nI 0)), (1, .int (nI 0)), (0, .ref (a 0))]) F dX7_openScenes_3 rfl hl (by decide) rfl (fun ls hl => ?_)
  have h2 : nI 0 = nI 0 := (by first | with_reducible rfl | (simp only [opM, oi1n, nI_add, pk_mul, bI, and_true, true_and, and_false, false_and, and_self, or_true, true_or, or_false, false_or, or_self, not_true_eq_false, not_false_eq_true, if_true, if_false, ↓reduceIte] <;> rfl) | rfl | (simp [opM, bI, oi1, nI_succ]; done))
  have h3 : opM s R H sn 0 = nI 0 := (by first | with_reducible rfl | (simp only [opM, oi1n, nI_add, pk_mul, bI, and_true, true_and, and_false, false_and, and_self, or_true, true_or, or_false, false_or, or_self, not_true_eq_false, not_false_eq_true, if_true, if_false, ↓reduceIte] <;> rfl) | rfl | (simp [opM, bI, oi1, nI_succ]; done))
  refine V.loop (N := C) (k0 := 0) (I := (fun j1 : Nat => [(2, .int (nI j1)), (1, .int (opM s R H sn j1)), (0, .ref (a 0))])) (J := fun _ => True) (Nat.zero_le _) trivial (lv_sub hl [0, 1, 2] (by rw [h2, h3]; rfl)) ?_
  intro j1 j1_N j1_J ihj1 ls hl
  have hl : lv_has ls 3 [(2, .int (nI j1)), (1, .int (opM s R H sn j1)), (0, .ref (a 0))] := hl
  refine V.iload_n F dX7_openScenes_4 rfl (lv_at hl 0 rfl) ?_
  refine V.aload_n F dX7_openScenes_5 rfl (lv_at hl 2 rfl) ?_
  refine V.getf F hE gX7_7 0 rfl rfl dX7_openScenes_6 ?_
  refine V.iconst (v := nI 4) F dX7_openScenes_9 (by decide) ?_
  refine V.iadn (i := 4) F hE 1 rfl (by omega) (by omega) dX7_openScenes_10 (fun z4 e4 => ?_)
  obtain rfl : z4 = nI C := e4.trans hs4
  refine V.icmp_ge (tgt := 36) F dX7_openScenes_11 (by decide) (fun c5 c5' => ?_) (fun c5 c5' => ?_)
  · skip
    have j1_eq := ((lpL rfl (by omega) j1_N).1 c5).symm
    subst j1_eq
    refine V.iload_n F dX7_openScenes_36 rfl (lv_at hl 1 rfl) ?_
    exact V.iretR F hr hk dX7_openScenes_37 (by first | with_reducible rfl | (simp only [opM, c5, c5', oi1n, nI_add, pk_mul, bI, and_true, true_and, and_false, false_and, and_self, or_true, true_or, or_false, false_or, or_self, not_true_eq_false, not_false_eq_true, if_true, if_false, ↓reduceIte] <;> rfl) | rfl | (simp [opM, c5, c5', bI, oi1, nI_succ]; done))
  · skip
    have j1_lt := (lpL rfl (by omega) j1_N).2 c5
    refine V.iload_n F dX7_openScenes_14 rfl (lv_at hl 1 rfl) ?_
    refine V.aload_n F dX7_openScenes_15 rfl (lv_at hl 2 rfl) ?_
    refine V.iload_n F dX7_openScenes_16 rfl (lv_at hl 0 rfl) ?_
    refine V.rdV (q0 := 0) F hE (c_X7_cleared l E hM (by omega)) (kX7_159 F.2.2.2.2 ⟨Nat.le_of_ble_eq_true rfl, Nat.le_of_ble_eq_true rfl⟩) rfl rfl [0, 1, 2, 3, 4] rfl rfl hl.1 (Nat.le_of_ble_eq_true rfl) dX7_openScenes_17 rfl ?_
    refine V.topi (fun z6 e6 => ?_)
    refine V.if_ne (tgt := 27) F dX7_openScenes_20 (by decide) (fun c7 => ?_) (fun c7 => ?_)
    · skip
      rw [← nI_0] at c7
      refine V.iconst (v := nI 1) F dX7_openScenes_27 (by decide) ?_
      refine V.iadd F dX7_openScenes_28 (fun z8 e8 => ?_)
      refine V.istore_n (lv' := [(1, .int z8), (2, .int (nI j1)), (0, .ref (a 0))]) F dX7_openScenes_29 rfl hl (by decide) rfl (fun ls hl => ?_)
      refine V.iinc (j := 1) (lv' := fun z9 => [(2, .int z9), (1, .int z8), (0, .ref (a 0))]) F dX7_openScenes_30 hl rfl (by decide) (fun _ => rfl) (fun z9 e9 ls hl => ?_)
      refine V.goto (tgt := 4) F dX7_openScenes_33 (by decide) ?_
      have h10 : nI (j1 + 1) = z9 := (by subst e6 e8 e9; first | with_reducible rfl | (simp only [opM, c5, c5', c7, oi1n, nI_add, pk_mul, bI, and_true, true_and, and_false, false_and, and_self, or_true, true_or, or_false, false_or, or_self, not_true_eq_false, not_false_eq_true, if_true, if_false, ↓reduceIte] <;> rfl) | rfl | (simp [opM, c5, c5', c7, bI, oi1, nI_succ]; done))
      have h11 : opM s R H sn (j1 + 1) = z8 := (by subst e6 e8 e9; first | with_reducible rfl | (simp only [opM, c5, c5', c7, oi1n, nI_add, pk_mul, bI, and_true, true_and, and_false, false_and, and_self, or_true, true_or, or_false, false_or, or_self, not_true_eq_false, not_false_eq_true, if_true, if_false, ↓reduceIte] <;> rfl) | rfl | (simp [opM, c5, c5', c7, bI, oi1, nI_succ]; done))
      exact ihj1 j1_lt trivial _ (lv_sub hl [0, 1, 2] (by rw [h10, h11]; rfl))
    · skip
      rw [← nI_0] at c7
      refine V.iconst (v := nI 0) F dX7_openScenes_23 (by decide) ?_
      refine V.goto (tgt := 28) F dX7_openScenes_24 (by decide) ?_
      refine V.iadd F dX7_openScenes_28 (fun z12 e12 => ?_)
      refine V.istore_n (lv' := [(1, .int z12), (2, .int (nI j1)), (0, .ref (a 0))]) F dX7_openScenes_29 rfl hl (by decide) rfl (fun ls hl => ?_)
      refine V.iinc (j := 1) (lv' := fun z13 => [(2, .int z13), (1, .int z12), (0, .ref (a 0))]) F dX7_openScenes_30 hl rfl (by decide) (fun _ => rfl) (fun z13 e13 ls hl => ?_)
      refine V.goto (tgt := 4) F dX7_openScenes_33 (by decide) ?_
      have h14 : nI (j1 + 1) = z13 := (by subst e6 e12 e13; first | with_reducible rfl | (simp only [opM, c5, c5', eq_true c7, oi1n, nI_add, pk_mul, bI, and_true, true_and, and_false, false_and, and_self, or_true, true_or, or_false, false_or, or_self, not_true_eq_false, not_false_eq_true, if_true, if_false, ↓reduceIte] <;> rfl) | rfl | (simp [opM, c5, c5', eq_true c7, bI, oi1, nI_succ]; done))
      have h15 : opM s R H sn (j1 + 1) = z12 := (by subst e6 e12 e13; first | with_reducible rfl | (simp only [opM, c5, c5', eq_true c7, oi1n, nI_add, pk_mul, bI, and_true, true_and, and_false, false_and, and_self, or_true, true_or, or_false, false_or, or_self, not_true_eq_false, not_false_eq_true, if_true, if_false, ↓reduceIte] <;> rfl) | rfl | (simp [opM, c5, c5', eq_true c7, bI, oi1, nI_succ]; done))
      exact ihj1 j1_lt trivial _ (lv_sub hl [0, 1, 2] (by rw [h14, h15]; rfl))
set_option maxHeartbeats 4000000 in
set_option maxRecDepth 100000 in
theorem c_X7_stoppedBy (l : Launch) (E : EV) {a : Nat → Nat} {th sm ln pl : Int32} {hs : Int64} {s S b w : Nat → Int32} {R H C D : Nat} {sn : Nat → Nat} {p q : Int32} (hM : MI s R H C D sn)  : Rd l E yX7_stoppedBy cX7_stoppedBy 6 (some .int) 5 122 [.ref (a 0), .int p, .int q] (mdW E a th sm ln pl hs s S b w) (some (.int (stM s R H sn p q C))) := by
  refine Rd.mk0 (by decide) (Nat.le_of_ble_eq_true rfl) ?_
  intro pP eE sS mM aA bB mt cC F hr hk hE ls hl
  have hl : lv_has ls 6 [(0, .ref (a 0)), (1, .int p), (2, .int q)] := hl
  have hM1 := hM
  obtain ⟨hD0, hD, hkR, hR, hh, hH, hs4, hC, hsn⟩ := hM1
  refine V.iconst (v := nI 0) F dX7_stoppedBy_0 (by decide) ?_
  refine V.istore_n (lv' := [(3, .int (nI 0)), (0, .ref (a 0)), (1, .int p), (2, .int q)]) F dX7_stoppedBy_1 rfl hl (by decide) rfl (fun ls hl => ?_)
  refine V.iconst (v := nI 0) F dX7_stoppedBy_2 (by decide) ?_
  refine V.istore (lv' := [(4, .int (nI 0)), (3, .int (nI 0)), (0, .ref (a 0)), (1, .int p), (2, .int q)]) F dX7_stoppedBy_3 hl (by decide) rfl (fun ls hl => ?_)
  have h2 : nI 0 = nI 0 := (by first | with_reducible rfl | (simp only [stM, oi1n, nI_add, pk_mul, bI, and_true, true_and, and_false, false_and, and_self, or_true, true_or, or_false, false_or, or_self, not_true_eq_false, not_false_eq_true, if_true, if_false, ↓reduceIte] <;> rfl) | rfl | (simp [stM, bI, oi1, nI_succ]; done))
  have h3 : stM s R H sn p q 0 = nI 0 := (by first | with_reducible rfl | (simp only [stM, oi1n, nI_add, pk_mul, bI, and_true, true_and, and_false, false_and, and_self, or_true, true_or, or_false, false_or, or_self, not_true_eq_false, not_false_eq_true, if_true, if_false, ↓reduceIte] <;> rfl) | rfl | (simp [stM, bI, oi1, nI_succ]; done))
  refine V.loop (N := C) (k0 := 0) (I := (fun j1 : Nat => [(4, .int (nI j1)), (3, .int (stM s R H sn p q j1)), (0, .ref (a 0)), (1, .int p), (2, .int q)])) (J := fun _ => True) (Nat.zero_le _) trivial (lv_sub hl [0, 1, 2, 3, 4] (by rw [h2, h3]; rfl)) ?_
  intro j1 j1_N j1_J ihj1 ls hl
  have hl : lv_has ls 6 [(4, .int (nI j1)), (3, .int (stM s R H sn p q j1)), (0, .ref (a 0)), (1, .int p), (2, .int q)] := hl
  refine V.iload F dX7_stoppedBy_5 (lv_at hl 0 rfl) ?_
  refine V.aload_n F dX7_stoppedBy_7 rfl (lv_at hl 2 rfl) ?_
  refine V.getf F hE gX7_7 0 rfl rfl dX7_stoppedBy_8 ?_
  refine V.iconst (v := nI 4) F dX7_stoppedBy_11 (by decide) ?_
  refine V.iadn (i := 4) F hE 1 rfl (by omega) (by omega) dX7_stoppedBy_12 (fun z4 e4 => ?_)
  obtain rfl : z4 = nI C := e4.trans hs4
  refine V.icmp_ge (tgt := 69) F dX7_stoppedBy_13 (by decide) (fun c5 c5' => ?_) (fun c5 c5' => ?_)
  · skip
    have j1_eq := ((lpL rfl (by omega) j1_N).1 c5).symm
    subst j1_eq
    refine V.iload_n F dX7_stoppedBy_69 rfl (lv_at hl 1 rfl) ?_
    exact V.iretR F hr hk dX7_stoppedBy_70 (by first | with_reducible rfl | (simp only [stM, c5, c5', oi1n, nI_add, pk_mul, bI, and_true, true_and, and_false, false_and, and_self, or_true, true_or, or_false, false_or, or_self, not_true_eq_false, not_false_eq_true, if_true, if_false, ↓reduceIte] <;> rfl) | rfl | (simp [stM, c5, c5', bI, oi1, nI_succ]; done))
  · skip
    have j1_lt := (lpL rfl (by omega) j1_N).2 c5
    refine V.aload_n F dX7_stoppedBy_16 rfl (lv_at hl 2 rfl) ?_
    refine V.iload F dX7_stoppedBy_17 (lv_at hl 0 rfl) ?_
    refine V.iconst (v := nI 0) F dX7_stoppedBy_19 (by decide) ?_
    refine V.rdV (q0 := 0) F hE (c_X7_ofScene l E (by omega) (by omega)) (kX7_63 F.2.2.2.2 ⟨Nat.le_of_ble_eq_true rfl, Nat.le_of_ble_eq_true rfl⟩) rfl rfl [0, 1, 2, 3, 4] rfl rfl hl.1 (Nat.le_of_ble_eq_true rfl) dX7_stoppedBy_20 rfl ?_
    refine V.topi (fun z6 e6 => ?_)
    refine V.rdS F hE (c_X7_barringParts l E) (kX7_44 F.2.2.2.2 ⟨Nat.le_of_ble_eq_true rfl, Nat.le_of_ble_eq_true rfl⟩) [] rfl rfl hl.1 (Nat.le_of_ble_eq_true rfl) dX7_stoppedBy_23 rfl ?_
    refine V.topi (fun z7 e7 => ?_)
    refine V.iload_n F dX7_stoppedBy_26 rfl (lv_at hl 4 rfl) ?_
    refine V.iand F dX7_stoppedBy_27 (fun z8 e8 => ?_)
    refine V.if_eq (tgt := 35) F dX7_stoppedBy_28 (by decide) (fun c9 => ?_) (fun c9 => ?_)
    · skip
      rw [← nI_0] at c9
      refine V.iconst (v := nI 0) F dX7_stoppedBy_35 (by decide) ?_
      refine V.istore (lv' := [(5, .int (nI 0)), (4, .int (nI j1)), (3, .int (stM s R H sn p q j1)), (0, .ref (a 0)), (1, .int p), (2, .int q)]) F dX7_stoppedBy_36 hl (by decide) rfl (fun ls hl => ?_)
      refine V.iload_n F dX7_stoppedBy_38 rfl (lv_at hl 2 rfl) ?_
      refine V.iload F dX7_stoppedBy_39 (lv_at hl 0 rfl) ?_
      refine V.if_eq (tgt := 60) F dX7_stoppedBy_41 (by decide) (fun _ => ?_) (fun h => absurd h (by decide))
      refine V.iconst (v := nI 0) F dX7_stoppedBy_60 (by decide) ?_
      refine V.iadd F dX7_stoppedBy_61 (fun z11 e11 => ?_)
      refine V.istore_n (lv' := [(3, .int z11), (5, .int (nI 0)), (4, .int (nI j1)), (0, .ref (a 0)), (1, .int p), (2, .int q)]) F dX7_stoppedBy_62 rfl hl (by decide) rfl (fun ls hl => ?_)
      refine V.iinc (j := 2) (lv' := fun z12 => [(4, .int z12), (3, .int z11), (5, .int (nI 0)), (0, .ref (a 0)), (1, .int p), (2, .int q)]) F dX7_stoppedBy_63 hl rfl (by decide) (fun _ => rfl) (fun z12 e12 ls hl => ?_)
      refine V.goto (tgt := 5) F dX7_stoppedBy_66 (by decide) ?_
      have h13 : nI (j1 + 1) = z12 := (by subst e6 e7 e8 e11 e12; first | with_reducible rfl | (simp only [stM, c5, c5', eq_true c9, oi1n, nI_add, pk_mul, bI, and_true, true_and, and_false, false_and, and_self, or_true, true_or, or_false, false_or, or_self, not_true_eq_false, not_false_eq_true, if_true, if_false, ↓reduceIte] <;> rfl) | rfl | (simp [stM, c5, c5', eq_true c9, bI, oi1, nI_succ]; done))
      have h14 : stM s R H sn p q (j1 + 1) = z11 := (by subst e6 e7 e8 e11 e12; first | with_reducible rfl | (simp only [stM, c5, c5', eq_true c9, oi1n, nI_add, pk_mul, bI, and_true, true_and, and_false, false_and, and_self, or_true, true_or, or_false, false_or, or_self, not_true_eq_false, not_false_eq_true, if_true, if_false, ↓reduceIte] <;> rfl) | rfl | (simp [stM, c5, c5', eq_true c9, bI, oi1, nI_succ]; done))
      exact ihj1 j1_lt trivial _ (lv_sub hl [0, 1, 3, 4, 5] (by rw [h13, h14]; rfl))
    · skip
      rw [← nI_0] at c9
      refine V.iconst (v := nI 1) F dX7_stoppedBy_31 (by decide) ?_
      refine V.goto (tgt := 36) F dX7_stoppedBy_32 (by decide) ?_
      refine V.istore (lv' := [(5, .int (nI 1)), (4, .int (nI j1)), (3, .int (stM s R H sn p q j1)), (0, .ref (a 0)), (1, .int p), (2, .int q)]) F dX7_stoppedBy_36 hl (by decide) rfl (fun ls hl => ?_)
      refine V.iload_n F dX7_stoppedBy_38 rfl (lv_at hl 2 rfl) ?_
      refine V.iload F dX7_stoppedBy_39 (lv_at hl 0 rfl) ?_
      refine V.if_eq (tgt := 60) F dX7_stoppedBy_41 (by decide) (fun h => absurd h (by decide)) (fun _ => ?_)
      refine V.aload_n F dX7_stoppedBy_44 rfl (lv_at hl 3 rfl) ?_
      refine V.iload F dX7_stoppedBy_45 (lv_at hl 1 rfl) ?_
      refine V.rdV (q0 := 0) F hE (c_X7_cleared l E hM (by omega)) (kX7_159 F.2.2.2.2 ⟨Nat.le_of_ble_eq_true rfl, Nat.le_of_ble_eq_true rfl⟩) rfl rfl [0, 1, 2, 3, 4] rfl rfl hl.1 (Nat.le_of_ble_eq_true rfl) dX7_stoppedBy_47 rfl ?_
      refine V.topi (fun z16 e16 => ?_)
      refine V.iconst (v := nI 1) F dX7_stoppedBy_50 (by decide) ?_
      refine V.iload_n F dX7_stoppedBy_51 rfl (lv_at hl 4 rfl) ?_
      refine V.ishl F dX7_stoppedBy_52 (fun z17 e17 => ?_)
      refine V.icmp_ne (tgt := 60) F dX7_stoppedBy_53 (by decide) (fun c18 => ?_) (fun c18 => ?_)
      · skip
        refine V.iconst (v := nI 0) F dX7_stoppedBy_60 (by decide) ?_
        refine V.iadd F dX7_stoppedBy_61 (fun z19 e19 => ?_)
        refine V.istore_n (lv' := [(3, .int z19), (5, .int (nI 1)), (4, .int (nI j1)), (0, .ref (a 0)), (1, .int p), (2, .int q)]) F dX7_stoppedBy_62 rfl hl (by decide) rfl (fun ls hl => ?_)
        refine V.iinc (j := 2) (lv' := fun z20 => [(4, .int z20), (3, .int z19), (5, .int (nI 1)), (0, .ref (a 0)), (1, .int p), (2, .int q)]) F dX7_stoppedBy_63 hl rfl (by decide) (fun _ => rfl) (fun z20 e20 ls hl => ?_)
        refine V.goto (tgt := 5) F dX7_stoppedBy_66 (by decide) ?_
        have h21 : nI (j1 + 1) = z20 := (by subst e6 e7 e8 e16 e17 e19 e20; first | with_reducible rfl | (simp only [stM, c5, c5', c9, c18, oi1n, nI_add, pk_mul, bI, and_true, true_and, and_false, false_and, and_self, or_true, true_or, or_false, false_or, or_self, not_true_eq_false, not_false_eq_true, if_true, if_false, ↓reduceIte] <;> rfl) | rfl | (simp [stM, c5, c5', c9, c18, bI, oi1, nI_succ]; done))
        have h22 : stM s R H sn p q (j1 + 1) = z19 := (by subst e6 e7 e8 e16 e17 e19 e20; first | with_reducible rfl | (simp only [stM, c5, c5', c9, c18, oi1n, nI_add, pk_mul, bI, and_true, true_and, and_false, false_and, and_self, or_true, true_or, or_false, false_or, or_self, not_true_eq_false, not_false_eq_true, if_true, if_false, ↓reduceIte] <;> rfl) | rfl | (simp [stM, c5, c5', c9, c18, bI, oi1, nI_succ]; done))
        exact ihj1 j1_lt trivial _ (lv_sub hl [0, 1, 3, 4, 5] (by rw [h21, h22]; rfl))
      · skip
        refine V.iconst (v := nI 1) F dX7_stoppedBy_56 (by decide) ?_
        refine V.goto (tgt := 61) F dX7_stoppedBy_57 (by decide) ?_
        refine V.iadd F dX7_stoppedBy_61 (fun z23 e23 => ?_)
        refine V.istore_n (lv' := [(3, .int z23), (5, .int (nI 1)), (4, .int (nI j1)), (0, .ref (a 0)), (1, .int p), (2, .int q)]) F dX7_stoppedBy_62 rfl hl (by decide) rfl (fun ls hl => ?_)
        refine V.iinc (j := 2) (lv' := fun z24 => [(4, .int z24), (3, .int z23), (5, .int (nI 1)), (0, .ref (a 0)), (1, .int p), (2, .int q)]) F dX7_stoppedBy_63 hl rfl (by decide) (fun _ => rfl) (fun z24 e24 ls hl => ?_)
        refine V.goto (tgt := 5) F dX7_stoppedBy_66 (by decide) ?_
        have h25 : nI (j1 + 1) = z24 := (by subst e6 e7 e8 e16 e17 e23 e24; first | with_reducible rfl | (simp only [stM, c5, c5', c9, eq_true c18, oi1n, nI_add, pk_mul, bI, and_true, true_and, and_false, false_and, and_self, or_true, true_or, or_false, false_or, or_self, not_true_eq_false, not_false_eq_true, if_true, if_false, ↓reduceIte] <;> rfl) | rfl | (simp [stM, c5, c5', c9, eq_true c18, bI, oi1, nI_succ]; done))
        have h26 : stM s R H sn p q (j1 + 1) = z23 := (by subst e6 e7 e8 e16 e17 e23 e24; first | with_reducible rfl | (simp only [stM, c5, c5', c9, eq_true c18, oi1n, nI_add, pk_mul, bI, and_true, true_and, and_false, false_and, and_self, or_true, true_or, or_false, false_or, or_self, not_true_eq_false, not_false_eq_true, if_true, if_false, ↓reduceIte] <;> rfl) | rfl | (simp [stM, c5, c5', c9, eq_true c18, bI, oi1, nI_succ]; done))
        exact ihj1 j1_lt trivial _ (lv_sub hl [0, 1, 3, 4, 5] (by rw [h25, h26]; rfl))
set_option maxHeartbeats 4000000 in
set_option maxRecDepth 100000 in
theorem c_X7_tellsPerson (l : Launch) (E : EV) {a : Nat → Nat} {th sm ln pl : Int32} {hs : Int64} {s S b w : Nat → Int32} {R H C D : Nat} {sn : Nat → Nat} {v : Int32} {p : Nat} (hM : MI s R H C D sn) (hp0 : p < 8) : Rd l E yX7_tellsPerson cX7_tellsPerson 3 (some .int) 4 93 [.ref (a 0), .int (nI p), .int v] (mdW E a th sm ln pl hs s S b w) (some (.int (tpM s H p v))) := by
  refine Rd.mk0 (by decide) (Nat.le_of_ble_eq_true rfl) ?_
  intro pP eE sS mM aA bB mt cC F hr hk hE ls hl
  have hl : lv_has ls 3 [(0, .ref (a 0)), (1, .int (nI p)), (2, .int v)] := hl
  have hM1 := hM
  obtain ⟨hD0, hD, hkR, hR, hh, hH, hs4, hC, hsn⟩ := hM1
  refine V.iload_n F dX7_tellsPerson_0 rfl (lv_at hl 2 rfl) ?_
  by_cases c1 : v = nI 0
  · skip
    refine V.tableIn (tgt := 40) F dX7_tellsPerson_1 (by rw [c1]; decide) (by rw [c1]; decide) (by rw [c1]; rfl) (by decide) ?_
    refine V.aload_n F dX7_tellsPerson_40 rfl (lv_at hl 0 rfl) ?_
    refine V.getf F hE gX7_7 0 rfl rfl dX7_tellsPerson_41 ?_
    refine V.bipush (v := nI 10) F dX7_tellsPerson_44 (by decide) ?_
    refine V.iload_n F dX7_tellsPerson_46 rfl (lv_at hl 1 rfl) ?_
    refine V.iadd F dX7_tellsPerson_47 (fun z2 e2 => ?_)
    obtain rfl : z2 = nI (10 + p) := e2.trans (nI_add _ _)
    refine V.iadn (i := (10 + p)) F hE 1 rfl (by omega) (by omega) dX7_tellsPerson_48 (fun z3 e3 => ?_)
    exact V.iretR F hr hk dX7_tellsPerson_49 (by subst e3; first | with_reducible rfl | (simp only [tpM, eq_true c1, oi1n, nI_add, pk_mul, bI, and_true, true_and, and_false, false_and, and_self, or_true, true_or, or_false, false_or, or_self, not_true_eq_false, not_false_eq_true, if_true, if_false, ↓reduceIte] <;> rfl) | rfl | (simp [tpM, eq_true c1, bI, oi1, nI_succ]; done))
  by_cases c4 : v = nI 1
  · skip
    refine V.tableIn (tgt := 50) F dX7_tellsPerson_1 (by rw [c4]; decide) (by rw [c4]; decide) (by rw [c4]; rfl) (by decide) ?_
    refine V.aload_n F dX7_tellsPerson_50 rfl (lv_at hl 0 rfl) ?_
    refine V.iload_n F dX7_tellsPerson_51 rfl (lv_at hl 1 rfl) ?_
    refine V.aload_n F dX7_tellsPerson_52 rfl (lv_at hl 0 rfl) ?_
    refine V.getf F hE gX7_7 0 rfl rfl dX7_tellsPerson_53 ?_
    refine V.iconst (v := nI 0) F dX7_tellsPerson_56 (by decide) ?_
    refine V.iadn (i := 0) F hE 1 rfl (by omega) (by omega) dX7_tellsPerson_57 (fun z5 e5 => ?_)
    refine V.rdV (q0 := 0) F hE (c_X7_hurtParts l E (by first | assumption | omega)) (kX7_41 F.2.2.2.2 ⟨Nat.le_of_ble_eq_true rfl, Nat.le_of_ble_eq_true rfl⟩) rfl rfl [0, 1, 2, 3, 4] rfl rfl hl.1 (Nat.le_of_ble_eq_true rfl) dX7_tellsPerson_58 rfl ?_
    refine V.topi (fun z6 e6 => ?_)
    exact V.iretR F hr hk dX7_tellsPerson_61 (by subst e5 e6; first | with_reducible rfl | (simp only [tpM, c1, eq_true c4, oi1n, nI_add, pk_mul, bI, and_true, true_and, and_false, false_and, and_self, or_true, true_or, or_false, false_or, or_self, not_true_eq_false, not_false_eq_true, if_true, if_false, ↓reduceIte] <;> rfl) | rfl | (simp [tpM, c1, eq_true c4, bI, oi1, nI_succ]; done))
  by_cases c7 : v = nI 2
  · skip
    refine V.tableIn (tgt := 62) F dX7_tellsPerson_1 (by rw [c7]; decide) (by rw [c7]; decide) (by rw [c7]; rfl) (by decide) ?_
    refine V.aload_n F dX7_tellsPerson_62 rfl (lv_at hl 0 rfl) ?_
    refine V.iload_n F dX7_tellsPerson_63 rfl (lv_at hl 1 rfl) ?_
    refine V.rdV (q0 := 0) F hE (c_X7_lastHurtDay l E (by first | assumption | omega)) (kX7_150 F.2.2.2.2 ⟨Nat.le_of_ble_eq_true rfl, Nat.le_of_ble_eq_true rfl⟩) rfl rfl [0, 1, 2, 3, 4] rfl rfl hl.1 (Nat.le_of_ble_eq_true rfl) dX7_tellsPerson_64 rfl ?_
    refine V.topi (fun z8 e8 => ?_)
    exact V.iretR F hr hk dX7_tellsPerson_67 (by subst e8; first | with_reducible rfl | (simp only [tpM, c1, c4, eq_true c7, oi1n, nI_add, pk_mul, bI, and_true, true_and, and_false, false_and, and_self, or_true, true_or, or_false, false_or, or_self, not_true_eq_false, not_false_eq_true, if_true, if_false, ↓reduceIte] <;> rfl) | rfl | (simp [tpM, c1, c4, eq_true c7, bI, oi1, nI_succ]; done))
  by_cases c9 : v = nI 3
  · skip
    refine V.tableIn (tgt := 68) F dX7_tellsPerson_1 (by rw [c9]; decide) (by rw [c9]; decide) (by rw [c9]; rfl) (by decide) ?_
    refine V.aload_n F dX7_tellsPerson_68 rfl (lv_at hl 0 rfl) ?_
    refine V.getf F hE gX7_7 0 rfl rfl dX7_tellsPerson_69 ?_
    refine V.bipush (v := nI 34) F dX7_tellsPerson_72 (by decide) ?_
    refine V.iload_n F dX7_tellsPerson_74 rfl (lv_at hl 1 rfl) ?_
    refine V.iadd F dX7_tellsPerson_75 (fun z10 e10 => ?_)
    obtain rfl : z10 = nI (34 + p) := e10.trans (nI_add _ _)
    refine V.iadn (i := (34 + p)) F hE 1 rfl (by omega) (by omega) dX7_tellsPerson_76 (fun z11 e11 => ?_)
    exact V.iretR F hr hk dX7_tellsPerson_77 (by subst e11; first | with_reducible rfl | (simp only [tpM, c1, c4, c7, eq_true c9, oi1n, nI_add, pk_mul, bI, and_true, true_and, and_false, false_and, and_self, or_true, true_or, or_false, false_or, or_self, not_true_eq_false, not_false_eq_true, if_true, if_false, ↓reduceIte] <;> rfl) | rfl | (simp [tpM, c1, c4, c7, eq_true c9, bI, oi1, nI_succ]; done))
  by_cases c12 : v = nI 4
  · skip
    refine V.tableIn (tgt := 78) F dX7_tellsPerson_1 (by rw [c12]; decide) (by rw [c12]; decide) (by rw [c12]; rfl) (by decide) ?_
    refine V.aload_n F dX7_tellsPerson_78 rfl (lv_at hl 0 rfl) ?_
    refine V.getf F hE gX7_7 0 rfl rfl dX7_tellsPerson_79 ?_
    refine V.bipush (v := nI 18) F dX7_tellsPerson_82 (by decide) ?_
    refine V.iload_n F dX7_tellsPerson_84 rfl (lv_at hl 1 rfl) ?_
    refine V.iadd F dX7_tellsPerson_85 (fun z13 e13 => ?_)
    obtain rfl : z13 = nI (18 + p) := e13.trans (nI_add _ _)
    refine V.iadn (i := (18 + p)) F hE 1 rfl (by omega) (by omega) dX7_tellsPerson_86 (fun z14 e14 => ?_)
    exact V.iretR F hr hk dX7_tellsPerson_87 (by subst e14; first | with_reducible rfl | (simp only [tpM, c1, c4, c7, c9, eq_true c12, oi1n, nI_add, pk_mul, bI, and_true, true_and, and_false, false_and, and_self, or_true, true_or, or_false, false_or, or_self, not_true_eq_false, not_false_eq_true, if_true, if_false, ↓reduceIte] <;> rfl) | rfl | (simp [tpM, c1, c4, c7, c9, eq_true c12, bI, oi1, nI_succ]; done))
  by_cases c15 : v = nI 5
  · skip
    refine V.tableIn (tgt := 88) F dX7_tellsPerson_1 (by rw [c15]; decide) (by rw [c15]; decide) (by rw [c15]; rfl) (by decide) ?_
    refine V.aload_n F dX7_tellsPerson_88 rfl (lv_at hl 0 rfl) ?_
    refine V.getf F hE gX7_7 0 rfl rfl dX7_tellsPerson_89 ?_
    refine V.bipush (v := nI 26) F dX7_tellsPerson_92 (by decide) ?_
    refine V.iload_n F dX7_tellsPerson_94 rfl (lv_at hl 1 rfl) ?_
    refine V.iadd F dX7_tellsPerson_95 (fun z16 e16 => ?_)
    obtain rfl : z16 = nI (26 + p) := e16.trans (nI_add _ _)
    refine V.iadn (i := (26 + p)) F hE 1 rfl (by omega) (by omega) dX7_tellsPerson_96 (fun z17 e17 => ?_)
    exact V.iretR F hr hk dX7_tellsPerson_97 (by subst e17; first | with_reducible rfl | (simp only [tpM, c1, c4, c7, c9, c12, eq_true c15, oi1n, nI_add, pk_mul, bI, and_true, true_and, and_false, false_and, and_self, or_true, true_or, or_false, false_or, or_self, not_true_eq_false, not_false_eq_true, if_true, if_false, ↓reduceIte] <;> rfl) | rfl | (simp [tpM, c1, c4, c7, c9, c12, eq_true c15, bI, oi1, nI_succ]; done))
  refine V.tableOut (tgt := 98) F dX7_tellsPerson_1 (sw_out fun i h1 h2 => by rcases (show i = 0 ∨ i = 1 ∨ i = 2 ∨ i = 3 ∨ i = 4 ∨ i = 5 by omega) with rfl | rfl | rfl | rfl | rfl | rfl <;> assumption) (by decide) ?_
  refine V.aload_n F dX7_tellsPerson_98 rfl (lv_at hl 0 rfl) ?_
  refine V.iload_n F dX7_tellsPerson_99 rfl (lv_at hl 1 rfl) ?_
  refine V.rdV (q0 := 0) F hE (c_X7_barredKinds l E (by first | assumption | omega)) (kX7_153 F.2.2.2.2 ⟨Nat.le_of_ble_eq_true rfl, Nat.le_of_ble_eq_true rfl⟩) rfl rfl [0, 1, 2, 3, 4] rfl rfl hl.1 (Nat.le_of_ble_eq_true rfl) dX7_tellsPerson_100 rfl ?_
  refine V.topi (fun z18 e18 => ?_)
  exact V.iretR F hr hk dX7_tellsPerson_103 (by subst e18; first | with_reducible rfl | (simp only [tpM, c1, c4, c7, c9, c12, c15, oi1n, nI_add, pk_mul, bI, and_true, true_and, and_false, false_and, and_self, or_true, true_or, or_false, false_or, or_self, not_true_eq_false, not_false_eq_true, if_true, if_false, ↓reduceIte] <;> rfl) | rfl | (simp [tpM, c1, c4, c7, c9, c12, c15, bI, oi1, nI_succ]; done))
set_option maxHeartbeats 4000000 in
set_option maxRecDepth 100000 in
theorem c_X7_tellsScene (l : Launch) (E : EV) {a : Nat → Nat} {th sm ln pl : Int32} {hs : Int64} {s S b w : Nat → Int32} {R H C D : Nat} {sn : Nat → Nat} {x w0 : Nat} (hM : MI s R H C D sn) (hx0 : x < 10) (hw0 : w0 < 6) : Rd l E yX7_tellsScene cX7_tellsScene 3 (some .int) 5 122 [.ref (a 0), .int (nI x), .int (nI w0)] (mdW E a th sm ln pl hs s S b w) (some (.int (if w0 < 5 then s (250 + 5 * x + w0) else clM s R H sn x 8))) := by
  refine Rd.mk0 (by decide) (Nat.le_of_ble_eq_true rfl) ?_
  intro pP eE sS mM aA bB mt cC F hr hk hE ls hl
  have hl : lv_has ls 3 [(0, .ref (a 0)), (1, .int (nI x)), (2, .int (nI w0))] := hl
  have hM1 := hM
  obtain ⟨hD0, hD, hkR, hR, hh, hH, hs4, hC, hsn⟩ := hM1
  refine V.iload_n F dX7_tellsScene_0 rfl (lv_at hl 2 rfl) ?_
  refine V.iconst (v := nI 5) F dX7_tellsScene_1 (by decide) ?_
  refine V.icmp_ge (tgt := 14) F dX7_tellsScene_2 (by decide) (fun c1 c1' => ?_) (fun c1 c1' => ?_)
  · skip
    have hw5 : ¬ w0 < 5 := fun q => c1' ((nI_ltI (by omega) (by omega)).mpr q)
    refine V.aload_n F dX7_tellsScene_14 rfl (lv_at hl 0 rfl) ?_
    refine V.iload_n F dX7_tellsScene_15 rfl (lv_at hl 1 rfl) ?_
    refine V.rdV (q0 := 0) F hE (c_X7_cleared l E hM hx0) (kX7_159 F.2.2.2.2 ⟨Nat.le_of_ble_eq_true rfl, Nat.le_of_ble_eq_true rfl⟩) rfl rfl [0, 1, 2, 3, 4] rfl rfl hl.1 (Nat.le_of_ble_eq_true rfl) dX7_tellsScene_16 rfl ?_
    refine V.topi (fun z2 e2 => ?_)
    exact V.iretR F hr hk dX7_tellsScene_19 (by subst e2; first | with_reducible rfl | (simp only [c1, c1', hw5, oi1n, nI_add, pk_mul, bI, and_true, true_and, and_false, false_and, and_self, or_true, true_or, or_false, false_or, or_self, not_true_eq_false, not_false_eq_true, if_true, if_false, ↓reduceIte] <;> rfl) | rfl | (simp [c1, c1', hw5, bI, oi1, nI_succ]; done))
  · skip
    have hw5 : w0 < 5 := (nI_ltI (by omega) (by omega)).mp c1'
    refine V.aload_n F dX7_tellsScene_5 rfl (lv_at hl 0 rfl) ?_
    refine V.iload_n F dX7_tellsScene_6 rfl (lv_at hl 1 rfl) ?_
    refine V.iload_n F dX7_tellsScene_7 rfl (lv_at hl 2 rfl) ?_
    refine V.rdV (q0 := 0) F hE (c_X7_ofScene l E (by omega) (by omega)) (kX7_63 F.2.2.2.2 ⟨Nat.le_of_ble_eq_true rfl, Nat.le_of_ble_eq_true rfl⟩) rfl rfl [0, 1, 2, 3, 4] rfl rfl hl.1 (Nat.le_of_ble_eq_true rfl) dX7_tellsScene_8 rfl ?_
    refine V.topi (fun z3 e3 => ?_)
    refine V.goto (tgt := 19) F dX7_tellsScene_11 (by decide) ?_
    exact V.iretR F hr hk dX7_tellsScene_19 (by subst e3; first | with_reducible rfl | (simp only [c1, c1', eq_true hw5, oi1n, nI_add, pk_mul, bI, and_true, true_and, and_false, false_and, and_self, or_true, true_or, or_false, false_or, or_self, not_true_eq_false, not_false_eq_true, if_true, if_false, ↓reduceIte] <;> rfl) | rfl | (simp [c1, c1', eq_true hw5, bI, oi1, nI_succ]; done))
set_option maxHeartbeats 4000000 in
set_option maxRecDepth 100000 in
theorem c_X7_tellsCount (l : Launch) (E : EV) {a : Nat → Nat} {th sm ln pl : Int32} {hs : Int64} {s S b w : Nat → Int32} {R H C D : Nat} {sn : Nat → Nat} {w0 : Nat} (hM : MI s R H C D sn) (hw0 : w0 < 11) : Rd l E yX7_tellsCount cX7_tellsCount 2 (some .int) 6 144 [.ref (a 0), .int (nI w0)] (mdW E a th sm ln pl hs s S b w) (some (.int (tcM s R H C sn sm w0))) := by
  refine Rd.mk0 (by decide) (Nat.le_of_ble_eq_true rfl) ?_
  intro pP eE sS mM aA bB mt cC F hr hk hE ls hl
  have hl : lv_has ls 2 [(0, .ref (a 0)), (1, .int (nI w0))] := hl
  have hM1 := hM
  obtain ⟨hD0, hD, hkR, hR, hh, hH, hs4, hC, hsn⟩ := hM1
  refine V.iload_n F dX7_tellsCount_0 rfl (lv_at hl 1 rfl) ?_
  by_cases c1 : nI w0 = nI 0
  · skip
    refine V.tableIn (tgt := 56) F dX7_tellsCount_1 (by rw [c1]; decide) (by rw [c1]; decide) (by rw [c1]; rfl) (by decide) ?_
    refine V.aload_n F dX7_tellsCount_56 rfl (lv_at hl 0 rfl) ?_
    refine V.getf F hE gX7_7 0 rfl rfl dX7_tellsCount_57 ?_
    refine V.iload_n F dX7_tellsCount_60 rfl (lv_at hl 1 rfl) ?_
    refine V.iadn (i := w0) F hE 1 rfl (by omega) (by omega) dX7_tellsCount_61 (fun z2 e2 => ?_)
    exact V.iretR F hr hk dX7_tellsCount_62 (by subst e2; first | with_reducible rfl | (simp only [tcM, eq_true c1, oi1n, nI_add, pk_mul, bI, and_true, true_and, and_false, false_and, and_self, or_true, true_or, or_false, false_or, or_self, not_true_eq_false, not_false_eq_true, if_true, if_false, ↓reduceIte] <;> rfl) | rfl | (simp [tcM, eq_true c1, bI, oi1, nI_succ]; done))
  by_cases c3 : nI w0 = nI 1
  · skip
    refine V.tableIn (tgt := 56) F dX7_tellsCount_1 (by rw [c3]; decide) (by rw [c3]; decide) (by rw [c3]; rfl) (by decide) ?_
    refine V.aload_n F dX7_tellsCount_56 rfl (lv_at hl 0 rfl) ?_
    refine V.getf F hE gX7_7 0 rfl rfl dX7_tellsCount_57 ?_
    refine V.iload_n F dX7_tellsCount_60 rfl (lv_at hl 1 rfl) ?_
    refine V.iadn (i := w0) F hE 1 rfl (by omega) (by omega) dX7_tellsCount_61 (fun z4 e4 => ?_)
    exact V.iretR F hr hk dX7_tellsCount_62 (by subst e4; first | with_reducible rfl | (simp only [tcM, c1, eq_true c3, oi1n, nI_add, pk_mul, bI, and_true, true_and, and_false, false_and, and_self, or_true, true_or, or_false, false_or, or_self, not_true_eq_false, not_false_eq_true, if_true, if_false, ↓reduceIte] <;> rfl) | rfl | (simp [tcM, c1, eq_true c3, bI, oi1, nI_succ]; done))
  by_cases c5 : nI w0 = nI 2
  · skip
    refine V.tableIn (tgt := 63) F dX7_tellsCount_1 (by rw [c5]; decide) (by rw [c5]; decide) (by rw [c5]; rfl) (by decide) ?_
    refine V.aload_n F dX7_tellsCount_63 rfl (lv_at hl 0 rfl) ?_
    refine V.aload_n F dX7_tellsCount_64 rfl (lv_at hl 0 rfl) ?_
    refine V.getf F hE gX7_7 0 rfl rfl dX7_tellsCount_65 ?_
    refine V.iconst (v := nI 0) F dX7_tellsCount_68 (by decide) ?_
    refine V.iadn (i := 0) F hE 1 rfl (by omega) (by omega) dX7_tellsCount_69 (fun z6 e6 => ?_)
    refine V.rdV (q0 := 0) F hE (c_X7_insuredStep l E) (kX7_76 F.2.2.2.2 ⟨Nat.le_of_ble_eq_true rfl, Nat.le_of_ble_eq_true rfl⟩) rfl rfl [0, 1, 2, 3, 4] rfl rfl hl.1 (Nat.le_of_ble_eq_true rfl) dX7_tellsCount_70 rfl ?_
    refine V.topi (fun z7 e7 => ?_)
    exact V.iretR F hr hk dX7_tellsCount_73 (by subst e6 e7; first | with_reducible rfl | (simp only [tcM, c1, c3, eq_true c5, oi1n, nI_add, pk_mul, bI, and_true, true_and, and_false, false_and, and_self, or_true, true_or, or_false, false_or, or_self, not_true_eq_false, not_false_eq_true, if_true, if_false, ↓reduceIte] <;> rfl) | rfl | (simp [tcM, c1, c3, eq_true c5, bI, oi1, nI_succ]; done))
  by_cases c8 : nI w0 = nI 3
  · skip
    refine V.tableIn (tgt := 74) F dX7_tellsCount_1 (by rw [c8]; decide) (by rw [c8]; decide) (by rw [c8]; rfl) (by decide) ?_
    refine V.aload_n F dX7_tellsCount_74 rfl (lv_at hl 0 rfl) ?_
    refine V.getf F hE gX7_7 0 rfl rfl dX7_tellsCount_75 ?_
    refine V.iconst (v := nI 0) F dX7_tellsCount_78 (by decide) ?_
    refine V.iadn (i := 0) F hE 1 rfl (by omega) (by omega) dX7_tellsCount_79 (fun z9 e9 => ?_)
    refine V.aload_n F dX7_tellsCount_80 rfl (lv_at hl 0 rfl) ?_
    refine V.getf F hE gX7_7 0 rfl rfl dX7_tellsCount_81 ?_
    refine V.iconst (v := nI 3) F dX7_tellsCount_84 (by decide) ?_
    refine V.iadn (i := 3) F hE 1 rfl (by omega) (by omega) dX7_tellsCount_85 (fun z10 e10 => ?_)
    refine V.icmp_gt (tgt := 98) F dX7_tellsCount_86 (by decide) (fun c11 c11' => ?_) (fun c11 c11' => ?_)
    · skip
      refine V.iconst (v := (-1)) F dX7_tellsCount_98 (by decide) ?_
      exact V.iretR F hr hk dX7_tellsCount_99 (by subst e9 e10; first | with_reducible rfl | (simp only [tcM, c1, c3, c5, eq_true c8, c11, c11', oi1n, nI_add, pk_mul, bI, and_true, true_and, and_false, false_and, and_self, or_true, true_or, or_false, false_or, or_self, not_true_eq_false, not_false_eq_true, if_true, if_false, ↓reduceIte] <;> rfl) | rfl | (simp [tcM, c1, c3, c5, eq_true c8, c11, c11', bI, oi1, nI_succ]; done))
    · skip
      refine V.aload_n F dX7_tellsCount_89 rfl (lv_at hl 0 rfl) ?_
      refine V.getf F hE gX7_7 0 rfl rfl dX7_tellsCount_90 ?_
      refine V.iconst (v := nI 3) F dX7_tellsCount_93 (by decide) ?_
      refine V.iadn (i := 3) F hE 1 rfl (by omega) (by omega) dX7_tellsCount_94 (fun z12 e12 => ?_)
      refine V.goto (tgt := 99) F dX7_tellsCount_95 (by decide) ?_
      exact V.iretR F hr hk dX7_tellsCount_99 (by subst e9 e10 e12; first | with_reducible rfl | (simp only [tcM, c1, c3, c5, eq_true c8, c11, c11', oi1n, nI_add, pk_mul, bI, and_true, true_and, and_false, false_and, and_self, or_true, true_or, or_false, false_or, or_self, not_true_eq_false, not_false_eq_true, if_true, if_false, ↓reduceIte] <;> rfl) | rfl | (simp [tcM, c1, c3, c5, eq_true c8, c11, c11', bI, oi1, nI_succ]; done))
  by_cases c13 : nI w0 = nI 4
  · skip
    refine V.tableIn (tgt := 100) F dX7_tellsCount_1 (by rw [c13]; decide) (by rw [c13]; decide) (by rw [c13]; rfl) (by decide) ?_
    refine V.aload_n F dX7_tellsCount_100 rfl (lv_at hl 0 rfl) ?_
    refine V.getf F hE gX7_7 0 rfl rfl dX7_tellsCount_101 ?_
    refine V.iconst (v := nI 4) F dX7_tellsCount_104 (by decide) ?_
    refine V.iadn (i := 4) F hE 1 rfl (by omega) (by omega) dX7_tellsCount_105 (fun z14 e14 => ?_)
    exact V.iretR F hr hk dX7_tellsCount_106 (by subst e14; first | with_reducible rfl | (simp only [tcM, c1, c3, c5, c8, eq_true c13, oi1n, nI_add, pk_mul, bI, and_true, true_and, and_false, false_and, and_self, or_true, true_or, or_false, false_or, or_self, not_true_eq_false, not_false_eq_true, if_true, if_false, ↓reduceIte] <;> rfl) | rfl | (simp [tcM, c1, c3, c5, c8, eq_true c13, bI, oi1, nI_succ]; done))
  by_cases c15 : nI w0 = nI 5
  · skip
    refine V.tableIn (tgt := 107) F dX7_tellsCount_1 (by rw [c15]; decide) (by rw [c15]; decide) (by rw [c15]; rfl) (by decide) ?_
    refine V.aload_n F dX7_tellsCount_107 rfl (lv_at hl 0 rfl) ?_
    refine V.rdV (q0 := 0) F hE (c_X7_shotScenes l E (by first | assumption | omega)) (kX7_165 F.2.2.2.2 ⟨Nat.le_of_ble_eq_true rfl, Nat.le_of_ble_eq_true rfl⟩) rfl rfl [0, 1, 2, 3, 4] rfl rfl hl.1 (Nat.le_of_ble_eq_true rfl) dX7_tellsCount_108 rfl ?_
    refine V.topi (fun z16 e16 => ?_)
    exact V.iretR F hr hk dX7_tellsCount_111 (by subst e16; first | with_reducible rfl | (simp only [tcM, c1, c3, c5, c8, c13, eq_true c15, oi1n, nI_add, pk_mul, bI, and_true, true_and, and_false, false_and, and_self, or_true, true_or, or_false, false_or, or_self, not_true_eq_false, not_false_eq_true, if_true, if_false, ↓reduceIte] <;> rfl) | rfl | (simp [tcM, c1, c3, c5, c8, c13, eq_true c15, bI, oi1, nI_succ]; done))
  by_cases c17 : nI w0 = nI 6
  · skip
    refine V.tableIn (tgt := 112) F dX7_tellsCount_1 (by rw [c17]; decide) (by rw [c17]; decide) (by rw [c17]; rfl) (by decide) ?_
    refine V.aload_n F dX7_tellsCount_112 rfl (lv_at hl 0 rfl) ?_
    refine V.getf F hE gX7_7 0 rfl rfl dX7_tellsCount_113 ?_
    refine V.iconst (v := nI 5) F dX7_tellsCount_116 (by decide) ?_
    refine V.iadn (i := 5) F hE 1 rfl (by omega) (by omega) dX7_tellsCount_117 (fun z18 e18 => ?_)
    exact V.iretR F hr hk dX7_tellsCount_118 (by subst e18; first | with_reducible rfl | (simp only [tcM, c1, c3, c5, c8, c13, c15, eq_true c17, oi1n, nI_add, pk_mul, bI, and_true, true_and, and_false, false_and, and_self, or_true, true_or, or_false, false_or, or_self, not_true_eq_false, not_false_eq_true, if_true, if_false, ↓reduceIte] <;> rfl) | rfl | (simp [tcM, c1, c3, c5, c8, c13, c15, eq_true c17, bI, oi1, nI_succ]; done))
  by_cases c19 : nI w0 = nI 7
  · skip
    refine V.tableIn (tgt := 119) F dX7_tellsCount_1 (by rw [c19]; decide) (by rw [c19]; decide) (by rw [c19]; rfl) (by decide) ?_
    refine V.aload_n F dX7_tellsCount_119 rfl (lv_at hl 0 rfl) ?_
    refine V.getf F hE gX7_7 0 rfl rfl dX7_tellsCount_120 ?_
    refine V.bipush (v := nI 6) F dX7_tellsCount_123 (by decide) ?_
    refine V.iadn (i := 6) F hE 1 rfl (by omega) (by omega) dX7_tellsCount_125 (fun z20 e20 => ?_)
    exact V.iretR F hr hk dX7_tellsCount_126 (by subst e20; first | with_reducible rfl | (simp only [tcM, c1, c3, c5, c8, c13, c15, c17, eq_true c19, oi1n, nI_add, pk_mul, bI, and_true, true_and, and_false, false_and, and_self, or_true, true_or, or_false, false_or, or_self, not_true_eq_false, not_false_eq_true, if_true, if_false, ↓reduceIte] <;> rfl) | rfl | (simp [tcM, c1, c3, c5, c8, c13, c15, c17, eq_true c19, bI, oi1, nI_succ]; done))
  by_cases c21 : nI w0 = nI 8
  · skip
    refine V.tableIn (tgt := 127) F dX7_tellsCount_1 (by rw [c21]; decide) (by rw [c21]; decide) (by rw [c21]; rfl) (by decide) ?_
    refine V.aload_n F dX7_tellsCount_127 rfl (lv_at hl 0 rfl) ?_
    refine V.getf F hE gX7_7 0 rfl rfl dX7_tellsCount_128 ?_
    refine V.bipush (v := nI 7) F dX7_tellsCount_131 (by decide) ?_
    refine V.iadn (i := 7) F hE 1 rfl (by omega) (by omega) dX7_tellsCount_133 (fun z22 e22 => ?_)
    exact V.iretR F hr hk dX7_tellsCount_134 (by subst e22; first | with_reducible rfl | (simp only [tcM, c1, c3, c5, c8, c13, c15, c17, c19, eq_true c21, oi1n, nI_add, pk_mul, bI, and_true, true_and, and_false, false_and, and_self, or_true, true_or, or_false, false_or, or_self, not_true_eq_false, not_false_eq_true, if_true, if_false, ↓reduceIte] <;> rfl) | rfl | (simp [tcM, c1, c3, c5, c8, c13, c15, c17, c19, eq_true c21, bI, oi1, nI_succ]; done))
  by_cases c23 : nI w0 = nI 9
  · skip
    refine V.tableIn (tgt := 135) F dX7_tellsCount_1 (by rw [c23]; decide) (by rw [c23]; decide) (by rw [c23]; rfl) (by decide) ?_
    refine V.aload_n F dX7_tellsCount_135 rfl (lv_at hl 0 rfl) ?_
    refine V.rdV (q0 := 0) F hE (c_X7_openScenes l E (by first | assumption | omega)) (kX7_168 F.2.2.2.2 ⟨Nat.le_of_ble_eq_true rfl, Nat.le_of_ble_eq_true rfl⟩) rfl rfl [0, 1, 2, 3, 4] rfl rfl hl.1 (Nat.le_of_ble_eq_true rfl) dX7_tellsCount_136 rfl ?_
    refine V.topi (fun z24 e24 => ?_)
    exact V.iretR F hr hk dX7_tellsCount_139 (by subst e24; first | with_reducible rfl | (simp only [tcM, c1, c3, c5, c8, c13, c15, c17, c19, c21, eq_true c23, oi1n, nI_add, pk_mul, bI, and_true, true_and, and_false, false_and, and_self, or_true, true_or, or_false, false_or, or_self, not_true_eq_false, not_false_eq_true, if_true, if_false, ↓reduceIte] <;> rfl) | rfl | (simp [tcM, c1, c3, c5, c8, c13, c15, c17, c19, c21, eq_true c23, bI, oi1, nI_succ]; done))
  refine V.tableOut (tgt := 140) F dX7_tellsCount_1 (sw_out fun i h1 h2 => by rcases (show i = 0 ∨ i = 1 ∨ i = 2 ∨ i = 3 ∨ i = 4 ∨ i = 5 ∨ i = 6 ∨ i = 7 ∨ i = 8 ∨ i = 9 by omega) with rfl | rfl | rfl | rfl | rfl | rfl | rfl | rfl | rfl | rfl <;> assumption) (by decide) ?_
  refine V.aload_n F dX7_tellsCount_140 rfl (lv_at hl 0 rfl) ?_
  refine V.getfi F hE gX7_30 0 rfl rfl dX7_tellsCount_141 (fun z25 e25 => ?_)
  exact V.iretR F hr hk dX7_tellsCount_144 (by subst e25; first | with_reducible rfl | (simp only [tcM, c1, c3, c5, c8, c13, c15, c17, c19, c21, c23, oi1n, nI_add, pk_mul, bI, and_true, true_and, and_false, false_and, and_self, or_true, true_or, or_false, false_or, or_self, not_true_eq_false, not_false_eq_true, if_true, if_false, ↓reduceIte] <;> rfl) | rfl | (simp [tcM, c1, c3, c5, c8, c13, c15, c17, c19, c21, c23, bI, oi1, nI_succ]; done))
