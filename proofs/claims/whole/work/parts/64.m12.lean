set_option maxHeartbeats 4000000 in
set_option maxRecDepth 100000 in
theorem c_X7_firstError (l : Launch) (E : EV) {a : Nat → Nat} {th sm pl : Int32} {hs : Int64} {s S b w : Nat → Int32} {L : Nat} (hL : L ≤ 60) : Wr l E yX7_firstError cX7_firstError 2 (some .int) 5 107 [.ref (a 0)] (mdW E a th sm (nI L) pl hs s S b w) (mdW E a (nI 0) sm (nI L) (nI (fdP b L 61 0)) hs s S b (fdW b L w 61 0)) (some (.int (feR b L))) := by
  refine Wr.mk0 (by decide) (Nat.le_of_ble_eq_true rfl) ?_
  intro pP eE sS mM aA bB mt cC F hr hk hE hN ls hl
  have hl : lv_has ls 2 [(0, .ref (a 0))] := hl
  refine V.aload_n F dX7_firstError_0 rfl (lv_at hl 0 rfl) ?_
  refine V.iconst (v := nI 0) F dX7_firstError_1 (by decide) ?_
  refine V.putf (ws' := mdW E a (nI 0) sm (nI L) pl hs s S b w) F hE hN (by rfl) pX7_22 rfl rfl 0 rfl (by exact Nat.le_of_ble_eq_true rfl) dX7_firstError_2 rfl ?_
  refine V.aload_n F dX7_firstError_5 rfl (lv_at hl 0 rfl) ?_
  refine V.wsV (q0 := 0) (ws' := mdW E a (nI 0) sm (nI L) (nI (fdP b L 61 0)) hs s S b (fdW b L w 61 0)) F hE hN (pm_eq (by rfl)) (c_X7_findError l E hL) (kX7_144 F.2.2.2.2 ⟨Nat.le_of_ble_eq_true rfl, Nat.le_of_ble_eq_true rfl⟩) rfl rfl 0 5 (by rfl) (by rfl) rfl hl.1 (Nat.le_of_ble_eq_true rfl) dX7_firstError_6 rfl ?_
  refine V.topi (fun z1 e1 => ?_)
  refine V.istore_n (lv' := [(1, .int z1), (0, .ref (a 0))]) F dX7_firstError_9 rfl hl (by decide) rfl (fun ls hl => ?_)
  refine V.iload_n F dX7_firstError_10 rfl (lv_at hl 0 rfl) ?_
  refine V.iconst (v := (-1)) F dX7_firstError_11 (by decide) ?_
  refine V.icmp_ne (tgt := 22) F dX7_firstError_12 (by decide) (fun c2 => ?_) (fun c2 => ?_)
  · skip
    refine V.iload_n F dX7_firstError_22 rfl (lv_at hl 0 rfl) ?_
    exact V.iretW F hr hk dX7_firstError_23 (by subst e1; first | with_reducible rfl | (simp only [oi1n, nI_add]; done) | (simp only [feR, c2, oi1n, nI_add, pk_mul, if_true, if_false, ↓reduceIte]; done) | (simp only [feR, c2, oi1n, nI_add, pk_mul, bI, and_true, true_and, and_false, false_and, and_self, not_true_eq_false, not_false_eq_true, if_true, if_false, ↓reduceIte] <;> rfl)) (by subst e1; first | with_reducible rfl | (simp only [oi1n, nI_add]; done) | (simp only [feR, c2, oi1n, nI_add, pk_mul, if_true, if_false, ↓reduceIte]; done) | (simp only [feR, c2, oi1n, nI_add, pk_mul, bI, and_true, true_and, and_false, false_and, and_self, not_true_eq_false, not_false_eq_true, if_true, if_false, ↓reduceIte] <;> rfl))
  · skip
    refine V.aload_n F dX7_firstError_15 rfl (lv_at hl 1 rfl) ?_
    refine V.getfi F hE gX7_121 0 rfl rfl dX7_firstError_16 (fun z3 e3 => ?_)
    subst e3
    refine V.goto (tgt := 23) F dX7_firstError_19 (by decide) ?_
    exact V.iretW F hr hk dX7_firstError_23 (by subst e1; first | with_reducible rfl | (simp only [oi1n, nI_add]; done) | (simp only [feR, eq_true c2, oi1n, nI_add, pk_mul, if_true, if_false, ↓reduceIte]; done) | (simp only [feR, eq_true c2, oi1n, nI_add, pk_mul, bI, and_true, true_and, and_false, false_and, and_self, not_true_eq_false, not_false_eq_true, if_true, if_false, ↓reduceIte] <;> rfl)) (by subst e1; first | with_reducible rfl | (simp only [oi1n, nI_add]; done) | (simp only [feR, eq_true c2, oi1n, nI_add, pk_mul, if_true, if_false, ↓reduceIte]; done) | (simp only [feR, eq_true c2, oi1n, nI_add, pk_mul, bI, and_true, true_and, and_false, false_and, and_self, not_true_eq_false, not_false_eq_true, if_true, if_false, ↓reduceIte] <;> rfl))
set_option maxHeartbeats 4000000 in
set_option maxRecDepth 100000 in
theorem c_X7_doesPart_p1 (l : Launch) (E : EV) {a : Nat → Nat} {th sm ln pl : Int32} {hs : Int64} {s S b w : Nat → Int32} {D d : Nat} (h0 : s 0 = nI D) (hD : D ≤ 999) (hw : w 0 = nI d) (hd : 1 ≤ d ∧ d ≤ 99) (hq : D + d ≤ 999) : Wr l E yX7_doesPart cX7_doesPart 3 (some .boolean) 4 99 [.ref (a 0), .int (nI 43)] (mdW E a th sm ln pl hs s S b w) (mdW E a th sm ln pl hs (tmM (upd s 0 (s 0 + nI d)) 8) S b w) (some (.int (nI 1))) := by
  refine Wr.mk0 (by decide) (Nat.le_of_ble_eq_true rfl) ?_
  intro pP eE sS mM aA bB mt cC F hr hk hE hN ls hl
  have hl : lv_has ls 3 [(0, .ref (a 0)), (1, .int (nI 43))] := hl
  refine V.iload_n F dX7_doesPart_0 rfl (lv_at hl 1 rfl) ?_
  refine V.bipush (v := nI 43) F dX7_doesPart_1 (by decide) ?_
  refine V.icmp_ne (tgt := 54) F dX7_doesPart_3 (by decide) (fun h => absurd h (by decide)) (fun _ => ?_)
  refine V.aload_n F dX7_doesPart_6 rfl (lv_at hl 0 rfl) ?_
  refine V.getf F hE gX7_7 0 rfl rfl dX7_doesPart_7 ?_
  refine V.iconst (v := nI 0) F dX7_doesPart_10 (by decide) ?_
  refine V.iadn (i := 0) F hE 1 rfl (by omega) (by omega) dX7_doesPart_11 (fun z2 e2 => ?_)
  obtain rfl : z2 = nI D := e2.trans h0
  refine V.aload_n F dX7_doesPart_12 rfl (lv_at hl 0 rfl) ?_
  refine V.getf F hE gX7_19 0 rfl rfl dX7_doesPart_13 ?_
  refine V.iconst (v := nI 0) F dX7_doesPart_16 (by decide) ?_
  refine V.iadn (i := 0) F hE 4 rfl (by omega) (by omega) dX7_doesPart_17 (fun z3 e3 => ?_)
  obtain rfl : z3 = nI d := e3.trans hw
  refine V.iadd F dX7_doesPart_18 (fun z4 e4 => ?_)
  obtain rfl : z4 = nI (D + d) := e4.trans (nI_add _ _)
  refine V.sipush (v := nI 999) F dX7_doesPart_19 (by decide) ?_
  refine V.icmp_gt (tgt := 29) F dX7_doesPart_22 (by decide) (fun c5 c5' => ?_) (fun c5 c5' => ?_)
  · skip
    exact absurd ((nI_ltI (by omega) (by omega)).mp c5) (by omega)
  · skip
    refine V.iconst (v := nI 1) F dX7_doesPart_25 (by decide) ?_
    refine V.goto (tgt := 30) F dX7_doesPart_26 (by decide) ?_
    refine V.istore_n (lv' := [(2, .int (nI 1)), (0, .ref (a 0)), (1, .int (nI 43))]) F dX7_doesPart_30 rfl hl (by decide) rfl (fun ls hl => ?_)
    refine V.iload_n F dX7_doesPart_31 rfl (lv_at hl 0 rfl) ?_
    refine V.if_eq (tgt := 52) F dX7_doesPart_32 (by decide) (fun h => absurd h (by decide)) (fun _ => ?_)
    refine V.aload_n F dX7_doesPart_35 rfl (lv_at hl 1 rfl) ?_
    refine V.aload_n F dX7_doesPart_36 rfl (lv_at hl 1 rfl) ?_
    refine V.getf F hE gX7_19 0 rfl rfl dX7_doesPart_37 ?_
    refine V.iconst (v := nI 0) F dX7_doesPart_40 (by decide) ?_
    refine V.iadn (i := 0) F hE 4 rfl (by omega) (by omega) dX7_doesPart_41 (fun z7 e7 => ?_)
    obtain rfl : z7 = nI d := e7.trans hw
    refine V.wsV (q0 := 0) (ws' := mdW E a th sm ln pl hs (tmM (upd s 0 (s 0 + nI d)) 8) S b w) F hE hN (pm_eq (by rfl)) (c_X7_doesPass l E) (kX7_97 F.2.2.2.2 ⟨Nat.le_of_ble_eq_true rfl, Nat.le_of_ble_eq_true rfl⟩) rfl rfl 0 5 (by rfl) (by rfl) rfl hl.1 (Nat.le_of_ble_eq_true rfl) dX7_doesPart_42 rfl ?_
    refine V.topi (fun z8 e8 => ?_)
    refine V.if_le (tgt := 52) F dX7_doesPart_45 (by decide) (fun c9 c9' => ?_) (fun c9 c9' => ?_)
    · skip
      rw [← nI_0] at c9 c9'
      exact absurd (show nI 0 < z8 from by rw [e8, tm_0, h0, nI_add]; exact (nI_ltI (by omega) (by omega)).mpr (by omega)) c9'
    · skip
      rw [← nI_0] at c9 c9'
      refine V.iconst (v := nI 1) F dX7_doesPart_48 (by decide) ?_
      refine V.goto (tgt := 53) F dX7_doesPart_49 (by decide) ?_
      exact V.zretW F hr hk dX7_doesPart_53 (by first | rfl | decide) (by subst e8; first | with_reducible rfl | (simp only [oi1n, nI_add]; done) | (simp only [c5, c5', c9, c9', oi1n, nI_add, pk_mul, if_true, if_false, ↓reduceIte]; done) | (simp only [c5, c5', c9, c9', oi1n, nI_add, pk_mul, bI, and_true, true_and, and_false, false_and, and_self, not_true_eq_false, not_false_eq_true, if_true, if_false, ↓reduceIte] <;> rfl)) (by subst e8; first | with_reducible rfl | (simp only [oi1n, nI_add]; done) | (simp only [c5, c5', c9, c9', oi1n, nI_add, pk_mul, if_true, if_false, ↓reduceIte]; done) | (simp only [c5, c5', c9, c9', oi1n, nI_add, pk_mul, bI, and_true, true_and, and_false, false_and, and_self, not_true_eq_false, not_false_eq_true, if_true, if_false, ↓reduceIte] <;> rfl))
set_option maxHeartbeats 4000000 in
set_option maxRecDepth 100000 in
theorem c_X7_doesPart_p0 (l : Launch) (E : EV) {a : Nat → Nat} {th sm ln pl : Int32} {hs : Int64} {s S b w : Nat → Int32} {D d : Nat} (h0 : s 0 = nI D) (hD : D ≤ 999) (hw : w 0 = nI d) (hd : 1 ≤ d ∧ d ≤ 99) (hq : ¬ D + d ≤ 999) : Wr l E yX7_doesPart cX7_doesPart 3 (some .boolean) 4 99 [.ref (a 0), .int (nI 43)] (mdW E a th sm ln pl hs s S b w) (mdW E a th sm ln pl hs s S b w) (some (.int (nI 0))) := by
  refine Wr.mk0 (by decide) (Nat.le_of_ble_eq_true rfl) ?_
  intro pP eE sS mM aA bB mt cC F hr hk hE hN ls hl
  have hl : lv_has ls 3 [(0, .ref (a 0)), (1, .int (nI 43))] := hl
  refine V.iload_n F dX7_doesPart_0 rfl (lv_at hl 1 rfl) ?_
  refine V.bipush (v := nI 43) F dX7_doesPart_1 (by decide) ?_
  refine V.icmp_ne (tgt := 54) F dX7_doesPart_3 (by decide) (fun h => absurd h (by decide)) (fun _ => ?_)
  refine V.aload_n F dX7_doesPart_6 rfl (lv_at hl 0 rfl) ?_
  refine V.getf F hE gX7_7 0 rfl rfl dX7_doesPart_7 ?_
  refine V.iconst (v := nI 0) F dX7_doesPart_10 (by decide) ?_
  refine V.iadn (i := 0) F hE 1 rfl (by omega) (by omega) dX7_doesPart_11 (fun z2 e2 => ?_)
  obtain rfl : z2 = nI D := e2.trans h0
  refine V.aload_n F dX7_doesPart_12 rfl (lv_at hl 0 rfl) ?_
  refine V.getf F hE gX7_19 0 rfl rfl dX7_doesPart_13 ?_
  refine V.iconst (v := nI 0) F dX7_doesPart_16 (by decide) ?_
  refine V.iadn (i := 0) F hE 4 rfl (by omega) (by omega) dX7_doesPart_17 (fun z3 e3 => ?_)
  obtain rfl : z3 = nI d := e3.trans hw
  refine V.iadd F dX7_doesPart_18 (fun z4 e4 => ?_)
  obtain rfl : z4 = nI (D + d) := e4.trans (nI_add _ _)
  refine V.sipush (v := nI 999) F dX7_doesPart_19 (by decide) ?_
  refine V.icmp_gt (tgt := 29) F dX7_doesPart_22 (by decide) (fun c5 c5' => ?_) (fun c5 c5' => ?_)
  · skip
    refine V.iconst (v := nI 0) F dX7_doesPart_29 (by decide) ?_
    refine V.istore_n (lv' := [(2, .int (nI 0)), (0, .ref (a 0)), (1, .int (nI 43))]) F dX7_doesPart_30 rfl hl (by decide) rfl (fun ls hl => ?_)
    refine V.iload_n F dX7_doesPart_31 rfl (lv_at hl 0 rfl) ?_
    refine V.if_eq (tgt := 52) F dX7_doesPart_32 (by decide) (fun _ => ?_) (fun h => absurd h (by decide))
    refine V.iconst (v := nI 0) F dX7_doesPart_52 (by decide) ?_
    exact V.zretW F hr hk dX7_doesPart_53 (by first | rfl | decide) (by first | with_reducible rfl | (simp only [oi1n, nI_add]; done) | (simp only [c5, c5', oi1n, nI_add, pk_mul, if_true, if_false, ↓reduceIte]; done) | (simp only [c5, c5', oi1n, nI_add, pk_mul, bI, and_true, true_and, and_false, false_and, and_self, not_true_eq_false, not_false_eq_true, if_true, if_false, ↓reduceIte] <;> rfl)) (by first | with_reducible rfl | (simp only [oi1n, nI_add]; done) | (simp only [c5, c5', oi1n, nI_add, pk_mul, if_true, if_false, ↓reduceIte]; done) | (simp only [c5, c5', oi1n, nI_add, pk_mul, bI, and_true, true_and, and_false, false_and, and_self, not_true_eq_false, not_false_eq_true, if_true, if_false, ↓reduceIte] <;> rfl))
  · skip
    exact absurd ((nI_leI (by omega) (by omega)).mp c5') (by omega)
set_option maxHeartbeats 4000000 in
set_option maxRecDepth 100000 in
theorem c_X7_doesPart_s1 (l : Launch) (E : EV) {a : Nat → Nat} {th sm ln pl : Int32} {hs : Int64} {s S b w : Nat → Int32} {R H C D : Nat} {sn : Nat → Nat} {x p : Nat} (hM : MI s R H C D sn) (hx : w 0 = nI x) (hx0 : x < 10) (hp : w 1 = nI p) (hp0 : p < 8) (h1 : nI 0 ≤ nI x ∧ nI x ≤ s 4 - nI 1) (h2 : rsM s R H sn x p (s 0) = nI 0) : Wr l E yX7_doesPart cX7_doesPart 3 (some .boolean) 4 99 [.ref (a 0), .int (nI 33)] (mdW E a th sm ln pl hs s S b w) (mdW E a th sm ln pl hs (doS s sn x p) S b w) (some (.int (nI 1))) := by
  refine Wr.mk0 (by decide) (Nat.le_of_ble_eq_true rfl) ?_
  intro pP eE sS mM aA bB mt cC F hr hk hE hN ls hl
  have hl : lv_has ls 3 [(0, .ref (a 0)), (1, .int (nI 33))] := hl
  have hM1 := hM
  obtain ⟨hD0, hD, hkR, hR, hh, hH, hs4, hC, hsn⟩ := hM1
  refine V.iload_n F dX7_doesPart_0 rfl (lv_at hl 1 rfl) ?_
  refine V.bipush (v := nI 43) F dX7_doesPart_1 (by decide) ?_
  refine V.icmp_ne (tgt := 54) F dX7_doesPart_3 (by decide) (fun _ => ?_) (fun h => absurd h (by decide))
  refine V.iload_n F dX7_doesPart_54 rfl (lv_at hl 1 rfl) ?_
  refine V.bipush (v := nI 33) F dX7_doesPart_55 (by decide) ?_
  refine V.icmp_ne (tgt := 133) F dX7_doesPart_57 (by decide) (fun h => absurd h (by decide)) (fun _ => ?_)
  refine V.aload_n F dX7_doesPart_60 rfl (lv_at hl 0 rfl) ?_
  refine V.aload_n F dX7_doesPart_61 rfl (lv_at hl 0 rfl) ?_
  refine V.getf F hE gX7_19 0 rfl rfl dX7_doesPart_62 ?_
  refine V.iconst (v := nI 0) F dX7_doesPart_65 (by decide) ?_
  refine V.iadn (i := 0) F hE 4 rfl (by omega) (by omega) dX7_doesPart_66 (fun z3 e3 => ?_)
  obtain rfl : z3 = nI x := e3.trans hx
  refine V.rdV (q0 := 0) F hE (c_X7_isScene l E) (kX7_115 F.2.2.2.2 ⟨Nat.le_of_ble_eq_true rfl, Nat.le_of_ble_eq_true rfl⟩) rfl rfl [0, 1, 2, 3, 4] rfl rfl hl.1 (Nat.le_of_ble_eq_true rfl) dX7_doesPart_67 rfl ?_
  refine V.topi (fun z4 e4 => ?_)
  refine V.if_eqB (tgt := 102) F e4 dX7_doesPart_70 (by decide) (fun c5 => ?_) (fun c5 => ?_)
  · skip
    exact absurd h1 c5
  · skip
    refine V.aload_n F dX7_doesPart_73 rfl (lv_at hl 0 rfl) ?_
    refine V.aload_n F dX7_doesPart_74 rfl (lv_at hl 0 rfl) ?_
    refine V.getf F hE gX7_19 0 rfl rfl dX7_doesPart_75 ?_
    refine V.iconst (v := nI 0) F dX7_doesPart_78 (by decide) ?_
    refine V.iadn (i := 0) F hE 4 rfl (by omega) (by omega) dX7_doesPart_79 (fun z6 e6 => ?_)
    obtain rfl : z6 = nI x := e6.trans hx
    refine V.aload_n F dX7_doesPart_80 rfl (lv_at hl 0 rfl) ?_
    refine V.getf F hE gX7_19 0 rfl rfl dX7_doesPart_81 ?_
    refine V.iconst (v := nI 1) F dX7_doesPart_84 (by decide) ?_
    refine V.iadn (i := 1) F hE 4 rfl (by omega) (by omega) dX7_doesPart_85 (fun z7 e7 => ?_)
    obtain rfl : z7 = nI p := e7.trans hp
    refine V.aload_n F dX7_doesPart_86 rfl (lv_at hl 0 rfl) ?_
    refine V.getf F hE gX7_7 0 rfl rfl dX7_doesPart_87 ?_
    refine V.iconst (v := nI 0) F dX7_doesPart_90 (by decide) ?_
    refine V.iadn (i := 0) F hE 1 rfl (by omega) (by omega) dX7_doesPart_91 (fun z8 e8 => ?_)
    refine V.rdV (q0 := 0) F hE (c_X7_reason l E hM hx0 hp0) (kX7_87 F.2.2.2.2 ⟨Nat.le_of_ble_eq_true rfl, Nat.le_of_ble_eq_true rfl⟩) rfl rfl [0, 1, 2, 3, 4] rfl rfl hl.1 (Nat.le_of_ble_eq_true rfl) dX7_doesPart_92 rfl ?_
    refine V.topi (fun z9 e9 => ?_)
    refine V.if_ne (tgt := 102) F dX7_doesPart_95 (by decide) (fun c10 => ?_) (fun c10 => ?_)
    · skip
      rw [← nI_0] at c10
      subst e4 e8 e9; exact absurd h2 c10
    · skip
      rw [← nI_0] at c10
      refine V.iconst (v := nI 1) F dX7_doesPart_98 (by decide) ?_
      refine V.goto (tgt := 103) F dX7_doesPart_99 (by decide) ?_
      refine V.istore_n (lv' := [(2, .int (nI 1)), (0, .ref (a 0)), (1, .int (nI 33))]) F dX7_doesPart_103 rfl hl (by decide) rfl (fun ls hl => ?_)
      refine V.iload_n F dX7_doesPart_104 rfl (lv_at hl 0 rfl) ?_
      refine V.if_eq (tgt := 131) F dX7_doesPart_105 (by decide) (fun h => absurd h (by decide)) (fun _ => ?_)
      refine V.aload_n F dX7_doesPart_108 rfl (lv_at hl 1 rfl) ?_
      refine V.aload_n F dX7_doesPart_109 rfl (lv_at hl 1 rfl) ?_
      refine V.getf F hE gX7_19 0 rfl rfl dX7_doesPart_110 ?_
      refine V.iconst (v := nI 0) F dX7_doesPart_113 (by decide) ?_
      refine V.iadn (i := 0) F hE 4 rfl (by omega) (by omega) dX7_doesPart_114 (fun z12 e12 => ?_)
      obtain rfl : z12 = nI x := e12.trans hx
      refine V.aload_n F dX7_doesPart_115 rfl (lv_at hl 1 rfl) ?_
      refine V.getf F hE gX7_19 0 rfl rfl dX7_doesPart_116 ?_
      refine V.iconst (v := nI 1) F dX7_doesPart_119 (by decide) ?_
      refine V.iadn (i := 1) F hE 4 rfl (by omega) (by omega) dX7_doesPart_120 (fun z13 e13 => ?_)
      obtain rfl : z13 = nI p := e13.trans hp
      refine V.wsV (q0 := 0) (ws' := mdW E a th sm ln pl hs (doS s sn x p) S b w) F hE hN (pm_eq (by rfl)) (c_X7_doesShoot l E hM hx0 hp0) (kX7_118 F.2.2.2.2 ⟨Nat.le_of_ble_eq_true rfl, Nat.le_of_ble_eq_true rfl⟩) rfl rfl 0 5 (by rfl) (by rfl) rfl hl.1 (Nat.le_of_ble_eq_true rfl) dX7_doesPart_121 rfl ?_
      refine V.topi (fun z14 e14 => ?_)
      refine V.if_lt (tgt := 131) F dX7_doesPart_124 (by decide) (fun c15 c15' => ?_) (fun c15 c15' => ?_)
      · skip
        rw [← nI_0] at c15 c15'
        exact absurd (show z14 < nI 0 from c15) (by rw [e14]; exact db_ge)
      · skip
        rw [← nI_0] at c15 c15'
        refine V.iconst (v := nI 1) F dX7_doesPart_127 (by decide) ?_
        refine V.goto (tgt := 132) F dX7_doesPart_128 (by decide) ?_
        exact V.zretW F hr hk dX7_doesPart_132 (by first | rfl | decide) (by subst e4 e8 e9 e14; first | with_reducible rfl | (simp only [oi1n, nI_add]; done) | (simp only [eq_true c5, eq_true c10, c15, c15', oi1n, nI_add, pk_mul, if_true, if_false, ↓reduceIte]; done) | (simp only [eq_true c5, eq_true c10, c15, c15', oi1n, nI_add, pk_mul, bI, and_true, true_and, and_false, false_and, and_self, not_true_eq_false, not_false_eq_true, if_true, if_false, ↓reduceIte] <;> rfl)) (by subst e4 e8 e9 e14; first | with_reducible rfl | (simp only [oi1n, nI_add]; done) | (simp only [eq_true c5, eq_true c10, c15, c15', oi1n, nI_add, pk_mul, if_true, if_false, ↓reduceIte]; done) | (simp only [eq_true c5, eq_true c10, c15, c15', oi1n, nI_add, pk_mul, bI, and_true, true_and, and_false, false_and, and_self, not_true_eq_false, not_false_eq_true, if_true, if_false, ↓reduceIte] <;> rfl))
set_option maxHeartbeats 4000000 in
set_option maxRecDepth 100000 in
theorem c_X7_doesPart_s0 (l : Launch) (E : EV) {a : Nat → Nat} {th sm ln pl : Int32} {hs : Int64} {s S b w : Nat → Int32} {R H C D : Nat} {sn : Nat → Nat} {x p : Nat} (hM : MI s R H C D sn) (hx : w 0 = nI x) (hx0 : x < 10) (hp : w 1 = nI p) (hp0 : p < 8) (h : ¬ ((nI 0 ≤ nI x ∧ nI x ≤ s 4 - nI 1) ∧ rsM s R H sn x p (s 0) = nI 0)) : Wr l E yX7_doesPart cX7_doesPart 3 (some .boolean) 4 99 [.ref (a 0), .int (nI 33)] (mdW E a th sm ln pl hs s S b w) (mdW E a th sm ln pl hs s S b w) (some (.int (nI 0))) := by
  refine Wr.mk0 (by decide) (Nat.le_of_ble_eq_true rfl) ?_
  intro pP eE sS mM aA bB mt cC F hr hk hE hN ls hl
  have hl : lv_has ls 3 [(0, .ref (a 0)), (1, .int (nI 33))] := hl
  have hM1 := hM
  obtain ⟨hD0, hD, hkR, hR, hh, hH, hs4, hC, hsn⟩ := hM1
  refine V.iload_n F dX7_doesPart_0 rfl (lv_at hl 1 rfl) ?_
  refine V.bipush (v := nI 43) F dX7_doesPart_1 (by decide) ?_
  refine V.icmp_ne (tgt := 54) F dX7_doesPart_3 (by decide) (fun _ => ?_) (fun h => absurd h (by decide))
  refine V.iload_n F dX7_doesPart_54 rfl (lv_at hl 1 rfl) ?_
  refine V.bipush (v := nI 33) F dX7_doesPart_55 (by decide) ?_
  refine V.icmp_ne (tgt := 133) F dX7_doesPart_57 (by decide) (fun h => absurd h (by decide)) (fun _ => ?_)
  refine V.aload_n F dX7_doesPart_60 rfl (lv_at hl 0 rfl) ?_
  refine V.aload_n F dX7_doesPart_61 rfl (lv_at hl 0 rfl) ?_
  refine V.getf F hE gX7_19 0 rfl rfl dX7_doesPart_62 ?_
  refine V.iconst (v := nI 0) F dX7_doesPart_65 (by decide) ?_
  refine V.iadn (i := 0) F hE 4 rfl (by omega) (by omega) dX7_doesPart_66 (fun z3 e3 => ?_)
  obtain rfl : z3 = nI x := e3.trans hx
  refine V.rdV (q0 := 0) F hE (c_X7_isScene l E) (kX7_115 F.2.2.2.2 ⟨Nat.le_of_ble_eq_true rfl, Nat.le_of_ble_eq_true rfl⟩) rfl rfl [0, 1, 2, 3, 4] rfl rfl hl.1 (Nat.le_of_ble_eq_true rfl) dX7_doesPart_67 rfl ?_
  refine V.topi (fun z4 e4 => ?_)
  refine V.if_eqB (tgt := 102) F e4 dX7_doesPart_70 (by decide) (fun c5 => ?_) (fun c5 => ?_)
  · skip
    refine V.iconst (v := nI 0) F dX7_doesPart_102 (by decide) ?_
    refine V.istore_n (lv' := [(2, .int (nI 0)), (0, .ref (a 0)), (1, .int (nI 33))]) F dX7_doesPart_103 rfl hl (by decide) rfl (fun ls hl => ?_)
    refine V.iload_n F dX7_doesPart_104 rfl (lv_at hl 0 rfl) ?_
    refine V.if_eq (tgt := 131) F dX7_doesPart_105 (by decide) (fun _ => ?_) (fun h => absurd h (by decide))
    refine V.iconst (v := nI 0) F dX7_doesPart_131 (by decide) ?_
    exact V.zretW F hr hk dX7_doesPart_132 (by first | rfl | decide) (by subst e4; first | with_reducible rfl | (simp only [oi1n, nI_add]; done) | (simp only [c5, oi1n, nI_add, pk_mul, if_true, if_false, ↓reduceIte]; done) | (simp only [c5, oi1n, nI_add, pk_mul, bI, and_true, true_and, and_false, false_and, and_self, not_true_eq_false, not_false_eq_true, if_true, if_false, ↓reduceIte] <;> rfl)) (by subst e4; first | with_reducible rfl | (simp only [oi1n, nI_add]; done) | (simp only [c5, oi1n, nI_add, pk_mul, if_true, if_false, ↓reduceIte]; done) | (simp only [c5, oi1n, nI_add, pk_mul, bI, and_true, true_and, and_false, false_and, and_self, not_true_eq_false, not_false_eq_true, if_true, if_false, ↓reduceIte] <;> rfl))
  · skip
    refine V.aload_n F dX7_doesPart_73 rfl (lv_at hl 0 rfl) ?_
    refine V.aload_n F dX7_doesPart_74 rfl (lv_at hl 0 rfl) ?_
    refine V.getf F hE gX7_19 0 rfl rfl dX7_doesPart_75 ?_
    refine V.iconst (v := nI 0) F dX7_doesPart_78 (by decide) ?_
    refine V.iadn (i := 0) F hE 4 rfl (by omega) (by omega) dX7_doesPart_79 (fun z7 e7 => ?_)
    obtain rfl : z7 = nI x := e7.trans hx
    refine V.aload_n F dX7_doesPart_80 rfl (lv_at hl 0 rfl) ?_
    refine V.getf F hE gX7_19 0 rfl rfl dX7_doesPart_81 ?_
    refine V.iconst (v := nI 1) F dX7_doesPart_84 (by decide) ?_
    refine V.iadn (i := 1) F hE 4 rfl (by omega) (by omega) dX7_doesPart_85 (fun z8 e8 => ?_)
    obtain rfl : z8 = nI p := e8.trans hp
    refine V.aload_n F dX7_doesPart_86 rfl (lv_at hl 0 rfl) ?_
    refine V.getf F hE gX7_7 0 rfl rfl dX7_doesPart_87 ?_
    refine V.iconst (v := nI 0) F dX7_doesPart_90 (by decide) ?_
    refine V.iadn (i := 0) F hE 1 rfl (by omega) (by omega) dX7_doesPart_91 (fun z9 e9 => ?_)
    refine V.rdV (q0 := 0) F hE (c_X7_reason l E hM hx0 hp0) (kX7_87 F.2.2.2.2 ⟨Nat.le_of_ble_eq_true rfl, Nat.le_of_ble_eq_true rfl⟩) rfl rfl [0, 1, 2, 3, 4] rfl rfl hl.1 (Nat.le_of_ble_eq_true rfl) dX7_doesPart_92 rfl ?_
    refine V.topi (fun z10 e10 => ?_)
    refine V.if_ne (tgt := 102) F dX7_doesPart_95 (by decide) (fun c11 => ?_) (fun c11 => ?_)
    · skip
      rw [← nI_0] at c11
      refine V.iconst (v := nI 0) F dX7_doesPart_102 (by decide) ?_
      refine V.istore_n (lv' := [(2, .int (nI 0)), (0, .ref (a 0)), (1, .int (nI 33))]) F dX7_doesPart_103 rfl hl (by decide) rfl (fun ls hl => ?_)
      refine V.iload_n F dX7_doesPart_104 rfl (lv_at hl 0 rfl) ?_
      refine V.if_eq (tgt := 131) F dX7_doesPart_105 (by decide) (fun _ => ?_) (fun h => absurd h (by decide))
      refine V.iconst (v := nI 0) F dX7_doesPart_131 (by decide) ?_
      exact V.zretW F hr hk dX7_doesPart_132 (by first | rfl | decide) (by subst e4 e9 e10; first | with_reducible rfl | (simp only [oi1n, nI_add]; done) | (simp only [eq_true c5, c11, oi1n, nI_add, pk_mul, if_true, if_false, ↓reduceIte]; done) | (simp only [eq_true c5, c11, oi1n, nI_add, pk_mul, bI, and_true, true_and, and_false, false_and, and_self, not_true_eq_false, not_false_eq_true, if_true, if_false, ↓reduceIte] <;> rfl)) (by subst e4 e9 e10; first | with_reducible rfl | (simp only [oi1n, nI_add]; done) | (simp only [eq_true c5, c11, oi1n, nI_add, pk_mul, if_true, if_false, ↓reduceIte]; done) | (simp only [eq_true c5, c11, oi1n, nI_add, pk_mul, bI, and_true, true_and, and_false, false_and, and_self, not_true_eq_false, not_false_eq_true, if_true, if_false, ↓reduceIte] <;> rfl))
    · skip
      rw [← nI_0] at c11
      subst e4 e9 e10; exact absurd ⟨c5, c11⟩ h
set_option maxHeartbeats 4000000 in
set_option maxRecDepth 100000 in
theorem c_X7_doesPart_r1 (l : Launch) (E : EV) {a : Nat → Nat} {th sm ln pl : Int32} {hs : Int64} {s S b w : Nat → Int32} {R H C D : Nat} {sn : Nat → Nat} {g : Int32} {p : Nat} (hM : MI s R H C D sn) (hg1 : ¬ g = nI 43) (hg2 : ¬ g = nI 33) (hp : w 0 = nI p) (hp0 : p < 8) (h1 : paM s (nI p) (s 0) H &&& bpM (w 1) = nI 0) : Wr l E yX7_doesPart cX7_doesPart 3 (some .boolean) 4 99 [.ref (a 0), .int g] (mdW E a th sm ln pl hs s S b w) (mdW E a th sm ln pl hs (drS s R H p (w 1) (w 2)) S b w) (some (.int (nI 1))) := by
  refine Wr.mk0 (by decide) (Nat.le_of_ble_eq_true rfl) ?_
  intro pP eE sS mM aA bB mt cC F hr hk hE hN ls hl
  have hl : lv_has ls 3 [(0, .ref (a 0)), (1, .int g)] := hl
  have hM1 := hM
  obtain ⟨hD0, hD, hkR, hR, hh, hH, hs4, hC, hsn⟩ := hM1
  refine V.iload_n F dX7_doesPart_0 rfl (lv_at hl 1 rfl) ?_
  refine V.bipush (v := nI 43) F dX7_doesPart_1 (by decide) ?_
  refine V.icmp_ne (tgt := 54) F dX7_doesPart_3 (by decide) (fun c1 => ?_) (fun c1 => ?_)
  · skip
    refine V.iload_n F dX7_doesPart_54 rfl (lv_at hl 1 rfl) ?_
    refine V.bipush (v := nI 33) F dX7_doesPart_55 (by decide) ?_
    refine V.icmp_ne (tgt := 133) F dX7_doesPart_57 (by decide) (fun c2 => ?_) (fun c2 => ?_)
    · skip
      refine V.aload_n F dX7_doesPart_133 rfl (lv_at hl 0 rfl) ?_
      refine V.aload_n F dX7_doesPart_134 rfl (lv_at hl 0 rfl) ?_
      refine V.getf F hE gX7_19 0 rfl rfl dX7_doesPart_135 ?_
      refine V.iconst (v := nI 0) F dX7_doesPart_138 (by decide) ?_
      refine V.iadn (i := 0) F hE 4 rfl (by omega) (by omega) dX7_doesPart_139 (fun z3 e3 => ?_)
      obtain rfl : z3 = nI p := e3.trans hp
      refine V.aload_n F dX7_doesPart_140 rfl (lv_at hl 0 rfl) ?_
      refine V.getf F hE gX7_19 0 rfl rfl dX7_doesPart_141 ?_
      refine V.iconst (v := nI 1) F dX7_doesPart_144 (by decide) ?_
      refine V.iadn (i := 1) F hE 4 rfl (by omega) (by omega) dX7_doesPart_145 (fun z4 e4 => ?_)
      refine V.aload_n F dX7_doesPart_146 rfl (lv_at hl 0 rfl) ?_
      refine V.getf F hE gX7_7 0 rfl rfl dX7_doesPart_147 ?_
      refine V.iconst (v := nI 0) F dX7_doesPart_150 (by decide) ?_
      refine V.iadn (i := 0) F hE 1 rfl (by omega) (by omega) dX7_doesPart_151 (fun z5 e5 => ?_)
      refine V.rdV (q0 := 0) F hE (c_X7_isBarred l E (by first | assumption | omega)) (kX7_47 F.2.2.2.2 ⟨Nat.le_of_ble_eq_true rfl, Nat.le_of_ble_eq_true rfl⟩) rfl rfl [0, 1, 2, 3, 4] rfl rfl hl.1 (Nat.le_of_ble_eq_true rfl) dX7_doesPart_152 rfl ?_
      refine V.topi (fun z6 e6 => ?_)
      refine V.if_neB (tgt := 162) F e6 dX7_doesPart_155 (by decide) (fun c7 => ?_) (fun c7 => ?_)
      · skip
        subst e4 e5 e6; exact absurd h1 c7
      · skip
        rw [Decidable.not_not] at c7
        refine V.iconst (v := nI 1) F dX7_doesPart_158 (by decide) ?_
        refine V.goto (tgt := 163) F dX7_doesPart_159 (by decide) ?_
        refine V.istore_n (lv' := [(2, .int (nI 1)), (0, .ref (a 0)), (1, .int g)]) F dX7_doesPart_163 rfl hl (by decide) rfl (fun ls hl => ?_)
        refine V.iload_n F dX7_doesPart_164 rfl (lv_at hl 0 rfl) ?_
        refine V.if_eq (tgt := 197) F dX7_doesPart_165 (by decide) (fun h => absurd h (by decide)) (fun _ => ?_)
        refine V.aload_n F dX7_doesPart_168 rfl (lv_at hl 1 rfl) ?_
        refine V.aload_n F dX7_doesPart_169 rfl (lv_at hl 1 rfl) ?_
        refine V.getf F hE gX7_19 0 rfl rfl dX7_doesPart_170 ?_
        refine V.iconst (v := nI 0) F dX7_doesPart_173 (by decide) ?_
        refine V.iadn (i := 0) F hE 4 rfl (by omega) (by omega) dX7_doesPart_174 (fun z9 e9 => ?_)
        obtain rfl : z9 = nI p := e9.trans hp
        refine V.aload_n F dX7_doesPart_175 rfl (lv_at hl 1 rfl) ?_
        refine V.getf F hE gX7_19 0 rfl rfl dX7_doesPart_176 ?_
        refine V.iconst (v := nI 1) F dX7_doesPart_179 (by decide) ?_
        refine V.iadn (i := 1) F hE 4 rfl (by omega) (by omega) dX7_doesPart_180 (fun z10 e10 => ?_)
        refine V.aload_n F dX7_doesPart_181 rfl (lv_at hl 1 rfl) ?_
        refine V.getf F hE gX7_19 0 rfl rfl dX7_doesPart_182 ?_
        refine V.iconst (v := nI 2) F dX7_doesPart_185 (by decide) ?_
        refine V.iadn (i := 2) F hE 4 rfl (by omega) (by omega) dX7_doesPart_186 (fun z11 e11 => ?_)
        refine V.wsV (q0 := 0) (ws' := mdW E a th sm ln pl hs (drS s R H p z10 z11) S b w) F hE hN (pm_eq (by rfl)) (c_X7_doesRehearseA l E hkR hh hH hp0 hR) (kX7_106 F.2.2.2.2 ⟨Nat.le_of_ble_eq_true rfl, Nat.le_of_ble_eq_true rfl⟩) rfl rfl 0 5 (by rfl) (by rfl) rfl hl.1 (Nat.le_of_ble_eq_true rfl) dX7_doesPart_187 rfl ?_
        refine V.topi (fun z12 e12 => ?_)
        refine V.if_lt (tgt := 197) F dX7_doesPart_190 (by decide) (fun c13 c13' => ?_) (fun c13 c13' => ?_)
        · skip
          rw [← nI_0] at c13 c13'
          exact absurd (show z12 < nI 0 from c13) (by rw [e12]; exact dr_ge)
        · skip
          rw [← nI_0] at c13 c13'
          refine V.iconst (v := nI 1) F dX7_doesPart_193 (by decide) ?_
          refine V.goto (tgt := 198) F dX7_doesPart_194 (by decide) ?_
          exact V.zretW F hr hk dX7_doesPart_198 (by first | rfl | decide) (by subst e4 e5 e6 e10 e11 e12; first | with_reducible rfl | (simp only [oi1n, nI_add]; done) | (simp only [c1, c2, eq_true c7, c13, c13', oi1n, nI_add, pk_mul, if_true, if_false, ↓reduceIte]; done) | (simp only [c1, c2, eq_true c7, c13, c13', oi1n, nI_add, pk_mul, bI, and_true, true_and, and_false, false_and, and_self, not_true_eq_false, not_false_eq_true, if_true, if_false, ↓reduceIte] <;> rfl)) (by subst e4 e5 e6 e10 e11 e12; first | with_reducible rfl | (simp only [oi1n, nI_add]; done) | (simp only [c1, c2, eq_true c7, c13, c13', oi1n, nI_add, pk_mul, if_true, if_false, ↓reduceIte]; done) | (simp only [c1, c2, eq_true c7, c13, c13', oi1n, nI_add, pk_mul, bI, and_true, true_and, and_false, false_and, and_self, not_true_eq_false, not_false_eq_true, if_true, if_false, ↓reduceIte] <;> rfl))
    · skip
      exact absurd c2 hg2
  · skip
    exact absurd c1 hg1
set_option maxHeartbeats 4000000 in
set_option maxRecDepth 100000 in
theorem c_X7_doesPart_r0 (l : Launch) (E : EV) {a : Nat → Nat} {th sm ln pl : Int32} {hs : Int64} {s S b w : Nat → Int32} {R H C D : Nat} {sn : Nat → Nat} {g : Int32} {p : Nat} (hM : MI s R H C D sn) (hg1 : ¬ g = nI 43) (hg2 : ¬ g = nI 33) (hp : w 0 = nI p) (hp0 : p < 8) (h1 : ¬ paM s (nI p) (s 0) H &&& bpM (w 1) = nI 0) : Wr l E yX7_doesPart cX7_doesPart 3 (some .boolean) 4 99 [.ref (a 0), .int g] (mdW E a th sm ln pl hs s S b w) (mdW E a th sm ln pl hs s S b w) (some (.int (nI 0))) := by
  refine Wr.mk0 (by decide) (Nat.le_of_ble_eq_true rfl) ?_
  intro pP eE sS mM aA bB mt cC F hr hk hE hN ls hl
  have hl : lv_has ls 3 [(0, .ref (a 0)), (1, .int g)] := hl
  have hM1 := hM
  obtain ⟨hD0, hD, hkR, hR, hh, hH, hs4, hC, hsn⟩ := hM1
  refine V.iload_n F dX7_doesPart_0 rfl (lv_at hl 1 rfl) ?_
  refine V.bipush (v := nI 43) F dX7_doesPart_1 (by decide) ?_
  refine V.icmp_ne (tgt := 54) F dX7_doesPart_3 (by decide) (fun c1 => ?_) (fun c1 => ?_)
  · skip
    refine V.iload_n F dX7_doesPart_54 rfl (lv_at hl 1 rfl) ?_
    refine V.bipush (v := nI 33) F dX7_doesPart_55 (by decide) ?_
    refine V.icmp_ne (tgt := 133) F dX7_doesPart_57 (by decide) (fun c2 => ?_) (fun c2 => ?_)
    · skip
      refine V.aload_n F dX7_doesPart_133 rfl (lv_at hl 0 rfl) ?_
      refine V.aload_n F dX7_doesPart_134 rfl (lv_at hl 0 rfl) ?_
      refine V.getf F hE gX7_19 0 rfl rfl dX7_doesPart_135 ?_
      refine V.iconst (v := nI 0) F dX7_doesPart_138 (by decide) ?_
      refine V.iadn (i := 0) F hE 4 rfl (by omega) (by omega) dX7_doesPart_139 (fun z3 e3 => ?_)
      obtain rfl : z3 = nI p := e3.trans hp
      refine V.aload_n F dX7_doesPart_140 rfl (lv_at hl 0 rfl) ?_
      refine V.getf F hE gX7_19 0 rfl rfl dX7_doesPart_141 ?_
      refine V.iconst (v := nI 1) F dX7_doesPart_144 (by decide) ?_
      refine V.iadn (i := 1) F hE 4 rfl (by omega) (by omega) dX7_doesPart_145 (fun z4 e4 => ?_)
      refine V.aload_n F dX7_doesPart_146 rfl (lv_at hl 0 rfl) ?_
      refine V.getf F hE gX7_7 0 rfl rfl dX7_doesPart_147 ?_
      refine V.iconst (v := nI 0) F dX7_doesPart_150 (by decide) ?_
      refine V.iadn (i := 0) F hE 1 rfl (by omega) (by omega) dX7_doesPart_151 (fun z5 e5 => ?_)
      refine V.rdV (q0 := 0) F hE (c_X7_isBarred l E (by first | assumption | omega)) (kX7_47 F.2.2.2.2 ⟨Nat.le_of_ble_eq_true rfl, Nat.le_of_ble_eq_true rfl⟩) rfl rfl [0, 1, 2, 3, 4] rfl rfl hl.1 (Nat.le_of_ble_eq_true rfl) dX7_doesPart_152 rfl ?_
      refine V.topi (fun z6 e6 => ?_)
      refine V.if_neB (tgt := 162) F e6 dX7_doesPart_155 (by decide) (fun c7 => ?_) (fun c7 => ?_)
      · skip
        refine V.iconst (v := nI 0) F dX7_doesPart_162 (by decide) ?_
        refine V.istore_n (lv' := [(2, .int (nI 0)), (0, .ref (a 0)), (1, .int g)]) F dX7_doesPart_163 rfl hl (by decide) rfl (fun ls hl => ?_)
        refine V.iload_n F dX7_doesPart_164 rfl (lv_at hl 0 rfl) ?_
        refine V.if_eq (tgt := 197) F dX7_doesPart_165 (by decide) (fun _ => ?_) (fun h => absurd h (by decide))
        refine V.iconst (v := nI 0) F dX7_doesPart_197 (by decide) ?_
        exact V.zretW F hr hk dX7_doesPart_198 (by first | rfl | decide) (by subst e4 e5 e6; first | with_reducible rfl | (simp only [oi1n, nI_add]; done) | (simp only [c1, c2, c7, oi1n, nI_add, pk_mul, if_true, if_false, ↓reduceIte]; done) | (simp only [c1, c2, c7, oi1n, nI_add, pk_mul, bI, and_true, true_and, and_false, false_and, and_self, not_true_eq_false, not_false_eq_true, if_true, if_false, ↓reduceIte] <;> rfl)) (by subst e4 e5 e6; first | with_reducible rfl | (simp only [oi1n, nI_add]; done) | (simp only [c1, c2, c7, oi1n, nI_add, pk_mul, if_true, if_false, ↓reduceIte]; done) | (simp only [c1, c2, c7, oi1n, nI_add, pk_mul, bI, and_true, true_and, and_false, false_and, and_self, not_true_eq_false, not_false_eq_true, if_true, if_false, ↓reduceIte] <;> rfl))
      · skip
        subst e4 e5 e6; exact absurd h1 c7
    · skip
      exact absurd c2 hg2
  · skip
    exact absurd c1 hg1
