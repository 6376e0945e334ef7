set_option maxHeartbeats 4000000 in
set_option maxRecDepth 100000 in
theorem c_X7_readsDays (l : Launch) (E : EV) {a : Nat → Nat} {th sm : Int32} {hs : Int64} {s S b w : Nat → Int32} {L P : Nat} (hP : P < 500) (hL : L ≤ 60) : Wr l E yX7_readsDays cX7_readsDays 1 (some .boolean) 2 47 [.ref (a 0)] (mdW E a th sm (nI L) (nI P) hs s S b w) (mdW E a th sm (nI L) (nI (daP b L P)) hs s S b (daW b L P w)) (some (.int (bI (nI 1 ≤ dtM b L P ∧ dtM b L P ≤ nI 9)))) := by
  refine Wr.mk0 (by decide) (Nat.le_of_ble_eq_true rfl) ?_
  intro pP eE sS mM aA bB mt cC F hr hk hE hN ls hl
  have hl : lv_has ls 1 [(0, .ref (a 0))] := hl
  refine V.aload_n F dX7_readsDays_0 rfl (lv_at hl 0 rfl) ?_
  refine V.iconst (v := nI 0) F dX7_readsDays_1 (by decide) ?_
  refine V.iconst (v := nI 1) F dX7_readsDays_2 (by decide) ?_
  refine V.bipush (v := nI 9) F dX7_readsDays_3 (by decide) ?_
  refine V.wsV (q0 := 0) (ws' := mdW E a th sm (nI L) (nI (rgP b L P (nI 1) (nI 9))) hs s S b (upd w 0 (dtM b L P))) F hE hN (pm_eq (by rfl)) (c_X7_readsDigit l E (P := P) (L := L) (by omega) hL (by omega)) (kX7_131 F.2.2.2.2 ⟨Nat.le_of_ble_eq_true rfl, Nat.le_of_ble_eq_true rfl⟩) rfl rfl 0 5 (by rfl) (by rfl) rfl hl.1 (Nat.le_of_ble_eq_true rfl) dX7_readsDays_5 rfl ?_
  refine V.topi (fun z1 e1 => ?_)
  refine V.if_neB (tgt := 13) F e1 dX7_readsDays_8 (by decide) (fun c2 => ?_) (fun c2 => ?_)
  · skip
    refine V.aload_n F dX7_readsDays_13 rfl (lv_at hl 0 rfl) ?_
    refine V.rdV (q0 := 0) F hE (c_X7_next l E (P := (rgP b L P (nI 1) (nI 9))) (L := L) (by have := rgP_le b L P (nI 1) (nI 9); omega) hL) (kX7_127 F.2.2.2.2 ⟨Nat.le_of_ble_eq_true rfl, Nat.le_of_ble_eq_true rfl⟩) rfl rfl [0, 1, 2, 3, 4] rfl rfl hl.1 (Nat.le_of_ble_eq_true rfl) dX7_readsDays_14 rfl ?_
    refine V.topi (fun z3 e3 => ?_)
    refine V.bipush (v := nI 48) F dX7_readsDays_17 (by decide) ?_
    refine V.bipush (v := nI 57) F dX7_readsDays_19 (by decide) ?_
    refine V.rdS F hE (c_X7_within l E) (kX7_26 F.2.2.2.2 ⟨Nat.le_of_ble_eq_true rfl, Nat.le_of_ble_eq_true rfl⟩) [] rfl rfl hl.1 (Nat.le_of_ble_eq_true rfl) dX7_readsDays_21 rfl ?_
    refine V.topi (fun z4 e4 => ?_)
    refine V.if_eqB (tgt := 60) F e4 dX7_readsDays_24 (by decide) (fun c5 => ?_) (fun c5 => ?_)
    · skip
      refine V.iconst (v := nI 1) F dX7_readsDays_60 (by decide) ?_
      exact V.zretW F hr hk dX7_readsDays_61 (nb_bI _) (by subst e1 e3 e4; first | with_reducible rfl | (simp only [oi1n, nI_add]; done) | (simp only [daP, daW, eq_true c2, c5, oi1n, nI_add, pk_mul, if_true, if_false, ↓reduceIte]; done) | (simp only [daP, daW, eq_true c2, c5, oi1n, nI_add, pk_mul, bI, and_true, true_and, and_false, false_and, and_self, not_true_eq_false, not_false_eq_true, if_true, if_false, ↓reduceIte] <;> rfl)) (by subst e1 e3 e4; first | with_reducible rfl | (simp only [oi1n, nI_add]; done) | (simp only [daP, daW, eq_true c2, c5, oi1n, nI_add, pk_mul, if_true, if_false, ↓reduceIte]; done) | (simp only [daP, daW, eq_true c2, c5, oi1n, nI_add, pk_mul, bI, and_true, true_and, and_false, false_and, and_self, not_true_eq_false, not_false_eq_true, if_true, if_false, ↓reduceIte] <;> rfl))
    · skip
      refine V.aload_n F dX7_readsDays_27 rfl (lv_at hl 0 rfl) ?_
      refine V.getf F hE gX7_19 0 rfl rfl dX7_readsDays_28 ?_
      refine V.iconst (v := nI 0) F dX7_readsDays_31 (by decide) ?_
      refine V.bipush (v := nI 10) F dX7_readsDays_32 (by decide) ?_
      refine V.aload_n F dX7_readsDays_34 rfl (lv_at hl 0 rfl) ?_
      refine V.getf F hE gX7_19 0 rfl rfl dX7_readsDays_35 ?_
      refine V.iconst (v := nI 0) F dX7_readsDays_38 (by decide) ?_
      refine V.iadn (i := 0) F hE 4 rfl (by omega) (by omega) dX7_readsDays_39 (fun z6 e6 => ?_)
      refine V.imul F dX7_readsDays_40 (fun z7 e7 => ?_)
      refine V.aload_n F dX7_readsDays_41 rfl (lv_at hl 0 rfl) ?_
      refine V.rdV (q0 := 0) F hE (c_X7_next l E (P := (rgP b L P (nI 1) (nI 9))) (L := L) (by have := rgP_le b L P (nI 1) (nI 9); omega) hL) (kX7_127 F.2.2.2.2 ⟨Nat.le_of_ble_eq_true rfl, Nat.le_of_ble_eq_true rfl⟩) rfl rfl [0, 1, 2, 3, 4] rfl rfl hl.1 (Nat.le_of_ble_eq_true rfl) dX7_readsDays_42 rfl ?_
      refine V.topi (fun z8 e8 => ?_)
      refine V.iadd F dX7_readsDays_45 (fun z9 e9 => ?_)
      refine V.bipush (v := nI 48) F dX7_readsDays_46 (by decide) ?_
      refine V.isub F dX7_readsDays_48 (fun z10 e10 => ?_)
      refine V.isn (i := 0) (ws' := mdW E a th sm (nI L) (nI (rgP b L P (nI 1) (nI 9))) hs s S b (upd (upd w 0 (dtM b L P)) 0 z10)) F hE hN (by rfl) 4 rfl (by omega) (by omega) dX7_readsDays_49 rfl ?_
      refine V.aload_n F dX7_readsDays_50 rfl (lv_at hl 0 rfl) ?_
      refine V.dup F dX7_readsDays_51 rfl ?_
      refine V.getfi F hE gX7_124 0 rfl rfl dX7_readsDays_52 (fun z11 e11 => ?_)
      subst e11
      refine V.iconst (v := nI 1) F dX7_readsDays_55 (by decide) ?_
      refine V.iadd F dX7_readsDays_56 (fun z12 e12 => ?_)
      obtain rfl : z12 = nI ((rgP b L P (nI 1) (nI 9)) + 1) := e12.trans (nI_add _ _)
      refine V.putf (ws' := mdW E a th sm (nI L) (nI ((rgP b L P (nI 1) (nI 9)) + 1)) hs s S b (upd (upd w 0 (dtM b L P)) 0 z10)) F hE hN (by rfl) pX7_124 rfl rfl 0 rfl (by exact Nat.le_of_ble_eq_true rfl) dX7_readsDays_57 rfl ?_
      refine V.iconst (v := nI 1) F dX7_readsDays_60 (by decide) ?_
      exact V.zretW F hr hk dX7_readsDays_61 (nb_bI _) (by subst e1 e3 e4 e6 e7 e8 e9 e10; first | with_reducible rfl | (simp only [oi1n, nI_add]; done) | (simp only [daP, daW, eq_true c2, eq_true c5, oi1n, nI_add, pk_mul, if_true, if_false, ↓reduceIte]; done) | (simp only [daP, daW, eq_true c2, eq_true c5, oi1n, nI_add, pk_mul, bI, and_true, true_and, and_false, false_and, and_self, not_true_eq_false, not_false_eq_true, if_true, if_false, ↓reduceIte] <;> rfl)) (by subst e1 e3 e4 e6 e7 e8 e9 e10; first | with_reducible rfl | (simp only [oi1n, nI_add]; done) | (simp only [daP, daW, eq_true c2, eq_true c5, oi1n, nI_add, pk_mul, if_true, if_false, ↓reduceIte]; done) | (simp only [daP, daW, eq_true c2, eq_true c5, oi1n, nI_add, pk_mul, bI, and_true, true_and, and_false, false_and, and_self, not_true_eq_false, not_false_eq_true, if_true, if_false, ↓reduceIte] <;> rfl))
  · skip
    refine V.iconst (v := nI 0) F dX7_readsDays_11 (by decide) ?_
    exact V.zretW F hr hk dX7_readsDays_12 (nb_bI _) (by subst e1; first | with_reducible rfl | (simp only [oi1n, nI_add]; done) | (simp only [daP, daW, c2, oi1n, nI_add, pk_mul, if_true, if_false, ↓reduceIte]; done) | (simp only [daP, daW, c2, oi1n, nI_add, pk_mul, bI, and_true, true_and, and_false, false_and, and_self, not_true_eq_false, not_false_eq_true, if_true, if_false, ↓reduceIte] <;> rfl)) (by subst e1; first | with_reducible rfl | (simp only [oi1n, nI_add]; done) | (simp only [daP, daW, c2, oi1n, nI_add, pk_mul, if_true, if_false, ↓reduceIte]; done) | (simp only [daP, daW, c2, oi1n, nI_add, pk_mul, bI, and_true, true_and, and_false, false_and, and_self, not_true_eq_false, not_false_eq_true, if_true, if_false, ↓reduceIte] <;> rfl))
set_option maxHeartbeats 4000000 in
set_option maxRecDepth 100000 in
theorem c_X7_readsPart (l : Launch) (E : EV) {a : Nat → Nat} {th sm : Int32} {hs : Int64} {s S b w : Nat → Int32} {L P : Nat} (hP : P < 400) (hL : L ≤ 60) : Wr l E yX7_readsPart cX7_readsPart 1 (some .boolean) 3 67 [.ref (a 0)] (mdW E a th sm (nI L) (nI P) hs s S b w) (mdW E a th sm (nI L) (nI (rpP b L P)) hs s S b (rpW b L P w)) (some (.int (rpR b L P))) := by
  refine Wr.mk0 (by decide) (Nat.le_of_ble_eq_true rfl) ?_
  intro pP eE sS mM aA bB mt cC F hr hk hE hN ls hl
  have hl : lv_has ls 1 [(0, .ref (a 0))] := hl
  refine V.aload_n F dX7_readsPart_0 rfl (lv_at hl 0 rfl) ?_
  refine V.bipush (v := nI 43) F dX7_readsPart_1 (by decide) ?_
  refine V.wsV (q0 := 0) (ws' := mdW E a th sm (nI L) (nI (tkP b L P (nI 43))) hs s S b w) F hE hN (pm_eq (by rfl)) (c_X7_takes l E (P := P) (L := L) (by omega) hL) (kX7_134 F.2.2.2.2 ⟨Nat.le_of_ble_eq_true rfl, Nat.le_of_ble_eq_true rfl⟩) rfl rfl 0 5 (by rfl) (by rfl) rfl hl.1 (Nat.le_of_ble_eq_true rfl) dX7_readsPart_3 rfl ?_
  refine V.topi (fun z1 e1 => ?_)
  refine V.if_eqB (tgt := 14) F e1 dX7_readsPart_6 (by decide) (fun c2 => ?_) (fun c2 => ?_)
  · skip
    refine V.aload_n F dX7_readsPart_14 rfl (lv_at hl 0 rfl) ?_
    refine V.bipush (v := nI 33) F dX7_readsPart_15 (by decide) ?_
    refine V.wsV (q0 := 0) (ws' := mdW E a th sm (nI L) (nI (tkP b L (tkP b L P (nI 43)) (nI 33))) hs s S b w) F hE hN (pm_eq (by rfl)) (c_X7_takes l E (P := (tkP b L P (nI 43))) (L := L) (by have := tkP_le b L P (nI 43); omega) hL) (kX7_134 F.2.2.2.2 ⟨Nat.le_of_ble_eq_true rfl, Nat.le_of_ble_eq_true rfl⟩) rfl rfl 0 5 (by rfl) (by rfl) rfl hl.1 (Nat.le_of_ble_eq_true rfl) dX7_readsPart_17 rfl ?_
    refine V.topi (fun z3 e3 => ?_)
    refine V.if_eqB (tgt := 51) F e3 dX7_readsPart_20 (by decide) (fun c4 => ?_) (fun c4 => ?_)
    · skip
      refine V.aload_n F dX7_readsPart_51 rfl (lv_at hl 0 rfl) ?_
      refine V.iconst (v := nI 0) F dX7_readsPart_52 (by decide) ?_
      refine V.iconst (v := nI 0) F dX7_readsPart_53 (by decide) ?_
      refine V.bipush (v := nI 7) F dX7_readsPart_54 (by decide) ?_
      refine V.wsV (q0 := 0) (ws' := mdW E a th sm (nI L) (nI (rgP b L (tkP b L (tkP b L P (nI 43)) (nI 33)) (nI 0) (nI 7))) hs s S b (upd w 0 (dtM b L (tkP b L (tkP b L P (nI 43)) (nI 33))))) F hE hN (pm_eq (by rfl)) (c_X7_readsDigit l E (P := (tkP b L (tkP b L P (nI 43)) (nI 33))) (L := L) (by have := tkP_le b L P (nI 43); have := tkP_le b L (tkP b L P (nI 43)) (nI 33); omega) hL (by omega)) (kX7_131 F.2.2.2.2 ⟨Nat.le_of_ble_eq_true rfl, Nat.le_of_ble_eq_true rfl⟩) rfl rfl 0 5 (by rfl) (by rfl) rfl hl.1 (Nat.le_of_ble_eq_true rfl) dX7_readsPart_56 rfl ?_
      refine V.topi (fun z5 e5 => ?_)
      refine V.if_eqB (tgt := 95) F e5 dX7_readsPart_59 (by decide) (fun c6 => ?_) (fun c6 => ?_)
      · skip
        refine V.iconst (v := nI 0) F dX7_readsPart_95 (by decide) ?_
        exact V.zretW F hr hk dX7_readsPart_96 (rpR_nb _ _ _) (by subst e1 e3 e5; first | with_reducible rfl | (simp only [oi1n, nI_add]; done) | (simp only [rpR, rpP, rpW, c2, c4, c6, oi1n, nI_add, pk_mul, if_true, if_false, ↓reduceIte]; done) | (simp only [rpR, rpP, rpW, c2, c4, c6, oi1n, nI_add, pk_mul, bI, and_true, true_and, and_false, false_and, and_self, not_true_eq_false, not_false_eq_true, if_true, if_false, ↓reduceIte] <;> rfl)) (by subst e1 e3 e5; first | with_reducible rfl | (simp only [oi1n, nI_add]; done) | (simp only [rpR, rpP, rpW, c2, c4, c6, oi1n, nI_add, pk_mul, if_true, if_false, ↓reduceIte]; done) | (simp only [rpR, rpP, rpW, c2, c4, c6, oi1n, nI_add, pk_mul, bI, and_true, true_and, and_false, false_and, and_self, not_true_eq_false, not_false_eq_true, if_true, if_false, ↓reduceIte] <;> rfl))
      · skip
        refine V.aload_n F dX7_readsPart_62 rfl (lv_at hl 0 rfl) ?_
        refine V.bipush (v := nI 114) F dX7_readsPart_63 (by decide) ?_
        refine V.wsV (q0 := 0) (ws' := mdW E a th sm (nI L) (nI (tkP b L (rgP b L (tkP b L (tkP b L P (nI 43)) (nI 33)) (nI 0) (nI 7)) (nI 114))) hs s S b (upd w 0 (dtM b L (tkP b L (tkP b L P (nI 43)) (nI 33))))) F hE hN (pm_eq (by rfl)) (c_X7_takes l E (P := (rgP b L (tkP b L (tkP b L P (nI 43)) (nI 33)) (nI 0) (nI 7))) (L := L) (by have := tkP_le b L P (nI 43); have := tkP_le b L (tkP b L P (nI 43)) (nI 33); have := rgP_le b L (tkP b L (tkP b L P (nI 43)) (nI 33)) (nI 0) (nI 7); omega) hL) (kX7_134 F.2.2.2.2 ⟨Nat.le_of_ble_eq_true rfl, Nat.le_of_ble_eq_true rfl⟩) rfl rfl 0 5 (by rfl) (by rfl) rfl hl.1 (Nat.le_of_ble_eq_true rfl) dX7_readsPart_65 rfl ?_
        refine V.topi (fun z7 e7 => ?_)
        refine V.if_eqB (tgt := 95) F e7 dX7_readsPart_68 (by decide) (fun c8 => ?_) (fun c8 => ?_)
        · skip
          refine V.iconst (v := nI 0) F dX7_readsPart_95 (by decide) ?_
          exact V.zretW F hr hk dX7_readsPart_96 (rpR_nb _ _ _) (by subst e1 e3 e5 e7; first | with_reducible rfl | (simp only [oi1n, nI_add]; done) | (simp only [rpR, rpP, rpW, c2, c4, eq_true c6, c8, oi1n, nI_add, pk_mul, if_true, if_false, ↓reduceIte]; done) | (simp only [rpR, rpP, rpW, c2, c4, eq_true c6, c8, oi1n, nI_add, pk_mul, bI, and_true, true_and, and_false, false_and, and_self, not_true_eq_false, not_false_eq_true, if_true, if_false, ↓reduceIte] <;> rfl)) (by subst e1 e3 e5 e7; first | with_reducible rfl | (simp only [oi1n, nI_add]; done) | (simp only [rpR, rpP, rpW, c2, c4, eq_true c6, c8, oi1n, nI_add, pk_mul, if_true, if_false, ↓reduceIte]; done) | (simp only [rpR, rpP, rpW, c2, c4, eq_true c6, c8, oi1n, nI_add, pk_mul, bI, and_true, true_and, and_false, false_and, and_self, not_true_eq_false, not_false_eq_true, if_true, if_false, ↓reduceIte] <;> rfl))
        · skip
          refine V.aload_n F dX7_readsPart_71 rfl (lv_at hl 0 rfl) ?_
          refine V.iconst (v := nI 1) F dX7_readsPart_72 (by decide) ?_
          refine V.iconst (v := nI 0) F dX7_readsPart_73 (by decide) ?_
          refine V.iconst (v := nI 5) F dX7_readsPart_74 (by decide) ?_
          refine V.wsV (q0 := 0) (ws' := mdW E a th sm (nI L) (nI (rgP b L (tkP b L (rgP b L (tkP b L (tkP b L P (nI 43)) (nI 33)) (nI 0) (nI 7)) (nI 114)) (nI 0) (nI 5))) hs s S b (upd (upd w 0 (dtM b L (tkP b L (tkP b L P (nI 43)) (nI 33)))) 1 (dtM b L (tkP b L (rgP b L (tkP b L (tkP b L P (nI 43)) (nI 33)) (nI 0) (nI 7)) (nI 114))))) F hE hN (pm_eq (by rfl)) (c_X7_readsDigit l E (P := (tkP b L (rgP b L (tkP b L (tkP b L P (nI 43)) (nI 33)) (nI 0) (nI 7)) (nI 114))) (L := L) (by have := tkP_le b L P (nI 43); have := tkP_le b L (tkP b L P (nI 43)) (nI 33); have := rgP_le b L (tkP b L (tkP b L P (nI 43)) (nI 33)) (nI 0) (nI 7); have := tkP_le b L (rgP b L (tkP b L (tkP b L P (nI 43)) (nI 33)) (nI 0) (nI 7)) (nI 114); omega) hL (by omega)) (kX7_131 F.2.2.2.2 ⟨Nat.le_of_ble_eq_true rfl, Nat.le_of_ble_eq_true rfl⟩) rfl rfl 0 5 (by rfl) (by rfl) rfl hl.1 (Nat.le_of_ble_eq_true rfl) dX7_readsPart_75 rfl ?_
          refine V.topi (fun z9 e9 => ?_)
          refine V.if_eqB (tgt := 95) F e9 dX7_readsPart_78 (by decide) (fun c10 => ?_) (fun c10 => ?_)
          · skip
            refine V.iconst (v := nI 0) F dX7_readsPart_95 (by decide) ?_
            exact V.zretW F hr hk dX7_readsPart_96 (rpR_nb _ _ _) (by subst e1 e3 e5 e7 e9; first | with_reducible rfl | (simp only [oi1n, nI_add]; done) | (simp only [rpR, rpP, rpW, c2, c4, eq_true c6, eq_true c8, c10, oi1n, nI_add, pk_mul, if_true, if_false, ↓reduceIte]; done) | (simp only [rpR, rpP, rpW, c2, c4, eq_true c6, eq_true c8, c10, oi1n, nI_add, pk_mul, bI, and_true, true_and, and_false, false_and, and_self, not_true_eq_false, not_false_eq_true, if_true, if_false, ↓reduceIte] <;> rfl)) (by subst e1 e3 e5 e7 e9; first | with_reducible rfl | (simp only [oi1n, nI_add]; done) | (simp only [rpR, rpP, rpW, c2, c4, eq_true c6, eq_true c8, c10, oi1n, nI_add, pk_mul, if_true, if_false, ↓reduceIte]; done) | (simp only [rpR, rpP, rpW, c2, c4, eq_true c6, eq_true c8, c10, oi1n, nI_add, pk_mul, bI, and_true, true_and, and_false, false_and, and_self, not_true_eq_false, not_false_eq_true, if_true, if_false, ↓reduceIte] <;> rfl))
          · skip
            refine V.aload_n F dX7_readsPart_81 rfl (lv_at hl 0 rfl) ?_
            refine V.iconst (v := nI 2) F dX7_readsPart_82 (by decide) ?_
            refine V.iconst (v := nI 1) F dX7_readsPart_83 (by decide) ?_
            refine V.iconst (v := nI 5) F dX7_readsPart_84 (by decide) ?_
            refine V.wsV (q0 := 0) (ws' := mdW E a th sm (nI L) (nI (rgP b L (rgP b L (tkP b L (rgP b L (tkP b L (tkP b L P (nI 43)) (nI 33)) (nI 0) (nI 7)) (nI 114)) (nI 0) (nI 5)) (nI 1) (nI 5))) hs s S b (upd (upd (upd w 0 (dtM b L (tkP b L (tkP b L P (nI 43)) (nI 33)))) 1 (dtM b L (tkP b L (rgP b L (tkP b L (tkP b L P (nI 43)) (nI 33)) (nI 0) (nI 7)) (nI 114)))) 2 (dtM b L (rgP b L (tkP b L (rgP b L (tkP b L (tkP b L P (nI 43)) (nI 33)) (nI 0) (nI 7)) (nI 114)) (nI 0) (nI 5))))) F hE hN (pm_eq (by rfl)) (c_X7_readsDigit l E (P := (rgP b L (tkP b L (rgP b L (tkP b L (tkP b L P (nI 43)) (nI 33)) (nI 0) (nI 7)) (nI 114)) (nI 0) (nI 5))) (L := L) (by have := tkP_le b L P (nI 43); have := tkP_le b L (tkP b L P (nI 43)) (nI 33); have := rgP_le b L (tkP b L (tkP b L P (nI 43)) (nI 33)) (nI 0) (nI 7); have := tkP_le b L (rgP b L (tkP b L (tkP b L P (nI 43)) (nI 33)) (nI 0) (nI 7)) (nI 114); have := rgP_le b L (tkP b L (rgP b L (tkP b L (tkP b L P (nI 43)) (nI 33)) (nI 0) (nI 7)) (nI 114)) (nI 0) (nI 5); omega) hL (by omega)) (kX7_131 F.2.2.2.2 ⟨Nat.le_of_ble_eq_true rfl, Nat.le_of_ble_eq_true rfl⟩) rfl rfl 0 5 (by rfl) (by rfl) rfl hl.1 (Nat.le_of_ble_eq_true rfl) dX7_readsPart_85 rfl ?_
            refine V.topi (fun z11 e11 => ?_)
            refine V.if_eqB (tgt := 95) F e11 dX7_readsPart_88 (by decide) (fun c12 => ?_) (fun c12 => ?_)
            · skip
              refine V.iconst (v := nI 0) F dX7_readsPart_95 (by decide) ?_
              exact V.zretW F hr hk dX7_readsPart_96 (rpR_nb _ _ _) (by subst e1 e3 e5 e7 e9 e11; first | with_reducible rfl | (simp only [oi1n, nI_add]; done) | (simp only [rpR, rpP, rpW, c2, c4, eq_true c6, eq_true c8, eq_true c10, c12, oi1n, nI_add, pk_mul, if_true, if_false, ↓reduceIte]; done) | (simp only [rpR, rpP, rpW, c2, c4, eq_true c6, eq_true c8, eq_true c10, c12, oi1n, nI_add, pk_mul, bI, and_true, true_and, and_false, false_and, and_self, not_true_eq_false, not_false_eq_true, if_true, if_false, ↓reduceIte] <;> rfl)) (by subst e1 e3 e5 e7 e9 e11; first | with_reducible rfl | (simp only [oi1n, nI_add]; done) | (simp only [rpR, rpP, rpW, c2, c4, eq_true c6, eq_true c8, eq_true c10, c12, oi1n, nI_add, pk_mul, if_true, if_false, ↓reduceIte]; done) | (simp only [rpR, rpP, rpW, c2, c4, eq_true c6, eq_true c8, eq_true c10, c12, oi1n, nI_add, pk_mul, bI, and_true, true_and, and_false, false_and, and_self, not_true_eq_false, not_false_eq_true, if_true, if_false, ↓reduceIte] <;> rfl))
            · skip
              refine V.iconst (v := nI 1) F dX7_readsPart_91 (by decide) ?_
              refine V.goto (tgt := 96) F dX7_readsPart_92 (by decide) ?_
              exact V.zretW F hr hk dX7_readsPart_96 (rpR_nb _ _ _) (by subst e1 e3 e5 e7 e9 e11; first | with_reducible rfl | (simp only [oi1n, nI_add]; done) | (simp only [rpR, rpP, rpW, c2, c4, eq_true c6, eq_true c8, eq_true c10, eq_true c12, oi1n, nI_add, pk_mul, if_true, if_false, ↓reduceIte]; done) | (simp only [rpR, rpP, rpW, c2, c4, eq_true c6, eq_true c8, eq_true c10, eq_true c12, oi1n, nI_add, pk_mul, bI, and_true, true_and, and_false, false_and, and_self, not_true_eq_false, not_false_eq_true, if_true, if_false, ↓reduceIte] <;> rfl)) (by subst e1 e3 e5 e7 e9 e11; first | with_reducible rfl | (simp only [oi1n, nI_add]; done) | (simp only [rpR, rpP, rpW, c2, c4, eq_true c6, eq_true c8, eq_true c10, eq_true c12, oi1n, nI_add, pk_mul, if_true, if_false, ↓reduceIte]; done) | (simp only [rpR, rpP, rpW, c2, c4, eq_true c6, eq_true c8, eq_true c10, eq_true c12, oi1n, nI_add, pk_mul, bI, and_true, true_and, and_false, false_and, and_self, not_true_eq_false, not_false_eq_true, if_true, if_false, ↓reduceIte] <;> rfl))
    · skip
      refine V.aload_n F dX7_readsPart_23 rfl (lv_at hl 0 rfl) ?_
      refine V.iconst (v := nI 0) F dX7_readsPart_24 (by decide) ?_
      refine V.iconst (v := nI 0) F dX7_readsPart_25 (by decide) ?_
      refine V.bipush (v := nI 9) F dX7_readsPart_26 (by decide) ?_
      refine V.wsV (q0 := 0) (ws' := mdW E a th sm (nI L) (nI (rgP b L (tkP b L (tkP b L P (nI 43)) (nI 33)) (nI 0) (nI 9))) hs s S b (upd w 0 (dtM b L (tkP b L (tkP b L P (nI 43)) (nI 33))))) F hE hN (pm_eq (by rfl)) (c_X7_readsDigit l E (P := (tkP b L (tkP b L P (nI 43)) (nI 33))) (L := L) (by have := tkP_le b L P (nI 43); have := tkP_le b L (tkP b L P (nI 43)) (nI 33); omega) hL (by omega)) (kX7_131 F.2.2.2.2 ⟨Nat.le_of_ble_eq_true rfl, Nat.le_of_ble_eq_true rfl⟩) rfl rfl 0 5 (by rfl) (by rfl) rfl hl.1 (Nat.le_of_ble_eq_true rfl) dX7_readsPart_28 rfl ?_
      refine V.topi (fun z13 e13 => ?_)
      refine V.if_eqB (tgt := 49) F e13 dX7_readsPart_31 (by decide) (fun c14 => ?_) (fun c14 => ?_)
      · skip
        refine V.iconst (v := nI 0) F dX7_readsPart_49 (by decide) ?_
        exact V.zretW F hr hk dX7_readsPart_50 (rpR_nb _ _ _) (by subst e1 e3 e13; first | with_reducible rfl | (simp only [oi1n, nI_add]; done) | (simp only [rpR, rpP, rpW, c2, eq_true c4, c14, oi1n, nI_add, pk_mul, if_true, if_false, ↓reduceIte]; done) | (simp only [rpR, rpP, rpW, c2, eq_true c4, c14, oi1n, nI_add, pk_mul, bI, and_true, true_and, and_false, false_and, and_self, not_true_eq_false, not_false_eq_true, if_true, if_false, ↓reduceIte] <;> rfl)) (by subst e1 e3 e13; first | with_reducible rfl | (simp only [oi1n, nI_add]; done) | (simp only [rpR, rpP, rpW, c2, eq_true c4, c14, oi1n, nI_add, pk_mul, if_true, if_false, ↓reduceIte]; done) | (simp only [rpR, rpP, rpW, c2, eq_true c4, c14, oi1n, nI_add, pk_mul, bI, and_true, true_and, and_false, false_and, and_self, not_true_eq_false, not_false_eq_true, if_true, if_false, ↓reduceIte] <;> rfl))
      · skip
        refine V.aload_n F dX7_readsPart_34 rfl (lv_at hl 0 rfl) ?_
        refine V.iconst (v := nI 1) F dX7_readsPart_35 (by decide) ?_
        refine V.iconst (v := nI 0) F dX7_readsPart_36 (by decide) ?_
        refine V.bipush (v := nI 7) F dX7_readsPart_37 (by decide) ?_
        refine V.wsV (q0 := 0) (ws' := mdW E a th sm (nI L) (nI (rgP b L (rgP b L (tkP b L (tkP b L P (nI 43)) (nI 33)) (nI 0) (nI 9)) (nI 0) (nI 7))) hs s S b (upd (upd w 0 (dtM b L (tkP b L (tkP b L P (nI 43)) (nI 33)))) 1 (dtM b L (rgP b L (tkP b L (tkP b L P (nI 43)) (nI 33)) (nI 0) (nI 9))))) F hE hN (pm_eq (by rfl)) (c_X7_readsDigit l E (P := (rgP b L (tkP b L (tkP b L P (nI 43)) (nI 33)) (nI 0) (nI 9))) (L := L) (by have := tkP_le b L P (nI 43); have := tkP_le b L (tkP b L P (nI 43)) (nI 33); have := rgP_le b L (tkP b L (tkP b L P (nI 43)) (nI 33)) (nI 0) (nI 9); omega) hL (by omega)) (kX7_131 F.2.2.2.2 ⟨Nat.le_of_ble_eq_true rfl, Nat.le_of_ble_eq_true rfl⟩) rfl rfl 0 5 (by rfl) (by rfl) rfl hl.1 (Nat.le_of_ble_eq_true rfl) dX7_readsPart_39 rfl ?_
        refine V.topi (fun z15 e15 => ?_)
        refine V.if_eqB (tgt := 49) F e15 dX7_readsPart_42 (by decide) (fun c16 => ?_) (fun c16 => ?_)
        · skip
          refine V.iconst (v := nI 0) F dX7_readsPart_49 (by decide) ?_
          exact V.zretW F hr hk dX7_readsPart_50 (rpR_nb _ _ _) (by subst e1 e3 e13 e15; first | with_reducible rfl | (simp only [oi1n, nI_add]; done) | (simp only [rpR, rpP, rpW, c2, eq_true c4, eq_true c14, c16, oi1n, nI_add, pk_mul, if_true, if_false, ↓reduceIte]; done) | (simp only [rpR, rpP, rpW, c2, eq_true c4, eq_true c14, c16, oi1n, nI_add, pk_mul, bI, and_true, true_and, and_false, false_and, and_self, not_true_eq_false, not_false_eq_true, if_true, if_false, ↓reduceIte] <;> rfl)) (by subst e1 e3 e13 e15; first | with_reducible rfl | (simp only [oi1n, nI_add]; done) | (simp only [rpR, rpP, rpW, c2, eq_true c4, eq_true c14, c16, oi1n, nI_add, pk_mul, if_true, if_false, ↓reduceIte]; done) | (simp only [rpR, rpP, rpW, c2, eq_true c4, eq_true c14, c16, oi1n, nI_add, pk_mul, bI, and_true, true_and, and_false, false_and, and_self, not_true_eq_false, not_false_eq_true, if_true, if_false, ↓reduceIte] <;> rfl))
        · skip
          refine V.iconst (v := nI 1) F dX7_readsPart_45 (by decide) ?_
          refine V.goto (tgt := 50) F dX7_readsPart_46 (by decide) ?_
          exact V.zretW F hr hk dX7_readsPart_50 (rpR_nb _ _ _) (by subst e1 e3 e13 e15; first | with_reducible rfl | (simp only [oi1n, nI_add]; done) | (simp only [rpR, rpP, rpW, c2, eq_true c4, eq_true c14, eq_true c16, oi1n, nI_add, pk_mul, if_true, if_false, ↓reduceIte]; done) | (simp only [rpR, rpP, rpW, c2, eq_true c4, eq_true c14, eq_true c16, oi1n, nI_add, pk_mul, bI, and_true, true_and, and_false, false_and, and_self, not_true_eq_false, not_false_eq_true, if_true, if_false, ↓reduceIte] <;> rfl)) (by subst e1 e3 e13 e15; first | with_reducible rfl | (simp only [oi1n, nI_add]; done) | (simp only [rpR, rpP, rpW, c2, eq_true c4, eq_true c14, eq_true c16, oi1n, nI_add, pk_mul, if_true, if_false, ↓reduceIte]; done) | (simp only [rpR, rpP, rpW, c2, eq_true c4, eq_true c14, eq_true c16, oi1n, nI_add, pk_mul, bI, and_true, true_and, and_false, false_and, and_self, not_true_eq_false, not_false_eq_true, if_true, if_false, ↓reduceIte] <;> rfl))
  · skip
    refine V.aload_n F dX7_readsPart_9 rfl (lv_at hl 0 rfl) ?_
    refine V.wsV (q0 := 0) (ws' := mdW E a th sm (nI L) (nI (daP b L (tkP b L P (nI 43)))) hs s S b (daW b L (tkP b L P (nI 43)) w)) F hE hN (pm_eq (by rfl)) (c_X7_readsDays l E (P := (tkP b L P (nI 43))) (L := L) (by have := tkP_le b L P (nI 43); omega) hL) (kX7_137 F.2.2.2.2 ⟨Nat.le_of_ble_eq_true rfl, Nat.le_of_ble_eq_true rfl⟩) rfl rfl 0 5 (by rfl) (by rfl) rfl hl.1 (Nat.le_of_ble_eq_true rfl) dX7_readsPart_10 rfl ?_
    refine V.topi (fun z17 e17 => ?_)
    exact V.zretW F hr hk dX7_readsPart_13 (rpR_nb _ _ _) (by subst e1 e17; first | with_reducible rfl | (simp only [oi1n, nI_add]; done) | (simp only [rpR, rpP, rpW, eq_true c2, oi1n, nI_add, pk_mul, if_true, if_false, ↓reduceIte]; done) | (simp only [rpR, rpP, rpW, eq_true c2, oi1n, nI_add, pk_mul, bI, and_true, true_and, and_false, false_and, and_self, not_true_eq_false, not_false_eq_true, if_true, if_false, ↓reduceIte] <;> rfl)) (by subst e1 e17; first | with_reducible rfl | (simp only [oi1n, nI_add]; done) | (simp only [rpR, rpP, rpW, eq_true c2, oi1n, nI_add, pk_mul, if_true, if_false, ↓reduceIte]; done) | (simp only [rpR, rpP, rpW, eq_true c2, oi1n, nI_add, pk_mul, bI, and_true, true_and, and_false, false_and, and_self, not_true_eq_false, not_false_eq_true, if_true, if_false, ↓reduceIte] <;> rfl))
