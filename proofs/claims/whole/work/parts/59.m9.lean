set_option maxHeartbeats 4000000 in
set_option maxRecDepth 100000 in
theorem c_X7_next (l : Launch) (E : EV) {a : Nat → Nat} {th sm : Int32} {hs : Int64} {s S b w : Nat → Int32} {L P : Nat} (hP : P < 1000) (hL : L ≤ 60) : Rd l E yX7_next cX7_next 1 (some .int) 0 0 [.ref (a 0)] (mdW E a th sm (nI L) (nI P) hs s S b w) (some (.int (nxM b L P))) := by
  refine Rd.mk0 (by decide) (Nat.le_of_ble_eq_true rfl) ?_
  intro pP eE sS mM aA bB mt cC F hr hk hE ls hl
  have hl : lv_has ls 1 [(0, .ref (a 0))] := hl
  refine V.aload_n F dX7_next_0 rfl (lv_at hl 0 rfl) ?_
  refine V.getfi F hE gX7_124 0 rfl rfl dX7_next_1 (fun z1 e1 => ?_)
  subst e1
  refine V.aload_n F dX7_next_4 rfl (lv_at hl 0 rfl) ?_
  refine V.getfi F hE gX7_121 0 rfl rfl dX7_next_5 (fun z2 e2 => ?_)
  subst e2
  refine V.icmp_ge (tgt := 23) F dX7_next_8 (by decide) (fun c3 c3' => ?_) (fun c3 c3' => ?_)
  · skip
    have q4 : ¬ P < L := fun h => c3' ((nI_ltI (by omega) (by omega)).mpr h)
    refine V.iconst (v := nI 0) F dX7_next_23 (by decide) ?_
    exact V.iretR F hr hk dX7_next_24 (by first | with_reducible rfl | (simp only [oi1n, nI_add]; done) | (simp only [nxM, q4, oi1n, nI_add, pk_mul, if_true, if_false, ↓reduceIte]; done) | (simp only [nxM, q4, oi1n, nI_add, pk_mul, bI, and_true, true_and, and_false, false_and, and_self, not_true_eq_false, not_false_eq_true, if_true, if_false, ↓reduceIte] <;> rfl))
  · skip
    have q5 : P < L := (nI_ltI (by omega) (by omega)).mp c3'
    refine V.aload_n F dX7_next_11 rfl (lv_at hl 0 rfl) ?_
    refine V.getf F hE gX7_16 0 rfl rfl dX7_next_12 ?_
    refine V.aload_n F dX7_next_15 rfl (lv_at hl 0 rfl) ?_
    refine V.getfi F hE gX7_124 0 rfl rfl dX7_next_16 (fun z6 e6 => ?_)
    subst e6
    refine V.iadn (i := P) F hE 3 rfl (by omega) (by omega) dX7_next_19 (fun z7 e7 => ?_)
    refine V.goto (tgt := 24) F dX7_next_20 (by decide) ?_
    exact V.iretR F hr hk dX7_next_24 (by subst e7; first | with_reducible rfl | (simp only [oi1n, nI_add]; done) | (simp only [nxM, eq_true q5, oi1n, nI_add, pk_mul, if_true, if_false, ↓reduceIte]; done) | (simp only [nxM, eq_true q5, oi1n, nI_add, pk_mul, bI, and_true, true_and, and_false, false_and, and_self, not_true_eq_false, not_false_eq_true, if_true, if_false, ↓reduceIte] <;> rfl))
set_option maxHeartbeats 4000000 in
set_option maxRecDepth 100000 in
theorem c_X7_takes (l : Launch) (E : EV) {a : Nat → Nat} {th sm : Int32} {hs : Int64} {s S b w : Nat → Int32} {c : Int32} {L P : Nat} (hP : P < 1000) (hL : L ≤ 60) : Wr l E yX7_takes cX7_takes 3 (some .boolean) 1 20 [.ref (a 0), .int c] (mdW E a th sm (nI L) (nI P) hs s S b w) (mdW E a th sm (nI L) (nI (tkP b L P c)) hs s S b w) (some (.int (bI (nxM b L P = c)))) := by
  refine Wr.mk0 (by decide) (Nat.le_of_ble_eq_true rfl) ?_
  intro pP eE sS mM aA bB mt cC F hr hk hE hN ls hl
  have hl : lv_has ls 3 [(0, .ref (a 0)), (1, .int c)] := hl
  refine V.aload_n F dX7_takes_0 rfl (lv_at hl 0 rfl) ?_
  refine V.rdV (q0 := 0) F hE (c_X7_next l E (P := P) (L := L) (by omega) hL) (kX7_127 F.2.2.2.2 ⟨Nat.le_of_ble_eq_true rfl, Nat.le_of_ble_eq_true rfl⟩) rfl rfl [0, 1, 2, 3, 4] rfl rfl hl.1 (Nat.le_of_ble_eq_true rfl) dX7_takes_1 rfl ?_
  refine V.topi (fun z1 e1 => ?_)
  refine V.iload_n F dX7_takes_4 rfl (lv_at hl 1 rfl) ?_
  refine V.icmp_ne (tgt := 12) F dX7_takes_5 (by decide) (fun c2 => ?_) (fun c2 => ?_)
  · skip
    refine V.iconst (v := nI 0) F dX7_takes_12 (by decide) ?_
    refine V.istore_n (lv' := [(2, .int (nI 0)), (0, .ref (a 0)), (1, .int c)]) F dX7_takes_13 rfl hl (by decide) rfl (fun ls hl => ?_)
    refine V.aload_n F dX7_takes_14 rfl (lv_at hl 1 rfl) ?_
    refine V.dup F dX7_takes_15 rfl ?_
    refine V.getfi F hE gX7_124 0 rfl rfl dX7_takes_16 (fun z3 e3 => ?_)
    subst e3
    refine V.iload_n F dX7_takes_19 rfl (lv_at hl 0 rfl) ?_
    refine V.if_eq (tgt := 27) F dX7_takes_20 (by decide) (fun _ => ?_) (fun h => absurd h (by decide))
    refine V.iconst (v := nI 0) F dX7_takes_27 (by decide) ?_
    refine V.iadd F dX7_takes_28 (fun z5 e5 => ?_)
    obtain rfl : z5 = nI (P + 0) := e5.trans (nI_add _ _)
    refine V.putf (ws' := mdW E a th sm (nI L) (nI (P + 0)) hs s S b w) F hE hN (by rfl) pX7_124 rfl rfl 0 rfl (by exact Nat.le_of_ble_eq_true rfl) dX7_takes_29 rfl ?_
    refine V.iload_n F dX7_takes_32 rfl (lv_at hl 0 rfl) ?_
    exact V.zretW F hr hk dX7_takes_33 (nb_bI _) (by subst e1; first | with_reducible rfl | (simp only [oi1n, nI_add]; done) | (simp only [tkP, c2, oi1n, nI_add, pk_mul, if_true, if_false, ↓reduceIte]; done) | (simp only [tkP, c2, oi1n, nI_add, pk_mul, bI, and_true, true_and, and_false, false_and, and_self, not_true_eq_false, not_false_eq_true, if_true, if_false, ↓reduceIte] <;> rfl)) (by subst e1; first | with_reducible rfl | (simp only [oi1n, nI_add]; done) | (simp only [tkP, c2, oi1n, nI_add, pk_mul, if_true, if_false, ↓reduceIte]; done) | (simp only [tkP, c2, oi1n, nI_add, pk_mul, bI, and_true, true_and, and_false, false_and, and_self, not_true_eq_false, not_false_eq_true, if_true, if_false, ↓reduceIte] <;> rfl))
  · skip
    refine V.iconst (v := nI 1) F dX7_takes_8 (by decide) ?_
    refine V.goto (tgt := 13) F dX7_takes_9 (by decide) ?_
    refine V.istore_n (lv' := [(2, .int (nI 1)), (0, .ref (a 0)), (1, .int c)]) F dX7_takes_13 rfl hl (by decide) rfl (fun ls hl => ?_)
    refine V.aload_n F dX7_takes_14 rfl (lv_at hl 1 rfl) ?_
    refine V.dup F dX7_takes_15 rfl ?_
    refine V.getfi F hE gX7_124 0 rfl rfl dX7_takes_16 (fun z6 e6 => ?_)
    subst e6
    refine V.iload_n F dX7_takes_19 rfl (lv_at hl 0 rfl) ?_
    refine V.if_eq (tgt := 27) F dX7_takes_20 (by decide) (fun h => absurd h (by decide)) (fun _ => ?_)
    refine V.iconst (v := nI 1) F dX7_takes_23 (by decide) ?_
    refine V.goto (tgt := 28) F dX7_takes_24 (by decide) ?_
    refine V.iadd F dX7_takes_28 (fun z8 e8 => ?_)
    obtain rfl : z8 = nI (P + 1) := e8.trans (nI_add _ _)
    refine V.putf (ws' := mdW E a th sm (nI L) (nI (P + 1)) hs s S b w) F hE hN (by rfl) pX7_124 rfl rfl 0 rfl (by exact Nat.le_of_ble_eq_true rfl) dX7_takes_29 rfl ?_
    refine V.iload_n F dX7_takes_32 rfl (lv_at hl 0 rfl) ?_
    exact V.zretW F hr hk dX7_takes_33 (nb_bI _) (by subst e1; first | with_reducible rfl | (simp only [oi1n, nI_add]; done) | (simp only [tkP, eq_true c2, oi1n, nI_add, pk_mul, if_true, if_false, ↓reduceIte]; done) | (simp only [tkP, eq_true c2, oi1n, nI_add, pk_mul, bI, and_true, true_and, and_false, false_and, and_self, not_true_eq_false, not_false_eq_true, if_true, if_false, ↓reduceIte] <;> rfl)) (by subst e1; first | with_reducible rfl | (simp only [oi1n, nI_add]; done) | (simp only [tkP, eq_true c2, oi1n, nI_add, pk_mul, if_true, if_false, ↓reduceIte]; done) | (simp only [tkP, eq_true c2, oi1n, nI_add, pk_mul, bI, and_true, true_and, and_false, false_and, and_self, not_true_eq_false, not_false_eq_true, if_true, if_false, ↓reduceIte] <;> rfl))
set_option maxHeartbeats 4000000 in
set_option maxRecDepth 100000 in
theorem c_X7_readsDigit (l : Launch) (E : EV) {a : Nat → Nat} {th sm : Int32} {hs : Int64} {s S b w : Nat → Int32} {lo hi : Int32} {k : Nat} {L P : Nat} (hP : P < 1000) (hL : L ≤ 60) (hk : k < 3) : Wr l E yX7_readsDigit cX7_readsDigit 6 (some .boolean) 1 22 [.ref (a 0), .int (nI k), .int lo, .int hi] (mdW E a th sm (nI L) (nI P) hs s S b w) (mdW E a th sm (nI L) (nI (rgP b L P lo hi)) hs s S b (upd w k (dtM b L P))) (some (.int (bI (lo ≤ dtM b L P ∧ dtM b L P ≤ hi)))) := by
  refine Wr.mk0 (by decide) (Nat.le_of_ble_eq_true rfl) ?_
  intro pP eE sS mM aA bB mt cC F hr hk hE hN ls hl
  have hl : lv_has ls 6 [(0, .ref (a 0)), (1, .int (nI k)), (2, .int lo), (3, .int hi)] := hl
  refine V.aload_n F dX7_readsDigit_0 rfl (lv_at hl 0 rfl) ?_
  refine V.rdV (q0 := 0) F hE (c_X7_next l E (P := P) (L := L) (by omega) hL) (kX7_127 F.2.2.2.2 ⟨Nat.le_of_ble_eq_true rfl, Nat.le_of_ble_eq_true rfl⟩) rfl rfl [0, 1, 2, 3, 4] rfl rfl hl.1 (Nat.le_of_ble_eq_true rfl) dX7_readsDigit_1 rfl ?_
  refine V.topi (fun z1 e1 => ?_)
  refine V.bipush (v := nI 48) F dX7_readsDigit_4 (by decide) ?_
  refine V.isub F dX7_readsDigit_6 (fun z2 e2 => ?_)
  refine V.istore (lv' := [(4, .int z2), (0, .ref (a 0)), (1, .int (nI k)), (2, .int lo), (3, .int hi)]) F dX7_readsDigit_7 hl (by decide) rfl (fun ls hl => ?_)
  refine V.iload F dX7_readsDigit_9 (lv_at hl 0 rfl) ?_
  refine V.iload_n F dX7_readsDigit_11 rfl (lv_at hl 3 rfl) ?_
  refine V.iload_n F dX7_readsDigit_12 rfl (lv_at hl 4 rfl) ?_
  refine V.rdS F hE (c_X7_within l E) (kX7_26 F.2.2.2.2 ⟨Nat.le_of_ble_eq_true rfl, Nat.le_of_ble_eq_true rfl⟩) [] rfl rfl hl.1 (Nat.le_of_ble_eq_true rfl) dX7_readsDigit_13 rfl ?_
  refine V.topi (fun z3 e3 => ?_)
  refine V.istore (lv' := [(5, .int z3), (4, .int z2), (0, .ref (a 0)), (1, .int (nI k)), (2, .int lo), (3, .int hi)]) F dX7_readsDigit_16 hl (by decide) rfl (fun ls hl => ?_)
  refine V.aload_n F dX7_readsDigit_18 rfl (lv_at hl 2 rfl) ?_
  refine V.getf F hE gX7_19 0 rfl rfl dX7_readsDigit_19 ?_
  refine V.iload_n F dX7_readsDigit_22 rfl (lv_at hl 3 rfl) ?_
  refine V.iload F dX7_readsDigit_23 (lv_at hl 1 rfl) ?_
  refine V.isn (i := k) (ws' := mdW E a th sm (nI L) (nI P) hs s S b (upd w k z2)) F hE hN (by rfl) 4 rfl (by omega) (by omega) dX7_readsDigit_25 rfl ?_
  refine V.aload_n F dX7_readsDigit_26 rfl (lv_at hl 2 rfl) ?_
  refine V.dup F dX7_readsDigit_27 rfl ?_
  refine V.getfi F hE gX7_124 0 rfl rfl dX7_readsDigit_28 (fun z4 e4 => ?_)
  subst e4
  refine V.iload F dX7_readsDigit_31 (lv_at hl 0 rfl) ?_
  refine V.if_eqB (tgt := 40) F e3 dX7_readsDigit_33 (by decide) (fun c5 => ?_) (fun c5 => ?_)
  · skip
    refine V.iconst (v := nI 0) F dX7_readsDigit_40 (by decide) ?_
    refine V.iadd F dX7_readsDigit_41 (fun z6 e6 => ?_)
    obtain rfl : z6 = nI (P + 0) := e6.trans (nI_add _ _)
    refine V.putf (ws' := mdW E a th sm (nI L) (nI (P + 0)) hs s S b (upd w k z2)) F hE hN (by rfl) pX7_124 rfl rfl 0 rfl (by exact Nat.le_of_ble_eq_true rfl) dX7_readsDigit_42 rfl ?_
    refine V.iload F dX7_readsDigit_45 (lv_at hl 0 rfl) ?_
    exact V.zretW F hr hk dX7_readsDigit_47 (nb_bI _) (by subst e1 e2 e3; first | with_reducible rfl | (simp only [oi1n, nI_add]; done) | (simp only [dtM]; done) | (simp only [dtM, rgP, c5, oi1n, nI_add, pk_mul, if_true, if_false, ↓reduceIte]; done) | (simp only [dtM, rgP, c5, oi1n, nI_add, pk_mul, bI, and_true, true_and, and_false, false_and, and_self, not_true_eq_false, not_false_eq_true, if_true, if_false, ↓reduceIte] <;> rfl)) (by subst e1 e2 e3; first | with_reducible rfl | (simp only [oi1n, nI_add]; done) | (simp only [dtM]; done) | (simp only [dtM, rgP, c5, oi1n, nI_add, pk_mul, if_true, if_false, ↓reduceIte]; done) | (simp only [dtM, rgP, c5, oi1n, nI_add, pk_mul, bI, and_true, true_and, and_false, false_and, and_self, not_true_eq_false, not_false_eq_true, if_true, if_false, ↓reduceIte] <;> rfl))
  · skip
    refine V.iconst (v := nI 1) F dX7_readsDigit_36 (by decide) ?_
    refine V.goto (tgt := 41) F dX7_readsDigit_37 (by decide) ?_
    refine V.iadd F dX7_readsDigit_41 (fun z7 e7 => ?_)
    obtain rfl : z7 = nI (P + 1) := e7.trans (nI_add _ _)
    refine V.putf (ws' := mdW E a th sm (nI L) (nI (P + 1)) hs s S b (upd w k z2)) F hE hN (by rfl) pX7_124 rfl rfl 0 rfl (by exact Nat.le_of_ble_eq_true rfl) dX7_readsDigit_42 rfl ?_
    refine V.iload F dX7_readsDigit_45 (lv_at hl 0 rfl) ?_
    exact V.zretW F hr hk dX7_readsDigit_47 (nb_bI _) (by subst e1 e2 e3; first | with_reducible rfl | (simp only [oi1n, nI_add]; done) | (simp only [dtM]; done) | (simp only [dtM, rgP, eq_true c5, oi1n, nI_add, pk_mul, if_true, if_false, ↓reduceIte]; done) | (simp only [dtM, rgP, eq_true c5, oi1n, nI_add, pk_mul, bI, and_true, true_and, and_false, false_and, and_self, not_true_eq_false, not_false_eq_true, if_true, if_false, ↓reduceIte] <;> rfl)) (by subst e1 e2 e3; first | with_reducible rfl | (simp only [oi1n, nI_add]; done) | (simp only [dtM]; done) | (simp only [dtM, rgP, eq_true c5, oi1n, nI_add, pk_mul, if_true, if_false, ↓reduceIte]; done) | (simp only [dtM, rgP, eq_true c5, oi1n, nI_add, pk_mul, bI, and_true, true_and, and_false, false_and, and_self, not_true_eq_false, not_false_eq_true, if_true, if_false, ↓reduceIte] <;> rfl))
