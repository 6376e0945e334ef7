set_option maxHeartbeats 4000000 in
set_option maxRecDepth 100000 in
theorem c_L_low (l : Launch) (E : EV) {x : Int32} {n : Nat} (hn0 : 0 < n) (hn1 : n < 2 ^ 31) : Rd l E yL_low cL_low 2 (some .int) 0 0 [.int x, .int (nI n)] ([]) (some (.int (nI (lowN x n)))) := by
  refine Rd.mk0 (by decide) (Nat.le_of_ble_eq_true rfl) ?_
  intro pP eE sS mM aA bB mt cC F hr hk hE ls hl
  have hl : lv_has ls 2 [(0, .int x), (1, .int (nI n))] := hl
  refine V.iload_n F dL_low_0 rfl (lv_at hl 0 rfl) ?_
  refine V.ldc F cL_9 dL_low_1 ?_
  refine V.iand F dL_low_3 (fun z1 e1 => ?_)
  obtain rfl : z1 = nI (x.toBitVec.toNat % 2 ^ 31) := e1.trans (pk_and x 31 (by decide))
  refine V.iload_n F dL_low_4 rfl (lv_at hl 1 rfl) ?_
  refine V.irem F dL_low_5 (nI_ne0 hn0 hn1) (fun z2 e2 => ?_)
  obtain rfl : z2 = nI (lowN x n) := e2.trans (pk_rem (Nat.mod_lt _ (by decide)) hn0 hn1)
  exact V.iretR F hr hk dL_low_6 (by first | with_reducible rfl | (simp only [oi1n, nI_add, pk_mul, bI, and_true, true_and, and_false, false_and, and_self, or_true, true_or, or_false, false_or, or_self, not_true_eq_false, not_false_eq_true, if_true, if_false, ↓reduceIte] <;> rfl) | rfl | (simp [bI, oi1, nI_succ]; done))
set_option maxHeartbeats 4000000 in
set_option maxRecDepth 100000 in
theorem c_L_bars (l : Launch) (E : EV) {k : Int32} : Rd l E yL_bars cL_bars 1 (some .int) 0 0 [.int k] ([]) (some (.int (bpM k))) := by
  refine Rd.mk0 (by decide) (Nat.le_of_ble_eq_true rfl) ?_
  intro pP eE sS mM aA bB mt cC F hr hk hE ls hl
  have hl : lv_has ls 1 [(0, .int k)] := hl
  refine V.iload_n F dL_bars_0 rfl (lv_at hl 0 rfl) ?_
  refine V.if_ne (tgt := 8) F dL_bars_1 (by decide) (fun c1 => ?_) (fun c1 => ?_)
  · skip
    refine V.iload_n F dL_bars_8 rfl (lv_at hl 0 rfl) ?_
    refine V.iconst (v := nI 1) F dL_bars_9 (by decide) ?_
    refine V.icmp_ne (tgt := 18) F dL_bars_10 (by decide) (fun c2 => ?_) (fun c2 => ?_)
    · skip
      refine V.iload_n F dL_bars_18 rfl (lv_at hl 0 rfl) ?_
      refine V.iconst (v := nI 2) F dL_bars_19 (by decide) ?_
      refine V.icmp_ne (tgt := 28) F dL_bars_20 (by decide) (fun c3 => ?_) (fun c3 => ?_)
      · skip
        refine V.iload_n F dL_bars_28 rfl (lv_at hl 0 rfl) ?_
        refine V.iconst (v := nI 3) F dL_bars_29 (by decide) ?_
        refine V.icmp_ne (tgt := 38) F dL_bars_30 (by decide) (fun c4 => ?_) (fun c4 => ?_)
        · skip
          refine V.iload_n F dL_bars_38 rfl (lv_at hl 0 rfl) ?_
          refine V.iconst (v := nI 4) F dL_bars_39 (by decide) ?_
          refine V.icmp_ne (tgt := 48) F dL_bars_40 (by decide) (fun c5 => ?_) (fun c5 => ?_)
          · skip
            refine V.bipush (v := nI 35) F dL_bars_48 (by decide) ?_
            exact V.iretR F hr hk dL_bars_50 (by first | with_reducible rfl | (simp only [bpM, c1, c2, c3, c4, c5, oi1n, nI_add, pk_mul, bI, and_true, true_and, and_false, false_and, and_self, or_true, true_or, or_false, false_or, or_self, not_true_eq_false, not_false_eq_true, if_true, if_false, ↓reduceIte] <;> rfl) | rfl | (simp [bpM, c1, c2, c3, c4, c5, bI, oi1, nI_succ]; done))
          · skip
            refine V.bipush (v := nI 32) F dL_bars_43 (by decide) ?_
            refine V.goto (tgt := 50) F dL_bars_45 (by decide) ?_
            exact V.iretR F hr hk dL_bars_50 (by first | with_reducible rfl | (simp only [bpM, c1, c2, c3, c4, eq_true c5, oi1n, nI_add, pk_mul, bI, and_true, true_and, and_false, false_and, and_self, or_true, true_or, or_false, false_or, or_self, not_true_eq_false, not_false_eq_true, if_true, if_false, ↓reduceIte] <;> rfl) | rfl | (simp [bpM, c1, c2, c3, c4, eq_true c5, bI, oi1, nI_succ]; done))
        · skip
          refine V.bipush (v := nI 48) F dL_bars_33 (by decide) ?_
          refine V.goto (tgt := 50) F dL_bars_35 (by decide) ?_
          exact V.iretR F hr hk dL_bars_50 (by first | with_reducible rfl | (simp only [bpM, c1, c2, c3, eq_true c4, oi1n, nI_add, pk_mul, bI, and_true, true_and, and_false, false_and, and_self, or_true, true_or, or_false, false_or, or_self, not_true_eq_false, not_false_eq_true, if_true, if_false, ↓reduceIte] <;> rfl) | rfl | (simp [bpM, c1, c2, c3, eq_true c4, bI, oi1, nI_succ]; done))
      · skip
        refine V.bipush (v := nI 63) F dL_bars_23 (by decide) ?_
        refine V.goto (tgt := 50) F dL_bars_25 (by decide) ?_
        exact V.iretR F hr hk dL_bars_50 (by first | with_reducible rfl | (simp only [bpM, c1, c2, eq_true c3, oi1n, nI_add, pk_mul, bI, and_true, true_and, and_false, false_and, and_self, or_true, true_or, or_false, false_or, or_self, not_true_eq_false, not_false_eq_true, if_true, if_false, ↓reduceIte] <;> rfl) | rfl | (simp [bpM, c1, c2, eq_true c3, bI, oi1, nI_succ]; done))
    · skip
      refine V.bipush (v := nI 28) F dL_bars_13 (by decide) ?_
      refine V.goto (tgt := 50) F dL_bars_15 (by decide) ?_
      exact V.iretR F hr hk dL_bars_50 (by first | with_reducible rfl | (simp only [bpM, c1, eq_true c2, oi1n, nI_add, pk_mul, bI, and_true, true_and, and_false, false_and, and_self, or_true, true_or, or_false, false_or, or_self, not_true_eq_false, not_false_eq_true, if_true, if_false, ↓reduceIte] <;> rfl) | rfl | (simp [bpM, c1, eq_true c2, bI, oi1, nI_succ]; done))
  · skip
    refine V.iconst (v := nI 3) F dL_bars_4 (by decide) ?_
    refine V.goto (tgt := 50) F dL_bars_5 (by decide) ?_
    exact V.iretR F hr hk dL_bars_50 (by first | with_reducible rfl | (simp only [bpM, eq_true c1, oi1n, nI_add, pk_mul, bI, and_true, true_and, and_false, false_and, and_self, or_true, true_or, or_false, false_or, or_self, not_true_eq_false, not_false_eq_true, if_true, if_false, ↓reduceIte] <;> rfl) | rfl | (simp [bpM, eq_true c1, bI, oi1, nI_succ]; done))
set_option maxHeartbeats 4000000 in
set_option maxRecDepth 100000 in
theorem c_L_lasts (l : Launch) (E : EV) {k : Int32} : Rd l E yL_lasts cL_lasts 1 (some .int) 0 0 [.int k] ([]) (some (.int (cdM k))) := by
  refine Rd.mk0 (by decide) (Nat.le_of_ble_eq_true rfl) ?_
  intro pP eE sS mM aA bB mt cC F hr hk hE ls hl
  have hl : lv_has ls 1 [(0, .int k)] := hl
  refine V.iload_n F dL_lasts_0 rfl (lv_at hl 0 rfl) ?_
  refine V.if_ne (tgt := 9) F dL_lasts_1 (by decide) (fun c1 => ?_) (fun c1 => ?_)
  · skip
    refine V.iload_n F dL_lasts_9 rfl (lv_at hl 0 rfl) ?_
    refine V.iconst (v := nI 1) F dL_lasts_10 (by decide) ?_
    refine V.icmp_ne (tgt := 19) F dL_lasts_11 (by decide) (fun c2 => ?_) (fun c2 => ?_)
    · skip
      refine V.iload_n F dL_lasts_19 rfl (lv_at hl 0 rfl) ?_
      refine V.iconst (v := nI 2) F dL_lasts_20 (by decide) ?_
      refine V.icmp_ne (tgt := 29) F dL_lasts_21 (by decide) (fun c3 => ?_) (fun c3 => ?_)
      · skip
        refine V.iload_n F dL_lasts_29 rfl (lv_at hl 0 rfl) ?_
        refine V.iconst (v := nI 3) F dL_lasts_30 (by decide) ?_
        refine V.icmp_ne (tgt := 39) F dL_lasts_31 (by decide) (fun c4 => ?_) (fun c4 => ?_)
        · skip
          refine V.iload_n F dL_lasts_39 rfl (lv_at hl 0 rfl) ?_
          refine V.iconst (v := nI 4) F dL_lasts_40 (by decide) ?_
          refine V.icmp_ne (tgt := 49) F dL_lasts_41 (by decide) (fun c5 => ?_) (fun c5 => ?_)
          · skip
            refine V.bipush (v := nI 25) F dL_lasts_49 (by decide) ?_
            exact V.iretR F hr hk dL_lasts_51 (by first | with_reducible rfl | (simp only [cdM, c1, c2, c3, c4, c5, oi1n, nI_add, pk_mul, bI, and_true, true_and, and_false, false_and, and_self, or_true, true_or, or_false, false_or, or_self, not_true_eq_false, not_false_eq_true, if_true, if_false, ↓reduceIte] <;> rfl) | rfl | (simp [cdM, c1, c2, c3, c4, c5, bI, oi1, nI_succ]; done))
          · skip
            refine V.bipush (v := nI 30) F dL_lasts_44 (by decide) ?_
            refine V.goto (tgt := 51) F dL_lasts_46 (by decide) ?_
            exact V.iretR F hr hk dL_lasts_51 (by first | with_reducible rfl | (simp only [cdM, c1, c2, c3, c4, eq_true c5, oi1n, nI_add, pk_mul, bI, and_true, true_and, and_false, false_and, and_self, or_true, true_or, or_false, false_or, or_self, not_true_eq_false, not_false_eq_true, if_true, if_false, ↓reduceIte] <;> rfl) | rfl | (simp [cdM, c1, c2, c3, c4, eq_true c5, bI, oi1, nI_succ]; done))
        · skip
          refine V.bipush (v := nI 12) F dL_lasts_34 (by decide) ?_
          refine V.goto (tgt := 51) F dL_lasts_36 (by decide) ?_
          exact V.iretR F hr hk dL_lasts_51 (by first | with_reducible rfl | (simp only [cdM, c1, c2, c3, eq_true c4, oi1n, nI_add, pk_mul, bI, and_true, true_and, and_false, false_and, and_self, or_true, true_or, or_false, false_or, or_self, not_true_eq_false, not_false_eq_true, if_true, if_false, ↓reduceIte] <;> rfl) | rfl | (simp [cdM, c1, c2, c3, eq_true c4, bI, oi1, nI_succ]; done))
      · skip
        refine V.bipush (v := nI 10) F dL_lasts_24 (by decide) ?_
        refine V.goto (tgt := 51) F dL_lasts_26 (by decide) ?_
        exact V.iretR F hr hk dL_lasts_51 (by first | with_reducible rfl | (simp only [cdM, c1, c2, eq_true c3, oi1n, nI_add, pk_mul, bI, and_true, true_and, and_false, false_and, and_self, or_true, true_or, or_false, false_or, or_self, not_true_eq_false, not_false_eq_true, if_true, if_false, ↓reduceIte] <;> rfl) | rfl | (simp [cdM, c1, c2, eq_true c3, bI, oi1, nI_succ]; done))
    · skip
      refine V.bipush (v := nI 15) F dL_lasts_14 (by decide) ?_
      refine V.goto (tgt := 51) F dL_lasts_16 (by decide) ?_
      exact V.iretR F hr hk dL_lasts_51 (by first | with_reducible rfl | (simp only [cdM, c1, eq_true c2, oi1n, nI_add, pk_mul, bI, and_true, true_and, and_false, false_and, and_self, or_true, true_or, or_false, false_or, or_self, not_true_eq_false, not_false_eq_true, if_true, if_false, ↓reduceIte] <;> rfl) | rfl | (simp [cdM, c1, eq_true c2, bI, oi1, nI_succ]; done))
  · skip
    refine V.bipush (v := nI 20) F dL_lasts_4 (by decide) ?_
    refine V.goto (tgt := 51) F dL_lasts_6 (by decide) ?_
    exact V.iretR F hr hk dL_lasts_51 (by first | with_reducible rfl | (simp only [cdM, eq_true c1, oi1n, nI_add, pk_mul, bI, and_true, true_and, and_false, false_and, and_self, or_true, true_or, or_false, false_or, or_self, not_true_eq_false, not_false_eq_true, if_true, if_false, ↓reduceIte] <;> rfl) | rfl | (simp [cdM, eq_true c1, bI, oi1, nI_succ]; done))
set_option maxHeartbeats 4000000 in
set_option maxRecDepth 100000 in
theorem c_L_needs (l : Launch) (E : EV) {k w : Int32} : Rd l E yL_needs cL_needs 2 (some .int) 0 0 [.int k, .int w] ([]) (some (.int (ndM k w))) := by
  refine Rd.mk0 (by decide) (Nat.le_of_ble_eq_true rfl) ?_
  intro pP eE sS mM aA bB mt cC F hr hk hE ls hl
  have hl : lv_has ls 2 [(0, .int k), (1, .int w)] := hl
  refine V.iload_n F dL_needs_0 rfl (lv_at hl 0 rfl) ?_
  refine V.iconst (v := nI 1) F dL_needs_1 (by decide) ?_
  refine V.icmp_ne (tgt := 11) F dL_needs_2 (by decide) (fun c1 => ?_) (fun c1 => ?_)
  · skip
    refine V.iload_n F dL_needs_11 rfl (lv_at hl 0 rfl) ?_
    refine V.iconst (v := nI 2) F dL_needs_12 (by decide) ?_
    refine V.icmp_ne (tgt := 22) F dL_needs_13 (by decide) (fun c2 => ?_) (fun c2 => ?_)
    · skip
      refine V.iload_n F dL_needs_22 rfl (lv_at hl 0 rfl) ?_
      refine V.iconst (v := nI 3) F dL_needs_23 (by decide) ?_
      refine V.icmp_ne (tgt := 33) F dL_needs_24 (by decide) (fun c3 => ?_) (fun c3 => ?_)
      · skip
        refine V.iload_n F dL_needs_33 rfl (lv_at hl 0 rfl) ?_
        refine V.iconst (v := nI 4) F dL_needs_34 (by decide) ?_
        refine V.icmp_ne (tgt := 46) F dL_needs_35 (by decide) (fun c4 => ?_) (fun c4 => ?_)
        · skip
          refine V.iload_n F dL_needs_46 rfl (lv_at hl 1 rfl) ?_
          exact V.iretR F hr hk dL_needs_47 (by first | with_reducible rfl | (simp only [ndM, c1, c2, c3, c4, oi1n, nI_add, pk_mul, bI, and_true, true_and, and_false, false_and, and_self, or_true, true_or, or_false, false_or, or_self, not_true_eq_false, not_false_eq_true, if_true, if_false, ↓reduceIte] <;> rfl) | rfl | (simp [ndM, c1, c2, c3, c4, bI, oi1, nI_succ]; done))
        · skip
          refine V.iload_n F dL_needs_38 rfl (lv_at hl 1 rfl) ?_
          refine V.iconst (v := nI 2) F dL_needs_39 (by decide) ?_
          refine V.idiv F dL_needs_40 (by decide) (fun z5 e5 => ?_)
          refine V.iconst (v := nI 1) F dL_needs_41 (by decide) ?_
          refine V.iadd F dL_needs_42 (fun z6 e6 => ?_)
          refine V.goto (tgt := 47) F dL_needs_43 (by decide) ?_
          exact V.iretR F hr hk dL_needs_47 (by subst e5 e6; first | with_reducible rfl | (simp only [ndM, c1, c2, c3, eq_true c4, oi1n, nI_add, pk_mul, bI, and_true, true_and, and_false, false_and, and_self, or_true, true_or, or_false, false_or, or_self, not_true_eq_false, not_false_eq_true, if_true, if_false, ↓reduceIte] <;> rfl) | rfl | (simp [ndM, c1, c2, c3, eq_true c4, bI, oi1, nI_succ]; done))
      · skip
        refine V.iload_n F dL_needs_27 rfl (lv_at hl 1 rfl) ?_
        refine V.iconst (v := nI 2) F dL_needs_28 (by decide) ?_
        refine V.iadd F dL_needs_29 (fun z7 e7 => ?_)
        refine V.goto (tgt := 47) F dL_needs_30 (by decide) ?_
        exact V.iretR F hr hk dL_needs_47 (by subst e7; first | with_reducible rfl | (simp only [ndM, c1, c2, eq_true c3, oi1n, nI_add, pk_mul, bI, and_true, true_and, and_false, false_and, and_self, or_true, true_or, or_false, false_or, or_self, not_true_eq_false, not_false_eq_true, if_true, if_false, ↓reduceIte] <;> rfl) | rfl | (simp [ndM, c1, c2, eq_true c3, bI, oi1, nI_succ]; done))
    · skip
      refine V.iconst (v := nI 2) F dL_needs_16 (by decide) ?_
      refine V.iload_n F dL_needs_17 rfl (lv_at hl 1 rfl) ?_
      refine V.imul F dL_needs_18 (fun z8 e8 => ?_)
      refine V.goto (tgt := 47) F dL_needs_19 (by decide) ?_
      exact V.iretR F hr hk dL_needs_47 (by subst e8; first | with_reducible rfl | (simp only [ndM, c1, eq_true c2, oi1n, nI_add, pk_mul, bI, and_true, true_and, and_false, false_and, and_self, or_true, true_or, or_false, false_or, or_self, not_true_eq_false, not_false_eq_true, if_true, if_false, ↓reduceIte] <;> rfl) | rfl | (simp [ndM, c1, eq_true c2, bI, oi1, nI_succ]; done))
  · skip
    refine V.iload_n F dL_needs_5 rfl (lv_at hl 1 rfl) ?_
    refine V.iconst (v := nI 1) F dL_needs_6 (by decide) ?_
    refine V.iadd F dL_needs_7 (fun z9 e9 => ?_)
    refine V.goto (tgt := 47) F dL_needs_8 (by decide) ?_
    exact V.iretR F hr hk dL_needs_47 (by subst e9; first | with_reducible rfl | (simp only [ndM, eq_true c1, oi1n, nI_add, pk_mul, bI, and_true, true_and, and_false, false_and, and_self, or_true, true_or, or_false, false_or, or_self, not_true_eq_false, not_false_eq_true, if_true, if_false, ↓reduceIte] <;> rfl) | rfl | (simp [ndM, eq_true c1, bI, oi1, nI_succ]; done))
set_option maxHeartbeats 4000000 in
set_option maxRecDepth 100000 in
theorem c_L_hurtParts (l : Launch) (E : EV) {u1 u6 : Nat} {qs hs : Nat → Int32} {p : Int32} {H : Nat} (hH : qs 9 = nI H) (hH12 : H ≤ 12) : Rd l E yL_hurtParts cL_hurtParts 6 (some .int) 0 0 [.int p, .ref u1, .ref u6] ([rw_ E u1 10 qs, rw_ E u6 12 hs]) (some (.int (hpL hs (qs 0) p H))) := by
  refine Rd.mk0 (by decide) (Nat.le_of_ble_eq_true rfl) ?_
  intro pP eE sS mM aA bB mt cC F hr hk hE ls hl
  have hl : lv_has ls 6 [(0, .int p), (1, .ref u1), (2, .ref u6)] := hl
  refine V.iconst (v := nI 0) F dL_hurtParts_0 (by decide) ?_
  refine V.istore_n (lv' := [(3, .int (nI 0)), (0, .int p), (1, .ref u1), (2, .ref u6)]) F dL_hurtParts_1 rfl hl (by decide) rfl (fun ls hl => ?_)
  refine V.iconst (v := nI 0) F dL_hurtParts_2 (by decide) ?_
  refine V.istore (lv' := [(4, .int (nI 0)), (3, .int (nI 0)), (0, .int p), (1, .ref u1), (2, .ref u6)]) F dL_hurtParts_3 hl (by decide) rfl (fun ls hl => ?_)
  have h2 : nI 0 = nI 0 := (by first | with_reducible rfl | (simp only [hpL, oi1n, nI_add, pk_mul, bI, and_true, true_and, and_false, false_and, and_self, or_true, true_or, or_false, false_or, or_self, not_true_eq_false, not_false_eq_true, if_true, if_false, ↓reduceIte] <;> rfl) | rfl | (simp [hpL, bI, oi1, nI_succ]; done))
  have h3 : hpL hs (qs 0) p 0 = nI 0 := (by first | with_reducible rfl | (simp only [hpL, oi1n, nI_add, pk_mul, bI, and_true, true_and, and_false, false_and, and_self, or_true, true_or, or_false, false_or, or_self, not_true_eq_false, not_false_eq_true, if_true, if_false, ↓reduceIte] <;> rfl) | rfl | (simp [hpL, bI, oi1, nI_succ]; done))
  refine V.loop (N := H) (k0 := 0) (I := (fun j1 : Nat => [(4, .int (nI j1)), (3, .int (hpL hs (qs 0) p j1)), (0, .int p), (1, .ref u1), (2, .ref u6)])) (J := fun _ => True) (Nat.zero_le _) trivial (lv_sub hl [0, 1, 2, 3, 4] (by rw [h2, h3]; rfl)) ?_
  intro j1 j1_N j1_J ihj1 ls hl
  have hl : lv_has ls 6 [(4, .int (nI j1)), (3, .int (hpL hs (qs 0) p j1)), (0, .int p), (1, .ref u1), (2, .ref u6)] := hl
  refine V.iload F dL_hurtParts_5 (lv_at hl 0 rfl) ?_
  refine V.aload_n F dL_hurtParts_7 rfl (lv_at hl 3 rfl) ?_
  refine V.bipush (v := nI 9) F dL_hurtParts_8 (by decide) ?_
  refine V.iadn (i := 9) F hE 0 rfl (by omega) (by omega) dL_hurtParts_10 (fun z4 e4 => ?_)
  obtain rfl : z4 = nI H := e4.trans hH
  refine V.icmp_ge (tgt := 89) F dL_hurtParts_11 (by decide) (fun c5 c5' => ?_) (fun c5 c5' => ?_)
  · skip
    have j1_eq := ((lpL rfl (by omega) j1_N).1 c5).symm
    subst j1_eq
    refine V.iload_n F dL_hurtParts_89 rfl (lv_at hl 1 rfl) ?_
    exact V.iretR F hr hk dL_hurtParts_90 (by first | with_reducible rfl | (simp only [hpL, c5, c5', oi1n, nI_add, pk_mul, bI, and_true, true_and, and_false, false_and, and_self, or_true, true_or, or_false, false_or, or_self, not_true_eq_false, not_false_eq_true, if_true, if_false, ↓reduceIte] <;> rfl) | rfl | (simp [hpL, c5, c5', bI, oi1, nI_succ]; done))
  · skip
    have j1_lt := (lpL rfl (by omega) j1_N).2 c5
    refine V.aload_n F dL_hurtParts_14 rfl (lv_at hl 4 rfl) ?_
    refine V.iload F dL_hurtParts_15 (lv_at hl 0 rfl) ?_
    refine V.iadn (i := j1) F hE 1 rfl (by omega) (by omega) dL_hurtParts_17 (fun z6 e6 => ?_)
    refine V.bipush (v := nI 7) F dL_hurtParts_18 (by decide) ?_
    refine V.iand F dL_hurtParts_20 (fun z7 e7 => ?_)
    refine V.iload_n F dL_hurtParts_21 rfl (lv_at hl 2 rfl) ?_
    refine V.icmp_ne (tgt := 59) F dL_hurtParts_22 (by decide) (fun c8 => ?_) (fun c8 => ?_)
    · skip
      refine V.iconst (v := nI 0) F dL_hurtParts_59 (by decide) ?_
      refine V.istore (lv' := [(5, .int (nI 0)), (4, .int (nI j1)), (3, .int (hpL hs (qs 0) p j1)), (0, .int p), (1, .ref u1), (2, .ref u6)]) F dL_hurtParts_60 hl (by decide) rfl (fun ls hl => ?_)
      refine V.iload_n F dL_hurtParts_62 rfl (lv_at hl 2 rfl) ?_
      refine V.iload F dL_hurtParts_63 (lv_at hl 0 rfl) ?_
      refine V.if_eq (tgt := 80) F dL_hurtParts_65 (by decide) (fun _ => ?_) (fun h => absurd h (by decide))
      refine V.iconst (v := nI 0) F dL_hurtParts_80 (by decide) ?_
      refine V.ior F dL_hurtParts_81 (fun z10 e10 => ?_)
      refine V.istore_n (lv' := [(3, .int z10), (5, .int (nI 0)), (4, .int (nI j1)), (0, .int p), (1, .ref u1), (2, .ref u6)]) F dL_hurtParts_82 rfl hl (by decide) rfl (fun ls hl => ?_)
      refine V.iinc (j := 2) (lv' := fun z11 => [(4, .int z11), (3, .int z10), (5, .int (nI 0)), (0, .int p), (1, .ref u1), (2, .ref u6)]) F dL_hurtParts_83 hl rfl (by decide) (fun _ => rfl) (fun z11 e11 ls hl => ?_)
      refine V.goto (tgt := 5) F dL_hurtParts_86 (by decide) ?_
      have h12 : nI (j1 + 1) = z11 := (by subst e6 e7 e10 e11; first | with_reducible rfl | (simp only [hpL, c5, c5', c8, oi1n, nI_add, pk_mul, bI, and_true, true_and, and_false, false_and, and_self, or_true, true_or, or_false, false_or, or_self, not_true_eq_false, not_false_eq_true, if_true, if_false, ↓reduceIte] <;> rfl) | rfl | (simp [hpL, c5, c5', c8, bI, oi1, nI_succ]; done))
      have h13 : hpL hs (qs 0) p (j1 + 1) = z10 := (by subst e6 e7 e10 e11; first | with_reducible rfl | (simp only [hpL, c5, c5', c8, oi1n, nI_add, pk_mul, bI, and_true, true_and, and_false, false_and, and_self, or_true, true_or, or_false, false_or, or_self, not_true_eq_false, not_false_eq_true, if_true, if_false, ↓reduceIte] <;> rfl) | rfl | (simp [hpL, c5, c5', c8, bI, oi1, nI_succ]; done))
      exact ihj1 j1_lt trivial _ (lv_sub hl [0, 1, 3, 4, 5] (by rw [h12, h13]; rfl))
    · skip
      refine V.aload_n F dL_hurtParts_25 rfl (lv_at hl 4 rfl) ?_
      refine V.iload F dL_hurtParts_26 (lv_at hl 0 rfl) ?_
      refine V.iadn (i := j1) F hE 1 rfl (by omega) (by omega) dL_hurtParts_28 (fun z14 e14 => ?_)
      refine V.bipush (v := nI 9) F dL_hurtParts_29 (by decide) ?_
      refine V.ishr F dL_hurtParts_31 (fun z15 e15 => ?_)
      refine V.sipush (v := nI 1023) F dL_hurtParts_32 (by decide) ?_
      refine V.iand F dL_hurtParts_35 (fun z16 e16 => ?_)
      refine V.aload_n F dL_hurtParts_36 rfl (lv_at hl 3 rfl) ?_
      refine V.iconst (v := nI 0) F dL_hurtParts_37 (by decide) ?_
      refine V.iadn (i := 0) F hE 0 rfl (by omega) (by omega) dL_hurtParts_38 (fun z17 e17 => ?_)
      refine V.icmp_gt (tgt := 59) F dL_hurtParts_39 (by decide) (fun c18 c18' => ?_) (fun c18 c18' => ?_)
      · skip
        refine V.iconst (v := nI 0) F dL_hurtParts_59 (by decide) ?_
        refine V.istore (lv' := [(5, .int (nI 0)), (4, .int (nI j1)), (3, .int (hpL hs (qs 0) p j1)), (0, .int p), (1, .ref u1), (2, .ref u6)]) F dL_hurtParts_60 hl (by decide) rfl (fun ls hl => ?_)
        refine V.iload_n F dL_hurtParts_62 rfl (lv_at hl 2 rfl) ?_
        refine V.iload F dL_hurtParts_63 (lv_at hl 0 rfl) ?_
        refine V.if_eq (tgt := 80) F dL_hurtParts_65 (by decide) (fun _ => ?_) (fun h => absurd h (by decide))
        refine V.iconst (v := nI 0) F dL_hurtParts_80 (by decide) ?_
        refine V.ior F dL_hurtParts_81 (fun z20 e20 => ?_)
        refine V.istore_n (lv' := [(3, .int z20), (5, .int (nI 0)), (4, .int (nI j1)), (0, .int p), (1, .ref u1), (2, .ref u6)]) F dL_hurtParts_82 rfl hl (by decide) rfl (fun ls hl => ?_)
        refine V.iinc (j := 2) (lv' := fun z21 => [(4, .int z21), (3, .int z20), (5, .int (nI 0)), (0, .int p), (1, .ref u1), (2, .ref u6)]) F dL_hurtParts_83 hl rfl (by decide) (fun _ => rfl) (fun z21 e21 ls hl => ?_)
        refine V.goto (tgt := 5) F dL_hurtParts_86 (by decide) ?_
        have h22 : nI (j1 + 1) = z21 := (by subst e6 e7 e14 e15 e16 e17 e20 e21; first | with_reducible rfl | (simp only [hpL, c5, c5', eq_true c8, c18, c18', oi1n, nI_add, pk_mul, bI, and_true, true_and, and_false, false_and, and_self, or_true, true_or, or_false, false_or, or_self, not_true_eq_false, not_false_eq_true, if_true, if_false, ↓reduceIte] <;> rfl) | rfl | (simp [hpL, c5, c5', eq_true c8, c18, c18', bI, oi1, nI_succ]; done))
        have h23 : hpL hs (qs 0) p (j1 + 1) = z20 := (by subst e6 e7 e14 e15 e16 e17 e20 e21; first | with_reducible rfl | (simp only [hpL, c5, c5', eq_true c8, c18, c18', oi1n, nI_add, pk_mul, bI, and_true, true_and, and_false, false_and, and_self, or_true, true_or, or_false, false_or, or_self, not_true_eq_false, not_false_eq_true, if_true, if_false, ↓reduceIte] <;> rfl) | rfl | (simp [hpL, c5, c5', eq_true c8, c18, c18', bI, oi1, nI_succ]; done))
        exact ihj1 j1_lt trivial _ (lv_sub hl [0, 1, 3, 4, 5] (by rw [h22, h23]; rfl))
      · skip
        refine V.aload_n F dL_hurtParts_42 rfl (lv_at hl 4 rfl) ?_
        refine V.iload F dL_hurtParts_43 (lv_at hl 0 rfl) ?_
        refine V.iadn (i := j1) F hE 1 rfl (by omega) (by omega) dL_hurtParts_45 (fun z24 e24 => ?_)
        refine V.bipush (v := nI 19) F dL_hurtParts_46 (by decide) ?_
        refine V.ishr F dL_hurtParts_48 (fun z25 e25 => ?_)
        refine V.aload_n F dL_hurtParts_49 rfl (lv_at hl 3 rfl) ?_
        refine V.iconst (v := nI 0) F dL_hurtParts_50 (by decide) ?_
        refine V.iadn (i := 0) F hE 0 rfl (by omega) (by omega) dL_hurtParts_51 (fun z26 e26 => ?_)
        refine V.icmp_lt (tgt := 59) F dL_hurtParts_52 (by decide) (fun c27 c27' => ?_) (fun c27 c27' => ?_)
        · skip
          refine V.iconst (v := nI 0) F dL_hurtParts_59 (by decide) ?_
          refine V.istore (lv' := [(5, .int (nI 0)), (4, .int (nI j1)), (3, .int (hpL hs (qs 0) p j1)), (0, .int p), (1, .ref u1), (2, .ref u6)]) F dL_hurtParts_60 hl (by decide) rfl (fun ls hl => ?_)
          refine V.iload_n F dL_hurtParts_62 rfl (lv_at hl 2 rfl) ?_
          refine V.iload F dL_hurtParts_63 (lv_at hl 0 rfl) ?_
          refine V.if_eq (tgt := 80) F dL_hurtParts_65 (by decide) (fun _ => ?_) (fun h => absurd h (by decide))
          refine V.iconst (v := nI 0) F dL_hurtParts_80 (by decide) ?_
          refine V.ior F dL_hurtParts_81 (fun z29 e29 => ?_)
          refine V.istore_n (lv' := [(3, .int z29), (5, .int (nI 0)), (4, .int (nI j1)), (0, .int p), (1, .ref u1), (2, .ref u6)]) F dL_hurtParts_82 rfl hl (by decide) rfl (fun ls hl => ?_)
          refine V.iinc (j := 2) (lv' := fun z30 => [(4, .int z30), (3, .int z29), (5, .int (nI 0)), (0, .int p), (1, .ref u1), (2, .ref u6)]) F dL_hurtParts_83 hl rfl (by decide) (fun _ => rfl) (fun z30 e30 ls hl => ?_)
          refine V.goto (tgt := 5) F dL_hurtParts_86 (by decide) ?_
          have h31 : nI (j1 + 1) = z30 := (by subst e6 e7 e14 e15 e16 e17 e24 e25 e26 e29 e30; first | with_reducible rfl | (simp only [hpL, c5, c5', eq_true c8, c18, c18', c27, c27', oi1n, nI_add, pk_mul, bI, and_true, true_and, and_false, false_and, and_self, or_true, true_or, or_false, false_or, or_self, not_true_eq_false, not_false_eq_true, if_true, if_false, ↓reduceIte] <;> rfl) | rfl | (simp [hpL, c5, c5', eq_true c8, c18, c18', c27, c27', bI, oi1, nI_succ]; done))
          have h32 : hpL hs (qs 0) p (j1 + 1) = z29 := (by subst e6 e7 e14 e15 e16 e17 e24 e25 e26 e29 e30; first | with_reducible rfl | (simp only [hpL, c5, c5', eq_true c8, c18, c18', c27, c27', oi1n, nI_add, pk_mul, bI, and_true, true_and, and_false, false_and, and_self, or_true, true_or, or_false, false_or, or_self, not_true_eq_false, not_false_eq_true, if_true, if_false, ↓reduceIte] <;> rfl) | rfl | (simp [hpL, c5, c5', eq_true c8, c18, c18', c27, c27', bI, oi1, nI_succ]; done))
          exact ihj1 j1_lt trivial _ (lv_sub hl [0, 1, 3, 4, 5] (by rw [h31, h32]; rfl))
        · skip
          refine V.iconst (v := nI 1) F dL_hurtParts_55 (by decide) ?_
          refine V.goto (tgt := 60) F dL_hurtParts_56 (by decide) ?_
          refine V.istore (lv' := [(5, .int (nI 1)), (4, .int (nI j1)), (3, .int (hpL hs (qs 0) p j1)), (0, .int p), (1, .ref u1), (2, .ref u6)]) F dL_hurtParts_60 hl (by decide) rfl (fun ls hl => ?_)
          refine V.iload_n F dL_hurtParts_62 rfl (lv_at hl 2 rfl) ?_
          refine V.iload F dL_hurtParts_63 (lv_at hl 0 rfl) ?_
          refine V.if_eq (tgt := 80) F dL_hurtParts_65 (by decide) (fun h => absurd h (by decide)) (fun _ => ?_)
          refine V.aload_n F dL_hurtParts_68 rfl (lv_at hl 5 rfl) ?_
          refine V.iload F dL_hurtParts_69 (lv_at hl 1 rfl) ?_
          refine V.iadn (i := j1) F hE 1 rfl (by omega) (by omega) dL_hurtParts_71 (fun z34 e34 => ?_)
          refine V.iconst (v := nI 3) F dL_hurtParts_72 (by decide) ?_
          refine V.ishr F dL_hurtParts_73 (fun z35 e35 => ?_)
          refine V.bipush (v := nI 63) F dL_hurtParts_74 (by decide) ?_
          refine V.iand F dL_hurtParts_76 (fun z36 e36 => ?_)
          refine V.goto (tgt := 81) F dL_hurtParts_77 (by decide) ?_
          refine V.ior F dL_hurtParts_81 (fun z37 e37 => ?_)
          refine V.istore_n (lv' := [(3, .int z37), (5, .int (nI 1)), (4, .int (nI j1)), (0, .int p), (1, .ref u1), (2, .ref u6)]) F dL_hurtParts_82 rfl hl (by decide) rfl (fun ls hl => ?_)
          refine V.iinc (j := 2) (lv' := fun z38 => [(4, .int z38), (3, .int z37), (5, .int (nI 1)), (0, .int p), (1, .ref u1), (2, .ref u6)]) F dL_hurtParts_83 hl rfl (by decide) (fun _ => rfl) (fun z38 e38 ls hl => ?_)
          refine V.goto (tgt := 5) F dL_hurtParts_86 (by decide) ?_
          have h39 : nI (j1 + 1) = z38 := (by subst e6 e7 e14 e15 e16 e17 e24 e25 e26 e34 e35 e36 e37 e38; first | with_reducible rfl | (simp only [hpL, c5, c5', eq_true c8, c18, c18', c27, c27', oi1n, nI_add, pk_mul, bI, and_true, true_and, and_false, false_and, and_self, or_true, true_or, or_false, false_or, or_self, not_true_eq_false, not_false_eq_true, if_true, if_false, ↓reduceIte] <;> rfl) | rfl | (simp [hpL, c5, c5', eq_true c8, c18, c18', c27, c27', bI, oi1, nI_succ]; done))
          have h40 : hpL hs (qs 0) p (j1 + 1) = z37 := (by subst e6 e7 e14 e15 e16 e17 e24 e25 e26 e34 e35 e36 e37 e38; first | with_reducible rfl | (simp only [hpL, c5, c5', eq_true c8, c18, c18', c27, c27', oi1n, nI_add, pk_mul, bI, and_true, true_and, and_false, false_and, and_self, or_true, true_or, or_false, false_or, or_self, not_true_eq_false, not_false_eq_true, if_true, if_false, ↓reduceIte] <;> rfl) | rfl | (simp [hpL, c5, c5', eq_true c8, c18, c18', c27, c27', bI, oi1, nI_succ]; done))
          exact ihj1 j1_lt trivial _ (lv_sub hl [0, 1, 3, 4, 5] (by rw [h39, h40]; rfl))
set_option maxHeartbeats 4000000 in
set_option maxRecDepth 100000 in
theorem c_L_counting (l : Launch) (E : EV) {u1 u5 : Nat} {qs rs : Nat → Int32} {p k w : Int32} {R : Nat} (hR : qs 8 = nI R) (hR40 : R ≤ 40) : Rd l E yL_counting cL_counting 8 (some .int) 1 20 [.int p, .int k, .int w, .ref u1, .ref u5] ([rw_ E u1 10 qs, rw_ E u5 40 rs]) (some (.int (cnL rs (qs 0) p k w R))) := by
  refine Rd.mk0 (by decide) (Nat.le_of_ble_eq_true rfl) ?_
  intro pP eE sS mM aA bB mt cC F hr hk hE ls hl
  have hl : lv_has ls 8 [(0, .int p), (1, .int k), (2, .int w), (3, .ref u1), (4, .ref u5)] := hl
  refine V.iconst (v := nI 0) F dL_counting_0 (by decide) ?_
  refine V.istore (lv' := [(5, .int (nI 0)), (0, .int p), (1, .int k), (2, .int w), (3, .ref u1), (4, .ref u5)]) F dL_counting_1 hl (by decide) rfl (fun ls hl => ?_)
  refine V.iconst (v := nI 0) F dL_counting_3 (by decide) ?_
  refine V.istore (lv' := [(6, .int (nI 0)), (5, .int (nI 0)), (0, .int p), (1, .int k), (2, .int w), (3, .ref u1), (4, .ref u5)]) F dL_counting_4 hl (by decide) rfl (fun ls hl => ?_)
  have h2 : nI 0 = nI 0 := (by first | with_reducible rfl | (simp only [cnL, oi1n, nI_add, pk_mul, bI, and_true, true_and, and_false, false_and, and_self, or_true, true_or, or_false, false_or, or_self, not_true_eq_false, not_false_eq_true, if_true, if_false, ↓reduceIte] <;> rfl) | rfl | (simp [cnL, bI, oi1, nI_succ]; done))
  have h3 : cnL rs (qs 0) p k w 0 = nI 0 := (by first | with_reducible rfl | (simp only [cnL, oi1n, nI_add, pk_mul, bI, and_true, true_and, and_false, false_and, and_self, or_true, true_or, or_false, false_or, or_self, not_true_eq_false, not_false_eq_true, if_true, if_false, ↓reduceIte] <;> rfl) | rfl | (simp [cnL, bI, oi1, nI_succ]; done))
  refine V.loop (N := R) (k0 := 0) (I := (fun j1 : Nat => [(6, .int (nI j1)), (5, .int (cnL rs (qs 0) p k w j1)), (0, .int p), (1, .int k), (2, .int w), (3, .ref u1), (4, .ref u5)])) (J := fun _ => True) (Nat.zero_le _) trivial (lv_sub hl [0, 1, 2, 3, 4, 5, 6] (by rw [h2, h3]; rfl)) ?_
  intro j1 j1_N j1_J ihj1 ls hl
  have hl : lv_has ls 8 [(6, .int (nI j1)), (5, .int (cnL rs (qs 0) p k w j1)), (0, .int p), (1, .int k), (2, .int w), (3, .ref u1), (4, .ref u5)] := hl
  refine V.iload F dL_counting_6 (lv_at hl 0 rfl) ?_
  refine V.aload_n F dL_counting_8 rfl (lv_at hl 5 rfl) ?_
  refine V.bipush (v := nI 8) F dL_counting_9 (by decide) ?_
  refine V.iadn (i := 8) F hE 0 rfl (by omega) (by omega) dL_counting_11 (fun z4 e4 => ?_)
  obtain rfl : z4 = nI R := e4.trans hR
  refine V.icmp_ge (tgt := 88) F dL_counting_12 (by decide) (fun c5 c5' => ?_) (fun c5 c5' => ?_)
  · skip
    have j1_eq := ((lpL rfl (by omega) j1_N).1 c5).symm
    subst j1_eq
    refine V.iload F dL_counting_88 (lv_at hl 1 rfl) ?_
    exact V.iretR F hr hk dL_counting_90 (by first | with_reducible rfl | (simp only [cnL, c5, c5', oi1n, nI_add, pk_mul, bI, and_true, true_and, and_false, false_and, and_self, or_true, true_or, or_false, false_or, or_self, not_true_eq_false, not_false_eq_true, if_true, if_false, ↓reduceIte] <;> rfl) | rfl | (simp [cnL, c5, c5', bI, oi1, nI_succ]; done))
  · skip
    have j1_lt := (lpL rfl (by omega) j1_N).2 c5
    refine V.aload_n F dL_counting_15 rfl (lv_at hl 5 rfl) ?_
    refine V.iconst (v := nI 0) F dL_counting_16 (by decide) ?_
    refine V.iadn (i := 0) F hE 0 rfl (by omega) (by omega) dL_counting_17 (fun z6 e6 => ?_)
    refine V.aload F dL_counting_18 (lv_at hl 6 rfl) ?_
    refine V.iload F dL_counting_20 (lv_at hl 0 rfl) ?_
    refine V.iadn (i := j1) F hE 1 rfl (by omega) (by omega) dL_counting_22 (fun z7 e7 => ?_)
    refine V.bipush (v := nI 9) F dL_counting_23 (by decide) ?_
    refine V.ishr F dL_counting_25 (fun z8 e8 => ?_)
    refine V.isub F dL_counting_26 (fun z9 e9 => ?_)
    refine V.istore (lv' := [(7, .int z9), (6, .int (nI j1)), (5, .int (cnL rs (qs 0) p k w j1)), (0, .int p), (1, .int k), (2, .int w), (3, .ref u1), (4, .ref u5)]) F dL_counting_27 hl (by decide) rfl (fun ls hl => ?_)
    refine V.iload F dL_counting_29 (lv_at hl 2 rfl) ?_
    refine V.aload F dL_counting_31 (lv_at hl 7 rfl) ?_
    refine V.iload F dL_counting_33 (lv_at hl 1 rfl) ?_
    refine V.iadn (i := j1) F hE 1 rfl (by omega) (by omega) dL_counting_35 (fun z10 e10 => ?_)
    refine V.bipush (v := nI 63) F dL_counting_36 (by decide) ?_
    refine V.iand F dL_counting_38 (fun z11 e11 => ?_)
    refine V.iload_n F dL_counting_39 rfl (lv_at hl 3 rfl) ?_
    refine V.bipush (v := nI 8) F dL_counting_40 (by decide) ?_
    refine V.iload_n F dL_counting_42 rfl (lv_at hl 4 rfl) ?_
    refine V.imul F dL_counting_43 (fun z12 e12 => ?_)
    refine V.iadd F dL_counting_44 (fun z13 e13 => ?_)
    refine V.icmp_ne (tgt := 78) F dL_counting_45 (by decide) (fun c14 => ?_) (fun c14 => ?_)
    · skip
      refine V.iconst (v := nI 0) F dL_counting_78 (by decide) ?_
      refine V.iadd F dL_counting_79 (fun z15 e15 => ?_)
      refine V.istore (lv' := [(5, .int z15), (7, .int z9), (6, .int (nI j1)), (0, .int p), (1, .int k), (2, .int w), (3, .ref u1), (4, .ref u5)]) F dL_counting_80 hl (by decide) rfl (fun ls hl => ?_)
      refine V.iinc (j := 2) (lv' := fun z16 => [(6, .int z16), (5, .int z15), (7, .int z9), (0, .int p), (1, .int k), (2, .int w), (3, .ref u1), (4, .ref u5)]) F dL_counting_82 hl rfl (by decide) (fun _ => rfl) (fun z16 e16 ls hl => ?_)
      refine V.goto (tgt := 6) F dL_counting_85 (by decide) ?_
      have h17 : nI (j1 + 1) = z16 := (by subst e6 e7 e8 e9 e10 e11 e12 e13 e15 e16; first | with_reducible rfl | (simp only [cnL, c5, c5', c14, oi1n, nI_add, pk_mul, bI, and_true, true_and, and_false, false_and, and_self, or_true, true_or, or_false, false_or, or_self, not_true_eq_false, not_false_eq_true, if_true, if_false, ↓reduceIte] <;> rfl) | rfl | (simp [cnL, c5, c5', c14, bI, oi1, nI_succ]; done))
      have h18 : cnL rs (qs 0) p k w (j1 + 1) = z15 := (by subst e6 e7 e8 e9 e10 e11 e12 e13 e15 e16; first | with_reducible rfl | (simp only [cnL, c5, c5', c14, oi1n, nI_add, pk_mul, bI, and_true, true_and, and_false, false_and, and_self, or_true, true_or, or_false, false_or, or_self, not_true_eq_false, not_false_eq_true, if_true, if_false, ↓reduceIte] <;> rfl) | rfl | (simp [cnL, c5, c5', c14, bI, oi1, nI_succ]; done))
      exact ihj1 j1_lt trivial _ (lv_sub hl [0, 1, 3, 4, 5, 6, 7] (by rw [h17, h18]; rfl))
    · skip
      refine V.aload F dL_counting_48 (lv_at hl 7 rfl) ?_
      refine V.iload F dL_counting_50 (lv_at hl 1 rfl) ?_
      refine V.iadn (i := j1) F hE 1 rfl (by omega) (by omega) dL_counting_52 (fun z19 e19 => ?_)
      refine V.bipush (v := nI 6) F dL_counting_53 (by decide) ?_
      refine V.ishr F dL_counting_55 (fun z20 e20 => ?_)
      refine V.bipush (v := nI 7) F dL_counting_56 (by decide) ?_
      refine V.iand F dL_counting_58 (fun z21 e21 => ?_)
      refine V.iload_n F dL_counting_59 rfl (lv_at hl 5 rfl) ?_
      refine V.iconst (v := nI 1) F dL_counting_60 (by decide) ?_
      refine V.isub F dL_counting_61 (fun z22 e22 => ?_)
      refine V.icmp_lt (tgt := 78) F dL_counting_62 (by decide) (fun c23 c23' => ?_) (fun c23 c23' => ?_)
      · skip
        refine V.iconst (v := nI 0) F dL_counting_78 (by decide) ?_
        refine V.iadd F dL_counting_79 (fun z24 e24 => ?_)
        refine V.istore (lv' := [(5, .int z24), (7, .int z9), (6, .int (nI j1)), (0, .int p), (1, .int k), (2, .int w), (3, .ref u1), (4, .ref u5)]) F dL_counting_80 hl (by decide) rfl (fun ls hl => ?_)
        refine V.iinc (j := 2) (lv' := fun z25 => [(6, .int z25), (5, .int z24), (7, .int z9), (0, .int p), (1, .int k), (2, .int w), (3, .ref u1), (4, .ref u5)]) F dL_counting_82 hl rfl (by decide) (fun _ => rfl) (fun z25 e25 ls hl => ?_)
        refine V.goto (tgt := 6) F dL_counting_85 (by decide) ?_
        have h26 : nI (j1 + 1) = z25 := (by subst e6 e7 e8 e9 e10 e11 e12 e13 e19 e20 e21 e22 e24 e25; first | with_reducible rfl | (simp only [cnL, c5, c5', eq_true c14, c23, c23', oi1n, nI_add, pk_mul, bI, and_true, true_and, and_false, false_and, and_self, or_true, true_or, or_false, false_or, or_self, not_true_eq_false, not_false_eq_true, if_true, if_false, ↓reduceIte] <;> rfl) | rfl | (simp [cnL, c5, c5', eq_true c14, c23, c23', bI, oi1, nI_succ]; done))
        have h27 : cnL rs (qs 0) p k w (j1 + 1) = z24 := (by subst e6 e7 e8 e9 e10 e11 e12 e13 e19 e20 e21 e22 e24 e25; first | with_reducible rfl | (simp only [cnL, c5, c5', eq_true c14, c23, c23', oi1n, nI_add, pk_mul, bI, and_true, true_and, and_false, false_and, and_self, or_true, true_or, or_false, false_or, or_self, not_true_eq_false, not_false_eq_true, if_true, if_false, ↓reduceIte] <;> rfl) | rfl | (simp [cnL, c5, c5', eq_true c14, c23, c23', bI, oi1, nI_succ]; done))
        exact ihj1 j1_lt trivial _ (lv_sub hl [0, 1, 3, 4, 5, 6, 7] (by rw [h26, h27]; rfl))
      · skip
        refine V.iload F dL_counting_65 (lv_at hl 0 rfl) ?_
        refine V.iload_n F dL_counting_67 rfl (lv_at hl 4 rfl) ?_
        refine V.rdS F hE (c_L_lasts l E) (kL_61 F.2.2.2.2 ⟨Nat.le_of_ble_eq_true rfl, Nat.le_of_ble_eq_true rfl⟩) [] rfl rfl hl.1 (Nat.le_of_ble_eq_true rfl) dL_counting_68 rfl ?_
        refine V.topi (fun z28 e28 => ?_)
        refine V.icmp_ge (tgt := 78) F dL_counting_71 (by decide) (fun c29 c29' => ?_) (fun c29 c29' => ?_)
        · skip
          refine V.iconst (v := nI 0) F dL_counting_78 (by decide) ?_
          refine V.iadd F dL_counting_79 (fun z30 e30 => ?_)
          refine V.istore (lv' := [(5, .int z30), (7, .int z9), (6, .int (nI j1)), (0, .int p), (1, .int k), (2, .int w), (3, .ref u1), (4, .ref u5)]) F dL_counting_80 hl (by decide) rfl (fun ls hl => ?_)
          refine V.iinc (j := 2) (lv' := fun z31 => [(6, .int z31), (5, .int z30), (7, .int z9), (0, .int p), (1, .int k), (2, .int w), (3, .ref u1), (4, .ref u5)]) F dL_counting_82 hl rfl (by decide) (fun _ => rfl) (fun z31 e31 ls hl => ?_)
          refine V.goto (tgt := 6) F dL_counting_85 (by decide) ?_
          have h32 : nI (j1 + 1) = z31 := (by subst e6 e7 e8 e9 e10 e11 e12 e13 e19 e20 e21 e22 e28 e30 e31; first | with_reducible rfl | (simp only [cnL, c5, c5', eq_true c14, c23, c23', c29, c29', oi1n, nI_add, pk_mul, bI, and_true, true_and, and_false, false_and, and_self, or_true, true_or, or_false, false_or, or_self, not_true_eq_false, not_false_eq_true, if_true, if_false, ↓reduceIte] <;> rfl) | rfl | (simp [cnL, c5, c5', eq_true c14, c23, c23', c29, c29', bI, oi1, nI_succ]; done))
          have h33 : cnL rs (qs 0) p k w (j1 + 1) = z30 := (by subst e6 e7 e8 e9 e10 e11 e12 e13 e19 e20 e21 e22 e28 e30 e31; first | with_reducible rfl | (simp only [cnL, c5, c5', eq_true c14, c23, c23', c29, c29', oi1n, nI_add, pk_mul, bI, and_true, true_and, and_false, false_and, and_self, or_true, true_or, or_false, false_or, or_self, not_true_eq_false, not_false_eq_true, if_true, if_false, ↓reduceIte] <;> rfl) | rfl | (simp [cnL, c5, c5', eq_true c14, c23, c23', c29, c29', bI, oi1, nI_succ]; done))
          exact ihj1 j1_lt trivial _ (lv_sub hl [0, 1, 3, 4, 5, 6, 7] (by rw [h32, h33]; rfl))
        · skip
          refine V.iconst (v := nI 1) F dL_counting_74 (by decide) ?_
          refine V.goto (tgt := 79) F dL_counting_75 (by decide) ?_
          refine V.iadd F dL_counting_79 (fun z34 e34 => ?_)
          refine V.istore (lv' := [(5, .int z34), (7, .int z9), (6, .int (nI j1)), (0, .int p), (1, .int k), (2, .int w), (3, .ref u1), (4, .ref u5)]) F dL_counting_80 hl (by decide) rfl (fun ls hl => ?_)
          refine V.iinc (j := 2) (lv' := fun z35 => [(6, .int z35), (5, .int z34), (7, .int z9), (0, .int p), (1, .int k), (2, .int w), (3, .ref u1), (4, .ref u5)]) F dL_counting_82 hl rfl (by decide) (fun _ => rfl) (fun z35 e35 ls hl => ?_)
          refine V.goto (tgt := 6) F dL_counting_85 (by decide) ?_
          have h36 : nI (j1 + 1) = z35 := (by subst e6 e7 e8 e9 e10 e11 e12 e13 e19 e20 e21 e22 e28 e34 e35; first | with_reducible rfl | (simp only [cnL, c5, c5', eq_true c14, c23, c23', c29, c29', oi1n, nI_add, pk_mul, bI, and_true, true_and, and_false, false_and, and_self, or_true, true_or, or_false, false_or, or_self, not_true_eq_false, not_false_eq_true, if_true, if_false, ↓reduceIte] <;> rfl) | rfl | (simp [cnL, c5, c5', eq_true c14, c23, c23', c29, c29', bI, oi1, nI_succ]; done))
          have h37 : cnL rs (qs 0) p k w (j1 + 1) = z34 := (by subst e6 e7 e8 e9 e10 e11 e12 e13 e19 e20 e21 e22 e28 e34 e35; first | with_reducible rfl | (simp only [cnL, c5, c5', eq_true c14, c23, c23', c29, c29', oi1n, nI_add, pk_mul, bI, and_true, true_and, and_false, false_and, and_self, or_true, true_or, or_false, false_or, or_self, not_true_eq_false, not_false_eq_true, if_true, if_false, ↓reduceIte] <;> rfl) | rfl | (simp [cnL, c5, c5', eq_true c14, c23, c23', c29, c29', bI, oi1, nI_succ]; done))
          exact ihj1 j1_lt trivial _ (lv_sub hl [0, 1, 3, 4, 5, 6, 7] (by rw [h36, h37]; rfl))
set_option maxHeartbeats 4000000 in
set_option maxRecDepth 100000 in
theorem c_L_reason (l : Launch) (E : EV) {u1 u2 u3 u5 u6 u7 : Nat} {qs zs fo rs hs cs : Nat → Int32} {x p sn H R : Nat} (hx10 : x < 10) (hp8 : p < 8) (hsn : shx (cs x) 6 &&& nI 7 = nI sn) (hs8 : sn < 8) (hH : qs 9 = nI H) (hH12 : H ≤ 12) (hR : qs 8 = nI R) (hR40 : R ≤ 40) : Rd l E yL_reason cL_reason 11 (some .int) 2 47 [.int (nI x), .int (nI p), .ref u1, .ref u2, .ref u3, .ref u5, .ref u6, .ref u7] ([rw_ E u1 10 qs, rw_ E u2 8 zs, rw_ E u3 8 fo, rw_ E u5 40 rs, rw_ E u6 12 hs, rw_ E u7 10 cs]) (some (.int (rsL qs zs fo rs hs cs H R x p sn))) := by
  refine Rd.mk0 (by decide) (Nat.le_of_ble_eq_true rfl) ?_
  intro pP eE sS mM aA bB mt cC F hr hk hE ls hl
  have hl : lv_has ls 11 [(0, .int (nI x)), (1, .int (nI p)), (2, .ref u1), (3, .ref u2), (4, .ref u3), (5, .ref u5), (6, .ref u6), (7, .ref u7)] := hl
  refine V.aload F dL_reason_0 (lv_at hl 7 rfl) ?_
  refine V.iload_n F dL_reason_2 rfl (lv_at hl 0 rfl) ?_
  refine V.iadn (i := x) F hE 5 rfl (by omega) (by omega) dL_reason_3 (fun z1 e1 => ?_)
  refine V.bipush (v := nI 7) F dL_reason_4 (by decide) ?_
  refine V.iand F dL_reason_6 (fun z2 e2 => ?_)
  refine V.istore (lv' := [(8, .int z2), (0, .int (nI x)), (1, .int (nI p)), (2, .ref u1), (3, .ref u2), (4, .ref u3), (5, .ref u5), (6, .ref u6), (7, .ref u7)]) F dL_reason_7 hl (by decide) rfl (fun ls hl => ?_)
  refine V.aload F dL_reason_9 (lv_at hl 8 rfl) ?_
  refine V.iload_n F dL_reason_11 rfl (lv_at hl 1 rfl) ?_
  refine V.iadn (i := x) F hE 5 rfl (by omega) (by omega) dL_reason_12 (fun z3 e3 => ?_)
  refine V.iconst (v := nI 3) F dL_reason_13 (by decide) ?_
  refine V.ishr F dL_reason_14 (fun z4 e4 => ?_)
  refine V.bipush (v := nI 7) F dL_reason_15 (by decide) ?_
  refine V.iand F dL_reason_17 (fun z5 e5 => ?_)
  refine V.istore (lv' := [(9, .int z5), (8, .int z2), (0, .int (nI x)), (1, .int (nI p)), (2, .ref u1), (3, .ref u2), (4, .ref u3), (5, .ref u5), (6, .ref u6), (7, .ref u7)]) F dL_reason_18 hl (by decide) rfl (fun ls hl => ?_)
  refine V.aload_n F dL_reason_20 rfl (lv_at hl 5 rfl) ?_
  refine V.iload_n F dL_reason_21 rfl (lv_at hl 3 rfl) ?_
  refine V.iadn (i := p) F hE 1 rfl (by omega) (by omega) dL_reason_22 (fun z6 e6 => ?_)
  refine V.aload_n F dL_reason_23 rfl (lv_at hl 5 rfl) ?_
  refine V.aload F dL_reason_24 (lv_at hl 9 rfl) ?_
  refine V.iload_n F dL_reason_26 rfl (lv_at hl 2 rfl) ?_
  refine V.iadn (i := x) F hE 5 rfl (by omega) (by omega) dL_reason_27 (fun z7 e7 => ?_)
  refine V.bipush (v := nI 6) F dL_reason_28 (by decide) ?_
  refine V.ishr F dL_reason_30 (fun z8 e8 => ?_)
  refine V.bipush (v := nI 7) F dL_reason_31 (by decide) ?_
  refine V.iand F dL_reason_33 (fun z9 e9 => ?_)
  have efold : z9 = nI sn := (by subst e1 e2 e3 e4 e5 e6 e7 e8 e9; exact hsn)
  clear e9
  subst efold
  refine V.iadn (i := sn) F hE 1 rfl (by omega) (by omega) dL_reason_34 (fun z10 e10 => ?_)
  refine V.isub F dL_reason_35 (fun z11 e11 => ?_)
  refine V.istore (lv' := [(10, .int z11), (9, .int z5), (8, .int z2), (0, .int (nI x)), (1, .int (nI p)), (2, .ref u1), (3, .ref u2), (4, .ref u3), (5, .ref u5), (6, .ref u6), (7, .ref u7)]) F dL_reason_36 hl (by decide) rfl (fun ls hl => ?_)
  refine V.aload F dL_reason_38 (lv_at hl 10 rfl) ?_
  refine V.iload_n F dL_reason_40 rfl (lv_at hl 3 rfl) ?_
  refine V.iadn (i := x) F hE 5 rfl (by omega) (by omega) dL_reason_41 (fun z12 e12 => ?_)
  refine V.bipush (v := nI 9) F dL_reason_42 (by decide) ?_
  refine V.ishr F dL_reason_44 (fun z13 e13 => ?_)
  refine V.sipush (v := nI 1023) F dL_reason_45 (by decide) ?_
  refine V.iand F dL_reason_48 (fun z14 e14 => ?_)
  refine V.if_le (tgt := 54) F dL_reason_49 (by decide) (fun c15 c15' => ?_) (fun c15 c15' => ?_)
  · skip
    refine V.iload F dL_reason_54 (lv_at hl 0 rfl) ?_
    refine V.iconst (v := nI 5) F dL_reason_56 (by decide) ?_
    refine V.icmp_gt (tgt := 67) F dL_reason_57 (by decide) (fun c16 c16' => ?_) (fun c16 c16' => ?_)
    · skip
      refine V.iconst (v := nI 2) F dL_reason_67 (by decide) ?_
      exact V.iretR F hr hk dL_reason_68 (by subst e1 e2 e3 e4 e5 e6 e7 e8 e10 e11 e12 e13 e14; first | with_reducible rfl | (simp only [rsL, c15, c15', c16, c16', oi1n, nI_add, pk_mul, bI, and_true, true_and, and_false, false_and, and_self, or_true, true_or, or_false, false_or, or_self, not_true_eq_false, not_false_eq_true, if_true, if_false, ↓reduceIte] <;> rfl) | rfl | (simp [rsL, c15, c15', c16, c16', bI, oi1, nI_succ]; done))
    · skip
      refine V.iload F dL_reason_60 (lv_at hl 0 rfl) ?_
      refine V.bipush (v := (-5)) F dL_reason_62 (by decide) ?_
      refine V.icmp_ge (tgt := 69) F dL_reason_64 (by decide) (fun c17 c17' => ?_) (fun c17 c17' => ?_)
      · skip
        refine V.aload_n F dL_reason_69 rfl (lv_at hl 5 rfl) ?_
        refine V.iconst (v := nI 0) F dL_reason_70 (by decide) ?_
        refine V.iadn (i := 0) F hE 0 rfl (by omega) (by omega) dL_reason_71 (fun z18 e18 => ?_)
        refine V.aload_n F dL_reason_72 rfl (lv_at hl 5 rfl) ?_
        refine V.iconst (v := nI 3) F dL_reason_73 (by decide) ?_
        refine V.iadn (i := 3) F hE 0 rfl (by omega) (by omega) dL_reason_74 (fun z19 e19 => ?_)
        refine V.icmp_gt (tgt := 84) F dL_reason_75 (by decide) (fun c20 c20' => ?_) (fun c20 c20' => ?_)
        · skip
          refine V.iconst (v := nI 0) F dL_reason_84 (by decide) ?_
          refine V.iload F dL_reason_85 (lv_at hl 1 rfl) ?_
          refine V.icmp_ge (tgt := 92) F dL_reason_87 (by decide) (fun c21 c21' => ?_) (fun c21 c21' => ?_)
          · skip
            refine V.iload_n F dL_reason_92 rfl (lv_at hl 4 rfl) ?_
            refine V.aload_n F dL_reason_93 rfl (lv_at hl 5 rfl) ?_
            refine V.aload F dL_reason_94 (lv_at hl 9 rfl) ?_
            refine V.rdS F hE (c_L_hurtParts l E hH hH12) (kL_66 F.2.2.2.2 ⟨Nat.le_of_ble_eq_true rfl, Nat.le_of_ble_eq_true rfl⟩) [0, 4] rfl rfl hl.1 (Nat.le_of_ble_eq_true rfl) dL_reason_96 rfl ?_
            refine V.topi (fun z22 e22 => ?_)
            refine V.iload F dL_reason_99 (lv_at hl 2 rfl) ?_
            refine V.rdS F hE (c_L_bars l E) (kL_70 F.2.2.2.2 ⟨Nat.le_of_ble_eq_true rfl, Nat.le_of_ble_eq_true rfl⟩) [] rfl rfl hl.1 (Nat.le_of_ble_eq_true rfl) dL_reason_101 rfl ?_
            refine V.topi (fun z23 e23 => ?_)
            refine V.iand F dL_reason_104 (fun z24 e24 => ?_)
            refine V.if_eq (tgt := 110) F dL_reason_105 (by decide) (fun c25 => ?_) (fun c25 => ?_)
            · skip
              refine V.aload F dL_reason_110 (lv_at hl 7 rfl) ?_
              refine V.iload_n F dL_reason_112 rfl (lv_at hl 4 rfl) ?_
              refine V.iadn (i := p) F hE 2 rfl (by omega) (by omega) dL_reason_113 (fun z26 e26 => ?_)
              refine V.if_lt (tgt := 133) F dL_reason_114 (by decide) (fun c27 c27' => ?_) (fun c27 c27' => ?_)
              · skip
                refine V.iload_n F dL_reason_133 rfl (lv_at hl 4 rfl) ?_
                refine V.iload F dL_reason_134 (lv_at hl 2 rfl) ?_
                refine V.iload F dL_reason_136 (lv_at hl 1 rfl) ?_
                refine V.aload_n F dL_reason_138 rfl (lv_at hl 5 rfl) ?_
                refine V.aload F dL_reason_139 (lv_at hl 8 rfl) ?_
                refine V.rdS F hE (c_L_counting l E hR hR40) (kL_73 F.2.2.2.2 ⟨Nat.le_of_ble_eq_true rfl, Nat.le_of_ble_eq_true rfl⟩) [0, 3] rfl rfl hl.1 (Nat.le_of_ble_eq_true rfl) dL_reason_141 rfl ?_
                refine V.topi (fun z28 e28 => ?_)
                refine V.iload F dL_reason_144 (lv_at hl 2 rfl) ?_
                refine V.iload F dL_reason_146 (lv_at hl 1 rfl) ?_
                refine V.rdS F hE (c_L_needs l E) (kL_77 F.2.2.2.2 ⟨Nat.le_of_ble_eq_true rfl, Nat.le_of_ble_eq_true rfl⟩) [] rfl rfl hl.1 (Nat.le_of_ble_eq_true rfl) dL_reason_148 rfl ?_
                refine V.topi (fun z29 e29 => ?_)
                refine V.icmp_ge (tgt := 159) F dL_reason_151 (by decide) (fun c30 c30' => ?_) (fun c30 c30' => ?_)
                · skip
                  refine V.iconst (v := nI 0) F dL_reason_159 (by decide) ?_
                  exact V.iretR F hr hk dL_reason_160 (by subst e1 e2 e3 e4 e5 e6 e7 e8 e10 e11 e12 e13 e14 e18 e19 e22 e23 e24 e26 e28 e29; first | with_reducible rfl | (simp only [rsL, c15, c15', c16, c16', c17, c17', c20, c20', c21, c21', eq_true c25, c27, c27', c30, c30', oi1n, nI_add, pk_mul, bI, and_true, true_and, and_false, false_and, and_self, or_true, true_or, or_false, false_or, or_self, not_true_eq_false, not_false_eq_true, if_true, if_false, ↓reduceIte] <;> rfl) | rfl | (simp [rsL, c15, c15', c16, c16', c17, c17', c20, c20', c21, c21', eq_true c25, c27, c27', c30, c30', bI, oi1, nI_succ]; done))
                · skip
                  refine V.bipush (v := nI 6) F dL_reason_154 (by decide) ?_
                  refine V.goto (tgt := 160) F dL_reason_156 (by decide) ?_
                  exact V.iretR F hr hk dL_reason_160 (by subst e1 e2 e3 e4 e5 e6 e7 e8 e10 e11 e12 e13 e14 e18 e19 e22 e23 e24 e26 e28 e29; first | with_reducible rfl | (simp only [rsL, c15, c15', c16, c16', c17, c17', c20, c20', c21, c21', eq_true c25, c27, c27', c30, c30', oi1n, nI_add, pk_mul, bI, and_true, true_and, and_false, false_and, and_self, or_true, true_or, or_false, false_or, or_self, not_true_eq_false, not_false_eq_true, if_true, if_false, ↓reduceIte] <;> rfl) | rfl | (simp [rsL, c15, c15', c16, c16', c17, c17', c20, c20', c21, c21', eq_true c25, c27, c27', c30, c30', bI, oi1, nI_succ]; done))
              · skip
                refine V.aload_n F dL_reason_117 rfl (lv_at hl 5 rfl) ?_
                refine V.iconst (v := nI 0) F dL_reason_118 (by decide) ?_
                refine V.iadn (i := 0) F hE 0 rfl (by omega) (by omega) dL_reason_119 (fun z31 e31 => ?_)
                refine V.aload F dL_reason_120 (lv_at hl 7 rfl) ?_
                refine V.iload_n F dL_reason_122 rfl (lv_at hl 4 rfl) ?_
                refine V.iadn (i := p) F hE 2 rfl (by omega) (by omega) dL_reason_123 (fun z32 e32 => ?_)
                refine V.isub F dL_reason_124 (fun z33 e33 => ?_)
                refine V.iconst (v := nI 2) F dL_reason_125 (by decide) ?_
                refine V.icmp_ge (tgt := 133) F dL_reason_126 (by decide) (fun c34 c34' => ?_) (fun c34 c34' => ?_)
                · skip
                  refine V.iload_n F dL_reason_133 rfl (lv_at hl 4 rfl) ?_
                  refine V.iload F dL_reason_134 (lv_at hl 2 rfl) ?_
                  refine V.iload F dL_reason_136 (lv_at hl 1 rfl) ?_
                  refine V.aload_n F dL_reason_138 rfl (lv_at hl 5 rfl) ?_
                  refine V.aload F dL_reason_139 (lv_at hl 8 rfl) ?_
                  refine V.rdS F hE (c_L_counting l E hR hR40) (kL_73 F.2.2.2.2 ⟨Nat.le_of_ble_eq_true rfl, Nat.le_of_ble_eq_true rfl⟩) [0, 3] rfl rfl hl.1 (Nat.le_of_ble_eq_true rfl) dL_reason_141 rfl ?_
                  refine V.topi (fun z35 e35 => ?_)
                  refine V.iload F dL_reason_144 (lv_at hl 2 rfl) ?_
                  refine V.iload F dL_reason_146 (lv_at hl 1 rfl) ?_
                  refine V.rdS F hE (c_L_needs l E) (kL_77 F.2.2.2.2 ⟨Nat.le_of_ble_eq_true rfl, Nat.le_of_ble_eq_true rfl⟩) [] rfl rfl hl.1 (Nat.le_of_ble_eq_true rfl) dL_reason_148 rfl ?_
                  refine V.topi (fun z36 e36 => ?_)
                  refine V.icmp_ge (tgt := 159) F dL_reason_151 (by decide) (fun c37 c37' => ?_) (fun c37 c37' => ?_)
                  · skip
                    refine V.iconst (v := nI 0) F dL_reason_159 (by decide) ?_
                    exact V.iretR F hr hk dL_reason_160 (by subst e1 e2 e3 e4 e5 e6 e7 e8 e10 e11 e12 e13 e14 e18 e19 e22 e23 e24 e26 e31 e32 e33 e35 e36; first | with_reducible rfl | (simp only [rsL, c15, c15', c16, c16', c17, c17', c20, c20', c21, c21', eq_true c25, c27, c27', c34, c34', c37, c37', oi1n, nI_add, pk_mul, bI, and_true, true_and, and_false, false_and, and_self, or_true, true_or, or_false, false_or, or_self, not_true_eq_false, not_false_eq_true, if_true, if_false, ↓reduceIte] <;> rfl) | rfl | (simp [rsL, c15, c15', c16, c16', c17, c17', c20, c20', c21, c21', eq_true c25, c27, c27', c34, c34', c37, c37', bI, oi1, nI_succ]; done))
                  · skip
                    refine V.bipush (v := nI 6) F dL_reason_154 (by decide) ?_
                    refine V.goto (tgt := 160) F dL_reason_156 (by decide) ?_
                    exact V.iretR F hr hk dL_reason_160 (by subst e1 e2 e3 e4 e5 e6 e7 e8 e10 e11 e12 e13 e14 e18 e19 e22 e23 e24 e26 e31 e32 e33 e35 e36; first | with_reducible rfl | (simp only [rsL, c15, c15', c16, c16', c17, c17', c20, c20', c21, c21', eq_true c25, c27, c27', c34, c34', c37, c37', oi1n, nI_add, pk_mul, bI, and_true, true_and, and_false, false_and, and_self, or_true, true_or, or_false, false_or, or_self, not_true_eq_false, not_false_eq_true, if_true, if_false, ↓reduceIte] <;> rfl) | rfl | (simp [rsL, c15, c15', c16, c16', c17, c17', c20, c20', c21, c21', eq_true c25, c27, c27', c34, c34', c37, c37', bI, oi1, nI_succ]; done))
                · skip
                  refine V.iconst (v := nI 5) F dL_reason_129 (by decide) ?_
                  refine V.goto (tgt := 160) F dL_reason_130 (by decide) ?_
                  exact V.iretR F hr hk dL_reason_160 (by subst e1 e2 e3 e4 e5 e6 e7 e8 e10 e11 e12 e13 e14 e18 e19 e22 e23 e24 e26 e31 e32 e33; first | with_reducible rfl | (simp only [rsL, c15, c15', c16, c16', c17, c17', c20, c20', c21, c21', eq_true c25, c27, c27', c34, c34', oi1n, nI_add, pk_mul, bI, and_true, true_and, and_false, false_and, and_self, or_true, true_or, or_false, false_or, or_self, not_true_eq_false, not_false_eq_true, if_true, if_false, ↓reduceIte] <;> rfl) | rfl | (simp [rsL, c15, c15', c16, c16', c17, c17', c20, c20', c21, c21', eq_true c25, c27, c27', c34, c34', bI, oi1, nI_succ]; done))
            · skip
              refine V.iconst (v := nI 4) F dL_reason_108 (by decide) ?_
              exact V.iretR F hr hk dL_reason_109 (by subst e1 e2 e3 e4 e5 e6 e7 e8 e10 e11 e12 e13 e14 e18 e19 e22 e23 e24; first | with_reducible rfl | (simp only [rsL, c15, c15', c16, c16', c17, c17', c20, c20', c21, c21', c25, oi1n, nI_add, pk_mul, bI, and_true, true_and, and_false, false_and, and_self, or_true, true_or, or_false, false_or, or_self, not_true_eq_false, not_false_eq_true, if_true, if_false, ↓reduceIte] <;> rfl) | rfl | (simp [rsL, c15, c15', c16, c16', c17, c17', c20, c20', c21, c21', c25, bI, oi1, nI_succ]; done))
          · skip
            refine V.iconst (v := nI 3) F dL_reason_90 (by decide) ?_
            exact V.iretR F hr hk dL_reason_91 (by subst e1 e2 e3 e4 e5 e6 e7 e8 e10 e11 e12 e13 e14 e18 e19; first | with_reducible rfl | (simp only [rsL, c15, c15', c16, c16', c17, c17', c20, c20', c21, c21', oi1n, nI_add, pk_mul, bI, and_true, true_and, and_false, false_and, and_self, or_true, true_or, or_false, false_or, or_self, not_true_eq_false, not_false_eq_true, if_true, if_false, ↓reduceIte] <;> rfl) | rfl | (simp [rsL, c15, c15', c16, c16', c17, c17', c20, c20', c21, c21', bI, oi1, nI_succ]; done))
        · skip
          refine V.aload_n F dL_reason_78 rfl (lv_at hl 5 rfl) ?_
          refine V.iconst (v := nI 2) F dL_reason_79 (by decide) ?_
          refine V.iadn (i := 2) F hE 0 rfl (by omega) (by omega) dL_reason_80 (fun z38 e38 => ?_)
          refine V.goto (tgt := 85) F dL_reason_81 (by decide) ?_
          refine V.iload F dL_reason_85 (lv_at hl 1 rfl) ?_
          refine V.icmp_ge (tgt := 92) F dL_reason_87 (by decide) (fun c39 c39' => ?_) (fun c39 c39' => ?_)
          · skip
            refine V.iload_n F dL_reason_92 rfl (lv_at hl 4 rfl) ?_
            refine V.aload_n F dL_reason_93 rfl (lv_at hl 5 rfl) ?_
            refine V.aload F dL_reason_94 (lv_at hl 9 rfl) ?_
            refine V.rdS F hE (c_L_hurtParts l E hH hH12) (kL_66 F.2.2.2.2 ⟨Nat.le_of_ble_eq_true rfl, Nat.le_of_ble_eq_true rfl⟩) [0, 4] rfl rfl hl.1 (Nat.le_of_ble_eq_true rfl) dL_reason_96 rfl ?_
            refine V.topi (fun z40 e40 => ?_)
            refine V.iload F dL_reason_99 (lv_at hl 2 rfl) ?_
            refine V.rdS F hE (c_L_bars l E) (kL_70 F.2.2.2.2 ⟨Nat.le_of_ble_eq_true rfl, Nat.le_of_ble_eq_true rfl⟩) [] rfl rfl hl.1 (Nat.le_of_ble_eq_true rfl) dL_reason_101 rfl ?_
            refine V.topi (fun z41 e41 => ?_)
            refine V.iand F dL_reason_104 (fun z42 e42 => ?_)
            refine V.if_eq (tgt := 110) F dL_reason_105 (by decide) (fun c43 => ?_) (fun c43 => ?_)
            · skip
              refine V.aload F dL_reason_110 (lv_at hl 7 rfl) ?_
              refine V.iload_n F dL_reason_112 rfl (lv_at hl 4 rfl) ?_
              refine V.iadn (i := p) F hE 2 rfl (by omega) (by omega) dL_reason_113 (fun z44 e44 => ?_)
              refine V.if_lt (tgt := 133) F dL_reason_114 (by decide) (fun c45 c45' => ?_) (fun c45 c45' => ?_)
              · skip
                refine V.iload_n F dL_reason_133 rfl (lv_at hl 4 rfl) ?_
                refine V.iload F dL_reason_134 (lv_at hl 2 rfl) ?_
                refine V.iload F dL_reason_136 (lv_at hl 1 rfl) ?_
                refine V.aload_n F dL_reason_138 rfl (lv_at hl 5 rfl) ?_
                refine V.aload F dL_reason_139 (lv_at hl 8 rfl) ?_
                refine V.rdS F hE (c_L_counting l E hR hR40) (kL_73 F.2.2.2.2 ⟨Nat.le_of_ble_eq_true rfl, Nat.le_of_ble_eq_true rfl⟩) [0, 3] rfl rfl hl.1 (Nat.le_of_ble_eq_true rfl) dL_reason_141 rfl ?_
                refine V.topi (fun z46 e46 => ?_)
                refine V.iload F dL_reason_144 (lv_at hl 2 rfl) ?_
                refine V.iload F dL_reason_146 (lv_at hl 1 rfl) ?_
                refine V.rdS F hE (c_L_needs l E) (kL_77 F.2.2.2.2 ⟨Nat.le_of_ble_eq_true rfl, Nat.le_of_ble_eq_true rfl⟩) [] rfl rfl hl.1 (Nat.le_of_ble_eq_true rfl) dL_reason_148 rfl ?_
                refine V.topi (fun z47 e47 => ?_)
                refine V.icmp_ge (tgt := 159) F dL_reason_151 (by decide) (fun c48 c48' => ?_) (fun c48 c48' => ?_)
                · skip
                  refine V.iconst (v := nI 0) F dL_reason_159 (by decide) ?_
                  exact V.iretR F hr hk dL_reason_160 (by subst e1 e2 e3 e4 e5 e6 e7 e8 e10 e11 e12 e13 e14 e18 e19 e38 e40 e41 e42 e44 e46 e47; first | with_reducible rfl | (simp only [rsL, c15, c15', c16, c16', c17, c17', c20, c20', c39, c39', eq_true c43, c45, c45', c48, c48', oi1n, nI_add, pk_mul, bI, and_true, true_and, and_false, false_and, and_self, or_true, true_or, or_false, false_or, or_self, not_true_eq_false, not_false_eq_true, if_true, if_false, ↓reduceIte] <;> rfl) | rfl | (simp [rsL, c15, c15', c16, c16', c17, c17', c20, c20', c39, c39', eq_true c43, c45, c45', c48, c48', bI, oi1, nI_succ]; done))
                · skip
                  refine V.bipush (v := nI 6) F dL_reason_154 (by decide) ?_
                  refine V.goto (tgt := 160) F dL_reason_156 (by decide) ?_
                  exact V.iretR F hr hk dL_reason_160 (by subst e1 e2 e3 e4 e5 e6 e7 e8 e10 e11 e12 e13 e14 e18 e19 e38 e40 e41 e42 e44 e46 e47; first | with_reducible rfl | (simp only [rsL, c15, c15', c16, c16', c17, c17', c20, c20', c39, c39', eq_true c43, c45, c45', c48, c48', oi1n, nI_add, pk_mul, bI, and_true, true_and, and_false, false_and, and_self, or_true, true_or, or_false, false_or, or_self, not_true_eq_false, not_false_eq_true, if_true, if_false, ↓reduceIte] <;> rfl) | rfl | (simp [rsL, c15, c15', c16, c16', c17, c17', c20, c20', c39, c39', eq_true c43, c45, c45', c48, c48', bI, oi1, nI_succ]; done))
              · skip
                refine V.aload_n F dL_reason_117 rfl (lv_at hl 5 rfl) ?_
                refine V.iconst (v := nI 0) F dL_reason_118 (by decide) ?_
                refine V.iadn (i := 0) F hE 0 rfl (by omega) (by omega) dL_reason_119 (fun z49 e49 => ?_)
                refine V.aload F dL_reason_120 (lv_at hl 7 rfl) ?_
                refine V.iload_n F dL_reason_122 rfl (lv_at hl 4 rfl) ?_
                refine V.iadn (i := p) F hE 2 rfl (by omega) (by omega) dL_reason_123 (fun z50 e50 => ?_)
                refine V.isub F dL_reason_124 (fun z51 e51 => ?_)
                refine V.iconst (v := nI 2) F dL_reason_125 (by decide) ?_
                refine V.icmp_ge (tgt := 133) F dL_reason_126 (by decide) (fun c52 c52' => ?_) (fun c52 c52' => ?_)
                · skip
                  refine V.iload_n F dL_reason_133 rfl (lv_at hl 4 rfl) ?_
                  refine V.iload F dL_reason_134 (lv_at hl 2 rfl) ?_
                  refine V.iload F dL_reason_136 (lv_at hl 1 rfl) ?_
                  refine V.aload_n F dL_reason_138 rfl (lv_at hl 5 rfl) ?_
                  refine V.aload F dL_reason_139 (lv_at hl 8 rfl) ?_
                  refine V.rdS F hE (c_L_counting l E hR hR40) (kL_73 F.2.2.2.2 ⟨Nat.le_of_ble_eq_true rfl, Nat.le_of_ble_eq_true rfl⟩) [0, 3] rfl rfl hl.1 (Nat.le_of_ble_eq_true rfl) dL_reason_141 rfl ?_
                  refine V.topi (fun z53 e53 => ?_)
                  refine V.iload F dL_reason_144 (lv_at hl 2 rfl) ?_
                  refine V.iload F dL_reason_146 (lv_at hl 1 rfl) ?_
                  refine V.rdS F hE (c_L_needs l E) (kL_77 F.2.2.2.2 ⟨Nat.le_of_ble_eq_true rfl, Nat.le_of_ble_eq_true rfl⟩) [] rfl rfl hl.1 (Nat.le_of_ble_eq_true rfl) dL_reason_148 rfl ?_
                  refine V.topi (fun z54 e54 => ?_)
                  refine V.icmp_ge (tgt := 159) F dL_reason_151 (by decide) (fun c55 c55' => ?_) (fun c55 c55' => ?_)
                  · skip
                    refine V.iconst (v := nI 0) F dL_reason_159 (by decide) ?_
                    exact V.iretR F hr hk dL_reason_160 (by subst e1 e2 e3 e4 e5 e6 e7 e8 e10 e11 e12 e13 e14 e18 e19 e38 e40 e41 e42 e44 e49 e50 e51 e53 e54; first | with_reducible rfl | (simp only [rsL, c15, c15', c16, c16', c17, c17', c20, c20', c39, c39', eq_true c43, c45, c45', c52, c52', c55, c55', oi1n, nI_add, pk_mul, bI, and_true, true_and, and_false, false_and, and_self, or_true, true_or, or_false, false_or, or_self, not_true_eq_false, not_false_eq_true, if_true, if_false, ↓reduceIte] <;> rfl) | rfl | (simp [rsL, c15, c15', c16, c16', c17, c17', c20, c20', c39, c39', eq_true c43, c45, c45', c52, c52', c55, c55', bI, oi1, nI_succ]; done))
                  · skip
                    refine V.bipush (v := nI 6) F dL_reason_154 (by decide) ?_
                    refine V.goto (tgt := 160) F dL_reason_156 (by decide) ?_
                    exact V.iretR F hr hk dL_reason_160 (by subst e1 e2 e3 e4 e5 e6 e7 e8 e10 e11 e12 e13 e14 e18 e19 e38 e40 e41 e42 e44 e49 e50 e51 e53 e54; first | with_reducible rfl | (simp only [rsL, c15, c15', c16, c16', c17, c17', c20, c20', c39, c39', eq_true c43, c45, c45', c52, c52', c55, c55', oi1n, nI_add, pk_mul, bI, and_true, true_and, and_false, false_and, and_self, or_true, true_or, or_false, false_or, or_self, not_true_eq_false, not_false_eq_true, if_true, if_false, ↓reduceIte] <;> rfl) | rfl | (simp [rsL, c15, c15', c16, c16', c17, c17', c20, c20', c39, c39', eq_true c43, c45, c45', c52, c52', c55, c55', bI, oi1, nI_succ]; done))
                · skip
                  refine V.iconst (v := nI 5) F dL_reason_129 (by decide) ?_
                  refine V.goto (tgt := 160) F dL_reason_130 (by decide) ?_
                  exact V.iretR F hr hk dL_reason_160 (by subst e1 e2 e3 e4 e5 e6 e7 e8 e10 e11 e12 e13 e14 e18 e19 e38 e40 e41 e42 e44 e49 e50 e51; first | with_reducible rfl | (simp only [rsL, c15, c15', c16, c16', c17, c17', c20, c20', c39, c39', eq_true c43, c45, c45', c52, c52', oi1n, nI_add, pk_mul, bI, and_true, true_and, and_false, false_and, and_self, or_true, true_or, or_false, false_or, or_self, not_true_eq_false, not_false_eq_true, if_true, if_false, ↓reduceIte] <;> rfl) | rfl | (simp [rsL, c15, c15', c16, c16', c17, c17', c20, c20', c39, c39', eq_true c43, c45, c45', c52, c52', bI, oi1, nI_succ]; done))
            · skip
              refine V.iconst (v := nI 4) F dL_reason_108 (by decide) ?_
              exact V.iretR F hr hk dL_reason_109 (by subst e1 e2 e3 e4 e5 e6 e7 e8 e10 e11 e12 e13 e14 e18 e19 e38 e40 e41 e42; first | with_reducible rfl | (simp only [rsL, c15, c15', c16, c16', c17, c17', c20, c20', c39, c39', c43, oi1n, nI_add, pk_mul, bI, and_true, true_and, and_false, false_and, and_self, or_true, true_or, or_false, false_or, or_self, not_true_eq_false, not_false_eq_true, if_true, if_false, ↓reduceIte] <;> rfl) | rfl | (simp [rsL, c15, c15', c16, c16', c17, c17', c20, c20', c39, c39', c43, bI, oi1, nI_succ]; done))
          · skip
            refine V.iconst (v := nI 3) F dL_reason_90 (by decide) ?_
            exact V.iretR F hr hk dL_reason_91 (by subst e1 e2 e3 e4 e5 e6 e7 e8 e10 e11 e12 e13 e14 e18 e19 e38; first | with_reducible rfl | (simp only [rsL, c15, c15', c16, c16', c17, c17', c20, c20', c39, c39', oi1n, nI_add, pk_mul, bI, and_true, true_and, and_false, false_and, and_self, or_true, true_or, or_false, false_or, or_self, not_true_eq_false, not_false_eq_true, if_true, if_false, ↓reduceIte] <;> rfl) | rfl | (simp [rsL, c15, c15', c16, c16', c17, c17', c20, c20', c39, c39', bI, oi1, nI_succ]; done))
      · skip
        refine V.iconst (v := nI 2) F dL_reason_67 (by decide) ?_
        exact V.iretR F hr hk dL_reason_68 (by subst e1 e2 e3 e4 e5 e6 e7 e8 e10 e11 e12 e13 e14; first | with_reducible rfl | (simp only [rsL, c15, c15', c16, c16', c17, c17', oi1n, nI_add, pk_mul, bI, and_true, true_and, and_false, false_and, and_self, or_true, true_or, or_false, false_or, or_self, not_true_eq_false, not_false_eq_true, if_true, if_false, ↓reduceIte] <;> rfl) | rfl | (simp [rsL, c15, c15', c16, c16', c17, c17', bI, oi1, nI_succ]; done))
  · skip
    refine V.iconst (v := nI 1) F dL_reason_52 (by decide) ?_
    exact V.iretR F hr hk dL_reason_53 (by subst e1 e2 e3 e4 e5 e6 e7 e8 e10 e11 e12 e13 e14; first | with_reducible rfl | (simp only [rsL, c15, c15', oi1n, nI_add, pk_mul, bI, and_true, true_and, and_false, false_and, and_self, or_true, true_or, or_false, false_or, or_self, not_true_eq_false, not_false_eq_true, if_true, if_false, ↓reduceIte] <;> rfl) | rfl | (simp [rsL, c15, c15', bI, oi1, nI_succ]; done))
set_option maxHeartbeats 4000000 in
set_option maxRecDepth 100000 in
theorem c_L_injure_a (l : Launch) (E : EV) {u1 u6 : Nat} {qs hs : Nat → Int32} {p w x : Int32} {H : Nat} (hH : qs 9 = nI H) (hlt : H < 12) : Wr l E yL_injure cL_injure 6 none 0 0 [.int p, .int w, .int x, .ref u1, .ref u6] ([rw_ E u1 10 qs, rw_ E u6 12 hs]) ([rw_ E u1 10 (ijQ qs (H + 1)), rw_ E u6 12 (upd hs H (ijV qs p w x))]) none := by
  refine Wr.mk0 (by decide) (Nat.le_of_ble_eq_true rfl) ?_
  intro pP eE sS mM aA bB mt cC F hr hk hE hN ls hl
  have hl : lv_has ls 6 [(0, .int p), (1, .int w), (2, .int x), (3, .ref u1), (4, .ref u6)] := hl
  refine V.iconst (v := nI 0) F dL_injure_0 (by decide) ?_
  refine V.istore (lv' := [(5, .int (nI 0)), (0, .int p), (1, .int w), (2, .int x), (3, .ref u1), (4, .ref u6)]) F dL_injure_1 hl (by decide) rfl (fun ls hl => ?_)
  refine V.iload F dL_injure_3 (lv_at hl 0 rfl) ?_
  refine V.bipush (v := nI 11) F dL_injure_5 (by decide) ?_
  refine V.icmp_ge (tgt := 37) F dL_injure_7 (by decide) (fun h _ => absurd h (by decide)) (fun _ _ => ?_)
  refine V.aload_n F dL_injure_10 rfl (lv_at hl 4 rfl) ?_
  refine V.bipush (v := nI 9) F dL_injure_11 (by decide) ?_
  refine V.iadn (i := 9) F hE 0 rfl (by omega) (by omega) dL_injure_13 (fun z2 e2 => ?_)
  obtain rfl : z2 = nI H := e2.trans hH
  refine V.bipush (v := nI 12) F dL_injure_14 (by decide) ?_
  refine V.icmp_ne (tgt := 37) F dL_injure_16 (by decide) (fun c3 => ?_) (fun c3 => ?_)
  · skip
    refine V.aload_n F dL_injure_37 rfl (lv_at hl 4 rfl) ?_
    refine V.bipush (v := nI 9) F dL_injure_38 (by decide) ?_
    refine V.aload_n F dL_injure_40 rfl (lv_at hl 4 rfl) ?_
    refine V.bipush (v := nI 9) F dL_injure_41 (by decide) ?_
    refine V.iadn (i := 9) F hE 0 rfl (by omega) (by omega) dL_injure_43 (fun z4 e4 => ?_)
    obtain rfl : z4 = nI H := e4.trans hH
    refine V.bipush (v := nI 12) F dL_injure_44 (by decide) ?_
    refine V.icmp_ne (tgt := 54) F dL_injure_46 (by decide) (fun _ => ?_) (fun h => absurd h c3)
    refine V.aload_n F dL_injure_54 rfl (lv_at hl 4 rfl) ?_
    refine V.bipush (v := nI 9) F dL_injure_55 (by decide) ?_
    refine V.iadn (i := 9) F hE 0 rfl (by omega) (by omega) dL_injure_57 (fun z6 e6 => ?_)
    obtain rfl : z6 = nI H := e6.trans hH
    refine V.isn (i := 9) F hE hN (by rfl) 0 rfl (by omega) (by omega) dL_injure_58 rfl ?_
    refine V.aload F dL_injure_59 (lv_at hl 5 rfl) ?_
    refine V.aload_n F dL_injure_61 rfl (lv_at hl 4 rfl) ?_
    refine V.bipush (v := nI 9) F dL_injure_62 (by decide) ?_
    refine V.iadn (i := 9) F hE 0 rfl (by omega) (by omega) dL_injure_64 (fun z7 e7 => ?_)
    obtain rfl : z7 = nI H := e7.trans upd_eq
    refine V.iload_n F dL_injure_65 rfl (lv_at hl 1 rfl) ?_
    refine V.bipush (v := nI 8) F dL_injure_66 (by decide) ?_
    refine V.iload_n F dL_injure_68 rfl (lv_at hl 2 rfl) ?_
    refine V.imul F dL_injure_69 (fun z8 e8 => ?_)
    refine V.iadd F dL_injure_70 (fun z9 e9 => ?_)
    refine V.sipush (v := nI 512) F dL_injure_71 (by decide) ?_
    refine V.aload_n F dL_injure_74 rfl (lv_at hl 4 rfl) ?_
    refine V.iconst (v := nI 0) F dL_injure_75 (by decide) ?_
    refine V.iadn (i := 0) F hE 0 rfl (by omega) (by omega) dL_injure_76 (fun z10 e10 => ?_)
    obtain rfl : z10 = qs 0 := e10.trans (upd_ne (by decide))
    refine V.imul F dL_injure_77 (fun z11 e11 => ?_)
    refine V.iadd F dL_injure_78 (fun z12 e12 => ?_)
    refine V.ldc F cL_80 dL_injure_79 ?_
    refine V.aload_n F dL_injure_81 rfl (lv_at hl 4 rfl) ?_
    refine V.iconst (v := nI 0) F dL_injure_82 (by decide) ?_
    refine V.iadn (i := 0) F hE 0 rfl (by omega) (by omega) dL_injure_83 (fun z13 e13 => ?_)
    obtain rfl : z13 = qs 0 := e13.trans (upd_ne (by decide))
    refine V.iload_n F dL_injure_84 rfl (lv_at hl 3 rfl) ?_
    refine V.iadd F dL_injure_85 (fun z14 e14 => ?_)
    refine V.iconst (v := nI 1) F dL_injure_86 (by decide) ?_
    refine V.isub F dL_injure_87 (fun z15 e15 => ?_)
    refine V.imul F dL_injure_88 (fun z16 e16 => ?_)
    refine V.iadd F dL_injure_89 (fun z17 e17 => ?_)
    refine V.isn (i := H) F hE hN (by rfl) 1 rfl (by omega) (by omega) dL_injure_90 rfl ?_
    refine V.aload_n F dL_injure_91 rfl (lv_at hl 4 rfl) ?_
    refine V.bipush (v := nI 9) F dL_injure_92 (by decide) ?_
    refine V.dup2 F dL_injure_94 rfl rfl ?_
    refine V.iadn (i := 9) F hE 0 rfl (by omega) (by omega) dL_injure_95 (fun z18 e18 => ?_)
    obtain rfl : z18 = nI H := e18.trans upd_eq
    refine V.iconst (v := nI 1) F dL_injure_96 (by decide) ?_
    refine V.iadd F dL_injure_97 (fun z19 e19 => ?_)
    obtain rfl : z19 = nI (H + 1) := e19.trans (nI_add _ _)
    refine V.isn (i := 9) F hE hN (by rfl) 0 rfl (by omega) (by omega) dL_injure_98 rfl ?_
    refine V.aload_n F dL_injure_99 rfl (lv_at hl 4 rfl) ?_
    refine V.bipush (v := nI 6) F dL_injure_100 (by decide) ?_
    refine V.dup2 F dL_injure_102 rfl rfl ?_
    refine V.iadn (i := 6) F hE 0 rfl (by omega) (by omega) dL_injure_103 (fun z20 e20 => ?_)
    obtain rfl : z20 = qs 6 := e20.trans ((upd_ne (by decide)).trans (upd_ne (by decide)))
    refine V.iconst (v := nI 1) F dL_injure_104 (by decide) ?_
    refine V.iadd F dL_injure_105 (fun z21 e21 => ?_)
    refine V.isn (i := 6) F hE hN (by rfl) 0 rfl (by omega) (by omega) dL_injure_106 rfl ?_
    exact V.vretW F hr hk dL_injure_107 (by subst e8 e9 e11 e12 e14 e15 e16 e17 e21; first | with_reducible rfl | rfl | (rw [upd_upd]; done) | (rw [upd_upd]; rfl) | (simp only [oi1n, nI_add]; done) | (rw [drK_z]; done) | exact (congrArg (fun y => [rw_ E u1 10 qs, rw_ E u6 12 y]) drK_u).symm | exact (congrArg (fun y => [rw_ E u1 10 qs, rw_ E u6 12 y]) drK_u))
  · skip
    exact absurd ((nI_eq (by omega) (by omega)).mp c3) (by omega)
set_option maxHeartbeats 4000000 in
set_option maxRecDepth 100000 in
theorem c_L_injure_b (l : Launch) (E : EV) {u1 u6 : Nat} {qs hs : Nat → Int32} {p w x : Int32} (hH : qs 9 = nI 12) : Wr l E yL_injure cL_injure 6 none 0 0 [.int p, .int w, .int x, .ref u1, .ref u6] ([rw_ E u1 10 qs, rw_ E u6 12 hs]) ([rw_ E u1 10 (ijQ qs 12), rw_ E u6 12 (upd (drF 12 hs) 11 (ijV qs p w x))]) none := by
  refine Wr.mk0 (by decide) (Nat.le_of_ble_eq_true rfl) ?_
  intro pP eE sS mM aA bB mt cC F hr hk hE hN ls hl
  have hl : lv_has ls 6 [(0, .int p), (1, .int w), (2, .int x), (3, .ref u1), (4, .ref u6)] := hl
  refine V.iconst (v := nI 0) F dL_injure_0 (by decide) ?_
  refine V.istore (lv' := [(5, .int (nI 0)), (0, .int p), (1, .int w), (2, .int x), (3, .ref u1), (4, .ref u6)]) F dL_injure_1 hl (by decide) rfl (fun ls hl => ?_)
  have h2 : nI 0 = nI 0 := (by first | with_reducible rfl | rfl | (rw [upd_upd]; done) | (rw [upd_upd]; rfl) | (simp only [oi1n, nI_add]; done) | (rw [drK_z]; done) | exact (congrArg (fun y => [rw_ E u1 10 qs, rw_ E u6 12 y]) drK_u).symm | exact (congrArg (fun y => [rw_ E u1 10 qs, rw_ E u6 12 y]) drK_u))
  refine V.weq (ws' := [rw_ E u1 10 qs, rw_ E u6 12 (drK hs 0)]) (by first | with_reducible rfl | rfl | (rw [upd_upd]; done) | (rw [upd_upd]; rfl) | (simp only [oi1n, nI_add]; done) | (rw [drK_z]; done) | exact (congrArg (fun y => [rw_ E u1 10 qs, rw_ E u6 12 y]) drK_u).symm | exact (congrArg (fun y => [rw_ E u1 10 qs, rw_ E u6 12 y]) drK_u)) ?_
  refine V.loopW (Wd := fun j1 : Nat => [rw_ E u1 10 qs, rw_ E u6 12 (drK hs j1)]) (N := 11) (k0 := 0) (I := (fun j1 : Nat => [(5, .int (nI j1)), (0, .int p), (1, .int w), (2, .int x), (3, .ref u1), (4, .ref u6)])) (J := fun _ => True) (Nat.zero_le _) trivial (lv_sub hl [0, 1, 2, 3, 4, 5] (by rw [h2]; rfl)) ?_
  intro j1 j1_N j1_J ihj1 ls hl
  have hl : lv_has ls 6 [(5, .int (nI j1)), (0, .int p), (1, .int w), (2, .int x), (3, .ref u1), (4, .ref u6)] := hl
  try dsimp only at j1_J ihj1 ⊢
  refine V.iload F dL_injure_3 (lv_at hl 0 rfl) ?_
  refine V.bipush (v := nI 11) F dL_injure_5 (by decide) ?_
  refine V.icmp_ge (tgt := 37) F dL_injure_7 (by decide) (fun c3 c3' => ?_) (fun c3 c3' => ?_)
  · skip
    have j1_eq := ((lpL rfl (by omega) j1_N).1 c3).symm
    subst j1_eq
    refine V.aload_n F dL_injure_37 rfl (lv_at hl 4 rfl) ?_
    refine V.bipush (v := nI 9) F dL_injure_38 (by decide) ?_
    refine V.aload_n F dL_injure_40 rfl (lv_at hl 4 rfl) ?_
    refine V.bipush (v := nI 9) F dL_injure_41 (by decide) ?_
    refine V.iadn (i := 9) F hE 0 rfl (by omega) (by omega) dL_injure_43 (fun z4 e4 => ?_)
    obtain rfl : z4 = nI 12 := e4.trans hH
    refine V.bipush (v := nI 12) F dL_injure_44 (by decide) ?_
    refine V.icmp_ne (tgt := 54) F dL_injure_46 (by decide) (fun h => absurd h (by decide)) (fun _ => ?_)
    refine V.bipush (v := nI 11) F dL_injure_49 (by decide) ?_
    refine V.goto (tgt := 58) F dL_injure_51 (by decide) ?_
    refine V.isn (i := 9) F hE hN (by rfl) 0 rfl (by omega) (by omega) dL_injure_58 rfl ?_
    refine V.aload F dL_injure_59 (lv_at hl 5 rfl) ?_
    refine V.aload_n F dL_injure_61 rfl (lv_at hl 4 rfl) ?_
    refine V.bipush (v := nI 9) F dL_injure_62 (by decide) ?_
    refine V.iadn (i := 9) F hE 0 rfl (by omega) (by omega) dL_injure_64 (fun z6 e6 => ?_)
    obtain rfl : z6 = nI 11 := e6.trans upd_eq
    refine V.iload_n F dL_injure_65 rfl (lv_at hl 1 rfl) ?_
    refine V.bipush (v := nI 8) F dL_injure_66 (by decide) ?_
    refine V.iload_n F dL_injure_68 rfl (lv_at hl 2 rfl) ?_
    refine V.imul F dL_injure_69 (fun z7 e7 => ?_)
    refine V.iadd F dL_injure_70 (fun z8 e8 => ?_)
    refine V.sipush (v := nI 512) F dL_injure_71 (by decide) ?_
    refine V.aload_n F dL_injure_74 rfl (lv_at hl 4 rfl) ?_
    refine V.iconst (v := nI 0) F dL_injure_75 (by decide) ?_
    refine V.iadn (i := 0) F hE 0 rfl (by omega) (by omega) dL_injure_76 (fun z9 e9 => ?_)
    obtain rfl : z9 = qs 0 := e9.trans (upd_ne (by decide))
    refine V.imul F dL_injure_77 (fun z10 e10 => ?_)
    refine V.iadd F dL_injure_78 (fun z11 e11 => ?_)
    refine V.ldc F cL_80 dL_injure_79 ?_
    refine V.aload_n F dL_injure_81 rfl (lv_at hl 4 rfl) ?_
    refine V.iconst (v := nI 0) F dL_injure_82 (by decide) ?_
    refine V.iadn (i := 0) F hE 0 rfl (by omega) (by omega) dL_injure_83 (fun z12 e12 => ?_)
    obtain rfl : z12 = qs 0 := e12.trans (upd_ne (by decide))
    refine V.iload_n F dL_injure_84 rfl (lv_at hl 3 rfl) ?_
    refine V.iadd F dL_injure_85 (fun z13 e13 => ?_)
    refine V.iconst (v := nI 1) F dL_injure_86 (by decide) ?_
    refine V.isub F dL_injure_87 (fun z14 e14 => ?_)
    refine V.imul F dL_injure_88 (fun z15 e15 => ?_)
    refine V.iadd F dL_injure_89 (fun z16 e16 => ?_)
    refine V.isn (i := 11) F hE hN (by rfl) 1 rfl (by omega) (by omega) dL_injure_90 rfl ?_
    refine V.aload_n F dL_injure_91 rfl (lv_at hl 4 rfl) ?_
    refine V.bipush (v := nI 9) F dL_injure_92 (by decide) ?_
    refine V.dup2 F dL_injure_94 rfl rfl ?_
    refine V.iadn (i := 9) F hE 0 rfl (by omega) (by omega) dL_injure_95 (fun z17 e17 => ?_)
    obtain rfl : z17 = nI 11 := e17.trans upd_eq
    refine V.iconst (v := nI 1) F dL_injure_96 (by decide) ?_
    refine V.iadd F dL_injure_97 (fun z18 e18 => ?_)
    obtain rfl : z18 = nI (11 + 1) := e18.trans (nI_add _ _)
    refine V.isn (i := 9) F hE hN (by rfl) 0 rfl (by omega) (by omega) dL_injure_98 rfl ?_
    refine V.aload_n F dL_injure_99 rfl (lv_at hl 4 rfl) ?_
    refine V.bipush (v := nI 6) F dL_injure_100 (by decide) ?_
    refine V.dup2 F dL_injure_102 rfl rfl ?_
    refine V.iadn (i := 6) F hE 0 rfl (by omega) (by omega) dL_injure_103 (fun z19 e19 => ?_)
    obtain rfl : z19 = qs 6 := e19.trans ((upd_ne (by decide)).trans (upd_ne (by decide)))
    refine V.iconst (v := nI 1) F dL_injure_104 (by decide) ?_
    refine V.iadd F dL_injure_105 (fun z20 e20 => ?_)
    refine V.isn (i := 6) F hE hN (by rfl) 0 rfl (by omega) (by omega) dL_injure_106 rfl ?_
    exact V.vretW F hr hk dL_injure_107 (by subst e7 e8 e10 e11 e13 e14 e15 e16 e20; first | with_reducible rfl | rfl | (rw [upd_upd]; done) | (rw [upd_upd]; rfl) | (simp only [oi1n, nI_add]; done) | (rw [drK_z]; done) | exact (congrArg (fun y => [rw_ E u1 10 qs, rw_ E u6 12 y]) drK_u).symm | exact (congrArg (fun y => [rw_ E u1 10 qs, rw_ E u6 12 y]) drK_u))
  · skip
    have j1_lt := (lpL rfl (by omega) j1_N).2 c3
    refine V.aload_n F dL_injure_10 rfl (lv_at hl 4 rfl) ?_
    refine V.bipush (v := nI 9) F dL_injure_11 (by decide) ?_
    refine V.iadn (i := 9) F hE 0 rfl (by omega) (by omega) dL_injure_13 (fun z21 e21 => ?_)
    obtain rfl : z21 = nI 12 := e21.trans hH
    refine V.bipush (v := nI 12) F dL_injure_14 (by decide) ?_
    refine V.icmp_ne (tgt := 37) F dL_injure_16 (by decide) (fun h => absurd h (by decide)) (fun _ => ?_)
    refine V.aload F dL_injure_19 (lv_at hl 5 rfl) ?_
    refine V.iload F dL_injure_21 (lv_at hl 0 rfl) ?_
    refine V.aload F dL_injure_23 (lv_at hl 5 rfl) ?_
    refine V.iload F dL_injure_25 (lv_at hl 0 rfl) ?_
    refine V.iconst (v := nI 1) F dL_injure_27 (by decide) ?_
    refine V.iadd F dL_injure_28 (fun z23 e23 => ?_)
    obtain rfl : z23 = nI (j1 + 1) := e23.trans (nI_add _ _)
    refine V.iadn (i := (j1 + 1)) F hE 1 rfl (by omega) (by omega) dL_injure_29 (fun z24 e24 => ?_)
    refine V.isn (i := j1) F hE hN (by rfl) 1 rfl (by omega) (by omega) dL_injure_30 rfl ?_
    refine V.iinc (j := 0) (lv' := fun z25 => [(5, .int z25), (0, .int p), (1, .int w), (2, .int x), (3, .ref u1), (4, .ref u6)]) F dL_injure_31 hl rfl (by decide) (fun _ => rfl) (fun z25 e25 ls hl => ?_)
    refine V.goto (tgt := 3) F dL_injure_34 (by decide) ?_
    have h26 : nI (j1 + 1) = z25 := (by subst e24 e25; first | with_reducible rfl | rfl | (rw [upd_upd]; done) | (rw [upd_upd]; rfl) | (simp only [oi1n, nI_add]; done) | (rw [drK_z]; done) | exact (congrArg (fun y => [rw_ E u1 10 qs, rw_ E u6 12 y]) drK_u).symm | exact (congrArg (fun y => [rw_ E u1 10 qs, rw_ E u6 12 y]) drK_u))
    refine V.weq (ws' := [rw_ E u1 10 qs, rw_ E u6 12 (drK hs (j1 + 1))]) (by subst e24 e25; first | with_reducible rfl | rfl | (rw [upd_upd]; done) | (rw [upd_upd]; rfl) | (simp only [oi1n, nI_add]; done) | (rw [drK_z]; done) | exact (congrArg (fun y => [rw_ E u1 10 qs, rw_ E u6 12 y]) drK_u).symm | exact (congrArg (fun y => [rw_ E u1 10 qs, rw_ E u6 12 y]) drK_u)) ?_
    exact ihj1 j1_lt trivial _ (lv_sub hl [0, 1, 2, 3, 4, 5] (by rw [h26]; rfl))
