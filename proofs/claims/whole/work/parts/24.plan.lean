set_option maxHeartbeats 4000000 in
set_option maxRecDepth 100000 in
theorem c_X1_makeEmpty (l : Launch) (E : EV) {t u : Nat} {n : Int32} {f : Nat → Int32} : Wr l E yX1_makeEmpty cX1_makeEmpty 1 none 0 0 [.ref t] (ptO E t u n f) (ptO E t u 0 f) none := by
  refine Wr.mk0 (by decide) (Nat.le_of_ble_eq_true rfl) ?_
  intro pP eE sS mM aA bB mt cC F hr hk hE hN ls hl
  have hl : lv_has ls 1 [(0, .ref t)] := hl
  refine V.aload_n F dX1_makeEmpty_0 rfl (lv_at hl 0 rfl) ?_
  refine V.iconst (v := 0) F dX1_makeEmpty_1 (by decide) ?_
  refine V.putf F hE hN (by rfl) pX1_9 rfl rfl 0 rfl (by exact Nat.le_of_ble_eq_true rfl) dX1_makeEmpty_2 rfl ?_
  exact V.vretW F hr hk dX1_makeEmpty_5 (by first | with_reducible rfl | (simp only [oi1, nI_succ, bI, and_true, true_and, and_false, false_and, and_self, or_true, true_or, or_false, false_or, or_self, not_true_eq_false, not_false_eq_true, if_true, if_false, ↓reduceIte] <;> rfl) | rfl | (simp [bI, oi1, nI_succ]; done))
set_option maxHeartbeats 4000000 in
set_option maxRecDepth 100000 in
theorem c_X1_add (l : Launch) (E : EV) {t u : Nat} {n : Int32} {f : Nat → Int32} {c : Int32} : Wr l E yX1_add cX1_add 2 none 1 22 [.ref t, .int c] (ptO E t u n f) (ptO E t u (n + 1) (ptF f 60 n c)) none := by
  refine Wr.mk0 (by decide) (Nat.le_of_ble_eq_true rfl) ?_
  intro pP eE sS mM aA bB mt cC F hr hk hE hN ls hl
  have hl : lv_has ls 2 [(0, .ref t), (1, .int c)] := hl
  refine V.aload_n F dX1_add_0 rfl (lv_at hl 0 rfl) ?_
  refine V.getf F hE gX1_15 0 rfl rfl dX1_add_1 ?_
  refine V.aload_n F dX1_add_4 rfl (lv_at hl 0 rfl) ?_
  refine V.getfi F hE gX1_9 0 rfl rfl dX1_add_5 (fun z1 e1 => ?_)
  refine V.iload_n F dX1_add_8 rfl (lv_at hl 1 rfl) ?_
  refine V.wrSNn F hE hN (by rfl) (c_X6_put l E (by first | assumption | omega)) (kX1_19 F.2.2.2.2 hE.2.1 ⟨Nat.le_of_ble_eq_true rfl, Nat.le_of_ble_eq_true rfl⟩) [1] rfl (by decide) rfl rfl rfl hl.1 (by exact Nat.le_of_ble_eq_true rfl) dX1_add_9 rfl ?_
  refine V.aload_n F dX1_add_12 rfl (lv_at hl 0 rfl) ?_
  refine V.dup F dX1_add_13 rfl ?_
  refine V.getfi F hE gX1_9 0 rfl rfl dX1_add_14 (fun z2 e2 => ?_)
  refine V.iconst (v := 1) F dX1_add_17 (by decide) ?_
  refine V.iadd F dX1_add_18 (fun z3 e3 => ?_)
  refine V.putf F hE hN (by rfl) pX1_9 rfl rfl 0 rfl (by exact Nat.le_of_ble_eq_true rfl) dX1_add_19 rfl ?_
  exact V.vretW F hr hk dX1_add_22 (by subst e1 e2 e3; first | with_reducible rfl | (simp only [oi1, nI_succ, bI, and_true, true_and, and_false, false_and, and_self, or_true, true_or, or_false, false_or, or_self, not_true_eq_false, not_false_eq_true, if_true, if_false, ↓reduceIte] <;> rfl) | rfl | (simp [bI, oi1, nI_succ]; done))
set_option maxHeartbeats 4000000 in
set_option maxRecDepth 100000 in
theorem c_X1_codeAt (l : Launch) (E : EV) {t u : Nat} {n : Int32} {f : Nat → Int32} {i : Int32} : Rd l E yX1_codeAt cX1_codeAt 2 (some .int) 1 21 [.ref t, .int i] (ptO E t u n f) (some (.int (gt f 60 i))) := by
  refine Rd.mk0 (by decide) (Nat.le_of_ble_eq_true rfl) ?_
  intro pP eE sS mM aA bB mt cC F hr hk hE ls hl
  have hl : lv_has ls 2 [(0, .ref t), (1, .int i)] := hl
  refine V.aload_n F dX1_codeAt_0 rfl (lv_at hl 0 rfl) ?_
  refine V.getf F hE gX1_15 0 rfl rfl dX1_codeAt_1 ?_
  refine V.iload_n F dX1_codeAt_4 rfl (lv_at hl 1 rfl) ?_
  refine V.rdSN F hE (c_X6_at l E (by first | assumption | omega)) (kX1_23 F.2.2.2.2 hE.2.1 ⟨Nat.le_of_ble_eq_true rfl, Nat.le_of_ble_eq_true rfl⟩) [1] rfl rfl hl.1 (Nat.le_of_ble_eq_true rfl) dX1_codeAt_5 rfl ?_
  refine V.topi (fun z1 e1 => ?_)
  exact V.iretR F hr hk dX1_codeAt_8 (by subst e1; first | with_reducible rfl | (simp only [oi1, nI_succ, bI, and_true, true_and, and_false, false_and, and_self, or_true, true_or, or_false, false_or, or_self, not_true_eq_false, not_false_eq_true, if_true, if_false, ↓reduceIte] <;> rfl) | rfl | (simp [bI, oi1, nI_succ]; done))
set_option maxHeartbeats 4000000 in
set_option maxRecDepth 100000 in
theorem c_X1_digitAt (l : Launch) (E : EV) {t u : Nat} {n : Int32} {f : Nat → Int32} {i : Int32} : Rd l E yX1_digitAt cX1_digitAt 2 (some .int) 2 42 [.ref t, .int i] (ptO E t u n f) (some (.int (gt f 60 i - 48))) := by
  refine Rd.mk0 (by decide) (Nat.le_of_ble_eq_true rfl) ?_
  intro pP eE sS mM aA bB mt cC F hr hk hE ls hl
  have hl : lv_has ls 2 [(0, .ref t), (1, .int i)] := hl
  refine V.aload_n F dX1_digitAt_0 rfl (lv_at hl 0 rfl) ?_
  refine V.iload_n F dX1_digitAt_1 rfl (lv_at hl 1 rfl) ?_
  refine V.rdV (q0 := 0) F hE (c_X1_codeAt l E) (kX1_27 F.2.2.2.2 ⟨Nat.le_of_ble_eq_true rfl, Nat.le_of_ble_eq_true rfl⟩) rfl rfl [0, 1] rfl rfl hl.1 (Nat.le_of_ble_eq_true rfl) dX1_digitAt_2 rfl ?_
  refine V.topi (fun z1 e1 => ?_)
  refine V.bipush (v := 48) F dX1_digitAt_5 (by decide) ?_
  refine V.isub F dX1_digitAt_7 (fun z2 e2 => ?_)
  exact V.iretR F hr hk dX1_digitAt_8 (by subst e1 e2; first | with_reducible rfl | (simp only [oi1, nI_succ, bI, and_true, true_and, and_false, false_and, and_self, or_true, true_or, or_false, false_or, or_self, not_true_eq_false, not_false_eq_true, if_true, if_false, ↓reduceIte] <;> rfl) | rfl | (simp [bI, oi1, nI_succ]; done))
set_option maxHeartbeats 4000000 in
set_option maxRecDepth 100000 in
theorem c_X1_hasDigitAt (l : Launch) (E : EV) {t u : Nat} {n : Int32} {f : Nat → Int32} {i : Int32} : Rd l E yX1_hasDigitAt cX1_hasDigitAt 2 (some .boolean) 2 42 [.ref t, .int i] (ptO E t u n f) (some (.int (bI (i < n ∧ (48 ≤ gt f 60 i ∧ gt f 60 i ≤ 57))))) := by
  refine Rd.mk0 (by decide) (Nat.le_of_ble_eq_true rfl) ?_
  intro pP eE sS mM aA bB mt cC F hr hk hE ls hl
  have hl : lv_has ls 2 [(0, .ref t), (1, .int i)] := hl
  refine V.iload_n F dX1_hasDigitAt_0 rfl (lv_at hl 1 rfl) ?_
  refine V.aload_n F dX1_hasDigitAt_1 rfl (lv_at hl 0 rfl) ?_
  refine V.getfi F hE gX1_9 0 rfl rfl dX1_hasDigitAt_2 (fun z1 e1 => ?_)
  refine V.icmp_ge (tgt := 27) F dX1_hasDigitAt_5 (by decide) (fun c2 c2' => ?_) (fun c2 c2' => ?_)
  · skip
    refine V.iconst (v := 0) F dX1_hasDigitAt_27 (by decide) ?_
    exact V.zretR F hr hk dX1_hasDigitAt_28 (nb_bI _) (by subst e1; first | with_reducible rfl | (simp only [c2, c2', oi1, nI_succ, bI, and_true, true_and, and_false, false_and, and_self, or_true, true_or, or_false, false_or, or_self, not_true_eq_false, not_false_eq_true, if_true, if_false, ↓reduceIte] <;> rfl) | rfl | (simp [c2, c2', bI, oi1, nI_succ]; done))
  · skip
    refine V.aload_n F dX1_hasDigitAt_8 rfl (lv_at hl 0 rfl) ?_
    refine V.iload_n F dX1_hasDigitAt_9 rfl (lv_at hl 1 rfl) ?_
    refine V.rdV (q0 := 0) F hE (c_X1_codeAt l E) (kX1_27 F.2.2.2.2 ⟨Nat.le_of_ble_eq_true rfl, Nat.le_of_ble_eq_true rfl⟩) rfl rfl [0, 1] rfl rfl hl.1 (Nat.le_of_ble_eq_true rfl) dX1_hasDigitAt_10 rfl ?_
    refine V.topi (fun z3 e3 => ?_)
    refine V.bipush (v := 48) F dX1_hasDigitAt_13 (by decide) ?_
    refine V.bipush (v := 57) F dX1_hasDigitAt_15 (by decide) ?_
    refine V.rdSN F hE (c_X6_isBetween l E) (kX1_31 F.2.2.2.2 hE.2.1 ⟨Nat.le_of_ble_eq_true rfl, Nat.le_of_ble_eq_true rfl⟩) [] rfl rfl hl.1 (Nat.le_of_ble_eq_true rfl) dX1_hasDigitAt_17 rfl ?_
    refine V.topi (fun z4 e4 => ?_)
    refine V.if_eqB (tgt := 27) F e4 dX1_hasDigitAt_20 (by decide) (fun c5 => ?_) (fun c5 => ?_)
    · skip
      refine V.iconst (v := 0) F dX1_hasDigitAt_27 (by decide) ?_
      exact V.zretR F hr hk dX1_hasDigitAt_28 (nb_bI _) (by subst e1 e3 e4; first | with_reducible rfl | (simp only [c2, c2', c5, oi1, nI_succ, bI, and_true, true_and, and_false, false_and, and_self, or_true, true_or, or_false, false_or, or_self, not_true_eq_false, not_false_eq_true, if_true, if_false, ↓reduceIte] <;> rfl) | rfl | (simp [c2, c2', c5, bI, oi1, nI_succ]; done))
    · skip
      refine V.iconst (v := 1) F dX1_hasDigitAt_23 (by decide) ?_
      refine V.goto (tgt := 28) F dX1_hasDigitAt_24 (by decide) ?_
      exact V.zretR F hr hk dX1_hasDigitAt_28 (nb_bI _) (by subst e1 e3 e4; first | with_reducible rfl | (simp only [c2, c2', eq_true c5, oi1, nI_succ, bI, and_true, true_and, and_false, false_and, and_self, or_true, true_or, or_false, false_or, or_self, not_true_eq_false, not_false_eq_true, if_true, if_false, ↓reduceIte] <;> rfl) | rfl | (simp [c2, c2', eq_true c5, bI, oi1, nI_succ]; done))
set_option maxHeartbeats 4000000 in
set_option maxRecDepth 100000 in
theorem c_X1_daysAt (l : Launch) (E : EV) {t u : Nat} {n : Int32} {f : Nat → Int32} {i : Int32} : Rd l E yX1_daysAt cX1_daysAt 2 (some .int) 3 63 [.ref t, .int i] (ptO E t u n f) (some (.int (dyC f n i))) := by
  refine Rd.mk0 (by decide) (Nat.le_of_ble_eq_true rfl) ?_
  intro pP eE sS mM aA bB mt cC F hr hk hE ls hl
  have hl : lv_has ls 2 [(0, .ref t), (1, .int i)] := hl
  refine V.aload_n F dX1_daysAt_0 rfl (lv_at hl 0 rfl) ?_
  refine V.iload_n F dX1_daysAt_1 rfl (lv_at hl 1 rfl) ?_
  refine V.iconst (v := 1) F dX1_daysAt_2 (by decide) ?_
  refine V.iadd F dX1_daysAt_3 (fun z1 e1 => ?_)
  refine V.rdV (q0 := 0) F hE (c_X1_hasDigitAt l E) (kX1_35 F.2.2.2.2 ⟨Nat.le_of_ble_eq_true rfl, Nat.le_of_ble_eq_true rfl⟩) rfl rfl [0, 1] rfl rfl hl.1 (Nat.le_of_ble_eq_true rfl) dX1_daysAt_4 rfl ?_
  refine V.topi (fun z2 e2 => ?_)
  refine V.if_eqB (tgt := 29) F e2 dX1_daysAt_7 (by decide) (fun c3 => ?_) (fun c3 => ?_)
  · skip
    refine V.aload_n F dX1_daysAt_29 rfl (lv_at hl 0 rfl) ?_
    refine V.iload_n F dX1_daysAt_30 rfl (lv_at hl 1 rfl) ?_
    refine V.rdV (q0 := 0) F hE (c_X1_digitAt l E) (kX1_39 F.2.2.2.2 ⟨Nat.le_of_ble_eq_true rfl, Nat.le_of_ble_eq_true rfl⟩) rfl rfl [0, 1] rfl rfl hl.1 (Nat.le_of_ble_eq_true rfl) dX1_daysAt_31 rfl ?_
    refine V.topi (fun z4 e4 => ?_)
    exact V.iretR F hr hk dX1_daysAt_34 (by subst e1 e2 e4; first | with_reducible rfl | (simp only [dyC, c3, oi1, nI_succ, bI, and_true, true_and, and_false, false_and, and_self, or_true, true_or, or_false, false_or, or_self, not_true_eq_false, not_false_eq_true, if_true, if_false, ↓reduceIte] <;> rfl) | rfl | (simp [dyC, c3, bI, oi1, nI_succ]; done))
  · skip
    refine V.bipush (v := 10) F dX1_daysAt_10 (by decide) ?_
    refine V.aload_n F dX1_daysAt_12 rfl (lv_at hl 0 rfl) ?_
    refine V.iload_n F dX1_daysAt_13 rfl (lv_at hl 1 rfl) ?_
    refine V.rdV (q0 := 0) F hE (c_X1_digitAt l E) (kX1_39 F.2.2.2.2 ⟨Nat.le_of_ble_eq_true rfl, Nat.le_of_ble_eq_true rfl⟩) rfl rfl [0, 1] rfl rfl hl.1 (Nat.le_of_ble_eq_true rfl) dX1_daysAt_14 rfl ?_
    refine V.topi (fun z5 e5 => ?_)
    refine V.imul F dX1_daysAt_17 (fun z6 e6 => ?_)
    refine V.aload_n F dX1_daysAt_18 rfl (lv_at hl 0 rfl) ?_
    refine V.iload_n F dX1_daysAt_19 rfl (lv_at hl 1 rfl) ?_
    refine V.iconst (v := 1) F dX1_daysAt_20 (by decide) ?_
    refine V.iadd F dX1_daysAt_21 (fun z7 e7 => ?_)
    refine V.rdV (q0 := 0) F hE (c_X1_digitAt l E) (kX1_39 F.2.2.2.2 ⟨Nat.le_of_ble_eq_true rfl, Nat.le_of_ble_eq_true rfl⟩) rfl rfl [0, 1] rfl rfl hl.1 (Nat.le_of_ble_eq_true rfl) dX1_daysAt_22 rfl ?_
    refine V.topi (fun z8 e8 => ?_)
    refine V.iadd F dX1_daysAt_25 (fun z9 e9 => ?_)
    refine V.goto (tgt := 34) F dX1_daysAt_26 (by decide) ?_
    exact V.iretR F hr hk dX1_daysAt_34 (by subst e1 e2 e5 e6 e7 e8 e9; first | with_reducible rfl | (simp only [dyC, eq_true c3, oi1, nI_succ, bI, and_true, true_and, and_false, false_and, and_self, or_true, true_or, or_false, false_or, or_self, not_true_eq_false, not_false_eq_true, if_true, if_false, ↓reduceIte] <;> rfl) | rfl | (simp [dyC, eq_true c3, bI, oi1, nI_succ]; done))
set_option maxHeartbeats 4000000 in
set_option maxRecDepth 100000 in
theorem c_X1_isPartStart (l : Launch) (E : EV) {t u : Nat} {n : Int32} {f : Nat → Int32} {i : Int32} : Rd l E yX1_isPartStart cX1_isPartStart 2 (some .boolean) 2 42 [.ref t, .int i] (ptO E t u n f) (some (.int (bI (i = 0 ∨ gt f 60 (i - 1) = 59)))) := by
  refine Rd.mk0 (by decide) (Nat.le_of_ble_eq_true rfl) ?_
  intro pP eE sS mM aA bB mt cC F hr hk hE ls hl
  have hl : lv_has ls 2 [(0, .ref t), (1, .int i)] := hl
  refine V.iload_n F dX1_isPartStart_0 rfl (lv_at hl 1 rfl) ?_
  refine V.if_eq (tgt := 16) F dX1_isPartStart_1 (by decide) (fun c1 => ?_) (fun c1 => ?_)
  · skip
    refine V.iconst (v := 1) F dX1_isPartStart_16 (by decide) ?_
    refine V.goto (tgt := 21) F dX1_isPartStart_17 (by decide) ?_
    exact V.zretR F hr hk dX1_isPartStart_21 (nb_bI _) (by first | with_reducible rfl | (simp only [eq_true c1, oi1, nI_succ, bI, and_true, true_and, and_false, false_and, and_self, or_true, true_or, or_false, false_or, or_self, not_true_eq_false, not_false_eq_true, if_true, if_false, ↓reduceIte] <;> rfl) | rfl | (simp [eq_true c1, bI, oi1, nI_succ]; done))
  · skip
    refine V.aload_n F dX1_isPartStart_4 rfl (lv_at hl 0 rfl) ?_
    refine V.iload_n F dX1_isPartStart_5 rfl (lv_at hl 1 rfl) ?_
    refine V.iconst (v := 1) F dX1_isPartStart_6 (by decide) ?_
    refine V.isub F dX1_isPartStart_7 (fun z2 e2 => ?_)
    refine V.rdV (q0 := 0) F hE (c_X1_codeAt l E) (kX1_27 F.2.2.2.2 ⟨Nat.le_of_ble_eq_true rfl, Nat.le_of_ble_eq_true rfl⟩) rfl rfl [0, 1] rfl rfl hl.1 (Nat.le_of_ble_eq_true rfl) dX1_isPartStart_8 rfl ?_
    refine V.topi (fun z3 e3 => ?_)
    refine V.bipush (v := 59) F dX1_isPartStart_11 (by decide) ?_
    refine V.icmp_ne (tgt := 20) F dX1_isPartStart_13 (by decide) (fun c4 => ?_) (fun c4 => ?_)
    · skip
      refine V.iconst (v := 0) F dX1_isPartStart_20 (by decide) ?_
      exact V.zretR F hr hk dX1_isPartStart_21 (nb_bI _) (by subst e2 e3; first | with_reducible rfl | (simp only [c1, c4, oi1, nI_succ, bI, and_true, true_and, and_false, false_and, and_self, or_true, true_or, or_false, false_or, or_self, not_true_eq_false, not_false_eq_true, if_true, if_false, ↓reduceIte] <;> rfl) | rfl | (simp [c1, c4, bI, oi1, nI_succ]; done))
    · skip
      refine V.iconst (v := 1) F dX1_isPartStart_16 (by decide) ?_
      refine V.goto (tgt := 21) F dX1_isPartStart_17 (by decide) ?_
      exact V.zretR F hr hk dX1_isPartStart_21 (nb_bI _) (by subst e2 e3; first | with_reducible rfl | (simp only [c1, eq_true c4, oi1, nI_succ, bI, and_true, true_and, and_false, false_and, and_self, or_true, true_or, or_false, false_or, or_self, not_true_eq_false, not_false_eq_true, if_true, if_false, ↓reduceIte] <;> rfl) | rfl | (simp [c1, eq_true c4, bI, oi1, nI_succ]; done))
set_option maxHeartbeats 4000000 in
set_option maxRecDepth 100000 in
theorem c_X1_placeAfterFirst (l : Launch) (E : EV) {c : Int32} : Rd l E yX1_placeAfterFirst cX1_placeAfterFirst 1 (some .int) 1 22 [.int c] ([]) (some (.int (paF c))) := by
  refine Rd.mk0 (by decide) (Nat.le_of_ble_eq_true rfl) ?_
  intro pP eE sS mM aA bB mt cC F hr hk hE ls hl
  have hl : lv_has ls 1 [(0, .int c)] := hl
  refine V.iload_n F dX1_placeAfterFirst_0 rfl (lv_at hl 0 rfl) ?_
  by_cases c1 : c = 33
  · skip
    refine V.lookup (tgt := 30) F dX1_placeAfterFirst_1 (by decide) (by rw [c1] <;> rfl) (by decide) ?_
    refine V.bipush (v := 6) F dX1_placeAfterFirst_30 (by decide) ?_
    exact V.iretR F hr hk dX1_placeAfterFirst_32 (by first | with_reducible rfl | (simp only [paF, eq_true c1, oi1, nI_succ, bI, and_true, true_and, and_false, false_and, and_self, or_true, true_or, or_false, false_or, or_self, not_true_eq_false, not_false_eq_true, if_true, if_false, ↓reduceIte] <;> rfl) | rfl | (simp [paF, eq_true c1, bI, oi1, nI_succ]; done))
  by_cases c2 : c = 43
  · skip
    refine V.lookup (tgt := 28) F dX1_placeAfterFirst_1 (by decide) (by rw [c2] <;> rfl) (by decide) ?_
    refine V.iconst (v := 4) F dX1_placeAfterFirst_28 (by decide) ?_
    exact V.iretR F hr hk dX1_placeAfterFirst_29 (by first | with_reducible rfl | (simp only [paF, c1, eq_true c2, oi1, nI_succ, bI, and_true, true_and, and_false, false_and, and_self, or_true, true_or, or_false, false_or, or_self, not_true_eq_false, not_false_eq_true, if_true, if_false, ↓reduceIte] <;> rfl) | rfl | (simp [paF, c1, eq_true c2, bI, oi1, nI_succ]; done))
  refine V.lookup (tgt := 33) F dX1_placeAfterFirst_1 (by decide) (sw_lk2 c1 c2 (by decide) (by decide)) (by decide) ?_
  refine V.iload_n F dX1_placeAfterFirst_33 rfl (lv_at hl 0 rfl) ?_
  refine V.bipush (v := 48) F dX1_placeAfterFirst_34 (by decide) ?_
  refine V.bipush (v := 55) F dX1_placeAfterFirst_36 (by decide) ?_
  refine V.rdSN F hE (c_X6_isBetween l E) (kX1_31 F.2.2.2.2 hE.2.1 ⟨Nat.le_of_ble_eq_true rfl, Nat.le_of_ble_eq_true rfl⟩) [] rfl rfl hl.1 (Nat.le_of_ble_eq_true rfl) dX1_placeAfterFirst_38 rfl ?_
  refine V.topi (fun z3 e3 => ?_)
  refine V.if_eqB (tgt := 48) F e3 dX1_placeAfterFirst_41 (by decide) (fun c4 => ?_) (fun c4 => ?_)
  · skip
    refine V.iconst (v := (-1)) F dX1_placeAfterFirst_48 (by decide) ?_
    exact V.iretR F hr hk dX1_placeAfterFirst_49 (by subst e3; first | with_reducible rfl | (simp only [paF, c1, c2, c4, oi1, nI_succ, bI, and_true, true_and, and_false, false_and, and_self, or_true, true_or, or_false, false_or, or_self, not_true_eq_false, not_false_eq_true, if_true, if_false, ↓reduceIte] <;> rfl) | rfl | (simp [paF, c1, c2, c4, bI, oi1, nI_succ]; done))
  · skip
    refine V.iconst (v := 1) F dX1_placeAfterFirst_44 (by decide) ?_
    refine V.goto (tgt := 49) F dX1_placeAfterFirst_45 (by decide) ?_
    exact V.iretR F hr hk dX1_placeAfterFirst_49 (by subst e3; first | with_reducible rfl | (simp only [paF, c1, c2, eq_true c4, oi1, nI_succ, bI, and_true, true_and, and_false, false_and, and_self, or_true, true_or, or_false, false_or, or_self, not_true_eq_false, not_false_eq_true, if_true, if_false, ↓reduceIte] <;> rfl) | rfl | (simp [paF, c1, c2, eq_true c4, bI, oi1, nI_succ]; done))
set_option maxHeartbeats 4000000 in
set_option maxRecDepth 100000 in
theorem c_X1_placeAfterPart (l : Launch) (E : EV) {c : Int32} : Rd l E yX1_placeAfterPart cX1_placeAfterPart 1 (some .int) 0 0 [.int c] ([]) (some (.int (paP c))) := by
  refine Rd.mk0 (by decide) (Nat.le_of_ble_eq_true rfl) ?_
  intro pP eE sS mM aA bB mt cC F hr hk hE ls hl
  have hl : lv_has ls 1 [(0, .int c)] := hl
  refine V.iload_n F dX1_placeAfterPart_0 rfl (lv_at hl 0 rfl) ?_
  refine V.bipush (v := 59) F dX1_placeAfterPart_1 (by decide) ?_
  refine V.icmp_ne (tgt := 10) F dX1_placeAfterPart_3 (by decide) (fun c1 => ?_) (fun c1 => ?_)
  · skip
    refine V.iconst (v := (-1)) F dX1_placeAfterPart_10 (by decide) ?_
    exact V.iretR F hr hk dX1_placeAfterPart_11 (by first | with_reducible rfl | (simp only [paP, c1, oi1, nI_succ, bI, and_true, true_and, and_false, false_and, and_self, or_true, true_or, or_false, false_or, or_self, not_true_eq_false, not_false_eq_true, if_true, if_false, ↓reduceIte] <;> rfl) | rfl | (simp [paP, c1, bI, oi1, nI_succ]; done))
  · skip
    refine V.iconst (v := 0) F dX1_placeAfterPart_6 (by decide) ?_
    refine V.goto (tgt := 11) F dX1_placeAfterPart_7 (by decide) ?_
    exact V.iretR F hr hk dX1_placeAfterPart_11 (by first | with_reducible rfl | (simp only [paP, eq_true c1, oi1, nI_succ, bI, and_true, true_and, and_false, false_and, and_self, or_true, true_or, or_false, false_or, or_self, not_true_eq_false, not_false_eq_true, if_true, if_false, ↓reduceIte] <;> rfl) | rfl | (simp [paP, eq_true c1, bI, oi1, nI_succ]; done))
set_option maxHeartbeats 4000000 in
set_option maxRecDepth 100000 in
theorem c_X1_placeAfter (l : Launch) (E : EV) {q c : Int32} : Rd l E yX1_placeAfter cX1_placeAfter 2 (some .int) 2 42 [.int q, .int c] ([]) (some (.int (paC q c))) := by
  refine Rd.mk0 (by decide) (Nat.le_of_ble_eq_true rfl) ?_
  intro pP eE sS mM aA bB mt cC F hr hk hE ls hl
  have hl : lv_has ls 2 [(0, .int q), (1, .int c)] := hl
  refine V.iload_n F dX1_placeAfter_0 rfl (lv_at hl 0 rfl) ?_
  by_cases c1 : q = 0
  · skip
    refine V.tableIn (tgt := 52) F dX1_placeAfter_1 (by rw [c1]; decide) (by rw [c1]; decide) (by rw [c1]; rfl) (by decide) ?_
    refine V.iload_n F dX1_placeAfter_52 rfl (lv_at hl 1 rfl) ?_
    refine V.rdS F hE (c_X1_placeAfterFirst l E) (kX1_46 F.2.2.2.2 ⟨Nat.le_of_ble_eq_true rfl, Nat.le_of_ble_eq_true rfl⟩) [] rfl rfl hl.1 (Nat.le_of_ble_eq_true rfl) dX1_placeAfter_53 rfl ?_
    refine V.topi (fun z2 e2 => ?_)
    exact V.iretR F hr hk dX1_placeAfter_56 (by subst e2; first | with_reducible rfl | (simp only [paC, eq_true c1, oi1, nI_succ, bI, and_true, true_and, and_false, false_and, and_self, or_true, true_or, or_false, false_or, or_self, not_true_eq_false, not_false_eq_true, if_true, if_false, ↓reduceIte] <;> rfl) | rfl | (simp [paC, eq_true c1, bI, oi1, nI_succ]; done))
  by_cases c3 : q = 1
  · skip
    refine V.tableIn (tgt := 57) F dX1_placeAfter_1 (by rw [c3]; decide) (by rw [c3]; decide) (by rw [c3]; rfl) (by decide) ?_
    refine V.iload_n F dX1_placeAfter_57 rfl (lv_at hl 1 rfl) ?_
    refine V.bipush (v := 114) F dX1_placeAfter_58 (by decide) ?_
    refine V.icmp_ne (tgt := 67) F dX1_placeAfter_60 (by decide) (fun c4 => ?_) (fun c4 => ?_)
    · skip
      refine V.iconst (v := (-1)) F dX1_placeAfter_67 (by decide) ?_
      exact V.iretR F hr hk dX1_placeAfter_68 (by first | with_reducible rfl | (simp only [paC, c1, eq_true c3, c4, oi1, nI_succ, bI, and_true, true_and, and_false, false_and, and_self, or_true, true_or, or_false, false_or, or_self, not_true_eq_false, not_false_eq_true, if_true, if_false, ↓reduceIte] <;> rfl) | rfl | (simp [paC, c1, eq_true c3, c4, bI, oi1, nI_succ]; done))
    · skip
      refine V.iconst (v := 2) F dX1_placeAfter_63 (by decide) ?_
      refine V.goto (tgt := 68) F dX1_placeAfter_64 (by decide) ?_
      exact V.iretR F hr hk dX1_placeAfter_68 (by first | with_reducible rfl | (simp only [paC, c1, eq_true c3, eq_true c4, oi1, nI_succ, bI, and_true, true_and, and_false, false_and, and_self, or_true, true_or, or_false, false_or, or_self, not_true_eq_false, not_false_eq_true, if_true, if_false, ↓reduceIte] <;> rfl) | rfl | (simp [paC, c1, eq_true c3, eq_true c4, bI, oi1, nI_succ]; done))
  by_cases c5 : q = 2
  · skip
    refine V.tableIn (tgt := 69) F dX1_placeAfter_1 (by rw [c5]; decide) (by rw [c5]; decide) (by rw [c5]; rfl) (by decide) ?_
    refine V.iload_n F dX1_placeAfter_69 rfl (lv_at hl 1 rfl) ?_
    refine V.bipush (v := 48) F dX1_placeAfter_70 (by decide) ?_
    refine V.bipush (v := 53) F dX1_placeAfter_72 (by decide) ?_
    refine V.rdSN F hE (c_X6_isBetween l E) (kX1_31 F.2.2.2.2 hE.2.1 ⟨Nat.le_of_ble_eq_true rfl, Nat.le_of_ble_eq_true rfl⟩) [] rfl rfl hl.1 (Nat.le_of_ble_eq_true rfl) dX1_placeAfter_74 rfl ?_
    refine V.topi (fun z6 e6 => ?_)
    refine V.if_eqB (tgt := 84) F e6 dX1_placeAfter_77 (by decide) (fun c7 => ?_) (fun c7 => ?_)
    · skip
      refine V.iconst (v := (-1)) F dX1_placeAfter_84 (by decide) ?_
      exact V.iretR F hr hk dX1_placeAfter_85 (by subst e6; first | with_reducible rfl | (simp only [paC, c1, c3, eq_true c5, c7, oi1, nI_succ, bI, and_true, true_and, and_false, false_and, and_self, or_true, true_or, or_false, false_or, or_self, not_true_eq_false, not_false_eq_true, if_true, if_false, ↓reduceIte] <;> rfl) | rfl | (simp [paC, c1, c3, eq_true c5, c7, bI, oi1, nI_succ]; done))
    · skip
      refine V.iconst (v := 3) F dX1_placeAfter_80 (by decide) ?_
      refine V.goto (tgt := 85) F dX1_placeAfter_81 (by decide) ?_
      exact V.iretR F hr hk dX1_placeAfter_85 (by subst e6; first | with_reducible rfl | (simp only [paC, c1, c3, eq_true c5, eq_true c7, oi1, nI_succ, bI, and_true, true_and, and_false, false_and, and_self, or_true, true_or, or_false, false_or, or_self, not_true_eq_false, not_false_eq_true, if_true, if_false, ↓reduceIte] <;> rfl) | rfl | (simp [paC, c1, c3, eq_true c5, eq_true c7, bI, oi1, nI_succ]; done))
  by_cases c8 : q = 3
  · skip
    refine V.tableIn (tgt := 86) F dX1_placeAfter_1 (by rw [c8]; decide) (by rw [c8]; decide) (by rw [c8]; rfl) (by decide) ?_
    refine V.iload_n F dX1_placeAfter_86 rfl (lv_at hl 1 rfl) ?_
    refine V.bipush (v := 49) F dX1_placeAfter_87 (by decide) ?_
    refine V.bipush (v := 53) F dX1_placeAfter_89 (by decide) ?_
    refine V.rdSN F hE (c_X6_isBetween l E) (kX1_31 F.2.2.2.2 hE.2.1 ⟨Nat.le_of_ble_eq_true rfl, Nat.le_of_ble_eq_true rfl⟩) [] rfl rfl hl.1 (Nat.le_of_ble_eq_true rfl) dX1_placeAfter_91 rfl ?_
    refine V.topi (fun z9 e9 => ?_)
    refine V.if_eqB (tgt := 102) F e9 dX1_placeAfter_94 (by decide) (fun c10 => ?_) (fun c10 => ?_)
    · skip
      refine V.iconst (v := (-1)) F dX1_placeAfter_102 (by decide) ?_
      exact V.iretR F hr hk dX1_placeAfter_103 (by subst e9; first | with_reducible rfl | (simp only [paC, c1, c3, c5, eq_true c8, c10, oi1, nI_succ, bI, and_true, true_and, and_false, false_and, and_self, or_true, true_or, or_false, false_or, or_self, not_true_eq_false, not_false_eq_true, if_true, if_false, ↓reduceIte] <;> rfl) | rfl | (simp [paC, c1, c3, c5, eq_true c8, c10, bI, oi1, nI_succ]; done))
    · skip
      refine V.bipush (v := 8) F dX1_placeAfter_97 (by decide) ?_
      refine V.goto (tgt := 103) F dX1_placeAfter_99 (by decide) ?_
      exact V.iretR F hr hk dX1_placeAfter_103 (by subst e9; first | with_reducible rfl | (simp only [paC, c1, c3, c5, eq_true c8, eq_true c10, oi1, nI_succ, bI, and_true, true_and, and_false, false_and, and_self, or_true, true_or, or_false, false_or, or_self, not_true_eq_false, not_false_eq_true, if_true, if_false, ↓reduceIte] <;> rfl) | rfl | (simp [paC, c1, c3, c5, eq_true c8, eq_true c10, bI, oi1, nI_succ]; done))
  by_cases c11 : q = 4
  · skip
    refine V.tableIn (tgt := 104) F dX1_placeAfter_1 (by rw [c11]; decide) (by rw [c11]; decide) (by rw [c11]; rfl) (by decide) ?_
    refine V.iload_n F dX1_placeAfter_104 rfl (lv_at hl 1 rfl) ?_
    refine V.bipush (v := 49) F dX1_placeAfter_105 (by decide) ?_
    refine V.bipush (v := 57) F dX1_placeAfter_107 (by decide) ?_
    refine V.rdSN F hE (c_X6_isBetween l E) (kX1_31 F.2.2.2.2 hE.2.1 ⟨Nat.le_of_ble_eq_true rfl, Nat.le_of_ble_eq_true rfl⟩) [] rfl rfl hl.1 (Nat.le_of_ble_eq_true rfl) dX1_placeAfter_109 rfl ?_
    refine V.topi (fun z12 e12 => ?_)
    refine V.if_eqB (tgt := 119) F e12 dX1_placeAfter_112 (by decide) (fun c13 => ?_) (fun c13 => ?_)
    · skip
      refine V.iconst (v := (-1)) F dX1_placeAfter_119 (by decide) ?_
      exact V.iretR F hr hk dX1_placeAfter_120 (by subst e12; first | with_reducible rfl | (simp only [paC, c1, c3, c5, c8, eq_true c11, c13, oi1, nI_succ, bI, and_true, true_and, and_false, false_and, and_self, or_true, true_or, or_false, false_or, or_self, not_true_eq_false, not_false_eq_true, if_true, if_false, ↓reduceIte] <;> rfl) | rfl | (simp [paC, c1, c3, c5, c8, eq_true c11, c13, bI, oi1, nI_succ]; done))
    · skip
      refine V.iconst (v := 5) F dX1_placeAfter_115 (by decide) ?_
      refine V.goto (tgt := 120) F dX1_placeAfter_116 (by decide) ?_
      exact V.iretR F hr hk dX1_placeAfter_120 (by subst e12; first | with_reducible rfl | (simp only [paC, c1, c3, c5, c8, eq_true c11, eq_true c13, oi1, nI_succ, bI, and_true, true_and, and_false, false_and, and_self, or_true, true_or, or_false, false_or, or_self, not_true_eq_false, not_false_eq_true, if_true, if_false, ↓reduceIte] <;> rfl) | rfl | (simp [paC, c1, c3, c5, c8, eq_true c11, eq_true c13, bI, oi1, nI_succ]; done))
  by_cases c14 : q = 5
  · skip
    refine V.tableIn (tgt := 121) F dX1_placeAfter_1 (by rw [c14]; decide) (by rw [c14]; decide) (by rw [c14]; rfl) (by decide) ?_
    refine V.iload_n F dX1_placeAfter_121 rfl (lv_at hl 1 rfl) ?_
    refine V.bipush (v := 48) F dX1_placeAfter_122 (by decide) ?_
    refine V.bipush (v := 57) F dX1_placeAfter_124 (by decide) ?_
    refine V.rdSN F hE (c_X6_isBetween l E) (kX1_31 F.2.2.2.2 hE.2.1 ⟨Nat.le_of_ble_eq_true rfl, Nat.le_of_ble_eq_true rfl⟩) [] rfl rfl hl.1 (Nat.le_of_ble_eq_true rfl) dX1_placeAfter_126 rfl ?_
    refine V.topi (fun z15 e15 => ?_)
    refine V.if_eqB (tgt := 137) F e15 dX1_placeAfter_129 (by decide) (fun c16 => ?_) (fun c16 => ?_)
    · skip
      refine V.iload_n F dX1_placeAfter_137 rfl (lv_at hl 1 rfl) ?_
      refine V.rdS F hE (c_X1_placeAfterPart l E) (kX1_49 F.2.2.2.2 ⟨Nat.le_of_ble_eq_true rfl, Nat.le_of_ble_eq_true rfl⟩) [] rfl rfl hl.1 (Nat.le_of_ble_eq_true rfl) dX1_placeAfter_138 rfl ?_
      refine V.topi (fun z17 e17 => ?_)
      exact V.iretR F hr hk dX1_placeAfter_141 (by subst e15 e17; first | with_reducible rfl | (simp only [paC, c1, c3, c5, c8, c11, eq_true c14, c16, oi1, nI_succ, bI, and_true, true_and, and_false, false_and, and_self, or_true, true_or, or_false, false_or, or_self, not_true_eq_false, not_false_eq_true, if_true, if_false, ↓reduceIte] <;> rfl) | rfl | (simp [paC, c1, c3, c5, c8, c11, eq_true c14, c16, bI, oi1, nI_succ]; done))
    · skip
      refine V.bipush (v := 8) F dX1_placeAfter_132 (by decide) ?_
      refine V.goto (tgt := 141) F dX1_placeAfter_134 (by decide) ?_
      exact V.iretR F hr hk dX1_placeAfter_141 (by subst e15; first | with_reducible rfl | (simp only [paC, c1, c3, c5, c8, c11, eq_true c14, eq_true c16, oi1, nI_succ, bI, and_true, true_and, and_false, false_and, and_self, or_true, true_or, or_false, false_or, or_self, not_true_eq_false, not_false_eq_true, if_true, if_false, ↓reduceIte] <;> rfl) | rfl | (simp [paC, c1, c3, c5, c8, c11, eq_true c14, eq_true c16, bI, oi1, nI_succ]; done))
  by_cases c18 : q = 6
  · skip
    refine V.tableIn (tgt := 142) F dX1_placeAfter_1 (by rw [c18]; decide) (by rw [c18]; decide) (by rw [c18]; rfl) (by decide) ?_
    refine V.iload_n F dX1_placeAfter_142 rfl (lv_at hl 1 rfl) ?_
    refine V.bipush (v := 48) F dX1_placeAfter_143 (by decide) ?_
    refine V.bipush (v := 57) F dX1_placeAfter_145 (by decide) ?_
    refine V.rdSN F hE (c_X6_isBetween l E) (kX1_31 F.2.2.2.2 hE.2.1 ⟨Nat.le_of_ble_eq_true rfl, Nat.le_of_ble_eq_true rfl⟩) [] rfl rfl hl.1 (Nat.le_of_ble_eq_true rfl) dX1_placeAfter_147 rfl ?_
    refine V.topi (fun z19 e19 => ?_)
    refine V.if_eqB (tgt := 158) F e19 dX1_placeAfter_150 (by decide) (fun c20 => ?_) (fun c20 => ?_)
    · skip
      refine V.iconst (v := (-1)) F dX1_placeAfter_158 (by decide) ?_
      exact V.iretR F hr hk dX1_placeAfter_159 (by subst e19; first | with_reducible rfl | (simp only [paC, c1, c3, c5, c8, c11, c14, eq_true c18, c20, oi1, nI_succ, bI, and_true, true_and, and_false, false_and, and_self, or_true, true_or, or_false, false_or, or_self, not_true_eq_false, not_false_eq_true, if_true, if_false, ↓reduceIte] <;> rfl) | rfl | (simp [paC, c1, c3, c5, c8, c11, c14, eq_true c18, c20, bI, oi1, nI_succ]; done))
    · skip
      refine V.bipush (v := 7) F dX1_placeAfter_153 (by decide) ?_
      refine V.goto (tgt := 159) F dX1_placeAfter_155 (by decide) ?_
      exact V.iretR F hr hk dX1_placeAfter_159 (by subst e19; first | with_reducible rfl | (simp only [paC, c1, c3, c5, c8, c11, c14, eq_true c18, eq_true c20, oi1, nI_succ, bI, and_true, true_and, and_false, false_and, and_self, or_true, true_or, or_false, false_or, or_self, not_true_eq_false, not_false_eq_true, if_true, if_false, ↓reduceIte] <;> rfl) | rfl | (simp [paC, c1, c3, c5, c8, c11, c14, eq_true c18, eq_true c20, bI, oi1, nI_succ]; done))
  by_cases c21 : q = 7
  · skip
    refine V.tableIn (tgt := 160) F dX1_placeAfter_1 (by rw [c21]; decide) (by rw [c21]; decide) (by rw [c21]; rfl) (by decide) ?_
    refine V.iload_n F dX1_placeAfter_160 rfl (lv_at hl 1 rfl) ?_
    refine V.bipush (v := 48) F dX1_placeAfter_161 (by decide) ?_
    refine V.bipush (v := 55) F dX1_placeAfter_163 (by decide) ?_
    refine V.rdSN F hE (c_X6_isBetween l E) (kX1_31 F.2.2.2.2 hE.2.1 ⟨Nat.le_of_ble_eq_true rfl, Nat.le_of_ble_eq_true rfl⟩) [] rfl rfl hl.1 (Nat.le_of_ble_eq_true rfl) dX1_placeAfter_165 rfl ?_
    refine V.topi (fun z22 e22 => ?_)
    refine V.if_eqB (tgt := 176) F e22 dX1_placeAfter_168 (by decide) (fun c23 => ?_) (fun c23 => ?_)
    · skip
      refine V.iconst (v := (-1)) F dX1_placeAfter_176 (by decide) ?_
      exact V.iretR F hr hk dX1_placeAfter_177 (by subst e22; first | with_reducible rfl | (simp only [paC, c1, c3, c5, c8, c11, c14, c18, eq_true c21, c23, oi1, nI_succ, bI, and_true, true_and, and_false, false_and, and_self, or_true, true_or, or_false, false_or, or_self, not_true_eq_false, not_false_eq_true, if_true, if_false, ↓reduceIte] <;> rfl) | rfl | (simp [paC, c1, c3, c5, c8, c11, c14, c18, eq_true c21, c23, bI, oi1, nI_succ]; done))
    · skip
      refine V.bipush (v := 8) F dX1_placeAfter_171 (by decide) ?_
      refine V.goto (tgt := 177) F dX1_placeAfter_173 (by decide) ?_
      exact V.iretR F hr hk dX1_placeAfter_177 (by subst e22; first | with_reducible rfl | (simp only [paC, c1, c3, c5, c8, c11, c14, c18, eq_true c21, eq_true c23, oi1, nI_succ, bI, and_true, true_and, and_false, false_and, and_self, or_true, true_or, or_false, false_or, or_self, not_true_eq_false, not_false_eq_true, if_true, if_false, ↓reduceIte] <;> rfl) | rfl | (simp [paC, c1, c3, c5, c8, c11, c14, c18, eq_true c21, eq_true c23, bI, oi1, nI_succ]; done))
  by_cases c24 : q = 8
  · skip
    refine V.tableIn (tgt := 178) F dX1_placeAfter_1 (by rw [c24]; decide) (by rw [c24]; decide) (by rw [c24]; rfl) (by decide) ?_
    refine V.iload_n F dX1_placeAfter_178 rfl (lv_at hl 1 rfl) ?_
    refine V.rdS F hE (c_X1_placeAfterPart l E) (kX1_49 F.2.2.2.2 ⟨Nat.le_of_ble_eq_true rfl, Nat.le_of_ble_eq_true rfl⟩) [] rfl rfl hl.1 (Nat.le_of_ble_eq_true rfl) dX1_placeAfter_179 rfl ?_
    refine V.topi (fun z25 e25 => ?_)
    exact V.iretR F hr hk dX1_placeAfter_182 (by subst e25; first | with_reducible rfl | (simp only [paC, c1, c3, c5, c8, c11, c14, c18, c21, eq_true c24, oi1, nI_succ, bI, and_true, true_and, and_false, false_and, and_self, or_true, true_or, or_false, false_or, or_self, not_true_eq_false, not_false_eq_true, if_true, if_false, ↓reduceIte] <;> rfl) | rfl | (simp [paC, c1, c3, c5, c8, c11, c14, c18, c21, eq_true c24, bI, oi1, nI_succ]; done))
  refine V.tableOut (tgt := 183) F dX1_placeAfter_1 (sw_out fun i h1 h2 => by rcases (show i = 0 ∨ i = 1 ∨ i = 2 ∨ i = 3 ∨ i = 4 ∨ i = 5 ∨ i = 6 ∨ i = 7 ∨ i = 8 by omega) with rfl | rfl | rfl | rfl | rfl | rfl | rfl | rfl | rfl <;> assumption) (by decide) ?_
  refine V.iconst (v := (-1)) F dX1_placeAfter_183 (by decide) ?_
  exact V.iretR F hr hk dX1_placeAfter_184 (by first | with_reducible rfl | (simp only [paC, c1, c3, c5, c8, c11, c14, c18, c21, c24, oi1, nI_succ, bI, and_true, true_and, and_false, false_and, and_self, or_true, true_or, or_false, false_or, or_self, not_true_eq_false, not_false_eq_true, if_true, if_false, ↓reduceIte] <;> rfl) | rfl | (simp [paC, c1, c3, c5, c8, c11, c14, c18, c21, c24, bI, oi1, nI_succ]; done))
set_option maxHeartbeats 4000000 in
set_option maxRecDepth 100000 in
theorem c_X1_isComplete (l : Launch) (E : EV) {t u : Nat} {n : Int32} {f : Nat → Int32} : Rd l E yX1_isComplete cX1_isComplete 3 (some .boolean) 3 63 [.ref t] (ptO E t u n f) (some (.int (bI (plC f n.toNatClampNeg = 8 ∨ plC f n.toNatClampNeg = 5)))) := by
  refine Rd.mk0 (by decide) (Nat.le_of_ble_eq_true rfl) ?_
  intro pP eE sS mM aA bB mt cC F hr hk hE ls hl
  have hl : lv_has ls 3 [(0, .ref t)] := hl
  refine V.iconst (v := 0) F dX1_isComplete_0 (by decide) ?_
  refine V.istore_n (lv' := [(1, .int 0), (0, .ref t)]) F dX1_isComplete_1 rfl hl (by decide) rfl (fun ls hl => ?_)
  refine V.iconst (v := 0) F dX1_isComplete_2 (by decide) ?_
  refine V.istore_n (lv' := [(2, .int 0), (1, .int 0), (0, .ref t)]) F dX1_isComplete_3 rfl hl (by decide) rfl (fun ls hl => ?_)
  have h2 : nI 0 = 0 := (by first | with_reducible rfl | (simp only [plC, oi1, nI_succ, bI, and_true, true_and, and_false, false_and, and_self, or_true, true_or, or_false, false_or, or_self, not_true_eq_false, not_false_eq_true, if_true, if_false, ↓reduceIte] <;> rfl) | rfl | (simp [plC, bI, oi1, nI_succ]; done))
  have h3 : plC f 0 = 0 := (by first | with_reducible rfl | (simp only [plC, oi1, nI_succ, bI, and_true, true_and, and_false, false_and, and_self, or_true, true_or, or_false, false_or, or_self, not_true_eq_false, not_false_eq_true, if_true, if_false, ↓reduceIte] <;> rfl) | rfl | (simp [plC, bI, oi1, nI_succ]; done))
  refine V.loop (N := n.toNatClampNeg) (k0 := 0) (I := (fun j1 : Nat => [(2, .int (nI j1)), (1, .int (plC f j1)), (0, .ref t)])) (J := fun _ => True) (Nat.zero_le _) trivial (lv_sub hl [0, 1, 2] (by rw [h2, h3]; rfl)) ?_
  intro j1 j1_N j1_J ihj1 ls hl
  have hl : lv_has ls 3 [(2, .int (nI j1)), (1, .int (plC f j1)), (0, .ref t)] := hl
  refine V.iload_n F dX1_isComplete_4 rfl (lv_at hl 0 rfl) ?_
  refine V.aload_n F dX1_isComplete_5 rfl (lv_at hl 2 rfl) ?_
  refine V.getfi F hE gX1_9 0 rfl rfl dX1_isComplete_6 (fun z4 e4 => ?_)
  refine V.icmp_ge (tgt := 28) F dX1_isComplete_9 (by decide) (fun c5 c5' => ?_) (fun c5 c5' => ?_)
  · skip
    have j1_eq := ((lpT j1_N).1 (by rw [← e4]; exact c5)).symm
    subst j1_eq
    refine V.iload_n F dX1_isComplete_28 rfl (lv_at hl 1 rfl) ?_
    refine V.bipush (v := 8) F dX1_isComplete_29 (by decide) ?_
    refine V.icmp_eq (tgt := 39) F dX1_isComplete_31 (by decide) (fun c6 => ?_) (fun c6 => ?_)
    · skip
      refine V.iconst (v := 1) F dX1_isComplete_39 (by decide) ?_
      refine V.goto (tgt := 44) F dX1_isComplete_40 (by decide) ?_
      exact V.zretR F hr hk dX1_isComplete_44 (nb_bI _) (by subst e4; first | with_reducible rfl | (simp only [plC, c5, c5', eq_true c6, oi1, nI_succ, bI, and_true, true_and, and_false, false_and, and_self, or_true, true_or, or_false, false_or, or_self, not_true_eq_false, not_false_eq_true, if_true, if_false, ↓reduceIte] <;> rfl) | rfl | (simp [plC, c5, c5', eq_true c6, bI, oi1, nI_succ]; done))
    · skip
      refine V.iload_n F dX1_isComplete_34 rfl (lv_at hl 1 rfl) ?_
      refine V.iconst (v := 5) F dX1_isComplete_35 (by decide) ?_
      refine V.icmp_ne (tgt := 43) F dX1_isComplete_36 (by decide) (fun c7 => ?_) (fun c7 => ?_)
      · skip
        refine V.iconst (v := 0) F dX1_isComplete_43 (by decide) ?_
        exact V.zretR F hr hk dX1_isComplete_44 (nb_bI _) (by subst e4; first | with_reducible rfl | (simp only [plC, c5, c5', c6, c7, oi1, nI_succ, bI, and_true, true_and, and_false, false_and, and_self, or_true, true_or, or_false, false_or, or_self, not_true_eq_false, not_false_eq_true, if_true, if_false, ↓reduceIte] <;> rfl) | rfl | (simp [plC, c5, c5', c6, c7, bI, oi1, nI_succ]; done))
      · skip
        refine V.iconst (v := 1) F dX1_isComplete_39 (by decide) ?_
        refine V.goto (tgt := 44) F dX1_isComplete_40 (by decide) ?_
        exact V.zretR F hr hk dX1_isComplete_44 (nb_bI _) (by subst e4; first | with_reducible rfl | (simp only [plC, c5, c5', c6, eq_true c7, oi1, nI_succ, bI, and_true, true_and, and_false, false_and, and_self, or_true, true_or, or_false, false_or, or_self, not_true_eq_false, not_false_eq_true, if_true, if_false, ↓reduceIte] <;> rfl) | rfl | (simp [plC, c5, c5', c6, eq_true c7, bI, oi1, nI_succ]; done))
  · skip
    have j1_lt := (lpT j1_N).2 (by rw [← e4]; exact c5)
    refine V.iload_n F dX1_isComplete_12 rfl (lv_at hl 1 rfl) ?_
    refine V.aload_n F dX1_isComplete_13 rfl (lv_at hl 2 rfl) ?_
    refine V.iload_n F dX1_isComplete_14 rfl (lv_at hl 0 rfl) ?_
    refine V.rdV (q0 := 0) F hE (c_X1_codeAt l E) (kX1_27 F.2.2.2.2 ⟨Nat.le_of_ble_eq_true rfl, Nat.le_of_ble_eq_true rfl⟩) rfl rfl [0, 1] rfl rfl hl.1 (Nat.le_of_ble_eq_true rfl) dX1_isComplete_15 rfl ?_
    refine V.topi (fun z8 e8 => ?_)
    refine V.rdS F hE (c_X1_placeAfter l E) (kX1_42 F.2.2.2.2 ⟨Nat.le_of_ble_eq_true rfl, Nat.le_of_ble_eq_true rfl⟩) [] rfl rfl hl.1 (Nat.le_of_ble_eq_true rfl) dX1_isComplete_18 rfl ?_
    refine V.topi (fun z9 e9 => ?_)
    refine V.istore_n (lv' := [(1, .int z9), (2, .int (nI j1)), (0, .ref t)]) F dX1_isComplete_21 rfl hl (by decide) rfl (fun ls hl => ?_)
    refine V.iinc (j := 1) (lv' := fun z10 => [(2, .int z10), (1, .int z9), (0, .ref t)]) F dX1_isComplete_22 hl rfl (by decide) (fun _ => rfl) (fun z10 e10 ls hl => ?_)
    refine V.goto (tgt := 4) F dX1_isComplete_25 (by decide) ?_
    have h11 : nI (j1 + 1) = z10 := (by subst e4 e8 e9 e10; first | with_reducible rfl | (simp only [plC, c5, c5', oi1, nI_succ, bI, and_true, true_and, and_false, false_and, and_self, or_true, true_or, or_false, false_or, or_self, not_true_eq_false, not_false_eq_true, if_true, if_false, ↓reduceIte] <;> rfl) | rfl | (simp [plC, c5, c5', bI, oi1, nI_succ]; done))
    have h12 : plC f (j1 + 1) = z9 := (by subst e4 e8 e9 e10; first | with_reducible rfl | (simp only [plC, c5, c5', oi1, nI_succ, bI, and_true, true_and, and_false, false_and, and_self, or_true, true_or, or_false, false_or, or_self, not_true_eq_false, not_false_eq_true, if_true, if_false, ↓reduceIte] <;> rfl) | rfl | (simp [plC, c5, c5', bI, oi1, nI_succ]; done))
    exact ihj1 j1_lt trivial _ (lv_sub hl [0, 1, 2] (by rw [h11, h12]; rfl))
set_option maxHeartbeats 4000000 in
set_option maxRecDepth 100000 in
theorem c_X1_errorPlace (l : Launch) (E : EV) {t u : Nat} {n : Int32} {f : Nat → Int32} : Rd l E yX1_errorPlace cX1_errorPlace 3 (some .int) 3 63 [.ref t] (ptO E t u n f) (some (.int (erC f n n.toNatClampNeg 0))) := by
  refine Rd.mk0 (by decide) (Nat.le_of_ble_eq_true rfl) ?_
  intro pP eE sS mM aA bB mt cC F hr hk hE ls hl
  have hl : lv_has ls 3 [(0, .ref t)] := hl
  refine V.iconst (v := 0) F dX1_errorPlace_0 (by decide) ?_
  refine V.istore_n (lv' := [(1, .int 0), (0, .ref t)]) F dX1_errorPlace_1 rfl hl (by decide) rfl (fun ls hl => ?_)
  refine V.iconst (v := 0) F dX1_errorPlace_2 (by decide) ?_
  refine V.istore_n (lv' := [(2, .int 0), (1, .int 0), (0, .ref t)]) F dX1_errorPlace_3 rfl hl (by decide) rfl (fun ls hl => ?_)
  have h2 : nI 0 = 0 := (by first | with_reducible rfl | (simp only [plC, oi1, nI_succ, bI, and_true, true_and, and_false, false_and, and_self, or_true, true_or, not_true_eq_false, not_false_eq_true, if_true, if_false, ↓reduceIte] <;> rfl) | rfl)
  have h3 : plC f 0 = 0 := (by first | with_reducible rfl | (simp only [plC, oi1, nI_succ, bI, and_true, true_and, and_false, false_and, and_self, or_true, true_or, not_true_eq_false, not_false_eq_true, if_true, if_false, ↓reduceIte] <;> rfl) | rfl)
  refine V.loop (N := n.toNatClampNeg) (k0 := 0) (I := (fun j1 : Nat => [(2, .int (nI j1)), (1, .int (plC f j1)), (0, .ref t)])) (J := fun j1 : Nat => erC f n n.toNatClampNeg 0 = erC f n (n.toNatClampNeg - j1) j1) (Nat.zero_le _) rfl (lv_sub hl [0, 1, 2] (by rw [h2, h3]; rfl)) ?_
  intro j1 j1_N j1_J ihj1 ls hl
  have hl : lv_has ls 3 [(2, .int (nI j1)), (1, .int (plC f j1)), (0, .ref t)] := hl
  try dsimp only at j1_J ihj1 ⊢
  refine V.iload_n F dX1_errorPlace_4 rfl (lv_at hl 0 rfl) ?_
  refine V.aload_n F dX1_errorPlace_5 rfl (lv_at hl 2 rfl) ?_
  refine V.getfi F hE gX1_9 0 rfl rfl dX1_errorPlace_6 (fun z4 e4 => ?_)
  refine V.icmp_ge (tgt := 35) F dX1_errorPlace_9 (by decide) (fun c5 c5' => ?_) (fun c5 c5' => ?_)
  · skip
    have j1_eq := ((lpT j1_N).1 (by rw [← e4]; exact c5)).symm
    subst j1_eq
    refine V.aload_n F dX1_errorPlace_35 rfl (lv_at hl 2 rfl) ?_
    refine V.getfi F hE gX1_9 0 rfl rfl dX1_errorPlace_36 (fun z6 e6 => ?_)
    exact V.iretR F hr hk dX1_errorPlace_39 (by subst e4 e6; first | with_reducible rfl | exact (j1_J.trans erC_e).symm | (simp only [plC, c5, c5', oi1, nI_succ, bI, and_true, true_and, and_false, false_and, and_self, or_true, true_or, not_true_eq_false, not_false_eq_true, if_true, if_false, ↓reduceIte] <;> rfl) | rfl)
  · skip
    have j1_lt := (lpT j1_N).2 (by rw [← e4]; exact c5)
    refine V.iload_n F dX1_errorPlace_12 rfl (lv_at hl 1 rfl) ?_
    refine V.aload_n F dX1_errorPlace_13 rfl (lv_at hl 2 rfl) ?_
    refine V.iload_n F dX1_errorPlace_14 rfl (lv_at hl 0 rfl) ?_
    refine V.rdV (q0 := 0) F hE (c_X1_codeAt l E) (kX1_27 F.2.2.2.2 ⟨Nat.le_of_ble_eq_true rfl, Nat.le_of_ble_eq_true rfl⟩) rfl rfl [0, 1] rfl rfl hl.1 (Nat.le_of_ble_eq_true rfl) dX1_errorPlace_15 rfl ?_
    refine V.topi (fun z7 e7 => ?_)
    refine V.rdS F hE (c_X1_placeAfter l E) (kX1_42 F.2.2.2.2 ⟨Nat.le_of_ble_eq_true rfl, Nat.le_of_ble_eq_true rfl⟩) [] rfl rfl hl.1 (Nat.le_of_ble_eq_true rfl) dX1_errorPlace_18 rfl ?_
    refine V.topi (fun z8 e8 => ?_)
    refine V.istore_n (lv' := [(1, .int z8), (2, .int (nI j1)), (0, .ref t)]) F dX1_errorPlace_21 rfl hl (by decide) rfl (fun ls hl => ?_)
    refine V.iload_n F dX1_errorPlace_22 rfl (lv_at hl 0 rfl) ?_
    refine V.iconst (v := (-1)) F dX1_errorPlace_23 (by decide) ?_
    refine V.icmp_ne (tgt := 29) F dX1_errorPlace_24 (by decide) (fun c9 => ?_) (fun c9 => ?_)
    · skip
      refine V.iinc (j := 1) (lv' := fun z10 => [(2, .int z10), (1, .int z8), (0, .ref t)]) F dX1_errorPlace_29 hl rfl (by decide) (fun _ => rfl) (fun z10 e10 ls hl => ?_)
      refine V.goto (tgt := 4) F dX1_errorPlace_32 (by decide) ?_
      have h11 : nI (j1 + 1) = z10 := (by subst e4 e7 e8 e10; first | with_reducible rfl | (simp only [plC, c5, c5', c9, oi1, nI_succ, bI, and_true, true_and, and_false, false_and, and_self, or_true, true_or, not_true_eq_false, not_false_eq_true, if_true, if_false, ↓reduceIte] <;> rfl) | rfl)
      have h12 : plC f (j1 + 1) = z8 := (by subst e4 e7 e8 e10; first | with_reducible rfl | (simp only [plC, c5, c5', c9, oi1, nI_succ, bI, and_true, true_and, and_false, false_and, and_self, or_true, true_or, not_true_eq_false, not_false_eq_true, if_true, if_false, ↓reduceIte] <;> rfl) | rfl)
      exact ihj1 j1_lt (by subst e4 e7 e8 e10; exact j1_J.trans (erC_s j1_lt c9)) _ (lv_sub hl [0, 1, 2] (by rw [h11, h12]; rfl))
    · skip
      refine V.iload_n F dX1_errorPlace_27 rfl (lv_at hl 1 rfl) ?_
      exact V.iretR F hr hk dX1_errorPlace_28 (by subst e4 e7 e8; first | with_reducible rfl | exact (j1_J.trans (erC_r j1_lt c9)).symm | (simp only [plC, c5, c5', eq_true c9, oi1, nI_succ, bI, and_true, true_and, and_false, false_and, and_self, or_true, true_or, not_true_eq_false, not_false_eq_true, if_true, if_false, ↓reduceIte] <;> rfl) | rfl)
