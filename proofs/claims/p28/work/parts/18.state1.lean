set_option maxHeartbeats 4000000 in
set_option maxRecDepth 100000 in
theorem c_X5_canPass (l : Launch) (E : EV) {a : Nat → Nat} {g : Nat → Int32} {f : Nat → Nat → Int32} {d : Int32} : Rd l E yX5_canPass cX5_canPass 2 (some .boolean) 0 0 [.ref (a 0), .int d] (stW E a g f) (some (.int (bI (g 0 + d ≤ 999)))) := by
  refine Rd.mk0 (by decide) (Nat.le_of_ble_eq_true rfl) ?_
  intro pP eE sS mM aA bB mt cC F hr hk hE ls hl
  have hl : lv_has ls 2 [(0, .ref (a 0)), (1, .int d)] := hl
  refine V.aload_n F dX5_canPass_0 rfl (lv_at hl 0 rfl) ?_
  refine V.getfi F hE gX5_9 0 rfl rfl dX5_canPass_1 (fun z1 e1 => ?_)
  refine V.iload_n F dX5_canPass_4 rfl (lv_at hl 1 rfl) ?_
  refine V.iadd F dX5_canPass_5 (fun z2 e2 => ?_)
  refine V.sipush (v := 999) F dX5_canPass_6 (by decide) ?_
  refine V.icmp_gt (tgt := 16) F dX5_canPass_9 (by decide) (fun c3 c3' => ?_) (fun c3 c3' => ?_)
  · skip
    refine V.iconst (v := 0) F dX5_canPass_16 (by decide) ?_
    exact V.zretR F hr hk dX5_canPass_17 (nb_bI _) (by subst e1 e2; first | with_reducible rfl | (simp only [c3, c3', oi1, nI_succ, bI, and_true, true_and, and_false, false_and, and_self, or_true, true_or, or_false, false_or, or_self, not_true_eq_false, not_false_eq_true, if_true, if_false, ↓reduceIte] <;> rfl) | rfl | (simp [c3, c3', bI, oi1, nI_succ]; done))
  · skip
    refine V.iconst (v := 1) F dX5_canPass_12 (by decide) ?_
    refine V.goto (tgt := 17) F dX5_canPass_13 (by decide) ?_
    exact V.zretR F hr hk dX5_canPass_17 (nb_bI _) (by subst e1 e2; first | with_reducible rfl | (simp only [c3, c3', oi1, nI_succ, bI, and_true, true_and, and_false, false_and, and_self, or_true, true_or, or_false, false_or, or_self, not_true_eq_false, not_false_eq_true, if_true, if_false, ↓reduceIte] <;> rfl) | rfl | (simp [c3, c3', bI, oi1, nI_succ]; done))
set_option maxHeartbeats 4000000 in
set_option maxRecDepth 100000 in
theorem c_X5_canRehearse (l : Launch) (E : EV) {a : Nat → Nat} {g : Nat → Int32} {f : Nat → Nat → Int32} {p k : Int32} : Rd l E yX5_canRehearse cX5_canRehearse 3 (some .boolean) 2 45 [.ref (a 0), .int p, .int k] (stW E a g f) (some (.int (bI (parS g f (g 0) p &&& gt tBar 6 k = 0)))) := by
  refine Rd.mk0 (by decide) (Nat.le_of_ble_eq_true rfl) ?_
  intro pP eE sS mM aA bB mt cC F hr hk hE ls hl
  have hl : lv_has ls 3 [(0, .ref (a 0)), (1, .int p), (2, .int k)] := hl
  refine V.aload_n F dX5_canRehearse_0 rfl (lv_at hl 0 rfl) ?_
  refine V.getf F hE gX5_47 0 rfl rfl dX5_canRehearse_1 ?_
  refine V.aload_n F dX5_canRehearse_4 rfl (lv_at hl 0 rfl) ?_
  refine V.getfi F hE gX5_9 0 rfl rfl dX5_canRehearse_5 (fun z1 e1 => ?_)
  refine V.iload_n F dX5_canRehearse_8 rfl (lv_at hl 1 rfl) ?_
  refine V.rdV (q0 := 8) F hE (c_X0_partsOn l E) (kX5_80 F.2.2.2.2 ⟨Nat.le_of_ble_eq_true rfl, Nat.le_of_ble_eq_true rfl⟩) rfl rfl [8, 9, 10, 11] rfl rfl hl.1 (Nat.le_of_ble_eq_true rfl) dX5_canRehearse_9 rfl ?_
  refine V.topi (fun z2 e2 => ?_)
  refine V.iload_n F dX5_canRehearse_12 rfl (lv_at hl 2 rfl) ?_
  refine V.rdSN F hE (c_X6_barsKind l E) (kX5_84 F.2.2.2.2 hE.2.1 ⟨Nat.le_of_ble_eq_true rfl, Nat.le_of_ble_eq_true rfl⟩) [] rfl rfl hl.1 (Nat.le_of_ble_eq_true rfl) dX5_canRehearse_13 rfl ?_
  refine V.topi (fun z3 e3 => ?_)
  refine V.if_neB (tgt := 23) F e3 dX5_canRehearse_16 (by decide) (fun c4 => ?_) (fun c4 => ?_)
  · skip
    refine V.iconst (v := 0) F dX5_canRehearse_23 (by decide) ?_
    exact V.zretR F hr hk dX5_canRehearse_24 (nb_bI _) (by subst e1 e2 e3; first | with_reducible rfl | (simp only [c4, oi1, nI_succ, bI, and_true, true_and, and_false, false_and, and_self, or_true, true_or, or_false, false_or, or_self, not_true_eq_false, not_false_eq_true, if_true, if_false, ↓reduceIte] <;> rfl) | rfl | (simp [c4, bI, oi1, nI_succ]; done))
  · skip
    rw [Decidable.not_not] at c4
    refine V.iconst (v := 1) F dX5_canRehearse_19 (by decide) ?_
    refine V.goto (tgt := 24) F dX5_canRehearse_20 (by decide) ?_
    exact V.zretR F hr hk dX5_canRehearse_24 (nb_bI _) (by subst e1 e2 e3; first | with_reducible rfl | (simp only [eq_true c4, oi1, nI_succ, bI, and_true, true_and, and_false, false_and, and_self, or_true, true_or, or_false, false_or, or_self, not_true_eq_false, not_false_eq_true, if_true, if_false, ↓reduceIte] <;> rfl) | rfl | (simp [eq_true c4, bI, oi1, nI_succ]; done))
set_option maxHeartbeats 4000000 in
set_option maxRecDepth 100000 in
theorem c_X5_costOf (l : Launch) (E : EV) {a : Nat → Nat} {g : Nat → Int32} {f : Nat → Nat → Int32} {b d : Int32} : Rd l E yX5_costOf cX5_costOf 4 (some .int) 0 0 [.ref (a 0), .int b, .int d] (stW E a g f) (some (.int (cosC g b d))) := by
  refine Rd.mk0 (by decide) (Nat.le_of_ble_eq_true rfl) ?_
  intro pP eE sS mM aA bB mt cC F hr hk hE ls hl
  have hl : lv_has ls 4 [(0, .ref (a 0)), (1, .int b), (2, .int d)] := hl
  refine V.iload_n F dX5_costOf_0 rfl (lv_at hl 2 rfl) ?_
  refine V.iload_n F dX5_costOf_1 rfl (lv_at hl 1 rfl) ?_
  refine V.imul F dX5_costOf_2 (fun z1 e1 => ?_)
  refine V.iload_n F dX5_costOf_3 rfl (lv_at hl 1 rfl) ?_
  refine V.imul F dX5_costOf_4 (fun z2 e2 => ?_)
  refine V.istore_n (lv' := [(3, .int z2), (0, .ref (a 0)), (1, .int b), (2, .int d)]) F dX5_costOf_5 rfl hl (by decide) rfl (fun ls hl => ?_)
  refine V.iload_n F dX5_costOf_6 rfl (lv_at hl 0 rfl) ?_
  refine V.iload_n F dX5_costOf_7 rfl (lv_at hl 0 rfl) ?_
  refine V.aload_n F dX5_costOf_8 rfl (lv_at hl 1 rfl) ?_
  refine V.getfi F hE gX5_24 0 rfl rfl dX5_costOf_9 (fun z3 e3 => ?_)
  refine V.imul F dX5_costOf_12 (fun z4 e4 => ?_)
  refine V.bipush (v := 10) F dX5_costOf_13 (by decide) ?_
  refine V.idiv F dX5_costOf_15 (by decide) (fun z5 e5 => ?_)
  refine V.iadd F dX5_costOf_16 (fun z6 e6 => ?_)
  exact V.iretR F hr hk dX5_costOf_17 (by subst e1 e2 e3 e4 e5 e6; first | with_reducible rfl | (simp only [cosC, oi1, nI_succ, bI, and_true, true_and, and_false, false_and, and_self, or_true, true_or, or_false, false_or, or_self, not_true_eq_false, not_false_eq_true, if_true, if_false, ↓reduceIte] <;> rfl) | rfl | (simp [cosC, bI, oi1, nI_succ]; done))
set_option maxHeartbeats 4000000 in
set_option maxRecDepth 100000 in
theorem c_X5_stepOn (l : Launch) (E : EV) {a : Nat → Nat} {g : Nat → Int32} {f : Nat → Nat → Int32} {d : Int32} : Rd l E yX5_stepOn cX5_stepOn 2 (some .int) 0 0 [.ref (a 0), .int d] (stW E a g f) (some (.int (stpC g d))) := by
  refine Rd.mk0 (by decide) (Nat.le_of_ble_eq_true rfl) ?_
  intro pP eE sS mM aA bB mt cC F hr hk hE ls hl
  have hl : lv_has ls 2 [(0, .ref (a 0)), (1, .int d)] := hl
  refine V.iload_n F dX5_stepOn_0 rfl (lv_at hl 1 rfl) ?_
  refine V.aload_n F dX5_stepOn_1 rfl (lv_at hl 0 rfl) ?_
  refine V.getfi F hE gX5_21 0 rfl rfl dX5_stepOn_2 (fun z1 e1 => ?_)
  refine V.icmp_gt (tgt := 15) F dX5_stepOn_5 (by decide) (fun c2 c2' => ?_) (fun c2 c2' => ?_)
  · skip
    refine V.iconst (v := 0) F dX5_stepOn_15 (by decide) ?_
    exact V.iretR F hr hk dX5_stepOn_16 (by subst e1; first | with_reducible rfl | (simp only [stpC, c2, c2', oi1, nI_succ, bI, and_true, true_and, and_false, false_and, and_self, or_true, true_or, or_false, false_or, or_self, not_true_eq_false, not_false_eq_true, if_true, if_false, ↓reduceIte] <;> rfl) | rfl | (simp [stpC, c2, c2', bI, oi1, nI_succ]; done))
  · skip
    refine V.aload_n F dX5_stepOn_8 rfl (lv_at hl 0 rfl) ?_
    refine V.getfi F hE gX5_18 0 rfl rfl dX5_stepOn_9 (fun z3 e3 => ?_)
    refine V.goto (tgt := 16) F dX5_stepOn_12 (by decide) ?_
    exact V.iretR F hr hk dX5_stepOn_16 (by subst e1 e3; first | with_reducible rfl | (simp only [stpC, c2, c2', oi1, nI_succ, bI, and_true, true_and, and_false, false_and, and_self, or_true, true_or, or_false, false_or, or_self, not_true_eq_false, not_false_eq_true, if_true, if_false, ↓reduceIte] <;> rfl) | rfl | (simp [stpC, c2, c2', bI, oi1, nI_succ]; done))
set_option maxHeartbeats 4000000 in
set_option maxRecDepth 100000 in
theorem c_X5_lastInsuredDay (l : Launch) (E : EV) {a : Nat → Nat} {g : Nat → Int32} {f : Nat → Nat → Int32} : Rd l E yX5_lastInsuredDay cX5_lastInsuredDay 1 (some .int) 0 0 [.ref (a 0)] (stW E a g f) (some (.int (if g 0 ≤ g 3 then g 3 else -1))) := by
  refine Rd.mk0 (by decide) (Nat.le_of_ble_eq_true rfl) ?_
  intro pP eE sS mM aA bB mt cC F hr hk hE ls hl
  have hl : lv_has ls 1 [(0, .ref (a 0))] := hl
  refine V.aload_n F dX5_lastInsuredDay_0 rfl (lv_at hl 0 rfl) ?_
  refine V.getfi F hE gX5_9 0 rfl rfl dX5_lastInsuredDay_1 (fun z1 e1 => ?_)
  refine V.aload_n F dX5_lastInsuredDay_4 rfl (lv_at hl 0 rfl) ?_
  refine V.getfi F hE gX5_21 0 rfl rfl dX5_lastInsuredDay_5 (fun z2 e2 => ?_)
  refine V.icmp_gt (tgt := 18) F dX5_lastInsuredDay_8 (by decide) (fun c3 c3' => ?_) (fun c3 c3' => ?_)
  · skip
    refine V.iconst (v := (-1)) F dX5_lastInsuredDay_18 (by decide) ?_
    exact V.iretR F hr hk dX5_lastInsuredDay_19 (by subst e1 e2; first | with_reducible rfl | (simp only [c3, c3', oi1, nI_succ, bI, and_true, true_and, and_false, false_and, and_self, or_true, true_or, or_false, false_or, or_self, not_true_eq_false, not_false_eq_true, if_true, if_false, ↓reduceIte] <;> rfl) | rfl | (simp [c3, c3', bI, oi1, nI_succ]; done))
  · skip
    refine V.aload_n F dX5_lastInsuredDay_11 rfl (lv_at hl 0 rfl) ?_
    refine V.getfi F hE gX5_21 0 rfl rfl dX5_lastInsuredDay_12 (fun z4 e4 => ?_)
    refine V.goto (tgt := 19) F dX5_lastInsuredDay_15 (by decide) ?_
    exact V.iretR F hr hk dX5_lastInsuredDay_19 (by subst e1 e2 e4; first | with_reducible rfl | (simp only [c3, c3', oi1, nI_succ, bI, and_true, true_and, and_false, false_and, and_self, or_true, true_or, or_false, false_or, or_self, not_true_eq_false, not_false_eq_true, if_true, if_false, ↓reduceIte] <;> rfl) | rfl | (simp [c3, c3', bI, oi1, nI_succ]; done))
set_option maxHeartbeats 4000000 in
set_option maxRecDepth 100000 in
theorem c_X5_lookAlike (l : Launch) (E : EV) {a : Nat → Nat} {g : Nat → Int32} {f : Nat → Nat → Int32} {p q : Int32} : Rd l E yX5_lookAlike cX5_lookAlike 4 (some .boolean) 1 21 [.ref (a 0), .int p, .int q] (stW E a g f) (some (.int (bI (-5 ≤ gapC f p q ∧ gapC f p q ≤ 5)))) := by
  refine Rd.mk0 (by decide) (Nat.le_of_ble_eq_true rfl) ?_
  intro pP eE sS mM aA bB mt cC F hr hk hE ls hl
  have hl : lv_has ls 4 [(0, .ref (a 0)), (1, .int p), (2, .int q)] := hl
  refine V.aload_n F dX5_lookAlike_0 rfl (lv_at hl 0 rfl) ?_
  refine V.getf F hE gX5_30 0 rfl rfl dX5_lookAlike_1 ?_
  refine V.iload_n F dX5_lookAlike_4 rfl (lv_at hl 1 rfl) ?_
  refine V.rdSN F hE (c_X6_at l E (by first | assumption | omega)) (kX5_72 F.2.2.2.2 hE.2.1 ⟨Nat.le_of_ble_eq_true rfl, Nat.le_of_ble_eq_true rfl⟩) [1] rfl rfl hl.1 (Nat.le_of_ble_eq_true rfl) dX5_lookAlike_5 rfl ?_
  refine V.topi (fun z1 e1 => ?_)
  refine V.aload_n F dX5_lookAlike_8 rfl (lv_at hl 0 rfl) ?_
  refine V.getf F hE gX5_30 0 rfl rfl dX5_lookAlike_9 ?_
  refine V.iload_n F dX5_lookAlike_12 rfl (lv_at hl 2 rfl) ?_
  refine V.rdSN F hE (c_X6_at l E (by first | assumption | omega)) (kX5_72 F.2.2.2.2 hE.2.1 ⟨Nat.le_of_ble_eq_true rfl, Nat.le_of_ble_eq_true rfl⟩) [1] rfl rfl hl.1 (Nat.le_of_ble_eq_true rfl) dX5_lookAlike_13 rfl ?_
  refine V.topi (fun z2 e2 => ?_)
  refine V.isub F dX5_lookAlike_16 (fun z3 e3 => ?_)
  refine V.istore_n (lv' := [(3, .int z3), (0, .ref (a 0)), (1, .int p), (2, .int q)]) F dX5_lookAlike_17 rfl hl (by decide) rfl (fun ls hl => ?_)
  refine V.iload_n F dX5_lookAlike_18 rfl (lv_at hl 0 rfl) ?_
  refine V.bipush (v := (-5)) F dX5_lookAlike_19 (by decide) ?_
  refine V.icmp_lt (tgt := 33) F dX5_lookAlike_21 (by decide) (fun c4 c4' => ?_) (fun c4 c4' => ?_)
  · skip
    refine V.iconst (v := 0) F dX5_lookAlike_33 (by decide) ?_
    exact V.zretR F hr hk dX5_lookAlike_34 (nb_bI _) (by subst e1 e2 e3; first | with_reducible rfl | (simp only [gapC, c4, c4', oi1, nI_succ, bI, and_true, true_and, and_false, false_and, and_self, or_true, true_or, or_false, false_or, or_self, not_true_eq_false, not_false_eq_true, if_true, if_false, ↓reduceIte] <;> rfl) | rfl | (simp [gapC, c4, c4', bI, oi1, nI_succ]; done))
  · skip
    refine V.iload_n F dX5_lookAlike_24 rfl (lv_at hl 0 rfl) ?_
    refine V.iconst (v := 5) F dX5_lookAlike_25 (by decide) ?_
    refine V.icmp_gt (tgt := 33) F dX5_lookAlike_26 (by decide) (fun c5 c5' => ?_) (fun c5 c5' => ?_)
    · skip
      refine V.iconst (v := 0) F dX5_lookAlike_33 (by decide) ?_
      exact V.zretR F hr hk dX5_lookAlike_34 (nb_bI _) (by subst e1 e2 e3; first | with_reducible rfl | (simp only [gapC, c4, c4', c5, c5', oi1, nI_succ, bI, and_true, true_and, and_false, false_and, and_self, or_true, true_or, or_false, false_or, or_self, not_true_eq_false, not_false_eq_true, if_true, if_false, ↓reduceIte] <;> rfl) | rfl | (simp [gapC, c4, c4', c5, c5', bI, oi1, nI_succ]; done))
    · skip
      refine V.iconst (v := 1) F dX5_lookAlike_29 (by decide) ?_
      refine V.goto (tgt := 34) F dX5_lookAlike_30 (by decide) ?_
      exact V.zretR F hr hk dX5_lookAlike_34 (nb_bI _) (by subst e1 e2 e3; first | with_reducible rfl | (simp only [gapC, c4, c4', c5, c5', oi1, nI_succ, bI, and_true, true_and, and_false, false_and, and_self, or_true, true_or, or_false, false_or, or_self, not_true_eq_false, not_false_eq_true, if_true, if_false, ↓reduceIte] <;> rfl) | rfl | (simp [gapC, c4, c4', c5, c5', bI, oi1, nI_succ]; done))
set_option maxHeartbeats 4000000 in
set_option maxRecDepth 100000 in
theorem c_X5_reasonOn (l : Launch) (E : EV) {a : Nat → Nat} {g : Nat → Int32} {f : Nat → Nat → Int32} {d x p : Int32} : Rd l E yX5_reasonOn cX5_reasonOn 8 (some .int) 2 47 [.ref (a 0), .int d, .int x, .int p] (stW E a g f) (some (.int (reaC g f d x p))) := by
  refine Rd.mk0 (by decide) (Nat.le_of_ble_eq_true rfl) ?_
  intro pP eE sS mM aA bB mt cC F hr hk hE ls hl
  have hl : lv_has ls 8 [(0, .ref (a 0)), (1, .int d), (2, .int x), (3, .int p)] := hl
  refine V.aload_n F dX5_reasonOn_0 rfl (lv_at hl 0 rfl) ?_
  refine V.getf F hE gX5_54 0 rfl rfl dX5_reasonOn_1 ?_
  refine V.iload_n F dX5_reasonOn_4 rfl (lv_at hl 2 rfl) ?_
  refine V.rdV (q0 := 12) F hE (c_X4_kindOf l E) (kX5_108 F.2.2.2.2 ⟨Nat.le_of_ble_eq_true rfl, Nat.le_of_ble_eq_true rfl⟩) rfl rfl [12, 13, 14, 15, 16, 17] rfl rfl hl.1 (Nat.le_of_ble_eq_true rfl) dX5_reasonOn_5 rfl ?_
  refine V.topi (fun z1 e1 => ?_)
  refine V.istore (lv' := [(4, .int z1), (0, .ref (a 0)), (1, .int d), (2, .int x), (3, .int p)]) F dX5_reasonOn_8 hl (by decide) rfl (fun ls hl => ?_)
  refine V.aload_n F dX5_reasonOn_10 rfl (lv_at hl 1 rfl) ?_
  refine V.getf F hE gX5_54 0 rfl rfl dX5_reasonOn_11 ?_
  refine V.iload_n F dX5_reasonOn_14 rfl (lv_at hl 3 rfl) ?_
  refine V.rdV (q0 := 12) F hE (c_X4_riskOf l E) (kX5_122 F.2.2.2.2 ⟨Nat.le_of_ble_eq_true rfl, Nat.le_of_ble_eq_true rfl⟩) rfl rfl [12, 13, 14, 15, 16, 17] rfl rfl hl.1 (Nat.le_of_ble_eq_true rfl) dX5_reasonOn_15 rfl ?_
  refine V.topi (fun z2 e2 => ?_)
  refine V.istore (lv' := [(5, .int z2), (4, .int z1), (0, .ref (a 0)), (1, .int d), (2, .int x), (3, .int p)]) F dX5_reasonOn_18 hl (by decide) rfl (fun ls hl => ?_)
  refine V.aload_n F dX5_reasonOn_20 rfl (lv_at hl 2 rfl) ?_
  refine V.getf F hE gX5_54 0 rfl rfl dX5_reasonOn_21 ?_
  refine V.iload_n F dX5_reasonOn_24 rfl (lv_at hl 4 rfl) ?_
  refine V.rdV (q0 := 12) F hE (c_X4_isShot l E) (kX5_104 F.2.2.2.2 ⟨Nat.le_of_ble_eq_true rfl, Nat.le_of_ble_eq_true rfl⟩) rfl rfl [12, 13, 14, 15, 16, 17] rfl rfl hl.1 (Nat.le_of_ble_eq_true rfl) dX5_reasonOn_25 rfl ?_
  refine V.topi (fun z3 e3 => ?_)
  refine V.if_eqB (tgt := 33) F e3 dX5_reasonOn_28 (by decide) (fun c4 => ?_) (fun c4 => ?_)
  · skip
    rw [Decidable.not_not] at c4
    refine V.aload_n F dX5_reasonOn_33 rfl (lv_at hl 2 rfl) ?_
    refine V.iload_n F dX5_reasonOn_34 rfl (lv_at hl 5 rfl) ?_
    refine V.aload_n F dX5_reasonOn_35 rfl (lv_at hl 2 rfl) ?_
    refine V.getf F hE gX5_54 0 rfl rfl dX5_reasonOn_36 ?_
    refine V.iload_n F dX5_reasonOn_39 rfl (lv_at hl 4 rfl) ?_
    refine V.rdV (q0 := 12) F hE (c_X4_seenIn l E) (kX5_125 F.2.2.2.2 ⟨Nat.le_of_ble_eq_true rfl, Nat.le_of_ble_eq_true rfl⟩) rfl rfl [12, 13, 14, 15, 16, 17] rfl rfl hl.1 (Nat.le_of_ble_eq_true rfl) dX5_reasonOn_40 rfl ?_
    refine V.topi (fun z5 e5 => ?_)
    refine V.rdV (q0 := 0) F hE (c_X5_lookAlike l E) (kX5_128 F.2.2.2.2 ⟨Nat.le_of_ble_eq_true rfl, Nat.le_of_ble_eq_true rfl⟩) rfl rfl [0, 1, 2, 3, 4, 5, 6, 7, 8, 9, 10, 11, 12, 13, 14, 15, 16, 17] rfl rfl hl.1 (Nat.le_of_ble_eq_true rfl) dX5_reasonOn_43 rfl ?_
    refine V.topi (fun z6 e6 => ?_)
    refine V.if_neB (tgt := 51) F e6 dX5_reasonOn_46 (by decide) (fun c7 => ?_) (fun c7 => ?_)
    · skip
      refine V.aload_n F dX5_reasonOn_51 rfl (lv_at hl 2 rfl) ?_
      refine V.iload_n F dX5_reasonOn_52 rfl (lv_at hl 3 rfl) ?_
      refine V.rdV (q0 := 0) F hE (c_X5_stepOn l E) (kX5_131 F.2.2.2.2 ⟨Nat.le_of_ble_eq_true rfl, Nat.le_of_ble_eq_true rfl⟩) rfl rfl [0, 1, 2, 3, 4, 5, 6, 7, 8, 9, 10, 11, 12, 13, 14, 15, 16, 17] rfl rfl hl.1 (Nat.le_of_ble_eq_true rfl) dX5_reasonOn_53 rfl ?_
      refine V.topi (fun z8 e8 => ?_)
      refine V.iload F dX5_reasonOn_56 (lv_at hl 0 rfl) ?_
      refine V.icmp_ge (tgt := 63) F dX5_reasonOn_58 (by decide) (fun c9 c9' => ?_) (fun c9 c9' => ?_)
      · skip
        refine V.aload_n F dX5_reasonOn_63 rfl (lv_at hl 2 rfl) ?_
        refine V.getf F hE gX5_47 0 rfl rfl dX5_reasonOn_64 ?_
        refine V.iload_n F dX5_reasonOn_67 rfl (lv_at hl 3 rfl) ?_
        refine V.iload_n F dX5_reasonOn_68 rfl (lv_at hl 5 rfl) ?_
        refine V.rdV (q0 := 8) F hE (c_X0_partsOn l E) (kX5_80 F.2.2.2.2 ⟨Nat.le_of_ble_eq_true rfl, Nat.le_of_ble_eq_true rfl⟩) rfl rfl [8, 9, 10, 11] rfl rfl hl.1 (Nat.le_of_ble_eq_true rfl) dX5_reasonOn_69 rfl ?_
        refine V.topi (fun z10 e10 => ?_)
        refine V.iload F dX5_reasonOn_72 (lv_at hl 1 rfl) ?_
        refine V.rdSN F hE (c_X6_barsKind l E) (kX5_84 F.2.2.2.2 hE.2.1 ⟨Nat.le_of_ble_eq_true rfl, Nat.le_of_ble_eq_true rfl⟩) [] rfl rfl hl.1 (Nat.le_of_ble_eq_true rfl) dX5_reasonOn_74 rfl ?_
        refine V.topi (fun z11 e11 => ?_)
        refine V.if_eqB (tgt := 82) F e11 dX5_reasonOn_77 (by decide) (fun c12 => ?_) (fun c12 => ?_)
        · skip
          rw [Decidable.not_not] at c12
          refine V.aload_n F dX5_reasonOn_82 rfl (lv_at hl 2 rfl) ?_
          refine V.getf F hE gX5_54 0 rfl rfl dX5_reasonOn_83 ?_
          refine V.iload_n F dX5_reasonOn_86 rfl (lv_at hl 5 rfl) ?_
          refine V.rdV (q0 := 12) F hE (c_X4_latestShotBy l E) (kX5_134 F.2.2.2.2 ⟨Nat.le_of_ble_eq_true rfl, Nat.le_of_ble_eq_true rfl⟩) rfl rfl [12, 13, 14, 15, 16, 17] rfl rfl hl.1 (Nat.le_of_ble_eq_true rfl) dX5_reasonOn_87 rfl ?_
          refine V.topi (fun z13 e13 => ?_)
          refine V.istore (lv' := [(6, .int z13), (5, .int z2), (4, .int z1), (0, .ref (a 0)), (1, .int d), (2, .int x), (3, .int p)]) F dX5_reasonOn_90 hl (by decide) rfl (fun ls hl => ?_)
          refine V.iload F dX5_reasonOn_92 (lv_at hl 0 rfl) ?_
          refine V.iconst (v := (-1)) F dX5_reasonOn_94 (by decide) ?_
          refine V.icmp_eq (tgt := 108) F dX5_reasonOn_95 (by decide) (fun c14 => ?_) (fun c14 => ?_)
          · skip
            refine V.aload_n F dX5_reasonOn_108 rfl (lv_at hl 3 rfl) ?_
            refine V.getf F hE gX5_40 0 rfl rfl dX5_reasonOn_109 ?_
            refine V.iload_n F dX5_reasonOn_112 rfl (lv_at hl 4 rfl) ?_
            refine V.iload_n F dX5_reasonOn_113 rfl (lv_at hl 6 rfl) ?_
            refine V.iload F dX5_reasonOn_114 (lv_at hl 2 rfl) ?_
            refine V.iload F dX5_reasonOn_116 (lv_at hl 1 rfl) ?_
            refine V.rdV (q0 := 3) F hE (c_X2_countingOn l E) (kX5_137 F.2.2.2.2 ⟨Nat.le_of_ble_eq_true rfl, Nat.le_of_ble_eq_true rfl⟩) rfl rfl [3, 4, 5, 6, 7] rfl rfl hl.1 (Nat.le_of_ble_eq_true rfl) dX5_reasonOn_118 rfl ?_
            refine V.topi (fun z15 e15 => ?_)
            refine V.istore (lv' := [(7, .int z15), (6, .int z13), (5, .int z2), (4, .int z1), (0, .ref (a 0)), (1, .int d), (2, .int x), (3, .int p)]) F dX5_reasonOn_121 hl (by decide) rfl (fun ls hl => ?_)
            refine V.iload F dX5_reasonOn_123 (lv_at hl 0 rfl) ?_
            refine V.iload F dX5_reasonOn_125 (lv_at hl 3 rfl) ?_
            refine V.iload F dX5_reasonOn_127 (lv_at hl 2 rfl) ?_
            refine V.rdSN F hE (c_X6_rehearsalsNeeded l E) (kX5_141 F.2.2.2.2 hE.2.1 ⟨Nat.le_of_ble_eq_true rfl, Nat.le_of_ble_eq_true rfl⟩) [] rfl rfl hl.1 (Nat.le_of_ble_eq_true rfl) dX5_reasonOn_129 rfl ?_
            refine V.topi (fun z16 e16 => ?_)
            refine V.icmp_ge (tgt := 140) F dX5_reasonOn_132 (by decide) (fun c17 c17' => ?_) (fun c17 c17' => ?_)
            · skip
              refine V.iconst (v := 0) F dX5_reasonOn_140 (by decide) ?_
              exact V.iretR F hr hk dX5_reasonOn_141 (by subst e1 e2 e3 e5 e6 e8 e10 e11 e13 e15 e16; first | with_reducible rfl | (simp only [reaC, eq_true c4, eq_true c7, c9, c9', eq_true c12, eq_true c14, c17, c17', oi1, nI_succ, bI, and_true, true_and, and_false, false_and, and_self, or_true, true_or, or_false, false_or, or_self, not_true_eq_false, not_false_eq_true, if_true, if_false, ↓reduceIte] <;> rfl) | rfl | (simp [reaC, eq_true c4, eq_true c7, c9, c9', eq_true c12, eq_true c14, c17, c17', bI, oi1, nI_succ]; done))
            · skip
              refine V.bipush (v := 6) F dX5_reasonOn_135 (by decide) ?_
              refine V.goto (tgt := 141) F dX5_reasonOn_137 (by decide) ?_
              exact V.iretR F hr hk dX5_reasonOn_141 (by subst e1 e2 e3 e5 e6 e8 e10 e11 e13 e15 e16; first | with_reducible rfl | (simp only [reaC, eq_true c4, eq_true c7, c9, c9', eq_true c12, eq_true c14, c17, c17', oi1, nI_succ, bI, and_true, true_and, and_false, false_and, and_self, or_true, true_or, or_false, false_or, or_self, not_true_eq_false, not_false_eq_true, if_true, if_false, ↓reduceIte] <;> rfl) | rfl | (simp [reaC, eq_true c4, eq_true c7, c9, c9', eq_true c12, eq_true c14, c17, c17', bI, oi1, nI_succ]; done))
          · skip
            refine V.iload_n F dX5_reasonOn_98 rfl (lv_at hl 4 rfl) ?_
            refine V.iload F dX5_reasonOn_99 (lv_at hl 0 rfl) ?_
            refine V.iconst (v := 1) F dX5_reasonOn_101 (by decide) ?_
            refine V.iadd F dX5_reasonOn_102 (fun z18 e18 => ?_)
            refine V.icmp_gt (tgt := 108) F dX5_reasonOn_103 (by decide) (fun c19 c19' => ?_) (fun c19 c19' => ?_)
            · skip
              refine V.aload_n F dX5_reasonOn_108 rfl (lv_at hl 3 rfl) ?_
              refine V.getf F hE gX5_40 0 rfl rfl dX5_reasonOn_109 ?_
              refine V.iload_n F dX5_reasonOn_112 rfl (lv_at hl 4 rfl) ?_
              refine V.iload_n F dX5_reasonOn_113 rfl (lv_at hl 6 rfl) ?_
              refine V.iload F dX5_reasonOn_114 (lv_at hl 2 rfl) ?_
              refine V.iload F dX5_reasonOn_116 (lv_at hl 1 rfl) ?_
              refine V.rdV (q0 := 3) F hE (c_X2_countingOn l E) (kX5_137 F.2.2.2.2 ⟨Nat.le_of_ble_eq_true rfl, Nat.le_of_ble_eq_true rfl⟩) rfl rfl [3, 4, 5, 6, 7] rfl rfl hl.1 (Nat.le_of_ble_eq_true rfl) dX5_reasonOn_118 rfl ?_
              refine V.topi (fun z20 e20 => ?_)
              refine V.istore (lv' := [(7, .int z20), (6, .int z13), (5, .int z2), (4, .int z1), (0, .ref (a 0)), (1, .int d), (2, .int x), (3, .int p)]) F dX5_reasonOn_121 hl (by decide) rfl (fun ls hl => ?_)
              refine V.iload F dX5_reasonOn_123 (lv_at hl 0 rfl) ?_
              refine V.iload F dX5_reasonOn_125 (lv_at hl 3 rfl) ?_
              refine V.iload F dX5_reasonOn_127 (lv_at hl 2 rfl) ?_
              refine V.rdSN F hE (c_X6_rehearsalsNeeded l E) (kX5_141 F.2.2.2.2 hE.2.1 ⟨Nat.le_of_ble_eq_true rfl, Nat.le_of_ble_eq_true rfl⟩) [] rfl rfl hl.1 (Nat.le_of_ble_eq_true rfl) dX5_reasonOn_129 rfl ?_
              refine V.topi (fun z21 e21 => ?_)
              refine V.icmp_ge (tgt := 140) F dX5_reasonOn_132 (by decide) (fun c22 c22' => ?_) (fun c22 c22' => ?_)
              · skip
                refine V.iconst (v := 0) F dX5_reasonOn_140 (by decide) ?_
                exact V.iretR F hr hk dX5_reasonOn_141 (by subst e1 e2 e3 e5 e6 e8 e10 e11 e13 e18 e20 e21; first | with_reducible rfl | (simp only [reaC, eq_true c4, eq_true c7, c9, c9', eq_true c12, c14, c19, c19', c22, c22', oi1, nI_succ, bI, and_true, true_and, and_false, false_and, and_self, or_true, true_or, or_false, false_or, or_self, not_true_eq_false, not_false_eq_true, if_true, if_false, ↓reduceIte] <;> rfl) | rfl | (simp [reaC, eq_true c4, eq_true c7, c9, c9', eq_true c12, c14, c19, c19', c22, c22', bI, oi1, nI_succ]; done))
              · skip
                refine V.bipush (v := 6) F dX5_reasonOn_135 (by decide) ?_
                refine V.goto (tgt := 141) F dX5_reasonOn_137 (by decide) ?_
                exact V.iretR F hr hk dX5_reasonOn_141 (by subst e1 e2 e3 e5 e6 e8 e10 e11 e13 e18 e20 e21; first | with_reducible rfl | (simp only [reaC, eq_true c4, eq_true c7, c9, c9', eq_true c12, c14, c19, c19', c22, c22', oi1, nI_succ, bI, and_true, true_and, and_false, false_and, and_self, or_true, true_or, or_false, false_or, or_self, not_true_eq_false, not_false_eq_true, if_true, if_false, ↓reduceIte] <;> rfl) | rfl | (simp [reaC, eq_true c4, eq_true c7, c9, c9', eq_true c12, c14, c19, c19', c22, c22', bI, oi1, nI_succ]; done))
            · skip
              refine V.iconst (v := 5) F dX5_reasonOn_106 (by decide) ?_
              exact V.iretR F hr hk dX5_reasonOn_107 (by subst e1 e2 e3 e5 e6 e8 e10 e11 e13 e18; first | with_reducible rfl | (simp only [reaC, eq_true c4, eq_true c7, c9, c9', eq_true c12, c14, c19, c19', oi1, nI_succ, bI, and_true, true_and, and_false, false_and, and_self, or_true, true_or, or_false, false_or, or_self, not_true_eq_false, not_false_eq_true, if_true, if_false, ↓reduceIte] <;> rfl) | rfl | (simp [reaC, eq_true c4, eq_true c7, c9, c9', eq_true c12, c14, c19, c19', bI, oi1, nI_succ]; done))
        · skip
          refine V.iconst (v := 4) F dX5_reasonOn_80 (by decide) ?_
          exact V.iretR F hr hk dX5_reasonOn_81 (by subst e1 e2 e3 e5 e6 e8 e10 e11; first | with_reducible rfl | (simp only [reaC, eq_true c4, eq_true c7, c9, c9', c12, oi1, nI_succ, bI, and_true, true_and, and_false, false_and, and_self, or_true, true_or, or_false, false_or, or_self, not_true_eq_false, not_false_eq_true, if_true, if_false, ↓reduceIte] <;> rfl) | rfl | (simp [reaC, eq_true c4, eq_true c7, c9, c9', c12, bI, oi1, nI_succ]; done))
      · skip
        refine V.iconst (v := 3) F dX5_reasonOn_61 (by decide) ?_
        exact V.iretR F hr hk dX5_reasonOn_62 (by subst e1 e2 e3 e5 e6 e8; first | with_reducible rfl | (simp only [reaC, eq_true c4, eq_true c7, c9, c9', oi1, nI_succ, bI, and_true, true_and, and_false, false_and, and_self, or_true, true_or, or_false, false_or, or_self, not_true_eq_false, not_false_eq_true, if_true, if_false, ↓reduceIte] <;> rfl) | rfl | (simp [reaC, eq_true c4, eq_true c7, c9, c9', bI, oi1, nI_succ]; done))
    · skip
      refine V.iconst (v := 2) F dX5_reasonOn_49 (by decide) ?_
      exact V.iretR F hr hk dX5_reasonOn_50 (by subst e1 e2 e3 e5 e6; first | with_reducible rfl | (simp only [reaC, eq_true c4, c7, oi1, nI_succ, bI, and_true, true_and, and_false, false_and, and_self, or_true, true_or, or_false, false_or, or_self, not_true_eq_false, not_false_eq_true, if_true, if_false, ↓reduceIte] <;> rfl) | rfl | (simp [reaC, eq_true c4, c7, bI, oi1, nI_succ]; done))
  · skip
    refine V.iconst (v := 1) F dX5_reasonOn_31 (by decide) ?_
    exact V.iretR F hr hk dX5_reasonOn_32 (by subst e1 e2 e3; first | with_reducible rfl | (simp only [reaC, c4, oi1, nI_succ, bI, and_true, true_and, and_false, false_and, and_self, or_true, true_or, or_false, false_or, or_self, not_true_eq_false, not_false_eq_true, if_true, if_false, ↓reduceIte] <;> rfl) | rfl | (simp [reaC, c4, bI, oi1, nI_succ]; done))
set_option maxHeartbeats 4000000 in
set_option maxRecDepth 100000 in
theorem c_X5_canShoot (l : Launch) (E : EV) {a : Nat → Nat} {g : Nat → Int32} {f : Nat → Nat → Int32} {x p : Int32} : Rd l E yX5_canShoot cX5_canShoot 3 (some .boolean) 3 74 [.ref (a 0), .int x, .int p] (stW E a g f) (some (.int (bI (reaC g f (g 0) x p = 0)))) := by
  refine Rd.mk0 (by decide) (Nat.le_of_ble_eq_true rfl) ?_
  intro pP eE sS mM aA bB mt cC F hr hk hE ls hl
  have hl : lv_has ls 3 [(0, .ref (a 0)), (1, .int x), (2, .int p)] := hl
  refine V.aload_n F dX5_canShoot_0 rfl (lv_at hl 0 rfl) ?_
  refine V.aload_n F dX5_canShoot_1 rfl (lv_at hl 0 rfl) ?_
  refine V.getfi F hE gX5_9 0 rfl rfl dX5_canShoot_2 (fun z1 e1 => ?_)
  refine V.iload_n F dX5_canShoot_5 rfl (lv_at hl 1 rfl) ?_
  refine V.iload_n F dX5_canShoot_6 rfl (lv_at hl 2 rfl) ?_
  refine V.rdV (q0 := 0) F hE (c_X5_reasonOn l E) (kX5_115 F.2.2.2.2 ⟨Nat.le_of_ble_eq_true rfl, Nat.le_of_ble_eq_true rfl⟩) rfl rfl [0, 1, 2, 3, 4, 5, 6, 7, 8, 9, 10, 11, 12, 13, 14, 15, 16, 17] rfl rfl hl.1 (Nat.le_of_ble_eq_true rfl) dX5_canShoot_7 rfl ?_
  refine V.topi (fun z2 e2 => ?_)
  refine V.if_ne (tgt := 17) F dX5_canShoot_10 (by decide) (fun c3 => ?_) (fun c3 => ?_)
  · skip
    refine V.iconst (v := 0) F dX5_canShoot_17 (by decide) ?_
    exact V.zretR F hr hk dX5_canShoot_18 (nb_bI _) (by subst e1 e2; first | with_reducible rfl | (simp only [c3, oi1, nI_succ, bI, and_true, true_and, and_false, false_and, and_self, or_true, true_or, or_false, false_or, or_self, not_true_eq_false, not_false_eq_true, if_true, if_false, ↓reduceIte] <;> rfl) | rfl | (simp [c3, bI, oi1, nI_succ]; done))
  · skip
    refine V.iconst (v := 1) F dX5_canShoot_13 (by decide) ?_
    refine V.goto (tgt := 18) F dX5_canShoot_14 (by decide) ?_
    exact V.zretR F hr hk dX5_canShoot_18 (nb_bI _) (by subst e1 e2; first | with_reducible rfl | (simp only [eq_true c3, oi1, nI_succ, bI, and_true, true_and, and_false, false_and, and_self, or_true, true_or, or_false, false_or, or_self, not_true_eq_false, not_false_eq_true, if_true, if_false, ↓reduceIte] <;> rfl) | rfl | (simp [eq_true c3, bI, oi1, nI_succ]; done))
set_option maxHeartbeats 4000000 in
set_option maxRecDepth 100000 in
theorem c_X5_clearedToday (l : Launch) (E : EV) {a : Nat → Nat} {g : Nat → Int32} {f : Nat → Nat → Int32} {x : Int32} : Rd l E yX5_clearedToday cX5_clearedToday 4 (some .int) 3 74 [.ref (a 0), .int x] (stW E a g f) (some (.int (clrC g f x 8))) := by
  refine Rd.mk0 (by decide) (Nat.le_of_ble_eq_true rfl) ?_
  intro pP eE sS mM aA bB mt cC F hr hk hE ls hl
  have hl : lv_has ls 4 [(0, .ref (a 0)), (1, .int x)] := hl
  refine V.iconst (v := 0) F dX5_clearedToday_0 (by decide) ?_
  refine V.istore_n (lv' := [(2, .int 0), (0, .ref (a 0)), (1, .int x)]) F dX5_clearedToday_1 rfl hl (by decide) rfl (fun ls hl => ?_)
  refine V.iconst (v := 0) F dX5_clearedToday_2 (by decide) ?_
  refine V.istore_n (lv' := [(3, .int 0), (2, .int 0), (0, .ref (a 0)), (1, .int x)]) F dX5_clearedToday_3 rfl hl (by decide) rfl (fun ls hl => ?_)
  have h2 : nI 0 = 0 := (by first | with_reducible rfl | (simp only [clrC, oi1, nI_succ, bI, and_true, true_and, and_false, false_and, and_self, or_true, true_or, or_false, false_or, or_self, not_true_eq_false, not_false_eq_true, if_true, if_false, ↓reduceIte] <;> rfl) | rfl | (simp [clrC, bI, oi1, nI_succ]; done))
  have h3 : clrC g f x 0 = 0 := (by first | with_reducible rfl | (simp only [clrC, oi1, nI_succ, bI, and_true, true_and, and_false, false_and, and_self, or_true, true_or, or_false, false_or, or_self, not_true_eq_false, not_false_eq_true, if_true, if_false, ↓reduceIte] <;> rfl) | rfl | (simp [clrC, bI, oi1, nI_succ]; done))
  refine V.loop (N := 8) (k0 := 0) (I := (fun j1 : Nat => [(3, .int (nI j1)), (2, .int (clrC g f x j1)), (0, .ref (a 0)), (1, .int x)])) (J := fun _ => True) (Nat.zero_le _) trivial (lv_sub hl [0, 1, 2, 3] (by rw [h2, h3]; rfl)) ?_
  intro j1 j1_N j1_J ihj1 ls hl
  have hl : lv_has ls 4 [(3, .int (nI j1)), (2, .int (clrC g f x j1)), (0, .ref (a 0)), (1, .int x)] := hl
  refine V.iload_n F dX5_clearedToday_4 rfl (lv_at hl 0 rfl) ?_
  refine V.bipush (v := 8) F dX5_clearedToday_5 (by decide) ?_
  refine V.icmp_ge (tgt := 35) F dX5_clearedToday_7 (by decide) (fun c4 c4' => ?_) (fun c4 c4' => ?_)
  · skip
    have j1_eq := ((lpL (by rfl) (by decide) j1_N).1 c4).symm
    subst j1_eq
    refine V.iload_n F dX5_clearedToday_35 rfl (lv_at hl 1 rfl) ?_
    exact V.iretR F hr hk dX5_clearedToday_36 (by first | with_reducible rfl | (simp only [clrC, c4, c4', oi1, nI_succ, bI, and_true, true_and, and_false, false_and, and_self, or_true, true_or, or_false, false_or, or_self, not_true_eq_false, not_false_eq_true, if_true, if_false, ↓reduceIte] <;> rfl) | rfl | (simp [clrC, c4, c4', bI, oi1, nI_succ]; done))
  · skip
    have j1_lt := (lpL (by rfl) (by decide) j1_N).2 c4
    refine V.aload_n F dX5_clearedToday_10 rfl (lv_at hl 2 rfl) ?_
    refine V.aload_n F dX5_clearedToday_11 rfl (lv_at hl 2 rfl) ?_
    refine V.getfi F hE gX5_9 0 rfl rfl dX5_clearedToday_12 (fun z5 e5 => ?_)
    refine V.iload_n F dX5_clearedToday_15 rfl (lv_at hl 3 rfl) ?_
    refine V.iload_n F dX5_clearedToday_16 rfl (lv_at hl 0 rfl) ?_
    refine V.rdV (q0 := 0) F hE (c_X5_reasonOn l E) (kX5_115 F.2.2.2.2 ⟨Nat.le_of_ble_eq_true rfl, Nat.le_of_ble_eq_true rfl⟩) rfl rfl [0, 1, 2, 3, 4, 5, 6, 7, 8, 9, 10, 11, 12, 13, 14, 15, 16, 17] rfl rfl hl.1 (Nat.le_of_ble_eq_true rfl) dX5_clearedToday_17 rfl ?_
    refine V.topi (fun z6 e6 => ?_)
    refine V.if_ne (tgt := 29) F dX5_clearedToday_20 (by decide) (fun c7 => ?_) (fun c7 => ?_)
    · skip
      refine V.iinc (j := 0) (lv' := fun z8 => [(3, .int z8), (2, .int (clrC g f x j1)), (0, .ref (a 0)), (1, .int x)]) F dX5_clearedToday_29 hl rfl (by decide) (fun _ => rfl) (fun z8 e8 ls hl => ?_)
      refine V.goto (tgt := 4) F dX5_clearedToday_32 (by decide) ?_
      have h9 : nI (j1 + 1) = z8 := (by subst e5 e6 e8; first | with_reducible rfl | (simp only [clrC, c4, c4', c7, oi1, nI_succ, bI, and_true, true_and, and_false, false_and, and_self, or_true, true_or, or_false, false_or, or_self, not_true_eq_false, not_false_eq_true, if_true, if_false, ↓reduceIte] <;> rfl) | rfl | (simp [clrC, c4, c4', c7, bI, oi1, nI_succ]; done))
      have h10 : clrC g f x (j1 + 1) = clrC g f x j1 := (by subst e5 e6 e8; first | with_reducible rfl | (simp only [clrC, c4, c4', c7, oi1, nI_succ, bI, and_true, true_and, and_false, false_and, and_self, or_true, true_or, or_false, false_or, or_self, not_true_eq_false, not_false_eq_true, if_true, if_false, ↓reduceIte] <;> rfl) | rfl | (simp [clrC, c4, c4', c7, bI, oi1, nI_succ]; done))
      exact ihj1 j1_lt trivial _ (lv_sub hl [0, 1, 2, 3] (by rw [h9, h10]; rfl))
    · skip
      refine V.iload_n F dX5_clearedToday_23 rfl (lv_at hl 1 rfl) ?_
      refine V.iconst (v := 1) F dX5_clearedToday_24 (by decide) ?_
      refine V.iload_n F dX5_clearedToday_25 rfl (lv_at hl 0 rfl) ?_
      refine V.ishl F dX5_clearedToday_26 (fun z11 e11 => ?_)
      refine V.ior F dX5_clearedToday_27 (fun z12 e12 => ?_)
      refine V.istore_n (lv' := [(2, .int z12), (3, .int (nI j1)), (0, .ref (a 0)), (1, .int x)]) F dX5_clearedToday_28 rfl hl (by decide) rfl (fun ls hl => ?_)
      refine V.iinc (j := 1) (lv' := fun z13 => [(3, .int z13), (2, .int z12), (0, .ref (a 0)), (1, .int x)]) F dX5_clearedToday_29 hl rfl (by decide) (fun _ => rfl) (fun z13 e13 ls hl => ?_)
      refine V.goto (tgt := 4) F dX5_clearedToday_32 (by decide) ?_
      have h14 : nI (j1 + 1) = z13 := (by subst e5 e6 e11 e12 e13; first | with_reducible rfl | (simp only [clrC, c4, c4', eq_true c7, oi1, nI_succ, bI, and_true, true_and, and_false, false_and, and_self, or_true, true_or, or_false, false_or, or_self, not_true_eq_false, not_false_eq_true, if_true, if_false, ↓reduceIte] <;> rfl) | rfl | (simp [clrC, c4, c4', eq_true c7, bI, oi1, nI_succ]; done))
      have h15 : clrC g f x (j1 + 1) = z12 := (by subst e5 e6 e11 e12 e13; first | with_reducible rfl | (simp only [clrC, c4, c4', eq_true c7, oi1, nI_succ, bI, and_true, true_and, and_false, false_and, and_self, or_true, true_or, or_false, false_or, or_self, not_true_eq_false, not_false_eq_true, if_true, if_false, ↓reduceIte] <;> rfl) | rfl | (simp [clrC, c4, c4', eq_true c7, bI, oi1, nI_succ]; done))
      exact ihj1 j1_lt trivial _ (lv_sub hl [0, 1, 2, 3] (by rw [h14, h15]; rfl))
