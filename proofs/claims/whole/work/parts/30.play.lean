set_option maxHeartbeats 4000000 in
set_option maxRecDepth 100000 in
theorem c_X6_playDays (l : Launch) (E : EV) {d v0 v1 t u : Nat} {a : Nat → Nat} {g : Nat → Int32} {f : Nat → Nat → Int32} {n m : Int32} {r : Nat → Int32} {x : Int32} : Wr l E yX6_playDays cX6_playDays 2 (some .boolean) 2 44 [.ref d, .int x] (dW E d v0 v1 t u n m r a g f) (dW E d v0 v1 t u n m r a (pdG g x) (pdF g f x)) (some (.int (bI (g 0 + x ≤ 999)))) := by
  refine Wr.mk0 (by decide) (Nat.le_of_ble_eq_true rfl) ?_
  intro pP eE sS mM aA bB mt cC F hr hk hE hN ls hl
  have hl : lv_has ls 2 [(0, .ref d), (1, .int x)] := hl
  refine V.aload_n F dX6_playDays_0 rfl (lv_at hl 0 rfl) ?_
  refine V.getf F hE gX6_10 0 rfl rfl dX6_playDays_1 ?_
  refine V.iload_n F dX6_playDays_4 rfl (lv_at hl 1 rfl) ?_
  refine V.rsV (q0 := 4) F hE (c_X5_canPass l E) (kX6_50 F.2.2.2.2 ⟨Nat.le_of_ble_eq_true rfl, Nat.le_of_ble_eq_true rfl⟩) rfl rfl 4 18 (by rfl) rfl hl.1 (Nat.le_of_ble_eq_true rfl) dX6_playDays_5 rfl ?_
  refine V.topi (fun z1 e1 => ?_)
  refine V.if_neB (tgt := 13) F e1 dX6_playDays_8 (by decide) (fun c2 => ?_) (fun c2 => ?_)
  · skip
    refine V.aload_n F dX6_playDays_13 rfl (lv_at hl 0 rfl) ?_
    refine V.getf F hE gX6_10 0 rfl rfl dX6_playDays_14 ?_
    refine V.iload_n F dX6_playDays_17 rfl (lv_at hl 1 rfl) ?_
    refine V.wsVn (q0 := 4) (ws' := dW E d v0 v1 t u n m r a (va_up g 0 (g 0 + x)) (va_up f 1 (fun _ => 0))) F hE hN (pm_eq (by rfl)) (c_X5_letPass l E) (kX6_57 F.2.2.2.2 ⟨Nat.le_of_ble_eq_true rfl, Nat.le_of_ble_eq_true rfl⟩) rfl rfl 4 18 (by rfl) (by rfl) rfl hl.1 (Nat.le_of_ble_eq_true rfl) dX6_playDays_18 rfl ?_
    refine V.iconst (v := 1) F dX6_playDays_21 (by decide) ?_
    exact V.zretW F hr hk dX6_playDays_22 (nb_bI _) (by subst e1; first | with_reducible rfl | (simp only [pdG, pdF, eq_true c2, oi1, nI_succ, bI, and_true, true_and, and_false, false_and, and_self, or_true, true_or, or_false, false_or, or_self, not_true_eq_false, not_false_eq_true, if_true, if_false, ↓reduceIte] <;> rfl) | rfl | (simp [pdG, pdF, eq_true c2, bI, oi1, nI_succ]; done)) (by subst e1; first | with_reducible rfl | (simp only [pdG, pdF, eq_true c2, oi1, nI_succ, bI, and_true, true_and, and_false, false_and, and_self, or_true, true_or, or_false, false_or, or_self, not_true_eq_false, not_false_eq_true, if_true, if_false, ↓reduceIte] <;> rfl) | rfl | (simp [pdG, pdF, eq_true c2, bI, oi1, nI_succ]; done))
  · skip
    refine V.iconst (v := 0) F dX6_playDays_11 (by decide) ?_
    exact V.zretW F hr hk dX6_playDays_12 (nb_bI _) (by subst e1; first | with_reducible rfl | (simp only [pdG, pdF, c2, oi1, nI_succ, bI, and_true, true_and, and_false, false_and, and_self, or_true, true_or, or_false, false_or, or_self, not_true_eq_false, not_false_eq_true, if_true, if_false, ↓reduceIte] <;> rfl) | rfl | (simp [pdG, pdF, c2, bI, oi1, nI_succ]; done)) (by subst e1; first | with_reducible rfl | (simp only [pdG, pdF, c2, oi1, nI_succ, bI, and_true, true_and, and_false, false_and, and_self, or_true, true_or, or_false, false_or, or_self, not_true_eq_false, not_false_eq_true, if_true, if_false, ↓reduceIte] <;> rfl) | rfl | (simp [pdG, pdF, c2, bI, oi1, nI_succ]; done))
set_option maxHeartbeats 4000000 in
set_option maxRecDepth 100000 in
theorem c_X6_playShot (l : Launch) (E : EV) {d v0 v1 t u : Nat} {a : Nat → Nat} {g : Nat → Int32} {f : Nat → Nat → Int32} {n m : Int32} {r : Nat → Int32} {x p : Int32} : Wr l E yX6_playShot cX6_playShot 3 (some .boolean) 4 96 [.ref d, .int x, .int p] (dW E d v0 v1 t u n m r a g f) (dW E d v0 v1 t u n m r a g (psF g f x p)) (some (.int (bI ((0 ≤ x ∧ x < g 8) ∧ reaC g f (g 0) x p = 0)))) := by
  refine Wr.mk0 (by decide) (Nat.le_of_ble_eq_true rfl) ?_
  intro pP eE sS mM aA bB mt cC F hr hk hE hN ls hl
  have hl : lv_has ls 3 [(0, .ref d), (1, .int x), (2, .int p)] := hl
  refine V.aload_n F dX6_playShot_0 rfl (lv_at hl 0 rfl) ?_
  refine V.getf F hE gX6_10 0 rfl rfl dX6_playShot_1 ?_
  refine V.getf F hE gX6_98 4 rfl rfl dX6_playShot_4 ?_
  refine V.iload_n F dX6_playShot_7 rfl (lv_at hl 1 rfl) ?_
  refine V.rdV (q0 := 16) F hE (c_X4_has l E) (kX6_268 F.2.2.2.2 ⟨Nat.le_of_ble_eq_true rfl, Nat.le_of_ble_eq_true rfl⟩) rfl rfl [16, 17, 18, 19, 20, 21] rfl rfl hl.1 (Nat.le_of_ble_eq_true rfl) dX6_playShot_8 rfl ?_
  refine V.topi (fun z1 e1 => ?_)
  refine V.if_eqB (tgt := 26) F e1 dX6_playShot_11 (by decide) (fun c2 => ?_) (fun c2 => ?_)
  · skip
    refine V.iconst (v := 0) F dX6_playShot_26 (by decide) ?_
    exact V.zretW F hr hk dX6_playShot_27 (nb_bI _) (by subst e1; first | with_reducible rfl | (simp only [psF, c2, oi1, nI_succ, bI, and_true, true_and, and_false, false_and, and_self, or_true, true_or, or_false, false_or, or_self, not_true_eq_false, not_false_eq_true, if_true, if_false, ↓reduceIte] <;> rfl) | rfl | (simp [psF, c2, bI, oi1, nI_succ]; done)) (by subst e1; first | with_reducible rfl | (simp only [psF, c2, oi1, nI_succ, bI, and_true, true_and, and_false, false_and, and_self, or_true, true_or, or_false, false_or, or_self, not_true_eq_false, not_false_eq_true, if_true, if_false, ↓reduceIte] <;> rfl) | rfl | (simp [psF, c2, bI, oi1, nI_succ]; done))
  · skip
    refine V.aload_n F dX6_playShot_14 rfl (lv_at hl 0 rfl) ?_
    refine V.getf F hE gX6_10 0 rfl rfl dX6_playShot_15 ?_
    refine V.iload_n F dX6_playShot_18 rfl (lv_at hl 1 rfl) ?_
    refine V.iload_n F dX6_playShot_19 rfl (lv_at hl 2 rfl) ?_
    refine V.rsV (q0 := 4) F hE (c_X5_canShoot l E) (kX6_114 F.2.2.2.2 ⟨Nat.le_of_ble_eq_true rfl, Nat.le_of_ble_eq_true rfl⟩) rfl rfl 4 18 (by rfl) rfl hl.1 (Nat.le_of_ble_eq_true rfl) dX6_playShot_20 rfl ?_
    refine V.topi (fun z3 e3 => ?_)
    refine V.if_neB (tgt := 28) F e3 dX6_playShot_23 (by decide) (fun c4 => ?_) (fun c4 => ?_)
    · skip
      refine V.aload_n F dX6_playShot_28 rfl (lv_at hl 0 rfl) ?_
      refine V.getf F hE gX6_10 0 rfl rfl dX6_playShot_29 ?_
      refine V.iload_n F dX6_playShot_32 rfl (lv_at hl 1 rfl) ?_
      refine V.iload_n F dX6_playShot_33 rfl (lv_at hl 2 rfl) ?_
      refine V.wsVn (q0 := 4) (ws' := dW E d v0 v1 t u n m r a g (va_up (va_up f 12 (ptF (f 12) 10 x (g 0))) 13 (ptF (f 13) 10 x p))) F hE hN (pm_eq (by rfl)) (c_X5_letShoot l E) (kX6_117 F.2.2.2.2 ⟨Nat.le_of_ble_eq_true rfl, Nat.le_of_ble_eq_true rfl⟩) rfl rfl 4 18 (by rfl) (by rfl) rfl hl.1 (Nat.le_of_ble_eq_true rfl) dX6_playShot_34 rfl ?_
      refine V.iconst (v := 1) F dX6_playShot_37 (by decide) ?_
      exact V.zretW F hr hk dX6_playShot_38 (nb_bI _) (by subst e1 e3; first | with_reducible rfl | (simp only [psF, eq_true c2, eq_true c4, oi1, nI_succ, bI, and_true, true_and, and_false, false_and, and_self, or_true, true_or, or_false, false_or, or_self, not_true_eq_false, not_false_eq_true, if_true, if_false, ↓reduceIte] <;> rfl) | rfl | (simp [psF, eq_true c2, eq_true c4, bI, oi1, nI_succ]; done)) (by subst e1 e3; first | with_reducible rfl | (simp only [psF, eq_true c2, eq_true c4, oi1, nI_succ, bI, and_true, true_and, and_false, false_and, and_self, or_true, true_or, or_false, false_or, or_self, not_true_eq_false, not_false_eq_true, if_true, if_false, ↓reduceIte] <;> rfl) | rfl | (simp [psF, eq_true c2, eq_true c4, bI, oi1, nI_succ]; done))
    · skip
      refine V.iconst (v := 0) F dX6_playShot_26 (by decide) ?_
      exact V.zretW F hr hk dX6_playShot_27 (nb_bI _) (by subst e1 e3; first | with_reducible rfl | (simp only [psF, eq_true c2, c4, oi1, nI_succ, bI, and_true, true_and, and_false, false_and, and_self, or_true, true_or, or_false, false_or, or_self, not_true_eq_false, not_false_eq_true, if_true, if_false, ↓reduceIte] <;> rfl) | rfl | (simp [psF, eq_true c2, c4, bI, oi1, nI_succ]; done)) (by subst e1 e3; first | with_reducible rfl | (simp only [psF, eq_true c2, c4, oi1, nI_succ, bI, and_true, true_and, and_false, false_and, and_self, or_true, true_or, or_false, false_or, or_self, not_true_eq_false, not_false_eq_true, if_true, if_false, ↓reduceIte] <;> rfl) | rfl | (simp [psF, eq_true c2, c4, bI, oi1, nI_succ]; done))
set_option maxHeartbeats 4000000 in
set_option maxRecDepth 100000 in
theorem c_X6_playRehearsal (l : Launch) (E : EV) {d v0 v1 t u : Nat} {a : Nat → Nat} {g : Nat → Int32} {f : Nat → Nat → Int32} {n m : Int32} {r : Nat → Int32} {p k s : Int32} : Wr l E yX6_playRehearsal cX6_playRehearsal 4 (some .boolean) 4 92 [.ref d, .int p, .int k, .int s] (dW E d v0 v1 t u n m r a g f) (dW E d v0 v1 t u n m r a (prG g f p k) (prF g f p k s)) (some (.int (bI (parS g f (g 0) p &&& gt tBar 6 k = 0)))) := by
  refine Wr.mk0 (by decide) (Nat.le_of_ble_eq_true rfl) ?_
  intro pP eE sS mM aA bB mt cC F hr hk hE hN ls hl
  have hl : lv_has ls 4 [(0, .ref d), (1, .int p), (2, .int k), (3, .int s)] := hl
  refine V.aload_n F dX6_playRehearsal_0 rfl (lv_at hl 0 rfl) ?_
  refine V.getf F hE gX6_10 0 rfl rfl dX6_playRehearsal_1 ?_
  refine V.iload_n F dX6_playRehearsal_4 rfl (lv_at hl 1 rfl) ?_
  refine V.iload_n F dX6_playRehearsal_5 rfl (lv_at hl 2 rfl) ?_
  refine V.rsV (q0 := 4) F hE (c_X5_canRehearse l E) (kX6_67 F.2.2.2.2 ⟨Nat.le_of_ble_eq_true rfl, Nat.le_of_ble_eq_true rfl⟩) rfl rfl 4 18 (by rfl) rfl hl.1 (Nat.le_of_ble_eq_true rfl) dX6_playRehearsal_6 rfl ?_
  refine V.topi (fun z1 e1 => ?_)
  refine V.if_neB (tgt := 14) F e1 dX6_playRehearsal_9 (by decide) (fun c2 => ?_) (fun c2 => ?_)
  · skip
    refine V.aload_n F dX6_playRehearsal_14 rfl (lv_at hl 0 rfl) ?_
    refine V.getf F hE gX6_10 0 rfl rfl dX6_playRehearsal_15 ?_
    refine V.iload_n F dX6_playRehearsal_18 rfl (lv_at hl 1 rfl) ?_
    refine V.iload_n F dX6_playRehearsal_19 rfl (lv_at hl 2 rfl) ?_
    refine V.iload_n F dX6_playRehearsal_20 rfl (lv_at hl 3 rfl) ?_
    refine V.wsV (q0 := 4) (ws' := dW E d v0 v1 t u n m r a (rehG g f p) (rehF g f p k s)) F hE hN (pm_eq (by rfl)) (c_X5_letRehearse l E) (kX6_71 F.2.2.2.2 ⟨Nat.le_of_ble_eq_true rfl, Nat.le_of_ble_eq_true rfl⟩) rfl rfl 4 18 (by rfl) (by rfl) rfl hl.1 (Nat.le_of_ble_eq_true rfl) dX6_playRehearsal_21 rfl ?_
    refine V.topi (fun z3 e3 => ?_)
    refine V.pop F dX6_playRehearsal_24 rfl ?_
    refine V.iconst (v := 1) F dX6_playRehearsal_25 (by decide) ?_
    exact V.zretW F hr hk dX6_playRehearsal_26 (nb_bI _) (by subst e1 e3; first | with_reducible rfl | (simp only [prG, prF, eq_true c2, oi1, nI_succ, bI, and_true, true_and, and_false, false_and, and_self, or_true, true_or, or_false, false_or, or_self, not_true_eq_false, not_false_eq_true, if_true, if_false, ↓reduceIte] <;> rfl) | rfl | (simp [prG, prF, eq_true c2, bI, oi1, nI_succ]; done)) (by subst e1 e3; first | with_reducible rfl | (simp only [prG, prF, eq_true c2, oi1, nI_succ, bI, and_true, true_and, and_false, false_and, and_self, or_true, true_or, or_false, false_or, or_self, not_true_eq_false, not_false_eq_true, if_true, if_false, ↓reduceIte] <;> rfl) | rfl | (simp [prG, prF, eq_true c2, bI, oi1, nI_succ]; done))
  · skip
    refine V.iconst (v := 0) F dX6_playRehearsal_12 (by decide) ?_
    exact V.zretW F hr hk dX6_playRehearsal_13 (nb_bI _) (by subst e1; first | with_reducible rfl | (simp only [prG, prF, c2, oi1, nI_succ, bI, and_true, true_and, and_false, false_and, and_self, or_true, true_or, or_false, false_or, or_self, not_true_eq_false, not_false_eq_true, if_true, if_false, ↓reduceIte] <;> rfl) | rfl | (simp [prG, prF, c2, bI, oi1, nI_succ]; done)) (by subst e1; first | with_reducible rfl | (simp only [prG, prF, c2, oi1, nI_succ, bI, and_true, true_and, and_false, false_and, and_self, or_true, true_or, or_false, false_or, or_self, not_true_eq_false, not_false_eq_true, if_true, if_false, ↓reduceIte] <;> rfl) | rfl | (simp [prG, prF, c2, bI, oi1, nI_succ]; done))
set_option maxHeartbeats 4000000 in
set_option maxRecDepth 100000 in
theorem c_X6_playPart (l : Launch) (E : EV) {d v0 v1 t u : Nat} {a : Nat → Nat} {g : Nat → Int32} {f : Nat → Nat → Int32} {n m : Int32} {r : Nat → Int32} {i : Int32} : Wr l E yX6_playPart cX6_playPart 2 (some .boolean) 5 118 [.ref d, .int i] (dW E d v0 v1 t u n m r a g f) (dW E d v0 v1 t u n m r a (ppG g f r m i) (ppF g f r m i)) (some (.int (ppR g f r m i))) := by
  refine Wr.mk0 (by decide) (Nat.le_of_ble_eq_true rfl) ?_
  intro pP eE sS mM aA bB mt cC F hr hk hE hN ls hl
  have hl : lv_has ls 2 [(0, .ref d), (1, .int i)] := hl
  refine V.aload_n F dX6_playPart_0 rfl (lv_at hl 0 rfl) ?_
  refine V.getf F hE gX6_26 0 rfl rfl dX6_playPart_1 ?_
  refine V.iload_n F dX6_playPart_4 rfl (lv_at hl 1 rfl) ?_
  refine V.rdV (q0 := 1) F hE (c_X1_codeAt l E) (kX6_221 F.2.2.2.2 ⟨Nat.le_of_ble_eq_true rfl, Nat.le_of_ble_eq_true rfl⟩) rfl rfl [1, 2] rfl rfl hl.1 (Nat.le_of_ble_eq_true rfl) dX6_playPart_5 rfl ?_
  refine V.topi (fun z1 e1 => ?_)
  by_cases c2 : z1 = 33
  · skip
    refine V.lookup (tgt := 51) F dX6_playPart_8 (by decide) (by rw [c2] <;> rfl) (by decide) ?_
    refine V.aload_n F dX6_playPart_51 rfl (lv_at hl 0 rfl) ?_
    refine V.aload_n F dX6_playPart_52 rfl (lv_at hl 0 rfl) ?_
    refine V.getf F hE gX6_26 0 rfl rfl dX6_playPart_53 ?_
    refine V.iload_n F dX6_playPart_56 rfl (lv_at hl 1 rfl) ?_
    refine V.iconst (v := 1) F dX6_playPart_57 (by decide) ?_
    refine V.iadd F dX6_playPart_58 (fun z3 e3 => ?_)
    refine V.rdV (q0 := 1) F hE (c_X1_digitAt l E) (kX6_259 F.2.2.2.2 ⟨Nat.le_of_ble_eq_true rfl, Nat.le_of_ble_eq_true rfl⟩) rfl rfl [1, 2] rfl rfl hl.1 (Nat.le_of_ble_eq_true rfl) dX6_playPart_59 rfl ?_
    refine V.topi (fun z4 e4 => ?_)
    refine V.aload_n F dX6_playPart_62 rfl (lv_at hl 0 rfl) ?_
    refine V.getf F hE gX6_26 0 rfl rfl dX6_playPart_63 ?_
    refine V.iload_n F dX6_playPart_66 rfl (lv_at hl 1 rfl) ?_
    refine V.iconst (v := 2) F dX6_playPart_67 (by decide) ?_
    refine V.iadd F dX6_playPart_68 (fun z5 e5 => ?_)
    refine V.rdV (q0 := 1) F hE (c_X1_digitAt l E) (kX6_259 F.2.2.2.2 ⟨Nat.le_of_ble_eq_true rfl, Nat.le_of_ble_eq_true rfl⟩) rfl rfl [1, 2] rfl rfl hl.1 (Nat.le_of_ble_eq_true rfl) dX6_playPart_69 rfl ?_
    refine V.topi (fun z6 e6 => ?_)
    refine V.wsV (q0 := 0) F hE hN (pm_eq (by rfl)) (c_X6_playShot l E) (kX6_262 F.2.2.2.2 ⟨Nat.le_of_ble_eq_true rfl, Nat.le_of_ble_eq_true rfl⟩) rfl rfl 0 22 (by rfl) (by rfl) rfl hl.1 (Nat.le_of_ble_eq_true rfl) dX6_playPart_72 rfl ?_
    refine V.topi (fun z7 e7 => ?_)
    exact V.zretW F hr hk dX6_playPart_75 (ppR_nb _ _ _ _ _) (by subst e1 e3 e4 e5 e6 e7; first | with_reducible rfl | (simp only [ppR, ppG, ppF, eq_true c2, oi1, nI_succ, bI, and_true, true_and, and_false, false_and, and_self, or_true, true_or, or_false, false_or, or_self, not_true_eq_false, not_false_eq_true, if_true, if_false, ↓reduceIte] <;> rfl) | rfl | (simp [ppR, ppG, ppF, eq_true c2, bI, oi1, nI_succ]; done)) (by subst e1 e3 e4 e5 e6 e7; first | with_reducible rfl | (simp only [ppR, ppG, ppF, eq_true c2, oi1, nI_succ, bI, and_true, true_and, and_false, false_and, and_self, or_true, true_or, or_false, false_or, or_self, not_true_eq_false, not_false_eq_true, if_true, if_false, ↓reduceIte] <;> rfl) | rfl | (simp [ppR, ppG, ppF, eq_true c2, bI, oi1, nI_succ]; done))
  by_cases c8 : z1 = 43
  · skip
    refine V.lookup (tgt := 36) F dX6_playPart_8 (by decide) (by rw [c8] <;> rfl) (by decide) ?_
    refine V.aload_n F dX6_playPart_36 rfl (lv_at hl 0 rfl) ?_
    refine V.aload_n F dX6_playPart_37 rfl (lv_at hl 0 rfl) ?_
    refine V.getf F hE gX6_26 0 rfl rfl dX6_playPart_38 ?_
    refine V.iload_n F dX6_playPart_41 rfl (lv_at hl 1 rfl) ?_
    refine V.iconst (v := 1) F dX6_playPart_42 (by decide) ?_
    refine V.iadd F dX6_playPart_43 (fun z9 e9 => ?_)
    refine V.rdV (q0 := 1) F hE (c_X1_daysAt l E) (kX6_253 F.2.2.2.2 ⟨Nat.le_of_ble_eq_true rfl, Nat.le_of_ble_eq_true rfl⟩) rfl rfl [1, 2] rfl rfl hl.1 (Nat.le_of_ble_eq_true rfl) dX6_playPart_44 rfl ?_
    refine V.topi (fun z10 e10 => ?_)
    refine V.wsV (q0 := 0) F hE hN (pm_eq (by rfl)) (c_X6_playDays l E) (kX6_256 F.2.2.2.2 ⟨Nat.le_of_ble_eq_true rfl, Nat.le_of_ble_eq_true rfl⟩) rfl rfl 0 22 (by rfl) (by rfl) rfl hl.1 (Nat.le_of_ble_eq_true rfl) dX6_playPart_47 rfl ?_
    refine V.topi (fun z11 e11 => ?_)
    exact V.zretW F hr hk dX6_playPart_50 (ppR_nb _ _ _ _ _) (by subst e1 e9 e10 e11; first | with_reducible rfl | (simp only [ppR, ppG, ppF, c2, eq_true c8, oi1, nI_succ, bI, and_true, true_and, and_false, false_and, and_self, or_true, true_or, or_false, false_or, or_self, not_true_eq_false, not_false_eq_true, if_true, if_false, ↓reduceIte] <;> rfl) | rfl | (simp [ppR, ppG, ppF, c2, eq_true c8, bI, oi1, nI_succ]; done)) (by subst e1 e9 e10 e11; first | with_reducible rfl | (simp only [ppR, ppG, ppF, c2, eq_true c8, oi1, nI_succ, bI, and_true, true_and, and_false, false_and, and_self, or_true, true_or, or_false, false_or, or_self, not_true_eq_false, not_false_eq_true, if_true, if_false, ↓reduceIte] <;> rfl) | rfl | (simp [ppR, ppG, ppF, c2, eq_true c8, bI, oi1, nI_succ]; done))
  refine V.lookup (tgt := 76) F dX6_playPart_8 (by decide) (sw_lk2 c2 c8 (by decide) (by decide)) (by decide) ?_
  refine V.aload_n F dX6_playPart_76 rfl (lv_at hl 0 rfl) ?_
  refine V.aload_n F dX6_playPart_77 rfl (lv_at hl 0 rfl) ?_
  refine V.getf F hE gX6_26 0 rfl rfl dX6_playPart_78 ?_
  refine V.iload_n F dX6_playPart_81 rfl (lv_at hl 1 rfl) ?_
  refine V.rdV (q0 := 1) F hE (c_X1_digitAt l E) (kX6_259 F.2.2.2.2 ⟨Nat.le_of_ble_eq_true rfl, Nat.le_of_ble_eq_true rfl⟩) rfl rfl [1, 2] rfl rfl hl.1 (Nat.le_of_ble_eq_true rfl) dX6_playPart_82 rfl ?_
  refine V.topi (fun z12 e12 => ?_)
  refine V.aload_n F dX6_playPart_85 rfl (lv_at hl 0 rfl) ?_
  refine V.getf F hE gX6_26 0 rfl rfl dX6_playPart_86 ?_
  refine V.iload_n F dX6_playPart_89 rfl (lv_at hl 1 rfl) ?_
  refine V.iconst (v := 2) F dX6_playPart_90 (by decide) ?_
  refine V.iadd F dX6_playPart_91 (fun z13 e13 => ?_)
  refine V.rdV (q0 := 1) F hE (c_X1_digitAt l E) (kX6_259 F.2.2.2.2 ⟨Nat.le_of_ble_eq_true rfl, Nat.le_of_ble_eq_true rfl⟩) rfl rfl [1, 2] rfl rfl hl.1 (Nat.le_of_ble_eq_true rfl) dX6_playPart_92 rfl ?_
  refine V.topi (fun z14 e14 => ?_)
  refine V.aload_n F dX6_playPart_95 rfl (lv_at hl 0 rfl) ?_
  refine V.getf F hE gX6_26 0 rfl rfl dX6_playPart_96 ?_
  refine V.iload_n F dX6_playPart_99 rfl (lv_at hl 1 rfl) ?_
  refine V.iconst (v := 3) F dX6_playPart_100 (by decide) ?_
  refine V.iadd F dX6_playPart_101 (fun z15 e15 => ?_)
  refine V.rdV (q0 := 1) F hE (c_X1_digitAt l E) (kX6_259 F.2.2.2.2 ⟨Nat.le_of_ble_eq_true rfl, Nat.le_of_ble_eq_true rfl⟩) rfl rfl [1, 2] rfl rfl hl.1 (Nat.le_of_ble_eq_true rfl) dX6_playPart_102 rfl ?_
  refine V.topi (fun z16 e16 => ?_)
  refine V.wsV (q0 := 0) F hE hN (pm_eq (by rfl)) (c_X6_playRehearsal l E) (kX6_265 F.2.2.2.2 ⟨Nat.le_of_ble_eq_true rfl, Nat.le_of_ble_eq_true rfl⟩) rfl rfl 0 22 (by rfl) (by rfl) rfl hl.1 (Nat.le_of_ble_eq_true rfl) dX6_playPart_105 rfl ?_
  refine V.topi (fun z17 e17 => ?_)
  exact V.zretW F hr hk dX6_playPart_108 (ppR_nb _ _ _ _ _) (by subst e1 e12 e13 e14 e15 e16 e17; first | with_reducible rfl | (simp only [ppR, ppG, ppF, c2, c8, oi1, nI_succ, bI, and_true, true_and, and_false, false_and, and_self, or_true, true_or, or_false, false_or, or_self, not_true_eq_false, not_false_eq_true, if_true, if_false, ↓reduceIte] <;> rfl) | rfl | (simp [ppR, ppG, ppF, c2, c8, bI, oi1, nI_succ]; done)) (by subst e1 e12 e13 e14 e15 e16 e17; first | with_reducible rfl | (simp only [ppR, ppG, ppF, c2, c8, oi1, nI_succ, bI, and_true, true_and, and_false, false_and, and_self, or_true, true_or, or_false, false_or, or_self, not_true_eq_false, not_false_eq_true, if_true, if_false, ↓reduceIte] <;> rfl) | rfl | (simp [ppR, ppG, ppF, c2, c8, bI, oi1, nI_succ]; done))
