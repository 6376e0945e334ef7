set_option maxHeartbeats 4000000 in
set_option maxRecDepth 100000 in
theorem c_X5_scenesSomebodyCouldShoot (l : Launch) (E : EV) {a : Nat → Nat} {g : Nat → Int32} {f : Nat → Nat → Int32} : Rd l E yX5_scenesSomebodyCouldShoot cX5_scenesSomebodyCouldShoot 3 (some .int) 4 97 [.ref (a 0)] (stW E a g f) (some (.int (sscC g f (g 8).toNatClampNeg))) := by
  refine Rd.mk0 (by decide) (Nat.le_of_ble_eq_true rfl) ?_
  intro pP eE sS mM aA bB mt cC F hr hk hE ls hl
  have hl : lv_has ls 3 [(0, .ref (a 0))] := hl
  refine V.iconst (v := 0) F dX5_scenesSomebodyCouldShoot_0 (by decide) ?_
  refine V.istore_n (lv' := [(1, .int 0), (0, .ref (a 0))]) F dX5_scenesSomebodyCouldShoot_1 rfl hl (by decide) rfl (fun ls hl => ?_)
  refine V.iconst (v := 0) F dX5_scenesSomebodyCouldShoot_2 (by decide) ?_
  refine V.istore_n (lv' := [(2, .int 0), (1, .int 0), (0, .ref (a 0))]) F dX5_scenesSomebodyCouldShoot_3 rfl hl (by decide) rfl (fun ls hl => ?_)
  have h2 : nI 0 = 0 := (by first | with_reducible rfl | (simp only [sscC, oi1, nI_succ, bI, and_true, true_and, and_false, false_and, and_self, or_true, true_or, or_false, false_or, or_self, not_true_eq_false, not_false_eq_true, if_true, if_false, ↓reduceIte] <;> rfl) | rfl | (simp [sscC, bI, oi1, nI_succ]; done))
  have h3 : sscC g f 0 = 0 := (by first | with_reducible rfl | (simp only [sscC, oi1, nI_succ, bI, and_true, true_and, and_false, false_and, and_self, or_true, true_or, or_false, false_or, or_self, not_true_eq_false, not_false_eq_true, if_true, if_false, ↓reduceIte] <;> rfl) | rfl | (simp [sscC, bI, oi1, nI_succ]; done))
  refine V.loop (N := (g 8).toNatClampNeg) (k0 := 0) (I := (fun j1 : Nat => [(2, .int (nI j1)), (1, .int (sscC g f j1)), (0, .ref (a 0))])) (J := fun _ => True) (Nat.zero_le _) trivial (lv_sub hl [0, 1, 2] (by rw [h2, h3]; rfl)) ?_
  intro j1 j1_N j1_J ihj1 ls hl
  have hl : lv_has ls 3 [(2, .int (nI j1)), (1, .int (sscC g f j1)), (0, .ref (a 0))] := hl
  refine V.iload_n F dX5_scenesSomebodyCouldShoot_4 rfl (lv_at hl 0 rfl) ?_
  refine V.aload_n F dX5_scenesSomebodyCouldShoot_5 rfl (lv_at hl 2 rfl) ?_
  refine V.getf F hE gX5_54 0 rfl rfl dX5_scenesSomebodyCouldShoot_6 ?_
  refine V.getfi F hE gX5_101 12 rfl rfl dX5_scenesSomebodyCouldShoot_9 (fun z4 e4 => ?_)
  refine V.icmp_ge (tgt := 32) F dX5_scenesSomebodyCouldShoot_12 (by decide) (fun c5 c5' => ?_) (fun c5 c5' => ?_)
  · skip
    have j1_eq := ((lpT j1_N).1 (by rw [← e4]; exact c5)).symm
    subst j1_eq
    refine V.iload_n F dX5_scenesSomebodyCouldShoot_32 rfl (lv_at hl 1 rfl) ?_
    exact V.iretR F hr hk dX5_scenesSomebodyCouldShoot_33 (by subst e4; first | with_reducible rfl | (simp only [sscC, c5, c5', oi1, nI_succ, bI, and_true, true_and, and_false, false_and, and_self, or_true, true_or, or_false, false_or, or_self, not_true_eq_false, not_false_eq_true, if_true, if_false, ↓reduceIte] <;> rfl) | rfl | (simp [sscC, c5, c5', bI, oi1, nI_succ]; done))
  · skip
    have j1_lt := (lpT j1_N).2 (by rw [← e4]; exact c5)
    refine V.aload_n F dX5_scenesSomebodyCouldShoot_15 rfl (lv_at hl 2 rfl) ?_
    refine V.iload_n F dX5_scenesSomebodyCouldShoot_16 rfl (lv_at hl 0 rfl) ?_
    refine V.rdV (q0 := 0) F hE (c_X5_clearedToday l E) (kX5_160 F.2.2.2.2 ⟨Nat.le_of_ble_eq_true rfl, Nat.le_of_ble_eq_true rfl⟩) rfl rfl [0, 1, 2, 3, 4, 5, 6, 7, 8, 9, 10, 11, 12, 13, 14, 15, 16, 17] rfl rfl hl.1 (Nat.le_of_ble_eq_true rfl) dX5_scenesSomebodyCouldShoot_17 rfl ?_
    refine V.topi (fun z6 e6 => ?_)
    refine V.if_eq (tgt := 26) F dX5_scenesSomebodyCouldShoot_20 (by decide) (fun c7 => ?_) (fun c7 => ?_)
    · skip
      refine V.iinc (j := 0) (lv' := fun z8 => [(2, .int z8), (1, .int (sscC g f j1)), (0, .ref (a 0))]) F dX5_scenesSomebodyCouldShoot_26 hl rfl (by decide) (fun _ => rfl) (fun z8 e8 ls hl => ?_)
      refine V.goto (tgt := 4) F dX5_scenesSomebodyCouldShoot_29 (by decide) ?_
      have h9 : nI (j1 + 1) = z8 := (by subst e4 e6 e8; first | with_reducible rfl | (simp only [sscC, c5, c5', eq_true c7, oi1, nI_succ, bI, and_true, true_and, and_false, false_and, and_self, or_true, true_or, or_false, false_or, or_self, not_true_eq_false, not_false_eq_true, if_true, if_false, ↓reduceIte] <;> rfl) | rfl | (simp [sscC, c5, c5', eq_true c7, bI, oi1, nI_succ]; done))
      have h10 : sscC g f (j1 + 1) = sscC g f j1 := (by subst e4 e6 e8; first | with_reducible rfl | (simp only [sscC, c5, c5', eq_true c7, oi1, nI_succ, bI, and_true, true_and, and_false, false_and, and_self, or_true, true_or, or_false, false_or, or_self, not_true_eq_false, not_false_eq_true, if_true, if_false, ↓reduceIte] <;> rfl) | rfl | (simp [sscC, c5, c5', eq_true c7, bI, oi1, nI_succ]; done))
      exact ihj1 j1_lt trivial _ (lv_sub hl [0, 1, 2] (by rw [h9, h10]; rfl))
    · skip
      refine V.iinc (j := 1) (lv' := fun z11 => [(1, .int z11), (2, .int (nI j1)), (0, .ref (a 0))]) F dX5_scenesSomebodyCouldShoot_23 hl rfl (by decide) (fun _ => rfl) (fun z11 e11 ls hl => ?_)
      refine V.iinc (j := 1) (lv' := fun z12 => [(2, .int z12), (1, .int z11), (0, .ref (a 0))]) F dX5_scenesSomebodyCouldShoot_26 hl rfl (by decide) (fun _ => rfl) (fun z12 e12 ls hl => ?_)
      refine V.goto (tgt := 4) F dX5_scenesSomebodyCouldShoot_29 (by decide) ?_
      have h13 : nI (j1 + 1) = z12 := (by subst e4 e6 e11 e12; first | with_reducible rfl | (simp only [sscC, c5, c5', c7, oi1, nI_succ, bI, and_true, true_and, and_false, false_and, and_self, or_true, true_or, or_false, false_or, or_self, not_true_eq_false, not_false_eq_true, if_true, if_false, ↓reduceIte] <;> rfl) | rfl | (simp [sscC, c5, c5', c7, bI, oi1, nI_succ]; done))
      have h14 : sscC g f (j1 + 1) = z11 := (by subst e4 e6 e11 e12; first | with_reducible rfl | (simp only [sscC, c5, c5', c7, oi1, nI_succ, bI, and_true, true_and, and_false, false_and, and_self, or_true, true_or, or_false, false_or, or_self, not_true_eq_false, not_false_eq_true, if_true, if_false, ↓reduceIte] <;> rfl) | rfl | (simp [sscC, c5, c5', c7, bI, oi1, nI_succ]; done))
      exact ihj1 j1_lt trivial _ (lv_sub hl [0, 1, 2] (by rw [h13, h14]; rfl))
set_option maxHeartbeats 4000000 in
set_option maxRecDepth 100000 in
theorem c_X5_kindsBarredToday (l : Launch) (E : EV) {a : Nat → Nat} {g : Nat → Int32} {f : Nat → Nat → Int32} {p : Int32} : Rd l E yX5_kindsBarredToday cX5_kindsBarredToday 5 (some .int) 2 45 [.ref (a 0), .int p] (stW E a g f) (some (.int (kbtC (parS g f (g 0) p) 6))) := by
  refine Rd.mk0 (by decide) (Nat.le_of_ble_eq_true rfl) ?_
  intro pP eE sS mM aA bB mt cC F hr hk hE ls hl
  have hl : lv_has ls 5 [(0, .ref (a 0)), (1, .int p)] := hl
  refine V.aload_n F dX5_kindsBarredToday_0 rfl (lv_at hl 0 rfl) ?_
  refine V.getf F hE gX5_47 0 rfl rfl dX5_kindsBarredToday_1 ?_
  refine V.aload_n F dX5_kindsBarredToday_4 rfl (lv_at hl 0 rfl) ?_
  refine V.getfi F hE gX5_9 0 rfl rfl dX5_kindsBarredToday_5 (fun z1 e1 => ?_)
  refine V.iload_n F dX5_kindsBarredToday_8 rfl (lv_at hl 1 rfl) ?_
  refine V.rdV (q0 := 8) F hE (c_X0_partsOn l E) (kX5_80 F.2.2.2.2 ⟨Nat.le_of_ble_eq_true rfl, Nat.le_of_ble_eq_true rfl⟩) rfl rfl [8, 9, 10, 11] rfl rfl hl.1 (Nat.le_of_ble_eq_true rfl) dX5_kindsBarredToday_9 rfl ?_
  refine V.topi (fun z2 e2 => ?_)
  refine V.istore_n (lv' := [(2, .int z2), (0, .ref (a 0)), (1, .int p)]) F dX5_kindsBarredToday_12 rfl hl (by decide) rfl (fun ls hl => ?_)
  refine V.iconst (v := 0) F dX5_kindsBarredToday_13 (by decide) ?_
  refine V.istore_n (lv' := [(3, .int 0), (2, .int z2), (0, .ref (a 0)), (1, .int p)]) F dX5_kindsBarredToday_14 rfl hl (by decide) rfl (fun ls hl => ?_)
  refine V.iconst (v := 0) F dX5_kindsBarredToday_15 (by decide) ?_
  refine V.istore (lv' := [(4, .int 0), (3, .int 0), (2, .int z2), (0, .ref (a 0)), (1, .int p)]) F dX5_kindsBarredToday_16 hl (by decide) rfl (fun ls hl => ?_)
  have h4 : nI 0 = 0 := (by subst e1 e2; first | with_reducible rfl | (simp only [kbtC, oi1, nI_succ, bI, and_true, true_and, and_false, false_and, and_self, or_true, true_or, or_false, false_or, or_self, not_true_eq_false, not_false_eq_true, if_true, if_false, ↓reduceIte] <;> rfl) | rfl | (simp [kbtC, bI, oi1, nI_succ]; done))
  have h5 : kbtC (parS g f (g 0) p) 0 = 0 := (by subst e1 e2; first | with_reducible rfl | (simp only [kbtC, oi1, nI_succ, bI, and_true, true_and, and_false, false_and, and_self, or_true, true_or, or_false, false_or, or_self, not_true_eq_false, not_false_eq_true, if_true, if_false, ↓reduceIte] <;> rfl) | rfl | (simp [kbtC, bI, oi1, nI_succ]; done))
  refine V.loop (N := 6) (k0 := 0) (I := (fun j3 : Nat => [(4, .int (nI j3)), (3, .int (kbtC (parS g f (g 0) p) j3)), (2, .int z2), (0, .ref (a 0)), (1, .int p)])) (J := fun _ => True) (Nat.zero_le _) trivial (lv_sub hl [0, 1, 2, 3, 4] (by rw [h4, h5]; rfl)) ?_
  intro j3 j3_N j3_J ihj3 ls hl
  have hl : lv_has ls 5 [(4, .int (nI j3)), (3, .int (kbtC (parS g f (g 0) p) j3)), (2, .int z2), (0, .ref (a 0)), (1, .int p)] := hl
  refine V.iload F dX5_kindsBarredToday_18 (lv_at hl 0 rfl) ?_
  refine V.bipush (v := 6) F dX5_kindsBarredToday_20 (by decide) ?_
  refine V.icmp_ge (tgt := 47) F dX5_kindsBarredToday_22 (by decide) (fun c6 c6' => ?_) (fun c6 c6' => ?_)
  · skip
    have j3_eq := ((lpL (by rfl) (by decide) j3_N).1 c6).symm
    subst j3_eq
    refine V.iload_n F dX5_kindsBarredToday_47 rfl (lv_at hl 1 rfl) ?_
    exact V.iretR F hr hk dX5_kindsBarredToday_48 (by subst e1 e2; first | with_reducible rfl | (simp only [kbtC, c6, c6', oi1, nI_succ, bI, and_true, true_and, and_false, false_and, and_self, or_true, true_or, or_false, false_or, or_self, not_true_eq_false, not_false_eq_true, if_true, if_false, ↓reduceIte] <;> rfl) | rfl | (simp [kbtC, c6, c6', bI, oi1, nI_succ]; done))
  · skip
    have j3_lt := (lpL (by rfl) (by decide) j3_N).2 c6
    refine V.iload_n F dX5_kindsBarredToday_25 rfl (lv_at hl 2 rfl) ?_
    refine V.iload F dX5_kindsBarredToday_26 (lv_at hl 0 rfl) ?_
    refine V.rdSN F hE (c_X6_barsKind l E) (kX5_84 F.2.2.2.2 hE.2.1 ⟨Nat.le_of_ble_eq_true rfl, Nat.le_of_ble_eq_true rfl⟩) [] rfl rfl hl.1 (Nat.le_of_ble_eq_true rfl) dX5_kindsBarredToday_28 rfl ?_
    refine V.topi (fun z7 e7 => ?_)
    refine V.if_eqB (tgt := 41) F e7 dX5_kindsBarredToday_31 (by decide) (fun c8 => ?_) (fun c8 => ?_)
    · skip
      rw [Decidable.not_not] at c8
      refine V.iinc (j := 0) (lv' := fun z9 => [(4, .int z9), (3, .int (kbtC (parS g f (g 0) p) j3)), (2, .int z2), (0, .ref (a 0)), (1, .int p)]) F dX5_kindsBarredToday_41 hl rfl (by decide) (fun _ => rfl) (fun z9 e9 ls hl => ?_)
      refine V.goto (tgt := 18) F dX5_kindsBarredToday_44 (by decide) ?_
      have h10 : nI (j3 + 1) = z9 := (by subst e1 e2 e7 e9; first | with_reducible rfl | (simp only [kbtC, c6, c6', eq_true c8, oi1, nI_succ, bI, and_true, true_and, and_false, false_and, and_self, or_true, true_or, or_false, false_or, or_self, not_true_eq_false, not_false_eq_true, if_true, if_false, ↓reduceIte] <;> rfl) | rfl | (simp [kbtC, c6, c6', eq_true c8, bI, oi1, nI_succ]; done))
      have h11 : kbtC (parS g f (g 0) p) (j3 + 1) = kbtC (parS g f (g 0) p) j3 := (by subst e1 e2 e7 e9; first | with_reducible rfl | (simp only [kbtC, c6, c6', eq_true c8, oi1, nI_succ, bI, and_true, true_and, and_false, false_and, and_self, or_true, true_or, or_false, false_or, or_self, not_true_eq_false, not_false_eq_true, if_true, if_false, ↓reduceIte] <;> rfl) | rfl | (simp [kbtC, c6, c6', eq_true c8, bI, oi1, nI_succ]; done))
      exact ihj3 j3_lt trivial _ (lv_sub hl [0, 1, 2, 3, 4] (by rw [h10, h11]; rfl))
    · skip
      refine V.iload_n F dX5_kindsBarredToday_34 rfl (lv_at hl 1 rfl) ?_
      refine V.iconst (v := 1) F dX5_kindsBarredToday_35 (by decide) ?_
      refine V.iload F dX5_kindsBarredToday_36 (lv_at hl 0 rfl) ?_
      refine V.ishl F dX5_kindsBarredToday_38 (fun z12 e12 => ?_)
      refine V.ior F dX5_kindsBarredToday_39 (fun z13 e13 => ?_)
      refine V.istore_n (lv' := [(3, .int z13), (4, .int (nI j3)), (2, .int z2), (0, .ref (a 0)), (1, .int p)]) F dX5_kindsBarredToday_40 rfl hl (by decide) rfl (fun ls hl => ?_)
      refine V.iinc (j := 1) (lv' := fun z14 => [(4, .int z14), (3, .int z13), (2, .int z2), (0, .ref (a 0)), (1, .int p)]) F dX5_kindsBarredToday_41 hl rfl (by decide) (fun _ => rfl) (fun z14 e14 ls hl => ?_)
      refine V.goto (tgt := 18) F dX5_kindsBarredToday_44 (by decide) ?_
      have h15 : nI (j3 + 1) = z14 := (by subst e1 e2 e7 e12 e13 e14; first | with_reducible rfl | (simp only [kbtC, c6, c6', c8, oi1, nI_succ, bI, and_true, true_and, and_false, false_and, and_self, or_true, true_or, or_false, false_or, or_self, not_true_eq_false, not_false_eq_true, if_true, if_false, ↓reduceIte] <;> rfl) | rfl | (simp [kbtC, c6, c6', c8, bI, oi1, nI_succ]; done))
      have h16 : kbtC (parS g f (g 0) p) (j3 + 1) = z13 := (by subst e1 e2 e7 e12 e13 e14; first | with_reducible rfl | (simp only [kbtC, c6, c6', c8, oi1, nI_succ, bI, and_true, true_and, and_false, false_and, and_self, or_true, true_or, or_false, false_or, or_self, not_true_eq_false, not_false_eq_true, if_true, if_false, ↓reduceIte] <;> rfl) | rfl | (simp [kbtC, c6, c6', c8, bI, oi1, nI_succ]; done))
      exact ihj3 j3_lt trivial _ (lv_sub hl [0, 1, 2, 3, 4] (by rw [h15, h16]; rfl))
set_option maxHeartbeats 4000000 in
set_option maxRecDepth 100000 in
theorem c_X5_personNumber (l : Launch) (E : EV) {a : Nat → Nat} {g : Nat → Int32} {f : Nat → Nat → Int32} {p w : Int32} : Rd l E yX5_personNumber cX5_personNumber 3 (some .int) 3 69 [.ref (a 0), .int p, .int w] (stW E a g f) (some (.int (perC g f p w))) := by
  refine Rd.mk0 (by decide) (Nat.le_of_ble_eq_true rfl) ?_
  intro pP eE sS mM aA bB mt cC F hr hk hE ls hl
  have hl : lv_has ls 3 [(0, .ref (a 0)), (1, .int p), (2, .int w)] := hl
  refine V.iload_n F dX5_personNumber_0 rfl (lv_at hl 2 rfl) ?_
  by_cases c1 : w = 0
  · skip
    refine V.tableIn (tgt := 40) F dX5_personNumber_1 (by rw [c1]; decide) (by rw [c1]; decide) (by rw [c1]; rfl) (by decide) ?_
    refine V.aload_n F dX5_personNumber_40 rfl (lv_at hl 0 rfl) ?_
    refine V.getf F hE gX5_30 0 rfl rfl dX5_personNumber_41 ?_
    refine V.iload_n F dX5_personNumber_44 rfl (lv_at hl 1 rfl) ?_
    refine V.rdSN F hE (c_X6_at l E (by first | assumption | omega)) (kX5_72 F.2.2.2.2 hE.2.1 ⟨Nat.le_of_ble_eq_true rfl, Nat.le_of_ble_eq_true rfl⟩) [1] rfl rfl hl.1 (Nat.le_of_ble_eq_true rfl) dX5_personNumber_45 rfl ?_
    refine V.topi (fun z2 e2 => ?_)
    exact V.iretR F hr hk dX5_personNumber_48 (by subst e2; first | with_reducible rfl | (simp only [perC, eq_true c1, oi1, nI_succ, bI, and_true, true_and, and_false, false_and, and_self, or_true, true_or, or_false, false_or, or_self, not_true_eq_false, not_false_eq_true, if_true, if_false, ↓reduceIte] <;> rfl) | rfl | (simp [perC, eq_true c1, bI, oi1, nI_succ]; done))
  by_cases c3 : w = 1
  · skip
    refine V.tableIn (tgt := 49) F dX5_personNumber_1 (by rw [c3]; decide) (by rw [c3]; decide) (by rw [c3]; rfl) (by decide) ?_
    refine V.aload_n F dX5_personNumber_49 rfl (lv_at hl 0 rfl) ?_
    refine V.getf F hE gX5_47 0 rfl rfl dX5_personNumber_50 ?_
    refine V.aload_n F dX5_personNumber_53 rfl (lv_at hl 0 rfl) ?_
    refine V.getfi F hE gX5_9 0 rfl rfl dX5_personNumber_54 (fun z4 e4 => ?_)
    refine V.iload_n F dX5_personNumber_57 rfl (lv_at hl 1 rfl) ?_
    refine V.rdV (q0 := 8) F hE (c_X0_partsOn l E) (kX5_80 F.2.2.2.2 ⟨Nat.le_of_ble_eq_true rfl, Nat.le_of_ble_eq_true rfl⟩) rfl rfl [8, 9, 10, 11] rfl rfl hl.1 (Nat.le_of_ble_eq_true rfl) dX5_personNumber_58 rfl ?_
    refine V.topi (fun z5 e5 => ?_)
    exact V.iretR F hr hk dX5_personNumber_61 (by subst e4 e5; first | with_reducible rfl | (simp only [perC, c1, eq_true c3, oi1, nI_succ, bI, and_true, true_and, and_false, false_and, and_self, or_true, true_or, or_false, false_or, or_self, not_true_eq_false, not_false_eq_true, if_true, if_false, ↓reduceIte] <;> rfl) | rfl | (simp [perC, c1, eq_true c3, bI, oi1, nI_succ]; done))
  by_cases c6 : w = 2
  · skip
    refine V.tableIn (tgt := 62) F dX5_personNumber_1 (by rw [c6]; decide) (by rw [c6]; decide) (by rw [c6]; rfl) (by decide) ?_
    refine V.aload_n F dX5_personNumber_62 rfl (lv_at hl 0 rfl) ?_
    refine V.getf F hE gX5_47 0 rfl rfl dX5_personNumber_63 ?_
    refine V.aload_n F dX5_personNumber_66 rfl (lv_at hl 0 rfl) ?_
    refine V.getfi F hE gX5_9 0 rfl rfl dX5_personNumber_67 (fun z7 e7 => ?_)
    refine V.iload_n F dX5_personNumber_70 rfl (lv_at hl 1 rfl) ?_
    refine V.rdV (q0 := 8) F hE (c_X0_lastDayFor l E) (kX5_163 F.2.2.2.2 ⟨Nat.le_of_ble_eq_true rfl, Nat.le_of_ble_eq_true rfl⟩) rfl rfl [8, 9, 10, 11] rfl rfl hl.1 (Nat.le_of_ble_eq_true rfl) dX5_personNumber_71 rfl ?_
    refine V.topi (fun z8 e8 => ?_)
    exact V.iretR F hr hk dX5_personNumber_74 (by subst e7 e8; first | with_reducible rfl | (simp only [perC, c1, c3, eq_true c6, oi1, nI_succ, bI, and_true, true_and, and_false, false_and, and_self, or_true, true_or, or_false, false_or, or_self, not_true_eq_false, not_false_eq_true, if_true, if_false, ↓reduceIte] <;> rfl) | rfl | (simp [perC, c1, c3, eq_true c6, bI, oi1, nI_succ]; done))
  by_cases c9 : w = 3
  · skip
    refine V.tableIn (tgt := 75) F dX5_personNumber_1 (by rw [c9]; decide) (by rw [c9]; decide) (by rw [c9]; rfl) (by decide) ?_
    refine V.aload_n F dX5_personNumber_75 rfl (lv_at hl 0 rfl) ?_
    refine V.getf F hE gX5_34 0 rfl rfl dX5_personNumber_76 ?_
    refine V.iload_n F dX5_personNumber_79 rfl (lv_at hl 1 rfl) ?_
    refine V.rdSN F hE (c_X6_at l E (by first | assumption | omega)) (kX5_72 F.2.2.2.2 hE.2.1 ⟨Nat.le_of_ble_eq_true rfl, Nat.le_of_ble_eq_true rfl⟩) [2] rfl rfl hl.1 (Nat.le_of_ble_eq_true rfl) dX5_personNumber_80 rfl ?_
    refine V.topi (fun z10 e10 => ?_)
    exact V.iretR F hr hk dX5_personNumber_83 (by subst e10; first | with_reducible rfl | (simp only [perC, c1, c3, c6, eq_true c9, oi1, nI_succ, bI, and_true, true_and, and_false, false_and, and_self, or_true, true_or, or_false, false_or, or_self, not_true_eq_false, not_false_eq_true, if_true, if_false, ↓reduceIte] <;> rfl) | rfl | (simp [perC, c1, c3, c6, eq_true c9, bI, oi1, nI_succ]; done))
  by_cases c11 : w = 4
  · skip
    refine V.tableIn (tgt := 84) F dX5_personNumber_1 (by rw [c11]; decide) (by rw [c11]; decide) (by rw [c11]; rfl) (by decide) ?_
    refine V.aload_n F dX5_personNumber_84 rfl (lv_at hl 0 rfl) ?_
    refine V.getf F hE gX5_54 0 rfl rfl dX5_personNumber_85 ?_
    refine V.iload_n F dX5_personNumber_88 rfl (lv_at hl 1 rfl) ?_
    refine V.rdV (q0 := 12) F hE (c_X4_latestShotBy l E) (kX5_134 F.2.2.2.2 ⟨Nat.le_of_ble_eq_true rfl, Nat.le_of_ble_eq_true rfl⟩) rfl rfl [12, 13, 14, 15, 16, 17] rfl rfl hl.1 (Nat.le_of_ble_eq_true rfl) dX5_personNumber_89 rfl ?_
    refine V.topi (fun z12 e12 => ?_)
    exact V.iretR F hr hk dX5_personNumber_92 (by subst e12; first | with_reducible rfl | (simp only [perC, c1, c3, c6, c9, eq_true c11, oi1, nI_succ, bI, and_true, true_and, and_false, false_and, and_self, or_true, true_or, or_false, false_or, or_self, not_true_eq_false, not_false_eq_true, if_true, if_false, ↓reduceIte] <;> rfl) | rfl | (simp [perC, c1, c3, c6, c9, eq_true c11, bI, oi1, nI_succ]; done))
  by_cases c13 : w = 5
  · skip
    refine V.tableIn (tgt := 93) F dX5_personNumber_1 (by rw [c13]; decide) (by rw [c13]; decide) (by rw [c13]; rfl) (by decide) ?_
    refine V.aload_n F dX5_personNumber_93 rfl (lv_at hl 0 rfl) ?_
    refine V.getf F hE gX5_54 0 rfl rfl dX5_personNumber_94 ?_
    refine V.iload_n F dX5_personNumber_97 rfl (lv_at hl 1 rfl) ?_
    refine V.rdV (q0 := 12) F hE (c_X4_shotBy l E) (kX5_166 F.2.2.2.2 ⟨Nat.le_of_ble_eq_true rfl, Nat.le_of_ble_eq_true rfl⟩) rfl rfl [12, 13, 14, 15, 16, 17] rfl rfl hl.1 (Nat.le_of_ble_eq_true rfl) dX5_personNumber_98 rfl ?_
    refine V.topi (fun z14 e14 => ?_)
    exact V.iretR F hr hk dX5_personNumber_101 (by subst e14; first | with_reducible rfl | (simp only [perC, c1, c3, c6, c9, c11, eq_true c13, oi1, nI_succ, bI, and_true, true_and, and_false, false_and, and_self, or_true, true_or, or_false, false_or, or_self, not_true_eq_false, not_false_eq_true, if_true, if_false, ↓reduceIte] <;> rfl) | rfl | (simp [perC, c1, c3, c6, c9, c11, eq_true c13, bI, oi1, nI_succ]; done))
  refine V.tableOut (tgt := 102) F dX5_personNumber_1 (sw_out fun i h1 h2 => by rcases (show i = 0 ∨ i = 1 ∨ i = 2 ∨ i = 3 ∨ i = 4 ∨ i = 5 by omega) with rfl | rfl | rfl | rfl | rfl | rfl <;> assumption) (by decide) ?_
  refine V.aload_n F dX5_personNumber_102 rfl (lv_at hl 0 rfl) ?_
  refine V.iload_n F dX5_personNumber_103 rfl (lv_at hl 1 rfl) ?_
  refine V.rdV (q0 := 0) F hE (c_X5_kindsBarredToday l E) (kX5_169 F.2.2.2.2 ⟨Nat.le_of_ble_eq_true rfl, Nat.le_of_ble_eq_true rfl⟩) rfl rfl [0, 1, 2, 3, 4, 5, 6, 7, 8, 9, 10, 11, 12, 13, 14, 15, 16, 17] rfl rfl hl.1 (Nat.le_of_ble_eq_true rfl) dX5_personNumber_104 rfl ?_
  refine V.topi (fun z15 e15 => ?_)
  exact V.iretR F hr hk dX5_personNumber_107 (by subst e15; first | with_reducible rfl | (simp only [perC, c1, c3, c6, c9, c11, c13, oi1, nI_succ, bI, and_true, true_and, and_false, false_and, and_self, or_true, true_or, or_false, false_or, or_self, not_true_eq_false, not_false_eq_true, if_true, if_false, ↓reduceIte] <;> rfl) | rfl | (simp [perC, c1, c3, c6, c9, c11, c13, bI, oi1, nI_succ]; done))
set_option maxHeartbeats 4000000 in
set_option maxRecDepth 100000 in
theorem c_X5_sceneNumber (l : Launch) (E : EV) {a : Nat → Nat} {g : Nat → Int32} {f : Nat → Nat → Int32} {x w : Int32} : Rd l E yX5_sceneNumber cX5_sceneNumber 3 (some .int) 4 97 [.ref (a 0), .int x, .int w] (stW E a g f) (some (.int (scnC g f x w))) := by
  refine Rd.mk0 (by decide) (Nat.le_of_ble_eq_true rfl) ?_
  intro pP eE sS mM aA bB mt cC F hr hk hE ls hl
  have hl : lv_has ls 3 [(0, .ref (a 0)), (1, .int x), (2, .int w)] := hl
  refine V.iload_n F dX5_sceneNumber_0 rfl (lv_at hl 2 rfl) ?_
  by_cases c1 : w = 0
  · skip
    refine V.tableIn (tgt := 36) F dX5_sceneNumber_1 (by rw [c1]; decide) (by rw [c1]; decide) (by rw [c1]; rfl) (by decide) ?_
    refine V.aload_n F dX5_sceneNumber_36 rfl (lv_at hl 0 rfl) ?_
    refine V.getf F hE gX5_54 0 rfl rfl dX5_sceneNumber_37 ?_
    refine V.iload_n F dX5_sceneNumber_40 rfl (lv_at hl 1 rfl) ?_
    refine V.rdV (q0 := 12) F hE (c_X4_kindOf l E) (kX5_108 F.2.2.2.2 ⟨Nat.le_of_ble_eq_true rfl, Nat.le_of_ble_eq_true rfl⟩) rfl rfl [12, 13, 14, 15, 16, 17] rfl rfl hl.1 (Nat.le_of_ble_eq_true rfl) dX5_sceneNumber_41 rfl ?_
    refine V.topi (fun z2 e2 => ?_)
    exact V.iretR F hr hk dX5_sceneNumber_44 (by subst e2; first | with_reducible rfl | (simp only [scnC, eq_true c1, oi1, nI_succ, bI, and_true, true_and, and_false, false_and, and_self, or_true, true_or, or_false, false_or, or_self, not_true_eq_false, not_false_eq_true, if_true, if_false, ↓reduceIte] <;> rfl) | rfl | (simp [scnC, eq_true c1, bI, oi1, nI_succ]; done))
  by_cases c3 : w = 1
  · skip
    refine V.tableIn (tgt := 45) F dX5_sceneNumber_1 (by rw [c3]; decide) (by rw [c3]; decide) (by rw [c3]; rfl) (by decide) ?_
    refine V.aload_n F dX5_sceneNumber_45 rfl (lv_at hl 0 rfl) ?_
    refine V.getf F hE gX5_54 0 rfl rfl dX5_sceneNumber_46 ?_
    refine V.iload_n F dX5_sceneNumber_49 rfl (lv_at hl 1 rfl) ?_
    refine V.rdV (q0 := 12) F hE (c_X4_riskOf l E) (kX5_122 F.2.2.2.2 ⟨Nat.le_of_ble_eq_true rfl, Nat.le_of_ble_eq_true rfl⟩) rfl rfl [12, 13, 14, 15, 16, 17] rfl rfl hl.1 (Nat.le_of_ble_eq_true rfl) dX5_sceneNumber_50 rfl ?_
    refine V.topi (fun z4 e4 => ?_)
    exact V.iretR F hr hk dX5_sceneNumber_53 (by subst e4; first | with_reducible rfl | (simp only [scnC, c1, eq_true c3, oi1, nI_succ, bI, and_true, true_and, and_false, false_and, and_self, or_true, true_or, or_false, false_or, or_self, not_true_eq_false, not_false_eq_true, if_true, if_false, ↓reduceIte] <;> rfl) | rfl | (simp [scnC, c1, eq_true c3, bI, oi1, nI_succ]; done))
  by_cases c5 : w = 2
  · skip
    refine V.tableIn (tgt := 54) F dX5_sceneNumber_1 (by rw [c5]; decide) (by rw [c5]; decide) (by rw [c5]; rfl) (by decide) ?_
    refine V.aload_n F dX5_sceneNumber_54 rfl (lv_at hl 0 rfl) ?_
    refine V.getf F hE gX5_54 0 rfl rfl dX5_sceneNumber_55 ?_
    refine V.iload_n F dX5_sceneNumber_58 rfl (lv_at hl 1 rfl) ?_
    refine V.rdV (q0 := 12) F hE (c_X4_seenIn l E) (kX5_125 F.2.2.2.2 ⟨Nat.le_of_ble_eq_true rfl, Nat.le_of_ble_eq_true rfl⟩) rfl rfl [12, 13, 14, 15, 16, 17] rfl rfl hl.1 (Nat.le_of_ble_eq_true rfl) dX5_sceneNumber_59 rfl ?_
    refine V.topi (fun z6 e6 => ?_)
    exact V.iretR F hr hk dX5_sceneNumber_62 (by subst e6; first | with_reducible rfl | (simp only [scnC, c1, c3, eq_true c5, oi1, nI_succ, bI, and_true, true_and, and_false, false_and, and_self, or_true, true_or, or_false, false_or, or_self, not_true_eq_false, not_false_eq_true, if_true, if_false, ↓reduceIte] <;> rfl) | rfl | (simp [scnC, c1, c3, eq_true c5, bI, oi1, nI_succ]; done))
  by_cases c7 : w = 3
  · skip
    refine V.tableIn (tgt := 63) F dX5_sceneNumber_1 (by rw [c7]; decide) (by rw [c7]; decide) (by rw [c7]; rfl) (by decide) ?_
    refine V.aload_n F dX5_sceneNumber_63 rfl (lv_at hl 0 rfl) ?_
    refine V.getf F hE gX5_54 0 rfl rfl dX5_sceneNumber_64 ?_
    refine V.iload_n F dX5_sceneNumber_67 rfl (lv_at hl 1 rfl) ?_
    refine V.rdV (q0 := 12) F hE (c_X4_dayOfShot l E) (kX5_172 F.2.2.2.2 ⟨Nat.le_of_ble_eq_true rfl, Nat.le_of_ble_eq_true rfl⟩) rfl rfl [12, 13, 14, 15, 16, 17] rfl rfl hl.1 (Nat.le_of_ble_eq_true rfl) dX5_sceneNumber_68 rfl ?_
    refine V.topi (fun z8 e8 => ?_)
    exact V.iretR F hr hk dX5_sceneNumber_71 (by subst e8; first | with_reducible rfl | (simp only [scnC, c1, c3, c5, eq_true c7, oi1, nI_succ, bI, and_true, true_and, and_false, false_and, and_self, or_true, true_or, or_false, false_or, or_self, not_true_eq_false, not_false_eq_true, if_true, if_false, ↓reduceIte] <;> rfl) | rfl | (simp [scnC, c1, c3, c5, eq_true c7, bI, oi1, nI_succ]; done))
  by_cases c9 : w = 4
  · skip
    refine V.tableIn (tgt := 72) F dX5_sceneNumber_1 (by rw [c9]; decide) (by rw [c9]; decide) (by rw [c9]; rfl) (by decide) ?_
    refine V.aload_n F dX5_sceneNumber_72 rfl (lv_at hl 0 rfl) ?_
    refine V.getf F hE gX5_54 0 rfl rfl dX5_sceneNumber_73 ?_
    refine V.iload_n F dX5_sceneNumber_76 rfl (lv_at hl 1 rfl) ?_
    refine V.rdV (q0 := 12) F hE (c_X4_doerOf l E) (kX5_175 F.2.2.2.2 ⟨Nat.le_of_ble_eq_true rfl, Nat.le_of_ble_eq_true rfl⟩) rfl rfl [12, 13, 14, 15, 16, 17] rfl rfl hl.1 (Nat.le_of_ble_eq_true rfl) dX5_sceneNumber_77 rfl ?_
    refine V.topi (fun z10 e10 => ?_)
    exact V.iretR F hr hk dX5_sceneNumber_80 (by subst e10; first | with_reducible rfl | (simp only [scnC, c1, c3, c5, c7, eq_true c9, oi1, nI_succ, bI, and_true, true_and, and_false, false_and, and_self, or_true, true_or, or_false, false_or, or_self, not_true_eq_false, not_false_eq_true, if_true, if_false, ↓reduceIte] <;> rfl) | rfl | (simp [scnC, c1, c3, c5, c7, eq_true c9, bI, oi1, nI_succ]; done))
  refine V.tableOut (tgt := 81) F dX5_sceneNumber_1 (sw_out fun i h1 h2 => by rcases (show i = 0 ∨ i = 1 ∨ i = 2 ∨ i = 3 ∨ i = 4 by omega) with rfl | rfl | rfl | rfl | rfl <;> assumption) (by decide) ?_
  refine V.aload_n F dX5_sceneNumber_81 rfl (lv_at hl 0 rfl) ?_
  refine V.iload_n F dX5_sceneNumber_82 rfl (lv_at hl 1 rfl) ?_
  refine V.rdV (q0 := 0) F hE (c_X5_clearedToday l E) (kX5_160 F.2.2.2.2 ⟨Nat.le_of_ble_eq_true rfl, Nat.le_of_ble_eq_true rfl⟩) rfl rfl [0, 1, 2, 3, 4, 5, 6, 7, 8, 9, 10, 11, 12, 13, 14, 15, 16, 17] rfl rfl hl.1 (Nat.le_of_ble_eq_true rfl) dX5_sceneNumber_83 rfl ?_
  refine V.topi (fun z11 e11 => ?_)
  exact V.iretR F hr hk dX5_sceneNumber_86 (by subst e11; first | with_reducible rfl | (simp only [scnC, c1, c3, c5, c7, c9, oi1, nI_succ, bI, and_true, true_and, and_false, false_and, and_self, or_true, true_or, or_false, false_or, or_self, not_true_eq_false, not_false_eq_true, if_true, if_false, ↓reduceIte] <;> rfl) | rfl | (simp [scnC, c1, c3, c5, c7, c9, bI, oi1, nI_succ]; done))
set_option maxHeartbeats 4000000 in
set_option maxRecDepth 100000 in
theorem c_X5_scenesBarredFor (l : Launch) (E : EV) {a : Nat → Nat} {g : Nat → Int32} {f : Nat → Nat → Int32} {p : Int32} : Rd l E yX5_scenesBarredFor cX5_scenesBarredFor 5 (some .int) 2 45 [.ref (a 0), .int p] (stW E a g f) (some (.int (sbfC g f p (g 8).toNatClampNeg))) := by
  refine Rd.mk0 (by decide) (Nat.le_of_ble_eq_true rfl) ?_
  intro pP eE sS mM aA bB mt cC F hr hk hE ls hl
  have hl : lv_has ls 5 [(0, .ref (a 0)), (1, .int p)] := hl
  refine V.aload_n F dX5_scenesBarredFor_0 rfl (lv_at hl 0 rfl) ?_
  refine V.getf F hE gX5_47 0 rfl rfl dX5_scenesBarredFor_1 ?_
  refine V.aload_n F dX5_scenesBarredFor_4 rfl (lv_at hl 0 rfl) ?_
  refine V.getfi F hE gX5_9 0 rfl rfl dX5_scenesBarredFor_5 (fun z1 e1 => ?_)
  refine V.iload_n F dX5_scenesBarredFor_8 rfl (lv_at hl 1 rfl) ?_
  refine V.rdV (q0 := 8) F hE (c_X0_partsOn l E) (kX5_80 F.2.2.2.2 ⟨Nat.le_of_ble_eq_true rfl, Nat.le_of_ble_eq_true rfl⟩) rfl rfl [8, 9, 10, 11] rfl rfl hl.1 (Nat.le_of_ble_eq_true rfl) dX5_scenesBarredFor_9 rfl ?_
  refine V.topi (fun z2 e2 => ?_)
  refine V.istore_n (lv' := [(2, .int z2), (0, .ref (a 0)), (1, .int p)]) F dX5_scenesBarredFor_12 rfl hl (by decide) rfl (fun ls hl => ?_)
  refine V.iconst (v := 0) F dX5_scenesBarredFor_13 (by decide) ?_
  refine V.istore_n (lv' := [(3, .int 0), (2, .int z2), (0, .ref (a 0)), (1, .int p)]) F dX5_scenesBarredFor_14 rfl hl (by decide) rfl (fun ls hl => ?_)
  refine V.iconst (v := 0) F dX5_scenesBarredFor_15 (by decide) ?_
  refine V.istore (lv' := [(4, .int 0), (3, .int 0), (2, .int z2), (0, .ref (a 0)), (1, .int p)]) F dX5_scenesBarredFor_16 hl (by decide) rfl (fun ls hl => ?_)
  have h4 : nI 0 = 0 := (by subst e1 e2; first | with_reducible rfl | (simp only [sbfC, oi1, nI_succ, bI, and_true, true_and, and_false, false_and, and_self, or_true, true_or, or_false, false_or, or_self, not_true_eq_false, not_false_eq_true, if_true, if_false, ↓reduceIte] <;> rfl) | rfl | (simp [sbfC, bI, oi1, nI_succ]; done))
  have h5 : sbfC g f p 0 = 0 := (by subst e1 e2; first | with_reducible rfl | (simp only [sbfC, oi1, nI_succ, bI, and_true, true_and, and_false, false_and, and_self, or_true, true_or, or_false, false_or, or_self, not_true_eq_false, not_false_eq_true, if_true, if_false, ↓reduceIte] <;> rfl) | rfl | (simp [sbfC, bI, oi1, nI_succ]; done))
  refine V.loop (N := (g 8).toNatClampNeg) (k0 := 0) (I := (fun j3 : Nat => [(4, .int (nI j3)), (3, .int (sbfC g f p j3)), (2, .int z2), (0, .ref (a 0)), (1, .int p)])) (J := fun _ => True) (Nat.zero_le _) trivial (lv_sub hl [0, 1, 2, 3, 4] (by rw [h4, h5]; rfl)) ?_
  intro j3 j3_N j3_J ihj3 ls hl
  have hl : lv_has ls 5 [(4, .int (nI j3)), (3, .int (sbfC g f p j3)), (2, .int z2), (0, .ref (a 0)), (1, .int p)] := hl
  refine V.iload F dX5_scenesBarredFor_18 (lv_at hl 0 rfl) ?_
  refine V.aload_n F dX5_scenesBarredFor_20 rfl (lv_at hl 3 rfl) ?_
  refine V.getf F hE gX5_54 0 rfl rfl dX5_scenesBarredFor_21 ?_
  refine V.getfi F hE gX5_101 12 rfl rfl dX5_scenesBarredFor_24 (fun z6 e6 => ?_)
  refine V.icmp_ge (tgt := 67) F dX5_scenesBarredFor_27 (by decide) (fun c7 c7' => ?_) (fun c7 c7' => ?_)
  · skip
    have j3_eq := ((lpT j3_N).1 (by rw [← e6]; exact c7)).symm
    subst j3_eq
    refine V.iload_n F dX5_scenesBarredFor_67 rfl (lv_at hl 1 rfl) ?_
    exact V.iretR F hr hk dX5_scenesBarredFor_68 (by subst e1 e2 e6; first | with_reducible rfl | (simp only [sbfC, c7, c7', oi1, nI_succ, bI, and_true, true_and, and_false, false_and, and_self, or_true, true_or, or_false, false_or, or_self, not_true_eq_false, not_false_eq_true, if_true, if_false, ↓reduceIte] <;> rfl) | rfl | (simp [sbfC, c7, c7', bI, oi1, nI_succ]; done))
  · skip
    have j3_lt := (lpT j3_N).2 (by rw [← e6]; exact c7)
    refine V.aload_n F dX5_scenesBarredFor_30 rfl (lv_at hl 3 rfl) ?_
    refine V.getf F hE gX5_54 0 rfl rfl dX5_scenesBarredFor_31 ?_
    refine V.iload F dX5_scenesBarredFor_34 (lv_at hl 0 rfl) ?_
    refine V.rdV (q0 := 12) F hE (c_X4_isShot l E) (kX5_104 F.2.2.2.2 ⟨Nat.le_of_ble_eq_true rfl, Nat.le_of_ble_eq_true rfl⟩) rfl rfl [12, 13, 14, 15, 16, 17] rfl rfl hl.1 (Nat.le_of_ble_eq_true rfl) dX5_scenesBarredFor_36 rfl ?_
    refine V.topi (fun z8 e8 => ?_)
    refine V.if_neB (tgt := 61) F e8 dX5_scenesBarredFor_39 (by decide) (fun c9 => ?_) (fun c9 => ?_)
    · skip
      refine V.iinc (j := 0) (lv' := fun z10 => [(4, .int z10), (3, .int (sbfC g f p j3)), (2, .int z2), (0, .ref (a 0)), (1, .int p)]) F dX5_scenesBarredFor_61 hl rfl (by decide) (fun _ => rfl) (fun z10 e10 ls hl => ?_)
      refine V.goto (tgt := 18) F dX5_scenesBarredFor_64 (by decide) ?_
      have h11 : nI (j3 + 1) = z10 := (by subst e1 e2 e6 e8 e10; first | with_reducible rfl | (simp only [sbfC, c7, c7', c9, oi1, nI_succ, bI, and_true, true_and, and_false, false_and, and_self, or_true, true_or, or_false, false_or, or_self, not_true_eq_false, not_false_eq_true, if_true, if_false, ↓reduceIte] <;> rfl) | rfl | (simp [sbfC, c7, c7', c9, bI, oi1, nI_succ]; done))
      have h12 : sbfC g f p (j3 + 1) = sbfC g f p j3 := (by subst e1 e2 e6 e8 e10; first | with_reducible rfl | (simp only [sbfC, c7, c7', c9, oi1, nI_succ, bI, and_true, true_and, and_false, false_and, and_self, or_true, true_or, or_false, false_or, or_self, not_true_eq_false, not_false_eq_true, if_true, if_false, ↓reduceIte] <;> rfl) | rfl | (simp [sbfC, c7, c7', c9, bI, oi1, nI_succ]; done))
      exact ihj3 j3_lt trivial _ (lv_sub hl [0, 1, 2, 3, 4] (by rw [h11, h12]; rfl))
    · skip
      rw [Decidable.not_not] at c9
      refine V.iload_n F dX5_scenesBarredFor_42 rfl (lv_at hl 2 rfl) ?_
      refine V.aload_n F dX5_scenesBarredFor_43 rfl (lv_at hl 3 rfl) ?_
      refine V.getf F hE gX5_54 0 rfl rfl dX5_scenesBarredFor_44 ?_
      refine V.iload F dX5_scenesBarredFor_47 (lv_at hl 0 rfl) ?_
      refine V.rdV (q0 := 12) F hE (c_X4_kindOf l E) (kX5_108 F.2.2.2.2 ⟨Nat.le_of_ble_eq_true rfl, Nat.le_of_ble_eq_true rfl⟩) rfl rfl [12, 13, 14, 15, 16, 17] rfl rfl hl.1 (Nat.le_of_ble_eq_true rfl) dX5_scenesBarredFor_49 rfl ?_
      refine V.topi (fun z13 e13 => ?_)
      refine V.rdSN F hE (c_X6_barsKind l E) (kX5_84 F.2.2.2.2 hE.2.1 ⟨Nat.le_of_ble_eq_true rfl, Nat.le_of_ble_eq_true rfl⟩) [] rfl rfl hl.1 (Nat.le_of_ble_eq_true rfl) dX5_scenesBarredFor_52 rfl ?_
      refine V.topi (fun z14 e14 => ?_)
      refine V.if_eqB (tgt := 61) F e14 dX5_scenesBarredFor_55 (by decide) (fun c15 => ?_) (fun c15 => ?_)
      · skip
        rw [Decidable.not_not] at c15
        refine V.iinc (j := 0) (lv' := fun z16 => [(4, .int z16), (3, .int (sbfC g f p j3)), (2, .int z2), (0, .ref (a 0)), (1, .int p)]) F dX5_scenesBarredFor_61 hl rfl (by decide) (fun _ => rfl) (fun z16 e16 ls hl => ?_)
        refine V.goto (tgt := 18) F dX5_scenesBarredFor_64 (by decide) ?_
        have h17 : nI (j3 + 1) = z16 := (by subst e1 e2 e6 e8 e13 e14 e16; first | with_reducible rfl | (simp only [sbfC, c7, c7', eq_true c9, eq_true c15, oi1, nI_succ, bI, and_true, true_and, and_false, false_and, and_self, or_true, true_or, or_false, false_or, or_self, not_true_eq_false, not_false_eq_true, if_true, if_false, ↓reduceIte] <;> rfl) | rfl | (simp [sbfC, c7, c7', eq_true c9, eq_true c15, bI, oi1, nI_succ]; done))
        have h18 : sbfC g f p (j3 + 1) = sbfC g f p j3 := (by subst e1 e2 e6 e8 e13 e14 e16; first | with_reducible rfl | (simp only [sbfC, c7, c7', eq_true c9, eq_true c15, oi1, nI_succ, bI, and_true, true_and, and_false, false_and, and_self, or_true, true_or, or_false, false_or, or_self, not_true_eq_false, not_false_eq_true, if_true, if_false, ↓reduceIte] <;> rfl) | rfl | (simp [sbfC, c7, c7', eq_true c9, eq_true c15, bI, oi1, nI_succ]; done))
        exact ihj3 j3_lt trivial _ (lv_sub hl [0, 1, 2, 3, 4] (by rw [h17, h18]; rfl))
      · skip
        refine V.iinc (j := 1) (lv' := fun z19 => [(3, .int z19), (4, .int (nI j3)), (2, .int z2), (0, .ref (a 0)), (1, .int p)]) F dX5_scenesBarredFor_58 hl rfl (by decide) (fun _ => rfl) (fun z19 e19 ls hl => ?_)
        refine V.iinc (j := 1) (lv' := fun z20 => [(4, .int z20), (3, .int z19), (2, .int z2), (0, .ref (a 0)), (1, .int p)]) F dX5_scenesBarredFor_61 hl rfl (by decide) (fun _ => rfl) (fun z20 e20 ls hl => ?_)
        refine V.goto (tgt := 18) F dX5_scenesBarredFor_64 (by decide) ?_
        have h21 : nI (j3 + 1) = z20 := (by subst e1 e2 e6 e8 e13 e14 e19 e20; first | with_reducible rfl | (simp only [sbfC, c7, c7', eq_true c9, c15, oi1, nI_succ, bI, and_true, true_and, and_false, false_and, and_self, or_true, true_or, or_false, false_or, or_self, not_true_eq_false, not_false_eq_true, if_true, if_false, ↓reduceIte] <;> rfl) | rfl | (simp [sbfC, c7, c7', eq_true c9, c15, bI, oi1, nI_succ]; done))
        have h22 : sbfC g f p (j3 + 1) = z19 := (by subst e1 e2 e6 e8 e13 e14 e19 e20; first | with_reducible rfl | (simp only [sbfC, c7, c7', eq_true c9, c15, oi1, nI_succ, bI, and_true, true_and, and_false, false_and, and_self, or_true, true_or, or_false, false_or, or_self, not_true_eq_false, not_false_eq_true, if_true, if_false, ↓reduceIte] <;> rfl) | rfl | (simp [sbfC, c7, c7', eq_true c9, c15, bI, oi1, nI_succ]; done))
        exact ihj3 j3_lt trivial _ (lv_sub hl [0, 1, 2, 3, 4] (by rw [h21, h22]; rfl))
set_option maxHeartbeats 4000000 in
set_option maxRecDepth 100000 in
theorem c_X5_changeSize (l : Launch) (E : EV) {a : Nat → Nat} {g : Nat → Int32} {f : Nat → Nat → Int32} {p v : Int32} : Wr l E yX5_changeSize cX5_changeSize 4 (some .int) 1 22 [.ref (a 0), .int p, .int v] (stW E a g f) (stW E a g (va_up f 0 (ptF (f 0) 8 p v))) (some (.int (gt (f 0) 8 p))) := by
  refine Wr.mk0 (by decide) (Nat.le_of_ble_eq_true rfl) ?_
  intro pP eE sS mM aA bB mt cC F hr hk hE hN ls hl
  have hl : lv_has ls 4 [(0, .ref (a 0)), (1, .int p), (2, .int v)] := hl
  refine V.aload_n F dX5_changeSize_0 rfl (lv_at hl 0 rfl) ?_
  refine V.getf F hE gX5_30 0 rfl rfl dX5_changeSize_1 ?_
  refine V.iload_n F dX5_changeSize_4 rfl (lv_at hl 1 rfl) ?_
  refine V.rdSN F hE (c_X6_at l E (by first | assumption | omega)) (kX5_72 F.2.2.2.2 hE.2.1 ⟨Nat.le_of_ble_eq_true rfl, Nat.le_of_ble_eq_true rfl⟩) [1] rfl rfl hl.1 (Nat.le_of_ble_eq_true rfl) dX5_changeSize_5 rfl ?_
  refine V.topi (fun z1 e1 => ?_)
  refine V.istore_n (lv' := [(3, .int z1), (0, .ref (a 0)), (1, .int p), (2, .int v)]) F dX5_changeSize_8 rfl hl (by decide) rfl (fun ls hl => ?_)
  refine V.aload_n F dX5_changeSize_9 rfl (lv_at hl 1 rfl) ?_
  refine V.getf F hE gX5_30 0 rfl rfl dX5_changeSize_10 ?_
  refine V.iload_n F dX5_changeSize_13 rfl (lv_at hl 2 rfl) ?_
  refine V.iload_n F dX5_changeSize_14 rfl (lv_at hl 3 rfl) ?_
  refine V.wrSNn F hE hN (by rfl) (c_X6_put l E (by first | assumption | omega)) (kX5_76 F.2.2.2.2 hE.2.1 ⟨Nat.le_of_ble_eq_true rfl, Nat.le_of_ble_eq_true rfl⟩) [1] rfl (by decide) rfl rfl rfl hl.1 (by exact Nat.le_of_ble_eq_true rfl) dX5_changeSize_15 rfl ?_
  refine V.iload_n F dX5_changeSize_18 rfl (lv_at hl 0 rfl) ?_
  exact V.iretW F hr hk dX5_changeSize_19 (by subst e1; first | with_reducible rfl | (simp only [oi1, nI_succ, bI, and_true, true_and, and_false, false_and, and_self, or_true, true_or, or_false, false_or, or_self, not_true_eq_false, not_false_eq_true, if_true, if_false, ↓reduceIte] <;> rfl) | rfl | (simp [bI, oi1, nI_succ]; done)) (by subst e1; first | with_reducible rfl | (simp only [oi1, nI_succ, bI, and_true, true_and, and_false, false_and, and_self, or_true, true_or, or_false, false_or, or_self, not_true_eq_false, not_false_eq_true, if_true, if_false, ↓reduceIte] <;> rfl) | rfl | (simp [bI, oi1, nI_succ]; done))
set_option maxHeartbeats 4000000 in
set_option maxRecDepth 100000 in
theorem c_X5_letPass (l : Launch) (E : EV) {a : Nat → Nat} {g : Nat → Int32} {f : Nat → Nat → Int32} {d : Int32} : Wr l E yX5_letPass cX5_letPass 3 none 1 22 [.ref (a 0), .int d] (stW E a g f) (stW E a (va_up g 0 (g 0 + d)) (va_up f 1 (fun _ => 0))) none := by
  refine Wr.mk0 (by decide) (Nat.le_of_ble_eq_true rfl) ?_
  intro pP eE sS mM aA bB mt cC F hr hk hE hN ls hl
  have hl : lv_has ls 3 [(0, .ref (a 0)), (1, .int d)] := hl
  refine V.aload_n F dX5_letPass_0 rfl (lv_at hl 0 rfl) ?_
  refine V.dup F dX5_letPass_1 rfl ?_
  refine V.getfi F hE gX5_9 0 rfl rfl dX5_letPass_2 (fun z1 e1 => ?_)
  refine V.iload_n F dX5_letPass_5 rfl (lv_at hl 1 rfl) ?_
  refine V.iadd F dX5_letPass_6 (fun z2 e2 => ?_)
  refine V.putf F hE hN (by rfl) pX5_9 rfl rfl 0 rfl (by exact Nat.le_of_ble_eq_true rfl) dX5_letPass_7 rfl ?_
  refine V.iconst (v := 0) F dX5_letPass_10 (by decide) ?_
  refine V.istore_n (lv' := [(2, .int 0), (0, .ref (a 0)), (1, .int d)]) F dX5_letPass_11 rfl hl (by decide) rfl (fun ls hl => ?_)
  have h4 : nI 0 = 0 := (by subst e1 e2; first | rfl | (simp only [oi1, nI_succ]; done) | (exact congrArg (fun x => stW E a (va_up g 0 (g 0 + d)) (va_up f 1 x)) (tdF_s (by assumption))) | (refine congrArg (fun x => stW E a (va_up g 0 (g 0 + d)) (va_up f 1 x)) ?_; funext t; simp only [tdF, Nat.not_lt_zero, if_false]; done))
  refine V.weq (ws' := stW E a (va_up g 0 (g 0 + d)) (va_up f 1 (tdF (f 1) 0))) (by subst e1 e2; first | rfl | (simp only [oi1, nI_succ]; done) | (exact congrArg (fun x => stW E a (va_up g 0 (g 0 + d)) (va_up f 1 x)) (tdF_s (by assumption))) | (refine congrArg (fun x => stW E a (va_up g 0 (g 0 + d)) (va_up f 1 x)) ?_; funext t; simp only [tdF, Nat.not_lt_zero, if_false]; done)) ?_
  refine V.loopW (Wd := fun j3 : Nat => stW E a (va_up g 0 (g 0 + d)) (va_up f 1 (tdF (f 1) j3))) (N := 8) (k0 := 0) (I := (fun j3 : Nat => [(2, .int (nI j3)), (0, .ref (a 0)), (1, .int d)])) (J := fun _ => True) (Nat.zero_le _) trivial (lv_sub hl [0, 1, 2] (by rw [h4]; rfl)) ?_
  intro j3 j3_N j3_J ihj3 ls hl
  have hl : lv_has ls 3 [(2, .int (nI j3)), (0, .ref (a 0)), (1, .int d)] := hl
  try dsimp only at j3_J ihj3 ⊢
  refine V.iload_n F dX5_letPass_12 rfl (lv_at hl 0 rfl) ?_
  refine V.bipush (v := 8) F dX5_letPass_13 (by decide) ?_
  refine V.icmp_ge (tgt := 33) F dX5_letPass_15 (by decide) (fun c5 c5' => ?_) (fun c5 c5' => ?_)
  · skip
    have j3_eq := ((lpL (by rfl) (by decide) j3_N).1 c5).symm
    subst j3_eq
    refine V.cell 2 rfl (f' := fun _ => 0) (fun j hj => if_pos hj) rfl ?_
    exact V.vretW F hr hk dX5_letPass_33 (by subst e1 e2; first | rfl | (simp only [oi1, nI_succ]; done) | (exact congrArg (fun x => stW E a (va_up g 0 (g 0 + d)) (va_up f 1 x)) (tdF_s (by assumption))) | (refine congrArg (fun x => stW E a (va_up g 0 (g 0 + d)) (va_up f 1 x)) ?_; funext t; simp only [tdF, Nat.not_lt_zero, if_false]; done))
  · skip
    have j3_lt := (lpL (by rfl) (by decide) j3_N).2 c5
    refine V.aload_n F dX5_letPass_18 rfl (lv_at hl 1 rfl) ?_
    refine V.getf F hE gX5_34 0 rfl rfl dX5_letPass_19 ?_
    refine V.iload_n F dX5_letPass_22 rfl (lv_at hl 0 rfl) ?_
    refine V.iconst (v := 0) F dX5_letPass_23 (by decide) ?_
    refine V.wrSNn F hE hN (by rfl) (c_X6_put l E (by first | assumption | omega)) (kX5_76 F.2.2.2.2 hE.2.1 ⟨Nat.le_of_ble_eq_true rfl, Nat.le_of_ble_eq_true rfl⟩) [2] rfl (by decide) rfl rfl rfl hl.1 (by exact Nat.le_of_ble_eq_true rfl) dX5_letPass_24 rfl ?_
    refine V.iinc (j := 0) (lv' := fun z6 => [(2, .int z6), (0, .ref (a 0)), (1, .int d)]) F dX5_letPass_27 hl rfl (by decide) (fun _ => rfl) (fun z6 e6 ls hl => ?_)
    refine V.goto (tgt := 12) F dX5_letPass_30 (by decide) ?_
    have h7 : nI (j3 + 1) = z6 := (by subst e1 e2 e6; first | rfl | (simp only [oi1, nI_succ]; done) | (exact congrArg (fun x => stW E a (va_up g 0 (g 0 + d)) (va_up f 1 x)) (tdF_s (by assumption))) | (refine congrArg (fun x => stW E a (va_up g 0 (g 0 + d)) (va_up f 1 x)) ?_; funext t; simp only [tdF, Nat.not_lt_zero, if_false]; done))
    refine V.weq (ws' := stW E a (va_up g 0 (g 0 + d)) (va_up f 1 (tdF (f 1) (j3 + 1)))) (by subst e1 e2 e6; first | rfl | (simp only [oi1, nI_succ]; done) | (exact congrArg (fun x => stW E a (va_up g 0 (g 0 + d)) (va_up f 1 x)) (tdF_s (by assumption))) | (refine congrArg (fun x => stW E a (va_up g 0 (g 0 + d)) (va_up f 1 x)) ?_; funext t; simp only [tdF, Nat.not_lt_zero, if_false]; done)) ?_
    exact ihj3 j3_lt trivial _ (lv_sub hl [0, 1, 2] (by rw [h7]; rfl))
set_option maxHeartbeats 4000000 in
set_option maxRecDepth 100000 in
theorem c_X5_noteInjury (l : Launch) (E : EV) {a : Nat → Nat} {g : Nat → Int32} {f : Nat → Nat → Int32} {p q d : Int32} : Wr l E yX5_noteInjury cX5_noteInjury 4 none 2 45 [.ref (a 0), .int p, .int q, .int d] (stW E a g f) (stW E a (injG g) (injF g f p q d)) none := by
  refine Wr.mk0 (by decide) (Nat.le_of_ble_eq_true rfl) ?_
  intro pP eE sS mM aA bB mt cC F hr hk hE hN ls hl
  have hl : lv_has ls 4 [(0, .ref (a 0)), (1, .int p), (2, .int q), (3, .int d)] := hl
  refine V.aload_n F dX5_noteInjury_0 rfl (lv_at hl 0 rfl) ?_
  refine V.dup F dX5_noteInjury_1 rfl ?_
  refine V.getfi F hE gX5_24 0 rfl rfl dX5_noteInjury_2 (fun z1 e1 => ?_)
  refine V.iconst (v := 1) F dX5_noteInjury_5 (by decide) ?_
  refine V.iadd F dX5_noteInjury_6 (fun z2 e2 => ?_)
  refine V.putf F hE hN (by rfl) pX5_24 rfl rfl 0 rfl (by exact Nat.le_of_ble_eq_true rfl) dX5_noteInjury_7 rfl ?_
  refine V.aload_n F dX5_noteInjury_10 rfl (lv_at hl 0 rfl) ?_
  refine V.getf F hE gX5_47 0 rfl rfl dX5_noteInjury_11 ?_
  refine V.iload_n F dX5_noteInjury_14 rfl (lv_at hl 1 rfl) ?_
  refine V.iload_n F dX5_noteInjury_15 rfl (lv_at hl 2 rfl) ?_
  refine V.aload_n F dX5_noteInjury_16 rfl (lv_at hl 0 rfl) ?_
  refine V.getfi F hE gX5_9 0 rfl rfl dX5_noteInjury_17 (fun z3 e3 => ?_)
  refine V.iload_n F dX5_noteInjury_20 rfl (lv_at hl 3 rfl) ?_
  refine V.iadd F dX5_noteInjury_21 (fun z4 e4 => ?_)
  refine V.iconst (v := 1) F dX5_noteInjury_22 (by decide) ?_
  refine V.isub F dX5_noteInjury_23 (fun z5 e5 => ?_)
  refine V.wrVn (q0 := 8) F hE hN (by rfl) (c_X0_keep l E) (kX5_99 F.2.2.2.2 ⟨Nat.le_of_ble_eq_true rfl, Nat.le_of_ble_eq_true rfl⟩) rfl rfl [8, 9, 10, 11] rfl (by decide) rfl rfl rfl hl.1 (by exact Nat.le_of_ble_eq_true rfl) dX5_noteInjury_24 rfl ?_
  exact V.vretW F hr hk dX5_noteInjury_27 (by subst e1 e2 e3 e4 e5; first | with_reducible rfl | (simp only [oi1, nI_succ, bI, and_true, true_and, and_false, false_and, and_self, or_true, true_or, or_false, false_or, or_self, not_true_eq_false, not_false_eq_true, if_true, if_false, ↓reduceIte] <;> rfl) | rfl | (simp [bI, oi1, nI_succ]; done))
set_option maxHeartbeats 4000000 in
set_option maxRecDepth 100000 in
theorem c_X5_letRehearse (l : Launch) (E : EV) {a : Nat → Nat} {g : Nat → Int32} {f : Nat → Nat → Int32} {p k r : Int32} : Wr l E yX5_letRehearse cX5_letRehearse 5 (some .boolean) 3 68 [.ref (a 0), .int p, .int k, .int r] (stW E a g f) (stW E a (rehG g f p) (rehF g f p k r)) (some (.int (bI (¬ 3 < gt (f 1) 8 p + 1)))) := by
  refine Wr.mk0 (by decide) (Nat.le_of_ble_eq_true rfl) ?_
  intro pP eE sS mM aA bB mt cC F hr hk hE hN ls hl
  have hl : lv_has ls 5 [(0, .ref (a 0)), (1, .int p), (2, .int k), (3, .int r)] := hl
  refine V.aload_n F dX5_letRehearse_0 rfl (lv_at hl 0 rfl) ?_
  refine V.dup F dX5_letRehearse_1 rfl ?_
  refine V.getfi F hE gX5_27 0 rfl rfl dX5_letRehearse_2 (fun z1 e1 => ?_)
  refine V.iconst (v := 1) F dX5_letRehearse_5 (by decide) ?_
  refine V.iadd F dX5_letRehearse_6 (fun z2 e2 => ?_)
  refine V.putf F hE hN (by rfl) pX5_27 rfl rfl 0 rfl (by exact Nat.le_of_ble_eq_true rfl) dX5_letRehearse_7 rfl ?_
  refine V.aload_n F dX5_letRehearse_10 rfl (lv_at hl 0 rfl) ?_
  refine V.getf F hE gX5_34 0 rfl rfl dX5_letRehearse_11 ?_
  refine V.iload_n F dX5_letRehearse_14 rfl (lv_at hl 1 rfl) ?_
  refine V.rdSN F hE (c_X6_at l E (by first | assumption | omega)) (kX5_72 F.2.2.2.2 hE.2.1 ⟨Nat.le_of_ble_eq_true rfl, Nat.le_of_ble_eq_true rfl⟩) [2] rfl rfl hl.1 (Nat.le_of_ble_eq_true rfl) dX5_letRehearse_15 rfl ?_
  refine V.topi (fun z3 e3 => ?_)
  refine V.iconst (v := 1) F dX5_letRehearse_18 (by decide) ?_
  refine V.iadd F dX5_letRehearse_19 (fun z4 e4 => ?_)
  refine V.istore (lv' := [(4, .int z4), (0, .ref (a 0)), (1, .int p), (2, .int k), (3, .int r)]) F dX5_letRehearse_20 hl (by decide) rfl (fun ls hl => ?_)
  refine V.aload_n F dX5_letRehearse_22 rfl (lv_at hl 1 rfl) ?_
  refine V.getf F hE gX5_34 0 rfl rfl dX5_letRehearse_23 ?_
  refine V.iload_n F dX5_letRehearse_26 rfl (lv_at hl 2 rfl) ?_
  refine V.iload F dX5_letRehearse_27 (lv_at hl 0 rfl) ?_
  refine V.wrSNn F hE hN (by rfl) (c_X6_put l E (by first | assumption | omega)) (kX5_76 F.2.2.2.2 hE.2.1 ⟨Nat.le_of_ble_eq_true rfl, Nat.le_of_ble_eq_true rfl⟩) [2] rfl (by decide) rfl rfl rfl hl.1 (by exact Nat.le_of_ble_eq_true rfl) dX5_letRehearse_29 rfl ?_
  refine V.iload F dX5_letRehearse_32 (lv_at hl 0 rfl) ?_
  refine V.iconst (v := 3) F dX5_letRehearse_34 (by decide) ?_
  refine V.icmp_le (tgt := 55) F dX5_letRehearse_35 (by decide) (fun c5 c5' => ?_) (fun c5 c5' => ?_)
  · skip
    refine V.aload_n F dX5_letRehearse_55 rfl (lv_at hl 1 rfl) ?_
    refine V.getf F hE gX5_40 0 rfl rfl dX5_letRehearse_56 ?_
    refine V.iload_n F dX5_letRehearse_59 rfl (lv_at hl 2 rfl) ?_
    refine V.iload_n F dX5_letRehearse_60 rfl (lv_at hl 3 rfl) ?_
    refine V.iload_n F dX5_letRehearse_61 rfl (lv_at hl 4 rfl) ?_
    refine V.aload_n F dX5_letRehearse_62 rfl (lv_at hl 1 rfl) ?_
    refine V.getfi F hE gX5_9 0 rfl rfl dX5_letRehearse_63 (fun z6 e6 => ?_)
    refine V.wrVn (q0 := 3) F hE hN (by rfl) (c_X2_keep l E) (kX5_95 F.2.2.2.2 ⟨Nat.le_of_ble_eq_true rfl, Nat.le_of_ble_eq_true rfl⟩) rfl rfl [3, 4, 5, 6, 7] rfl (by decide) rfl rfl rfl hl.1 (by exact Nat.le_of_ble_eq_true rfl) dX5_letRehearse_66 rfl ?_
    refine V.iconst (v := 1) F dX5_letRehearse_69 (by decide) ?_
    exact V.zretW F hr hk dX5_letRehearse_70 (nb_bI _) (by subst e1 e2 e3 e4 e6; first | with_reducible rfl | (simp only [rehG, rehF, c5, c5', oi1, nI_succ, bI, and_true, true_and, and_false, false_and, and_self, or_true, true_or, or_false, false_or, or_self, not_true_eq_false, not_false_eq_true, if_true, if_false, ↓reduceIte] <;> rfl) | rfl | (simp [rehG, rehF, c5, c5', bI, oi1, nI_succ]; done)) (by subst e1 e2 e3 e4 e6; first | with_reducible rfl | (simp only [rehG, rehF, c5, c5', oi1, nI_succ, bI, and_true, true_and, and_false, false_and, and_self, or_true, true_or, or_false, false_or, or_self, not_true_eq_false, not_false_eq_true, if_true, if_false, ↓reduceIte] <;> rfl) | rfl | (simp [rehG, rehF, c5, c5', bI, oi1, nI_succ]; done))
  · skip
    refine V.aload_n F dX5_letRehearse_38 rfl (lv_at hl 1 rfl) ?_
    refine V.iload_n F dX5_letRehearse_39 rfl (lv_at hl 2 rfl) ?_
    refine V.getsN F hE hE.2.2.1.2.2 sX5_88 dX5_letRehearse_40 ?_
    refine V.iload_n F dX5_letRehearse_43 rfl (lv_at hl 3 rfl) ?_
    refine V.rdSN F hE (c_X6_at_T2 l E) (kX5_72 F.2.2.2.2 hE.2.1 ⟨Nat.le_of_ble_eq_true rfl, Nat.le_of_ble_eq_true rfl⟩) [] rfl rfl hl.1 (Nat.le_of_ble_eq_true rfl) dX5_letRehearse_44 rfl ?_
    refine V.topi (fun z7 e7 => ?_)
    refine V.iconst (v := 2) F dX5_letRehearse_47 (by decide) ?_
    refine V.iload_n F dX5_letRehearse_48 rfl (lv_at hl 4 rfl) ?_
    refine V.imul F dX5_letRehearse_49 (fun z8 e8 => ?_)
    refine V.weq (ws' := stW E a (rehG0 g) (rehF0 f p)) (by subst e1 e2 e3 e4 e7 e8; first | with_reducible rfl | (simp only [rehG, rehF, c5, c5', oi1, nI_succ, bI, and_true, true_and, and_false, false_and, and_self, or_true, true_or, or_false, false_or, or_self, not_true_eq_false, not_false_eq_true, if_true, if_false, ↓reduceIte] <;> rfl) | rfl | (simp [rehG, rehF, c5, c5', bI, oi1, nI_succ]; done)) ?_
    refine V.wrVn (q0 := 0) F hE hN (by rfl) (c_X5_noteInjury l E) (kX5_91 F.2.2.2.2 ⟨Nat.le_of_ble_eq_true rfl, Nat.le_of_ble_eq_true rfl⟩) rfl rfl [0, 1, 2, 3, 4, 5, 6, 7, 8, 9, 10, 11, 12, 13, 14, 15, 16, 17] rfl (by decide) rfl rfl rfl hl.1 (by exact Nat.le_of_ble_eq_true rfl) dX5_letRehearse_50 rfl ?_
    refine V.iconst (v := 0) F dX5_letRehearse_53 (by decide) ?_
    exact V.zretW F hr hk dX5_letRehearse_54 (nb_bI _) (by subst e1 e2 e3 e4 e7 e8; first | with_reducible rfl | (simp only [rehG, rehF, c5, c5', oi1, nI_succ, bI, and_true, true_and, and_false, false_and, and_self, or_true, true_or, or_false, false_or, or_self, not_true_eq_false, not_false_eq_true, if_true, if_false, ↓reduceIte] <;> rfl) | rfl | (simp [rehG, rehF, c5, c5', bI, oi1, nI_succ]; done)) (by subst e1 e2 e3 e4 e7 e8; first | with_reducible rfl | (simp only [rehG, rehF, c5, c5', oi1, nI_succ, bI, and_true, true_and, and_false, false_and, and_self, or_true, true_or, or_false, false_or, or_self, not_true_eq_false, not_false_eq_true, if_true, if_false, ↓reduceIte] <;> rfl) | rfl | (simp [rehG, rehF, c5, c5', bI, oi1, nI_succ]; done))
set_option maxHeartbeats 4000000 in
set_option maxRecDepth 100000 in
theorem c_X5_buyInsurance (l : Launch) (E : EV) {a : Nat → Nat} {g : Nat → Int32} {f : Nat → Nat → Int32} {b d : Int32} : Wr l E yX5_buyInsurance cX5_buyInsurance 3 none 1 23 [.ref (a 0), .int b, .int d] (stW E a g f) (stW E a (va_up (va_up (va_up g 1 (g 1 - cosC g b d)) 2 b) 3 (g 0 + d - 1)) f) none := by
  refine Wr.mk0 (by decide) (Nat.le_of_ble_eq_true rfl) ?_
  intro pP eE sS mM aA bB mt cC F hr hk hE hN ls hl
  have hl : lv_has ls 3 [(0, .ref (a 0)), (1, .int b), (2, .int d)] := hl
  refine V.aload_n F dX5_buyInsurance_0 rfl (lv_at hl 0 rfl) ?_
  refine V.dup F dX5_buyInsurance_1 rfl ?_
  refine V.getfi F hE gX5_15 0 rfl rfl dX5_buyInsurance_2 (fun z1 e1 => ?_)
  refine V.aload_n F dX5_buyInsurance_5 rfl (lv_at hl 0 rfl) ?_
  refine V.iload_n F dX5_buyInsurance_6 rfl (lv_at hl 1 rfl) ?_
  refine V.iload_n F dX5_buyInsurance_7 rfl (lv_at hl 2 rfl) ?_
  refine V.rdV (q0 := 0) F hE (c_X5_costOf l E) (kX5_112 F.2.2.2.2 ⟨Nat.le_of_ble_eq_true rfl, Nat.le_of_ble_eq_true rfl⟩) rfl rfl [0, 1, 2, 3, 4, 5, 6, 7, 8, 9, 10, 11, 12, 13, 14, 15, 16, 17] rfl rfl hl.1 (Nat.le_of_ble_eq_true rfl) dX5_buyInsurance_8 rfl ?_
  refine V.topi (fun z2 e2 => ?_)
  refine V.isub F dX5_buyInsurance_11 (fun z3 e3 => ?_)
  refine V.putf F hE hN (by rfl) pX5_15 rfl rfl 0 rfl (by exact Nat.le_of_ble_eq_true rfl) dX5_buyInsurance_12 rfl ?_
  refine V.aload_n F dX5_buyInsurance_15 rfl (lv_at hl 0 rfl) ?_
  refine V.iload_n F dX5_buyInsurance_16 rfl (lv_at hl 1 rfl) ?_
  refine V.putf F hE hN (by rfl) pX5_18 rfl rfl 0 rfl (by exact Nat.le_of_ble_eq_true rfl) dX5_buyInsurance_17 rfl ?_
  refine V.aload_n F dX5_buyInsurance_20 rfl (lv_at hl 0 rfl) ?_
  refine V.aload_n F dX5_buyInsurance_21 rfl (lv_at hl 0 rfl) ?_
  refine V.getfi F hE gX5_9 0 rfl rfl dX5_buyInsurance_22 (fun z4 e4 => ?_)
  refine V.iload_n F dX5_buyInsurance_25 rfl (lv_at hl 2 rfl) ?_
  refine V.iadd F dX5_buyInsurance_26 (fun z5 e5 => ?_)
  refine V.iconst (v := 1) F dX5_buyInsurance_27 (by decide) ?_
  refine V.isub F dX5_buyInsurance_28 (fun z6 e6 => ?_)
  refine V.putf F hE hN (by rfl) pX5_21 rfl rfl 0 rfl (by exact Nat.le_of_ble_eq_true rfl) dX5_buyInsurance_29 rfl ?_
  exact V.vretW F hr hk dX5_buyInsurance_32 (by subst e1 e2 e3 e4 e5 e6; first | with_reducible rfl | (simp only [oi1, nI_succ, bI, and_true, true_and, and_false, false_and, and_self, or_true, true_or, or_false, false_or, or_self, not_true_eq_false, not_false_eq_true, if_true, if_false, ↓reduceIte] <;> rfl) | rfl | (simp [bI, oi1, nI_succ]; done))
set_option maxHeartbeats 4000000 in
set_option maxRecDepth 100000 in
theorem c_X5_letShoot (l : Launch) (E : EV) {a : Nat → Nat} {g : Nat → Int32} {f : Nat → Nat → Int32} {x p : Int32} : Wr l E yX5_letShoot cX5_letShoot 3 none 2 45 [.ref (a 0), .int x, .int p] (stW E a g f) (stW E a g (va_up (va_up f 12 (ptF (f 12) 10 x (g 0))) 13 (ptF (f 13) 10 x p))) none := by
  refine Wr.mk0 (by decide) (Nat.le_of_ble_eq_true rfl) ?_
  intro pP eE sS mM aA bB mt cC F hr hk hE hN ls hl
  have hl : lv_has ls 3 [(0, .ref (a 0)), (1, .int x), (2, .int p)] := hl
  refine V.aload_n F dX5_letShoot_0 rfl (lv_at hl 0 rfl) ?_
  refine V.getf F hE gX5_54 0 rfl rfl dX5_letShoot_1 ?_
  refine V.iload_n F dX5_letShoot_4 rfl (lv_at hl 1 rfl) ?_
  refine V.iload_n F dX5_letShoot_5 rfl (lv_at hl 2 rfl) ?_
  refine V.aload_n F dX5_letShoot_6 rfl (lv_at hl 0 rfl) ?_
  refine V.getfi F hE gX5_9 0 rfl rfl dX5_letShoot_7 (fun z1 e1 => ?_)
  refine V.wrVn (q0 := 12) F hE hN (by rfl) (c_X4_noteShot l E) (kX5_119 F.2.2.2.2 ⟨Nat.le_of_ble_eq_true rfl, Nat.le_of_ble_eq_true rfl⟩) rfl rfl [12, 13, 14, 15, 16, 17] rfl (by decide) rfl rfl rfl hl.1 (by exact Nat.le_of_ble_eq_true rfl) dX5_letShoot_10 rfl ?_
  exact V.vretW F hr hk dX5_letShoot_13 (by subst e1; first | with_reducible rfl | (simp only [oi1, nI_succ, bI, and_true, true_and, and_false, false_and, and_self, or_true, true_or, or_false, false_or, or_self, not_true_eq_false, not_false_eq_true, if_true, if_false, ↓reduceIte] <;> rfl) | rfl | (simp [bI, oi1, nI_succ]; done))
