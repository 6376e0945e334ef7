set_option maxHeartbeats 4000000 in
set_option maxRecDepth 100000 in
theorem c_X7_within (l : Launch) (E : EV) {x lo hi : Int32} : Rd l E yX7_within cX7_within 3 (some .boolean) 0 0 [.int x, .int lo, .int hi] ([]) (some (.int (bI (lo ≤ x ∧ x ≤ hi)))) := by
  refine Rd.mk0 (by decide) (Nat.le_of_ble_eq_true rfl) ?_
  intro pP eE sS mM aA bB mt cC F hr hk hE ls hl
  have hl : lv_has ls 3 [(0, .int x), (1, .int lo), (2, .int hi)] := hl
  refine V.iload_n F dX7_within_0 rfl (lv_at hl 0 rfl) ?_
  refine V.iload_n F dX7_within_1 rfl (lv_at hl 1 rfl) ?_
  refine V.icmp_lt (tgt := 14) F dX7_within_2 (by decide) (fun c1 c1' => ?_) (fun c1 c1' => ?_)
  · skip
    refine V.iconst (v := nI 0) F dX7_within_14 (by decide) ?_
    exact V.zretR F hr hk dX7_within_15 (nb_bI _) (by first | with_reducible rfl | (simp only [c1, c1', oi1n, nI_add, pk_mul, bI, and_true, true_and, and_false, false_and, and_self, or_true, true_or, or_false, false_or, or_self, not_true_eq_false, not_false_eq_true, if_true, if_false, ↓reduceIte] <;> rfl) | rfl | (simp [c1, c1', bI, oi1, nI_succ]; done))
  · skip
    refine V.iload_n F dX7_within_5 rfl (lv_at hl 0 rfl) ?_
    refine V.iload_n F dX7_within_6 rfl (lv_at hl 2 rfl) ?_
    refine V.icmp_gt (tgt := 14) F dX7_within_7 (by decide) (fun c2 c2' => ?_) (fun c2 c2' => ?_)
    · skip
      refine V.iconst (v := nI 0) F dX7_within_14 (by decide) ?_
      exact V.zretR F hr hk dX7_within_15 (nb_bI _) (by first | with_reducible rfl | (simp only [c1, c1', c2, c2', oi1n, nI_add, pk_mul, bI, and_true, true_and, and_false, false_and, and_self, or_true, true_or, or_false, false_or, or_self, not_true_eq_false, not_false_eq_true, if_true, if_false, ↓reduceIte] <;> rfl) | rfl | (simp [c1, c1', c2, c2', bI, oi1, nI_succ]; done))
    · skip
      refine V.iconst (v := nI 1) F dX7_within_10 (by decide) ?_
      refine V.goto (tgt := 15) F dX7_within_11 (by decide) ?_
      exact V.zretR F hr hk dX7_within_15 (nb_bI _) (by first | with_reducible rfl | (simp only [c1, c1', c2, c2', oi1n, nI_add, pk_mul, bI, and_true, true_and, and_false, false_and, and_self, or_true, true_or, or_false, false_or, or_self, not_true_eq_false, not_false_eq_true, if_true, if_false, ↓reduceIte] <;> rfl) | rfl | (simp [c1, c1', c2, c2', bI, oi1, nI_succ]; done))
set_option maxHeartbeats 4000000 in
set_option maxRecDepth 100000 in
theorem c_X7_isPerson (l : Launch) (E : EV) {x : Int32} : Rd l E yX7_isPerson cX7_isPerson 1 (some .boolean) 1 22 [.int x] ([]) (some (.int (bI (nI 0 ≤ x ∧ x ≤ nI 7)))) := by
  refine Rd.mk0 (by decide) (Nat.le_of_ble_eq_true rfl) ?_
  intro pP eE sS mM aA bB mt cC F hr hk hE ls hl
  have hl : lv_has ls 1 [(0, .int x)] := hl
  refine V.iload_n F dX7_isPerson_0 rfl (lv_at hl 0 rfl) ?_
  refine V.iconst (v := nI 0) F dX7_isPerson_1 (by decide) ?_
  refine V.bipush (v := nI 7) F dX7_isPerson_2 (by decide) ?_
  refine V.rdS F hE (c_X7_within l E) (kX7_26 F.2.2.2.2 ⟨Nat.le_of_ble_eq_true rfl, Nat.le_of_ble_eq_true rfl⟩) [] rfl rfl hl.1 (Nat.le_of_ble_eq_true rfl) dX7_isPerson_4 rfl ?_
  refine V.topi (fun z1 e1 => ?_)
  exact V.zretR F hr hk dX7_isPerson_7 (nb_bI _) (by subst e1; first | with_reducible rfl | (simp only [oi1n, nI_add, pk_mul, bI, and_true, true_and, and_false, false_and, and_self, or_true, true_or, or_false, false_or, or_self, not_true_eq_false, not_false_eq_true, if_true, if_false, ↓reduceIte] <;> rfl) | rfl | (simp [bI, oi1, nI_succ]; done))
set_option maxHeartbeats 4000000 in
set_option maxRecDepth 100000 in
theorem c_X7_isKind (l : Launch) (E : EV) {x : Int32} : Rd l E yX7_isKind cX7_isKind 1 (some .boolean) 1 22 [.int x] ([]) (some (.int (bI (nI 0 ≤ x ∧ x ≤ nI 5)))) := by
  refine Rd.mk0 (by decide) (Nat.le_of_ble_eq_true rfl) ?_
  intro pP eE sS mM aA bB mt cC F hr hk hE ls hl
  have hl : lv_has ls 1 [(0, .int x)] := hl
  refine V.iload_n F dX7_isKind_0 rfl (lv_at hl 0 rfl) ?_
  refine V.iconst (v := nI 0) F dX7_isKind_1 (by decide) ?_
  refine V.iconst (v := nI 5) F dX7_isKind_2 (by decide) ?_
  refine V.rdS F hE (c_X7_within l E) (kX7_26 F.2.2.2.2 ⟨Nat.le_of_ble_eq_true rfl, Nat.le_of_ble_eq_true rfl⟩) [] rfl rfl hl.1 (Nat.le_of_ble_eq_true rfl) dX7_isKind_3 rfl ?_
  refine V.topi (fun z1 e1 => ?_)
  exact V.zretR F hr hk dX7_isKind_6 (nb_bI _) (by subst e1; first | with_reducible rfl | (simp only [oi1n, nI_add, pk_mul, bI, and_true, true_and, and_false, false_and, and_self, or_true, true_or, or_false, false_or, or_self, not_true_eq_false, not_false_eq_true, if_true, if_false, ↓reduceIte] <;> rfl) | rfl | (simp [bI, oi1, nI_succ]; done))
set_option maxHeartbeats 4000000 in
set_option maxRecDepth 100000 in
theorem c_X7_isRisk (l : Launch) (E : EV) {x : Int32} : Rd l E yX7_isRisk cX7_isRisk 1 (some .boolean) 1 22 [.int x] ([]) (some (.int (bI (nI 1 ≤ x ∧ x ≤ nI 5)))) := by
  refine Rd.mk0 (by decide) (Nat.le_of_ble_eq_true rfl) ?_
  intro pP eE sS mM aA bB mt cC F hr hk hE ls hl
  have hl : lv_has ls 1 [(0, .int x)] := hl
  refine V.iload_n F dX7_isRisk_0 rfl (lv_at hl 0 rfl) ?_
  refine V.iconst (v := nI 1) F dX7_isRisk_1 (by decide) ?_
  refine V.iconst (v := nI 5) F dX7_isRisk_2 (by decide) ?_
  refine V.rdS F hE (c_X7_within l E) (kX7_26 F.2.2.2.2 ⟨Nat.le_of_ble_eq_true rfl, Nat.le_of_ble_eq_true rfl⟩) [] rfl rfl hl.1 (Nat.le_of_ble_eq_true rfl) dX7_isRisk_3 rfl ?_
  refine V.topi (fun z1 e1 => ?_)
  exact V.zretR F hr hk dX7_isRisk_6 (nb_bI _) (by subst e1; first | with_reducible rfl | (simp only [oi1n, nI_add, pk_mul, bI, and_true, true_and, and_false, false_and, and_self, or_true, true_or, or_false, false_or, or_self, not_true_eq_false, not_false_eq_true, if_true, if_false, ↓reduceIte] <;> rfl) | rfl | (simp [bI, oi1, nI_succ]; done))
set_option maxHeartbeats 4000000 in
set_option maxRecDepth 100000 in
theorem c_X7_isPart (l : Launch) (E : EV) {x : Int32} : Rd l E yX7_isPart cX7_isPart 1 (some .boolean) 0 0 [.int x] ([]) (some (.int (bI (x = nI 1 ∨ x = nI 2 ∨ x = nI 4 ∨ x = nI 8 ∨ x = nI 16 ∨ x = nI 32)))) := by
  refine Rd.mk0 (by decide) (Nat.le_of_ble_eq_true rfl) ?_
  intro pP eE sS mM aA bB mt cC F hr hk hE ls hl
  have hl : lv_has ls 1 [(0, .int x)] := hl
  refine V.iload_n F dX7_isPart_0 rfl (lv_at hl 0 rfl) ?_
  refine V.iconst (v := nI 1) F dX7_isPart_1 (by decide) ?_
  refine V.icmp_eq (tgt := 33) F dX7_isPart_2 (by decide) (fun c1 => ?_) (fun c1 => ?_)
  · skip
    refine V.iconst (v := nI 1) F dX7_isPart_33 (by decide) ?_
    refine V.goto (tgt := 38) F dX7_isPart_34 (by decide) ?_
    exact V.zretR F hr hk dX7_isPart_38 (nb_bI _) (by first | with_reducible rfl | (simp only [eq_true c1, oi1n, nI_add, pk_mul, bI, and_true, true_and, and_false, false_and, and_self, or_true, true_or, or_false, false_or, or_self, not_true_eq_false, not_false_eq_true, if_true, if_false, ↓reduceIte] <;> rfl) | rfl | (simp [eq_true c1, bI, oi1, nI_succ]; done))
  · skip
    refine V.iload_n F dX7_isPart_5 rfl (lv_at hl 0 rfl) ?_
    refine V.iconst (v := nI 2) F dX7_isPart_6 (by decide) ?_
    refine V.icmp_eq (tgt := 33) F dX7_isPart_7 (by decide) (fun c2 => ?_) (fun c2 => ?_)
    · skip
      refine V.iconst (v := nI 1) F dX7_isPart_33 (by decide) ?_
      refine V.goto (tgt := 38) F dX7_isPart_34 (by decide) ?_
      exact V.zretR F hr hk dX7_isPart_38 (nb_bI _) (by first | with_reducible rfl | (simp only [c1, eq_true c2, oi1n, nI_add, pk_mul, bI, and_true, true_and, and_false, false_and, and_self, or_true, true_or, or_false, false_or, or_self, not_true_eq_false, not_false_eq_true, if_true, if_false, ↓reduceIte] <;> rfl) | rfl | (simp [c1, eq_true c2, bI, oi1, nI_succ]; done))
    · skip
      refine V.iload_n F dX7_isPart_10 rfl (lv_at hl 0 rfl) ?_
      refine V.iconst (v := nI 4) F dX7_isPart_11 (by decide) ?_
      refine V.icmp_eq (tgt := 33) F dX7_isPart_12 (by decide) (fun c3 => ?_) (fun c3 => ?_)
      · skip
        refine V.iconst (v := nI 1) F dX7_isPart_33 (by decide) ?_
        refine V.goto (tgt := 38) F dX7_isPart_34 (by decide) ?_
        exact V.zretR F hr hk dX7_isPart_38 (nb_bI _) (by first | with_reducible rfl | (simp only [c1, c2, eq_true c3, oi1n, nI_add, pk_mul, bI, and_true, true_and, and_false, false_and, and_self, or_true, true_or, or_false, false_or, or_self, not_true_eq_false, not_false_eq_true, if_true, if_false, ↓reduceIte] <;> rfl) | rfl | (simp [c1, c2, eq_true c3, bI, oi1, nI_succ]; done))
      · skip
        refine V.iload_n F dX7_isPart_15 rfl (lv_at hl 0 rfl) ?_
        refine V.bipush (v := nI 8) F dX7_isPart_16 (by decide) ?_
        refine V.icmp_eq (tgt := 33) F dX7_isPart_18 (by decide) (fun c4 => ?_) (fun c4 => ?_)
        · skip
          refine V.iconst (v := nI 1) F dX7_isPart_33 (by decide) ?_
          refine V.goto (tgt := 38) F dX7_isPart_34 (by decide) ?_
          exact V.zretR F hr hk dX7_isPart_38 (nb_bI _) (by first | with_reducible rfl | (simp only [c1, c2, c3, eq_true c4, oi1n, nI_add, pk_mul, bI, and_true, true_and, and_false, false_and, and_self, or_true, true_or, or_false, false_or, or_self, not_true_eq_false, not_false_eq_true, if_true, if_false, ↓reduceIte] <;> rfl) | rfl | (simp [c1, c2, c3, eq_true c4, bI, oi1, nI_succ]; done))
        · skip
          refine V.iload_n F dX7_isPart_21 rfl (lv_at hl 0 rfl) ?_
          refine V.bipush (v := nI 16) F dX7_isPart_22 (by decide) ?_
          refine V.icmp_eq (tgt := 33) F dX7_isPart_24 (by decide) (fun c5 => ?_) (fun c5 => ?_)
          · skip
            refine V.iconst (v := nI 1) F dX7_isPart_33 (by decide) ?_
            refine V.goto (tgt := 38) F dX7_isPart_34 (by decide) ?_
            exact V.zretR F hr hk dX7_isPart_38 (nb_bI _) (by first | with_reducible rfl | (simp only [c1, c2, c3, c4, eq_true c5, oi1n, nI_add, pk_mul, bI, and_true, true_and, and_false, false_and, and_self, or_true, true_or, or_false, false_or, or_self, not_true_eq_false, not_false_eq_true, if_true, if_false, ↓reduceIte] <;> rfl) | rfl | (simp [c1, c2, c3, c4, eq_true c5, bI, oi1, nI_succ]; done))
          · skip
            refine V.iload_n F dX7_isPart_27 rfl (lv_at hl 0 rfl) ?_
            refine V.bipush (v := nI 32) F dX7_isPart_28 (by decide) ?_
            refine V.icmp_ne (tgt := 37) F dX7_isPart_30 (by decide) (fun c6 => ?_) (fun c6 => ?_)
            · skip
              refine V.iconst (v := nI 0) F dX7_isPart_37 (by decide) ?_
              exact V.zretR F hr hk dX7_isPart_38 (nb_bI _) (by first | with_reducible rfl | (simp only [c1, c2, c3, c4, c5, c6, oi1n, nI_add, pk_mul, bI, and_true, true_and, and_false, false_and, and_self, or_true, true_or, or_false, false_or, or_self, not_true_eq_false, not_false_eq_true, if_true, if_false, ↓reduceIte] <;> rfl) | rfl | (simp [c1, c2, c3, c4, c5, c6, bI, oi1, nI_succ]; done))
            · skip
              refine V.iconst (v := nI 1) F dX7_isPart_33 (by decide) ?_
              refine V.goto (tgt := 38) F dX7_isPart_34 (by decide) ?_
              exact V.zretR F hr hk dX7_isPart_38 (nb_bI _) (by first | with_reducible rfl | (simp only [c1, c2, c3, c4, c5, eq_true c6, oi1n, nI_add, pk_mul, bI, and_true, true_and, and_false, false_and, and_self, or_true, true_or, or_false, false_or, or_self, not_true_eq_false, not_false_eq_true, if_true, if_false, ↓reduceIte] <;> rfl) | rfl | (simp [c1, c2, c3, c4, c5, eq_true c6, bI, oi1, nI_succ]; done))
set_option maxHeartbeats 4000000 in
set_option maxRecDepth 100000 in
theorem c_X7_needs (l : Launch) (E : EV) {k r : Int32} : Rd l E yX7_needs cX7_needs 2 (some .int) 0 0 [.int k, .int r] ([]) (some (.int (ndM k r))) := by
  refine Rd.mk0 (by decide) (Nat.le_of_ble_eq_true rfl) ?_
  intro pP eE sS mM aA bB mt cC F hr hk hE ls hl
  have hl : lv_has ls 2 [(0, .int k), (1, .int r)] := hl
  refine V.iload_n F dX7_needs_0 rfl (lv_at hl 0 rfl) ?_
  by_cases c1 : k = nI 1
  · skip
    refine V.tableIn (tgt := 32) F dX7_needs_1 (by rw [c1]; decide) (by rw [c1]; decide) (by rw [c1]; rfl) (by decide) ?_
    refine V.iload_n F dX7_needs_32 rfl (lv_at hl 1 rfl) ?_
    refine V.iconst (v := nI 1) F dX7_needs_33 (by decide) ?_
    refine V.iadd F dX7_needs_34 (fun z2 e2 => ?_)
    exact V.iretR F hr hk dX7_needs_35 (by subst e2; first | with_reducible rfl | (simp only [ndM, eq_true c1, oi1n, nI_add, pk_mul, bI, and_true, true_and, and_false, false_and, and_self, or_true, true_or, or_false, false_or, or_self, not_true_eq_false, not_false_eq_true, if_true, if_false, ↓reduceIte] <;> rfl) | rfl | (simp [ndM, eq_true c1, bI, oi1, nI_succ]; done))
  by_cases c3 : k = nI 2
  · skip
    refine V.tableIn (tgt := 36) F dX7_needs_1 (by rw [c3]; decide) (by rw [c3]; decide) (by rw [c3]; rfl) (by decide) ?_
    refine V.iconst (v := nI 2) F dX7_needs_36 (by decide) ?_
    refine V.iload_n F dX7_needs_37 rfl (lv_at hl 1 rfl) ?_
    refine V.imul F dX7_needs_38 (fun z4 e4 => ?_)
    exact V.iretR F hr hk dX7_needs_39 (by subst e4; first | with_reducible rfl | (simp only [ndM, c1, eq_true c3, oi1n, nI_add, pk_mul, bI, and_true, true_and, and_false, false_and, and_self, or_true, true_or, or_false, false_or, or_self, not_true_eq_false, not_false_eq_true, if_true, if_false, ↓reduceIte] <;> rfl) | rfl | (simp [ndM, c1, eq_true c3, bI, oi1, nI_succ]; done))
  by_cases c5 : k = nI 3
  · skip
    refine V.tableIn (tgt := 40) F dX7_needs_1 (by rw [c5]; decide) (by rw [c5]; decide) (by rw [c5]; rfl) (by decide) ?_
    refine V.iload_n F dX7_needs_40 rfl (lv_at hl 1 rfl) ?_
    refine V.iconst (v := nI 2) F dX7_needs_41 (by decide) ?_
    refine V.iadd F dX7_needs_42 (fun z6 e6 => ?_)
    exact V.iretR F hr hk dX7_needs_43 (by subst e6; first | with_reducible rfl | (simp only [ndM, c1, c3, eq_true c5, oi1n, nI_add, pk_mul, bI, and_true, true_and, and_false, false_and, and_self, or_true, true_or, or_false, false_or, or_self, not_true_eq_false, not_false_eq_true, if_true, if_false, ↓reduceIte] <;> rfl) | rfl | (simp [ndM, c1, c3, eq_true c5, bI, oi1, nI_succ]; done))
  by_cases c7 : k = nI 4
  · skip
    refine V.tableIn (tgt := 44) F dX7_needs_1 (by rw [c7]; decide) (by rw [c7]; decide) (by rw [c7]; rfl) (by decide) ?_
    refine V.iload_n F dX7_needs_44 rfl (lv_at hl 1 rfl) ?_
    refine V.iconst (v := nI 2) F dX7_needs_45 (by decide) ?_
    refine V.idiv F dX7_needs_46 (by decide) (fun z8 e8 => ?_)
    refine V.iconst (v := nI 1) F dX7_needs_47 (by decide) ?_
    refine V.iadd F dX7_needs_48 (fun z9 e9 => ?_)
    exact V.iretR F hr hk dX7_needs_49 (by subst e8 e9; first | with_reducible rfl | (simp only [ndM, c1, c3, c5, eq_true c7, oi1n, nI_add, pk_mul, bI, and_true, true_and, and_false, false_and, and_self, or_true, true_or, or_false, false_or, or_self, not_true_eq_false, not_false_eq_true, if_true, if_false, ↓reduceIte] <;> rfl) | rfl | (simp [ndM, c1, c3, c5, eq_true c7, bI, oi1, nI_succ]; done))
  refine V.tableOut (tgt := 50) F dX7_needs_1 (sw_out fun i h1 h2 => by rcases (show i = 1 ∨ i = 2 ∨ i = 3 ∨ i = 4 by omega) with rfl | rfl | rfl | rfl <;> assumption) (by decide) ?_
  refine V.iload_n F dX7_needs_50 rfl (lv_at hl 1 rfl) ?_
  exact V.iretR F hr hk dX7_needs_51 (by first | with_reducible rfl | (simp only [ndM, c1, c3, c5, c7, oi1n, nI_add, pk_mul, bI, and_true, true_and, and_false, false_and, and_self, or_true, true_or, or_false, false_or, or_self, not_true_eq_false, not_false_eq_true, if_true, if_false, ↓reduceIte] <;> rfl) | rfl | (simp [ndM, c1, c3, c5, c7, bI, oi1, nI_succ]; done))
set_option maxHeartbeats 4000000 in
set_option maxRecDepth 100000 in
theorem c_X7_countsFor (l : Launch) (E : EV) {k : Int32} : Rd l E yX7_countsFor cX7_countsFor 1 (some .int) 0 0 [.int k] ([]) (some (.int (cdM k))) := by
  refine Rd.mk0 (by decide) (Nat.le_of_ble_eq_true rfl) ?_
  intro pP eE sS mM aA bB mt cC F hr hk hE ls hl
  have hl : lv_has ls 1 [(0, .int k)] := hl
  refine V.iload_n F dX7_countsFor_0 rfl (lv_at hl 0 rfl) ?_
  by_cases c1 : k = nI 0
  · skip
    refine V.tableIn (tgt := 36) F dX7_countsFor_1 (by rw [c1]; decide) (by rw [c1]; decide) (by rw [c1]; rfl) (by decide) ?_
    refine V.bipush (v := nI 20) F dX7_countsFor_36 (by decide) ?_
    exact V.iretR F hr hk dX7_countsFor_38 (by first | with_reducible rfl | (simp only [cdM, eq_true c1, oi1n, nI_add, pk_mul, bI, and_true, true_and, and_false, false_and, and_self, or_true, true_or, or_false, false_or, or_self, not_true_eq_false, not_false_eq_true, if_true, if_false, ↓reduceIte] <;> rfl) | rfl | (simp [cdM, eq_true c1, bI, oi1, nI_succ]; done))
  by_cases c2 : k = nI 1
  · skip
    refine V.tableIn (tgt := 39) F dX7_countsFor_1 (by rw [c2]; decide) (by rw [c2]; decide) (by rw [c2]; rfl) (by decide) ?_
    refine V.bipush (v := nI 15) F dX7_countsFor_39 (by decide) ?_
    exact V.iretR F hr hk dX7_countsFor_41 (by first | with_reducible rfl | (simp only [cdM, c1, eq_true c2, oi1n, nI_add, pk_mul, bI, and_true, true_and, and_false, false_and, and_self, or_true, true_or, or_false, false_or, or_self, not_true_eq_false, not_false_eq_true, if_true, if_false, ↓reduceIte] <;> rfl) | rfl | (simp [cdM, c1, eq_true c2, bI, oi1, nI_succ]; done))
  by_cases c3 : k = nI 2
  · skip
    refine V.tableIn (tgt := 42) F dX7_countsFor_1 (by rw [c3]; decide) (by rw [c3]; decide) (by rw [c3]; rfl) (by decide) ?_
    refine V.bipush (v := nI 10) F dX7_countsFor_42 (by decide) ?_
    exact V.iretR F hr hk dX7_countsFor_44 (by first | with_reducible rfl | (simp only [cdM, c1, c2, eq_true c3, oi1n, nI_add, pk_mul, bI, and_true, true_and, and_false, false_and, and_self, or_true, true_or, or_false, false_or, or_self, not_true_eq_false, not_false_eq_true, if_true, if_false, ↓reduceIte] <;> rfl) | rfl | (simp [cdM, c1, c2, eq_true c3, bI, oi1, nI_succ]; done))
  by_cases c4 : k = nI 3
  · skip
    refine V.tableIn (tgt := 45) F dX7_countsFor_1 (by rw [c4]; decide) (by rw [c4]; decide) (by rw [c4]; rfl) (by decide) ?_
    refine V.bipush (v := nI 12) F dX7_countsFor_45 (by decide) ?_
    exact V.iretR F hr hk dX7_countsFor_47 (by first | with_reducible rfl | (simp only [cdM, c1, c2, c3, eq_true c4, oi1n, nI_add, pk_mul, bI, and_true, true_and, and_false, false_and, and_self, or_true, true_or, or_false, false_or, or_self, not_true_eq_false, not_false_eq_true, if_true, if_false, ↓reduceIte] <;> rfl) | rfl | (simp [cdM, c1, c2, c3, eq_true c4, bI, oi1, nI_succ]; done))
  by_cases c5 : k = nI 4
  · skip
    refine V.tableIn (tgt := 48) F dX7_countsFor_1 (by rw [c5]; decide) (by rw [c5]; decide) (by rw [c5]; rfl) (by decide) ?_
    refine V.bipush (v := nI 30) F dX7_countsFor_48 (by decide) ?_
    exact V.iretR F hr hk dX7_countsFor_50 (by first | with_reducible rfl | (simp only [cdM, c1, c2, c3, c4, eq_true c5, oi1n, nI_add, pk_mul, bI, and_true, true_and, and_false, false_and, and_self, or_true, true_or, or_false, false_or, or_self, not_true_eq_false, not_false_eq_true, if_true, if_false, ↓reduceIte] <;> rfl) | rfl | (simp [cdM, c1, c2, c3, c4, eq_true c5, bI, oi1, nI_succ]; done))
  refine V.tableOut (tgt := 51) F dX7_countsFor_1 (sw_out fun i h1 h2 => by rcases (show i = 0 ∨ i = 1 ∨ i = 2 ∨ i = 3 ∨ i = 4 by omega) with rfl | rfl | rfl | rfl | rfl <;> assumption) (by decide) ?_
  refine V.bipush (v := nI 25) F dX7_countsFor_51 (by decide) ?_
  exact V.iretR F hr hk dX7_countsFor_53 (by first | with_reducible rfl | (simp only [cdM, c1, c2, c3, c4, c5, oi1n, nI_add, pk_mul, bI, and_true, true_and, and_false, false_and, and_self, or_true, true_or, or_false, false_or, or_self, not_true_eq_false, not_false_eq_true, if_true, if_false, ↓reduceIte] <;> rfl) | rfl | (simp [cdM, c1, c2, c3, c4, c5, bI, oi1, nI_succ]; done))
set_option maxHeartbeats 4000000 in
set_option maxRecDepth 100000 in
theorem c_X7_barringParts (l : Launch) (E : EV) {k : Int32} : Rd l E yX7_barringParts cX7_barringParts 1 (some .int) 0 0 [.int k] ([]) (some (.int (bpM k))) := by
  refine Rd.mk0 (by decide) (Nat.le_of_ble_eq_true rfl) ?_
  intro pP eE sS mM aA bB mt cC F hr hk hE ls hl
  have hl : lv_has ls 1 [(0, .int k)] := hl
  refine V.iload_n F dX7_barringParts_0 rfl (lv_at hl 0 rfl) ?_
  by_cases c1 : k = nI 0
  · skip
    refine V.tableIn (tgt := 36) F dX7_barringParts_1 (by rw [c1]; decide) (by rw [c1]; decide) (by rw [c1]; rfl) (by decide) ?_
    refine V.iconst (v := nI 3) F dX7_barringParts_36 (by decide) ?_
    exact V.iretR F hr hk dX7_barringParts_37 (by first | with_reducible rfl | (simp only [bpM, eq_true c1, oi1n, nI_add, pk_mul, bI, and_true, true_and, and_false, false_and, and_self, or_true, true_or, or_false, false_or, or_self, not_true_eq_false, not_false_eq_true, if_true, if_false, ↓reduceIte] <;> rfl) | rfl | (simp [bpM, eq_true c1, bI, oi1, nI_succ]; done))
  by_cases c2 : k = nI 1
  · skip
    refine V.tableIn (tgt := 38) F dX7_barringParts_1 (by rw [c2]; decide) (by rw [c2]; decide) (by rw [c2]; rfl) (by decide) ?_
    refine V.bipush (v := nI 28) F dX7_barringParts_38 (by decide) ?_
    exact V.iretR F hr hk dX7_barringParts_40 (by first | with_reducible rfl | (simp only [bpM, c1, eq_true c2, oi1n, nI_add, pk_mul, bI, and_true, true_and, and_false, false_and, and_self, or_true, true_or, or_false, false_or, or_self, not_true_eq_false, not_false_eq_true, if_true, if_false, ↓reduceIte] <;> rfl) | rfl | (simp [bpM, c1, eq_true c2, bI, oi1, nI_succ]; done))
  by_cases c3 : k = nI 2
  · skip
    refine V.tableIn (tgt := 41) F dX7_barringParts_1 (by rw [c3]; decide) (by rw [c3]; decide) (by rw [c3]; rfl) (by decide) ?_
    refine V.bipush (v := nI 63) F dX7_barringParts_41 (by decide) ?_
    exact V.iretR F hr hk dX7_barringParts_43 (by first | with_reducible rfl | (simp only [bpM, c1, c2, eq_true c3, oi1n, nI_add, pk_mul, bI, and_true, true_and, and_false, false_and, and_self, or_true, true_or, or_false, false_or, or_self, not_true_eq_false, not_false_eq_true, if_true, if_false, ↓reduceIte] <;> rfl) | rfl | (simp [bpM, c1, c2, eq_true c3, bI, oi1, nI_succ]; done))
  by_cases c4 : k = nI 3
  · skip
    refine V.tableIn (tgt := 44) F dX7_barringParts_1 (by rw [c4]; decide) (by rw [c4]; decide) (by rw [c4]; rfl) (by decide) ?_
    refine V.bipush (v := nI 48) F dX7_barringParts_44 (by decide) ?_
    exact V.iretR F hr hk dX7_barringParts_46 (by first | with_reducible rfl | (simp only [bpM, c1, c2, c3, eq_true c4, oi1n, nI_add, pk_mul, bI, and_true, true_and, and_false, false_and, and_self, or_true, true_or, or_false, false_or, or_self, not_true_eq_false, not_false_eq_true, if_true, if_false, ↓reduceIte] <;> rfl) | rfl | (simp [bpM, c1, c2, c3, eq_true c4, bI, oi1, nI_succ]; done))
  by_cases c5 : k = nI 4
  · skip
    refine V.tableIn (tgt := 47) F dX7_barringParts_1 (by rw [c5]; decide) (by rw [c5]; decide) (by rw [c5]; rfl) (by decide) ?_
    refine V.bipush (v := nI 32) F dX7_barringParts_47 (by decide) ?_
    exact V.iretR F hr hk dX7_barringParts_49 (by first | with_reducible rfl | (simp only [bpM, c1, c2, c3, c4, eq_true c5, oi1n, nI_add, pk_mul, bI, and_true, true_and, and_false, false_and, and_self, or_true, true_or, or_false, false_or, or_self, not_true_eq_false, not_false_eq_true, if_true, if_false, ↓reduceIte] <;> rfl) | rfl | (simp [bpM, c1, c2, c3, c4, eq_true c5, bI, oi1, nI_succ]; done))
  refine V.tableOut (tgt := 50) F dX7_barringParts_1 (sw_out fun i h1 h2 => by rcases (show i = 0 ∨ i = 1 ∨ i = 2 ∨ i = 3 ∨ i = 4 by omega) with rfl | rfl | rfl | rfl | rfl <;> assumption) (by decide) ?_
  refine V.bipush (v := nI 35) F dX7_barringParts_50 (by decide) ?_
  exact V.iretR F hr hk dX7_barringParts_52 (by first | with_reducible rfl | (simp only [bpM, c1, c2, c3, c4, c5, oi1n, nI_add, pk_mul, bI, and_true, true_and, and_false, false_and, and_self, or_true, true_or, or_false, false_or, or_self, not_true_eq_false, not_false_eq_true, if_true, if_false, ↓reduceIte] <;> rfl) | rfl | (simp [bpM, c1, c2, c3, c4, c5, bI, oi1, nI_succ]; done))
set_option maxHeartbeats 4000000 in
set_option maxRecDepth 100000 in
theorem c_X7_partOfRehearsal (l : Launch) (E : EV) {k : Int32} : Rd l E yX7_partOfRehearsal cX7_partOfRehearsal 1 (some .int) 0 0 [.int k] ([]) (some (.int (prM k))) := by
  refine Rd.mk0 (by decide) (Nat.le_of_ble_eq_true rfl) ?_
  intro pP eE sS mM aA bB mt cC F hr hk hE ls hl
  have hl : lv_has ls 1 [(0, .int k)] := hl
  refine V.iload_n F dX7_partOfRehearsal_0 rfl (lv_at hl 0 rfl) ?_
  refine V.if_eq (tgt := 9) F dX7_partOfRehearsal_1 (by decide) (fun c1 => ?_) (fun c1 => ?_)
  · skip
    rw [← nI_0] at c1
    refine V.iconst (v := nI 1) F dX7_partOfRehearsal_9 (by decide) ?_
    refine V.goto (tgt := 29) F dX7_partOfRehearsal_10 (by decide) ?_
    exact V.iretR F hr hk dX7_partOfRehearsal_29 (by first | with_reducible rfl | (simp only [prM, eq_true c1, oi1n, nI_add, pk_mul, bI, and_true, true_and, and_false, false_and, and_self, or_true, true_or, or_false, false_or, or_self, not_true_eq_false, not_false_eq_true, if_true, if_false, ↓reduceIte] <;> rfl) | rfl | (simp [prM, eq_true c1, bI, oi1, nI_succ]; done))
  · skip
    rw [← nI_0] at c1
    refine V.iload_n F dX7_partOfRehearsal_4 rfl (lv_at hl 0 rfl) ?_
    refine V.iconst (v := nI 5) F dX7_partOfRehearsal_5 (by decide) ?_
    refine V.icmp_ne (tgt := 13) F dX7_partOfRehearsal_6 (by decide) (fun c2 => ?_) (fun c2 => ?_)
    · skip
      refine V.iload_n F dX7_partOfRehearsal_13 rfl (lv_at hl 0 rfl) ?_
      refine V.iconst (v := nI 1) F dX7_partOfRehearsal_14 (by decide) ?_
      refine V.icmp_eq (tgt := 23) F dX7_partOfRehearsal_15 (by decide) (fun c3 => ?_) (fun c3 => ?_)
      · skip
        refine V.iconst (v := nI 4) F dX7_partOfRehearsal_23 (by decide) ?_
        refine V.goto (tgt := 29) F dX7_partOfRehearsal_24 (by decide) ?_
        exact V.iretR F hr hk dX7_partOfRehearsal_29 (by first | with_reducible rfl | (simp only [prM, c1, c2, eq_true c3, oi1n, nI_add, pk_mul, bI, and_true, true_and, and_false, false_and, and_self, or_true, true_or, or_false, false_or, or_self, not_true_eq_false, not_false_eq_true, if_true, if_false, ↓reduceIte] <;> rfl) | rfl | (simp [prM, c1, c2, eq_true c3, bI, oi1, nI_succ]; done))
      · skip
        refine V.iload_n F dX7_partOfRehearsal_18 rfl (lv_at hl 0 rfl) ?_
        refine V.iconst (v := nI 4) F dX7_partOfRehearsal_19 (by decide) ?_
        refine V.icmp_ne (tgt := 27) F dX7_partOfRehearsal_20 (by decide) (fun c4 => ?_) (fun c4 => ?_)
        · skip
          refine V.bipush (v := nI 16) F dX7_partOfRehearsal_27 (by decide) ?_
          exact V.iretR F hr hk dX7_partOfRehearsal_29 (by first | with_reducible rfl | (simp only [prM, c1, c2, c3, c4, oi1n, nI_add, pk_mul, bI, and_true, true_and, and_false, false_and, and_self, or_true, true_or, or_false, false_or, or_self, not_true_eq_false, not_false_eq_true, if_true, if_false, ↓reduceIte] <;> rfl) | rfl | (simp [prM, c1, c2, c3, c4, bI, oi1, nI_succ]; done))
        · skip
          refine V.iconst (v := nI 4) F dX7_partOfRehearsal_23 (by decide) ?_
          refine V.goto (tgt := 29) F dX7_partOfRehearsal_24 (by decide) ?_
          exact V.iretR F hr hk dX7_partOfRehearsal_29 (by first | with_reducible rfl | (simp only [prM, c1, c2, c3, eq_true c4, oi1n, nI_add, pk_mul, bI, and_true, true_and, and_false, false_and, and_self, or_true, true_or, or_false, false_or, or_self, not_true_eq_false, not_false_eq_true, if_true, if_false, ↓reduceIte] <;> rfl) | rfl | (simp [prM, c1, c2, c3, eq_true c4, bI, oi1, nI_succ]; done))
    · skip
      refine V.iconst (v := nI 1) F dX7_partOfRehearsal_9 (by decide) ?_
      refine V.goto (tgt := 29) F dX7_partOfRehearsal_10 (by decide) ?_
      exact V.iretR F hr hk dX7_partOfRehearsal_29 (by first | with_reducible rfl | (simp only [prM, c1, eq_true c2, oi1n, nI_add, pk_mul, bI, and_true, true_and, and_false, false_and, and_self, or_true, true_or, or_false, false_or, or_self, not_true_eq_false, not_false_eq_true, if_true, if_false, ↓reduceIte] <;> rfl) | rfl | (simp [prM, c1, eq_true c2, bI, oi1, nI_succ]; done))
set_option maxHeartbeats 4000000 in
set_option maxRecDepth 100000 in
theorem c_X7_thrown (l : Launch) (E : EV) {a : Nat → Nat} {th sm ln pl : Int32} {hs : Int64} {s S b w : Nat → Int32} : Rd l E yX7_thrown cX7_thrown 1 (some .int) 0 0 [.ref (a 0)] (mdW E a th sm ln pl hs s S b w) (some (.int th)) := by
  refine Rd.mk0 (by decide) (Nat.le_of_ble_eq_true rfl) ?_
  intro pP eE sS mM aA bB mt cC F hr hk hE ls hl
  have hl : lv_has ls 1 [(0, .ref (a 0))] := hl
  refine V.aload_n F dX7_thrown_0 rfl (lv_at hl 0 rfl) ?_
  refine V.getfi F hE gX7_22 0 rfl rfl dX7_thrown_1 (fun z1 e1 => ?_)
  exact V.iretR F hr hk dX7_thrown_4 (by subst e1; first | with_reducible rfl | (simp only [oi1n, nI_add, pk_mul, bI, and_true, true_and, and_false, false_and, and_self, or_true, true_or, or_false, false_or, or_self, not_true_eq_false, not_false_eq_true, if_true, if_false, ↓reduceIte] <;> rfl) | rfl | (simp [bI, oi1, nI_succ]; done))
set_option maxHeartbeats 4000000 in
set_option maxRecDepth 100000 in
theorem c_X7_isScene (l : Launch) (E : EV) {a : Nat → Nat} {th sm ln pl : Int32} {hs : Int64} {s S b w : Nat → Int32} {x : Int32} : Rd l E yX7_isScene cX7_isScene 2 (some .boolean) 1 22 [.ref (a 0), .int x] (mdW E a th sm ln pl hs s S b w) (some (.int (bI (nI 0 ≤ x ∧ x ≤ s 4 - nI 1)))) := by
  refine Rd.mk0 (by decide) (Nat.le_of_ble_eq_true rfl) ?_
  intro pP eE sS mM aA bB mt cC F hr hk hE ls hl
  have hl : lv_has ls 2 [(0, .ref (a 0)), (1, .int x)] := hl
  refine V.iload_n F dX7_isScene_0 rfl (lv_at hl 1 rfl) ?_
  refine V.iconst (v := nI 0) F dX7_isScene_1 (by decide) ?_
  refine V.aload_n F dX7_isScene_2 rfl (lv_at hl 0 rfl) ?_
  refine V.getf F hE gX7_7 0 rfl rfl dX7_isScene_3 ?_
  refine V.iconst (v := nI 4) F dX7_isScene_6 (by decide) ?_
  refine V.iadn (i := 4) F hE 1 rfl (by omega) (by omega) dX7_isScene_7 (fun z1 e1 => ?_)
  refine V.iconst (v := nI 1) F dX7_isScene_8 (by decide) ?_
  refine V.isub F dX7_isScene_9 (fun z2 e2 => ?_)
  refine V.rdS F hE (c_X7_within l E) (kX7_26 F.2.2.2.2 ⟨Nat.le_of_ble_eq_true rfl, Nat.le_of_ble_eq_true rfl⟩) [] rfl rfl hl.1 (Nat.le_of_ble_eq_true rfl) dX7_isScene_10 rfl ?_
  refine V.topi (fun z3 e3 => ?_)
  exact V.zretR F hr hk dX7_isScene_13 (nb_bI _) (by subst e1 e2 e3; first | with_reducible rfl | (simp only [oi1n, nI_add, pk_mul, bI, and_true, true_and, and_false, false_and, and_self, or_true, true_or, or_false, false_or, or_self, not_true_eq_false, not_false_eq_true, if_true, if_false, ↓reduceIte] <;> rfl) | rfl | (simp [bI, oi1, nI_succ]; done))
set_option maxHeartbeats 4000000 in
set_option maxRecDepth 100000 in
theorem c_X7_ofInjury (l : Launch) (E : EV) {a : Nat → Nat} {th sm ln pl : Int32} {hs : Int64} {s S b w : Nat → Int32} {k x : Nat} (hk : k < 12) (hx : x < 4) : Rd l E yX7_ofInjury cX7_ofInjury 3 (some .int) 0 0 [.ref (a 0), .int (nI k), .int (nI x)] (mdW E a th sm ln pl hs s S b w) (some (.int (s (202 + 4 * k + x)))) := by
  refine Rd.mk0 (by decide) (Nat.le_of_ble_eq_true rfl) ?_
  intro pP eE sS mM aA bB mt cC F hr hk hE ls hl
  have hl : lv_has ls 3 [(0, .ref (a 0)), (1, .int (nI k)), (2, .int (nI x))] := hl
  refine V.aload_n F dX7_ofInjury_0 rfl (lv_at hl 0 rfl) ?_
  refine V.getf F hE gX7_7 0 rfl rfl dX7_ofInjury_1 ?_
  refine V.sipush (v := nI 202) F dX7_ofInjury_4 (by decide) ?_
  refine V.iconst (v := nI 4) F dX7_ofInjury_7 (by decide) ?_
  refine V.iload_n F dX7_ofInjury_8 rfl (lv_at hl 1 rfl) ?_
  refine V.imul F dX7_ofInjury_9 (fun z1 e1 => ?_)
  obtain rfl : z1 = nI (4 * k) := e1.trans (pk_mul _ _)
  refine V.iadd F dX7_ofInjury_10 (fun z2 e2 => ?_)
  obtain rfl : z2 = nI (202 + (4 * k)) := e2.trans (nI_add _ _)
  refine V.iload_n F dX7_ofInjury_11 rfl (lv_at hl 2 rfl) ?_
  refine V.iadd F dX7_ofInjury_12 (fun z3 e3 => ?_)
  obtain rfl : z3 = nI ((202 + (4 * k)) + x) := e3.trans (nI_add _ _)
  refine V.iadn (i := ((202 + (4 * k)) + x)) F hE 1 rfl (by omega) (by omega) dX7_ofInjury_13 (fun z4 e4 => ?_)
  exact V.iretR F hr hk dX7_ofInjury_14 (by subst e4; first | with_reducible rfl | (simp only [oi1n, nI_add, pk_mul, bI, and_true, true_and, and_false, false_and, and_self, or_true, true_or, or_false, false_or, or_self, not_true_eq_false, not_false_eq_true, if_true, if_false, ↓reduceIte] <;> rfl) | rfl | (simp [bI, oi1, nI_succ]; done))
set_option maxHeartbeats 4000000 in
set_option maxRecDepth 100000 in
theorem c_X7_ofRehearsal (l : Launch) (E : EV) {a : Nat → Nat} {th sm ln pl : Int32} {hs : Int64} {s S b w : Nat → Int32} {k x : Nat} (hk : k < 40) (hx : x < 4) : Rd l E yX7_ofRehearsal cX7_ofRehearsal 3 (some .int) 0 0 [.ref (a 0), .int (nI k), .int (nI x)] (mdW E a th sm ln pl hs s S b w) (some (.int (s (42 + 4 * k + x)))) := by
  refine Rd.mk0 (by decide) (Nat.le_of_ble_eq_true rfl) ?_
  intro pP eE sS mM aA bB mt cC F hr hk hE ls hl
  have hl : lv_has ls 3 [(0, .ref (a 0)), (1, .int (nI k)), (2, .int (nI x))] := hl
  refine V.aload_n F dX7_ofRehearsal_0 rfl (lv_at hl 0 rfl) ?_
  refine V.getf F hE gX7_7 0 rfl rfl dX7_ofRehearsal_1 ?_
  refine V.bipush (v := nI 42) F dX7_ofRehearsal_4 (by decide) ?_
  refine V.iconst (v := nI 4) F dX7_ofRehearsal_6 (by decide) ?_
  refine V.iload_n F dX7_ofRehearsal_7 rfl (lv_at hl 1 rfl) ?_
  refine V.imul F dX7_ofRehearsal_8 (fun z1 e1 => ?_)
  obtain rfl : z1 = nI (4 * k) := e1.trans (pk_mul _ _)
  refine V.iadd F dX7_ofRehearsal_9 (fun z2 e2 => ?_)
  obtain rfl : z2 = nI (42 + (4 * k)) := e2.trans (nI_add _ _)
  refine V.iload_n F dX7_ofRehearsal_10 rfl (lv_at hl 2 rfl) ?_
  refine V.iadd F dX7_ofRehearsal_11 (fun z3 e3 => ?_)
  obtain rfl : z3 = nI ((42 + (4 * k)) + x) := e3.trans (nI_add _ _)
  refine V.iadn (i := ((42 + (4 * k)) + x)) F hE 1 rfl (by omega) (by omega) dX7_ofRehearsal_12 (fun z4 e4 => ?_)
  exact V.iretR F hr hk dX7_ofRehearsal_13 (by subst e4; first | with_reducible rfl | (simp only [oi1n, nI_add, pk_mul, bI, and_true, true_and, and_false, false_and, and_self, or_true, true_or, or_false, false_or, or_self, not_true_eq_false, not_false_eq_true, if_true, if_false, ↓reduceIte] <;> rfl) | rfl | (simp [bI, oi1, nI_succ]; done))
set_option maxHeartbeats 4000000 in
set_option maxRecDepth 100000 in
theorem c_X7_ofScene (l : Launch) (E : EV) {a : Nat → Nat} {th sm ln pl : Int32} {hs : Int64} {s S b w : Nat → Int32} {k x : Nat} (hk : k < 10) (hx : x < 5) : Rd l E yX7_ofScene cX7_ofScene 3 (some .int) 0 0 [.ref (a 0), .int (nI k), .int (nI x)] (mdW E a th sm ln pl hs s S b w) (some (.int (s (250 + 5 * k + x)))) := by
  refine Rd.mk0 (by decide) (Nat.le_of_ble_eq_true rfl) ?_
  intro pP eE sS mM aA bB mt cC F hr hk hE ls hl
  have hl : lv_has ls 3 [(0, .ref (a 0)), (1, .int (nI k)), (2, .int (nI x))] := hl
  refine V.aload_n F dX7_ofScene_0 rfl (lv_at hl 0 rfl) ?_
  refine V.getf F hE gX7_7 0 rfl rfl dX7_ofScene_1 ?_
  refine V.sipush (v := nI 250) F dX7_ofScene_4 (by decide) ?_
  refine V.iconst (v := nI 5) F dX7_ofScene_7 (by decide) ?_
  refine V.iload_n F dX7_ofScene_8 rfl (lv_at hl 1 rfl) ?_
  refine V.imul F dX7_ofScene_9 (fun z1 e1 => ?_)
  obtain rfl : z1 = nI (5 * k) := e1.trans (pk_mul _ _)
  refine V.iadd F dX7_ofScene_10 (fun z2 e2 => ?_)
  obtain rfl : z2 = nI (250 + (5 * k)) := e2.trans (nI_add _ _)
  refine V.iload_n F dX7_ofScene_11 rfl (lv_at hl 2 rfl) ?_
  refine V.iadd F dX7_ofScene_12 (fun z3 e3 => ?_)
  obtain rfl : z3 = nI ((250 + (5 * k)) + x) := e3.trans (nI_add _ _)
  refine V.iadn (i := ((250 + (5 * k)) + x)) F hE 1 rfl (by omega) (by omega) dX7_ofScene_13 (fun z4 e4 => ?_)
  exact V.iretR F hr hk dX7_ofScene_14 (by subst e4; first | with_reducible rfl | (simp only [oi1n, nI_add, pk_mul, bI, and_true, true_and, and_false, false_and, and_self, or_true, true_or, or_false, false_or, or_self, not_true_eq_false, not_false_eq_true, if_true, if_false, ↓reduceIte] <;> rfl) | rfl | (simp [bI, oi1, nI_succ]; done))
set_option maxHeartbeats 4000000 in
set_option maxRecDepth 100000 in
theorem c_X7_hurtParts (l : Launch) (E : EV) {a : Nat → Nat} {th sm ln pl : Int32} {hs : Int64} {s S b w : Nat → Int32} {R H C D : Nat} {sn : Nat → Nat} {p d : Int32} (hM : MI s R H C D sn)  : Rd l E yX7_hurtParts cX7_hurtParts 6 (some .int) 1 22 [.ref (a 0), .int p, .int d] (mdW E a th sm ln pl hs s S b w) (some (.int (paM s p d H))) := by
  refine Rd.mk0 (by decide) (Nat.le_of_ble_eq_true rfl) ?_
  intro pP eE sS mM aA bB mt cC F hr hk hE ls hl
  have hl : lv_has ls 6 [(0, .ref (a 0)), (1, .int p), (2, .int d)] := hl
  have hM1 := hM
  obtain ⟨hD0, hD, hkR, hR, hh, hH, hs4, hC, hsn⟩ := hM1
  refine V.iconst (v := nI 0) F dX7_hurtParts_0 (by decide) ?_
  refine V.istore_n (lv' := [(3, .int (nI 0)), (0, .ref (a 0)), (1, .int p), (2, .int d)]) F dX7_hurtParts_1 rfl hl (by decide) rfl (fun ls hl => ?_)
  refine V.iconst (v := nI 0) F dX7_hurtParts_2 (by decide) ?_
  refine V.istore (lv' := [(4, .int (nI 0)), (3, .int (nI 0)), (0, .ref (a 0)), (1, .int p), (2, .int d)]) F dX7_hurtParts_3 hl (by decide) rfl (fun ls hl => ?_)
  have h2 : nI 0 = nI 0 := (by first | with_reducible rfl | (simp only [paM, oi1n, nI_add, pk_mul, bI, and_true, true_and, and_false, false_and, and_self, or_true, true_or, or_false, false_or, or_self, not_true_eq_false, not_false_eq_true, if_true, if_false, ↓reduceIte] <;> rfl) | rfl | (simp [paM, bI, oi1, nI_succ]; done))
  have h3 : paM s p d 0 = nI 0 := (by first | with_reducible rfl | (simp only [paM, oi1n, nI_add, pk_mul, bI, and_true, true_and, and_false, false_and, and_self, or_true, true_or, or_false, false_or, or_self, not_true_eq_false, not_false_eq_true, if_true, if_false, ↓reduceIte] <;> rfl) | rfl | (simp [paM, bI, oi1, nI_succ]; done))
  refine V.loop (N := H) (k0 := 0) (I := (fun j1 : Nat => [(4, .int (nI j1)), (3, .int (paM s p d j1)), (0, .ref (a 0)), (1, .int p), (2, .int d)])) (J := fun _ => True) (Nat.zero_le _) trivial (lv_sub hl [0, 1, 2, 3, 4] (by rw [h2, h3]; rfl)) ?_
  intro j1 j1_N j1_J ihj1 ls hl
  have hl : lv_has ls 6 [(4, .int (nI j1)), (3, .int (paM s p d j1)), (0, .ref (a 0)), (1, .int p), (2, .int d)] := hl
  refine V.iload F dX7_hurtParts_5 (lv_at hl 0 rfl) ?_
  refine V.aload_n F dX7_hurtParts_7 rfl (lv_at hl 2 rfl) ?_
  refine V.getf F hE gX7_7 0 rfl rfl dX7_hurtParts_8 ?_
  refine V.bipush (v := nI 9) F dX7_hurtParts_11 (by decide) ?_
  refine V.iadn (i := 9) F hE 1 rfl (by omega) (by omega) dX7_hurtParts_13 (fun z4 e4 => ?_)
  obtain rfl : z4 = nI H := e4.trans hh
  refine V.icmp_ge (tgt := 81) F dX7_hurtParts_14 (by decide) (fun c5 c5' => ?_) (fun c5 c5' => ?_)
  · skip
    have j1_eq := ((lpL rfl (by omega) j1_N).1 c5).symm
    subst j1_eq
    refine V.iload_n F dX7_hurtParts_81 rfl (lv_at hl 1 rfl) ?_
    exact V.iretR F hr hk dX7_hurtParts_82 (by first | with_reducible rfl | (simp only [paM, c5, c5', oi1n, nI_add, pk_mul, bI, and_true, true_and, and_false, false_and, and_self, or_true, true_or, or_false, false_or, or_self, not_true_eq_false, not_false_eq_true, if_true, if_false, ↓reduceIte] <;> rfl) | rfl | (simp [paM, c5, c5', bI, oi1, nI_succ]; done))
  · skip
    have j1_lt := (lpL rfl (by omega) j1_N).2 c5
    refine V.aload_n F dX7_hurtParts_17 rfl (lv_at hl 2 rfl) ?_
    refine V.iload F dX7_hurtParts_18 (lv_at hl 0 rfl) ?_
    refine V.iconst (v := nI 0) F dX7_hurtParts_20 (by decide) ?_
    refine V.rdV (q0 := 0) F hE (c_X7_ofInjury l E (by omega) (by omega)) (kX7_37 F.2.2.2.2 ⟨Nat.le_of_ble_eq_true rfl, Nat.le_of_ble_eq_true rfl⟩) rfl rfl [0, 1, 2, 3, 4] rfl rfl hl.1 (Nat.le_of_ble_eq_true rfl) dX7_hurtParts_21 rfl ?_
    refine V.topi (fun z6 e6 => ?_)
    refine V.iload_n F dX7_hurtParts_24 rfl (lv_at hl 3 rfl) ?_
    refine V.icmp_ne (tgt := 53) F dX7_hurtParts_25 (by decide) (fun c7 => ?_) (fun c7 => ?_)
    · skip
      refine V.iconst (v := nI 0) F dX7_hurtParts_53 (by decide) ?_
      refine V.istore (lv' := [(5, .int (nI 0)), (4, .int (nI j1)), (3, .int (paM s p d j1)), (0, .ref (a 0)), (1, .int p), (2, .int d)]) F dX7_hurtParts_54 hl (by decide) rfl (fun ls hl => ?_)
      refine V.iload_n F dX7_hurtParts_56 rfl (lv_at hl 2 rfl) ?_
      refine V.iload F dX7_hurtParts_57 (lv_at hl 0 rfl) ?_
      refine V.if_eq (tgt := 72) F dX7_hurtParts_59 (by decide) (fun _ => ?_) (fun h => absurd h (by decide))
      refine V.iconst (v := nI 0) F dX7_hurtParts_72 (by decide) ?_
      refine V.ior F dX7_hurtParts_73 (fun z9 e9 => ?_)
      refine V.istore_n (lv' := [(3, .int z9), (5, .int (nI 0)), (4, .int (nI j1)), (0, .ref (a 0)), (1, .int p), (2, .int d)]) F dX7_hurtParts_74 rfl hl (by decide) rfl (fun ls hl => ?_)
      refine V.iinc (j := 2) (lv' := fun z10 => [(4, .int z10), (3, .int z9), (5, .int (nI 0)), (0, .ref (a 0)), (1, .int p), (2, .int d)]) F dX7_hurtParts_75 hl rfl (by decide) (fun _ => rfl) (fun z10 e10 ls hl => ?_)
      refine V.goto (tgt := 5) F dX7_hurtParts_78 (by decide) ?_
      have h11 : nI (j1 + 1) = z10 := (by subst e6 e9 e10; first | with_reducible rfl | (simp only [paM, c5, c5', c7, oi1n, nI_add, pk_mul, bI, and_true, true_and, and_false, false_and, and_self, or_true, true_or, or_false, false_or, or_self, not_true_eq_false, not_false_eq_true, if_true, if_false, ↓reduceIte] <;> rfl) | rfl | (simp [paM, c5, c5', c7, bI, oi1, nI_succ]; done))
      have h12 : paM s p d (j1 + 1) = z9 := (by subst e6 e9 e10; first | with_reducible rfl | (simp only [paM, c5, c5', c7, oi1n, nI_add, pk_mul, bI, and_true, true_and, and_false, false_and, and_self, or_true, true_or, or_false, false_or, or_self, not_true_eq_false, not_false_eq_true, if_true, if_false, ↓reduceIte] <;> rfl) | rfl | (simp [paM, c5, c5', c7, bI, oi1, nI_succ]; done))
      exact ihj1 j1_lt trivial _ (lv_sub hl [0, 1, 3, 4, 5] (by rw [h11, h12]; rfl))
    · skip
      refine V.iload_n F dX7_hurtParts_28 rfl (lv_at hl 4 rfl) ?_
      refine V.aload_n F dX7_hurtParts_29 rfl (lv_at hl 2 rfl) ?_
      refine V.iload F dX7_hurtParts_30 (lv_at hl 0 rfl) ?_
      refine V.iconst (v := nI 2) F dX7_hurtParts_32 (by decide) ?_
      refine V.rdV (q0 := 0) F hE (c_X7_ofInjury l E (by omega) (by omega)) (kX7_37 F.2.2.2.2 ⟨Nat.le_of_ble_eq_true rfl, Nat.le_of_ble_eq_true rfl⟩) rfl rfl [0, 1, 2, 3, 4] rfl rfl hl.1 (Nat.le_of_ble_eq_true rfl) dX7_hurtParts_33 rfl ?_
      refine V.topi (fun z13 e13 => ?_)
      refine V.aload_n F dX7_hurtParts_36 rfl (lv_at hl 2 rfl) ?_
      refine V.iload F dX7_hurtParts_37 (lv_at hl 0 rfl) ?_
      refine V.iconst (v := nI 3) F dX7_hurtParts_39 (by decide) ?_
      refine V.rdV (q0 := 0) F hE (c_X7_ofInjury l E (by omega) (by omega)) (kX7_37 F.2.2.2.2 ⟨Nat.le_of_ble_eq_true rfl, Nat.le_of_ble_eq_true rfl⟩) rfl rfl [0, 1, 2, 3, 4] rfl rfl hl.1 (Nat.le_of_ble_eq_true rfl) dX7_hurtParts_40 rfl ?_
      refine V.topi (fun z14 e14 => ?_)
      refine V.rdS F hE (c_X7_within l E) (kX7_26 F.2.2.2.2 ⟨Nat.le_of_ble_eq_true rfl, Nat.le_of_ble_eq_true rfl⟩) [] rfl rfl hl.1 (Nat.le_of_ble_eq_true rfl) dX7_hurtParts_43 rfl ?_
      refine V.topi (fun z15 e15 => ?_)
      refine V.if_eqB (tgt := 53) F e15 dX7_hurtParts_46 (by decide) (fun c16 => ?_) (fun c16 => ?_)
      · skip
        refine V.iconst (v := nI 0) F dX7_hurtParts_53 (by decide) ?_
        refine V.istore (lv' := [(5, .int (nI 0)), (4, .int (nI j1)), (3, .int (paM s p d j1)), (0, .ref (a 0)), (1, .int p), (2, .int d)]) F dX7_hurtParts_54 hl (by decide) rfl (fun ls hl => ?_)
        refine V.iload_n F dX7_hurtParts_56 rfl (lv_at hl 2 rfl) ?_
        refine V.iload F dX7_hurtParts_57 (lv_at hl 0 rfl) ?_
        refine V.if_eq (tgt := 72) F dX7_hurtParts_59 (by decide) (fun _ => ?_) (fun h => absurd h (by decide))
        refine V.iconst (v := nI 0) F dX7_hurtParts_72 (by decide) ?_
        refine V.ior F dX7_hurtParts_73 (fun z18 e18 => ?_)
        refine V.istore_n (lv' := [(3, .int z18), (5, .int (nI 0)), (4, .int (nI j1)), (0, .ref (a 0)), (1, .int p), (2, .int d)]) F dX7_hurtParts_74 rfl hl (by decide) rfl (fun ls hl => ?_)
        refine V.iinc (j := 2) (lv' := fun z19 => [(4, .int z19), (3, .int z18), (5, .int (nI 0)), (0, .ref (a 0)), (1, .int p), (2, .int d)]) F dX7_hurtParts_75 hl rfl (by decide) (fun _ => rfl) (fun z19 e19 ls hl => ?_)
        refine V.goto (tgt := 5) F dX7_hurtParts_78 (by decide) ?_
        have h20 : nI (j1 + 1) = z19 := (by subst e6 e13 e14 e15 e18 e19; first | with_reducible rfl | (simp only [paM, c5, c5', eq_true c7, c16, oi1n, nI_add, pk_mul, bI, and_true, true_and, and_false, false_and, and_self, or_true, true_or, or_false, false_or, or_self, not_true_eq_false, not_false_eq_true, if_true, if_false, ↓reduceIte] <;> rfl) | rfl | (simp [paM, c5, c5', eq_true c7, c16, bI, oi1, nI_succ]; done))
        have h21 : paM s p d (j1 + 1) = z18 := (by subst e6 e13 e14 e15 e18 e19; first | with_reducible rfl | (simp only [paM, c5, c5', eq_true c7, c16, oi1n, nI_add, pk_mul, bI, and_true, true_and, and_false, false_and, and_self, or_true, true_or, or_false, false_or, or_self, not_true_eq_false, not_false_eq_true, if_true, if_false, ↓reduceIte] <;> rfl) | rfl | (simp [paM, c5, c5', eq_true c7, c16, bI, oi1, nI_succ]; done))
        exact ihj1 j1_lt trivial _ (lv_sub hl [0, 1, 3, 4, 5] (by rw [h20, h21]; rfl))
      · skip
        refine V.iconst (v := nI 1) F dX7_hurtParts_49 (by decide) ?_
        refine V.goto (tgt := 54) F dX7_hurtParts_50 (by decide) ?_
        refine V.istore (lv' := [(5, .int (nI 1)), (4, .int (nI j1)), (3, .int (paM s p d j1)), (0, .ref (a 0)), (1, .int p), (2, .int d)]) F dX7_hurtParts_54 hl (by decide) rfl (fun ls hl => ?_)
        refine V.iload_n F dX7_hurtParts_56 rfl (lv_at hl 2 rfl) ?_
        refine V.iload F dX7_hurtParts_57 (lv_at hl 0 rfl) ?_
        refine V.if_eq (tgt := 72) F dX7_hurtParts_59 (by decide) (fun h => absurd h (by decide)) (fun _ => ?_)
        refine V.aload_n F dX7_hurtParts_62 rfl (lv_at hl 3 rfl) ?_
        refine V.iload F dX7_hurtParts_63 (lv_at hl 1 rfl) ?_
        refine V.iconst (v := nI 1) F dX7_hurtParts_65 (by decide) ?_
        refine V.rdV (q0 := 0) F hE (c_X7_ofInjury l E (by omega) (by omega)) (kX7_37 F.2.2.2.2 ⟨Nat.le_of_ble_eq_true rfl, Nat.le_of_ble_eq_true rfl⟩) rfl rfl [0, 1, 2, 3, 4] rfl rfl hl.1 (Nat.le_of_ble_eq_true rfl) dX7_hurtParts_66 rfl ?_
        refine V.topi (fun z23 e23 => ?_)
        refine V.goto (tgt := 73) F dX7_hurtParts_69 (by decide) ?_
        refine V.ior F dX7_hurtParts_73 (fun z24 e24 => ?_)
        refine V.istore_n (lv' := [(3, .int z24), (5, .int (nI 1)), (4, .int (nI j1)), (0, .ref (a 0)), (1, .int p), (2, .int d)]) F dX7_hurtParts_74 rfl hl (by decide) rfl (fun ls hl => ?_)
        refine V.iinc (j := 2) (lv' := fun z25 => [(4, .int z25), (3, .int z24), (5, .int (nI 1)), (0, .ref (a 0)), (1, .int p), (2, .int d)]) F dX7_hurtParts_75 hl rfl (by decide) (fun _ => rfl) (fun z25 e25 ls hl => ?_)
        refine V.goto (tgt := 5) F dX7_hurtParts_78 (by decide) ?_
        have h26 : nI (j1 + 1) = z25 := (by subst e6 e13 e14 e15 e23 e24 e25; first | with_reducible rfl | (simp only [paM, c5, c5', eq_true c7, eq_true c16, oi1n, nI_add, pk_mul, bI, and_true, true_and, and_false, false_and, and_self, or_true, true_or, or_false, false_or, or_self, not_true_eq_false, not_false_eq_true, if_true, if_false, ↓reduceIte] <;> rfl) | rfl | (simp [paM, c5, c5', eq_true c7, eq_true c16, bI, oi1, nI_succ]; done))
        have h27 : paM s p d (j1 + 1) = z24 := (by subst e6 e13 e14 e15 e23 e24 e25; first | with_reducible rfl | (simp only [paM, c5, c5', eq_true c7, eq_true c16, oi1n, nI_add, pk_mul, bI, and_true, true_and, and_false, false_and, and_self, or_true, true_or, or_false, false_or, or_self, not_true_eq_false, not_false_eq_true, if_true, if_false, ↓reduceIte] <;> rfl) | rfl | (simp [paM, c5, c5', eq_true c7, eq_true c16, bI, oi1, nI_succ]; done))
        exact ihj1 j1_lt trivial _ (lv_sub hl [0, 1, 3, 4, 5] (by rw [h26, h27]; rfl))
set_option maxHeartbeats 4000000 in
set_option maxRecDepth 100000 in
theorem c_X7_lastHurtDay (l : Launch) (E : EV) {a : Nat → Nat} {th sm ln pl : Int32} {hs : Int64} {s S b w : Nat → Int32} {R H C D : Nat} {sn : Nat → Nat} {p : Int32} (hM : MI s R H C D sn)  : Rd l E yX7_lastHurtDay cX7_lastHurtDay 5 (some .int) 1 22 [.ref (a 0), .int p] (mdW E a th sm ln pl hs s S b w) (some (.int (laM s p H))) := by
  refine Rd.mk0 (by decide) (Nat.le_of_ble_eq_true rfl) ?_
  intro pP eE sS mM aA bB mt cC F hr hk hE ls hl
  have hl : lv_has ls 5 [(0, .ref (a 0)), (1, .int p)] := hl
  have hM1 := hM
  obtain ⟨hD0, hD, hkR, hR, hh, hH, hs4, hC, hsn⟩ := hM1
  refine V.iconst (v := (-1)) F dX7_lastHurtDay_0 (by decide) ?_
  refine V.istore_n (lv' := [(2, .int (-1)), (0, .ref (a 0)), (1, .int p)]) F dX7_lastHurtDay_1 rfl hl (by decide) rfl (fun ls hl => ?_)
  refine V.iconst (v := nI 0) F dX7_lastHurtDay_2 (by decide) ?_
  refine V.istore_n (lv' := [(3, .int (nI 0)), (2, .int (-1)), (0, .ref (a 0)), (1, .int p)]) F dX7_lastHurtDay_3 rfl hl (by decide) rfl (fun ls hl => ?_)
  have h2 : nI 0 = nI 0 := (by first | with_reducible rfl | (simp only [laM, oi1n, nI_add, pk_mul, bI, and_true, true_and, and_false, false_and, and_self, or_true, true_or, or_false, false_or, or_self, not_true_eq_false, not_false_eq_true, if_true, if_false, ↓reduceIte] <;> rfl) | rfl | (simp [laM, bI, oi1, nI_succ]; done))
  have h3 : laM s p 0 = (-1) := (by first | with_reducible rfl | (simp only [laM, oi1n, nI_add, pk_mul, bI, and_true, true_and, and_false, false_and, and_self, or_true, true_or, or_false, false_or, or_self, not_true_eq_false, not_false_eq_true, if_true, if_false, ↓reduceIte] <;> rfl) | rfl | (simp [laM, bI, oi1, nI_succ]; done))
  refine V.loop (N := H) (k0 := 0) (I := (fun j1 : Nat => [(3, .int (nI j1)), (2, .int (laM s p j1)), (0, .ref (a 0)), (1, .int p)])) (J := fun _ => True) (Nat.zero_le _) trivial (lv_sub hl [0, 1, 2, 3] (by rw [h2, h3]; rfl)) ?_
  intro j1 j1_N j1_J ihj1 ls hl
  have hl : lv_has ls 5 [(3, .int (nI j1)), (2, .int (laM s p j1)), (0, .ref (a 0)), (1, .int p)] := hl
  refine V.iload_n F dX7_lastHurtDay_4 rfl (lv_at hl 0 rfl) ?_
  refine V.aload_n F dX7_lastHurtDay_5 rfl (lv_at hl 2 rfl) ?_
  refine V.getf F hE gX7_7 0 rfl rfl dX7_lastHurtDay_6 ?_
  refine V.bipush (v := nI 9) F dX7_lastHurtDay_9 (by decide) ?_
  refine V.iadn (i := 9) F hE 1 rfl (by omega) (by omega) dX7_lastHurtDay_11 (fun z4 e4 => ?_)
  obtain rfl : z4 = nI H := e4.trans hh
  refine V.icmp_ge (tgt := 88) F dX7_lastHurtDay_12 (by decide) (fun c5 c5' => ?_) (fun c5 c5' => ?_)
  · skip
    have j1_eq := ((lpL rfl (by omega) j1_N).1 c5).symm
    subst j1_eq
    refine V.iload_n F dX7_lastHurtDay_88 rfl (lv_at hl 1 rfl) ?_
    exact V.iretR F hr hk dX7_lastHurtDay_89 (by first | with_reducible rfl | (simp only [laM, c5, c5', oi1n, nI_add, pk_mul, bI, and_true, true_and, and_false, false_and, and_self, or_true, true_or, or_false, false_or, or_self, not_true_eq_false, not_false_eq_true, if_true, if_false, ↓reduceIte] <;> rfl) | rfl | (simp [laM, c5, c5', bI, oi1, nI_succ]; done))
  · skip
    have j1_lt := (lpL rfl (by omega) j1_N).2 c5
    refine V.aload_n F dX7_lastHurtDay_15 rfl (lv_at hl 2 rfl) ?_
    refine V.iload_n F dX7_lastHurtDay_16 rfl (lv_at hl 0 rfl) ?_
    refine V.iconst (v := nI 0) F dX7_lastHurtDay_17 (by decide) ?_
    refine V.rdV (q0 := 0) F hE (c_X7_ofInjury l E (by omega) (by omega)) (kX7_37 F.2.2.2.2 ⟨Nat.le_of_ble_eq_true rfl, Nat.le_of_ble_eq_true rfl⟩) rfl rfl [0, 1, 2, 3, 4] rfl rfl hl.1 (Nat.le_of_ble_eq_true rfl) dX7_lastHurtDay_18 rfl ?_
    refine V.topi (fun z6 e6 => ?_)
    refine V.iload_n F dX7_lastHurtDay_21 rfl (lv_at hl 3 rfl) ?_
    refine V.icmp_ne (tgt := 53) F dX7_lastHurtDay_22 (by decide) (fun c7 => ?_) (fun c7 => ?_)
    · skip
      refine V.iconst (v := nI 0) F dX7_lastHurtDay_53 (by decide) ?_
      refine V.istore (lv' := [(4, .int (nI 0)), (3, .int (nI j1)), (2, .int (laM s p j1)), (0, .ref (a 0)), (1, .int p)]) F dX7_lastHurtDay_54 hl (by decide) rfl (fun ls hl => ?_)
      refine V.iload F dX7_lastHurtDay_56 (lv_at hl 0 rfl) ?_
      refine V.if_eq (tgt := 80) F dX7_lastHurtDay_58 (by decide) (fun _ => ?_) (fun h => absurd h (by decide))
      refine V.iload_n F dX7_lastHurtDay_80 rfl (lv_at hl 2 rfl) ?_
      refine V.istore_n (lv' := [(2, .int (laM s p j1)), (4, .int (nI 0)), (3, .int (nI j1)), (0, .ref (a 0)), (1, .int p)]) F dX7_lastHurtDay_81 rfl hl (by decide) rfl (fun ls hl => ?_)
      refine V.iinc (j := 2) (lv' := fun z9 => [(3, .int z9), (2, .int (laM s p j1)), (4, .int (nI 0)), (0, .ref (a 0)), (1, .int p)]) F dX7_lastHurtDay_82 hl rfl (by decide) (fun _ => rfl) (fun z9 e9 ls hl => ?_)
      refine V.goto (tgt := 4) F dX7_lastHurtDay_85 (by decide) ?_
      have h10 : nI (j1 + 1) = z9 := (by subst e6 e9; first | with_reducible rfl | (simp only [laM, c5, c5', c7, oi1n, nI_add, pk_mul, bI, and_true, true_and, and_false, false_and, and_self, or_true, true_or, or_false, false_or, or_self, not_true_eq_false, not_false_eq_true, if_true, if_false, ↓reduceIte] <;> rfl) | rfl | (simp [laM, c5, c5', c7, bI, oi1, nI_succ]; done))
      have h11 : laM s p (j1 + 1) = laM s p j1 := (by subst e6 e9; first | with_reducible rfl | (simp only [laM, c5, c5', c7, oi1n, nI_add, pk_mul, bI, and_true, true_and, and_false, false_and, and_self, or_true, true_or, or_false, false_or, or_self, not_true_eq_false, not_false_eq_true, if_true, if_false, ↓reduceIte] <;> rfl) | rfl | (simp [laM, c5, c5', c7, bI, oi1, nI_succ]; done))
      exact ihj1 j1_lt trivial _ (lv_sub hl [0, 1, 3, 4] (by rw [h10, h11]; rfl))
    · skip
      refine V.aload_n F dX7_lastHurtDay_25 rfl (lv_at hl 2 rfl) ?_
      refine V.getf F hE gX7_7 0 rfl rfl dX7_lastHurtDay_26 ?_
      refine V.iconst (v := nI 0) F dX7_lastHurtDay_29 (by decide) ?_
      refine V.iadn (i := 0) F hE 1 rfl (by omega) (by omega) dX7_lastHurtDay_30 (fun z12 e12 => ?_)
      refine V.aload_n F dX7_lastHurtDay_31 rfl (lv_at hl 2 rfl) ?_
      refine V.iload_n F dX7_lastHurtDay_32 rfl (lv_at hl 0 rfl) ?_
      refine V.iconst (v := nI 2) F dX7_lastHurtDay_33 (by decide) ?_
      refine V.rdV (q0 := 0) F hE (c_X7_ofInjury l E (by omega) (by omega)) (kX7_37 F.2.2.2.2 ⟨Nat.le_of_ble_eq_true rfl, Nat.le_of_ble_eq_true rfl⟩) rfl rfl [0, 1, 2, 3, 4] rfl rfl hl.1 (Nat.le_of_ble_eq_true rfl) dX7_lastHurtDay_34 rfl ?_
      refine V.topi (fun z13 e13 => ?_)
      refine V.aload_n F dX7_lastHurtDay_37 rfl (lv_at hl 2 rfl) ?_
      refine V.iload_n F dX7_lastHurtDay_38 rfl (lv_at hl 0 rfl) ?_
      refine V.iconst (v := nI 3) F dX7_lastHurtDay_39 (by decide) ?_
      refine V.rdV (q0 := 0) F hE (c_X7_ofInjury l E (by omega) (by omega)) (kX7_37 F.2.2.2.2 ⟨Nat.le_of_ble_eq_true rfl, Nat.le_of_ble_eq_true rfl⟩) rfl rfl [0, 1, 2, 3, 4] rfl rfl hl.1 (Nat.le_of_ble_eq_true rfl) dX7_lastHurtDay_40 rfl ?_
      refine V.topi (fun z14 e14 => ?_)
      refine V.rdS F hE (c_X7_within l E) (kX7_26 F.2.2.2.2 ⟨Nat.le_of_ble_eq_true rfl, Nat.le_of_ble_eq_true rfl⟩) [] rfl rfl hl.1 (Nat.le_of_ble_eq_true rfl) dX7_lastHurtDay_43 rfl ?_
      refine V.topi (fun z15 e15 => ?_)
      refine V.if_eqB (tgt := 53) F e15 dX7_lastHurtDay_46 (by decide) (fun c16 => ?_) (fun c16 => ?_)
      · skip
        refine V.iconst (v := nI 0) F dX7_lastHurtDay_53 (by decide) ?_
        refine V.istore (lv' := [(4, .int (nI 0)), (3, .int (nI j1)), (2, .int (laM s p j1)), (0, .ref (a 0)), (1, .int p)]) F dX7_lastHurtDay_54 hl (by decide) rfl (fun ls hl => ?_)
        refine V.iload F dX7_lastHurtDay_56 (lv_at hl 0 rfl) ?_
        refine V.if_eq (tgt := 80) F dX7_lastHurtDay_58 (by decide) (fun _ => ?_) (fun h => absurd h (by decide))
        refine V.iload_n F dX7_lastHurtDay_80 rfl (lv_at hl 2 rfl) ?_
        refine V.istore_n (lv' := [(2, .int (laM s p j1)), (4, .int (nI 0)), (3, .int (nI j1)), (0, .ref (a 0)), (1, .int p)]) F dX7_lastHurtDay_81 rfl hl (by decide) rfl (fun ls hl => ?_)
        refine V.iinc (j := 2) (lv' := fun z18 => [(3, .int z18), (2, .int (laM s p j1)), (4, .int (nI 0)), (0, .ref (a 0)), (1, .int p)]) F dX7_lastHurtDay_82 hl rfl (by decide) (fun _ => rfl) (fun z18 e18 ls hl => ?_)
        refine V.goto (tgt := 4) F dX7_lastHurtDay_85 (by decide) ?_
        have h19 : nI (j1 + 1) = z18 := (by subst e6 e12 e13 e14 e15 e18; first | with_reducible rfl | (simp only [laM, c5, c5', eq_true c7, c16, oi1n, nI_add, pk_mul, bI, and_true, true_and, and_false, false_and, and_self, or_true, true_or, or_false, false_or, or_self, not_true_eq_false, not_false_eq_true, if_true, if_false, ↓reduceIte] <;> rfl) | rfl | (simp [laM, c5, c5', eq_true c7, c16, bI, oi1, nI_succ]; done))
        have h20 : laM s p (j1 + 1) = laM s p j1 := (by subst e6 e12 e13 e14 e15 e18; first | with_reducible rfl | (simp only [laM, c5, c5', eq_true c7, c16, oi1n, nI_add, pk_mul, bI, and_true, true_and, and_false, false_and, and_self, or_true, true_or, or_false, false_or, or_self, not_true_eq_false, not_false_eq_true, if_true, if_false, ↓reduceIte] <;> rfl) | rfl | (simp [laM, c5, c5', eq_true c7, c16, bI, oi1, nI_succ]; done))
        exact ihj1 j1_lt trivial _ (lv_sub hl [0, 1, 3, 4] (by rw [h19, h20]; rfl))
      · skip
        refine V.iconst (v := nI 1) F dX7_lastHurtDay_49 (by decide) ?_
        refine V.goto (tgt := 54) F dX7_lastHurtDay_50 (by decide) ?_
        refine V.istore (lv' := [(4, .int (nI 1)), (3, .int (nI j1)), (2, .int (laM s p j1)), (0, .ref (a 0)), (1, .int p)]) F dX7_lastHurtDay_54 hl (by decide) rfl (fun ls hl => ?_)
        refine V.iload F dX7_lastHurtDay_56 (lv_at hl 0 rfl) ?_
        refine V.if_eq (tgt := 80) F dX7_lastHurtDay_58 (by decide) (fun h => absurd h (by decide)) (fun _ => ?_)
        refine V.aload_n F dX7_lastHurtDay_61 rfl (lv_at hl 3 rfl) ?_
        refine V.iload_n F dX7_lastHurtDay_62 rfl (lv_at hl 1 rfl) ?_
        refine V.iconst (v := nI 3) F dX7_lastHurtDay_63 (by decide) ?_
        refine V.rdV (q0 := 0) F hE (c_X7_ofInjury l E (by omega) (by omega)) (kX7_37 F.2.2.2.2 ⟨Nat.le_of_ble_eq_true rfl, Nat.le_of_ble_eq_true rfl⟩) rfl rfl [0, 1, 2, 3, 4] rfl rfl hl.1 (Nat.le_of_ble_eq_true rfl) dX7_lastHurtDay_64 rfl ?_
        refine V.topi (fun z22 e22 => ?_)
        refine V.iload_n F dX7_lastHurtDay_67 rfl (lv_at hl 2 rfl) ?_
        refine V.icmp_le (tgt := 80) F dX7_lastHurtDay_68 (by decide) (fun c23 c23' => ?_) (fun c23 c23' => ?_)
        · skip
          refine V.iload_n F dX7_lastHurtDay_80 rfl (lv_at hl 2 rfl) ?_
          refine V.istore_n (lv' := [(2, .int (laM s p j1)), (4, .int (nI 1)), (3, .int (nI j1)), (0, .ref (a 0)), (1, .int p)]) F dX7_lastHurtDay_81 rfl hl (by decide) rfl (fun ls hl => ?_)
          refine V.iinc (j := 2) (lv' := fun z24 => [(3, .int z24), (2, .int (laM s p j1)), (4, .int (nI 1)), (0, .ref (a 0)), (1, .int p)]) F dX7_lastHurtDay_82 hl rfl (by decide) (fun _ => rfl) (fun z24 e24 ls hl => ?_)
          refine V.goto (tgt := 4) F dX7_lastHurtDay_85 (by decide) ?_
          have h25 : nI (j1 + 1) = z24 := (by subst e6 e12 e13 e14 e15 e22 e24; first | with_reducible rfl | (simp only [laM, c5, c5', eq_true c7, eq_true c16, c23, c23', oi1n, nI_add, pk_mul, bI, and_true, true_and, and_false, false_and, and_self, or_true, true_or, or_false, false_or, or_self, not_true_eq_false, not_false_eq_true, if_true, if_false, ↓reduceIte] <;> rfl) | rfl | (simp [laM, c5, c5', eq_true c7, eq_true c16, c23, c23', bI, oi1, nI_succ]; done))
          have h26 : laM s p (j1 + 1) = laM s p j1 := (by subst e6 e12 e13 e14 e15 e22 e24; first | with_reducible rfl | (simp only [laM, c5, c5', eq_true c7, eq_true c16, c23, c23', oi1n, nI_add, pk_mul, bI, and_true, true_and, and_false, false_and, and_self, or_true, true_or, or_false, false_or, or_self, not_true_eq_false, not_false_eq_true, if_true, if_false, ↓reduceIte] <;> rfl) | rfl | (simp [laM, c5, c5', eq_true c7, eq_true c16, c23, c23', bI, oi1, nI_succ]; done))
          exact ihj1 j1_lt trivial _ (lv_sub hl [0, 1, 3, 4] (by rw [h25, h26]; rfl))
        · skip
          refine V.aload_n F dX7_lastHurtDay_71 rfl (lv_at hl 3 rfl) ?_
          refine V.iload_n F dX7_lastHurtDay_72 rfl (lv_at hl 1 rfl) ?_
          refine V.iconst (v := nI 3) F dX7_lastHurtDay_73 (by decide) ?_
          refine V.rdV (q0 := 0) F hE (c_X7_ofInjury l E (by omega) (by omega)) (kX7_37 F.2.2.2.2 ⟨Nat.le_of_ble_eq_true rfl, Nat.le_of_ble_eq_true rfl⟩) rfl rfl [0, 1, 2, 3, 4] rfl rfl hl.1 (Nat.le_of_ble_eq_true rfl) dX7_lastHurtDay_74 rfl ?_
          refine V.topi (fun z27 e27 => ?_)
          refine V.goto (tgt := 81) F dX7_lastHurtDay_77 (by decide) ?_
          refine V.istore_n (lv' := [(2, .int z27), (4, .int (nI 1)), (3, .int (nI j1)), (0, .ref (a 0)), (1, .int p)]) F dX7_lastHurtDay_81 rfl hl (by decide) rfl (fun ls hl => ?_)
          refine V.iinc (j := 2) (lv' := fun z28 => [(3, .int z28), (2, .int z27), (4, .int (nI 1)), (0, .ref (a 0)), (1, .int p)]) F dX7_lastHurtDay_82 hl rfl (by decide) (fun _ => rfl) (fun z28 e28 ls hl => ?_)
          refine V.goto (tgt := 4) F dX7_lastHurtDay_85 (by decide) ?_
          have h29 : nI (j1 + 1) = z28 := (by subst e6 e12 e13 e14 e15 e22 e27 e28; first | with_reducible rfl | (simp only [laM, c5, c5', eq_true c7, eq_true c16, c23, c23', oi1n, nI_add, pk_mul, bI, and_true, true_and, and_false, false_and, and_self, or_true, true_or, or_false, false_or, or_self, not_true_eq_false, not_false_eq_true, if_true, if_false, ↓reduceIte] <;> rfl) | rfl | (simp [laM, c5, c5', eq_true c7, eq_true c16, c23, c23', bI, oi1, nI_succ]; done))
          have h30 : laM s p (j1 + 1) = z27 := (by subst e6 e12 e13 e14 e15 e22 e27 e28; first | with_reducible rfl | (simp only [laM, c5, c5', eq_true c7, eq_true c16, c23, c23', oi1n, nI_add, pk_mul, bI, and_true, true_and, and_false, false_and, and_self, or_true, true_or, or_false, false_or, or_self, not_true_eq_false, not_false_eq_true, if_true, if_false, ↓reduceIte] <;> rfl) | rfl | (simp [laM, c5, c5', eq_true c7, eq_true c16, c23, c23', bI, oi1, nI_succ]; done))
          exact ihj1 j1_lt trivial _ (lv_sub hl [0, 1, 3, 4] (by rw [h29, h30]; rfl))
set_option maxHeartbeats 4000000 in
set_option maxRecDepth 100000 in
theorem c_X7_isBarred (l : Launch) (E : EV) {a : Nat → Nat} {th sm ln pl : Int32} {hs : Int64} {s S b w : Nat → Int32} {R H C D : Nat} {sn : Nat → Nat} {p k d : Int32} (hM : MI s R H C D sn)  : Rd l E yX7_isBarred cX7_isBarred 4 (some .boolean) 2 47 [.ref (a 0), .int p, .int k, .int d] (mdW E a th sm ln pl hs s S b w) (some (.int (bI (¬ paM s p d H &&& bpM k = nI 0)))) := by
  refine Rd.mk0 (by decide) (Nat.le_of_ble_eq_true rfl) ?_
  intro pP eE sS mM aA bB mt cC F hr hk hE ls hl
  have hl : lv_has ls 4 [(0, .ref (a 0)), (1, .int p), (2, .int k), (3, .int d)] := hl
  have hM1 := hM
  obtain ⟨hD0, hD, hkR, hR, hh, hH, hs4, hC, hsn⟩ := hM1
  refine V.aload_n F dX7_isBarred_0 rfl (lv_at hl 0 rfl) ?_
  refine V.iload_n F dX7_isBarred_1 rfl (lv_at hl 1 rfl) ?_
  refine V.iload_n F dX7_isBarred_2 rfl (lv_at hl 3 rfl) ?_
  refine V.rdV (q0 := 0) F hE (c_X7_hurtParts l E (by first | assumption | omega)) (kX7_41 F.2.2.2.2 ⟨Nat.le_of_ble_eq_true rfl, Nat.le_of_ble_eq_true rfl⟩) rfl rfl [0, 1, 2, 3, 4] rfl rfl hl.1 (Nat.le_of_ble_eq_true rfl) dX7_isBarred_3 rfl ?_
  refine V.topi (fun z1 e1 => ?_)
  refine V.iload_n F dX7_isBarred_6 rfl (lv_at hl 2 rfl) ?_
  refine V.rdS F hE (c_X7_barringParts l E) (kX7_44 F.2.2.2.2 ⟨Nat.le_of_ble_eq_true rfl, Nat.le_of_ble_eq_true rfl⟩) [] rfl rfl hl.1 (Nat.le_of_ble_eq_true rfl) dX7_isBarred_7 rfl ?_
  refine V.topi (fun z2 e2 => ?_)
  refine V.iand F dX7_isBarred_10 (fun z3 e3 => ?_)
  refine V.if_eq (tgt := 18) F dX7_isBarred_11 (by decide) (fun c4 => ?_) (fun c4 => ?_)
  · skip
    rw [← nI_0] at c4
    refine V.iconst (v := nI 0) F dX7_isBarred_18 (by decide) ?_
    exact V.zretR F hr hk dX7_isBarred_19 (nb_bI _) (by subst e1 e2 e3; first | with_reducible rfl | (simp only [eq_true c4, oi1n, nI_add, pk_mul, bI, and_true, true_and, and_false, false_and, and_self, or_true, true_or, or_false, false_or, or_self, not_true_eq_false, not_false_eq_true, if_true, if_false, ↓reduceIte] <;> rfl) | rfl | (simp [eq_true c4, bI, oi1, nI_succ]; done))
  · skip
    rw [← nI_0] at c4
    refine V.iconst (v := nI 1) F dX7_isBarred_14 (by decide) ?_
    refine V.goto (tgt := 19) F dX7_isBarred_15 (by decide) ?_
    exact V.zretR F hr hk dX7_isBarred_19 (nb_bI _) (by subst e1 e2 e3; first | with_reducible rfl | (simp only [c4, oi1n, nI_add, pk_mul, bI, and_true, true_and, and_false, false_and, and_self, or_true, true_or, or_false, false_or, or_self, not_true_eq_false, not_false_eq_true, if_true, if_false, ↓reduceIte] <;> rfl) | rfl | (simp [c4, bI, oi1, nI_succ]; done))
set_option maxHeartbeats 4000000 in
set_option maxRecDepth 100000 in
theorem c_X7_barredKinds (l : Launch) (E : EV) {a : Nat → Nat} {th sm ln pl : Int32} {hs : Int64} {s S b w : Nat → Int32} {R H C D : Nat} {sn : Nat → Nat} {p : Int32} (hM : MI s R H C D sn)  : Rd l E yX7_barredKinds cX7_barredKinds 4 (some .int) 3 70 [.ref (a 0), .int p] (mdW E a th sm ln pl hs s S b w) (some (.int (bkM s H p 6))) := by
  refine Rd.mk0 (by decide) (Nat.le_of_ble_eq_true rfl) ?_
  intro pP eE sS mM aA bB mt cC F hr hk hE ls hl
  have hl : lv_has ls 4 [(0, .ref (a 0)), (1, .int p)] := hl
  have hM1 := hM
  obtain ⟨hD0, hD, hkR, hR, hh, hH, hs4, hC, hsn⟩ := hM1
  refine V.iconst (v := nI 0) F dX7_barredKinds_0 (by decide) ?_
  refine V.istore_n (lv' := [(2, .int (nI 0)), (0, .ref (a 0)), (1, .int p)]) F dX7_barredKinds_1 rfl hl (by decide) rfl (fun ls hl => ?_)
  refine V.iconst (v := nI 0) F dX7_barredKinds_2 (by decide) ?_
  refine V.istore_n (lv' := [(3, .int (nI 0)), (2, .int (nI 0)), (0, .ref (a 0)), (1, .int p)]) F dX7_barredKinds_3 rfl hl (by decide) rfl (fun ls hl => ?_)
  have h2 : nI 0 = nI 0 := (by first | with_reducible rfl | (simp only [bkM, oi1n, nI_add, pk_mul, bI, and_true, true_and, and_false, false_and, and_self, or_true, true_or, or_false, false_or, or_self, not_true_eq_false, not_false_eq_true, if_true, if_false, ↓reduceIte] <;> rfl) | rfl | (simp [bkM, bI, oi1, nI_succ]; done))
  have h3 : bkM s H p 0 = nI 0 := (by first | with_reducible rfl | (simp only [bkM, oi1n, nI_add, pk_mul, bI, and_true, true_and, and_false, false_and, and_self, or_true, true_or, or_false, false_or, or_self, not_true_eq_false, not_false_eq_true, if_true, if_false, ↓reduceIte] <;> rfl) | rfl | (simp [bkM, bI, oi1, nI_succ]; done))
  refine V.loop (N := 6) (k0 := 0) (I := (fun j1 : Nat => [(3, .int (nI j1)), (2, .int (bkM s H p j1)), (0, .ref (a 0)), (1, .int p)])) (J := fun _ => True) (Nat.zero_le _) trivial (lv_sub hl [0, 1, 2, 3] (by rw [h2, h3]; rfl)) ?_
  intro j1 j1_N j1_J ihj1 ls hl
  have hl : lv_has ls 4 [(3, .int (nI j1)), (2, .int (bkM s H p j1)), (0, .ref (a 0)), (1, .int p)] := hl
  refine V.iload_n F dX7_barredKinds_4 rfl (lv_at hl 0 rfl) ?_
  refine V.bipush (v := nI 6) F dX7_barredKinds_5 (by decide) ?_
  refine V.icmp_ge (tgt := 41) F dX7_barredKinds_7 (by decide) (fun c4 c4' => ?_) (fun c4 c4' => ?_)
  · skip
    have j1_eq := ((lpL (by rfl) (by decide) j1_N).1 c4).symm
    subst j1_eq
    refine V.iload_n F dX7_barredKinds_41 rfl (lv_at hl 1 rfl) ?_
    exact V.iretR F hr hk dX7_barredKinds_42 (by first | with_reducible rfl | (simp only [bkM, c4, c4', oi1n, nI_add, pk_mul, bI, and_true, true_and, and_false, false_and, and_self, or_true, true_or, or_false, false_or, or_self, not_true_eq_false, not_false_eq_true, if_true, if_false, ↓reduceIte] <;> rfl) | rfl | (simp [bkM, c4, c4', bI, oi1, nI_succ]; done))
  · skip
    have j1_lt := (lpL (by rfl) (by decide) j1_N).2 c4
    refine V.iload_n F dX7_barredKinds_10 rfl (lv_at hl 1 rfl) ?_
    refine V.aload_n F dX7_barredKinds_11 rfl (lv_at hl 2 rfl) ?_
    refine V.iload_n F dX7_barredKinds_12 rfl (lv_at hl 3 rfl) ?_
    refine V.iload_n F dX7_barredKinds_13 rfl (lv_at hl 0 rfl) ?_
    refine V.aload_n F dX7_barredKinds_14 rfl (lv_at hl 2 rfl) ?_
    refine V.getf F hE gX7_7 0 rfl rfl dX7_barredKinds_15 ?_
    refine V.iconst (v := nI 0) F dX7_barredKinds_18 (by decide) ?_
    refine V.iadn (i := 0) F hE 1 rfl (by omega) (by omega) dX7_barredKinds_19 (fun z5 e5 => ?_)
    refine V.rdV (q0 := 0) F hE (c_X7_isBarred l E (by first | assumption | omega)) (kX7_47 F.2.2.2.2 ⟨Nat.le_of_ble_eq_true rfl, Nat.le_of_ble_eq_true rfl⟩) rfl rfl [0, 1, 2, 3, 4] rfl rfl hl.1 (Nat.le_of_ble_eq_true rfl) dX7_barredKinds_20 rfl ?_
    refine V.topi (fun z6 e6 => ?_)
    refine V.if_eqB (tgt := 32) F e6 dX7_barredKinds_23 (by decide) (fun c7 => ?_) (fun c7 => ?_)
    · skip
      rw [Decidable.not_not] at c7
      refine V.iconst (v := nI 0) F dX7_barredKinds_32 (by decide) ?_
      refine V.ior F dX7_barredKinds_33 (fun z8 e8 => ?_)
      refine V.istore_n (lv' := [(2, .int z8), (3, .int (nI j1)), (0, .ref (a 0)), (1, .int p)]) F dX7_barredKinds_34 rfl hl (by decide) rfl (fun ls hl => ?_)
      refine V.iinc (j := 1) (lv' := fun z9 => [(3, .int z9), (2, .int z8), (0, .ref (a 0)), (1, .int p)]) F dX7_barredKinds_35 hl rfl (by decide) (fun _ => rfl) (fun z9 e9 ls hl => ?_)
      refine V.goto (tgt := 4) F dX7_barredKinds_38 (by decide) ?_
      have h10 : nI (j1 + 1) = z9 := (by subst e5 e6 e8 e9; first | with_reducible rfl | (simp only [bkM, c4, c4', eq_true c7, oi1n, nI_add, pk_mul, bI, and_true, true_and, and_false, false_and, and_self, or_true, true_or, or_false, false_or, or_self, not_true_eq_false, not_false_eq_true, if_true, if_false, ↓reduceIte] <;> rfl) | rfl | (simp [bkM, c4, c4', eq_true c7, bI, oi1, nI_succ]; done))
      have h11 : bkM s H p (j1 + 1) = z8 := (by subst e5 e6 e8 e9; first | with_reducible rfl | (simp only [bkM, c4, c4', eq_true c7, oi1n, nI_add, pk_mul, bI, and_true, true_and, and_false, false_and, and_self, or_true, true_or, or_false, false_or, or_self, not_true_eq_false, not_false_eq_true, if_true, if_false, ↓reduceIte] <;> rfl) | rfl | (simp [bkM, c4, c4', eq_true c7, bI, oi1, nI_succ]; done))
      exact ihj1 j1_lt trivial _ (lv_sub hl [0, 1, 2, 3] (by rw [h10, h11]; rfl))
    · skip
      refine V.iconst (v := nI 1) F dX7_barredKinds_26 (by decide) ?_
      refine V.iload_n F dX7_barredKinds_27 rfl (lv_at hl 0 rfl) ?_
      refine V.ishl F dX7_barredKinds_28 (fun z12 e12 => ?_)
      refine V.goto (tgt := 33) F dX7_barredKinds_29 (by decide) ?_
      refine V.ior F dX7_barredKinds_33 (fun z13 e13 => ?_)
      refine V.istore_n (lv' := [(2, .int z13), (3, .int (nI j1)), (0, .ref (a 0)), (1, .int p)]) F dX7_barredKinds_34 rfl hl (by decide) rfl (fun ls hl => ?_)
      refine V.iinc (j := 1) (lv' := fun z14 => [(3, .int z14), (2, .int z13), (0, .ref (a 0)), (1, .int p)]) F dX7_barredKinds_35 hl rfl (by decide) (fun _ => rfl) (fun z14 e14 ls hl => ?_)
      refine V.goto (tgt := 4) F dX7_barredKinds_38 (by decide) ?_
      have h15 : nI (j1 + 1) = z14 := (by subst e5 e6 e12 e13 e14; first | with_reducible rfl | (simp only [bkM, c4, c4', c7, oi1n, nI_add, pk_mul, bI, and_true, true_and, and_false, false_and, and_self, or_true, true_or, or_false, false_or, or_self, not_true_eq_false, not_false_eq_true, if_true, if_false, ↓reduceIte] <;> rfl) | rfl | (simp [bkM, c4, c4', c7, bI, oi1, nI_succ]; done))
      have h16 : bkM s H p (j1 + 1) = z13 := (by subst e5 e6 e12 e13 e14; first | with_reducible rfl | (simp only [bkM, c4, c4', c7, oi1n, nI_add, pk_mul, bI, and_true, true_and, and_false, false_and, and_self, or_true, true_or, or_false, false_or, or_self, not_true_eq_false, not_false_eq_true, if_true, if_false, ↓reduceIte] <;> rfl) | rfl | (simp [bkM, c4, c4', c7, bI, oi1, nI_succ]; done))
      exact ihj1 j1_lt trivial _ (lv_sub hl [0, 1, 2, 3] (by rw [h15, h16]; rfl))
set_option maxHeartbeats 4000000 in
set_option maxRecDepth 100000 in
theorem c_X7_counting (l : Launch) (E : EV) {a : Nat → Nat} {th sm ln pl : Int32} {hs : Int64} {s S b w : Nat → Int32} {R H C D : Nat} {sn : Nat → Nat} {p k r d : Int32} (hM : MI s R H C D sn)  : Rd l E yX7_counting cX7_counting 9 (some .int) 1 22 [.ref (a 0), .int p, .int k, .int r, .int d] (mdW E a th sm ln pl hs s S b w) (some (.int (cnM s p k r d R))) := by
  refine Rd.mk0 (by decide) (Nat.le_of_ble_eq_true rfl) ?_
  intro pP eE sS mM aA bB mt cC F hr hk hE ls hl
  have hl : lv_has ls 9 [(0, .ref (a 0)), (1, .int p), (2, .int k), (3, .int r), (4, .int d)] := hl
  have hM1 := hM
  obtain ⟨hD0, hD, hkR, hR, hh, hH, hs4, hC, hsn⟩ := hM1
  refine V.iconst (v := nI 0) F dX7_counting_0 (by decide) ?_
  refine V.istore (lv' := [(5, .int (nI 0)), (0, .ref (a 0)), (1, .int p), (2, .int k), (3, .int r), (4, .int d)]) F dX7_counting_1 hl (by decide) rfl (fun ls hl => ?_)
  refine V.iconst (v := nI 0) F dX7_counting_3 (by decide) ?_
  refine V.istore (lv' := [(6, .int (nI 0)), (5, .int (nI 0)), (0, .ref (a 0)), (1, .int p), (2, .int k), (3, .int r), (4, .int d)]) F dX7_counting_4 hl (by decide) rfl (fun ls hl => ?_)
  have h2 : nI 0 = nI 0 := (by first | with_reducible rfl | (simp only [cnM, oi1n, nI_add, pk_mul, bI, and_true, true_and, and_false, false_and, and_self, or_true, true_or, or_false, false_or, or_self, not_true_eq_false, not_false_eq_true, if_true, if_false, ↓reduceIte] <;> rfl) | rfl | (simp [cnM, bI, oi1, nI_succ]; done))
  have h3 : cnM s p k r d 0 = nI 0 := (by first | with_reducible rfl | (simp only [cnM, oi1n, nI_add, pk_mul, bI, and_true, true_and, and_false, false_and, and_self, or_true, true_or, or_false, false_or, or_self, not_true_eq_false, not_false_eq_true, if_true, if_false, ↓reduceIte] <;> rfl) | rfl | (simp [cnM, bI, oi1, nI_succ]; done))
  refine V.loop (N := R) (k0 := 0) (I := (fun j1 : Nat => [(6, .int (nI j1)), (5, .int (cnM s p k r d j1)), (0, .ref (a 0)), (1, .int p), (2, .int k), (3, .int r), (4, .int d)])) (J := fun _ => True) (Nat.zero_le _) trivial (lv_sub hl [0, 1, 2, 3, 4, 5, 6] (by rw [h2, h3]; rfl)) ?_
  intro j1 j1_N j1_J ihj1 ls hl
  have hl : lv_has ls 9 [(6, .int (nI j1)), (5, .int (cnM s p k r d j1)), (0, .ref (a 0)), (1, .int p), (2, .int k), (3, .int r), (4, .int d)] := hl
  refine V.iload F dX7_counting_6 (lv_at hl 0 rfl) ?_
  refine V.aload_n F dX7_counting_8 rfl (lv_at hl 2 rfl) ?_
  refine V.getf F hE gX7_7 0 rfl rfl dX7_counting_9 ?_
  refine V.bipush (v := nI 8) F dX7_counting_12 (by decide) ?_
  refine V.iadn (i := 8) F hE 1 rfl (by omega) (by omega) dX7_counting_14 (fun z4 e4 => ?_)
  obtain rfl : z4 = nI R := e4.trans hkR
  refine V.icmp_ge (tgt := 109) F dX7_counting_15 (by decide) (fun c5 c5' => ?_) (fun c5 c5' => ?_)
  · skip
    have j1_eq := ((lpL rfl (by omega) j1_N).1 c5).symm
    subst j1_eq
    refine V.iload F dX7_counting_109 (lv_at hl 1 rfl) ?_
    exact V.iretR F hr hk dX7_counting_111 (by first | with_reducible rfl | (simp only [cnM, c5, c5', oi1n, nI_add, pk_mul, bI, and_true, true_and, and_false, false_and, and_self, or_true, true_or, or_false, false_or, or_self, not_true_eq_false, not_false_eq_true, if_true, if_false, ↓reduceIte] <;> rfl) | rfl | (simp [cnM, c5, c5', bI, oi1, nI_succ]; done))
  · skip
    have j1_lt := (lpL rfl (by omega) j1_N).2 c5
    refine V.aload_n F dX7_counting_18 rfl (lv_at hl 2 rfl) ?_
    refine V.iload F dX7_counting_19 (lv_at hl 0 rfl) ?_
    refine V.iconst (v := nI 0) F dX7_counting_21 (by decide) ?_
    refine V.rdV (q0 := 0) F hE (c_X7_ofRehearsal l E (by omega) (by omega)) (kX7_50 F.2.2.2.2 ⟨Nat.le_of_ble_eq_true rfl, Nat.le_of_ble_eq_true rfl⟩) rfl rfl [0, 1, 2, 3, 4] rfl rfl hl.1 (Nat.le_of_ble_eq_true rfl) dX7_counting_22 rfl ?_
    refine V.topi (fun z6 e6 => ?_)
    refine V.iload_n F dX7_counting_25 rfl (lv_at hl 3 rfl) ?_
    refine V.icmp_ne (tgt := 57) F dX7_counting_26 (by decide) (fun c7 => ?_) (fun c7 => ?_)
    · skip
      refine V.iconst (v := nI 0) F dX7_counting_57 (by decide) ?_
      refine V.istore (lv' := [(7, .int (nI 0)), (6, .int (nI j1)), (5, .int (cnM s p k r d j1)), (0, .ref (a 0)), (1, .int p), (2, .int k), (3, .int r), (4, .int d)]) F dX7_counting_58 hl (by decide) rfl (fun ls hl => ?_)
      refine V.aload_n F dX7_counting_60 rfl (lv_at hl 3 rfl) ?_
      refine V.iload F dX7_counting_61 (lv_at hl 1 rfl) ?_
      refine V.iconst (v := nI 3) F dX7_counting_63 (by decide) ?_
      refine V.rdV (q0 := 0) F hE (c_X7_ofRehearsal l E (by omega) (by omega)) (kX7_50 F.2.2.2.2 ⟨Nat.le_of_ble_eq_true rfl, Nat.le_of_ble_eq_true rfl⟩) rfl rfl [0, 1, 2, 3, 4] rfl rfl hl.1 (Nat.le_of_ble_eq_true rfl) dX7_counting_64 rfl ?_
      refine V.topi (fun z8 e8 => ?_)
      refine V.istore (lv' := [(8, .int z8), (7, .int (nI 0)), (6, .int (nI j1)), (5, .int (cnM s p k r d j1)), (0, .ref (a 0)), (1, .int p), (2, .int k), (3, .int r), (4, .int d)]) F dX7_counting_67 hl (by decide) rfl (fun ls hl => ?_)
      refine V.iload F dX7_counting_69 (lv_at hl 3 rfl) ?_
      refine V.iload F dX7_counting_71 (lv_at hl 1 rfl) ?_
      refine V.if_eq (tgt := 99) F dX7_counting_73 (by decide) (fun _ => ?_) (fun h => absurd h (by decide))
      refine V.iconst (v := nI 0) F dX7_counting_99 (by decide) ?_
      refine V.iadd F dX7_counting_100 (fun z10 e10 => ?_)
      refine V.istore (lv' := [(5, .int z10), (8, .int z8), (7, .int (nI 0)), (6, .int (nI j1)), (0, .ref (a 0)), (1, .int p), (2, .int k), (3, .int r), (4, .int d)]) F dX7_counting_101 hl (by decide) rfl (fun ls hl => ?_)
      refine V.iinc (j := 3) (lv' := fun z11 => [(6, .int z11), (5, .int z10), (8, .int z8), (7, .int (nI 0)), (0, .ref (a 0)), (1, .int p), (2, .int k), (3, .int r), (4, .int d)]) F dX7_counting_103 hl rfl (by decide) (fun _ => rfl) (fun z11 e11 ls hl => ?_)
      refine V.goto (tgt := 6) F dX7_counting_106 (by decide) ?_
      have h12 : nI (j1 + 1) = z11 := (by subst e6 e8 e10 e11; first | with_reducible rfl | (simp only [cnM, c5, c5', c7, oi1n, nI_add, pk_mul, bI, and_true, true_and, and_false, false_and, and_self, or_true, true_or, or_false, false_or, or_self, not_true_eq_false, not_false_eq_true, if_true, if_false, ↓reduceIte] <;> rfl) | rfl | (simp [cnM, c5, c5', c7, bI, oi1, nI_succ]; done))
      have h13 : cnM s p k r d (j1 + 1) = z10 := (by subst e6 e8 e10 e11; first | with_reducible rfl | (simp only [cnM, c5, c5', c7, oi1n, nI_add, pk_mul, bI, and_true, true_and, and_false, false_and, and_self, or_true, true_or, or_false, false_or, or_self, not_true_eq_false, not_false_eq_true, if_true, if_false, ↓reduceIte] <;> rfl) | rfl | (simp [cnM, c5, c5', c7, bI, oi1, nI_succ]; done))
      exact ihj1 j1_lt trivial _ (lv_sub hl [0, 1, 4, 5, 6, 7, 8] (by rw [h12, h13]; rfl))
    · skip
      refine V.aload_n F dX7_counting_29 rfl (lv_at hl 2 rfl) ?_
      refine V.iload F dX7_counting_30 (lv_at hl 0 rfl) ?_
      refine V.iconst (v := nI 1) F dX7_counting_32 (by decide) ?_
      refine V.rdV (q0 := 0) F hE (c_X7_ofRehearsal l E (by omega) (by omega)) (kX7_50 F.2.2.2.2 ⟨Nat.le_of_ble_eq_true rfl, Nat.le_of_ble_eq_true rfl⟩) rfl rfl [0, 1, 2, 3, 4] rfl rfl hl.1 (Nat.le_of_ble_eq_true rfl) dX7_counting_33 rfl ?_
      refine V.topi (fun z14 e14 => ?_)
      refine V.iload_n F dX7_counting_36 rfl (lv_at hl 4 rfl) ?_
      refine V.icmp_ne (tgt := 57) F dX7_counting_37 (by decide) (fun c15 => ?_) (fun c15 => ?_)
      · skip
        refine V.iconst (v := nI 0) F dX7_counting_57 (by decide) ?_
        refine V.istore (lv' := [(7, .int (nI 0)), (6, .int (nI j1)), (5, .int (cnM s p k r d j1)), (0, .ref (a 0)), (1, .int p), (2, .int k), (3, .int r), (4, .int d)]) F dX7_counting_58 hl (by decide) rfl (fun ls hl => ?_)
        refine V.aload_n F dX7_counting_60 rfl (lv_at hl 3 rfl) ?_
        refine V.iload F dX7_counting_61 (lv_at hl 1 rfl) ?_
        refine V.iconst (v := nI 3) F dX7_counting_63 (by decide) ?_
        refine V.rdV (q0 := 0) F hE (c_X7_ofRehearsal l E (by omega) (by omega)) (kX7_50 F.2.2.2.2 ⟨Nat.le_of_ble_eq_true rfl, Nat.le_of_ble_eq_true rfl⟩) rfl rfl [0, 1, 2, 3, 4] rfl rfl hl.1 (Nat.le_of_ble_eq_true rfl) dX7_counting_64 rfl ?_
        refine V.topi (fun z16 e16 => ?_)
        refine V.istore (lv' := [(8, .int z16), (7, .int (nI 0)), (6, .int (nI j1)), (5, .int (cnM s p k r d j1)), (0, .ref (a 0)), (1, .int p), (2, .int k), (3, .int r), (4, .int d)]) F dX7_counting_67 hl (by decide) rfl (fun ls hl => ?_)
        refine V.iload F dX7_counting_69 (lv_at hl 3 rfl) ?_
        refine V.iload F dX7_counting_71 (lv_at hl 1 rfl) ?_
        refine V.if_eq (tgt := 99) F dX7_counting_73 (by decide) (fun _ => ?_) (fun h => absurd h (by decide))
        refine V.iconst (v := nI 0) F dX7_counting_99 (by decide) ?_
        refine V.iadd F dX7_counting_100 (fun z18 e18 => ?_)
        refine V.istore (lv' := [(5, .int z18), (8, .int z16), (7, .int (nI 0)), (6, .int (nI j1)), (0, .ref (a 0)), (1, .int p), (2, .int k), (3, .int r), (4, .int d)]) F dX7_counting_101 hl (by decide) rfl (fun ls hl => ?_)
        refine V.iinc (j := 3) (lv' := fun z19 => [(6, .int z19), (5, .int z18), (8, .int z16), (7, .int (nI 0)), (0, .ref (a 0)), (1, .int p), (2, .int k), (3, .int r), (4, .int d)]) F dX7_counting_103 hl rfl (by decide) (fun _ => rfl) (fun z19 e19 ls hl => ?_)
        refine V.goto (tgt := 6) F dX7_counting_106 (by decide) ?_
        have h20 : nI (j1 + 1) = z19 := (by subst e6 e14 e16 e18 e19; first | with_reducible rfl | (simp only [cnM, c5, c5', eq_true c7, c15, oi1n, nI_add, pk_mul, bI, and_true, true_and, and_false, false_and, and_self, or_true, true_or, or_false, false_or, or_self, not_true_eq_false, not_false_eq_true, if_true, if_false, ↓reduceIte] <;> rfl) | rfl | (simp [cnM, c5, c5', eq_true c7, c15, bI, oi1, nI_succ]; done))
        have h21 : cnM s p k r d (j1 + 1) = z18 := (by subst e6 e14 e16 e18 e19; first | with_reducible rfl | (simp only [cnM, c5, c5', eq_true c7, c15, oi1n, nI_add, pk_mul, bI, and_true, true_and, and_false, false_and, and_self, or_true, true_or, or_false, false_or, or_self, not_true_eq_false, not_false_eq_true, if_true, if_false, ↓reduceIte] <;> rfl) | rfl | (simp [cnM, c5, c5', eq_true c7, c15, bI, oi1, nI_succ]; done))
        exact ihj1 j1_lt trivial _ (lv_sub hl [0, 1, 4, 5, 6, 7, 8] (by rw [h20, h21]; rfl))
      · skip
        refine V.aload_n F dX7_counting_40 rfl (lv_at hl 2 rfl) ?_
        refine V.iload F dX7_counting_41 (lv_at hl 0 rfl) ?_
        refine V.iconst (v := nI 2) F dX7_counting_43 (by decide) ?_
        refine V.rdV (q0 := 0) F hE (c_X7_ofRehearsal l E (by omega) (by omega)) (kX7_50 F.2.2.2.2 ⟨Nat.le_of_ble_eq_true rfl, Nat.le_of_ble_eq_true rfl⟩) rfl rfl [0, 1, 2, 3, 4] rfl rfl hl.1 (Nat.le_of_ble_eq_true rfl) dX7_counting_44 rfl ?_
        refine V.topi (fun z22 e22 => ?_)
        refine V.iload_n F dX7_counting_47 rfl (lv_at hl 5 rfl) ?_
        refine V.iconst (v := nI 1) F dX7_counting_48 (by decide) ?_
        refine V.isub F dX7_counting_49 (fun z23 e23 => ?_)
        refine V.icmp_lt (tgt := 57) F dX7_counting_50 (by decide) (fun c24 c24' => ?_) (fun c24 c24' => ?_)
        · skip
          refine V.iconst (v := nI 0) F dX7_counting_57 (by decide) ?_
          refine V.istore (lv' := [(7, .int (nI 0)), (6, .int (nI j1)), (5, .int (cnM s p k r d j1)), (0, .ref (a 0)), (1, .int p), (2, .int k), (3, .int r), (4, .int d)]) F dX7_counting_58 hl (by decide) rfl (fun ls hl => ?_)
          refine V.aload_n F dX7_counting_60 rfl (lv_at hl 3 rfl) ?_
          refine V.iload F dX7_counting_61 (lv_at hl 1 rfl) ?_
          refine V.iconst (v := nI 3) F dX7_counting_63 (by decide) ?_
          refine V.rdV (q0 := 0) F hE (c_X7_ofRehearsal l E (by omega) (by omega)) (kX7_50 F.2.2.2.2 ⟨Nat.le_of_ble_eq_true rfl, Nat.le_of_ble_eq_true rfl⟩) rfl rfl [0, 1, 2, 3, 4] rfl rfl hl.1 (Nat.le_of_ble_eq_true rfl) dX7_counting_64 rfl ?_
          refine V.topi (fun z25 e25 => ?_)
          refine V.istore (lv' := [(8, .int z25), (7, .int (nI 0)), (6, .int (nI j1)), (5, .int (cnM s p k r d j1)), (0, .ref (a 0)), (1, .int p), (2, .int k), (3, .int r), (4, .int d)]) F dX7_counting_67 hl (by decide) rfl (fun ls hl => ?_)
          refine V.iload F dX7_counting_69 (lv_at hl 3 rfl) ?_
          refine V.iload F dX7_counting_71 (lv_at hl 1 rfl) ?_
          refine V.if_eq (tgt := 99) F dX7_counting_73 (by decide) (fun _ => ?_) (fun h => absurd h (by decide))
          refine V.iconst (v := nI 0) F dX7_counting_99 (by decide) ?_
          refine V.iadd F dX7_counting_100 (fun z27 e27 => ?_)
          refine V.istore (lv' := [(5, .int z27), (8, .int z25), (7, .int (nI 0)), (6, .int (nI j1)), (0, .ref (a 0)), (1, .int p), (2, .int k), (3, .int r), (4, .int d)]) F dX7_counting_101 hl (by decide) rfl (fun ls hl => ?_)
          refine V.iinc (j := 3) (lv' := fun z28 => [(6, .int z28), (5, .int z27), (8, .int z25), (7, .int (nI 0)), (0, .ref (a 0)), (1, .int p), (2, .int k), (3, .int r), (4, .int d)]) F dX7_counting_103 hl rfl (by decide) (fun _ => rfl) (fun z28 e28 ls hl => ?_)
          refine V.goto (tgt := 6) F dX7_counting_106 (by decide) ?_
          have h29 : nI (j1 + 1) = z28 := (by subst e6 e14 e22 e23 e25 e27 e28; first | with_reducible rfl | (simp only [cnM, c5, c5', eq_true c7, eq_true c15, c24, c24', oi1n, nI_add, pk_mul, bI, and_true, true_and, and_false, false_and, and_self, or_true, true_or, or_false, false_or, or_self, not_true_eq_false, not_false_eq_true, if_true, if_false, ↓reduceIte] <;> rfl) | rfl | (simp [cnM, c5, c5', eq_true c7, eq_true c15, c24, c24', bI, oi1, nI_succ]; done))
          have h30 : cnM s p k r d (j1 + 1) = z27 := (by subst e6 e14 e22 e23 e25 e27 e28; first | with_reducible rfl | (simp only [cnM, c5, c5', eq_true c7, eq_true c15, c24, c24', oi1n, nI_add, pk_mul, bI, and_true, true_and, and_false, false_and, and_self, or_true, true_or, or_false, false_or, or_self, not_true_eq_false, not_false_eq_true, if_true, if_false, ↓reduceIte] <;> rfl) | rfl | (simp [cnM, c5, c5', eq_true c7, eq_true c15, c24, c24', bI, oi1, nI_succ]; done))
          exact ihj1 j1_lt trivial _ (lv_sub hl [0, 1, 4, 5, 6, 7, 8] (by rw [h29, h30]; rfl))
        · skip
          refine V.iconst (v := nI 1) F dX7_counting_53 (by decide) ?_
          refine V.goto (tgt := 58) F dX7_counting_54 (by decide) ?_
          refine V.istore (lv' := [(7, .int (nI 1)), (6, .int (nI j1)), (5, .int (cnM s p k r d j1)), (0, .ref (a 0)), (1, .int p), (2, .int k), (3, .int r), (4, .int d)]) F dX7_counting_58 hl (by decide) rfl (fun ls hl => ?_)
          refine V.aload_n F dX7_counting_60 rfl (lv_at hl 3 rfl) ?_
          refine V.iload F dX7_counting_61 (lv_at hl 1 rfl) ?_
          refine V.iconst (v := nI 3) F dX7_counting_63 (by decide) ?_
          refine V.rdV (q0 := 0) F hE (c_X7_ofRehearsal l E (by omega) (by omega)) (kX7_50 F.2.2.2.2 ⟨Nat.le_of_ble_eq_true rfl, Nat.le_of_ble_eq_true rfl⟩) rfl rfl [0, 1, 2, 3, 4] rfl rfl hl.1 (Nat.le_of_ble_eq_true rfl) dX7_counting_64 rfl ?_
          refine V.topi (fun z31 e31 => ?_)
          refine V.istore (lv' := [(8, .int z31), (7, .int (nI 1)), (6, .int (nI j1)), (5, .int (cnM s p k r d j1)), (0, .ref (a 0)), (1, .int p), (2, .int k), (3, .int r), (4, .int d)]) F dX7_counting_67 hl (by decide) rfl (fun ls hl => ?_)
          refine V.iload F dX7_counting_69 (lv_at hl 3 rfl) ?_
          refine V.iload F dX7_counting_71 (lv_at hl 1 rfl) ?_
          refine V.if_eq (tgt := 99) F dX7_counting_73 (by decide) (fun h => absurd h (by decide)) (fun _ => ?_)
          refine V.iload F dX7_counting_76 (lv_at hl 8 rfl) ?_
          refine V.iload F dX7_counting_78 (lv_at hl 0 rfl) ?_
          refine V.iload F dX7_counting_80 (lv_at hl 0 rfl) ?_
          refine V.iload_n F dX7_counting_82 rfl (lv_at hl 6 rfl) ?_
          refine V.rdS F hE (c_X7_countsFor l E) (kX7_53 F.2.2.2.2 ⟨Nat.le_of_ble_eq_true rfl, Nat.le_of_ble_eq_true rfl⟩) [] rfl rfl hl.1 (Nat.le_of_ble_eq_true rfl) dX7_counting_83 rfl ?_
          refine V.topi (fun z33 e33 => ?_)
          refine V.iadd F dX7_counting_86 (fun z34 e34 => ?_)
          refine V.iconst (v := nI 1) F dX7_counting_87 (by decide) ?_
          refine V.isub F dX7_counting_88 (fun z35 e35 => ?_)
          refine V.rdS F hE (c_X7_within l E) (kX7_26 F.2.2.2.2 ⟨Nat.le_of_ble_eq_true rfl, Nat.le_of_ble_eq_true rfl⟩) [] rfl rfl hl.1 (Nat.le_of_ble_eq_true rfl) dX7_counting_89 rfl ?_
          refine V.topi (fun z36 e36 => ?_)
          refine V.if_eqB (tgt := 99) F e36 dX7_counting_92 (by decide) (fun c37 => ?_) (fun c37 => ?_)
          · skip
            refine V.iconst (v := nI 0) F dX7_counting_99 (by decide) ?_
            refine V.iadd F dX7_counting_100 (fun z38 e38 => ?_)
            refine V.istore (lv' := [(5, .int z38), (8, .int z31), (7, .int (nI 1)), (6, .int (nI j1)), (0, .ref (a 0)), (1, .int p), (2, .int k), (3, .int r), (4, .int d)]) F dX7_counting_101 hl (by decide) rfl (fun ls hl => ?_)
            refine V.iinc (j := 3) (lv' := fun z39 => [(6, .int z39), (5, .int z38), (8, .int z31), (7, .int (nI 1)), (0, .ref (a 0)), (1, .int p), (2, .int k), (3, .int r), (4, .int d)]) F dX7_counting_103 hl rfl (by decide) (fun _ => rfl) (fun z39 e39 ls hl => ?_)
            refine V.goto (tgt := 6) F dX7_counting_106 (by decide) ?_
            have h40 : nI (j1 + 1) = z39 := (by subst e6 e14 e22 e23 e31 e33 e34 e35 e36 e38 e39; first | with_reducible rfl | (simp only [cnM, c5, c5', eq_true c7, eq_true c15, c24, c24', c37, oi1n, nI_add, pk_mul, bI, and_true, true_and, and_false, false_and, and_self, or_true, true_or, or_false, false_or, or_self, not_true_eq_false, not_false_eq_true, if_true, if_false, ↓reduceIte] <;> rfl) | rfl | (simp [cnM, c5, c5', eq_true c7, eq_true c15, c24, c24', c37, bI, oi1, nI_succ]; done))
            have h41 : cnM s p k r d (j1 + 1) = z38 := (by subst e6 e14 e22 e23 e31 e33 e34 e35 e36 e38 e39; first | with_reducible rfl | (simp only [cnM, c5, c5', eq_true c7, eq_true c15, c24, c24', c37, oi1n, nI_add, pk_mul, bI, and_true, true_and, and_false, false_and, and_self, or_true, true_or, or_false, false_or, or_self, not_true_eq_false, not_false_eq_true, if_true, if_false, ↓reduceIte] <;> rfl) | rfl | (simp [cnM, c5, c5', eq_true c7, eq_true c15, c24, c24', c37, bI, oi1, nI_succ]; done))
            exact ihj1 j1_lt trivial _ (lv_sub hl [0, 1, 4, 5, 6, 7, 8] (by rw [h40, h41]; rfl))
          · skip
            refine V.iconst (v := nI 1) F dX7_counting_95 (by decide) ?_
            refine V.goto (tgt := 100) F dX7_counting_96 (by decide) ?_
            refine V.iadd F dX7_counting_100 (fun z42 e42 => ?_)
            refine V.istore (lv' := [(5, .int z42), (8, .int z31), (7, .int (nI 1)), (6, .int (nI j1)), (0, .ref (a 0)), (1, .int p), (2, .int k), (3, .int r), (4, .int d)]) F dX7_counting_101 hl (by decide) rfl (fun ls hl => ?_)
            refine V.iinc (j := 3) (lv' := fun z43 => [(6, .int z43), (5, .int z42), (8, .int z31), (7, .int (nI 1)), (0, .ref (a 0)), (1, .int p), (2, .int k), (3, .int r), (4, .int d)]) F dX7_counting_103 hl rfl (by decide) (fun _ => rfl) (fun z43 e43 ls hl => ?_)
            refine V.goto (tgt := 6) F dX7_counting_106 (by decide) ?_
            have h44 : nI (j1 + 1) = z43 := (by subst e6 e14 e22 e23 e31 e33 e34 e35 e36 e42 e43; first | with_reducible rfl | (simp only [cnM, c5, c5', eq_true c7, eq_true c15, c24, c24', eq_true c37, oi1n, nI_add, pk_mul, bI, and_true, true_and, and_false, false_and, and_self, or_true, true_or, or_false, false_or, or_self, not_true_eq_false, not_false_eq_true, if_true, if_false, ↓reduceIte] <;> rfl) | rfl | (simp [cnM, c5, c5', eq_true c7, eq_true c15, c24, c24', eq_true c37, bI, oi1, nI_succ]; done))
            have h45 : cnM s p k r d (j1 + 1) = z42 := (by subst e6 e14 e22 e23 e31 e33 e34 e35 e36 e42 e43; first | with_reducible rfl | (simp only [cnM, c5, c5', eq_true c7, eq_true c15, c24, c24', eq_true c37, oi1n, nI_add, pk_mul, bI, and_true, true_and, and_false, false_and, and_self, or_true, true_or, or_false, false_or, or_self, not_true_eq_false, not_false_eq_true, if_true, if_false, ↓reduceIte] <;> rfl) | rfl | (simp [cnM, c5, c5', eq_true c7, eq_true c15, c24, c24', eq_true c37, bI, oi1, nI_succ]; done))
            exact ihj1 j1_lt trivial _ (lv_sub hl [0, 1, 4, 5, 6, 7, 8] (by rw [h44, h45]; rfl))
