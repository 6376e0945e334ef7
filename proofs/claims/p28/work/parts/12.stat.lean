set_option maxHeartbeats 4000000 in
set_option maxRecDepth 100000 in
theorem c_X6_isBetween (l : Launch) (E : EV) {x lo hi : Int32} : Rd l E yX6_isBetween cX6_isBetween 3 (some .boolean) 0 0 [.int x, .int lo, .int hi] ([]) (some (.int (bI (lo ≤ x ∧ x ≤ hi)))) := by
  refine Rd.mk0 (by decide) (Nat.le_of_ble_eq_true rfl) ?_
  intro pP eE sS mM aA bB mt cC F hr hk hE ls hl
  have hl : lv_has ls 3 [(0, .int x), (1, .int lo), (2, .int hi)] := hl
  refine V.iload_n F dX6_isBetween_0 rfl (lv_at hl 0 rfl) ?_
  refine V.iload_n F dX6_isBetween_1 rfl (lv_at hl 1 rfl) ?_
  refine V.icmp_lt (tgt := 14) F dX6_isBetween_2 (by decide) (fun c1 c1' => ?_) (fun c1 c1' => ?_)
  · skip
    refine V.iconst (v := 0) F dX6_isBetween_14 (by decide) ?_
    exact V.zretR F hr hk dX6_isBetween_15 (nb_bI _) (by first | rfl | (simp only [c1, c1', bI, and_true, true_and, and_false, false_and, and_self, or_true, true_or, or_false, false_or, or_self, not_true_eq_false, not_false_eq_true, if_true, if_false, ↓reduceIte]; done) | (simp [c1, c1', bI]; done))
  · skip
    refine V.iload_n F dX6_isBetween_5 rfl (lv_at hl 0 rfl) ?_
    refine V.iload_n F dX6_isBetween_6 rfl (lv_at hl 2 rfl) ?_
    refine V.icmp_gt (tgt := 14) F dX6_isBetween_7 (by decide) (fun c2 c2' => ?_) (fun c2 c2' => ?_)
    · skip
      refine V.iconst (v := 0) F dX6_isBetween_14 (by decide) ?_
      exact V.zretR F hr hk dX6_isBetween_15 (nb_bI _) (by first | rfl | (simp only [c1, c1', c2, c2', bI, and_true, true_and, and_false, false_and, and_self, or_true, true_or, or_false, false_or, or_self, not_true_eq_false, not_false_eq_true, if_true, if_false, ↓reduceIte]; done) | (simp [c1, c1', c2, c2', bI]; done))
    · skip
      refine V.iconst (v := 1) F dX6_isBetween_10 (by decide) ?_
      refine V.goto (tgt := 15) F dX6_isBetween_11 (by decide) ?_
      exact V.zretR F hr hk dX6_isBetween_15 (nb_bI _) (by first | rfl | (simp only [c1, c1', c2, c2', bI, and_true, true_and, and_false, false_and, and_self, or_true, true_or, or_false, false_or, or_self, not_true_eq_false, not_false_eq_true, if_true, if_false, ↓reduceIte]; done) | (simp [c1, c1', c2, c2', bI]; done))
set_option maxHeartbeats 4000000 in
set_option maxRecDepth 100000 in
theorem c_X6_isPart (l : Launch) (E : EV) {x : Int32} : Rd l E yX6_isPart cX6_isPart 1 (some .boolean) 1 22 [.int x] ([]) (some (.int (bI ((1 ≤ x ∧ x ≤ 32) ∧ x &&& (x - 1) = 0)))) := by
  refine Rd.mk0 (by decide) (Nat.le_of_ble_eq_true rfl) ?_
  intro pP eE sS mM aA bB mt cC F hr hk hE ls hl
  have hl : lv_has ls 1 [(0, .int x)] := hl
  refine V.iload_n F dX6_isPart_0 rfl (lv_at hl 0 rfl) ?_
  refine V.iconst (v := 1) F dX6_isPart_1 (by decide) ?_
  refine V.bipush (v := 32) F dX6_isPart_2 (by decide) ?_
  refine V.rdS F hE (c_X6_isBetween l E) (kX6_34 F.2.2.2.2 ⟨Nat.le_of_ble_eq_true rfl, Nat.le_of_ble_eq_true rfl⟩) [] rfl rfl hl.1 (Nat.le_of_ble_eq_true rfl) dX6_isPart_4 rfl ?_
  refine V.topi (fun z1 e1 => ?_)
  refine V.if_eqB (tgt := 22) F e1 dX6_isPart_7 (by decide) (fun c2 => ?_) (fun c2 => ?_)
  · skip
    refine V.iconst (v := 0) F dX6_isPart_22 (by decide) ?_
    exact V.zretR F hr hk dX6_isPart_23 (nb_bI _) (by subst e1; first | rfl | (simp only [c2, bI, and_true, true_and, and_false, false_and, and_self, or_true, true_or, or_false, false_or, or_self, not_true_eq_false, not_false_eq_true, if_true, if_false, ↓reduceIte]; done) | (simp [c2, bI]; done))
  · skip
    refine V.iload_n F dX6_isPart_10 rfl (lv_at hl 0 rfl) ?_
    refine V.iload_n F dX6_isPart_11 rfl (lv_at hl 0 rfl) ?_
    refine V.iconst (v := 1) F dX6_isPart_12 (by decide) ?_
    refine V.isub F dX6_isPart_13 (fun z3 e3 => ?_)
    refine V.iand F dX6_isPart_14 (fun z4 e4 => ?_)
    refine V.if_ne (tgt := 22) F dX6_isPart_15 (by decide) (fun c5 => ?_) (fun c5 => ?_)
    · skip
      refine V.iconst (v := 0) F dX6_isPart_22 (by decide) ?_
      exact V.zretR F hr hk dX6_isPart_23 (nb_bI _) (by subst e1 e3 e4; first | rfl | (simp only [c2, c5, bI, and_true, true_and, and_false, false_and, and_self, or_true, true_or, or_false, false_or, or_self, not_true_eq_false, not_false_eq_true, if_true, if_false, ↓reduceIte]; done) | (simp [c2, c5, bI]; done))
    · skip
      refine V.iconst (v := 1) F dX6_isPart_18 (by decide) ?_
      refine V.goto (tgt := 23) F dX6_isPart_19 (by decide) ?_
      exact V.zretR F hr hk dX6_isPart_23 (nb_bI _) (by subst e1 e3 e4; first | rfl | (simp only [c2, c5, bI, and_true, true_and, and_false, false_and, and_self, or_true, true_or, or_false, false_or, or_self, not_true_eq_false, not_false_eq_true, if_true, if_false, ↓reduceIte]; done) | (simp [c2, c5, bI]; done))
set_option maxHeartbeats 4000000 in
set_option maxRecDepth 100000 in
theorem c_X6_isInsurance (l : Launch) (E : EV) {a b : Int32} : Rd l E yX6_isInsurance cX6_isInsurance 2 (some .boolean) 1 22 [.int a, .int b] ([]) (some (.int (bI ((1 ≤ a ∧ a ≤ 5) ∧ (1 ≤ b ∧ b ≤ 60))))) := by
  refine Rd.mk0 (by decide) (Nat.le_of_ble_eq_true rfl) ?_
  intro pP eE sS mM aA bB mt cC F hr hk hE ls hl
  have hl : lv_has ls 2 [(0, .int a), (1, .int b)] := hl
  refine V.iload_n F dX6_isInsurance_0 rfl (lv_at hl 0 rfl) ?_
  refine V.iconst (v := 1) F dX6_isInsurance_1 (by decide) ?_
  refine V.iconst (v := 5) F dX6_isInsurance_2 (by decide) ?_
  refine V.rdS F hE (c_X6_isBetween l E) (kX6_34 F.2.2.2.2 ⟨Nat.le_of_ble_eq_true rfl, Nat.le_of_ble_eq_true rfl⟩) [] rfl rfl hl.1 (Nat.le_of_ble_eq_true rfl) dX6_isInsurance_3 rfl ?_
  refine V.topi (fun z1 e1 => ?_)
  refine V.if_eqB (tgt := 23) F e1 dX6_isInsurance_6 (by decide) (fun c2 => ?_) (fun c2 => ?_)
  · skip
    refine V.iconst (v := 0) F dX6_isInsurance_23 (by decide) ?_
    exact V.zretR F hr hk dX6_isInsurance_24 (nb_bI _) (by subst e1; first | rfl | (simp only [c2, bI, and_true, true_and, and_false, false_and, and_self, or_true, true_or, or_false, false_or, or_self, not_true_eq_false, not_false_eq_true, if_true, if_false, ↓reduceIte]; done) | (simp [c2, bI]; done))
  · skip
    refine V.iload_n F dX6_isInsurance_9 rfl (lv_at hl 1 rfl) ?_
    refine V.iconst (v := 1) F dX6_isInsurance_10 (by decide) ?_
    refine V.bipush (v := 60) F dX6_isInsurance_11 (by decide) ?_
    refine V.rdS F hE (c_X6_isBetween l E) (kX6_34 F.2.2.2.2 ⟨Nat.le_of_ble_eq_true rfl, Nat.le_of_ble_eq_true rfl⟩) [] rfl rfl hl.1 (Nat.le_of_ble_eq_true rfl) dX6_isInsurance_13 rfl ?_
    refine V.topi (fun z3 e3 => ?_)
    refine V.if_eqB (tgt := 23) F e3 dX6_isInsurance_16 (by decide) (fun c4 => ?_) (fun c4 => ?_)
    · skip
      refine V.iconst (v := 0) F dX6_isInsurance_23 (by decide) ?_
      exact V.zretR F hr hk dX6_isInsurance_24 (nb_bI _) (by subst e1 e3; first | rfl | (simp only [c2, c4, bI, and_true, true_and, and_false, false_and, and_self, or_true, true_or, or_false, false_or, or_self, not_true_eq_false, not_false_eq_true, if_true, if_false, ↓reduceIte]; done) | (simp [c2, c4, bI]; done))
    · skip
      refine V.iconst (v := 1) F dX6_isInsurance_19 (by decide) ?_
      refine V.goto (tgt := 24) F dX6_isInsurance_20 (by decide) ?_
      exact V.zretR F hr hk dX6_isInsurance_24 (nb_bI _) (by subst e1 e3; first | rfl | (simp only [c2, c4, bI, and_true, true_and, and_false, false_and, and_self, or_true, true_or, or_false, false_or, or_self, not_true_eq_false, not_false_eq_true, if_true, if_false, ↓reduceIte]; done) | (simp [c2, c4, bI]; done))
set_option maxHeartbeats 4000000 in
set_option maxRecDepth 100000 in
theorem c_X6_rehearsalsNeeded (l : Launch) (E : EV) {a b : Int32} : Rd l E yX6_rehearsalsNeeded cX6_rehearsalsNeeded 2 (some .int) 0 0 [.int a, .int b] ([]) (some (.int (ndF a b))) := by
  refine Rd.mk0 (by decide) (Nat.le_of_ble_eq_true rfl) ?_
  intro pP eE sS mM aA bB mt cC F hr hk hE ls hl
  have hl : lv_has ls 2 [(0, .int a), (1, .int b)] := hl
  refine V.iload_n F dX6_rehearsalsNeeded_0 rfl (lv_at hl 0 rfl) ?_
  by_cases c1 : a = 1
  · skip
    refine V.tableIn (tgt := 32) F dX6_rehearsalsNeeded_1 (by rw [c1]; decide) (by rw [c1]; decide) (by rw [c1]; rfl) (by decide) ?_
    refine V.iload_n F dX6_rehearsalsNeeded_32 rfl (lv_at hl 1 rfl) ?_
    refine V.iconst (v := 1) F dX6_rehearsalsNeeded_33 (by decide) ?_
    refine V.iadd F dX6_rehearsalsNeeded_34 (fun z2 e2 => ?_)
    exact V.iretR F hr hk dX6_rehearsalsNeeded_35 (by subst e2; first | rfl | (simp only [ndF, c1, bI, and_true, true_and, and_false, false_and, and_self, or_true, true_or, or_false, false_or, or_self, not_true_eq_false, not_false_eq_true, if_true, if_false, ↓reduceIte]; done) | (simp [ndF, c1, bI]; done))
  by_cases c3 : a = 2
  · skip
    refine V.tableIn (tgt := 36) F dX6_rehearsalsNeeded_1 (by rw [c3]; decide) (by rw [c3]; decide) (by rw [c3]; rfl) (by decide) ?_
    refine V.iconst (v := 2) F dX6_rehearsalsNeeded_36 (by decide) ?_
    refine V.iload_n F dX6_rehearsalsNeeded_37 rfl (lv_at hl 1 rfl) ?_
    refine V.imul F dX6_rehearsalsNeeded_38 (fun z4 e4 => ?_)
    exact V.iretR F hr hk dX6_rehearsalsNeeded_39 (by subst e4; first | rfl | (simp only [ndF, c1, c3, bI, and_true, true_and, and_false, false_and, and_self, or_true, true_or, or_false, false_or, or_self, not_true_eq_false, not_false_eq_true, if_true, if_false, ↓reduceIte]; done) | (simp [ndF, c1, c3, bI]; done))
  by_cases c5 : a = 3
  · skip
    refine V.tableIn (tgt := 40) F dX6_rehearsalsNeeded_1 (by rw [c5]; decide) (by rw [c5]; decide) (by rw [c5]; rfl) (by decide) ?_
    refine V.iload_n F dX6_rehearsalsNeeded_40 rfl (lv_at hl 1 rfl) ?_
    refine V.iconst (v := 2) F dX6_rehearsalsNeeded_41 (by decide) ?_
    refine V.iadd F dX6_rehearsalsNeeded_42 (fun z6 e6 => ?_)
    exact V.iretR F hr hk dX6_rehearsalsNeeded_43 (by subst e6; first | rfl | (simp only [ndF, c1, c3, c5, bI, and_true, true_and, and_false, false_and, and_self, or_true, true_or, or_false, false_or, or_self, not_true_eq_false, not_false_eq_true, if_true, if_false, ↓reduceIte]; done) | (simp [ndF, c1, c3, c5, bI]; done))
  by_cases c7 : a = 4
  · skip
    refine V.tableIn (tgt := 44) F dX6_rehearsalsNeeded_1 (by rw [c7]; decide) (by rw [c7]; decide) (by rw [c7]; rfl) (by decide) ?_
    refine V.iload_n F dX6_rehearsalsNeeded_44 rfl (lv_at hl 1 rfl) ?_
    refine V.iconst (v := 2) F dX6_rehearsalsNeeded_45 (by decide) ?_
    refine V.idiv F dX6_rehearsalsNeeded_46 (by decide) (fun z8 e8 => ?_)
    refine V.iconst (v := 1) F dX6_rehearsalsNeeded_47 (by decide) ?_
    refine V.iadd F dX6_rehearsalsNeeded_48 (fun z9 e9 => ?_)
    exact V.iretR F hr hk dX6_rehearsalsNeeded_49 (by subst e8 e9; first | rfl | (simp only [ndF, c1, c3, c5, c7, bI, and_true, true_and, and_false, false_and, and_self, or_true, true_or, or_false, false_or, or_self, not_true_eq_false, not_false_eq_true, if_true, if_false, ↓reduceIte]; done) | (simp [ndF, c1, c3, c5, c7, bI]; done))
  refine V.tableOut (tgt := 50) F dX6_rehearsalsNeeded_1 (sw_out fun i h1 h2 => by rcases (show i = 1 ∨ i = 2 ∨ i = 3 ∨ i = 4 by omega) with rfl | rfl | rfl | rfl <;> assumption) (by decide) ?_
  refine V.iload_n F dX6_rehearsalsNeeded_50 rfl (lv_at hl 1 rfl) ?_
  exact V.iretR F hr hk dX6_rehearsalsNeeded_51 (by first | rfl | (simp only [ndF, c1, c3, c5, c7, bI, and_true, true_and, and_false, false_and, and_self, or_true, true_or, or_false, false_or, or_self, not_true_eq_false, not_false_eq_true, if_true, if_false, ↓reduceIte]; done) | (simp [ndF, c1, c3, c5, c7, bI]; done))
set_option maxHeartbeats 4000000 in
set_option maxRecDepth 100000 in
theorem c_X6_at (l : Launch) (E : EV) {a N : Nat} {f : Nat → Int32} {i : Int32} (hNN : N < 2 ^ 31) : Rd l E yX6_at cX6_at 2 (some .int) 0 0 [.ref a, .int i] ([rw_ E a N f]) (some (.int (gt f N i))) := by
  refine Rd.mk0 (by decide) (Nat.le_of_ble_eq_true rfl) ?_
  intro pP eE sS mM aA bB mt cC F hr hk hE ls hl
  have hl : lv_has ls 2 [(0, .ref a), (1, .int i)] := hl
  refine V.aload_n F dX6_at_0 rfl (lv_at hl 0 rfl) ?_
  refine V.ifnull F dX6_at_1 ?_
  refine V.iload_n F dX6_at_4 rfl (lv_at hl 1 rfl) ?_
  refine V.if_lt (tgt := 20) F dX6_at_5 (by decide) (fun c1 c1' => ?_) (fun c1 c1' => ?_)
  · skip
    refine V.iconst (v := 0) F dX6_at_20 (by decide) ?_
    exact V.iretR F hr hk dX6_at_21 (by first | rfl | (simp only [gt, c1, c1', bI, and_true, true_and, and_false, false_and, and_self, or_true, true_or, or_false, false_or, or_self, not_true_eq_false, not_false_eq_true, if_true, if_false, ↓reduceIte]; done) | (simp [gt, c1, c1', bI]; done))
  · skip
    refine V.iload_n F dX6_at_8 rfl (lv_at hl 1 rfl) ?_
    refine V.aload_n F dX6_at_9 rfl (lv_at hl 0 rfl) ?_
    refine V.alen F hE 0 rfl dX6_at_10 (fun z2 e2 => ?_)
    refine V.icmp_ge (tgt := 20) F dX6_at_11 (by decide) (fun c3 c3' => ?_) (fun c3 c3' => ?_)
    · skip
      refine V.iconst (v := 0) F dX6_at_20 (by decide) ?_
      exact V.iretR F hr hk dX6_at_21 (by subst e2; first | rfl | (simp only [gt, c1, c1', c3, c3', bI, and_true, true_and, and_false, false_and, and_self, or_true, true_or, or_false, false_or, or_self, not_true_eq_false, not_false_eq_true, if_true, if_false, ↓reduceIte]; done) | (simp [gt, c1, c1', c3, c3', bI]; done))
    · skip
      refine V.aload_n F dX6_at_14 rfl (lv_at hl 0 rfl) ?_
      refine V.iload_n F dX6_at_15 rfl (lv_at hl 1 rfl) ?_
      refine V.iald F hE 0 rfl (by subst e2; exact vpc (by assumption) (by assumption) (by assumption)) dX6_at_16 (fun z4 e4 => ?_)
      refine V.goto (tgt := 21) F dX6_at_17 (by decide) ?_
      exact V.iretR F hr hk dX6_at_21 (by subst e2 e4; first | rfl | (simp only [gt, c1, c1', c3, c3', bI, and_true, true_and, and_false, false_and, and_self, or_true, true_or, or_false, false_or, or_self, not_true_eq_false, not_false_eq_true, if_true, if_false, ↓reduceIte]; done) | (simp [gt, c1, c1', c3, c3', bI]; done))
set_option maxHeartbeats 4000000 in
set_option maxRecDepth 100000 in
theorem c_X6_at_T0 (l : Launch) (E : EV) {i : Int32} : Rd l E yX6_at cX6_at 2 (some .int) 0 0 [.ref (eTab E 0), .int i] ([]) (some (.int (gt tCnt 6 i))) := by
  refine Rd.mk0 (by decide) (Nat.le_of_ble_eq_true rfl) ?_
  intro pP eE sS mM aA bB mt cC F hr hk hE ls hl
  have hl : lv_has ls 2 [(0, .ref (eTab E 0)), (1, .int i)] := hl
  refine V.aload_n F dX6_at_0 rfl (lv_at hl 0 rfl) ?_
  refine V.ifnull F dX6_at_1 ?_
  refine V.iload_n F dX6_at_4 rfl (lv_at hl 1 rfl) ?_
  refine V.if_lt (tgt := 20) F dX6_at_5 (by decide) (fun c1 c1' => ?_) (fun c1 c1' => ?_)
  · skip
    refine V.iconst (v := 0) F dX6_at_20 (by decide) ?_
    exact V.iretR F hr hk dX6_at_21 (by first | rfl | (simp only [gt, c1, c1', bI, and_true, true_and, and_false, false_and, and_self, or_true, true_or, or_false, false_or, or_self, not_true_eq_false, not_false_eq_true, if_true, if_false, ↓reduceIte]; done) | (simp [gt, c1, c1', bI]; done))
  · skip
    refine V.iload_n F dX6_at_8 rfl (lv_at hl 1 rfl) ?_
    refine V.aload_n F dX6_at_9 rfl (lv_at hl 0 rfl) ?_
    refine V.tblen F hE hE.2.2.1.1 dX6_at_10 (fun z2 e2 => ?_)
    refine V.icmp_ge (tgt := 20) F dX6_at_11 (by decide) (fun c3 c3' => ?_) (fun c3 c3' => ?_)
    · skip
      refine V.iconst (v := 0) F dX6_at_20 (by decide) ?_
      exact V.iretR F hr hk dX6_at_21 (by subst e2; first | rfl | (simp only [gt, c1, c1', c3, c3', bI, and_true, true_and, and_false, false_and, and_self, or_true, true_or, or_false, false_or, or_self, not_true_eq_false, not_false_eq_true, if_true, if_false, ↓reduceIte]; done) | (simp [gt, c1, c1', c3, c3', bI]; done))
    · skip
      refine V.aload_n F dX6_at_14 rfl (lv_at hl 0 rfl) ?_
      refine V.iload_n F dX6_at_15 rfl (lv_at hl 1 rfl) ?_
      refine V.tbald F hE hE.2.2.1.1 (by subst e2; exact vpc (by assumption) (by assumption) (by decide)) dX6_at_16 (fun z4 e4 => ?_)
      refine V.goto (tgt := 21) F dX6_at_17 (by decide) ?_
      exact V.iretR F hr hk dX6_at_21 (by subst e2 e4; first | rfl | (simp only [gt, c1, c1', c3, c3', bI, and_true, true_and, and_false, false_and, and_self, or_true, true_or, or_false, false_or, or_self, not_true_eq_false, not_false_eq_true, if_true, if_false, ↓reduceIte]; done) | (simp [gt, c1, c1', c3, c3', bI]; done))
set_option maxHeartbeats 4000000 in
set_option maxRecDepth 100000 in
theorem c_X6_at_T1 (l : Launch) (E : EV) {i : Int32} : Rd l E yX6_at cX6_at 2 (some .int) 0 0 [.ref (eTab E 1), .int i] ([]) (some (.int (gt tBar 6 i))) := by
  refine Rd.mk0 (by decide) (Nat.le_of_ble_eq_true rfl) ?_
  intro pP eE sS mM aA bB mt cC F hr hk hE ls hl
  have hl : lv_has ls 2 [(0, .ref (eTab E 1)), (1, .int i)] := hl
  refine V.aload_n F dX6_at_0 rfl (lv_at hl 0 rfl) ?_
  refine V.ifnull F dX6_at_1 ?_
  refine V.iload_n F dX6_at_4 rfl (lv_at hl 1 rfl) ?_
  refine V.if_lt (tgt := 20) F dX6_at_5 (by decide) (fun c1 c1' => ?_) (fun c1 c1' => ?_)
  · skip
    refine V.iconst (v := 0) F dX6_at_20 (by decide) ?_
    exact V.iretR F hr hk dX6_at_21 (by first | rfl | (simp only [gt, c1, c1', bI, and_true, true_and, and_false, false_and, and_self, or_true, true_or, or_false, false_or, or_self, not_true_eq_false, not_false_eq_true, if_true, if_false, ↓reduceIte]; done) | (simp [gt, c1, c1', bI]; done))
  · skip
    refine V.iload_n F dX6_at_8 rfl (lv_at hl 1 rfl) ?_
    refine V.aload_n F dX6_at_9 rfl (lv_at hl 0 rfl) ?_
    refine V.tblen F hE hE.2.2.1.2.1 dX6_at_10 (fun z2 e2 => ?_)
    refine V.icmp_ge (tgt := 20) F dX6_at_11 (by decide) (fun c3 c3' => ?_) (fun c3 c3' => ?_)
    · skip
      refine V.iconst (v := 0) F dX6_at_20 (by decide) ?_
      exact V.iretR F hr hk dX6_at_21 (by subst e2; first | rfl | (simp only [gt, c1, c1', c3, c3', bI, and_true, true_and, and_false, false_and, and_self, or_true, true_or, or_false, false_or, or_self, not_true_eq_false, not_false_eq_true, if_true, if_false, ↓reduceIte]; done) | (simp [gt, c1, c1', c3, c3', bI]; done))
    · skip
      refine V.aload_n F dX6_at_14 rfl (lv_at hl 0 rfl) ?_
      refine V.iload_n F dX6_at_15 rfl (lv_at hl 1 rfl) ?_
      refine V.tbald F hE hE.2.2.1.2.1 (by subst e2; exact vpc (by assumption) (by assumption) (by decide)) dX6_at_16 (fun z4 e4 => ?_)
      refine V.goto (tgt := 21) F dX6_at_17 (by decide) ?_
      exact V.iretR F hr hk dX6_at_21 (by subst e2 e4; first | rfl | (simp only [gt, c1, c1', c3, c3', bI, and_true, true_and, and_false, false_and, and_self, or_true, true_or, or_false, false_or, or_self, not_true_eq_false, not_false_eq_true, if_true, if_false, ↓reduceIte]; done) | (simp [gt, c1, c1', c3, c3', bI]; done))
set_option maxHeartbeats 4000000 in
set_option maxRecDepth 100000 in
theorem c_X6_at_T2 (l : Launch) (E : EV) {i : Int32} : Rd l E yX6_at cX6_at 2 (some .int) 0 0 [.ref (eTab E 2), .int i] ([]) (some (.int (gt tHur 6 i))) := by
  refine Rd.mk0 (by decide) (Nat.le_of_ble_eq_true rfl) ?_
  intro pP eE sS mM aA bB mt cC F hr hk hE ls hl
  have hl : lv_has ls 2 [(0, .ref (eTab E 2)), (1, .int i)] := hl
  refine V.aload_n F dX6_at_0 rfl (lv_at hl 0 rfl) ?_
  refine V.ifnull F dX6_at_1 ?_
  refine V.iload_n F dX6_at_4 rfl (lv_at hl 1 rfl) ?_
  refine V.if_lt (tgt := 20) F dX6_at_5 (by decide) (fun c1 c1' => ?_) (fun c1 c1' => ?_)
  · skip
    refine V.iconst (v := 0) F dX6_at_20 (by decide) ?_
    exact V.iretR F hr hk dX6_at_21 (by first | rfl | (simp only [gt, c1, c1', bI, and_true, true_and, and_false, false_and, and_self, or_true, true_or, or_false, false_or, or_self, not_true_eq_false, not_false_eq_true, if_true, if_false, ↓reduceIte]; done) | (simp [gt, c1, c1', bI]; done))
  · skip
    refine V.iload_n F dX6_at_8 rfl (lv_at hl 1 rfl) ?_
    refine V.aload_n F dX6_at_9 rfl (lv_at hl 0 rfl) ?_
    refine V.tblen F hE hE.2.2.1.2.2 dX6_at_10 (fun z2 e2 => ?_)
    refine V.icmp_ge (tgt := 20) F dX6_at_11 (by decide) (fun c3 c3' => ?_) (fun c3 c3' => ?_)
    · skip
      refine V.iconst (v := 0) F dX6_at_20 (by decide) ?_
      exact V.iretR F hr hk dX6_at_21 (by subst e2; first | rfl | (simp only [gt, c1, c1', c3, c3', bI, and_true, true_and, and_false, false_and, and_self, or_true, true_or, or_false, false_or, or_self, not_true_eq_false, not_false_eq_true, if_true, if_false, ↓reduceIte]; done) | (simp [gt, c1, c1', c3, c3', bI]; done))
    · skip
      refine V.aload_n F dX6_at_14 rfl (lv_at hl 0 rfl) ?_
      refine V.iload_n F dX6_at_15 rfl (lv_at hl 1 rfl) ?_
      refine V.tbald F hE hE.2.2.1.2.2 (by subst e2; exact vpc (by assumption) (by assumption) (by decide)) dX6_at_16 (fun z4 e4 => ?_)
      refine V.goto (tgt := 21) F dX6_at_17 (by decide) ?_
      exact V.iretR F hr hk dX6_at_21 (by subst e2 e4; first | rfl | (simp only [gt, c1, c1', c3, c3', bI, and_true, true_and, and_false, false_and, and_self, or_true, true_or, or_false, false_or, or_self, not_true_eq_false, not_false_eq_true, if_true, if_false, ↓reduceIte]; done) | (simp [gt, c1, c1', c3, c3', bI]; done))
set_option maxHeartbeats 4000000 in
set_option maxRecDepth 100000 in
theorem c_X6_barsKind (l : Launch) (E : EV) {a k : Int32} : Rd l E yX6_barsKind cX6_barsKind 2 (some .boolean) 1 21 [.int a, .int k] ([]) (some (.int (bI (¬ a &&& gt tBar 6 k = 0)))) := by
  refine Rd.mk0 (by decide) (Nat.le_of_ble_eq_true rfl) ?_
  intro pP eE sS mM aA bB mt cC F hr hk hE ls hl
  have hl : lv_has ls 2 [(0, .int a), (1, .int k)] := hl
  refine V.iload_n F dX6_barsKind_0 rfl (lv_at hl 0 rfl) ?_
  refine V.gets F hE hE.2.2.1.2.1 sX6_176 dX6_barsKind_1 ?_
  refine V.iload_n F dX6_barsKind_4 rfl (lv_at hl 1 rfl) ?_
  refine V.rdS F hE (c_X6_at_T1 l E) (kX6_172 F.2.2.2.2 ⟨Nat.le_of_ble_eq_true rfl, Nat.le_of_ble_eq_true rfl⟩) [] rfl rfl hl.1 (Nat.le_of_ble_eq_true rfl) dX6_barsKind_5 rfl ?_
  refine V.topi (fun z1 e1 => ?_)
  refine V.iand F dX6_barsKind_8 (fun z2 e2 => ?_)
  refine V.if_eq (tgt := 16) F dX6_barsKind_9 (by decide) (fun c3 => ?_) (fun c3 => ?_)
  · skip
    refine V.iconst (v := 0) F dX6_barsKind_16 (by decide) ?_
    exact V.zretR F hr hk dX6_barsKind_17 (nb_bI _) (by subst e1 e2; first | rfl | (simp only [c3, bI, and_true, true_and, and_false, false_and, and_self, or_true, true_or, or_false, false_or, or_self, not_true_eq_false, not_false_eq_true, if_true, if_false, ↓reduceIte]; done) | (simp [c3, bI]; done))
  · skip
    refine V.iconst (v := 1) F dX6_barsKind_12 (by decide) ?_
    refine V.goto (tgt := 17) F dX6_barsKind_13 (by decide) ?_
    exact V.zretR F hr hk dX6_barsKind_17 (nb_bI _) (by subst e1 e2; first | rfl | (simp only [c3, bI, and_true, true_and, and_false, false_and, and_self, or_true, true_or, or_false, false_or, or_self, not_true_eq_false, not_false_eq_true, if_true, if_false, ↓reduceIte]; done) | (simp [c3, bI]; done))
set_option maxHeartbeats 4000000 in
set_option maxRecDepth 100000 in
theorem c_X6_put (l : Launch) (E : EV) {a N : Nat} {f : Nat → Int32} {i v : Int32} (hNN : N < 2 ^ 31) : Wr l E yX6_put cX6_put 3 none 0 0 [.ref a, .int i, .int v] ([rw_ E a N f]) ([rw_ E a N (ptF f N i v)]) none := by
  refine Wr.mk0 (by decide) (Nat.le_of_ble_eq_true rfl) ?_
  intro pP eE sS mM aA bB mt cC F hr hk hE hN ls hl
  have hl : lv_has ls 3 [(0, .ref a), (1, .int i), (2, .int v)] := hl
  refine V.aload_n F dX6_put_0 rfl (lv_at hl 0 rfl) ?_
  refine V.ifnull F dX6_put_1 ?_
  refine V.iload_n F dX6_put_4 rfl (lv_at hl 1 rfl) ?_
  refine V.if_lt (tgt := 18) F dX6_put_5 (by decide) (fun c1 c1' => ?_) (fun c1 c1' => ?_)
  · skip
    exact V.vretW F hr hk dX6_put_18 (by first | rfl | (simp only [ptF, c1, c1', bI, and_true, true_and, and_false, false_and, and_self, or_true, true_or, or_false, false_or, or_self, not_true_eq_false, not_false_eq_true, if_true, if_false, ↓reduceIte]; done) | (simp [ptF, c1, c1', bI]; done))
  · skip
    refine V.iload_n F dX6_put_8 rfl (lv_at hl 1 rfl) ?_
    refine V.aload_n F dX6_put_9 rfl (lv_at hl 0 rfl) ?_
    refine V.alen F hE 0 rfl dX6_put_10 (fun z2 e2 => ?_)
    refine V.icmp_ge (tgt := 18) F dX6_put_11 (by decide) (fun c3 c3' => ?_) (fun c3 c3' => ?_)
    · skip
      exact V.vretW F hr hk dX6_put_18 (by subst e2; first | rfl | (simp only [ptF, c1, c1', c3, c3', bI, and_true, true_and, and_false, false_and, and_self, or_true, true_or, or_false, false_or, or_self, not_true_eq_false, not_false_eq_true, if_true, if_false, ↓reduceIte]; done) | (simp [ptF, c1, c1', c3, c3', bI]; done))
    · skip
      refine V.aload_n F dX6_put_14 rfl (lv_at hl 0 rfl) ?_
      refine V.iload_n F dX6_put_15 rfl (lv_at hl 1 rfl) ?_
      refine V.iload_n F dX6_put_16 rfl (lv_at hl 2 rfl) ?_
      refine V.iast F hE hN rfl 0 rfl (by subst e2; exact vpc (by assumption) (by assumption) (by assumption)) dX6_put_17 rfl ?_
      exact V.vretW F hr hk dX6_put_18 (by subst e2; first | rfl | (simp only [ptF, c1, c1', c3, c3', bI, and_true, true_and, and_false, false_and, and_self, or_true, true_or, or_false, false_or, or_self, not_true_eq_false, not_false_eq_true, if_true, if_false, ↓reduceIte]; done) | (simp [ptF, c1, c1', c3, c3', bI]; done))
