set_option maxHeartbeats 4000000 in
set_option maxRecDepth 100000 in
theorem c_X6_person (l : Launch) (E : EV) {d v0 v1 t u : Nat} {a : Nat → Nat} {g : Nat → Int32} {f : Nat → Nat → Int32} {n m : Int32} {r : Nat → Int32} {p w : Int32} (h1 : 0 ≤ p ∧ p ≤ 7) (h2 : 0 ≤ w ∧ w ≤ 6) : Rd l E yX6_person cX6_person 3 (some .int) 7 104 [.ref d, .int p, .int w] (dW E d v0 v1 t u n m r a g f) (some (.int (perC g f p w))) := by
  refine Rd.mk0 (by decide) (Nat.le_of_ble_eq_true rfl) ?_
  intro pP eE sS mM aA bB mt cC F hr hk hE ls hl
  have hl : lv_has ls 3 [(0, .ref d), (1, .int p), (2, .int w)] := hl
  refine V.iload_n F dX6_person_0 rfl (lv_at hl 1 rfl) ?_
  refine V.rdSn F hE (c_X6_requirePerson l E h1) (kX6_30 F.2.2.2.2 ⟨Nat.le_of_ble_eq_true rfl, Nat.le_of_ble_eq_true rfl⟩) [] rfl rfl hl.1 (Nat.le_of_ble_eq_true rfl) dX6_person_1 rfl ?_
  refine V.iload_n F dX6_person_4 rfl (lv_at hl 2 rfl) ?_
  refine V.iconst (v := 0) F dX6_person_5 (by decide) ?_
  refine V.bipush (v := 6) F dX6_person_6 (by decide) ?_
  refine V.rdS F hE (c_X6_isBetween l E) (kX6_34 F.2.2.2.2 ⟨Nat.le_of_ble_eq_true rfl, Nat.le_of_ble_eq_true rfl⟩) [] rfl rfl hl.1 (Nat.le_of_ble_eq_true rfl) dX6_person_8 rfl ?_
  refine V.topi (fun z1 e1 => ?_)
  refine V.rdSn F hE (c_X6_requireArgument l E (by rw [e1, bI_t h2]; decide)) (kX6_38 F.2.2.2.2 ⟨Nat.le_of_ble_eq_true rfl, Nat.le_of_ble_eq_true rfl⟩) [] rfl rfl hl.1 (Nat.le_of_ble_eq_true rfl) dX6_person_11 rfl ?_
  refine V.aload_n F dX6_person_14 rfl (lv_at hl 0 rfl) ?_
  refine V.getf F hE gX6_10 0 rfl rfl dX6_person_15 ?_
  refine V.iload_n F dX6_person_18 rfl (lv_at hl 1 rfl) ?_
  refine V.iload_n F dX6_person_19 rfl (lv_at hl 2 rfl) ?_
  refine V.rsV (q0 := 4) F hE (c_X5_personNumber l E) (kX6_152 F.2.2.2.2 ⟨Nat.le_of_ble_eq_true rfl, Nat.le_of_ble_eq_true rfl⟩) rfl rfl 4 18 (by rfl) rfl hl.1 (Nat.le_of_ble_eq_true rfl) dX6_person_20 rfl ?_
  refine V.topi (fun z2 e2 => ?_)
  exact V.iretR F hr hk dX6_person_23 (by subst e1 e2; first | with_reducible rfl | (simp only [oi1, nI_succ, bI, and_true, true_and, and_false, false_and, and_self, or_true, true_or, or_false, false_or, or_self, not_true_eq_false, not_false_eq_true, if_true, if_false, ↓reduceIte] <;> rfl) | rfl | (simp [bI, oi1, nI_succ]; done))
set_option maxHeartbeats 4000000 in
set_option maxRecDepth 100000 in
theorem c_X6_person_t1 (l : Launch) (E : EV) {d v0 v1 t u : Nat} {a : Nat → Nat} {g : Nat → Int32} {f : Nat → Nat → Int32} {n m : Int32} {r : Nat → Int32} {p w : Int32} (h1 : ¬ (0 ≤ p ∧ p ≤ 7)) (hst : l.stackTraces = false) : Th l E yX6_person cX6_person 3 (some .int) 7 104 [.ref d, .int p, .int w] (dW E d v0 v1 t u n m r a g f) xI := by
  refine Th.mk0 (by decide) (Nat.le_of_ble_eq_true rfl) ?_
  intro pP eE sS mM aA bB mt cC F hk hx hE ls hl
  have hl : lv_has ls 3 [(0, .ref d), (1, .int p), (2, .int w)] := hl
  refine V.iload_n F dX6_person_0 rfl (lv_at hl 1 rfl) ?_
  exact V.thS F hE hx hk (c_X6_requirePerson_t l E h1 hst) (kX6_30 F.2.2.2.2 ⟨Nat.le_of_ble_eq_true rfl, Nat.le_of_ble_eq_true rfl⟩) [] rfl rfl hl.1 (Nat.le_of_ble_eq_true rfl) dX6_person_1 rfl ⟨Nat.le_of_ble_eq_true rfl, Nat.le_of_ble_eq_true rfl⟩
set_option maxHeartbeats 4000000 in
set_option maxRecDepth 100000 in
theorem c_X6_person_t2 (l : Launch) (E : EV) {d v0 v1 t u : Nat} {a : Nat → Nat} {g : Nat → Int32} {f : Nat → Nat → Int32} {n m : Int32} {r : Nat → Int32} {p w : Int32} (h1 : 0 ≤ p ∧ p ≤ 7) (h2 : ¬ (0 ≤ w ∧ w ≤ 6)) (hst : l.stackTraces = false) : Th l E yX6_person cX6_person 3 (some .int) 7 104 [.ref d, .int p, .int w] (dW E d v0 v1 t u n m r a g f) xA := by
  refine Th.mk0 (by decide) (Nat.le_of_ble_eq_true rfl) ?_
  intro pP eE sS mM aA bB mt cC F hk hx hE ls hl
  have hl : lv_has ls 3 [(0, .ref d), (1, .int p), (2, .int w)] := hl
  refine V.iload_n F dX6_person_0 rfl (lv_at hl 1 rfl) ?_
  refine V.rdSn F hE (c_X6_requirePerson l E h1) (kX6_30 F.2.2.2.2 ⟨Nat.le_of_ble_eq_true rfl, Nat.le_of_ble_eq_true rfl⟩) [] rfl rfl hl.1 (Nat.le_of_ble_eq_true rfl) dX6_person_1 rfl ?_
  refine V.iload_n F dX6_person_4 rfl (lv_at hl 2 rfl) ?_
  refine V.iconst (v := 0) F dX6_person_5 (by decide) ?_
  refine V.bipush (v := 6) F dX6_person_6 (by decide) ?_
  refine V.rdS F hE (c_X6_isBetween l E) (kX6_34 F.2.2.2.2 ⟨Nat.le_of_ble_eq_true rfl, Nat.le_of_ble_eq_true rfl⟩) [] rfl rfl hl.1 (Nat.le_of_ble_eq_true rfl) dX6_person_8 rfl ?_
  refine V.topi (fun z1 e1 => ?_)
  exact V.thS F hE hx hk (c_X6_requireArgument_t l E (by rw [e1, bI_f h2]) hst) (kX6_38 F.2.2.2.2 ⟨Nat.le_of_ble_eq_true rfl, Nat.le_of_ble_eq_true rfl⟩) [] rfl rfl hl.1 (Nat.le_of_ble_eq_true rfl) dX6_person_11 rfl ⟨Nat.le_of_ble_eq_true rfl, Nat.le_of_ble_eq_true rfl⟩
set_option maxHeartbeats 4000000 in
set_option maxRecDepth 100000 in
theorem c_X6_rehearsed (l : Launch) (E : EV) {d v0 v1 t u : Nat} {a : Nat → Nat} {g : Nat → Int32} {f : Nat → Nat → Int32} {n m : Int32} {r : Nat → Int32} {p k q : Int32} (h1 : 0 ≤ p ∧ p ≤ 7) (h2 : 0 ≤ k ∧ k ≤ 5) (h3 : 1 ≤ q ∧ q ≤ 5) : Rd l E yX6_rehearsed cX6_rehearsed 4 (some .int) 7 104 [.ref d, .int p, .int k, .int q] (dW E d v0 v1 t u n m r a g f) (some (.int (cntS g f (g 0) p k q))) := by
  refine Rd.mk0 (by decide) (Nat.le_of_ble_eq_true rfl) ?_
  intro pP eE sS mM aA bB mt cC F hr hk hE ls hl
  have hl : lv_has ls 4 [(0, .ref d), (1, .int p), (2, .int k), (3, .int q)] := hl
  refine V.iload_n F dX6_rehearsed_0 rfl (lv_at hl 1 rfl) ?_
  refine V.rdSn F hE (c_X6_requirePerson l E h1) (kX6_30 F.2.2.2.2 ⟨Nat.le_of_ble_eq_true rfl, Nat.le_of_ble_eq_true rfl⟩) [] rfl rfl hl.1 (Nat.le_of_ble_eq_true rfl) dX6_rehearsed_1 rfl ?_
  refine V.iload_n F dX6_rehearsed_4 rfl (lv_at hl 2 rfl) ?_
  refine V.rdSn F hE (c_X6_requireKind l E h2) (kX6_64 F.2.2.2.2 ⟨Nat.le_of_ble_eq_true rfl, Nat.le_of_ble_eq_true rfl⟩) [] rfl rfl hl.1 (Nat.le_of_ble_eq_true rfl) dX6_rehearsed_5 rfl ?_
  refine V.iload_n F dX6_rehearsed_8 rfl (lv_at hl 3 rfl) ?_
  refine V.iconst (v := 1) F dX6_rehearsed_9 (by decide) ?_
  refine V.iconst (v := 5) F dX6_rehearsed_10 (by decide) ?_
  refine V.rdS F hE (c_X6_isBetween l E) (kX6_34 F.2.2.2.2 ⟨Nat.le_of_ble_eq_true rfl, Nat.le_of_ble_eq_true rfl⟩) [] rfl rfl hl.1 (Nat.le_of_ble_eq_true rfl) dX6_rehearsed_11 rfl ?_
  refine V.topi (fun z1 e1 => ?_)
  refine V.rdSn F hE (c_X6_requireArgument l E (by rw [e1, bI_t h3]; decide)) (kX6_38 F.2.2.2.2 ⟨Nat.le_of_ble_eq_true rfl, Nat.le_of_ble_eq_true rfl⟩) [] rfl rfl hl.1 (Nat.le_of_ble_eq_true rfl) dX6_rehearsed_14 rfl ?_
  refine V.aload_n F dX6_rehearsed_17 rfl (lv_at hl 0 rfl) ?_
  refine V.getf F hE gX6_10 0 rfl rfl dX6_rehearsed_18 ?_
  refine V.getf F hE gX6_155 4 rfl rfl dX6_rehearsed_21 ?_
  refine V.aload_n F dX6_rehearsed_24 rfl (lv_at hl 0 rfl) ?_
  refine V.getf F hE gX6_10 0 rfl rfl dX6_rehearsed_25 ?_
  refine V.getfi F hE gX6_60 4 rfl rfl dX6_rehearsed_28 (fun z2 e2 => ?_)
  refine V.iload_n F dX6_rehearsed_31 rfl (lv_at hl 1 rfl) ?_
  refine V.iload_n F dX6_rehearsed_32 rfl (lv_at hl 2 rfl) ?_
  refine V.iload_n F dX6_rehearsed_33 rfl (lv_at hl 3 rfl) ?_
  refine V.rdV (q0 := 7) F hE (c_X2_countingOn l E) (kX6_159 F.2.2.2.2 ⟨Nat.le_of_ble_eq_true rfl, Nat.le_of_ble_eq_true rfl⟩) rfl rfl [7, 8, 9, 10, 11] rfl rfl hl.1 (Nat.le_of_ble_eq_true rfl) dX6_rehearsed_34 rfl ?_
  refine V.topi (fun z3 e3 => ?_)
  exact V.iretR F hr hk dX6_rehearsed_37 (by subst e1 e2 e3; first | with_reducible rfl | (simp only [oi1, nI_succ, bI, and_true, true_and, and_false, false_and, and_self, or_true, true_or, or_false, false_or, or_self, not_true_eq_false, not_false_eq_true, if_true, if_false, ↓reduceIte] <;> rfl) | rfl | (simp [bI, oi1, nI_succ]; done))
set_option maxHeartbeats 4000000 in
set_option maxRecDepth 100000 in
theorem c_X6_rehearsed_t1 (l : Launch) (E : EV) {d v0 v1 t u : Nat} {a : Nat → Nat} {g : Nat → Int32} {f : Nat → Nat → Int32} {n m : Int32} {r : Nat → Int32} {p k q : Int32} (h1 : ¬ (0 ≤ p ∧ p ≤ 7)) (hst : l.stackTraces = false) : Th l E yX6_rehearsed cX6_rehearsed 4 (some .int) 7 104 [.ref d, .int p, .int k, .int q] (dW E d v0 v1 t u n m r a g f) xI := by
  refine Th.mk0 (by decide) (Nat.le_of_ble_eq_true rfl) ?_
  intro pP eE sS mM aA bB mt cC F hk hx hE ls hl
  have hl : lv_has ls 4 [(0, .ref d), (1, .int p), (2, .int k), (3, .int q)] := hl
  refine V.iload_n F dX6_rehearsed_0 rfl (lv_at hl 1 rfl) ?_
  exact V.thS F hE hx hk (c_X6_requirePerson_t l E h1 hst) (kX6_30 F.2.2.2.2 ⟨Nat.le_of_ble_eq_true rfl, Nat.le_of_ble_eq_true rfl⟩) [] rfl rfl hl.1 (Nat.le_of_ble_eq_true rfl) dX6_rehearsed_1 rfl ⟨Nat.le_of_ble_eq_true rfl, Nat.le_of_ble_eq_true rfl⟩
set_option maxHeartbeats 4000000 in
set_option maxRecDepth 100000 in
theorem c_X6_rehearsed_t2 (l : Launch) (E : EV) {d v0 v1 t u : Nat} {a : Nat → Nat} {g : Nat → Int32} {f : Nat → Nat → Int32} {n m : Int32} {r : Nat → Int32} {p k q : Int32} (h1 : 0 ≤ p ∧ p ≤ 7) (h2 : ¬ (0 ≤ k ∧ k ≤ 5)) (hst : l.stackTraces = false) : Th l E yX6_rehearsed cX6_rehearsed 4 (some .int) 7 104 [.ref d, .int p, .int k, .int q] (dW E d v0 v1 t u n m r a g f) xI := by
  refine Th.mk0 (by decide) (Nat.le_of_ble_eq_true rfl) ?_
  intro pP eE sS mM aA bB mt cC F hk hx hE ls hl
  have hl : lv_has ls 4 [(0, .ref d), (1, .int p), (2, .int k), (3, .int q)] := hl
  refine V.iload_n F dX6_rehearsed_0 rfl (lv_at hl 1 rfl) ?_
  refine V.rdSn F hE (c_X6_requirePerson l E h1) (kX6_30 F.2.2.2.2 ⟨Nat.le_of_ble_eq_true rfl, Nat.le_of_ble_eq_true rfl⟩) [] rfl rfl hl.1 (Nat.le_of_ble_eq_true rfl) dX6_rehearsed_1 rfl ?_
  refine V.iload_n F dX6_rehearsed_4 rfl (lv_at hl 2 rfl) ?_
  exact V.thS F hE hx hk (c_X6_requireKind_t l E h2 hst) (kX6_64 F.2.2.2.2 ⟨Nat.le_of_ble_eq_true rfl, Nat.le_of_ble_eq_true rfl⟩) [] rfl rfl hl.1 (Nat.le_of_ble_eq_true rfl) dX6_rehearsed_5 rfl ⟨Nat.le_of_ble_eq_true rfl, Nat.le_of_ble_eq_true rfl⟩
set_option maxHeartbeats 4000000 in
set_option maxRecDepth 100000 in
theorem c_X6_rehearsed_t3 (l : Launch) (E : EV) {d v0 v1 t u : Nat} {a : Nat → Nat} {g : Nat → Int32} {f : Nat → Nat → Int32} {n m : Int32} {r : Nat → Int32} {p k q : Int32} (h1 : 0 ≤ p ∧ p ≤ 7) (h2 : 0 ≤ k ∧ k ≤ 5) (h3 : ¬ (1 ≤ q ∧ q ≤ 5)) (hst : l.stackTraces = false) : Th l E yX6_rehearsed cX6_rehearsed 4 (some .int) 7 104 [.ref d, .int p, .int k, .int q] (dW E d v0 v1 t u n m r a g f) xA := by
  refine Th.mk0 (by decide) (Nat.le_of_ble_eq_true rfl) ?_
  intro pP eE sS mM aA bB mt cC F hk hx hE ls hl
  have hl : lv_has ls 4 [(0, .ref d), (1, .int p), (2, .int k), (3, .int q)] := hl
  refine V.iload_n F dX6_rehearsed_0 rfl (lv_at hl 1 rfl) ?_
  refine V.rdSn F hE (c_X6_requirePerson l E h1) (kX6_30 F.2.2.2.2 ⟨Nat.le_of_ble_eq_true rfl, Nat.le_of_ble_eq_true rfl⟩) [] rfl rfl hl.1 (Nat.le_of_ble_eq_true rfl) dX6_rehearsed_1 rfl ?_
  refine V.iload_n F dX6_rehearsed_4 rfl (lv_at hl 2 rfl) ?_
  refine V.rdSn F hE (c_X6_requireKind l E h2) (kX6_64 F.2.2.2.2 ⟨Nat.le_of_ble_eq_true rfl, Nat.le_of_ble_eq_true rfl⟩) [] rfl rfl hl.1 (Nat.le_of_ble_eq_true rfl) dX6_rehearsed_5 rfl ?_
  refine V.iload_n F dX6_rehearsed_8 rfl (lv_at hl 3 rfl) ?_
  refine V.iconst (v := 1) F dX6_rehearsed_9 (by decide) ?_
  refine V.iconst (v := 5) F dX6_rehearsed_10 (by decide) ?_
  refine V.rdS F hE (c_X6_isBetween l E) (kX6_34 F.2.2.2.2 ⟨Nat.le_of_ble_eq_true rfl, Nat.le_of_ble_eq_true rfl⟩) [] rfl rfl hl.1 (Nat.le_of_ble_eq_true rfl) dX6_rehearsed_11 rfl ?_
  refine V.topi (fun z1 e1 => ?_)
  exact V.thS F hE hx hk (c_X6_requireArgument_t l E (by rw [e1, bI_f h3]) hst) (kX6_38 F.2.2.2.2 ⟨Nat.le_of_ble_eq_true rfl, Nat.le_of_ble_eq_true rfl⟩) [] rfl rfl hl.1 (Nat.le_of_ble_eq_true rfl) dX6_rehearsed_14 rfl ⟨Nat.le_of_ble_eq_true rfl, Nat.le_of_ble_eq_true rfl⟩
set_option maxHeartbeats 4000000 in
set_option maxRecDepth 100000 in
theorem c_X6_sceneOf (l : Launch) (E : EV) {d v0 v1 t u : Nat} {a : Nat → Nat} {g : Nat → Int32} {f : Nat → Nat → Int32} {n m : Int32} {r : Nat → Int32} {x w : Int32} (h1 : 0 ≤ x ∧ x < g 8) (h2 : 0 ≤ w ∧ w ≤ 5) : Rd l E yX6_sceneOf cX6_sceneOf 3 (some .int) 7 119 [.ref d, .int x, .int w] (dW E d v0 v1 t u n m r a g f) (some (.int (scnC g f x w))) := by
  refine Rd.mk0 (by decide) (Nat.le_of_ble_eq_true rfl) ?_
  intro pP eE sS mM aA bB mt cC F hr hk hE ls hl
  have hl : lv_has ls 3 [(0, .ref d), (1, .int x), (2, .int w)] := hl
  refine V.aload_n F dX6_sceneOf_0 rfl (lv_at hl 0 rfl) ?_
  refine V.iload_n F dX6_sceneOf_1 rfl (lv_at hl 1 rfl) ?_
  refine V.rsVn (q0 := 0) F hE (c_X6_requireScene l E h1) (kX6_111 F.2.2.2.2 ⟨Nat.le_of_ble_eq_true rfl, Nat.le_of_ble_eq_true rfl⟩) rfl rfl 0 22 (by rfl) rfl hl.1 (Nat.le_of_ble_eq_true rfl) dX6_sceneOf_2 rfl ?_
  refine V.iload_n F dX6_sceneOf_5 rfl (lv_at hl 2 rfl) ?_
  refine V.iconst (v := 0) F dX6_sceneOf_6 (by decide) ?_
  refine V.iconst (v := 5) F dX6_sceneOf_7 (by decide) ?_
  refine V.rdS F hE (c_X6_isBetween l E) (kX6_34 F.2.2.2.2 ⟨Nat.le_of_ble_eq_true rfl, Nat.le_of_ble_eq_true rfl⟩) [] rfl rfl hl.1 (Nat.le_of_ble_eq_true rfl) dX6_sceneOf_8 rfl ?_
  refine V.topi (fun z1 e1 => ?_)
  refine V.rdSn F hE (c_X6_requireArgument l E (by rw [e1, bI_t h2]; decide)) (kX6_38 F.2.2.2.2 ⟨Nat.le_of_ble_eq_true rfl, Nat.le_of_ble_eq_true rfl⟩) [] rfl rfl hl.1 (Nat.le_of_ble_eq_true rfl) dX6_sceneOf_11 rfl ?_
  refine V.aload_n F dX6_sceneOf_14 rfl (lv_at hl 0 rfl) ?_
  refine V.getf F hE gX6_10 0 rfl rfl dX6_sceneOf_15 ?_
  refine V.iload_n F dX6_sceneOf_18 rfl (lv_at hl 1 rfl) ?_
  refine V.iload_n F dX6_sceneOf_19 rfl (lv_at hl 2 rfl) ?_
  refine V.rsV (q0 := 4) F hE (c_X5_sceneNumber l E) (kX6_179 F.2.2.2.2 ⟨Nat.le_of_ble_eq_true rfl, Nat.le_of_ble_eq_true rfl⟩) rfl rfl 4 18 (by rfl) rfl hl.1 (Nat.le_of_ble_eq_true rfl) dX6_sceneOf_20 rfl ?_
  refine V.topi (fun z2 e2 => ?_)
  exact V.iretR F hr hk dX6_sceneOf_23 (by subst e1 e2; first | with_reducible rfl | (simp only [oi1, nI_succ, bI, and_true, true_and, and_false, false_and, and_self, or_true, true_or, or_false, false_or, or_self, not_true_eq_false, not_false_eq_true, if_true, if_false, ↓reduceIte] <;> rfl) | rfl | (simp [bI, oi1, nI_succ]; done))
set_option maxHeartbeats 4000000 in
set_option maxRecDepth 100000 in
theorem c_X6_sceneOf_t1 (l : Launch) (E : EV) {d v0 v1 t u : Nat} {a : Nat → Nat} {g : Nat → Int32} {f : Nat → Nat → Int32} {n m : Int32} {r : Nat → Int32} {x w : Int32} (h1 : ¬ (0 ≤ x ∧ x < g 8)) (hst : l.stackTraces = false) : Th l E yX6_sceneOf cX6_sceneOf 3 (some .int) 7 119 [.ref d, .int x, .int w] (dW E d v0 v1 t u n m r a g f) xI := by
  refine Th.mk0 (by decide) (Nat.le_of_ble_eq_true rfl) ?_
  intro pP eE sS mM aA bB mt cC F hk hx hE ls hl
  have hl : lv_has ls 3 [(0, .ref d), (1, .int x), (2, .int w)] := hl
  refine V.aload_n F dX6_sceneOf_0 rfl (lv_at hl 0 rfl) ?_
  refine V.iload_n F dX6_sceneOf_1 rfl (lv_at hl 1 rfl) ?_
  exact V.thV (q0 := 0) F hE hx hk (c_X6_requireScene_t l E h1 hst) (kX6_111 F.2.2.2.2 ⟨Nat.le_of_ble_eq_true rfl, Nat.le_of_ble_eq_true rfl⟩) rfl rfl [0, 1, 2, 3, 4, 5, 6, 7, 8, 9, 10, 11, 12, 13, 14, 15, 16, 17, 18, 19, 20, 21] rfl rfl hl.1 (Nat.le_of_ble_eq_true rfl) dX6_sceneOf_2 rfl ⟨Nat.le_of_ble_eq_true rfl, Nat.le_of_ble_eq_true rfl⟩
set_option maxHeartbeats 4000000 in
set_option maxRecDepth 100000 in
theorem c_X6_sceneOf_t2 (l : Launch) (E : EV) {d v0 v1 t u : Nat} {a : Nat → Nat} {g : Nat → Int32} {f : Nat → Nat → Int32} {n m : Int32} {r : Nat → Int32} {x w : Int32} (h1 : 0 ≤ x ∧ x < g 8) (h2 : ¬ (0 ≤ w ∧ w ≤ 5)) (hst : l.stackTraces = false) : Th l E yX6_sceneOf cX6_sceneOf 3 (some .int) 7 119 [.ref d, .int x, .int w] (dW E d v0 v1 t u n m r a g f) xA := by
  refine Th.mk0 (by decide) (Nat.le_of_ble_eq_true rfl) ?_
  intro pP eE sS mM aA bB mt cC F hk hx hE ls hl
  have hl : lv_has ls 3 [(0, .ref d), (1, .int x), (2, .int w)] := hl
  refine V.aload_n F dX6_sceneOf_0 rfl (lv_at hl 0 rfl) ?_
  refine V.iload_n F dX6_sceneOf_1 rfl (lv_at hl 1 rfl) ?_
  refine V.rsVn (q0 := 0) F hE (c_X6_requireScene l E h1) (kX6_111 F.2.2.2.2 ⟨Nat.le_of_ble_eq_true rfl, Nat.le_of_ble_eq_true rfl⟩) rfl rfl 0 22 (by rfl) rfl hl.1 (Nat.le_of_ble_eq_true rfl) dX6_sceneOf_2 rfl ?_
  refine V.iload_n F dX6_sceneOf_5 rfl (lv_at hl 2 rfl) ?_
  refine V.iconst (v := 0) F dX6_sceneOf_6 (by decide) ?_
  refine V.iconst (v := 5) F dX6_sceneOf_7 (by decide) ?_
  refine V.rdS F hE (c_X6_isBetween l E) (kX6_34 F.2.2.2.2 ⟨Nat.le_of_ble_eq_true rfl, Nat.le_of_ble_eq_true rfl⟩) [] rfl rfl hl.1 (Nat.le_of_ble_eq_true rfl) dX6_sceneOf_8 rfl ?_
  refine V.topi (fun z1 e1 => ?_)
  exact V.thS F hE hx hk (c_X6_requireArgument_t l E (by rw [e1, bI_f h2]) hst) (kX6_38 F.2.2.2.2 ⟨Nat.le_of_ble_eq_true rfl, Nat.le_of_ble_eq_true rfl⟩) [] rfl rfl hl.1 (Nat.le_of_ble_eq_true rfl) dX6_sceneOf_11 rfl ⟨Nat.le_of_ble_eq_true rfl, Nat.le_of_ble_eq_true rfl⟩
set_option maxHeartbeats 4000000 in
set_option maxRecDepth 100000 in
theorem c_X6_count (l : Launch) (E : EV) {d v0 v1 t u : Nat} {a : Nat → Nat} {g : Nat → Int32} {f : Nat → Nat → Int32} {n m : Int32} {r : Nat → Int32} {w : Int32} (h1 : 0 ≤ w ∧ w ≤ 10) : Rd l E yX6_count cX6_count 2 (some .int) 7 140 [.ref d, .int w] (dW E d v0 v1 t u n m r a g f) (some (.int (cnuC g f n w))) := by
  refine Rd.mk0 (by decide) (Nat.le_of_ble_eq_true rfl) ?_
  intro pP eE sS mM aA bB mt cC F hr hk hE ls hl
  have hl : lv_has ls 2 [(0, .ref d), (1, .int w)] := hl
  refine V.iload_n F dX6_count_0 rfl (lv_at hl 1 rfl) ?_
  refine V.iconst (v := 0) F dX6_count_1 (by decide) ?_
  refine V.bipush (v := 10) F dX6_count_2 (by decide) ?_
  refine V.rdS F hE (c_X6_isBetween l E) (kX6_34 F.2.2.2.2 ⟨Nat.le_of_ble_eq_true rfl, Nat.le_of_ble_eq_true rfl⟩) [] rfl rfl hl.1 (Nat.le_of_ble_eq_true rfl) dX6_count_4 rfl ?_
  refine V.topi (fun z1 e1 => ?_)
  refine V.rdSn F hE (c_X6_requireArgument l E (by rw [e1, bI_t h1]; decide)) (kX6_38 F.2.2.2.2 ⟨Nat.le_of_ble_eq_true rfl, Nat.le_of_ble_eq_true rfl⟩) [] rfl rfl hl.1 (Nat.le_of_ble_eq_true rfl) dX6_count_7 rfl ?_
  refine V.aload_n F dX6_count_10 rfl (lv_at hl 0 rfl) ?_
  refine V.iload_n F dX6_count_11 rfl (lv_at hl 1 rfl) ?_
  refine V.rsV (q0 := 0) F hE (c_X6_countNumber l E) (kX6_182 F.2.2.2.2 ⟨Nat.le_of_ble_eq_true rfl, Nat.le_of_ble_eq_true rfl⟩) rfl rfl 0 22 (by rfl) rfl hl.1 (Nat.le_of_ble_eq_true rfl) dX6_count_12 rfl ?_
  refine V.topi (fun z2 e2 => ?_)
  exact V.iretR F hr hk dX6_count_15 (by subst e1 e2; first | with_reducible rfl | (simp only [oi1, nI_succ, bI, and_true, true_and, and_false, false_and, and_self, or_true, true_or, or_false, false_or, or_self, not_true_eq_false, not_false_eq_true, if_true, if_false, ↓reduceIte] <;> rfl) | rfl | (simp [bI, oi1, nI_succ]; done))
set_option maxHeartbeats 4000000 in
set_option maxRecDepth 100000 in
theorem c_X6_count_t1 (l : Launch) (E : EV) {d v0 v1 t u : Nat} {a : Nat → Nat} {g : Nat → Int32} {f : Nat → Nat → Int32} {n m : Int32} {r : Nat → Int32} {w : Int32} (h1 : ¬ (0 ≤ w ∧ w ≤ 10)) (hst : l.stackTraces = false) : Th l E yX6_count cX6_count 2 (some .int) 7 140 [.ref d, .int w] (dW E d v0 v1 t u n m r a g f) xA := by
  refine Th.mk0 (by decide) (Nat.le_of_ble_eq_true rfl) ?_
  intro pP eE sS mM aA bB mt cC F hk hx hE ls hl
  have hl : lv_has ls 2 [(0, .ref d), (1, .int w)] := hl
  refine V.iload_n F dX6_count_0 rfl (lv_at hl 1 rfl) ?_
  refine V.iconst (v := 0) F dX6_count_1 (by decide) ?_
  refine V.bipush (v := 10) F dX6_count_2 (by decide) ?_
  refine V.rdS F hE (c_X6_isBetween l E) (kX6_34 F.2.2.2.2 ⟨Nat.le_of_ble_eq_true rfl, Nat.le_of_ble_eq_true rfl⟩) [] rfl rfl hl.1 (Nat.le_of_ble_eq_true rfl) dX6_count_4 rfl ?_
  refine V.topi (fun z1 e1 => ?_)
  exact V.thS F hE hx hk (c_X6_requireArgument_t l E (by rw [e1, bI_f h1]) hst) (kX6_38 F.2.2.2.2 ⟨Nat.le_of_ble_eq_true rfl, Nat.le_of_ble_eq_true rfl⟩) [] rfl rfl hl.1 (Nat.le_of_ble_eq_true rfl) dX6_count_7 rfl ⟨Nat.le_of_ble_eq_true rfl, Nat.le_of_ble_eq_true rfl⟩
set_option maxHeartbeats 4000000 in
set_option maxRecDepth 100000 in
theorem c_X6_refusal (l : Launch) (E : EV) {d v0 v1 t u : Nat} {a : Nat → Nat} {g : Nat → Int32} {f : Nat → Nat → Int32} {n m : Int32} {r : Nat → Int32} {x p : Int32} (h1 : 0 ≤ x ∧ x < g 8) (h2 : 0 ≤ p ∧ p ≤ 7) : Rd l E yX6_refusal cX6_refusal 3 (some .int) 7 105 [.ref d, .int x, .int p] (dW E d v0 v1 t u n m r a g f) (some (.int (reaC g f (g 0) x p))) := by
  refine Rd.mk0 (by decide) (Nat.le_of_ble_eq_true rfl) ?_
  intro pP eE sS mM aA bB mt cC F hr hk hE ls hl
  have hl : lv_has ls 3 [(0, .ref d), (1, .int x), (2, .int p)] := hl
  refine V.aload_n F dX6_refusal_0 rfl (lv_at hl 0 rfl) ?_
  refine V.iload_n F dX6_refusal_1 rfl (lv_at hl 1 rfl) ?_
  refine V.rsVn (q0 := 0) F hE (c_X6_requireScene l E h1) (kX6_111 F.2.2.2.2 ⟨Nat.le_of_ble_eq_true rfl, Nat.le_of_ble_eq_true rfl⟩) rfl rfl 0 22 (by rfl) rfl hl.1 (Nat.le_of_ble_eq_true rfl) dX6_refusal_2 rfl ?_
  refine V.iload_n F dX6_refusal_5 rfl (lv_at hl 2 rfl) ?_
  refine V.rdSn F hE (c_X6_requirePerson l E h2) (kX6_30 F.2.2.2.2 ⟨Nat.le_of_ble_eq_true rfl, Nat.le_of_ble_eq_true rfl⟩) [] rfl rfl hl.1 (Nat.le_of_ble_eq_true rfl) dX6_refusal_6 rfl ?_
  refine V.aload_n F dX6_refusal_9 rfl (lv_at hl 0 rfl) ?_
  refine V.getf F hE gX6_10 0 rfl rfl dX6_refusal_10 ?_
  refine V.aload_n F dX6_refusal_13 rfl (lv_at hl 0 rfl) ?_
  refine V.getf F hE gX6_10 0 rfl rfl dX6_refusal_14 ?_
  refine V.getfi F hE gX6_60 4 rfl rfl dX6_refusal_17 (fun z1 e1 => ?_)
  refine V.iload_n F dX6_refusal_20 rfl (lv_at hl 1 rfl) ?_
  refine V.iload_n F dX6_refusal_21 rfl (lv_at hl 2 rfl) ?_
  refine V.rsV (q0 := 4) F hE (c_X5_reasonOn l E) (kX6_185 F.2.2.2.2 ⟨Nat.le_of_ble_eq_true rfl, Nat.le_of_ble_eq_true rfl⟩) rfl rfl 4 18 (by rfl) rfl hl.1 (Nat.le_of_ble_eq_true rfl) dX6_refusal_22 rfl ?_
  refine V.topi (fun z2 e2 => ?_)
  exact V.iretR F hr hk dX6_refusal_25 (by subst e1 e2; first | with_reducible rfl | (simp only [oi1, nI_succ, bI, and_true, true_and, and_false, false_and, and_self, or_true, true_or, or_false, false_or, or_self, not_true_eq_false, not_false_eq_true, if_true, if_false, ↓reduceIte] <;> rfl) | rfl | (simp [bI, oi1, nI_succ]; done))
set_option maxHeartbeats 4000000 in
set_option maxRecDepth 100000 in
theorem c_X6_refusal_t1 (l : Launch) (E : EV) {d v0 v1 t u : Nat} {a : Nat → Nat} {g : Nat → Int32} {f : Nat → Nat → Int32} {n m : Int32} {r : Nat → Int32} {x p : Int32} (h1 : ¬ (0 ≤ x ∧ x < g 8)) (hst : l.stackTraces = false) : Th l E yX6_refusal cX6_refusal 3 (some .int) 7 105 [.ref d, .int x, .int p] (dW E d v0 v1 t u n m r a g f) xI := by
  refine Th.mk0 (by decide) (Nat.le_of_ble_eq_true rfl) ?_
  intro pP eE sS mM aA bB mt cC F hk hx hE ls hl
  have hl : lv_has ls 3 [(0, .ref d), (1, .int x), (2, .int p)] := hl
  refine V.aload_n F dX6_refusal_0 rfl (lv_at hl 0 rfl) ?_
  refine V.iload_n F dX6_refusal_1 rfl (lv_at hl 1 rfl) ?_
  exact V.thV (q0 := 0) F hE hx hk (c_X6_requireScene_t l E h1 hst) (kX6_111 F.2.2.2.2 ⟨Nat.le_of_ble_eq_true rfl, Nat.le_of_ble_eq_true rfl⟩) rfl rfl [0, 1, 2, 3, 4, 5, 6, 7, 8, 9, 10, 11, 12, 13, 14, 15, 16, 17, 18, 19, 20, 21] rfl rfl hl.1 (Nat.le_of_ble_eq_true rfl) dX6_refusal_2 rfl ⟨Nat.le_of_ble_eq_true rfl, Nat.le_of_ble_eq_true rfl⟩
set_option maxHeartbeats 4000000 in
set_option maxRecDepth 100000 in
theorem c_X6_refusal_t2 (l : Launch) (E : EV) {d v0 v1 t u : Nat} {a : Nat → Nat} {g : Nat → Int32} {f : Nat → Nat → Int32} {n m : Int32} {r : Nat → Int32} {x p : Int32} (h1 : 0 ≤ x ∧ x < g 8) (h2 : ¬ (0 ≤ p ∧ p ≤ 7)) (hst : l.stackTraces = false) : Th l E yX6_refusal cX6_refusal 3 (some .int) 7 105 [.ref d, .int x, .int p] (dW E d v0 v1 t u n m r a g f) xI := by
  refine Th.mk0 (by decide) (Nat.le_of_ble_eq_true rfl) ?_
  intro pP eE sS mM aA bB mt cC F hk hx hE ls hl
  have hl : lv_has ls 3 [(0, .ref d), (1, .int x), (2, .int p)] := hl
  refine V.aload_n F dX6_refusal_0 rfl (lv_at hl 0 rfl) ?_
  refine V.iload_n F dX6_refusal_1 rfl (lv_at hl 1 rfl) ?_
  refine V.rsVn (q0 := 0) F hE (c_X6_requireScene l E h1) (kX6_111 F.2.2.2.2 ⟨Nat.le_of_ble_eq_true rfl, Nat.le_of_ble_eq_true rfl⟩) rfl rfl 0 22 (by rfl) rfl hl.1 (Nat.le_of_ble_eq_true rfl) dX6_refusal_2 rfl ?_
  refine V.iload_n F dX6_refusal_5 rfl (lv_at hl 2 rfl) ?_
  exact V.thS F hE hx hk (c_X6_requirePerson_t l E h2 hst) (kX6_30 F.2.2.2.2 ⟨Nat.le_of_ble_eq_true rfl, Nat.le_of_ble_eq_true rfl⟩) [] rfl rfl hl.1 (Nat.le_of_ble_eq_true rfl) dX6_refusal_6 rfl ⟨Nat.le_of_ble_eq_true rfl, Nat.le_of_ble_eq_true rfl⟩
set_option maxHeartbeats 4000000 in
set_option maxRecDepth 100000 in
theorem c_X6_shotShare (l : Launch) (E : EV) {d v0 v1 t u : Nat} {a : Nat → Nat} {g : Nat → Int32} {f : Nat → Nat → Int32} {n m : Int32} {r : Nat → Int32} (hnn : g 8 = 0 ∨ vf_n64 (FP.ddiv (FP.i2d (shoC (f 12) (g 8).toNatClampNeg)) (FP.i2d (g 8)))) : Rd l E yX6_shotShare cX6_shotShare 1 (some .double) 4 84 [.ref d] (dW E d v0 v1 t u n m r a g f) (some (.double (shrC (f 12) (g 8)))) := by
  refine Rd.mk0 (by decide) (Nat.le_of_ble_eq_true rfl) ?_
  intro pP eE sS mM aA bB mt cC F hr hk hE ls hl
  have hl : lv_has ls 1 [(0, .ref d)] := hl
  refine V.aload_n F dX6_shotShare_0 rfl (lv_at hl 0 rfl) ?_
  refine V.getf F hE gX6_10 0 rfl rfl dX6_shotShare_1 ?_
  refine V.getf F hE gX6_98 4 rfl rfl dX6_shotShare_4 ?_
  refine V.rdV (q0 := 16) F hE (c_X4_shareShot l E hnn) (kX6_200 F.2.2.2.2 ⟨Nat.le_of_ble_eq_true rfl, Nat.le_of_ble_eq_true rfl⟩) rfl rfl [16, 17, 18, 19, 20, 21] rfl rfl hl.1 (Nat.le_of_ble_eq_true rfl) dX6_shotShare_7 rfl ?_
  refine V.topd (fun z1 e1 => ?_)
  exact V.dretR F hr hk dX6_shotShare_10 (by subst e1; first | with_reducible rfl | (simp only [oi1, nI_succ, bI, and_true, true_and, and_false, false_and, and_self, or_true, true_or, or_false, false_or, or_self, not_true_eq_false, not_false_eq_true, if_true, if_false, ↓reduceIte] <;> rfl) | rfl | (simp [bI, oi1, nI_succ]; done))
