set_option maxHeartbeats 4000000 in
set_option maxRecDepth 100000 in
theorem c_X6_size (l : Launch) (E : EV) {d v0 v1 t u : Nat} {a : Nat → Nat} {g : Nat → Int32} {f : Nat → Nat → Int32} {n : Nat} {m : Int32} {r : Nat → Int32} {B : Nat → Nat → Nat} {G : Nat → Nat → Int32} {K : Nat → Nat → Nat → Int32} {p y : Int32} (h1 : 0 ≤ p ∧ p ≤ 7) (h2 : 150 ≤ y ∧ y ≤ 200) (hn : n ≤ 6) : Wr l E yX6_size cX6_size 3 (some .int) 7 104 [.ref d, .int p, .int y] (dW E d v0 v1 t u (nI n) (m) r a g f ++ tlW E v1 B G K) (dW E d v0 v1 t u (nI (kN n)) (m) r a g (va_up f 0 (ptF (f 0) 8 p y)) ++ tlW E v1 (kB n B) (kG n G g) (kG n K f)) (some (.int (gt (f 0) 8 p))) := by
  refine Wr.mk0 (by decide) (Nat.le_of_ble_eq_true rfl) ?_
  intro pP eE sS mM aA bB mt cC F hr hk hE hN ls hl
  have hl : lv_has ls 3 [(0, .ref d), (1, .int p), (2, .int y)] := hl
  refine V.iload_n F dX6_size_0 rfl (lv_at hl 1 rfl) ?_
  refine V.rdSn F hE (c_X6_requirePerson l E h1) (kX6_30 F.2.2.2.2 ⟨Nat.le_of_ble_eq_true rfl, Nat.le_of_ble_eq_true rfl⟩) [] rfl rfl hl.1 (Nat.le_of_ble_eq_true rfl) dX6_size_1 rfl ?_
  refine V.iload_n F dX6_size_4 rfl (lv_at hl 2 rfl) ?_
  refine V.sipush (v := 150) F dX6_size_5 (by decide) ?_
  refine V.sipush (v := 200) F dX6_size_8 (by decide) ?_
  refine V.rdS F hE (c_X6_isBetween l E) (kX6_34 F.2.2.2.2 ⟨Nat.le_of_ble_eq_true rfl, Nat.le_of_ble_eq_true rfl⟩) [] rfl rfl hl.1 (Nat.le_of_ble_eq_true rfl) dX6_size_11 rfl ?_
  refine V.topi (fun z1 e1 => ?_)
  refine V.rdSn F hE (c_X6_requireArgument l E (by rw [e1, bI_t h2]; decide)) (kX6_38 F.2.2.2.2 ⟨Nat.le_of_ble_eq_true rfl, Nat.le_of_ble_eq_true rfl⟩) [] rfl rfl hl.1 (Nat.le_of_ble_eq_true rfl) dX6_size_14 rfl ?_
  refine V.aload_n F dX6_size_17 rfl (lv_at hl 0 rfl) ?_
  refine V.getf F hE gX6_19 0 rfl rfl dX6_size_18 ?_
  refine V.aload_n F dX6_size_21 rfl (lv_at hl 0 rfl) ?_
  refine V.getf F hE gX6_10 0 rfl rfl dX6_size_22 ?_
  refine V.keepD F hE hN hn (by rfl) hl.1 (Nat.le_of_ble_eq_true rfl) ⟨Nat.le_of_ble_eq_true rfl, Nat.le_of_ble_eq_true rfl⟩ dX6_size_25 ?_
  refine V.aload_n F dX6_size_28 rfl (lv_at hl 0 rfl) ?_
  refine V.getf F hE gX6_10 0 rfl rfl dX6_size_29 ?_
  refine V.iload_n F dX6_size_32 rfl (lv_at hl 1 rfl) ?_
  refine V.iload_n F dX6_size_33 rfl (lv_at hl 2 rfl) ?_
  refine V.wsV (q0 := 4) (ws' := dW E d v0 v1 t u (nI (kN n)) (m) r a g (va_up f 0 (ptF (f 0) 8 p y)) ++ tlW E v1 (kB n B) (kG n G g) (kG n K f)) F hE hN keep_pm (c_X5_changeSize l E) (kX6_46 F.2.2.2.2 ⟨Nat.le_of_ble_eq_true rfl, Nat.le_of_ble_eq_true rfl⟩) rfl rfl 4 18 (by rfl) (by rfl) rfl hl.1 (Nat.le_of_ble_eq_true rfl) dX6_size_34 rfl ?_
  refine V.topi (fun z2 e2 => ?_)
  exact V.iretW F hr hk dX6_size_37 (by subst e1 e2; first | with_reducible rfl | (simp only [oi1, nI_succ, bI, and_true, true_and, and_false, false_and, and_self, or_true, true_or, or_false, false_or, or_self, not_true_eq_false, not_false_eq_true, if_true, if_false, ↓reduceIte] <;> rfl) | rfl | (simp [bI, oi1, nI_succ]; done)) (by subst e1 e2; first | with_reducible rfl | (simp only [oi1, nI_succ, bI, and_true, true_and, and_false, false_and, and_self, or_true, true_or, or_false, false_or, or_self, not_true_eq_false, not_false_eq_true, if_true, if_false, ↓reduceIte] <;> rfl) | rfl | (simp [bI, oi1, nI_succ]; done))
set_option maxHeartbeats 4000000 in
set_option maxRecDepth 100000 in
theorem c_X6_size_t1 (l : Launch) (E : EV) {d v0 v1 t u : Nat} {a : Nat → Nat} {g : Nat → Int32} {f : Nat → Nat → Int32} {n m : Int32} {r : Nat → Int32} {p y : Int32} (h1 : ¬ (0 ≤ p ∧ p ≤ 7)) (hst : l.stackTraces = false) : Th l E yX6_size cX6_size 3 (some .int) 7 104 [.ref d, .int p, .int y] (dW E d v0 v1 t u n m r a g f) xI := by
  refine Th.mk0 (by decide) (Nat.le_of_ble_eq_true rfl) ?_
  intro pP eE sS mM aA bB mt cC F hk hx hE ls hl
  have hl : lv_has ls 3 [(0, .ref d), (1, .int p), (2, .int y)] := hl
  refine V.iload_n F dX6_size_0 rfl (lv_at hl 1 rfl) ?_
  exact V.thS F hE hx hk (c_X6_requirePerson_t l E h1 hst) (kX6_30 F.2.2.2.2 ⟨Nat.le_of_ble_eq_true rfl, Nat.le_of_ble_eq_true rfl⟩) [] rfl rfl hl.1 (Nat.le_of_ble_eq_true rfl) dX6_size_1 rfl ⟨Nat.le_of_ble_eq_true rfl, Nat.le_of_ble_eq_true rfl⟩
set_option maxHeartbeats 4000000 in
set_option maxRecDepth 100000 in
theorem c_X6_size_t2 (l : Launch) (E : EV) {d v0 v1 t u : Nat} {a : Nat → Nat} {g : Nat → Int32} {f : Nat → Nat → Int32} {n m : Int32} {r : Nat → Int32} {p y : Int32} (h1 : 0 ≤ p ∧ p ≤ 7) (h2 : ¬ (150 ≤ y ∧ y ≤ 200)) (hst : l.stackTraces = false) : Th l E yX6_size cX6_size 3 (some .int) 7 104 [.ref d, .int p, .int y] (dW E d v0 v1 t u n m r a g f) xA := by
  refine Th.mk0 (by decide) (Nat.le_of_ble_eq_true rfl) ?_
  intro pP eE sS mM aA bB mt cC F hk hx hE ls hl
  have hl : lv_has ls 3 [(0, .ref d), (1, .int p), (2, .int y)] := hl
  refine V.iload_n F dX6_size_0 rfl (lv_at hl 1 rfl) ?_
  refine V.rdSn F hE (c_X6_requirePerson l E h1) (kX6_30 F.2.2.2.2 ⟨Nat.le_of_ble_eq_true rfl, Nat.le_of_ble_eq_true rfl⟩) [] rfl rfl hl.1 (Nat.le_of_ble_eq_true rfl) dX6_size_1 rfl ?_
  refine V.iload_n F dX6_size_4 rfl (lv_at hl 2 rfl) ?_
  refine V.sipush (v := 150) F dX6_size_5 (by decide) ?_
  refine V.sipush (v := 200) F dX6_size_8 (by decide) ?_
  refine V.rdS F hE (c_X6_isBetween l E) (kX6_34 F.2.2.2.2 ⟨Nat.le_of_ble_eq_true rfl, Nat.le_of_ble_eq_true rfl⟩) [] rfl rfl hl.1 (Nat.le_of_ble_eq_true rfl) dX6_size_11 rfl ?_
  refine V.topi (fun z1 e1 => ?_)
  exact V.thS F hE hx hk (c_X6_requireArgument_t l E (by rw [e1, bI_f h2]) hst) (kX6_38 F.2.2.2.2 ⟨Nat.le_of_ble_eq_true rfl, Nat.le_of_ble_eq_true rfl⟩) [] rfl rfl hl.1 (Nat.le_of_ble_eq_true rfl) dX6_size_14 rfl ⟨Nat.le_of_ble_eq_true rfl, Nat.le_of_ble_eq_true rfl⟩
set_option maxHeartbeats 4000000 in
set_option maxRecDepth 100000 in
theorem c_X6_pass (l : Launch) (E : EV) {d v0 v1 t u : Nat} {a : Nat → Nat} {g : Nat → Int32} {f : Nat → Nat → Int32} {n : Nat} {m : Int32} {r : Nat → Int32} {B : Nat → Nat → Nat} {G : Nat → Nat → Int32} {K : Nat → Nat → Nat → Int32} {x : Int32} (h1 : 1 ≤ x ∧ x ≤ 99) (h2 : g 0 + x ≤ 999) (hn : n ≤ 6) : Wr l E yX6_pass cX6_pass 2 (some .int) 7 104 [.ref d, .int x] (dW E d v0 v1 t u (nI n) (m) r a g f ++ tlW E v1 B G K) (dW E d v0 v1 t u (nI (kN n)) (m) r a (va_up g 0 (g 0 + x)) (va_up f 1 (fun _ => 0)) ++ tlW E v1 (kB n B) (kG n G g) (kG n K f)) (some (.int (g 0 + x))) := by
  refine Wr.mk0 (by decide) (Nat.le_of_ble_eq_true rfl) ?_
  intro pP eE sS mM aA bB mt cC F hr hk hE hN ls hl
  have hl : lv_has ls 2 [(0, .ref d), (1, .int x)] := hl
  refine V.iload_n F dX6_pass_0 rfl (lv_at hl 1 rfl) ?_
  refine V.iconst (v := 1) F dX6_pass_1 (by decide) ?_
  refine V.bipush (v := 99) F dX6_pass_2 (by decide) ?_
  refine V.rdS F hE (c_X6_isBetween l E) (kX6_34 F.2.2.2.2 ⟨Nat.le_of_ble_eq_true rfl, Nat.le_of_ble_eq_true rfl⟩) [] rfl rfl hl.1 (Nat.le_of_ble_eq_true rfl) dX6_pass_4 rfl ?_
  refine V.topi (fun z1 e1 => ?_)
  refine V.rdSn F hE (c_X6_requireArgument l E (by rw [e1, bI_t h1]; decide)) (kX6_38 F.2.2.2.2 ⟨Nat.le_of_ble_eq_true rfl, Nat.le_of_ble_eq_true rfl⟩) [] rfl rfl hl.1 (Nat.le_of_ble_eq_true rfl) dX6_pass_7 rfl ?_
  refine V.aload_n F dX6_pass_10 rfl (lv_at hl 0 rfl) ?_
  refine V.getf F hE gX6_10 0 rfl rfl dX6_pass_11 ?_
  refine V.iload_n F dX6_pass_14 rfl (lv_at hl 1 rfl) ?_
  refine V.rsV (q0 := 4) F hE (c_X5_canPass l E) (kX6_50 F.2.2.2.2 ⟨Nat.le_of_ble_eq_true rfl, Nat.le_of_ble_eq_true rfl⟩) rfl rfl 4 18 (by rfl) rfl hl.1 (Nat.le_of_ble_eq_true rfl) dX6_pass_15 rfl ?_
  refine V.topi (fun z2 e2 => ?_)
  refine V.rdSn F hE (c_X6_requireState l E (by rw [e2, bI_t h2]; decide)) (kX6_54 F.2.2.2.2 ⟨Nat.le_of_ble_eq_true rfl, Nat.le_of_ble_eq_true rfl⟩) [] rfl rfl hl.1 (Nat.le_of_ble_eq_true rfl) dX6_pass_18 rfl ?_
  refine V.aload_n F dX6_pass_21 rfl (lv_at hl 0 rfl) ?_
  refine V.getf F hE gX6_19 0 rfl rfl dX6_pass_22 ?_
  refine V.aload_n F dX6_pass_25 rfl (lv_at hl 0 rfl) ?_
  refine V.getf F hE gX6_10 0 rfl rfl dX6_pass_26 ?_
  refine V.keepD F hE hN hn (by rfl) hl.1 (Nat.le_of_ble_eq_true rfl) ⟨Nat.le_of_ble_eq_true rfl, Nat.le_of_ble_eq_true rfl⟩ dX6_pass_29 ?_
  refine V.aload_n F dX6_pass_32 rfl (lv_at hl 0 rfl) ?_
  refine V.getf F hE gX6_10 0 rfl rfl dX6_pass_33 ?_
  refine V.iload_n F dX6_pass_36 rfl (lv_at hl 1 rfl) ?_
  refine V.wsVn (q0 := 4) (ws' := dW E d v0 v1 t u (nI (kN n)) (m) r a (va_up g 0 (g 0 + x)) (va_up f 1 (fun _ => 0)) ++ tlW E v1 (kB n B) (kG n G g) (kG n K f)) F hE hN keep_pm (c_X5_letPass l E) (kX6_57 F.2.2.2.2 ⟨Nat.le_of_ble_eq_true rfl, Nat.le_of_ble_eq_true rfl⟩) rfl rfl 4 18 (by rfl) (by rfl) rfl hl.1 (Nat.le_of_ble_eq_true rfl) dX6_pass_37 rfl ?_
  refine V.aload_n F dX6_pass_40 rfl (lv_at hl 0 rfl) ?_
  refine V.getf F hE gX6_10 0 rfl rfl dX6_pass_41 ?_
  refine V.getfi F hE gX6_60 4 rfl rfl dX6_pass_44 (fun z3 e3 => ?_)
  exact V.iretW F hr hk dX6_pass_47 (by subst e1 e2 e3; first | with_reducible rfl | (simp only [oi1, nI_succ, bI, and_true, true_and, and_false, false_and, and_self, or_true, true_or, or_false, false_or, or_self, not_true_eq_false, not_false_eq_true, if_true, if_false, ↓reduceIte] <;> rfl) | rfl | (simp [bI, oi1, nI_succ]; done)) (by subst e1 e2 e3; first | with_reducible rfl | (simp only [oi1, nI_succ, bI, and_true, true_and, and_false, false_and, and_self, or_true, true_or, or_false, false_or, or_self, not_true_eq_false, not_false_eq_true, if_true, if_false, ↓reduceIte] <;> rfl) | rfl | (simp [bI, oi1, nI_succ]; done))
set_option maxHeartbeats 4000000 in
set_option maxRecDepth 100000 in
theorem c_X6_pass_t1 (l : Launch) (E : EV) {d v0 v1 t u : Nat} {a : Nat → Nat} {g : Nat → Int32} {f : Nat → Nat → Int32} {n m : Int32} {r : Nat → Int32} {x : Int32} (h1 : ¬ (1 ≤ x ∧ x ≤ 99)) (hst : l.stackTraces = false) : Th l E yX6_pass cX6_pass 2 (some .int) 7 104 [.ref d, .int x] (dW E d v0 v1 t u n m r a g f) xA := by
  refine Th.mk0 (by decide) (Nat.le_of_ble_eq_true rfl) ?_
  intro pP eE sS mM aA bB mt cC F hk hx hE ls hl
  have hl : lv_has ls 2 [(0, .ref d), (1, .int x)] := hl
  refine V.iload_n F dX6_pass_0 rfl (lv_at hl 1 rfl) ?_
  refine V.iconst (v := 1) F dX6_pass_1 (by decide) ?_
  refine V.bipush (v := 99) F dX6_pass_2 (by decide) ?_
  refine V.rdS F hE (c_X6_isBetween l E) (kX6_34 F.2.2.2.2 ⟨Nat.le_of_ble_eq_true rfl, Nat.le_of_ble_eq_true rfl⟩) [] rfl rfl hl.1 (Nat.le_of_ble_eq_true rfl) dX6_pass_4 rfl ?_
  refine V.topi (fun z1 e1 => ?_)
  exact V.thS F hE hx hk (c_X6_requireArgument_t l E (by rw [e1, bI_f h1]) hst) (kX6_38 F.2.2.2.2 ⟨Nat.le_of_ble_eq_true rfl, Nat.le_of_ble_eq_true rfl⟩) [] rfl rfl hl.1 (Nat.le_of_ble_eq_true rfl) dX6_pass_7 rfl ⟨Nat.le_of_ble_eq_true rfl, Nat.le_of_ble_eq_true rfl⟩
set_option maxHeartbeats 4000000 in
set_option maxRecDepth 100000 in
theorem c_X6_pass_t2 (l : Launch) (E : EV) {d v0 v1 t u : Nat} {a : Nat → Nat} {g : Nat → Int32} {f : Nat → Nat → Int32} {n m : Int32} {r : Nat → Int32} {x : Int32} (h1 : 1 ≤ x ∧ x ≤ 99) (h2 : ¬ (g 0 + x ≤ 999)) (hst : l.stackTraces = false) : Th l E yX6_pass cX6_pass 2 (some .int) 7 104 [.ref d, .int x] (dW E d v0 v1 t u n m r a g f) xS := by
  refine Th.mk0 (by decide) (Nat.le_of_ble_eq_true rfl) ?_
  intro pP eE sS mM aA bB mt cC F hk hx hE ls hl
  have hl : lv_has ls 2 [(0, .ref d), (1, .int x)] := hl
  refine V.iload_n F dX6_pass_0 rfl (lv_at hl 1 rfl) ?_
  refine V.iconst (v := 1) F dX6_pass_1 (by decide) ?_
  refine V.bipush (v := 99) F dX6_pass_2 (by decide) ?_
  refine V.rdS F hE (c_X6_isBetween l E) (kX6_34 F.2.2.2.2 ⟨Nat.le_of_ble_eq_true rfl, Nat.le_of_ble_eq_true rfl⟩) [] rfl rfl hl.1 (Nat.le_of_ble_eq_true rfl) dX6_pass_4 rfl ?_
  refine V.topi (fun z1 e1 => ?_)
  refine V.rdSn F hE (c_X6_requireArgument l E (by rw [e1, bI_t h1]; decide)) (kX6_38 F.2.2.2.2 ⟨Nat.le_of_ble_eq_true rfl, Nat.le_of_ble_eq_true rfl⟩) [] rfl rfl hl.1 (Nat.le_of_ble_eq_true rfl) dX6_pass_7 rfl ?_
  refine V.aload_n F dX6_pass_10 rfl (lv_at hl 0 rfl) ?_
  refine V.getf F hE gX6_10 0 rfl rfl dX6_pass_11 ?_
  refine V.iload_n F dX6_pass_14 rfl (lv_at hl 1 rfl) ?_
  refine V.rsV (q0 := 4) F hE (c_X5_canPass l E) (kX6_50 F.2.2.2.2 ⟨Nat.le_of_ble_eq_true rfl, Nat.le_of_ble_eq_true rfl⟩) rfl rfl 4 18 (by rfl) rfl hl.1 (Nat.le_of_ble_eq_true rfl) dX6_pass_15 rfl ?_
  refine V.topi (fun z2 e2 => ?_)
  exact V.thS F hE hx hk (c_X6_requireState_t l E (by rw [e2, bI_f h2]) hst) (kX6_54 F.2.2.2.2 ⟨Nat.le_of_ble_eq_true rfl, Nat.le_of_ble_eq_true rfl⟩) [] rfl rfl hl.1 (Nat.le_of_ble_eq_true rfl) dX6_pass_18 rfl ⟨Nat.le_of_ble_eq_true rfl, Nat.le_of_ble_eq_true rfl⟩
set_option maxHeartbeats 4000000 in
set_option maxRecDepth 100000 in
theorem c_X6_rehearse (l : Launch) (E : EV) {d v0 v1 t u : Nat} {a : Nat → Nat} {g : Nat → Int32} {f : Nat → Nat → Int32} {n : Nat} {m : Int32} {r : Nat → Int32} {B : Nat → Nat → Nat} {G : Nat → Nat → Int32} {K : Nat → Nat → Nat → Int32} {p k q : Int32} (h1 : 0 ≤ p ∧ p ≤ 7) (h2 : 0 ≤ k ∧ k ≤ 5) (h3 : 1 ≤ q ∧ q ≤ 5) (h4 : parS g f (g 0) p &&& gt tBar 6 k = 0) (hn : n ≤ 6) : Wr l E yX6_rehearse cX6_rehearse 4 (some .int) 7 104 [.ref d, .int p, .int k, .int q] (dW E d v0 v1 t u (nI n) (m) r a g f ++ tlW E v1 B G K) (dW E d v0 v1 t u (nI (kN n)) (m) r a (rehG g f p) (rehF g f p k q) ++ tlW E v1 (kB n B) (kG n G g) (kG n K f)) (some (.int (bI (¬ 3 < gt (f 1) 8 p + 1)))) := by
  refine Wr.mk0 (by decide) (Nat.le_of_ble_eq_true rfl) ?_
  intro pP eE sS mM aA bB mt cC F hr hk hE hN ls hl
  have hl : lv_has ls 4 [(0, .ref d), (1, .int p), (2, .int k), (3, .int q)] := hl
  refine V.iload_n F dX6_rehearse_0 rfl (lv_at hl 1 rfl) ?_
  refine V.rdSn F hE (c_X6_requirePerson l E h1) (kX6_30 F.2.2.2.2 ⟨Nat.le_of_ble_eq_true rfl, Nat.le_of_ble_eq_true rfl⟩) [] rfl rfl hl.1 (Nat.le_of_ble_eq_true rfl) dX6_rehearse_1 rfl ?_
  refine V.iload_n F dX6_rehearse_4 rfl (lv_at hl 2 rfl) ?_
  refine V.rdSn F hE (c_X6_requireKind l E h2) (kX6_64 F.2.2.2.2 ⟨Nat.le_of_ble_eq_true rfl, Nat.le_of_ble_eq_true rfl⟩) [] rfl rfl hl.1 (Nat.le_of_ble_eq_true rfl) dX6_rehearse_5 rfl ?_
  refine V.iload_n F dX6_rehearse_8 rfl (lv_at hl 3 rfl) ?_
  refine V.iconst (v := 1) F dX6_rehearse_9 (by decide) ?_
  refine V.iconst (v := 5) F dX6_rehearse_10 (by decide) ?_
  refine V.rdS F hE (c_X6_isBetween l E) (kX6_34 F.2.2.2.2 ⟨Nat.le_of_ble_eq_true rfl, Nat.le_of_ble_eq_true rfl⟩) [] rfl rfl hl.1 (Nat.le_of_ble_eq_true rfl) dX6_rehearse_11 rfl ?_
  refine V.topi (fun z1 e1 => ?_)
  refine V.rdSn F hE (c_X6_requireArgument l E (by rw [e1, bI_t h3]; decide)) (kX6_38 F.2.2.2.2 ⟨Nat.le_of_ble_eq_true rfl, Nat.le_of_ble_eq_true rfl⟩) [] rfl rfl hl.1 (Nat.le_of_ble_eq_true rfl) dX6_rehearse_14 rfl ?_
  refine V.aload_n F dX6_rehearse_17 rfl (lv_at hl 0 rfl) ?_
  refine V.getf F hE gX6_10 0 rfl rfl dX6_rehearse_18 ?_
  refine V.iload_n F dX6_rehearse_21 rfl (lv_at hl 1 rfl) ?_
  refine V.iload_n F dX6_rehearse_22 rfl (lv_at hl 2 rfl) ?_
  refine V.rsV (q0 := 4) F hE (c_X5_canRehearse l E) (kX6_67 F.2.2.2.2 ⟨Nat.le_of_ble_eq_true rfl, Nat.le_of_ble_eq_true rfl⟩) rfl rfl 4 18 (by rfl) rfl hl.1 (Nat.le_of_ble_eq_true rfl) dX6_rehearse_23 rfl ?_
  refine V.topi (fun z2 e2 => ?_)
  refine V.rdSn F hE (c_X6_requireState l E (by rw [e2, bI_t h4]; decide)) (kX6_54 F.2.2.2.2 ⟨Nat.le_of_ble_eq_true rfl, Nat.le_of_ble_eq_true rfl⟩) [] rfl rfl hl.1 (Nat.le_of_ble_eq_true rfl) dX6_rehearse_26 rfl ?_
  refine V.aload_n F dX6_rehearse_29 rfl (lv_at hl 0 rfl) ?_
  refine V.getf F hE gX6_19 0 rfl rfl dX6_rehearse_30 ?_
  refine V.aload_n F dX6_rehearse_33 rfl (lv_at hl 0 rfl) ?_
  refine V.getf F hE gX6_10 0 rfl rfl dX6_rehearse_34 ?_
  refine V.keepD F hE hN hn (by rfl) hl.1 (Nat.le_of_ble_eq_true rfl) ⟨Nat.le_of_ble_eq_true rfl, Nat.le_of_ble_eq_true rfl⟩ dX6_rehearse_37 ?_
  refine V.aload_n F dX6_rehearse_40 rfl (lv_at hl 0 rfl) ?_
  refine V.getf F hE gX6_10 0 rfl rfl dX6_rehearse_41 ?_
  refine V.iload_n F dX6_rehearse_44 rfl (lv_at hl 1 rfl) ?_
  refine V.iload_n F dX6_rehearse_45 rfl (lv_at hl 2 rfl) ?_
  refine V.iload_n F dX6_rehearse_46 rfl (lv_at hl 3 rfl) ?_
  refine V.wsV (q0 := 4) (ws' := dW E d v0 v1 t u (nI (kN n)) (m) r a (rehG g f p) (rehF g f p k q) ++ tlW E v1 (kB n B) (kG n G g) (kG n K f)) F hE hN keep_pm (c_X5_letRehearse l E) (kX6_71 F.2.2.2.2 ⟨Nat.le_of_ble_eq_true rfl, Nat.le_of_ble_eq_true rfl⟩) rfl rfl 4 18 (by rfl) (by rfl) rfl hl.1 (Nat.le_of_ble_eq_true rfl) dX6_rehearse_47 rfl ?_
  refine V.topi (fun z3 e3 => ?_)
  refine V.if_eqB (tgt := 57) F e3 dX6_rehearse_50 (by decide) (fun c4 => ?_) (fun c4 => ?_)
  · skip
    rw [Decidable.not_not] at c4
    refine V.iconst (v := 0) F dX6_rehearse_57 (by decide) ?_
    exact V.iretW F hr hk dX6_rehearse_58 (by subst e1 e2 e3; first | with_reducible rfl | (simp only [eq_true c4, oi1, nI_succ, bI, and_true, true_and, and_false, false_and, and_self, or_true, true_or, or_false, false_or, or_self, not_true_eq_false, not_false_eq_true, if_true, if_false, ↓reduceIte] <;> rfl) | rfl | (simp [eq_true c4, bI, oi1, nI_succ]; done)) (by subst e1 e2 e3; first | with_reducible rfl | (simp only [eq_true c4, oi1, nI_succ, bI, and_true, true_and, and_false, false_and, and_self, or_true, true_or, or_false, false_or, or_self, not_true_eq_false, not_false_eq_true, if_true, if_false, ↓reduceIte] <;> rfl) | rfl | (simp [eq_true c4, bI, oi1, nI_succ]; done))
  · skip
    refine V.iconst (v := 1) F dX6_rehearse_53 (by decide) ?_
    refine V.goto (tgt := 58) F dX6_rehearse_54 (by decide) ?_
    exact V.iretW F hr hk dX6_rehearse_58 (by subst e1 e2 e3; first | with_reducible rfl | (simp only [c4, oi1, nI_succ, bI, and_true, true_and, and_false, false_and, and_self, or_true, true_or, or_false, false_or, or_self, not_true_eq_false, not_false_eq_true, if_true, if_false, ↓reduceIte] <;> rfl) | rfl | (simp [c4, bI, oi1, nI_succ]; done)) (by subst e1 e2 e3; first | with_reducible rfl | (simp only [c4, oi1, nI_succ, bI, and_true, true_and, and_false, false_and, and_self, or_true, true_or, or_false, false_or, or_self, not_true_eq_false, not_false_eq_true, if_true, if_false, ↓reduceIte] <;> rfl) | rfl | (simp [c4, bI, oi1, nI_succ]; done))
set_option maxHeartbeats 4000000 in
set_option maxRecDepth 100000 in
theorem c_X6_rehearse_t1 (l : Launch) (E : EV) {d v0 v1 t u : Nat} {a : Nat → Nat} {g : Nat → Int32} {f : Nat → Nat → Int32} {n m : Int32} {r : Nat → Int32} {p k q : Int32} (h1 : ¬ (0 ≤ p ∧ p ≤ 7)) (hst : l.stackTraces = false) : Th l E yX6_rehearse cX6_rehearse 4 (some .int) 7 104 [.ref d, .int p, .int k, .int q] (dW E d v0 v1 t u n m r a g f) xI := by
  refine Th.mk0 (by decide) (Nat.le_of_ble_eq_true rfl) ?_
  intro pP eE sS mM aA bB mt cC F hk hx hE ls hl
  have hl : lv_has ls 4 [(0, .ref d), (1, .int p), (2, .int k), (3, .int q)] := hl
  refine V.iload_n F dX6_rehearse_0 rfl (lv_at hl 1 rfl) ?_
  exact V.thS F hE hx hk (c_X6_requirePerson_t l E h1 hst) (kX6_30 F.2.2.2.2 ⟨Nat.le_of_ble_eq_true rfl, Nat.le_of_ble_eq_true rfl⟩) [] rfl rfl hl.1 (Nat.le_of_ble_eq_true rfl) dX6_rehearse_1 rfl ⟨Nat.le_of_ble_eq_true rfl, Nat.le_of_ble_eq_true rfl⟩
set_option maxHeartbeats 4000000 in
set_option maxRecDepth 100000 in
theorem c_X6_rehearse_t2 (l : Launch) (E : EV) {d v0 v1 t u : Nat} {a : Nat → Nat} {g : Nat → Int32} {f : Nat → Nat → Int32} {n m : Int32} {r : Nat → Int32} {p k q : Int32} (h1 : 0 ≤ p ∧ p ≤ 7) (h2 : ¬ (0 ≤ k ∧ k ≤ 5)) (hst : l.stackTraces = false) : Th l E yX6_rehearse cX6_rehearse 4 (some .int) 7 104 [.ref d, .int p, .int k, .int q] (dW E d v0 v1 t u n m r a g f) xI := by
  refine Th.mk0 (by decide) (Nat.le_of_ble_eq_true rfl) ?_
  intro pP eE sS mM aA bB mt cC F hk hx hE ls hl
  have hl : lv_has ls 4 [(0, .ref d), (1, .int p), (2, .int k), (3, .int q)] := hl
  refine V.iload_n F dX6_rehearse_0 rfl (lv_at hl 1 rfl) ?_
  refine V.rdSn F hE (c_X6_requirePerson l E h1) (kX6_30 F.2.2.2.2 ⟨Nat.le_of_ble_eq_true rfl, Nat.le_of_ble_eq_true rfl⟩) [] rfl rfl hl.1 (Nat.le_of_ble_eq_true rfl) dX6_rehearse_1 rfl ?_
  refine V.iload_n F dX6_rehearse_4 rfl (lv_at hl 2 rfl) ?_
  exact V.thS F hE hx hk (c_X6_requireKind_t l E h2 hst) (kX6_64 F.2.2.2.2 ⟨Nat.le_of_ble_eq_true rfl, Nat.le_of_ble_eq_true rfl⟩) [] rfl rfl hl.1 (Nat.le_of_ble_eq_true rfl) dX6_rehearse_5 rfl ⟨Nat.le_of_ble_eq_true rfl, Nat.le_of_ble_eq_true rfl⟩
set_option maxHeartbeats 4000000 in
set_option maxRecDepth 100000 in
theorem c_X6_rehearse_t3 (l : Launch) (E : EV) {d v0 v1 t u : Nat} {a : Nat → Nat} {g : Nat → Int32} {f : Nat → Nat → Int32} {n m : Int32} {r : Nat → Int32} {p k q : Int32} (h1 : 0 ≤ p ∧ p ≤ 7) (h2 : 0 ≤ k ∧ k ≤ 5) (h3 : ¬ (1 ≤ q ∧ q ≤ 5)) (hst : l.stackTraces = false) : Th l E yX6_rehearse cX6_rehearse 4 (some .int) 7 104 [.ref d, .int p, .int k, .int q] (dW E d v0 v1 t u n m r a g f) xA := by
  refine Th.mk0 (by decide) (Nat.le_of_ble_eq_true rfl) ?_
  intro pP eE sS mM aA bB mt cC F hk hx hE ls hl
  have hl : lv_has ls 4 [(0, .ref d), (1, .int p), (2, .int k), (3, .int q)] := hl
  refine V.iload_n F dX6_rehearse_0 rfl (lv_at hl 1 rfl) ?_
  refine V.rdSn F hE (c_X6_requirePerson l E h1) (kX6_30 F.2.2.2.2 ⟨Nat.le_of_ble_eq_true rfl, Nat.le_of_ble_eq_true rfl⟩) [] rfl rfl hl.1 (Nat.le_of_ble_eq_true rfl) dX6_rehearse_1 rfl ?_
  refine V.iload_n F dX6_rehearse_4 rfl (lv_at hl 2 rfl) ?_
  refine V.rdSn F hE (c_X6_requireKind l E h2) (kX6_64 F.2.2.2.2 ⟨Nat.le_of_ble_eq_true rfl, Nat.le_of_ble_eq_true rfl⟩) [] rfl rfl hl.1 (Nat.le_of_ble_eq_true rfl) dX6_rehearse_5 rfl ?_
  refine V.iload_n F dX6_rehearse_8 rfl (lv_at hl 3 rfl) ?_
  refine V.iconst (v := 1) F dX6_rehearse_9 (by decide) ?_
  refine V.iconst (v := 5) F dX6_rehearse_10 (by decide) ?_
  refine V.rdS F hE (c_X6_isBetween l E) (kX6_34 F.2.2.2.2 ⟨Nat.le_of_ble_eq_true rfl, Nat.le_of_ble_eq_true rfl⟩) [] rfl rfl hl.1 (Nat.le_of_ble_eq_true rfl) dX6_rehearse_11 rfl ?_
  refine V.topi (fun z1 e1 => ?_)
  exact V.thS F hE hx hk (c_X6_requireArgument_t l E (by rw [e1, bI_f h3]) hst) (kX6_38 F.2.2.2.2 ⟨Nat.le_of_ble_eq_true rfl, Nat.le_of_ble_eq_true rfl⟩) [] rfl rfl hl.1 (Nat.le_of_ble_eq_true rfl) dX6_rehearse_14 rfl ⟨Nat.le_of_ble_eq_true rfl, Nat.le_of_ble_eq_true rfl⟩
set_option maxHeartbeats 4000000 in
set_option maxRecDepth 100000 in
theorem c_X6_rehearse_t4 (l : Launch) (E : EV) {d v0 v1 t u : Nat} {a : Nat → Nat} {g : Nat → Int32} {f : Nat → Nat → Int32} {n m : Int32} {r : Nat → Int32} {p k q : Int32} (h1 : 0 ≤ p ∧ p ≤ 7) (h2 : 0 ≤ k ∧ k ≤ 5) (h3 : 1 ≤ q ∧ q ≤ 5) (h4 : ¬ (parS g f (g 0) p &&& gt tBar 6 k = 0)) (hst : l.stackTraces = false) : Th l E yX6_rehearse cX6_rehearse 4 (some .int) 7 104 [.ref d, .int p, .int k, .int q] (dW E d v0 v1 t u n m r a g f) xS := by
  refine Th.mk0 (by decide) (Nat.le_of_ble_eq_true rfl) ?_
  intro pP eE sS mM aA bB mt cC F hk hx hE ls hl
  have hl : lv_has ls 4 [(0, .ref d), (1, .int p), (2, .int k), (3, .int q)] := hl
  refine V.iload_n F dX6_rehearse_0 rfl (lv_at hl 1 rfl) ?_
  refine V.rdSn F hE (c_X6_requirePerson l E h1) (kX6_30 F.2.2.2.2 ⟨Nat.le_of_ble_eq_true rfl, Nat.le_of_ble_eq_true rfl⟩) [] rfl rfl hl.1 (Nat.le_of_ble_eq_true rfl) dX6_rehearse_1 rfl ?_
  refine V.iload_n F dX6_rehearse_4 rfl (lv_at hl 2 rfl) ?_
  refine V.rdSn F hE (c_X6_requireKind l E h2) (kX6_64 F.2.2.2.2 ⟨Nat.le_of_ble_eq_true rfl, Nat.le_of_ble_eq_true rfl⟩) [] rfl rfl hl.1 (Nat.le_of_ble_eq_true rfl) dX6_rehearse_5 rfl ?_
  refine V.iload_n F dX6_rehearse_8 rfl (lv_at hl 3 rfl) ?_
  refine V.iconst (v := 1) F dX6_rehearse_9 (by decide) ?_
  refine V.iconst (v := 5) F dX6_rehearse_10 (by decide) ?_
  refine V.rdS F hE (c_X6_isBetween l E) (kX6_34 F.2.2.2.2 ⟨Nat.le_of_ble_eq_true rfl, Nat.le_of_ble_eq_true rfl⟩) [] rfl rfl hl.1 (Nat.le_of_ble_eq_true rfl) dX6_rehearse_11 rfl ?_
  refine V.topi (fun z1 e1 => ?_)
  refine V.rdSn F hE (c_X6_requireArgument l E (by rw [e1, bI_t h3]; decide)) (kX6_38 F.2.2.2.2 ⟨Nat.le_of_ble_eq_true rfl, Nat.le_of_ble_eq_true rfl⟩) [] rfl rfl hl.1 (Nat.le_of_ble_eq_true rfl) dX6_rehearse_14 rfl ?_
  refine V.aload_n F dX6_rehearse_17 rfl (lv_at hl 0 rfl) ?_
  refine V.getf F hE gX6_10 0 rfl rfl dX6_rehearse_18 ?_
  refine V.iload_n F dX6_rehearse_21 rfl (lv_at hl 1 rfl) ?_
  refine V.iload_n F dX6_rehearse_22 rfl (lv_at hl 2 rfl) ?_
  refine V.rsV (q0 := 4) F hE (c_X5_canRehearse l E) (kX6_67 F.2.2.2.2 ⟨Nat.le_of_ble_eq_true rfl, Nat.le_of_ble_eq_true rfl⟩) rfl rfl 4 18 (by rfl) rfl hl.1 (Nat.le_of_ble_eq_true rfl) dX6_rehearse_23 rfl ?_
  refine V.topi (fun z2 e2 => ?_)
  exact V.thS F hE hx hk (c_X6_requireState_t l E (by rw [e2, bI_f h4]) hst) (kX6_54 F.2.2.2.2 ⟨Nat.le_of_ble_eq_true rfl, Nat.le_of_ble_eq_true rfl⟩) [] rfl rfl hl.1 (Nat.le_of_ble_eq_true rfl) dX6_rehearse_26 rfl ⟨Nat.le_of_ble_eq_true rfl, Nat.le_of_ble_eq_true rfl⟩
set_option maxHeartbeats 4000000 in
set_option maxRecDepth 100000 in
theorem c_X6_hurt (l : Launch) (E : EV) {d v0 v1 t u : Nat} {a : Nat → Nat} {g : Nat → Int32} {f : Nat → Nat → Int32} {n : Nat} {m : Int32} {r : Nat → Int32} {B : Nat → Nat → Nat} {G : Nat → Nat → Int32} {K : Nat → Nat → Nat → Int32} {p q x : Int32} (h1 : 0 ≤ p ∧ p ≤ 7) (h2 : ((1 ≤ q ∧ q ≤ 32) ∧ q &&& (q - 1) = 0) ∧ (1 ≤ x ∧ x ≤ 60)) (hn : n ≤ 6) : Wr l E yX6_hurt cX6_hurt 4 (some .int) 7 104 [.ref d, .int p, .int q, .int x] (dW E d v0 v1 t u (nI n) (m) r a g f ++ tlW E v1 B G K) (dW E d v0 v1 t u (nI (kN n)) (m) r a (injG g) (injF g f p q x) ++ tlW E v1 (kB n B) (kG n G g) (kG n K f)) (some (.int (sbfC (injG g) (injF g f p q x) p (injG g 8).toNatClampNeg))) := by
  refine Wr.mk0 (by decide) (Nat.le_of_ble_eq_true rfl) ?_
  intro pP eE sS mM aA bB mt cC F hr hk hE hN ls hl
  have hl : lv_has ls 4 [(0, .ref d), (1, .int p), (2, .int q), (3, .int x)] := hl
  refine V.iload_n F dX6_hurt_0 rfl (lv_at hl 1 rfl) ?_
  refine V.rdSn F hE (c_X6_requirePerson l E h1) (kX6_30 F.2.2.2.2 ⟨Nat.le_of_ble_eq_true rfl, Nat.le_of_ble_eq_true rfl⟩) [] rfl rfl hl.1 (Nat.le_of_ble_eq_true rfl) dX6_hurt_1 rfl ?_
  refine V.iload_n F dX6_hurt_4 rfl (lv_at hl 2 rfl) ?_
  refine V.rdS F hE (c_X6_isPart l E) (kX6_74 F.2.2.2.2 ⟨Nat.le_of_ble_eq_true rfl, Nat.le_of_ble_eq_true rfl⟩) [] rfl rfl hl.1 (Nat.le_of_ble_eq_true rfl) dX6_hurt_5 rfl ?_
  refine V.topi (fun z1 e1 => ?_)
  refine V.if_eqB (tgt := 25) F e1 dX6_hurt_8 (by decide) (fun c2 => ?_) (fun c2 => ?_)
  · skip
    exact absurd h2.1 c2
  · skip
    refine V.iload_n F dX6_hurt_11 rfl (lv_at hl 3 rfl) ?_
    refine V.iconst (v := 1) F dX6_hurt_12 (by decide) ?_
    refine V.bipush (v := 60) F dX6_hurt_13 (by decide) ?_
    refine V.rdS F hE (c_X6_isBetween l E) (kX6_34 F.2.2.2.2 ⟨Nat.le_of_ble_eq_true rfl, Nat.le_of_ble_eq_true rfl⟩) [] rfl rfl hl.1 (Nat.le_of_ble_eq_true rfl) dX6_hurt_15 rfl ?_
    refine V.topi (fun z3 e3 => ?_)
    refine V.if_eqB (tgt := 25) F e3 dX6_hurt_18 (by decide) (fun c4 => ?_) (fun c4 => ?_)
    · skip
      exact absurd h2.2 c4
    · skip
      refine V.iconst (v := 1) F dX6_hurt_21 (by decide) ?_
      refine V.goto (tgt := 26) F dX6_hurt_22 (by decide) ?_
      refine V.rdSn F hE (c_X6_requireArgument l E (by decide)) (kX6_38 F.2.2.2.2 ⟨Nat.le_of_ble_eq_true rfl, Nat.le_of_ble_eq_true rfl⟩) [] rfl rfl hl.1 (Nat.le_of_ble_eq_true rfl) dX6_hurt_26 rfl ?_
      refine V.aload_n F dX6_hurt_29 rfl (lv_at hl 0 rfl) ?_
      refine V.getf F hE gX6_19 0 rfl rfl dX6_hurt_30 ?_
      refine V.aload_n F dX6_hurt_33 rfl (lv_at hl 0 rfl) ?_
      refine V.getf F hE gX6_10 0 rfl rfl dX6_hurt_34 ?_
      refine V.keepD F hE hN hn (by rfl) hl.1 (Nat.le_of_ble_eq_true rfl) ⟨Nat.le_of_ble_eq_true rfl, Nat.le_of_ble_eq_true rfl⟩ dX6_hurt_37 ?_
      refine V.aload_n F dX6_hurt_40 rfl (lv_at hl 0 rfl) ?_
      refine V.getf F hE gX6_10 0 rfl rfl dX6_hurt_41 ?_
      refine V.iload_n F dX6_hurt_44 rfl (lv_at hl 1 rfl) ?_
      refine V.iload_n F dX6_hurt_45 rfl (lv_at hl 2 rfl) ?_
      refine V.iload_n F dX6_hurt_46 rfl (lv_at hl 3 rfl) ?_
      refine V.wsVn (q0 := 4) (ws' := dW E d v0 v1 t u (nI (kN n)) (m) r a (injG g) (injF g f p q x) ++ tlW E v1 (kB n B) (kG n G g) (kG n K f)) F hE hN keep_pm (c_X5_noteInjury l E) (kX6_77 F.2.2.2.2 ⟨Nat.le_of_ble_eq_true rfl, Nat.le_of_ble_eq_true rfl⟩) rfl rfl 4 18 (by rfl) (by rfl) rfl hl.1 (Nat.le_of_ble_eq_true rfl) dX6_hurt_47 rfl ?_
      refine V.aload_n F dX6_hurt_50 rfl (lv_at hl 0 rfl) ?_
      refine V.getf F hE gX6_10 0 rfl rfl dX6_hurt_51 ?_
      refine V.iload_n F dX6_hurt_54 rfl (lv_at hl 1 rfl) ?_
      refine V.rsV (q0 := 4) F hE (c_X5_scenesBarredFor l E) (kX6_81 F.2.2.2.2 ⟨Nat.le_of_ble_eq_true rfl, Nat.le_of_ble_eq_true rfl⟩) rfl rfl 4 18 (by rfl) rfl hl.1 (Nat.le_of_ble_eq_true rfl) dX6_hurt_55 rfl ?_
      refine V.topi (fun z5 e5 => ?_)
      exact V.iretW F hr hk dX6_hurt_58 (by subst e1 e3 e5; first | with_reducible rfl | (simp only [eq_true c2, eq_true c4, oi1, nI_succ, bI, and_true, true_and, and_false, false_and, and_self, or_true, true_or, or_false, false_or, or_self, not_true_eq_false, not_false_eq_true, if_true, if_false, ↓reduceIte] <;> rfl) | rfl | (simp [eq_true c2, eq_true c4, bI, oi1, nI_succ]; done)) (by subst e1 e3 e5; first | with_reducible rfl | (simp only [eq_true c2, eq_true c4, oi1, nI_succ, bI, and_true, true_and, and_false, false_and, and_self, or_true, true_or, or_false, false_or, or_self, not_true_eq_false, not_false_eq_true, if_true, if_false, ↓reduceIte] <;> rfl) | rfl | (simp [eq_true c2, eq_true c4, bI, oi1, nI_succ]; done))
set_option maxHeartbeats 4000000 in
set_option maxRecDepth 100000 in
theorem c_X6_hurt_t1 (l : Launch) (E : EV) {d v0 v1 t u : Nat} {a : Nat → Nat} {g : Nat → Int32} {f : Nat → Nat → Int32} {n m : Int32} {r : Nat → Int32} {p q x : Int32} (h1 : ¬ (0 ≤ p ∧ p ≤ 7)) (hst : l.stackTraces = false) : Th l E yX6_hurt cX6_hurt 4 (some .int) 7 104 [.ref d, .int p, .int q, .int x] (dW E d v0 v1 t u n m r a g f) xI := by
  refine Th.mk0 (by decide) (Nat.le_of_ble_eq_true rfl) ?_
  intro pP eE sS mM aA bB mt cC F hk hx hE ls hl
  have hl : lv_has ls 4 [(0, .ref d), (1, .int p), (2, .int q), (3, .int x)] := hl
  refine V.iload_n F dX6_hurt_0 rfl (lv_at hl 1 rfl) ?_
  exact V.thS F hE hx hk (c_X6_requirePerson_t l E h1 hst) (kX6_30 F.2.2.2.2 ⟨Nat.le_of_ble_eq_true rfl, Nat.le_of_ble_eq_true rfl⟩) [] rfl rfl hl.1 (Nat.le_of_ble_eq_true rfl) dX6_hurt_1 rfl ⟨Nat.le_of_ble_eq_true rfl, Nat.le_of_ble_eq_true rfl⟩
set_option maxHeartbeats 4000000 in
set_option maxRecDepth 100000 in
theorem c_X6_hurt_t2 (l : Launch) (E : EV) {d v0 v1 t u : Nat} {a : Nat → Nat} {g : Nat → Int32} {f : Nat → Nat → Int32} {n m : Int32} {r : Nat → Int32} {p q x : Int32} (h1 : 0 ≤ p ∧ p ≤ 7) (h2 : ¬ (((1 ≤ q ∧ q ≤ 32) ∧ q &&& (q - 1) = 0) ∧ (1 ≤ x ∧ x ≤ 60))) (hst : l.stackTraces = false) : Th l E yX6_hurt cX6_hurt 4 (some .int) 7 104 [.ref d, .int p, .int q, .int x] (dW E d v0 v1 t u n m r a g f) xA := by
  refine Th.mk0 (by decide) (Nat.le_of_ble_eq_true rfl) ?_
  intro pP eE sS mM aA bB mt cC F hk hx hE ls hl
  have hl : lv_has ls 4 [(0, .ref d), (1, .int p), (2, .int q), (3, .int x)] := hl
  refine V.iload_n F dX6_hurt_0 rfl (lv_at hl 1 rfl) ?_
  refine V.rdSn F hE (c_X6_requirePerson l E h1) (kX6_30 F.2.2.2.2 ⟨Nat.le_of_ble_eq_true rfl, Nat.le_of_ble_eq_true rfl⟩) [] rfl rfl hl.1 (Nat.le_of_ble_eq_true rfl) dX6_hurt_1 rfl ?_
  refine V.iload_n F dX6_hurt_4 rfl (lv_at hl 2 rfl) ?_
  refine V.rdS F hE (c_X6_isPart l E) (kX6_74 F.2.2.2.2 ⟨Nat.le_of_ble_eq_true rfl, Nat.le_of_ble_eq_true rfl⟩) [] rfl rfl hl.1 (Nat.le_of_ble_eq_true rfl) dX6_hurt_5 rfl ?_
  refine V.topi (fun z1 e1 => ?_)
  refine V.if_eqB (tgt := 25) F e1 dX6_hurt_8 (by decide) (fun c2 => ?_) (fun c2 => ?_)
  · skip
    refine V.iconst (v := 0) F dX6_hurt_25 (by decide) ?_
    exact V.thS F hE hx hk (c_X6_requireArgument_t l E rfl hst) (kX6_38 F.2.2.2.2 ⟨Nat.le_of_ble_eq_true rfl, Nat.le_of_ble_eq_true rfl⟩) [] rfl rfl hl.1 (Nat.le_of_ble_eq_true rfl) dX6_hurt_26 rfl ⟨Nat.le_of_ble_eq_true rfl, Nat.le_of_ble_eq_true rfl⟩
  · skip
    refine V.iload_n F dX6_hurt_11 rfl (lv_at hl 3 rfl) ?_
    refine V.iconst (v := 1) F dX6_hurt_12 (by decide) ?_
    refine V.bipush (v := 60) F dX6_hurt_13 (by decide) ?_
    refine V.rdS F hE (c_X6_isBetween l E) (kX6_34 F.2.2.2.2 ⟨Nat.le_of_ble_eq_true rfl, Nat.le_of_ble_eq_true rfl⟩) [] rfl rfl hl.1 (Nat.le_of_ble_eq_true rfl) dX6_hurt_15 rfl ?_
    refine V.topi (fun z3 e3 => ?_)
    refine V.if_eqB (tgt := 25) F e3 dX6_hurt_18 (by decide) (fun c4 => ?_) (fun c4 => ?_)
    · skip
      refine V.iconst (v := 0) F dX6_hurt_25 (by decide) ?_
      exact V.thS F hE hx hk (c_X6_requireArgument_t l E rfl hst) (kX6_38 F.2.2.2.2 ⟨Nat.le_of_ble_eq_true rfl, Nat.le_of_ble_eq_true rfl⟩) [] rfl rfl hl.1 (Nat.le_of_ble_eq_true rfl) dX6_hurt_26 rfl ⟨Nat.le_of_ble_eq_true rfl, Nat.le_of_ble_eq_true rfl⟩
    · skip
      exact absurd ⟨c2, c4⟩ h2
set_option maxHeartbeats 4000000 in
set_option maxRecDepth 100000 in
theorem c_X6_insure (l : Launch) (E : EV) {d v0 v1 t u : Nat} {a : Nat → Nat} {g : Nat → Int32} {f : Nat → Nat → Int32} {n : Nat} {m : Int32} {r : Nat → Int32} {B : Nat → Nat → Nat} {G : Nat → Nat → Int32} {K : Nat → Nat → Nat → Int32} {x y : Int32} (h1 : (1 ≤ x ∧ x ≤ 5) ∧ (1 ≤ y ∧ y ≤ 60)) (h2 : cosC g x y ≤ g 1) (hn : n ≤ 6) : Wr l E yX6_insure cX6_insure 3 (some .int) 7 104 [.ref d, .int x, .int y] (dW E d v0 v1 t u (nI n) (m) r a g f ++ tlW E v1 B G K) (dW E d v0 v1 t u (nI (kN n)) (m) r a (isG g x y) f ++ tlW E v1 (kB n B) (kG n G g) (kG n K f)) (some (.int (g 1 - cosC g x y))) := by
  refine Wr.mk0 (by decide) (Nat.le_of_ble_eq_true rfl) ?_
  intro pP eE sS mM aA bB mt cC F hr hk hE hN ls hl
  have hl : lv_has ls 3 [(0, .ref d), (1, .int x), (2, .int y)] := hl
  refine V.iload_n F dX6_insure_0 rfl (lv_at hl 1 rfl) ?_
  refine V.iload_n F dX6_insure_1 rfl (lv_at hl 2 rfl) ?_
  refine V.rdS F hE (c_X6_isInsurance l E) (kX6_85 F.2.2.2.2 ⟨Nat.le_of_ble_eq_true rfl, Nat.le_of_ble_eq_true rfl⟩) [] rfl rfl hl.1 (Nat.le_of_ble_eq_true rfl) dX6_insure_2 rfl ?_
  refine V.topi (fun z1 e1 => ?_)
  refine V.rdSn F hE (c_X6_requireArgument l E (by rw [e1, bI_t h1]; decide)) (kX6_38 F.2.2.2.2 ⟨Nat.le_of_ble_eq_true rfl, Nat.le_of_ble_eq_true rfl⟩) [] rfl rfl hl.1 (Nat.le_of_ble_eq_true rfl) dX6_insure_5 rfl ?_
  refine V.aload_n F dX6_insure_8 rfl (lv_at hl 0 rfl) ?_
  refine V.getf F hE gX6_10 0 rfl rfl dX6_insure_9 ?_
  refine V.iload_n F dX6_insure_12 rfl (lv_at hl 1 rfl) ?_
  refine V.iload_n F dX6_insure_13 rfl (lv_at hl 2 rfl) ?_
  refine V.rsV (q0 := 4) F hE (c_X5_costOf l E) (kX6_88 F.2.2.2.2 ⟨Nat.le_of_ble_eq_true rfl, Nat.le_of_ble_eq_true rfl⟩) rfl rfl 4 18 (by rfl) rfl hl.1 (Nat.le_of_ble_eq_true rfl) dX6_insure_14 rfl ?_
  refine V.topi (fun z2 e2 => ?_)
  refine V.aload_n F dX6_insure_17 rfl (lv_at hl 0 rfl) ?_
  refine V.getf F hE gX6_10 0 rfl rfl dX6_insure_18 ?_
  refine V.getfi F hE gX6_91 4 rfl rfl dX6_insure_21 (fun z3 e3 => ?_)
  refine V.icmp_gt (tgt := 31) F dX6_insure_24 (by decide) (fun c4 c4' => ?_) (fun c4 c4' => ?_)
  · skip
    subst e1 e2 e3; exact absurd h2 c4'
  · skip
    refine V.iconst (v := 1) F dX6_insure_27 (by decide) ?_
    refine V.goto (tgt := 32) F dX6_insure_28 (by decide) ?_
    refine V.rdSn F hE (c_X6_requireState l E (by decide)) (kX6_54 F.2.2.2.2 ⟨Nat.le_of_ble_eq_true rfl, Nat.le_of_ble_eq_true rfl⟩) [] rfl rfl hl.1 (Nat.le_of_ble_eq_true rfl) dX6_insure_32 rfl ?_
    refine V.aload_n F dX6_insure_35 rfl (lv_at hl 0 rfl) ?_
    refine V.getf F hE gX6_19 0 rfl rfl dX6_insure_36 ?_
    refine V.aload_n F dX6_insure_39 rfl (lv_at hl 0 rfl) ?_
    refine V.getf F hE gX6_10 0 rfl rfl dX6_insure_40 ?_
    refine V.keepD F hE hN hn (by rfl) hl.1 (Nat.le_of_ble_eq_true rfl) ⟨Nat.le_of_ble_eq_true rfl, Nat.le_of_ble_eq_true rfl⟩ dX6_insure_43 ?_
    refine V.aload_n F dX6_insure_46 rfl (lv_at hl 0 rfl) ?_
    refine V.getf F hE gX6_10 0 rfl rfl dX6_insure_47 ?_
    refine V.iload_n F dX6_insure_50 rfl (lv_at hl 1 rfl) ?_
    refine V.iload_n F dX6_insure_51 rfl (lv_at hl 2 rfl) ?_
    refine V.wsVn (q0 := 4) (ws' := dW E d v0 v1 t u (nI (kN n)) (m) r a (isG g x y) f ++ tlW E v1 (kB n B) (kG n G g) (kG n K f)) F hE hN keep_pm (c_X5_buyInsurance l E) (kX6_94 F.2.2.2.2 ⟨Nat.le_of_ble_eq_true rfl, Nat.le_of_ble_eq_true rfl⟩) rfl rfl 4 18 (by rfl) (by rfl) rfl hl.1 (Nat.le_of_ble_eq_true rfl) dX6_insure_52 rfl ?_
    refine V.aload_n F dX6_insure_55 rfl (lv_at hl 0 rfl) ?_
    refine V.getf F hE gX6_10 0 rfl rfl dX6_insure_56 ?_
    refine V.getfi F hE gX6_91 4 rfl rfl dX6_insure_59 (fun z5 e5 => ?_)
    exact V.iretW F hr hk dX6_insure_62 (by subst e1 e2 e3 e5; first | with_reducible rfl | (simp only [c4, c4', oi1, nI_succ, bI, and_true, true_and, and_false, false_and, and_self, or_true, true_or, or_false, false_or, or_self, not_true_eq_false, not_false_eq_true, if_true, if_false, ↓reduceIte] <;> rfl) | rfl | (simp [c4, c4', bI, oi1, nI_succ]; done)) (by subst e1 e2 e3 e5; first | with_reducible rfl | (simp only [c4, c4', oi1, nI_succ, bI, and_true, true_and, and_false, false_and, and_self, or_true, true_or, or_false, false_or, or_self, not_true_eq_false, not_false_eq_true, if_true, if_false, ↓reduceIte] <;> rfl) | rfl | (simp [c4, c4', bI, oi1, nI_succ]; done))
set_option maxHeartbeats 4000000 in
set_option maxRecDepth 100000 in
theorem c_X6_insure_t1 (l : Launch) (E : EV) {d v0 v1 t u : Nat} {a : Nat → Nat} {g : Nat → Int32} {f : Nat → Nat → Int32} {n m : Int32} {r : Nat → Int32} {x y : Int32} (h1 : ¬ ((1 ≤ x ∧ x ≤ 5) ∧ (1 ≤ y ∧ y ≤ 60))) (hst : l.stackTraces = false) : Th l E yX6_insure cX6_insure 3 (some .int) 7 104 [.ref d, .int x, .int y] (dW E d v0 v1 t u n m r a g f) xA := by
  refine Th.mk0 (by decide) (Nat.le_of_ble_eq_true rfl) ?_
  intro pP eE sS mM aA bB mt cC F hk hx hE ls hl
  have hl : lv_has ls 3 [(0, .ref d), (1, .int x), (2, .int y)] := hl
  refine V.iload_n F dX6_insure_0 rfl (lv_at hl 1 rfl) ?_
  refine V.iload_n F dX6_insure_1 rfl (lv_at hl 2 rfl) ?_
  refine V.rdS F hE (c_X6_isInsurance l E) (kX6_85 F.2.2.2.2 ⟨Nat.le_of_ble_eq_true rfl, Nat.le_of_ble_eq_true rfl⟩) [] rfl rfl hl.1 (Nat.le_of_ble_eq_true rfl) dX6_insure_2 rfl ?_
  refine V.topi (fun z1 e1 => ?_)
  exact V.thS F hE hx hk (c_X6_requireArgument_t l E (by rw [e1, bI_f h1]) hst) (kX6_38 F.2.2.2.2 ⟨Nat.le_of_ble_eq_true rfl, Nat.le_of_ble_eq_true rfl⟩) [] rfl rfl hl.1 (Nat.le_of_ble_eq_true rfl) dX6_insure_5 rfl ⟨Nat.le_of_ble_eq_true rfl, Nat.le_of_ble_eq_true rfl⟩
set_option maxHeartbeats 4000000 in
set_option maxRecDepth 100000 in
theorem c_X6_insure_t2 (l : Launch) (E : EV) {d v0 v1 t u : Nat} {a : Nat → Nat} {g : Nat → Int32} {f : Nat → Nat → Int32} {n m : Int32} {r : Nat → Int32} {x y : Int32} (h1 : (1 ≤ x ∧ x ≤ 5) ∧ (1 ≤ y ∧ y ≤ 60)) (h2 : ¬ (cosC g x y ≤ g 1)) (hst : l.stackTraces = false) : Th l E yX6_insure cX6_insure 3 (some .int) 7 104 [.ref d, .int x, .int y] (dW E d v0 v1 t u n m r a g f) xS := by
  refine Th.mk0 (by decide) (Nat.le_of_ble_eq_true rfl) ?_
  intro pP eE sS mM aA bB mt cC F hk hx hE ls hl
  have hl : lv_has ls 3 [(0, .ref d), (1, .int x), (2, .int y)] := hl
  refine V.iload_n F dX6_insure_0 rfl (lv_at hl 1 rfl) ?_
  refine V.iload_n F dX6_insure_1 rfl (lv_at hl 2 rfl) ?_
  refine V.rdS F hE (c_X6_isInsurance l E) (kX6_85 F.2.2.2.2 ⟨Nat.le_of_ble_eq_true rfl, Nat.le_of_ble_eq_true rfl⟩) [] rfl rfl hl.1 (Nat.le_of_ble_eq_true rfl) dX6_insure_2 rfl ?_
  refine V.topi (fun z1 e1 => ?_)
  refine V.rdSn F hE (c_X6_requireArgument l E (by rw [e1, bI_t h1]; decide)) (kX6_38 F.2.2.2.2 ⟨Nat.le_of_ble_eq_true rfl, Nat.le_of_ble_eq_true rfl⟩) [] rfl rfl hl.1 (Nat.le_of_ble_eq_true rfl) dX6_insure_5 rfl ?_
  refine V.aload_n F dX6_insure_8 rfl (lv_at hl 0 rfl) ?_
  refine V.getf F hE gX6_10 0 rfl rfl dX6_insure_9 ?_
  refine V.iload_n F dX6_insure_12 rfl (lv_at hl 1 rfl) ?_
  refine V.iload_n F dX6_insure_13 rfl (lv_at hl 2 rfl) ?_
  refine V.rsV (q0 := 4) F hE (c_X5_costOf l E) (kX6_88 F.2.2.2.2 ⟨Nat.le_of_ble_eq_true rfl, Nat.le_of_ble_eq_true rfl⟩) rfl rfl 4 18 (by rfl) rfl hl.1 (Nat.le_of_ble_eq_true rfl) dX6_insure_14 rfl ?_
  refine V.topi (fun z2 e2 => ?_)
  refine V.aload_n F dX6_insure_17 rfl (lv_at hl 0 rfl) ?_
  refine V.getf F hE gX6_10 0 rfl rfl dX6_insure_18 ?_
  refine V.getfi F hE gX6_91 4 rfl rfl dX6_insure_21 (fun z3 e3 => ?_)
  refine V.icmp_gt (tgt := 31) F dX6_insure_24 (by decide) (fun c4 c4' => ?_) (fun c4 c4' => ?_)
  · skip
    refine V.iconst (v := 0) F dX6_insure_31 (by decide) ?_
    exact V.thS F hE hx hk (c_X6_requireState_t l E rfl hst) (kX6_54 F.2.2.2.2 ⟨Nat.le_of_ble_eq_true rfl, Nat.le_of_ble_eq_true rfl⟩) [] rfl rfl hl.1 (Nat.le_of_ble_eq_true rfl) dX6_insure_32 rfl ⟨Nat.le_of_ble_eq_true rfl, Nat.le_of_ble_eq_true rfl⟩
  · skip
    subst e1 e2 e3; exact absurd c4' h2
set_option maxHeartbeats 4000000 in
set_option maxRecDepth 100000 in
theorem c_X6_scene (l : Launch) (E : EV) {d v0 v1 t u : Nat} {a : Nat → Nat} {g : Nat → Int32} {f : Nat → Nat → Int32} {n : Nat} {m : Int32} {r : Nat → Int32} {B : Nat → Nat → Nat} {G : Nat → Nat → Int32} {K : Nat → Nat → Nat → Int32} {k q p : Int32} (h1 : 0 ≤ k ∧ k ≤ 5) (h2 : 0 ≤ p ∧ p ≤ 7) (h3 : 1 ≤ q ∧ q ≤ 5) (h4 : g 8 < 10) (hn : n ≤ 6) : Wr l E yX6_scene cX6_scene 4 (some .int) 7 104 [.ref d, .int k, .int q, .int p] (dW E d v0 v1 t u (nI n) (m) r a g f ++ tlW E v1 B G K) (dW E d v0 v1 t u (nI (kN n)) (m) r a (scG g) (scF g f k q p) ++ tlW E v1 (kB n B) (kG n G g) (kG n K f)) (some (.int (g 8))) := by
  refine Wr.mk0 (by decide) (Nat.le_of_ble_eq_true rfl) ?_
  intro pP eE sS mM aA bB mt cC F hr hk hE hN ls hl
  have hl : lv_has ls 4 [(0, .ref d), (1, .int k), (2, .int q), (3, .int p)] := hl
  refine V.iload_n F dX6_scene_0 rfl (lv_at hl 1 rfl) ?_
  refine V.rdSn F hE (c_X6_requireKind l E h1) (kX6_64 F.2.2.2.2 ⟨Nat.le_of_ble_eq_true rfl, Nat.le_of_ble_eq_true rfl⟩) [] rfl rfl hl.1 (Nat.le_of_ble_eq_true rfl) dX6_scene_1 rfl ?_
  refine V.iload_n F dX6_scene_4 rfl (lv_at hl 3 rfl) ?_
  refine V.rdSn F hE (c_X6_requirePerson l E h2) (kX6_30 F.2.2.2.2 ⟨Nat.le_of_ble_eq_true rfl, Nat.le_of_ble_eq_true rfl⟩) [] rfl rfl hl.1 (Nat.le_of_ble_eq_true rfl) dX6_scene_5 rfl ?_
  refine V.iload_n F dX6_scene_8 rfl (lv_at hl 2 rfl) ?_
  refine V.iconst (v := 1) F dX6_scene_9 (by decide) ?_
  refine V.iconst (v := 5) F dX6_scene_10 (by decide) ?_
  refine V.rdS F hE (c_X6_isBetween l E) (kX6_34 F.2.2.2.2 ⟨Nat.le_of_ble_eq_true rfl, Nat.le_of_ble_eq_true rfl⟩) [] rfl rfl hl.1 (Nat.le_of_ble_eq_true rfl) dX6_scene_11 rfl ?_
  refine V.topi (fun z1 e1 => ?_)
  refine V.rdSn F hE (c_X6_requireArgument l E (by rw [e1, bI_t h3]; decide)) (kX6_38 F.2.2.2.2 ⟨Nat.le_of_ble_eq_true rfl, Nat.le_of_ble_eq_true rfl⟩) [] rfl rfl hl.1 (Nat.le_of_ble_eq_true rfl) dX6_scene_14 rfl ?_
  refine V.aload_n F dX6_scene_17 rfl (lv_at hl 0 rfl) ?_
  refine V.getf F hE gX6_10 0 rfl rfl dX6_scene_18 ?_
  refine V.getf F hE gX6_98 4 rfl rfl dX6_scene_21 ?_
  refine V.getfi F hE gX6_102 16 rfl rfl dX6_scene_24 (fun z2 e2 => ?_)
  refine V.bipush (v := 10) F dX6_scene_27 (by decide) ?_
  refine V.icmp_ge (tgt := 36) F dX6_scene_29 (by decide) (fun c3 c3' => ?_) (fun c3 c3' => ?_)
  · skip
    subst e1 e2; exact absurd h4 c3'
  · skip
    refine V.iconst (v := 1) F dX6_scene_32 (by decide) ?_
    refine V.goto (tgt := 37) F dX6_scene_33 (by decide) ?_
    refine V.rdSn F hE (c_X6_requireState l E (by decide)) (kX6_54 F.2.2.2.2 ⟨Nat.le_of_ble_eq_true rfl, Nat.le_of_ble_eq_true rfl⟩) [] rfl rfl hl.1 (Nat.le_of_ble_eq_true rfl) dX6_scene_37 rfl ?_
    refine V.aload_n F dX6_scene_40 rfl (lv_at hl 0 rfl) ?_
    refine V.getf F hE gX6_19 0 rfl rfl dX6_scene_41 ?_
    refine V.aload_n F dX6_scene_44 rfl (lv_at hl 0 rfl) ?_
    refine V.getf F hE gX6_10 0 rfl rfl dX6_scene_45 ?_
    refine V.keepD F hE hN hn (by rfl) hl.1 (Nat.le_of_ble_eq_true rfl) ⟨Nat.le_of_ble_eq_true rfl, Nat.le_of_ble_eq_true rfl⟩ dX6_scene_48 ?_
    refine V.aload_n F dX6_scene_51 rfl (lv_at hl 0 rfl) ?_
    refine V.getf F hE gX6_10 0 rfl rfl dX6_scene_52 ?_
    refine V.getf F hE gX6_98 4 rfl rfl dX6_scene_55 ?_
    refine V.iload_n F dX6_scene_58 rfl (lv_at hl 1 rfl) ?_
    refine V.iload_n F dX6_scene_59 rfl (lv_at hl 2 rfl) ?_
    refine V.iload_n F dX6_scene_60 rfl (lv_at hl 3 rfl) ?_
    refine V.wsV (q0 := 16) (ws' := dW E d v0 v1 t u (nI (kN n)) (m) r a (scG g) (scF g f k q p) ++ tlW E v1 (kB n B) (kG n G g) (kG n K f)) F hE hN keep_pm (c_X4_tell l E) (kX6_107 F.2.2.2.2 ⟨Nat.le_of_ble_eq_true rfl, Nat.le_of_ble_eq_true rfl⟩) rfl rfl 16 6 (by rfl) (by rfl) rfl hl.1 (Nat.le_of_ble_eq_true rfl) dX6_scene_61 rfl ?_
    refine V.topi (fun z4 e4 => ?_)
    exact V.iretW F hr hk dX6_scene_64 (by subst e1 e2 e4; first | with_reducible rfl | (simp only [c3, c3', oi1, nI_succ, bI, and_true, true_and, and_false, false_and, and_self, or_true, true_or, or_false, false_or, or_self, not_true_eq_false, not_false_eq_true, if_true, if_false, ↓reduceIte] <;> rfl) | rfl | (simp [c3, c3', bI, oi1, nI_succ]; done)) (by subst e1 e2 e4; first | with_reducible rfl | (simp only [c3, c3', oi1, nI_succ, bI, and_true, true_and, and_false, false_and, and_self, or_true, true_or, or_false, false_or, or_self, not_true_eq_false, not_false_eq_true, if_true, if_false, ↓reduceIte] <;> rfl) | rfl | (simp [c3, c3', bI, oi1, nI_succ]; done))
set_option maxHeartbeats 4000000 in
set_option maxRecDepth 100000 in
theorem c_X6_scene_t1 (l : Launch) (E : EV) {d v0 v1 t u : Nat} {a : Nat → Nat} {g : Nat → Int32} {f : Nat → Nat → Int32} {n m : Int32} {r : Nat → Int32} {k q p : Int32} (h1 : ¬ (0 ≤ k ∧ k ≤ 5)) (hst : l.stackTraces = false) : Th l E yX6_scene cX6_scene 4 (some .int) 7 104 [.ref d, .int k, .int q, .int p] (dW E d v0 v1 t u n m r a g f) xI := by
  refine Th.mk0 (by decide) (Nat.le_of_ble_eq_true rfl) ?_
  intro pP eE sS mM aA bB mt cC F hk hx hE ls hl
  have hl : lv_has ls 4 [(0, .ref d), (1, .int k), (2, .int q), (3, .int p)] := hl
  refine V.iload_n F dX6_scene_0 rfl (lv_at hl 1 rfl) ?_
  exact V.thS F hE hx hk (c_X6_requireKind_t l E h1 hst) (kX6_64 F.2.2.2.2 ⟨Nat.le_of_ble_eq_true rfl, Nat.le_of_ble_eq_true rfl⟩) [] rfl rfl hl.1 (Nat.le_of_ble_eq_true rfl) dX6_scene_1 rfl ⟨Nat.le_of_ble_eq_true rfl, Nat.le_of_ble_eq_true rfl⟩
set_option maxHeartbeats 4000000 in
set_option maxRecDepth 100000 in
theorem c_X6_scene_t2 (l : Launch) (E : EV) {d v0 v1 t u : Nat} {a : Nat → Nat} {g : Nat → Int32} {f : Nat → Nat → Int32} {n m : Int32} {r : Nat → Int32} {k q p : Int32} (h1 : 0 ≤ k ∧ k ≤ 5) (h2 : ¬ (0 ≤ p ∧ p ≤ 7)) (hst : l.stackTraces = false) : Th l E yX6_scene cX6_scene 4 (some .int) 7 104 [.ref d, .int k, .int q, .int p] (dW E d v0 v1 t u n m r a g f) xI := by
  refine Th.mk0 (by decide) (Nat.le_of_ble_eq_true rfl) ?_
  intro pP eE sS mM aA bB mt cC F hk hx hE ls hl
  have hl : lv_has ls 4 [(0, .ref d), (1, .int k), (2, .int q), (3, .int p)] := hl
  refine V.iload_n F dX6_scene_0 rfl (lv_at hl 1 rfl) ?_
  refine V.rdSn F hE (c_X6_requireKind l E h1) (kX6_64 F.2.2.2.2 ⟨Nat.le_of_ble_eq_true rfl, Nat.le_of_ble_eq_true rfl⟩) [] rfl rfl hl.1 (Nat.le_of_ble_eq_true rfl) dX6_scene_1 rfl ?_
  refine V.iload_n F dX6_scene_4 rfl (lv_at hl 3 rfl) ?_
  exact V.thS F hE hx hk (c_X6_requirePerson_t l E h2 hst) (kX6_30 F.2.2.2.2 ⟨Nat.le_of_ble_eq_true rfl, Nat.le_of_ble_eq_true rfl⟩) [] rfl rfl hl.1 (Nat.le_of_ble_eq_true rfl) dX6_scene_5 rfl ⟨Nat.le_of_ble_eq_true rfl, Nat.le_of_ble_eq_true rfl⟩
set_option maxHeartbeats 4000000 in
set_option maxRecDepth 100000 in
theorem c_X6_scene_t3 (l : Launch) (E : EV) {d v0 v1 t u : Nat} {a : Nat → Nat} {g : Nat → Int32} {f : Nat → Nat → Int32} {n m : Int32} {r : Nat → Int32} {k q p : Int32} (h1 : 0 ≤ k ∧ k ≤ 5) (h2 : 0 ≤ p ∧ p ≤ 7) (h3 : ¬ (1 ≤ q ∧ q ≤ 5)) (hst : l.stackTraces = false) : Th l E yX6_scene cX6_scene 4 (some .int) 7 104 [.ref d, .int k, .int q, .int p] (dW E d v0 v1 t u n m r a g f) xA := by
  refine Th.mk0 (by decide) (Nat.le_of_ble_eq_true rfl) ?_
  intro pP eE sS mM aA bB mt cC F hk hx hE ls hl
  have hl : lv_has ls 4 [(0, .ref d), (1, .int k), (2, .int q), (3, .int p)] := hl
  refine V.iload_n F dX6_scene_0 rfl (lv_at hl 1 rfl) ?_
  refine V.rdSn F hE (c_X6_requireKind l E h1) (kX6_64 F.2.2.2.2 ⟨Nat.le_of_ble_eq_true rfl, Nat.le_of_ble_eq_true rfl⟩) [] rfl rfl hl.1 (Nat.le_of_ble_eq_true rfl) dX6_scene_1 rfl ?_
  refine V.iload_n F dX6_scene_4 rfl (lv_at hl 3 rfl) ?_
  refine V.rdSn F hE (c_X6_requirePerson l E h2) (kX6_30 F.2.2.2.2 ⟨Nat.le_of_ble_eq_true rfl, Nat.le_of_ble_eq_true rfl⟩) [] rfl rfl hl.1 (Nat.le_of_ble_eq_true rfl) dX6_scene_5 rfl ?_
  refine V.iload_n F dX6_scene_8 rfl (lv_at hl 2 rfl) ?_
  refine V.iconst (v := 1) F dX6_scene_9 (by decide) ?_
  refine V.iconst (v := 5) F dX6_scene_10 (by decide) ?_
  refine V.rdS F hE (c_X6_isBetween l E) (kX6_34 F.2.2.2.2 ⟨Nat.le_of_ble_eq_true rfl, Nat.le_of_ble_eq_true rfl⟩) [] rfl rfl hl.1 (Nat.le_of_ble_eq_true rfl) dX6_scene_11 rfl ?_
  refine V.topi (fun z1 e1 => ?_)
  exact V.thS F hE hx hk (c_X6_requireArgument_t l E (by rw [e1, bI_f h3]) hst) (kX6_38 F.2.2.2.2 ⟨Nat.le_of_ble_eq_true rfl, Nat.le_of_ble_eq_true rfl⟩) [] rfl rfl hl.1 (Nat.le_of_ble_eq_true rfl) dX6_scene_14 rfl ⟨Nat.le_of_ble_eq_true rfl, Nat.le_of_ble_eq_true rfl⟩
set_option maxHeartbeats 4000000 in
set_option maxRecDepth 100000 in
theorem c_X6_scene_t4 (l : Launch) (E : EV) {d v0 v1 t u : Nat} {a : Nat → Nat} {g : Nat → Int32} {f : Nat → Nat → Int32} {n m : Int32} {r : Nat → Int32} {k q p : Int32} (h1 : 0 ≤ k ∧ k ≤ 5) (h2 : 0 ≤ p ∧ p ≤ 7) (h3 : 1 ≤ q ∧ q ≤ 5) (h4 : ¬ (g 8 < 10)) (hst : l.stackTraces = false) : Th l E yX6_scene cX6_scene 4 (some .int) 7 104 [.ref d, .int k, .int q, .int p] (dW E d v0 v1 t u n m r a g f) xS := by
  refine Th.mk0 (by decide) (Nat.le_of_ble_eq_true rfl) ?_
  intro pP eE sS mM aA bB mt cC F hk hx hE ls hl
  have hl : lv_has ls 4 [(0, .ref d), (1, .int k), (2, .int q), (3, .int p)] := hl
  refine V.iload_n F dX6_scene_0 rfl (lv_at hl 1 rfl) ?_
  refine V.rdSn F hE (c_X6_requireKind l E h1) (kX6_64 F.2.2.2.2 ⟨Nat.le_of_ble_eq_true rfl, Nat.le_of_ble_eq_true rfl⟩) [] rfl rfl hl.1 (Nat.le_of_ble_eq_true rfl) dX6_scene_1 rfl ?_
  refine V.iload_n F dX6_scene_4 rfl (lv_at hl 3 rfl) ?_
  refine V.rdSn F hE (c_X6_requirePerson l E h2) (kX6_30 F.2.2.2.2 ⟨Nat.le_of_ble_eq_true rfl, Nat.le_of_ble_eq_true rfl⟩) [] rfl rfl hl.1 (Nat.le_of_ble_eq_true rfl) dX6_scene_5 rfl ?_
  refine V.iload_n F dX6_scene_8 rfl (lv_at hl 2 rfl) ?_
  refine V.iconst (v := 1) F dX6_scene_9 (by decide) ?_
  refine V.iconst (v := 5) F dX6_scene_10 (by decide) ?_
  refine V.rdS F hE (c_X6_isBetween l E) (kX6_34 F.2.2.2.2 ⟨Nat.le_of_ble_eq_true rfl, Nat.le_of_ble_eq_true rfl⟩) [] rfl rfl hl.1 (Nat.le_of_ble_eq_true rfl) dX6_scene_11 rfl ?_
  refine V.topi (fun z1 e1 => ?_)
  refine V.rdSn F hE (c_X6_requireArgument l E (by rw [e1, bI_t h3]; decide)) (kX6_38 F.2.2.2.2 ⟨Nat.le_of_ble_eq_true rfl, Nat.le_of_ble_eq_true rfl⟩) [] rfl rfl hl.1 (Nat.le_of_ble_eq_true rfl) dX6_scene_14 rfl ?_
  refine V.aload_n F dX6_scene_17 rfl (lv_at hl 0 rfl) ?_
  refine V.getf F hE gX6_10 0 rfl rfl dX6_scene_18 ?_
  refine V.getf F hE gX6_98 4 rfl rfl dX6_scene_21 ?_
  refine V.getfi F hE gX6_102 16 rfl rfl dX6_scene_24 (fun z2 e2 => ?_)
  refine V.bipush (v := 10) F dX6_scene_27 (by decide) ?_
  refine V.icmp_ge (tgt := 36) F dX6_scene_29 (by decide) (fun c3 c3' => ?_) (fun c3 c3' => ?_)
  · skip
    refine V.iconst (v := 0) F dX6_scene_36 (by decide) ?_
    exact V.thS F hE hx hk (c_X6_requireState_t l E rfl hst) (kX6_54 F.2.2.2.2 ⟨Nat.le_of_ble_eq_true rfl, Nat.le_of_ble_eq_true rfl⟩) [] rfl rfl hl.1 (Nat.le_of_ble_eq_true rfl) dX6_scene_37 rfl ⟨Nat.le_of_ble_eq_true rfl, Nat.le_of_ble_eq_true rfl⟩
  · skip
    subst e1 e2; exact absurd c3' h4
set_option maxHeartbeats 4000000 in
set_option maxRecDepth 100000 in
theorem c_X6_shoot (l : Launch) (E : EV) {d v0 v1 t u : Nat} {a : Nat → Nat} {g : Nat → Int32} {f : Nat → Nat → Int32} {n : Nat} {m : Int32} {r : Nat → Int32} {B : Nat → Nat → Nat} {G : Nat → Nat → Int32} {K : Nat → Nat → Nat → Int32} {x p : Int32} (h1 : 0 ≤ x ∧ x < g 8) (h2 : 0 ≤ p ∧ p ≤ 7) (h3 : reaC g f (g 0) x p = 0) (hn : n ≤ 6) : Wr l E yX6_shoot cX6_shoot 3 (some .int) 7 105 [.ref d, .int x, .int p] (dW E d v0 v1 t u (nI n) (m) r a g f ++ tlW E v1 B G K) (dW E d v0 v1 t u (nI (kN n)) (m) r a g (shF g f x p) ++ tlW E v1 (kB n B) (kG n G g) (kG n K f)) (some (.int (bI (¬ gt (shF g f x p 12) 10 x = -1 ∧ ¬ gt (shF g f x p 13) 10 x = gt (shF g f x p 11) 10 x)))) := by
  refine Wr.mk0 (by decide) (Nat.le_of_ble_eq_true rfl) ?_
  intro pP eE sS mM aA bB mt cC F hr hk hE hN ls hl
  have hl : lv_has ls 3 [(0, .ref d), (1, .int x), (2, .int p)] := hl
  refine V.aload_n F dX6_shoot_0 rfl (lv_at hl 0 rfl) ?_
  refine V.iload_n F dX6_shoot_1 rfl (lv_at hl 1 rfl) ?_
  refine V.rsVn (q0 := 0) F hE (c_X6_requireScene l E h1) (kX6_111 F.2.2.2.2 ⟨Nat.le_of_ble_eq_true rfl, Nat.le_of_ble_eq_true rfl⟩) rfl rfl 0 22 (by rfl) rfl hl.1 (Nat.le_of_ble_eq_true rfl) dX6_shoot_2 rfl ?_
  refine V.iload_n F dX6_shoot_5 rfl (lv_at hl 2 rfl) ?_
  refine V.rdSn F hE (c_X6_requirePerson l E h2) (kX6_30 F.2.2.2.2 ⟨Nat.le_of_ble_eq_true rfl, Nat.le_of_ble_eq_true rfl⟩) [] rfl rfl hl.1 (Nat.le_of_ble_eq_true rfl) dX6_shoot_6 rfl ?_
  refine V.aload_n F dX6_shoot_9 rfl (lv_at hl 0 rfl) ?_
  refine V.getf F hE gX6_10 0 rfl rfl dX6_shoot_10 ?_
  refine V.iload_n F dX6_shoot_13 rfl (lv_at hl 1 rfl) ?_
  refine V.iload_n F dX6_shoot_14 rfl (lv_at hl 2 rfl) ?_
  refine V.rsV (q0 := 4) F hE (c_X5_canShoot l E) (kX6_114 F.2.2.2.2 ⟨Nat.le_of_ble_eq_true rfl, Nat.le_of_ble_eq_true rfl⟩) rfl rfl 4 18 (by rfl) rfl hl.1 (Nat.le_of_ble_eq_true rfl) dX6_shoot_15 rfl ?_
  refine V.topi (fun z1 e1 => ?_)
  refine V.rdSn F hE (c_X6_requireState l E (by rw [e1, bI_t h3]; decide)) (kX6_54 F.2.2.2.2 ⟨Nat.le_of_ble_eq_true rfl, Nat.le_of_ble_eq_true rfl⟩) [] rfl rfl hl.1 (Nat.le_of_ble_eq_true rfl) dX6_shoot_18 rfl ?_
  refine V.aload_n F dX6_shoot_21 rfl (lv_at hl 0 rfl) ?_
  refine V.getf F hE gX6_19 0 rfl rfl dX6_shoot_22 ?_
  refine V.aload_n F dX6_shoot_25 rfl (lv_at hl 0 rfl) ?_
  refine V.getf F hE gX6_10 0 rfl rfl dX6_shoot_26 ?_
  refine V.keepD F hE hN hn (by rfl) hl.1 (Nat.le_of_ble_eq_true rfl) ⟨Nat.le_of_ble_eq_true rfl, Nat.le_of_ble_eq_true rfl⟩ dX6_shoot_29 ?_
  refine V.aload_n F dX6_shoot_32 rfl (lv_at hl 0 rfl) ?_
  refine V.getf F hE gX6_10 0 rfl rfl dX6_shoot_33 ?_
  refine V.iload_n F dX6_shoot_36 rfl (lv_at hl 1 rfl) ?_
  refine V.iload_n F dX6_shoot_37 rfl (lv_at hl 2 rfl) ?_
  refine V.wsVn (q0 := 4) (ws' := dW E d v0 v1 t u (nI (kN n)) (m) r a g (shF g f x p) ++ tlW E v1 (kB n B) (kG n G g) (kG n K f)) F hE hN keep_pm (c_X5_letShoot l E) (kX6_117 F.2.2.2.2 ⟨Nat.le_of_ble_eq_true rfl, Nat.le_of_ble_eq_true rfl⟩) rfl rfl 4 18 (by rfl) (by rfl) rfl hl.1 (Nat.le_of_ble_eq_true rfl) dX6_shoot_38 rfl ?_
  refine V.aload_n F dX6_shoot_41 rfl (lv_at hl 0 rfl) ?_
  refine V.getf F hE gX6_10 0 rfl rfl dX6_shoot_42 ?_
  refine V.getf F hE gX6_98 4 rfl rfl dX6_shoot_45 ?_
  refine V.iload_n F dX6_shoot_48 rfl (lv_at hl 1 rfl) ?_
  refine V.rdV (q0 := 16) F hE (c_X4_isByDouble l E) (kX6_120 F.2.2.2.2 ⟨Nat.le_of_ble_eq_true rfl, Nat.le_of_ble_eq_true rfl⟩) rfl rfl [16, 17, 18, 19, 20, 21] rfl rfl hl.1 (Nat.le_of_ble_eq_true rfl) dX6_shoot_49 rfl ?_
  refine V.topi (fun z2 e2 => ?_)
  refine V.if_eqB (tgt := 59) F e2 dX6_shoot_52 (by decide) (fun c3 => ?_) (fun c3 => ?_)
  · skip
    refine V.iconst (v := 0) F dX6_shoot_59 (by decide) ?_
    exact V.iretW F hr hk dX6_shoot_60 (by subst e1 e2; first | with_reducible rfl | (simp only [c3, oi1, nI_succ, bI, and_true, true_and, and_false, false_and, and_self, or_true, true_or, or_false, false_or, or_self, not_true_eq_false, not_false_eq_true, if_true, if_false, ↓reduceIte] <;> rfl) | rfl | (simp [c3, bI, oi1, nI_succ]; done)) (by subst e1 e2; first | with_reducible rfl | (simp only [c3, oi1, nI_succ, bI, and_true, true_and, and_false, false_and, and_self, or_true, true_or, or_false, false_or, or_self, not_true_eq_false, not_false_eq_true, if_true, if_false, ↓reduceIte] <;> rfl) | rfl | (simp [c3, bI, oi1, nI_succ]; done))
  · skip
    refine V.iconst (v := 1) F dX6_shoot_55 (by decide) ?_
    refine V.goto (tgt := 60) F dX6_shoot_56 (by decide) ?_
    exact V.iretW F hr hk dX6_shoot_60 (by subst e1 e2; first | with_reducible rfl | (simp only [eq_true c3, oi1, nI_succ, bI, and_true, true_and, and_false, false_and, and_self, or_true, true_or, or_false, false_or, or_self, not_true_eq_false, not_false_eq_true, if_true, if_false, ↓reduceIte] <;> rfl) | rfl | (simp [eq_true c3, bI, oi1, nI_succ]; done)) (by subst e1 e2; first | with_reducible rfl | (simp only [eq_true c3, oi1, nI_succ, bI, and_true, true_and, and_false, false_and, and_self, or_true, true_or, or_false, false_or, or_self, not_true_eq_false, not_false_eq_true, if_true, if_false, ↓reduceIte] <;> rfl) | rfl | (simp [eq_true c3, bI, oi1, nI_succ]; done))
set_option maxHeartbeats 4000000 in
set_option maxRecDepth 100000 in
theorem c_X6_shoot_t1 (l : Launch) (E : EV) {d v0 v1 t u : Nat} {a : Nat → Nat} {g : Nat → Int32} {f : Nat → Nat → Int32} {n m : Int32} {r : Nat → Int32} {x p : Int32} (h1 : ¬ (0 ≤ x ∧ x < g 8)) (hst : l.stackTraces = false) : Th l E yX6_shoot cX6_shoot 3 (some .int) 7 105 [.ref d, .int x, .int p] (dW E d v0 v1 t u n m r a g f) xI := by
  refine Th.mk0 (by decide) (Nat.le_of_ble_eq_true rfl) ?_
  intro pP eE sS mM aA bB mt cC F hk hx hE ls hl
  have hl : lv_has ls 3 [(0, .ref d), (1, .int x), (2, .int p)] := hl
  refine V.aload_n F dX6_shoot_0 rfl (lv_at hl 0 rfl) ?_
  refine V.iload_n F dX6_shoot_1 rfl (lv_at hl 1 rfl) ?_
  exact V.thV (q0 := 0) F hE hx hk (c_X6_requireScene_t l E h1 hst) (kX6_111 F.2.2.2.2 ⟨Nat.le_of_ble_eq_true rfl, Nat.le_of_ble_eq_true rfl⟩) rfl rfl [0, 1, 2, 3, 4, 5, 6, 7, 8, 9, 10, 11, 12, 13, 14, 15, 16, 17, 18, 19, 20, 21] rfl rfl hl.1 (Nat.le_of_ble_eq_true rfl) dX6_shoot_2 rfl ⟨Nat.le_of_ble_eq_true rfl, Nat.le_of_ble_eq_true rfl⟩
set_option maxHeartbeats 4000000 in
set_option maxRecDepth 100000 in
theorem c_X6_shoot_t2 (l : Launch) (E : EV) {d v0 v1 t u : Nat} {a : Nat → Nat} {g : Nat → Int32} {f : Nat → Nat → Int32} {n m : Int32} {r : Nat → Int32} {x p : Int32} (h1 : 0 ≤ x ∧ x < g 8) (h2 : ¬ (0 ≤ p ∧ p ≤ 7)) (hst : l.stackTraces = false) : Th l E yX6_shoot cX6_shoot 3 (some .int) 7 105 [.ref d, .int x, .int p] (dW E d v0 v1 t u n m r a g f) xI := by
  refine Th.mk0 (by decide) (Nat.le_of_ble_eq_true rfl) ?_
  intro pP eE sS mM aA bB mt cC F hk hx hE ls hl
  have hl : lv_has ls 3 [(0, .ref d), (1, .int x), (2, .int p)] := hl
  refine V.aload_n F dX6_shoot_0 rfl (lv_at hl 0 rfl) ?_
  refine V.iload_n F dX6_shoot_1 rfl (lv_at hl 1 rfl) ?_
  refine V.rsVn (q0 := 0) F hE (c_X6_requireScene l E h1) (kX6_111 F.2.2.2.2 ⟨Nat.le_of_ble_eq_true rfl, Nat.le_of_ble_eq_true rfl⟩) rfl rfl 0 22 (by rfl) rfl hl.1 (Nat.le_of_ble_eq_true rfl) dX6_shoot_2 rfl ?_
  refine V.iload_n F dX6_shoot_5 rfl (lv_at hl 2 rfl) ?_
  exact V.thS F hE hx hk (c_X6_requirePerson_t l E h2 hst) (kX6_30 F.2.2.2.2 ⟨Nat.le_of_ble_eq_true rfl, Nat.le_of_ble_eq_true rfl⟩) [] rfl rfl hl.1 (Nat.le_of_ble_eq_true rfl) dX6_shoot_6 rfl ⟨Nat.le_of_ble_eq_true rfl, Nat.le_of_ble_eq_true rfl⟩
set_option maxHeartbeats 4000000 in
set_option maxRecDepth 100000 in
theorem c_X6_shoot_t3 (l : Launch) (E : EV) {d v0 v1 t u : Nat} {a : Nat → Nat} {g : Nat → Int32} {f : Nat → Nat → Int32} {n m : Int32} {r : Nat → Int32} {x p : Int32} (h1 : 0 ≤ x ∧ x < g 8) (h2 : 0 ≤ p ∧ p ≤ 7) (h3 : ¬ (reaC g f (g 0) x p = 0)) (hst : l.stackTraces = false) : Th l E yX6_shoot cX6_shoot 3 (some .int) 7 105 [.ref d, .int x, .int p] (dW E d v0 v1 t u n m r a g f) xS := by
  refine Th.mk0 (by decide) (Nat.le_of_ble_eq_true rfl) ?_
  intro pP eE sS mM aA bB mt cC F hk hx hE ls hl
  have hl : lv_has ls 3 [(0, .ref d), (1, .int x), (2, .int p)] := hl
  refine V.aload_n F dX6_shoot_0 rfl (lv_at hl 0 rfl) ?_
  refine V.iload_n F dX6_shoot_1 rfl (lv_at hl 1 rfl) ?_
  refine V.rsVn (q0 := 0) F hE (c_X6_requireScene l E h1) (kX6_111 F.2.2.2.2 ⟨Nat.le_of_ble_eq_true rfl, Nat.le_of_ble_eq_true rfl⟩) rfl rfl 0 22 (by rfl) rfl hl.1 (Nat.le_of_ble_eq_true rfl) dX6_shoot_2 rfl ?_
  refine V.iload_n F dX6_shoot_5 rfl (lv_at hl 2 rfl) ?_
  refine V.rdSn F hE (c_X6_requirePerson l E h2) (kX6_30 F.2.2.2.2 ⟨Nat.le_of_ble_eq_true rfl, Nat.le_of_ble_eq_true rfl⟩) [] rfl rfl hl.1 (Nat.le_of_ble_eq_true rfl) dX6_shoot_6 rfl ?_
  refine V.aload_n F dX6_shoot_9 rfl (lv_at hl 0 rfl) ?_
  refine V.getf F hE gX6_10 0 rfl rfl dX6_shoot_10 ?_
  refine V.iload_n F dX6_shoot_13 rfl (lv_at hl 1 rfl) ?_
  refine V.iload_n F dX6_shoot_14 rfl (lv_at hl 2 rfl) ?_
  refine V.rsV (q0 := 4) F hE (c_X5_canShoot l E) (kX6_114 F.2.2.2.2 ⟨Nat.le_of_ble_eq_true rfl, Nat.le_of_ble_eq_true rfl⟩) rfl rfl 4 18 (by rfl) rfl hl.1 (Nat.le_of_ble_eq_true rfl) dX6_shoot_15 rfl ?_
  refine V.topi (fun z1 e1 => ?_)
  exact V.thS F hE hx hk (c_X6_requireState_t l E (by rw [e1, bI_f h3]) hst) (kX6_54 F.2.2.2.2 ⟨Nat.le_of_ble_eq_true rfl, Nat.le_of_ble_eq_true rfl⟩) [] rfl rfl hl.1 (Nat.le_of_ble_eq_true rfl) dX6_shoot_18 rfl ⟨Nat.le_of_ble_eq_true rfl, Nat.le_of_ble_eq_true rfl⟩
set_option maxHeartbeats 4000000 in
set_option maxRecDepth 100000 in
theorem c_X6_undo (l : Launch) (E : EV) {d v0 v1 t u : Nat} {a : Nat → Nat} {g : Nat → Int32} {f : Nat → Nat → Int32} {n : Nat} {m : Int32} {r : Nat → Int32} {B : Nat → Nat → Nat} {G : Nat → Nat → Int32} {K : Nat → Nat → Nat → Int32} (hn : n < 6) : Wr l E yX6_undo cX6_undo 1 (some .int) 7 104 [.ref d] (dW E d v0 v1 t u (nI (n + 1)) (m) r a g f ++ tlW E v1 B G K) (dW E d v0 v1 t u (nI n) (m) r a (G n) (K n) ++ tlW E v1 B G K) (some (.int (nI n))) := by
  refine Wr.mk0 (by decide) (Nat.le_of_ble_eq_true rfl) ?_
  intro pP eE sS mM aA bB mt cC F hr hk hE hN ls hl
  have hl : lv_has ls 1 [(0, .ref d)] := hl
  refine V.aload_n F dX6_undo_0 rfl (lv_at hl 0 rfl) ?_
  refine V.getf F hE gX6_19 0 rfl rfl dX6_undo_1 ?_
  refine V.getfi F hE gX6_146 3 rfl rfl dX6_undo_4 (fun z1 e1 => ?_)
  refine V.if_le (tgt := 14) F dX6_undo_7 (by decide) (fun c2 c2' => ?_) (fun c2 c2' => ?_)
  · skip
    subst e1; exact absurd (show nI 0 < nI (n + 1) from (nI_ltI (by omega) (by omega)).mpr (by omega)) c2'
  · skip
    refine V.iconst (v := 1) F dX6_undo_10 (by decide) ?_
    refine V.goto (tgt := 15) F dX6_undo_11 (by decide) ?_
    refine V.rdSn F hE (c_X6_requireState l E (by decide)) (kX6_54 F.2.2.2.2 ⟨Nat.le_of_ble_eq_true rfl, Nat.le_of_ble_eq_true rfl⟩) [] rfl rfl hl.1 (Nat.le_of_ble_eq_true rfl) dX6_undo_15 rfl ?_
    refine V.aload_n F dX6_undo_18 rfl (lv_at hl 0 rfl) ?_
    refine V.getf F hE gX6_19 0 rfl rfl dX6_undo_19 ?_
    refine V.aload_n F dX6_undo_22 rfl (lv_at hl 0 rfl) ?_
    refine V.getf F hE gX6_10 0 rfl rfl dX6_undo_23 ?_
    refine V.undoD F hE hN hn (by rfl) hl.1 (Nat.le_of_ble_eq_true rfl) ⟨Nat.le_of_ble_eq_true rfl, Nat.le_of_ble_eq_true rfl⟩ dX6_undo_26 ?_
    refine V.aload_n F dX6_undo_29 rfl (lv_at hl 0 rfl) ?_
    refine V.getf F hE gX6_19 0 rfl rfl dX6_undo_30 ?_
    refine V.getfi F hE gX6_146 3 rfl rfl dX6_undo_33 (fun z3 e3 => ?_)
    exact V.iretW F hr hk dX6_undo_36 (by subst e1 e3; first | with_reducible rfl | (simp only [c2, c2', oi1, nI_succ, bI, and_true, true_and, and_false, false_and, and_self, or_true, true_or, or_false, false_or, or_self, not_true_eq_false, not_false_eq_true, if_true, if_false, ↓reduceIte] <;> rfl) | rfl | (simp [c2, c2', bI, oi1, nI_succ]; done)) (by subst e1 e3; first | with_reducible rfl | (simp only [c2, c2', oi1, nI_succ, bI, and_true, true_and, and_false, false_and, and_self, or_true, true_or, or_false, false_or, or_self, not_true_eq_false, not_false_eq_true, if_true, if_false, ↓reduceIte] <;> rfl) | rfl | (simp [c2, c2', bI, oi1, nI_succ]; done))
set_option maxHeartbeats 4000000 in
set_option maxRecDepth 100000 in
theorem c_X6_undo_t1 (l : Launch) (E : EV) {d v0 v1 t u : Nat} {a : Nat → Nat} {g : Nat → Int32} {f : Nat → Nat → Int32} {n m : Int32} {r : Nat → Int32} (h1 : ¬ 0 < n) (hst : l.stackTraces = false) : Th l E yX6_undo cX6_undo 1 (some .int) 7 104 [.ref d] (dW E d v0 v1 t u n m r a g f) xS := by
  refine Th.mk0 (by decide) (Nat.le_of_ble_eq_true rfl) ?_
  intro pP eE sS mM aA bB mt cC F hk hx hE ls hl
  have hl : lv_has ls 1 [(0, .ref d)] := hl
  refine V.aload_n F dX6_undo_0 rfl (lv_at hl 0 rfl) ?_
  refine V.getf F hE gX6_19 0 rfl rfl dX6_undo_1 ?_
  refine V.getfi F hE gX6_146 3 rfl rfl dX6_undo_4 (fun z1 e1 => ?_)
  refine V.if_le (tgt := 14) F dX6_undo_7 (by decide) (fun c2 c2' => ?_) (fun c2 c2' => ?_)
  · skip
    refine V.iconst (v := 0) F dX6_undo_14 (by decide) ?_
    exact V.thS F hE hx hk (c_X6_requireState_t l E rfl hst) (kX6_54 F.2.2.2.2 ⟨Nat.le_of_ble_eq_true rfl, Nat.le_of_ble_eq_true rfl⟩) [] rfl rfl hl.1 (Nat.le_of_ble_eq_true rfl) dX6_undo_15 rfl ⟨Nat.le_of_ble_eq_true rfl, Nat.le_of_ble_eq_true rfl⟩
  · skip
    subst e1; exact absurd c2' h1
