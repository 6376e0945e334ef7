set_option maxHeartbeats 4000000 in
set_option maxRecDepth 100000 in
theorem c_X6_requirePerson (l : Launch) (E : EV) {x : Int32} (h : 0 ≤ x ∧ x ≤ 7) : Rd l E yX6_requirePerson cX6_requirePerson 1 none 6 84 [.int x] ([]) none := by
  refine Rd.mk0 (by decide) (Nat.le_of_ble_eq_true rfl) ?_
  intro pP eE sS mM aA bB mt cC F hr hk hE ls hl
  have hl : lv_has ls 1 [(0, .int x)] := hl
  refine V.iload_n F dX6_requirePerson_0 rfl (lv_at hl 0 rfl) ?_
  refine V.iconst (v := 0) F dX6_requirePerson_1 (by decide) ?_
  refine V.bipush (v := 7) F dX6_requirePerson_2 (by decide) ?_
  refine V.rdS F hE (c_X6_isBetween l E) (kX6_34 F.2.2.2.2 ⟨Nat.le_of_ble_eq_true rfl, Nat.le_of_ble_eq_true rfl⟩) [] rfl rfl hl.1 (Nat.le_of_ble_eq_true rfl) dX6_requirePerson_4 rfl ?_
  refine V.topi (fun z1 e1 => ?_)
  refine V.if_neB (tgt := 21) F e1 dX6_requirePerson_7 (by decide) (fun c2 => ?_) (fun c2 => ?_)
  · skip
    exact V.vretR F hr hk dX6_requirePerson_21
  · skip
    exact absurd h c2
set_option maxHeartbeats 4000000 in
set_option maxRecDepth 100000 in
theorem c_X6_requirePerson_t (l : Launch) (E : EV) {x : Int32} (h : ¬ (0 ≤ x ∧ x ≤ 7)) (hst : l.stackTraces = false) : Th l E yX6_requirePerson cX6_requirePerson 1 none 6 84 [.int x] ([]) xI := by
  refine Th.mk0 (by decide) (Nat.le_of_ble_eq_true rfl) ?_
  intro pP eE sS mM aA bB mt cC F hk hx hE ls hl
  have hl : lv_has ls 1 [(0, .int x)] := hl
  refine V.iload_n F dX6_requirePerson_0 rfl (lv_at hl 0 rfl) ?_
  refine V.iconst (v := 0) F dX6_requirePerson_1 (by decide) ?_
  refine V.bipush (v := 7) F dX6_requirePerson_2 (by decide) ?_
  refine V.rdS F hE (c_X6_isBetween l E) (kX6_34 F.2.2.2.2 ⟨Nat.le_of_ble_eq_true rfl, Nat.le_of_ble_eq_true rfl⟩) [] rfl rfl hl.1 (Nat.le_of_ble_eq_true rfl) dX6_requirePerson_4 rfl ?_
  refine V.topi (fun z1 e1 => ?_)
  refine V.if_neB (tgt := 21) F e1 dX6_requirePerson_7 (by decide) (fun c2 => ?_) (fun c2 => ?_)
  · skip
    exact absurd c2 h
  · skip
    exact V.thr F hE hst hx hk thw_xI hE.2.2.2.1.1 dX6_requirePerson_10 dX6_requirePerson_13 dX6_requirePerson_14 dX6_requirePerson_17 dX6_requirePerson_20 hl.1 ⟨Nat.le_of_ble_eq_true rfl, Nat.le_of_ble_eq_true rfl, Nat.le_of_ble_eq_true rfl, Nat.le_of_ble_eq_true rfl⟩
set_option maxHeartbeats 4000000 in
set_option maxRecDepth 100000 in
theorem c_X6_requireKind (l : Launch) (E : EV) {x : Int32} (h : 0 ≤ x ∧ x ≤ 5) : Rd l E yX6_requireKind cX6_requireKind 1 none 6 84 [.int x] ([]) none := by
  refine Rd.mk0 (by decide) (Nat.le_of_ble_eq_true rfl) ?_
  intro pP eE sS mM aA bB mt cC F hr hk hE ls hl
  have hl : lv_has ls 1 [(0, .int x)] := hl
  refine V.iload_n F dX6_requireKind_0 rfl (lv_at hl 0 rfl) ?_
  refine V.iconst (v := 0) F dX6_requireKind_1 (by decide) ?_
  refine V.iconst (v := 5) F dX6_requireKind_2 (by decide) ?_
  refine V.rdS F hE (c_X6_isBetween l E) (kX6_34 F.2.2.2.2 ⟨Nat.le_of_ble_eq_true rfl, Nat.le_of_ble_eq_true rfl⟩) [] rfl rfl hl.1 (Nat.le_of_ble_eq_true rfl) dX6_requireKind_3 rfl ?_
  refine V.topi (fun z1 e1 => ?_)
  refine V.if_neB (tgt := 20) F e1 dX6_requireKind_6 (by decide) (fun c2 => ?_) (fun c2 => ?_)
  · skip
    exact V.vretR F hr hk dX6_requireKind_20
  · skip
    exact absurd h c2
set_option maxHeartbeats 4000000 in
set_option maxRecDepth 100000 in
theorem c_X6_requireKind_t (l : Launch) (E : EV) {x : Int32} (h : ¬ (0 ≤ x ∧ x ≤ 5)) (hst : l.stackTraces = false) : Th l E yX6_requireKind cX6_requireKind 1 none 6 84 [.int x] ([]) xI := by
  refine Th.mk0 (by decide) (Nat.le_of_ble_eq_true rfl) ?_
  intro pP eE sS mM aA bB mt cC F hk hx hE ls hl
  have hl : lv_has ls 1 [(0, .int x)] := hl
  refine V.iload_n F dX6_requireKind_0 rfl (lv_at hl 0 rfl) ?_
  refine V.iconst (v := 0) F dX6_requireKind_1 (by decide) ?_
  refine V.iconst (v := 5) F dX6_requireKind_2 (by decide) ?_
  refine V.rdS F hE (c_X6_isBetween l E) (kX6_34 F.2.2.2.2 ⟨Nat.le_of_ble_eq_true rfl, Nat.le_of_ble_eq_true rfl⟩) [] rfl rfl hl.1 (Nat.le_of_ble_eq_true rfl) dX6_requireKind_3 rfl ?_
  refine V.topi (fun z1 e1 => ?_)
  refine V.if_neB (tgt := 20) F e1 dX6_requireKind_6 (by decide) (fun c2 => ?_) (fun c2 => ?_)
  · skip
    exact absurd c2 h
  · skip
    exact V.thr F hE hst hx hk thw_xI hE.2.2.2.1.2.1 dX6_requireKind_9 dX6_requireKind_12 dX6_requireKind_13 dX6_requireKind_16 dX6_requireKind_19 hl.1 ⟨Nat.le_of_ble_eq_true rfl, Nat.le_of_ble_eq_true rfl, Nat.le_of_ble_eq_true rfl, Nat.le_of_ble_eq_true rfl⟩
set_option maxHeartbeats 4000000 in
set_option maxRecDepth 100000 in
theorem c_X6_requireArgument (l : Launch) (E : EV) {z : Int32} (h : ¬ z = 0) : Rd l E yX6_requireArgument cX6_requireArgument 1 none 6 84 [.int z] ([]) none := by
  refine Rd.mk0 (by decide) (Nat.le_of_ble_eq_true rfl) ?_
  intro pP eE sS mM aA bB mt cC F hr hk hE ls hl
  have hl : lv_has ls 1 [(0, .int z)] := hl
  refine V.iload_n F dX6_requireArgument_0 rfl (lv_at hl 0 rfl) ?_
  refine V.if_ne (tgt := 15) F dX6_requireArgument_1 (by decide) (fun c1 => ?_) (fun c1 => ?_)
  · skip
    exact V.vretR F hr hk dX6_requireArgument_15
  · skip
    exact absurd c1 h
set_option maxHeartbeats 4000000 in
set_option maxRecDepth 100000 in
theorem c_X6_requireArgument_t (l : Launch) (E : EV) {z : Int32} (h : z = 0) (hst : l.stackTraces = false) : Th l E yX6_requireArgument cX6_requireArgument 1 none 6 84 [.int z] ([]) xA := by
  refine Th.mk0 (by decide) (Nat.le_of_ble_eq_true rfl) ?_
  intro pP eE sS mM aA bB mt cC F hk hx hE ls hl
  have hl : lv_has ls 1 [(0, .int z)] := hl
  refine V.iload_n F dX6_requireArgument_0 rfl (lv_at hl 0 rfl) ?_
  refine V.if_ne (tgt := 15) F dX6_requireArgument_1 (by decide) (fun c1 => ?_) (fun c1 => ?_)
  · skip
    exact absurd h c1
  · skip
    exact V.thr F hE hst hx hk thw_xA hE.2.2.2.1.2.2.2.1 dX6_requireArgument_4 dX6_requireArgument_7 dX6_requireArgument_8 dX6_requireArgument_11 dX6_requireArgument_14 hl.1 ⟨Nat.le_of_ble_eq_true rfl, Nat.le_of_ble_eq_true rfl, Nat.le_of_ble_eq_true rfl, Nat.le_of_ble_eq_true rfl⟩
set_option maxHeartbeats 4000000 in
set_option maxRecDepth 100000 in
theorem c_X6_requireState (l : Launch) (E : EV) {z : Int32} (h : ¬ z = 0) : Rd l E yX6_requireState cX6_requireState 1 none 6 84 [.int z] ([]) none := by
  refine Rd.mk0 (by decide) (Nat.le_of_ble_eq_true rfl) ?_
  intro pP eE sS mM aA bB mt cC F hr hk hE ls hl
  have hl : lv_has ls 1 [(0, .int z)] := hl
  refine V.iload_n F dX6_requireState_0 rfl (lv_at hl 0 rfl) ?_
  refine V.if_ne (tgt := 15) F dX6_requireState_1 (by decide) (fun c1 => ?_) (fun c1 => ?_)
  · skip
    exact V.vretR F hr hk dX6_requireState_15
  · skip
    exact absurd c1 h
set_option maxHeartbeats 4000000 in
set_option maxRecDepth 100000 in
theorem c_X6_requireState_t (l : Launch) (E : EV) {z : Int32} (h : z = 0) (hst : l.stackTraces = false) : Th l E yX6_requireState cX6_requireState 1 none 6 84 [.int z] ([]) xS := by
  refine Th.mk0 (by decide) (Nat.le_of_ble_eq_true rfl) ?_
  intro pP eE sS mM aA bB mt cC F hk hx hE ls hl
  have hl : lv_has ls 1 [(0, .int z)] := hl
  refine V.iload_n F dX6_requireState_0 rfl (lv_at hl 0 rfl) ?_
  refine V.if_ne (tgt := 15) F dX6_requireState_1 (by decide) (fun c1 => ?_) (fun c1 => ?_)
  · skip
    exact absurd h c1
  · skip
    exact V.thr F hE hst hx hk thw_xS hE.2.2.2.1.2.2.2.2 dX6_requireState_4 dX6_requireState_7 dX6_requireState_8 dX6_requireState_11 dX6_requireState_14 hl.1 ⟨Nat.le_of_ble_eq_true rfl, Nat.le_of_ble_eq_true rfl, Nat.le_of_ble_eq_true rfl, Nat.le_of_ble_eq_true rfl⟩
set_option maxHeartbeats 4000000 in
set_option maxRecDepth 100000 in
theorem c_X6_requireScene (l : Launch) (E : EV) {d v0 v1 t u : Nat} {a : Nat → Nat} {g : Nat → Int32} {f : Nat → Nat → Int32} {n m : Int32} {r : Nat → Int32} {x : Int32} (h : 0 ≤ x ∧ x < g 8) : Rd l E yX6_requireScene cX6_requireScene 2 none 6 84 [.ref d, .int x] (dW E d v0 v1 t u n m r a g f) none := by
  refine Rd.mk0 (by decide) (Nat.le_of_ble_eq_true rfl) ?_
  intro pP eE sS mM aA bB mt cC F hr hk hE ls hl
  have hl : lv_has ls 2 [(0, .ref d), (1, .int x)] := hl
  refine V.aload_n F dX6_requireScene_0 rfl (lv_at hl 0 rfl) ?_
  refine V.getf F hE gX6_10 0 rfl rfl dX6_requireScene_1 ?_
  refine V.getf F hE gX6_98 4 rfl rfl dX6_requireScene_4 ?_
  refine V.iload_n F dX6_requireScene_7 rfl (lv_at hl 1 rfl) ?_
  refine V.rdV (q0 := 16) F hE (c_X4_has l E) (kX6_268 F.2.2.2.2 ⟨Nat.le_of_ble_eq_true rfl, Nat.le_of_ble_eq_true rfl⟩) rfl rfl [16, 17, 18, 19, 20, 21] rfl rfl hl.1 (Nat.le_of_ble_eq_true rfl) dX6_requireScene_8 rfl ?_
  refine V.topi (fun z1 e1 => ?_)
  refine V.if_neB (tgt := 25) F e1 dX6_requireScene_11 (by decide) (fun c2 => ?_) (fun c2 => ?_)
  · skip
    exact V.vretR F hr hk dX6_requireScene_25
  · skip
    exact absurd h c2
set_option maxHeartbeats 4000000 in
set_option maxRecDepth 100000 in
theorem c_X6_requireScene_t (l : Launch) (E : EV) {d v0 v1 t u : Nat} {a : Nat → Nat} {g : Nat → Int32} {f : Nat → Nat → Int32} {n m : Int32} {r : Nat → Int32} {x : Int32} (h : ¬ (0 ≤ x ∧ x < g 8)) (hst : l.stackTraces = false) : Th l E yX6_requireScene cX6_requireScene 2 none 6 84 [.ref d, .int x] (dW E d v0 v1 t u n m r a g f) xI := by
  refine Th.mk0 (by decide) (Nat.le_of_ble_eq_true rfl) ?_
  intro pP eE sS mM aA bB mt cC F hk hx hE ls hl
  have hl : lv_has ls 2 [(0, .ref d), (1, .int x)] := hl
  refine V.aload_n F dX6_requireScene_0 rfl (lv_at hl 0 rfl) ?_
  refine V.getf F hE gX6_10 0 rfl rfl dX6_requireScene_1 ?_
  refine V.getf F hE gX6_98 4 rfl rfl dX6_requireScene_4 ?_
  refine V.iload_n F dX6_requireScene_7 rfl (lv_at hl 1 rfl) ?_
  refine V.rdV (q0 := 16) F hE (c_X4_has l E) (kX6_268 F.2.2.2.2 ⟨Nat.le_of_ble_eq_true rfl, Nat.le_of_ble_eq_true rfl⟩) rfl rfl [16, 17, 18, 19, 20, 21] rfl rfl hl.1 (Nat.le_of_ble_eq_true rfl) dX6_requireScene_8 rfl ?_
  refine V.topi (fun z1 e1 => ?_)
  refine V.if_neB (tgt := 25) F e1 dX6_requireScene_11 (by decide) (fun c2 => ?_) (fun c2 => ?_)
  · skip
    exact absurd c2 h
  · skip
    exact V.thr F hE hst hx hk thw_xI hE.2.2.2.1.2.2.1 dX6_requireScene_14 dX6_requireScene_17 dX6_requireScene_18 dX6_requireScene_21 dX6_requireScene_24 hl.1 ⟨Nat.le_of_ble_eq_true rfl, Nat.le_of_ble_eq_true rfl, Nat.le_of_ble_eq_true rfl, Nat.le_of_ble_eq_true rfl⟩
