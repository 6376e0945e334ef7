set_option maxHeartbeats 4000000 in
set_option maxRecDepth 100000 in
theorem c_X3_keep (l : Launch) (E : EV) {v : Nat → Nat} {fn : Nat → Option Nat} {n : Nat} {b : Nat → Nat} {h : Nat → Int32} {k : Nat → Nat → Int32} {a : Nat → Nat} {g : Nat → Int32} {f : Nat → Nat → Int32} (hi : n < 6) (hq : fn n = some (b 0)) : Wr l E yX3_keep cX3_keep 3 none 3 64 [.ref (v 0), .ref (a 0)] ([(v 0, .inr (3, [.int (nI n), .ref (v 1)])), rq_ E (v 1) 6 fn] ++ (stW E b h k ++ stW E a g f)) ([(v 0, .inr (3, [.int (nI (n + 1)), .ref (v 1)])), rq_ E (v 1) 6 fn] ++ (stW E b g f ++ stW E a g f)) none := by
  refine Wr.mk0 (by decide) (Nat.le_of_ble_eq_true rfl) ?_
  intro pP eE sS mM aA bB mt cC F hr hk hE hN ls hl
  have hl : lv_has ls 3 [(0, .ref (v 0)), (1, .ref (a 0))] := hl
  refine V.aload_n F dX3_keep_0 rfl (lv_at hl 0 rfl) ?_
  refine V.getfi F hE gX3_9 0 rfl rfl dX3_keep_1 (fun z1 e1 => ?_)
  subst e1
  refine V.bipush (v := nI 6) F dX3_keep_4 (by decide) ?_
  refine V.icmp_lt (tgt := 13) F dX3_keep_6 (by decide) (fun c2 c2' => ?_) (fun c2 c2' => ?_)
  · skip
    refine V.aload_n F dX3_keep_13 rfl (lv_at hl 0 rfl) ?_
    refine V.aload_n F dX3_keep_14 rfl (lv_at hl 0 rfl) ?_
    refine V.getfi F hE gX3_9 0 rfl rfl dX3_keep_15 (fun z3 e3 => ?_)
    subst e3
    refine V.rdV (q0 := 0) F hE (c_X3_stateAt l E (i := n) hi hq) (kX3_25 F.2.2.2.2 ⟨Nat.le_of_ble_eq_true rfl, Nat.le_of_ble_eq_true rfl⟩) rfl rfl [0, 1] rfl rfl hl.1 (Nat.le_of_ble_eq_true rfl) dX3_keep_18 rfl ?_
    refine V.astore_n (lv' := [(2, .ref (b 0)), (0, .ref (v 0)), (1, .ref (a 0))]) F dX3_keep_21 rfl hl (by decide) rfl (fun ls hl => ?_)
    refine V.aload_n F dX3_keep_22 rfl (lv_at hl 0 rfl) ?_
    refine V.ifnull F dX3_keep_23 ?_
    refine V.aload_n F dX3_keep_26 rfl (lv_at hl 0 rfl) ?_
    refine V.aload_n F dX3_keep_27 rfl (lv_at hl 2 rfl) ?_
    refine V.wsVn (q0 := 2) (ws' := [(v 0, .inr (3, [.int (nI n), .ref (v 1)])), rq_ E (v 1) 6 fn] ++ (stW E b g f ++ stW E a g f)) F hE hN (pm_eq (by rfl)) (c_X5_copyFrom l E) (kX3_29 F.2.2.2.2 ⟨Nat.le_of_ble_eq_true rfl, Nat.le_of_ble_eq_true rfl⟩) rfl rfl 2 36 (by rfl) (by rfl) rfl hl.1 (Nat.le_of_ble_eq_true rfl) dX3_keep_28 rfl ?_
    refine V.aload_n F dX3_keep_31 rfl (lv_at hl 1 rfl) ?_
    refine V.dup F dX3_keep_32 rfl ?_
    refine V.getfi F hE gX3_9 0 rfl rfl dX3_keep_33 (fun z4 e4 => ?_)
    subst e4
    refine V.iconst (v := nI 1) F dX3_keep_36 (by decide) ?_
    refine V.iadd F dX3_keep_37 (fun z5 e5 => ?_)
    refine V.putf F hE hN (by rfl) pX3_9 rfl rfl 0 rfl (by exact Nat.le_of_ble_eq_true rfl) dX3_keep_38 rfl ?_
    exact V.vretW F hr hk dX3_keep_41 (by subst e5; first | with_reducible rfl | (simp only [c2, c2', oi1n, nI_add, pk_mul, bI, and_true, true_and, and_false, false_and, and_self, or_true, true_or, or_false, false_or, or_self, not_true_eq_false, not_false_eq_true, if_true, if_false, ↓reduceIte] <;> rfl) | rfl | (simp [c2, c2', bI, oi1, nI_succ]; done))
  · skip
    exact absurd ((nI_ltI (by omega) (by omega)).mpr hi) c2
set_option maxHeartbeats 4000000 in
set_option maxRecDepth 100000 in
theorem c_X3_keep_6 (l : Launch) (E : EV) {v : Nat → Nat} {fn : Nat → Option Nat} {b : Nat → Nat} {h : Nat → Int32} {k : Nat → Nat → Int32} {a : Nat → Nat} {g : Nat → Int32} {f : Nat → Nat → Int32} {q1 q2 q3 q4 q5 : Nat} {F1_ F2_ F3_ F4_ F5_ : List Value} (hq0 : fn 0 = some (b 0)) (hq1 : fn 1 = some q1) (hq2 : fn 2 = some q2) (hq3 : fn 3 = some q3) (hq4 : fn 4 = some q4) (hq5 : fn 5 = some q5) : Wr l E yX3_keep cX3_keep 3 none 3 64 [.ref (v 0), .ref (a 0)] ([(v 0, .inr (3, [.int (nI 6), .ref (v 1)])), rq_ E (v 1) 6 fn] ++ (stW E b h k ++ stW E a g f ++ [(q1, .inr (5, F1_)), (q2, .inr (5, F2_)), (q3, .inr (5, F3_)), (q4, .inr (5, F4_)), (q5, .inr (5, F5_))])) ([(v 0, .inr (3, [.int (nI 6), .ref (v 1)])), rq_ E (v 1) 6 (rot6 fn)] ++ (stW E b g f ++ stW E a g f ++ [(q1, .inr (5, F1_)), (q2, .inr (5, F2_)), (q3, .inr (5, F3_)), (q4, .inr (5, F4_)), (q5, .inr (5, F5_))])) none := by
  refine Wr.mk0 (by decide) (Nat.le_of_ble_eq_true rfl) ?_
  intro pP eE sS mM aA bB mt cC F hr hk hE hN ls hl
  have hl : lv_has ls 3 [(0, .ref (v 0)), (1, .ref (a 0))] := hl
  refine V.aload_n F dX3_keep_0 rfl (lv_at hl 0 rfl) ?_
  refine V.getfi F hE gX3_9 0 rfl rfl dX3_keep_1 (fun z1 e1 => ?_)
  subst e1
  refine V.bipush (v := nI 6) F dX3_keep_4 (by decide) ?_
  refine V.icmp_lt (tgt := 13) F dX3_keep_6 (by decide) (fun h _ => absurd h (by decide)) (fun _ _ => ?_)
  refine V.aload_n F dX3_keep_9 rfl (lv_at hl 0 rfl) ?_
  refine V.wrVn (q0 := 0) F hE hN (by rfl) (c_X3_dropOldest l E hq0 hq1 hq2 hq3 hq4 hq5) (kX3_22 F.2.2.2.2 ⟨Nat.le_of_ble_eq_true rfl, Nat.le_of_ble_eq_true rfl⟩) rfl rfl [0, 1, 2, 38, 39, 40, 41, 42] rfl (by decide) rfl rfl rfl hl.1 (by exact Nat.le_of_ble_eq_true rfl) dX3_keep_10 rfl ?_
  refine V.weq (ws' := [(v 0, .inr (3, [.int (nI 5), .ref (v 1)])), rq_ E (v 1) 6 (rot6 fn)] ++ (stW E b h k ++ stW E a g f ++ [(q1, .inr (5, F1_)), (q2, .inr (5, F2_)), (q3, .inr (5, F3_)), (q4, .inr (5, F4_)), (q5, .inr (5, F5_))])) (by first | with_reducible rfl | (simp only [oi1n, nI_add, pk_mul, bI, and_true, true_and, and_false, false_and, and_self, or_true, true_or, or_false, false_or, or_self, not_true_eq_false, not_false_eq_true, if_true, if_false, ↓reduceIte] <;> rfl) | rfl | (simp [bI, oi1, nI_succ]; done)) ?_
  refine V.aload_n F dX3_keep_13 rfl (lv_at hl 0 rfl) ?_
  refine V.aload_n F dX3_keep_14 rfl (lv_at hl 0 rfl) ?_
  refine V.getfi F hE gX3_9 0 rfl rfl dX3_keep_15 (fun z3 e3 => ?_)
  subst e3
  refine V.rdV (q0 := 0) F hE (c_X3_stateAt l E (i := 5) (by omega) (by exact hq0)) (kX3_25 F.2.2.2.2 ⟨Nat.le_of_ble_eq_true rfl, Nat.le_of_ble_eq_true rfl⟩) rfl rfl [0, 1] rfl rfl hl.1 (Nat.le_of_ble_eq_true rfl) dX3_keep_18 rfl ?_
  refine V.astore_n (lv' := [(2, .ref (b 0)), (0, .ref (v 0)), (1, .ref (a 0))]) F dX3_keep_21 rfl hl (by decide) rfl (fun ls hl => ?_)
  refine V.aload_n F dX3_keep_22 rfl (lv_at hl 0 rfl) ?_
  refine V.ifnull F dX3_keep_23 ?_
  refine V.aload_n F dX3_keep_26 rfl (lv_at hl 0 rfl) ?_
  refine V.aload_n F dX3_keep_27 rfl (lv_at hl 2 rfl) ?_
  refine V.wsVn (q0 := 2) (ws' := [(v 0, .inr (3, [.int (nI 5), .ref (v 1)])), rq_ E (v 1) 6 (rot6 fn)] ++ (stW E b g f ++ stW E a g f ++ [(q1, .inr (5, F1_)), (q2, .inr (5, F2_)), (q3, .inr (5, F3_)), (q4, .inr (5, F4_)), (q5, .inr (5, F5_))])) F hE hN (pm_eq (by rfl)) (c_X5_copyFrom l E) (kX3_29 F.2.2.2.2 ⟨Nat.le_of_ble_eq_true rfl, Nat.le_of_ble_eq_true rfl⟩) rfl rfl 2 36 (by rfl) (by rfl) rfl hl.1 (Nat.le_of_ble_eq_true rfl) dX3_keep_28 rfl ?_
  refine V.aload_n F dX3_keep_31 rfl (lv_at hl 1 rfl) ?_
  refine V.dup F dX3_keep_32 rfl ?_
  refine V.getfi F hE gX3_9 0 rfl rfl dX3_keep_33 (fun z4 e4 => ?_)
  subst e4
  refine V.iconst (v := nI 1) F dX3_keep_36 (by decide) ?_
  refine V.iadd F dX3_keep_37 (fun z5 e5 => ?_)
  obtain rfl : z5 = nI 6 := e5.trans (by decide)
  refine V.putf F hE hN (by rfl) pX3_9 rfl rfl 0 rfl (by exact Nat.le_of_ble_eq_true rfl) dX3_keep_38 rfl ?_
  exact V.vretW F hr hk dX3_keep_41 (by first | with_reducible rfl | (simp only [oi1n, nI_add, pk_mul, bI, and_true, true_and, and_false, false_and, and_self, or_true, true_or, or_false, false_or, or_self, not_true_eq_false, not_false_eq_true, if_true, if_false, ↓reduceIte] <;> rfl) | rfl | (simp [bI, oi1, nI_succ]; done))
set_option maxHeartbeats 4000000 in
set_option maxRecDepth 100000 in
theorem c_X3_restoreLatest (l : Launch) (E : EV) {v : Nat → Nat} {fn : Nat → Option Nat} {n : Nat} {b : Nat → Nat} {h : Nat → Int32} {k : Nat → Nat → Int32} {a : Nat → Nat} {g : Nat → Int32} {f : Nat → Nat → Int32} (hi : n < 6) (hq : fn n = some (b 0)) : Wr l E yX3_restoreLatest cX3_restoreLatest 3 none 3 64 [.ref (v 0), .ref (a 0)] ([(v 0, .inr (3, [.int (nI (n + 1)), .ref (v 1)])), rq_ E (v 1) 6 fn] ++ (stW E a g f ++ stW E b h k)) ([(v 0, .inr (3, [.int (nI n), .ref (v 1)])), rq_ E (v 1) 6 fn] ++ (stW E a h k ++ stW E b h k)) none := by
  refine Wr.mk0 (by decide) (Nat.le_of_ble_eq_true rfl) ?_
  intro pP eE sS mM aA bB mt cC F hr hk hE hN ls hl
  have hl : lv_has ls 3 [(0, .ref (v 0)), (1, .ref (a 0))] := hl
  refine V.aload_n F dX3_restoreLatest_0 rfl (lv_at hl 0 rfl) ?_
  refine V.aload_n F dX3_restoreLatest_1 rfl (lv_at hl 0 rfl) ?_
  refine V.getfi F hE gX3_9 0 rfl rfl dX3_restoreLatest_2 (fun z1 e1 => ?_)
  subst e1
  refine V.iconst (v := nI 1) F dX3_restoreLatest_5 (by decide) ?_
  refine V.isub F dX3_restoreLatest_6 (fun z2 e2 => ?_)
  obtain rfl : z2 = nI n := by rw [e2]; exact nI_m1 n
  refine V.rdV (q0 := 0) F hE (c_X3_stateAt l E (i := n) hi hq) (kX3_25 F.2.2.2.2 ⟨Nat.le_of_ble_eq_true rfl, Nat.le_of_ble_eq_true rfl⟩) rfl rfl [0, 1] rfl rfl hl.1 (Nat.le_of_ble_eq_true rfl) dX3_restoreLatest_7 rfl ?_
  refine V.astore_n (lv' := [(2, .ref (b 0)), (0, .ref (v 0)), (1, .ref (a 0))]) F dX3_restoreLatest_10 rfl hl (by decide) rfl (fun ls hl => ?_)
  refine V.aload_n F dX3_restoreLatest_11 rfl (lv_at hl 0 rfl) ?_
  refine V.ifnull F dX3_restoreLatest_12 ?_
  refine V.aload_n F dX3_restoreLatest_15 rfl (lv_at hl 2 rfl) ?_
  refine V.ifnull F dX3_restoreLatest_16 ?_
  refine V.aload_n F dX3_restoreLatest_19 rfl (lv_at hl 2 rfl) ?_
  refine V.aload_n F dX3_restoreLatest_20 rfl (lv_at hl 0 rfl) ?_
  refine V.wsVn (q0 := 2) (ws' := [(v 0, .inr (3, [.int (nI (n + 1)), .ref (v 1)])), rq_ E (v 1) 6 fn] ++ (stW E a h k ++ stW E b h k)) F hE hN (pm_eq (by rfl)) (c_X5_copyFrom l E) (kX3_29 F.2.2.2.2 ⟨Nat.le_of_ble_eq_true rfl, Nat.le_of_ble_eq_true rfl⟩) rfl rfl 2 36 (by rfl) (by rfl) rfl hl.1 (Nat.le_of_ble_eq_true rfl) dX3_restoreLatest_21 rfl ?_
  refine V.aload_n F dX3_restoreLatest_24 rfl (lv_at hl 1 rfl) ?_
  refine V.dup F dX3_restoreLatest_25 rfl ?_
  refine V.getfi F hE gX3_9 0 rfl rfl dX3_restoreLatest_26 (fun z3 e3 => ?_)
  subst e3
  refine V.iconst (v := nI 1) F dX3_restoreLatest_29 (by decide) ?_
  refine V.isub F dX3_restoreLatest_30 (fun z4 e4 => ?_)
  obtain rfl : z4 = nI n := by rw [e4]; exact nI_m1 n
  refine V.putf F hE hN (by rfl) pX3_9 rfl rfl 0 rfl (by exact Nat.le_of_ble_eq_true rfl) dX3_restoreLatest_31 rfl ?_
  exact V.vretW F hr hk dX3_restoreLatest_34 (by first | with_reducible rfl | (simp only [oi1n, nI_add, pk_mul, bI, and_true, true_and, and_false, false_and, and_self, or_true, true_or, or_false, false_or, or_self, not_true_eq_false, not_false_eq_true, if_true, if_false, ↓reduceIte] <;> rfl) | rfl | (simp [bI, oi1, nI_succ]; done))
