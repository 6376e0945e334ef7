set_option maxHeartbeats 4000000 in
set_option maxRecDepth 100000 in
theorem c_X5_copyFrom (l : Launch) (E : EV) {a : Nat → Nat} {g : Nat → Int32} {f : Nat → Nat → Int32} {b : Nat → Nat} {h : Nat → Int32} {k : Nat → Nat → Int32} : Wr l E yX5_copyFrom cX5_copyFrom 2 none 2 43 [.ref (a 0), .ref (b 0)] (stW E a g f ++ stW E b h k) (stW E a h k ++ stW E b h k) none := by
  refine Wr.mk0 (by decide) (Nat.le_of_ble_eq_true rfl) ?_
  intro pP eE sS mM aA bB mt cC F hr hk hE hN ls hl
  have hl : lv_has ls 2 [(0, .ref (a 0)), (1, .ref (b 0))] := hl
  refine V.aload_n F dX5_copyFrom_0 rfl (lv_at hl 1 rfl) ?_
  refine V.ifnonnull (tgt := 5) F dX5_copyFrom_1 (by decide) ?_
  refine V.aload_n F dX5_copyFrom_5 rfl (lv_at hl 0 rfl) ?_
  refine V.aload_n F dX5_copyFrom_6 rfl (lv_at hl 1 rfl) ?_
  refine V.getfi F hE gX5_9 18 rfl rfl dX5_copyFrom_7 (fun z1 e1 => ?_)
  refine V.putf F hE hN (by rfl) pX5_9 rfl rfl 0 rfl (by exact Nat.le_of_ble_eq_true rfl) dX5_copyFrom_10 rfl ?_
  refine V.weq (ws' := stW E a (va_up g 0 (h 0)) f ++ stW E b h k) (by subst e1; first | with_reducible rfl | (simp only [oi1, nI_succ, bI, and_true, true_and, and_false, false_and, and_self, or_true, true_or, or_false, false_or, or_self, not_true_eq_false, not_false_eq_true, if_true, if_false, ↓reduceIte] <;> rfl) | rfl | (simp [bI, oi1, nI_succ]; done)) ?_
  refine V.aload_n F dX5_copyFrom_13 rfl (lv_at hl 0 rfl) ?_
  refine V.aload_n F dX5_copyFrom_14 rfl (lv_at hl 1 rfl) ?_
  refine V.getfi F hE gX5_15 18 rfl rfl dX5_copyFrom_15 (fun z2 e2 => ?_)
  refine V.putf F hE hN (by rfl) pX5_15 rfl rfl 0 rfl (by exact Nat.le_of_ble_eq_true rfl) dX5_copyFrom_18 rfl ?_
  refine V.weq (ws' := stW E a (va_up (va_up g 0 (h 0)) 1 (h 1)) f ++ stW E b h k) (by subst e1 e2; first | with_reducible rfl | (simp only [oi1, nI_succ, bI, and_true, true_and, and_false, false_and, and_self, or_true, true_or, or_false, false_or, or_self, not_true_eq_false, not_false_eq_true, if_true, if_false, ↓reduceIte] <;> rfl) | rfl | (simp [bI, oi1, nI_succ]; done)) ?_
  refine V.aload_n F dX5_copyFrom_21 rfl (lv_at hl 0 rfl) ?_
  refine V.aload_n F dX5_copyFrom_22 rfl (lv_at hl 1 rfl) ?_
  refine V.getfi F hE gX5_18 18 rfl rfl dX5_copyFrom_23 (fun z3 e3 => ?_)
  refine V.putf F hE hN (by rfl) pX5_18 rfl rfl 0 rfl (by exact Nat.le_of_ble_eq_true rfl) dX5_copyFrom_26 rfl ?_
  refine V.weq (ws' := stW E a (va_up (va_up (va_up g 0 (h 0)) 1 (h 1)) 2 (h 2)) f ++ stW E b h k) (by subst e1 e2 e3; first | with_reducible rfl | (simp only [oi1, nI_succ, bI, and_true, true_and, and_false, false_and, and_self, or_true, true_or, or_false, false_or, or_self, not_true_eq_false, not_false_eq_true, if_true, if_false, ↓reduceIte] <;> rfl) | rfl | (simp [bI, oi1, nI_succ]; done)) ?_
  refine V.aload_n F dX5_copyFrom_29 rfl (lv_at hl 0 rfl) ?_
  refine V.aload_n F dX5_copyFrom_30 rfl (lv_at hl 1 rfl) ?_
  refine V.getfi F hE gX5_21 18 rfl rfl dX5_copyFrom_31 (fun z4 e4 => ?_)
  refine V.putf F hE hN (by rfl) pX5_21 rfl rfl 0 rfl (by exact Nat.le_of_ble_eq_true rfl) dX5_copyFrom_34 rfl ?_
  refine V.weq (ws' := stW E a (va_up (va_up (va_up (va_up g 0 (h 0)) 1 (h 1)) 2 (h 2)) 3 (h 3)) f ++ stW E b h k) (by subst e1 e2 e3 e4; first | with_reducible rfl | (simp only [oi1, nI_succ, bI, and_true, true_and, and_false, false_and, and_self, or_true, true_or, or_false, false_or, or_self, not_true_eq_false, not_false_eq_true, if_true, if_false, ↓reduceIte] <;> rfl) | rfl | (simp [bI, oi1, nI_succ]; done)) ?_
  refine V.aload_n F dX5_copyFrom_37 rfl (lv_at hl 0 rfl) ?_
  refine V.aload_n F dX5_copyFrom_38 rfl (lv_at hl 1 rfl) ?_
  refine V.getfi F hE gX5_24 18 rfl rfl dX5_copyFrom_39 (fun z5 e5 => ?_)
  refine V.putf F hE hN (by rfl) pX5_24 rfl rfl 0 rfl (by exact Nat.le_of_ble_eq_true rfl) dX5_copyFrom_42 rfl ?_
  refine V.weq (ws' := stW E a (va_up (va_up (va_up (va_up (va_up g 0 (h 0)) 1 (h 1)) 2 (h 2)) 3 (h 3)) 4 (h 4)) f ++ stW E b h k) (by subst e1 e2 e3 e4 e5; first | with_reducible rfl | (simp only [oi1, nI_succ, bI, and_true, true_and, and_false, false_and, and_self, or_true, true_or, or_false, false_or, or_self, not_true_eq_false, not_false_eq_true, if_true, if_false, ↓reduceIte] <;> rfl) | rfl | (simp [bI, oi1, nI_succ]; done)) ?_
  refine V.aload_n F dX5_copyFrom_45 rfl (lv_at hl 0 rfl) ?_
  refine V.aload_n F dX5_copyFrom_46 rfl (lv_at hl 1 rfl) ?_
  refine V.getfi F hE gX5_27 18 rfl rfl dX5_copyFrom_47 (fun z6 e6 => ?_)
  refine V.putf F hE hN (by rfl) pX5_27 rfl rfl 0 rfl (by exact Nat.le_of_ble_eq_true rfl) dX5_copyFrom_50 rfl ?_
  refine V.weq (ws' := stW E a (va_up (va_up (va_up (va_up (va_up (va_up g 0 (h 0)) 1 (h 1)) 2 (h 2)) 3 (h 3)) 4 (h 4)) 5 (h 5)) f ++ stW E b h k) (by subst e1 e2 e3 e4 e5 e6; first | with_reducible rfl | (simp only [oi1, nI_succ, bI, and_true, true_and, and_false, false_and, and_self, or_true, true_or, or_false, false_or, or_self, not_true_eq_false, not_false_eq_true, if_true, if_false, ↓reduceIte] <;> rfl) | rfl | (simp [bI, oi1, nI_succ]; done)) ?_
  refine V.aload_n F dX5_copyFrom_53 rfl (lv_at hl 1 rfl) ?_
  refine V.getf F hE gX5_30 18 rfl rfl dX5_copyFrom_54 ?_
  refine V.aload_n F dX5_copyFrom_57 rfl (lv_at hl 0 rfl) ?_
  refine V.getf F hE gX5_30 0 rfl rfl dX5_copyFrom_58 ?_
  refine V.wrSNn F hE hN (by rfl) (c_X6_copyRow l E (by first | assumption | omega)) (kX5_58 F.2.2.2.2 hE.2.1 ⟨Nat.le_of_ble_eq_true rfl, Nat.le_of_ble_eq_true rfl⟩) [19, 1] rfl (by decide) rfl rfl rfl hl.1 (by exact Nat.le_of_ble_eq_true rfl) dX5_copyFrom_61 rfl ?_
  refine V.weq (ws' := stW E a (va_up (va_up (va_up (va_up (va_up (va_up g 0 (h 0)) 1 (h 1)) 2 (h 2)) 3 (h 3)) 4 (h 4)) 5 (h 5)) (va_up f 0 (k 0)) ++ stW E b h k) (by subst e1 e2 e3 e4 e5 e6; first | with_reducible rfl | (simp only [oi1, nI_succ, bI, and_true, true_and, and_false, false_and, and_self, or_true, true_or, or_false, false_or, or_self, not_true_eq_false, not_false_eq_true, if_true, if_false, ↓reduceIte] <;> rfl) | rfl | (simp [bI, oi1, nI_succ]; done)) ?_
  refine V.aload_n F dX5_copyFrom_64 rfl (lv_at hl 1 rfl) ?_
  refine V.getf F hE gX5_34 18 rfl rfl dX5_copyFrom_65 ?_
  refine V.aload_n F dX5_copyFrom_68 rfl (lv_at hl 0 rfl) ?_
  refine V.getf F hE gX5_34 0 rfl rfl dX5_copyFrom_69 ?_
  refine V.wrSNn F hE hN (by rfl) (c_X6_copyRow l E (by first | assumption | omega)) (kX5_58 F.2.2.2.2 hE.2.1 ⟨Nat.le_of_ble_eq_true rfl, Nat.le_of_ble_eq_true rfl⟩) [20, 2] rfl (by decide) rfl rfl rfl hl.1 (by exact Nat.le_of_ble_eq_true rfl) dX5_copyFrom_72 rfl ?_
  refine V.weq (ws' := stW E a (va_up (va_up (va_up (va_up (va_up (va_up g 0 (h 0)) 1 (h 1)) 2 (h 2)) 3 (h 3)) 4 (h 4)) 5 (h 5)) (va_up (va_up f 0 (k 0)) 1 (k 1)) ++ stW E b h k) (by subst e1 e2 e3 e4 e5 e6; first | with_reducible rfl | (simp only [oi1, nI_succ, bI, and_true, true_and, and_false, false_and, and_self, or_true, true_or, or_false, false_or, or_self, not_true_eq_false, not_false_eq_true, if_true, if_false, ↓reduceIte] <;> rfl) | rfl | (simp [bI, oi1, nI_succ]; done)) ?_
  refine V.aload_n F dX5_copyFrom_75 rfl (lv_at hl 0 rfl) ?_
  refine V.getf F hE gX5_40 0 rfl rfl dX5_copyFrom_76 ?_
  refine V.aload_n F dX5_copyFrom_79 rfl (lv_at hl 1 rfl) ?_
  refine V.getf F hE gX5_40 18 rfl rfl dX5_copyFrom_80 ?_
  refine V.wrVn (q0 := 3) F hE hN (by rfl) (c_X2_copyFrom l E) (kX5_62 F.2.2.2.2 ⟨Nat.le_of_ble_eq_true rfl, Nat.le_of_ble_eq_true rfl⟩) rfl rfl [3, 4, 5, 6, 7, 21, 22, 23, 24, 25] rfl (by decide) rfl rfl rfl hl.1 (by exact Nat.le_of_ble_eq_true rfl) dX5_copyFrom_83 rfl ?_
  refine V.weq (ws' := stW E a (va_up (va_up (va_up (va_up (va_up (va_up (va_up g 0 (h 0)) 1 (h 1)) 2 (h 2)) 3 (h 3)) 4 (h 4)) 5 (h 5)) 6 (h 6)) (va_up (va_up (va_up (va_up (va_up (va_up f 0 (k 0)) 1 (k 1)) 2 (k 2)) 3 (k 3)) 4 (k 4)) 5 (k 5)) ++ stW E b h k) (by subst e1 e2 e3 e4 e5 e6; first | with_reducible rfl | (simp only [oi1, nI_succ, bI, and_true, true_and, and_false, false_and, and_self, or_true, true_or, or_false, false_or, or_self, not_true_eq_false, not_false_eq_true, if_true, if_false, ↓reduceIte] <;> rfl) | rfl | (simp [bI, oi1, nI_succ]; done)) ?_
  refine V.aload_n F dX5_copyFrom_86 rfl (lv_at hl 0 rfl) ?_
  refine V.getf F hE gX5_47 0 rfl rfl dX5_copyFrom_87 ?_
  refine V.aload_n F dX5_copyFrom_90 rfl (lv_at hl 1 rfl) ?_
  refine V.getf F hE gX5_47 18 rfl rfl dX5_copyFrom_91 ?_
  refine V.wrVn (q0 := 8) F hE hN (by rfl) (c_X0_copyFrom l E) (kX5_66 F.2.2.2.2 ⟨Nat.le_of_ble_eq_true rfl, Nat.le_of_ble_eq_true rfl⟩) rfl rfl [8, 9, 10, 11, 26, 27, 28, 29] rfl (by decide) rfl rfl rfl hl.1 (by exact Nat.le_of_ble_eq_true rfl) dX5_copyFrom_94 rfl ?_
  refine V.weq (ws' := stW E a (va_up (va_up (va_up (va_up (va_up (va_up (va_up (va_up g 0 (h 0)) 1 (h 1)) 2 (h 2)) 3 (h 3)) 4 (h 4)) 5 (h 5)) 6 (h 6)) 7 (h 7)) (va_up (va_up (va_up (va_up (va_up (va_up (va_up (va_up (va_up f 0 (k 0)) 1 (k 1)) 2 (k 2)) 3 (k 3)) 4 (k 4)) 5 (k 5)) 6 (k 6)) 7 (k 7)) 8 (k 8)) ++ stW E b h k) (by subst e1 e2 e3 e4 e5 e6; first | with_reducible rfl | (simp only [oi1, nI_succ, bI, and_true, true_and, and_false, false_and, and_self, or_true, true_or, or_false, false_or, or_self, not_true_eq_false, not_false_eq_true, if_true, if_false, ↓reduceIte] <;> rfl) | rfl | (simp [bI, oi1, nI_succ]; done)) ?_
  refine V.aload_n F dX5_copyFrom_97 rfl (lv_at hl 0 rfl) ?_
  refine V.getf F hE gX5_54 0 rfl rfl dX5_copyFrom_98 ?_
  refine V.aload_n F dX5_copyFrom_101 rfl (lv_at hl 1 rfl) ?_
  refine V.getf F hE gX5_54 18 rfl rfl dX5_copyFrom_102 ?_
  refine V.wrVn (q0 := 12) F hE hN (by rfl) (c_X4_copyFrom l E) (kX5_69 F.2.2.2.2 ⟨Nat.le_of_ble_eq_true rfl, Nat.le_of_ble_eq_true rfl⟩) rfl rfl [12, 13, 14, 15, 16, 17, 30, 31, 32, 33, 34, 35] rfl (by decide) rfl rfl rfl hl.1 (by exact Nat.le_of_ble_eq_true rfl) dX5_copyFrom_105 rfl ?_
  refine V.weq (ws' := stW E a (va_up (va_up (va_up (va_up (va_up (va_up (va_up (va_up (va_up g 0 (h 0)) 1 (h 1)) 2 (h 2)) 3 (h 3)) 4 (h 4)) 5 (h 5)) 6 (h 6)) 7 (h 7)) 8 (h 8)) (va_up (va_up (va_up (va_up (va_up (va_up (va_up (va_up (va_up (va_up (va_up (va_up (va_up (va_up f 0 (k 0)) 1 (k 1)) 2 (k 2)) 3 (k 3)) 4 (k 4)) 5 (k 5)) 6 (k 6)) 7 (k 7)) 8 (k 8)) 9 (k 9)) 10 (k 10)) 11 (k 11)) 12 (k 12)) 13 (k 13)) ++ stW E b h k) (by subst e1 e2 e3 e4 e5 e6; first | with_reducible rfl | (simp only [oi1, nI_succ, bI, and_true, true_and, and_false, false_and, and_self, or_true, true_or, or_false, false_or, or_self, not_true_eq_false, not_false_eq_true, if_true, if_false, ↓reduceIte] <;> rfl) | rfl | (simp [bI, oi1, nI_succ]; done)) ?_
  exact V.vretW F hr hk dX5_copyFrom_108 (by subst e1 e2 e3 e4 e5 e6; first | with_reducible rfl | (simp only [oi1, nI_succ, bI, and_true, true_and, and_false, false_and, and_self, or_true, true_or, or_false, false_or, or_self, not_true_eq_false, not_false_eq_true, if_true, if_false, ↓reduceIte] <;> rfl) | rfl | (simp [bI, oi1, nI_succ]; done))
set_option maxHeartbeats 4000000 in
set_option maxRecDepth 100000 in
theorem c_X3_stateAt (l : Launch) (E : EV) {v : Nat → Nat} {n : Int32} {fn : Nat → Option Nat} {i q : Nat} (hi : i < 6) (hq : fn i = some q) : Rd l E yX3_stateAt cX3_stateAt 2 (some (.object "StuntDesk$State")) 0 0 [.ref (v 0), .int (nI i)] ([(v 0, .inr (3, [.int n, .ref (v 1)])), rq_ E (v 1) 6 fn]) (some (.ref q)) := by
  refine Rd.mk0 (by decide) (Nat.le_of_ble_eq_true rfl) ?_
  intro pP eE sS mM aA bB mt cC F hr hk hE ls hl
  have hl : lv_has ls 2 [(0, .ref (v 0)), (1, .int (nI i))] := hl
  refine V.iload_n F dX3_stateAt_0 rfl (lv_at hl 1 rfl) ?_
  refine V.if_lt (tgt := 22) F dX3_stateAt_1 (by decide) (fun c1 c1' => ?_) (fun c1 c1' => ?_)
  · skip
    exact absurd c1 (nI_pos (by omega))
  · skip
    refine V.iload_n F dX3_stateAt_4 rfl (lv_at hl 1 rfl) ?_
    refine V.aload_n F dX3_stateAt_5 rfl (lv_at hl 0 rfl) ?_
    refine V.getf F hE gX3_17 0 rfl rfl dX3_stateAt_6 ?_
    refine V.alenq F hE 1 rfl dX3_stateAt_9 (fun z2 e2 => ?_)
    subst e2
    refine V.icmp_ge (tgt := 22) F dX3_stateAt_10 (by decide) (fun c3 c3' => ?_) (fun c3 c3' => ?_)
    · skip
      exact absurd c3 (nI_lt6 hi)
    · skip
      refine V.aload_n F dX3_stateAt_13 rfl (lv_at hl 0 rfl) ?_
      refine V.getf F hE gX3_17 0 rfl rfl dX3_stateAt_14 ?_
      refine V.iload_n F dX3_stateAt_17 rfl (lv_at hl 1 rfl) ?_
      refine V.aald F hE 1 rfl (vp_in_nI (by omega) (by omega)) (by rw [nI_clamp (by omega)]; exact hq) dX3_stateAt_18 ?_
      refine V.goto (tgt := 23) F dX3_stateAt_19 (by decide) ?_
      exact V.aretR F hr hk dX3_stateAt_23
set_option maxHeartbeats 4000000 in
set_option maxRecDepth 100000 in
theorem c_X3_dropOldest (l : Launch) (E : EV) {v : Nat → Nat} {fn : Nat → Option Nat} {q0 q1 q2 q3 q4 q5 : Nat} {F0_ F1_ F2_ F3_ F4_ F5_ : List Value} (hq0 : fn 0 = some q0) (hq1 : fn 1 = some q1) (hq2 : fn 2 = some q2) (hq3 : fn 3 = some q3) (hq4 : fn 4 = some q4) (hq5 : fn 5 = some q5) : Wr l E yX3_dropOldest cX3_dropOldest 3 none 1 21 [.ref (v 0)] ([(v 0, .inr (3, [.int (nI 6), .ref (v 1)])), rq_ E (v 1) 6 fn, (q0, .inr (5, F0_)), (q1, .inr (5, F1_)), (q2, .inr (5, F2_)), (q3, .inr (5, F3_)), (q4, .inr (5, F4_)), (q5, .inr (5, F5_))]) ([(v 0, .inr (3, [.int (nI 5), .ref (v 1)])), rq_ E (v 1) 6 (rot6 fn), (q0, .inr (5, F0_)), (q1, .inr (5, F1_)), (q2, .inr (5, F2_)), (q3, .inr (5, F3_)), (q4, .inr (5, F4_)), (q5, .inr (5, F5_))]) none := by
  refine Wr.mk0 (by decide) (Nat.le_of_ble_eq_true rfl) ?_
  intro pP eE sS mM aA bB mt cC F hr hk hE hN ls hl
  have hl : lv_has ls 3 [(0, .ref (v 0))] := hl
  refine V.aload_n F dX3_dropOldest_0 rfl (lv_at hl 0 rfl) ?_
  refine V.iconst (v := nI 0) F dX3_dropOldest_1 (by decide) ?_
  refine V.rdV (q0 := 0) F hE (c_X3_stateAt l E (i := 0) (by omega) hq0) (kX3_25 F.2.2.2.2 ⟨Nat.le_of_ble_eq_true rfl, Nat.le_of_ble_eq_true rfl⟩) rfl rfl [0, 1] rfl rfl hl.1 (Nat.le_of_ble_eq_true rfl) dX3_dropOldest_2 rfl ?_
  refine V.astore_n (lv' := [(1, .ref q0), (0, .ref (v 0))]) F dX3_dropOldest_5 rfl hl (by decide) rfl (fun ls hl => ?_)
  refine V.iconst (v := nI 0) F dX3_dropOldest_6 (by decide) ?_
  refine V.istore_n (lv' := [(2, .int (nI 0)), (1, .ref q0), (0, .ref (v 0))]) F dX3_dropOldest_7 rfl hl (by decide) rfl (fun ls hl => ?_)
  refine V.iload_n F dX3_dropOldest_8 rfl (lv_at hl 0 rfl) ?_
  refine V.iconst (v := nI 1) F dX3_dropOldest_9 (by decide) ?_
  refine V.iadd F dX3_dropOldest_10 (fun z1 e1 => ?_)
  obtain rfl : z1 = nI 1 := e1.trans (by decide)
  refine V.aload_n F dX3_dropOldest_11 rfl (lv_at hl 2 rfl) ?_
  refine V.getf F hE gX3_17 0 rfl rfl dX3_dropOldest_12 ?_
  refine V.alenq F hE 1 rfl dX3_dropOldest_15 (fun z2 e2 => ?_)
  subst e2
  refine V.icmp_ge (tgt := 39) F dX3_dropOldest_16 (by decide) (fun h _ => absurd h (by decide)) (fun _ _ => ?_)
  refine V.aload_n F dX3_dropOldest_19 rfl (lv_at hl 2 rfl) ?_
  refine V.getf F hE gX3_17 0 rfl rfl dX3_dropOldest_20 ?_
  refine V.iload_n F dX3_dropOldest_23 rfl (lv_at hl 0 rfl) ?_
  refine V.aload_n F dX3_dropOldest_24 rfl (lv_at hl 2 rfl) ?_
  refine V.getf F hE gX3_17 0 rfl rfl dX3_dropOldest_25 ?_
  refine V.iload_n F dX3_dropOldest_28 rfl (lv_at hl 0 rfl) ?_
  refine V.iconst (v := nI 1) F dX3_dropOldest_29 (by decide) ?_
  refine V.iadd F dX3_dropOldest_30 (fun z4 e4 => ?_)
  obtain rfl : z4 = nI 1 := e4.trans (by decide)
  refine V.aald F hE 1 rfl (vp_in_nI (by omega) (by omega)) (by first | exact hq1 | (simp [va_up, cl0, cl1, cl2, cl3, cl4, cl5, hq1]; done)) dX3_dropOldest_31 ?_
  refine V.aast F hE hN (by rfl) 1 3 rfl rfl (vp_in_nI (by omega) (by omega)) dX3_dropOldest_32 rfl ?_
  refine V.iinc (j := 0) (lv' := fun z5 => [(2, .int z5), (1, .ref q0), (0, .ref (v 0))]) F dX3_dropOldest_33 hl rfl (by decide) (fun _ => rfl) (fun z5 e5 ls hl => ?_)
  obtain rfl : z5 = nI 1 := e5.trans (by decide)
  refine V.goto (tgt := 8) F dX3_dropOldest_36 (by decide) ?_
  refine V.iload_n F dX3_dropOldest_8 rfl (lv_at hl 0 rfl) ?_
  refine V.iconst (v := nI 1) F dX3_dropOldest_9 (by decide) ?_
  refine V.iadd F dX3_dropOldest_10 (fun z6 e6 => ?_)
  obtain rfl : z6 = nI 2 := e6.trans (by decide)
  refine V.aload_n F dX3_dropOldest_11 rfl (lv_at hl 2 rfl) ?_
  refine V.getf F hE gX3_17 0 rfl rfl dX3_dropOldest_12 ?_
  refine V.alenq F hE 1 rfl dX3_dropOldest_15 (fun z7 e7 => ?_)
  subst e7
  refine V.icmp_ge (tgt := 39) F dX3_dropOldest_16 (by decide) (fun h _ => absurd h (by decide)) (fun _ _ => ?_)
  refine V.aload_n F dX3_dropOldest_19 rfl (lv_at hl 2 rfl) ?_
  refine V.getf F hE gX3_17 0 rfl rfl dX3_dropOldest_20 ?_
  refine V.iload_n F dX3_dropOldest_23 rfl (lv_at hl 0 rfl) ?_
  refine V.aload_n F dX3_dropOldest_24 rfl (lv_at hl 2 rfl) ?_
  refine V.getf F hE gX3_17 0 rfl rfl dX3_dropOldest_25 ?_
  refine V.iload_n F dX3_dropOldest_28 rfl (lv_at hl 0 rfl) ?_
  refine V.iconst (v := nI 1) F dX3_dropOldest_29 (by decide) ?_
  refine V.iadd F dX3_dropOldest_30 (fun z9 e9 => ?_)
  obtain rfl : z9 = nI 2 := e9.trans (by decide)
  refine V.aald F hE 1 rfl (vp_in_nI (by omega) (by omega)) (by first | exact hq2 | (simp [va_up, cl0, cl1, cl2, cl3, cl4, cl5, hq2]; done)) dX3_dropOldest_31 ?_
  refine V.aast F hE hN (by rfl) 1 4 rfl rfl (vp_in_nI (by omega) (by omega)) dX3_dropOldest_32 rfl ?_
  refine V.iinc (j := 0) (lv' := fun z10 => [(2, .int z10), (1, .ref q0), (0, .ref (v 0))]) F dX3_dropOldest_33 hl rfl (by decide) (fun _ => rfl) (fun z10 e10 ls hl => ?_)
  obtain rfl : z10 = nI 2 := e10.trans (by decide)
  refine V.goto (tgt := 8) F dX3_dropOldest_36 (by decide) ?_
  refine V.iload_n F dX3_dropOldest_8 rfl (lv_at hl 0 rfl) ?_
  refine V.iconst (v := nI 1) F dX3_dropOldest_9 (by decide) ?_
  refine V.iadd F dX3_dropOldest_10 (fun z11 e11 => ?_)
  obtain rfl : z11 = nI 3 := e11.trans (by decide)
  refine V.aload_n F dX3_dropOldest_11 rfl (lv_at hl 2 rfl) ?_
  refine V.getf F hE gX3_17 0 rfl rfl dX3_dropOldest_12 ?_
  refine V.alenq F hE 1 rfl dX3_dropOldest_15 (fun z12 e12 => ?_)
  subst e12
  refine V.icmp_ge (tgt := 39) F dX3_dropOldest_16 (by decide) (fun h _ => absurd h (by decide)) (fun _ _ => ?_)
  refine V.aload_n F dX3_dropOldest_19 rfl (lv_at hl 2 rfl) ?_
  refine V.getf F hE gX3_17 0 rfl rfl dX3_dropOldest_20 ?_
  refine V.iload_n F dX3_dropOldest_23 rfl (lv_at hl 0 rfl) ?_
  refine V.aload_n F dX3_dropOldest_24 rfl (lv_at hl 2 rfl) ?_
  refine V.getf F hE gX3_17 0 rfl rfl dX3_dropOldest_25 ?_
  refine V.iload_n F dX3_dropOldest_28 rfl (lv_at hl 0 rfl) ?_
  refine V.iconst (v := nI 1) F dX3_dropOldest_29 (by decide) ?_
  refine V.iadd F dX3_dropOldest_30 (fun z14 e14 => ?_)
  obtain rfl : z14 = nI 3 := e14.trans (by decide)
  refine V.aald F hE 1 rfl (vp_in_nI (by omega) (by omega)) (by first | exact hq3 | (simp [va_up, cl0, cl1, cl2, cl3, cl4, cl5, hq3]; done)) dX3_dropOldest_31 ?_
  refine V.aast F hE hN (by rfl) 1 5 rfl rfl (vp_in_nI (by omega) (by omega)) dX3_dropOldest_32 rfl ?_
  refine V.iinc (j := 0) (lv' := fun z15 => [(2, .int z15), (1, .ref q0), (0, .ref (v 0))]) F dX3_dropOldest_33 hl rfl (by decide) (fun _ => rfl) (fun z15 e15 ls hl => ?_)
  obtain rfl : z15 = nI 3 := e15.trans (by decide)
  refine V.goto (tgt := 8) F dX3_dropOldest_36 (by decide) ?_
  refine V.iload_n F dX3_dropOldest_8 rfl (lv_at hl 0 rfl) ?_
  refine V.iconst (v := nI 1) F dX3_dropOldest_9 (by decide) ?_
  refine V.iadd F dX3_dropOldest_10 (fun z16 e16 => ?_)
  obtain rfl : z16 = nI 4 := e16.trans (by decide)
  refine V.aload_n F dX3_dropOldest_11 rfl (lv_at hl 2 rfl) ?_
  refine V.getf F hE gX3_17 0 rfl rfl dX3_dropOldest_12 ?_
  refine V.alenq F hE 1 rfl dX3_dropOldest_15 (fun z17 e17 => ?_)
  subst e17
  refine V.icmp_ge (tgt := 39) F dX3_dropOldest_16 (by decide) (fun h _ => absurd h (by decide)) (fun _ _ => ?_)
  refine V.aload_n F dX3_dropOldest_19 rfl (lv_at hl 2 rfl) ?_
  refine V.getf F hE gX3_17 0 rfl rfl dX3_dropOldest_20 ?_
  refine V.iload_n F dX3_dropOldest_23 rfl (lv_at hl 0 rfl) ?_
  refine V.aload_n F dX3_dropOldest_24 rfl (lv_at hl 2 rfl) ?_
  refine V.getf F hE gX3_17 0 rfl rfl dX3_dropOldest_25 ?_
  refine V.iload_n F dX3_dropOldest_28 rfl (lv_at hl 0 rfl) ?_
  refine V.iconst (v := nI 1) F dX3_dropOldest_29 (by decide) ?_
  refine V.iadd F dX3_dropOldest_30 (fun z19 e19 => ?_)
  obtain rfl : z19 = nI 4 := e19.trans (by decide)
  refine V.aald F hE 1 rfl (vp_in_nI (by omega) (by omega)) (by first | exact hq4 | (simp [va_up, cl0, cl1, cl2, cl3, cl4, cl5, hq4]; done)) dX3_dropOldest_31 ?_
  refine V.aast F hE hN (by rfl) 1 6 rfl rfl (vp_in_nI (by omega) (by omega)) dX3_dropOldest_32 rfl ?_
  refine V.iinc (j := 0) (lv' := fun z20 => [(2, .int z20), (1, .ref q0), (0, .ref (v 0))]) F dX3_dropOldest_33 hl rfl (by decide) (fun _ => rfl) (fun z20 e20 ls hl => ?_)
  obtain rfl : z20 = nI 4 := e20.trans (by decide)
  refine V.goto (tgt := 8) F dX3_dropOldest_36 (by decide) ?_
  refine V.iload_n F dX3_dropOldest_8 rfl (lv_at hl 0 rfl) ?_
  refine V.iconst (v := nI 1) F dX3_dropOldest_9 (by decide) ?_
  refine V.iadd F dX3_dropOldest_10 (fun z21 e21 => ?_)
  obtain rfl : z21 = nI 5 := e21.trans (by decide)
  refine V.aload_n F dX3_dropOldest_11 rfl (lv_at hl 2 rfl) ?_
  refine V.getf F hE gX3_17 0 rfl rfl dX3_dropOldest_12 ?_
  refine V.alenq F hE 1 rfl dX3_dropOldest_15 (fun z22 e22 => ?_)
  subst e22
  refine V.icmp_ge (tgt := 39) F dX3_dropOldest_16 (by decide) (fun h _ => absurd h (by decide)) (fun _ _ => ?_)
  refine V.aload_n F dX3_dropOldest_19 rfl (lv_at hl 2 rfl) ?_
  refine V.getf F hE gX3_17 0 rfl rfl dX3_dropOldest_20 ?_
  refine V.iload_n F dX3_dropOldest_23 rfl (lv_at hl 0 rfl) ?_
  refine V.aload_n F dX3_dropOldest_24 rfl (lv_at hl 2 rfl) ?_
  refine V.getf F hE gX3_17 0 rfl rfl dX3_dropOldest_25 ?_
  refine V.iload_n F dX3_dropOldest_28 rfl (lv_at hl 0 rfl) ?_
  refine V.iconst (v := nI 1) F dX3_dropOldest_29 (by decide) ?_
  refine V.iadd F dX3_dropOldest_30 (fun z24 e24 => ?_)
  obtain rfl : z24 = nI 5 := e24.trans (by decide)
  refine V.aald F hE 1 rfl (vp_in_nI (by omega) (by omega)) (by first | exact hq5 | (simp [va_up, cl0, cl1, cl2, cl3, cl4, cl5, hq5]; done)) dX3_dropOldest_31 ?_
  refine V.aast F hE hN (by rfl) 1 7 rfl rfl (vp_in_nI (by omega) (by omega)) dX3_dropOldest_32 rfl ?_
  refine V.iinc (j := 0) (lv' := fun z25 => [(2, .int z25), (1, .ref q0), (0, .ref (v 0))]) F dX3_dropOldest_33 hl rfl (by decide) (fun _ => rfl) (fun z25 e25 ls hl => ?_)
  obtain rfl : z25 = nI 5 := e25.trans (by decide)
  refine V.goto (tgt := 8) F dX3_dropOldest_36 (by decide) ?_
  refine V.iload_n F dX3_dropOldest_8 rfl (lv_at hl 0 rfl) ?_
  refine V.iconst (v := nI 1) F dX3_dropOldest_9 (by decide) ?_
  refine V.iadd F dX3_dropOldest_10 (fun z26 e26 => ?_)
  obtain rfl : z26 = nI 6 := e26.trans (by decide)
  refine V.aload_n F dX3_dropOldest_11 rfl (lv_at hl 2 rfl) ?_
  refine V.getf F hE gX3_17 0 rfl rfl dX3_dropOldest_12 ?_
  refine V.alenq F hE 1 rfl dX3_dropOldest_15 (fun z27 e27 => ?_)
  subst e27
  refine V.icmp_ge (tgt := 39) F dX3_dropOldest_16 (by decide) (fun _ _ => ?_) (fun h _ => absurd h (by decide))
  refine V.aload_n F dX3_dropOldest_39 rfl (lv_at hl 2 rfl) ?_
  refine V.getf F hE gX3_17 0 rfl rfl dX3_dropOldest_40 ?_
  refine V.alenq F hE 1 rfl dX3_dropOldest_43 (fun z29 e29 => ?_)
  subst e29
  refine V.if_le (tgt := 60) F dX3_dropOldest_44 (by decide) (fun h _ => absurd h (by decide)) (fun _ _ => ?_)
  refine V.aload_n F dX3_dropOldest_47 rfl (lv_at hl 2 rfl) ?_
  refine V.getf F hE gX3_17 0 rfl rfl dX3_dropOldest_48 ?_
  refine V.aload_n F dX3_dropOldest_51 rfl (lv_at hl 2 rfl) ?_
  refine V.getf F hE gX3_17 0 rfl rfl dX3_dropOldest_52 ?_
  refine V.alenq F hE 1 rfl dX3_dropOldest_55 (fun z31 e31 => ?_)
  subst e31
  refine V.iconst (v := nI 1) F dX3_dropOldest_56 (by decide) ?_
  refine V.isub F dX3_dropOldest_57 (fun z32 e32 => ?_)
  obtain rfl : z32 = nI 5 := e32.trans (by decide)
  refine V.aload_n F dX3_dropOldest_58 rfl (lv_at hl 1 rfl) ?_
  refine V.aast F hE hN (by rfl) 1 2 rfl rfl (vp_in_nI (by omega) (by omega)) dX3_dropOldest_59 rfl ?_
  refine V.aload_n F dX3_dropOldest_60 rfl (lv_at hl 2 rfl) ?_
  refine V.dup F dX3_dropOldest_61 rfl ?_
  refine V.getfi F hE gX3_9 0 rfl rfl dX3_dropOldest_62 (fun z33 e33 => ?_)
  subst e33
  refine V.iconst (v := nI 1) F dX3_dropOldest_65 (by decide) ?_
  refine V.isub F dX3_dropOldest_66 (fun z34 e34 => ?_)
  obtain rfl : z34 = nI 5 := e34.trans (by decide)
  refine V.putf F hE hN (by rfl) pX3_9 rfl rfl 0 rfl (by exact Nat.le_of_ble_eq_true rfl) dX3_dropOldest_67 rfl ?_
  refine V.cellq 1 rfl (f' := rot6 fn) (fun j hj => by rcases (show j = 0 ∨ j = 1 ∨ j = 2 ∨ j = 3 ∨ j = 4 ∨ j = 5 by omega) with rfl | rfl | rfl | rfl | rfl | rfl <;> simp [va_up, rot6, cl0, cl1, cl2, cl3, cl4, cl5, hq0, hq1, hq2, hq3, hq4, hq5]) rfl ?_
  exact V.vretW F hr hk dX3_dropOldest_70 (by first | with_reducible rfl | (simp only [oi1n, nI_add, pk_mul, bI, and_true, true_and, and_false, false_and, and_self, or_true, true_or, or_false, false_or, or_self, not_true_eq_false, not_false_eq_true, if_true, if_false, ↓reduceIte] <;> rfl) | rfl | (simp [bI, oi1, nI_succ]; done))
