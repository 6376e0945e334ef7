set_option maxHeartbeats 4000000 in
set_option maxRecDepth 100000 in
theorem c_X7_findError (l : Launch) (E : EV) {a : Nat → Nat} {th sm pl : Int32} {hs : Int64} {s S b w : Nat → Int32} {L : Nat} (hL : L ≤ 60) : Wr l E yX7_findError cX7_findError 1 (some .int) 4 87 [.ref (a 0)] (mdW E a th sm (nI L) pl hs s S b w) (mdW E a th sm (nI L) (nI (fdP b L 61 0)) hs s S b (fdW b L w 61 0)) (some (.int (fdV b L 61 0))) := by
  refine Wr.mk0 (by decide) (Nat.le_of_ble_eq_true rfl) ?_
  intro pP eE sS mM aA bB mt cC F hr hk hE hN ls hl
  have hl : lv_has ls 1 [(0, .ref (a 0))] := hl
  refine V.aload_n F dX7_findError_0 rfl (lv_at hl 0 rfl) ?_
  refine V.iconst (v := nI 0) F dX7_findError_1 (by decide) ?_
  refine V.putf (ws' := mdW E a th sm (nI L) (nI 0) hs s S b w) F hE hN (by rfl) pX7_124 rfl rfl 0 rfl (by exact Nat.le_of_ble_eq_true rfl) dX7_findError_2 rfl ?_
  refine V.weq (ws' := mdW E a th sm (nI L) (nI (feP b L 0)) hs s S b (feW b L w 0)) (by first | with_reducible rfl | (simp only [oi1n, nI_add]; done) | (rw [hr_.1]; done) | (rw [hr_.2.1, hr_.2.2]; done) | (rfl; done) | (simp only [feP, feW]; done)) ?_
  refine V.loopW (Wd := fun j1 : Nat => mdW E a th sm (nI L) (nI (feP b L j1)) hs s S b (feW b L w j1)) (N := 61) (k0 := 0) (I := (fun j1 : Nat => [(0, .ref (a 0))])) (J := fun j1 : Nat => feJ b L w j1) (Nat.zero_le _) feJ_0 (lv_sub hl [0] (by rfl)) ?_
  intro j1 j1_N j1_J ihj1 ls hl
  have hl : lv_has ls 1 [(0, .ref (a 0))] := hl
  try dsimp only at j1_J ihj1 ⊢
  refine V.aload_n F dX7_findError_5 rfl (lv_at hl 0 rfl) ?_
  refine V.wsV (q0 := 0) (ws' := mdW E a th sm (nI L) (nI (rpP b L (feP b L j1))) hs s S b (rpW b L (feP b L j1) (feW b L w j1))) F hE hN (pm_eq (by rfl)) (c_X7_readsPart l E (P := (feP b L j1)) (L := L) (by have := j1_J.2.1; omega) hL) (kX7_141 F.2.2.2.2 ⟨Nat.le_of_ble_eq_true rfl, Nat.le_of_ble_eq_true rfl⟩) rfl rfl 0 5 (by rfl) (by rfl) rfl hl.1 (Nat.le_of_ble_eq_true rfl) dX7_findError_6 rfl ?_
  refine V.topi (fun z2 e2 => ?_)
  refine V.if_eq (tgt := 39) F dX7_findError_9 (by decide) (fun c3 => ?_) (fun c3 => ?_)
  · skip
    rw [← nI_0] at c3
    have hr_ := fe_1 hL j1_J (by rw [← e2, c3, nI_0])
    refine V.aload_n F dX7_findError_39 rfl (lv_at hl 0 rfl) ?_
    refine V.getfi F hE gX7_124 0 rfl rfl dX7_findError_40 (fun z4 e4 => ?_)
    subst e4
    exact V.iretW F hr hk dX7_findError_43 (by subst e2; first | with_reducible rfl | (simp only [oi1n, nI_add]; done) | (rw [hr_.1]; done) | (rw [hr_.2.1, hr_.2.2]; done) | (rfl; done) | (simp only [feP, feW]; done) | (simp only [eq_true c3, oi1n, nI_add, pk_mul, if_true, if_false, ↓reduceIte]; done) | (simp only [eq_true c3, oi1n, nI_add, pk_mul, bI, and_true, true_and, and_false, false_and, and_self, not_true_eq_false, not_false_eq_true, if_true, if_false, ↓reduceIte] <;> rfl)) (by subst e2; first | with_reducible rfl | (simp only [oi1n, nI_add]; done) | (rw [hr_.1]; done) | (rw [hr_.2.1, hr_.2.2]; done) | (rfl; done) | (simp only [feP, feW]; done) | (simp only [eq_true c3, oi1n, nI_add, pk_mul, if_true, if_false, ↓reduceIte]; done) | (simp only [eq_true c3, oi1n, nI_add, pk_mul, bI, and_true, true_and, and_false, false_and, and_self, not_true_eq_false, not_false_eq_true, if_true, if_false, ↓reduceIte] <;> rfl))
  · skip
    rw [← nI_0] at c3
    have q1_ : ¬ rpR b L (feP b L j1) = 0 := fun h => c3 (by rw [e2, h, nI_0])
    refine V.aload_n F dX7_findError_12 rfl (lv_at hl 0 rfl) ?_
    refine V.getfi F hE gX7_124 0 rfl rfl dX7_findError_13 (fun z5 e5 => ?_)
    subst e5
    refine V.aload_n F dX7_findError_16 rfl (lv_at hl 0 rfl) ?_
    refine V.getfi F hE gX7_121 0 rfl rfl dX7_findError_17 (fun z6 e6 => ?_)
    subst e6
    refine V.icmp_ne (tgt := 25) F dX7_findError_20 (by decide) (fun c7 => ?_) (fun c7 => ?_)
    · skip
      have q2_ : ¬ rpP b L (feP b L j1) = L := fun h => c7 (by rw [h])
      refine V.aload_n F dX7_findError_25 rfl (lv_at hl 0 rfl) ?_
      refine V.bipush (v := nI 59) F dX7_findError_26 (by decide) ?_
      refine V.wsV (q0 := 0) (ws' := mdW E a th sm (nI L) (nI (tkP b L (rpP b L (feP b L j1)) (nI 59))) hs s S b (rpW b L (feP b L j1) (feW b L w j1))) F hE hN (pm_eq (by rfl)) (c_X7_takes l E (P := (rpP b L (feP b L j1))) (L := L) (by have := j1_J.2.1; have := rpP_le b L (feP b L j1); omega) hL) (kX7_134 F.2.2.2.2 ⟨Nat.le_of_ble_eq_true rfl, Nat.le_of_ble_eq_true rfl⟩) rfl rfl 0 5 (by rfl) (by rfl) rfl hl.1 (Nat.le_of_ble_eq_true rfl) dX7_findError_28 rfl ?_
      refine V.topi (fun z8 e8 => ?_)
      refine V.if_neB (tgt := 5) F e8 dX7_findError_31 (by decide) (fun c9 => ?_) (fun c9 => ?_)
      · skip
        have j1_lt := feJ_lt hL j1_J
        have q3_ := c9
        refine V.weq (ws' := mdW E a th sm (nI L) (nI (feP b L (j1 + 1))) hs s S b (feW b L w (j1 + 1))) (by subst e2 e8; first | with_reducible rfl | (simp only [oi1n, nI_add]; done) | (rw [hr_.1]; done) | (rw [hr_.2.1, hr_.2.2]; done) | (rfl; done) | (simp only [feP, feW]; done) | (simp only [c3, c7, eq_true c9, oi1n, nI_add, pk_mul, if_true, if_false, ↓reduceIte]; done) | (simp only [c3, c7, eq_true c9, oi1n, nI_add, pk_mul, bI, and_true, true_and, and_false, false_and, and_self, not_true_eq_false, not_false_eq_true, if_true, if_false, ↓reduceIte] <;> rfl)) ?_
        exact ihj1 j1_lt (feJ_s hL j1_J q1_ q2_ q3_) _ (lv_sub hl [0] (by rfl))
      · skip
        have hr_ := fe_3 hL j1_J q1_ q2_ c9
        refine V.aload_n F dX7_findError_34 rfl (lv_at hl 0 rfl) ?_
        refine V.getfi F hE gX7_124 0 rfl rfl dX7_findError_35 (fun z10 e10 => ?_)
        subst e10
        exact V.iretW F hr hk dX7_findError_38 (by subst e2 e8; first | with_reducible rfl | (simp only [oi1n, nI_add]; done) | (rw [hr_.1]; done) | (rw [hr_.2.1, hr_.2.2]; done) | (rfl; done) | (simp only [feP, feW]; done) | (simp only [c3, c7, c9, oi1n, nI_add, pk_mul, if_true, if_false, ↓reduceIte]; done) | (simp only [c3, c7, c9, oi1n, nI_add, pk_mul, bI, and_true, true_and, and_false, false_and, and_self, not_true_eq_false, not_false_eq_true, if_true, if_false, ↓reduceIte] <;> rfl)) (by subst e2 e8; first | with_reducible rfl | (simp only [oi1n, nI_add]; done) | (rw [hr_.1]; done) | (rw [hr_.2.1, hr_.2.2]; done) | (rfl; done) | (simp only [feP, feW]; done) | (simp only [c3, c7, c9, oi1n, nI_add, pk_mul, if_true, if_false, ↓reduceIte]; done) | (simp only [c3, c7, c9, oi1n, nI_add, pk_mul, bI, and_true, true_and, and_false, false_and, and_self, not_true_eq_false, not_false_eq_true, if_true, if_false, ↓reduceIte] <;> rfl))
    · skip
      have q2_ : rpP b L (feP b L j1) = L := by
        have q := congrArg Int32.toNatClampNeg c7
        rwa [nI_clamp (by have := j1_J.2.1; have := rpP_le b L (feP b L j1); omega), nI_clamp (by omega)] at q
      have hr_ := fe_2 hL j1_J q1_ q2_
      refine V.iconst (v := (-1)) F dX7_findError_23 (by decide) ?_
      exact V.iretW F hr hk dX7_findError_24 (by subst e2; first | with_reducible rfl | (simp only [oi1n, nI_add]; done) | (rw [hr_.1]; done) | (rw [hr_.2.1, hr_.2.2]; done) | (rfl; done) | (simp only [feP, feW]; done) | (simp only [c3, eq_true c7, oi1n, nI_add, pk_mul, if_true, if_false, ↓reduceIte]; done) | (simp only [c3, eq_true c7, oi1n, nI_add, pk_mul, bI, and_true, true_and, and_false, false_and, and_self, not_true_eq_false, not_false_eq_true, if_true, if_false, ↓reduceIte] <;> rfl)) (by subst e2; first | with_reducible rfl | (simp only [oi1n, nI_add]; done) | (rw [hr_.1]; done) | (rw [hr_.2.1, hr_.2.2]; done) | (rfl; done) | (simp only [feP, feW]; done) | (simp only [c3, eq_true c7, oi1n, nI_add, pk_mul, if_true, if_false, ↓reduceIte]; done) | (simp only [c3, eq_true c7, oi1n, nI_add, pk_mul, bI, and_true, true_and, and_false, false_and, and_self, not_true_eq_false, not_false_eq_true, if_true, if_false, ↓reduceIte] <;> rfl))
