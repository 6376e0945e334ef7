set_option maxHeartbeats 4000000 in
set_option maxRecDepth 100000 in
theorem c_X7_play (l : Launch) (E : EV) {a : Nat → Nat} {th pl : Int32} {hs : Int64} {s S b w : Nat → Int32} {L M : Nat} (hM : Mi s) (hL : L ≤ 60) (hm : M ≤ 6) (hok : fdV b L 61 0 = -1) : Wr l E yX7_play cX7_play 4 (some .int) 5 121 [.ref (a 0)] (mdW E a th (nI M) (nI L) pl hs s S b w) (mdW E a (nI 0) (nI (kN M)) (nI 0) (nI (pmT b L s (fdW b L w 61 0) 61).2.2.1) hs ((pmT b L s (fdW b L w 61 0) 61).2.2.2.2) (svA S s M) b ((pmT b L s (fdW b L w 61 0) 61).2.2.2.1)) (some (.int ((pmT b L s (fdW b L w 61 0) 61).1))) := by
  refine Wr.mk0 (by decide) (Nat.le_of_ble_eq_true rfl) ?_
  intro pP eE sS mM aA bB mt cC F hr hk hE hN ls hl
  have hl : lv_has ls 4 [(0, .ref (a 0))] := hl
  refine V.aload_n F dX7_play_0 rfl (lv_at hl 0 rfl) ?_
  refine V.iconst (v := nI 0) F dX7_play_1 (by decide) ?_
  refine V.putf (ws' := mdW E a (nI 0) (nI M) (nI L) pl hs s S b w) F hE hN (by rfl) pX7_22 rfl rfl 0 rfl (by exact Nat.le_of_ble_eq_true rfl) dX7_play_2 rfl ?_
  refine V.aload_n F dX7_play_5 rfl (lv_at hl 0 rfl) ?_
  refine V.wsV (q0 := 0) (ws' := mdW E a (nI 0) (nI M) (nI L) (nI (fdP b L 61 0)) hs s S b (fdW b L w 61 0)) F hE hN (pm_eq (by rfl)) (c_X7_findError l E hL) (kX7_144 F.2.2.2.2 ⟨Nat.le_of_ble_eq_true rfl, Nat.le_of_ble_eq_true rfl⟩) rfl rfl 0 5 (by rfl) (by rfl) rfl hl.1 (Nat.le_of_ble_eq_true rfl) dX7_play_6 rfl ?_
  refine V.topi (fun z1 e1 => ?_)
  refine V.iconst (v := (-1)) F dX7_play_9 (by decide) ?_
  refine V.icmp_eq (tgt := 19) F dX7_play_10 (by decide) (fun c2 => ?_) (fun c2 => ?_)
  · skip
    refine V.aload_n F dX7_play_19 rfl (lv_at hl 0 rfl) ?_
    refine V.wsVn (q0 := 0) (ws' := mdW E a (nI 0) (nI (kN M)) (nI L) (nI (fdP b L 61 0)) hs s (svA S s M) b (fdW b L w 61 0)) F hE hN (pm_eq (by rfl)) (c_X7_saveA l E hm) (kX7_94 F.2.2.2.2 ⟨Nat.le_of_ble_eq_true rfl, Nat.le_of_ble_eq_true rfl⟩) rfl rfl 0 5 (by rfl) (by rfl) rfl hl.1 (Nat.le_of_ble_eq_true rfl) dX7_play_20 rfl ?_
    refine V.aload_n F dX7_play_23 rfl (lv_at hl 0 rfl) ?_
    refine V.iconst (v := nI 0) F dX7_play_24 (by decide) ?_
    refine V.putf (ws' := mdW E a (nI 0) (nI (kN M)) (nI L) (nI 0) hs s (svA S s M) b (fdW b L w 61 0)) F hE hN (by rfl) pX7_124 rfl rfl 0 rfl (by exact Nat.le_of_ble_eq_true rfl) dX7_play_25 rfl ?_
    refine V.iconst (v := nI 0) F dX7_play_28 (by decide) ?_
    refine V.istore_n (lv' := [(1, .int (nI 0)), (0, .ref (a 0))]) F dX7_play_29 rfl hl (by decide) rfl (fun ls hl => ?_)
    refine V.iconst (v := nI 1) F dX7_play_30 (by decide) ?_
    refine V.istore_n (lv' := [(2, .int (nI 1)), (1, .int (nI 0)), (0, .ref (a 0))]) F dX7_play_31 rfl hl (by decide) rfl (fun ls hl => ?_)
    have h4 : (pmT b L s (fdW b L w 61 0) 0).1 = nI 0 := (by subst e1; first | with_reducible rfl | (simp only [oi1n, nI_add]; done) | (rw [hs_]; done) | (rw [hx_]; done) | (rfl; done) | (simp only [eq_true c2, oi1n, nI_add, pk_mul, if_true, if_false, ↓reduceIte]; done) | (simp only [eq_true c2, oi1n, nI_add, pk_mul, bI, and_true, true_and, and_false, false_and, and_self, not_true_eq_false, not_false_eq_true, if_true, if_false, ↓reduceIte] <;> rfl))
    have h5 : (pmT b L s (fdW b L w 61 0) 0).2.1 = nI 1 := (by subst e1; first | with_reducible rfl | (simp only [oi1n, nI_add]; done) | (rw [hs_]; done) | (rw [hx_]; done) | (rfl; done) | (simp only [eq_true c2, oi1n, nI_add, pk_mul, if_true, if_false, ↓reduceIte]; done) | (simp only [eq_true c2, oi1n, nI_add, pk_mul, bI, and_true, true_and, and_false, false_and, and_self, not_true_eq_false, not_false_eq_true, if_true, if_false, ↓reduceIte] <;> rfl))
    refine V.weq (ws' := mdW E a (nI 0) (nI (kN M)) (nI L) (nI (pmT b L s (fdW b L w 61 0) 0).2.2.1) hs ((pmT b L s (fdW b L w 61 0) 0).2.2.2.2) (svA S s M) b ((pmT b L s (fdW b L w 61 0) 0).2.2.2.1)) (by subst e1; first | with_reducible rfl | (simp only [oi1n, nI_add]; done) | (rw [hs_]; done) | (rw [hx_]; done) | (rfl; done) | (simp only [eq_true c2, oi1n, nI_add, pk_mul, if_true, if_false, ↓reduceIte]; done) | (simp only [eq_true c2, oi1n, nI_add, pk_mul, bI, and_true, true_and, and_false, false_and, and_self, not_true_eq_false, not_false_eq_true, if_true, if_false, ↓reduceIte] <;> rfl)) ?_
    refine V.loopW (Wd := fun j3 : Nat => mdW E a (nI 0) (nI (kN M)) (nI L) (nI (pmT b L s (fdW b L w 61 0) j3).2.2.1) hs ((pmT b L s (fdW b L w 61 0) j3).2.2.2.2) (svA S s M) b ((pmT b L s (fdW b L w 61 0) j3).2.2.2.1)) (N := 61) (k0 := 0) (I := (fun j3 : Nat => [(2, .int ((pmT b L s (fdW b L w 61 0) j3).2.1)), (1, .int ((pmT b L s (fdW b L w 61 0) j3).1)), (0, .ref (a 0))])) (J := fun j3 : Nat => pmJ b L s (fdW b L w 61 0) j3) (Nat.zero_le _) (pmJ_0 hM) (lv_sub hl [0, 1, 2] (by rw [h4, h5]; rfl)) ?_
    intro j3 j3_N j3_J ihj3 ls hl
    have hl : lv_has ls 4 [(2, .int ((pmT b L s (fdW b L w 61 0) j3).2.1)), (1, .int ((pmT b L s (fdW b L w 61 0) j3).1)), (0, .ref (a 0))] := hl
    try dsimp only at j3_J ihj3 ⊢
    refine V.iload_n F dX7_play_32 rfl (lv_at hl 0 rfl) ?_
    refine V.if_eq (tgt := 98) F dX7_play_33 (by decide) (fun c6 => ?_) (fun c6 => ?_)
    · skip
      rw [← nI_0] at c6
      have hx_ := pm_stop j3_N (Or.inl c6)
      refine V.aload_n F dX7_play_98 rfl (lv_at hl 2 rfl) ?_
      refine V.iconst (v := nI 0) F dX7_play_99 (by decide) ?_
      refine V.putf (ws' := mdW E a (nI 0) (nI (kN M)) (nI 0) (nI (pmT b L s (fdW b L w 61 0) j3).2.2.1) hs ((pmT b L s (fdW b L w 61 0) j3).2.2.2.2) (svA S s M) b ((pmT b L s (fdW b L w 61 0) j3).2.2.2.1)) F hE hN (by rfl) pX7_121 rfl rfl 0 rfl (by exact Nat.le_of_ble_eq_true rfl) dX7_play_100 rfl ?_
      refine V.iload_n F dX7_play_103 rfl (lv_at hl 1 rfl) ?_
      exact V.iretW F hr hk dX7_play_104 (by subst e1; first | with_reducible rfl | (simp only [oi1n, nI_add]; done) | (rw [hs_]; done) | (rw [hx_]; done) | (rfl; done) | (simp only [eq_true c2, eq_true c6, oi1n, nI_add, pk_mul, if_true, if_false, ↓reduceIte]; done) | (simp only [eq_true c2, eq_true c6, oi1n, nI_add, pk_mul, bI, and_true, true_and, and_false, false_and, and_self, not_true_eq_false, not_false_eq_true, if_true, if_false, ↓reduceIte] <;> rfl)) (by subst e1; first | with_reducible rfl | (simp only [oi1n, nI_add]; done) | (rw [hs_]; done) | (rw [hx_]; done) | (rfl; done) | (simp only [eq_true c2, eq_true c6, oi1n, nI_add, pk_mul, if_true, if_false, ↓reduceIte]; done) | (simp only [eq_true c2, eq_true c6, oi1n, nI_add, pk_mul, bI, and_true, true_and, and_false, false_and, and_self, not_true_eq_false, not_false_eq_true, if_true, if_false, ↓reduceIte] <;> rfl))
    · skip
      rw [← nI_0] at c6
      have hg_ := c6
      refine V.aload_n F dX7_play_36 rfl (lv_at hl 2 rfl) ?_
      refine V.getfi F hE gX7_124 0 rfl rfl dX7_play_37 (fun z7 e7 => ?_)
      subst e7
      refine V.aload_n F dX7_play_40 rfl (lv_at hl 2 rfl) ?_
      refine V.getfi F hE gX7_121 0 rfl rfl dX7_play_41 (fun z8 e8 => ?_)
      subst e8
      refine V.icmp_ge (tgt := 98) F dX7_play_44 (by decide) (fun c9 c9' => ?_) (fun c9 c9' => ?_)
      · skip
        have hx_ := pm_stop j3_N (Or.inr (fun h => c9' ((nI_ltI (by have := j3_J.2.1; omega) (by omega)).mpr h)))
        refine V.aload_n F dX7_play_98 rfl (lv_at hl 2 rfl) ?_
        refine V.iconst (v := nI 0) F dX7_play_99 (by decide) ?_
        refine V.putf (ws' := mdW E a (nI 0) (nI (kN M)) (nI 0) (nI (pmT b L s (fdW b L w 61 0) j3).2.2.1) hs ((pmT b L s (fdW b L w 61 0) j3).2.2.2.2) (svA S s M) b ((pmT b L s (fdW b L w 61 0) j3).2.2.2.1)) F hE hN (by rfl) pX7_121 rfl rfl 0 rfl (by exact Nat.le_of_ble_eq_true rfl) dX7_play_100 rfl ?_
        refine V.iload_n F dX7_play_103 rfl (lv_at hl 1 rfl) ?_
        exact V.iretW F hr hk dX7_play_104 (by subst e1; first | with_reducible rfl | (simp only [oi1n, nI_add]; done) | (rw [hs_]; done) | (rw [hx_]; done) | (rfl; done) | (simp only [eq_true c2, c6, c9, c9', oi1n, nI_add, pk_mul, if_true, if_false, ↓reduceIte]; done) | (simp only [eq_true c2, c6, c9, c9', oi1n, nI_add, pk_mul, bI, and_true, true_and, and_false, false_and, and_self, not_true_eq_false, not_false_eq_true, if_true, if_false, ↓reduceIte] <;> rfl)) (by subst e1; first | with_reducible rfl | (simp only [oi1n, nI_add]; done) | (rw [hs_]; done) | (rw [hx_]; done) | (rfl; done) | (simp only [eq_true c2, c6, c9, c9', oi1n, nI_add, pk_mul, if_true, if_false, ↓reduceIte]; done) | (simp only [eq_true c2, c6, c9, c9', oi1n, nI_add, pk_mul, bI, and_true, true_and, and_false, false_and, and_self, not_true_eq_false, not_false_eq_true, if_true, if_false, ↓reduceIte] <;> rfl))
      · skip
        have hp_ : (pmT b L s (fdW b L w 61 0) j3).2.2.1 < L := (nI_ltI (by have := j3_J.2.1; omega) (by omega)).mp c9'
        have j3_lt := pmJ_lt hL j3_J hp_
        refine V.aload_n F dX7_play_47 rfl (lv_at hl 2 rfl) ?_
        refine V.rdV (q0 := 0) F hE (c_X7_next l E (P := (pmT b L s (fdW b L w 61 0) j3).2.2.1) (L := L) (by omega) hL) (kX7_127 F.2.2.2.2 ⟨Nat.le_of_ble_eq_true rfl, Nat.le_of_ble_eq_true rfl⟩) rfl rfl [0, 1, 2, 3, 4] rfl rfl hl.1 (Nat.le_of_ble_eq_true rfl) dX7_play_48 rfl ?_
        refine V.topi (fun z10 e10 => ?_)
        refine V.istore_n (lv' := [(3, .int z10), (2, .int ((pmT b L s (fdW b L w 61 0) j3).2.1)), (1, .int ((pmT b L s (fdW b L w 61 0) j3).1)), (0, .ref (a 0))]) F dX7_play_51 rfl hl (by decide) rfl (fun ls hl => ?_)
        refine V.aload_n F dX7_play_52 rfl (lv_at hl 3 rfl) ?_
        refine V.wsV (q0 := 0) (ws' := mdW E a (nI 0) (nI (kN M)) (nI L) (nI (rpP b L ((pmT b L s (fdW b L w 61 0) j3).2.2.1))) hs ((pmT b L s (fdW b L w 61 0) j3).2.2.2.2) (svA S s M) b (rpW b L ((pmT b L s (fdW b L w 61 0) j3).2.2.1) ((pmT b L s (fdW b L w 61 0) j3).2.2.2.1))) F hE hN (pm_eq (by rfl)) (c_X7_readsPart l E (P := (pmT b L s (fdW b L w 61 0) j3).2.2.1) (L := L) (by omega) hL) (kX7_141 F.2.2.2.2 ⟨Nat.le_of_ble_eq_true rfl, Nat.le_of_ble_eq_true rfl⟩) rfl rfl 0 5 (by rfl) (by rfl) rfl hl.1 (Nat.le_of_ble_eq_true rfl) dX7_play_53 rfl ?_
        refine V.topi (fun z11 e11 => ?_)
        refine V.if_eq (tgt := 71) F dX7_play_56 (by decide) (fun c12 => ?_) (fun c12 => ?_)
        · skip
          rw [← nI_0] at c12
          have hs_ := pm_1 hg_ hp_ (by rw [← e11]; exact c12)
          refine V.iconst (v := nI 0) F dX7_play_71 (by decide) ?_
          refine V.istore_n (lv' := [(2, .int (nI 0)), (3, .int z10), (1, .int ((pmT b L s (fdW b L w 61 0) j3).1)), (0, .ref (a 0))]) F dX7_play_72 rfl hl (by decide) rfl (fun ls hl => ?_)
          refine V.iload_n F dX7_play_73 rfl (lv_at hl 2 rfl) ?_
          refine V.iload_n F dX7_play_74 rfl (lv_at hl 0 rfl) ?_
          refine V.if_eq (tgt := 82) F dX7_play_75 (by decide) (fun _ => ?_) (fun h => absurd h (by decide))
          refine V.iconst (v := nI 0) F dX7_play_82 (by decide) ?_
          refine V.iadd F dX7_play_83 (fun z14 e14 => ?_)
          refine V.istore_n (lv' := [(1, .int z14), (2, .int (nI 0)), (3, .int z10), (0, .ref (a 0))]) F dX7_play_84 rfl hl (by decide) rfl (fun ls hl => ?_)
          refine V.aload_n F dX7_play_85 rfl (lv_at hl 3 rfl) ?_
          refine V.dup F dX7_play_86 rfl ?_
          refine V.getfi F hE gX7_124 0 rfl rfl dX7_play_87 (fun z15 e15 => ?_)
          subst e15
          refine V.iconst (v := nI 1) F dX7_play_90 (by decide) ?_
          refine V.iadd F dX7_play_91 (fun z16 e16 => ?_)
          obtain rfl : z16 = nI ((rpP b L ((pmT b L s (fdW b L w 61 0) j3).2.2.1)) + 1) := e16.trans (nI_add _ _)
          refine V.putf (ws' := mdW E a (nI 0) (nI (kN M)) (nI L) (nI ((rpP b L ((pmT b L s (fdW b L w 61 0) j3).2.2.1)) + 1)) hs ((pmT b L s (fdW b L w 61 0) j3).2.2.2.2) (svA S s M) b (rpW b L ((pmT b L s (fdW b L w 61 0) j3).2.2.1) ((pmT b L s (fdW b L w 61 0) j3).2.2.2.1))) F hE hN (by rfl) pX7_124 rfl rfl 0 rfl (by exact Nat.le_of_ble_eq_true rfl) dX7_play_92 rfl ?_
          refine V.goto (tgt := 32) F dX7_play_95 (by decide) ?_
          have h17 : (pmT b L s (fdW b L w 61 0) (j3 + 1)).1 = z14 := (by subst e1 e10 e11 e14; first | with_reducible rfl | (simp only [oi1n, nI_add]; done) | (rw [hs_]; done) | (rw [hx_]; done) | (rfl; done) | (simp only [eq_true c2, c6, c9, c9', eq_true c12, oi1n, nI_add, pk_mul, if_true, if_false, ↓reduceIte]; done) | (simp only [eq_true c2, c6, c9, c9', eq_true c12, oi1n, nI_add, pk_mul, bI, and_true, true_and, and_false, false_and, and_self, not_true_eq_false, not_false_eq_true, if_true, if_false, ↓reduceIte] <;> rfl))
          have h18 : (pmT b L s (fdW b L w 61 0) (j3 + 1)).2.1 = nI 0 := (by subst e1 e10 e11 e14; first | with_reducible rfl | (simp only [oi1n, nI_add]; done) | (rw [hs_]; done) | (rw [hx_]; done) | (rfl; done) | (simp only [eq_true c2, c6, c9, c9', eq_true c12, oi1n, nI_add, pk_mul, if_true, if_false, ↓reduceIte]; done) | (simp only [eq_true c2, c6, c9, c9', eq_true c12, oi1n, nI_add, pk_mul, bI, and_true, true_and, and_false, false_and, and_self, not_true_eq_false, not_false_eq_true, if_true, if_false, ↓reduceIte] <;> rfl))
          refine V.weq (ws' := mdW E a (nI 0) (nI (kN M)) (nI L) (nI (pmT b L s (fdW b L w 61 0) (j3 + 1)).2.2.1) hs ((pmT b L s (fdW b L w 61 0) (j3 + 1)).2.2.2.2) (svA S s M) b ((pmT b L s (fdW b L w 61 0) (j3 + 1)).2.2.2.1)) (by subst e1 e10 e11 e14; first | with_reducible rfl | (simp only [oi1n, nI_add]; done) | (rw [hs_]; done) | (rw [hx_]; done) | (rfl; done) | (simp only [eq_true c2, c6, c9, c9', eq_true c12, oi1n, nI_add, pk_mul, if_true, if_false, ↓reduceIte]; done) | (simp only [eq_true c2, c6, c9, c9', eq_true c12, oi1n, nI_add, pk_mul, bI, and_true, true_and, and_false, false_and, and_self, not_true_eq_false, not_false_eq_true, if_true, if_false, ↓reduceIte] <;> rfl)) ?_
          exact ihj3 j3_lt (pmJ_s j3_J hg_ hp_) _ (lv_sub hl [1, 0, 3] (by rw [h17, h18]; rfl))
        · skip
          rw [← nI_0] at c12
          have hr_ : ¬ rpR b L (pmT b L s (fdW b L w 61 0) j3).2.2.1 = nI 0 := by rw [← e11]; exact c12
          refine V.aload_n F dX7_play_59 rfl (lv_at hl 3 rfl) ?_
          refine V.iload_n F dX7_play_60 rfl (lv_at hl 0 rfl) ?_
          refine V.wsV (q0 := 0) (ws' := mdW E a (nI 0) (nI (kN M)) (nI L) (nI (rpP b L ((pmT b L s (fdW b L w 61 0) j3).2.2.1))) hs (dpS ((pmT b L s (fdW b L w 61 0) j3).2.2.2.2) z10 (rpW b L ((pmT b L s (fdW b L w 61 0) j3).2.2.1) ((pmT b L s (fdW b L w 61 0) j3).2.2.2.1))) (svA S s M) b (rpW b L ((pmT b L s (fdW b L w 61 0) j3).2.2.1) ((pmT b L s (fdW b L w 61 0) j3).2.2.2.1))) F hE hN (pm_eq (by rfl)) (c_X7_doesPartA l E (s := (pmT b L s (fdW b L w 61 0) j3).2.2.2.2) (w := rpW b L ((pmT b L s (fdW b L w 61 0) j3).2.2.1) ((pmT b L s (fdW b L w 61 0) j3).2.2.2.1)) j3_J.2.2 (by subst e1 e10 e11; exact rp_ok (fun q => hr_ (q.trans nI_0.symm)))) (kX7_147 F.2.2.2.2 ⟨Nat.le_of_ble_eq_true rfl, Nat.le_of_ble_eq_true rfl⟩) rfl rfl 0 5 (by rfl) (by rfl) rfl hl.1 (Nat.le_of_ble_eq_true rfl) dX7_play_61 rfl ?_
          refine V.topi (fun z19 e19 => ?_)
          refine V.if_eq (tgt := 71) F dX7_play_64 (by decide) (fun c20 => ?_) (fun c20 => ?_)
          · skip
            rw [← nI_0] at c20
            have hs_ := pm_2 hg_ hp_ hr_ (by subst e1 e10 e11 e19; exact c20)
            refine V.iconst (v := nI 0) F dX7_play_71 (by decide) ?_
            refine V.istore_n (lv' := [(2, .int (nI 0)), (3, .int z10), (1, .int ((pmT b L s (fdW b L w 61 0) j3).1)), (0, .ref (a 0))]) F dX7_play_72 rfl hl (by decide) rfl (fun ls hl => ?_)
            refine V.iload_n F dX7_play_73 rfl (lv_at hl 2 rfl) ?_
            refine V.iload_n F dX7_play_74 rfl (lv_at hl 0 rfl) ?_
            refine V.if_eq (tgt := 82) F dX7_play_75 (by decide) (fun _ => ?_) (fun h => absurd h (by decide))
            refine V.iconst (v := nI 0) F dX7_play_82 (by decide) ?_
            refine V.iadd F dX7_play_83 (fun z22 e22 => ?_)
            refine V.istore_n (lv' := [(1, .int z22), (2, .int (nI 0)), (3, .int z10), (0, .ref (a 0))]) F dX7_play_84 rfl hl (by decide) rfl (fun ls hl => ?_)
            refine V.aload_n F dX7_play_85 rfl (lv_at hl 3 rfl) ?_
            refine V.dup F dX7_play_86 rfl ?_
            refine V.getfi F hE gX7_124 0 rfl rfl dX7_play_87 (fun z23 e23 => ?_)
            subst e23
            refine V.iconst (v := nI 1) F dX7_play_90 (by decide) ?_
            refine V.iadd F dX7_play_91 (fun z24 e24 => ?_)
            obtain rfl : z24 = nI ((rpP b L ((pmT b L s (fdW b L w 61 0) j3).2.2.1)) + 1) := e24.trans (nI_add _ _)
            refine V.putf (ws' := mdW E a (nI 0) (nI (kN M)) (nI L) (nI ((rpP b L ((pmT b L s (fdW b L w 61 0) j3).2.2.1)) + 1)) hs (dpS ((pmT b L s (fdW b L w 61 0) j3).2.2.2.2) z10 (rpW b L ((pmT b L s (fdW b L w 61 0) j3).2.2.1) ((pmT b L s (fdW b L w 61 0) j3).2.2.2.1))) (svA S s M) b (rpW b L ((pmT b L s (fdW b L w 61 0) j3).2.2.1) ((pmT b L s (fdW b L w 61 0) j3).2.2.2.1))) F hE hN (by rfl) pX7_124 rfl rfl 0 rfl (by exact Nat.le_of_ble_eq_true rfl) dX7_play_92 rfl ?_
            refine V.goto (tgt := 32) F dX7_play_95 (by decide) ?_
            have h25 : (pmT b L s (fdW b L w 61 0) (j3 + 1)).1 = z22 := (by subst e1 e10 e11 e19 e22; first | with_reducible rfl | (simp only [oi1n, nI_add]; done) | (rw [hs_]; done) | (rw [hx_]; done) | (rfl; done) | (simp only [eq_true c2, c6, c9, c9', c12, eq_true c20, oi1n, nI_add, pk_mul, if_true, if_false, ↓reduceIte]; done) | (simp only [eq_true c2, c6, c9, c9', c12, eq_true c20, oi1n, nI_add, pk_mul, bI, and_true, true_and, and_false, false_and, and_self, not_true_eq_false, not_false_eq_true, if_true, if_false, ↓reduceIte] <;> rfl))
            have h26 : (pmT b L s (fdW b L w 61 0) (j3 + 1)).2.1 = nI 0 := (by subst e1 e10 e11 e19 e22; first | with_reducible rfl | (simp only [oi1n, nI_add]; done) | (rw [hs_]; done) | (rw [hx_]; done) | (rfl; done) | (simp only [eq_true c2, c6, c9, c9', c12, eq_true c20, oi1n, nI_add, pk_mul, if_true, if_false, ↓reduceIte]; done) | (simp only [eq_true c2, c6, c9, c9', c12, eq_true c20, oi1n, nI_add, pk_mul, bI, and_true, true_and, and_false, false_and, and_self, not_true_eq_false, not_false_eq_true, if_true, if_false, ↓reduceIte] <;> rfl))
            refine V.weq (ws' := mdW E a (nI 0) (nI (kN M)) (nI L) (nI (pmT b L s (fdW b L w 61 0) (j3 + 1)).2.2.1) hs ((pmT b L s (fdW b L w 61 0) (j3 + 1)).2.2.2.2) (svA S s M) b ((pmT b L s (fdW b L w 61 0) (j3 + 1)).2.2.2.1)) (by subst e1 e10 e11 e19 e22; first | with_reducible rfl | (simp only [oi1n, nI_add]; done) | (rw [hs_]; done) | (rw [hx_]; done) | (rfl; done) | (simp only [eq_true c2, c6, c9, c9', c12, eq_true c20, oi1n, nI_add, pk_mul, if_true, if_false, ↓reduceIte]; done) | (simp only [eq_true c2, c6, c9, c9', c12, eq_true c20, oi1n, nI_add, pk_mul, bI, and_true, true_and, and_false, false_and, and_self, not_true_eq_false, not_false_eq_true, if_true, if_false, ↓reduceIte] <;> rfl)) ?_
            exact ihj3 j3_lt (pmJ_s j3_J hg_ hp_) _ (lv_sub hl [1, 0, 3] (by rw [h25, h26]; rfl))
          · skip
            rw [← nI_0] at c20
            have hs_ := pm_3 hg_ hp_ hr_ (by subst e1 e10 e11 e19; exact c20)
            refine V.iconst (v := nI 1) F dX7_play_67 (by decide) ?_
            refine V.goto (tgt := 72) F dX7_play_68 (by decide) ?_
            refine V.istore_n (lv' := [(2, .int (nI 1)), (3, .int z10), (1, .int ((pmT b L s (fdW b L w 61 0) j3).1)), (0, .ref (a 0))]) F dX7_play_72 rfl hl (by decide) rfl (fun ls hl => ?_)
            refine V.iload_n F dX7_play_73 rfl (lv_at hl 2 rfl) ?_
            refine V.iload_n F dX7_play_74 rfl (lv_at hl 0 rfl) ?_
            refine V.if_eq (tgt := 82) F dX7_play_75 (by decide) (fun h => absurd h (by decide)) (fun _ => ?_)
            refine V.iconst (v := nI 1) F dX7_play_78 (by decide) ?_
            refine V.goto (tgt := 83) F dX7_play_79 (by decide) ?_
            refine V.iadd F dX7_play_83 (fun z28 e28 => ?_)
            refine V.istore_n (lv' := [(1, .int z28), (2, .int (nI 1)), (3, .int z10), (0, .ref (a 0))]) F dX7_play_84 rfl hl (by decide) rfl (fun ls hl => ?_)
            refine V.aload_n F dX7_play_85 rfl (lv_at hl 3 rfl) ?_
            refine V.dup F dX7_play_86 rfl ?_
            refine V.getfi F hE gX7_124 0 rfl rfl dX7_play_87 (fun z29 e29 => ?_)
            subst e29
            refine V.iconst (v := nI 1) F dX7_play_90 (by decide) ?_
            refine V.iadd F dX7_play_91 (fun z30 e30 => ?_)
            obtain rfl : z30 = nI ((rpP b L ((pmT b L s (fdW b L w 61 0) j3).2.2.1)) + 1) := e30.trans (nI_add _ _)
            refine V.putf (ws' := mdW E a (nI 0) (nI (kN M)) (nI L) (nI ((rpP b L ((pmT b L s (fdW b L w 61 0) j3).2.2.1)) + 1)) hs (dpS ((pmT b L s (fdW b L w 61 0) j3).2.2.2.2) z10 (rpW b L ((pmT b L s (fdW b L w 61 0) j3).2.2.1) ((pmT b L s (fdW b L w 61 0) j3).2.2.2.1))) (svA S s M) b (rpW b L ((pmT b L s (fdW b L w 61 0) j3).2.2.1) ((pmT b L s (fdW b L w 61 0) j3).2.2.2.1))) F hE hN (by rfl) pX7_124 rfl rfl 0 rfl (by exact Nat.le_of_ble_eq_true rfl) dX7_play_92 rfl ?_
            refine V.goto (tgt := 32) F dX7_play_95 (by decide) ?_
            have h31 : (pmT b L s (fdW b L w 61 0) (j3 + 1)).1 = z28 := (by subst e1 e10 e11 e19 e28; first | with_reducible rfl | (simp only [oi1n, nI_add]; done) | (rw [hs_]; done) | (rw [hx_]; done) | (rfl; done) | (simp only [eq_true c2, c6, c9, c9', c12, c20, oi1n, nI_add, pk_mul, if_true, if_false, ↓reduceIte]; done) | (simp only [eq_true c2, c6, c9, c9', c12, c20, oi1n, nI_add, pk_mul, bI, and_true, true_and, and_false, false_and, and_self, not_true_eq_false, not_false_eq_true, if_true, if_false, ↓reduceIte] <;> rfl))
            have h32 : (pmT b L s (fdW b L w 61 0) (j3 + 1)).2.1 = nI 1 := (by subst e1 e10 e11 e19 e28; first | with_reducible rfl | (simp only [oi1n, nI_add]; done) | (rw [hs_]; done) | (rw [hx_]; done) | (rfl; done) | (simp only [eq_true c2, c6, c9, c9', c12, c20, oi1n, nI_add, pk_mul, if_true, if_false, ↓reduceIte]; done) | (simp only [eq_true c2, c6, c9, c9', c12, c20, oi1n, nI_add, pk_mul, bI, and_true, true_and, and_false, false_and, and_self, not_true_eq_false, not_false_eq_true, if_true, if_false, ↓reduceIte] <;> rfl))
            refine V.weq (ws' := mdW E a (nI 0) (nI (kN M)) (nI L) (nI (pmT b L s (fdW b L w 61 0) (j3 + 1)).2.2.1) hs ((pmT b L s (fdW b L w 61 0) (j3 + 1)).2.2.2.2) (svA S s M) b ((pmT b L s (fdW b L w 61 0) (j3 + 1)).2.2.2.1)) (by subst e1 e10 e11 e19 e28; first | with_reducible rfl | (simp only [oi1n, nI_add]; done) | (rw [hs_]; done) | (rw [hx_]; done) | (rfl; done) | (simp only [eq_true c2, c6, c9, c9', c12, c20, oi1n, nI_add, pk_mul, if_true, if_false, ↓reduceIte]; done) | (simp only [eq_true c2, c6, c9, c9', c12, c20, oi1n, nI_add, pk_mul, bI, and_true, true_and, and_false, false_and, and_self, not_true_eq_false, not_false_eq_true, if_true, if_false, ↓reduceIte] <;> rfl)) ?_
            exact ihj3 j3_lt (pmJ_s j3_J hg_ hp_) _ (lv_sub hl [1, 0, 3] (by rw [h31, h32]; rfl))
  · skip
    subst e1; exact absurd hok c2
