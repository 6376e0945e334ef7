set_option maxHeartbeats 4000000 in
set_option maxRecDepth 100000 in
theorem c_X7_play_e (l : Launch) (E : EV) {a : Nat → Nat} {th pl : Int32} {hs : Int64} {s S b w : Nat → Int32} {L M : Nat} (hL : L ≤ 60) (hok : ¬ fdV b L 61 0 = -1) : Wr l E yX7_play cX7_play 4 (some .int) 5 121 [.ref (a 0)] (mdW E a th (nI M) (nI L) pl hs s S b w) (mdW E a (nI 1) (nI M) (nI L) (nI (fdP b L 61 0)) hs s S b (fdW b L w 61 0)) (some (.int (nI 0))) := by
  refine Wr.mk0 (by decide) (Nat.le_of_ble_eq_true rfl) ?_
  intro pP eE sS mM aA bB mt cC F hr hk hE hN ls hl
  have hl : lv_has ls 4 [(0, .ref (a 0))] := hl
  refine V.aload_n F dX7_play_0 rfl (lv_at hl 0 rfl) ?_
  refine V.iconst (v := nI 0) F dX7_play_1 (by decide) ?_
  refine V.putf (ws' := mdW E a (nI 0) (nI M) (nI L) pl hs s S b w) F hE hN (by rfl) pX7_22 rfl rfl 0 rfl (by exact Nat.le_of_ble_eq_true rfl) dX7_play_2 rfl ?_
  refine V.aload_n F dX7_play_5 rfl (lv_at hl 0 rfl) ?_
  refine V.wsV (q0 := 0) (ws' := mdW E a (nI 0) (nI M) (nI L) (nI (fdP b L 61 0)) hs s S b (fdW b L w 61 0)) F hE hN (pm_eq (by rfl)) (c_X7_findError l E hL) (kX7_144 F.2.2.2.2 ⟨Nat.le_of_ble_eq_true rfl, Nat.le_of_ble_eq_true rfl⟩) rfl rfl 0 5 (by rfl) (by rfl) rfl hl.1 (Nat.le_of_ble_eq_true rfl) dX7_play_6 rfl ?_
  refine V.topi (fun z1 e1 => ?_)
  refine V.iconst (v := (-1)) F dX7_play_9 (by decide) ?_
  refine V.icmp_eq (tgt := 19) F dX7_play_10 (by decide) (fun c2 => ?_) (fun c2 => ?_)
  · skip
    subst e1; exact absurd c2 hok
  · skip
    refine V.aload_n F dX7_play_13 rfl (lv_at hl 0 rfl) ?_
    refine V.iconst (v := nI 1) F dX7_play_14 (by decide) ?_
    refine V.wsV (q0 := 0) (ws' := mdW E a (nI 1) (nI M) (nI L) (nI (fdP b L 61 0)) hs s S b (fdW b L w 61 0)) F hE hN (pm_eq (by rfl)) (c_X7_fails l E) (kX7_33 F.2.2.2.2 ⟨Nat.le_of_ble_eq_true rfl, Nat.le_of_ble_eq_true rfl⟩) rfl rfl 0 5 (by rfl) (by rfl) rfl hl.1 (Nat.le_of_ble_eq_true rfl) dX7_play_15 rfl ?_
    refine V.topi (fun z3 e3 => ?_)
    exact V.iretW F hr hk dX7_play_18 (by subst e1 e3; first | with_reducible rfl | (simp only [oi1n, nI_add]; done) | (simp only [c2, oi1n, nI_add, pk_mul, if_true, if_false, ↓reduceIte]; done) | (simp only [c2, oi1n, nI_add, pk_mul, bI, and_true, true_and, and_false, false_and, and_self, not_true_eq_false, not_false_eq_true, if_true, if_false, ↓reduceIte] <;> rfl)) (by subst e1 e3; first | with_reducible rfl | (simp only [oi1n, nI_add]; done) | (simp only [c2, oi1n, nI_add, pk_mul, if_true, if_false, ↓reduceIte]; done) | (simp only [c2, oi1n, nI_add, pk_mul, bI, and_true, true_and, and_false, false_and, and_self, not_true_eq_false, not_false_eq_true, if_true, if_false, ↓reduceIte] <;> rfl))
