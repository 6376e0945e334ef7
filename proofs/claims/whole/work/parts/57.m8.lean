set_option maxHeartbeats 4000000 in
set_option maxRecDepth 100000 in
theorem c_X7_digest (l : Launch) (E : EV) {a : Nat → Nat} {th sm pl : Int32} {hs : Int64} {s S b w : Nat → Int32} {R H C D : Nat} {sn : Nat → Nat} {L : Nat} (hM : MI s R H C D sn) (hL : L ≤ 60) (hnn : s 4 = nI 0 ∨ vf_n64 (FP.ddiv (FP.i2d (shM s C)) (FP.i2d (s 4)))) (hdt : Op.cmpValue (FP.dcmp (srM s C) (srM s C)) .l = 0) : Wr l E yX7_digest cX7_digest 2 (some .long) 7 169 [.ref (a 0)] (mdW E a th sm (nI L) pl hs s S b w) (mdW E a (nI 0) sm (nI L) pl (ddG s R H C D sn sm L b) s S b w) (some (.long (ddG s R H C D sn sm L b))) := by
  refine Wr.mk0 (by decide) (Nat.le_of_ble_eq_true rfl) ?_
  intro pP eE sS mM aA bB mt cC F hr hk hE hN ls hl
  have hl : lv_has ls 2 [(0, .ref (a 0))] := hl
  have hM1 := hM
  obtain ⟨hD0, hD, hkR, hR, hh, hH, hs4, hC, hsn⟩ := hM1
  refine V.aload_n F dX7_digest_0 rfl (lv_at hl 0 rfl) ?_
  refine V.iconst (v := nI 0) F dX7_digest_1 (by decide) ?_
  refine V.putf (ws' := mdW E a (nI 0) sm (nI L) pl hs s S b w) F hE hN (by rfl) pX7_22 rfl rfl 0 rfl (by exact Nat.le_of_ble_eq_true rfl) dX7_digest_2 rfl ?_
  refine V.aload_n F dX7_digest_5 rfl (lv_at hl 0 rfl) ?_
  refine V.ldc2 F lX7_200 dX7_digest_6 ?_
  refine V.putf (ws' := mdW E a (nI 0) sm (nI L) pl 3527 s S b w) F hE hN (by rfl) pX7_192 rfl rfl 0 rfl (by exact Nat.le_of_ble_eq_true rfl) dX7_digest_9 rfl ?_
  refine V.iconst (v := nI 0) F dX7_digest_12 (by decide) ?_
  refine V.istore_n (lv' := [(1, .int (nI 0)), (0, .ref (a 0))]) F dX7_digest_13 rfl hl (by decide) rfl (fun ls hl => ?_)
  have h3 : nI 0 = nI 0 := (by first | with_reducible rfl | (simp only [oi1n, nI_add]; done) | (rw [ddA]; done) | (rw [ddB]; done) | (rw [ddD]; done) | (rw [ddE]; done) | (simp only [ddE, ddM]; done) | (simp only [ddG]; done))
  refine V.weq (ws' := mdW E a (nI 0) sm (nI L) pl (ddA s R H C sn sm 0) s S b w) (by first | with_reducible rfl | (simp only [oi1n, nI_add]; done) | (rw [ddA]; done) | (rw [ddB]; done) | (rw [ddD]; done) | (rw [ddE]; done) | (simp only [ddE, ddM]; done) | (simp only [ddG]; done)) ?_
  refine V.loopW (Wd := fun j2 : Nat => mdW E a (nI 0) sm (nI L) pl (ddA s R H C sn sm j2) s S b w) (N := 11) (k0 := 0) (I := (fun j2 : Nat => [(1, .int (nI j2)), (0, .ref (a 0))])) (J := fun _ => True) (Nat.zero_le _) trivial (lv_sub hl [0, 1] (by rw [h3]; rfl)) ?_
  intro j2 j2_N j2_J ihj2 ls hl
  have hl : lv_has ls 2 [(1, .int (nI j2)), (0, .ref (a 0))] := hl
  try dsimp only at j2_J ihj2 ⊢
  refine V.iload_n F dX7_digest_14 rfl (lv_at hl 0 rfl) ?_
  refine V.bipush (v := nI 11) F dX7_digest_15 (by decide) ?_
  refine V.icmp_ge (tgt := 36) F dX7_digest_17 (by decide) (fun c4 c4' => ?_) (fun c4 c4' => ?_)
  · skip
    have j2_eq := ((lpL rfl (by omega) j2_N).1 c4).symm
    subst j2_eq
    refine V.iconst (v := nI 0) F dX7_digest_36 (by decide) ?_
    refine V.istore_n (lv' := [(1, .int (nI 0)), (0, .ref (a 0))]) F dX7_digest_37 rfl hl (by decide) rfl (fun ls hl => ?_)
    have h6 : nI 0 = nI 0 := (by first | with_reducible rfl | (simp only [oi1n, nI_add]; done) | (rw [ddA]; done) | (rw [ddB]; done) | (rw [ddD]; done) | (rw [ddE]; done) | (simp only [ddE, ddM]; done) | (simp only [ddG]; done) | (simp only [c4, c4', oi1n, nI_add, pk_mul, if_true, if_false, ↓reduceIte]; done) | (simp only [c4, c4', oi1n, nI_add, pk_mul, bI, and_true, true_and, and_false, false_and, and_self, not_true_eq_false, not_false_eq_true, if_true, if_false, ↓reduceIte] <;> rfl))
    refine V.weq (ws' := mdW E a (nI 0) sm (nI L) pl (ddB s R H C sn (ddA s R H C sn sm 11) 0) s S b w) (by first | with_reducible rfl | (simp only [oi1n, nI_add]; done) | (rw [ddA]; done) | (rw [ddB]; done) | (rw [ddD]; done) | (rw [ddE]; done) | (simp only [ddE, ddM]; done) | (simp only [ddG]; done) | (simp only [c4, c4', oi1n, nI_add, pk_mul, if_true, if_false, ↓reduceIte]; done) | (simp only [c4, c4', oi1n, nI_add, pk_mul, bI, and_true, true_and, and_false, false_and, and_self, not_true_eq_false, not_false_eq_true, if_true, if_false, ↓reduceIte] <;> rfl)) ?_
    refine V.loopW (Wd := fun i5 : Nat => mdW E a (nI 0) sm (nI L) pl (ddB s R H C sn (ddA s R H C sn sm 11) i5) s S b w) (N := 8) (k0 := 0) (I := (fun i5 : Nat => [(1, .int (nI i5)), (0, .ref (a 0))])) (J := fun _ => True) (Nat.zero_le _) trivial (lv_sub hl [0, 1] (by rw [h6]; rfl)) ?_
    intro i5 i5_N i5_J ihi5 ls hl
    have hl : lv_has ls 2 [(1, .int (nI i5)), (0, .ref (a 0))] := hl
    try dsimp only at i5_J ihi5 ⊢
    refine V.iload_n F dX7_digest_38 rfl (lv_at hl 0 rfl) ?_
    refine V.bipush (v := nI 8) F dX7_digest_39 (by decide) ?_
    refine V.icmp_ge (tgt := 55) F dX7_digest_41 (by decide) (fun c7 c7' => ?_) (fun c7 c7' => ?_)
    · skip
      have i5_eq := ((lpL rfl (by omega) i5_N).1 c7).symm
      subst i5_eq
      refine V.iconst (v := nI 0) F dX7_digest_55 (by decide) ?_
      refine V.istore_n (lv' := [(1, .int (nI 0)), (0, .ref (a 0))]) F dX7_digest_56 rfl hl (by decide) rfl (fun ls hl => ?_)
      have h9 : nI 0 = nI 0 := (by first | with_reducible rfl | (simp only [oi1n, nI_add]; done) | (rw [ddA]; done) | (rw [ddB]; done) | (rw [ddD]; done) | (rw [ddE]; done) | (simp only [ddE, ddM]; done) | (simp only [ddG]; done) | (simp only [c4, c4', c7, c7', oi1n, nI_add, pk_mul, if_true, if_false, ↓reduceIte]; done) | (simp only [c4, c4', c7, c7', oi1n, nI_add, pk_mul, bI, and_true, true_and, and_false, false_and, and_self, not_true_eq_false, not_false_eq_true, if_true, if_false, ↓reduceIte] <;> rfl))
      refine V.weq (ws' := mdW E a (nI 0) sm (nI L) pl (ddD s R H D sn (ddB s R H C sn (ddA s R H C sn sm 11) 8) 0) s S b w) (by first | with_reducible rfl | (simp only [oi1n, nI_add]; done) | (rw [ddA]; done) | (rw [ddB]; done) | (rw [ddD]; done) | (rw [ddE]; done) | (simp only [ddE, ddM]; done) | (simp only [ddG]; done) | (simp only [c4, c4', c7, c7', oi1n, nI_add, pk_mul, if_true, if_false, ↓reduceIte]; done) | (simp only [c4, c4', c7, c7', oi1n, nI_add, pk_mul, bI, and_true, true_and, and_false, false_and, and_self, not_true_eq_false, not_false_eq_true, if_true, if_false, ↓reduceIte] <;> rfl)) ?_
      refine V.loopW (Wd := fun k8 : Nat => mdW E a (nI 0) sm (nI L) pl (ddD s R H D sn (ddB s R H C sn (ddA s R H C sn sm 11) 8) k8) s S b w) (N := C) (k0 := 0) (I := (fun k8 : Nat => [(1, .int (nI k8)), (0, .ref (a 0))])) (J := fun _ => True) (Nat.zero_le _) trivial (lv_sub hl [0, 1] (by rw [h9]; rfl)) ?_
      intro k8 k8_N k8_J ihk8 ls hl
      have hl : lv_has ls 2 [(1, .int (nI k8)), (0, .ref (a 0))] := hl
      try dsimp only at k8_J ihk8 ⊢
      refine V.iload_n F dX7_digest_57 rfl (lv_at hl 0 rfl) ?_
      refine V.aload_n F dX7_digest_58 rfl (lv_at hl 1 rfl) ?_
      refine V.getf F hE gX7_7 0 rfl rfl dX7_digest_59 ?_
      refine V.iconst (v := nI 4) F dX7_digest_62 (by decide) ?_
      refine V.iadn (i := 4) F hE 1 rfl (by omega) (by omega) dX7_digest_63 (fun z10 e10 => ?_)
      obtain rfl : z10 = nI C := e10.trans hs4
      refine V.icmp_ge (tgt := 78) F dX7_digest_64 (by decide) (fun c11 c11' => ?_) (fun c11 c11' => ?_)
      · skip
        have k8_eq := ((lpL rfl (by omega) k8_N).1 c11).symm
        subst k8_eq
        refine V.aload_n F dX7_digest_78 rfl (lv_at hl 1 rfl) ?_
        refine V.aload_n F dX7_digest_79 rfl (lv_at hl 1 rfl) ?_
        refine V.iconst (v := nI 3) F dX7_digest_80 (by decide) ?_
        refine V.bipush (v := nI 10) F dX7_digest_81 (by decide) ?_
        refine V.rdV (q0 := 0) F hE (c_X7_costOf l E) (kX7_112 F.2.2.2.2 ⟨Nat.le_of_ble_eq_true rfl, Nat.le_of_ble_eq_true rfl⟩) rfl rfl [0, 1, 2, 3, 4] rfl rfl hl.1 (Nat.le_of_ble_eq_true rfl) dX7_digest_83 rfl ?_
        refine V.topi (fun z12 e12 => ?_)
        refine V.i2l F dX7_digest_86 (fun z13 e13 => ?_)
        refine V.wsVn (q0 := 0) (ws' := mdW E a (nI 0) sm (nI L) pl (31 * (ddD s R H D sn (ddB s R H C sn (ddA s R H C sn sm 11) 8) C) + z13) s S b w) F hE hN (pm_eq (by rfl)) (c_X7_mix l E) (kX7_196 F.2.2.2.2 ⟨Nat.le_of_ble_eq_true rfl, Nat.le_of_ble_eq_true rfl⟩) rfl rfl 0 5 (by rfl) (by rfl) rfl hl.1 (Nat.le_of_ble_eq_true rfl) dX7_digest_87 rfl ?_
        refine V.aload_n F dX7_digest_90 rfl (lv_at hl 1 rfl) ?_
        refine V.aload_n F dX7_digest_91 rfl (lv_at hl 1 rfl) ?_
        refine V.rdV (q0 := 0) F hE (c_X7_share l E hM hnn) (kX7_186 F.2.2.2.2 ⟨Nat.le_of_ble_eq_true rfl, Nat.le_of_ble_eq_true rfl⟩) rfl rfl [0, 1, 2, 3, 4] rfl rfl hl.1 (Nat.le_of_ble_eq_true rfl) dX7_digest_92 rfl ?_
        refine V.topd (fun z14 e14 => ?_)
        refine V.rdS F hE (c_DTL l E (by rw [e14]; exact hdt)) (kX7_209 F.2.2.2.2 ⟨Nat.le_of_ble_eq_true rfl, Nat.le_of_ble_eq_true rfl⟩) [] rfl rfl hl.1 (Nat.le_of_ble_eq_true rfl) dX7_digest_95 rfl ?_
        refine V.topl (fun z15 e15 => ?_)
        refine V.wsVn (q0 := 0) (ws' := mdW E a (nI 0) sm (nI L) pl (31 * (31 * (ddD s R H D sn (ddB s R H C sn (ddA s R H C sn sm 11) 8) C) + z13) + z15) s S b w) F hE hN (pm_eq (by rfl)) (c_X7_mix l E) (kX7_196 F.2.2.2.2 ⟨Nat.le_of_ble_eq_true rfl, Nat.le_of_ble_eq_true rfl⟩) rfl rfl 0 5 (by rfl) (by rfl) rfl hl.1 (Nat.le_of_ble_eq_true rfl) dX7_digest_98 rfl ?_
        refine V.aload_n F dX7_digest_101 rfl (lv_at hl 1 rfl) ?_
        refine V.aload_n F dX7_digest_102 rfl (lv_at hl 1 rfl) ?_
        refine V.getfi F hE gX7_121 0 rfl rfl dX7_digest_103 (fun z16 e16 => ?_)
        subst e16
        refine V.i2l F dX7_digest_106 (fun z17 e17 => ?_)
        refine V.wsVn (q0 := 0) (ws' := mdW E a (nI 0) sm (nI L) pl (31 * (31 * (31 * (ddD s R H D sn (ddB s R H C sn (ddA s R H C sn sm 11) 8) C) + z13) + z15) + z17) s S b w) F hE hN (pm_eq (by rfl)) (c_X7_mix l E) (kX7_196 F.2.2.2.2 ⟨Nat.le_of_ble_eq_true rfl, Nat.le_of_ble_eq_true rfl⟩) rfl rfl 0 5 (by rfl) (by rfl) rfl hl.1 (Nat.le_of_ble_eq_true rfl) dX7_digest_107 rfl ?_
        refine V.iconst (v := nI 0) F dX7_digest_110 (by decide) ?_
        refine V.istore_n (lv' := [(1, .int (nI 0)), (0, .ref (a 0))]) F dX7_digest_111 rfl hl (by decide) rfl (fun ls hl => ?_)
        have h19 : nI 0 = nI 0 := (by subst e12 e13 e14 e15 e17; first | with_reducible rfl | (simp only [oi1n, nI_add]; done) | (rw [ddA]; done) | (rw [ddB]; done) | (rw [ddD]; done) | (rw [ddE]; done) | (simp only [ddE, ddM]; done) | (simp only [ddG]; done) | (simp only [c4, c4', c7, c7', c11, c11', oi1n, nI_add, pk_mul, if_true, if_false, ↓reduceIte]; done) | (simp only [c4, c4', c7, c7', c11, c11', oi1n, nI_add, pk_mul, bI, and_true, true_and, and_false, false_and, and_self, not_true_eq_false, not_false_eq_true, if_true, if_false, ↓reduceIte] <;> rfl))
        refine V.weq (ws' := mdW E a (nI 0) sm (nI L) pl (ddE b (ddM s R H C D sn sm L) 0) s S b w) (by subst e12 e13 e14 e15 e17; first | with_reducible rfl | (simp only [oi1n, nI_add]; done) | (rw [ddA]; done) | (rw [ddB]; done) | (rw [ddD]; done) | (rw [ddE]; done) | (simp only [ddE, ddM]; done) | (simp only [ddG]; done) | (simp only [c4, c4', c7, c7', c11, c11', oi1n, nI_add, pk_mul, if_true, if_false, ↓reduceIte]; done) | (simp only [c4, c4', c7, c7', c11, c11', oi1n, nI_add, pk_mul, bI, and_true, true_and, and_false, false_and, and_self, not_true_eq_false, not_false_eq_true, if_true, if_false, ↓reduceIte] <;> rfl)) ?_
        refine V.loopW (Wd := fun o18 : Nat => mdW E a (nI 0) sm (nI L) pl (ddE b (ddM s R H C D sn sm L) o18) s S b w) (N := L) (k0 := 0) (I := (fun o18 : Nat => [(1, .int (nI o18)), (0, .ref (a 0))])) (J := fun _ => True) (Nat.zero_le _) trivial (lv_sub hl [0, 1] (by rw [h19]; rfl)) ?_
        intro o18 o18_N o18_J iho18 ls hl
        have hl : lv_has ls 2 [(1, .int (nI o18)), (0, .ref (a 0))] := hl
        try dsimp only at o18_J iho18 ⊢
        refine V.iload_n F dX7_digest_112 rfl (lv_at hl 0 rfl) ?_
        refine V.aload_n F dX7_digest_113 rfl (lv_at hl 1 rfl) ?_
        refine V.getfi F hE gX7_121 0 rfl rfl dX7_digest_114 (fun z20 e20 => ?_)
        subst e20
        refine V.icmp_ge (tgt := 137) F dX7_digest_117 (by decide) (fun c21 c21' => ?_) (fun c21 c21' => ?_)
        · skip
          have o18_eq := ((lpL rfl (by omega) o18_N).1 c21).symm
          subst o18_eq
          refine V.aload_n F dX7_digest_137 rfl (lv_at hl 1 rfl) ?_
          refine V.getf F hE gX7_192 0 rfl rfl dX7_digest_138 (V.topl fun z22 e22 => ?_)
          exact V.lretW F hr hk dX7_digest_141 (by subst e12 e13 e14 e15 e17 e22; first | with_reducible rfl | (simp only [oi1n, nI_add]; done) | (rw [ddA]; done) | (rw [ddB]; done) | (rw [ddD]; done) | (rw [ddE]; done) | (simp only [ddE, ddM]; done) | (simp only [ddG]; done) | (simp only [c4, c4', c7, c7', c11, c11', c21, c21', oi1n, nI_add, pk_mul, if_true, if_false, ↓reduceIte]; done) | (simp only [c4, c4', c7, c7', c11, c11', c21, c21', oi1n, nI_add, pk_mul, bI, and_true, true_and, and_false, false_and, and_self, not_true_eq_false, not_false_eq_true, if_true, if_false, ↓reduceIte] <;> rfl)) (by subst e12 e13 e14 e15 e17 e22; first | with_reducible rfl | (simp only [oi1n, nI_add]; done) | (rw [ddA]; done) | (rw [ddB]; done) | (rw [ddD]; done) | (rw [ddE]; done) | (simp only [ddE, ddM]; done) | (simp only [ddG]; done) | (simp only [c4, c4', c7, c7', c11, c11', c21, c21', oi1n, nI_add, pk_mul, if_true, if_false, ↓reduceIte]; done) | (simp only [c4, c4', c7, c7', c11, c11', c21, c21', oi1n, nI_add, pk_mul, bI, and_true, true_and, and_false, false_and, and_self, not_true_eq_false, not_false_eq_true, if_true, if_false, ↓reduceIte] <;> rfl))
        · skip
          have o18_lt := (lpL rfl (by omega) o18_N).2 c21
          refine V.aload_n F dX7_digest_120 rfl (lv_at hl 1 rfl) ?_
          refine V.aload_n F dX7_digest_121 rfl (lv_at hl 1 rfl) ?_
          refine V.getf F hE gX7_16 0 rfl rfl dX7_digest_122 ?_
          refine V.iload_n F dX7_digest_125 rfl (lv_at hl 0 rfl) ?_
          refine V.iadn (i := o18) F hE 3 rfl (by omega) (by omega) dX7_digest_126 (fun z23 e23 => ?_)
          refine V.i2l F dX7_digest_127 (fun z24 e24 => ?_)
          refine V.wsVn (q0 := 0) (ws' := mdW E a (nI 0) sm (nI L) pl (31 * (ddE b (ddM s R H C D sn sm L) o18) + z24) s S b w) F hE hN (pm_eq (by rfl)) (c_X7_mix l E) (kX7_196 F.2.2.2.2 ⟨Nat.le_of_ble_eq_true rfl, Nat.le_of_ble_eq_true rfl⟩) rfl rfl 0 5 (by rfl) (by rfl) rfl hl.1 (Nat.le_of_ble_eq_true rfl) dX7_digest_128 rfl ?_
          refine V.iinc (j := 0) (lv' := fun z25 => [(1, .int z25), (0, .ref (a 0))]) F dX7_digest_131 hl rfl (by decide) (fun _ => rfl) (fun z25 e25 ls hl => ?_)
          refine V.goto (tgt := 112) F dX7_digest_134 (by decide) ?_
          have h26 : nI (o18 + 1) = z25 := (by subst e12 e13 e14 e15 e17 e23 e24 e25; first | with_reducible rfl | (simp only [oi1n, nI_add]; done) | (rw [ddA]; done) | (rw [ddB]; done) | (rw [ddD]; done) | (rw [ddE]; done) | (simp only [ddE, ddM]; done) | (simp only [ddG]; done) | (simp only [c4, c4', c7, c7', c11, c11', c21, c21', oi1n, nI_add, pk_mul, if_true, if_false, ↓reduceIte]; done) | (simp only [c4, c4', c7, c7', c11, c11', c21, c21', oi1n, nI_add, pk_mul, bI, and_true, true_and, and_false, false_and, and_self, not_true_eq_false, not_false_eq_true, if_true, if_false, ↓reduceIte] <;> rfl))
          refine V.weq (ws' := mdW E a (nI 0) sm (nI L) pl (ddE b (ddM s R H C D sn sm L) (o18 + 1)) s S b w) (by subst e12 e13 e14 e15 e17 e23 e24 e25; first | with_reducible rfl | (simp only [oi1n, nI_add]; done) | (rw [ddA]; done) | (rw [ddB]; done) | (rw [ddD]; done) | (rw [ddE]; done) | (simp only [ddE, ddM]; done) | (simp only [ddG]; done) | (simp only [c4, c4', c7, c7', c11, c11', c21, c21', oi1n, nI_add, pk_mul, if_true, if_false, ↓reduceIte]; done) | (simp only [c4, c4', c7, c7', c11, c11', c21, c21', oi1n, nI_add, pk_mul, bI, and_true, true_and, and_false, false_and, and_self, not_true_eq_false, not_false_eq_true, if_true, if_false, ↓reduceIte] <;> rfl)) ?_
          exact iho18 o18_lt trivial _ (lv_sub hl [0, 1] (by rw [h26]; rfl))
      · skip
        have k8_lt := (lpL rfl (by omega) k8_N).2 c11
        refine V.aload_n F dX7_digest_67 rfl (lv_at hl 1 rfl) ?_
        refine V.iload_n F dX7_digest_68 rfl (lv_at hl 0 rfl) ?_
        refine V.wsVn (q0 := 0) (ws' := mdW E a (nI 0) sm (nI L) pl (mrC s R H D sn k8 (ddD s R H D sn (ddB s R H C sn (ddA s R H C sn sm 11) 8) k8)) s S b w) F hE hN (pm_eq (by rfl)) (c_X7_mixScene l E hM (by omega)) (kX7_206 F.2.2.2.2 ⟨Nat.le_of_ble_eq_true rfl, Nat.le_of_ble_eq_true rfl⟩) rfl rfl 0 5 (by rfl) (by rfl) rfl hl.1 (Nat.le_of_ble_eq_true rfl) dX7_digest_69 rfl ?_
        refine V.iinc (j := 0) (lv' := fun z27 => [(1, .int z27), (0, .ref (a 0))]) F dX7_digest_72 hl rfl (by decide) (fun _ => rfl) (fun z27 e27 ls hl => ?_)
        refine V.goto (tgt := 57) F dX7_digest_75 (by decide) ?_
        have h28 : nI (k8 + 1) = z27 := (by subst e27; first | with_reducible rfl | (simp only [oi1n, nI_add]; done) | (rw [ddA]; done) | (rw [ddB]; done) | (rw [ddD]; done) | (rw [ddE]; done) | (simp only [ddE, ddM]; done) | (simp only [ddG]; done) | (simp only [c4, c4', c7, c7', c11, c11', oi1n, nI_add, pk_mul, if_true, if_false, ↓reduceIte]; done) | (simp only [c4, c4', c7, c7', c11, c11', oi1n, nI_add, pk_mul, bI, and_true, true_and, and_false, false_and, and_self, not_true_eq_false, not_false_eq_true, if_true, if_false, ↓reduceIte] <;> rfl))
        refine V.weq (ws' := mdW E a (nI 0) sm (nI L) pl (ddD s R H D sn (ddB s R H C sn (ddA s R H C sn sm 11) 8) (k8 + 1)) s S b w) (by subst e27; first | with_reducible rfl | (simp only [oi1n, nI_add]; done) | (rw [ddA]; done) | (rw [ddB]; done) | (rw [ddD]; done) | (rw [ddE]; done) | (simp only [ddE, ddM]; done) | (simp only [ddG]; done) | (simp only [c4, c4', c7, c7', c11, c11', oi1n, nI_add, pk_mul, if_true, if_false, ↓reduceIte]; done) | (simp only [c4, c4', c7, c7', c11, c11', oi1n, nI_add, pk_mul, bI, and_true, true_and, and_false, false_and, and_self, not_true_eq_false, not_false_eq_true, if_true, if_false, ↓reduceIte] <;> rfl)) ?_
        exact ihk8 k8_lt trivial _ (lv_sub hl [0, 1] (by rw [h28]; rfl))
    · skip
      have i5_lt := (lpL rfl (by omega) i5_N).2 c7
      refine V.aload_n F dX7_digest_44 rfl (lv_at hl 1 rfl) ?_
      refine V.iload_n F dX7_digest_45 rfl (lv_at hl 0 rfl) ?_
      refine V.wsVn (q0 := 0) (ws' := mdW E a (nI 0) sm (nI L) pl (mqC s R H C sn i5 (ddB s R H C sn (ddA s R H C sn sm 11) i5)) s S b w) F hE hN (pm_eq (by rfl)) (c_X7_mixPerson l E hM (by omega)) (kX7_202 F.2.2.2.2 ⟨Nat.le_of_ble_eq_true rfl, Nat.le_of_ble_eq_true rfl⟩) rfl rfl 0 5 (by rfl) (by rfl) rfl hl.1 (Nat.le_of_ble_eq_true rfl) dX7_digest_46 rfl ?_
      refine V.iinc (j := 0) (lv' := fun z29 => [(1, .int z29), (0, .ref (a 0))]) F dX7_digest_49 hl rfl (by decide) (fun _ => rfl) (fun z29 e29 ls hl => ?_)
      refine V.goto (tgt := 38) F dX7_digest_52 (by decide) ?_
      have h30 : nI (i5 + 1) = z29 := (by subst e29; first | with_reducible rfl | (simp only [oi1n, nI_add]; done) | (rw [ddA]; done) | (rw [ddB]; done) | (rw [ddD]; done) | (rw [ddE]; done) | (simp only [ddE, ddM]; done) | (simp only [ddG]; done) | (simp only [c4, c4', c7, c7', oi1n, nI_add, pk_mul, if_true, if_false, ↓reduceIte]; done) | (simp only [c4, c4', c7, c7', oi1n, nI_add, pk_mul, bI, and_true, true_and, and_false, false_and, and_self, not_true_eq_false, not_false_eq_true, if_true, if_false, ↓reduceIte] <;> rfl))
      refine V.weq (ws' := mdW E a (nI 0) sm (nI L) pl (ddB s R H C sn (ddA s R H C sn sm 11) (i5 + 1)) s S b w) (by subst e29; first | with_reducible rfl | (simp only [oi1n, nI_add]; done) | (rw [ddA]; done) | (rw [ddB]; done) | (rw [ddD]; done) | (rw [ddE]; done) | (simp only [ddE, ddM]; done) | (simp only [ddG]; done) | (simp only [c4, c4', c7, c7', oi1n, nI_add, pk_mul, if_true, if_false, ↓reduceIte]; done) | (simp only [c4, c4', c7, c7', oi1n, nI_add, pk_mul, bI, and_true, true_and, and_false, false_and, and_self, not_true_eq_false, not_false_eq_true, if_true, if_false, ↓reduceIte] <;> rfl)) ?_
      exact ihi5 i5_lt trivial _ (lv_sub hl [0, 1] (by rw [h30]; rfl))
  · skip
    have j2_lt := (lpL rfl (by omega) j2_N).2 c4
    refine V.aload_n F dX7_digest_20 rfl (lv_at hl 1 rfl) ?_
    refine V.aload_n F dX7_digest_21 rfl (lv_at hl 1 rfl) ?_
    refine V.iload_n F dX7_digest_22 rfl (lv_at hl 0 rfl) ?_
    refine V.rdV (q0 := 0) F hE (c_X7_tellsCount l E hM (by omega)) (kX7_171 F.2.2.2.2 ⟨Nat.le_of_ble_eq_true rfl, Nat.le_of_ble_eq_true rfl⟩) rfl rfl [0, 1, 2, 3, 4] rfl rfl hl.1 (Nat.le_of_ble_eq_true rfl) dX7_digest_23 rfl ?_
    refine V.topi (fun z31 e31 => ?_)
    refine V.i2l F dX7_digest_26 (fun z32 e32 => ?_)
    refine V.wsVn (q0 := 0) (ws' := mdW E a (nI 0) sm (nI L) pl (31 * (ddA s R H C sn sm j2) + z32) s S b w) F hE hN (pm_eq (by rfl)) (c_X7_mix l E) (kX7_196 F.2.2.2.2 ⟨Nat.le_of_ble_eq_true rfl, Nat.le_of_ble_eq_true rfl⟩) rfl rfl 0 5 (by rfl) (by rfl) rfl hl.1 (Nat.le_of_ble_eq_true rfl) dX7_digest_27 rfl ?_
    refine V.iinc (j := 0) (lv' := fun z33 => [(1, .int z33), (0, .ref (a 0))]) F dX7_digest_30 hl rfl (by decide) (fun _ => rfl) (fun z33 e33 ls hl => ?_)
    refine V.goto (tgt := 14) F dX7_digest_33 (by decide) ?_
    have h34 : nI (j2 + 1) = z33 := (by subst e31 e32 e33; first | with_reducible rfl | (simp only [oi1n, nI_add]; done) | (rw [ddA]; done) | (rw [ddB]; done) | (rw [ddD]; done) | (rw [ddE]; done) | (simp only [ddE, ddM]; done) | (simp only [ddG]; done) | (simp only [c4, c4', oi1n, nI_add, pk_mul, if_true, if_false, ↓reduceIte]; done) | (simp only [c4, c4', oi1n, nI_add, pk_mul, bI, and_true, true_and, and_false, false_and, and_self, not_true_eq_false, not_false_eq_true, if_true, if_false, ↓reduceIte] <;> rfl))
    refine V.weq (ws' := mdW E a (nI 0) sm (nI L) pl (ddA s R H C sn sm (j2 + 1)) s S b w) (by subst e31 e32 e33; first | with_reducible rfl | (simp only [oi1n, nI_add]; done) | (rw [ddA]; done) | (rw [ddB]; done) | (rw [ddD]; done) | (rw [ddE]; done) | (simp only [ddE, ddM]; done) | (simp only [ddG]; done) | (simp only [c4, c4', oi1n, nI_add, pk_mul, if_true, if_false, ↓reduceIte]; done) | (simp only [c4, c4', oi1n, nI_add, pk_mul, bI, and_true, true_and, and_false, false_and, and_self, not_true_eq_false, not_false_eq_true, if_true, if_false, ↓reduceIte] <;> rfl)) ?_
    exact ihj2 j2_lt trivial _ (lv_sub hl [0, 1] (by rw [h34]; rfl))
