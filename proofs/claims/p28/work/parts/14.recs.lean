set_option maxHeartbeats 4000000 in
set_option maxRecDepth 100000 in
theorem c_X2_countingOn (l : Launch) (E : EV) {o a1 a2 a3 a4 : Nat} {n : Int32} {fp fk fr fd : Nat → Int32} {d p k r : Int32} : Rd l E yX2_countingOn cX2_countingOn 7 (some .int) 1 21 [.ref o, .int d, .int p, .int k, .int r] (reO E o a1 a2 a3 a4 n fp fk fr fd) (some (.int (cntC fp fk fr fd d p k r n.toNatClampNeg))) := by
  refine Rd.mk0 (by decide) (Nat.le_of_ble_eq_true rfl) ?_
  intro pP eE sS mM aA bB mt cC F hr hk hE ls hl
  have hl : lv_has ls 7 [(0, .ref o), (1, .int d), (2, .int p), (3, .int k), (4, .int r)] := hl
  refine V.iconst (v := 0) F dX2_countingOn_0 (by decide) ?_
  refine V.istore (lv' := [(5, .int 0), (0, .ref o), (1, .int d), (2, .int p), (3, .int k), (4, .int r)]) F dX2_countingOn_1 hl (by decide) rfl (fun ls hl => ?_)
  refine V.iconst (v := 0) F dX2_countingOn_3 (by decide) ?_
  refine V.istore (lv' := [(6, .int 0), (5, .int 0), (0, .ref o), (1, .int d), (2, .int p), (3, .int k), (4, .int r)]) F dX2_countingOn_4 hl (by decide) rfl (fun ls hl => ?_)
  have h2 : nI 0 = 0 := (by first | rfl | (simp only [cntC, oi1, nI_succ, bI, and_true, true_and, and_false, false_and, and_self, or_true, true_or, or_false, false_or, or_self, not_true_eq_false, not_false_eq_true, if_true, if_false, ↓reduceIte]; done) | (simp [cntC, bI, oi1, nI_succ]; done))
  have h3 : cntC fp fk fr fd d p k r 0 = 0 := (by first | rfl | (simp only [cntC, oi1, nI_succ, bI, and_true, true_and, and_false, false_and, and_self, or_true, true_or, or_false, false_or, or_self, not_true_eq_false, not_false_eq_true, if_true, if_false, ↓reduceIte]; done) | (simp [cntC, bI, oi1, nI_succ]; done))
  refine V.loop (N := n.toNatClampNeg) (k0 := 0) (I := (fun j1 : Nat => [(6, .int (nI j1)), (5, .int (cntC fp fk fr fd d p k r j1)), (0, .ref o), (1, .int d), (2, .int p), (3, .int k), (4, .int r)])) (J := fun _ => True) (Nat.zero_le _) trivial (lv_sub hl [0, 1, 2, 3, 4, 5, 6] (by rw [h2, h3]; rfl)) ?_
  intro j1 j1_N j1_J ihj1 ls hl
  have hl : lv_has ls 7 [(6, .int (nI j1)), (5, .int (cntC fp fk fr fd d p k r j1)), (0, .ref o), (1, .int d), (2, .int p), (3, .int k), (4, .int r)] := hl
  refine V.iload F dX2_countingOn_6 (lv_at hl 0 rfl) ?_
  refine V.aload_n F dX2_countingOn_8 rfl (lv_at hl 2 rfl) ?_
  refine V.getfi F hE gX2_9 0 rfl rfl dX2_countingOn_9 (fun z4 e4 => ?_)
  refine V.icmp_ge (tgt := 87) F dX2_countingOn_12 (by decide) (fun c5 c5' => ?_) (fun c5 c5' => ?_)
  · skip
    have j1_eq := ((lpT j1_N).1 (by rw [← e4]; exact c5)).symm
    subst j1_eq
    refine V.iload F dX2_countingOn_87 (lv_at hl 1 rfl) ?_
    exact V.iretR F hr hk dX2_countingOn_89 (by subst e4; first | rfl | (simp only [cntC, c5, c5', oi1, nI_succ, bI, and_true, true_and, and_false, false_and, and_self, or_true, true_or, or_false, false_or, or_self, not_true_eq_false, not_false_eq_true, if_true, if_false, ↓reduceIte]; done) | (simp [cntC, c5, c5', bI, oi1, nI_succ]; done))
  · skip
    have j1_lt := (lpT j1_N).2 (by rw [← e4]; exact c5)
    refine V.aload_n F dX2_countingOn_15 rfl (lv_at hl 2 rfl) ?_
    refine V.getf F hE gX2_15 0 rfl rfl dX2_countingOn_16 ?_
    refine V.iload F dX2_countingOn_19 (lv_at hl 0 rfl) ?_
    refine V.rdSN F hE (c_X6_at l E (by first | assumption | omega)) (kX2_36 F.2.2.2.2 hE.2.1 ⟨Nat.le_of_ble_eq_true rfl, Nat.le_of_ble_eq_true rfl⟩) [1] rfl rfl hl.1 (Nat.le_of_ble_eq_true rfl) dX2_countingOn_21 rfl ?_
    refine V.topi (fun z6 e6 => ?_)
    refine V.iload_n F dX2_countingOn_24 rfl (lv_at hl 4 rfl) ?_
    refine V.icmp_ne (tgt := 81) F dX2_countingOn_25 (by decide) (fun c7 => ?_) (fun c7 => ?_)
    · skip
      refine V.iinc (j := 0) (lv' := fun z8 => [(6, .int z8), (5, .int (cntC fp fk fr fd d p k r j1)), (0, .ref o), (1, .int d), (2, .int p), (3, .int k), (4, .int r)]) F dX2_countingOn_81 hl rfl (by decide) (fun _ => rfl) (fun z8 e8 ls hl => ?_)
      refine V.goto (tgt := 6) F dX2_countingOn_84 (by decide) ?_
      have h9 : nI (j1 + 1) = z8 := (by subst e4 e6 e8; first | rfl | (simp only [cntC, c5, c5', c7, oi1, nI_succ, bI, and_true, true_and, and_false, false_and, and_self, or_true, true_or, or_false, false_or, or_self, not_true_eq_false, not_false_eq_true, if_true, if_false, ↓reduceIte]; done) | (simp [cntC, c5, c5', c7, bI, oi1, nI_succ]; done))
      have h10 : cntC fp fk fr fd d p k r (j1 + 1) = cntC fp fk fr fd d p k r j1 := (by subst e4 e6 e8; first | rfl | (simp only [cntC, c5, c5', c7, oi1, nI_succ, bI, and_true, true_and, and_false, false_and, and_self, or_true, true_or, or_false, false_or, or_self, not_true_eq_false, not_false_eq_true, if_true, if_false, ↓reduceIte]; done) | (simp [cntC, c5, c5', c7, bI, oi1, nI_succ]; done))
      exact ihj1 j1_lt trivial _ (lv_sub hl [0, 1, 2, 3, 4, 5, 6] (by rw [h9, h10]; rfl))
    · skip
      refine V.aload_n F dX2_countingOn_28 rfl (lv_at hl 2 rfl) ?_
      refine V.getf F hE gX2_19 0 rfl rfl dX2_countingOn_29 ?_
      refine V.iload F dX2_countingOn_32 (lv_at hl 0 rfl) ?_
      refine V.rdSN F hE (c_X6_at l E (by first | assumption | omega)) (kX2_36 F.2.2.2.2 hE.2.1 ⟨Nat.le_of_ble_eq_true rfl, Nat.le_of_ble_eq_true rfl⟩) [2] rfl rfl hl.1 (Nat.le_of_ble_eq_true rfl) dX2_countingOn_34 rfl ?_
      refine V.topi (fun z11 e11 => ?_)
      refine V.iload_n F dX2_countingOn_37 rfl (lv_at hl 5 rfl) ?_
      refine V.icmp_ne (tgt := 81) F dX2_countingOn_38 (by decide) (fun c12 => ?_) (fun c12 => ?_)
      · skip
        refine V.iinc (j := 0) (lv' := fun z13 => [(6, .int z13), (5, .int (cntC fp fk fr fd d p k r j1)), (0, .ref o), (1, .int d), (2, .int p), (3, .int k), (4, .int r)]) F dX2_countingOn_81 hl rfl (by decide) (fun _ => rfl) (fun z13 e13 ls hl => ?_)
        refine V.goto (tgt := 6) F dX2_countingOn_84 (by decide) ?_
        have h14 : nI (j1 + 1) = z13 := (by subst e4 e6 e11 e13; first | rfl | (simp only [cntC, c5, c5', c7, c12, oi1, nI_succ, bI, and_true, true_and, and_false, false_and, and_self, or_true, true_or, or_false, false_or, or_self, not_true_eq_false, not_false_eq_true, if_true, if_false, ↓reduceIte]; done) | (simp [cntC, c5, c5', c7, c12, bI, oi1, nI_succ]; done))
        have h15 : cntC fp fk fr fd d p k r (j1 + 1) = cntC fp fk fr fd d p k r j1 := (by subst e4 e6 e11 e13; first | rfl | (simp only [cntC, c5, c5', c7, c12, oi1, nI_succ, bI, and_true, true_and, and_false, false_and, and_self, or_true, true_or, or_false, false_or, or_self, not_true_eq_false, not_false_eq_true, if_true, if_false, ↓reduceIte]; done) | (simp [cntC, c5, c5', c7, c12, bI, oi1, nI_succ]; done))
        exact ihj1 j1_lt trivial _ (lv_sub hl [0, 1, 2, 3, 4, 5, 6] (by rw [h14, h15]; rfl))
      · skip
        refine V.aload_n F dX2_countingOn_41 rfl (lv_at hl 2 rfl) ?_
        refine V.getf F hE gX2_22 0 rfl rfl dX2_countingOn_42 ?_
        refine V.iload F dX2_countingOn_45 (lv_at hl 0 rfl) ?_
        refine V.rdSN F hE (c_X6_at l E (by first | assumption | omega)) (kX2_36 F.2.2.2.2 hE.2.1 ⟨Nat.le_of_ble_eq_true rfl, Nat.le_of_ble_eq_true rfl⟩) [3] rfl rfl hl.1 (Nat.le_of_ble_eq_true rfl) dX2_countingOn_47 rfl ?_
        refine V.topi (fun z16 e16 => ?_)
        refine V.iload F dX2_countingOn_50 (lv_at hl 6 rfl) ?_
        refine V.iconst (v := 1) F dX2_countingOn_52 (by decide) ?_
        refine V.isub F dX2_countingOn_53 (fun z17 e17 => ?_)
        refine V.icmp_lt (tgt := 81) F dX2_countingOn_54 (by decide) (fun c18 c18' => ?_) (fun c18 c18' => ?_)
        · skip
          refine V.iinc (j := 0) (lv' := fun z19 => [(6, .int z19), (5, .int (cntC fp fk fr fd d p k r j1)), (0, .ref o), (1, .int d), (2, .int p), (3, .int k), (4, .int r)]) F dX2_countingOn_81 hl rfl (by decide) (fun _ => rfl) (fun z19 e19 ls hl => ?_)
          refine V.goto (tgt := 6) F dX2_countingOn_84 (by decide) ?_
          have h20 : nI (j1 + 1) = z19 := (by subst e4 e6 e11 e16 e17 e19; first | rfl | (simp only [cntC, c5, c5', c7, c12, c18, c18', oi1, nI_succ, bI, and_true, true_and, and_false, false_and, and_self, or_true, true_or, or_false, false_or, or_self, not_true_eq_false, not_false_eq_true, if_true, if_false, ↓reduceIte]; done) | (simp [cntC, c5, c5', c7, c12, c18, c18', bI, oi1, nI_succ]; done))
          have h21 : cntC fp fk fr fd d p k r (j1 + 1) = cntC fp fk fr fd d p k r j1 := (by subst e4 e6 e11 e16 e17 e19; first | rfl | (simp only [cntC, c5, c5', c7, c12, c18, c18', oi1, nI_succ, bI, and_true, true_and, and_false, false_and, and_self, or_true, true_or, or_false, false_or, or_self, not_true_eq_false, not_false_eq_true, if_true, if_false, ↓reduceIte]; done) | (simp [cntC, c5, c5', c7, c12, c18, c18', bI, oi1, nI_succ]; done))
          exact ihj1 j1_lt trivial _ (lv_sub hl [0, 1, 2, 3, 4, 5, 6] (by rw [h20, h21]; rfl))
        · skip
          refine V.iload_n F dX2_countingOn_57 rfl (lv_at hl 3 rfl) ?_
          refine V.aload_n F dX2_countingOn_58 rfl (lv_at hl 2 rfl) ?_
          refine V.getf F hE gX2_25 0 rfl rfl dX2_countingOn_59 ?_
          refine V.iload F dX2_countingOn_62 (lv_at hl 0 rfl) ?_
          refine V.rdSN F hE (c_X6_at l E (by first | assumption | omega)) (kX2_36 F.2.2.2.2 hE.2.1 ⟨Nat.le_of_ble_eq_true rfl, Nat.le_of_ble_eq_true rfl⟩) [4] rfl rfl hl.1 (Nat.le_of_ble_eq_true rfl) dX2_countingOn_64 rfl ?_
          refine V.topi (fun z22 e22 => ?_)
          refine V.getsN F hE hE.2.2.1.1 sX2_40 dX2_countingOn_67 ?_
          refine V.iload_n F dX2_countingOn_70 rfl (lv_at hl 5 rfl) ?_
          refine V.rdSN F hE (c_X6_at_T0 l E) (kX2_36 F.2.2.2.2 hE.2.1 ⟨Nat.le_of_ble_eq_true rfl, Nat.le_of_ble_eq_true rfl⟩) [] rfl rfl hl.1 (Nat.le_of_ble_eq_true rfl) dX2_countingOn_71 rfl ?_
          refine V.topi (fun z23 e23 => ?_)
          refine V.iadd F dX2_countingOn_74 (fun z24 e24 => ?_)
          refine V.icmp_ge (tgt := 81) F dX2_countingOn_75 (by decide) (fun c25 c25' => ?_) (fun c25 c25' => ?_)
          · skip
            refine V.iinc (j := 0) (lv' := fun z26 => [(6, .int z26), (5, .int (cntC fp fk fr fd d p k r j1)), (0, .ref o), (1, .int d), (2, .int p), (3, .int k), (4, .int r)]) F dX2_countingOn_81 hl rfl (by decide) (fun _ => rfl) (fun z26 e26 ls hl => ?_)
            refine V.goto (tgt := 6) F dX2_countingOn_84 (by decide) ?_
            have h27 : nI (j1 + 1) = z26 := (by subst e4 e6 e11 e16 e17 e22 e23 e24 e26; first | rfl | (simp only [cntC, c5, c5', c7, c12, c18, c18', c25, c25', oi1, nI_succ, bI, and_true, true_and, and_false, false_and, and_self, or_true, true_or, or_false, false_or, or_self, not_true_eq_false, not_false_eq_true, if_true, if_false, ↓reduceIte]; done) | (simp [cntC, c5, c5', c7, c12, c18, c18', c25, c25', bI, oi1, nI_succ]; done))
            have h28 : cntC fp fk fr fd d p k r (j1 + 1) = cntC fp fk fr fd d p k r j1 := (by subst e4 e6 e11 e16 e17 e22 e23 e24 e26; first | rfl | (simp only [cntC, c5, c5', c7, c12, c18, c18', c25, c25', oi1, nI_succ, bI, and_true, true_and, and_false, false_and, and_self, or_true, true_or, or_false, false_or, or_self, not_true_eq_false, not_false_eq_true, if_true, if_false, ↓reduceIte]; done) | (simp [cntC, c5, c5', c7, c12, c18, c18', c25, c25', bI, oi1, nI_succ]; done))
            exact ihj1 j1_lt trivial _ (lv_sub hl [0, 1, 2, 3, 4, 5, 6] (by rw [h27, h28]; rfl))
          · skip
            refine V.iinc (j := 1) (lv' := fun z29 => [(5, .int z29), (6, .int (nI j1)), (0, .ref o), (1, .int d), (2, .int p), (3, .int k), (4, .int r)]) F dX2_countingOn_78 hl rfl (by decide) (fun _ => rfl) (fun z29 e29 ls hl => ?_)
            refine V.iinc (j := 1) (lv' := fun z30 => [(6, .int z30), (5, .int z29), (0, .ref o), (1, .int d), (2, .int p), (3, .int k), (4, .int r)]) F dX2_countingOn_81 hl rfl (by decide) (fun _ => rfl) (fun z30 e30 ls hl => ?_)
            refine V.goto (tgt := 6) F dX2_countingOn_84 (by decide) ?_
            have h31 : nI (j1 + 1) = z30 := (by subst e4 e6 e11 e16 e17 e22 e23 e24 e29 e30; first | rfl | (simp only [cntC, c5, c5', c7, c12, c18, c18', c25, c25', oi1, nI_succ, bI, and_true, true_and, and_false, false_and, and_self, or_true, true_or, or_false, false_or, or_self, not_true_eq_false, not_false_eq_true, if_true, if_false, ↓reduceIte]; done) | (simp [cntC, c5, c5', c7, c12, c18, c18', c25, c25', bI, oi1, nI_succ]; done))
            have h32 : cntC fp fk fr fd d p k r (j1 + 1) = z29 := (by subst e4 e6 e11 e16 e17 e22 e23 e24 e29 e30; first | rfl | (simp only [cntC, c5, c5', c7, c12, c18, c18', c25, c25', oi1, nI_succ, bI, and_true, true_and, and_false, false_and, and_self, or_true, true_or, or_false, false_or, or_self, not_true_eq_false, not_false_eq_true, if_true, if_false, ↓reduceIte]; done) | (simp [cntC, c5, c5', c7, c12, c18, c18', c25, c25', bI, oi1, nI_succ]; done))
            exact ihj1 j1_lt trivial _ (lv_sub hl [0, 1, 2, 3, 4, 5, 6] (by rw [h31, h32]; rfl))
set_option maxHeartbeats 4000000 in
set_option maxRecDepth 100000 in
theorem c_X0_partsOn (l : Launch) (E : EV) {o a1 a2 a3 : Nat} {n : Int32} {fp fa fl : Nat → Int32} {d p : Int32} : Rd l E yX0_partsOn cX0_partsOn 5 (some .int) 1 21 [.ref o, .int d, .int p] (inO E o a1 a2 a3 n fp fa fl) (some (.int (parC fp fa fl d p n.toNatClampNeg))) := by
  refine Rd.mk0 (by decide) (Nat.le_of_ble_eq_true rfl) ?_
  intro pP eE sS mM aA bB mt cC F hr hk hE ls hl
  have hl : lv_has ls 5 [(0, .ref o), (1, .int d), (2, .int p)] := hl
  refine V.iconst (v := 0) F dX0_partsOn_0 (by decide) ?_
  refine V.istore_n (lv' := [(3, .int 0), (0, .ref o), (1, .int d), (2, .int p)]) F dX0_partsOn_1 rfl hl (by decide) rfl (fun ls hl => ?_)
  refine V.iconst (v := 0) F dX0_partsOn_2 (by decide) ?_
  refine V.istore (lv' := [(4, .int 0), (3, .int 0), (0, .ref o), (1, .int d), (2, .int p)]) F dX0_partsOn_3 hl (by decide) rfl (fun ls hl => ?_)
  have h2 : nI 0 = 0 := (by first | rfl | (simp only [parC, oi1, nI_succ, bI, and_true, true_and, and_false, false_and, and_self, or_true, true_or, or_false, false_or, or_self, not_true_eq_false, not_false_eq_true, if_true, if_false, ↓reduceIte]; done) | (simp [parC, bI, oi1, nI_succ]; done))
  have h3 : parC fp fa fl d p 0 = 0 := (by first | rfl | (simp only [parC, oi1, nI_succ, bI, and_true, true_and, and_false, false_and, and_self, or_true, true_or, or_false, false_or, or_self, not_true_eq_false, not_false_eq_true, if_true, if_false, ↓reduceIte]; done) | (simp [parC, bI, oi1, nI_succ]; done))
  refine V.loop (N := n.toNatClampNeg) (k0 := 0) (I := (fun j1 : Nat => [(4, .int (nI j1)), (3, .int (parC fp fa fl d p j1)), (0, .ref o), (1, .int d), (2, .int p)])) (J := fun _ => True) (Nat.zero_le _) trivial (lv_sub hl [0, 1, 2, 3, 4] (by rw [h2, h3]; rfl)) ?_
  intro j1 j1_N j1_J ihj1 ls hl
  have hl : lv_has ls 5 [(4, .int (nI j1)), (3, .int (parC fp fa fl d p j1)), (0, .ref o), (1, .int d), (2, .int p)] := hl
  refine V.iload F dX0_partsOn_5 (lv_at hl 0 rfl) ?_
  refine V.aload_n F dX0_partsOn_7 rfl (lv_at hl 2 rfl) ?_
  refine V.getfi F hE gX0_9 0 rfl rfl dX0_partsOn_8 (fun z4 e4 => ?_)
  refine V.icmp_ge (tgt := 58) F dX0_partsOn_11 (by decide) (fun c5 c5' => ?_) (fun c5 c5' => ?_)
  · skip
    have j1_eq := ((lpT j1_N).1 (by rw [← e4]; exact c5)).symm
    subst j1_eq
    refine V.iload_n F dX0_partsOn_58 rfl (lv_at hl 1 rfl) ?_
    exact V.iretR F hr hk dX0_partsOn_59 (by subst e4; first | rfl | (simp only [parC, c5, c5', oi1, nI_succ, bI, and_true, true_and, and_false, false_and, and_self, or_true, true_or, or_false, false_or, or_self, not_true_eq_false, not_false_eq_true, if_true, if_false, ↓reduceIte]; done) | (simp [parC, c5, c5', bI, oi1, nI_succ]; done))
  · skip
    have j1_lt := (lpT j1_N).2 (by rw [← e4]; exact c5)
    refine V.aload_n F dX0_partsOn_14 rfl (lv_at hl 2 rfl) ?_
    refine V.getf F hE gX0_15 0 rfl rfl dX0_partsOn_15 ?_
    refine V.iload F dX0_partsOn_18 (lv_at hl 0 rfl) ?_
    refine V.rdSN F hE (c_X6_at l E (by first | assumption | omega)) (kX0_33 F.2.2.2.2 hE.2.1 ⟨Nat.le_of_ble_eq_true rfl, Nat.le_of_ble_eq_true rfl⟩) [1] rfl rfl hl.1 (Nat.le_of_ble_eq_true rfl) dX0_partsOn_20 rfl ?_
    refine V.topi (fun z6 e6 => ?_)
    refine V.iload_n F dX0_partsOn_23 rfl (lv_at hl 4 rfl) ?_
    refine V.icmp_ne (tgt := 52) F dX0_partsOn_24 (by decide) (fun c7 => ?_) (fun c7 => ?_)
    · skip
      refine V.iinc (j := 0) (lv' := fun z8 => [(4, .int z8), (3, .int (parC fp fa fl d p j1)), (0, .ref o), (1, .int d), (2, .int p)]) F dX0_partsOn_52 hl rfl (by decide) (fun _ => rfl) (fun z8 e8 ls hl => ?_)
      refine V.goto (tgt := 5) F dX0_partsOn_55 (by decide) ?_
      have h9 : nI (j1 + 1) = z8 := (by subst e4 e6 e8; first | rfl | (simp only [parC, c5, c5', c7, oi1, nI_succ, bI, and_true, true_and, and_false, false_and, and_self, or_true, true_or, or_false, false_or, or_self, not_true_eq_false, not_false_eq_true, if_true, if_false, ↓reduceIte]; done) | (simp [parC, c5, c5', c7, bI, oi1, nI_succ]; done))
      have h10 : parC fp fa fl d p (j1 + 1) = parC fp fa fl d p j1 := (by subst e4 e6 e8; first | rfl | (simp only [parC, c5, c5', c7, oi1, nI_succ, bI, and_true, true_and, and_false, false_and, and_self, or_true, true_or, or_false, false_or, or_self, not_true_eq_false, not_false_eq_true, if_true, if_false, ↓reduceIte]; done) | (simp [parC, c5, c5', c7, bI, oi1, nI_succ]; done))
      exact ihj1 j1_lt trivial _ (lv_sub hl [0, 1, 2, 3, 4] (by rw [h9, h10]; rfl))
    · skip
      refine V.iload_n F dX0_partsOn_27 rfl (lv_at hl 3 rfl) ?_
      refine V.aload_n F dX0_partsOn_28 rfl (lv_at hl 2 rfl) ?_
      refine V.getf F hE gX0_22 0 rfl rfl dX0_partsOn_29 ?_
      refine V.iload F dX0_partsOn_32 (lv_at hl 0 rfl) ?_
      refine V.rdSN F hE (c_X6_at l E (by first | assumption | omega)) (kX0_33 F.2.2.2.2 hE.2.1 ⟨Nat.le_of_ble_eq_true rfl, Nat.le_of_ble_eq_true rfl⟩) [3] rfl rfl hl.1 (Nat.le_of_ble_eq_true rfl) dX0_partsOn_34 rfl ?_
      refine V.topi (fun z11 e11 => ?_)
      refine V.icmp_gt (tgt := 52) F dX0_partsOn_37 (by decide) (fun c12 c12' => ?_) (fun c12 c12' => ?_)
      · skip
        refine V.iinc (j := 0) (lv' := fun z13 => [(4, .int z13), (3, .int (parC fp fa fl d p j1)), (0, .ref o), (1, .int d), (2, .int p)]) F dX0_partsOn_52 hl rfl (by decide) (fun _ => rfl) (fun z13 e13 ls hl => ?_)
        refine V.goto (tgt := 5) F dX0_partsOn_55 (by decide) ?_
        have h14 : nI (j1 + 1) = z13 := (by subst e4 e6 e11 e13; first | rfl | (simp only [parC, c5, c5', c7, c12, c12', oi1, nI_succ, bI, and_true, true_and, and_false, false_and, and_self, or_true, true_or, or_false, false_or, or_self, not_true_eq_false, not_false_eq_true, if_true, if_false, ↓reduceIte]; done) | (simp [parC, c5, c5', c7, c12, c12', bI, oi1, nI_succ]; done))
        have h15 : parC fp fa fl d p (j1 + 1) = parC fp fa fl d p j1 := (by subst e4 e6 e11 e13; first | rfl | (simp only [parC, c5, c5', c7, c12, c12', oi1, nI_succ, bI, and_true, true_and, and_false, false_and, and_self, or_true, true_or, or_false, false_or, or_self, not_true_eq_false, not_false_eq_true, if_true, if_false, ↓reduceIte]; done) | (simp [parC, c5, c5', c7, c12, c12', bI, oi1, nI_succ]; done))
        exact ihj1 j1_lt trivial _ (lv_sub hl [0, 1, 2, 3, 4] (by rw [h14, h15]; rfl))
      · skip
        refine V.iload_n F dX0_partsOn_40 rfl (lv_at hl 1 rfl) ?_
        refine V.aload_n F dX0_partsOn_41 rfl (lv_at hl 2 rfl) ?_
        refine V.getf F hE gX0_19 0 rfl rfl dX0_partsOn_42 ?_
        refine V.iload F dX0_partsOn_45 (lv_at hl 0 rfl) ?_
        refine V.rdSN F hE (c_X6_at l E (by first | assumption | omega)) (kX0_33 F.2.2.2.2 hE.2.1 ⟨Nat.le_of_ble_eq_true rfl, Nat.le_of_ble_eq_true rfl⟩) [2] rfl rfl hl.1 (Nat.le_of_ble_eq_true rfl) dX0_partsOn_47 rfl ?_
        refine V.topi (fun z16 e16 => ?_)
        refine V.ior F dX0_partsOn_50 (fun z17 e17 => ?_)
        refine V.istore_n (lv' := [(3, .int z17), (4, .int (nI j1)), (0, .ref o), (1, .int d), (2, .int p)]) F dX0_partsOn_51 rfl hl (by decide) rfl (fun ls hl => ?_)
        refine V.iinc (j := 1) (lv' := fun z18 => [(4, .int z18), (3, .int z17), (0, .ref o), (1, .int d), (2, .int p)]) F dX0_partsOn_52 hl rfl (by decide) (fun _ => rfl) (fun z18 e18 ls hl => ?_)
        refine V.goto (tgt := 5) F dX0_partsOn_55 (by decide) ?_
        have h19 : nI (j1 + 1) = z18 := (by subst e4 e6 e11 e16 e17 e18; first | rfl | (simp only [parC, c5, c5', c7, c12, c12', oi1, nI_succ, bI, and_true, true_and, and_false, false_and, and_self, or_true, true_or, or_false, false_or, or_self, not_true_eq_false, not_false_eq_true, if_true, if_false, ↓reduceIte]; done) | (simp [parC, c5, c5', c7, c12, c12', bI, oi1, nI_succ]; done))
        have h20 : parC fp fa fl d p (j1 + 1) = z17 := (by subst e4 e6 e11 e16 e17 e18; first | rfl | (simp only [parC, c5, c5', c7, c12, c12', oi1, nI_succ, bI, and_true, true_and, and_false, false_and, and_self, or_true, true_or, or_false, false_or, or_self, not_true_eq_false, not_false_eq_true, if_true, if_false, ↓reduceIte]; done) | (simp [parC, c5, c5', c7, c12, c12', bI, oi1, nI_succ]; done))
        exact ihj1 j1_lt trivial _ (lv_sub hl [0, 1, 2, 3, 4] (by rw [h19, h20]; rfl))
set_option maxHeartbeats 4000000 in
set_option maxRecDepth 100000 in
theorem c_X0_lastDayFor (l : Launch) (E : EV) {o a1 a2 a3 : Nat} {n : Int32} {fp fa fl : Nat → Int32} {d p : Int32} : Rd l E yX0_lastDayFor cX0_lastDayFor 6 (some .int) 1 21 [.ref o, .int d, .int p] (inO E o a1 a2 a3 n fp fa fl) (some (.int (lasC fp fl d p n.toNatClampNeg))) := by
  refine Rd.mk0 (by decide) (Nat.le_of_ble_eq_true rfl) ?_
  intro pP eE sS mM aA bB mt cC F hr hk hE ls hl
  have hl : lv_has ls 6 [(0, .ref o), (1, .int d), (2, .int p)] := hl
  refine V.iconst (v := (-1)) F dX0_lastDayFor_0 (by decide) ?_
  refine V.istore_n (lv' := [(3, .int (-1)), (0, .ref o), (1, .int d), (2, .int p)]) F dX0_lastDayFor_1 rfl hl (by decide) rfl (fun ls hl => ?_)
  refine V.iconst (v := 0) F dX0_lastDayFor_2 (by decide) ?_
  refine V.istore (lv' := [(4, .int 0), (3, .int (-1)), (0, .ref o), (1, .int d), (2, .int p)]) F dX0_lastDayFor_3 hl (by decide) rfl (fun ls hl => ?_)
  have h2 : nI 0 = 0 := (by first | rfl | (simp only [lasC, oi1, nI_succ, bI, and_true, true_and, and_false, false_and, and_self, or_true, true_or, or_false, false_or, or_self, not_true_eq_false, not_false_eq_true, if_true, if_false, ↓reduceIte]; done) | (simp [lasC, bI, oi1, nI_succ]; done))
  have h3 : lasC fp fl d p 0 = (-1) := (by first | rfl | (simp only [lasC, oi1, nI_succ, bI, and_true, true_and, and_false, false_and, and_self, or_true, true_or, or_false, false_or, or_self, not_true_eq_false, not_false_eq_true, if_true, if_false, ↓reduceIte]; done) | (simp [lasC, bI, oi1, nI_succ]; done))
  refine V.loop (N := n.toNatClampNeg) (k0 := 0) (I := (fun j1 : Nat => [(4, .int (nI j1)), (3, .int (lasC fp fl d p j1)), (0, .ref o), (1, .int d), (2, .int p)])) (J := fun _ => True) (Nat.zero_le _) trivial (lv_sub hl [0, 1, 2, 3, 4] (by rw [h2, h3]; rfl)) ?_
  intro j1 j1_N j1_J ihj1 ls hl
  have hl : lv_has ls 6 [(4, .int (nI j1)), (3, .int (lasC fp fl d p j1)), (0, .ref o), (1, .int d), (2, .int p)] := hl
  refine V.iload F dX0_lastDayFor_5 (lv_at hl 0 rfl) ?_
  refine V.aload_n F dX0_lastDayFor_7 rfl (lv_at hl 2 rfl) ?_
  refine V.getfi F hE gX0_9 0 rfl rfl dX0_lastDayFor_8 (fun z4 e4 => ?_)
  refine V.icmp_ge (tgt := 59) F dX0_lastDayFor_11 (by decide) (fun c5 c5' => ?_) (fun c5 c5' => ?_)
  · skip
    have j1_eq := ((lpT j1_N).1 (by rw [← e4]; exact c5)).symm
    subst j1_eq
    refine V.iload_n F dX0_lastDayFor_59 rfl (lv_at hl 1 rfl) ?_
    exact V.iretR F hr hk dX0_lastDayFor_60 (by subst e4; first | rfl | (simp only [lasC, c5, c5', oi1, nI_succ, bI, and_true, true_and, and_false, false_and, and_self, or_true, true_or, or_false, false_or, or_self, not_true_eq_false, not_false_eq_true, if_true, if_false, ↓reduceIte]; done) | (simp [lasC, c5, c5', bI, oi1, nI_succ]; done))
  · skip
    have j1_lt := (lpT j1_N).2 (by rw [← e4]; exact c5)
    refine V.aload_n F dX0_lastDayFor_14 rfl (lv_at hl 2 rfl) ?_
    refine V.getf F hE gX0_22 0 rfl rfl dX0_lastDayFor_15 ?_
    refine V.iload F dX0_lastDayFor_18 (lv_at hl 0 rfl) ?_
    refine V.rdSN F hE (c_X6_at l E (by first | assumption | omega)) (kX0_33 F.2.2.2.2 hE.2.1 ⟨Nat.le_of_ble_eq_true rfl, Nat.le_of_ble_eq_true rfl⟩) [3] rfl rfl hl.1 (Nat.le_of_ble_eq_true rfl) dX0_lastDayFor_20 rfl ?_
    refine V.topi (fun z6 e6 => ?_)
    refine V.istore (lv' := [(5, .int z6), (4, .int (nI j1)), (3, .int (lasC fp fl d p j1)), (0, .ref o), (1, .int d), (2, .int p)]) F dX0_lastDayFor_23 hl (by decide) rfl (fun ls hl => ?_)
    refine V.aload_n F dX0_lastDayFor_25 rfl (lv_at hl 3 rfl) ?_
    refine V.getf F hE gX0_15 0 rfl rfl dX0_lastDayFor_26 ?_
    refine V.iload F dX0_lastDayFor_29 (lv_at hl 1 rfl) ?_
    refine V.rdSN F hE (c_X6_at l E (by first | assumption | omega)) (kX0_33 F.2.2.2.2 hE.2.1 ⟨Nat.le_of_ble_eq_true rfl, Nat.le_of_ble_eq_true rfl⟩) [1] rfl rfl hl.1 (Nat.le_of_ble_eq_true rfl) dX0_lastDayFor_31 rfl ?_
    refine V.topi (fun z7 e7 => ?_)
    refine V.iload_n F dX0_lastDayFor_34 rfl (lv_at hl 5 rfl) ?_
    refine V.icmp_ne (tgt := 53) F dX0_lastDayFor_35 (by decide) (fun c8 => ?_) (fun c8 => ?_)
    · skip
      refine V.iinc (j := 1) (lv' := fun z9 => [(4, .int z9), (5, .int z6), (3, .int (lasC fp fl d p j1)), (0, .ref o), (1, .int d), (2, .int p)]) F dX0_lastDayFor_53 hl rfl (by decide) (fun _ => rfl) (fun z9 e9 ls hl => ?_)
      refine V.goto (tgt := 5) F dX0_lastDayFor_56 (by decide) ?_
      have h10 : nI (j1 + 1) = z9 := (by subst e4 e6 e7 e9; first | rfl | (simp only [lasC, c5, c5', c8, oi1, nI_succ, bI, and_true, true_and, and_false, false_and, and_self, or_true, true_or, or_false, false_or, or_self, not_true_eq_false, not_false_eq_true, if_true, if_false, ↓reduceIte]; done) | (simp [lasC, c5, c5', c8, bI, oi1, nI_succ]; done))
      have h11 : lasC fp fl d p (j1 + 1) = lasC fp fl d p j1 := (by subst e4 e6 e7 e9; first | rfl | (simp only [lasC, c5, c5', c8, oi1, nI_succ, bI, and_true, true_and, and_false, false_and, and_self, or_true, true_or, or_false, false_or, or_self, not_true_eq_false, not_false_eq_true, if_true, if_false, ↓reduceIte]; done) | (simp [lasC, c5, c5', c8, bI, oi1, nI_succ]; done))
      exact ihj1 j1_lt trivial _ (lv_sub hl [0, 2, 3, 4, 5] (by rw [h10, h11]; rfl))
    · skip
      refine V.iload_n F dX0_lastDayFor_38 rfl (lv_at hl 4 rfl) ?_
      refine V.iload F dX0_lastDayFor_39 (lv_at hl 0 rfl) ?_
      refine V.icmp_gt (tgt := 53) F dX0_lastDayFor_41 (by decide) (fun c12 c12' => ?_) (fun c12 c12' => ?_)
      · skip
        refine V.iinc (j := 1) (lv' := fun z13 => [(4, .int z13), (5, .int z6), (3, .int (lasC fp fl d p j1)), (0, .ref o), (1, .int d), (2, .int p)]) F dX0_lastDayFor_53 hl rfl (by decide) (fun _ => rfl) (fun z13 e13 ls hl => ?_)
        refine V.goto (tgt := 5) F dX0_lastDayFor_56 (by decide) ?_
        have h14 : nI (j1 + 1) = z13 := (by subst e4 e6 e7 e13; first | rfl | (simp only [lasC, c5, c5', c8, c12, c12', oi1, nI_succ, bI, and_true, true_and, and_false, false_and, and_self, or_true, true_or, or_false, false_or, or_self, not_true_eq_false, not_false_eq_true, if_true, if_false, ↓reduceIte]; done) | (simp [lasC, c5, c5', c8, c12, c12', bI, oi1, nI_succ]; done))
        have h15 : lasC fp fl d p (j1 + 1) = lasC fp fl d p j1 := (by subst e4 e6 e7 e13; first | rfl | (simp only [lasC, c5, c5', c8, c12, c12', oi1, nI_succ, bI, and_true, true_and, and_false, false_and, and_self, or_true, true_or, or_false, false_or, or_self, not_true_eq_false, not_false_eq_true, if_true, if_false, ↓reduceIte]; done) | (simp [lasC, c5, c5', c8, c12, c12', bI, oi1, nI_succ]; done))
        exact ihj1 j1_lt trivial _ (lv_sub hl [0, 2, 3, 4, 5] (by rw [h14, h15]; rfl))
      · skip
        refine V.iload F dX0_lastDayFor_44 (lv_at hl 0 rfl) ?_
        refine V.iload_n F dX0_lastDayFor_46 rfl (lv_at hl 2 rfl) ?_
        refine V.icmp_le (tgt := 53) F dX0_lastDayFor_47 (by decide) (fun c16 c16' => ?_) (fun c16 c16' => ?_)
        · skip
          refine V.iinc (j := 1) (lv' := fun z17 => [(4, .int z17), (5, .int z6), (3, .int (lasC fp fl d p j1)), (0, .ref o), (1, .int d), (2, .int p)]) F dX0_lastDayFor_53 hl rfl (by decide) (fun _ => rfl) (fun z17 e17 ls hl => ?_)
          refine V.goto (tgt := 5) F dX0_lastDayFor_56 (by decide) ?_
          have h18 : nI (j1 + 1) = z17 := (by subst e4 e6 e7 e17; first | rfl | (simp only [lasC, c5, c5', c8, c12, c12', c16, c16', oi1, nI_succ, bI, and_true, true_and, and_false, false_and, and_self, or_true, true_or, or_false, false_or, or_self, not_true_eq_false, not_false_eq_true, if_true, if_false, ↓reduceIte]; done) | (simp [lasC, c5, c5', c8, c12, c12', c16, c16', bI, oi1, nI_succ]; done))
          have h19 : lasC fp fl d p (j1 + 1) = lasC fp fl d p j1 := (by subst e4 e6 e7 e17; first | rfl | (simp only [lasC, c5, c5', c8, c12, c12', c16, c16', oi1, nI_succ, bI, and_true, true_and, and_false, false_and, and_self, or_true, true_or, or_false, false_or, or_self, not_true_eq_false, not_false_eq_true, if_true, if_false, ↓reduceIte]; done) | (simp [lasC, c5, c5', c8, c12, c12', c16, c16', bI, oi1, nI_succ]; done))
          exact ihj1 j1_lt trivial _ (lv_sub hl [0, 2, 3, 4, 5] (by rw [h18, h19]; rfl))
        · skip
          refine V.iload F dX0_lastDayFor_50 (lv_at hl 0 rfl) ?_
          refine V.istore_n (lv' := [(3, .int z6), (5, .int z6), (4, .int (nI j1)), (0, .ref o), (1, .int d), (2, .int p)]) F dX0_lastDayFor_52 rfl hl (by decide) rfl (fun ls hl => ?_)
          refine V.iinc (j := 2) (lv' := fun z20 => [(4, .int z20), (3, .int z6), (5, .int z6), (0, .ref o), (1, .int d), (2, .int p)]) F dX0_lastDayFor_53 hl rfl (by decide) (fun _ => rfl) (fun z20 e20 ls hl => ?_)
          refine V.goto (tgt := 5) F dX0_lastDayFor_56 (by decide) ?_
          have h21 : nI (j1 + 1) = z20 := (by subst e4 e6 e7 e20; first | rfl | (simp only [lasC, c5, c5', c8, c12, c12', c16, c16', oi1, nI_succ, bI, and_true, true_and, and_false, false_and, and_self, or_true, true_or, or_false, false_or, or_self, not_true_eq_false, not_false_eq_true, if_true, if_false, ↓reduceIte]; done) | (simp [lasC, c5, c5', c8, c12, c12', c16, c16', bI, oi1, nI_succ]; done))
          have h22 : lasC fp fl d p (j1 + 1) = z6 := (by subst e4 e6 e7 e20; first | rfl | (simp only [lasC, c5, c5', c8, c12, c12', c16, c16', oi1, nI_succ, bI, and_true, true_and, and_false, false_and, and_self, or_true, true_or, or_false, false_or, or_self, not_true_eq_false, not_false_eq_true, if_true, if_false, ↓reduceIte]; done) | (simp [lasC, c5, c5', c8, c12, c12', c16, c16', bI, oi1, nI_succ]; done))
          exact ihj1 j1_lt trivial _ (lv_sub hl [0, 1, 3, 4, 5] (by rw [h21, h22]; rfl))
set_option maxHeartbeats 4000000 in
set_option maxRecDepth 100000 in
theorem c_X4_has (l : Launch) (E : EV) {o a1 a2 a3 a4 a5 : Nat} {n : Int32} {fk fr fs fd fe : Nat → Int32} {x : Int32} : Rd l E yX4_has cX4_has 2 (some .boolean) 0 0 [.ref o, .int x] (scO E o a1 a2 a3 a4 a5 n fk fr fs fd fe) (some (.int (bI (0 ≤ x ∧ x < n)))) := by
  refine Rd.mk0 (by decide) (Nat.le_of_ble_eq_true rfl) ?_
  intro pP eE sS mM aA bB mt cC F hr hk hE ls hl
  have hl : lv_has ls 2 [(0, .ref o), (1, .int x)] := hl
  refine V.iload_n F dX4_has_0 rfl (lv_at hl 1 rfl) ?_
  refine V.if_lt (tgt := 16) F dX4_has_1 (by decide) (fun c1 c1' => ?_) (fun c1 c1' => ?_)
  · skip
    refine V.iconst (v := 0) F dX4_has_16 (by decide) ?_
    exact V.zretR F hr hk dX4_has_17 (nb_bI _) (by first | rfl | (simp only [c1, c1', oi1, nI_succ, bI, and_true, true_and, and_false, false_and, and_self, or_true, true_or, or_false, false_or, or_self, not_true_eq_false, not_false_eq_true, if_true, if_false, ↓reduceIte]; done) | (simp [c1, c1', bI, oi1, nI_succ]; done))
  · skip
    refine V.iload_n F dX4_has_4 rfl (lv_at hl 1 rfl) ?_
    refine V.aload_n F dX4_has_5 rfl (lv_at hl 0 rfl) ?_
    refine V.getfi F hE gX4_9 0 rfl rfl dX4_has_6 (fun z2 e2 => ?_)
    refine V.icmp_ge (tgt := 16) F dX4_has_9 (by decide) (fun c3 c3' => ?_) (fun c3 c3' => ?_)
    · skip
      refine V.iconst (v := 0) F dX4_has_16 (by decide) ?_
      exact V.zretR F hr hk dX4_has_17 (nb_bI _) (by subst e2; first | rfl | (simp only [c1, c1', c3, c3', oi1, nI_succ, bI, and_true, true_and, and_false, false_and, and_self, or_true, true_or, or_false, false_or, or_self, not_true_eq_false, not_false_eq_true, if_true, if_false, ↓reduceIte]; done) | (simp [c1, c1', c3, c3', bI, oi1, nI_succ]; done))
    · skip
      refine V.iconst (v := 1) F dX4_has_12 (by decide) ?_
      refine V.goto (tgt := 17) F dX4_has_13 (by decide) ?_
      exact V.zretR F hr hk dX4_has_17 (nb_bI _) (by subst e2; first | rfl | (simp only [c1, c1', c3, c3', oi1, nI_succ, bI, and_true, true_and, and_false, false_and, and_self, or_true, true_or, or_false, false_or, or_self, not_true_eq_false, not_false_eq_true, if_true, if_false, ↓reduceIte]; done) | (simp [c1, c1', c3, c3', bI, oi1, nI_succ]; done))
set_option maxHeartbeats 4000000 in
set_option maxRecDepth 100000 in
theorem c_X4_kindOf (l : Launch) (E : EV) {o a1 a2 a3 a4 a5 : Nat} {n : Int32} {fk fr fs fd fe : Nat → Int32} {x : Int32} : Rd l E yX4_kindOf cX4_kindOf 2 (some .int) 1 21 [.ref o, .int x] (scO E o a1 a2 a3 a4 a5 n fk fr fs fd fe) (some (.int (gt fk 10 x))) := by
  refine Rd.mk0 (by decide) (Nat.le_of_ble_eq_true rfl) ?_
  intro pP eE sS mM aA bB mt cC F hr hk hE ls hl
  have hl : lv_has ls 2 [(0, .ref o), (1, .int x)] := hl
  refine V.aload_n F dX4_kindOf_0 rfl (lv_at hl 0 rfl) ?_
  refine V.getf F hE gX4_15 0 rfl rfl dX4_kindOf_1 ?_
  refine V.iload_n F dX4_kindOf_4 rfl (lv_at hl 1 rfl) ?_
  refine V.rdSN F hE (c_X6_at l E (by first | assumption | omega)) (kX4_35 F.2.2.2.2 hE.2.1 ⟨Nat.le_of_ble_eq_true rfl, Nat.le_of_ble_eq_true rfl⟩) [1] rfl rfl hl.1 (Nat.le_of_ble_eq_true rfl) dX4_kindOf_5 rfl ?_
  refine V.topi (fun z1 e1 => ?_)
  exact V.iretR F hr hk dX4_kindOf_8 (by subst e1; first | rfl | (simp only [oi1, nI_succ, bI, and_true, true_and, and_false, false_and, and_self, or_true, true_or, or_false, false_or, or_self, not_true_eq_false, not_false_eq_true, if_true, if_false, ↓reduceIte]; done) | (simp [bI, oi1, nI_succ]; done))
set_option maxHeartbeats 4000000 in
set_option maxRecDepth 100000 in
theorem c_X4_riskOf (l : Launch) (E : EV) {o a1 a2 a3 a4 a5 : Nat} {n : Int32} {fk fr fs fd fe : Nat → Int32} {x : Int32} : Rd l E yX4_riskOf cX4_riskOf 2 (some .int) 1 21 [.ref o, .int x] (scO E o a1 a2 a3 a4 a5 n fk fr fs fd fe) (some (.int (gt fr 10 x))) := by
  refine Rd.mk0 (by decide) (Nat.le_of_ble_eq_true rfl) ?_
  intro pP eE sS mM aA bB mt cC F hr hk hE ls hl
  have hl : lv_has ls 2 [(0, .ref o), (1, .int x)] := hl
  refine V.aload_n F dX4_riskOf_0 rfl (lv_at hl 0 rfl) ?_
  refine V.getf F hE gX4_19 0 rfl rfl dX4_riskOf_1 ?_
  refine V.iload_n F dX4_riskOf_4 rfl (lv_at hl 1 rfl) ?_
  refine V.rdSN F hE (c_X6_at l E (by first | assumption | omega)) (kX4_35 F.2.2.2.2 hE.2.1 ⟨Nat.le_of_ble_eq_true rfl, Nat.le_of_ble_eq_true rfl⟩) [2] rfl rfl hl.1 (Nat.le_of_ble_eq_true rfl) dX4_riskOf_5 rfl ?_
  refine V.topi (fun z1 e1 => ?_)
  exact V.iretR F hr hk dX4_riskOf_8 (by subst e1; first | rfl | (simp only [oi1, nI_succ, bI, and_true, true_and, and_false, false_and, and_self, or_true, true_or, or_false, false_or, or_self, not_true_eq_false, not_false_eq_true, if_true, if_false, ↓reduceIte]; done) | (simp [bI, oi1, nI_succ]; done))
set_option maxHeartbeats 4000000 in
set_option maxRecDepth 100000 in
theorem c_X4_seenIn (l : Launch) (E : EV) {o a1 a2 a3 a4 a5 : Nat} {n : Int32} {fk fr fs fd fe : Nat → Int32} {x : Int32} : Rd l E yX4_seenIn cX4_seenIn 2 (some .int) 1 21 [.ref o, .int x] (scO E o a1 a2 a3 a4 a5 n fk fr fs fd fe) (some (.int (gt fs 10 x))) := by
  refine Rd.mk0 (by decide) (Nat.le_of_ble_eq_true rfl) ?_
  intro pP eE sS mM aA bB mt cC F hr hk hE ls hl
  have hl : lv_has ls 2 [(0, .ref o), (1, .int x)] := hl
  refine V.aload_n F dX4_seenIn_0 rfl (lv_at hl 0 rfl) ?_
  refine V.getf F hE gX4_22 0 rfl rfl dX4_seenIn_1 ?_
  refine V.iload_n F dX4_seenIn_4 rfl (lv_at hl 1 rfl) ?_
  refine V.rdSN F hE (c_X6_at l E (by first | assumption | omega)) (kX4_35 F.2.2.2.2 hE.2.1 ⟨Nat.le_of_ble_eq_true rfl, Nat.le_of_ble_eq_true rfl⟩) [3] rfl rfl hl.1 (Nat.le_of_ble_eq_true rfl) dX4_seenIn_5 rfl ?_
  refine V.topi (fun z1 e1 => ?_)
  exact V.iretR F hr hk dX4_seenIn_8 (by subst e1; first | rfl | (simp only [oi1, nI_succ, bI, and_true, true_and, and_false, false_and, and_self, or_true, true_or, or_false, false_or, or_self, not_true_eq_false, not_false_eq_true, if_true, if_false, ↓reduceIte]; done) | (simp [bI, oi1, nI_succ]; done))
set_option maxHeartbeats 4000000 in
set_option maxRecDepth 100000 in
theorem c_X4_dayOfShot (l : Launch) (E : EV) {o a1 a2 a3 a4 a5 : Nat} {n : Int32} {fk fr fs fd fe : Nat → Int32} {x : Int32} : Rd l E yX4_dayOfShot cX4_dayOfShot 2 (some .int) 1 21 [.ref o, .int x] (scO E o a1 a2 a3 a4 a5 n fk fr fs fd fe) (some (.int (gt fd 10 x))) := by
  refine Rd.mk0 (by decide) (Nat.le_of_ble_eq_true rfl) ?_
  intro pP eE sS mM aA bB mt cC F hr hk hE ls hl
  have hl : lv_has ls 2 [(0, .ref o), (1, .int x)] := hl
  refine V.aload_n F dX4_dayOfShot_0 rfl (lv_at hl 0 rfl) ?_
  refine V.getf F hE gX4_25 0 rfl rfl dX4_dayOfShot_1 ?_
  refine V.iload_n F dX4_dayOfShot_4 rfl (lv_at hl 1 rfl) ?_
  refine V.rdSN F hE (c_X6_at l E (by first | assumption | omega)) (kX4_35 F.2.2.2.2 hE.2.1 ⟨Nat.le_of_ble_eq_true rfl, Nat.le_of_ble_eq_true rfl⟩) [4] rfl rfl hl.1 (Nat.le_of_ble_eq_true rfl) dX4_dayOfShot_5 rfl ?_
  refine V.topi (fun z1 e1 => ?_)
  exact V.iretR F hr hk dX4_dayOfShot_8 (by subst e1; first | rfl | (simp only [oi1, nI_succ, bI, and_true, true_and, and_false, false_and, and_self, or_true, true_or, or_false, false_or, or_self, not_true_eq_false, not_false_eq_true, if_true, if_false, ↓reduceIte]; done) | (simp [bI, oi1, nI_succ]; done))
set_option maxHeartbeats 4000000 in
set_option maxRecDepth 100000 in
theorem c_X4_doerOf (l : Launch) (E : EV) {o a1 a2 a3 a4 a5 : Nat} {n : Int32} {fk fr fs fd fe : Nat → Int32} {x : Int32} : Rd l E yX4_doerOf cX4_doerOf 2 (some .int) 1 21 [.ref o, .int x] (scO E o a1 a2 a3 a4 a5 n fk fr fs fd fe) (some (.int (gt fe 10 x))) := by
  refine Rd.mk0 (by decide) (Nat.le_of_ble_eq_true rfl) ?_
  intro pP eE sS mM aA bB mt cC F hr hk hE ls hl
  have hl : lv_has ls 2 [(0, .ref o), (1, .int x)] := hl
  refine V.aload_n F dX4_doerOf_0 rfl (lv_at hl 0 rfl) ?_
  refine V.getf F hE gX4_28 0 rfl rfl dX4_doerOf_1 ?_
  refine V.iload_n F dX4_doerOf_4 rfl (lv_at hl 1 rfl) ?_
  refine V.rdSN F hE (c_X6_at l E (by first | assumption | omega)) (kX4_35 F.2.2.2.2 hE.2.1 ⟨Nat.le_of_ble_eq_true rfl, Nat.le_of_ble_eq_true rfl⟩) [5] rfl rfl hl.1 (Nat.le_of_ble_eq_true rfl) dX4_doerOf_5 rfl ?_
  refine V.topi (fun z1 e1 => ?_)
  exact V.iretR F hr hk dX4_doerOf_8 (by subst e1; first | rfl | (simp only [oi1, nI_succ, bI, and_true, true_and, and_false, false_and, and_self, or_true, true_or, or_false, false_or, or_self, not_true_eq_false, not_false_eq_true, if_true, if_false, ↓reduceIte]; done) | (simp [bI, oi1, nI_succ]; done))
set_option maxHeartbeats 4000000 in
set_option maxRecDepth 100000 in
theorem c_X4_isShot (l : Launch) (E : EV) {o a1 a2 a3 a4 a5 : Nat} {n : Int32} {fk fr fs fd fe : Nat → Int32} {x : Int32} : Rd l E yX4_isShot cX4_isShot 2 (some .boolean) 1 21 [.ref o, .int x] (scO E o a1 a2 a3 a4 a5 n fk fr fs fd fe) (some (.int (bI (¬ gt fd 10 x = -1)))) := by
  refine Rd.mk0 (by decide) (Nat.le_of_ble_eq_true rfl) ?_
  intro pP eE sS mM aA bB mt cC F hr hk hE ls hl
  have hl : lv_has ls 2 [(0, .ref o), (1, .int x)] := hl
  refine V.aload_n F dX4_isShot_0 rfl (lv_at hl 0 rfl) ?_
  refine V.getf F hE gX4_25 0 rfl rfl dX4_isShot_1 ?_
  refine V.iload_n F dX4_isShot_4 rfl (lv_at hl 1 rfl) ?_
  refine V.rdSN F hE (c_X6_at l E (by first | assumption | omega)) (kX4_35 F.2.2.2.2 hE.2.1 ⟨Nat.le_of_ble_eq_true rfl, Nat.le_of_ble_eq_true rfl⟩) [4] rfl rfl hl.1 (Nat.le_of_ble_eq_true rfl) dX4_isShot_5 rfl ?_
  refine V.topi (fun z1 e1 => ?_)
  refine V.iconst (v := (-1)) F dX4_isShot_8 (by decide) ?_
  refine V.icmp_eq (tgt := 16) F dX4_isShot_9 (by decide) (fun c2 => ?_) (fun c2 => ?_)
  · skip
    refine V.iconst (v := 0) F dX4_isShot_16 (by decide) ?_
    exact V.zretR F hr hk dX4_isShot_17 (nb_bI _) (by subst e1; first | rfl | (simp only [c2, oi1, nI_succ, bI, and_true, true_and, and_false, false_and, and_self, or_true, true_or, or_false, false_or, or_self, not_true_eq_false, not_false_eq_true, if_true, if_false, ↓reduceIte]; done) | (simp [c2, bI, oi1, nI_succ]; done))
  · skip
    refine V.iconst (v := 1) F dX4_isShot_12 (by decide) ?_
    refine V.goto (tgt := 17) F dX4_isShot_13 (by decide) ?_
    exact V.zretR F hr hk dX4_isShot_17 (nb_bI _) (by subst e1; first | rfl | (simp only [c2, oi1, nI_succ, bI, and_true, true_and, and_false, false_and, and_self, or_true, true_or, or_false, false_or, or_self, not_true_eq_false, not_false_eq_true, if_true, if_false, ↓reduceIte]; done) | (simp [c2, bI, oi1, nI_succ]; done))
set_option maxHeartbeats 4000000 in
set_option maxRecDepth 100000 in
theorem c_X4_isByDouble (l : Launch) (E : EV) {o a1 a2 a3 a4 a5 : Nat} {n : Int32} {fk fr fs fd fe : Nat → Int32} {x : Int32} : Rd l E yX4_isByDouble cX4_isByDouble 2 (some .boolean) 2 42 [.ref o, .int x] (scO E o a1 a2 a3 a4 a5 n fk fr fs fd fe) (some (.int (bI (¬ gt fd 10 x = -1 ∧ ¬ gt fe 10 x = gt fs 10 x)))) := by
  refine Rd.mk0 (by decide) (Nat.le_of_ble_eq_true rfl) ?_
  intro pP eE sS mM aA bB mt cC F hr hk hE ls hl
  have hl : lv_has ls 2 [(0, .ref o), (1, .int x)] := hl
  refine V.aload_n F dX4_isByDouble_0 rfl (lv_at hl 0 rfl) ?_
  refine V.iload_n F dX4_isByDouble_1 rfl (lv_at hl 1 rfl) ?_
  refine V.rdV (q0 := 0) F hE (c_X4_isShot l E) (kX4_39 F.2.2.2.2 ⟨Nat.le_of_ble_eq_true rfl, Nat.le_of_ble_eq_true rfl⟩) rfl rfl [0, 1, 2, 3, 4, 5] rfl rfl hl.1 (Nat.le_of_ble_eq_true rfl) dX4_isByDouble_2 rfl ?_
  refine V.topi (fun z1 e1 => ?_)
  refine V.if_eqB (tgt := 25) F e1 dX4_isByDouble_5 (by decide) (fun c2 => ?_) (fun c2 => ?_)
  · skip
    refine V.iconst (v := 0) F dX4_isByDouble_25 (by decide) ?_
    exact V.zretR F hr hk dX4_isByDouble_26 (nb_bI _) (by subst e1; first | rfl | (simp only [c2, oi1, nI_succ, bI, and_true, true_and, and_false, false_and, and_self, or_true, true_or, or_false, false_or, or_self, not_true_eq_false, not_false_eq_true, if_true, if_false, ↓reduceIte]; done) | (simp [c2, bI, oi1, nI_succ]; done))
  · skip
    refine V.aload_n F dX4_isByDouble_8 rfl (lv_at hl 0 rfl) ?_
    refine V.iload_n F dX4_isByDouble_9 rfl (lv_at hl 1 rfl) ?_
    refine V.rdV (q0 := 0) F hE (c_X4_doerOf l E) (kX4_43 F.2.2.2.2 ⟨Nat.le_of_ble_eq_true rfl, Nat.le_of_ble_eq_true rfl⟩) rfl rfl [0, 1, 2, 3, 4, 5] rfl rfl hl.1 (Nat.le_of_ble_eq_true rfl) dX4_isByDouble_10 rfl ?_
    refine V.topi (fun z3 e3 => ?_)
    refine V.aload_n F dX4_isByDouble_13 rfl (lv_at hl 0 rfl) ?_
    refine V.iload_n F dX4_isByDouble_14 rfl (lv_at hl 1 rfl) ?_
    refine V.rdV (q0 := 0) F hE (c_X4_seenIn l E) (kX4_47 F.2.2.2.2 ⟨Nat.le_of_ble_eq_true rfl, Nat.le_of_ble_eq_true rfl⟩) rfl rfl [0, 1, 2, 3, 4, 5] rfl rfl hl.1 (Nat.le_of_ble_eq_true rfl) dX4_isByDouble_15 rfl ?_
    refine V.topi (fun z4 e4 => ?_)
    refine V.icmp_eq (tgt := 25) F dX4_isByDouble_18 (by decide) (fun c5 => ?_) (fun c5 => ?_)
    · skip
      refine V.iconst (v := 0) F dX4_isByDouble_25 (by decide) ?_
      exact V.zretR F hr hk dX4_isByDouble_26 (nb_bI _) (by subst e1 e3 e4; first | rfl | (simp only [c2, c5, oi1, nI_succ, bI, and_true, true_and, and_false, false_and, and_self, or_true, true_or, or_false, false_or, or_self, not_true_eq_false, not_false_eq_true, if_true, if_false, ↓reduceIte]; done) | (simp [c2, c5, bI, oi1, nI_succ]; done))
    · skip
      refine V.iconst (v := 1) F dX4_isByDouble_21 (by decide) ?_
      refine V.goto (tgt := 26) F dX4_isByDouble_22 (by decide) ?_
      exact V.zretR F hr hk dX4_isByDouble_26 (nb_bI _) (by subst e1 e3 e4; first | rfl | (simp only [c2, c5, oi1, nI_succ, bI, and_true, true_and, and_false, false_and, and_self, or_true, true_or, or_false, false_or, or_self, not_true_eq_false, not_false_eq_true, if_true, if_false, ↓reduceIte]; done) | (simp [c2, c5, bI, oi1, nI_succ]; done))
set_option maxHeartbeats 4000000 in
set_option maxRecDepth 100000 in
theorem c_X4_shotOnes (l : Launch) (E : EV) {o a1 a2 a3 a4 a5 : Nat} {n : Int32} {fk fr fs fd fe : Nat → Int32} : Rd l E yX4_shotOnes cX4_shotOnes 3 (some .int) 2 42 [.ref o] (scO E o a1 a2 a3 a4 a5 n fk fr fs fd fe) (some (.int (shoC fd n.toNatClampNeg))) := by
  refine Rd.mk0 (by decide) (Nat.le_of_ble_eq_true rfl) ?_
  intro pP eE sS mM aA bB mt cC F hr hk hE ls hl
  have hl : lv_has ls 3 [(0, .ref o)] := hl
  refine V.iconst (v := 0) F dX4_shotOnes_0 (by decide) ?_
  refine V.istore_n (lv' := [(1, .int 0), (0, .ref o)]) F dX4_shotOnes_1 rfl hl (by decide) rfl (fun ls hl => ?_)
  refine V.iconst (v := 0) F dX4_shotOnes_2 (by decide) ?_
  refine V.istore_n (lv' := [(2, .int 0), (1, .int 0), (0, .ref o)]) F dX4_shotOnes_3 rfl hl (by decide) rfl (fun ls hl => ?_)
  have h2 : nI 0 = 0 := (by first | rfl | (simp only [shoC, oi1, nI_succ, bI, and_true, true_and, and_false, false_and, and_self, or_true, true_or, or_false, false_or, or_self, not_true_eq_false, not_false_eq_true, if_true, if_false, ↓reduceIte]; done) | (simp [shoC, bI, oi1, nI_succ]; done))
  have h3 : shoC fd 0 = 0 := (by first | rfl | (simp only [shoC, oi1, nI_succ, bI, and_true, true_and, and_false, false_and, and_self, or_true, true_or, or_false, false_or, or_self, not_true_eq_false, not_false_eq_true, if_true, if_false, ↓reduceIte]; done) | (simp [shoC, bI, oi1, nI_succ]; done))
  refine V.loop (N := n.toNatClampNeg) (k0 := 0) (I := (fun j1 : Nat => [(2, .int (nI j1)), (1, .int (shoC fd j1)), (0, .ref o)])) (J := fun _ => True) (Nat.zero_le _) trivial (lv_sub hl [0, 1, 2] (by rw [h2, h3]; rfl)) ?_
  intro j1 j1_N j1_J ihj1 ls hl
  have hl : lv_has ls 3 [(2, .int (nI j1)), (1, .int (shoC fd j1)), (0, .ref o)] := hl
  refine V.iload_n F dX4_shotOnes_4 rfl (lv_at hl 0 rfl) ?_
  refine V.aload_n F dX4_shotOnes_5 rfl (lv_at hl 2 rfl) ?_
  refine V.getfi F hE gX4_9 0 rfl rfl dX4_shotOnes_6 (fun z4 e4 => ?_)
  refine V.icmp_ge (tgt := 29) F dX4_shotOnes_9 (by decide) (fun c5 c5' => ?_) (fun c5 c5' => ?_)
  · skip
    have j1_eq := ((lpT j1_N).1 (by rw [← e4]; exact c5)).symm
    subst j1_eq
    refine V.iload_n F dX4_shotOnes_29 rfl (lv_at hl 1 rfl) ?_
    exact V.iretR F hr hk dX4_shotOnes_30 (by subst e4; first | rfl | (simp only [shoC, c5, c5', oi1, nI_succ, bI, and_true, true_and, and_false, false_and, and_self, or_true, true_or, or_false, false_or, or_self, not_true_eq_false, not_false_eq_true, if_true, if_false, ↓reduceIte]; done) | (simp [shoC, c5, c5', bI, oi1, nI_succ]; done))
  · skip
    have j1_lt := (lpT j1_N).2 (by rw [← e4]; exact c5)
    refine V.aload_n F dX4_shotOnes_12 rfl (lv_at hl 2 rfl) ?_
    refine V.iload_n F dX4_shotOnes_13 rfl (lv_at hl 0 rfl) ?_
    refine V.rdV (q0 := 0) F hE (c_X4_isShot l E) (kX4_39 F.2.2.2.2 ⟨Nat.le_of_ble_eq_true rfl, Nat.le_of_ble_eq_true rfl⟩) rfl rfl [0, 1, 2, 3, 4, 5] rfl rfl hl.1 (Nat.le_of_ble_eq_true rfl) dX4_shotOnes_14 rfl ?_
    refine V.topi (fun z6 e6 => ?_)
    refine V.if_eqB (tgt := 23) F e6 dX4_shotOnes_17 (by decide) (fun c7 => ?_) (fun c7 => ?_)
    · skip
      refine V.iinc (j := 0) (lv' := fun z8 => [(2, .int z8), (1, .int (shoC fd j1)), (0, .ref o)]) F dX4_shotOnes_23 hl rfl (by decide) (fun _ => rfl) (fun z8 e8 ls hl => ?_)
      refine V.goto (tgt := 4) F dX4_shotOnes_26 (by decide) ?_
      have h9 : nI (j1 + 1) = z8 := (by subst e4 e6 e8; first | rfl | (simp only [shoC, c5, c5', c7, oi1, nI_succ, bI, and_true, true_and, and_false, false_and, and_self, or_true, true_or, or_false, false_or, or_self, not_true_eq_false, not_false_eq_true, if_true, if_false, ↓reduceIte]; done) | (simp [shoC, c5, c5', c7, bI, oi1, nI_succ]; done))
      have h10 : shoC fd (j1 + 1) = shoC fd j1 := (by subst e4 e6 e8; first | rfl | (simp only [shoC, c5, c5', c7, oi1, nI_succ, bI, and_true, true_and, and_false, false_and, and_self, or_true, true_or, or_false, false_or, or_self, not_true_eq_false, not_false_eq_true, if_true, if_false, ↓reduceIte]; done) | (simp [shoC, c5, c5', c7, bI, oi1, nI_succ]; done))
      exact ihj1 j1_lt trivial _ (lv_sub hl [0, 1, 2] (by rw [h9, h10]; rfl))
    · skip
      refine V.iinc (j := 1) (lv' := fun z11 => [(1, .int z11), (2, .int (nI j1)), (0, .ref o)]) F dX4_shotOnes_20 hl rfl (by decide) (fun _ => rfl) (fun z11 e11 ls hl => ?_)
      refine V.iinc (j := 1) (lv' := fun z12 => [(2, .int z12), (1, .int z11), (0, .ref o)]) F dX4_shotOnes_23 hl rfl (by decide) (fun _ => rfl) (fun z12 e12 ls hl => ?_)
      refine V.goto (tgt := 4) F dX4_shotOnes_26 (by decide) ?_
      have h13 : nI (j1 + 1) = z12 := (by subst e4 e6 e11 e12; first | rfl | (simp only [shoC, c5, c5', c7, oi1, nI_succ, bI, and_true, true_and, and_false, false_and, and_self, or_true, true_or, or_false, false_or, or_self, not_true_eq_false, not_false_eq_true, if_true, if_false, ↓reduceIte]; done) | (simp [shoC, c5, c5', c7, bI, oi1, nI_succ]; done))
      have h14 : shoC fd (j1 + 1) = z11 := (by subst e4 e6 e11 e12; first | rfl | (simp only [shoC, c5, c5', c7, oi1, nI_succ, bI, and_true, true_and, and_false, false_and, and_self, or_true, true_or, or_false, false_or, or_self, not_true_eq_false, not_false_eq_true, if_true, if_false, ↓reduceIte]; done) | (simp [shoC, c5, c5', c7, bI, oi1, nI_succ]; done))
      exact ihj1 j1_lt trivial _ (lv_sub hl [0, 1, 2] (by rw [h13, h14]; rfl))
set_option maxHeartbeats 4000000 in
set_option maxRecDepth 100000 in
theorem c_X4_shotByDoubles (l : Launch) (E : EV) {o a1 a2 a3 a4 a5 : Nat} {n : Int32} {fk fr fs fd fe : Nat → Int32} : Rd l E yX4_shotByDoubles cX4_shotByDoubles 3 (some .int) 3 63 [.ref o] (scO E o a1 a2 a3 a4 a5 n fk fr fs fd fe) (some (.int (dblC fs fd fe n.toNatClampNeg))) := by
  refine Rd.mk0 (by decide) (Nat.le_of_ble_eq_true rfl) ?_
  intro pP eE sS mM aA bB mt cC F hr hk hE ls hl
  have hl : lv_has ls 3 [(0, .ref o)] := hl
  refine V.iconst (v := 0) F dX4_shotByDoubles_0 (by decide) ?_
  refine V.istore_n (lv' := [(1, .int 0), (0, .ref o)]) F dX4_shotByDoubles_1 rfl hl (by decide) rfl (fun ls hl => ?_)
  refine V.iconst (v := 0) F dX4_shotByDoubles_2 (by decide) ?_
  refine V.istore_n (lv' := [(2, .int 0), (1, .int 0), (0, .ref o)]) F dX4_shotByDoubles_3 rfl hl (by decide) rfl (fun ls hl => ?_)
  have h2 : nI 0 = 0 := (by first | rfl | (simp only [dblC, oi1, nI_succ, bI, and_true, true_and, and_false, false_and, and_self, or_true, true_or, or_false, false_or, or_self, not_true_eq_false, not_false_eq_true, if_true, if_false, ↓reduceIte]; done) | (simp [dblC, bI, oi1, nI_succ]; done))
  have h3 : dblC fs fd fe 0 = 0 := (by first | rfl | (simp only [dblC, oi1, nI_succ, bI, and_true, true_and, and_false, false_and, and_self, or_true, true_or, or_false, false_or, or_self, not_true_eq_false, not_false_eq_true, if_true, if_false, ↓reduceIte]; done) | (simp [dblC, bI, oi1, nI_succ]; done))
  refine V.loop (N := n.toNatClampNeg) (k0 := 0) (I := (fun j1 : Nat => [(2, .int (nI j1)), (1, .int (dblC fs fd fe j1)), (0, .ref o)])) (J := fun _ => True) (Nat.zero_le _) trivial (lv_sub hl [0, 1, 2] (by rw [h2, h3]; rfl)) ?_
  intro j1 j1_N j1_J ihj1 ls hl
  have hl : lv_has ls 3 [(2, .int (nI j1)), (1, .int (dblC fs fd fe j1)), (0, .ref o)] := hl
  refine V.iload_n F dX4_shotByDoubles_4 rfl (lv_at hl 0 rfl) ?_
  refine V.aload_n F dX4_shotByDoubles_5 rfl (lv_at hl 2 rfl) ?_
  refine V.getfi F hE gX4_9 0 rfl rfl dX4_shotByDoubles_6 (fun z4 e4 => ?_)
  refine V.icmp_ge (tgt := 29) F dX4_shotByDoubles_9 (by decide) (fun c5 c5' => ?_) (fun c5 c5' => ?_)
  · skip
    have j1_eq := ((lpT j1_N).1 (by rw [← e4]; exact c5)).symm
    subst j1_eq
    refine V.iload_n F dX4_shotByDoubles_29 rfl (lv_at hl 1 rfl) ?_
    exact V.iretR F hr hk dX4_shotByDoubles_30 (by subst e4; first | rfl | (simp only [dblC, c5, c5', oi1, nI_succ, bI, and_true, true_and, and_false, false_and, and_self, or_true, true_or, or_false, false_or, or_self, not_true_eq_false, not_false_eq_true, if_true, if_false, ↓reduceIte]; done) | (simp [dblC, c5, c5', bI, oi1, nI_succ]; done))
  · skip
    have j1_lt := (lpT j1_N).2 (by rw [← e4]; exact c5)
    refine V.aload_n F dX4_shotByDoubles_12 rfl (lv_at hl 2 rfl) ?_
    refine V.iload_n F dX4_shotByDoubles_13 rfl (lv_at hl 0 rfl) ?_
    refine V.rdV (q0 := 0) F hE (c_X4_isByDouble l E) (kX4_50 F.2.2.2.2 ⟨Nat.le_of_ble_eq_true rfl, Nat.le_of_ble_eq_true rfl⟩) rfl rfl [0, 1, 2, 3, 4, 5] rfl rfl hl.1 (Nat.le_of_ble_eq_true rfl) dX4_shotByDoubles_14 rfl ?_
    refine V.topi (fun z6 e6 => ?_)
    refine V.if_eqB (tgt := 23) F e6 dX4_shotByDoubles_17 (by decide) (fun c7 => ?_) (fun c7 => ?_)
    · skip
      refine V.iinc (j := 0) (lv' := fun z8 => [(2, .int z8), (1, .int (dblC fs fd fe j1)), (0, .ref o)]) F dX4_shotByDoubles_23 hl rfl (by decide) (fun _ => rfl) (fun z8 e8 ls hl => ?_)
      refine V.goto (tgt := 4) F dX4_shotByDoubles_26 (by decide) ?_
      have h9 : nI (j1 + 1) = z8 := (by subst e4 e6 e8; first | rfl | (simp only [dblC, c5, c5', c7, oi1, nI_succ, bI, and_true, true_and, and_false, false_and, and_self, or_true, true_or, or_false, false_or, or_self, not_true_eq_false, not_false_eq_true, if_true, if_false, ↓reduceIte]; done) | (simp [dblC, c5, c5', c7, bI, oi1, nI_succ]; done))
      have h10 : dblC fs fd fe (j1 + 1) = dblC fs fd fe j1 := (by subst e4 e6 e8; first | rfl | (simp only [dblC, c5, c5', c7, oi1, nI_succ, bI, and_true, true_and, and_false, false_and, and_self, or_true, true_or, or_false, false_or, or_self, not_true_eq_false, not_false_eq_true, if_true, if_false, ↓reduceIte]; done) | (simp [dblC, c5, c5', c7, bI, oi1, nI_succ]; done))
      exact ihj1 j1_lt trivial _ (lv_sub hl [0, 1, 2] (by rw [h9, h10]; rfl))
    · skip
      refine V.iinc (j := 1) (lv' := fun z11 => [(1, .int z11), (2, .int (nI j1)), (0, .ref o)]) F dX4_shotByDoubles_20 hl rfl (by decide) (fun _ => rfl) (fun z11 e11 ls hl => ?_)
      refine V.iinc (j := 1) (lv' := fun z12 => [(2, .int z12), (1, .int z11), (0, .ref o)]) F dX4_shotByDoubles_23 hl rfl (by decide) (fun _ => rfl) (fun z12 e12 ls hl => ?_)
      refine V.goto (tgt := 4) F dX4_shotByDoubles_26 (by decide) ?_
      have h13 : nI (j1 + 1) = z12 := (by subst e4 e6 e11 e12; first | rfl | (simp only [dblC, c5, c5', c7, oi1, nI_succ, bI, and_true, true_and, and_false, false_and, and_self, or_true, true_or, or_false, false_or, or_self, not_true_eq_false, not_false_eq_true, if_true, if_false, ↓reduceIte]; done) | (simp [dblC, c5, c5', c7, bI, oi1, nI_succ]; done))
      have h14 : dblC fs fd fe (j1 + 1) = z11 := (by subst e4 e6 e11 e12; first | rfl | (simp only [dblC, c5, c5', c7, oi1, nI_succ, bI, and_true, true_and, and_false, false_and, and_self, or_true, true_or, or_false, false_or, or_self, not_true_eq_false, not_false_eq_true, if_true, if_false, ↓reduceIte]; done) | (simp [dblC, c5, c5', c7, bI, oi1, nI_succ]; done))
      exact ihj1 j1_lt trivial _ (lv_sub hl [0, 1, 2] (by rw [h13, h14]; rfl))
set_option maxHeartbeats 4000000 in
set_option maxRecDepth 100000 in
theorem c_X4_shotBy (l : Launch) (E : EV) {o a1 a2 a3 a4 a5 : Nat} {n : Int32} {fk fr fs fd fe : Nat → Int32} {p : Int32} : Rd l E yX4_shotBy cX4_shotBy 4 (some .int) 2 42 [.ref o, .int p] (scO E o a1 a2 a3 a4 a5 n fk fr fs fd fe) (some (.int (sbyC fd fe p n.toNatClampNeg))) := by
  refine Rd.mk0 (by decide) (Nat.le_of_ble_eq_true rfl) ?_
  intro pP eE sS mM aA bB mt cC F hr hk hE ls hl
  have hl : lv_has ls 4 [(0, .ref o), (1, .int p)] := hl
  refine V.iconst (v := 0) F dX4_shotBy_0 (by decide) ?_
  refine V.istore_n (lv' := [(2, .int 0), (0, .ref o), (1, .int p)]) F dX4_shotBy_1 rfl hl (by decide) rfl (fun ls hl => ?_)
  refine V.iconst (v := 0) F dX4_shotBy_2 (by decide) ?_
  refine V.istore_n (lv' := [(3, .int 0), (2, .int 0), (0, .ref o), (1, .int p)]) F dX4_shotBy_3 rfl hl (by decide) rfl (fun ls hl => ?_)
  have h2 : nI 0 = 0 := (by first | rfl | (simp only [sbyC, oi1, nI_succ, bI, and_true, true_and, and_false, false_and, and_self, or_true, true_or, or_false, false_or, or_self, not_true_eq_false, not_false_eq_true, if_true, if_false, ↓reduceIte]; done) | (simp [sbyC, bI, oi1, nI_succ]; done))
  have h3 : sbyC fd fe p 0 = 0 := (by first | rfl | (simp only [sbyC, oi1, nI_succ, bI, and_true, true_and, and_false, false_and, and_self, or_true, true_or, or_false, false_or, or_self, not_true_eq_false, not_false_eq_true, if_true, if_false, ↓reduceIte]; done) | (simp [sbyC, bI, oi1, nI_succ]; done))
  refine V.loop (N := n.toNatClampNeg) (k0 := 0) (I := (fun j1 : Nat => [(3, .int (nI j1)), (2, .int (sbyC fd fe p j1)), (0, .ref o), (1, .int p)])) (J := fun _ => True) (Nat.zero_le _) trivial (lv_sub hl [0, 1, 2, 3] (by rw [h2, h3]; rfl)) ?_
  intro j1 j1_N j1_J ihj1 ls hl
  have hl : lv_has ls 4 [(3, .int (nI j1)), (2, .int (sbyC fd fe p j1)), (0, .ref o), (1, .int p)] := hl
  refine V.iload_n F dX4_shotBy_4 rfl (lv_at hl 0 rfl) ?_
  refine V.aload_n F dX4_shotBy_5 rfl (lv_at hl 2 rfl) ?_
  refine V.getfi F hE gX4_9 0 rfl rfl dX4_shotBy_6 (fun z4 e4 => ?_)
  refine V.icmp_ge (tgt := 38) F dX4_shotBy_9 (by decide) (fun c5 c5' => ?_) (fun c5 c5' => ?_)
  · skip
    have j1_eq := ((lpT j1_N).1 (by rw [← e4]; exact c5)).symm
    subst j1_eq
    refine V.iload_n F dX4_shotBy_38 rfl (lv_at hl 1 rfl) ?_
    exact V.iretR F hr hk dX4_shotBy_39 (by subst e4; first | rfl | (simp only [sbyC, c5, c5', oi1, nI_succ, bI, and_true, true_and, and_false, false_and, and_self, or_true, true_or, or_false, false_or, or_self, not_true_eq_false, not_false_eq_true, if_true, if_false, ↓reduceIte]; done) | (simp [sbyC, c5, c5', bI, oi1, nI_succ]; done))
  · skip
    have j1_lt := (lpT j1_N).2 (by rw [← e4]; exact c5)
    refine V.aload_n F dX4_shotBy_12 rfl (lv_at hl 2 rfl) ?_
    refine V.iload_n F dX4_shotBy_13 rfl (lv_at hl 0 rfl) ?_
    refine V.rdV (q0 := 0) F hE (c_X4_isShot l E) (kX4_39 F.2.2.2.2 ⟨Nat.le_of_ble_eq_true rfl, Nat.le_of_ble_eq_true rfl⟩) rfl rfl [0, 1, 2, 3, 4, 5] rfl rfl hl.1 (Nat.le_of_ble_eq_true rfl) dX4_shotBy_14 rfl ?_
    refine V.topi (fun z6 e6 => ?_)
    refine V.if_eqB (tgt := 32) F e6 dX4_shotBy_17 (by decide) (fun c7 => ?_) (fun c7 => ?_)
    · skip
      refine V.iinc (j := 0) (lv' := fun z8 => [(3, .int z8), (2, .int (sbyC fd fe p j1)), (0, .ref o), (1, .int p)]) F dX4_shotBy_32 hl rfl (by decide) (fun _ => rfl) (fun z8 e8 ls hl => ?_)
      refine V.goto (tgt := 4) F dX4_shotBy_35 (by decide) ?_
      have h9 : nI (j1 + 1) = z8 := (by subst e4 e6 e8; first | rfl | (simp only [sbyC, c5, c5', c7, oi1, nI_succ, bI, and_true, true_and, and_false, false_and, and_self, or_true, true_or, or_false, false_or, or_self, not_true_eq_false, not_false_eq_true, if_true, if_false, ↓reduceIte]; done) | (simp [sbyC, c5, c5', c7, bI, oi1, nI_succ]; done))
      have h10 : sbyC fd fe p (j1 + 1) = sbyC fd fe p j1 := (by subst e4 e6 e8; first | rfl | (simp only [sbyC, c5, c5', c7, oi1, nI_succ, bI, and_true, true_and, and_false, false_and, and_self, or_true, true_or, or_false, false_or, or_self, not_true_eq_false, not_false_eq_true, if_true, if_false, ↓reduceIte]; done) | (simp [sbyC, c5, c5', c7, bI, oi1, nI_succ]; done))
      exact ihj1 j1_lt trivial _ (lv_sub hl [0, 1, 2, 3] (by rw [h9, h10]; rfl))
    · skip
      refine V.aload_n F dX4_shotBy_20 rfl (lv_at hl 2 rfl) ?_
      refine V.iload_n F dX4_shotBy_21 rfl (lv_at hl 0 rfl) ?_
      refine V.rdV (q0 := 0) F hE (c_X4_doerOf l E) (kX4_43 F.2.2.2.2 ⟨Nat.le_of_ble_eq_true rfl, Nat.le_of_ble_eq_true rfl⟩) rfl rfl [0, 1, 2, 3, 4, 5] rfl rfl hl.1 (Nat.le_of_ble_eq_true rfl) dX4_shotBy_22 rfl ?_
      refine V.topi (fun z11 e11 => ?_)
      refine V.iload_n F dX4_shotBy_25 rfl (lv_at hl 3 rfl) ?_
      refine V.icmp_ne (tgt := 32) F dX4_shotBy_26 (by decide) (fun c12 => ?_) (fun c12 => ?_)
      · skip
        refine V.iinc (j := 0) (lv' := fun z13 => [(3, .int z13), (2, .int (sbyC fd fe p j1)), (0, .ref o), (1, .int p)]) F dX4_shotBy_32 hl rfl (by decide) (fun _ => rfl) (fun z13 e13 ls hl => ?_)
        refine V.goto (tgt := 4) F dX4_shotBy_35 (by decide) ?_
        have h14 : nI (j1 + 1) = z13 := (by subst e4 e6 e11 e13; first | rfl | (simp only [sbyC, c5, c5', c7, c12, oi1, nI_succ, bI, and_true, true_and, and_false, false_and, and_self, or_true, true_or, or_false, false_or, or_self, not_true_eq_false, not_false_eq_true, if_true, if_false, ↓reduceIte]; done) | (simp [sbyC, c5, c5', c7, c12, bI, oi1, nI_succ]; done))
        have h15 : sbyC fd fe p (j1 + 1) = sbyC fd fe p j1 := (by subst e4 e6 e11 e13; first | rfl | (simp only [sbyC, c5, c5', c7, c12, oi1, nI_succ, bI, and_true, true_and, and_false, false_and, and_self, or_true, true_or, or_false, false_or, or_self, not_true_eq_false, not_false_eq_true, if_true, if_false, ↓reduceIte]; done) | (simp [sbyC, c5, c5', c7, c12, bI, oi1, nI_succ]; done))
        exact ihj1 j1_lt trivial _ (lv_sub hl [0, 1, 2, 3] (by rw [h14, h15]; rfl))
      · skip
        refine V.iinc (j := 1) (lv' := fun z16 => [(2, .int z16), (3, .int (nI j1)), (0, .ref o), (1, .int p)]) F dX4_shotBy_29 hl rfl (by decide) (fun _ => rfl) (fun z16 e16 ls hl => ?_)
        refine V.iinc (j := 1) (lv' := fun z17 => [(3, .int z17), (2, .int z16), (0, .ref o), (1, .int p)]) F dX4_shotBy_32 hl rfl (by decide) (fun _ => rfl) (fun z17 e17 ls hl => ?_)
        refine V.goto (tgt := 4) F dX4_shotBy_35 (by decide) ?_
        have h18 : nI (j1 + 1) = z17 := (by subst e4 e6 e11 e16 e17; first | rfl | (simp only [sbyC, c5, c5', c7, c12, oi1, nI_succ, bI, and_true, true_and, and_false, false_and, and_self, or_true, true_or, or_false, false_or, or_self, not_true_eq_false, not_false_eq_true, if_true, if_false, ↓reduceIte]; done) | (simp [sbyC, c5, c5', c7, c12, bI, oi1, nI_succ]; done))
        have h19 : sbyC fd fe p (j1 + 1) = z16 := (by subst e4 e6 e11 e16 e17; first | rfl | (simp only [sbyC, c5, c5', c7, c12, oi1, nI_succ, bI, and_true, true_and, and_false, false_and, and_self, or_true, true_or, or_false, false_or, or_self, not_true_eq_false, not_false_eq_true, if_true, if_false, ↓reduceIte]; done) | (simp [sbyC, c5, c5', c7, c12, bI, oi1, nI_succ]; done))
        exact ihj1 j1_lt trivial _ (lv_sub hl [0, 1, 2, 3] (by rw [h18, h19]; rfl))
set_option maxHeartbeats 4000000 in
set_option maxRecDepth 100000 in
theorem c_X4_latestShotBy (l : Launch) (E : EV) {o a1 a2 a3 a4 a5 : Nat} {n : Int32} {fk fr fs fd fe : Nat → Int32} {p : Int32} : Rd l E yX4_latestShotBy cX4_latestShotBy 4 (some .int) 1 21 [.ref o, .int p] (scO E o a1 a2 a3 a4 a5 n fk fr fs fd fe) (some (.int (latC fd fe p n.toNatClampNeg))) := by
  refine Rd.mk0 (by decide) (Nat.le_of_ble_eq_true rfl) ?_
  intro pP eE sS mM aA bB mt cC F hr hk hE ls hl
  have hl : lv_has ls 4 [(0, .ref o), (1, .int p)] := hl
  refine V.iconst (v := (-1)) F dX4_latestShotBy_0 (by decide) ?_
  refine V.istore_n (lv' := [(2, .int (-1)), (0, .ref o), (1, .int p)]) F dX4_latestShotBy_1 rfl hl (by decide) rfl (fun ls hl => ?_)
  refine V.iconst (v := 0) F dX4_latestShotBy_2 (by decide) ?_
  refine V.istore_n (lv' := [(3, .int 0), (2, .int (-1)), (0, .ref o), (1, .int p)]) F dX4_latestShotBy_3 rfl hl (by decide) rfl (fun ls hl => ?_)
  have h2 : nI 0 = 0 := (by first | rfl | (simp only [latC, oi1, nI_succ, bI, and_true, true_and, and_false, false_and, and_self, or_true, true_or, or_false, false_or, or_self, not_true_eq_false, not_false_eq_true, if_true, if_false, ↓reduceIte]; done) | (simp [latC, bI, oi1, nI_succ]; done))
  have h3 : latC fd fe p 0 = (-1) := (by first | rfl | (simp only [latC, oi1, nI_succ, bI, and_true, true_and, and_false, false_and, and_self, or_true, true_or, or_false, false_or, or_self, not_true_eq_false, not_false_eq_true, if_true, if_false, ↓reduceIte]; done) | (simp [latC, bI, oi1, nI_succ]; done))
  refine V.loop (N := n.toNatClampNeg) (k0 := 0) (I := (fun j1 : Nat => [(3, .int (nI j1)), (2, .int (latC fd fe p j1)), (0, .ref o), (1, .int p)])) (J := fun _ => True) (Nat.zero_le _) trivial (lv_sub hl [0, 1, 2, 3] (by rw [h2, h3]; rfl)) ?_
  intro j1 j1_N j1_J ihj1 ls hl
  have hl : lv_has ls 4 [(3, .int (nI j1)), (2, .int (latC fd fe p j1)), (0, .ref o), (1, .int p)] := hl
  refine V.iload_n F dX4_latestShotBy_4 rfl (lv_at hl 0 rfl) ?_
  refine V.aload_n F dX4_latestShotBy_5 rfl (lv_at hl 2 rfl) ?_
  refine V.getfi F hE gX4_9 0 rfl rfl dX4_latestShotBy_6 (fun z4 e4 => ?_)
  refine V.icmp_ge (tgt := 51) F dX4_latestShotBy_9 (by decide) (fun c5 c5' => ?_) (fun c5 c5' => ?_)
  · skip
    have j1_eq := ((lpT j1_N).1 (by rw [← e4]; exact c5)).symm
    subst j1_eq
    refine V.iload_n F dX4_latestShotBy_51 rfl (lv_at hl 1 rfl) ?_
    exact V.iretR F hr hk dX4_latestShotBy_52 (by subst e4; first | rfl | (simp only [latC, c5, c5', oi1, nI_succ, bI, and_true, true_and, and_false, false_and, and_self, or_true, true_or, or_false, false_or, or_self, not_true_eq_false, not_false_eq_true, if_true, if_false, ↓reduceIte]; done) | (simp [latC, c5, c5', bI, oi1, nI_succ]; done))
  · skip
    have j1_lt := (lpT j1_N).2 (by rw [← e4]; exact c5)
    refine V.aload_n F dX4_latestShotBy_12 rfl (lv_at hl 2 rfl) ?_
    refine V.getf F hE gX4_28 0 rfl rfl dX4_latestShotBy_13 ?_
    refine V.iload_n F dX4_latestShotBy_16 rfl (lv_at hl 0 rfl) ?_
    refine V.rdSN F hE (c_X6_at l E (by first | assumption | omega)) (kX4_35 F.2.2.2.2 hE.2.1 ⟨Nat.le_of_ble_eq_true rfl, Nat.le_of_ble_eq_true rfl⟩) [5] rfl rfl hl.1 (Nat.le_of_ble_eq_true rfl) dX4_latestShotBy_17 rfl ?_
    refine V.topi (fun z6 e6 => ?_)
    refine V.iload_n F dX4_latestShotBy_20 rfl (lv_at hl 3 rfl) ?_
    refine V.icmp_ne (tgt := 45) F dX4_latestShotBy_21 (by decide) (fun c7 => ?_) (fun c7 => ?_)
    · skip
      refine V.iinc (j := 0) (lv' := fun z8 => [(3, .int z8), (2, .int (latC fd fe p j1)), (0, .ref o), (1, .int p)]) F dX4_latestShotBy_45 hl rfl (by decide) (fun _ => rfl) (fun z8 e8 ls hl => ?_)
      refine V.goto (tgt := 4) F dX4_latestShotBy_48 (by decide) ?_
      have h9 : nI (j1 + 1) = z8 := (by subst e4 e6 e8; first | rfl | (simp only [latC, c5, c5', c7, oi1, nI_succ, bI, and_true, true_and, and_false, false_and, and_self, or_true, true_or, or_false, false_or, or_self, not_true_eq_false, not_false_eq_true, if_true, if_false, ↓reduceIte]; done) | (simp [latC, c5, c5', c7, bI, oi1, nI_succ]; done))
      have h10 : latC fd fe p (j1 + 1) = latC fd fe p j1 := (by subst e4 e6 e8; first | rfl | (simp only [latC, c5, c5', c7, oi1, nI_succ, bI, and_true, true_and, and_false, false_and, and_self, or_true, true_or, or_false, false_or, or_self, not_true_eq_false, not_false_eq_true, if_true, if_false, ↓reduceIte]; done) | (simp [latC, c5, c5', c7, bI, oi1, nI_succ]; done))
      exact ihj1 j1_lt trivial _ (lv_sub hl [0, 1, 2, 3] (by rw [h9, h10]; rfl))
    · skip
      refine V.aload_n F dX4_latestShotBy_24 rfl (lv_at hl 2 rfl) ?_
      refine V.getf F hE gX4_25 0 rfl rfl dX4_latestShotBy_25 ?_
      refine V.iload_n F dX4_latestShotBy_28 rfl (lv_at hl 0 rfl) ?_
      refine V.rdSN F hE (c_X6_at l E (by first | assumption | omega)) (kX4_35 F.2.2.2.2 hE.2.1 ⟨Nat.le_of_ble_eq_true rfl, Nat.le_of_ble_eq_true rfl⟩) [4] rfl rfl hl.1 (Nat.le_of_ble_eq_true rfl) dX4_latestShotBy_29 rfl ?_
      refine V.topi (fun z11 e11 => ?_)
      refine V.iload_n F dX4_latestShotBy_32 rfl (lv_at hl 1 rfl) ?_
      refine V.icmp_le (tgt := 45) F dX4_latestShotBy_33 (by decide) (fun c12 c12' => ?_) (fun c12 c12' => ?_)
      · skip
        refine V.iinc (j := 0) (lv' := fun z13 => [(3, .int z13), (2, .int (latC fd fe p j1)), (0, .ref o), (1, .int p)]) F dX4_latestShotBy_45 hl rfl (by decide) (fun _ => rfl) (fun z13 e13 ls hl => ?_)
        refine V.goto (tgt := 4) F dX4_latestShotBy_48 (by decide) ?_
        have h14 : nI (j1 + 1) = z13 := (by subst e4 e6 e11 e13; first | rfl | (simp only [latC, c5, c5', c7, c12, c12', oi1, nI_succ, bI, and_true, true_and, and_false, false_and, and_self, or_true, true_or, or_false, false_or, or_self, not_true_eq_false, not_false_eq_true, if_true, if_false, ↓reduceIte]; done) | (simp [latC, c5, c5', c7, c12, c12', bI, oi1, nI_succ]; done))
        have h15 : latC fd fe p (j1 + 1) = latC fd fe p j1 := (by subst e4 e6 e11 e13; first | rfl | (simp only [latC, c5, c5', c7, c12, c12', oi1, nI_succ, bI, and_true, true_and, and_false, false_and, and_self, or_true, true_or, or_false, false_or, or_self, not_true_eq_false, not_false_eq_true, if_true, if_false, ↓reduceIte]; done) | (simp [latC, c5, c5', c7, c12, c12', bI, oi1, nI_succ]; done))
        exact ihj1 j1_lt trivial _ (lv_sub hl [0, 1, 2, 3] (by rw [h14, h15]; rfl))
      · skip
        refine V.aload_n F dX4_latestShotBy_36 rfl (lv_at hl 2 rfl) ?_
        refine V.getf F hE gX4_25 0 rfl rfl dX4_latestShotBy_37 ?_
        refine V.iload_n F dX4_latestShotBy_40 rfl (lv_at hl 0 rfl) ?_
        refine V.rdSN F hE (c_X6_at l E (by first | assumption | omega)) (kX4_35 F.2.2.2.2 hE.2.1 ⟨Nat.le_of_ble_eq_true rfl, Nat.le_of_ble_eq_true rfl⟩) [4] rfl rfl hl.1 (Nat.le_of_ble_eq_true rfl) dX4_latestShotBy_41 rfl ?_
        refine V.topi (fun z16 e16 => ?_)
        refine V.istore_n (lv' := [(2, .int z16), (3, .int (nI j1)), (0, .ref o), (1, .int p)]) F dX4_latestShotBy_44 rfl hl (by decide) rfl (fun ls hl => ?_)
        refine V.iinc (j := 1) (lv' := fun z17 => [(3, .int z17), (2, .int z16), (0, .ref o), (1, .int p)]) F dX4_latestShotBy_45 hl rfl (by decide) (fun _ => rfl) (fun z17 e17 ls hl => ?_)
        refine V.goto (tgt := 4) F dX4_latestShotBy_48 (by decide) ?_
        have h18 : nI (j1 + 1) = z17 := (by subst e4 e6 e11 e16 e17; first | rfl | (simp only [latC, c5, c5', c7, c12, c12', oi1, nI_succ, bI, and_true, true_and, and_false, false_and, and_self, or_true, true_or, or_false, false_or, or_self, not_true_eq_false, not_false_eq_true, if_true, if_false, ↓reduceIte]; done) | (simp [latC, c5, c5', c7, c12, c12', bI, oi1, nI_succ]; done))
        have h19 : latC fd fe p (j1 + 1) = z16 := (by subst e4 e6 e11 e16 e17; first | rfl | (simp only [latC, c5, c5', c7, c12, c12', oi1, nI_succ, bI, and_true, true_and, and_false, false_and, and_self, or_true, true_or, or_false, false_or, or_self, not_true_eq_false, not_false_eq_true, if_true, if_false, ↓reduceIte]; done) | (simp [latC, c5, c5', c7, c12, c12', bI, oi1, nI_succ]; done))
        exact ihj1 j1_lt trivial _ (lv_sub hl [0, 1, 2, 3] (by rw [h18, h19]; rfl))
