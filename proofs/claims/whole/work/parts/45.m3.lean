set_option maxHeartbeats 4000000 in
set_option maxRecDepth 100000 in
theorem c_X7_firstDay (l : Launch) (E : EV) {a : Nat → Nat} {th sm ln pl : Int32} {hs : Int64} {s S b w : Nat → Int32} {R H C D : Nat} {sn : Nat → Nat} {x p : Nat} (hM : MI s R H C D sn) (hx0 : x < 10) (hp0 : p < 8) : Rd l E yX7_firstDay cX7_firstDay 4 (some .int) 4 99 [.ref (a 0), .int (nI x), .int (nI p)] (mdW E a th sm ln pl hs s S b w) (some (.int (fdM s R H sn x p 61 D))) := by
  refine Rd.mk0 (by decide) (Nat.le_of_ble_eq_true rfl) ?_
  intro pP eE sS mM aA bB mt cC F hr hk hE ls hl
  have hl : lv_has ls 4 [(0, .ref (a 0)), (1, .int (nI x)), (2, .int (nI p))] := hl
  have hM1 := hM
  obtain ⟨hD0, hD, hkR, hR, hh, hH, hs4, hC, hsn⟩ := hM1
  refine V.aload_n F dX7_firstDay_0 rfl (lv_at hl 0 rfl) ?_
  refine V.getf F hE gX7_7 0 rfl rfl dX7_firstDay_1 ?_
  refine V.iconst (v := nI 0) F dX7_firstDay_4 (by decide) ?_
  refine V.iadn (i := 0) F hE 1 rfl (by omega) (by omega) dX7_firstDay_5 (fun z1 e1 => ?_)
  obtain rfl : z1 = nI D := e1.trans hD0
  refine V.istore_n (lv' := [(3, .int (nI D)), (0, .ref (a 0)), (1, .int (nI x)), (2, .int (nI p))]) F dX7_firstDay_6 rfl hl (by decide) rfl (fun ls hl => ?_)
  have h3 : nI D = nI D := (by first | with_reducible rfl | (simp only [oi1n, nI_add, pk_mul, bI, and_true, true_and, not_true_eq_false, not_false_eq_true, if_true, if_false, ↓reduceIte] <;> rfl) | rfl)
  refine V.loop (N := (D + 61)) (k0 := D) (I := (fun j2 : Nat => [(3, .int (nI j2)), (0, .ref (a 0)), (1, .int (nI x)), (2, .int (nI p))])) (J := fun j2 : Nat => fdM s R H sn x p 61 D = fdM s R H sn x p (D + 61 - j2) j2) (by omega) (by rw [show D + 61 - D = 61 by omega]) (lv_sub hl [0, 1, 2, 3] (by rw [h3]; rfl)) ?_
  intro j2 j2_N j2_J ihj2 ls hl
  have hl : lv_has ls 4 [(3, .int (nI j2)), (0, .ref (a 0)), (1, .int (nI x)), (2, .int (nI p))] := hl
  try dsimp only at j2_J ihj2 ⊢
  refine V.iload_n F dX7_firstDay_7 rfl (lv_at hl 0 rfl) ?_
  refine V.aload_n F dX7_firstDay_8 rfl (lv_at hl 1 rfl) ?_
  refine V.getf F hE gX7_7 0 rfl rfl dX7_firstDay_9 ?_
  refine V.iconst (v := nI 0) F dX7_firstDay_12 (by decide) ?_
  refine V.iadn (i := 0) F hE 1 rfl (by omega) (by omega) dX7_firstDay_13 (fun z4 e4 => ?_)
  obtain rfl : z4 = nI D := e4.trans hD0
  refine V.bipush (v := nI 60) F dX7_firstDay_14 (by decide) ?_
  refine V.iadd F dX7_firstDay_16 (fun z5 e5 => ?_)
  obtain rfl : z5 = nI (D + 60) := e5.trans (nI_add _ _)
  refine V.icmp_gt (tgt := 38) F dX7_firstDay_17 (by decide) (fun c6 c6' => ?_) (fun c6 c6' => ?_)
  · skip
    have j2_eq := ((lpG (by rfl) (by first | decide | omega) j2_N).1 c6).symm
    subst j2_eq
    refine V.iconst (v := (-1)) F dX7_firstDay_38 (by decide) ?_
    exact V.iretR F hr hk dX7_firstDay_39 (by first | with_reducible rfl | exact (j2_J.trans fdM_e).symm | (simp only [c6, c6', oi1n, nI_add, pk_mul, bI, and_true, true_and, not_true_eq_false, not_false_eq_true, if_true, if_false, ↓reduceIte] <;> rfl) | rfl)
  · skip
    have j2_lt := (lpG (by rfl) (by first | decide | omega) j2_N).2 c6
    refine V.aload_n F dX7_firstDay_20 rfl (lv_at hl 1 rfl) ?_
    refine V.iload_n F dX7_firstDay_21 rfl (lv_at hl 2 rfl) ?_
    refine V.iload_n F dX7_firstDay_22 rfl (lv_at hl 3 rfl) ?_
    refine V.iload_n F dX7_firstDay_23 rfl (lv_at hl 0 rfl) ?_
    refine V.rdV (q0 := 0) F hE (c_X7_reason l E hM hx0 hp0) (kX7_87 F.2.2.2.2 ⟨Nat.le_of_ble_eq_true rfl, Nat.le_of_ble_eq_true rfl⟩) rfl rfl [0, 1, 2, 3, 4] rfl rfl hl.1 (Nat.le_of_ble_eq_true rfl) dX7_firstDay_24 rfl ?_
    refine V.topi (fun z7 e7 => ?_)
    refine V.if_ne (tgt := 32) F dX7_firstDay_27 (by decide) (fun c8 => ?_) (fun c8 => ?_)
    · skip
      rw [← nI_0] at c8
      refine V.iinc (j := 0) (lv' := fun z9 => [(3, .int z9), (0, .ref (a 0)), (1, .int (nI x)), (2, .int (nI p))]) F dX7_firstDay_32 hl rfl (by decide) (fun _ => rfl) (fun z9 e9 ls hl => ?_)
      refine V.goto (tgt := 7) F dX7_firstDay_35 (by decide) ?_
      have h10 : nI (j2 + 1) = z9 := (by subst e7 e9; first | with_reducible rfl | (simp only [c6, c6', c8, oi1n, nI_add, pk_mul, bI, and_true, true_and, not_true_eq_false, not_false_eq_true, if_true, if_false, ↓reduceIte] <;> rfl) | rfl)
      exact ihj2 j2_lt (by subst e7 e9; exact j2_J.trans (fdM_s j2_lt c8)) _ (lv_sub hl [0, 1, 2, 3] (by rw [h10]; rfl))
    · skip
      rw [← nI_0] at c8
      refine V.iload_n F dX7_firstDay_30 rfl (lv_at hl 0 rfl) ?_
      exact V.iretR F hr hk dX7_firstDay_31 (by subst e7; first | with_reducible rfl | exact (j2_J.trans (fdM_r j2_lt c8)).symm | (simp only [c6, c6', eq_true c8, oi1n, nI_add, pk_mul, bI, and_true, true_and, not_true_eq_false, not_false_eq_true, if_true, if_false, ↓reduceIte] <;> rfl) | rfl)
set_option maxHeartbeats 4000000 in
set_option maxRecDepth 100000 in
theorem c_X7_bestFor_s (l : Launch) (E : EV) {a : Nat → Nat} {th sm ln pl : Int32} {hs : Int64} {s S b w : Nat → Int32} {R H C D : Nat} {sn : Nat → Nat} {x : Nat} (hM : MI s R H C D sn) (hx0 : x < 10) (h : ¬ s (250 + 5 * x + 3) = -1) : Rd l E yX7_bestFor cX7_bestFor 5 (some .int) 4 100 [.ref (a 0), .int (nI x)] (mdW E a th sm ln pl hs s S b w) (some (.int (-1))) := by
  refine Rd.mk0 (by decide) (Nat.le_of_ble_eq_true rfl) ?_
  intro pP eE sS mM aA bB mt cC F hr hk hE ls hl
  have hl : lv_has ls 5 [(0, .ref (a 0)), (1, .int (nI x))] := hl
  have hM1 := hM
  obtain ⟨hD0, hD, hkR, hR, hh, hH, hs4, hC, hsn⟩ := hM1
  refine V.iconst (v := (-1)) F dX7_bestFor_0 (by decide) ?_
  refine V.istore_n (lv' := [(2, .int (-1)), (0, .ref (a 0)), (1, .int (nI x))]) F dX7_bestFor_1 rfl hl (by decide) rfl (fun ls hl => ?_)
  refine V.iconst (v := nI 0) F dX7_bestFor_2 (by decide) ?_
  refine V.istore_n (lv' := [(3, .int (nI 0)), (2, .int (-1)), (0, .ref (a 0)), (1, .int (nI x))]) F dX7_bestFor_3 rfl hl (by decide) rfl (fun ls hl => ?_)
  refine V.iload_n F dX7_bestFor_4 rfl (lv_at hl 0 rfl) ?_
  refine V.bipush (v := nI 8) F dX7_bestFor_5 (by decide) ?_
  refine V.icmp_ge (tgt := 95) F dX7_bestFor_7 (by decide) (fun h _ => absurd h (by decide)) (fun _ _ => ?_)
  refine V.aload_n F dX7_bestFor_10 rfl (lv_at hl 2 rfl) ?_
  refine V.iload_n F dX7_bestFor_11 rfl (lv_at hl 3 rfl) ?_
  refine V.iconst (v := nI 3) F dX7_bestFor_12 (by decide) ?_
  refine V.rdV (q0 := 0) F hE (c_X7_ofScene l E (by omega) (by omega)) (kX7_63 F.2.2.2.2 ⟨Nat.le_of_ble_eq_true rfl, Nat.le_of_ble_eq_true rfl⟩) rfl rfl [0, 1, 2, 3, 4] rfl rfl hl.1 (Nat.le_of_ble_eq_true rfl) dX7_bestFor_13 rfl ?_
  refine V.topi (fun z2 e2 => ?_)
  refine V.iconst (v := (-1)) F dX7_bestFor_16 (by decide) ?_
  refine V.icmp_ne (tgt := 95) F dX7_bestFor_17 (by decide) (fun c3 => ?_) (fun c3 => ?_)
  · skip
    refine V.iload_n F dX7_bestFor_95 rfl (lv_at hl 1 rfl) ?_
    exact V.iretR F hr hk dX7_bestFor_96 (by subst e2; first | with_reducible rfl | (simp only [c3, oi1n, nI_add, pk_mul, bI, and_true, true_and, and_false, false_and, and_self, or_true, true_or, or_false, false_or, or_self, not_true_eq_false, not_false_eq_true, if_true, if_false, ↓reduceIte] <;> rfl) | rfl | (simp [c3, bI, oi1, nI_succ]; done))
  · skip
    subst e2; exact absurd c3 h
set_option maxHeartbeats 4000000 in
set_option maxRecDepth 100000 in
theorem c_X7_bestFor_u (l : Launch) (E : EV) {a : Nat → Nat} {th sm ln pl : Int32} {hs : Int64} {s S b w : Nat → Int32} {R H C D : Nat} {sn : Nat → Nat} {x : Nat} (hM : MI s R H C D sn) (hx0 : x < 10) (h : s (250 + 5 * x + 3) = -1) : Rd l E yX7_bestFor cX7_bestFor 5 (some .int) 4 100 [.ref (a 0), .int (nI x)] (mdW E a th sm ln pl hs s S b w) (some (.int (bv (bsN s R H sn x 8)))) := by
  refine Rd.mk0 (by decide) (Nat.le_of_ble_eq_true rfl) ?_
  intro pP eE sS mM aA bB mt cC F hr hk hE ls hl
  have hl : lv_has ls 5 [(0, .ref (a 0)), (1, .int (nI x))] := hl
  have hM1 := hM
  obtain ⟨hD0, hD, hkR, hR, hh, hH, hs4, hC, hsn⟩ := hM1
  refine V.iconst (v := (-1)) F dX7_bestFor_0 (by decide) ?_
  refine V.istore_n (lv' := [(2, .int (-1)), (0, .ref (a 0)), (1, .int (nI x))]) F dX7_bestFor_1 rfl hl (by decide) rfl (fun ls hl => ?_)
  refine V.iconst (v := nI 0) F dX7_bestFor_2 (by decide) ?_
  refine V.istore_n (lv' := [(3, .int (nI 0)), (2, .int (-1)), (0, .ref (a 0)), (1, .int (nI x))]) F dX7_bestFor_3 rfl hl (by decide) rfl (fun ls hl => ?_)
  have h2 : nI 0 = nI 0 := (by first | with_reducible rfl | rfl)
  have h3 : bv (bsN s R H sn x 0) = (-1) := (by first | with_reducible rfl | rfl)
  refine V.loop (N := 8) (k0 := 0) (I := (fun j1 : Nat => [(3, .int (nI j1)), (2, .int (bv (bsN s R H sn x j1))), (0, .ref (a 0)), (1, .int (nI x))])) (J := fun _ => True) (Nat.zero_le _) trivial (lv_sub hl [0, 1, 2, 3] (by rw [h2, h3]; rfl)) ?_
  intro j1 j1_N j1_J ihj1 ls hl
  have hl : lv_has ls 5 [(3, .int (nI j1)), (2, .int (bv (bsN s R H sn x j1))), (0, .ref (a 0)), (1, .int (nI x))] := hl
  refine V.iload_n F dX7_bestFor_4 rfl (lv_at hl 0 rfl) ?_
  refine V.bipush (v := nI 8) F dX7_bestFor_5 (by decide) ?_
  refine V.icmp_ge (tgt := 95) F dX7_bestFor_7 (by decide) (fun c4 c4' => ?_) (fun c4 c4' => ?_)
  · skip
    have j1_eq := ((lpL rfl (by omega) j1_N).1 c4).symm
    subst j1_eq
    refine V.iload_n F dX7_bestFor_95 rfl (lv_at hl 1 rfl) ?_
    exact V.iretR F hr hk dX7_bestFor_96 (by first | with_reducible rfl | (simp only [oi1n, nI_add]; done) | rfl)
  · skip
    have j1_lt := (lpL rfl (by omega) j1_N).2 c4
    refine V.aload_n F dX7_bestFor_10 rfl (lv_at hl 2 rfl) ?_
    refine V.iload_n F dX7_bestFor_11 rfl (lv_at hl 3 rfl) ?_
    refine V.iconst (v := nI 3) F dX7_bestFor_12 (by decide) ?_
    refine V.rdV (q0 := 0) F hE (c_X7_ofScene l E (by omega) (by omega)) (kX7_63 F.2.2.2.2 ⟨Nat.le_of_ble_eq_true rfl, Nat.le_of_ble_eq_true rfl⟩) rfl rfl [0, 1, 2, 3, 4] rfl rfl hl.1 (Nat.le_of_ble_eq_true rfl) dX7_bestFor_13 rfl ?_
    refine V.topi (fun z5 e5 => ?_)
    refine V.iconst (v := (-1)) F dX7_bestFor_16 (by decide) ?_
    refine V.icmp_ne (tgt := 95) F dX7_bestFor_17 (by decide) (fun c6 => ?_) (fun c6 => ?_)
    · skip
      subst e5; exact absurd h c6
    · skip
      refine V.aload_n F dX7_bestFor_20 rfl (lv_at hl 2 rfl) ?_
      refine V.iload_n F dX7_bestFor_21 rfl (lv_at hl 0 rfl) ?_
      refine V.aload_n F dX7_bestFor_22 rfl (lv_at hl 2 rfl) ?_
      refine V.iload_n F dX7_bestFor_23 rfl (lv_at hl 3 rfl) ?_
      refine V.iconst (v := nI 2) F dX7_bestFor_24 (by decide) ?_
      refine V.rdV (q0 := 0) F hE (c_X7_ofScene l E (by omega) (by omega)) (kX7_63 F.2.2.2.2 ⟨Nat.le_of_ble_eq_true rfl, Nat.le_of_ble_eq_true rfl⟩) rfl rfl [0, 1, 2, 3, 4] rfl rfl hl.1 (Nat.le_of_ble_eq_true rfl) dX7_bestFor_25 rfl ?_
      refine V.topi (fun z7 e7 => ?_)
      obtain rfl : z7 = nI (sn x) := e7.trans (hsn x hx0).1
      refine V.rdV (q0 := 0) F hE (c_X7_distance l E (by omega) (hsn x hx0).2) (kX7_73 F.2.2.2.2 ⟨Nat.le_of_ble_eq_true rfl, Nat.le_of_ble_eq_true rfl⟩) rfl rfl [0, 1, 2, 3, 4] rfl rfl hl.1 (Nat.le_of_ble_eq_true rfl) dX7_bestFor_28 rfl ?_
      refine V.topi (fun z8 e8 => ?_)
      refine V.iconst (v := nI 5) F dX7_bestFor_31 (by decide) ?_
      refine V.icmp_gt (tgt := 59) F dX7_bestFor_32 (by decide) (fun c9 c9' => ?_) (fun c9 c9' => ?_)
      · skip
        refine V.iconst (v := nI 0) F dX7_bestFor_59 (by decide) ?_
        refine V.istore (lv' := [(4, .int (nI 0)), (3, .int (nI j1)), (2, .int (bv (bsN s R H sn x j1))), (0, .ref (a 0)), (1, .int (nI x))]) F dX7_bestFor_60 hl (by decide) rfl (fun ls hl => ?_)
        refine V.iload F dX7_bestFor_62 (lv_at hl 0 rfl) ?_
        refine V.if_eq (tgt := 89) F dX7_bestFor_64 (by decide) (fun _ => ?_) (fun h => absurd h (by decide))
        refine V.iinc (j := 1) (lv' := fun z11 => [(3, .int z11), (4, .int (nI 0)), (2, .int (bv (bsN s R H sn x j1))), (0, .ref (a 0)), (1, .int (nI x))]) F dX7_bestFor_89 hl rfl (by decide) (fun _ => rfl) (fun z11 e11 ls hl => ?_)
        refine V.goto (tgt := 4) F dX7_bestFor_92 (by decide) ?_
        have h12 : nI (j1 + 1) = z11 := (by subst e5 e8 e11; first | with_reducible rfl | (simp only [oi1n, nI_add]; done) | exact bsN_n1 c9')
        have h13 : bv (bsN s R H sn x (j1 + 1)) = bv (bsN s R H sn x j1) := (by subst e5 e8 e11; first | with_reducible rfl | (simp only [oi1n, nI_add]; done) | exact bsN_n1 c9')
        exact ihj1 j1_lt trivial _ (lv_sub hl [0, 2, 3, 4] (by rw [h12, h13]; rfl))
      · skip
        refine V.aload_n F dX7_bestFor_35 rfl (lv_at hl 2 rfl) ?_
        refine V.iload_n F dX7_bestFor_36 rfl (lv_at hl 0 rfl) ?_
        refine V.aload_n F dX7_bestFor_37 rfl (lv_at hl 2 rfl) ?_
        refine V.iload_n F dX7_bestFor_38 rfl (lv_at hl 3 rfl) ?_
        refine V.iconst (v := nI 0) F dX7_bestFor_39 (by decide) ?_
        refine V.rdV (q0 := 0) F hE (c_X7_ofScene l E (by omega) (by omega)) (kX7_63 F.2.2.2.2 ⟨Nat.le_of_ble_eq_true rfl, Nat.le_of_ble_eq_true rfl⟩) rfl rfl [0, 1, 2, 3, 4] rfl rfl hl.1 (Nat.le_of_ble_eq_true rfl) dX7_bestFor_40 rfl ?_
        refine V.topi (fun z14 e14 => ?_)
        refine V.aload_n F dX7_bestFor_43 rfl (lv_at hl 2 rfl) ?_
        refine V.getf F hE gX7_7 0 rfl rfl dX7_bestFor_44 ?_
        refine V.iconst (v := nI 0) F dX7_bestFor_47 (by decide) ?_
        refine V.iadn (i := 0) F hE 1 rfl (by omega) (by omega) dX7_bestFor_48 (fun z15 e15 => ?_)
        refine V.rdV (q0 := 0) F hE (c_X7_isBarred l E (by first | assumption | omega)) (kX7_47 F.2.2.2.2 ⟨Nat.le_of_ble_eq_true rfl, Nat.le_of_ble_eq_true rfl⟩) rfl rfl [0, 1, 2, 3, 4] rfl rfl hl.1 (Nat.le_of_ble_eq_true rfl) dX7_bestFor_49 rfl ?_
        refine V.topi (fun z16 e16 => ?_)
        refine V.if_neB (tgt := 59) F e16 dX7_bestFor_52 (by decide) (fun c17 => ?_) (fun c17 => ?_)
        · skip
          refine V.iconst (v := nI 0) F dX7_bestFor_59 (by decide) ?_
          refine V.istore (lv' := [(4, .int (nI 0)), (3, .int (nI j1)), (2, .int (bv (bsN s R H sn x j1))), (0, .ref (a 0)), (1, .int (nI x))]) F dX7_bestFor_60 hl (by decide) rfl (fun ls hl => ?_)
          refine V.iload F dX7_bestFor_62 (lv_at hl 0 rfl) ?_
          refine V.if_eq (tgt := 89) F dX7_bestFor_64 (by decide) (fun _ => ?_) (fun h => absurd h (by decide))
          refine V.iinc (j := 1) (lv' := fun z19 => [(3, .int z19), (4, .int (nI 0)), (2, .int (bv (bsN s R H sn x j1))), (0, .ref (a 0)), (1, .int (nI x))]) F dX7_bestFor_89 hl rfl (by decide) (fun _ => rfl) (fun z19 e19 ls hl => ?_)
          refine V.goto (tgt := 4) F dX7_bestFor_92 (by decide) ?_
          have h20 : nI (j1 + 1) = z19 := (by subst e5 e8 e14 e15 e16 e19; first | with_reducible rfl | (simp only [oi1n, nI_add]; done) | exact bsN_n2 c17)
          have h21 : bv (bsN s R H sn x (j1 + 1)) = bv (bsN s R H sn x j1) := (by subst e5 e8 e14 e15 e16 e19; first | with_reducible rfl | (simp only [oi1n, nI_add]; done) | exact bsN_n2 c17)
          exact ihj1 j1_lt trivial _ (lv_sub hl [0, 2, 3, 4] (by rw [h20, h21]; rfl))
        · skip
          rw [Decidable.not_not] at c17
          refine V.iconst (v := nI 1) F dX7_bestFor_55 (by decide) ?_
          refine V.goto (tgt := 60) F dX7_bestFor_56 (by decide) ?_
          refine V.istore (lv' := [(4, .int (nI 1)), (3, .int (nI j1)), (2, .int (bv (bsN s R H sn x j1))), (0, .ref (a 0)), (1, .int (nI x))]) F dX7_bestFor_60 hl (by decide) rfl (fun ls hl => ?_)
          refine V.iload F dX7_bestFor_62 (lv_at hl 0 rfl) ?_
          refine V.if_eq (tgt := 89) F dX7_bestFor_64 (by decide) (fun h => absurd h (by decide)) (fun _ => ?_)
          refine V.iload_n F dX7_bestFor_67 rfl (lv_at hl 2 rfl) ?_
          refine V.iconst (v := (-1)) F dX7_bestFor_68 (by decide) ?_
          refine V.icmp_eq (tgt := 87) F dX7_bestFor_69 (by decide) (fun c23 => ?_) (fun c23 => ?_)
          · skip
            refine V.iload_n F dX7_bestFor_87 rfl (lv_at hl 1 rfl) ?_
            refine V.istore_n (lv' := [(2, .int (nI j1)), (4, .int (nI 1)), (3, .int (nI j1)), (0, .ref (a 0)), (1, .int (nI x))]) F dX7_bestFor_88 rfl hl (by decide) rfl (fun ls hl => ?_)
            refine V.iinc (j := 2) (lv' := fun z24 => [(3, .int z24), (2, .int (nI j1)), (4, .int (nI 1)), (0, .ref (a 0)), (1, .int (nI x))]) F dX7_bestFor_89 hl rfl (by decide) (fun _ => rfl) (fun z24 e24 ls hl => ?_)
            refine V.goto (tgt := 4) F dX7_bestFor_92 (by decide) ?_
            have h25 : nI (j1 + 1) = z24 := (by subst e5 e8 e14 e15 e16 e24; first | with_reducible rfl | (simp only [oi1n, nI_add]; done) | exact bsN_y1 c9' c17 c23)
            have h26 : bv (bsN s R H sn x (j1 + 1)) = nI j1 := (by subst e5 e8 e14 e15 e16 e24; first | with_reducible rfl | (simp only [oi1n, nI_add]; done) | exact bsN_y1 c9' c17 c23)
            exact ihj1 j1_lt trivial _ (lv_sub hl [0, 1, 3, 4] (by rw [h25, h26]; rfl))
          · skip
            have hb8 : bsN s R H sn x j1 < 8 := bv_lt (bsN_le s R H sn x j1) c23
            have hbv : bv (bsN s R H sn x j1) = nI (bsN s R H sn x j1) := bv_ne c23
            rw [hbv] at hl
            refine V.aload_n F dX7_bestFor_72 rfl (lv_at hl 3 rfl) ?_
            refine V.iload_n F dX7_bestFor_73 rfl (lv_at hl 4 rfl) ?_
            refine V.iload_n F dX7_bestFor_74 rfl (lv_at hl 1 rfl) ?_
            refine V.rdV (q0 := 0) F hE (c_X7_rankFor l E hM hx0 (by omega)) (kX7_177 F.2.2.2.2 ⟨Nat.le_of_ble_eq_true rfl, Nat.le_of_ble_eq_true rfl⟩) rfl rfl [0, 1, 2, 3, 4] rfl rfl hl.1 (Nat.le_of_ble_eq_true rfl) dX7_bestFor_75 rfl ?_
            refine V.topi (fun z27 e27 => ?_)
            refine V.aload_n F dX7_bestFor_78 rfl (lv_at hl 3 rfl) ?_
            refine V.iload_n F dX7_bestFor_79 rfl (lv_at hl 4 rfl) ?_
            refine V.iload_n F dX7_bestFor_80 rfl (lv_at hl 2 rfl) ?_
            refine V.rdV (q0 := 0) F hE (c_X7_rankFor l E hM hx0 hb8) (kX7_177 F.2.2.2.2 ⟨Nat.le_of_ble_eq_true rfl, Nat.le_of_ble_eq_true rfl⟩) rfl rfl [0, 1, 2, 3, 4] rfl rfl hl.1 (Nat.le_of_ble_eq_true rfl) dX7_bestFor_81 rfl ?_
            refine V.topi (fun z28 e28 => ?_)
            refine V.icmp_ge (tgt := 89) F dX7_bestFor_84 (by decide) (fun c29 c29' => ?_) (fun c29 c29' => ?_)
            · skip
              refine V.iinc (j := 1) (lv' := fun z30 => [(3, .int z30), (4, .int (nI 1)), (2, .int (nI (bsN s R H sn x j1))), (0, .ref (a 0)), (1, .int (nI x))]) F dX7_bestFor_89 hl rfl (by decide) (fun _ => rfl) (fun z30 e30 ls hl => ?_)
              refine V.goto (tgt := 4) F dX7_bestFor_92 (by decide) ?_
              have h31 : nI (j1 + 1) = z30 := (by subst e5 e8 e14 e15 e16 e27 e28 e30; first | with_reducible rfl | (simp only [oi1n, nI_add]; done) | exact bsN_n3 c23 c29')
              have h32 : bv (bsN s R H sn x (j1 + 1)) = nI (bsN s R H sn x j1) := (by subst e5 e8 e14 e15 e16 e27 e28 e30; first | with_reducible rfl | (simp only [oi1n, nI_add]; done) | exact bsN_n3 c23 c29')
              exact ihj1 j1_lt trivial _ (lv_sub hl [0, 2, 3, 4] (by rw [h31, h32]; rfl))
            · skip
              refine V.iload_n F dX7_bestFor_87 rfl (lv_at hl 1 rfl) ?_
              refine V.istore_n (lv' := [(2, .int (nI j1)), (4, .int (nI 1)), (3, .int (nI j1)), (0, .ref (a 0)), (1, .int (nI x))]) F dX7_bestFor_88 rfl hl (by decide) rfl (fun ls hl => ?_)
              refine V.iinc (j := 2) (lv' := fun z33 => [(3, .int z33), (2, .int (nI j1)), (4, .int (nI 1)), (0, .ref (a 0)), (1, .int (nI x))]) F dX7_bestFor_89 hl rfl (by decide) (fun _ => rfl) (fun z33 e33 ls hl => ?_)
              refine V.goto (tgt := 4) F dX7_bestFor_92 (by decide) ?_
              have h34 : nI (j1 + 1) = z33 := (by subst e5 e8 e14 e15 e16 e27 e28 e33; first | with_reducible rfl | (simp only [oi1n, nI_add]; done) | exact bsN_y2 c9' c17 c29')
              have h35 : bv (bsN s R H sn x (j1 + 1)) = nI j1 := (by subst e5 e8 e14 e15 e16 e27 e28 e33; first | with_reducible rfl | (simp only [oi1n, nI_add]; done) | exact bsN_y2 c9' c17 c29')
              exact ihj1 j1_lt trivial _ (lv_sub hl [0, 1, 3, 4] (by rw [h34, h35]; rfl))
