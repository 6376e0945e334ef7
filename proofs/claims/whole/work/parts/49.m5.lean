set_option maxHeartbeats 4000000 in
set_option maxRecDepth 100000 in
theorem c_X7_doesPass (l : Launch) (E : EV) {a : Nat → Nat} {th sm ln pl : Int32} {hs : Int64} {s S b w : Nat → Int32} {x : Int32} : Wr l E yX7_doesPass cX7_doesPass 3 (some .int) 0 0 [.ref (a 0), .int x] (mdW E a th sm ln pl hs s S b w) (mdW E a th sm ln pl hs (tmM (upd s 0 (s 0 + x)) 8) S b w) (some (.int (tmM (upd s 0 (s 0 + x)) 8 0))) := by
  refine Wr.mk0 (by decide) (Nat.le_of_ble_eq_true rfl) ?_
  intro pP eE sS mM aA bB mt cC F hr hk hE hN ls hl
  have hl : lv_has ls 3 [(0, .ref (a 0)), (1, .int x)] := hl
  refine V.aload_n F dX7_doesPass_0 rfl (lv_at hl 0 rfl) ?_
  refine V.getf F hE gX7_7 0 rfl rfl dX7_doesPass_1 ?_
  refine V.iconst (v := nI 0) F dX7_doesPass_4 (by decide) ?_
  refine V.dup2 F dX7_doesPass_5 rfl rfl ?_
  refine V.iadn (i := 0) F hE 1 rfl (by omega) (by omega) dX7_doesPass_6 (fun z1 e1 => ?_)
  refine V.iload_n F dX7_doesPass_7 rfl (lv_at hl 1 rfl) ?_
  refine V.iadd F dX7_doesPass_8 (fun z2 e2 => ?_)
  refine V.isn (i := 0) (ws' := mdW E a th sm ln pl hs (upd s 0 z2) S b w) F hE hN (by rfl) 1 rfl (by omega) (by omega) dX7_doesPass_9 rfl ?_
  refine V.iconst (v := nI 0) F dX7_doesPass_10 (by decide) ?_
  refine V.istore_n (lv' := [(2, .int (nI 0)), (0, .ref (a 0)), (1, .int x)]) F dX7_doesPass_11 rfl hl (by decide) rfl (fun ls hl => ?_)
  have h4 : nI 0 = nI 0 := (by subst e1 e2; first | with_reducible rfl | (simp only [oi1n, nI_add]; done) | (rw [tmM]; done))
  refine V.weq (ws' := mdW E a th sm ln pl hs (tmM (upd s 0 (s 0 + x)) 0) S b w) (by subst e1 e2; first | with_reducible rfl | (simp only [oi1n, nI_add]; done) | (rw [tmM]; done)) ?_
  refine V.loopW (Wd := fun j3 : Nat => mdW E a th sm ln pl hs (tmM (upd s 0 (s 0 + x)) j3) S b w) (N := 8) (k0 := 0) (I := (fun j3 : Nat => [(2, .int (nI j3)), (0, .ref (a 0)), (1, .int x)])) (J := fun _ => True) (Nat.zero_le _) trivial (lv_sub hl [0, 1, 2] (by rw [h4]; rfl)) ?_
  intro j3 j3_N j3_J ihj3 ls hl
  have hl : lv_has ls 3 [(2, .int (nI j3)), (0, .ref (a 0)), (1, .int x)] := hl
  try dsimp only at j3_J ihj3 ⊢
  refine V.iload_n F dX7_doesPass_12 rfl (lv_at hl 0 rfl) ?_
  refine V.bipush (v := nI 8) F dX7_doesPass_13 (by decide) ?_
  refine V.icmp_ge (tgt := 34) F dX7_doesPass_15 (by decide) (fun c5 c5' => ?_) (fun c5 c5' => ?_)
  · skip
    have j3_eq := ((lpL rfl (by omega) j3_N).1 c5).symm
    subst j3_eq
    refine V.aload_n F dX7_doesPass_34 rfl (lv_at hl 1 rfl) ?_
    refine V.getf F hE gX7_7 0 rfl rfl dX7_doesPass_35 ?_
    refine V.iconst (v := nI 0) F dX7_doesPass_38 (by decide) ?_
    refine V.iadn (i := 0) F hE 1 rfl (by omega) (by omega) dX7_doesPass_39 (fun z6 e6 => ?_)
    exact V.iretW F hr hk dX7_doesPass_40 (by subst e1 e2 e6; first | with_reducible rfl | (simp only [oi1n, nI_add]; done) | (rw [tmM]; done) | (simp only [c5, c5', if_true, if_false, ↓reduceIte]; done)) (by subst e1 e2 e6; first | with_reducible rfl | (simp only [oi1n, nI_add]; done) | (rw [tmM]; done) | (simp only [c5, c5', if_true, if_false, ↓reduceIte]; done))
  · skip
    have j3_lt := (lpL rfl (by omega) j3_N).2 c5
    refine V.aload_n F dX7_doesPass_18 rfl (lv_at hl 1 rfl) ?_
    refine V.getf F hE gX7_7 0 rfl rfl dX7_doesPass_19 ?_
    refine V.bipush (v := nI 34) F dX7_doesPass_22 (by decide) ?_
    refine V.iload_n F dX7_doesPass_24 rfl (lv_at hl 0 rfl) ?_
    refine V.iadd F dX7_doesPass_25 (fun z7 e7 => ?_)
    obtain rfl : z7 = nI (34 + j3) := e7.trans (nI_add _ _)
    refine V.iconst (v := nI 0) F dX7_doesPass_26 (by decide) ?_
    refine V.isn (i := (34 + j3)) (ws' := mdW E a th sm ln pl hs (upd (tmM (upd s 0 (s 0 + x)) j3) (34 + j3) (nI 0)) S b w) F hE hN (by rfl) 1 rfl (by omega) (by omega) dX7_doesPass_27 rfl ?_
    refine V.iinc (j := 0) (lv' := fun z8 => [(2, .int z8), (0, .ref (a 0)), (1, .int x)]) F dX7_doesPass_28 hl rfl (by decide) (fun _ => rfl) (fun z8 e8 ls hl => ?_)
    refine V.goto (tgt := 12) F dX7_doesPass_31 (by decide) ?_
    have h9 : nI (j3 + 1) = z8 := (by subst e1 e2 e8; first | with_reducible rfl | (simp only [oi1n, nI_add]; done) | (rw [tmM]; done) | (simp only [c5, c5', if_true, if_false, ↓reduceIte]; done))
    refine V.weq (ws' := mdW E a th sm ln pl hs (tmM (upd s 0 (s 0 + x)) (j3 + 1)) S b w) (by subst e1 e2 e8; first | with_reducible rfl | (simp only [oi1n, nI_add]; done) | (rw [tmM]; done) | (simp only [c5, c5', if_true, if_false, ↓reduceIte]; done)) ?_
    exact ihj3 j3_lt trivial _ (lv_sub hl [0, 1, 2] (by rw [h9]; rfl))
set_option maxHeartbeats 4000000 in
set_option maxRecDepth 100000 in
theorem c_X7_doesShoot (l : Launch) (E : EV) {a : Nat → Nat} {th sm ln pl : Int32} {hs : Int64} {s S b w : Nat → Int32} {R H C D : Nat} {sn : Nat → Nat} {x p : Nat} (hM : MI s R H C D sn) (hx0 : x < 10) (hp0 : p < 8) : Wr l E yX7_doesShoot cX7_doesShoot 4 (some .int) 1 22 [.ref (a 0), .int (nI x), .int (nI p)] (mdW E a th sm ln pl hs s S b w) (mdW E a th sm ln pl hs (doS s sn x p) S b w) (some (.int (dbM sn x p))) := by
  refine Wr.mk0 (by decide) (Nat.le_of_ble_eq_true rfl) ?_
  intro pP eE sS mM aA bB mt cC F hr hk hE hN ls hl
  have hl : lv_has ls 4 [(0, .ref (a 0)), (1, .int (nI x)), (2, .int (nI p))] := hl
  have hM1 := hM
  obtain ⟨hD0, hD, hkR, hR, hh, hH, hs4, hC, hsn⟩ := hM1
  refine V.iload_n F dX7_doesShoot_0 rfl (lv_at hl 2 rfl) ?_
  refine V.aload_n F dX7_doesShoot_1 rfl (lv_at hl 0 rfl) ?_
  refine V.iload_n F dX7_doesShoot_2 rfl (lv_at hl 1 rfl) ?_
  refine V.iconst (v := nI 2) F dX7_doesShoot_3 (by decide) ?_
  refine V.rdV (q0 := 0) F hE (c_X7_ofScene l E (by omega) (by omega)) (kX7_63 F.2.2.2.2 ⟨Nat.le_of_ble_eq_true rfl, Nat.le_of_ble_eq_true rfl⟩) rfl rfl [0, 1, 2, 3, 4] rfl rfl hl.1 (Nat.le_of_ble_eq_true rfl) dX7_doesShoot_4 rfl ?_
  refine V.topi (fun z1 e1 => ?_)
  obtain rfl : z1 = nI (sn x) := e1.trans (hsn x hx0).1
  refine V.icmp_ne (tgt := 14) F dX7_doesShoot_7 (by decide) (fun c2 => ?_) (fun c2 => ?_)
  · skip
    refine V.iconst (v := nI 1) F dX7_doesShoot_14 (by decide) ?_
    refine V.istore_n (lv' := [(3, .int (nI 1)), (0, .ref (a 0)), (1, .int (nI x)), (2, .int (nI p))]) F dX7_doesShoot_15 rfl hl (by decide) rfl (fun ls hl => ?_)
    refine V.aload_n F dX7_doesShoot_16 rfl (lv_at hl 1 rfl) ?_
    refine V.getf F hE gX7_7 0 rfl rfl dX7_doesShoot_17 ?_
    refine V.sipush (v := nI 250) F dX7_doesShoot_20 (by decide) ?_
    refine V.iconst (v := nI 5) F dX7_doesShoot_23 (by decide) ?_
    refine V.iload_n F dX7_doesShoot_24 rfl (lv_at hl 2 rfl) ?_
    refine V.imul F dX7_doesShoot_25 (fun z3 e3 => ?_)
    obtain rfl : z3 = nI (5 * x) := e3.trans (pk_mul _ _)
    refine V.iadd F dX7_doesShoot_26 (fun z4 e4 => ?_)
    obtain rfl : z4 = nI (250 + (5 * x)) := e4.trans (nI_add _ _)
    refine V.iconst (v := nI 3) F dX7_doesShoot_27 (by decide) ?_
    refine V.iadd F dX7_doesShoot_28 (fun z5 e5 => ?_)
    obtain rfl : z5 = nI ((250 + (5 * x)) + 3) := e5.trans (nI_add _ _)
    refine V.aload_n F dX7_doesShoot_29 rfl (lv_at hl 1 rfl) ?_
    refine V.getf F hE gX7_7 0 rfl rfl dX7_doesShoot_30 ?_
    refine V.iconst (v := nI 0) F dX7_doesShoot_33 (by decide) ?_
    refine V.iadn (i := 0) F hE 1 rfl (by omega) (by omega) dX7_doesShoot_34 (fun z6 e6 => ?_)
    refine V.isn (i := ((250 + (5 * x)) + 3)) (ws' := mdW E a th sm ln pl hs (upd s ((250 + (5 * x)) + 3) z6) S b w) F hE hN (by rfl) 1 rfl (by omega) (by omega) dX7_doesShoot_35 rfl ?_
    refine V.aload_n F dX7_doesShoot_36 rfl (lv_at hl 1 rfl) ?_
    refine V.getf F hE gX7_7 0 rfl rfl dX7_doesShoot_37 ?_
    refine V.sipush (v := nI 250) F dX7_doesShoot_40 (by decide) ?_
    refine V.iconst (v := nI 5) F dX7_doesShoot_43 (by decide) ?_
    refine V.iload_n F dX7_doesShoot_44 rfl (lv_at hl 2 rfl) ?_
    refine V.imul F dX7_doesShoot_45 (fun z7 e7 => ?_)
    obtain rfl : z7 = nI (5 * x) := e7.trans (pk_mul _ _)
    refine V.iadd F dX7_doesShoot_46 (fun z8 e8 => ?_)
    obtain rfl : z8 = nI (250 + (5 * x)) := e8.trans (nI_add _ _)
    refine V.iconst (v := nI 4) F dX7_doesShoot_47 (by decide) ?_
    refine V.iadd F dX7_doesShoot_48 (fun z9 e9 => ?_)
    obtain rfl : z9 = nI ((250 + (5 * x)) + 4) := e9.trans (nI_add _ _)
    refine V.iload_n F dX7_doesShoot_49 rfl (lv_at hl 3 rfl) ?_
    refine V.isn (i := ((250 + (5 * x)) + 4)) (ws' := mdW E a th sm ln pl hs (upd (upd s ((250 + (5 * x)) + 3) z6) ((250 + (5 * x)) + 4) (nI p)) S b w) F hE hN (by rfl) 1 rfl (by omega) (by omega) dX7_doesShoot_50 rfl ?_
    refine V.aload_n F dX7_doesShoot_51 rfl (lv_at hl 1 rfl) ?_
    refine V.getf F hE gX7_7 0 rfl rfl dX7_doesShoot_52 ?_
    refine V.bipush (v := nI 18) F dX7_doesShoot_55 (by decide) ?_
    refine V.iload_n F dX7_doesShoot_57 rfl (lv_at hl 3 rfl) ?_
    refine V.iadd F dX7_doesShoot_58 (fun z10 e10 => ?_)
    obtain rfl : z10 = nI (18 + p) := e10.trans (nI_add _ _)
    refine V.aload_n F dX7_doesShoot_59 rfl (lv_at hl 1 rfl) ?_
    refine V.getf F hE gX7_7 0 rfl rfl dX7_doesShoot_60 ?_
    refine V.iconst (v := nI 0) F dX7_doesShoot_63 (by decide) ?_
    refine V.iadn (i := 0) F hE 1 rfl (by omega) (by omega) dX7_doesShoot_64 (fun z11 e11 => ?_)
    refine V.isn (i := (18 + p)) (ws' := mdW E a th sm ln pl hs (upd (upd (upd s ((250 + (5 * x)) + 3) z6) ((250 + (5 * x)) + 4) (nI p)) (18 + p) z11) S b w) F hE hN (by rfl) 1 rfl (by omega) (by omega) dX7_doesShoot_65 rfl ?_
    refine V.aload_n F dX7_doesShoot_66 rfl (lv_at hl 1 rfl) ?_
    refine V.getf F hE gX7_7 0 rfl rfl dX7_doesShoot_67 ?_
    refine V.bipush (v := nI 26) F dX7_doesShoot_70 (by decide) ?_
    refine V.iload_n F dX7_doesShoot_72 rfl (lv_at hl 3 rfl) ?_
    refine V.iadd F dX7_doesShoot_73 (fun z12 e12 => ?_)
    obtain rfl : z12 = nI (26 + p) := e12.trans (nI_add _ _)
    refine V.dup2 F dX7_doesShoot_74 rfl rfl ?_
    refine V.iadn (i := (26 + p)) F hE 1 rfl (by omega) (by omega) dX7_doesShoot_75 (fun z13 e13 => ?_)
    refine V.iconst (v := nI 1) F dX7_doesShoot_76 (by decide) ?_
    refine V.iadd F dX7_doesShoot_77 (fun z14 e14 => ?_)
    refine V.isn (i := (26 + p)) (ws' := mdW E a th sm ln pl hs (upd (upd (upd (upd s ((250 + (5 * x)) + 3) z6) ((250 + (5 * x)) + 4) (nI p)) (18 + p) z11) (26 + p) z14) S b w) F hE hN (by rfl) 1 rfl (by omega) (by omega) dX7_doesShoot_78 rfl ?_
    refine V.aload_n F dX7_doesShoot_79 rfl (lv_at hl 1 rfl) ?_
    refine V.getf F hE gX7_7 0 rfl rfl dX7_doesShoot_80 ?_
    refine V.iconst (v := nI 5) F dX7_doesShoot_83 (by decide) ?_
    refine V.dup2 F dX7_doesShoot_84 rfl rfl ?_
    refine V.iadn (i := 5) F hE 1 rfl (by omega) (by omega) dX7_doesShoot_85 (fun z15 e15 => ?_)
    refine V.iload_n F dX7_doesShoot_86 rfl (lv_at hl 0 rfl) ?_
    refine V.iadd F dX7_doesShoot_87 (fun z16 e16 => ?_)
    refine V.isn (i := 5) (ws' := mdW E a th sm ln pl hs (upd (upd (upd (upd (upd s ((250 + (5 * x)) + 3) z6) ((250 + (5 * x)) + 4) (nI p)) (18 + p) z11) (26 + p) z14) 5 z16) S b w) F hE hN (by rfl) 1 rfl (by omega) (by omega) dX7_doesShoot_88 rfl ?_
    refine V.iload_n F dX7_doesShoot_89 rfl (lv_at hl 0 rfl) ?_
    exact V.iretW F hr hk dX7_doesShoot_90 (by subst e6 e11 e13 e14 e15 e16; first | with_reducible rfl | (simp only [oi1n, nI_add]; done) | (simp only [doS, do4, do3, do2, do1, dbM, c2, if_true, if_false, ↓reduceIte]; done)) (by subst e6 e11 e13 e14 e15 e16; first | with_reducible rfl | (simp only [oi1n, nI_add]; done) | (simp only [doS, do4, do3, do2, do1, dbM, c2, if_true, if_false, ↓reduceIte]; done))
  · skip
    refine V.iconst (v := nI 0) F dX7_doesShoot_10 (by decide) ?_
    refine V.goto (tgt := 15) F dX7_doesShoot_11 (by decide) ?_
    refine V.istore_n (lv' := [(3, .int (nI 0)), (0, .ref (a 0)), (1, .int (nI x)), (2, .int (nI p))]) F dX7_doesShoot_15 rfl hl (by decide) rfl (fun ls hl => ?_)
    refine V.aload_n F dX7_doesShoot_16 rfl (lv_at hl 1 rfl) ?_
    refine V.getf F hE gX7_7 0 rfl rfl dX7_doesShoot_17 ?_
    refine V.sipush (v := nI 250) F dX7_doesShoot_20 (by decide) ?_
    refine V.iconst (v := nI 5) F dX7_doesShoot_23 (by decide) ?_
    refine V.iload_n F dX7_doesShoot_24 rfl (lv_at hl 2 rfl) ?_
    refine V.imul F dX7_doesShoot_25 (fun z17 e17 => ?_)
    obtain rfl : z17 = nI (5 * x) := e17.trans (pk_mul _ _)
    refine V.iadd F dX7_doesShoot_26 (fun z18 e18 => ?_)
    obtain rfl : z18 = nI (250 + (5 * x)) := e18.trans (nI_add _ _)
    refine V.iconst (v := nI 3) F dX7_doesShoot_27 (by decide) ?_
    refine V.iadd F dX7_doesShoot_28 (fun z19 e19 => ?_)
    obtain rfl : z19 = nI ((250 + (5 * x)) + 3) := e19.trans (nI_add _ _)
    refine V.aload_n F dX7_doesShoot_29 rfl (lv_at hl 1 rfl) ?_
    refine V.getf F hE gX7_7 0 rfl rfl dX7_doesShoot_30 ?_
    refine V.iconst (v := nI 0) F dX7_doesShoot_33 (by decide) ?_
    refine V.iadn (i := 0) F hE 1 rfl (by omega) (by omega) dX7_doesShoot_34 (fun z20 e20 => ?_)
    refine V.isn (i := ((250 + (5 * x)) + 3)) (ws' := mdW E a th sm ln pl hs (upd s ((250 + (5 * x)) + 3) z20) S b w) F hE hN (by rfl) 1 rfl (by omega) (by omega) dX7_doesShoot_35 rfl ?_
    refine V.aload_n F dX7_doesShoot_36 rfl (lv_at hl 1 rfl) ?_
    refine V.getf F hE gX7_7 0 rfl rfl dX7_doesShoot_37 ?_
    refine V.sipush (v := nI 250) F dX7_doesShoot_40 (by decide) ?_
    refine V.iconst (v := nI 5) F dX7_doesShoot_43 (by decide) ?_
    refine V.iload_n F dX7_doesShoot_44 rfl (lv_at hl 2 rfl) ?_
    refine V.imul F dX7_doesShoot_45 (fun z21 e21 => ?_)
    obtain rfl : z21 = nI (5 * x) := e21.trans (pk_mul _ _)
    refine V.iadd F dX7_doesShoot_46 (fun z22 e22 => ?_)
    obtain rfl : z22 = nI (250 + (5 * x)) := e22.trans (nI_add _ _)
    refine V.iconst (v := nI 4) F dX7_doesShoot_47 (by decide) ?_
    refine V.iadd F dX7_doesShoot_48 (fun z23 e23 => ?_)
    obtain rfl : z23 = nI ((250 + (5 * x)) + 4) := e23.trans (nI_add _ _)
    refine V.iload_n F dX7_doesShoot_49 rfl (lv_at hl 3 rfl) ?_
    refine V.isn (i := ((250 + (5 * x)) + 4)) (ws' := mdW E a th sm ln pl hs (upd (upd s ((250 + (5 * x)) + 3) z20) ((250 + (5 * x)) + 4) (nI p)) S b w) F hE hN (by rfl) 1 rfl (by omega) (by omega) dX7_doesShoot_50 rfl ?_
    refine V.aload_n F dX7_doesShoot_51 rfl (lv_at hl 1 rfl) ?_
    refine V.getf F hE gX7_7 0 rfl rfl dX7_doesShoot_52 ?_
    refine V.bipush (v := nI 18) F dX7_doesShoot_55 (by decide) ?_
    refine V.iload_n F dX7_doesShoot_57 rfl (lv_at hl 3 rfl) ?_
    refine V.iadd F dX7_doesShoot_58 (fun z24 e24 => ?_)
    obtain rfl : z24 = nI (18 + p) := e24.trans (nI_add _ _)
    refine V.aload_n F dX7_doesShoot_59 rfl (lv_at hl 1 rfl) ?_
    refine V.getf F hE gX7_7 0 rfl rfl dX7_doesShoot_60 ?_
    refine V.iconst (v := nI 0) F dX7_doesShoot_63 (by decide) ?_
    refine V.iadn (i := 0) F hE 1 rfl (by omega) (by omega) dX7_doesShoot_64 (fun z25 e25 => ?_)
    refine V.isn (i := (18 + p)) (ws' := mdW E a th sm ln pl hs (upd (upd (upd s ((250 + (5 * x)) + 3) z20) ((250 + (5 * x)) + 4) (nI p)) (18 + p) z25) S b w) F hE hN (by rfl) 1 rfl (by omega) (by omega) dX7_doesShoot_65 rfl ?_
    refine V.aload_n F dX7_doesShoot_66 rfl (lv_at hl 1 rfl) ?_
    refine V.getf F hE gX7_7 0 rfl rfl dX7_doesShoot_67 ?_
    refine V.bipush (v := nI 26) F dX7_doesShoot_70 (by decide) ?_
    refine V.iload_n F dX7_doesShoot_72 rfl (lv_at hl 3 rfl) ?_
    refine V.iadd F dX7_doesShoot_73 (fun z26 e26 => ?_)
    obtain rfl : z26 = nI (26 + p) := e26.trans (nI_add _ _)
    refine V.dup2 F dX7_doesShoot_74 rfl rfl ?_
    refine V.iadn (i := (26 + p)) F hE 1 rfl (by omega) (by omega) dX7_doesShoot_75 (fun z27 e27 => ?_)
    refine V.iconst (v := nI 1) F dX7_doesShoot_76 (by decide) ?_
    refine V.iadd F dX7_doesShoot_77 (fun z28 e28 => ?_)
    refine V.isn (i := (26 + p)) (ws' := mdW E a th sm ln pl hs (upd (upd (upd (upd s ((250 + (5 * x)) + 3) z20) ((250 + (5 * x)) + 4) (nI p)) (18 + p) z25) (26 + p) z28) S b w) F hE hN (by rfl) 1 rfl (by omega) (by omega) dX7_doesShoot_78 rfl ?_
    refine V.aload_n F dX7_doesShoot_79 rfl (lv_at hl 1 rfl) ?_
    refine V.getf F hE gX7_7 0 rfl rfl dX7_doesShoot_80 ?_
    refine V.iconst (v := nI 5) F dX7_doesShoot_83 (by decide) ?_
    refine V.dup2 F dX7_doesShoot_84 rfl rfl ?_
    refine V.iadn (i := 5) F hE 1 rfl (by omega) (by omega) dX7_doesShoot_85 (fun z29 e29 => ?_)
    refine V.iload_n F dX7_doesShoot_86 rfl (lv_at hl 0 rfl) ?_
    refine V.iadd F dX7_doesShoot_87 (fun z30 e30 => ?_)
    refine V.isn (i := 5) (ws' := mdW E a th sm ln pl hs (upd (upd (upd (upd (upd s ((250 + (5 * x)) + 3) z20) ((250 + (5 * x)) + 4) (nI p)) (18 + p) z25) (26 + p) z28) 5 z30) S b w) F hE hN (by rfl) 1 rfl (by omega) (by omega) dX7_doesShoot_88 rfl ?_
    refine V.iload_n F dX7_doesShoot_89 rfl (lv_at hl 0 rfl) ?_
    exact V.iretW F hr hk dX7_doesShoot_90 (by subst e20 e25 e27 e28 e29 e30; first | with_reducible rfl | (simp only [oi1n, nI_add]; done) | (simp only [doS, do4, do3, do2, do1, dbM, eq_true c2, if_true, if_false, ↓reduceIte]; done)) (by subst e20 e25 e27 e28 e29 e30; first | with_reducible rfl | (simp only [oi1n, nI_add]; done) | (simp only [doS, do4, do3, do2, do1, dbM, eq_true c2, if_true, if_false, ↓reduceIte]; done))
set_option maxHeartbeats 4000000 in
set_option maxRecDepth 100000 in
theorem c_X7_save (l : Launch) (E : EV) {a : Nat → Nat} {th sm ln pl : Int32} {hs : Int64} {s S b w : Nat → Int32} {M : Nat} (hm : M < 6) : Wr l E yX7_save cX7_save 2 none 0 0 [.ref (a 0)] (mdW E a th (nI M) ln pl hs s S b w) (mdW E a th (nI (M + 1)) ln pl hs s (svM S s M 300) b w) none := by
  refine Wr.mk0 (by decide) (Nat.le_of_ble_eq_true rfl) ?_
  intro pP eE sS mM aA bB mt cC F hr hk hE hN ls hl
  have hl : lv_has ls 2 [(0, .ref (a 0))] := hl
  refine V.aload_n F dX7_save_0 rfl (lv_at hl 0 rfl) ?_
  refine V.getfi F hE gX7_30 0 rfl rfl dX7_save_1 (fun z1 e1 => ?_)
  subst e1
  refine V.bipush (v := nI 6) F dX7_save_4 (by decide) ?_
  refine V.icmp_ne (tgt := 50) F dX7_save_6 (by decide) (fun c2 => ?_) (fun c2 => ?_)
  · skip
    refine V.iconst (v := nI 0) F dX7_save_50 (by decide) ?_
    refine V.istore_n (lv' := [(1, .int (nI 0)), (0, .ref (a 0))]) F dX7_save_51 rfl hl (by decide) rfl (fun ls hl => ?_)
    have h4 : nI 0 = nI 0 := (by first | with_reducible rfl | (simp only [oi1n, nI_add]; done) | (rw [svM]; done) | (simp only [c2, if_true, if_false, ↓reduceIte]; done))
    refine V.weq (ws' := mdW E a th (nI M) ln pl hs s (svM S s M 0) b w) (by first | with_reducible rfl | (simp only [oi1n, nI_add]; done) | (rw [svM]; done) | (simp only [c2, if_true, if_false, ↓reduceIte]; done)) ?_
    refine V.loopW (Wd := fun j3 : Nat => mdW E a th (nI M) ln pl hs s (svM S s M j3) b w) (N := 300) (k0 := 0) (I := (fun j3 : Nat => [(1, .int (nI j3)), (0, .ref (a 0))])) (J := fun _ => True) (Nat.zero_le _) trivial (lv_sub hl [0, 1] (by rw [h4]; rfl)) ?_
    intro j3 j3_N j3_J ihj3 ls hl
    have hl : lv_has ls 2 [(1, .int (nI j3)), (0, .ref (a 0))] := hl
    try dsimp only at j3_J ihj3 ⊢
    refine V.iload_n F dX7_save_52 rfl (lv_at hl 0 rfl) ?_
    refine V.sipush (v := nI 300) F dX7_save_53 (by decide) ?_
    refine V.icmp_ge (tgt := 86) F dX7_save_56 (by decide) (fun c5 c5' => ?_) (fun c5 c5' => ?_)
    · skip
      have j3_eq := ((lpL rfl (by omega) j3_N).1 c5).symm
      subst j3_eq
      refine V.aload_n F dX7_save_86 rfl (lv_at hl 1 rfl) ?_
      refine V.dup F dX7_save_87 rfl ?_
      refine V.getfi F hE gX7_30 0 rfl rfl dX7_save_88 (fun z6 e6 => ?_)
      subst e6
      refine V.iconst (v := nI 1) F dX7_save_91 (by decide) ?_
      refine V.iadd F dX7_save_92 (fun z7 e7 => ?_)
      obtain rfl : z7 = nI (M + 1) := e7.trans (nI_add _ _)
      refine V.putf (ws' := mdW E a th (nI (M + 1)) ln pl hs s (svM S s M 300) b w) F hE hN (by rfl) pX7_30 rfl rfl 0 rfl (by exact Nat.le_of_ble_eq_true rfl) dX7_save_93 rfl ?_
      exact V.vretW F hr hk dX7_save_96 (by first | with_reducible rfl | (simp only [oi1n, nI_add]; done) | (rw [svM]; done) | (simp only [c2, c5, c5', if_true, if_false, ↓reduceIte]; done))
    · skip
      have j3_lt := (lpL rfl (by omega) j3_N).2 c5
      refine V.aload_n F dX7_save_59 rfl (lv_at hl 1 rfl) ?_
      refine V.getf F hE gX7_13 0 rfl rfl dX7_save_60 ?_
      refine V.aload_n F dX7_save_63 rfl (lv_at hl 1 rfl) ?_
      refine V.getfi F hE gX7_30 0 rfl rfl dX7_save_64 (fun z8 e8 => ?_)
      subst e8
      refine V.sipush (v := nI 300) F dX7_save_67 (by decide) ?_
      refine V.imul F dX7_save_70 (fun z9 e9 => ?_)
      obtain rfl : z9 = nI (M * 300) := e9.trans (pk_mul _ _)
      refine V.iload_n F dX7_save_71 rfl (lv_at hl 0 rfl) ?_
      refine V.iadd F dX7_save_72 (fun z10 e10 => ?_)
      obtain rfl : z10 = nI ((M * 300) + j3) := e10.trans (nI_add _ _)
      refine V.aload_n F dX7_save_73 rfl (lv_at hl 1 rfl) ?_
      refine V.getf F hE gX7_7 0 rfl rfl dX7_save_74 ?_
      refine V.iload_n F dX7_save_77 rfl (lv_at hl 0 rfl) ?_
      refine V.iadn (i := j3) F hE 1 rfl (by omega) (by omega) dX7_save_78 (fun z11 e11 => ?_)
      refine V.isn (i := ((M * 300) + j3)) (ws' := mdW E a th (nI M) ln pl hs s (upd (svM S s M j3) ((M * 300) + j3) z11) b w) F hE hN (by rfl) 2 rfl (by omega) (by omega) dX7_save_79 rfl ?_
      refine V.iinc (j := 0) (lv' := fun z12 => [(1, .int z12), (0, .ref (a 0))]) F dX7_save_80 hl rfl (by decide) (fun _ => rfl) (fun z12 e12 ls hl => ?_)
      refine V.goto (tgt := 52) F dX7_save_83 (by decide) ?_
      have h13 : nI (j3 + 1) = z12 := (by subst e11 e12; first | with_reducible rfl | (simp only [oi1n, nI_add]; done) | (rw [svM]; done) | (simp only [c2, c5, c5', if_true, if_false, ↓reduceIte]; done))
      refine V.weq (ws' := mdW E a th (nI M) ln pl hs s (svM S s M (j3 + 1)) b w) (by subst e11 e12; first | with_reducible rfl | (simp only [oi1n, nI_add]; done) | (rw [svM]; done) | (simp only [c2, c5, c5', if_true, if_false, ↓reduceIte]; done)) ?_
      exact ihj3 j3_lt trivial _ (lv_sub hl [0, 1] (by rw [h13]; rfl))
  · skip
    have q := congrArg Int32.toNatClampNeg c2; rw [nI_clamp (by omega), nI_clamp (by omega)] at q; omega
set_option maxHeartbeats 4000000 in
set_option maxRecDepth 100000 in
theorem c_X7_save_6 (l : Launch) (E : EV) {a : Nat → Nat} {th sm ln pl : Int32} {hs : Int64} {s S b w : Nat → Int32} : Wr l E yX7_save cX7_save 2 none 0 0 [.ref (a 0)] (mdW E a th (nI 6) ln pl hs s S b w) (mdW E a th (nI 6) ln pl hs s (svM (sfM S 1500) s 5 300) b w) none := by
  refine Wr.mk0 (by decide) (Nat.le_of_ble_eq_true rfl) ?_
  intro pP eE sS mM aA bB mt cC F hr hk hE hN ls hl
  have hl : lv_has ls 2 [(0, .ref (a 0))] := hl
  refine V.aload_n F dX7_save_0 rfl (lv_at hl 0 rfl) ?_
  refine V.getfi F hE gX7_30 0 rfl rfl dX7_save_1 (fun z1 e1 => ?_)
  subst e1
  refine V.bipush (v := nI 6) F dX7_save_4 (by decide) ?_
  refine V.icmp_ne (tgt := 50) F dX7_save_6 (by decide) (fun h => absurd h (by decide)) (fun _ => ?_)
  refine V.iconst (v := nI 0) F dX7_save_9 (by decide) ?_
  refine V.istore_n (lv' := [(1, .int (nI 0)), (0, .ref (a 0))]) F dX7_save_10 rfl hl (by decide) rfl (fun ls hl => ?_)
  have h4 : nI 0 = nI 0 := (by first | with_reducible rfl | (simp only [oi1n, nI_add]; done) | (rw [svM]; done) | (rw [sfM]; done))
  refine V.weq (ws' := mdW E a th (nI 6) ln pl hs s (sfM S 0) b w) (by first | with_reducible rfl | (simp only [oi1n, nI_add]; done) | (rw [svM]; done) | (rw [sfM]; done)) ?_
  refine V.loopW (Wd := fun i3 : Nat => mdW E a th (nI 6) ln pl hs s (sfM S i3) b w) (N := 1500) (k0 := 0) (I := (fun i3 : Nat => [(1, .int (nI i3)), (0, .ref (a 0))])) (J := fun _ => True) (Nat.zero_le _) trivial (lv_sub hl [0, 1] (by rw [h4]; rfl)) ?_
  intro i3 i3_N i3_J ihi3 ls hl
  have hl : lv_has ls 2 [(1, .int (nI i3)), (0, .ref (a 0))] := hl
  try dsimp only at i3_J ihi3 ⊢
  refine V.iload_n F dX7_save_11 rfl (lv_at hl 0 rfl) ?_
  refine V.sipush (v := nI 1500) F dX7_save_12 (by decide) ?_
  refine V.icmp_ge (tgt := 40) F dX7_save_15 (by decide) (fun c5 c5' => ?_) (fun c5 c5' => ?_)
  · skip
    have i3_eq := ((lpL rfl (by omega) i3_N).1 c5).symm
    subst i3_eq
    refine V.aload_n F dX7_save_40 rfl (lv_at hl 1 rfl) ?_
    refine V.dup F dX7_save_41 rfl ?_
    refine V.getfi F hE gX7_30 0 rfl rfl dX7_save_42 (fun z6 e6 => ?_)
    subst e6
    refine V.iconst (v := nI 1) F dX7_save_45 (by decide) ?_
    refine V.isub F dX7_save_46 (fun z7 e7 => ?_)
    obtain rfl : z7 = nI 5 := by rw [e7]; exact (by decide)
    refine V.putf (ws' := mdW E a th (nI 5) ln pl hs s (sfM S 1500) b w) F hE hN (by rfl) pX7_30 rfl rfl 0 rfl (by exact Nat.le_of_ble_eq_true rfl) dX7_save_47 rfl ?_
    refine V.iconst (v := nI 0) F dX7_save_50 (by decide) ?_
    refine V.istore_n (lv' := [(1, .int (nI 0)), (0, .ref (a 0))]) F dX7_save_51 rfl hl (by decide) rfl (fun ls hl => ?_)
    have h9 : nI 0 = nI 0 := (by first | with_reducible rfl | (simp only [oi1n, nI_add]; done) | (rw [svM]; done) | (rw [sfM]; done) | (simp only [c5, c5', if_true, if_false, ↓reduceIte]; done))
    refine V.weq (ws' := mdW E a th (nI 5) ln pl hs s (svM (sfM S 1500) s 5 0) b w) (by first | with_reducible rfl | (simp only [oi1n, nI_add]; done) | (rw [svM]; done) | (rw [sfM]; done) | (simp only [c5, c5', if_true, if_false, ↓reduceIte]; done)) ?_
    refine V.loopW (Wd := fun j8 : Nat => mdW E a th (nI 5) ln pl hs s (svM (sfM S 1500) s 5 j8) b w) (N := 300) (k0 := 0) (I := (fun j8 : Nat => [(1, .int (nI j8)), (0, .ref (a 0))])) (J := fun _ => True) (Nat.zero_le _) trivial (lv_sub hl [0, 1] (by rw [h9]; rfl)) ?_
    intro j8 j8_N j8_J ihj8 ls hl
    have hl : lv_has ls 2 [(1, .int (nI j8)), (0, .ref (a 0))] := hl
    try dsimp only at j8_J ihj8 ⊢
    refine V.iload_n F dX7_save_52 rfl (lv_at hl 0 rfl) ?_
    refine V.sipush (v := nI 300) F dX7_save_53 (by decide) ?_
    refine V.icmp_ge (tgt := 86) F dX7_save_56 (by decide) (fun c10 c10' => ?_) (fun c10 c10' => ?_)
    · skip
      have j8_eq := ((lpL rfl (by omega) j8_N).1 c10).symm
      subst j8_eq
      refine V.aload_n F dX7_save_86 rfl (lv_at hl 1 rfl) ?_
      refine V.dup F dX7_save_87 rfl ?_
      refine V.getfi F hE gX7_30 0 rfl rfl dX7_save_88 (fun z11 e11 => ?_)
      subst e11
      refine V.iconst (v := nI 1) F dX7_save_91 (by decide) ?_
      refine V.iadd F dX7_save_92 (fun z12 e12 => ?_)
      obtain rfl : z12 = nI (5 + 1) := e12.trans (nI_add _ _)
      refine V.putf (ws' := mdW E a th (nI (5 + 1)) ln pl hs s (svM (sfM S 1500) s 5 300) b w) F hE hN (by rfl) pX7_30 rfl rfl 0 rfl (by exact Nat.le_of_ble_eq_true rfl) dX7_save_93 rfl ?_
      exact V.vretW F hr hk dX7_save_96 (by first | with_reducible rfl | (simp only [oi1n, nI_add]; done) | (rw [svM]; done) | (rw [sfM]; done) | (simp only [c5, c5', c10, c10', if_true, if_false, ↓reduceIte]; done))
    · skip
      have j8_lt := (lpL rfl (by omega) j8_N).2 c10
      refine V.aload_n F dX7_save_59 rfl (lv_at hl 1 rfl) ?_
      refine V.getf F hE gX7_13 0 rfl rfl dX7_save_60 ?_
      refine V.aload_n F dX7_save_63 rfl (lv_at hl 1 rfl) ?_
      refine V.getfi F hE gX7_30 0 rfl rfl dX7_save_64 (fun z13 e13 => ?_)
      subst e13
      refine V.sipush (v := nI 300) F dX7_save_67 (by decide) ?_
      refine V.imul F dX7_save_70 (fun z14 e14 => ?_)
      obtain rfl : z14 = nI (5 * 300) := e14.trans (pk_mul _ _)
      refine V.iload_n F dX7_save_71 rfl (lv_at hl 0 rfl) ?_
      refine V.iadd F dX7_save_72 (fun z15 e15 => ?_)
      obtain rfl : z15 = nI ((5 * 300) + j8) := e15.trans (nI_add _ _)
      refine V.aload_n F dX7_save_73 rfl (lv_at hl 1 rfl) ?_
      refine V.getf F hE gX7_7 0 rfl rfl dX7_save_74 ?_
      refine V.iload_n F dX7_save_77 rfl (lv_at hl 0 rfl) ?_
      refine V.iadn (i := j8) F hE 1 rfl (by omega) (by omega) dX7_save_78 (fun z16 e16 => ?_)
      refine V.isn (i := ((5 * 300) + j8)) (ws' := mdW E a th (nI 5) ln pl hs s (upd (svM (sfM S 1500) s 5 j8) ((5 * 300) + j8) z16) b w) F hE hN (by rfl) 2 rfl (by omega) (by omega) dX7_save_79 rfl ?_
      refine V.iinc (j := 0) (lv' := fun z17 => [(1, .int z17), (0, .ref (a 0))]) F dX7_save_80 hl rfl (by decide) (fun _ => rfl) (fun z17 e17 ls hl => ?_)
      refine V.goto (tgt := 52) F dX7_save_83 (by decide) ?_
      have h18 : nI (j8 + 1) = z17 := (by subst e16 e17; first | with_reducible rfl | (simp only [oi1n, nI_add]; done) | (rw [svM]; done) | (rw [sfM]; done) | (simp only [c5, c5', c10, c10', if_true, if_false, ↓reduceIte]; done))
      refine V.weq (ws' := mdW E a th (nI 5) ln pl hs s (svM (sfM S 1500) s 5 (j8 + 1)) b w) (by subst e16 e17; first | with_reducible rfl | (simp only [oi1n, nI_add]; done) | (rw [svM]; done) | (rw [sfM]; done) | (simp only [c5, c5', c10, c10', if_true, if_false, ↓reduceIte]; done)) ?_
      exact ihj8 j8_lt trivial _ (lv_sub hl [0, 1] (by rw [h18]; rfl))
  · skip
    have i3_lt := (lpL rfl (by omega) i3_N).2 c5
    refine V.aload_n F dX7_save_18 rfl (lv_at hl 1 rfl) ?_
    refine V.getf F hE gX7_13 0 rfl rfl dX7_save_19 ?_
    refine V.iload_n F dX7_save_22 rfl (lv_at hl 0 rfl) ?_
    refine V.aload_n F dX7_save_23 rfl (lv_at hl 1 rfl) ?_
    refine V.getf F hE gX7_13 0 rfl rfl dX7_save_24 ?_
    refine V.iload_n F dX7_save_27 rfl (lv_at hl 0 rfl) ?_
    refine V.sipush (v := nI 300) F dX7_save_28 (by decide) ?_
    refine V.iadd F dX7_save_31 (fun z19 e19 => ?_)
    obtain rfl : z19 = nI (i3 + 300) := e19.trans (nI_add _ _)
    refine V.iadn (i := (i3 + 300)) F hE 2 rfl (by omega) (by omega) dX7_save_32 (fun z20 e20 => ?_)
    refine V.isn (i := i3) (ws' := mdW E a th (nI 6) ln pl hs s (upd (sfM S i3) i3 z20) b w) F hE hN (by rfl) 2 rfl (by omega) (by omega) dX7_save_33 rfl ?_
    refine V.iinc (j := 0) (lv' := fun z21 => [(1, .int z21), (0, .ref (a 0))]) F dX7_save_34 hl rfl (by decide) (fun _ => rfl) (fun z21 e21 ls hl => ?_)
    refine V.goto (tgt := 11) F dX7_save_37 (by decide) ?_
    have h22 : nI (i3 + 1) = z21 := (by subst e20 e21; first | with_reducible rfl | (simp only [oi1n, nI_add]; done) | (rw [svM]; done) | (rw [sfM]; done) | (simp only [c5, c5', if_true, if_false, ↓reduceIte]; done))
    refine V.weq (ws' := mdW E a th (nI 6) ln pl hs s (sfM S (i3 + 1)) b w) (by subst e20 e21; first | with_reducible rfl | (simp only [oi1n, nI_add]; done) | (rw [svM]; done) | (rw [sfM]; done) | (simp only [c5, c5', if_true, if_false, ↓reduceIte]; done)) ?_
    exact ihi3 i3_lt trivial _ (lv_sub hl [0, 1] (by rw [h22]; rfl))
