set_option maxHeartbeats 4000000 in
set_option maxRecDepth 100000 in
theorem c_L_isSo (l : Launch) (E : EV) {d v0 v1 t u : Nat} {a : Nat → Nat} {g : Nat → Int32} {f : Nat → Nat → Int32} {n m : Int32} {r : Nat → Int32} {u1 u2 u3 u4 u5 u6 u7 : Nat} {qs zs fo ts rs hs cs : Nat → Int32} {D R H C I P : Nat} {y : Int32} (hJ : LJ g f qs zs fo ts rs hs cs D R H C I P) (hst : l.stackTraces = false) : Gy l E yL_isSo cL_isSo 16 (some .boolean) 9 183 [.ref d, .int y, .ref u1, .ref u2, .ref u3, .ref u4, .ref u5, .ref u6, .ref u7] ([rw_ E u1 10 qs, rw_ E u2 8 zs, rw_ E u3 8 fo, rw_ E u4 8 ts, rw_ E u5 40 rs, rw_ E u6 12 hs, rw_ E u7 10 cs] ++ dW E d v0 v1 t u n m r a g f) ([rw_ E u1 10 qs, rw_ E u2 8 zs, rw_ E u3 8 fo, rw_ E u4 8 ts, rw_ E u5 40 rs, rw_ E u6 12 hs, rw_ E u7 10 cs] ++ dW E d v0 v1 t u n m r a g f) (nI 1) := by
  refine Gy.mkV (by decide) (Nat.le_of_ble_eq_true rfl) ?_
  intro pP eE sS mM aA bB mt cC A F hr hk hG hE hA hD0 ls hl
  have hl : lv_has ls 16 [(0, .ref d), (1, .int y), (2, .ref u1), (3, .ref u2), (4, .ref u3), (5, .ref u4), (6, .ref u5), (7, .ref u6), (8, .ref u7)] := hl
  have hC10 : C ≤ 10 := hJ.bd.2.2.2.1
  have hp8 : lowN y 8 < 8 := lowN_lt (by decide)
  have hk6 : lowN (shx y 3) 6 < 6 := lowN_lt (by decide)
  have hw5 : lowN (shx y 6) 5 < 5 := lowN_lt (by decide)
  refine V.iconst (v := nI 0) F dL_isSo_0 (by decide) ?_
  refine V.istore (lv' := [(9, .int (nI 0)), (0, .ref d), (1, .int y), (2, .ref u1), (3, .ref u2), (4, .ref u3), (5, .ref u4), (6, .ref u5), (7, .ref u6), (8, .ref u7)]) F dL_isSo_1 hl (by decide) rfl (fun ls hl => ?_)
  refine V.iconst (v := nI 0) F dL_isSo_3 (by decide) ?_
  refine V.istore (lv' := [(10, .int (nI 0)), (9, .int (nI 0)), (0, .ref d), (1, .int y), (2, .ref u1), (3, .ref u2), (4, .ref u3), (5, .ref u4), (6, .ref u5), (7, .ref u6), (8, .ref u7)]) F dL_isSo_4 hl (by decide) rfl (fun ls hl => ?_)
  refine V.iconst (v := nI 0) F dL_isSo_6 (by decide) ?_
  refine V.istore (lv' := [(11, .int (nI 0)), (10, .int (nI 0)), (9, .int (nI 0)), (0, .ref d), (1, .int y), (2, .ref u1), (3, .ref u2), (4, .ref u3), (5, .ref u4), (6, .ref u5), (7, .ref u6), (8, .ref u7)]) F dL_isSo_7 hl (by decide) rfl (fun ls hl => ?_)
  have h2 : nI 0 = nI 0 := (by first | with_reducible rfl | (simp only [shL, opL, brL, oi1n, nI_add, pk_mul, bI, and_true, true_and, and_false, false_and, and_self, or_true, true_or, or_false, false_or, or_self, not_true_eq_false, not_false_eq_true, if_true, if_false, ↓reduceIte] <;> rfl) | rfl)
  have h3 : shL cs 0 = nI 0 := (by first | with_reducible rfl | (simp only [shL, opL, brL, oi1n, nI_add, pk_mul, bI, and_true, true_and, and_false, false_and, and_self, or_true, true_or, or_false, false_or, or_self, not_true_eq_false, not_false_eq_true, if_true, if_false, ↓reduceIte] <;> rfl) | rfl)
  have h4 : opL qs zs fo rs hs cs H R 0 = nI 0 := (by first | with_reducible rfl | (simp only [shL, opL, brL, oi1n, nI_add, pk_mul, bI, and_true, true_and, and_false, false_and, and_self, or_true, true_or, or_false, false_or, or_self, not_true_eq_false, not_false_eq_true, if_true, if_false, ↓reduceIte] <;> rfl) | rfl)
  refine V.loop (N := C) (k0 := 0) (I := (fun x1 : Nat => [(11, .int (nI x1)), (10, .int (opL qs zs fo rs hs cs H R x1)), (9, .int (shL cs x1)), (0, .ref d), (1, .int y), (2, .ref u1), (3, .ref u2), (4, .ref u3), (5, .ref u4), (6, .ref u5), (7, .ref u6), (8, .ref u7)])) (J := fun _ => True) (Nat.zero_le _) trivial (lv_sub hl [0, 1, 2, 3, 4, 5, 6, 7, 8, 9, 10, 11] (by rw [h2, h3, h4]; rfl)) ?_
  intro x1 x1_N x1_J ihx1 ls hl
  have hl : lv_has ls 16 [(11, .int (nI x1)), (10, .int (opL qs zs fo rs hs cs H R x1)), (9, .int (shL cs x1)), (0, .ref d), (1, .int y), (2, .ref u1), (3, .ref u2), (4, .ref u3), (5, .ref u4), (6, .ref u5), (7, .ref u6), (8, .ref u7)] := hl
  refine V.iload F dL_isSo_9 (lv_at hl 0 rfl) ?_
  refine V.aload_n F dL_isSo_11 rfl (lv_at hl 5 rfl) ?_
  refine V.iconst (v := nI 4) F dL_isSo_12 (by decide) ?_
  refine V.iadn (i := 4) F hE 0 rfl (by omega) (by omega) dL_isSo_13 (fun z5 e5 => ?_)
  obtain rfl : nI C = z5 := (e5.trans hJ.q4).symm
  refine V.icmp_ge (tgt := 251) F dL_isSo_14 (by decide) (fun c6 c6' => ?_) (fun c6 c6' => ?_)
  · skip
    have x1_eq := ((lpL rfl (by omega) x1_N).1 c6).symm
    subst x1_eq
    refine V.iload_n F dL_isSo_251 rfl (lv_at hl 4 rfl) ?_
    refine V.bipush (v := nI 8) F dL_isSo_252 (by decide) ?_
    refine V.rdS F hE (c_L_low l E (by decide) (by decide)) (kL_122 F.2.2.2.2 ⟨Nat.le_of_ble_eq_true rfl, Nat.le_of_ble_eq_true rfl⟩) [] rfl rfl hl.1 (Nat.le_of_ble_eq_true rfl) dL_isSo_254 rfl ?_
    refine V.topi (fun z7 e7 => ?_)
    obtain rfl : (nI (lowN y 8)) = z7 := (e7.trans rfl).symm
    refine V.istore (lv' := [(11, .int (nI (lowN y 8))), (10, .int (opL qs zs fo rs hs cs H R C)), (9, .int (shL cs C)), (0, .ref d), (1, .int y), (2, .ref u1), (3, .ref u2), (4, .ref u3), (5, .ref u4), (6, .ref u5), (7, .ref u6), (8, .ref u7)]) F dL_isSo_257 hl (by decide) rfl (fun ls hl => ?_)
    refine V.iload_n F dL_isSo_259 rfl (lv_at hl 4 rfl) ?_
    refine V.iconst (v := nI 3) F dL_isSo_260 (by decide) ?_
    refine V.ishr F dL_isSo_261 (fun z8 e8 => ?_)
    have efold : z8 = (shx y 3) := (by subst e8; rfl)
    clear e8
    subst efold
    refine V.bipush (v := nI 6) F dL_isSo_262 (by decide) ?_
    refine V.rdS F hE (c_L_low l E (by decide) (by decide)) (kL_122 F.2.2.2.2 ⟨Nat.le_of_ble_eq_true rfl, Nat.le_of_ble_eq_true rfl⟩) [] rfl rfl hl.1 (Nat.le_of_ble_eq_true rfl) dL_isSo_264 rfl ?_
    refine V.topi (fun z9 e9 => ?_)
    obtain rfl : (nI (lowN (shx y 3) 6)) = z9 := (e9.trans rfl).symm
    refine V.istore (lv' := [(12, .int (nI (lowN (shx y 3) 6))), (11, .int (nI (lowN y 8))), (10, .int (opL qs zs fo rs hs cs H R C)), (9, .int (shL cs C)), (0, .ref d), (1, .int y), (2, .ref u1), (3, .ref u2), (4, .ref u3), (5, .ref u4), (6, .ref u5), (7, .ref u6), (8, .ref u7)]) F dL_isSo_267 hl (by decide) rfl (fun ls hl => ?_)
    refine V.iconst (v := nI 1) F dL_isSo_269 (by decide) ?_
    refine V.iload_n F dL_isSo_270 rfl (lv_at hl 5 rfl) ?_
    refine V.bipush (v := nI 6) F dL_isSo_271 (by decide) ?_
    refine V.ishr F dL_isSo_273 (fun z10 e10 => ?_)
    have efold : z10 = (shx y 6) := (by subst e10; rfl)
    clear e10
    subst efold
    refine V.iconst (v := nI 5) F dL_isSo_274 (by decide) ?_
    refine V.rdS F hE (c_L_low l E (by decide) (by decide)) (kL_122 F.2.2.2.2 ⟨Nat.le_of_ble_eq_true rfl, Nat.le_of_ble_eq_true rfl⟩) [] rfl rfl hl.1 (Nat.le_of_ble_eq_true rfl) dL_isSo_275 rfl ?_
    refine V.topi (fun z11 e11 => ?_)
    obtain rfl : (nI (lowN (shx y 6) 5)) = z11 := (e11.trans rfl).symm
    refine V.iadd F dL_isSo_278 (fun z12 e12 => ?_)
    obtain rfl : z12 = nI (1 + (lowN (shx y 6) 5)) := e12.trans (nI_add _ _)
    refine V.istore (lv' := [(13, .int (nI (1 + (lowN (shx y 6) 5)))), (12, .int (nI (lowN (shx y 3) 6))), (11, .int (nI (lowN y 8))), (10, .int (opL qs zs fo rs hs cs H R C)), (9, .int (shL cs C)), (0, .ref d), (1, .int y), (2, .ref u1), (3, .ref u2), (4, .ref u3), (5, .ref u4), (6, .ref u5), (7, .ref u6), (8, .ref u7)]) F dL_isSo_279 hl (by decide) rfl (fun ls hl => ?_)
    refine V.iconst (v := nI 0) F dL_isSo_281 (by decide) ?_
    refine V.istore (lv' := [(14, .int (nI 0)), (13, .int (nI (1 + (lowN (shx y 6) 5)))), (12, .int (nI (lowN (shx y 3) 6))), (11, .int (nI (lowN y 8))), (10, .int (opL qs zs fo rs hs cs H R C)), (9, .int (shL cs C)), (0, .ref d), (1, .int y), (2, .ref u1), (3, .ref u2), (4, .ref u3), (5, .ref u4), (6, .ref u5), (7, .ref u6), (8, .ref u7)]) F dL_isSo_282 hl (by decide) rfl (fun ls hl => ?_)
    refine V.iconst (v := nI 0) F dL_isSo_284 (by decide) ?_
    refine V.istore (lv' := [(15, .int (nI 0)), (14, .int (nI 0)), (13, .int (nI (1 + (lowN (shx y 6) 5)))), (12, .int (nI (lowN (shx y 3) 6))), (11, .int (nI (lowN y 8))), (10, .int (opL qs zs fo rs hs cs H R C)), (9, .int (shL cs C)), (0, .ref d), (1, .int y), (2, .ref u1), (3, .ref u2), (4, .ref u3), (5, .ref u4), (6, .ref u5), (7, .ref u6), (8, .ref u7)]) F dL_isSo_285 hl (by decide) rfl (fun ls hl => ?_)
    have h14 : nI 0 = nI 0 := (by first | with_reducible rfl | (simp only [shL, ppL, opL, brL, c6, c6', oi1n, nI_add, pk_mul, bI, and_true, true_and, and_false, false_and, and_self, or_true, true_or, or_false, false_or, or_self, not_true_eq_false, not_false_eq_true, if_true, if_false, ↓reduceIte] <;> rfl) | rfl)
    have h15 : brL (hpL hs (qs 0) (nI (lowN y 8)) H) 0 = nI 0 := (by first | with_reducible rfl | (simp only [shL, ppL, opL, brL, c6, c6', oi1n, nI_add, pk_mul, bI, and_true, true_and, and_false, false_and, and_self, or_true, true_or, or_false, false_or, or_self, not_true_eq_false, not_false_eq_true, if_true, if_false, ↓reduceIte] <;> rfl) | rfl)
    refine V.loop (N := 6) (k0 := 0) (I := (fun k13 : Nat => [(15, .int (nI k13)), (14, .int (brL (hpL hs (qs 0) (nI (lowN y 8)) H) k13)), (13, .int (nI (1 + (lowN (shx y 6) 5)))), (12, .int (nI (lowN (shx y 3) 6))), (11, .int (nI (lowN y 8))), (10, .int (opL qs zs fo rs hs cs H R C)), (9, .int (shL cs C)), (0, .ref d), (1, .int y), (2, .ref u1), (3, .ref u2), (4, .ref u3), (5, .ref u4), (6, .ref u5), (7, .ref u6), (8, .ref u7)])) (J := fun _ => True) (Nat.zero_le _) trivial (lv_sub hl [0, 1, 2, 3, 4, 5, 6, 7, 8, 9, 10, 11, 12, 13, 14, 15] (by rw [h14, h15]; rfl)) ?_
    intro k13 k13_N k13_J ihk13 ls hl
    have hl : lv_has ls 16 [(15, .int (nI k13)), (14, .int (brL (hpL hs (qs 0) (nI (lowN y 8)) H) k13)), (13, .int (nI (1 + (lowN (shx y 6) 5)))), (12, .int (nI (lowN (shx y 3) 6))), (11, .int (nI (lowN y 8))), (10, .int (opL qs zs fo rs hs cs H R C)), (9, .int (shL cs C)), (0, .ref d), (1, .int y), (2, .ref u1), (3, .ref u2), (4, .ref u3), (5, .ref u4), (6, .ref u5), (7, .ref u6), (8, .ref u7)] := hl
    refine V.iload F dL_isSo_287 (lv_at hl 0 rfl) ?_
    refine V.bipush (v := nI 6) F dL_isSo_289 (by decide) ?_
    refine V.icmp_ge (tgt := 330) F dL_isSo_291 (by decide) (fun c16 c16' => ?_) (fun c16 c16' => ?_)
    · skip
      have k13_eq := ((lpL rfl (by omega) k13_N).1 c16).symm
      subst k13_eq
      refine V.aload_n F dL_isSo_330 rfl (lv_at hl 7 rfl) ?_
      refine V.iload F dL_isSo_331 (lv_at hl 4 rfl) ?_
      refine V.iconst (v := nI 0) F dL_isSo_333 (by decide) ?_
      refine V.rdX F hE (c_L_person l E (nI_r (M := 7) rfl (by decide) (by omega)) (nI_r (M := 6) rfl (by decide) (by decide))) (kx_person F.2.2.2.2 ⟨Nat.le_of_ble_eq_true rfl, Nat.le_of_ble_eq_true rfl⟩) 7 22 (by rfl) rfl hl.1 (Nat.le_of_ble_eq_true rfl) dL_isSo_334 rfl ?_
      refine V.topi (fun z17 e17 => ?_)
      obtain rfl : (zs (lowN y 8)) = z17 := (e17.trans (so_p0 hJ hp8)).symm
      refine V.aload_n F dL_isSo_337 rfl (lv_at hl 10 rfl) ?_
      refine V.iload F dL_isSo_338 (lv_at hl 4 rfl) ?_
      refine V.iadn (i := (lowN y 8)) F hE 1 rfl (by omega) (by omega) dL_isSo_340 (fun z18 e18 => ?_)
      refine V.icmp_ne (tgt := 444) F dL_isSo_341 (by decide) (fun c19 => ?_) (fun c19 => ?_)
      · skip
        subst e18; exact absurd rfl c19
      · skip
        refine V.aload_n F dL_isSo_344 rfl (lv_at hl 7 rfl) ?_
        refine V.iload F dL_isSo_345 (lv_at hl 4 rfl) ?_
        refine V.iconst (v := nI 1) F dL_isSo_347 (by decide) ?_
        refine V.rdX F hE (c_L_person l E (nI_r (M := 7) rfl (by decide) (by omega)) (nI_r (M := 6) rfl (by decide) (by decide))) (kx_person F.2.2.2.2 ⟨Nat.le_of_ble_eq_true rfl, Nat.le_of_ble_eq_true rfl⟩) 7 22 (by rfl) rfl hl.1 (Nat.le_of_ble_eq_true rfl) dL_isSo_348 rfl ?_
        refine V.topi (fun z20 e20 => ?_)
        obtain rfl : (hpL hs (qs 0) (nI (lowN y 8)) H) = z20 := (e20.trans (so_p1 hJ)).symm
        refine V.iload F dL_isSo_351 (lv_at hl 4 rfl) ?_
        refine V.aload_n F dL_isSo_353 rfl (lv_at hl 9 rfl) ?_
        refine V.aload F dL_isSo_354 (lv_at hl 14 rfl) ?_
        refine V.rdS F hE (c_L_hurtParts l E hJ.q9 hJ.bd.2.2.1) (kL_66 F.2.2.2.2 ⟨Nat.le_of_ble_eq_true rfl, Nat.le_of_ble_eq_true rfl⟩) [0, 5] rfl rfl hl.1 (Nat.le_of_ble_eq_true rfl) dL_isSo_356 rfl ?_
        refine V.topi (fun z21 e21 => ?_)
        refine V.icmp_ne (tgt := 444) F dL_isSo_359 (by decide) (fun c22 => ?_) (fun c22 => ?_)
        · skip
          subst e18 e21; exact absurd rfl c22
        · skip
          refine V.aload_n F dL_isSo_362 rfl (lv_at hl 7 rfl) ?_
          refine V.iload F dL_isSo_363 (lv_at hl 4 rfl) ?_
          refine V.iconst (v := nI 3) F dL_isSo_365 (by decide) ?_
          refine V.rdX F hE (c_L_person l E (nI_r (M := 7) rfl (by decide) (by omega)) (nI_r (M := 6) rfl (by decide) (by decide))) (kx_person F.2.2.2.2 ⟨Nat.le_of_ble_eq_true rfl, Nat.le_of_ble_eq_true rfl⟩) 7 22 (by rfl) rfl hl.1 (Nat.le_of_ble_eq_true rfl) dL_isSo_366 rfl ?_
          refine V.topi (fun z23 e23 => ?_)
          obtain rfl : (ts (lowN y 8)) = z23 := (e23.trans (so_p3 hJ hp8)).symm
          refine V.aload F dL_isSo_369 (lv_at hl 12 rfl) ?_
          refine V.iload F dL_isSo_371 (lv_at hl 4 rfl) ?_
          refine V.iadn (i := (lowN y 8)) F hE 3 rfl (by omega) (by omega) dL_isSo_373 (fun z24 e24 => ?_)
          refine V.icmp_ne (tgt := 444) F dL_isSo_374 (by decide) (fun c25 => ?_) (fun c25 => ?_)
          · skip
            subst e18 e21 e24; exact absurd rfl c25
          · skip
            refine V.aload_n F dL_isSo_377 rfl (lv_at hl 7 rfl) ?_
            refine V.iload F dL_isSo_378 (lv_at hl 4 rfl) ?_
            refine V.iconst (v := nI 4) F dL_isSo_380 (by decide) ?_
            refine V.rdX F hE (c_L_person l E (nI_r (M := 7) rfl (by decide) (by omega)) (nI_r (M := 6) rfl (by decide) (by decide))) (kx_person F.2.2.2.2 ⟨Nat.le_of_ble_eq_true rfl, Nat.le_of_ble_eq_true rfl⟩) 7 22 (by rfl) rfl hl.1 (Nat.le_of_ble_eq_true rfl) dL_isSo_381 rfl ?_
            refine V.topi (fun z26 e26 => ?_)
            obtain rfl : (fo (lowN y 8)) = z26 := (e26.trans (so_p4 hJ hp8)).symm
            refine V.aload F dL_isSo_384 (lv_at hl 11 rfl) ?_
            refine V.iload F dL_isSo_386 (lv_at hl 4 rfl) ?_
            refine V.iadn (i := (lowN y 8)) F hE 2 rfl (by omega) (by omega) dL_isSo_388 (fun z27 e27 => ?_)
            refine V.icmp_ne (tgt := 444) F dL_isSo_389 (by decide) (fun c28 => ?_) (fun c28 => ?_)
            · skip
              subst e18 e21 e24 e27; exact absurd rfl c28
            · skip
              refine V.aload_n F dL_isSo_392 rfl (lv_at hl 7 rfl) ?_
              refine V.iload F dL_isSo_393 (lv_at hl 4 rfl) ?_
              refine V.bipush (v := nI 6) F dL_isSo_395 (by decide) ?_
              refine V.rdX F hE (c_L_person l E (nI_r (M := 7) rfl (by decide) (by omega)) (nI_r (M := 6) rfl (by decide) (by decide))) (kx_person F.2.2.2.2 ⟨Nat.le_of_ble_eq_true rfl, Nat.le_of_ble_eq_true rfl⟩) 7 22 (by rfl) rfl hl.1 (Nat.le_of_ble_eq_true rfl) dL_isSo_397 rfl ?_
              refine V.topi (fun z29 e29 => ?_)
              obtain rfl : (brL (hpL hs (qs 0) (nI (lowN y 8)) H) 6) = z29 := (e29.trans (so_p6 hJ)).symm
              refine V.iload F dL_isSo_400 (lv_at hl 1 rfl) ?_
              refine V.icmp_ne (tgt := 444) F dL_isSo_402 (by decide) (fun c30 => ?_) (fun c30 => ?_)
              · skip
                subst e18 e21 e24 e27; exact absurd rfl c30
              · skip
                refine V.aload_n F dL_isSo_405 rfl (lv_at hl 7 rfl) ?_
                refine V.iload F dL_isSo_406 (lv_at hl 4 rfl) ?_
                refine V.iconst (v := nI 2) F dL_isSo_408 (by decide) ?_
                refine V.rdX F hE (c_L_person l E (nI_r (M := 7) rfl (by decide) (by omega)) (nI_r (M := 6) rfl (by decide) (by decide))) (kx_person F.2.2.2.2 ⟨Nat.le_of_ble_eq_true rfl, Nat.le_of_ble_eq_true rfl⟩) 7 22 (by rfl) rfl hl.1 (Nat.le_of_ble_eq_true rfl) dL_isSo_409 rfl ?_
                refine V.topi (fun z31 e31 => ?_)
                obtain rfl : (lasC (f 6) (f 8) (g 0) (nI (lowN y 8)) H) = z31 := (e31.trans (so_p2 hJ)).symm
                refine V.iconst (v := (-1)) F dL_isSo_412 (by decide) ?_
                refine V.icmp_ne (tgt := 420) F dL_isSo_413 (by decide) (fun c32 => ?_) (fun c32 => ?_)
                · skip
                  refine V.iconst (v := nI 0) F dL_isSo_420 (by decide) ?_
                  refine V.iload F dL_isSo_421 (lv_at hl 4 rfl) ?_
                  refine V.aload_n F dL_isSo_423 rfl (lv_at hl 9 rfl) ?_
                  refine V.aload F dL_isSo_424 (lv_at hl 14 rfl) ?_
                  refine V.rdS F hE (c_L_hurtParts l E hJ.q9 hJ.bd.2.2.1) (kL_66 F.2.2.2.2 ⟨Nat.le_of_ble_eq_true rfl, Nat.le_of_ble_eq_true rfl⟩) [0, 5] rfl rfl hl.1 (Nat.le_of_ble_eq_true rfl) dL_isSo_426 rfl ?_
                  refine V.topi (fun z33 e33 => ?_)
                  refine V.if_ne (tgt := 436) F dL_isSo_429 (by decide) (fun c34 => ?_) (fun c34 => ?_)
                  · skip
                    refine V.iconst (v := nI 0) F dL_isSo_436 (by decide) ?_
                    refine V.icmp_ne (tgt := 444) F dL_isSo_437 (by decide) (fun h => absurd h (by decide)) (fun _ => ?_)
                    refine V.iconst (v := nI 1) F dL_isSo_440 (by decide) ?_
                    refine V.goto (tgt := 445) F dL_isSo_441 (by decide) ?_
                    refine V.istore (lv' := [(15, .int (nI 1)), (14, .int (brL (hpL hs (qs 0) (nI (lowN y 8)) H) 6)), (13, .int (nI (1 + (lowN (shx y 6) 5)))), (12, .int (nI (lowN (shx y 3) 6))), (11, .int (nI (lowN y 8))), (10, .int (opL qs zs fo rs hs cs H R C)), (9, .int (shL cs C)), (0, .ref d), (1, .int y), (2, .ref u1), (3, .ref u2), (4, .ref u3), (5, .ref u4), (6, .ref u5), (7, .ref u6), (8, .ref u7)]) F dL_isSo_445 hl (by decide) rfl (fun ls hl => ?_)
                    refine V.iload F dL_isSo_447 (lv_at hl 0 rfl) ?_
                    refine V.if_eq (tgt := 557) F dL_isSo_449 (by decide) (fun h => absurd h (by decide)) (fun _ => ?_)
                    refine V.aload_n F dL_isSo_452 rfl (lv_at hl 7 rfl) ?_
                    refine V.iload F dL_isSo_453 (lv_at hl 4 rfl) ?_
                    refine V.iload F dL_isSo_455 (lv_at hl 3 rfl) ?_
                    refine V.iload F dL_isSo_457 (lv_at hl 2 rfl) ?_
                    refine V.rdX F hE (c_L_rehearsed l E (nI_r (M := 7) rfl (by decide) (by omega)) (nI_r (M := 5) rfl (by decide) (by omega)) (nI_r1 (M := 5) rfl (by decide) (by omega) (by omega))) (kx_rehearsed F.2.2.2.2 ⟨Nat.le_of_ble_eq_true rfl, Nat.le_of_ble_eq_true rfl⟩) 7 22 (by rfl) rfl hl.1 (Nat.le_of_ble_eq_true rfl) dL_isSo_459 rfl ?_
                    refine V.topi (fun z37 e37 => ?_)
                    obtain rfl : (cnL rs (qs 0) (nI (lowN y 8)) (nI (lowN (shx y 3) 6)) (nI (1 + lowN (shx y 6) 5)) R) = z37 := (e37.trans (cntS_eq hJ hp8 hk6 _)).symm
                    refine V.iload F dL_isSo_462 (lv_at hl 4 rfl) ?_
                    refine V.iload F dL_isSo_464 (lv_at hl 3 rfl) ?_
                    refine V.iload F dL_isSo_466 (lv_at hl 2 rfl) ?_
                    refine V.aload_n F dL_isSo_468 rfl (lv_at hl 9 rfl) ?_
                    refine V.aload F dL_isSo_469 (lv_at hl 13 rfl) ?_
                    refine V.rdS F hE (c_L_counting l E hJ.q8 hJ.bd.2.1) (kL_73 F.2.2.2.2 ⟨Nat.le_of_ble_eq_true rfl, Nat.le_of_ble_eq_true rfl⟩) [0, 4] rfl rfl hl.1 (Nat.le_of_ble_eq_true rfl) dL_isSo_471 rfl ?_
                    refine V.topi (fun z38 e38 => ?_)
                    refine V.icmp_ne (tgt := 557) F dL_isSo_474 (by decide) (fun c39 => ?_) (fun c39 => ?_)
                    · skip
                      subst e18 e21 e24 e27 e33 e38; exact absurd rfl c39
                    · skip
                      refine V.aload_n F dL_isSo_477 rfl (lv_at hl 7 rfl) ?_
                      refine V.iconst (v := nI 0) F dL_isSo_478 (by decide) ?_
                      refine V.rdX F hE (c_L_count l E (nI_r (M := 10) rfl (by decide) (by decide))) (kx_count F.2.2.2.2 ⟨Nat.le_of_ble_eq_true rfl, Nat.le_of_ble_eq_true rfl⟩) 7 22 (by rfl) rfl hl.1 (Nat.le_of_ble_eq_true rfl) dL_isSo_479 rfl ?_
                      refine V.topi (fun z40 e40 => ?_)
                      obtain rfl : (qs 0) = z40 := (e40.trans (so_c0 hJ)).symm
                      refine V.aload_n F dL_isSo_482 rfl (lv_at hl 9 rfl) ?_
                      refine V.iconst (v := nI 0) F dL_isSo_483 (by decide) ?_
                      refine V.iadn (i := 0) F hE 0 rfl (by omega) (by omega) dL_isSo_484 (fun z41 e41 => ?_)
                      refine V.icmp_ne (tgt := 557) F dL_isSo_485 (by decide) (fun c42 => ?_) (fun c42 => ?_)
                      · skip
                        subst e18 e21 e24 e27 e33 e38 e41; exact absurd rfl c42
                      · skip
                        refine V.aload_n F dL_isSo_488 rfl (lv_at hl 7 rfl) ?_
                        refine V.iconst (v := nI 1) F dL_isSo_489 (by decide) ?_
                        refine V.rdX F hE (c_L_count l E (nI_r (M := 10) rfl (by decide) (by decide))) (kx_count F.2.2.2.2 ⟨Nat.le_of_ble_eq_true rfl, Nat.le_of_ble_eq_true rfl⟩) 7 22 (by rfl) rfl hl.1 (Nat.le_of_ble_eq_true rfl) dL_isSo_490 rfl ?_
                        refine V.topi (fun z43 e43 => ?_)
                        obtain rfl : (qs 1) = z43 := (e43.trans (so_c1 hJ)).symm
                        refine V.aload_n F dL_isSo_493 rfl (lv_at hl 9 rfl) ?_
                        refine V.iconst (v := nI 1) F dL_isSo_494 (by decide) ?_
                        refine V.iadn (i := 1) F hE 0 rfl (by omega) (by omega) dL_isSo_495 (fun z44 e44 => ?_)
                        refine V.icmp_ne (tgt := 557) F dL_isSo_496 (by decide) (fun c45 => ?_) (fun c45 => ?_)
                        · skip
                          subst e18 e21 e24 e27 e33 e38 e41 e44; exact absurd rfl c45
                        · skip
                          refine V.aload_n F dL_isSo_499 rfl (lv_at hl 9 rfl) ?_
                          refine V.iconst (v := nI 1) F dL_isSo_500 (by decide) ?_
                          refine V.iadn (i := 1) F hE 0 rfl (by omega) (by omega) dL_isSo_501 (fun z46 e46 => ?_)
                          obtain rfl : (qs 1) = z46 := (e46.trans rfl).symm
                          refine V.if_lt (tgt := 557) F dL_isSo_502 (by decide) (fun c47 c47' => ?_) (fun c47 c47' => ?_)
                          · skip
                            exact absurd c47 (so_1 hJ)
                          · skip
                            refine V.aload_n F dL_isSo_505 rfl (lv_at hl 7 rfl) ?_
                            refine V.iconst (v := nI 2) F dL_isSo_506 (by decide) ?_
                            refine V.rdX F hE (c_L_count l E (nI_r (M := 10) rfl (by decide) (by decide))) (kx_count F.2.2.2.2 ⟨Nat.le_of_ble_eq_true rfl, Nat.le_of_ble_eq_true rfl⟩) 7 22 (by rfl) rfl hl.1 (Nat.le_of_ble_eq_true rfl) dL_isSo_507 rfl ?_
                            refine V.topi (fun z48 e48 => ?_)
                            obtain rfl : (if qs 0 ≤ qs 3 then qs 2 else nI 0) = z48 := (e48.trans (so_c2 hJ)).symm
                            refine V.aload_n F dL_isSo_510 rfl (lv_at hl 9 rfl) ?_
                            refine V.iconst (v := nI 0) F dL_isSo_511 (by decide) ?_
                            refine V.iadn (i := 0) F hE 0 rfl (by omega) (by omega) dL_isSo_512 (fun z49 e49 => ?_)
                            obtain rfl : (qs 0) = z49 := (e49.trans rfl).symm
                            refine V.aload_n F dL_isSo_513 rfl (lv_at hl 9 rfl) ?_
                            refine V.iconst (v := nI 3) F dL_isSo_514 (by decide) ?_
                            refine V.iadn (i := 3) F hE 0 rfl (by omega) (by omega) dL_isSo_515 (fun z50 e50 => ?_)
                            refine V.icmp_gt (tgt := 525) F dL_isSo_516 (by decide) (fun c51 c51' => ?_) (fun c51 c51' => ?_)
                            · skip
                              refine V.iconst (v := nI 0) F dL_isSo_525 (by decide) ?_
                              refine V.icmp_ne (tgt := 557) F dL_isSo_526 (by decide) (fun c52 => ?_) (fun c52 => ?_)
                              · skip
                                subst e18 e21 e24 e27 e33 e38 e41 e44 e50; exact absurd (if_neg c51') c52
                              · skip
                                refine V.aload_n F dL_isSo_529 rfl (lv_at hl 7 rfl) ?_
                                refine V.iconst (v := nI 3) F dL_isSo_530 (by decide) ?_
                                refine V.rdX F hE (c_L_count l E (nI_r (M := 10) rfl (by decide) (by decide))) (kx_count F.2.2.2.2 ⟨Nat.le_of_ble_eq_true rfl, Nat.le_of_ble_eq_true rfl⟩) 7 22 (by rfl) rfl hl.1 (Nat.le_of_ble_eq_true rfl) dL_isSo_531 rfl ?_
                                refine V.topi (fun z53 e53 => ?_)
                                obtain rfl : (if qs 0 ≤ qs 3 then qs 3 else -1) = z53 := (e53.trans (so_c3 hJ)).symm
                                refine V.aload_n F dL_isSo_534 rfl (lv_at hl 9 rfl) ?_
                                refine V.iconst (v := nI 0) F dL_isSo_535 (by decide) ?_
                                refine V.iadn (i := 0) F hE 0 rfl (by omega) (by omega) dL_isSo_536 (fun z54 e54 => ?_)
                                obtain rfl : (qs 0) = z54 := (e54.trans rfl).symm
                                refine V.aload_n F dL_isSo_537 rfl (lv_at hl 9 rfl) ?_
                                refine V.iconst (v := nI 3) F dL_isSo_538 (by decide) ?_
                                refine V.iadn (i := 3) F hE 0 rfl (by omega) (by omega) dL_isSo_539 (fun z55 e55 => ?_)
                                refine V.icmp_gt (tgt := 549) F dL_isSo_540 (by decide) (fun c56 c56' => ?_) (fun c56 c56' => ?_)
                                · skip
                                  refine V.iconst (v := (-1)) F dL_isSo_549 (by decide) ?_
                                  refine V.icmp_ne (tgt := 557) F dL_isSo_550 (by decide) (fun c57 => ?_) (fun c57 => ?_)
                                  · skip
                                    subst e18 e21 e24 e27 e33 e38 e41 e44 e50 e55; exact absurd (if_neg c56') c57
                                  · skip
                                    refine V.iconst (v := nI 1) F dL_isSo_553 (by decide) ?_
                                    refine V.goto (tgt := 558) F dL_isSo_554 (by decide) ?_
                                    refine V.istore (lv' := [(15, .int (nI 1)), (14, .int (brL (hpL hs (qs 0) (nI (lowN y 8)) H) 6)), (13, .int (nI (1 + (lowN (shx y 6) 5)))), (12, .int (nI (lowN (shx y 3) 6))), (11, .int (nI (lowN y 8))), (10, .int (opL qs zs fo rs hs cs H R C)), (9, .int (shL cs C)), (0, .ref d), (1, .int y), (2, .ref u1), (3, .ref u2), (4, .ref u3), (5, .ref u4), (6, .ref u5), (7, .ref u6), (8, .ref u7)]) F dL_isSo_558 hl (by decide) rfl (fun ls hl => ?_)
                                    refine V.iload F dL_isSo_560 (lv_at hl 0 rfl) ?_
                                    refine V.if_eq (tgt := 678) F dL_isSo_562 (by decide) (fun h => absurd h (by decide)) (fun _ => ?_)
                                    refine V.aload_n F dL_isSo_565 rfl (lv_at hl 7 rfl) ?_
                                    refine V.iconst (v := nI 4) F dL_isSo_566 (by decide) ?_
                                    refine V.rdX F hE (c_L_count l E (nI_r (M := 10) rfl (by decide) (by decide))) (kx_count F.2.2.2.2 ⟨Nat.le_of_ble_eq_true rfl, Nat.le_of_ble_eq_true rfl⟩) 7 22 (by rfl) rfl hl.1 (Nat.le_of_ble_eq_true rfl) dL_isSo_567 rfl ?_
                                    refine V.topi (fun z59 e59 => ?_)
                                    obtain rfl : (qs 4) = z59 := (e59.trans (so_c4 hJ)).symm
                                    refine V.aload_n F dL_isSo_570 rfl (lv_at hl 9 rfl) ?_
                                    refine V.iconst (v := nI 4) F dL_isSo_571 (by decide) ?_
                                    refine V.iadn (i := 4) F hE 0 rfl (by omega) (by omega) dL_isSo_572 (fun z60 e60 => ?_)
                                    refine V.icmp_ne (tgt := 678) F dL_isSo_573 (by decide) (fun c61 => ?_) (fun c61 => ?_)
                                    · skip
                                      subst e18 e21 e24 e27 e33 e38 e41 e44 e50 e55 e60; exact absurd rfl c61
                                    · skip
                                      refine V.aload_n F dL_isSo_576 rfl (lv_at hl 7 rfl) ?_
                                      refine V.iconst (v := nI 5) F dL_isSo_577 (by decide) ?_
                                      refine V.rdX F hE (c_L_count l E (nI_r (M := 10) rfl (by decide) (by decide))) (kx_count F.2.2.2.2 ⟨Nat.le_of_ble_eq_true rfl, Nat.le_of_ble_eq_true rfl⟩) 7 22 (by rfl) rfl hl.1 (Nat.le_of_ble_eq_true rfl) dL_isSo_578 rfl ?_
                                      refine V.topi (fun z62 e62 => ?_)
                                      obtain rfl : (shL cs C) = z62 := (e62.trans (so_c5 hJ)).symm
                                      refine V.iload F dL_isSo_581 (lv_at hl 6 rfl) ?_
                                      refine V.icmp_ne (tgt := 678) F dL_isSo_583 (by decide) (fun c63 => ?_) (fun c63 => ?_)
                                      · skip
                                        subst e18 e21 e24 e27 e33 e38 e41 e44 e50 e55 e60; exact absurd rfl c63
                                      · skip
                                        refine V.aload_n F dL_isSo_586 rfl (lv_at hl 7 rfl) ?_
                                        refine V.bipush (v := nI 6) F dL_isSo_587 (by decide) ?_
                                        refine V.rdX F hE (c_L_count l E (nI_r (M := 10) rfl (by decide) (by decide))) (kx_count F.2.2.2.2 ⟨Nat.le_of_ble_eq_true rfl, Nat.le_of_ble_eq_true rfl⟩) 7 22 (by rfl) rfl hl.1 (Nat.le_of_ble_eq_true rfl) dL_isSo_589 rfl ?_
                                        refine V.topi (fun z64 e64 => ?_)
                                        obtain rfl : (qs 5) = z64 := (e64.trans (so_c6 hJ)).symm
                                        refine V.aload_n F dL_isSo_592 rfl (lv_at hl 9 rfl) ?_
                                        refine V.iconst (v := nI 5) F dL_isSo_593 (by decide) ?_
                                        refine V.iadn (i := 5) F hE 0 rfl (by omega) (by omega) dL_isSo_594 (fun z65 e65 => ?_)
                                        refine V.icmp_ne (tgt := 678) F dL_isSo_595 (by decide) (fun c66 => ?_) (fun c66 => ?_)
                                        · skip
                                          subst e18 e21 e24 e27 e33 e38 e41 e44 e50 e55 e60 e65; exact absurd rfl c66
                                        · skip
                                          refine V.aload_n F dL_isSo_598 rfl (lv_at hl 7 rfl) ?_
                                          refine V.bipush (v := nI 7) F dL_isSo_599 (by decide) ?_
                                          refine V.rdX F hE (c_L_count l E (nI_r (M := 10) rfl (by decide) (by decide))) (kx_count F.2.2.2.2 ⟨Nat.le_of_ble_eq_true rfl, Nat.le_of_ble_eq_true rfl⟩) 7 22 (by rfl) rfl hl.1 (Nat.le_of_ble_eq_true rfl) dL_isSo_601 rfl ?_
                                          refine V.topi (fun z67 e67 => ?_)
                                          obtain rfl : (qs 6) = z67 := (e67.trans (so_c7 hJ)).symm
                                          refine V.aload_n F dL_isSo_604 rfl (lv_at hl 9 rfl) ?_
                                          refine V.bipush (v := nI 6) F dL_isSo_605 (by decide) ?_
                                          refine V.iadn (i := 6) F hE 0 rfl (by omega) (by omega) dL_isSo_607 (fun z68 e68 => ?_)
                                          refine V.icmp_ne (tgt := 678) F dL_isSo_608 (by decide) (fun c69 => ?_) (fun c69 => ?_)
                                          · skip
                                            subst e18 e21 e24 e27 e33 e38 e41 e44 e50 e55 e60 e65 e68; exact absurd rfl c69
                                          · skip
                                            refine V.aload_n F dL_isSo_611 rfl (lv_at hl 7 rfl) ?_
                                            refine V.bipush (v := nI 8) F dL_isSo_612 (by decide) ?_
                                            refine V.rdX F hE (c_L_count l E (nI_r (M := 10) rfl (by decide) (by decide))) (kx_count F.2.2.2.2 ⟨Nat.le_of_ble_eq_true rfl, Nat.le_of_ble_eq_true rfl⟩) 7 22 (by rfl) rfl hl.1 (Nat.le_of_ble_eq_true rfl) dL_isSo_614 rfl ?_
                                            refine V.topi (fun z70 e70 => ?_)
                                            obtain rfl : (qs 7) = z70 := (e70.trans (so_c8 hJ)).symm
                                            refine V.aload_n F dL_isSo_617 rfl (lv_at hl 9 rfl) ?_
                                            refine V.bipush (v := nI 7) F dL_isSo_618 (by decide) ?_
                                            refine V.iadn (i := 7) F hE 0 rfl (by omega) (by omega) dL_isSo_620 (fun z71 e71 => ?_)
                                            refine V.icmp_ne (tgt := 678) F dL_isSo_621 (by decide) (fun c72 => ?_) (fun c72 => ?_)
                                            · skip
                                              subst e18 e21 e24 e27 e33 e38 e41 e44 e50 e55 e60 e65 e68 e71; exact absurd rfl c72
                                            · skip
                                              refine V.aload_n F dL_isSo_624 rfl (lv_at hl 7 rfl) ?_
                                              refine V.bipush (v := nI 9) F dL_isSo_625 (by decide) ?_
                                              refine V.rdX F hE (c_L_count l E (nI_r (M := 10) rfl (by decide) (by decide))) (kx_count F.2.2.2.2 ⟨Nat.le_of_ble_eq_true rfl, Nat.le_of_ble_eq_true rfl⟩) 7 22 (by rfl) rfl hl.1 (Nat.le_of_ble_eq_true rfl) dL_isSo_627 rfl ?_
                                              refine V.topi (fun z73 e73 => ?_)
                                              obtain rfl : (opL qs zs fo rs hs cs H R C) = z73 := (e73.trans (so_c9 hJ)).symm
                                              refine V.iload F dL_isSo_630 (lv_at hl 5 rfl) ?_
                                              refine V.icmp_ne (tgt := 678) F dL_isSo_632 (by decide) (fun c74 => ?_) (fun c74 => ?_)
                                              · skip
                                                subst e18 e21 e24 e27 e33 e38 e41 e44 e50 e55 e60 e65 e68 e71; exact absurd rfl c74
                                              · skip
                                                refine V.aload_n F dL_isSo_635 rfl (lv_at hl 7 rfl) ?_
                                                refine V.aload_n F dL_isSo_636 rfl (lv_at hl 9 rfl) ?_
                                                refine V.iconst (v := nI 4) F dL_isSo_637 (by decide) ?_
                                                refine V.iadn (i := 4) F hE 0 rfl (by omega) (by omega) dL_isSo_638 (fun z75 e75 => ?_)
                                                obtain rfl : (nI C) = z75 := (e75.trans hJ.q4).symm
                                                refine V.iconst (v := nI 0) F dL_isSo_639 (by decide) ?_
                                                refine V.toGV hD0 ?_
                                                refine GV.gx (wa := [rw_ E u1 10 qs, rw_ E u2 8 zs, rw_ E u3 8 fo, rw_ E u4 8 ts, rw_ E u5 40 rs, rw_ E u6 12 hs, rw_ E u7 10 cs]) (wb := []) F hG hA (w_L_refusal_e1 l E (c_X6_refusal_t1 l E (x := nI C) (p := nI 0) (so_t hJ) hst)) (kx_refusal F.2.2.2.2 ⟨Nat.le_of_ble_eq_true rfl, Nat.le_of_ble_eq_true rfl⟩) (by rw [List.append_nil]) rfl hl.1 (Nat.le_of_ble_eq_true rfl) ⟨Nat.le_of_ble_eq_true rfl, Nat.le_of_ble_eq_true rfl⟩ dL_isSo_640 rfl ?_
                                                refine GV.weq (ws' := ([rw_ E u1 10 qs, rw_ E u2 8 zs, rw_ E u3 8 fo, rw_ E u4 8 ts, rw_ E u5 40 rs, rw_ E u6 12 hs, rw_ E u7 10 cs] ++ dW E d v0 v1 t u n m r a g f)) (by rw [List.append_nil]) ?_
                                                refine GW.bipush (v := (-101)) F dL_isSo_643 (by decide) ?_
                                                refine GW.icmp_ne (tgt := 678) F dL_isSo_645 (by decide) (fun h => absurd rfl h) (fun _ => ?_)
                                                refine GW.aload_n F dL_isSo_648 rfl (lv_at hl 7 rfl) ?_
                                                refine GV.rdV (q0 := 7) (wa := [rw_ E u1 10 qs, rw_ E u2 8 zs, rw_ E u3 8 fo, rw_ E u4 8 ts, rw_ E u5 40 rs, rw_ E u6 12 hs, rw_ E u7 10 cs]) (wb := []) F hG (c_X6_shotShare l E (so_nn hJ)) (kL_127 F.2.2.2.2 ⟨Nat.le_of_ble_eq_true rfl, Nat.le_of_ble_eq_true rfl⟩) rfl rfl (by rw [List.append_nil]) rfl hl.1 (Nat.le_of_ble_eq_true rfl) ⟨Nat.le_of_ble_eq_true rfl, Nat.le_of_ble_eq_true rfl⟩ dL_isSo_649 rfl ?_
                                                refine GW.aload_n F dL_isSo_652 rfl (lv_at hl 9 rfl) ?_
                                                refine GW.iconst (v := nI 4) F dL_isSo_653 (by decide) ?_
                                                refine GW.iadn (i := 4) F hG 0 rfl (by decide) (by decide) dL_isSo_654 (fun zz ez => ?_)
                                                rw [hJ.q4] at ez
                                                subst ez
                                                by_cases hC0 : C = 0
                                                · refine GW.if_ne (tgt := 662) F dL_isSo_655 (by decide) (fun h => absurd (by rw [hC0]; rfl) h) (fun _ => ?_)
                                                  refine GW.dconst1 F dL_isSo_658 ?_
                                                  refine GW.goto (tgt := 670) F dL_isSo_659 (by decide) ?_
                                                  rw [so_sh0 hJ hC0]
                                                  refine GW.dcmp F dL_isSo_670 (fun zd ed => ?_)
                                                  refine GW.if_ne (tgt := 678) F dL_isSo_671 (by decide) (fun h => absurd (ed.trans (shb_ok sh_1).2) h) (fun _ => ?_)
                                                  refine GW.iconst (v := nI 1) F dL_isSo_674 (by decide) ?_
                                                  refine GW.goto (tgt := 679) F dL_isSo_675 (by decide) ?_
                                                  exact GV.zret F hr hk rfl rfl rfl (Nat.le_of_ble_eq_true rfl) (Nat.le_of_ble_eq_true rfl) dL_isSo_679
                                                · refine GW.if_ne (tgt := 662) F dL_isSo_655 (by decide) (fun _ => ?_) (fun h => absurd h (nI_ne0 (by omega) (by omega)))
                                                  refine GW.iload F dL_isSo_662 (lv_at hl 6 rfl) ?_
                                                  refine GW.i2d F dL_isSo_664 (fun za ea => ?_)
                                                  refine GW.aload_n F dL_isSo_665 rfl (lv_at hl 9 rfl) ?_
                                                  refine GW.iconst (v := nI 4) F dL_isSo_666 (by decide) ?_
                                                  refine GW.iadn (i := 4) F hG 0 rfl (by decide) (by decide) dL_isSo_667 (fun zz ez => ?_)
                                                  rw [hJ.q4] at ez
                                                  subst ez
                                                  refine GW.i2d F dL_isSo_668 (fun zb eb => ?_)
                                                  subst ea
                                                  subst eb
                                                  refine GW.ddiv F dL_isSo_669 (so_K hJ hC0).1 (fun zd ed => ?_)
                                                  subst ed
                                                  rw [so_sh1 hJ hC0]
                                                  refine GW.dcmp F dL_isSo_670 (fun zd ed => ?_)
                                                  refine GW.if_ne (tgt := 678) F dL_isSo_671 (by decide) (fun h => absurd (ed.trans (so_K hJ hC0).2) h) (fun _ => ?_)
                                                  refine GW.iconst (v := nI 1) F dL_isSo_674 (by decide) ?_
                                                  refine GW.goto (tgt := 679) F dL_isSo_675 (by decide) ?_
                                                  exact GV.zret F hr hk rfl rfl rfl (Nat.le_of_ble_eq_true rfl) (Nat.le_of_ble_eq_true rfl) dL_isSo_679
                                · skip
                                  refine V.aload_n F dL_isSo_543 rfl (lv_at hl 9 rfl) ?_
                                  refine V.iconst (v := nI 3) F dL_isSo_544 (by decide) ?_
                                  refine V.iadn (i := 3) F hE 0 rfl (by omega) (by omega) dL_isSo_545 (fun z76 e76 => ?_)
                                  refine V.goto (tgt := 550) F dL_isSo_546 (by decide) ?_
                                  refine V.icmp_ne (tgt := 557) F dL_isSo_550 (by decide) (fun c77 => ?_) (fun c77 => ?_)
                                  · skip
                                    subst e18 e21 e24 e27 e33 e38 e41 e44 e50 e55 e76; exact absurd (if_pos c56') c77
                                  · skip
                                    refine V.iconst (v := nI 1) F dL_isSo_553 (by decide) ?_
                                    refine V.goto (tgt := 558) F dL_isSo_554 (by decide) ?_
                                    refine V.istore (lv' := [(15, .int (nI 1)), (14, .int (brL (hpL hs (qs 0) (nI (lowN y 8)) H) 6)), (13, .int (nI (1 + (lowN (shx y 6) 5)))), (12, .int (nI (lowN (shx y 3) 6))), (11, .int (nI (lowN y 8))), (10, .int (opL qs zs fo rs hs cs H R C)), (9, .int (shL cs C)), (0, .ref d), (1, .int y), (2, .ref u1), (3, .ref u2), (4, .ref u3), (5, .ref u4), (6, .ref u5), (7, .ref u6), (8, .ref u7)]) F dL_isSo_558 hl (by decide) rfl (fun ls hl => ?_)
                                    refine V.iload F dL_isSo_560 (lv_at hl 0 rfl) ?_
                                    refine V.if_eq (tgt := 678) F dL_isSo_562 (by decide) (fun h => absurd h (by decide)) (fun _ => ?_)
                                    refine V.aload_n F dL_isSo_565 rfl (lv_at hl 7 rfl) ?_
                                    refine V.iconst (v := nI 4) F dL_isSo_566 (by decide) ?_
                                    refine V.rdX F hE (c_L_count l E (nI_r (M := 10) rfl (by decide) (by decide))) (kx_count F.2.2.2.2 ⟨Nat.le_of_ble_eq_true rfl, Nat.le_of_ble_eq_true rfl⟩) 7 22 (by rfl) rfl hl.1 (Nat.le_of_ble_eq_true rfl) dL_isSo_567 rfl ?_
                                    refine V.topi (fun z79 e79 => ?_)
                                    obtain rfl : (qs 4) = z79 := (e79.trans (so_c4 hJ)).symm
                                    refine V.aload_n F dL_isSo_570 rfl (lv_at hl 9 rfl) ?_
                                    refine V.iconst (v := nI 4) F dL_isSo_571 (by decide) ?_
                                    refine V.iadn (i := 4) F hE 0 rfl (by omega) (by omega) dL_isSo_572 (fun z80 e80 => ?_)
                                    refine V.icmp_ne (tgt := 678) F dL_isSo_573 (by decide) (fun c81 => ?_) (fun c81 => ?_)
                                    · skip
                                      subst e18 e21 e24 e27 e33 e38 e41 e44 e50 e55 e76 e80; exact absurd rfl c81
                                    · skip
                                      refine V.aload_n F dL_isSo_576 rfl (lv_at hl 7 rfl) ?_
                                      refine V.iconst (v := nI 5) F dL_isSo_577 (by decide) ?_
                                      refine V.rdX F hE (c_L_count l E (nI_r (M := 10) rfl (by decide) (by decide))) (kx_count F.2.2.2.2 ⟨Nat.le_of_ble_eq_true rfl, Nat.le_of_ble_eq_true rfl⟩) 7 22 (by rfl) rfl hl.1 (Nat.le_of_ble_eq_true rfl) dL_isSo_578 rfl ?_
                                      refine V.topi (fun z82 e82 => ?_)
                                      obtain rfl : (shL cs C) = z82 := (e82.trans (so_c5 hJ)).symm
                                      refine V.iload F dL_isSo_581 (lv_at hl 6 rfl) ?_
                                      refine V.icmp_ne (tgt := 678) F dL_isSo_583 (by decide) (fun c83 => ?_) (fun c83 => ?_)
                                      · skip
                                        subst e18 e21 e24 e27 e33 e38 e41 e44 e50 e55 e76 e80; exact absurd rfl c83
                                      · skip
                                        refine V.aload_n F dL_isSo_586 rfl (lv_at hl 7 rfl) ?_
                                        refine V.bipush (v := nI 6) F dL_isSo_587 (by decide) ?_
                                        refine V.rdX F hE (c_L_count l E (nI_r (M := 10) rfl (by decide) (by decide))) (kx_count F.2.2.2.2 ⟨Nat.le_of_ble_eq_true rfl, Nat.le_of_ble_eq_true rfl⟩) 7 22 (by rfl) rfl hl.1 (Nat.le_of_ble_eq_true rfl) dL_isSo_589 rfl ?_
                                        refine V.topi (fun z84 e84 => ?_)
                                        obtain rfl : (qs 5) = z84 := (e84.trans (so_c6 hJ)).symm
                                        refine V.aload_n F dL_isSo_592 rfl (lv_at hl 9 rfl) ?_
                                        refine V.iconst (v := nI 5) F dL_isSo_593 (by decide) ?_
                                        refine V.iadn (i := 5) F hE 0 rfl (by omega) (by omega) dL_isSo_594 (fun z85 e85 => ?_)
                                        refine V.icmp_ne (tgt := 678) F dL_isSo_595 (by decide) (fun c86 => ?_) (fun c86 => ?_)
                                        · skip
                                          subst e18 e21 e24 e27 e33 e38 e41 e44 e50 e55 e76 e80 e85; exact absurd rfl c86
                                        · skip
                                          refine V.aload_n F dL_isSo_598 rfl (lv_at hl 7 rfl) ?_
                                          refine V.bipush (v := nI 7) F dL_isSo_599 (by decide) ?_
                                          refine V.rdX F hE (c_L_count l E (nI_r (M := 10) rfl (by decide) (by decide))) (kx_count F.2.2.2.2 ⟨Nat.le_of_ble_eq_true rfl, Nat.le_of_ble_eq_true rfl⟩) 7 22 (by rfl) rfl hl.1 (Nat.le_of_ble_eq_true rfl) dL_isSo_601 rfl ?_
                                          refine V.topi (fun z87 e87 => ?_)
                                          obtain rfl : (qs 6) = z87 := (e87.trans (so_c7 hJ)).symm
                                          refine V.aload_n F dL_isSo_604 rfl (lv_at hl 9 rfl) ?_
                                          refine V.bipush (v := nI 6) F dL_isSo_605 (by decide) ?_
                                          refine V.iadn (i := 6) F hE 0 rfl (by omega) (by omega) dL_isSo_607 (fun z88 e88 => ?_)
                                          refine V.icmp_ne (tgt := 678) F dL_isSo_608 (by decide) (fun c89 => ?_) (fun c89 => ?_)
                                          · skip
                                            subst e18 e21 e24 e27 e33 e38 e41 e44 e50 e55 e76 e80 e85 e88; exact absurd rfl c89
                                          · skip
                                            refine V.aload_n F dL_isSo_611 rfl (lv_at hl 7 rfl) ?_
                                            refine V.bipush (v := nI 8) F dL_isSo_612 (by decide) ?_
                                            refine V.rdX F hE (c_L_count l E (nI_r (M := 10) rfl (by decide) (by decide))) (kx_count F.2.2.2.2 ⟨Nat.le_of_ble_eq_true rfl, Nat.le_of_ble_eq_true rfl⟩) 7 22 (by rfl) rfl hl.1 (Nat.le_of_ble_eq_true rfl) dL_isSo_614 rfl ?_
                                            refine V.topi (fun z90 e90 => ?_)
                                            obtain rfl : (qs 7) = z90 := (e90.trans (so_c8 hJ)).symm
                                            refine V.aload_n F dL_isSo_617 rfl (lv_at hl 9 rfl) ?_
                                            refine V.bipush (v := nI 7) F dL_isSo_618 (by decide) ?_
                                            refine V.iadn (i := 7) F hE 0 rfl (by omega) (by omega) dL_isSo_620 (fun z91 e91 => ?_)
                                            refine V.icmp_ne (tgt := 678) F dL_isSo_621 (by decide) (fun c92 => ?_) (fun c92 => ?_)
                                            · skip
                                              subst e18 e21 e24 e27 e33 e38 e41 e44 e50 e55 e76 e80 e85 e88 e91; exact absurd rfl c92
                                            · skip
                                              refine V.aload_n F dL_isSo_624 rfl (lv_at hl 7 rfl) ?_
                                              refine V.bipush (v := nI 9) F dL_isSo_625 (by decide) ?_
                                              refine V.rdX F hE (c_L_count l E (nI_r (M := 10) rfl (by decide) (by decide))) (kx_count F.2.2.2.2 ⟨Nat.le_of_ble_eq_true rfl, Nat.le_of_ble_eq_true rfl⟩) 7 22 (by rfl) rfl hl.1 (Nat.le_of_ble_eq_true rfl) dL_isSo_627 rfl ?_
                                              refine V.topi (fun z93 e93 => ?_)
                                              obtain rfl : (opL qs zs fo rs hs cs H R C) = z93 := (e93.trans (so_c9 hJ)).symm
                                              refine V.iload F dL_isSo_630 (lv_at hl 5 rfl) ?_
                                              refine V.icmp_ne (tgt := 678) F dL_isSo_632 (by decide) (fun c94 => ?_) (fun c94 => ?_)
                                              · skip
                                                subst e18 e21 e24 e27 e33 e38 e41 e44 e50 e55 e76 e80 e85 e88 e91; exact absurd rfl c94
                                              · skip
                                                refine V.aload_n F dL_isSo_635 rfl (lv_at hl 7 rfl) ?_
                                                refine V.aload_n F dL_isSo_636 rfl (lv_at hl 9 rfl) ?_
                                                refine V.iconst (v := nI 4) F dL_isSo_637 (by decide) ?_
                                                refine V.iadn (i := 4) F hE 0 rfl (by omega) (by omega) dL_isSo_638 (fun z95 e95 => ?_)
                                                obtain rfl : (nI C) = z95 := (e95.trans hJ.q4).symm
                                                refine V.iconst (v := nI 0) F dL_isSo_639 (by decide) ?_
                                                refine V.toGV hD0 ?_
                                                refine GV.gx (wa := [rw_ E u1 10 qs, rw_ E u2 8 zs, rw_ E u3 8 fo, rw_ E u4 8 ts, rw_ E u5 40 rs, rw_ E u6 12 hs, rw_ E u7 10 cs]) (wb := []) F hG hA (w_L_refusal_e1 l E (c_X6_refusal_t1 l E (x := nI C) (p := nI 0) (so_t hJ) hst)) (kx_refusal F.2.2.2.2 ⟨Nat.le_of_ble_eq_true rfl, Nat.le_of_ble_eq_true rfl⟩) (by rw [List.append_nil]) rfl hl.1 (Nat.le_of_ble_eq_true rfl) ⟨Nat.le_of_ble_eq_true rfl, Nat.le_of_ble_eq_true rfl⟩ dL_isSo_640 rfl ?_
                                                refine GV.weq (ws' := ([rw_ E u1 10 qs, rw_ E u2 8 zs, rw_ E u3 8 fo, rw_ E u4 8 ts, rw_ E u5 40 rs, rw_ E u6 12 hs, rw_ E u7 10 cs] ++ dW E d v0 v1 t u n m r a g f)) (by rw [List.append_nil]) ?_
                                                refine GW.bipush (v := (-101)) F dL_isSo_643 (by decide) ?_
                                                refine GW.icmp_ne (tgt := 678) F dL_isSo_645 (by decide) (fun h => absurd rfl h) (fun _ => ?_)
                                                refine GW.aload_n F dL_isSo_648 rfl (lv_at hl 7 rfl) ?_
                                                refine GV.rdV (q0 := 7) (wa := [rw_ E u1 10 qs, rw_ E u2 8 zs, rw_ E u3 8 fo, rw_ E u4 8 ts, rw_ E u5 40 rs, rw_ E u6 12 hs, rw_ E u7 10 cs]) (wb := []) F hG (c_X6_shotShare l E (so_nn hJ)) (kL_127 F.2.2.2.2 ⟨Nat.le_of_ble_eq_true rfl, Nat.le_of_ble_eq_true rfl⟩) rfl rfl (by rw [List.append_nil]) rfl hl.1 (Nat.le_of_ble_eq_true rfl) ⟨Nat.le_of_ble_eq_true rfl, Nat.le_of_ble_eq_true rfl⟩ dL_isSo_649 rfl ?_
                                                refine GW.aload_n F dL_isSo_652 rfl (lv_at hl 9 rfl) ?_
                                                refine GW.iconst (v := nI 4) F dL_isSo_653 (by decide) ?_
                                                refine GW.iadn (i := 4) F hG 0 rfl (by decide) (by decide) dL_isSo_654 (fun zz ez => ?_)
                                                rw [hJ.q4] at ez
                                                subst ez
                                                by_cases hC0 : C = 0
                                                · refine GW.if_ne (tgt := 662) F dL_isSo_655 (by decide) (fun h => absurd (by rw [hC0]; rfl) h) (fun _ => ?_)
                                                  refine GW.dconst1 F dL_isSo_658 ?_
                                                  refine GW.goto (tgt := 670) F dL_isSo_659 (by decide) ?_
                                                  rw [so_sh0 hJ hC0]
                                                  refine GW.dcmp F dL_isSo_670 (fun zd ed => ?_)
                                                  refine GW.if_ne (tgt := 678) F dL_isSo_671 (by decide) (fun h => absurd (ed.trans (shb_ok sh_1).2) h) (fun _ => ?_)
                                                  refine GW.iconst (v := nI 1) F dL_isSo_674 (by decide) ?_
                                                  refine GW.goto (tgt := 679) F dL_isSo_675 (by decide) ?_
                                                  exact GV.zret F hr hk rfl rfl rfl (Nat.le_of_ble_eq_true rfl) (Nat.le_of_ble_eq_true rfl) dL_isSo_679
                                                · refine GW.if_ne (tgt := 662) F dL_isSo_655 (by decide) (fun _ => ?_) (fun h => absurd h (nI_ne0 (by omega) (by omega)))
                                                  refine GW.iload F dL_isSo_662 (lv_at hl 6 rfl) ?_
                                                  refine GW.i2d F dL_isSo_664 (fun za ea => ?_)
                                                  refine GW.aload_n F dL_isSo_665 rfl (lv_at hl 9 rfl) ?_
                                                  refine GW.iconst (v := nI 4) F dL_isSo_666 (by decide) ?_
                                                  refine GW.iadn (i := 4) F hG 0 rfl (by decide) (by decide) dL_isSo_667 (fun zz ez => ?_)
                                                  rw [hJ.q4] at ez
                                                  subst ez
                                                  refine GW.i2d F dL_isSo_668 (fun zb eb => ?_)
                                                  subst ea
                                                  subst eb
                                                  refine GW.ddiv F dL_isSo_669 (so_K hJ hC0).1 (fun zd ed => ?_)
                                                  subst ed
                                                  rw [so_sh1 hJ hC0]
                                                  refine GW.dcmp F dL_isSo_670 (fun zd ed => ?_)
                                                  refine GW.if_ne (tgt := 678) F dL_isSo_671 (by decide) (fun h => absurd (ed.trans (so_K hJ hC0).2) h) (fun _ => ?_)
                                                  refine GW.iconst (v := nI 1) F dL_isSo_674 (by decide) ?_
                                                  refine GW.goto (tgt := 679) F dL_isSo_675 (by decide) ?_
                                                  exact GV.zret F hr hk rfl rfl rfl (Nat.le_of_ble_eq_true rfl) (Nat.le_of_ble_eq_true rfl) dL_isSo_679
                            · skip
                              refine V.aload_n F dL_isSo_519 rfl (lv_at hl 9 rfl) ?_
                              refine V.iconst (v := nI 2) F dL_isSo_520 (by decide) ?_
                              refine V.iadn (i := 2) F hE 0 rfl (by omega) (by omega) dL_isSo_521 (fun z96 e96 => ?_)
                              refine V.goto (tgt := 526) F dL_isSo_522 (by decide) ?_
                              refine V.icmp_ne (tgt := 557) F dL_isSo_526 (by decide) (fun c97 => ?_) (fun c97 => ?_)
                              · skip
                                subst e18 e21 e24 e27 e33 e38 e41 e44 e50 e96; exact absurd (if_pos c51') c97
                              · skip
                                refine V.aload_n F dL_isSo_529 rfl (lv_at hl 7 rfl) ?_
                                refine V.iconst (v := nI 3) F dL_isSo_530 (by decide) ?_
                                refine V.rdX F hE (c_L_count l E (nI_r (M := 10) rfl (by decide) (by decide))) (kx_count F.2.2.2.2 ⟨Nat.le_of_ble_eq_true rfl, Nat.le_of_ble_eq_true rfl⟩) 7 22 (by rfl) rfl hl.1 (Nat.le_of_ble_eq_true rfl) dL_isSo_531 rfl ?_
                                refine V.topi (fun z98 e98 => ?_)
                                obtain rfl : (if qs 0 ≤ qs 3 then qs 3 else -1) = z98 := (e98.trans (so_c3 hJ)).symm
                                refine V.aload_n F dL_isSo_534 rfl (lv_at hl 9 rfl) ?_
                                refine V.iconst (v := nI 0) F dL_isSo_535 (by decide) ?_
                                refine V.iadn (i := 0) F hE 0 rfl (by omega) (by omega) dL_isSo_536 (fun z99 e99 => ?_)
                                obtain rfl : (qs 0) = z99 := (e99.trans rfl).symm
                                refine V.aload_n F dL_isSo_537 rfl (lv_at hl 9 rfl) ?_
                                refine V.iconst (v := nI 3) F dL_isSo_538 (by decide) ?_
                                refine V.iadn (i := 3) F hE 0 rfl (by omega) (by omega) dL_isSo_539 (fun z100 e100 => ?_)
                                refine V.icmp_gt (tgt := 549) F dL_isSo_540 (by decide) (fun c101 c101' => ?_) (fun c101 c101' => ?_)
                                · skip
                                  refine V.iconst (v := (-1)) F dL_isSo_549 (by decide) ?_
                                  refine V.icmp_ne (tgt := 557) F dL_isSo_550 (by decide) (fun c102 => ?_) (fun c102 => ?_)
                                  · skip
                                    subst e18 e21 e24 e27 e33 e38 e41 e44 e50 e96 e100; exact absurd (if_neg c101') c102
                                  · skip
                                    refine V.iconst (v := nI 1) F dL_isSo_553 (by decide) ?_
                                    refine V.goto (tgt := 558) F dL_isSo_554 (by decide) ?_
                                    refine V.istore (lv' := [(15, .int (nI 1)), (14, .int (brL (hpL hs (qs 0) (nI (lowN y 8)) H) 6)), (13, .int (nI (1 + (lowN (shx y 6) 5)))), (12, .int (nI (lowN (shx y 3) 6))), (11, .int (nI (lowN y 8))), (10, .int (opL qs zs fo rs hs cs H R C)), (9, .int (shL cs C)), (0, .ref d), (1, .int y), (2, .ref u1), (3, .ref u2), (4, .ref u3), (5, .ref u4), (6, .ref u5), (7, .ref u6), (8, .ref u7)]) F dL_isSo_558 hl (by decide) rfl (fun ls hl => ?_)
                                    refine V.iload F dL_isSo_560 (lv_at hl 0 rfl) ?_
                                    refine V.if_eq (tgt := 678) F dL_isSo_562 (by decide) (fun h => absurd h (by decide)) (fun _ => ?_)
                                    refine V.aload_n F dL_isSo_565 rfl (lv_at hl 7 rfl) ?_
                                    refine V.iconst (v := nI 4) F dL_isSo_566 (by decide) ?_
                                    refine V.rdX F hE (c_L_count l E (nI_r (M := 10) rfl (by decide) (by decide))) (kx_count F.2.2.2.2 ⟨Nat.le_of_ble_eq_true rfl, Nat.le_of_ble_eq_true rfl⟩) 7 22 (by rfl) rfl hl.1 (Nat.le_of_ble_eq_true rfl) dL_isSo_567 rfl ?_
                                    refine V.topi (fun z104 e104 => ?_)
                                    obtain rfl : (qs 4) = z104 := (e104.trans (so_c4 hJ)).symm
                                    refine V.aload_n F dL_isSo_570 rfl (lv_at hl 9 rfl) ?_
                                    refine V.iconst (v := nI 4) F dL_isSo_571 (by decide) ?_
                                    refine V.iadn (i := 4) F hE 0 rfl (by omega) (by omega) dL_isSo_572 (fun z105 e105 => ?_)
                                    refine V.icmp_ne (tgt := 678) F dL_isSo_573 (by decide) (fun c106 => ?_) (fun c106 => ?_)
                                    · skip
                                      subst e18 e21 e24 e27 e33 e38 e41 e44 e50 e96 e100 e105; exact absurd rfl c106
                                    · skip
                                      refine V.aload_n F dL_isSo_576 rfl (lv_at hl 7 rfl) ?_
                                      refine V.iconst (v := nI 5) F dL_isSo_577 (by decide) ?_
                                      refine V.rdX F hE (c_L_count l E (nI_r (M := 10) rfl (by decide) (by decide))) (kx_count F.2.2.2.2 ⟨Nat.le_of_ble_eq_true rfl, Nat.le_of_ble_eq_true rfl⟩) 7 22 (by rfl) rfl hl.1 (Nat.le_of_ble_eq_true rfl) dL_isSo_578 rfl ?_
                                      refine V.topi (fun z107 e107 => ?_)
                                      obtain rfl : (shL cs C) = z107 := (e107.trans (so_c5 hJ)).symm
                                      refine V.iload F dL_isSo_581 (lv_at hl 6 rfl) ?_
                                      refine V.icmp_ne (tgt := 678) F dL_isSo_583 (by decide) (fun c108 => ?_) (fun c108 => ?_)
                                      · skip
                                        subst e18 e21 e24 e27 e33 e38 e41 e44 e50 e96 e100 e105; exact absurd rfl c108
                                      · skip
                                        refine V.aload_n F dL_isSo_586 rfl (lv_at hl 7 rfl) ?_
                                        refine V.bipush (v := nI 6) F dL_isSo_587 (by decide) ?_
                                        refine V.rdX F hE (c_L_count l E (nI_r (M := 10) rfl (by decide) (by decide))) (kx_count F.2.2.2.2 ⟨Nat.le_of_ble_eq_true rfl, Nat.le_of_ble_eq_true rfl⟩) 7 22 (by rfl) rfl hl.1 (Nat.le_of_ble_eq_true rfl) dL_isSo_589 rfl ?_
                                        refine V.topi (fun z109 e109 => ?_)
                                        obtain rfl : (qs 5) = z109 := (e109.trans (so_c6 hJ)).symm
                                        refine V.aload_n F dL_isSo_592 rfl (lv_at hl 9 rfl) ?_
                                        refine V.iconst (v := nI 5) F dL_isSo_593 (by decide) ?_
                                        refine V.iadn (i := 5) F hE 0 rfl (by omega) (by omega) dL_isSo_594 (fun z110 e110 => ?_)
                                        refine V.icmp_ne (tgt := 678) F dL_isSo_595 (by decide) (fun c111 => ?_) (fun c111 => ?_)
                                        · skip
                                          subst e18 e21 e24 e27 e33 e38 e41 e44 e50 e96 e100 e105 e110; exact absurd rfl c111
                                        · skip
                                          refine V.aload_n F dL_isSo_598 rfl (lv_at hl 7 rfl) ?_
                                          refine V.bipush (v := nI 7) F dL_isSo_599 (by decide) ?_
                                          refine V.rdX F hE (c_L_count l E (nI_r (M := 10) rfl (by decide) (by decide))) (kx_count F.2.2.2.2 ⟨Nat.le_of_ble_eq_true rfl, Nat.le_of_ble_eq_true rfl⟩) 7 22 (by rfl) rfl hl.1 (Nat.le_of_ble_eq_true rfl) dL_isSo_601 rfl ?_
                                          refine V.topi (fun z112 e112 => ?_)
                                          obtain rfl : (qs 6) = z112 := (e112.trans (so_c7 hJ)).symm
                                          refine V.aload_n F dL_isSo_604 rfl (lv_at hl 9 rfl) ?_
                                          refine V.bipush (v := nI 6) F dL_isSo_605 (by decide) ?_
                                          refine V.iadn (i := 6) F hE 0 rfl (by omega) (by omega) dL_isSo_607 (fun z113 e113 => ?_)
                                          refine V.icmp_ne (tgt := 678) F dL_isSo_608 (by decide) (fun c114 => ?_) (fun c114 => ?_)
                                          · skip
                                            subst e18 e21 e24 e27 e33 e38 e41 e44 e50 e96 e100 e105 e110 e113; exact absurd rfl c114
                                          · skip
                                            refine V.aload_n F dL_isSo_611 rfl (lv_at hl 7 rfl) ?_
                                            refine V.bipush (v := nI 8) F dL_isSo_612 (by decide) ?_
                                            refine V.rdX F hE (c_L_count l E (nI_r (M := 10) rfl (by decide) (by decide))) (kx_count F.2.2.2.2 ⟨Nat.le_of_ble_eq_true rfl, Nat.le_of_ble_eq_true rfl⟩) 7 22 (by rfl) rfl hl.1 (Nat.le_of_ble_eq_true rfl) dL_isSo_614 rfl ?_
                                            refine V.topi (fun z115 e115 => ?_)
                                            obtain rfl : (qs 7) = z115 := (e115.trans (so_c8 hJ)).symm
                                            refine V.aload_n F dL_isSo_617 rfl (lv_at hl 9 rfl) ?_
                                            refine V.bipush (v := nI 7) F dL_isSo_618 (by decide) ?_
                                            refine V.iadn (i := 7) F hE 0 rfl (by omega) (by omega) dL_isSo_620 (fun z116 e116 => ?_)
                                            refine V.icmp_ne (tgt := 678) F dL_isSo_621 (by decide) (fun c117 => ?_) (fun c117 => ?_)
                                            · skip
                                              subst e18 e21 e24 e27 e33 e38 e41 e44 e50 e96 e100 e105 e110 e113 e116; exact absurd rfl c117
                                            · skip
                                              refine V.aload_n F dL_isSo_624 rfl (lv_at hl 7 rfl) ?_
                                              refine V.bipush (v := nI 9) F dL_isSo_625 (by decide) ?_
                                              refine V.rdX F hE (c_L_count l E (nI_r (M := 10) rfl (by decide) (by decide))) (kx_count F.2.2.2.2 ⟨Nat.le_of_ble_eq_true rfl, Nat.le_of_ble_eq_true rfl⟩) 7 22 (by rfl) rfl hl.1 (Nat.le_of_ble_eq_true rfl) dL_isSo_627 rfl ?_
                                              refine V.topi (fun z118 e118 => ?_)
                                              obtain rfl : (opL qs zs fo rs hs cs H R C) = z118 := (e118.trans (so_c9 hJ)).symm
                                              refine V.iload F dL_isSo_630 (lv_at hl 5 rfl) ?_
                                              refine V.icmp_ne (tgt := 678) F dL_isSo_632 (by decide) (fun c119 => ?_) (fun c119 => ?_)
                                              · skip
                                                subst e18 e21 e24 e27 e33 e38 e41 e44 e50 e96 e100 e105 e110 e113 e116; exact absurd rfl c119
                                              · skip
                                                refine V.aload_n F dL_isSo_635 rfl (lv_at hl 7 rfl) ?_
                                                refine V.aload_n F dL_isSo_636 rfl (lv_at hl 9 rfl) ?_
                                                refine V.iconst (v := nI 4) F dL_isSo_637 (by decide) ?_
                                                refine V.iadn (i := 4) F hE 0 rfl (by omega) (by omega) dL_isSo_638 (fun z120 e120 => ?_)
                                                obtain rfl : (nI C) = z120 := (e120.trans hJ.q4).symm
                                                refine V.iconst (v := nI 0) F dL_isSo_639 (by decide) ?_
                                                refine V.toGV hD0 ?_
                                                refine GV.gx (wa := [rw_ E u1 10 qs, rw_ E u2 8 zs, rw_ E u3 8 fo, rw_ E u4 8 ts, rw_ E u5 40 rs, rw_ E u6 12 hs, rw_ E u7 10 cs]) (wb := []) F hG hA (w_L_refusal_e1 l E (c_X6_refusal_t1 l E (x := nI C) (p := nI 0) (so_t hJ) hst)) (kx_refusal F.2.2.2.2 ⟨Nat.le_of_ble_eq_true rfl, Nat.le_of_ble_eq_true rfl⟩) (by rw [List.append_nil]) rfl hl.1 (Nat.le_of_ble_eq_true rfl) ⟨Nat.le_of_ble_eq_true rfl, Nat.le_of_ble_eq_true rfl⟩ dL_isSo_640 rfl ?_
                                                refine GV.weq (ws' := ([rw_ E u1 10 qs, rw_ E u2 8 zs, rw_ E u3 8 fo, rw_ E u4 8 ts, rw_ E u5 40 rs, rw_ E u6 12 hs, rw_ E u7 10 cs] ++ dW E d v0 v1 t u n m r a g f)) (by rw [List.append_nil]) ?_
                                                refine GW.bipush (v := (-101)) F dL_isSo_643 (by decide) ?_
                                                refine GW.icmp_ne (tgt := 678) F dL_isSo_645 (by decide) (fun h => absurd rfl h) (fun _ => ?_)
                                                refine GW.aload_n F dL_isSo_648 rfl (lv_at hl 7 rfl) ?_
                                                refine GV.rdV (q0 := 7) (wa := [rw_ E u1 10 qs, rw_ E u2 8 zs, rw_ E u3 8 fo, rw_ E u4 8 ts, rw_ E u5 40 rs, rw_ E u6 12 hs, rw_ E u7 10 cs]) (wb := []) F hG (c_X6_shotShare l E (so_nn hJ)) (kL_127 F.2.2.2.2 ⟨Nat.le_of_ble_eq_true rfl, Nat.le_of_ble_eq_true rfl⟩) rfl rfl (by rw [List.append_nil]) rfl hl.1 (Nat.le_of_ble_eq_true rfl) ⟨Nat.le_of_ble_eq_true rfl, Nat.le_of_ble_eq_true rfl⟩ dL_isSo_649 rfl ?_
                                                refine GW.aload_n F dL_isSo_652 rfl (lv_at hl 9 rfl) ?_
                                                refine GW.iconst (v := nI 4) F dL_isSo_653 (by decide) ?_
                                                refine GW.iadn (i := 4) F hG 0 rfl (by decide) (by decide) dL_isSo_654 (fun zz ez => ?_)
                                                rw [hJ.q4] at ez
                                                subst ez
                                                by_cases hC0 : C = 0
                                                · refine GW.if_ne (tgt := 662) F dL_isSo_655 (by decide) (fun h => absurd (by rw [hC0]; rfl) h) (fun _ => ?_)
                                                  refine GW.dconst1 F dL_isSo_658 ?_
                                                  refine GW.goto (tgt := 670) F dL_isSo_659 (by decide) ?_
                                                  rw [so_sh0 hJ hC0]
                                                  refine GW.dcmp F dL_isSo_670 (fun zd ed => ?_)
                                                  refine GW.if_ne (tgt := 678) F dL_isSo_671 (by decide) (fun h => absurd (ed.trans (shb_ok sh_1).2) h) (fun _ => ?_)
                                                  refine GW.iconst (v := nI 1) F dL_isSo_674 (by decide) ?_
                                                  refine GW.goto (tgt := 679) F dL_isSo_675 (by decide) ?_
                                                  exact GV.zret F hr hk rfl rfl rfl (Nat.le_of_ble_eq_true rfl) (Nat.le_of_ble_eq_true rfl) dL_isSo_679
                                                · refine GW.if_ne (tgt := 662) F dL_isSo_655 (by decide) (fun _ => ?_) (fun h => absurd h (nI_ne0 (by omega) (by omega)))
                                                  refine GW.iload F dL_isSo_662 (lv_at hl 6 rfl) ?_
                                                  refine GW.i2d F dL_isSo_664 (fun za ea => ?_)
                                                  refine GW.aload_n F dL_isSo_665 rfl (lv_at hl 9 rfl) ?_
                                                  refine GW.iconst (v := nI 4) F dL_isSo_666 (by decide) ?_
                                                  refine GW.iadn (i := 4) F hG 0 rfl (by decide) (by decide) dL_isSo_667 (fun zz ez => ?_)
                                                  rw [hJ.q4] at ez
                                                  subst ez
                                                  refine GW.i2d F dL_isSo_668 (fun zb eb => ?_)
                                                  subst ea
                                                  subst eb
                                                  refine GW.ddiv F dL_isSo_669 (so_K hJ hC0).1 (fun zd ed => ?_)
                                                  subst ed
                                                  rw [so_sh1 hJ hC0]
                                                  refine GW.dcmp F dL_isSo_670 (fun zd ed => ?_)
                                                  refine GW.if_ne (tgt := 678) F dL_isSo_671 (by decide) (fun h => absurd (ed.trans (so_K hJ hC0).2) h) (fun _ => ?_)
                                                  refine GW.iconst (v := nI 1) F dL_isSo_674 (by decide) ?_
                                                  refine GW.goto (tgt := 679) F dL_isSo_675 (by decide) ?_
                                                  exact GV.zret F hr hk rfl rfl rfl (Nat.le_of_ble_eq_true rfl) (Nat.le_of_ble_eq_true rfl) dL_isSo_679
                                · skip
                                  refine V.aload_n F dL_isSo_543 rfl (lv_at hl 9 rfl) ?_
                                  refine V.iconst (v := nI 3) F dL_isSo_544 (by decide) ?_
                                  refine V.iadn (i := 3) F hE 0 rfl (by omega) (by omega) dL_isSo_545 (fun z121 e121 => ?_)
                                  refine V.goto (tgt := 550) F dL_isSo_546 (by decide) ?_
                                  refine V.icmp_ne (tgt := 557) F dL_isSo_550 (by decide) (fun c122 => ?_) (fun c122 => ?_)
                                  · skip
                                    subst e18 e21 e24 e27 e33 e38 e41 e44 e50 e96 e100 e121; exact absurd (if_pos c101') c122
                                  · skip
                                    refine V.iconst (v := nI 1) F dL_isSo_553 (by decide) ?_
                                    refine V.goto (tgt := 558) F dL_isSo_554 (by decide) ?_
                                    refine V.istore (lv' := [(15, .int (nI 1)), (14, .int (brL (hpL hs (qs 0) (nI (lowN y 8)) H) 6)), (13, .int (nI (1 + (lowN (shx y 6) 5)))), (12, .int (nI (lowN (shx y 3) 6))), (11, .int (nI (lowN y 8))), (10, .int (opL qs zs fo rs hs cs H R C)), (9, .int (shL cs C)), (0, .ref d), (1, .int y), (2, .ref u1), (3, .ref u2), (4, .ref u3), (5, .ref u4), (6, .ref u5), (7, .ref u6), (8, .ref u7)]) F dL_isSo_558 hl (by decide) rfl (fun ls hl => ?_)
                                    refine V.iload F dL_isSo_560 (lv_at hl 0 rfl) ?_
                                    refine V.if_eq (tgt := 678) F dL_isSo_562 (by decide) (fun h => absurd h (by decide)) (fun _ => ?_)
                                    refine V.aload_n F dL_isSo_565 rfl (lv_at hl 7 rfl) ?_
                                    refine V.iconst (v := nI 4) F dL_isSo_566 (by decide) ?_
                                    refine V.rdX F hE (c_L_count l E (nI_r (M := 10) rfl (by decide) (by decide))) (kx_count F.2.2.2.2 ⟨Nat.le_of_ble_eq_true rfl, Nat.le_of_ble_eq_true rfl⟩) 7 22 (by rfl) rfl hl.1 (Nat.le_of_ble_eq_true rfl) dL_isSo_567 rfl ?_
                                    refine V.topi (fun z124 e124 => ?_)
                                    obtain rfl : (qs 4) = z124 := (e124.trans (so_c4 hJ)).symm
                                    refine V.aload_n F dL_isSo_570 rfl (lv_at hl 9 rfl) ?_
                                    refine V.iconst (v := nI 4) F dL_isSo_571 (by decide) ?_
                                    refine V.iadn (i := 4) F hE 0 rfl (by omega) (by omega) dL_isSo_572 (fun z125 e125 => ?_)
                                    refine V.icmp_ne (tgt := 678) F dL_isSo_573 (by decide) (fun c126 => ?_) (fun c126 => ?_)
                                    · skip
                                      subst e18 e21 e24 e27 e33 e38 e41 e44 e50 e96 e100 e121 e125; exact absurd rfl c126
                                    · skip
                                      refine V.aload_n F dL_isSo_576 rfl (lv_at hl 7 rfl) ?_
                                      refine V.iconst (v := nI 5) F dL_isSo_577 (by decide) ?_
                                      refine V.rdX F hE (c_L_count l E (nI_r (M := 10) rfl (by decide) (by decide))) (kx_count F.2.2.2.2 ⟨Nat.le_of_ble_eq_true rfl, Nat.le_of_ble_eq_true rfl⟩) 7 22 (by rfl) rfl hl.1 (Nat.le_of_ble_eq_true rfl) dL_isSo_578 rfl ?_
                                      refine V.topi (fun z127 e127 => ?_)
                                      obtain rfl : (shL cs C) = z127 := (e127.trans (so_c5 hJ)).symm
                                      refine V.iload F dL_isSo_581 (lv_at hl 6 rfl) ?_
                                      refine V.icmp_ne (tgt := 678) F dL_isSo_583 (by decide) (fun c128 => ?_) (fun c128 => ?_)
                                      · skip
                                        subst e18 e21 e24 e27 e33 e38 e41 e44 e50 e96 e100 e121 e125; exact absurd rfl c128
                                      · skip
                                        refine V.aload_n F dL_isSo_586 rfl (lv_at hl 7 rfl) ?_
                                        refine V.bipush (v := nI 6) F dL_isSo_587 (by decide) ?_
                                        refine V.rdX F hE (c_L_count l E (nI_r (M := 10) rfl (by decide) (by decide))) (kx_count F.2.2.2.2 ⟨Nat.le_of_ble_eq_true rfl, Nat.le_of_ble_eq_true rfl⟩) 7 22 (by rfl) rfl hl.1 (Nat.le_of_ble_eq_true rfl) dL_isSo_589 rfl ?_
                                        refine V.topi (fun z129 e129 => ?_)
                                        obtain rfl : (qs 5) = z129 := (e129.trans (so_c6 hJ)).symm
                                        refine V.aload_n F dL_isSo_592 rfl (lv_at hl 9 rfl) ?_
                                        refine V.iconst (v := nI 5) F dL_isSo_593 (by decide) ?_
                                        refine V.iadn (i := 5) F hE 0 rfl (by omega) (by omega) dL_isSo_594 (fun z130 e130 => ?_)
                                        refine V.icmp_ne (tgt := 678) F dL_isSo_595 (by decide) (fun c131 => ?_) (fun c131 => ?_)
                                        · skip
                                          subst e18 e21 e24 e27 e33 e38 e41 e44 e50 e96 e100 e121 e125 e130; exact absurd rfl c131
                                        · skip
                                          refine V.aload_n F dL_isSo_598 rfl (lv_at hl 7 rfl) ?_
                                          refine V.bipush (v := nI 7) F dL_isSo_599 (by decide) ?_
                                          refine V.rdX F hE (c_L_count l E (nI_r (M := 10) rfl (by decide) (by decide))) (kx_count F.2.2.2.2 ⟨Nat.le_of_ble_eq_true rfl, Nat.le_of_ble_eq_true rfl⟩) 7 22 (by rfl) rfl hl.1 (Nat.le_of_ble_eq_true rfl) dL_isSo_601 rfl ?_
                                          refine V.topi (fun z132 e132 => ?_)
                                          obtain rfl : (qs 6) = z132 := (e132.trans (so_c7 hJ)).symm
                                          refine V.aload_n F dL_isSo_604 rfl (lv_at hl 9 rfl) ?_
                                          refine V.bipush (v := nI 6) F dL_isSo_605 (by decide) ?_
                                          refine V.iadn (i := 6) F hE 0 rfl (by omega) (by omega) dL_isSo_607 (fun z133 e133 => ?_)
                                          refine V.icmp_ne (tgt := 678) F dL_isSo_608 (by decide) (fun c134 => ?_) (fun c134 => ?_)
                                          · skip
                                            subst e18 e21 e24 e27 e33 e38 e41 e44 e50 e96 e100 e121 e125 e130 e133; exact absurd rfl c134
                                          · skip
                                            refine V.aload_n F dL_isSo_611 rfl (lv_at hl 7 rfl) ?_
                                            refine V.bipush (v := nI 8) F dL_isSo_612 (by decide) ?_
                                            refine V.rdX F hE (c_L_count l E (nI_r (M := 10) rfl (by decide) (by decide))) (kx_count F.2.2.2.2 ⟨Nat.le_of_ble_eq_true rfl, Nat.le_of_ble_eq_true rfl⟩) 7 22 (by rfl) rfl hl.1 (Nat.le_of_ble_eq_true rfl) dL_isSo_614 rfl ?_
                                            refine V.topi (fun z135 e135 => ?_)
                                            obtain rfl : (qs 7) = z135 := (e135.trans (so_c8 hJ)).symm
                                            refine V.aload_n F dL_isSo_617 rfl (lv_at hl 9 rfl) ?_
                                            refine V.bipush (v := nI 7) F dL_isSo_618 (by decide) ?_
                                            refine V.iadn (i := 7) F hE 0 rfl (by omega) (by omega) dL_isSo_620 (fun z136 e136 => ?_)
                                            refine V.icmp_ne (tgt := 678) F dL_isSo_621 (by decide) (fun c137 => ?_) (fun c137 => ?_)
                                            · skip
                                              subst e18 e21 e24 e27 e33 e38 e41 e44 e50 e96 e100 e121 e125 e130 e133 e136; exact absurd rfl c137
                                            · skip
                                              refine V.aload_n F dL_isSo_624 rfl (lv_at hl 7 rfl) ?_
                                              refine V.bipush (v := nI 9) F dL_isSo_625 (by decide) ?_
                                              refine V.rdX F hE (c_L_count l E (nI_r (M := 10) rfl (by decide) (by decide))) (kx_count F.2.2.2.2 ⟨Nat.le_of_ble_eq_true rfl, Nat.le_of_ble_eq_true rfl⟩) 7 22 (by rfl) rfl hl.1 (Nat.le_of_ble_eq_true rfl) dL_isSo_627 rfl ?_
                                              refine V.topi (fun z138 e138 => ?_)
                                              obtain rfl : (opL qs zs fo rs hs cs H R C) = z138 := (e138.trans (so_c9 hJ)).symm
                                              refine V.iload F dL_isSo_630 (lv_at hl 5 rfl) ?_
                                              refine V.icmp_ne (tgt := 678) F dL_isSo_632 (by decide) (fun c139 => ?_) (fun c139 => ?_)
                                              · skip
                                                subst e18 e21 e24 e27 e33 e38 e41 e44 e50 e96 e100 e121 e125 e130 e133 e136; exact absurd rfl c139
                                              · skip
                                                refine V.aload_n F dL_isSo_635 rfl (lv_at hl 7 rfl) ?_
                                                refine V.aload_n F dL_isSo_636 rfl (lv_at hl 9 rfl) ?_
                                                refine V.iconst (v := nI 4) F dL_isSo_637 (by decide) ?_
                                                refine V.iadn (i := 4) F hE 0 rfl (by omega) (by omega) dL_isSo_638 (fun z140 e140 => ?_)
                                                obtain rfl : (nI C) = z140 := (e140.trans hJ.q4).symm
                                                refine V.iconst (v := nI 0) F dL_isSo_639 (by decide) ?_
                                                refine V.toGV hD0 ?_
                                                refine GV.gx (wa := [rw_ E u1 10 qs, rw_ E u2 8 zs, rw_ E u3 8 fo, rw_ E u4 8 ts, rw_ E u5 40 rs, rw_ E u6 12 hs, rw_ E u7 10 cs]) (wb := []) F hG hA (w_L_refusal_e1 l E (c_X6_refusal_t1 l E (x := nI C) (p := nI 0) (so_t hJ) hst)) (kx_refusal F.2.2.2.2 ⟨Nat.le_of_ble_eq_true rfl, Nat.le_of_ble_eq_true rfl⟩) (by rw [List.append_nil]) rfl hl.1 (Nat.le_of_ble_eq_true rfl) ⟨Nat.le_of_ble_eq_true rfl, Nat.le_of_ble_eq_true rfl⟩ dL_isSo_640 rfl ?_
                                                refine GV.weq (ws' := ([rw_ E u1 10 qs, rw_ E u2 8 zs, rw_ E u3 8 fo, rw_ E u4 8 ts, rw_ E u5 40 rs, rw_ E u6 12 hs, rw_ E u7 10 cs] ++ dW E d v0 v1 t u n m r a g f)) (by rw [List.append_nil]) ?_
                                                refine GW.bipush (v := (-101)) F dL_isSo_643 (by decide) ?_
                                                refine GW.icmp_ne (tgt := 678) F dL_isSo_645 (by decide) (fun h => absurd rfl h) (fun _ => ?_)
                                                refine GW.aload_n F dL_isSo_648 rfl (lv_at hl 7 rfl) ?_
                                                refine GV.rdV (q0 := 7) (wa := [rw_ E u1 10 qs, rw_ E u2 8 zs, rw_ E u3 8 fo, rw_ E u4 8 ts, rw_ E u5 40 rs, rw_ E u6 12 hs, rw_ E u7 10 cs]) (wb := []) F hG (c_X6_shotShare l E (so_nn hJ)) (kL_127 F.2.2.2.2 ⟨Nat.le_of_ble_eq_true rfl, Nat.le_of_ble_eq_true rfl⟩) rfl rfl (by rw [List.append_nil]) rfl hl.1 (Nat.le_of_ble_eq_true rfl) ⟨Nat.le_of_ble_eq_true rfl, Nat.le_of_ble_eq_true rfl⟩ dL_isSo_649 rfl ?_
                                                refine GW.aload_n F dL_isSo_652 rfl (lv_at hl 9 rfl) ?_
                                                refine GW.iconst (v := nI 4) F dL_isSo_653 (by decide) ?_
                                                refine GW.iadn (i := 4) F hG 0 rfl (by decide) (by decide) dL_isSo_654 (fun zz ez => ?_)
                                                rw [hJ.q4] at ez
                                                subst ez
                                                by_cases hC0 : C = 0
                                                · refine GW.if_ne (tgt := 662) F dL_isSo_655 (by decide) (fun h => absurd (by rw [hC0]; rfl) h) (fun _ => ?_)
                                                  refine GW.dconst1 F dL_isSo_658 ?_
                                                  refine GW.goto (tgt := 670) F dL_isSo_659 (by decide) ?_
                                                  rw [so_sh0 hJ hC0]
                                                  refine GW.dcmp F dL_isSo_670 (fun zd ed => ?_)
                                                  refine GW.if_ne (tgt := 678) F dL_isSo_671 (by decide) (fun h => absurd (ed.trans (shb_ok sh_1).2) h) (fun _ => ?_)
                                                  refine GW.iconst (v := nI 1) F dL_isSo_674 (by decide) ?_
                                                  refine GW.goto (tgt := 679) F dL_isSo_675 (by decide) ?_
                                                  exact GV.zret F hr hk rfl rfl rfl (Nat.le_of_ble_eq_true rfl) (Nat.le_of_ble_eq_true rfl) dL_isSo_679
                                                · refine GW.if_ne (tgt := 662) F dL_isSo_655 (by decide) (fun _ => ?_) (fun h => absurd h (nI_ne0 (by omega) (by omega)))
                                                  refine GW.iload F dL_isSo_662 (lv_at hl 6 rfl) ?_
                                                  refine GW.i2d F dL_isSo_664 (fun za ea => ?_)
                                                  refine GW.aload_n F dL_isSo_665 rfl (lv_at hl 9 rfl) ?_
                                                  refine GW.iconst (v := nI 4) F dL_isSo_666 (by decide) ?_
                                                  refine GW.iadn (i := 4) F hG 0 rfl (by decide) (by decide) dL_isSo_667 (fun zz ez => ?_)
                                                  rw [hJ.q4] at ez
                                                  subst ez
                                                  refine GW.i2d F dL_isSo_668 (fun zb eb => ?_)
                                                  subst ea
                                                  subst eb
                                                  refine GW.ddiv F dL_isSo_669 (so_K hJ hC0).1 (fun zd ed => ?_)
                                                  subst ed
                                                  rw [so_sh1 hJ hC0]
                                                  refine GW.dcmp F dL_isSo_670 (fun zd ed => ?_)
                                                  refine GW.if_ne (tgt := 678) F dL_isSo_671 (by decide) (fun h => absurd (ed.trans (so_K hJ hC0).2) h) (fun _ => ?_)
                                                  refine GW.iconst (v := nI 1) F dL_isSo_674 (by decide) ?_
                                                  refine GW.goto (tgt := 679) F dL_isSo_675 (by decide) ?_
                                                  exact GV.zret F hr hk rfl rfl rfl (Nat.le_of_ble_eq_true rfl) (Nat.le_of_ble_eq_true rfl) dL_isSo_679
                  · skip
                    subst e18 e21 e24 e27 e33; exact absurd ((so_las hJ).mpr c34) c32
                · skip
                  refine V.iconst (v := nI 1) F dL_isSo_416 (by decide) ?_
                  refine V.goto (tgt := 421) F dL_isSo_417 (by decide) ?_
                  refine V.iload F dL_isSo_421 (lv_at hl 4 rfl) ?_
                  refine V.aload_n F dL_isSo_423 rfl (lv_at hl 9 rfl) ?_
                  refine V.aload F dL_isSo_424 (lv_at hl 14 rfl) ?_
                  refine V.rdS F hE (c_L_hurtParts l E hJ.q9 hJ.bd.2.2.1) (kL_66 F.2.2.2.2 ⟨Nat.le_of_ble_eq_true rfl, Nat.le_of_ble_eq_true rfl⟩) [0, 5] rfl rfl hl.1 (Nat.le_of_ble_eq_true rfl) dL_isSo_426 rfl ?_
                  refine V.topi (fun z141 e141 => ?_)
                  refine V.if_ne (tgt := 436) F dL_isSo_429 (by decide) (fun c142 => ?_) (fun c142 => ?_)
                  · skip
                    subst e18 e21 e24 e27 e141; exact absurd ((so_las hJ).mp c32) c142
                  · skip
                    refine V.iconst (v := nI 1) F dL_isSo_432 (by decide) ?_
                    refine V.goto (tgt := 437) F dL_isSo_433 (by decide) ?_
                    refine V.icmp_ne (tgt := 444) F dL_isSo_437 (by decide) (fun h => absurd h (by decide)) (fun _ => ?_)
                    refine V.iconst (v := nI 1) F dL_isSo_440 (by decide) ?_
                    refine V.goto (tgt := 445) F dL_isSo_441 (by decide) ?_
                    refine V.istore (lv' := [(15, .int (nI 1)), (14, .int (brL (hpL hs (qs 0) (nI (lowN y 8)) H) 6)), (13, .int (nI (1 + (lowN (shx y 6) 5)))), (12, .int (nI (lowN (shx y 3) 6))), (11, .int (nI (lowN y 8))), (10, .int (opL qs zs fo rs hs cs H R C)), (9, .int (shL cs C)), (0, .ref d), (1, .int y), (2, .ref u1), (3, .ref u2), (4, .ref u3), (5, .ref u4), (6, .ref u5), (7, .ref u6), (8, .ref u7)]) F dL_isSo_445 hl (by decide) rfl (fun ls hl => ?_)
                    refine V.iload F dL_isSo_447 (lv_at hl 0 rfl) ?_
                    refine V.if_eq (tgt := 557) F dL_isSo_449 (by decide) (fun h => absurd h (by decide)) (fun _ => ?_)
                    refine V.aload_n F dL_isSo_452 rfl (lv_at hl 7 rfl) ?_
                    refine V.iload F dL_isSo_453 (lv_at hl 4 rfl) ?_
                    refine V.iload F dL_isSo_455 (lv_at hl 3 rfl) ?_
                    refine V.iload F dL_isSo_457 (lv_at hl 2 rfl) ?_
                    refine V.rdX F hE (c_L_rehearsed l E (nI_r (M := 7) rfl (by decide) (by omega)) (nI_r (M := 5) rfl (by decide) (by omega)) (nI_r1 (M := 5) rfl (by decide) (by omega) (by omega))) (kx_rehearsed F.2.2.2.2 ⟨Nat.le_of_ble_eq_true rfl, Nat.le_of_ble_eq_true rfl⟩) 7 22 (by rfl) rfl hl.1 (Nat.le_of_ble_eq_true rfl) dL_isSo_459 rfl ?_
                    refine V.topi (fun z145 e145 => ?_)
                    obtain rfl : (cnL rs (qs 0) (nI (lowN y 8)) (nI (lowN (shx y 3) 6)) (nI (1 + lowN (shx y 6) 5)) R) = z145 := (e145.trans (cntS_eq hJ hp8 hk6 _)).symm
                    refine V.iload F dL_isSo_462 (lv_at hl 4 rfl) ?_
                    refine V.iload F dL_isSo_464 (lv_at hl 3 rfl) ?_
                    refine V.iload F dL_isSo_466 (lv_at hl 2 rfl) ?_
                    refine V.aload_n F dL_isSo_468 rfl (lv_at hl 9 rfl) ?_
                    refine V.aload F dL_isSo_469 (lv_at hl 13 rfl) ?_
                    refine V.rdS F hE (c_L_counting l E hJ.q8 hJ.bd.2.1) (kL_73 F.2.2.2.2 ⟨Nat.le_of_ble_eq_true rfl, Nat.le_of_ble_eq_true rfl⟩) [0, 4] rfl rfl hl.1 (Nat.le_of_ble_eq_true rfl) dL_isSo_471 rfl ?_
                    refine V.topi (fun z146 e146 => ?_)
                    refine V.icmp_ne (tgt := 557) F dL_isSo_474 (by decide) (fun c147 => ?_) (fun c147 => ?_)
                    · skip
                      subst e18 e21 e24 e27 e141 e146; exact absurd rfl c147
                    · skip
                      refine V.aload_n F dL_isSo_477 rfl (lv_at hl 7 rfl) ?_
                      refine V.iconst (v := nI 0) F dL_isSo_478 (by decide) ?_
                      refine V.rdX F hE (c_L_count l E (nI_r (M := 10) rfl (by decide) (by decide))) (kx_count F.2.2.2.2 ⟨Nat.le_of_ble_eq_true rfl, Nat.le_of_ble_eq_true rfl⟩) 7 22 (by rfl) rfl hl.1 (Nat.le_of_ble_eq_true rfl) dL_isSo_479 rfl ?_
                      refine V.topi (fun z148 e148 => ?_)
                      obtain rfl : (qs 0) = z148 := (e148.trans (so_c0 hJ)).symm
                      refine V.aload_n F dL_isSo_482 rfl (lv_at hl 9 rfl) ?_
                      refine V.iconst (v := nI 0) F dL_isSo_483 (by decide) ?_
                      refine V.iadn (i := 0) F hE 0 rfl (by omega) (by omega) dL_isSo_484 (fun z149 e149 => ?_)
                      refine V.icmp_ne (tgt := 557) F dL_isSo_485 (by decide) (fun c150 => ?_) (fun c150 => ?_)
                      · skip
                        subst e18 e21 e24 e27 e141 e146 e149; exact absurd rfl c150
                      · skip
                        refine V.aload_n F dL_isSo_488 rfl (lv_at hl 7 rfl) ?_
                        refine V.iconst (v := nI 1) F dL_isSo_489 (by decide) ?_
                        refine V.rdX F hE (c_L_count l E (nI_r (M := 10) rfl (by decide) (by decide))) (kx_count F.2.2.2.2 ⟨Nat.le_of_ble_eq_true rfl, Nat.le_of_ble_eq_true rfl⟩) 7 22 (by rfl) rfl hl.1 (Nat.le_of_ble_eq_true rfl) dL_isSo_490 rfl ?_
                        refine V.topi (fun z151 e151 => ?_)
                        obtain rfl : (qs 1) = z151 := (e151.trans (so_c1 hJ)).symm
                        refine V.aload_n F dL_isSo_493 rfl (lv_at hl 9 rfl) ?_
                        refine V.iconst (v := nI 1) F dL_isSo_494 (by decide) ?_
                        refine V.iadn (i := 1) F hE 0 rfl (by omega) (by omega) dL_isSo_495 (fun z152 e152 => ?_)
                        refine V.icmp_ne (tgt := 557) F dL_isSo_496 (by decide) (fun c153 => ?_) (fun c153 => ?_)
                        · skip
                          subst e18 e21 e24 e27 e141 e146 e149 e152; exact absurd rfl c153
                        · skip
                          refine V.aload_n F dL_isSo_499 rfl (lv_at hl 9 rfl) ?_
                          refine V.iconst (v := nI 1) F dL_isSo_500 (by decide) ?_
                          refine V.iadn (i := 1) F hE 0 rfl (by omega) (by omega) dL_isSo_501 (fun z154 e154 => ?_)
                          obtain rfl : (qs 1) = z154 := (e154.trans rfl).symm
                          refine V.if_lt (tgt := 557) F dL_isSo_502 (by decide) (fun c155 c155' => ?_) (fun c155 c155' => ?_)
                          · skip
                            exact absurd c155 (so_1 hJ)
                          · skip
                            refine V.aload_n F dL_isSo_505 rfl (lv_at hl 7 rfl) ?_
                            refine V.iconst (v := nI 2) F dL_isSo_506 (by decide) ?_
                            refine V.rdX F hE (c_L_count l E (nI_r (M := 10) rfl (by decide) (by decide))) (kx_count F.2.2.2.2 ⟨Nat.le_of_ble_eq_true rfl, Nat.le_of_ble_eq_true rfl⟩) 7 22 (by rfl) rfl hl.1 (Nat.le_of_ble_eq_true rfl) dL_isSo_507 rfl ?_
                            refine V.topi (fun z156 e156 => ?_)
                            obtain rfl : (if qs 0 ≤ qs 3 then qs 2 else nI 0) = z156 := (e156.trans (so_c2 hJ)).symm
                            refine V.aload_n F dL_isSo_510 rfl (lv_at hl 9 rfl) ?_
                            refine V.iconst (v := nI 0) F dL_isSo_511 (by decide) ?_
                            refine V.iadn (i := 0) F hE 0 rfl (by omega) (by omega) dL_isSo_512 (fun z157 e157 => ?_)
                            obtain rfl : (qs 0) = z157 := (e157.trans rfl).symm
                            refine V.aload_n F dL_isSo_513 rfl (lv_at hl 9 rfl) ?_
                            refine V.iconst (v := nI 3) F dL_isSo_514 (by decide) ?_
                            refine V.iadn (i := 3) F hE 0 rfl (by omega) (by omega) dL_isSo_515 (fun z158 e158 => ?_)
                            refine V.icmp_gt (tgt := 525) F dL_isSo_516 (by decide) (fun c159 c159' => ?_) (fun c159 c159' => ?_)
                            · skip
                              refine V.iconst (v := nI 0) F dL_isSo_525 (by decide) ?_
                              refine V.icmp_ne (tgt := 557) F dL_isSo_526 (by decide) (fun c160 => ?_) (fun c160 => ?_)
                              · skip
                                subst e18 e21 e24 e27 e141 e146 e149 e152 e158; exact absurd (if_neg c159') c160
                              · skip
                                refine V.aload_n F dL_isSo_529 rfl (lv_at hl 7 rfl) ?_
                                refine V.iconst (v := nI 3) F dL_isSo_530 (by decide) ?_
                                refine V.rdX F hE (c_L_count l E (nI_r (M := 10) rfl (by decide) (by decide))) (kx_count F.2.2.2.2 ⟨Nat.le_of_ble_eq_true rfl, Nat.le_of_ble_eq_true rfl⟩) 7 22 (by rfl) rfl hl.1 (Nat.le_of_ble_eq_true rfl) dL_isSo_531 rfl ?_
                                refine V.topi (fun z161 e161 => ?_)
                                obtain rfl : (if qs 0 ≤ qs 3 then qs 3 else -1) = z161 := (e161.trans (so_c3 hJ)).symm
                                refine V.aload_n F dL_isSo_534 rfl (lv_at hl 9 rfl) ?_
                                refine V.iconst (v := nI 0) F dL_isSo_535 (by decide) ?_
                                refine V.iadn (i := 0) F hE 0 rfl (by omega) (by omega) dL_isSo_536 (fun z162 e162 => ?_)
                                obtain rfl : (qs 0) = z162 := (e162.trans rfl).symm
                                refine V.aload_n F dL_isSo_537 rfl (lv_at hl 9 rfl) ?_
                                refine V.iconst (v := nI 3) F dL_isSo_538 (by decide) ?_
                                refine V.iadn (i := 3) F hE 0 rfl (by omega) (by omega) dL_isSo_539 (fun z163 e163 => ?_)
                                refine V.icmp_gt (tgt := 549) F dL_isSo_540 (by decide) (fun c164 c164' => ?_) (fun c164 c164' => ?_)
                                · skip
                                  refine V.iconst (v := (-1)) F dL_isSo_549 (by decide) ?_
                                  refine V.icmp_ne (tgt := 557) F dL_isSo_550 (by decide) (fun c165 => ?_) (fun c165 => ?_)
                                  · skip
                                    subst e18 e21 e24 e27 e141 e146 e149 e152 e158 e163; exact absurd (if_neg c164') c165
                                  · skip
                                    refine V.iconst (v := nI 1) F dL_isSo_553 (by decide) ?_
                                    refine V.goto (tgt := 558) F dL_isSo_554 (by decide) ?_
                                    refine V.istore (lv' := [(15, .int (nI 1)), (14, .int (brL (hpL hs (qs 0) (nI (lowN y 8)) H) 6)), (13, .int (nI (1 + (lowN (shx y 6) 5)))), (12, .int (nI (lowN (shx y 3) 6))), (11, .int (nI (lowN y 8))), (10, .int (opL qs zs fo rs hs cs H R C)), (9, .int (shL cs C)), (0, .ref d), (1, .int y), (2, .ref u1), (3, .ref u2), (4, .ref u3), (5, .ref u4), (6, .ref u5), (7, .ref u6), (8, .ref u7)]) F dL_isSo_558 hl (by decide) rfl (fun ls hl => ?_)
                                    refine V.iload F dL_isSo_560 (lv_at hl 0 rfl) ?_
                                    refine V.if_eq (tgt := 678) F dL_isSo_562 (by decide) (fun h => absurd h (by decide)) (fun _ => ?_)
                                    refine V.aload_n F dL_isSo_565 rfl (lv_at hl 7 rfl) ?_
                                    refine V.iconst (v := nI 4) F dL_isSo_566 (by decide) ?_
                                    refine V.rdX F hE (c_L_count l E (nI_r (M := 10) rfl (by decide) (by decide))) (kx_count F.2.2.2.2 ⟨Nat.le_of_ble_eq_true rfl, Nat.le_of_ble_eq_true rfl⟩) 7 22 (by rfl) rfl hl.1 (Nat.le_of_ble_eq_true rfl) dL_isSo_567 rfl ?_
                                    refine V.topi (fun z167 e167 => ?_)
                                    obtain rfl : (qs 4) = z167 := (e167.trans (so_c4 hJ)).symm
                                    refine V.aload_n F dL_isSo_570 rfl (lv_at hl 9 rfl) ?_
                                    refine V.iconst (v := nI 4) F dL_isSo_571 (by decide) ?_
                                    refine V.iadn (i := 4) F hE 0 rfl (by omega) (by omega) dL_isSo_572 (fun z168 e168 => ?_)
                                    refine V.icmp_ne (tgt := 678) F dL_isSo_573 (by decide) (fun c169 => ?_) (fun c169 => ?_)
                                    · skip
                                      subst e18 e21 e24 e27 e141 e146 e149 e152 e158 e163 e168; exact absurd rfl c169
                                    · skip
                                      refine V.aload_n F dL_isSo_576 rfl (lv_at hl 7 rfl) ?_
                                      refine V.iconst (v := nI 5) F dL_isSo_577 (by decide) ?_
                                      refine V.rdX F hE (c_L_count l E (nI_r (M := 10) rfl (by decide) (by decide))) (kx_count F.2.2.2.2 ⟨Nat.le_of_ble_eq_true rfl, Nat.le_of_ble_eq_true rfl⟩) 7 22 (by rfl) rfl hl.1 (Nat.le_of_ble_eq_true rfl) dL_isSo_578 rfl ?_
                                      refine V.topi (fun z170 e170 => ?_)
                                      obtain rfl : (shL cs C) = z170 := (e170.trans (so_c5 hJ)).symm
                                      refine V.iload F dL_isSo_581 (lv_at hl 6 rfl) ?_
                                      refine V.icmp_ne (tgt := 678) F dL_isSo_583 (by decide) (fun c171 => ?_) (fun c171 => ?_)
                                      · skip
                                        subst e18 e21 e24 e27 e141 e146 e149 e152 e158 e163 e168; exact absurd rfl c171
                                      · skip
                                        refine V.aload_n F dL_isSo_586 rfl (lv_at hl 7 rfl) ?_
                                        refine V.bipush (v := nI 6) F dL_isSo_587 (by decide) ?_
                                        refine V.rdX F hE (c_L_count l E (nI_r (M := 10) rfl (by decide) (by decide))) (kx_count F.2.2.2.2 ⟨Nat.le_of_ble_eq_true rfl, Nat.le_of_ble_eq_true rfl⟩) 7 22 (by rfl) rfl hl.1 (Nat.le_of_ble_eq_true rfl) dL_isSo_589 rfl ?_
                                        refine V.topi (fun z172 e172 => ?_)
                                        obtain rfl : (qs 5) = z172 := (e172.trans (so_c6 hJ)).symm
                                        refine V.aload_n F dL_isSo_592 rfl (lv_at hl 9 rfl) ?_
                                        refine V.iconst (v := nI 5) F dL_isSo_593 (by decide) ?_
                                        refine V.iadn (i := 5) F hE 0 rfl (by omega) (by omega) dL_isSo_594 (fun z173 e173 => ?_)
                                        refine V.icmp_ne (tgt := 678) F dL_isSo_595 (by decide) (fun c174 => ?_) (fun c174 => ?_)
                                        · skip
                                          subst e18 e21 e24 e27 e141 e146 e149 e152 e158 e163 e168 e173; exact absurd rfl c174
                                        · skip
                                          refine V.aload_n F dL_isSo_598 rfl (lv_at hl 7 rfl) ?_
                                          refine V.bipush (v := nI 7) F dL_isSo_599 (by decide) ?_
                                          refine V.rdX F hE (c_L_count l E (nI_r (M := 10) rfl (by decide) (by decide))) (kx_count F.2.2.2.2 ⟨Nat.le_of_ble_eq_true rfl, Nat.le_of_ble_eq_true rfl⟩) 7 22 (by rfl) rfl hl.1 (Nat.le_of_ble_eq_true rfl) dL_isSo_601 rfl ?_
                                          refine V.topi (fun z175 e175 => ?_)
                                          obtain rfl : (qs 6) = z175 := (e175.trans (so_c7 hJ)).symm
                                          refine V.aload_n F dL_isSo_604 rfl (lv_at hl 9 rfl) ?_
                                          refine V.bipush (v := nI 6) F dL_isSo_605 (by decide) ?_
                                          refine V.iadn (i := 6) F hE 0 rfl (by omega) (by omega) dL_isSo_607 (fun z176 e176 => ?_)
                                          refine V.icmp_ne (tgt := 678) F dL_isSo_608 (by decide) (fun c177 => ?_) (fun c177 => ?_)
                                          · skip
                                            subst e18 e21 e24 e27 e141 e146 e149 e152 e158 e163 e168 e173 e176; exact absurd rfl c177
                                          · skip
                                            refine V.aload_n F dL_isSo_611 rfl (lv_at hl 7 rfl) ?_
                                            refine V.bipush (v := nI 8) F dL_isSo_612 (by decide) ?_
                                            refine V.rdX F hE (c_L_count l E (nI_r (M := 10) rfl (by decide) (by decide))) (kx_count F.2.2.2.2 ⟨Nat.le_of_ble_eq_true rfl, Nat.le_of_ble_eq_true rfl⟩) 7 22 (by rfl) rfl hl.1 (Nat.le_of_ble_eq_true rfl) dL_isSo_614 rfl ?_
                                            refine V.topi (fun z178 e178 => ?_)
                                            obtain rfl : (qs 7) = z178 := (e178.trans (so_c8 hJ)).symm
                                            refine V.aload_n F dL_isSo_617 rfl (lv_at hl 9 rfl) ?_
                                            refine V.bipush (v := nI 7) F dL_isSo_618 (by decide) ?_
                                            refine V.iadn (i := 7) F hE 0 rfl (by omega) (by omega) dL_isSo_620 (fun z179 e179 => ?_)
                                            refine V.icmp_ne (tgt := 678) F dL_isSo_621 (by decide) (fun c180 => ?_) (fun c180 => ?_)
                                            · skip
                                              subst e18 e21 e24 e27 e141 e146 e149 e152 e158 e163 e168 e173 e176 e179; exact absurd rfl c180
                                            · skip
                                              refine V.aload_n F dL_isSo_624 rfl (lv_at hl 7 rfl) ?_
                                              refine V.bipush (v := nI 9) F dL_isSo_625 (by decide) ?_
                                              refine V.rdX F hE (c_L_count l E (nI_r (M := 10) rfl (by decide) (by decide))) (kx_count F.2.2.2.2 ⟨Nat.le_of_ble_eq_true rfl, Nat.le_of_ble_eq_true rfl⟩) 7 22 (by rfl) rfl hl.1 (Nat.le_of_ble_eq_true rfl) dL_isSo_627 rfl ?_
                                              refine V.topi (fun z181 e181 => ?_)
                                              obtain rfl : (opL qs zs fo rs hs cs H R C) = z181 := (e181.trans (so_c9 hJ)).symm
                                              refine V.iload F dL_isSo_630 (lv_at hl 5 rfl) ?_
                                              refine V.icmp_ne (tgt := 678) F dL_isSo_632 (by decide) (fun c182 => ?_) (fun c182 => ?_)
                                              · skip
                                                subst e18 e21 e24 e27 e141 e146 e149 e152 e158 e163 e168 e173 e176 e179; exact absurd rfl c182
                                              · skip
                                                refine V.aload_n F dL_isSo_635 rfl (lv_at hl 7 rfl) ?_
                                                refine V.aload_n F dL_isSo_636 rfl (lv_at hl 9 rfl) ?_
                                                refine V.iconst (v := nI 4) F dL_isSo_637 (by decide) ?_
                                                refine V.iadn (i := 4) F hE 0 rfl (by omega) (by omega) dL_isSo_638 (fun z183 e183 => ?_)
                                                obtain rfl : (nI C) = z183 := (e183.trans hJ.q4).symm
                                                refine V.iconst (v := nI 0) F dL_isSo_639 (by decide) ?_
                                                refine V.toGV hD0 ?_
                                                refine GV.gx (wa := [rw_ E u1 10 qs, rw_ E u2 8 zs, rw_ E u3 8 fo, rw_ E u4 8 ts, rw_ E u5 40 rs, rw_ E u6 12 hs, rw_ E u7 10 cs]) (wb := []) F hG hA (w_L_refusal_e1 l E (c_X6_refusal_t1 l E (x := nI C) (p := nI 0) (so_t hJ) hst)) (kx_refusal F.2.2.2.2 ⟨Nat.le_of_ble_eq_true rfl, Nat.le_of_ble_eq_true rfl⟩) (by rw [List.append_nil]) rfl hl.1 (Nat.le_of_ble_eq_true rfl) ⟨Nat.le_of_ble_eq_true rfl, Nat.le_of_ble_eq_true rfl⟩ dL_isSo_640 rfl ?_
                                                refine GV.weq (ws' := ([rw_ E u1 10 qs, rw_ E u2 8 zs, rw_ E u3 8 fo, rw_ E u4 8 ts, rw_ E u5 40 rs, rw_ E u6 12 hs, rw_ E u7 10 cs] ++ dW E d v0 v1 t u n m r a g f)) (by rw [List.append_nil]) ?_
                                                refine GW.bipush (v := (-101)) F dL_isSo_643 (by decide) ?_
                                                refine GW.icmp_ne (tgt := 678) F dL_isSo_645 (by decide) (fun h => absurd rfl h) (fun _ => ?_)
                                                refine GW.aload_n F dL_isSo_648 rfl (lv_at hl 7 rfl) ?_
                                                refine GV.rdV (q0 := 7) (wa := [rw_ E u1 10 qs, rw_ E u2 8 zs, rw_ E u3 8 fo, rw_ E u4 8 ts, rw_ E u5 40 rs, rw_ E u6 12 hs, rw_ E u7 10 cs]) (wb := []) F hG (c_X6_shotShare l E (so_nn hJ)) (kL_127 F.2.2.2.2 ⟨Nat.le_of_ble_eq_true rfl, Nat.le_of_ble_eq_true rfl⟩) rfl rfl (by rw [List.append_nil]) rfl hl.1 (Nat.le_of_ble_eq_true rfl) ⟨Nat.le_of_ble_eq_true rfl, Nat.le_of_ble_eq_true rfl⟩ dL_isSo_649 rfl ?_
                                                refine GW.aload_n F dL_isSo_652 rfl (lv_at hl 9 rfl) ?_
                                                refine GW.iconst (v := nI 4) F dL_isSo_653 (by decide) ?_
                                                refine GW.iadn (i := 4) F hG 0 rfl (by decide) (by decide) dL_isSo_654 (fun zz ez => ?_)
                                                rw [hJ.q4] at ez
                                                subst ez
                                                by_cases hC0 : C = 0
                                                · refine GW.if_ne (tgt := 662) F dL_isSo_655 (by decide) (fun h => absurd (by rw [hC0]; rfl) h) (fun _ => ?_)
                                                  refine GW.dconst1 F dL_isSo_658 ?_
                                                  refine GW.goto (tgt := 670) F dL_isSo_659 (by decide) ?_
                                                  rw [so_sh0 hJ hC0]
                                                  refine GW.dcmp F dL_isSo_670 (fun zd ed => ?_)
                                                  refine GW.if_ne (tgt := 678) F dL_isSo_671 (by decide) (fun h => absurd (ed.trans (shb_ok sh_1).2) h) (fun _ => ?_)
                                                  refine GW.iconst (v := nI 1) F dL_isSo_674 (by decide) ?_
                                                  refine GW.goto (tgt := 679) F dL_isSo_675 (by decide) ?_
                                                  exact GV.zret F hr hk rfl rfl rfl (Nat.le_of_ble_eq_true rfl) (Nat.le_of_ble_eq_true rfl) dL_isSo_679
                                                · refine GW.if_ne (tgt := 662) F dL_isSo_655 (by decide) (fun _ => ?_) (fun h => absurd h (nI_ne0 (by omega) (by omega)))
                                                  refine GW.iload F dL_isSo_662 (lv_at hl 6 rfl) ?_
                                                  refine GW.i2d F dL_isSo_664 (fun za ea => ?_)
                                                  refine GW.aload_n F dL_isSo_665 rfl (lv_at hl 9 rfl) ?_
                                                  refine GW.iconst (v := nI 4) F dL_isSo_666 (by decide) ?_
                                                  refine GW.iadn (i := 4) F hG 0 rfl (by decide) (by decide) dL_isSo_667 (fun zz ez => ?_)
                                                  rw [hJ.q4] at ez
                                                  subst ez
                                                  refine GW.i2d F dL_isSo_668 (fun zb eb => ?_)
                                                  subst ea
                                                  subst eb
                                                  refine GW.ddiv F dL_isSo_669 (so_K hJ hC0).1 (fun zd ed => ?_)
                                                  subst ed
                                                  rw [so_sh1 hJ hC0]
                                                  refine GW.dcmp F dL_isSo_670 (fun zd ed => ?_)
                                                  refine GW.if_ne (tgt := 678) F dL_isSo_671 (by decide) (fun h => absurd (ed.trans (so_K hJ hC0).2) h) (fun _ => ?_)
                                                  refine GW.iconst (v := nI 1) F dL_isSo_674 (by decide) ?_
                                                  refine GW.goto (tgt := 679) F dL_isSo_675 (by decide) ?_
                                                  exact GV.zret F hr hk rfl rfl rfl (Nat.le_of_ble_eq_true rfl) (Nat.le_of_ble_eq_true rfl) dL_isSo_679
                                · skip
                                  refine V.aload_n F dL_isSo_543 rfl (lv_at hl 9 rfl) ?_
                                  refine V.iconst (v := nI 3) F dL_isSo_544 (by decide) ?_
                                  refine V.iadn (i := 3) F hE 0 rfl (by omega) (by omega) dL_isSo_545 (fun z184 e184 => ?_)
                                  refine V.goto (tgt := 550) F dL_isSo_546 (by decide) ?_
                                  refine V.icmp_ne (tgt := 557) F dL_isSo_550 (by decide) (fun c185 => ?_) (fun c185 => ?_)
                                  · skip
                                    subst e18 e21 e24 e27 e141 e146 e149 e152 e158 e163 e184; exact absurd (if_pos c164') c185
                                  · skip
                                    refine V.iconst (v := nI 1) F dL_isSo_553 (by decide) ?_
                                    refine V.goto (tgt := 558) F dL_isSo_554 (by decide) ?_
                                    refine V.istore (lv' := [(15, .int (nI 1)), (14, .int (brL (hpL hs (qs 0) (nI (lowN y 8)) H) 6)), (13, .int (nI (1 + (lowN (shx y 6) 5)))), (12, .int (nI (lowN (shx y 3) 6))), (11, .int (nI (lowN y 8))), (10, .int (opL qs zs fo rs hs cs H R C)), (9, .int (shL cs C)), (0, .ref d), (1, .int y), (2, .ref u1), (3, .ref u2), (4, .ref u3), (5, .ref u4), (6, .ref u5), (7, .ref u6), (8, .ref u7)]) F dL_isSo_558 hl (by decide) rfl (fun ls hl => ?_)
                                    refine V.iload F dL_isSo_560 (lv_at hl 0 rfl) ?_
                                    refine V.if_eq (tgt := 678) F dL_isSo_562 (by decide) (fun h => absurd h (by decide)) (fun _ => ?_)
                                    refine V.aload_n F dL_isSo_565 rfl (lv_at hl 7 rfl) ?_
                                    refine V.iconst (v := nI 4) F dL_isSo_566 (by decide) ?_
                                    refine V.rdX F hE (c_L_count l E (nI_r (M := 10) rfl (by decide) (by decide))) (kx_count F.2.2.2.2 ⟨Nat.le_of_ble_eq_true rfl, Nat.le_of_ble_eq_true rfl⟩) 7 22 (by rfl) rfl hl.1 (Nat.le_of_ble_eq_true rfl) dL_isSo_567 rfl ?_
                                    refine V.topi (fun z187 e187 => ?_)
                                    obtain rfl : (qs 4) = z187 := (e187.trans (so_c4 hJ)).symm
                                    refine V.aload_n F dL_isSo_570 rfl (lv_at hl 9 rfl) ?_
                                    refine V.iconst (v := nI 4) F dL_isSo_571 (by decide) ?_
                                    refine V.iadn (i := 4) F hE 0 rfl (by omega) (by omega) dL_isSo_572 (fun z188 e188 => ?_)
                                    refine V.icmp_ne (tgt := 678) F dL_isSo_573 (by decide) (fun c189 => ?_) (fun c189 => ?_)
                                    · skip
                                      subst e18 e21 e24 e27 e141 e146 e149 e152 e158 e163 e184 e188; exact absurd rfl c189
                                    · skip
                                      refine V.aload_n F dL_isSo_576 rfl (lv_at hl 7 rfl) ?_
                                      refine V.iconst (v := nI 5) F dL_isSo_577 (by decide) ?_
                                      refine V.rdX F hE (c_L_count l E (nI_r (M := 10) rfl (by decide) (by decide))) (kx_count F.2.2.2.2 ⟨Nat.le_of_ble_eq_true rfl, Nat.le_of_ble_eq_true rfl⟩) 7 22 (by rfl) rfl hl.1 (Nat.le_of_ble_eq_true rfl) dL_isSo_578 rfl ?_
                                      refine V.topi (fun z190 e190 => ?_)
                                      obtain rfl : (shL cs C) = z190 := (e190.trans (so_c5 hJ)).symm
                                      refine V.iload F dL_isSo_581 (lv_at hl 6 rfl) ?_
                                      refine V.icmp_ne (tgt := 678) F dL_isSo_583 (by decide) (fun c191 => ?_) (fun c191 => ?_)
                                      · skip
                                        subst e18 e21 e24 e27 e141 e146 e149 e152 e158 e163 e184 e188; exact absurd rfl c191
                                      · skip
                                        refine V.aload_n F dL_isSo_586 rfl (lv_at hl 7 rfl) ?_
                                        refine V.bipush (v := nI 6) F dL_isSo_587 (by decide) ?_
                                        refine V.rdX F hE (c_L_count l E (nI_r (M := 10) rfl (by decide) (by decide))) (kx_count F.2.2.2.2 ⟨Nat.le_of_ble_eq_true rfl, Nat.le_of_ble_eq_true rfl⟩) 7 22 (by rfl) rfl hl.1 (Nat.le_of_ble_eq_true rfl) dL_isSo_589 rfl ?_
                                        refine V.topi (fun z192 e192 => ?_)
                                        obtain rfl : (qs 5) = z192 := (e192.trans (so_c6 hJ)).symm
                                        refine V.aload_n F dL_isSo_592 rfl (lv_at hl 9 rfl) ?_
                                        refine V.iconst (v := nI 5) F dL_isSo_593 (by decide) ?_
                                        refine V.iadn (i := 5) F hE 0 rfl (by omega) (by omega) dL_isSo_594 (fun z193 e193 => ?_)
                                        refine V.icmp_ne (tgt := 678) F dL_isSo_595 (by decide) (fun c194 => ?_) (fun c194 => ?_)
                                        · skip
                                          subst e18 e21 e24 e27 e141 e146 e149 e152 e158 e163 e184 e188 e193; exact absurd rfl c194
                                        · skip
                                          refine V.aload_n F dL_isSo_598 rfl (lv_at hl 7 rfl) ?_
                                          refine V.bipush (v := nI 7) F dL_isSo_599 (by decide) ?_
                                          refine V.rdX F hE (c_L_count l E (nI_r (M := 10) rfl (by decide) (by decide))) (kx_count F.2.2.2.2 ⟨Nat.le_of_ble_eq_true rfl, Nat.le_of_ble_eq_true rfl⟩) 7 22 (by rfl) rfl hl.1 (Nat.le_of_ble_eq_true rfl) dL_isSo_601 rfl ?_
                                          refine V.topi (fun z195 e195 => ?_)
                                          obtain rfl : (qs 6) = z195 := (e195.trans (so_c7 hJ)).symm
                                          refine V.aload_n F dL_isSo_604 rfl (lv_at hl 9 rfl) ?_
                                          refine V.bipush (v := nI 6) F dL_isSo_605 (by decide) ?_
                                          refine V.iadn (i := 6) F hE 0 rfl (by omega) (by omega) dL_isSo_607 (fun z196 e196 => ?_)
                                          refine V.icmp_ne (tgt := 678) F dL_isSo_608 (by decide) (fun c197 => ?_) (fun c197 => ?_)
                                          · skip
                                            subst e18 e21 e24 e27 e141 e146 e149 e152 e158 e163 e184 e188 e193 e196; exact absurd rfl c197
                                          · skip
                                            refine V.aload_n F dL_isSo_611 rfl (lv_at hl 7 rfl) ?_
                                            refine V.bipush (v := nI 8) F dL_isSo_612 (by decide) ?_
                                            refine V.rdX F hE (c_L_count l E (nI_r (M := 10) rfl (by decide) (by decide))) (kx_count F.2.2.2.2 ⟨Nat.le_of_ble_eq_true rfl, Nat.le_of_ble_eq_true rfl⟩) 7 22 (by rfl) rfl hl.1 (Nat.le_of_ble_eq_true rfl) dL_isSo_614 rfl ?_
                                            refine V.topi (fun z198 e198 => ?_)
                                            obtain rfl : (qs 7) = z198 := (e198.trans (so_c8 hJ)).symm
                                            refine V.aload_n F dL_isSo_617 rfl (lv_at hl 9 rfl) ?_
                                            refine V.bipush (v := nI 7) F dL_isSo_618 (by decide) ?_
                                            refine V.iadn (i := 7) F hE 0 rfl (by omega) (by omega) dL_isSo_620 (fun z199 e199 => ?_)
                                            refine V.icmp_ne (tgt := 678) F dL_isSo_621 (by decide) (fun c200 => ?_) (fun c200 => ?_)
                                            · skip
                                              subst e18 e21 e24 e27 e141 e146 e149 e152 e158 e163 e184 e188 e193 e196 e199; exact absurd rfl c200
                                            · skip
                                              refine V.aload_n F dL_isSo_624 rfl (lv_at hl 7 rfl) ?_
                                              refine V.bipush (v := nI 9) F dL_isSo_625 (by decide) ?_
                                              refine V.rdX F hE (c_L_count l E (nI_r (M := 10) rfl (by decide) (by decide))) (kx_count F.2.2.2.2 ⟨Nat.le_of_ble_eq_true rfl, Nat.le_of_ble_eq_true rfl⟩) 7 22 (by rfl) rfl hl.1 (Nat.le_of_ble_eq_true rfl) dL_isSo_627 rfl ?_
                                              refine V.topi (fun z201 e201 => ?_)
                                              obtain rfl : (opL qs zs fo rs hs cs H R C) = z201 := (e201.trans (so_c9 hJ)).symm
                                              refine V.iload F dL_isSo_630 (lv_at hl 5 rfl) ?_
                                              refine V.icmp_ne (tgt := 678) F dL_isSo_632 (by decide) (fun c202 => ?_) (fun c202 => ?_)
                                              · skip
                                                subst e18 e21 e24 e27 e141 e146 e149 e152 e158 e163 e184 e188 e193 e196 e199; exact absurd rfl c202
                                              · skip
                                                refine V.aload_n F dL_isSo_635 rfl (lv_at hl 7 rfl) ?_
                                                refine V.aload_n F dL_isSo_636 rfl (lv_at hl 9 rfl) ?_
                                                refine V.iconst (v := nI 4) F dL_isSo_637 (by decide) ?_
                                                refine V.iadn (i := 4) F hE 0 rfl (by omega) (by omega) dL_isSo_638 (fun z203 e203 => ?_)
                                                obtain rfl : (nI C) = z203 := (e203.trans hJ.q4).symm
                                                refine V.iconst (v := nI 0) F dL_isSo_639 (by decide) ?_
                                                refine V.toGV hD0 ?_
                                                refine GV.gx (wa := [rw_ E u1 10 qs, rw_ E u2 8 zs, rw_ E u3 8 fo, rw_ E u4 8 ts, rw_ E u5 40 rs, rw_ E u6 12 hs, rw_ E u7 10 cs]) (wb := []) F hG hA (w_L_refusal_e1 l E (c_X6_refusal_t1 l E (x := nI C) (p := nI 0) (so_t hJ) hst)) (kx_refusal F.2.2.2.2 ⟨Nat.le_of_ble_eq_true rfl, Nat.le_of_ble_eq_true rfl⟩) (by rw [List.append_nil]) rfl hl.1 (Nat.le_of_ble_eq_true rfl) ⟨Nat.le_of_ble_eq_true rfl, Nat.le_of_ble_eq_true rfl⟩ dL_isSo_640 rfl ?_
                                                refine GV.weq (ws' := ([rw_ E u1 10 qs, rw_ E u2 8 zs, rw_ E u3 8 fo, rw_ E u4 8 ts, rw_ E u5 40 rs, rw_ E u6 12 hs, rw_ E u7 10 cs] ++ dW E d v0 v1 t u n m r a g f)) (by rw [List.append_nil]) ?_
                                                refine GW.bipush (v := (-101)) F dL_isSo_643 (by decide) ?_
                                                refine GW.icmp_ne (tgt := 678) F dL_isSo_645 (by decide) (fun h => absurd rfl h) (fun _ => ?_)
                                                refine GW.aload_n F dL_isSo_648 rfl (lv_at hl 7 rfl) ?_
                                                refine GV.rdV (q0 := 7) (wa := [rw_ E u1 10 qs, rw_ E u2 8 zs, rw_ E u3 8 fo, rw_ E u4 8 ts, rw_ E u5 40 rs, rw_ E u6 12 hs, rw_ E u7 10 cs]) (wb := []) F hG (c_X6_shotShare l E (so_nn hJ)) (kL_127 F.2.2.2.2 ⟨Nat.le_of_ble_eq_true rfl, Nat.le_of_ble_eq_true rfl⟩) rfl rfl (by rw [List.append_nil]) rfl hl.1 (Nat.le_of_ble_eq_true rfl) ⟨Nat.le_of_ble_eq_true rfl, Nat.le_of_ble_eq_true rfl⟩ dL_isSo_649 rfl ?_
                                                refine GW.aload_n F dL_isSo_652 rfl (lv_at hl 9 rfl) ?_
                                                refine GW.iconst (v := nI 4) F dL_isSo_653 (by decide) ?_
                                                refine GW.iadn (i := 4) F hG 0 rfl (by decide) (by decide) dL_isSo_654 (fun zz ez => ?_)
                                                rw [hJ.q4] at ez
                                                subst ez
                                                by_cases hC0 : C = 0
                                                · refine GW.if_ne (tgt := 662) F dL_isSo_655 (by decide) (fun h => absurd (by rw [hC0]; rfl) h) (fun _ => ?_)
                                                  refine GW.dconst1 F dL_isSo_658 ?_
                                                  refine GW.goto (tgt := 670) F dL_isSo_659 (by decide) ?_
                                                  rw [so_sh0 hJ hC0]
                                                  refine GW.dcmp F dL_isSo_670 (fun zd ed => ?_)
                                                  refine GW.if_ne (tgt := 678) F dL_isSo_671 (by decide) (fun h => absurd (ed.trans (shb_ok sh_1).2) h) (fun _ => ?_)
                                                  refine GW.iconst (v := nI 1) F dL_isSo_674 (by decide) ?_
                                                  refine GW.goto (tgt := 679) F dL_isSo_675 (by decide) ?_
                                                  exact GV.zret F hr hk rfl rfl rfl (Nat.le_of_ble_eq_true rfl) (Nat.le_of_ble_eq_true rfl) dL_isSo_679
                                                · refine GW.if_ne (tgt := 662) F dL_isSo_655 (by decide) (fun _ => ?_) (fun h => absurd h (nI_ne0 (by omega) (by omega)))
                                                  refine GW.iload F dL_isSo_662 (lv_at hl 6 rfl) ?_
                                                  refine GW.i2d F dL_isSo_664 (fun za ea => ?_)
                                                  refine GW.aload_n F dL_isSo_665 rfl (lv_at hl 9 rfl) ?_
                                                  refine GW.iconst (v := nI 4) F dL_isSo_666 (by decide) ?_
                                                  refine GW.iadn (i := 4) F hG 0 rfl (by decide) (by decide) dL_isSo_667 (fun zz ez => ?_)
                                                  rw [hJ.q4] at ez
                                                  subst ez
                                                  refine GW.i2d F dL_isSo_668 (fun zb eb => ?_)
                                                  subst ea
                                                  subst eb
                                                  refine GW.ddiv F dL_isSo_669 (so_K hJ hC0).1 (fun zd ed => ?_)
                                                  subst ed
                                                  rw [so_sh1 hJ hC0]
                                                  refine GW.dcmp F dL_isSo_670 (fun zd ed => ?_)
                                                  refine GW.if_ne (tgt := 678) F dL_isSo_671 (by decide) (fun h => absurd (ed.trans (so_K hJ hC0).2) h) (fun _ => ?_)
                                                  refine GW.iconst (v := nI 1) F dL_isSo_674 (by decide) ?_
                                                  refine GW.goto (tgt := 679) F dL_isSo_675 (by decide) ?_
                                                  exact GV.zret F hr hk rfl rfl rfl (Nat.le_of_ble_eq_true rfl) (Nat.le_of_ble_eq_true rfl) dL_isSo_679
                            · skip
                              refine V.aload_n F dL_isSo_519 rfl (lv_at hl 9 rfl) ?_
                              refine V.iconst (v := nI 2) F dL_isSo_520 (by decide) ?_
                              refine V.iadn (i := 2) F hE 0 rfl (by omega) (by omega) dL_isSo_521 (fun z204 e204 => ?_)
                              refine V.goto (tgt := 526) F dL_isSo_522 (by decide) ?_
                              refine V.icmp_ne (tgt := 557) F dL_isSo_526 (by decide) (fun c205 => ?_) (fun c205 => ?_)
                              · skip
                                subst e18 e21 e24 e27 e141 e146 e149 e152 e158 e204; exact absurd (if_pos c159') c205
                              · skip
                                refine V.aload_n F dL_isSo_529 rfl (lv_at hl 7 rfl) ?_
                                refine V.iconst (v := nI 3) F dL_isSo_530 (by decide) ?_
                                refine V.rdX F hE (c_L_count l E (nI_r (M := 10) rfl (by decide) (by decide))) (kx_count F.2.2.2.2 ⟨Nat.le_of_ble_eq_true rfl, Nat.le_of_ble_eq_true rfl⟩) 7 22 (by rfl) rfl hl.1 (Nat.le_of_ble_eq_true rfl) dL_isSo_531 rfl ?_
                                refine V.topi (fun z206 e206 => ?_)
                                obtain rfl : (if qs 0 ≤ qs 3 then qs 3 else -1) = z206 := (e206.trans (so_c3 hJ)).symm
                                refine V.aload_n F dL_isSo_534 rfl (lv_at hl 9 rfl) ?_
                                refine V.iconst (v := nI 0) F dL_isSo_535 (by decide) ?_
                                refine V.iadn (i := 0) F hE 0 rfl (by omega) (by omega) dL_isSo_536 (fun z207 e207 => ?_)
                                obtain rfl : (qs 0) = z207 := (e207.trans rfl).symm
                                refine V.aload_n F dL_isSo_537 rfl (lv_at hl 9 rfl) ?_
                                refine V.iconst (v := nI 3) F dL_isSo_538 (by decide) ?_
                                refine V.iadn (i := 3) F hE 0 rfl (by omega) (by omega) dL_isSo_539 (fun z208 e208 => ?_)
                                refine V.icmp_gt (tgt := 549) F dL_isSo_540 (by decide) (fun c209 c209' => ?_) (fun c209 c209' => ?_)
                                · skip
                                  refine V.iconst (v := (-1)) F dL_isSo_549 (by decide) ?_
                                  refine V.icmp_ne (tgt := 557) F dL_isSo_550 (by decide) (fun c210 => ?_) (fun c210 => ?_)
                                  · skip
                                    subst e18 e21 e24 e27 e141 e146 e149 e152 e158 e204 e208; exact absurd (if_neg c209') c210
                                  · skip
                                    refine V.iconst (v := nI 1) F dL_isSo_553 (by decide) ?_
                                    refine V.goto (tgt := 558) F dL_isSo_554 (by decide) ?_
                                    refine V.istore (lv' := [(15, .int (nI 1)), (14, .int (brL (hpL hs (qs 0) (nI (lowN y 8)) H) 6)), (13, .int (nI (1 + (lowN (shx y 6) 5)))), (12, .int (nI (lowN (shx y 3) 6))), (11, .int (nI (lowN y 8))), (10, .int (opL qs zs fo rs hs cs H R C)), (9, .int (shL cs C)), (0, .ref d), (1, .int y), (2, .ref u1), (3, .ref u2), (4, .ref u3), (5, .ref u4), (6, .ref u5), (7, .ref u6), (8, .ref u7)]) F dL_isSo_558 hl (by decide) rfl (fun ls hl => ?_)
                                    refine V.iload F dL_isSo_560 (lv_at hl 0 rfl) ?_
                                    refine V.if_eq (tgt := 678) F dL_isSo_562 (by decide) (fun h => absurd h (by decide)) (fun _ => ?_)
                                    refine V.aload_n F dL_isSo_565 rfl (lv_at hl 7 rfl) ?_
                                    refine V.iconst (v := nI 4) F dL_isSo_566 (by decide) ?_
                                    refine V.rdX F hE (c_L_count l E (nI_r (M := 10) rfl (by decide) (by decide))) (kx_count F.2.2.2.2 ⟨Nat.le_of_ble_eq_true rfl, Nat.le_of_ble_eq_true rfl⟩) 7 22 (by rfl) rfl hl.1 (Nat.le_of_ble_eq_true rfl) dL_isSo_567 rfl ?_
                                    refine V.topi (fun z212 e212 => ?_)
                                    obtain rfl : (qs 4) = z212 := (e212.trans (so_c4 hJ)).symm
                                    refine V.aload_n F dL_isSo_570 rfl (lv_at hl 9 rfl) ?_
                                    refine V.iconst (v := nI 4) F dL_isSo_571 (by decide) ?_
                                    refine V.iadn (i := 4) F hE 0 rfl (by omega) (by omega) dL_isSo_572 (fun z213 e213 => ?_)
                                    refine V.icmp_ne (tgt := 678) F dL_isSo_573 (by decide) (fun c214 => ?_) (fun c214 => ?_)
                                    · skip
                                      subst e18 e21 e24 e27 e141 e146 e149 e152 e158 e204 e208 e213; exact absurd rfl c214
                                    · skip
                                      refine V.aload_n F dL_isSo_576 rfl (lv_at hl 7 rfl) ?_
                                      refine V.iconst (v := nI 5) F dL_isSo_577 (by decide) ?_
                                      refine V.rdX F hE (c_L_count l E (nI_r (M := 10) rfl (by decide) (by decide))) (kx_count F.2.2.2.2 ⟨Nat.le_of_ble_eq_true rfl, Nat.le_of_ble_eq_true rfl⟩) 7 22 (by rfl) rfl hl.1 (Nat.le_of_ble_eq_true rfl) dL_isSo_578 rfl ?_
                                      refine V.topi (fun z215 e215 => ?_)
                                      obtain rfl : (shL cs C) = z215 := (e215.trans (so_c5 hJ)).symm
                                      refine V.iload F dL_isSo_581 (lv_at hl 6 rfl) ?_
                                      refine V.icmp_ne (tgt := 678) F dL_isSo_583 (by decide) (fun c216 => ?_) (fun c216 => ?_)
                                      · skip
                                        subst e18 e21 e24 e27 e141 e146 e149 e152 e158 e204 e208 e213; exact absurd rfl c216
                                      · skip
                                        refine V.aload_n F dL_isSo_586 rfl (lv_at hl 7 rfl) ?_
                                        refine V.bipush (v := nI 6) F dL_isSo_587 (by decide) ?_
                                        refine V.rdX F hE (c_L_count l E (nI_r (M := 10) rfl (by decide) (by decide))) (kx_count F.2.2.2.2 ⟨Nat.le_of_ble_eq_true rfl, Nat.le_of_ble_eq_true rfl⟩) 7 22 (by rfl) rfl hl.1 (Nat.le_of_ble_eq_true rfl) dL_isSo_589 rfl ?_
                                        refine V.topi (fun z217 e217 => ?_)
                                        obtain rfl : (qs 5) = z217 := (e217.trans (so_c6 hJ)).symm
                                        refine V.aload_n F dL_isSo_592 rfl (lv_at hl 9 rfl) ?_
                                        refine V.iconst (v := nI 5) F dL_isSo_593 (by decide) ?_
                                        refine V.iadn (i := 5) F hE 0 rfl (by omega) (by omega) dL_isSo_594 (fun z218 e218 => ?_)
                                        refine V.icmp_ne (tgt := 678) F dL_isSo_595 (by decide) (fun c219 => ?_) (fun c219 => ?_)
                                        · skip
                                          subst e18 e21 e24 e27 e141 e146 e149 e152 e158 e204 e208 e213 e218; exact absurd rfl c219
                                        · skip
                                          refine V.aload_n F dL_isSo_598 rfl (lv_at hl 7 rfl) ?_
                                          refine V.bipush (v := nI 7) F dL_isSo_599 (by decide) ?_
                                          refine V.rdX F hE (c_L_count l E (nI_r (M := 10) rfl (by decide) (by decide))) (kx_count F.2.2.2.2 ⟨Nat.le_of_ble_eq_true rfl, Nat.le_of_ble_eq_true rfl⟩) 7 22 (by rfl) rfl hl.1 (Nat.le_of_ble_eq_true rfl) dL_isSo_601 rfl ?_
                                          refine V.topi (fun z220 e220 => ?_)
                                          obtain rfl : (qs 6) = z220 := (e220.trans (so_c7 hJ)).symm
                                          refine V.aload_n F dL_isSo_604 rfl (lv_at hl 9 rfl) ?_
                                          refine V.bipush (v := nI 6) F dL_isSo_605 (by decide) ?_
                                          refine V.iadn (i := 6) F hE 0 rfl (by omega) (by omega) dL_isSo_607 (fun z221 e221 => ?_)
                                          refine V.icmp_ne (tgt := 678) F dL_isSo_608 (by decide) (fun c222 => ?_) (fun c222 => ?_)
                                          · skip
                                            subst e18 e21 e24 e27 e141 e146 e149 e152 e158 e204 e208 e213 e218 e221; exact absurd rfl c222
                                          · skip
                                            refine V.aload_n F dL_isSo_611 rfl (lv_at hl 7 rfl) ?_
                                            refine V.bipush (v := nI 8) F dL_isSo_612 (by decide) ?_
                                            refine V.rdX F hE (c_L_count l E (nI_r (M := 10) rfl (by decide) (by decide))) (kx_count F.2.2.2.2 ⟨Nat.le_of_ble_eq_true rfl, Nat.le_of_ble_eq_true rfl⟩) 7 22 (by rfl) rfl hl.1 (Nat.le_of_ble_eq_true rfl) dL_isSo_614 rfl ?_
                                            refine V.topi (fun z223 e223 => ?_)
                                            obtain rfl : (qs 7) = z223 := (e223.trans (so_c8 hJ)).symm
                                            refine V.aload_n F dL_isSo_617 rfl (lv_at hl 9 rfl) ?_
                                            refine V.bipush (v := nI 7) F dL_isSo_618 (by decide) ?_
                                            refine V.iadn (i := 7) F hE 0 rfl (by omega) (by omega) dL_isSo_620 (fun z224 e224 => ?_)
                                            refine V.icmp_ne (tgt := 678) F dL_isSo_621 (by decide) (fun c225 => ?_) (fun c225 => ?_)
                                            · skip
                                              subst e18 e21 e24 e27 e141 e146 e149 e152 e158 e204 e208 e213 e218 e221 e224; exact absurd rfl c225
                                            · skip
                                              refine V.aload_n F dL_isSo_624 rfl (lv_at hl 7 rfl) ?_
                                              refine V.bipush (v := nI 9) F dL_isSo_625 (by decide) ?_
                                              refine V.rdX F hE (c_L_count l E (nI_r (M := 10) rfl (by decide) (by decide))) (kx_count F.2.2.2.2 ⟨Nat.le_of_ble_eq_true rfl, Nat.le_of_ble_eq_true rfl⟩) 7 22 (by rfl) rfl hl.1 (Nat.le_of_ble_eq_true rfl) dL_isSo_627 rfl ?_
                                              refine V.topi (fun z226 e226 => ?_)
                                              obtain rfl : (opL qs zs fo rs hs cs H R C) = z226 := (e226.trans (so_c9 hJ)).symm
                                              refine V.iload F dL_isSo_630 (lv_at hl 5 rfl) ?_
                                              refine V.icmp_ne (tgt := 678) F dL_isSo_632 (by decide) (fun c227 => ?_) (fun c227 => ?_)
                                              · skip
                                                subst e18 e21 e24 e27 e141 e146 e149 e152 e158 e204 e208 e213 e218 e221 e224; exact absurd rfl c227
                                              · skip
                                                refine V.aload_n F dL_isSo_635 rfl (lv_at hl 7 rfl) ?_
                                                refine V.aload_n F dL_isSo_636 rfl (lv_at hl 9 rfl) ?_
                                                refine V.iconst (v := nI 4) F dL_isSo_637 (by decide) ?_
                                                refine V.iadn (i := 4) F hE 0 rfl (by omega) (by omega) dL_isSo_638 (fun z228 e228 => ?_)
                                                obtain rfl : (nI C) = z228 := (e228.trans hJ.q4).symm
                                                refine V.iconst (v := nI 0) F dL_isSo_639 (by decide) ?_
                                                refine V.toGV hD0 ?_
                                                refine GV.gx (wa := [rw_ E u1 10 qs, rw_ E u2 8 zs, rw_ E u3 8 fo, rw_ E u4 8 ts, rw_ E u5 40 rs, rw_ E u6 12 hs, rw_ E u7 10 cs]) (wb := []) F hG hA (w_L_refusal_e1 l E (c_X6_refusal_t1 l E (x := nI C) (p := nI 0) (so_t hJ) hst)) (kx_refusal F.2.2.2.2 ⟨Nat.le_of_ble_eq_true rfl, Nat.le_of_ble_eq_true rfl⟩) (by rw [List.append_nil]) rfl hl.1 (Nat.le_of_ble_eq_true rfl) ⟨Nat.le_of_ble_eq_true rfl, Nat.le_of_ble_eq_true rfl⟩ dL_isSo_640 rfl ?_
                                                refine GV.weq (ws' := ([rw_ E u1 10 qs, rw_ E u2 8 zs, rw_ E u3 8 fo, rw_ E u4 8 ts, rw_ E u5 40 rs, rw_ E u6 12 hs, rw_ E u7 10 cs] ++ dW E d v0 v1 t u n m r a g f)) (by rw [List.append_nil]) ?_
                                                refine GW.bipush (v := (-101)) F dL_isSo_643 (by decide) ?_
                                                refine GW.icmp_ne (tgt := 678) F dL_isSo_645 (by decide) (fun h => absurd rfl h) (fun _ => ?_)
                                                refine GW.aload_n F dL_isSo_648 rfl (lv_at hl 7 rfl) ?_
                                                refine GV.rdV (q0 := 7) (wa := [rw_ E u1 10 qs, rw_ E u2 8 zs, rw_ E u3 8 fo, rw_ E u4 8 ts, rw_ E u5 40 rs, rw_ E u6 12 hs, rw_ E u7 10 cs]) (wb := []) F hG (c_X6_shotShare l E (so_nn hJ)) (kL_127 F.2.2.2.2 ⟨Nat.le_of_ble_eq_true rfl, Nat.le_of_ble_eq_true rfl⟩) rfl rfl (by rw [List.append_nil]) rfl hl.1 (Nat.le_of_ble_eq_true rfl) ⟨Nat.le_of_ble_eq_true rfl, Nat.le_of_ble_eq_true rfl⟩ dL_isSo_649 rfl ?_
                                                refine GW.aload_n F dL_isSo_652 rfl (lv_at hl 9 rfl) ?_
                                                refine GW.iconst (v := nI 4) F dL_isSo_653 (by decide) ?_
                                                refine GW.iadn (i := 4) F hG 0 rfl (by decide) (by decide) dL_isSo_654 (fun zz ez => ?_)
                                                rw [hJ.q4] at ez
                                                subst ez
                                                by_cases hC0 : C = 0
                                                · refine GW.if_ne (tgt := 662) F dL_isSo_655 (by decide) (fun h => absurd (by rw [hC0]; rfl) h) (fun _ => ?_)
                                                  refine GW.dconst1 F dL_isSo_658 ?_
                                                  refine GW.goto (tgt := 670) F dL_isSo_659 (by decide) ?_
                                                  rw [so_sh0 hJ hC0]
                                                  refine GW.dcmp F dL_isSo_670 (fun zd ed => ?_)
                                                  refine GW.if_ne (tgt := 678) F dL_isSo_671 (by decide) (fun h => absurd (ed.trans (shb_ok sh_1).2) h) (fun _ => ?_)
                                                  refine GW.iconst (v := nI 1) F dL_isSo_674 (by decide) ?_
                                                  refine GW.goto (tgt := 679) F dL_isSo_675 (by decide) ?_
                                                  exact GV.zret F hr hk rfl rfl rfl (Nat.le_of_ble_eq_true rfl) (Nat.le_of_ble_eq_true rfl) dL_isSo_679
                                                · refine GW.if_ne (tgt := 662) F dL_isSo_655 (by decide) (fun _ => ?_) (fun h => absurd h (nI_ne0 (by omega) (by omega)))
                                                  refine GW.iload F dL_isSo_662 (lv_at hl 6 rfl) ?_
                                                  refine GW.i2d F dL_isSo_664 (fun za ea => ?_)
                                                  refine GW.aload_n F dL_isSo_665 rfl (lv_at hl 9 rfl) ?_
                                                  refine GW.iconst (v := nI 4) F dL_isSo_666 (by decide) ?_
                                                  refine GW.iadn (i := 4) F hG 0 rfl (by decide) (by decide) dL_isSo_667 (fun zz ez => ?_)
                                                  rw [hJ.q4] at ez
                                                  subst ez
                                                  refine GW.i2d F dL_isSo_668 (fun zb eb => ?_)
                                                  subst ea
                                                  subst eb
                                                  refine GW.ddiv F dL_isSo_669 (so_K hJ hC0).1 (fun zd ed => ?_)
                                                  subst ed
                                                  rw [so_sh1 hJ hC0]
                                                  refine GW.dcmp F dL_isSo_670 (fun zd ed => ?_)
                                                  refine GW.if_ne (tgt := 678) F dL_isSo_671 (by decide) (fun h => absurd (ed.trans (so_K hJ hC0).2) h) (fun _ => ?_)
                                                  refine GW.iconst (v := nI 1) F dL_isSo_674 (by decide) ?_
                                                  refine GW.goto (tgt := 679) F dL_isSo_675 (by decide) ?_
                                                  exact GV.zret F hr hk rfl rfl rfl (Nat.le_of_ble_eq_true rfl) (Nat.le_of_ble_eq_true rfl) dL_isSo_679
                                · skip
                                  refine V.aload_n F dL_isSo_543 rfl (lv_at hl 9 rfl) ?_
                                  refine V.iconst (v := nI 3) F dL_isSo_544 (by decide) ?_
                                  refine V.iadn (i := 3) F hE 0 rfl (by omega) (by omega) dL_isSo_545 (fun z229 e229 => ?_)
                                  refine V.goto (tgt := 550) F dL_isSo_546 (by decide) ?_
                                  refine V.icmp_ne (tgt := 557) F dL_isSo_550 (by decide) (fun c230 => ?_) (fun c230 => ?_)
                                  · skip
                                    subst e18 e21 e24 e27 e141 e146 e149 e152 e158 e204 e208 e229; exact absurd (if_pos c209') c230
                                  · skip
                                    refine V.iconst (v := nI 1) F dL_isSo_553 (by decide) ?_
                                    refine V.goto (tgt := 558) F dL_isSo_554 (by decide) ?_
                                    refine V.istore (lv' := [(15, .int (nI 1)), (14, .int (brL (hpL hs (qs 0) (nI (lowN y 8)) H) 6)), (13, .int (nI (1 + (lowN (shx y 6) 5)))), (12, .int (nI (lowN (shx y 3) 6))), (11, .int (nI (lowN y 8))), (10, .int (opL qs zs fo rs hs cs H R C)), (9, .int (shL cs C)), (0, .ref d), (1, .int y), (2, .ref u1), (3, .ref u2), (4, .ref u3), (5, .ref u4), (6, .ref u5), (7, .ref u6), (8, .ref u7)]) F dL_isSo_558 hl (by decide) rfl (fun ls hl => ?_)
                                    refine V.iload F dL_isSo_560 (lv_at hl 0 rfl) ?_
                                    refine V.if_eq (tgt := 678) F dL_isSo_562 (by decide) (fun h => absurd h (by decide)) (fun _ => ?_)
                                    refine V.aload_n F dL_isSo_565 rfl (lv_at hl 7 rfl) ?_
                                    refine V.iconst (v := nI 4) F dL_isSo_566 (by decide) ?_
                                    refine V.rdX F hE (c_L_count l E (nI_r (M := 10) rfl (by decide) (by decide))) (kx_count F.2.2.2.2 ⟨Nat.le_of_ble_eq_true rfl, Nat.le_of_ble_eq_true rfl⟩) 7 22 (by rfl) rfl hl.1 (Nat.le_of_ble_eq_true rfl) dL_isSo_567 rfl ?_
                                    refine V.topi (fun z232 e232 => ?_)
                                    obtain rfl : (qs 4) = z232 := (e232.trans (so_c4 hJ)).symm
                                    refine V.aload_n F dL_isSo_570 rfl (lv_at hl 9 rfl) ?_
                                    refine V.iconst (v := nI 4) F dL_isSo_571 (by decide) ?_
                                    refine V.iadn (i := 4) F hE 0 rfl (by omega) (by omega) dL_isSo_572 (fun z233 e233 => ?_)
                                    refine V.icmp_ne (tgt := 678) F dL_isSo_573 (by decide) (fun c234 => ?_) (fun c234 => ?_)
                                    · skip
                                      subst e18 e21 e24 e27 e141 e146 e149 e152 e158 e204 e208 e229 e233; exact absurd rfl c234
                                    · skip
                                      refine V.aload_n F dL_isSo_576 rfl (lv_at hl 7 rfl) ?_
                                      refine V.iconst (v := nI 5) F dL_isSo_577 (by decide) ?_
                                      refine V.rdX F hE (c_L_count l E (nI_r (M := 10) rfl (by decide) (by decide))) (kx_count F.2.2.2.2 ⟨Nat.le_of_ble_eq_true rfl, Nat.le_of_ble_eq_true rfl⟩) 7 22 (by rfl) rfl hl.1 (Nat.le_of_ble_eq_true rfl) dL_isSo_578 rfl ?_
                                      refine V.topi (fun z235 e235 => ?_)
                                      obtain rfl : (shL cs C) = z235 := (e235.trans (so_c5 hJ)).symm
                                      refine V.iload F dL_isSo_581 (lv_at hl 6 rfl) ?_
                                      refine V.icmp_ne (tgt := 678) F dL_isSo_583 (by decide) (fun c236 => ?_) (fun c236 => ?_)
                                      · skip
                                        subst e18 e21 e24 e27 e141 e146 e149 e152 e158 e204 e208 e229 e233; exact absurd rfl c236
                                      · skip
                                        refine V.aload_n F dL_isSo_586 rfl (lv_at hl 7 rfl) ?_
                                        refine V.bipush (v := nI 6) F dL_isSo_587 (by decide) ?_
                                        refine V.rdX F hE (c_L_count l E (nI_r (M := 10) rfl (by decide) (by decide))) (kx_count F.2.2.2.2 ⟨Nat.le_of_ble_eq_true rfl, Nat.le_of_ble_eq_true rfl⟩) 7 22 (by rfl) rfl hl.1 (Nat.le_of_ble_eq_true rfl) dL_isSo_589 rfl ?_
                                        refine V.topi (fun z237 e237 => ?_)
                                        obtain rfl : (qs 5) = z237 := (e237.trans (so_c6 hJ)).symm
                                        refine V.aload_n F dL_isSo_592 rfl (lv_at hl 9 rfl) ?_
                                        refine V.iconst (v := nI 5) F dL_isSo_593 (by decide) ?_
                                        refine V.iadn (i := 5) F hE 0 rfl (by omega) (by omega) dL_isSo_594 (fun z238 e238 => ?_)
                                        refine V.icmp_ne (tgt := 678) F dL_isSo_595 (by decide) (fun c239 => ?_) (fun c239 => ?_)
                                        · skip
                                          subst e18 e21 e24 e27 e141 e146 e149 e152 e158 e204 e208 e229 e233 e238; exact absurd rfl c239
                                        · skip
                                          refine V.aload_n F dL_isSo_598 rfl (lv_at hl 7 rfl) ?_
                                          refine V.bipush (v := nI 7) F dL_isSo_599 (by decide) ?_
                                          refine V.rdX F hE (c_L_count l E (nI_r (M := 10) rfl (by decide) (by decide))) (kx_count F.2.2.2.2 ⟨Nat.le_of_ble_eq_true rfl, Nat.le_of_ble_eq_true rfl⟩) 7 22 (by rfl) rfl hl.1 (Nat.le_of_ble_eq_true rfl) dL_isSo_601 rfl ?_
                                          refine V.topi (fun z240 e240 => ?_)
                                          obtain rfl : (qs 6) = z240 := (e240.trans (so_c7 hJ)).symm
                                          refine V.aload_n F dL_isSo_604 rfl (lv_at hl 9 rfl) ?_
                                          refine V.bipush (v := nI 6) F dL_isSo_605 (by decide) ?_
                                          refine V.iadn (i := 6) F hE 0 rfl (by omega) (by omega) dL_isSo_607 (fun z241 e241 => ?_)
                                          refine V.icmp_ne (tgt := 678) F dL_isSo_608 (by decide) (fun c242 => ?_) (fun c242 => ?_)
                                          · skip
                                            subst e18 e21 e24 e27 e141 e146 e149 e152 e158 e204 e208 e229 e233 e238 e241; exact absurd rfl c242
                                          · skip
                                            refine V.aload_n F dL_isSo_611 rfl (lv_at hl 7 rfl) ?_
                                            refine V.bipush (v := nI 8) F dL_isSo_612 (by decide) ?_
                                            refine V.rdX F hE (c_L_count l E (nI_r (M := 10) rfl (by decide) (by decide))) (kx_count F.2.2.2.2 ⟨Nat.le_of_ble_eq_true rfl, Nat.le_of_ble_eq_true rfl⟩) 7 22 (by rfl) rfl hl.1 (Nat.le_of_ble_eq_true rfl) dL_isSo_614 rfl ?_
                                            refine V.topi (fun z243 e243 => ?_)
                                            obtain rfl : (qs 7) = z243 := (e243.trans (so_c8 hJ)).symm
                                            refine V.aload_n F dL_isSo_617 rfl (lv_at hl 9 rfl) ?_
                                            refine V.bipush (v := nI 7) F dL_isSo_618 (by decide) ?_
                                            refine V.iadn (i := 7) F hE 0 rfl (by omega) (by omega) dL_isSo_620 (fun z244 e244 => ?_)
                                            refine V.icmp_ne (tgt := 678) F dL_isSo_621 (by decide) (fun c245 => ?_) (fun c245 => ?_)
                                            · skip
                                              subst e18 e21 e24 e27 e141 e146 e149 e152 e158 e204 e208 e229 e233 e238 e241 e244; exact absurd rfl c245
                                            · skip
                                              refine V.aload_n F dL_isSo_624 rfl (lv_at hl 7 rfl) ?_
                                              refine V.bipush (v := nI 9) F dL_isSo_625 (by decide) ?_
                                              refine V.rdX F hE (c_L_count l E (nI_r (M := 10) rfl (by decide) (by decide))) (kx_count F.2.2.2.2 ⟨Nat.le_of_ble_eq_true rfl, Nat.le_of_ble_eq_true rfl⟩) 7 22 (by rfl) rfl hl.1 (Nat.le_of_ble_eq_true rfl) dL_isSo_627 rfl ?_
                                              refine V.topi (fun z246 e246 => ?_)
                                              obtain rfl : (opL qs zs fo rs hs cs H R C) = z246 := (e246.trans (so_c9 hJ)).symm
                                              refine V.iload F dL_isSo_630 (lv_at hl 5 rfl) ?_
                                              refine V.icmp_ne (tgt := 678) F dL_isSo_632 (by decide) (fun c247 => ?_) (fun c247 => ?_)
                                              · skip
                                                subst e18 e21 e24 e27 e141 e146 e149 e152 e158 e204 e208 e229 e233 e238 e241 e244; exact absurd rfl c247
                                              · skip
                                                refine V.aload_n F dL_isSo_635 rfl (lv_at hl 7 rfl) ?_
                                                refine V.aload_n F dL_isSo_636 rfl (lv_at hl 9 rfl) ?_
                                                refine V.iconst (v := nI 4) F dL_isSo_637 (by decide) ?_
                                                refine V.iadn (i := 4) F hE 0 rfl (by omega) (by omega) dL_isSo_638 (fun z248 e248 => ?_)
                                                obtain rfl : (nI C) = z248 := (e248.trans hJ.q4).symm
                                                refine V.iconst (v := nI 0) F dL_isSo_639 (by decide) ?_
                                                refine V.toGV hD0 ?_
                                                refine GV.gx (wa := [rw_ E u1 10 qs, rw_ E u2 8 zs, rw_ E u3 8 fo, rw_ E u4 8 ts, rw_ E u5 40 rs, rw_ E u6 12 hs, rw_ E u7 10 cs]) (wb := []) F hG hA (w_L_refusal_e1 l E (c_X6_refusal_t1 l E (x := nI C) (p := nI 0) (so_t hJ) hst)) (kx_refusal F.2.2.2.2 ⟨Nat.le_of_ble_eq_true rfl, Nat.le_of_ble_eq_true rfl⟩) (by rw [List.append_nil]) rfl hl.1 (Nat.le_of_ble_eq_true rfl) ⟨Nat.le_of_ble_eq_true rfl, Nat.le_of_ble_eq_true rfl⟩ dL_isSo_640 rfl ?_
                                                refine GV.weq (ws' := ([rw_ E u1 10 qs, rw_ E u2 8 zs, rw_ E u3 8 fo, rw_ E u4 8 ts, rw_ E u5 40 rs, rw_ E u6 12 hs, rw_ E u7 10 cs] ++ dW E d v0 v1 t u n m r a g f)) (by rw [List.append_nil]) ?_
                                                refine GW.bipush (v := (-101)) F dL_isSo_643 (by decide) ?_
                                                refine GW.icmp_ne (tgt := 678) F dL_isSo_645 (by decide) (fun h => absurd rfl h) (fun _ => ?_)
                                                refine GW.aload_n F dL_isSo_648 rfl (lv_at hl 7 rfl) ?_
                                                refine GV.rdV (q0 := 7) (wa := [rw_ E u1 10 qs, rw_ E u2 8 zs, rw_ E u3 8 fo, rw_ E u4 8 ts, rw_ E u5 40 rs, rw_ E u6 12 hs, rw_ E u7 10 cs]) (wb := []) F hG (c_X6_shotShare l E (so_nn hJ)) (kL_127 F.2.2.2.2 ⟨Nat.le_of_ble_eq_true rfl, Nat.le_of_ble_eq_true rfl⟩) rfl rfl (by rw [List.append_nil]) rfl hl.1 (Nat.le_of_ble_eq_true rfl) ⟨Nat.le_of_ble_eq_true rfl, Nat.le_of_ble_eq_true rfl⟩ dL_isSo_649 rfl ?_
                                                refine GW.aload_n F dL_isSo_652 rfl (lv_at hl 9 rfl) ?_
                                                refine GW.iconst (v := nI 4) F dL_isSo_653 (by decide) ?_
                                                refine GW.iadn (i := 4) F hG 0 rfl (by decide) (by decide) dL_isSo_654 (fun zz ez => ?_)
                                                rw [hJ.q4] at ez
                                                subst ez
                                                by_cases hC0 : C = 0
                                                · refine GW.if_ne (tgt := 662) F dL_isSo_655 (by decide) (fun h => absurd (by rw [hC0]; rfl) h) (fun _ => ?_)
                                                  refine GW.dconst1 F dL_isSo_658 ?_
                                                  refine GW.goto (tgt := 670) F dL_isSo_659 (by decide) ?_
                                                  rw [so_sh0 hJ hC0]
                                                  refine GW.dcmp F dL_isSo_670 (fun zd ed => ?_)
                                                  refine GW.if_ne (tgt := 678) F dL_isSo_671 (by decide) (fun h => absurd (ed.trans (shb_ok sh_1).2) h) (fun _ => ?_)
                                                  refine GW.iconst (v := nI 1) F dL_isSo_674 (by decide) ?_
                                                  refine GW.goto (tgt := 679) F dL_isSo_675 (by decide) ?_
                                                  exact GV.zret F hr hk rfl rfl rfl (Nat.le_of_ble_eq_true rfl) (Nat.le_of_ble_eq_true rfl) dL_isSo_679
                                                · refine GW.if_ne (tgt := 662) F dL_isSo_655 (by decide) (fun _ => ?_) (fun h => absurd h (nI_ne0 (by omega) (by omega)))
                                                  refine GW.iload F dL_isSo_662 (lv_at hl 6 rfl) ?_
                                                  refine GW.i2d F dL_isSo_664 (fun za ea => ?_)
                                                  refine GW.aload_n F dL_isSo_665 rfl (lv_at hl 9 rfl) ?_
                                                  refine GW.iconst (v := nI 4) F dL_isSo_666 (by decide) ?_
                                                  refine GW.iadn (i := 4) F hG 0 rfl (by decide) (by decide) dL_isSo_667 (fun zz ez => ?_)
                                                  rw [hJ.q4] at ez
                                                  subst ez
                                                  refine GW.i2d F dL_isSo_668 (fun zb eb => ?_)
                                                  subst ea
                                                  subst eb
                                                  refine GW.ddiv F dL_isSo_669 (so_K hJ hC0).1 (fun zd ed => ?_)
                                                  subst ed
                                                  rw [so_sh1 hJ hC0]
                                                  refine GW.dcmp F dL_isSo_670 (fun zd ed => ?_)
                                                  refine GW.if_ne (tgt := 678) F dL_isSo_671 (by decide) (fun h => absurd (ed.trans (so_K hJ hC0).2) h) (fun _ => ?_)
                                                  refine GW.iconst (v := nI 1) F dL_isSo_674 (by decide) ?_
                                                  refine GW.goto (tgt := 679) F dL_isSo_675 (by decide) ?_
                                                  exact GV.zret F hr hk rfl rfl rfl (Nat.le_of_ble_eq_true rfl) (Nat.le_of_ble_eq_true rfl) dL_isSo_679
    · skip
      have k13_lt := (lpL rfl (by omega) k13_N).2 c16
      refine V.iload F dL_isSo_294 (lv_at hl 1 rfl) ?_
      refine V.iload F dL_isSo_296 (lv_at hl 4 rfl) ?_
      refine V.aload_n F dL_isSo_298 rfl (lv_at hl 9 rfl) ?_
      refine V.aload F dL_isSo_299 (lv_at hl 14 rfl) ?_
      refine V.rdS F hE (c_L_hurtParts l E hJ.q9 hJ.bd.2.2.1) (kL_66 F.2.2.2.2 ⟨Nat.le_of_ble_eq_true rfl, Nat.le_of_ble_eq_true rfl⟩) [0, 5] rfl rfl hl.1 (Nat.le_of_ble_eq_true rfl) dL_isSo_301 rfl ?_
      refine V.topi (fun z249 e249 => ?_)
      refine V.iload F dL_isSo_304 (lv_at hl 0 rfl) ?_
      refine V.rdS F hE (c_L_bars l E) (kL_70 F.2.2.2.2 ⟨Nat.le_of_ble_eq_true rfl, Nat.le_of_ble_eq_true rfl⟩) [] rfl rfl hl.1 (Nat.le_of_ble_eq_true rfl) dL_isSo_306 rfl ?_
      refine V.topi (fun z250 e250 => ?_)
      refine V.iand F dL_isSo_309 (fun z251 e251 => ?_)
      refine V.if_ne (tgt := 317) F dL_isSo_310 (by decide) (fun c252 => ?_) (fun c252 => ?_)
      · skip
        refine V.iconst (v := nI 1) F dL_isSo_317 (by decide) ?_
        refine V.iload F dL_isSo_318 (lv_at hl 0 rfl) ?_
        refine V.ishl F dL_isSo_320 (fun z253 e253 => ?_)
        refine V.ior F dL_isSo_321 (fun z254 e254 => ?_)
        refine V.istore (lv' := [(14, .int z254), (15, .int (nI k13)), (13, .int (nI (1 + (lowN (shx y 6) 5)))), (12, .int (nI (lowN (shx y 3) 6))), (11, .int (nI (lowN y 8))), (10, .int (opL qs zs fo rs hs cs H R C)), (9, .int (shL cs C)), (0, .ref d), (1, .int y), (2, .ref u1), (3, .ref u2), (4, .ref u3), (5, .ref u4), (6, .ref u5), (7, .ref u6), (8, .ref u7)]) F dL_isSo_322 hl (by decide) rfl (fun ls hl => ?_)
        refine V.iinc (j := 1) (lv' := fun z255 => [(15, .int z255), (14, .int z254), (13, .int (nI (1 + (lowN (shx y 6) 5)))), (12, .int (nI (lowN (shx y 3) 6))), (11, .int (nI (lowN y 8))), (10, .int (opL qs zs fo rs hs cs H R C)), (9, .int (shL cs C)), (0, .ref d), (1, .int y), (2, .ref u1), (3, .ref u2), (4, .ref u3), (5, .ref u4), (6, .ref u5), (7, .ref u6), (8, .ref u7)]) F dL_isSo_324 hl rfl (by decide) (fun _ => rfl) (fun z255 e255 ls hl => ?_)
        refine V.goto (tgt := 287) F dL_isSo_327 (by decide) ?_
        have h256 : nI (k13 + 1) = z255 := (by subst e249 e250 e251 e253 e254 e255; first | with_reducible rfl | (simp only [shL, ppL, opL, brL, c6, c6', c16, c16', c252, oi1n, nI_add, pk_mul, bI, and_true, true_and, and_false, false_and, and_self, or_true, true_or, or_false, false_or, or_self, not_true_eq_false, not_false_eq_true, if_true, if_false, ↓reduceIte] <;> rfl) | rfl)
        have h257 : brL (hpL hs (qs 0) (nI (lowN y 8)) H) (k13 + 1) = z254 := (by subst e249 e250 e251 e253 e254 e255; first | with_reducible rfl | (simp only [shL, ppL, opL, brL, c6, c6', c16, c16', c252, oi1n, nI_add, pk_mul, bI, and_true, true_and, and_false, false_and, and_self, or_true, true_or, or_false, false_or, or_self, not_true_eq_false, not_false_eq_true, if_true, if_false, ↓reduceIte] <;> rfl) | rfl)
        exact ihk13 k13_lt trivial _ (lv_sub hl [0, 1, 2, 3, 4, 5, 6, 7, 8, 9, 10, 11, 12, 13, 14, 15] (by rw [h256, h257]; rfl))
      · skip
        refine V.iconst (v := nI 0) F dL_isSo_313 (by decide) ?_
        refine V.goto (tgt := 321) F dL_isSo_314 (by decide) ?_
        refine V.ior F dL_isSo_321 (fun z258 e258 => ?_)
        refine V.istore (lv' := [(14, .int z258), (15, .int (nI k13)), (13, .int (nI (1 + (lowN (shx y 6) 5)))), (12, .int (nI (lowN (shx y 3) 6))), (11, .int (nI (lowN y 8))), (10, .int (opL qs zs fo rs hs cs H R C)), (9, .int (shL cs C)), (0, .ref d), (1, .int y), (2, .ref u1), (3, .ref u2), (4, .ref u3), (5, .ref u4), (6, .ref u5), (7, .ref u6), (8, .ref u7)]) F dL_isSo_322 hl (by decide) rfl (fun ls hl => ?_)
        refine V.iinc (j := 1) (lv' := fun z259 => [(15, .int z259), (14, .int z258), (13, .int (nI (1 + (lowN (shx y 6) 5)))), (12, .int (nI (lowN (shx y 3) 6))), (11, .int (nI (lowN y 8))), (10, .int (opL qs zs fo rs hs cs H R C)), (9, .int (shL cs C)), (0, .ref d), (1, .int y), (2, .ref u1), (3, .ref u2), (4, .ref u3), (5, .ref u4), (6, .ref u5), (7, .ref u6), (8, .ref u7)]) F dL_isSo_324 hl rfl (by decide) (fun _ => rfl) (fun z259 e259 ls hl => ?_)
        refine V.goto (tgt := 287) F dL_isSo_327 (by decide) ?_
        have h260 : nI (k13 + 1) = z259 := (by subst e249 e250 e251 e258 e259; first | with_reducible rfl | (simp only [shL, ppL, opL, brL, c6, c6', c16, c16', eq_true c252, oi1n, nI_add, pk_mul, bI, and_true, true_and, and_false, false_and, and_self, or_true, true_or, or_false, false_or, or_self, not_true_eq_false, not_false_eq_true, if_true, if_false, ↓reduceIte] <;> rfl) | rfl)
        have h261 : brL (hpL hs (qs 0) (nI (lowN y 8)) H) (k13 + 1) = z258 := (by subst e249 e250 e251 e258 e259; first | with_reducible rfl | (simp only [shL, ppL, opL, brL, c6, c6', c16, c16', eq_true c252, oi1n, nI_add, pk_mul, bI, and_true, true_and, and_false, false_and, and_self, or_true, true_or, or_false, false_or, or_self, not_true_eq_false, not_false_eq_true, if_true, if_false, ↓reduceIte] <;> rfl) | rfl)
        exact ihk13 k13_lt trivial _ (lv_sub hl [0, 1, 2, 3, 4, 5, 6, 7, 8, 9, 10, 11, 12, 13, 14, 15] (by rw [h260, h261]; rfl))
  · skip
    have x1_lt := (lpL rfl (by omega) x1_N).2 c6
    refine V.iconst (v := nI 0) F dL_isSo_17 (by decide) ?_
    refine V.istore (lv' := [(12, .int (nI 0)), (11, .int (nI x1)), (10, .int (opL qs zs fo rs hs cs H R x1)), (9, .int (shL cs x1)), (0, .ref d), (1, .int y), (2, .ref u1), (3, .ref u2), (4, .ref u3), (5, .ref u4), (6, .ref u5), (7, .ref u6), (8, .ref u7)]) F dL_isSo_18 hl (by decide) rfl (fun ls hl => ?_)
    refine V.iconst (v := nI 0) F dL_isSo_20 (by decide) ?_
    refine V.istore (lv' := [(13, .int (nI 0)), (12, .int (nI 0)), (11, .int (nI x1)), (10, .int (opL qs zs fo rs hs cs H R x1)), (9, .int (shL cs x1)), (0, .ref d), (1, .int y), (2, .ref u1), (3, .ref u2), (4, .ref u3), (5, .ref u4), (6, .ref u5), (7, .ref u6), (8, .ref u7)]) F dL_isSo_21 hl (by decide) rfl (fun ls hl => ?_)
    have h263 : nI 0 = nI 0 := (by first | with_reducible rfl | (simp only [shL, ppL, opL, brL, c6, c6', oi1n, nI_add, pk_mul, bI, and_true, true_and, and_false, false_and, and_self, or_true, true_or, or_false, false_or, or_self, not_true_eq_false, not_false_eq_true, if_true, if_false, ↓reduceIte] <;> rfl) | rfl)
    have h264 : ppL qs zs fo rs hs cs H R x1 0 = nI 0 := (by first | with_reducible rfl | (simp only [shL, ppL, opL, brL, c6, c6', oi1n, nI_add, pk_mul, bI, and_true, true_and, and_false, false_and, and_self, or_true, true_or, or_false, false_or, or_self, not_true_eq_false, not_false_eq_true, if_true, if_false, ↓reduceIte] <;> rfl) | rfl)
    refine V.loop (N := 8) (k0 := 0) (I := (fun p262 : Nat => [(13, .int (nI p262)), (12, .int (ppL qs zs fo rs hs cs H R x1 p262)), (11, .int (nI x1)), (10, .int (opL qs zs fo rs hs cs H R x1)), (9, .int (shL cs x1)), (0, .ref d), (1, .int y), (2, .ref u1), (3, .ref u2), (4, .ref u3), (5, .ref u4), (6, .ref u5), (7, .ref u6), (8, .ref u7)])) (J := fun _ => True) (Nat.zero_le _) trivial (lv_sub hl [0, 1, 2, 3, 4, 5, 6, 7, 8, 9, 10, 11, 12, 13] (by rw [h263, h264]; rfl)) ?_
    intro p262 p262_N p262_J ihp262 ls hl
    have hl : lv_has ls 16 [(13, .int (nI p262)), (12, .int (ppL qs zs fo rs hs cs H R x1 p262)), (11, .int (nI x1)), (10, .int (opL qs zs fo rs hs cs H R x1)), (9, .int (shL cs x1)), (0, .ref d), (1, .int y), (2, .ref u1), (3, .ref u2), (4, .ref u3), (5, .ref u4), (6, .ref u5), (7, .ref u6), (8, .ref u7)] := hl
    refine V.iload F dL_isSo_23 (lv_at hl 0 rfl) ?_
    refine V.bipush (v := nI 8) F dL_isSo_25 (by decide) ?_
    refine V.icmp_ge (tgt := 88) F dL_isSo_27 (by decide) (fun c265 c265' => ?_) (fun c265 c265' => ?_)
    · skip
      have p262_eq := ((lpL rfl (by omega) p262_N).1 c265).symm
      subst p262_eq
      refine V.iload F dL_isSo_88 (lv_at hl 4 rfl) ?_
      refine V.aload F dL_isSo_90 (lv_at hl 13 rfl) ?_
      refine V.iload F dL_isSo_92 (lv_at hl 2 rfl) ?_
      refine V.iadn (i := x1) F hE 6 rfl (by omega) (by omega) dL_isSo_94 (fun z266 e266 => ?_)
      refine V.bipush (v := nI 9) F dL_isSo_95 (by decide) ?_
      refine V.ishr F dL_isSo_97 (fun z267 e267 => ?_)
      refine V.sipush (v := nI 1023) F dL_isSo_98 (by decide) ?_
      refine V.iand F dL_isSo_101 (fun z268 e268 => ?_)
      refine V.if_le (tgt := 109) F dL_isSo_102 (by decide) (fun c269 c269' => ?_) (fun c269 c269' => ?_)
      · skip
        refine V.iconst (v := nI 0) F dL_isSo_109 (by decide) ?_
        refine V.iadd F dL_isSo_110 (fun z270 e270 => ?_)
        refine V.istore (lv' := [(9, .int z270), (13, .int (nI 8)), (12, .int (ppL qs zs fo rs hs cs H R x1 8)), (11, .int (nI x1)), (10, .int (opL qs zs fo rs hs cs H R x1)), (0, .ref d), (1, .int y), (2, .ref u1), (3, .ref u2), (4, .ref u3), (5, .ref u4), (6, .ref u5), (7, .ref u6), (8, .ref u7)]) F dL_isSo_111 hl (by decide) rfl (fun ls hl => ?_)
        refine V.iload F dL_isSo_113 (lv_at hl 4 rfl) ?_
        refine V.iload F dL_isSo_115 (lv_at hl 2 rfl) ?_
        refine V.if_ne (tgt := 124) F dL_isSo_117 (by decide) (fun c271 => ?_) (fun c271 => ?_)
        · skip
          refine V.iconst (v := nI 1) F dL_isSo_124 (by decide) ?_
          refine V.iadd F dL_isSo_125 (fun z272 e272 => ?_)
          refine V.istore (lv' := [(10, .int z272), (9, .int z270), (13, .int (nI 8)), (12, .int (ppL qs zs fo rs hs cs H R x1 8)), (11, .int (nI x1)), (0, .ref d), (1, .int y), (2, .ref u1), (3, .ref u2), (4, .ref u3), (5, .ref u4), (6, .ref u5), (7, .ref u6), (8, .ref u7)]) F dL_isSo_126 hl (by decide) rfl (fun ls hl => ?_)
          refine V.aload_n F dL_isSo_128 rfl (lv_at hl 5 rfl) ?_
          refine V.iload F dL_isSo_129 (lv_at hl 4 rfl) ?_
          refine V.iconst (v := nI 0) F dL_isSo_131 (by decide) ?_
          refine V.rdX F hE (c_L_sceneOf l E (nI_x hJ.g8 (by omega) (by omega)) (nI_r (M := 5) rfl (by decide) (by decide))) (kx_sceneOf F.2.2.2.2 ⟨Nat.le_of_ble_eq_true rfl, Nat.le_of_ble_eq_true rfl⟩) 7 22 (by rfl) rfl hl.1 (Nat.le_of_ble_eq_true rfl) dL_isSo_132 rfl ?_
          refine V.topi (fun z273 e273 => ?_)
          obtain rfl : (cs x1 &&& nI 7) = z273 := (e273.trans (so_s0 hJ (by omega))).symm
          refine V.aload F dL_isSo_135 (lv_at hl 13 rfl) ?_
          refine V.iload F dL_isSo_137 (lv_at hl 4 rfl) ?_
          refine V.iadn (i := x1) F hE 6 rfl (by omega) (by omega) dL_isSo_139 (fun z274 e274 => ?_)
          refine V.bipush (v := nI 7) F dL_isSo_140 (by decide) ?_
          refine V.iand F dL_isSo_142 (fun z275 e275 => ?_)
          refine V.icmp_ne (tgt := 243) F dL_isSo_143 (by decide) (fun c276 => ?_) (fun c276 => ?_)
          · skip
            subst e266 e267 e268 e270 e272 e274 e275; exact absurd rfl c276
          · skip
            refine V.aload_n F dL_isSo_146 rfl (lv_at hl 5 rfl) ?_
            refine V.iload F dL_isSo_147 (lv_at hl 4 rfl) ?_
            refine V.iconst (v := nI 1) F dL_isSo_149 (by decide) ?_
            refine V.rdX F hE (c_L_sceneOf l E (nI_x hJ.g8 (by omega) (by omega)) (nI_r (M := 5) rfl (by decide) (by decide))) (kx_sceneOf F.2.2.2.2 ⟨Nat.le_of_ble_eq_true rfl, Nat.le_of_ble_eq_true rfl⟩) 7 22 (by rfl) rfl hl.1 (Nat.le_of_ble_eq_true rfl) dL_isSo_150 rfl ?_
            refine V.topi (fun z277 e277 => ?_)
            obtain rfl : (shx (cs x1) 3 &&& nI 7) = z277 := (e277.trans (so_s1 hJ (by omega))).symm
            refine V.aload F dL_isSo_153 (lv_at hl 13 rfl) ?_
            refine V.iload F dL_isSo_155 (lv_at hl 4 rfl) ?_
            refine V.iadn (i := x1) F hE 6 rfl (by omega) (by omega) dL_isSo_157 (fun z278 e278 => ?_)
            refine V.iconst (v := nI 3) F dL_isSo_158 (by decide) ?_
            refine V.ishr F dL_isSo_159 (fun z279 e279 => ?_)
            refine V.bipush (v := nI 7) F dL_isSo_160 (by decide) ?_
            refine V.iand F dL_isSo_162 (fun z280 e280 => ?_)
            refine V.icmp_ne (tgt := 243) F dL_isSo_163 (by decide) (fun c281 => ?_) (fun c281 => ?_)
            · skip
              subst e266 e267 e268 e270 e272 e274 e275 e278 e279 e280; exact absurd rfl c281
            · skip
              refine V.aload_n F dL_isSo_166 rfl (lv_at hl 5 rfl) ?_
              refine V.iload F dL_isSo_167 (lv_at hl 4 rfl) ?_
              refine V.iconst (v := nI 2) F dL_isSo_169 (by decide) ?_
              refine V.rdX F hE (c_L_sceneOf l E (nI_x hJ.g8 (by omega) (by omega)) (nI_r (M := 5) rfl (by decide) (by decide))) (kx_sceneOf F.2.2.2.2 ⟨Nat.le_of_ble_eq_true rfl, Nat.le_of_ble_eq_true rfl⟩) 7 22 (by rfl) rfl hl.1 (Nat.le_of_ble_eq_true rfl) dL_isSo_170 rfl ?_
              refine V.topi (fun z282 e282 => ?_)
              obtain rfl : (shx (cs x1) 6 &&& nI 7) = z282 := (e282.trans (so_s2 hJ (by omega))).symm
              refine V.aload F dL_isSo_173 (lv_at hl 13 rfl) ?_
              refine V.iload F dL_isSo_175 (lv_at hl 4 rfl) ?_
              refine V.iadn (i := x1) F hE 6 rfl (by omega) (by omega) dL_isSo_177 (fun z283 e283 => ?_)
              refine V.bipush (v := nI 6) F dL_isSo_178 (by decide) ?_
              refine V.ishr F dL_isSo_180 (fun z284 e284 => ?_)
              refine V.bipush (v := nI 7) F dL_isSo_181 (by decide) ?_
              refine V.iand F dL_isSo_183 (fun z285 e285 => ?_)
              refine V.icmp_ne (tgt := 243) F dL_isSo_184 (by decide) (fun c286 => ?_) (fun c286 => ?_)
              · skip
                subst e266 e267 e268 e270 e272 e274 e275 e278 e279 e280 e283 e284 e285; exact absurd rfl c286
              · skip
                refine V.aload_n F dL_isSo_187 rfl (lv_at hl 5 rfl) ?_
                refine V.iload F dL_isSo_188 (lv_at hl 4 rfl) ?_
                refine V.iconst (v := nI 3) F dL_isSo_190 (by decide) ?_
                refine V.rdX F hE (c_L_sceneOf l E (nI_x hJ.g8 (by omega) (by omega)) (nI_r (M := 5) rfl (by decide) (by decide))) (kx_sceneOf F.2.2.2.2 ⟨Nat.le_of_ble_eq_true rfl, Nat.le_of_ble_eq_true rfl⟩) 7 22 (by rfl) rfl hl.1 (Nat.le_of_ble_eq_true rfl) dL_isSo_191 rfl ?_
                refine V.topi (fun z287 e287 => ?_)
                obtain rfl : ((shx (cs x1) 9 &&& nI 1023) - nI 1) = z287 := (e287.trans (so_s3 hJ (by omega))).symm
                refine V.aload F dL_isSo_194 (lv_at hl 13 rfl) ?_
                refine V.iload F dL_isSo_196 (lv_at hl 4 rfl) ?_
                refine V.iadn (i := x1) F hE 6 rfl (by omega) (by omega) dL_isSo_198 (fun z288 e288 => ?_)
                refine V.bipush (v := nI 9) F dL_isSo_199 (by decide) ?_
                refine V.ishr F dL_isSo_201 (fun z289 e289 => ?_)
                refine V.sipush (v := nI 1023) F dL_isSo_202 (by decide) ?_
                refine V.iand F dL_isSo_205 (fun z290 e290 => ?_)
                refine V.iconst (v := nI 1) F dL_isSo_206 (by decide) ?_
                refine V.isub F dL_isSo_207 (fun z291 e291 => ?_)
                refine V.icmp_ne (tgt := 243) F dL_isSo_208 (by decide) (fun c292 => ?_) (fun c292 => ?_)
                · skip
                  subst e266 e267 e268 e270 e272 e274 e275 e278 e279 e280 e283 e284 e285 e288 e289 e290 e291; exact absurd rfl c292
                · skip
                  refine V.aload_n F dL_isSo_211 rfl (lv_at hl 5 rfl) ?_
                  refine V.iload F dL_isSo_212 (lv_at hl 4 rfl) ?_
                  refine V.iconst (v := nI 4) F dL_isSo_214 (by decide) ?_
                  refine V.rdX F hE (c_L_sceneOf l E (nI_x hJ.g8 (by omega) (by omega)) (nI_r (M := 5) rfl (by decide) (by decide))) (kx_sceneOf F.2.2.2.2 ⟨Nat.le_of_ble_eq_true rfl, Nat.le_of_ble_eq_true rfl⟩) 7 22 (by rfl) rfl hl.1 (Nat.le_of_ble_eq_true rfl) dL_isSo_215 rfl ?_
                  refine V.topi (fun z293 e293 => ?_)
                  obtain rfl : (shx (cs x1) 19 - nI 1) = z293 := (e293.trans (so_s4 hJ (by omega))).symm
                  refine V.aload F dL_isSo_218 (lv_at hl 13 rfl) ?_
                  refine V.iload F dL_isSo_220 (lv_at hl 4 rfl) ?_
                  refine V.iadn (i := x1) F hE 6 rfl (by omega) (by omega) dL_isSo_222 (fun z294 e294 => ?_)
                  refine V.bipush (v := nI 19) F dL_isSo_223 (by decide) ?_
                  refine V.ishr F dL_isSo_225 (fun z295 e295 => ?_)
                  refine V.iconst (v := nI 1) F dL_isSo_226 (by decide) ?_
                  refine V.isub F dL_isSo_227 (fun z296 e296 => ?_)
                  refine V.icmp_ne (tgt := 243) F dL_isSo_228 (by decide) (fun c297 => ?_) (fun c297 => ?_)
                  · skip
                    subst e266 e267 e268 e270 e272 e274 e275 e278 e279 e280 e283 e284 e285 e288 e289 e290 e291 e294 e295 e296; exact absurd rfl c297
                  · skip
                    refine V.aload_n F dL_isSo_231 rfl (lv_at hl 5 rfl) ?_
                    refine V.iload F dL_isSo_232 (lv_at hl 4 rfl) ?_
                    refine V.iconst (v := nI 5) F dL_isSo_234 (by decide) ?_
                    refine V.rdX F hE (c_L_sceneOf l E (nI_x hJ.g8 (by omega) (by omega)) (nI_r (M := 5) rfl (by decide) (by decide))) (kx_sceneOf F.2.2.2.2 ⟨Nat.le_of_ble_eq_true rfl, Nat.le_of_ble_eq_true rfl⟩) 7 22 (by rfl) rfl hl.1 (Nat.le_of_ble_eq_true rfl) dL_isSo_235 rfl ?_
                    refine V.topi (fun z298 e298 => ?_)
                    obtain rfl : (ppL qs zs fo rs hs cs H R x1 8) = z298 := (e298.trans (so_s5 hJ (by omega))).symm
                    refine V.iload F dL_isSo_238 (lv_at hl 3 rfl) ?_
                    refine V.icmp_eq (tgt := 245) F dL_isSo_240 (by decide) (fun c299 => ?_) (fun c299 => ?_)
                    · skip
                      refine V.iinc (j := 4) (lv' := fun z300 => [(11, .int z300), (10, .int z272), (9, .int z270), (13, .int (nI 8)), (12, .int (ppL qs zs fo rs hs cs H R x1 8)), (0, .ref d), (1, .int y), (2, .ref u1), (3, .ref u2), (4, .ref u3), (5, .ref u4), (6, .ref u5), (7, .ref u6), (8, .ref u7)]) F dL_isSo_245 hl rfl (by decide) (fun _ => rfl) (fun z300 e300 ls hl => ?_)
                      refine V.goto (tgt := 9) F dL_isSo_248 (by decide) ?_
                      have h301 : nI (x1 + 1) = z300 := (by subst e266 e267 e268 e270 e272 e274 e275 e278 e279 e280 e283 e284 e285 e288 e289 e290 e291 e294 e295 e296 e300; first | with_reducible rfl | (simp only [shL, opL, brL, c6, c6', c265, c265', c269, c269', c271, eq_true c276, eq_true c281, eq_true c286, eq_true c292, eq_true c297, eq_true c299, oi1n, nI_add, pk_mul, bI, and_true, true_and, and_false, false_and, and_self, or_true, true_or, or_false, false_or, or_self, not_true_eq_false, not_false_eq_true, if_true, if_false, ↓reduceIte] <;> rfl) | rfl)
                      have h302 : shL cs (x1 + 1) = z270 := (by subst e266 e267 e268 e270 e272 e274 e275 e278 e279 e280 e283 e284 e285 e288 e289 e290 e291 e294 e295 e296 e300; first | with_reducible rfl | (simp only [shL, opL, brL, c6, c6', c265, c265', c269, c269', c271, eq_true c276, eq_true c281, eq_true c286, eq_true c292, eq_true c297, eq_true c299, oi1n, nI_add, pk_mul, bI, and_true, true_and, and_false, false_and, and_self, or_true, true_or, or_false, false_or, or_self, not_true_eq_false, not_false_eq_true, if_true, if_false, ↓reduceIte] <;> rfl) | rfl)
                      have h303 : opL qs zs fo rs hs cs H R (x1 + 1) = z272 := (by subst e266 e267 e268 e270 e272 e274 e275 e278 e279 e280 e283 e284 e285 e288 e289 e290 e291 e294 e295 e296 e300; first | with_reducible rfl | (simp only [shL, opL, brL, c6, c6', c265, c265', c269, c269', c271, eq_true c276, eq_true c281, eq_true c286, eq_true c292, eq_true c297, eq_true c299, oi1n, nI_add, pk_mul, bI, and_true, true_and, and_false, false_and, and_self, or_true, true_or, or_false, false_or, or_self, not_true_eq_false, not_false_eq_true, if_true, if_false, ↓reduceIte] <;> rfl) | rfl)
                      exact ihx1 x1_lt trivial _ (lv_sub hl [0, 1, 2, 5, 6, 7, 8, 9, 10, 11, 12, 13] (by rw [h301, h302, h303]; rfl))
                    · skip
                      subst e266 e267 e268 e270 e272 e274 e275 e278 e279 e280 e283 e284 e285 e288 e289 e290 e291 e294 e295 e296; exact absurd rfl c299
        · skip
          refine V.iconst (v := nI 0) F dL_isSo_120 (by decide) ?_
          refine V.goto (tgt := 125) F dL_isSo_121 (by decide) ?_
          refine V.iadd F dL_isSo_125 (fun z304 e304 => ?_)
          refine V.istore (lv' := [(10, .int z304), (9, .int z270), (13, .int (nI 8)), (12, .int (ppL qs zs fo rs hs cs H R x1 8)), (11, .int (nI x1)), (0, .ref d), (1, .int y), (2, .ref u1), (3, .ref u2), (4, .ref u3), (5, .ref u4), (6, .ref u5), (7, .ref u6), (8, .ref u7)]) F dL_isSo_126 hl (by decide) rfl (fun ls hl => ?_)
          refine V.aload_n F dL_isSo_128 rfl (lv_at hl 5 rfl) ?_
          refine V.iload F dL_isSo_129 (lv_at hl 4 rfl) ?_
          refine V.iconst (v := nI 0) F dL_isSo_131 (by decide) ?_
          refine V.rdX F hE (c_L_sceneOf l E (nI_x hJ.g8 (by omega) (by omega)) (nI_r (M := 5) rfl (by decide) (by decide))) (kx_sceneOf F.2.2.2.2 ⟨Nat.le_of_ble_eq_true rfl, Nat.le_of_ble_eq_true rfl⟩) 7 22 (by rfl) rfl hl.1 (Nat.le_of_ble_eq_true rfl) dL_isSo_132 rfl ?_
          refine V.topi (fun z305 e305 => ?_)
          obtain rfl : (cs x1 &&& nI 7) = z305 := (e305.trans (so_s0 hJ (by omega))).symm
          refine V.aload F dL_isSo_135 (lv_at hl 13 rfl) ?_
          refine V.iload F dL_isSo_137 (lv_at hl 4 rfl) ?_
          refine V.iadn (i := x1) F hE 6 rfl (by omega) (by omega) dL_isSo_139 (fun z306 e306 => ?_)
          refine V.bipush (v := nI 7) F dL_isSo_140 (by decide) ?_
          refine V.iand F dL_isSo_142 (fun z307 e307 => ?_)
          refine V.icmp_ne (tgt := 243) F dL_isSo_143 (by decide) (fun c308 => ?_) (fun c308 => ?_)
          · skip
            subst e266 e267 e268 e270 e304 e306 e307; exact absurd rfl c308
          · skip
            refine V.aload_n F dL_isSo_146 rfl (lv_at hl 5 rfl) ?_
            refine V.iload F dL_isSo_147 (lv_at hl 4 rfl) ?_
            refine V.iconst (v := nI 1) F dL_isSo_149 (by decide) ?_
            refine V.rdX F hE (c_L_sceneOf l E (nI_x hJ.g8 (by omega) (by omega)) (nI_r (M := 5) rfl (by decide) (by decide))) (kx_sceneOf F.2.2.2.2 ⟨Nat.le_of_ble_eq_true rfl, Nat.le_of_ble_eq_true rfl⟩) 7 22 (by rfl) rfl hl.1 (Nat.le_of_ble_eq_true rfl) dL_isSo_150 rfl ?_
            refine V.topi (fun z309 e309 => ?_)
            obtain rfl : (shx (cs x1) 3 &&& nI 7) = z309 := (e309.trans (so_s1 hJ (by omega))).symm
            refine V.aload F dL_isSo_153 (lv_at hl 13 rfl) ?_
            refine V.iload F dL_isSo_155 (lv_at hl 4 rfl) ?_
            refine V.iadn (i := x1) F hE 6 rfl (by omega) (by omega) dL_isSo_157 (fun z310 e310 => ?_)
            refine V.iconst (v := nI 3) F dL_isSo_158 (by decide) ?_
            refine V.ishr F dL_isSo_159 (fun z311 e311 => ?_)
            refine V.bipush (v := nI 7) F dL_isSo_160 (by decide) ?_
            refine V.iand F dL_isSo_162 (fun z312 e312 => ?_)
            refine V.icmp_ne (tgt := 243) F dL_isSo_163 (by decide) (fun c313 => ?_) (fun c313 => ?_)
            · skip
              subst e266 e267 e268 e270 e304 e306 e307 e310 e311 e312; exact absurd rfl c313
            · skip
              refine V.aload_n F dL_isSo_166 rfl (lv_at hl 5 rfl) ?_
              refine V.iload F dL_isSo_167 (lv_at hl 4 rfl) ?_
              refine V.iconst (v := nI 2) F dL_isSo_169 (by decide) ?_
              refine V.rdX F hE (c_L_sceneOf l E (nI_x hJ.g8 (by omega) (by omega)) (nI_r (M := 5) rfl (by decide) (by decide))) (kx_sceneOf F.2.2.2.2 ⟨Nat.le_of_ble_eq_true rfl, Nat.le_of_ble_eq_true rfl⟩) 7 22 (by rfl) rfl hl.1 (Nat.le_of_ble_eq_true rfl) dL_isSo_170 rfl ?_
              refine V.topi (fun z314 e314 => ?_)
              obtain rfl : (shx (cs x1) 6 &&& nI 7) = z314 := (e314.trans (so_s2 hJ (by omega))).symm
              refine V.aload F dL_isSo_173 (lv_at hl 13 rfl) ?_
              refine V.iload F dL_isSo_175 (lv_at hl 4 rfl) ?_
              refine V.iadn (i := x1) F hE 6 rfl (by omega) (by omega) dL_isSo_177 (fun z315 e315 => ?_)
              refine V.bipush (v := nI 6) F dL_isSo_178 (by decide) ?_
              refine V.ishr F dL_isSo_180 (fun z316 e316 => ?_)
              refine V.bipush (v := nI 7) F dL_isSo_181 (by decide) ?_
              refine V.iand F dL_isSo_183 (fun z317 e317 => ?_)
              refine V.icmp_ne (tgt := 243) F dL_isSo_184 (by decide) (fun c318 => ?_) (fun c318 => ?_)
              · skip
                subst e266 e267 e268 e270 e304 e306 e307 e310 e311 e312 e315 e316 e317; exact absurd rfl c318
              · skip
                refine V.aload_n F dL_isSo_187 rfl (lv_at hl 5 rfl) ?_
                refine V.iload F dL_isSo_188 (lv_at hl 4 rfl) ?_
                refine V.iconst (v := nI 3) F dL_isSo_190 (by decide) ?_
                refine V.rdX F hE (c_L_sceneOf l E (nI_x hJ.g8 (by omega) (by omega)) (nI_r (M := 5) rfl (by decide) (by decide))) (kx_sceneOf F.2.2.2.2 ⟨Nat.le_of_ble_eq_true rfl, Nat.le_of_ble_eq_true rfl⟩) 7 22 (by rfl) rfl hl.1 (Nat.le_of_ble_eq_true rfl) dL_isSo_191 rfl ?_
                refine V.topi (fun z319 e319 => ?_)
                obtain rfl : ((shx (cs x1) 9 &&& nI 1023) - nI 1) = z319 := (e319.trans (so_s3 hJ (by omega))).symm
                refine V.aload F dL_isSo_194 (lv_at hl 13 rfl) ?_
                refine V.iload F dL_isSo_196 (lv_at hl 4 rfl) ?_
                refine V.iadn (i := x1) F hE 6 rfl (by omega) (by omega) dL_isSo_198 (fun z320 e320 => ?_)
                refine V.bipush (v := nI 9) F dL_isSo_199 (by decide) ?_
                refine V.ishr F dL_isSo_201 (fun z321 e321 => ?_)
                refine V.sipush (v := nI 1023) F dL_isSo_202 (by decide) ?_
                refine V.iand F dL_isSo_205 (fun z322 e322 => ?_)
                refine V.iconst (v := nI 1) F dL_isSo_206 (by decide) ?_
                refine V.isub F dL_isSo_207 (fun z323 e323 => ?_)
                refine V.icmp_ne (tgt := 243) F dL_isSo_208 (by decide) (fun c324 => ?_) (fun c324 => ?_)
                · skip
                  subst e266 e267 e268 e270 e304 e306 e307 e310 e311 e312 e315 e316 e317 e320 e321 e322 e323; exact absurd rfl c324
                · skip
                  refine V.aload_n F dL_isSo_211 rfl (lv_at hl 5 rfl) ?_
                  refine V.iload F dL_isSo_212 (lv_at hl 4 rfl) ?_
                  refine V.iconst (v := nI 4) F dL_isSo_214 (by decide) ?_
                  refine V.rdX F hE (c_L_sceneOf l E (nI_x hJ.g8 (by omega) (by omega)) (nI_r (M := 5) rfl (by decide) (by decide))) (kx_sceneOf F.2.2.2.2 ⟨Nat.le_of_ble_eq_true rfl, Nat.le_of_ble_eq_true rfl⟩) 7 22 (by rfl) rfl hl.1 (Nat.le_of_ble_eq_true rfl) dL_isSo_215 rfl ?_
                  refine V.topi (fun z325 e325 => ?_)
                  obtain rfl : (shx (cs x1) 19 - nI 1) = z325 := (e325.trans (so_s4 hJ (by omega))).symm
                  refine V.aload F dL_isSo_218 (lv_at hl 13 rfl) ?_
                  refine V.iload F dL_isSo_220 (lv_at hl 4 rfl) ?_
                  refine V.iadn (i := x1) F hE 6 rfl (by omega) (by omega) dL_isSo_222 (fun z326 e326 => ?_)
                  refine V.bipush (v := nI 19) F dL_isSo_223 (by decide) ?_
                  refine V.ishr F dL_isSo_225 (fun z327 e327 => ?_)
                  refine V.iconst (v := nI 1) F dL_isSo_226 (by decide) ?_
                  refine V.isub F dL_isSo_227 (fun z328 e328 => ?_)
                  refine V.icmp_ne (tgt := 243) F dL_isSo_228 (by decide) (fun c329 => ?_) (fun c329 => ?_)
                  · skip
                    subst e266 e267 e268 e270 e304 e306 e307 e310 e311 e312 e315 e316 e317 e320 e321 e322 e323 e326 e327 e328; exact absurd rfl c329
                  · skip
                    refine V.aload_n F dL_isSo_231 rfl (lv_at hl 5 rfl) ?_
                    refine V.iload F dL_isSo_232 (lv_at hl 4 rfl) ?_
                    refine V.iconst (v := nI 5) F dL_isSo_234 (by decide) ?_
                    refine V.rdX F hE (c_L_sceneOf l E (nI_x hJ.g8 (by omega) (by omega)) (nI_r (M := 5) rfl (by decide) (by decide))) (kx_sceneOf F.2.2.2.2 ⟨Nat.le_of_ble_eq_true rfl, Nat.le_of_ble_eq_true rfl⟩) 7 22 (by rfl) rfl hl.1 (Nat.le_of_ble_eq_true rfl) dL_isSo_235 rfl ?_
                    refine V.topi (fun z330 e330 => ?_)
                    obtain rfl : (ppL qs zs fo rs hs cs H R x1 8) = z330 := (e330.trans (so_s5 hJ (by omega))).symm
                    refine V.iload F dL_isSo_238 (lv_at hl 3 rfl) ?_
                    refine V.icmp_eq (tgt := 245) F dL_isSo_240 (by decide) (fun c331 => ?_) (fun c331 => ?_)
                    · skip
                      refine V.iinc (j := 4) (lv' := fun z332 => [(11, .int z332), (10, .int z304), (9, .int z270), (13, .int (nI 8)), (12, .int (ppL qs zs fo rs hs cs H R x1 8)), (0, .ref d), (1, .int y), (2, .ref u1), (3, .ref u2), (4, .ref u3), (5, .ref u4), (6, .ref u5), (7, .ref u6), (8, .ref u7)]) F dL_isSo_245 hl rfl (by decide) (fun _ => rfl) (fun z332 e332 ls hl => ?_)
                      refine V.goto (tgt := 9) F dL_isSo_248 (by decide) ?_
                      have h333 : nI (x1 + 1) = z332 := (by subst e266 e267 e268 e270 e304 e306 e307 e310 e311 e312 e315 e316 e317 e320 e321 e322 e323 e326 e327 e328 e332; first | with_reducible rfl | (simp only [shL, opL, brL, c6, c6', c265, c265', c269, c269', eq_true c271, eq_true c308, eq_true c313, eq_true c318, eq_true c324, eq_true c329, eq_true c331, oi1n, nI_add, pk_mul, bI, and_true, true_and, and_false, false_and, and_self, or_true, true_or, or_false, false_or, or_self, not_true_eq_false, not_false_eq_true, if_true, if_false, ↓reduceIte] <;> rfl) | rfl)
                      have h334 : shL cs (x1 + 1) = z270 := (by subst e266 e267 e268 e270 e304 e306 e307 e310 e311 e312 e315 e316 e317 e320 e321 e322 e323 e326 e327 e328 e332; first | with_reducible rfl | (simp only [shL, opL, brL, c6, c6', c265, c265', c269, c269', eq_true c271, eq_true c308, eq_true c313, eq_true c318, eq_true c324, eq_true c329, eq_true c331, oi1n, nI_add, pk_mul, bI, and_true, true_and, and_false, false_and, and_self, or_true, true_or, or_false, false_or, or_self, not_true_eq_false, not_false_eq_true, if_true, if_false, ↓reduceIte] <;> rfl) | rfl)
                      have h335 : opL qs zs fo rs hs cs H R (x1 + 1) = z304 := (by subst e266 e267 e268 e270 e304 e306 e307 e310 e311 e312 e315 e316 e317 e320 e321 e322 e323 e326 e327 e328 e332; first | with_reducible rfl | (simp only [shL, opL, brL, c6, c6', c265, c265', c269, c269', eq_true c271, eq_true c308, eq_true c313, eq_true c318, eq_true c324, eq_true c329, eq_true c331, oi1n, nI_add, pk_mul, bI, and_true, true_and, and_false, false_and, and_self, or_true, true_or, or_false, false_or, or_self, not_true_eq_false, not_false_eq_true, if_true, if_false, ↓reduceIte] <;> rfl) | rfl)
                      exact ihx1 x1_lt trivial _ (lv_sub hl [0, 1, 2, 5, 6, 7, 8, 9, 10, 11, 12, 13] (by rw [h333, h334, h335]; rfl))
                    · skip
                      subst e266 e267 e268 e270 e304 e306 e307 e310 e311 e312 e315 e316 e317 e320 e321 e322 e323 e326 e327 e328; exact absurd rfl c331
      · skip
        refine V.iconst (v := nI 1) F dL_isSo_105 (by decide) ?_
        refine V.goto (tgt := 110) F dL_isSo_106 (by decide) ?_
        refine V.iadd F dL_isSo_110 (fun z336 e336 => ?_)
        refine V.istore (lv' := [(9, .int z336), (13, .int (nI 8)), (12, .int (ppL qs zs fo rs hs cs H R x1 8)), (11, .int (nI x1)), (10, .int (opL qs zs fo rs hs cs H R x1)), (0, .ref d), (1, .int y), (2, .ref u1), (3, .ref u2), (4, .ref u3), (5, .ref u4), (6, .ref u5), (7, .ref u6), (8, .ref u7)]) F dL_isSo_111 hl (by decide) rfl (fun ls hl => ?_)
        refine V.iload F dL_isSo_113 (lv_at hl 4 rfl) ?_
        refine V.iload F dL_isSo_115 (lv_at hl 2 rfl) ?_
        refine V.if_ne (tgt := 124) F dL_isSo_117 (by decide) (fun c337 => ?_) (fun c337 => ?_)
        · skip
          refine V.iconst (v := nI 1) F dL_isSo_124 (by decide) ?_
          refine V.iadd F dL_isSo_125 (fun z338 e338 => ?_)
          refine V.istore (lv' := [(10, .int z338), (9, .int z336), (13, .int (nI 8)), (12, .int (ppL qs zs fo rs hs cs H R x1 8)), (11, .int (nI x1)), (0, .ref d), (1, .int y), (2, .ref u1), (3, .ref u2), (4, .ref u3), (5, .ref u4), (6, .ref u5), (7, .ref u6), (8, .ref u7)]) F dL_isSo_126 hl (by decide) rfl (fun ls hl => ?_)
          refine V.aload_n F dL_isSo_128 rfl (lv_at hl 5 rfl) ?_
          refine V.iload F dL_isSo_129 (lv_at hl 4 rfl) ?_
          refine V.iconst (v := nI 0) F dL_isSo_131 (by decide) ?_
          refine V.rdX F hE (c_L_sceneOf l E (nI_x hJ.g8 (by omega) (by omega)) (nI_r (M := 5) rfl (by decide) (by decide))) (kx_sceneOf F.2.2.2.2 ⟨Nat.le_of_ble_eq_true rfl, Nat.le_of_ble_eq_true rfl⟩) 7 22 (by rfl) rfl hl.1 (Nat.le_of_ble_eq_true rfl) dL_isSo_132 rfl ?_
          refine V.topi (fun z339 e339 => ?_)
          obtain rfl : (cs x1 &&& nI 7) = z339 := (e339.trans (so_s0 hJ (by omega))).symm
          refine V.aload F dL_isSo_135 (lv_at hl 13 rfl) ?_
          refine V.iload F dL_isSo_137 (lv_at hl 4 rfl) ?_
          refine V.iadn (i := x1) F hE 6 rfl (by omega) (by omega) dL_isSo_139 (fun z340 e340 => ?_)
          refine V.bipush (v := nI 7) F dL_isSo_140 (by decide) ?_
          refine V.iand F dL_isSo_142 (fun z341 e341 => ?_)
          refine V.icmp_ne (tgt := 243) F dL_isSo_143 (by decide) (fun c342 => ?_) (fun c342 => ?_)
          · skip
            subst e266 e267 e268 e336 e338 e340 e341; exact absurd rfl c342
          · skip
            refine V.aload_n F dL_isSo_146 rfl (lv_at hl 5 rfl) ?_
            refine V.iload F dL_isSo_147 (lv_at hl 4 rfl) ?_
            refine V.iconst (v := nI 1) F dL_isSo_149 (by decide) ?_
            refine V.rdX F hE (c_L_sceneOf l E (nI_x hJ.g8 (by omega) (by omega)) (nI_r (M := 5) rfl (by decide) (by decide))) (kx_sceneOf F.2.2.2.2 ⟨Nat.le_of_ble_eq_true rfl, Nat.le_of_ble_eq_true rfl⟩) 7 22 (by rfl) rfl hl.1 (Nat.le_of_ble_eq_true rfl) dL_isSo_150 rfl ?_
            refine V.topi (fun z343 e343 => ?_)
            obtain rfl : (shx (cs x1) 3 &&& nI 7) = z343 := (e343.trans (so_s1 hJ (by omega))).symm
            refine V.aload F dL_isSo_153 (lv_at hl 13 rfl) ?_
            refine V.iload F dL_isSo_155 (lv_at hl 4 rfl) ?_
            refine V.iadn (i := x1) F hE 6 rfl (by omega) (by omega) dL_isSo_157 (fun z344 e344 => ?_)
            refine V.iconst (v := nI 3) F dL_isSo_158 (by decide) ?_
            refine V.ishr F dL_isSo_159 (fun z345 e345 => ?_)
            refine V.bipush (v := nI 7) F dL_isSo_160 (by decide) ?_
            refine V.iand F dL_isSo_162 (fun z346 e346 => ?_)
            refine V.icmp_ne (tgt := 243) F dL_isSo_163 (by decide) (fun c347 => ?_) (fun c347 => ?_)
            · skip
              subst e266 e267 e268 e336 e338 e340 e341 e344 e345 e346; exact absurd rfl c347
            · skip
              refine V.aload_n F dL_isSo_166 rfl (lv_at hl 5 rfl) ?_
              refine V.iload F dL_isSo_167 (lv_at hl 4 rfl) ?_
              refine V.iconst (v := nI 2) F dL_isSo_169 (by decide) ?_
              refine V.rdX F hE (c_L_sceneOf l E (nI_x hJ.g8 (by omega) (by omega)) (nI_r (M := 5) rfl (by decide) (by decide))) (kx_sceneOf F.2.2.2.2 ⟨Nat.le_of_ble_eq_true rfl, Nat.le_of_ble_eq_true rfl⟩) 7 22 (by rfl) rfl hl.1 (Nat.le_of_ble_eq_true rfl) dL_isSo_170 rfl ?_
              refine V.topi (fun z348 e348 => ?_)
              obtain rfl : (shx (cs x1) 6 &&& nI 7) = z348 := (e348.trans (so_s2 hJ (by omega))).symm
              refine V.aload F dL_isSo_173 (lv_at hl 13 rfl) ?_
              refine V.iload F dL_isSo_175 (lv_at hl 4 rfl) ?_
              refine V.iadn (i := x1) F hE 6 rfl (by omega) (by omega) dL_isSo_177 (fun z349 e349 => ?_)
              refine V.bipush (v := nI 6) F dL_isSo_178 (by decide) ?_
              refine V.ishr F dL_isSo_180 (fun z350 e350 => ?_)
              refine V.bipush (v := nI 7) F dL_isSo_181 (by decide) ?_
              refine V.iand F dL_isSo_183 (fun z351 e351 => ?_)
              refine V.icmp_ne (tgt := 243) F dL_isSo_184 (by decide) (fun c352 => ?_) (fun c352 => ?_)
              · skip
                subst e266 e267 e268 e336 e338 e340 e341 e344 e345 e346 e349 e350 e351; exact absurd rfl c352
              · skip
                refine V.aload_n F dL_isSo_187 rfl (lv_at hl 5 rfl) ?_
                refine V.iload F dL_isSo_188 (lv_at hl 4 rfl) ?_
                refine V.iconst (v := nI 3) F dL_isSo_190 (by decide) ?_
                refine V.rdX F hE (c_L_sceneOf l E (nI_x hJ.g8 (by omega) (by omega)) (nI_r (M := 5) rfl (by decide) (by decide))) (kx_sceneOf F.2.2.2.2 ⟨Nat.le_of_ble_eq_true rfl, Nat.le_of_ble_eq_true rfl⟩) 7 22 (by rfl) rfl hl.1 (Nat.le_of_ble_eq_true rfl) dL_isSo_191 rfl ?_
                refine V.topi (fun z353 e353 => ?_)
                obtain rfl : ((shx (cs x1) 9 &&& nI 1023) - nI 1) = z353 := (e353.trans (so_s3 hJ (by omega))).symm
                refine V.aload F dL_isSo_194 (lv_at hl 13 rfl) ?_
                refine V.iload F dL_isSo_196 (lv_at hl 4 rfl) ?_
                refine V.iadn (i := x1) F hE 6 rfl (by omega) (by omega) dL_isSo_198 (fun z354 e354 => ?_)
                refine V.bipush (v := nI 9) F dL_isSo_199 (by decide) ?_
                refine V.ishr F dL_isSo_201 (fun z355 e355 => ?_)
                refine V.sipush (v := nI 1023) F dL_isSo_202 (by decide) ?_
                refine V.iand F dL_isSo_205 (fun z356 e356 => ?_)
                refine V.iconst (v := nI 1) F dL_isSo_206 (by decide) ?_
                refine V.isub F dL_isSo_207 (fun z357 e357 => ?_)
                refine V.icmp_ne (tgt := 243) F dL_isSo_208 (by decide) (fun c358 => ?_) (fun c358 => ?_)
                · skip
                  subst e266 e267 e268 e336 e338 e340 e341 e344 e345 e346 e349 e350 e351 e354 e355 e356 e357; exact absurd rfl c358
                · skip
                  refine V.aload_n F dL_isSo_211 rfl (lv_at hl 5 rfl) ?_
                  refine V.iload F dL_isSo_212 (lv_at hl 4 rfl) ?_
                  refine V.iconst (v := nI 4) F dL_isSo_214 (by decide) ?_
                  refine V.rdX F hE (c_L_sceneOf l E (nI_x hJ.g8 (by omega) (by omega)) (nI_r (M := 5) rfl (by decide) (by decide))) (kx_sceneOf F.2.2.2.2 ⟨Nat.le_of_ble_eq_true rfl, Nat.le_of_ble_eq_true rfl⟩) 7 22 (by rfl) rfl hl.1 (Nat.le_of_ble_eq_true rfl) dL_isSo_215 rfl ?_
                  refine V.topi (fun z359 e359 => ?_)
                  obtain rfl : (shx (cs x1) 19 - nI 1) = z359 := (e359.trans (so_s4 hJ (by omega))).symm
                  refine V.aload F dL_isSo_218 (lv_at hl 13 rfl) ?_
                  refine V.iload F dL_isSo_220 (lv_at hl 4 rfl) ?_
                  refine V.iadn (i := x1) F hE 6 rfl (by omega) (by omega) dL_isSo_222 (fun z360 e360 => ?_)
                  refine V.bipush (v := nI 19) F dL_isSo_223 (by decide) ?_
                  refine V.ishr F dL_isSo_225 (fun z361 e361 => ?_)
                  refine V.iconst (v := nI 1) F dL_isSo_226 (by decide) ?_
                  refine V.isub F dL_isSo_227 (fun z362 e362 => ?_)
                  refine V.icmp_ne (tgt := 243) F dL_isSo_228 (by decide) (fun c363 => ?_) (fun c363 => ?_)
                  · skip
                    subst e266 e267 e268 e336 e338 e340 e341 e344 e345 e346 e349 e350 e351 e354 e355 e356 e357 e360 e361 e362; exact absurd rfl c363
                  · skip
                    refine V.aload_n F dL_isSo_231 rfl (lv_at hl 5 rfl) ?_
                    refine V.iload F dL_isSo_232 (lv_at hl 4 rfl) ?_
                    refine V.iconst (v := nI 5) F dL_isSo_234 (by decide) ?_
                    refine V.rdX F hE (c_L_sceneOf l E (nI_x hJ.g8 (by omega) (by omega)) (nI_r (M := 5) rfl (by decide) (by decide))) (kx_sceneOf F.2.2.2.2 ⟨Nat.le_of_ble_eq_true rfl, Nat.le_of_ble_eq_true rfl⟩) 7 22 (by rfl) rfl hl.1 (Nat.le_of_ble_eq_true rfl) dL_isSo_235 rfl ?_
                    refine V.topi (fun z364 e364 => ?_)
                    obtain rfl : (ppL qs zs fo rs hs cs H R x1 8) = z364 := (e364.trans (so_s5 hJ (by omega))).symm
                    refine V.iload F dL_isSo_238 (lv_at hl 3 rfl) ?_
                    refine V.icmp_eq (tgt := 245) F dL_isSo_240 (by decide) (fun c365 => ?_) (fun c365 => ?_)
                    · skip
                      refine V.iinc (j := 4) (lv' := fun z366 => [(11, .int z366), (10, .int z338), (9, .int z336), (13, .int (nI 8)), (12, .int (ppL qs zs fo rs hs cs H R x1 8)), (0, .ref d), (1, .int y), (2, .ref u1), (3, .ref u2), (4, .ref u3), (5, .ref u4), (6, .ref u5), (7, .ref u6), (8, .ref u7)]) F dL_isSo_245 hl rfl (by decide) (fun _ => rfl) (fun z366 e366 ls hl => ?_)
                      refine V.goto (tgt := 9) F dL_isSo_248 (by decide) ?_
                      have h367 : nI (x1 + 1) = z366 := (by subst e266 e267 e268 e336 e338 e340 e341 e344 e345 e346 e349 e350 e351 e354 e355 e356 e357 e360 e361 e362 e366; first | with_reducible rfl | (simp only [shL, opL, brL, c6, c6', c265, c265', c269, c269', c337, eq_true c342, eq_true c347, eq_true c352, eq_true c358, eq_true c363, eq_true c365, oi1n, nI_add, pk_mul, bI, and_true, true_and, and_false, false_and, and_self, or_true, true_or, or_false, false_or, or_self, not_true_eq_false, not_false_eq_true, if_true, if_false, ↓reduceIte] <;> rfl) | rfl)
                      have h368 : shL cs (x1 + 1) = z336 := (by subst e266 e267 e268 e336 e338 e340 e341 e344 e345 e346 e349 e350 e351 e354 e355 e356 e357 e360 e361 e362 e366; first | with_reducible rfl | (simp only [shL, opL, brL, c6, c6', c265, c265', c269, c269', c337, eq_true c342, eq_true c347, eq_true c352, eq_true c358, eq_true c363, eq_true c365, oi1n, nI_add, pk_mul, bI, and_true, true_and, and_false, false_and, and_self, or_true, true_or, or_false, false_or, or_self, not_true_eq_false, not_false_eq_true, if_true, if_false, ↓reduceIte] <;> rfl) | rfl)
                      have h369 : opL qs zs fo rs hs cs H R (x1 + 1) = z338 := (by subst e266 e267 e268 e336 e338 e340 e341 e344 e345 e346 e349 e350 e351 e354 e355 e356 e357 e360 e361 e362 e366; first | with_reducible rfl | (simp only [shL, opL, brL, c6, c6', c265, c265', c269, c269', c337, eq_true c342, eq_true c347, eq_true c352, eq_true c358, eq_true c363, eq_true c365, oi1n, nI_add, pk_mul, bI, and_true, true_and, and_false, false_and, and_self, or_true, true_or, or_false, false_or, or_self, not_true_eq_false, not_false_eq_true, if_true, if_false, ↓reduceIte] <;> rfl) | rfl)
                      exact ihx1 x1_lt trivial _ (lv_sub hl [0, 1, 2, 5, 6, 7, 8, 9, 10, 11, 12, 13] (by rw [h367, h368, h369]; rfl))
                    · skip
                      subst e266 e267 e268 e336 e338 e340 e341 e344 e345 e346 e349 e350 e351 e354 e355 e356 e357 e360 e361 e362; exact absurd rfl c365
        · skip
          refine V.iconst (v := nI 0) F dL_isSo_120 (by decide) ?_
          refine V.goto (tgt := 125) F dL_isSo_121 (by decide) ?_
          refine V.iadd F dL_isSo_125 (fun z370 e370 => ?_)
          refine V.istore (lv' := [(10, .int z370), (9, .int z336), (13, .int (nI 8)), (12, .int (ppL qs zs fo rs hs cs H R x1 8)), (11, .int (nI x1)), (0, .ref d), (1, .int y), (2, .ref u1), (3, .ref u2), (4, .ref u3), (5, .ref u4), (6, .ref u5), (7, .ref u6), (8, .ref u7)]) F dL_isSo_126 hl (by decide) rfl (fun ls hl => ?_)
          refine V.aload_n F dL_isSo_128 rfl (lv_at hl 5 rfl) ?_
          refine V.iload F dL_isSo_129 (lv_at hl 4 rfl) ?_
          refine V.iconst (v := nI 0) F dL_isSo_131 (by decide) ?_
          refine V.rdX F hE (c_L_sceneOf l E (nI_x hJ.g8 (by omega) (by omega)) (nI_r (M := 5) rfl (by decide) (by decide))) (kx_sceneOf F.2.2.2.2 ⟨Nat.le_of_ble_eq_true rfl, Nat.le_of_ble_eq_true rfl⟩) 7 22 (by rfl) rfl hl.1 (Nat.le_of_ble_eq_true rfl) dL_isSo_132 rfl ?_
          refine V.topi (fun z371 e371 => ?_)
          obtain rfl : (cs x1 &&& nI 7) = z371 := (e371.trans (so_s0 hJ (by omega))).symm
          refine V.aload F dL_isSo_135 (lv_at hl 13 rfl) ?_
          refine V.iload F dL_isSo_137 (lv_at hl 4 rfl) ?_
          refine V.iadn (i := x1) F hE 6 rfl (by omega) (by omega) dL_isSo_139 (fun z372 e372 => ?_)
          refine V.bipush (v := nI 7) F dL_isSo_140 (by decide) ?_
          refine V.iand F dL_isSo_142 (fun z373 e373 => ?_)
          refine V.icmp_ne (tgt := 243) F dL_isSo_143 (by decide) (fun c374 => ?_) (fun c374 => ?_)
          · skip
            subst e266 e267 e268 e336 e370 e372 e373; exact absurd rfl c374
          · skip
            refine V.aload_n F dL_isSo_146 rfl (lv_at hl 5 rfl) ?_
            refine V.iload F dL_isSo_147 (lv_at hl 4 rfl) ?_
            refine V.iconst (v := nI 1) F dL_isSo_149 (by decide) ?_
            refine V.rdX F hE (c_L_sceneOf l E (nI_x hJ.g8 (by omega) (by omega)) (nI_r (M := 5) rfl (by decide) (by decide))) (kx_sceneOf F.2.2.2.2 ⟨Nat.le_of_ble_eq_true rfl, Nat.le_of_ble_eq_true rfl⟩) 7 22 (by rfl) rfl hl.1 (Nat.le_of_ble_eq_true rfl) dL_isSo_150 rfl ?_
            refine V.topi (fun z375 e375 => ?_)
            obtain rfl : (shx (cs x1) 3 &&& nI 7) = z375 := (e375.trans (so_s1 hJ (by omega))).symm
            refine V.aload F dL_isSo_153 (lv_at hl 13 rfl) ?_
            refine V.iload F dL_isSo_155 (lv_at hl 4 rfl) ?_
            refine V.iadn (i := x1) F hE 6 rfl (by omega) (by omega) dL_isSo_157 (fun z376 e376 => ?_)
            refine V.iconst (v := nI 3) F dL_isSo_158 (by decide) ?_
            refine V.ishr F dL_isSo_159 (fun z377 e377 => ?_)
            refine V.bipush (v := nI 7) F dL_isSo_160 (by decide) ?_
            refine V.iand F dL_isSo_162 (fun z378 e378 => ?_)
            refine V.icmp_ne (tgt := 243) F dL_isSo_163 (by decide) (fun c379 => ?_) (fun c379 => ?_)
            · skip
              subst e266 e267 e268 e336 e370 e372 e373 e376 e377 e378; exact absurd rfl c379
            · skip
              refine V.aload_n F dL_isSo_166 rfl (lv_at hl 5 rfl) ?_
              refine V.iload F dL_isSo_167 (lv_at hl 4 rfl) ?_
              refine V.iconst (v := nI 2) F dL_isSo_169 (by decide) ?_
              refine V.rdX F hE (c_L_sceneOf l E (nI_x hJ.g8 (by omega) (by omega)) (nI_r (M := 5) rfl (by decide) (by decide))) (kx_sceneOf F.2.2.2.2 ⟨Nat.le_of_ble_eq_true rfl, Nat.le_of_ble_eq_true rfl⟩) 7 22 (by rfl) rfl hl.1 (Nat.le_of_ble_eq_true rfl) dL_isSo_170 rfl ?_
              refine V.topi (fun z380 e380 => ?_)
              obtain rfl : (shx (cs x1) 6 &&& nI 7) = z380 := (e380.trans (so_s2 hJ (by omega))).symm
              refine V.aload F dL_isSo_173 (lv_at hl 13 rfl) ?_
              refine V.iload F dL_isSo_175 (lv_at hl 4 rfl) ?_
              refine V.iadn (i := x1) F hE 6 rfl (by omega) (by omega) dL_isSo_177 (fun z381 e381 => ?_)
              refine V.bipush (v := nI 6) F dL_isSo_178 (by decide) ?_
              refine V.ishr F dL_isSo_180 (fun z382 e382 => ?_)
              refine V.bipush (v := nI 7) F dL_isSo_181 (by decide) ?_
              refine V.iand F dL_isSo_183 (fun z383 e383 => ?_)
              refine V.icmp_ne (tgt := 243) F dL_isSo_184 (by decide) (fun c384 => ?_) (fun c384 => ?_)
              · skip
                subst e266 e267 e268 e336 e370 e372 e373 e376 e377 e378 e381 e382 e383; exact absurd rfl c384
              · skip
                refine V.aload_n F dL_isSo_187 rfl (lv_at hl 5 rfl) ?_
                refine V.iload F dL_isSo_188 (lv_at hl 4 rfl) ?_
                refine V.iconst (v := nI 3) F dL_isSo_190 (by decide) ?_
                refine V.rdX F hE (c_L_sceneOf l E (nI_x hJ.g8 (by omega) (by omega)) (nI_r (M := 5) rfl (by decide) (by decide))) (kx_sceneOf F.2.2.2.2 ⟨Nat.le_of_ble_eq_true rfl, Nat.le_of_ble_eq_true rfl⟩) 7 22 (by rfl) rfl hl.1 (Nat.le_of_ble_eq_true rfl) dL_isSo_191 rfl ?_
                refine V.topi (fun z385 e385 => ?_)
                obtain rfl : ((shx (cs x1) 9 &&& nI 1023) - nI 1) = z385 := (e385.trans (so_s3 hJ (by omega))).symm
                refine V.aload F dL_isSo_194 (lv_at hl 13 rfl) ?_
                refine V.iload F dL_isSo_196 (lv_at hl 4 rfl) ?_
                refine V.iadn (i := x1) F hE 6 rfl (by omega) (by omega) dL_isSo_198 (fun z386 e386 => ?_)
                refine V.bipush (v := nI 9) F dL_isSo_199 (by decide) ?_
                refine V.ishr F dL_isSo_201 (fun z387 e387 => ?_)
                refine V.sipush (v := nI 1023) F dL_isSo_202 (by decide) ?_
                refine V.iand F dL_isSo_205 (fun z388 e388 => ?_)
                refine V.iconst (v := nI 1) F dL_isSo_206 (by decide) ?_
                refine V.isub F dL_isSo_207 (fun z389 e389 => ?_)
                refine V.icmp_ne (tgt := 243) F dL_isSo_208 (by decide) (fun c390 => ?_) (fun c390 => ?_)
                · skip
                  subst e266 e267 e268 e336 e370 e372 e373 e376 e377 e378 e381 e382 e383 e386 e387 e388 e389; exact absurd rfl c390
                · skip
                  refine V.aload_n F dL_isSo_211 rfl (lv_at hl 5 rfl) ?_
                  refine V.iload F dL_isSo_212 (lv_at hl 4 rfl) ?_
                  refine V.iconst (v := nI 4) F dL_isSo_214 (by decide) ?_
                  refine V.rdX F hE (c_L_sceneOf l E (nI_x hJ.g8 (by omega) (by omega)) (nI_r (M := 5) rfl (by decide) (by decide))) (kx_sceneOf F.2.2.2.2 ⟨Nat.le_of_ble_eq_true rfl, Nat.le_of_ble_eq_true rfl⟩) 7 22 (by rfl) rfl hl.1 (Nat.le_of_ble_eq_true rfl) dL_isSo_215 rfl ?_
                  refine V.topi (fun z391 e391 => ?_)
                  obtain rfl : (shx (cs x1) 19 - nI 1) = z391 := (e391.trans (so_s4 hJ (by omega))).symm
                  refine V.aload F dL_isSo_218 (lv_at hl 13 rfl) ?_
                  refine V.iload F dL_isSo_220 (lv_at hl 4 rfl) ?_
                  refine V.iadn (i := x1) F hE 6 rfl (by omega) (by omega) dL_isSo_222 (fun z392 e392 => ?_)
                  refine V.bipush (v := nI 19) F dL_isSo_223 (by decide) ?_
                  refine V.ishr F dL_isSo_225 (fun z393 e393 => ?_)
                  refine V.iconst (v := nI 1) F dL_isSo_226 (by decide) ?_
                  refine V.isub F dL_isSo_227 (fun z394 e394 => ?_)
                  refine V.icmp_ne (tgt := 243) F dL_isSo_228 (by decide) (fun c395 => ?_) (fun c395 => ?_)
                  · skip
                    subst e266 e267 e268 e336 e370 e372 e373 e376 e377 e378 e381 e382 e383 e386 e387 e388 e389 e392 e393 e394; exact absurd rfl c395
                  · skip
                    refine V.aload_n F dL_isSo_231 rfl (lv_at hl 5 rfl) ?_
                    refine V.iload F dL_isSo_232 (lv_at hl 4 rfl) ?_
                    refine V.iconst (v := nI 5) F dL_isSo_234 (by decide) ?_
                    refine V.rdX F hE (c_L_sceneOf l E (nI_x hJ.g8 (by omega) (by omega)) (nI_r (M := 5) rfl (by decide) (by decide))) (kx_sceneOf F.2.2.2.2 ⟨Nat.le_of_ble_eq_true rfl, Nat.le_of_ble_eq_true rfl⟩) 7 22 (by rfl) rfl hl.1 (Nat.le_of_ble_eq_true rfl) dL_isSo_235 rfl ?_
                    refine V.topi (fun z396 e396 => ?_)
                    obtain rfl : (ppL qs zs fo rs hs cs H R x1 8) = z396 := (e396.trans (so_s5 hJ (by omega))).symm
                    refine V.iload F dL_isSo_238 (lv_at hl 3 rfl) ?_
                    refine V.icmp_eq (tgt := 245) F dL_isSo_240 (by decide) (fun c397 => ?_) (fun c397 => ?_)
                    · skip
                      refine V.iinc (j := 4) (lv' := fun z398 => [(11, .int z398), (10, .int z370), (9, .int z336), (13, .int (nI 8)), (12, .int (ppL qs zs fo rs hs cs H R x1 8)), (0, .ref d), (1, .int y), (2, .ref u1), (3, .ref u2), (4, .ref u3), (5, .ref u4), (6, .ref u5), (7, .ref u6), (8, .ref u7)]) F dL_isSo_245 hl rfl (by decide) (fun _ => rfl) (fun z398 e398 ls hl => ?_)
                      refine V.goto (tgt := 9) F dL_isSo_248 (by decide) ?_
                      have h399 : nI (x1 + 1) = z398 := (by subst e266 e267 e268 e336 e370 e372 e373 e376 e377 e378 e381 e382 e383 e386 e387 e388 e389 e392 e393 e394 e398; first | with_reducible rfl | (simp only [shL, opL, brL, c6, c6', c265, c265', c269, c269', eq_true c337, eq_true c374, eq_true c379, eq_true c384, eq_true c390, eq_true c395, eq_true c397, oi1n, nI_add, pk_mul, bI, and_true, true_and, and_false, false_and, and_self, or_true, true_or, or_false, false_or, or_self, not_true_eq_false, not_false_eq_true, if_true, if_false, ↓reduceIte] <;> rfl) | rfl)
                      have h400 : shL cs (x1 + 1) = z336 := (by subst e266 e267 e268 e336 e370 e372 e373 e376 e377 e378 e381 e382 e383 e386 e387 e388 e389 e392 e393 e394 e398; first | with_reducible rfl | (simp only [shL, opL, brL, c6, c6', c265, c265', c269, c269', eq_true c337, eq_true c374, eq_true c379, eq_true c384, eq_true c390, eq_true c395, eq_true c397, oi1n, nI_add, pk_mul, bI, and_true, true_and, and_false, false_and, and_self, or_true, true_or, or_false, false_or, or_self, not_true_eq_false, not_false_eq_true, if_true, if_false, ↓reduceIte] <;> rfl) | rfl)
                      have h401 : opL qs zs fo rs hs cs H R (x1 + 1) = z370 := (by subst e266 e267 e268 e336 e370 e372 e373 e376 e377 e378 e381 e382 e383 e386 e387 e388 e389 e392 e393 e394 e398; first | with_reducible rfl | (simp only [shL, opL, brL, c6, c6', c265, c265', c269, c269', eq_true c337, eq_true c374, eq_true c379, eq_true c384, eq_true c390, eq_true c395, eq_true c397, oi1n, nI_add, pk_mul, bI, and_true, true_and, and_false, false_and, and_self, or_true, true_or, or_false, false_or, or_self, not_true_eq_false, not_false_eq_true, if_true, if_false, ↓reduceIte] <;> rfl) | rfl)
                      exact ihx1 x1_lt trivial _ (lv_sub hl [0, 1, 2, 5, 6, 7, 8, 9, 10, 11, 12, 13] (by rw [h399, h400, h401]; rfl))
                    · skip
                      subst e266 e267 e268 e336 e370 e372 e373 e376 e377 e378 e381 e382 e383 e386 e387 e388 e389 e392 e393 e394; exact absurd rfl c397
    · skip
      have p262_lt := (lpL rfl (by omega) p262_N).2 c265
      refine V.iload F dL_isSo_30 (lv_at hl 2 rfl) ?_
      refine V.iload F dL_isSo_32 (lv_at hl 0 rfl) ?_
      refine V.aload_n F dL_isSo_34 rfl (lv_at hl 7 rfl) ?_
      refine V.aload_n F dL_isSo_35 rfl (lv_at hl 8 rfl) ?_
      refine V.aload F dL_isSo_36 (lv_at hl 9 rfl) ?_
      refine V.aload F dL_isSo_38 (lv_at hl 11 rfl) ?_
      refine V.aload F dL_isSo_40 (lv_at hl 12 rfl) ?_
      refine V.aload F dL_isSo_42 (lv_at hl 13 rfl) ?_
      refine V.rdS F hE (c_L_reason l E (by omega) (by omega) (sn_eq hJ (by omega)).1 (sn_eq hJ (by omega)).2.1 hJ.q9 hJ.bd.2.2.1 hJ.q8 hJ.bd.2.1) (kL_116 F.2.2.2.2 ⟨Nat.le_of_ble_eq_true rfl, Nat.le_of_ble_eq_true rfl⟩) [0, 1, 2, 4, 5, 6] rfl rfl hl.1 (Nat.le_of_ble_eq_true rfl) dL_isSo_44 rfl ?_
      refine V.topi (fun z402 e402 => ?_)
      refine V.istore (lv' := [(14, .int z402), (13, .int (nI p262)), (12, .int (ppL qs zs fo rs hs cs H R x1 p262)), (11, .int (nI x1)), (10, .int (opL qs zs fo rs hs cs H R x1)), (9, .int (shL cs x1)), (0, .ref d), (1, .int y), (2, .ref u1), (3, .ref u2), (4, .ref u3), (5, .ref u4), (6, .ref u5), (7, .ref u6), (8, .ref u7)]) F dL_isSo_47 hl (by decide) rfl (fun ls hl => ?_)
      refine V.iload F dL_isSo_49 (lv_at hl 2 rfl) ?_
      refine V.iload F dL_isSo_51 (lv_at hl 0 rfl) ?_
      refine V.if_ne (tgt := 63) F dL_isSo_53 (by decide) (fun c403 => ?_) (fun c403 => ?_)
      · skip
        refine V.iconst (v := nI 0) F dL_isSo_63 (by decide) ?_
        refine V.ior F dL_isSo_64 (fun z404 e404 => ?_)
        refine V.istore (lv' := [(12, .int z404), (14, .int z402), (13, .int (nI p262)), (11, .int (nI x1)), (10, .int (opL qs zs fo rs hs cs H R x1)), (9, .int (shL cs x1)), (0, .ref d), (1, .int y), (2, .ref u1), (3, .ref u2), (4, .ref u3), (5, .ref u4), (6, .ref u5), (7, .ref u6), (8, .ref u7)]) F dL_isSo_65 hl (by decide) rfl (fun ls hl => ?_)
        refine V.aload_n F dL_isSo_67 rfl (lv_at hl 6 rfl) ?_
        refine V.iload F dL_isSo_68 (lv_at hl 3 rfl) ?_
        refine V.iload F dL_isSo_70 (lv_at hl 2 rfl) ?_
        refine V.rdX F hE (c_L_refusal l E (nI_x hJ.g8 (by omega) (by omega)) (nI_r (M := 7) rfl (by decide) (by omega))) (kx_refusal F.2.2.2.2 ⟨Nat.le_of_ble_eq_true rfl, Nat.le_of_ble_eq_true rfl⟩) 7 22 (by rfl) rfl hl.1 (Nat.le_of_ble_eq_true rfl) dL_isSo_72 rfl ?_
        refine V.topi (fun z405 e405 => ?_)
        obtain rfl : (rsL qs zs fo rs hs cs H R x1 p262 (snL cs x1)) = z405 := (e405.trans (rea_eq hJ (by omega) (by omega))).symm
        refine V.iload F dL_isSo_75 (lv_at hl 1 rfl) ?_
        refine V.icmp_eq (tgt := 82) F dL_isSo_77 (by decide) (fun c406 => ?_) (fun c406 => ?_)
        · skip
          refine V.iinc (j := 2) (lv' := fun z407 => [(13, .int z407), (12, .int z404), (14, .int z402), (11, .int (nI x1)), (10, .int (opL qs zs fo rs hs cs H R x1)), (9, .int (shL cs x1)), (0, .ref d), (1, .int y), (2, .ref u1), (3, .ref u2), (4, .ref u3), (5, .ref u4), (6, .ref u5), (7, .ref u6), (8, .ref u7)]) F dL_isSo_82 hl rfl (by decide) (fun _ => rfl) (fun z407 e407 ls hl => ?_)
          refine V.goto (tgt := 23) F dL_isSo_85 (by decide) ?_
          have h408 : nI (p262 + 1) = z407 := (by subst e402 e404 e407; first | with_reducible rfl | (simp only [shL, ppL, opL, brL, c6, c6', c265, c265', c403, eq_true c406, oi1n, nI_add, pk_mul, bI, and_true, true_and, and_false, false_and, and_self, or_true, true_or, or_false, false_or, or_self, not_true_eq_false, not_false_eq_true, if_true, if_false, ↓reduceIte] <;> rfl) | rfl)
          have h409 : ppL qs zs fo rs hs cs H R x1 (p262 + 1) = z404 := (by subst e402 e404 e407; first | with_reducible rfl | (simp only [shL, ppL, opL, brL, c6, c6', c265, c265', c403, eq_true c406, oi1n, nI_add, pk_mul, bI, and_true, true_and, and_false, false_and, and_self, or_true, true_or, or_false, false_or, or_self, not_true_eq_false, not_false_eq_true, if_true, if_false, ↓reduceIte] <;> rfl) | rfl)
          exact ihp262 p262_lt trivial _ (lv_sub hl [0, 1, 3, 4, 5, 6, 7, 8, 9, 10, 11, 12, 13, 14] (by rw [h408, h409]; rfl))
        · skip
          subst e402 e404; exact absurd rfl c406
      · skip
        refine V.iconst (v := nI 1) F dL_isSo_56 (by decide) ?_
        refine V.iload F dL_isSo_57 (lv_at hl 1 rfl) ?_
        refine V.ishl F dL_isSo_59 (fun z410 e410 => ?_)
        refine V.goto (tgt := 64) F dL_isSo_60 (by decide) ?_
        refine V.ior F dL_isSo_64 (fun z411 e411 => ?_)
        refine V.istore (lv' := [(12, .int z411), (14, .int z402), (13, .int (nI p262)), (11, .int (nI x1)), (10, .int (opL qs zs fo rs hs cs H R x1)), (9, .int (shL cs x1)), (0, .ref d), (1, .int y), (2, .ref u1), (3, .ref u2), (4, .ref u3), (5, .ref u4), (6, .ref u5), (7, .ref u6), (8, .ref u7)]) F dL_isSo_65 hl (by decide) rfl (fun ls hl => ?_)
        refine V.aload_n F dL_isSo_67 rfl (lv_at hl 6 rfl) ?_
        refine V.iload F dL_isSo_68 (lv_at hl 3 rfl) ?_
        refine V.iload F dL_isSo_70 (lv_at hl 2 rfl) ?_
        refine V.rdX F hE (c_L_refusal l E (nI_x hJ.g8 (by omega) (by omega)) (nI_r (M := 7) rfl (by decide) (by omega))) (kx_refusal F.2.2.2.2 ⟨Nat.le_of_ble_eq_true rfl, Nat.le_of_ble_eq_true rfl⟩) 7 22 (by rfl) rfl hl.1 (Nat.le_of_ble_eq_true rfl) dL_isSo_72 rfl ?_
        refine V.topi (fun z412 e412 => ?_)
        obtain rfl : (rsL qs zs fo rs hs cs H R x1 p262 (snL cs x1)) = z412 := (e412.trans (rea_eq hJ (by omega) (by omega))).symm
        refine V.iload F dL_isSo_75 (lv_at hl 1 rfl) ?_
        refine V.icmp_eq (tgt := 82) F dL_isSo_77 (by decide) (fun c413 => ?_) (fun c413 => ?_)
        · skip
          refine V.iinc (j := 2) (lv' := fun z414 => [(13, .int z414), (12, .int z411), (14, .int z402), (11, .int (nI x1)), (10, .int (opL qs zs fo rs hs cs H R x1)), (9, .int (shL cs x1)), (0, .ref d), (1, .int y), (2, .ref u1), (3, .ref u2), (4, .ref u3), (5, .ref u4), (6, .ref u5), (7, .ref u6), (8, .ref u7)]) F dL_isSo_82 hl rfl (by decide) (fun _ => rfl) (fun z414 e414 ls hl => ?_)
          refine V.goto (tgt := 23) F dL_isSo_85 (by decide) ?_
          have h415 : nI (p262 + 1) = z414 := (by subst e402 e410 e411 e414; first | with_reducible rfl | (simp only [shL, ppL, opL, brL, c6, c6', c265, c265', eq_true c403, eq_true c413, oi1n, nI_add, pk_mul, bI, and_true, true_and, and_false, false_and, and_self, or_true, true_or, or_false, false_or, or_self, not_true_eq_false, not_false_eq_true, if_true, if_false, ↓reduceIte] <;> rfl) | rfl)
          have h416 : ppL qs zs fo rs hs cs H R x1 (p262 + 1) = z411 := (by subst e402 e410 e411 e414; first | with_reducible rfl | (simp only [shL, ppL, opL, brL, c6, c6', c265, c265', eq_true c403, eq_true c413, oi1n, nI_add, pk_mul, bI, and_true, true_and, and_false, false_and, and_self, or_true, true_or, or_false, false_or, or_self, not_true_eq_false, not_false_eq_true, if_true, if_false, ↓reduceIte] <;> rfl) | rfl)
          exact ihp262 p262_lt trivial _ (lv_sub hl [0, 1, 3, 4, 5, 6, 7, 8, 9, 10, 11, 12, 13, 14] (by rw [h415, h416]; rfl))
        · skip
          subst e402 e410 e411; exact absurd rfl c413
