set_option maxHeartbeats 4000000 in
set_option maxRecDepth 100000 in
theorem c_X7_injure (l : Launch) (E : EV) {a : Nat → Nat} {th sm ln pl : Int32} {hs : Int64} {s S b w : Nat → Int32} {p q x : Int32} {H : Nat} (h9 : s 9 = nI H) (hH : H < 12) : Wr l E yX7_injure cX7_injure 5 none 0 0 [.ref (a 0), .int p, .int q, .int x] (mdW E a th sm ln pl hs s S b w) (mdW E a th sm ln pl hs (ijS s H p q x) S b w) none := by
  refine Wr.mk0 (by decide) (Nat.le_of_ble_eq_true rfl) ?_
  intro pP eE sS mM aA bB mt cC F hr hk hE hN ls hl
  have hl : lv_has ls 5 [(0, .ref (a 0)), (1, .int p), (2, .int q), (3, .int x)] := hl
  refine V.aload_n F dX7_injure_0 rfl (lv_at hl 0 rfl) ?_
  refine V.getf F hE gX7_7 0 rfl rfl dX7_injure_1 ?_
  refine V.bipush (v := nI 9) F dX7_injure_4 (by decide) ?_
  refine V.iadn (i := 9) F hE 1 rfl (by omega) (by omega) dX7_injure_6 (fun z1 e1 => ?_)
  obtain rfl : z1 = nI H := e1.trans h9
  refine V.bipush (v := nI 12) F dX7_injure_7 (by decide) ?_
  refine V.icmp_ne (tgt := 58) F dX7_injure_9 (by decide) (fun c2 => ?_) (fun c2 => ?_)
  · skip
    refine V.sipush (v := nI 202) F dX7_injure_58 (by decide) ?_
    refine V.iconst (v := nI 4) F dX7_injure_61 (by decide) ?_
    refine V.aload_n F dX7_injure_62 rfl (lv_at hl 0 rfl) ?_
    refine V.getf F hE gX7_7 0 rfl rfl dX7_injure_63 ?_
    refine V.bipush (v := nI 9) F dX7_injure_66 (by decide) ?_
    refine V.iadn (i := 9) F hE 1 rfl (by omega) (by omega) dX7_injure_68 (fun z3 e3 => ?_)
    obtain rfl : z3 = nI H := e3.trans h9
    refine V.imul F dX7_injure_69 (fun z4 e4 => ?_)
    obtain rfl : z4 = nI (4 * H) := e4.trans (pk_mul _ _)
    refine V.iadd F dX7_injure_70 (fun z5 e5 => ?_)
    obtain rfl : z5 = nI (202 + (4 * H)) := e5.trans (nI_add _ _)
    refine V.istore (lv' := [(4, .int (nI (202 + (4 * H)))), (0, .ref (a 0)), (1, .int p), (2, .int q), (3, .int x)]) F dX7_injure_71 hl (by decide) rfl (fun ls hl => ?_)
    refine V.aload_n F dX7_injure_73 rfl (lv_at hl 1 rfl) ?_
    refine V.getf F hE gX7_7 0 rfl rfl dX7_injure_74 ?_
    refine V.iload F dX7_injure_77 (lv_at hl 0 rfl) ?_
    refine V.iconst (v := nI 0) F dX7_injure_79 (by decide) ?_
    refine V.iadd F dX7_injure_80 (fun z6 e6 => ?_)
    obtain rfl : z6 = nI ((202 + (4 * H)) + 0) := e6.trans (nI_add _ _)
    refine V.iload_n F dX7_injure_81 rfl (lv_at hl 2 rfl) ?_
    refine V.isn (i := ((202 + (4 * H)) + 0)) (ws' := mdW E a th sm ln pl hs (upd s ((202 + (4 * H)) + 0) p) S b w) F hE hN (by rfl) 1 rfl (by omega) (by omega) dX7_injure_82 rfl ?_
    refine V.aload_n F dX7_injure_83 rfl (lv_at hl 1 rfl) ?_
    refine V.getf F hE gX7_7 0 rfl rfl dX7_injure_84 ?_
    refine V.iload F dX7_injure_87 (lv_at hl 0 rfl) ?_
    refine V.iconst (v := nI 1) F dX7_injure_89 (by decide) ?_
    refine V.iadd F dX7_injure_90 (fun z7 e7 => ?_)
    obtain rfl : z7 = nI ((202 + (4 * H)) + 1) := e7.trans (nI_add _ _)
    refine V.iload_n F dX7_injure_91 rfl (lv_at hl 3 rfl) ?_
    refine V.isn (i := ((202 + (4 * H)) + 1)) (ws' := mdW E a th sm ln pl hs (upd (upd s ((202 + (4 * H)) + 0) p) ((202 + (4 * H)) + 1) q) S b w) F hE hN (by rfl) 1 rfl (by omega) (by omega) dX7_injure_92 rfl ?_
    refine V.aload_n F dX7_injure_93 rfl (lv_at hl 1 rfl) ?_
    refine V.getf F hE gX7_7 0 rfl rfl dX7_injure_94 ?_
    refine V.iload F dX7_injure_97 (lv_at hl 0 rfl) ?_
    refine V.iconst (v := nI 2) F dX7_injure_99 (by decide) ?_
    refine V.iadd F dX7_injure_100 (fun z8 e8 => ?_)
    obtain rfl : z8 = nI ((202 + (4 * H)) + 2) := e8.trans (nI_add _ _)
    refine V.aload_n F dX7_injure_101 rfl (lv_at hl 1 rfl) ?_
    refine V.getf F hE gX7_7 0 rfl rfl dX7_injure_102 ?_
    refine V.iconst (v := nI 0) F dX7_injure_105 (by decide) ?_
    refine V.iadn (i := 0) F hE 1 rfl (by omega) (by omega) dX7_injure_106 (fun z9 e9 => ?_)
    refine V.isn (i := ((202 + (4 * H)) + 2)) (ws' := mdW E a th sm ln pl hs (upd (upd (upd s ((202 + (4 * H)) + 0) p) ((202 + (4 * H)) + 1) q) ((202 + (4 * H)) + 2) z9) S b w) F hE hN (by rfl) 1 rfl (by omega) (by omega) dX7_injure_107 rfl ?_
    refine V.aload_n F dX7_injure_108 rfl (lv_at hl 1 rfl) ?_
    refine V.getf F hE gX7_7 0 rfl rfl dX7_injure_109 ?_
    refine V.iload F dX7_injure_112 (lv_at hl 0 rfl) ?_
    refine V.iconst (v := nI 3) F dX7_injure_114 (by decide) ?_
    refine V.iadd F dX7_injure_115 (fun z10 e10 => ?_)
    obtain rfl : z10 = nI ((202 + (4 * H)) + 3) := e10.trans (nI_add _ _)
    refine V.aload_n F dX7_injure_116 rfl (lv_at hl 1 rfl) ?_
    refine V.getf F hE gX7_7 0 rfl rfl dX7_injure_117 ?_
    refine V.iconst (v := nI 0) F dX7_injure_120 (by decide) ?_
    refine V.iadn (i := 0) F hE 1 rfl (by omega) (by omega) dX7_injure_121 (fun z11 e11 => ?_)
    refine V.iload_n F dX7_injure_122 rfl (lv_at hl 4 rfl) ?_
    refine V.iadd F dX7_injure_123 (fun z12 e12 => ?_)
    refine V.iconst (v := nI 1) F dX7_injure_124 (by decide) ?_
    refine V.isub F dX7_injure_125 (fun z13 e13 => ?_)
    refine V.isn (i := ((202 + (4 * H)) + 3)) (ws' := mdW E a th sm ln pl hs (upd (upd (upd (upd s ((202 + (4 * H)) + 0) p) ((202 + (4 * H)) + 1) q) ((202 + (4 * H)) + 2) z9) ((202 + (4 * H)) + 3) z13) S b w) F hE hN (by rfl) 1 rfl (by omega) (by omega) dX7_injure_126 rfl ?_
    refine V.aload_n F dX7_injure_127 rfl (lv_at hl 1 rfl) ?_
    refine V.getf F hE gX7_7 0 rfl rfl dX7_injure_128 ?_
    refine V.bipush (v := nI 9) F dX7_injure_131 (by decide) ?_
    refine V.dup2 F dX7_injure_133 rfl rfl ?_
    refine V.iadn (i := 9) F hE 1 rfl (by omega) (by omega) dX7_injure_134 (fun z14 e14 => ?_)
    refine V.iconst (v := nI 1) F dX7_injure_135 (by decide) ?_
    refine V.iadd F dX7_injure_136 (fun z15 e15 => ?_)
    refine V.isn (i := 9) (ws' := mdW E a th sm ln pl hs (upd (upd (upd (upd (upd s ((202 + (4 * H)) + 0) p) ((202 + (4 * H)) + 1) q) ((202 + (4 * H)) + 2) z9) ((202 + (4 * H)) + 3) z13) 9 z15) S b w) F hE hN (by rfl) 1 rfl (by omega) (by omega) dX7_injure_137 rfl ?_
    refine V.aload_n F dX7_injure_138 rfl (lv_at hl 1 rfl) ?_
    refine V.getf F hE gX7_7 0 rfl rfl dX7_injure_139 ?_
    refine V.bipush (v := nI 6) F dX7_injure_142 (by decide) ?_
    refine V.dup2 F dX7_injure_144 rfl rfl ?_
    refine V.iadn (i := 6) F hE 1 rfl (by omega) (by omega) dX7_injure_145 (fun z16 e16 => ?_)
    refine V.iconst (v := nI 1) F dX7_injure_146 (by decide) ?_
    refine V.iadd F dX7_injure_147 (fun z17 e17 => ?_)
    refine V.isn (i := 6) (ws' := mdW E a th sm ln pl hs (upd (upd (upd (upd (upd (upd s ((202 + (4 * H)) + 0) p) ((202 + (4 * H)) + 1) q) ((202 + (4 * H)) + 2) z9) ((202 + (4 * H)) + 3) z13) 9 z15) 6 z17) S b w) F hE hN (by rfl) 1 rfl (by omega) (by omega) dX7_injure_148 rfl ?_
    exact V.vretW F hr hk dX7_injure_149 (by subst e9 e11 e12 e13 e14 e15 e16 e17; first | with_reducible rfl | (simp only [oi1n, nI_add]; done) | (simp only [ijS, ij5, ij4, ij3, ij2, ij1, c2, if_true, if_false, ↓reduceIte]; done))
  · skip
    have q := congrArg Int32.toNatClampNeg c2; rw [nI_clamp (by omega), nI_clamp (by omega)] at q; omega
set_option maxHeartbeats 4000000 in
set_option maxRecDepth 100000 in
theorem c_X7_injure_12 (l : Launch) (E : EV) {a : Nat → Nat} {th sm ln pl : Int32} {hs : Int64} {s S b w : Nat → Int32} {p q x : Int32} (h9 : s 9 = nI 12) : Wr l E yX7_injure cX7_injure 5 none 0 0 [.ref (a 0), .int p, .int q, .int x] (mdW E a th sm ln pl hs s S b w) (mdW E a th sm ln pl hs (ijS (ij0 s) 11 p q x) S b w) none := by
  refine Wr.mk0 (by decide) (Nat.le_of_ble_eq_true rfl) ?_
  intro pP eE sS mM aA bB mt cC F hr hk hE hN ls hl
  have hl : lv_has ls 5 [(0, .ref (a 0)), (1, .int p), (2, .int q), (3, .int x)] := hl
  refine V.aload_n F dX7_injure_0 rfl (lv_at hl 0 rfl) ?_
  refine V.getf F hE gX7_7 0 rfl rfl dX7_injure_1 ?_
  refine V.bipush (v := nI 9) F dX7_injure_4 (by decide) ?_
  refine V.iadn (i := 9) F hE 1 rfl (by omega) (by omega) dX7_injure_6 (fun z1 e1 => ?_)
  obtain rfl : z1 = nI 12 := e1.trans h9
  refine V.bipush (v := nI 12) F dX7_injure_7 (by decide) ?_
  refine V.icmp_ne (tgt := 58) F dX7_injure_9 (by decide) (fun h => absurd h (by decide)) (fun _ => ?_)
  refine V.sipush (v := nI 202) F dX7_injure_12 (by decide) ?_
  refine V.istore (lv' := [(4, .int (nI 202)), (0, .ref (a 0)), (1, .int p), (2, .int q), (3, .int x)]) F dX7_injure_15 hl (by decide) rfl (fun ls hl => ?_)
  have h4 : nI 202 = nI 202 := (by first | with_reducible rfl | (simp only [oi1n, nI_add]; done) | (rw [ijM_0]; done) | (rw [ijM_s (by assumption)]; done) | (simp only [ijS, ij5, ij4, ij3, ij2, ij1, ij0]; done))
  refine V.weq (ws' := mdW E a th sm ln pl hs (ijM s (202 - 202)) S b w) (by first | with_reducible rfl | (simp only [oi1n, nI_add]; done) | (rw [ijM_0]; done) | (rw [ijM_s (by assumption)]; done) | (simp only [ijS, ij5, ij4, ij3, ij2, ij1, ij0]; done)) ?_
  refine V.loopW (Wd := fun j3 : Nat => mdW E a th sm ln pl hs (ijM s (j3 - 202)) S b w) (N := 246) (k0 := 202) (I := (fun j3 : Nat => [(4, .int (nI j3)), (0, .ref (a 0)), (1, .int p), (2, .int q), (3, .int x)])) (J := fun j3 : Nat => 202 ≤ j3) (by omega) (Nat.le_refl _) (lv_sub hl [0, 1, 2, 3, 4] (by rw [h4]; rfl)) ?_
  intro j3 j3_N j3_J ihj3 ls hl
  have hl : lv_has ls 5 [(4, .int (nI j3)), (0, .ref (a 0)), (1, .int p), (2, .int q), (3, .int x)] := hl
  try dsimp only at j3_J ihj3 ⊢
  refine V.iload F dX7_injure_17 (lv_at hl 0 rfl) ?_
  refine V.sipush (v := nI 246) F dX7_injure_19 (by decide) ?_
  refine V.icmp_ge (tgt := 47) F dX7_injure_22 (by decide) (fun c5 c5' => ?_) (fun c5 c5' => ?_)
  · skip
    have j3_eq := ((lpL rfl (by omega) j3_N).1 c5).symm
    subst j3_eq
    refine V.aload_n F dX7_injure_47 rfl (lv_at hl 1 rfl) ?_
    refine V.getf F hE gX7_7 0 rfl rfl dX7_injure_48 ?_
    refine V.bipush (v := nI 9) F dX7_injure_51 (by decide) ?_
    refine V.dup2 F dX7_injure_53 rfl rfl ?_
    refine V.iadn (i := 9) F hE 1 rfl (by omega) (by omega) dX7_injure_54 (fun z6 e6 => ?_)
    refine V.iconst (v := nI 1) F dX7_injure_55 (by decide) ?_
    refine V.isub F dX7_injure_56 (fun z7 e7 => ?_)
    refine V.isn (i := 9) (ws' := mdW E a th sm ln pl hs (upd (ijM s (246 - 202)) 9 z7) S b w) F hE hN (by rfl) 1 rfl (by omega) (by omega) dX7_injure_57 rfl ?_
    refine V.sipush (v := nI 202) F dX7_injure_58 (by decide) ?_
    refine V.iconst (v := nI 4) F dX7_injure_61 (by decide) ?_
    refine V.aload_n F dX7_injure_62 rfl (lv_at hl 1 rfl) ?_
    refine V.getf F hE gX7_7 0 rfl rfl dX7_injure_63 ?_
    refine V.bipush (v := nI 9) F dX7_injure_66 (by decide) ?_
    refine V.iadn (i := 9) F hE 1 rfl (by omega) (by omega) dX7_injure_68 (fun z8 e8 => ?_)
    obtain rfl : z8 = nI 11 := e8.trans (by subst e6 e7 e8; exact ij_11 h9)
    refine V.imul F dX7_injure_69 (fun z9 e9 => ?_)
    obtain rfl : z9 = nI (4 * 11) := e9.trans (pk_mul _ _)
    refine V.iadd F dX7_injure_70 (fun z10 e10 => ?_)
    obtain rfl : z10 = nI (202 + (4 * 11)) := e10.trans (nI_add _ _)
    refine V.istore (lv' := [(4, .int (nI (202 + (4 * 11)))), (0, .ref (a 0)), (1, .int p), (2, .int q), (3, .int x)]) F dX7_injure_71 hl (by decide) rfl (fun ls hl => ?_)
    refine V.aload_n F dX7_injure_73 rfl (lv_at hl 1 rfl) ?_
    refine V.getf F hE gX7_7 0 rfl rfl dX7_injure_74 ?_
    refine V.iload F dX7_injure_77 (lv_at hl 0 rfl) ?_
    refine V.iconst (v := nI 0) F dX7_injure_79 (by decide) ?_
    refine V.iadd F dX7_injure_80 (fun z11 e11 => ?_)
    obtain rfl : z11 = nI ((202 + (4 * 11)) + 0) := e11.trans (nI_add _ _)
    refine V.iload_n F dX7_injure_81 rfl (lv_at hl 2 rfl) ?_
    refine V.isn (i := ((202 + (4 * 11)) + 0)) (ws' := mdW E a th sm ln pl hs (upd (upd (ijM s (246 - 202)) 9 z7) ((202 + (4 * 11)) + 0) p) S b w) F hE hN (by rfl) 1 rfl (by omega) (by omega) dX7_injure_82 rfl ?_
    refine V.aload_n F dX7_injure_83 rfl (lv_at hl 1 rfl) ?_
    refine V.getf F hE gX7_7 0 rfl rfl dX7_injure_84 ?_
    refine V.iload F dX7_injure_87 (lv_at hl 0 rfl) ?_
    refine V.iconst (v := nI 1) F dX7_injure_89 (by decide) ?_
    refine V.iadd F dX7_injure_90 (fun z12 e12 => ?_)
    obtain rfl : z12 = nI ((202 + (4 * 11)) + 1) := e12.trans (nI_add _ _)
    refine V.iload_n F dX7_injure_91 rfl (lv_at hl 3 rfl) ?_
    refine V.isn (i := ((202 + (4 * 11)) + 1)) (ws' := mdW E a th sm ln pl hs (upd (upd (upd (ijM s (246 - 202)) 9 z7) ((202 + (4 * 11)) + 0) p) ((202 + (4 * 11)) + 1) q) S b w) F hE hN (by rfl) 1 rfl (by omega) (by omega) dX7_injure_92 rfl ?_
    refine V.aload_n F dX7_injure_93 rfl (lv_at hl 1 rfl) ?_
    refine V.getf F hE gX7_7 0 rfl rfl dX7_injure_94 ?_
    refine V.iload F dX7_injure_97 (lv_at hl 0 rfl) ?_
    refine V.iconst (v := nI 2) F dX7_injure_99 (by decide) ?_
    refine V.iadd F dX7_injure_100 (fun z13 e13 => ?_)
    obtain rfl : z13 = nI ((202 + (4 * 11)) + 2) := e13.trans (nI_add _ _)
    refine V.aload_n F dX7_injure_101 rfl (lv_at hl 1 rfl) ?_
    refine V.getf F hE gX7_7 0 rfl rfl dX7_injure_102 ?_
    refine V.iconst (v := nI 0) F dX7_injure_105 (by decide) ?_
    refine V.iadn (i := 0) F hE 1 rfl (by omega) (by omega) dX7_injure_106 (fun z14 e14 => ?_)
    refine V.isn (i := ((202 + (4 * 11)) + 2)) (ws' := mdW E a th sm ln pl hs (upd (upd (upd (upd (ijM s (246 - 202)) 9 z7) ((202 + (4 * 11)) + 0) p) ((202 + (4 * 11)) + 1) q) ((202 + (4 * 11)) + 2) z14) S b w) F hE hN (by rfl) 1 rfl (by omega) (by omega) dX7_injure_107 rfl ?_
    refine V.aload_n F dX7_injure_108 rfl (lv_at hl 1 rfl) ?_
    refine V.getf F hE gX7_7 0 rfl rfl dX7_injure_109 ?_
    refine V.iload F dX7_injure_112 (lv_at hl 0 rfl) ?_
    refine V.iconst (v := nI 3) F dX7_injure_114 (by decide) ?_
    refine V.iadd F dX7_injure_115 (fun z15 e15 => ?_)
    obtain rfl : z15 = nI ((202 + (4 * 11)) + 3) := e15.trans (nI_add _ _)
    refine V.aload_n F dX7_injure_116 rfl (lv_at hl 1 rfl) ?_
    refine V.getf F hE gX7_7 0 rfl rfl dX7_injure_117 ?_
    refine V.iconst (v := nI 0) F dX7_injure_120 (by decide) ?_
    refine V.iadn (i := 0) F hE 1 rfl (by omega) (by omega) dX7_injure_121 (fun z16 e16 => ?_)
    refine V.iload_n F dX7_injure_122 rfl (lv_at hl 4 rfl) ?_
    refine V.iadd F dX7_injure_123 (fun z17 e17 => ?_)
    refine V.iconst (v := nI 1) F dX7_injure_124 (by decide) ?_
    refine V.isub F dX7_injure_125 (fun z18 e18 => ?_)
    refine V.isn (i := ((202 + (4 * 11)) + 3)) (ws' := mdW E a th sm ln pl hs (upd (upd (upd (upd (upd (ijM s (246 - 202)) 9 z7) ((202 + (4 * 11)) + 0) p) ((202 + (4 * 11)) + 1) q) ((202 + (4 * 11)) + 2) z14) ((202 + (4 * 11)) + 3) z18) S b w) F hE hN (by rfl) 1 rfl (by omega) (by omega) dX7_injure_126 rfl ?_
    refine V.aload_n F dX7_injure_127 rfl (lv_at hl 1 rfl) ?_
    refine V.getf F hE gX7_7 0 rfl rfl dX7_injure_128 ?_
    refine V.bipush (v := nI 9) F dX7_injure_131 (by decide) ?_
    refine V.dup2 F dX7_injure_133 rfl rfl ?_
    refine V.iadn (i := 9) F hE 1 rfl (by omega) (by omega) dX7_injure_134 (fun z19 e19 => ?_)
    refine V.iconst (v := nI 1) F dX7_injure_135 (by decide) ?_
    refine V.iadd F dX7_injure_136 (fun z20 e20 => ?_)
    refine V.isn (i := 9) (ws' := mdW E a th sm ln pl hs (upd (upd (upd (upd (upd (upd (ijM s (246 - 202)) 9 z7) ((202 + (4 * 11)) + 0) p) ((202 + (4 * 11)) + 1) q) ((202 + (4 * 11)) + 2) z14) ((202 + (4 * 11)) + 3) z18) 9 z20) S b w) F hE hN (by rfl) 1 rfl (by omega) (by omega) dX7_injure_137 rfl ?_
    refine V.aload_n F dX7_injure_138 rfl (lv_at hl 1 rfl) ?_
    refine V.getf F hE gX7_7 0 rfl rfl dX7_injure_139 ?_
    refine V.bipush (v := nI 6) F dX7_injure_142 (by decide) ?_
    refine V.dup2 F dX7_injure_144 rfl rfl ?_
    refine V.iadn (i := 6) F hE 1 rfl (by omega) (by omega) dX7_injure_145 (fun z21 e21 => ?_)
    refine V.iconst (v := nI 1) F dX7_injure_146 (by decide) ?_
    refine V.iadd F dX7_injure_147 (fun z22 e22 => ?_)
    refine V.isn (i := 6) (ws' := mdW E a th sm ln pl hs (upd (upd (upd (upd (upd (upd (upd (ijM s (246 - 202)) 9 z7) ((202 + (4 * 11)) + 0) p) ((202 + (4 * 11)) + 1) q) ((202 + (4 * 11)) + 2) z14) ((202 + (4 * 11)) + 3) z18) 9 z20) 6 z22) S b w) F hE hN (by rfl) 1 rfl (by omega) (by omega) dX7_injure_148 rfl ?_
    exact V.vretW F hr hk dX7_injure_149 (by subst e6 e7 e14 e16 e17 e18 e19 e20 e21 e22; first | with_reducible rfl | (simp only [oi1n, nI_add]; done) | (rw [ijM_0]; done) | (rw [ijM_s (by assumption)]; done) | (simp only [ijS, ij5, ij4, ij3, ij2, ij1, ij0, c5, c5']; done))
  · skip
    have j3_lt := (lpL rfl (by omega) j3_N).2 c5
    refine V.aload_n F dX7_injure_25 rfl (lv_at hl 1 rfl) ?_
    refine V.getf F hE gX7_7 0 rfl rfl dX7_injure_26 ?_
    refine V.iload F dX7_injure_29 (lv_at hl 0 rfl) ?_
    refine V.aload_n F dX7_injure_31 rfl (lv_at hl 1 rfl) ?_
    refine V.getf F hE gX7_7 0 rfl rfl dX7_injure_32 ?_
    refine V.iload F dX7_injure_35 (lv_at hl 0 rfl) ?_
    refine V.iconst (v := nI 4) F dX7_injure_37 (by decide) ?_
    refine V.iadd F dX7_injure_38 (fun z23 e23 => ?_)
    obtain rfl : z23 = nI (j3 + 4) := e23.trans (nI_add _ _)
    refine V.iadn (i := (j3 + 4)) F hE 1 rfl (by omega) (by omega) dX7_injure_39 (fun z24 e24 => ?_)
    refine V.isn (i := j3) (ws' := mdW E a th sm ln pl hs (upd (ijM s (j3 - 202)) j3 z24) S b w) F hE hN (by rfl) 1 rfl (by omega) (by omega) dX7_injure_40 rfl ?_
    refine V.iinc (j := 0) (lv' := fun z25 => [(4, .int z25), (0, .ref (a 0)), (1, .int p), (2, .int q), (3, .int x)]) F dX7_injure_41 hl rfl (by decide) (fun _ => rfl) (fun z25 e25 ls hl => ?_)
    refine V.goto (tgt := 17) F dX7_injure_44 (by decide) ?_
    have h26 : nI (j3 + 1) = z25 := (by subst e24 e25; first | with_reducible rfl | (simp only [oi1n, nI_add]; done) | (rw [ijM_0]; done) | (rw [ijM_s (by assumption)]; done) | (simp only [ijS, ij5, ij4, ij3, ij2, ij1, ij0, c5, c5']; done))
    refine V.weq (ws' := mdW E a th sm ln pl hs (ijM s ((j3 + 1) - 202)) S b w) (by subst e24 e25; first | with_reducible rfl | (simp only [oi1n, nI_add]; done) | (rw [ijM_0]; done) | (rw [ijM_s (by assumption)]; done) | (simp only [ijS, ij5, ij4, ij3, ij2, ij1, ij0, c5, c5']; done)) ?_
    exact ihj3 j3_lt (by omega) _ (lv_sub hl [0, 1, 2, 3, 4] (by rw [h26]; rfl))
