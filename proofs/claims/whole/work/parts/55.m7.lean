set_option maxHeartbeats 4000000 in
set_option maxRecDepth 100000 in
theorem c_X7_doesRehearse_h (l : Launch) (E : EV) {a : Nat → Nat} {th sm ln pl : Int32} {hs : Int64} {s S b w : Nat → Int32} {k r : Int32} {p : Nat} {R H : Nat} (h8 : s 8 = nI R) (h9 : s 9 = nI H) (hH : H ≤ 12) (hp0 : p < 8) (hh : nI 3 < rh2 s p (34 + p)) : Wr l E yX7_doesRehearse cX7_doesRehearse 5 (some .int) 1 24 [.ref (a 0), .int (nI p), .int k, .int r] (mdW E a th sm ln pl hs s S b w) (mdW E a th sm ln pl hs (ijA (rh2 s p) H (nI p) (prM k) (nI 2 * r)) S b w) (some (.int (nI 0))) := by
  refine Wr.mk0 (by decide) (Nat.le_of_ble_eq_true rfl) ?_
  intro pP eE sS mM aA bB mt cC F hr hk hE hN ls hl
  have hl : lv_has ls 5 [(0, .ref (a 0)), (1, .int (nI p)), (2, .int k), (3, .int r)] := hl
  refine V.aload_n F dX7_doesRehearse_0 rfl (lv_at hl 0 rfl) ?_
  refine V.getf F hE gX7_7 0 rfl rfl dX7_doesRehearse_1 ?_
  refine V.bipush (v := nI 7) F dX7_doesRehearse_4 (by decide) ?_
  refine V.dup2 F dX7_doesRehearse_6 rfl rfl ?_
  refine V.iadn (i := 7) F hE 1 rfl (by omega) (by omega) dX7_doesRehearse_7 (fun z1 e1 => ?_)
  refine V.iconst (v := nI 1) F dX7_doesRehearse_8 (by decide) ?_
  refine V.iadd F dX7_doesRehearse_9 (fun z2 e2 => ?_)
  refine V.isn (i := 7) (ws' := mdW E a th sm ln pl hs (upd s 7 z2) S b w) F hE hN (by rfl) 1 rfl (by omega) (by omega) dX7_doesRehearse_10 rfl ?_
  refine V.aload_n F dX7_doesRehearse_11 rfl (lv_at hl 0 rfl) ?_
  refine V.getf F hE gX7_7 0 rfl rfl dX7_doesRehearse_12 ?_
  refine V.bipush (v := nI 34) F dX7_doesRehearse_15 (by decide) ?_
  refine V.iload_n F dX7_doesRehearse_17 rfl (lv_at hl 1 rfl) ?_
  refine V.iadd F dX7_doesRehearse_18 (fun z3 e3 => ?_)
  obtain rfl : z3 = nI (34 + p) := e3.trans (nI_add _ _)
  refine V.dup2 F dX7_doesRehearse_19 rfl rfl ?_
  refine V.iadn (i := (34 + p)) F hE 1 rfl (by omega) (by omega) dX7_doesRehearse_20 (fun z4 e4 => ?_)
  refine V.iconst (v := nI 1) F dX7_doesRehearse_21 (by decide) ?_
  refine V.iadd F dX7_doesRehearse_22 (fun z5 e5 => ?_)
  refine V.isn (i := (34 + p)) (ws' := mdW E a th sm ln pl hs (upd (upd s 7 z2) (34 + p) z5) S b w) F hE hN (by rfl) 1 rfl (by omega) (by omega) dX7_doesRehearse_23 rfl ?_
  refine V.aload_n F dX7_doesRehearse_24 rfl (lv_at hl 0 rfl) ?_
  refine V.getf F hE gX7_7 0 rfl rfl dX7_doesRehearse_25 ?_
  refine V.bipush (v := nI 34) F dX7_doesRehearse_28 (by decide) ?_
  refine V.iload_n F dX7_doesRehearse_30 rfl (lv_at hl 1 rfl) ?_
  refine V.iadd F dX7_doesRehearse_31 (fun z6 e6 => ?_)
  obtain rfl : z6 = nI (34 + p) := e6.trans (nI_add _ _)
  refine V.iadn (i := (34 + p)) F hE 1 rfl (by omega) (by omega) dX7_doesRehearse_32 (fun z7 e7 => ?_)
  refine V.iconst (v := nI 3) F dX7_doesRehearse_33 (by decide) ?_
  refine V.icmp_le (tgt := 51) F dX7_doesRehearse_34 (by decide) (fun c8 c8' => ?_) (fun c8 c8' => ?_)
  · skip
    subst e1 e2 e4 e5 e7; exact absurd hh c8'
  · skip
    refine V.aload_n F dX7_doesRehearse_37 rfl (lv_at hl 0 rfl) ?_
    refine V.iload_n F dX7_doesRehearse_38 rfl (lv_at hl 1 rfl) ?_
    refine V.iload_n F dX7_doesRehearse_39 rfl (lv_at hl 2 rfl) ?_
    refine V.rdS F hE (c_X7_partOfRehearsal l E) (kX7_56 F.2.2.2.2 ⟨Nat.le_of_ble_eq_true rfl, Nat.le_of_ble_eq_true rfl⟩) [] rfl rfl hl.1 (Nat.le_of_ble_eq_true rfl) dX7_doesRehearse_40 rfl ?_
    refine V.topi (fun z9 e9 => ?_)
    refine V.iconst (v := nI 2) F dX7_doesRehearse_43 (by decide) ?_
    refine V.iload_n F dX7_doesRehearse_44 rfl (lv_at hl 3 rfl) ?_
    refine V.imul F dX7_doesRehearse_45 (fun z10 e10 => ?_)
    refine V.wsVn (q0 := 0) (ws' := mdW E a th sm ln pl hs (ijA (upd (upd s 7 z2) (34 + p) z5) H (nI p) z9 z10) S b w) F hE hN (pm_eq (by rfl)) (c_X7_injureA l E (rh_9x hp0 h9) hH) (kX7_59 F.2.2.2.2 ⟨Nat.le_of_ble_eq_true rfl, Nat.le_of_ble_eq_true rfl⟩) rfl rfl 0 5 (by rfl) (by rfl) rfl hl.1 (Nat.le_of_ble_eq_true rfl) dX7_doesRehearse_46 rfl ?_
    refine V.iconst (v := nI 0) F dX7_doesRehearse_49 (by decide) ?_
    exact V.iretW F hr hk dX7_doesRehearse_50 (by subst e1 e2 e4 e5 e7 e9 e10; first | with_reducible rfl | (simp only [oi1n, nI_add]; done) | (simp only [rh2, rh1, c8, c8', if_true, if_false, ↓reduceIte]; done)) (by subst e1 e2 e4 e5 e7 e9 e10; first | with_reducible rfl | (simp only [oi1n, nI_add]; done) | (simp only [rh2, rh1, c8, c8', if_true, if_false, ↓reduceIte]; done))
set_option maxHeartbeats 4000000 in
set_option maxRecDepth 100000 in
theorem c_X7_doesRehearse_k (l : Launch) (E : EV) {a : Nat → Nat} {th sm ln pl : Int32} {hs : Int64} {s S b w : Nat → Int32} {k r : Int32} {p : Nat} {R H : Nat} (h8 : s 8 = nI R) (h9 : s 9 = nI H) (hH : H ≤ 12) (hp0 : p < 8) (hR : R < 40) (hh : ¬ nI 3 < rh2 s p (34 + p)) : Wr l E yX7_doesRehearse cX7_doesRehearse 5 (some .int) 1 24 [.ref (a 0), .int (nI p), .int k, .int r] (mdW E a th sm ln pl hs s S b w) (mdW E a th sm ln pl hs (kpS (rh2 s p) R (nI p) k r) S b w) (some (.int (nI 1))) := by
  refine Wr.mk0 (by decide) (Nat.le_of_ble_eq_true rfl) ?_
  intro pP eE sS mM aA bB mt cC F hr hk hE hN ls hl
  have hl : lv_has ls 5 [(0, .ref (a 0)), (1, .int (nI p)), (2, .int k), (3, .int r)] := hl
  refine V.aload_n F dX7_doesRehearse_0 rfl (lv_at hl 0 rfl) ?_
  refine V.getf F hE gX7_7 0 rfl rfl dX7_doesRehearse_1 ?_
  refine V.bipush (v := nI 7) F dX7_doesRehearse_4 (by decide) ?_
  refine V.dup2 F dX7_doesRehearse_6 rfl rfl ?_
  refine V.iadn (i := 7) F hE 1 rfl (by omega) (by omega) dX7_doesRehearse_7 (fun z1 e1 => ?_)
  refine V.iconst (v := nI 1) F dX7_doesRehearse_8 (by decide) ?_
  refine V.iadd F dX7_doesRehearse_9 (fun z2 e2 => ?_)
  refine V.isn (i := 7) (ws' := mdW E a th sm ln pl hs (upd s 7 z2) S b w) F hE hN (by rfl) 1 rfl (by omega) (by omega) dX7_doesRehearse_10 rfl ?_
  refine V.aload_n F dX7_doesRehearse_11 rfl (lv_at hl 0 rfl) ?_
  refine V.getf F hE gX7_7 0 rfl rfl dX7_doesRehearse_12 ?_
  refine V.bipush (v := nI 34) F dX7_doesRehearse_15 (by decide) ?_
  refine V.iload_n F dX7_doesRehearse_17 rfl (lv_at hl 1 rfl) ?_
  refine V.iadd F dX7_doesRehearse_18 (fun z3 e3 => ?_)
  obtain rfl : z3 = nI (34 + p) := e3.trans (nI_add _ _)
  refine V.dup2 F dX7_doesRehearse_19 rfl rfl ?_
  refine V.iadn (i := (34 + p)) F hE 1 rfl (by omega) (by omega) dX7_doesRehearse_20 (fun z4 e4 => ?_)
  refine V.iconst (v := nI 1) F dX7_doesRehearse_21 (by decide) ?_
  refine V.iadd F dX7_doesRehearse_22 (fun z5 e5 => ?_)
  refine V.isn (i := (34 + p)) (ws' := mdW E a th sm ln pl hs (upd (upd s 7 z2) (34 + p) z5) S b w) F hE hN (by rfl) 1 rfl (by omega) (by omega) dX7_doesRehearse_23 rfl ?_
  refine V.aload_n F dX7_doesRehearse_24 rfl (lv_at hl 0 rfl) ?_
  refine V.getf F hE gX7_7 0 rfl rfl dX7_doesRehearse_25 ?_
  refine V.bipush (v := nI 34) F dX7_doesRehearse_28 (by decide) ?_
  refine V.iload_n F dX7_doesRehearse_30 rfl (lv_at hl 1 rfl) ?_
  refine V.iadd F dX7_doesRehearse_31 (fun z6 e6 => ?_)
  obtain rfl : z6 = nI (34 + p) := e6.trans (nI_add _ _)
  refine V.iadn (i := (34 + p)) F hE 1 rfl (by omega) (by omega) dX7_doesRehearse_32 (fun z7 e7 => ?_)
  refine V.iconst (v := nI 3) F dX7_doesRehearse_33 (by decide) ?_
  refine V.icmp_le (tgt := 51) F dX7_doesRehearse_34 (by decide) (fun c8 c8' => ?_) (fun c8 c8' => ?_)
  · skip
    refine V.aload_n F dX7_doesRehearse_51 rfl (lv_at hl 0 rfl) ?_
    refine V.getf F hE gX7_7 0 rfl rfl dX7_doesRehearse_52 ?_
    refine V.bipush (v := nI 8) F dX7_doesRehearse_55 (by decide) ?_
    refine V.iadn (i := 8) F hE 1 rfl (by omega) (by omega) dX7_doesRehearse_57 (fun z9 e9 => ?_)
    obtain rfl : z9 = nI R := e9.trans (rh_8x hp0 h8)
    refine V.bipush (v := nI 40) F dX7_doesRehearse_58 (by decide) ?_
    refine V.icmp_ne (tgt := 108) F dX7_doesRehearse_60 (by decide) (fun c10 => ?_) (fun c10 => ?_)
    · skip
      refine V.bipush (v := nI 42) F dX7_doesRehearse_108 (by decide) ?_
      refine V.iconst (v := nI 4) F dX7_doesRehearse_110 (by decide) ?_
      refine V.aload_n F dX7_doesRehearse_111 rfl (lv_at hl 0 rfl) ?_
      refine V.getf F hE gX7_7 0 rfl rfl dX7_doesRehearse_112 ?_
      refine V.bipush (v := nI 8) F dX7_doesRehearse_115 (by decide) ?_
      refine V.iadn (i := 8) F hE 1 rfl (by omega) (by omega) dX7_doesRehearse_117 (fun z11 e11 => ?_)
      obtain rfl : z11 = nI R := e11.trans (rh_8x hp0 h8)
      refine V.imul F dX7_doesRehearse_118 (fun z12 e12 => ?_)
      obtain rfl : z12 = nI (4 * R) := e12.trans (pk_mul _ _)
      refine V.iadd F dX7_doesRehearse_119 (fun z13 e13 => ?_)
      obtain rfl : z13 = nI (42 + (4 * R)) := e13.trans (nI_add _ _)
      refine V.istore (lv' := [(4, .int (nI (42 + (4 * R)))), (0, .ref (a 0)), (1, .int (nI p)), (2, .int k), (3, .int r)]) F dX7_doesRehearse_120 hl (by decide) rfl (fun ls hl => ?_)
      refine V.aload_n F dX7_doesRehearse_122 rfl (lv_at hl 1 rfl) ?_
      refine V.getf F hE gX7_7 0 rfl rfl dX7_doesRehearse_123 ?_
      refine V.iload F dX7_doesRehearse_126 (lv_at hl 0 rfl) ?_
      refine V.iconst (v := nI 0) F dX7_doesRehearse_128 (by decide) ?_
      refine V.iadd F dX7_doesRehearse_129 (fun z14 e14 => ?_)
      obtain rfl : z14 = nI ((42 + (4 * R)) + 0) := e14.trans (nI_add _ _)
      refine V.iload_n F dX7_doesRehearse_130 rfl (lv_at hl 2 rfl) ?_
      refine V.isn (i := ((42 + (4 * R)) + 0)) (ws' := mdW E a th sm ln pl hs (upd (upd (upd s 7 z2) (34 + p) z5) ((42 + (4 * R)) + 0) (nI p)) S b w) F hE hN (by rfl) 1 rfl (by omega) (by omega) dX7_doesRehearse_131 rfl ?_
      refine V.aload_n F dX7_doesRehearse_132 rfl (lv_at hl 1 rfl) ?_
      refine V.getf F hE gX7_7 0 rfl rfl dX7_doesRehearse_133 ?_
      refine V.iload F dX7_doesRehearse_136 (lv_at hl 0 rfl) ?_
      refine V.iconst (v := nI 1) F dX7_doesRehearse_138 (by decide) ?_
      refine V.iadd F dX7_doesRehearse_139 (fun z15 e15 => ?_)
      obtain rfl : z15 = nI ((42 + (4 * R)) + 1) := e15.trans (nI_add _ _)
      refine V.iload_n F dX7_doesRehearse_140 rfl (lv_at hl 3 rfl) ?_
      refine V.isn (i := ((42 + (4 * R)) + 1)) (ws' := mdW E a th sm ln pl hs (upd (upd (upd (upd s 7 z2) (34 + p) z5) ((42 + (4 * R)) + 0) (nI p)) ((42 + (4 * R)) + 1) k) S b w) F hE hN (by rfl) 1 rfl (by omega) (by omega) dX7_doesRehearse_141 rfl ?_
      refine V.aload_n F dX7_doesRehearse_142 rfl (lv_at hl 1 rfl) ?_
      refine V.getf F hE gX7_7 0 rfl rfl dX7_doesRehearse_143 ?_
      refine V.iload F dX7_doesRehearse_146 (lv_at hl 0 rfl) ?_
      refine V.iconst (v := nI 2) F dX7_doesRehearse_148 (by decide) ?_
      refine V.iadd F dX7_doesRehearse_149 (fun z16 e16 => ?_)
      obtain rfl : z16 = nI ((42 + (4 * R)) + 2) := e16.trans (nI_add _ _)
      refine V.iload_n F dX7_doesRehearse_150 rfl (lv_at hl 4 rfl) ?_
      refine V.isn (i := ((42 + (4 * R)) + 2)) (ws' := mdW E a th sm ln pl hs (upd (upd (upd (upd (upd s 7 z2) (34 + p) z5) ((42 + (4 * R)) + 0) (nI p)) ((42 + (4 * R)) + 1) k) ((42 + (4 * R)) + 2) r) S b w) F hE hN (by rfl) 1 rfl (by omega) (by omega) dX7_doesRehearse_151 rfl ?_
      refine V.aload_n F dX7_doesRehearse_152 rfl (lv_at hl 1 rfl) ?_
      refine V.getf F hE gX7_7 0 rfl rfl dX7_doesRehearse_153 ?_
      refine V.iload F dX7_doesRehearse_156 (lv_at hl 0 rfl) ?_
      refine V.iconst (v := nI 3) F dX7_doesRehearse_158 (by decide) ?_
      refine V.iadd F dX7_doesRehearse_159 (fun z17 e17 => ?_)
      obtain rfl : z17 = nI ((42 + (4 * R)) + 3) := e17.trans (nI_add _ _)
      refine V.aload_n F dX7_doesRehearse_160 rfl (lv_at hl 1 rfl) ?_
      refine V.getf F hE gX7_7 0 rfl rfl dX7_doesRehearse_161 ?_
      refine V.iconst (v := nI 0) F dX7_doesRehearse_164 (by decide) ?_
      refine V.iadn (i := 0) F hE 1 rfl (by omega) (by omega) dX7_doesRehearse_165 (fun z18 e18 => ?_)
      refine V.isn (i := ((42 + (4 * R)) + 3)) (ws' := mdW E a th sm ln pl hs (upd (upd (upd (upd (upd (upd s 7 z2) (34 + p) z5) ((42 + (4 * R)) + 0) (nI p)) ((42 + (4 * R)) + 1) k) ((42 + (4 * R)) + 2) r) ((42 + (4 * R)) + 3) z18) S b w) F hE hN (by rfl) 1 rfl (by omega) (by omega) dX7_doesRehearse_166 rfl ?_
      refine V.aload_n F dX7_doesRehearse_167 rfl (lv_at hl 1 rfl) ?_
      refine V.getf F hE gX7_7 0 rfl rfl dX7_doesRehearse_168 ?_
      refine V.bipush (v := nI 8) F dX7_doesRehearse_171 (by decide) ?_
      refine V.dup2 F dX7_doesRehearse_173 rfl rfl ?_
      refine V.iadn (i := 8) F hE 1 rfl (by omega) (by omega) dX7_doesRehearse_174 (fun z19 e19 => ?_)
      refine V.iconst (v := nI 1) F dX7_doesRehearse_175 (by decide) ?_
      refine V.iadd F dX7_doesRehearse_176 (fun z20 e20 => ?_)
      refine V.isn (i := 8) (ws' := mdW E a th sm ln pl hs (upd (upd (upd (upd (upd (upd (upd s 7 z2) (34 + p) z5) ((42 + (4 * R)) + 0) (nI p)) ((42 + (4 * R)) + 1) k) ((42 + (4 * R)) + 2) r) ((42 + (4 * R)) + 3) z18) 8 z20) S b w) F hE hN (by rfl) 1 rfl (by omega) (by omega) dX7_doesRehearse_177 rfl ?_
      refine V.iconst (v := nI 1) F dX7_doesRehearse_178 (by decide) ?_
      exact V.iretW F hr hk dX7_doesRehearse_179 (by subst e1 e2 e4 e5 e7 e18 e19 e20; first | with_reducible rfl | (simp only [oi1n, nI_add]; done) | (simp only [kpS, kp4, kp3, kp2, kp1, rh2, rh1, c8, c8', c10, if_true, if_false, ↓reduceIte]; done)) (by subst e1 e2 e4 e5 e7 e18 e19 e20; first | with_reducible rfl | (simp only [oi1n, nI_add]; done) | (simp only [kpS, kp4, kp3, kp2, kp1, rh2, rh1, c8, c8', c10, if_true, if_false, ↓reduceIte]; done))
    · skip
      have q := congrArg Int32.toNatClampNeg c10; rw [nI_clamp (by omega), nI_clamp (by omega)] at q; omega
  · skip
    subst e1 e2 e4 e5 e7; exact absurd c8' hh
set_option maxHeartbeats 4000000 in
set_option maxRecDepth 100000 in
theorem c_X7_doesRehearse_m (l : Launch) (E : EV) {a : Nat → Nat} {th sm ln pl : Int32} {hs : Int64} {s S b w : Nat → Int32} {k r : Int32} {p : Nat} {H : Nat} (h8 : s 8 = nI 40) (h9 : s 9 = nI H) (hH : H ≤ 12) (hp0 : p < 8) (hh : ¬ nI 3 < rh2 s p (34 + p)) : Wr l E yX7_doesRehearse cX7_doesRehearse 5 (some .int) 1 24 [.ref (a 0), .int (nI p), .int k, .int r] (mdW E a th sm ln pl hs s S b w) (mdW E a th sm ln pl hs (kpS (rj0 (rh2 s p)) 39 (nI p) k r) S b w) (some (.int (nI 1))) := by
  refine Wr.mk0 (by decide) (Nat.le_of_ble_eq_true rfl) ?_
  intro pP eE sS mM aA bB mt cC F hr hk hE hN ls hl
  have hl : lv_has ls 5 [(0, .ref (a 0)), (1, .int (nI p)), (2, .int k), (3, .int r)] := hl
  refine V.aload_n F dX7_doesRehearse_0 rfl (lv_at hl 0 rfl) ?_
  refine V.getf F hE gX7_7 0 rfl rfl dX7_doesRehearse_1 ?_
  refine V.bipush (v := nI 7) F dX7_doesRehearse_4 (by decide) ?_
  refine V.dup2 F dX7_doesRehearse_6 rfl rfl ?_
  refine V.iadn (i := 7) F hE 1 rfl (by omega) (by omega) dX7_doesRehearse_7 (fun z1 e1 => ?_)
  refine V.iconst (v := nI 1) F dX7_doesRehearse_8 (by decide) ?_
  refine V.iadd F dX7_doesRehearse_9 (fun z2 e2 => ?_)
  refine V.isn (i := 7) (ws' := mdW E a th sm ln pl hs (upd s 7 z2) S b w) F hE hN (by rfl) 1 rfl (by omega) (by omega) dX7_doesRehearse_10 rfl ?_
  refine V.aload_n F dX7_doesRehearse_11 rfl (lv_at hl 0 rfl) ?_
  refine V.getf F hE gX7_7 0 rfl rfl dX7_doesRehearse_12 ?_
  refine V.bipush (v := nI 34) F dX7_doesRehearse_15 (by decide) ?_
  refine V.iload_n F dX7_doesRehearse_17 rfl (lv_at hl 1 rfl) ?_
  refine V.iadd F dX7_doesRehearse_18 (fun z3 e3 => ?_)
  obtain rfl : z3 = nI (34 + p) := e3.trans (nI_add _ _)
  refine V.dup2 F dX7_doesRehearse_19 rfl rfl ?_
  refine V.iadn (i := (34 + p)) F hE 1 rfl (by omega) (by omega) dX7_doesRehearse_20 (fun z4 e4 => ?_)
  refine V.iconst (v := nI 1) F dX7_doesRehearse_21 (by decide) ?_
  refine V.iadd F dX7_doesRehearse_22 (fun z5 e5 => ?_)
  refine V.isn (i := (34 + p)) (ws' := mdW E a th sm ln pl hs (upd (upd s 7 z2) (34 + p) z5) S b w) F hE hN (by rfl) 1 rfl (by omega) (by omega) dX7_doesRehearse_23 rfl ?_
  refine V.aload_n F dX7_doesRehearse_24 rfl (lv_at hl 0 rfl) ?_
  refine V.getf F hE gX7_7 0 rfl rfl dX7_doesRehearse_25 ?_
  refine V.bipush (v := nI 34) F dX7_doesRehearse_28 (by decide) ?_
  refine V.iload_n F dX7_doesRehearse_30 rfl (lv_at hl 1 rfl) ?_
  refine V.iadd F dX7_doesRehearse_31 (fun z6 e6 => ?_)
  obtain rfl : z6 = nI (34 + p) := e6.trans (nI_add _ _)
  refine V.iadn (i := (34 + p)) F hE 1 rfl (by omega) (by omega) dX7_doesRehearse_32 (fun z7 e7 => ?_)
  refine V.iconst (v := nI 3) F dX7_doesRehearse_33 (by decide) ?_
  refine V.icmp_le (tgt := 51) F dX7_doesRehearse_34 (by decide) (fun c8 c8' => ?_) (fun c8 c8' => ?_)
  · skip
    refine V.aload_n F dX7_doesRehearse_51 rfl (lv_at hl 0 rfl) ?_
    refine V.getf F hE gX7_7 0 rfl rfl dX7_doesRehearse_52 ?_
    refine V.bipush (v := nI 8) F dX7_doesRehearse_55 (by decide) ?_
    refine V.iadn (i := 8) F hE 1 rfl (by omega) (by omega) dX7_doesRehearse_57 (fun z9 e9 => ?_)
    obtain rfl : z9 = nI 40 := e9.trans (rh_8x hp0 h8)
    refine V.bipush (v := nI 40) F dX7_doesRehearse_58 (by decide) ?_
    refine V.icmp_ne (tgt := 108) F dX7_doesRehearse_60 (by decide) (fun h => absurd h (by decide)) (fun _ => ?_)
    refine V.bipush (v := nI 42) F dX7_doesRehearse_63 (by decide) ?_
    refine V.istore (lv' := [(4, .int (nI 42)), (0, .ref (a 0)), (1, .int (nI p)), (2, .int k), (3, .int r)]) F dX7_doesRehearse_65 hl (by decide) rfl (fun ls hl => ?_)
    have h12 : nI 42 = nI 42 := (by subst e1 e2 e4 e5 e7; first | with_reducible rfl | (simp only [oi1n, nI_add]; done) | (rw [rjM_0]; done) | (rw [rjM_0]; simp only [rh2, rh1]; done) | (rw [rjM_s (by assumption)]; done) | (simp only [kpS, kp4, kp3, kp2, kp1, rj0, c8, c8', if_true, if_false, ↓reduceIte]; done))
    refine V.weq (ws' := mdW E a th sm ln pl hs (rjM (rh2 s p) (42 - 42)) S b w) (by subst e1 e2 e4 e5 e7; first | with_reducible rfl | (simp only [oi1n, nI_add]; done) | (rw [rjM_0]; done) | (rw [rjM_0]; simp only [rh2, rh1]; done) | (rw [rjM_s (by assumption)]; done) | (simp only [kpS, kp4, kp3, kp2, kp1, rj0, c8, c8', if_true, if_false, ↓reduceIte]; done)) ?_
    refine V.loopW (Wd := fun j11 : Nat => mdW E a th sm ln pl hs (rjM (rh2 s p) (j11 - 42)) S b w) (N := 198) (k0 := 42) (I := (fun j11 : Nat => [(4, .int (nI j11)), (0, .ref (a 0)), (1, .int (nI p)), (2, .int k), (3, .int r)])) (J := fun j11 : Nat => 42 ≤ j11) (by omega) (Nat.le_refl _) (lv_sub hl [0, 1, 2, 3, 4] (by rw [h12]; rfl)) ?_
    intro j11 j11_N j11_J ihj11 ls hl
    have hl : lv_has ls 5 [(4, .int (nI j11)), (0, .ref (a 0)), (1, .int (nI p)), (2, .int k), (3, .int r)] := hl
    try dsimp only at j11_J ihj11 ⊢
    refine V.iload F dX7_doesRehearse_67 (lv_at hl 0 rfl) ?_
    refine V.sipush (v := nI 198) F dX7_doesRehearse_69 (by decide) ?_
    refine V.icmp_ge (tgt := 97) F dX7_doesRehearse_72 (by decide) (fun c13 c13' => ?_) (fun c13 c13' => ?_)
    · skip
      have j11_eq := ((lpL rfl (by omega) j11_N).1 c13).symm
      subst j11_eq
      refine V.aload_n F dX7_doesRehearse_97 rfl (lv_at hl 1 rfl) ?_
      refine V.getf F hE gX7_7 0 rfl rfl dX7_doesRehearse_98 ?_
      refine V.bipush (v := nI 8) F dX7_doesRehearse_101 (by decide) ?_
      refine V.dup2 F dX7_doesRehearse_103 rfl rfl ?_
      refine V.iadn (i := 8) F hE 1 rfl (by omega) (by omega) dX7_doesRehearse_104 (fun z14 e14 => ?_)
      refine V.iconst (v := nI 1) F dX7_doesRehearse_105 (by decide) ?_
      refine V.isub F dX7_doesRehearse_106 (fun z15 e15 => ?_)
      refine V.isn (i := 8) (ws' := mdW E a th sm ln pl hs (upd (rjM (rh2 s p) (198 - 42)) 8 z15) S b w) F hE hN (by rfl) 1 rfl (by omega) (by omega) dX7_doesRehearse_107 rfl ?_
      refine V.bipush (v := nI 42) F dX7_doesRehearse_108 (by decide) ?_
      refine V.iconst (v := nI 4) F dX7_doesRehearse_110 (by decide) ?_
      refine V.aload_n F dX7_doesRehearse_111 rfl (lv_at hl 1 rfl) ?_
      refine V.getf F hE gX7_7 0 rfl rfl dX7_doesRehearse_112 ?_
      refine V.bipush (v := nI 8) F dX7_doesRehearse_115 (by decide) ?_
      refine V.iadn (i := 8) F hE 1 rfl (by omega) (by omega) dX7_doesRehearse_117 (fun z16 e16 => ?_)
      obtain rfl : z16 = nI 39 := e16.trans (by subst e1 e2 e4 e5 e7 e14 e15 e16; exact rj_39 (rh_8 hp0 h8))
      refine V.imul F dX7_doesRehearse_118 (fun z17 e17 => ?_)
      obtain rfl : z17 = nI (4 * 39) := e17.trans (pk_mul _ _)
      refine V.iadd F dX7_doesRehearse_119 (fun z18 e18 => ?_)
      obtain rfl : z18 = nI (42 + (4 * 39)) := e18.trans (nI_add _ _)
      refine V.istore (lv' := [(4, .int (nI (42 + (4 * 39)))), (0, .ref (a 0)), (1, .int (nI p)), (2, .int k), (3, .int r)]) F dX7_doesRehearse_120 hl (by decide) rfl (fun ls hl => ?_)
      refine V.aload_n F dX7_doesRehearse_122 rfl (lv_at hl 1 rfl) ?_
      refine V.getf F hE gX7_7 0 rfl rfl dX7_doesRehearse_123 ?_
      refine V.iload F dX7_doesRehearse_126 (lv_at hl 0 rfl) ?_
      refine V.iconst (v := nI 0) F dX7_doesRehearse_128 (by decide) ?_
      refine V.iadd F dX7_doesRehearse_129 (fun z19 e19 => ?_)
      obtain rfl : z19 = nI ((42 + (4 * 39)) + 0) := e19.trans (nI_add _ _)
      refine V.iload_n F dX7_doesRehearse_130 rfl (lv_at hl 2 rfl) ?_
      refine V.isn (i := ((42 + (4 * 39)) + 0)) (ws' := mdW E a th sm ln pl hs (upd (upd (rjM (rh2 s p) (198 - 42)) 8 z15) ((42 + (4 * 39)) + 0) (nI p)) S b w) F hE hN (by rfl) 1 rfl (by omega) (by omega) dX7_doesRehearse_131 rfl ?_
      refine V.aload_n F dX7_doesRehearse_132 rfl (lv_at hl 1 rfl) ?_
      refine V.getf F hE gX7_7 0 rfl rfl dX7_doesRehearse_133 ?_
      refine V.iload F dX7_doesRehearse_136 (lv_at hl 0 rfl) ?_
      refine V.iconst (v := nI 1) F dX7_doesRehearse_138 (by decide) ?_
      refine V.iadd F dX7_doesRehearse_139 (fun z20 e20 => ?_)
      obtain rfl : z20 = nI ((42 + (4 * 39)) + 1) := e20.trans (nI_add _ _)
      refine V.iload_n F dX7_doesRehearse_140 rfl (lv_at hl 3 rfl) ?_
      refine V.isn (i := ((42 + (4 * 39)) + 1)) (ws' := mdW E a th sm ln pl hs (upd (upd (upd (rjM (rh2 s p) (198 - 42)) 8 z15) ((42 + (4 * 39)) + 0) (nI p)) ((42 + (4 * 39)) + 1) k) S b w) F hE hN (by rfl) 1 rfl (by omega) (by omega) dX7_doesRehearse_141 rfl ?_
      refine V.aload_n F dX7_doesRehearse_142 rfl (lv_at hl 1 rfl) ?_
      refine V.getf F hE gX7_7 0 rfl rfl dX7_doesRehearse_143 ?_
      refine V.iload F dX7_doesRehearse_146 (lv_at hl 0 rfl) ?_
      refine V.iconst (v := nI 2) F dX7_doesRehearse_148 (by decide) ?_
      refine V.iadd F dX7_doesRehearse_149 (fun z21 e21 => ?_)
      obtain rfl : z21 = nI ((42 + (4 * 39)) + 2) := e21.trans (nI_add _ _)
      refine V.iload_n F dX7_doesRehearse_150 rfl (lv_at hl 4 rfl) ?_
      refine V.isn (i := ((42 + (4 * 39)) + 2)) (ws' := mdW E a th sm ln pl hs (upd (upd (upd (upd (rjM (rh2 s p) (198 - 42)) 8 z15) ((42 + (4 * 39)) + 0) (nI p)) ((42 + (4 * 39)) + 1) k) ((42 + (4 * 39)) + 2) r) S b w) F hE hN (by rfl) 1 rfl (by omega) (by omega) dX7_doesRehearse_151 rfl ?_
      refine V.aload_n F dX7_doesRehearse_152 rfl (lv_at hl 1 rfl) ?_
      refine V.getf F hE gX7_7 0 rfl rfl dX7_doesRehearse_153 ?_
      refine V.iload F dX7_doesRehearse_156 (lv_at hl 0 rfl) ?_
      refine V.iconst (v := nI 3) F dX7_doesRehearse_158 (by decide) ?_
      refine V.iadd F dX7_doesRehearse_159 (fun z22 e22 => ?_)
      obtain rfl : z22 = nI ((42 + (4 * 39)) + 3) := e22.trans (nI_add _ _)
      refine V.aload_n F dX7_doesRehearse_160 rfl (lv_at hl 1 rfl) ?_
      refine V.getf F hE gX7_7 0 rfl rfl dX7_doesRehearse_161 ?_
      refine V.iconst (v := nI 0) F dX7_doesRehearse_164 (by decide) ?_
      refine V.iadn (i := 0) F hE 1 rfl (by omega) (by omega) dX7_doesRehearse_165 (fun z23 e23 => ?_)
      refine V.isn (i := ((42 + (4 * 39)) + 3)) (ws' := mdW E a th sm ln pl hs (upd (upd (upd (upd (upd (rjM (rh2 s p) (198 - 42)) 8 z15) ((42 + (4 * 39)) + 0) (nI p)) ((42 + (4 * 39)) + 1) k) ((42 + (4 * 39)) + 2) r) ((42 + (4 * 39)) + 3) z23) S b w) F hE hN (by rfl) 1 rfl (by omega) (by omega) dX7_doesRehearse_166 rfl ?_
      refine V.aload_n F dX7_doesRehearse_167 rfl (lv_at hl 1 rfl) ?_
      refine V.getf F hE gX7_7 0 rfl rfl dX7_doesRehearse_168 ?_
      refine V.bipush (v := nI 8) F dX7_doesRehearse_171 (by decide) ?_
      refine V.dup2 F dX7_doesRehearse_173 rfl rfl ?_
      refine V.iadn (i := 8) F hE 1 rfl (by omega) (by omega) dX7_doesRehearse_174 (fun z24 e24 => ?_)
      refine V.iconst (v := nI 1) F dX7_doesRehearse_175 (by decide) ?_
      refine V.iadd F dX7_doesRehearse_176 (fun z25 e25 => ?_)
      refine V.isn (i := 8) (ws' := mdW E a th sm ln pl hs (upd (upd (upd (upd (upd (upd (rjM (rh2 s p) (198 - 42)) 8 z15) ((42 + (4 * 39)) + 0) (nI p)) ((42 + (4 * 39)) + 1) k) ((42 + (4 * 39)) + 2) r) ((42 + (4 * 39)) + 3) z23) 8 z25) S b w) F hE hN (by rfl) 1 rfl (by omega) (by omega) dX7_doesRehearse_177 rfl ?_
      refine V.iconst (v := nI 1) F dX7_doesRehearse_178 (by decide) ?_
      exact V.iretW F hr hk dX7_doesRehearse_179 (by subst e1 e2 e4 e5 e7 e14 e15 e23 e24 e25; first | with_reducible rfl | (simp only [oi1n, nI_add]; done) | (rw [rjM_0]; done) | (rw [rjM_0]; simp only [rh2, rh1]; done) | (rw [rjM_s (by assumption)]; done) | (simp only [kpS, kp4, kp3, kp2, kp1, rj0, c8, c8', c13, c13', if_true, if_false, ↓reduceIte]; done)) (by subst e1 e2 e4 e5 e7 e14 e15 e23 e24 e25; first | with_reducible rfl | (simp only [oi1n, nI_add]; done) | (rw [rjM_0]; done) | (rw [rjM_0]; simp only [rh2, rh1]; done) | (rw [rjM_s (by assumption)]; done) | (simp only [kpS, kp4, kp3, kp2, kp1, rj0, c8, c8', c13, c13', if_true, if_false, ↓reduceIte]; done))
    · skip
      have j11_lt := (lpL rfl (by omega) j11_N).2 c13
      refine V.aload_n F dX7_doesRehearse_75 rfl (lv_at hl 1 rfl) ?_
      refine V.getf F hE gX7_7 0 rfl rfl dX7_doesRehearse_76 ?_
      refine V.iload F dX7_doesRehearse_79 (lv_at hl 0 rfl) ?_
      refine V.aload_n F dX7_doesRehearse_81 rfl (lv_at hl 1 rfl) ?_
      refine V.getf F hE gX7_7 0 rfl rfl dX7_doesRehearse_82 ?_
      refine V.iload F dX7_doesRehearse_85 (lv_at hl 0 rfl) ?_
      refine V.iconst (v := nI 4) F dX7_doesRehearse_87 (by decide) ?_
      refine V.iadd F dX7_doesRehearse_88 (fun z26 e26 => ?_)
      obtain rfl : z26 = nI (j11 + 4) := e26.trans (nI_add _ _)
      refine V.iadn (i := (j11 + 4)) F hE 1 rfl (by omega) (by omega) dX7_doesRehearse_89 (fun z27 e27 => ?_)
      refine V.isn (i := j11) (ws' := mdW E a th sm ln pl hs (upd (rjM (rh2 s p) (j11 - 42)) j11 z27) S b w) F hE hN (by rfl) 1 rfl (by omega) (by omega) dX7_doesRehearse_90 rfl ?_
      refine V.iinc (j := 0) (lv' := fun z28 => [(4, .int z28), (0, .ref (a 0)), (1, .int (nI p)), (2, .int k), (3, .int r)]) F dX7_doesRehearse_91 hl rfl (by decide) (fun _ => rfl) (fun z28 e28 ls hl => ?_)
      refine V.goto (tgt := 67) F dX7_doesRehearse_94 (by decide) ?_
      have h29 : nI (j11 + 1) = z28 := (by subst e1 e2 e4 e5 e7 e27 e28; first | with_reducible rfl | (simp only [oi1n, nI_add]; done) | (rw [rjM_0]; done) | (rw [rjM_0]; simp only [rh2, rh1]; done) | (rw [rjM_s (by assumption)]; done) | (simp only [kpS, kp4, kp3, kp2, kp1, rj0, c8, c8', c13, c13', if_true, if_false, ↓reduceIte]; done))
      refine V.weq (ws' := mdW E a th sm ln pl hs (rjM (rh2 s p) ((j11 + 1) - 42)) S b w) (by subst e1 e2 e4 e5 e7 e27 e28; first | with_reducible rfl | (simp only [oi1n, nI_add]; done) | (rw [rjM_0]; done) | (rw [rjM_0]; simp only [rh2, rh1]; done) | (rw [rjM_s (by assumption)]; done) | (simp only [kpS, kp4, kp3, kp2, kp1, rj0, c8, c8', c13, c13', if_true, if_false, ↓reduceIte]; done)) ?_
      exact ihj11 j11_lt (by omega) _ (lv_sub hl [0, 1, 2, 3, 4] (by rw [h29]; rfl))
  · skip
    subst e1 e2 e4 e5 e7; exact absurd c8' hh
