set_option maxHeartbeats 4000000 in
set_option maxRecDepth 100000 in
theorem c_L_due_0 (l : Launch) (E : EV) {u0 u1 u2 u3 u4 u5 u6 u7 : Nat} {ca qs zs fo ts rs hs cs : Nat → Int32} {p : Nat} {w : Int32} (hc0 : ca 0 = nI 0) (hc1 : ca 1 = nI p) (hp8 : p < 8) (hc2 : ca 2 = w) : Wr l E yL_due cL_due 13 (some .int) 3 77 [.ref u0, .ref u1, .ref u2, .ref u3, .ref u4, .ref u5, .ref u6, .ref u7] ([rw_ E u0 4 ca, rw_ E u1 10 qs, rw_ E u2 8 zs, rw_ E u3 8 fo, rw_ E u4 8 ts, rw_ E u5 40 rs, rw_ E u6 12 hs, rw_ E u7 10 cs]) ([rw_ E u0 4 ca, rw_ E u1 10 qs, rw_ E u2 8 (upd zs p w), rw_ E u3 8 fo, rw_ E u4 8 ts, rw_ E u5 40 rs, rw_ E u6 12 hs, rw_ E u7 10 cs]) (some (.int (zs p))) := by
  refine Wr.mk0 (by decide) (Nat.le_of_ble_eq_true rfl) ?_
  intro pP eE sS mM aA bB mt cC F hr hk hE hN ls hl
  have hl : lv_has ls 13 [(0, .ref u0), (1, .ref u1), (2, .ref u2), (3, .ref u3), (4, .ref u4), (5, .ref u5), (6, .ref u6), (7, .ref u7)] := hl
  refine V.aload_n F dL_due_0 rfl (lv_at hl 0 rfl) ?_
  refine V.iconst (v := nI 1) F dL_due_1 (by decide) ?_
  refine V.iadn (i := 1) F hE 0 rfl (by omega) (by omega) dL_due_2 (fun z1 e1 => ?_)
  obtain rfl : nI p = z1 := (e1.trans hc1).symm
  refine V.istore (lv' := [(8, .int (nI p)), (0, .ref u0), (1, .ref u1), (2, .ref u2), (3, .ref u3), (4, .ref u4), (5, .ref u5), (6, .ref u6), (7, .ref u7)]) F dL_due_3 hl (by decide) rfl (fun ls hl => ?_)
  refine V.aload_n F dL_due_5 rfl (lv_at hl 1 rfl) ?_
  refine V.iconst (v := nI 2) F dL_due_6 (by decide) ?_
  refine V.iadn (i := 2) F hE 0 rfl (by omega) (by omega) dL_due_7 (fun z2 e2 => ?_)
  obtain rfl : w = z2 := (e2.trans hc2).symm
  refine V.istore (lv' := [(9, .int w), (8, .int (nI p)), (0, .ref u0), (1, .ref u1), (2, .ref u2), (3, .ref u3), (4, .ref u4), (5, .ref u5), (6, .ref u6), (7, .ref u7)]) F dL_due_8 hl (by decide) rfl (fun ls hl => ?_)
  refine V.aload_n F dL_due_10 rfl (lv_at hl 4 rfl) ?_
  refine V.iload F dL_due_11 (lv_at hl 1 rfl) ?_
  refine V.iadn (i := p) F hE 2 rfl (by omega) (by omega) dL_due_13 (fun z3 e3 => ?_)
  obtain rfl : zs p = z3 := (e3.trans rfl).symm
  refine V.istore (lv' := [(10, .int (zs p)), (9, .int w), (8, .int (nI p)), (0, .ref u0), (1, .ref u1), (2, .ref u2), (3, .ref u3), (4, .ref u4), (5, .ref u5), (6, .ref u6), (7, .ref u7)]) F dL_due_14 hl (by decide) rfl (fun ls hl => ?_)
  refine V.aload_n F dL_due_16 rfl (lv_at hl 3 rfl) ?_
  refine V.iconst (v := nI 0) F dL_due_17 (by decide) ?_
  refine V.iadn (i := 0) F hE 0 rfl (by omega) (by omega) dL_due_18 (fun z4 e4 => ?_)
  obtain rfl : nI 0 = z4 := (e4.trans hc0).symm
  refine V.if_ne (tgt := 31) F dL_due_19 (by decide) (fun h => absurd h (by decide)) (fun _ => ?_)
  refine V.aload_n F dL_due_22 rfl (lv_at hl 5 rfl) ?_
  refine V.iload F dL_due_23 (lv_at hl 2 rfl) ?_
  refine V.iload F dL_due_25 (lv_at hl 1 rfl) ?_
  refine V.isn (i := p) F hE hN (by rfl) 2 rfl (by omega) (by omega) dL_due_27 rfl ?_
  refine V.iload F dL_due_28 (lv_at hl 0 rfl) ?_
  exact V.iretW F hr hk dL_due_30 (by first | with_reducible rfl | (simp only [oi1n, nI_add, pk_mul, bI, and_true, true_and, and_false, false_and, and_self, or_true, true_or, or_false, false_or, or_self, not_true_eq_false, not_false_eq_true, if_true, if_false, ↓reduceIte] <;> rfl) | rfl | (simp [bI, oi1, nI_succ]; done)) (by first | with_reducible rfl | (simp only [oi1n, nI_add, pk_mul, bI, and_true, true_and, and_false, false_and, and_self, or_true, true_or, or_false, false_or, or_self, not_true_eq_false, not_false_eq_true, if_true, if_false, ↓reduceIte] <;> rfl) | rfl | (simp [bI, oi1, nI_succ]; done))
set_option maxHeartbeats 4000000 in
set_option maxRecDepth 100000 in
theorem c_L_due_1r (l : Launch) (E : EV) {u0 u1 u2 u3 u4 u5 u6 u7 : Nat} {ca qs zs fo ts rs hs cs : Nat → Int32} {p : Nat} {w : Int32} (hc0 : ca 0 = nI 1) (hc1 : ca 1 = nI p) (hp8 : p < 8) (hc2 : ca 2 = w) (hg : nI 999 < qs 0 + w) : Wr l E yL_due cL_due 13 (some .int) 3 77 [.ref u0, .ref u1, .ref u2, .ref u3, .ref u4, .ref u5, .ref u6, .ref u7] ([rw_ E u0 4 ca, rw_ E u1 10 qs, rw_ E u2 8 zs, rw_ E u3 8 fo, rw_ E u4 8 ts, rw_ E u5 40 rs, rw_ E u6 12 hs, rw_ E u7 10 cs]) ([rw_ E u0 4 ca, rw_ E u1 10 qs, rw_ E u2 8 zs, rw_ E u3 8 fo, rw_ E u4 8 ts, rw_ E u5 40 rs, rw_ E u6 12 hs, rw_ E u7 10 cs]) (some (.int (-103))) := by
  refine Wr.mk0 (by decide) (Nat.le_of_ble_eq_true rfl) ?_
  intro pP eE sS mM aA bB mt cC F hr hk hE hN ls hl
  have hl : lv_has ls 13 [(0, .ref u0), (1, .ref u1), (2, .ref u2), (3, .ref u3), (4, .ref u4), (5, .ref u5), (6, .ref u6), (7, .ref u7)] := hl
  refine V.aload_n F dL_due_0 rfl (lv_at hl 0 rfl) ?_
  refine V.iconst (v := nI 1) F dL_due_1 (by decide) ?_
  refine V.iadn (i := 1) F hE 0 rfl (by omega) (by omega) dL_due_2 (fun z1 e1 => ?_)
  obtain rfl : nI p = z1 := (e1.trans hc1).symm
  refine V.istore (lv' := [(8, .int (nI p)), (0, .ref u0), (1, .ref u1), (2, .ref u2), (3, .ref u3), (4, .ref u4), (5, .ref u5), (6, .ref u6), (7, .ref u7)]) F dL_due_3 hl (by decide) rfl (fun ls hl => ?_)
  refine V.aload_n F dL_due_5 rfl (lv_at hl 1 rfl) ?_
  refine V.iconst (v := nI 2) F dL_due_6 (by decide) ?_
  refine V.iadn (i := 2) F hE 0 rfl (by omega) (by omega) dL_due_7 (fun z2 e2 => ?_)
  obtain rfl : w = z2 := (e2.trans hc2).symm
  refine V.istore (lv' := [(9, .int w), (8, .int (nI p)), (0, .ref u0), (1, .ref u1), (2, .ref u2), (3, .ref u3), (4, .ref u4), (5, .ref u5), (6, .ref u6), (7, .ref u7)]) F dL_due_8 hl (by decide) rfl (fun ls hl => ?_)
  refine V.aload_n F dL_due_10 rfl (lv_at hl 4 rfl) ?_
  refine V.iload F dL_due_11 (lv_at hl 1 rfl) ?_
  refine V.iadn (i := p) F hE 2 rfl (by omega) (by omega) dL_due_13 (fun z3 e3 => ?_)
  obtain rfl : zs p = z3 := (e3.trans rfl).symm
  refine V.istore (lv' := [(10, .int (zs p)), (9, .int w), (8, .int (nI p)), (0, .ref u0), (1, .ref u1), (2, .ref u2), (3, .ref u3), (4, .ref u4), (5, .ref u5), (6, .ref u6), (7, .ref u7)]) F dL_due_14 hl (by decide) rfl (fun ls hl => ?_)
  refine V.aload_n F dL_due_16 rfl (lv_at hl 3 rfl) ?_
  refine V.iconst (v := nI 0) F dL_due_17 (by decide) ?_
  refine V.iadn (i := 0) F hE 0 rfl (by omega) (by omega) dL_due_18 (fun z4 e4 => ?_)
  obtain rfl : nI 1 = z4 := (e4.trans hc0).symm
  refine V.if_ne (tgt := 31) F dL_due_19 (by decide) (fun _ => ?_) (fun h => absurd h (by decide))
  refine V.aload_n F dL_due_31 rfl (lv_at hl 3 rfl) ?_
  refine V.iconst (v := nI 0) F dL_due_32 (by decide) ?_
  refine V.iadn (i := 0) F hE 0 rfl (by omega) (by omega) dL_due_33 (fun z6 e6 => ?_)
  obtain rfl : nI 1 = z6 := (e6.trans hc0).symm
  refine V.iconst (v := nI 1) F dL_due_34 (by decide) ?_
  refine V.icmp_ne (tgt := 87) F dL_due_35 (by decide) (fun h => absurd h (by decide)) (fun _ => ?_)
  refine V.aload_n F dL_due_38 rfl (lv_at hl 4 rfl) ?_
  refine V.iconst (v := nI 0) F dL_due_39 (by decide) ?_
  refine V.iadn (i := 0) F hE 1 rfl (by omega) (by omega) dL_due_40 (fun z8 e8 => ?_)
  refine V.iload F dL_due_41 (lv_at hl 1 rfl) ?_
  refine V.iadd F dL_due_43 (fun z9 e9 => ?_)
  refine V.sipush (v := nI 999) F dL_due_44 (by decide) ?_
  refine V.icmp_le (tgt := 53) F dL_due_47 (by decide) (fun c10 c10' => ?_) (fun c10 c10' => ?_)
  · skip
    subst e8 e9; exact absurd hg c10'
  · skip
    refine V.bipush (v := (-103)) F dL_due_50 (by decide) ?_
    exact V.iretW F hr hk dL_due_52 (by subst e8 e9; first | with_reducible rfl | (simp only [c10, c10', oi1n, nI_add, pk_mul, bI, and_true, true_and, and_false, false_and, and_self, or_true, true_or, or_false, false_or, or_self, not_true_eq_false, not_false_eq_true, if_true, if_false, ↓reduceIte] <;> rfl) | rfl | (simp [c10, c10', bI, oi1, nI_succ]; done)) (by subst e8 e9; first | with_reducible rfl | (simp only [c10, c10', oi1n, nI_add, pk_mul, bI, and_true, true_and, and_false, false_and, and_self, or_true, true_or, or_false, false_or, or_self, not_true_eq_false, not_false_eq_true, if_true, if_false, ↓reduceIte] <;> rfl) | rfl | (simp [c10, c10', bI, oi1, nI_succ]; done))
set_option maxHeartbeats 4000000 in
set_option maxRecDepth 100000 in
theorem c_L_due_1 (l : Launch) (E : EV) {u0 u1 u2 u3 u4 u5 u6 u7 : Nat} {ca qs zs fo ts rs hs cs : Nat → Int32} {p : Nat} {w : Int32} (hc0 : ca 0 = nI 1) (hc1 : ca 1 = nI p) (hp8 : p < 8) (hc2 : ca 2 = w) (hg : ¬ nI 999 < qs 0 + w) : Wr l E yL_due cL_due 13 (some .int) 3 77 [.ref u0, .ref u1, .ref u2, .ref u3, .ref u4, .ref u5, .ref u6, .ref u7] ([rw_ E u0 4 ca, rw_ E u1 10 qs, rw_ E u2 8 zs, rw_ E u3 8 fo, rw_ E u4 8 ts, rw_ E u5 40 rs, rw_ E u6 12 hs, rw_ E u7 10 cs]) ([rw_ E u0 4 ca, rw_ E u1 10 (upd qs 0 (qs 0 + w)), rw_ E u2 8 zs, rw_ E u3 8 fo, rw_ E u4 8 (ztF ts 8), rw_ E u5 40 rs, rw_ E u6 12 hs, rw_ E u7 10 cs]) (some (.int (qs 0 + w))) := by
  refine Wr.mk0 (by decide) (Nat.le_of_ble_eq_true rfl) ?_
  intro pP eE sS mM aA bB mt cC F hr hk hE hN ls hl
  have hl : lv_has ls 13 [(0, .ref u0), (1, .ref u1), (2, .ref u2), (3, .ref u3), (4, .ref u4), (5, .ref u5), (6, .ref u6), (7, .ref u7)] := hl
  refine V.aload_n F dL_due_0 rfl (lv_at hl 0 rfl) ?_
  refine V.iconst (v := nI 1) F dL_due_1 (by decide) ?_
  refine V.iadn (i := 1) F hE 0 rfl (by omega) (by omega) dL_due_2 (fun z1 e1 => ?_)
  obtain rfl : nI p = z1 := (e1.trans hc1).symm
  refine V.istore (lv' := [(8, .int (nI p)), (0, .ref u0), (1, .ref u1), (2, .ref u2), (3, .ref u3), (4, .ref u4), (5, .ref u5), (6, .ref u6), (7, .ref u7)]) F dL_due_3 hl (by decide) rfl (fun ls hl => ?_)
  refine V.aload_n F dL_due_5 rfl (lv_at hl 1 rfl) ?_
  refine V.iconst (v := nI 2) F dL_due_6 (by decide) ?_
  refine V.iadn (i := 2) F hE 0 rfl (by omega) (by omega) dL_due_7 (fun z2 e2 => ?_)
  obtain rfl : w = z2 := (e2.trans hc2).symm
  refine V.istore (lv' := [(9, .int w), (8, .int (nI p)), (0, .ref u0), (1, .ref u1), (2, .ref u2), (3, .ref u3), (4, .ref u4), (5, .ref u5), (6, .ref u6), (7, .ref u7)]) F dL_due_8 hl (by decide) rfl (fun ls hl => ?_)
  refine V.aload_n F dL_due_10 rfl (lv_at hl 4 rfl) ?_
  refine V.iload F dL_due_11 (lv_at hl 1 rfl) ?_
  refine V.iadn (i := p) F hE 2 rfl (by omega) (by omega) dL_due_13 (fun z3 e3 => ?_)
  obtain rfl : zs p = z3 := (e3.trans rfl).symm
  refine V.istore (lv' := [(10, .int (zs p)), (9, .int w), (8, .int (nI p)), (0, .ref u0), (1, .ref u1), (2, .ref u2), (3, .ref u3), (4, .ref u4), (5, .ref u5), (6, .ref u6), (7, .ref u7)]) F dL_due_14 hl (by decide) rfl (fun ls hl => ?_)
  refine V.aload_n F dL_due_16 rfl (lv_at hl 3 rfl) ?_
  refine V.iconst (v := nI 0) F dL_due_17 (by decide) ?_
  refine V.iadn (i := 0) F hE 0 rfl (by omega) (by omega) dL_due_18 (fun z4 e4 => ?_)
  obtain rfl : nI 1 = z4 := (e4.trans hc0).symm
  refine V.if_ne (tgt := 31) F dL_due_19 (by decide) (fun _ => ?_) (fun h => absurd h (by decide))
  refine V.aload_n F dL_due_31 rfl (lv_at hl 3 rfl) ?_
  refine V.iconst (v := nI 0) F dL_due_32 (by decide) ?_
  refine V.iadn (i := 0) F hE 0 rfl (by omega) (by omega) dL_due_33 (fun z6 e6 => ?_)
  obtain rfl : nI 1 = z6 := (e6.trans hc0).symm
  refine V.iconst (v := nI 1) F dL_due_34 (by decide) ?_
  refine V.icmp_ne (tgt := 87) F dL_due_35 (by decide) (fun h => absurd h (by decide)) (fun _ => ?_)
  refine V.aload_n F dL_due_38 rfl (lv_at hl 4 rfl) ?_
  refine V.iconst (v := nI 0) F dL_due_39 (by decide) ?_
  refine V.iadn (i := 0) F hE 1 rfl (by omega) (by omega) dL_due_40 (fun z8 e8 => ?_)
  refine V.iload F dL_due_41 (lv_at hl 1 rfl) ?_
  refine V.iadd F dL_due_43 (fun z9 e9 => ?_)
  refine V.sipush (v := nI 999) F dL_due_44 (by decide) ?_
  refine V.icmp_le (tgt := 53) F dL_due_47 (by decide) (fun c10 c10' => ?_) (fun c10 c10' => ?_)
  · skip
    refine V.aload_n F dL_due_53 rfl (lv_at hl 4 rfl) ?_
    refine V.iconst (v := nI 0) F dL_due_54 (by decide) ?_
    refine V.dup2 F dL_due_55 rfl rfl ?_
    refine V.iadn (i := 0) F hE 1 rfl (by omega) (by omega) dL_due_56 (fun z11 e11 => ?_)
    obtain rfl : qs 0 = z11 := (e11.trans rfl).symm
    refine V.iload F dL_due_57 (lv_at hl 1 rfl) ?_
    refine V.iadd F dL_due_59 (fun z12 e12 => ?_)
    obtain rfl : (qs 0 + w) = z12 := (e12.trans rfl).symm
    refine V.isn (i := 0) F hE hN (by rfl) 1 rfl (by omega) (by omega) dL_due_60 rfl ?_
    refine V.iconst (v := nI 0) F dL_due_61 (by decide) ?_
    refine V.istore (lv' := [(11, .int (nI 0)), (10, .int (zs p)), (9, .int w), (8, .int (nI p)), (0, .ref u0), (1, .ref u1), (2, .ref u2), (3, .ref u3), (4, .ref u4), (5, .ref u5), (6, .ref u6), (7, .ref u7)]) F dL_due_62 hl (by decide) rfl (fun ls hl => ?_)
    have h14 : nI 0 = nI 0 := (by subst e8 e9; first | with_reducible rfl | rfl | exact (congrArg (fun y => [rw_ E u0 4 ca, rw_ E u1 10 (upd qs 0 (qs 0 + w)), rw_ E u2 8 zs, rw_ E u3 8 fo, rw_ E u4 8 y, rw_ E u5 40 rs, rw_ E u6 12 hs, rw_ E u7 10 cs]) drK_z) | exact (congrArg (fun y => [rw_ E u0 4 ca, rw_ E u1 10 (upd qs 0 (qs 0 + w)), rw_ E u2 8 zs, rw_ E u3 8 fo, rw_ E u4 8 y, rw_ E u5 40 rs, rw_ E u6 12 hs, rw_ E u7 10 cs]) drK_z).symm | exact (congrArg (fun y => [rw_ E u0 4 ca, rw_ E u1 10 (upd qs 0 (qs 0 + w)), rw_ E u2 8 zs, rw_ E u3 8 fo, rw_ E u4 8 y, rw_ E u5 40 rs, rw_ E u6 12 hs, rw_ E u7 10 cs]) drK_u) | exact (congrArg (fun y => [rw_ E u0 4 ca, rw_ E u1 10 (upd qs 0 (qs 0 + w)), rw_ E u2 8 zs, rw_ E u3 8 fo, rw_ E u4 8 y, rw_ E u5 40 rs, rw_ E u6 12 hs, rw_ E u7 10 cs]) drK_u).symm | exact (congrArg (fun y => [rw_ E u0 4 ca, rw_ E u1 10 (upd qs 0 (qs 0 + w)), rw_ E u2 8 zs, rw_ E u3 8 fo, rw_ E u4 8 y, rw_ E u5 40 rs, rw_ E u6 12 hs, rw_ E u7 10 cs]) ztF_z) | exact (congrArg (fun y => [rw_ E u0 4 ca, rw_ E u1 10 (upd qs 0 (qs 0 + w)), rw_ E u2 8 zs, rw_ E u3 8 fo, rw_ E u4 8 y, rw_ E u5 40 rs, rw_ E u6 12 hs, rw_ E u7 10 cs]) ztF_z).symm | exact (congrArg (fun y => [rw_ E u0 4 ca, rw_ E u1 10 (upd qs 0 (qs 0 + w)), rw_ E u2 8 zs, rw_ E u3 8 fo, rw_ E u4 8 y, rw_ E u5 40 rs, rw_ E u6 12 hs, rw_ E u7 10 cs]) ztF_u) | exact (congrArg (fun y => [rw_ E u0 4 ca, rw_ E u1 10 (upd qs 0 (qs 0 + w)), rw_ E u2 8 zs, rw_ E u3 8 fo, rw_ E u4 8 y, rw_ E u5 40 rs, rw_ E u6 12 hs, rw_ E u7 10 cs]) ztF_u).symm | exact (congrArg (fun y => [rw_ E u0 4 ca, rw_ E u1 10 (upd qs 0 (qs 0 + w)), rw_ E u2 8 zs, rw_ E u3 8 fo, rw_ E u4 8 y, rw_ E u5 40 rs, rw_ E u6 12 hs, rw_ E u7 10 cs]) upd_upd) | exact (congrArg (fun y => [rw_ E u0 4 ca, rw_ E u1 10 (upd qs 0 (qs 0 + w)), rw_ E u2 8 zs, rw_ E u3 8 fo, rw_ E u4 8 y, rw_ E u5 40 rs, rw_ E u6 12 hs, rw_ E u7 10 cs]) upd_upd).symm | (simp only [c10, c10', oi1n, nI_add, pk_mul, bI, and_true, true_and, and_false, false_and, and_self, or_true, true_or, or_false, false_or, or_self, not_true_eq_false, not_false_eq_true, if_true, if_false, ↓reduceIte] <;> rfl))
    refine V.weq (ws' := [rw_ E u0 4 ca, rw_ E u1 10 (upd qs 0 (qs 0 + w)), rw_ E u2 8 zs, rw_ E u3 8 fo, rw_ E u4 8 (ztF ts 0), rw_ E u5 40 rs, rw_ E u6 12 hs, rw_ E u7 10 cs]) (by subst e8 e9; first | with_reducible rfl | rfl | exact (congrArg (fun y => [rw_ E u0 4 ca, rw_ E u1 10 (upd qs 0 (qs 0 + w)), rw_ E u2 8 zs, rw_ E u3 8 fo, rw_ E u4 8 y, rw_ E u5 40 rs, rw_ E u6 12 hs, rw_ E u7 10 cs]) drK_z) | exact (congrArg (fun y => [rw_ E u0 4 ca, rw_ E u1 10 (upd qs 0 (qs 0 + w)), rw_ E u2 8 zs, rw_ E u3 8 fo, rw_ E u4 8 y, rw_ E u5 40 rs, rw_ E u6 12 hs, rw_ E u7 10 cs]) drK_z).symm | exact (congrArg (fun y => [rw_ E u0 4 ca, rw_ E u1 10 (upd qs 0 (qs 0 + w)), rw_ E u2 8 zs, rw_ E u3 8 fo, rw_ E u4 8 y, rw_ E u5 40 rs, rw_ E u6 12 hs, rw_ E u7 10 cs]) drK_u) | exact (congrArg (fun y => [rw_ E u0 4 ca, rw_ E u1 10 (upd qs 0 (qs 0 + w)), rw_ E u2 8 zs, rw_ E u3 8 fo, rw_ E u4 8 y, rw_ E u5 40 rs, rw_ E u6 12 hs, rw_ E u7 10 cs]) drK_u).symm | exact (congrArg (fun y => [rw_ E u0 4 ca, rw_ E u1 10 (upd qs 0 (qs 0 + w)), rw_ E u2 8 zs, rw_ E u3 8 fo, rw_ E u4 8 y, rw_ E u5 40 rs, rw_ E u6 12 hs, rw_ E u7 10 cs]) ztF_z) | exact (congrArg (fun y => [rw_ E u0 4 ca, rw_ E u1 10 (upd qs 0 (qs 0 + w)), rw_ E u2 8 zs, rw_ E u3 8 fo, rw_ E u4 8 y, rw_ E u5 40 rs, rw_ E u6 12 hs, rw_ E u7 10 cs]) ztF_z).symm | exact (congrArg (fun y => [rw_ E u0 4 ca, rw_ E u1 10 (upd qs 0 (qs 0 + w)), rw_ E u2 8 zs, rw_ E u3 8 fo, rw_ E u4 8 y, rw_ E u5 40 rs, rw_ E u6 12 hs, rw_ E u7 10 cs]) ztF_u) | exact (congrArg (fun y => [rw_ E u0 4 ca, rw_ E u1 10 (upd qs 0 (qs 0 + w)), rw_ E u2 8 zs, rw_ E u3 8 fo, rw_ E u4 8 y, rw_ E u5 40 rs, rw_ E u6 12 hs, rw_ E u7 10 cs]) ztF_u).symm | exact (congrArg (fun y => [rw_ E u0 4 ca, rw_ E u1 10 (upd qs 0 (qs 0 + w)), rw_ E u2 8 zs, rw_ E u3 8 fo, rw_ E u4 8 y, rw_ E u5 40 rs, rw_ E u6 12 hs, rw_ E u7 10 cs]) upd_upd) | exact (congrArg (fun y => [rw_ E u0 4 ca, rw_ E u1 10 (upd qs 0 (qs 0 + w)), rw_ E u2 8 zs, rw_ E u3 8 fo, rw_ E u4 8 y, rw_ E u5 40 rs, rw_ E u6 12 hs, rw_ E u7 10 cs]) upd_upd).symm | (simp only [c10, c10', oi1n, nI_add, pk_mul, bI, and_true, true_and, and_false, false_and, and_self, or_true, true_or, or_false, false_or, or_self, not_true_eq_false, not_false_eq_true, if_true, if_false, ↓reduceIte] <;> rfl)) ?_
    refine V.loopW (Wd := fun j13 : Nat => [rw_ E u0 4 ca, rw_ E u1 10 (upd qs 0 (qs 0 + w)), rw_ E u2 8 zs, rw_ E u3 8 fo, rw_ E u4 8 (ztF ts j13), rw_ E u5 40 rs, rw_ E u6 12 hs, rw_ E u7 10 cs]) (N := 8) (k0 := 0) (I := (fun j13 : Nat => [(11, .int (nI j13)), (10, .int (zs p)), (9, .int w), (8, .int (nI p)), (0, .ref u0), (1, .ref u1), (2, .ref u2), (3, .ref u3), (4, .ref u4), (5, .ref u5), (6, .ref u6), (7, .ref u7)])) (J := fun _ => True) (Nat.zero_le _) trivial (lv_sub hl [0, 1, 2, 3, 4, 5, 6, 7, 8, 9, 10, 11] (by rw [h14]; rfl)) ?_
    intro j13 j13_N j13_J ihj13 ls hl
    have hl : lv_has ls 13 [(11, .int (nI j13)), (10, .int (zs p)), (9, .int w), (8, .int (nI p)), (0, .ref u0), (1, .ref u1), (2, .ref u2), (3, .ref u3), (4, .ref u4), (5, .ref u5), (6, .ref u6), (7, .ref u7)] := hl
    try dsimp only at j13_J ihj13 ⊢
    refine V.iload F dL_due_64 (lv_at hl 0 rfl) ?_
    refine V.bipush (v := nI 8) F dL_due_66 (by decide) ?_
    refine V.icmp_ge (tgt := 83) F dL_due_68 (by decide) (fun c15 c15' => ?_) (fun c15 c15' => ?_)
    · skip
      have j13_eq := ((lpL rfl (by omega) j13_N).1 c15).symm
      subst j13_eq
      refine V.aload_n F dL_due_83 rfl (lv_at hl 5 rfl) ?_
      refine V.iconst (v := nI 0) F dL_due_84 (by decide) ?_
      refine V.iadn (i := 0) F hE 1 rfl (by omega) (by omega) dL_due_85 (fun z16 e16 => ?_)
      obtain rfl : (qs 0 + w) = z16 := (e16.trans upd_eq).symm
      exact V.iretW F hr hk dL_due_86 (by subst e8 e9; first | with_reducible rfl | rfl | exact (congrArg (fun y => [rw_ E u0 4 ca, rw_ E u1 10 (upd qs 0 (qs 0 + w)), rw_ E u2 8 zs, rw_ E u3 8 fo, rw_ E u4 8 y, rw_ E u5 40 rs, rw_ E u6 12 hs, rw_ E u7 10 cs]) drK_z) | exact (congrArg (fun y => [rw_ E u0 4 ca, rw_ E u1 10 (upd qs 0 (qs 0 + w)), rw_ E u2 8 zs, rw_ E u3 8 fo, rw_ E u4 8 y, rw_ E u5 40 rs, rw_ E u6 12 hs, rw_ E u7 10 cs]) drK_z).symm | exact (congrArg (fun y => [rw_ E u0 4 ca, rw_ E u1 10 (upd qs 0 (qs 0 + w)), rw_ E u2 8 zs, rw_ E u3 8 fo, rw_ E u4 8 y, rw_ E u5 40 rs, rw_ E u6 12 hs, rw_ E u7 10 cs]) drK_u) | exact (congrArg (fun y => [rw_ E u0 4 ca, rw_ E u1 10 (upd qs 0 (qs 0 + w)), rw_ E u2 8 zs, rw_ E u3 8 fo, rw_ E u4 8 y, rw_ E u5 40 rs, rw_ E u6 12 hs, rw_ E u7 10 cs]) drK_u).symm | exact (congrArg (fun y => [rw_ E u0 4 ca, rw_ E u1 10 (upd qs 0 (qs 0 + w)), rw_ E u2 8 zs, rw_ E u3 8 fo, rw_ E u4 8 y, rw_ E u5 40 rs, rw_ E u6 12 hs, rw_ E u7 10 cs]) ztF_z) | exact (congrArg (fun y => [rw_ E u0 4 ca, rw_ E u1 10 (upd qs 0 (qs 0 + w)), rw_ E u2 8 zs, rw_ E u3 8 fo, rw_ E u4 8 y, rw_ E u5 40 rs, rw_ E u6 12 hs, rw_ E u7 10 cs]) ztF_z).symm | exact (congrArg (fun y => [rw_ E u0 4 ca, rw_ E u1 10 (upd qs 0 (qs 0 + w)), rw_ E u2 8 zs, rw_ E u3 8 fo, rw_ E u4 8 y, rw_ E u5 40 rs, rw_ E u6 12 hs, rw_ E u7 10 cs]) ztF_u) | exact (congrArg (fun y => [rw_ E u0 4 ca, rw_ E u1 10 (upd qs 0 (qs 0 + w)), rw_ E u2 8 zs, rw_ E u3 8 fo, rw_ E u4 8 y, rw_ E u5 40 rs, rw_ E u6 12 hs, rw_ E u7 10 cs]) ztF_u).symm | exact (congrArg (fun y => [rw_ E u0 4 ca, rw_ E u1 10 (upd qs 0 (qs 0 + w)), rw_ E u2 8 zs, rw_ E u3 8 fo, rw_ E u4 8 y, rw_ E u5 40 rs, rw_ E u6 12 hs, rw_ E u7 10 cs]) upd_upd) | exact (congrArg (fun y => [rw_ E u0 4 ca, rw_ E u1 10 (upd qs 0 (qs 0 + w)), rw_ E u2 8 zs, rw_ E u3 8 fo, rw_ E u4 8 y, rw_ E u5 40 rs, rw_ E u6 12 hs, rw_ E u7 10 cs]) upd_upd).symm | (simp only [c10, c10', c15, c15', oi1n, nI_add, pk_mul, bI, and_true, true_and, and_false, false_and, and_self, or_true, true_or, or_false, false_or, or_self, not_true_eq_false, not_false_eq_true, if_true, if_false, ↓reduceIte] <;> rfl)) (by subst e8 e9; first | with_reducible rfl | rfl | exact (congrArg (fun y => [rw_ E u0 4 ca, rw_ E u1 10 (upd qs 0 (qs 0 + w)), rw_ E u2 8 zs, rw_ E u3 8 fo, rw_ E u4 8 y, rw_ E u5 40 rs, rw_ E u6 12 hs, rw_ E u7 10 cs]) drK_z) | exact (congrArg (fun y => [rw_ E u0 4 ca, rw_ E u1 10 (upd qs 0 (qs 0 + w)), rw_ E u2 8 zs, rw_ E u3 8 fo, rw_ E u4 8 y, rw_ E u5 40 rs, rw_ E u6 12 hs, rw_ E u7 10 cs]) drK_z).symm | exact (congrArg (fun y => [rw_ E u0 4 ca, rw_ E u1 10 (upd qs 0 (qs 0 + w)), rw_ E u2 8 zs, rw_ E u3 8 fo, rw_ E u4 8 y, rw_ E u5 40 rs, rw_ E u6 12 hs, rw_ E u7 10 cs]) drK_u) | exact (congrArg (fun y => [rw_ E u0 4 ca, rw_ E u1 10 (upd qs 0 (qs 0 + w)), rw_ E u2 8 zs, rw_ E u3 8 fo, rw_ E u4 8 y, rw_ E u5 40 rs, rw_ E u6 12 hs, rw_ E u7 10 cs]) drK_u).symm | exact (congrArg (fun y => [rw_ E u0 4 ca, rw_ E u1 10 (upd qs 0 (qs 0 + w)), rw_ E u2 8 zs, rw_ E u3 8 fo, rw_ E u4 8 y, rw_ E u5 40 rs, rw_ E u6 12 hs, rw_ E u7 10 cs]) ztF_z) | exact (congrArg (fun y => [rw_ E u0 4 ca, rw_ E u1 10 (upd qs 0 (qs 0 + w)), rw_ E u2 8 zs, rw_ E u3 8 fo, rw_ E u4 8 y, rw_ E u5 40 rs, rw_ E u6 12 hs, rw_ E u7 10 cs]) ztF_z).symm | exact (congrArg (fun y => [rw_ E u0 4 ca, rw_ E u1 10 (upd qs 0 (qs 0 + w)), rw_ E u2 8 zs, rw_ E u3 8 fo, rw_ E u4 8 y, rw_ E u5 40 rs, rw_ E u6 12 hs, rw_ E u7 10 cs]) ztF_u) | exact (congrArg (fun y => [rw_ E u0 4 ca, rw_ E u1 10 (upd qs 0 (qs 0 + w)), rw_ E u2 8 zs, rw_ E u3 8 fo, rw_ E u4 8 y, rw_ E u5 40 rs, rw_ E u6 12 hs, rw_ E u7 10 cs]) ztF_u).symm | exact (congrArg (fun y => [rw_ E u0 4 ca, rw_ E u1 10 (upd qs 0 (qs 0 + w)), rw_ E u2 8 zs, rw_ E u3 8 fo, rw_ E u4 8 y, rw_ E u5 40 rs, rw_ E u6 12 hs, rw_ E u7 10 cs]) upd_upd) | exact (congrArg (fun y => [rw_ E u0 4 ca, rw_ E u1 10 (upd qs 0 (qs 0 + w)), rw_ E u2 8 zs, rw_ E u3 8 fo, rw_ E u4 8 y, rw_ E u5 40 rs, rw_ E u6 12 hs, rw_ E u7 10 cs]) upd_upd).symm | (simp only [c10, c10', c15, c15', oi1n, nI_add, pk_mul, bI, and_true, true_and, and_false, false_and, and_self, or_true, true_or, or_false, false_or, or_self, not_true_eq_false, not_false_eq_true, if_true, if_false, ↓reduceIte] <;> rfl))
    · skip
      have j13_lt := (lpL rfl (by omega) j13_N).2 c15
      refine V.aload F dL_due_71 (lv_at hl 8 rfl) ?_
      refine V.iload F dL_due_73 (lv_at hl 0 rfl) ?_
      refine V.iconst (v := nI 0) F dL_due_75 (by decide) ?_
      refine V.isn (i := j13) F hE hN (by rfl) 4 rfl (by omega) (by omega) dL_due_76 rfl ?_
      refine V.iinc (j := 0) (lv' := fun z17 => [(11, .int z17), (10, .int (zs p)), (9, .int w), (8, .int (nI p)), (0, .ref u0), (1, .ref u1), (2, .ref u2), (3, .ref u3), (4, .ref u4), (5, .ref u5), (6, .ref u6), (7, .ref u7)]) F dL_due_77 hl rfl (by decide) (fun _ => rfl) (fun z17 e17 ls hl => ?_)
      refine V.goto (tgt := 64) F dL_due_80 (by decide) ?_
      have h18 : nI (j13 + 1) = z17 := (by subst e8 e9 e17; first | with_reducible rfl | rfl | exact (congrArg (fun y => [rw_ E u0 4 ca, rw_ E u1 10 (upd qs 0 (qs 0 + w)), rw_ E u2 8 zs, rw_ E u3 8 fo, rw_ E u4 8 y, rw_ E u5 40 rs, rw_ E u6 12 hs, rw_ E u7 10 cs]) drK_z) | exact (congrArg (fun y => [rw_ E u0 4 ca, rw_ E u1 10 (upd qs 0 (qs 0 + w)), rw_ E u2 8 zs, rw_ E u3 8 fo, rw_ E u4 8 y, rw_ E u5 40 rs, rw_ E u6 12 hs, rw_ E u7 10 cs]) drK_z).symm | exact (congrArg (fun y => [rw_ E u0 4 ca, rw_ E u1 10 (upd qs 0 (qs 0 + w)), rw_ E u2 8 zs, rw_ E u3 8 fo, rw_ E u4 8 y, rw_ E u5 40 rs, rw_ E u6 12 hs, rw_ E u7 10 cs]) drK_u) | exact (congrArg (fun y => [rw_ E u0 4 ca, rw_ E u1 10 (upd qs 0 (qs 0 + w)), rw_ E u2 8 zs, rw_ E u3 8 fo, rw_ E u4 8 y, rw_ E u5 40 rs, rw_ E u6 12 hs, rw_ E u7 10 cs]) drK_u).symm | exact (congrArg (fun y => [rw_ E u0 4 ca, rw_ E u1 10 (upd qs 0 (qs 0 + w)), rw_ E u2 8 zs, rw_ E u3 8 fo, rw_ E u4 8 y, rw_ E u5 40 rs, rw_ E u6 12 hs, rw_ E u7 10 cs]) ztF_z) | exact (congrArg (fun y => [rw_ E u0 4 ca, rw_ E u1 10 (upd qs 0 (qs 0 + w)), rw_ E u2 8 zs, rw_ E u3 8 fo, rw_ E u4 8 y, rw_ E u5 40 rs, rw_ E u6 12 hs, rw_ E u7 10 cs]) ztF_z).symm | exact (congrArg (fun y => [rw_ E u0 4 ca, rw_ E u1 10 (upd qs 0 (qs 0 + w)), rw_ E u2 8 zs, rw_ E u3 8 fo, rw_ E u4 8 y, rw_ E u5 40 rs, rw_ E u6 12 hs, rw_ E u7 10 cs]) ztF_u) | exact (congrArg (fun y => [rw_ E u0 4 ca, rw_ E u1 10 (upd qs 0 (qs 0 + w)), rw_ E u2 8 zs, rw_ E u3 8 fo, rw_ E u4 8 y, rw_ E u5 40 rs, rw_ E u6 12 hs, rw_ E u7 10 cs]) ztF_u).symm | exact (congrArg (fun y => [rw_ E u0 4 ca, rw_ E u1 10 (upd qs 0 (qs 0 + w)), rw_ E u2 8 zs, rw_ E u3 8 fo, rw_ E u4 8 y, rw_ E u5 40 rs, rw_ E u6 12 hs, rw_ E u7 10 cs]) upd_upd) | exact (congrArg (fun y => [rw_ E u0 4 ca, rw_ E u1 10 (upd qs 0 (qs 0 + w)), rw_ E u2 8 zs, rw_ E u3 8 fo, rw_ E u4 8 y, rw_ E u5 40 rs, rw_ E u6 12 hs, rw_ E u7 10 cs]) upd_upd).symm | (simp only [c10, c10', c15, c15', oi1n, nI_add, pk_mul, bI, and_true, true_and, and_false, false_and, and_self, or_true, true_or, or_false, false_or, or_self, not_true_eq_false, not_false_eq_true, if_true, if_false, ↓reduceIte] <;> rfl))
      refine V.weq (ws' := [rw_ E u0 4 ca, rw_ E u1 10 (upd qs 0 (qs 0 + w)), rw_ E u2 8 zs, rw_ E u3 8 fo, rw_ E u4 8 (ztF ts (j13 + 1)), rw_ E u5 40 rs, rw_ E u6 12 hs, rw_ E u7 10 cs]) (by subst e8 e9 e17; first | with_reducible rfl | rfl | exact (congrArg (fun y => [rw_ E u0 4 ca, rw_ E u1 10 (upd qs 0 (qs 0 + w)), rw_ E u2 8 zs, rw_ E u3 8 fo, rw_ E u4 8 y, rw_ E u5 40 rs, rw_ E u6 12 hs, rw_ E u7 10 cs]) drK_z) | exact (congrArg (fun y => [rw_ E u0 4 ca, rw_ E u1 10 (upd qs 0 (qs 0 + w)), rw_ E u2 8 zs, rw_ E u3 8 fo, rw_ E u4 8 y, rw_ E u5 40 rs, rw_ E u6 12 hs, rw_ E u7 10 cs]) drK_z).symm | exact (congrArg (fun y => [rw_ E u0 4 ca, rw_ E u1 10 (upd qs 0 (qs 0 + w)), rw_ E u2 8 zs, rw_ E u3 8 fo, rw_ E u4 8 y, rw_ E u5 40 rs, rw_ E u6 12 hs, rw_ E u7 10 cs]) drK_u) | exact (congrArg (fun y => [rw_ E u0 4 ca, rw_ E u1 10 (upd qs 0 (qs 0 + w)), rw_ E u2 8 zs, rw_ E u3 8 fo, rw_ E u4 8 y, rw_ E u5 40 rs, rw_ E u6 12 hs, rw_ E u7 10 cs]) drK_u).symm | exact (congrArg (fun y => [rw_ E u0 4 ca, rw_ E u1 10 (upd qs 0 (qs 0 + w)), rw_ E u2 8 zs, rw_ E u3 8 fo, rw_ E u4 8 y, rw_ E u5 40 rs, rw_ E u6 12 hs, rw_ E u7 10 cs]) ztF_z) | exact (congrArg (fun y => [rw_ E u0 4 ca, rw_ E u1 10 (upd qs 0 (qs 0 + w)), rw_ E u2 8 zs, rw_ E u3 8 fo, rw_ E u4 8 y, rw_ E u5 40 rs, rw_ E u6 12 hs, rw_ E u7 10 cs]) ztF_z).symm | exact (congrArg (fun y => [rw_ E u0 4 ca, rw_ E u1 10 (upd qs 0 (qs 0 + w)), rw_ E u2 8 zs, rw_ E u3 8 fo, rw_ E u4 8 y, rw_ E u5 40 rs, rw_ E u6 12 hs, rw_ E u7 10 cs]) ztF_u) | exact (congrArg (fun y => [rw_ E u0 4 ca, rw_ E u1 10 (upd qs 0 (qs 0 + w)), rw_ E u2 8 zs, rw_ E u3 8 fo, rw_ E u4 8 y, rw_ E u5 40 rs, rw_ E u6 12 hs, rw_ E u7 10 cs]) ztF_u).symm | exact (congrArg (fun y => [rw_ E u0 4 ca, rw_ E u1 10 (upd qs 0 (qs 0 + w)), rw_ E u2 8 zs, rw_ E u3 8 fo, rw_ E u4 8 y, rw_ E u5 40 rs, rw_ E u6 12 hs, rw_ E u7 10 cs]) upd_upd) | exact (congrArg (fun y => [rw_ E u0 4 ca, rw_ E u1 10 (upd qs 0 (qs 0 + w)), rw_ E u2 8 zs, rw_ E u3 8 fo, rw_ E u4 8 y, rw_ E u5 40 rs, rw_ E u6 12 hs, rw_ E u7 10 cs]) upd_upd).symm | (simp only [c10, c10', c15, c15', oi1n, nI_add, pk_mul, bI, and_true, true_and, and_false, false_and, and_self, or_true, true_or, or_false, false_or, or_self, not_true_eq_false, not_false_eq_true, if_true, if_false, ↓reduceIte] <;> rfl)) ?_
      exact ihj13 j13_lt trivial _ (lv_sub hl [0, 1, 2, 3, 4, 5, 6, 7, 8, 9, 10, 11] (by rw [h18]; rfl))
  · skip
    subst e8 e9; exact absurd c10' hg
set_option maxHeartbeats 4000000 in
set_option maxRecDepth 100000 in
theorem c_L_due_2r (l : Launch) (E : EV) {u0 u1 u2 u3 u4 u5 u6 u7 : Nat} {ca qs zs fo ts rs hs cs : Nat → Int32} {p : Nat} {w : Int32} {H : Nat} (hc0 : ca 0 = nI 2) (hc1 : ca 1 = nI p) (hp8 : p < 8) (hc2 : ca 2 = w) (hH : qs 9 = nI H) (hH12 : H ≤ 12) (hb : ¬ hpL hs (qs 0) (nI p) H &&& bpM w = 0) : Wr l E yL_due cL_due 13 (some .int) 3 77 [.ref u0, .ref u1, .ref u2, .ref u3, .ref u4, .ref u5, .ref u6, .ref u7] ([rw_ E u0 4 ca, rw_ E u1 10 qs, rw_ E u2 8 zs, rw_ E u3 8 fo, rw_ E u4 8 ts, rw_ E u5 40 rs, rw_ E u6 12 hs, rw_ E u7 10 cs]) ([rw_ E u0 4 ca, rw_ E u1 10 qs, rw_ E u2 8 zs, rw_ E u3 8 fo, rw_ E u4 8 ts, rw_ E u5 40 rs, rw_ E u6 12 hs, rw_ E u7 10 cs]) (some (.int (-103))) := by
  refine Wr.mk0 (by decide) (Nat.le_of_ble_eq_true rfl) ?_
  intro pP eE sS mM aA bB mt cC F hr hk hE hN ls hl
  have hl : lv_has ls 13 [(0, .ref u0), (1, .ref u1), (2, .ref u2), (3, .ref u3), (4, .ref u4), (5, .ref u5), (6, .ref u6), (7, .ref u7)] := hl
  refine V.aload_n F dL_due_0 rfl (lv_at hl 0 rfl) ?_
  refine V.iconst (v := nI 1) F dL_due_1 (by decide) ?_
  refine V.iadn (i := 1) F hE 0 rfl (by omega) (by omega) dL_due_2 (fun z1 e1 => ?_)
  obtain rfl : nI p = z1 := (e1.trans hc1).symm
  refine V.istore (lv' := [(8, .int (nI p)), (0, .ref u0), (1, .ref u1), (2, .ref u2), (3, .ref u3), (4, .ref u4), (5, .ref u5), (6, .ref u6), (7, .ref u7)]) F dL_due_3 hl (by decide) rfl (fun ls hl => ?_)
  refine V.aload_n F dL_due_5 rfl (lv_at hl 1 rfl) ?_
  refine V.iconst (v := nI 2) F dL_due_6 (by decide) ?_
  refine V.iadn (i := 2) F hE 0 rfl (by omega) (by omega) dL_due_7 (fun z2 e2 => ?_)
  obtain rfl : w = z2 := (e2.trans hc2).symm
  refine V.istore (lv' := [(9, .int w), (8, .int (nI p)), (0, .ref u0), (1, .ref u1), (2, .ref u2), (3, .ref u3), (4, .ref u4), (5, .ref u5), (6, .ref u6), (7, .ref u7)]) F dL_due_8 hl (by decide) rfl (fun ls hl => ?_)
  refine V.aload_n F dL_due_10 rfl (lv_at hl 4 rfl) ?_
  refine V.iload F dL_due_11 (lv_at hl 1 rfl) ?_
  refine V.iadn (i := p) F hE 2 rfl (by omega) (by omega) dL_due_13 (fun z3 e3 => ?_)
  obtain rfl : zs p = z3 := (e3.trans rfl).symm
  refine V.istore (lv' := [(10, .int (zs p)), (9, .int w), (8, .int (nI p)), (0, .ref u0), (1, .ref u1), (2, .ref u2), (3, .ref u3), (4, .ref u4), (5, .ref u5), (6, .ref u6), (7, .ref u7)]) F dL_due_14 hl (by decide) rfl (fun ls hl => ?_)
  refine V.aload_n F dL_due_16 rfl (lv_at hl 3 rfl) ?_
  refine V.iconst (v := nI 0) F dL_due_17 (by decide) ?_
  refine V.iadn (i := 0) F hE 0 rfl (by omega) (by omega) dL_due_18 (fun z4 e4 => ?_)
  obtain rfl : nI 2 = z4 := (e4.trans hc0).symm
  refine V.if_ne (tgt := 31) F dL_due_19 (by decide) (fun _ => ?_) (fun h => absurd h (by decide))
  refine V.aload_n F dL_due_31 rfl (lv_at hl 3 rfl) ?_
  refine V.iconst (v := nI 0) F dL_due_32 (by decide) ?_
  refine V.iadn (i := 0) F hE 0 rfl (by omega) (by omega) dL_due_33 (fun z6 e6 => ?_)
  obtain rfl : nI 2 = z6 := (e6.trans hc0).symm
  refine V.iconst (v := nI 1) F dL_due_34 (by decide) ?_
  refine V.icmp_ne (tgt := 87) F dL_due_35 (by decide) (fun _ => ?_) (fun h => absurd h (by decide))
  refine V.aload_n F dL_due_87 rfl (lv_at hl 3 rfl) ?_
  refine V.iconst (v := nI 0) F dL_due_88 (by decide) ?_
  refine V.iadn (i := 0) F hE 0 rfl (by omega) (by omega) dL_due_89 (fun z8 e8 => ?_)
  obtain rfl : nI 2 = z8 := (e8.trans hc0).symm
  refine V.iconst (v := nI 2) F dL_due_90 (by decide) ?_
  refine V.icmp_ne (tgt := 134) F dL_due_91 (by decide) (fun h => absurd h (by decide)) (fun _ => ?_)
  refine V.iload F dL_due_94 (lv_at hl 2 rfl) ?_
  refine V.aload_n F dL_due_96 rfl (lv_at hl 4 rfl) ?_
  refine V.aload F dL_due_97 (lv_at hl 9 rfl) ?_
  refine V.rdS F hE (c_L_hurtParts l E hH hH12) (kL_66 F.2.2.2.2 ⟨Nat.le_of_ble_eq_true rfl, Nat.le_of_ble_eq_true rfl⟩) [1, 6] rfl rfl hl.1 (Nat.le_of_ble_eq_true rfl) dL_due_99 rfl ?_
  refine V.topi (fun z10 e10 => ?_)
  refine V.iload F dL_due_102 (lv_at hl 1 rfl) ?_
  refine V.rdS F hE (c_L_bars l E) (kL_70 F.2.2.2.2 ⟨Nat.le_of_ble_eq_true rfl, Nat.le_of_ble_eq_true rfl⟩) [] rfl rfl hl.1 (Nat.le_of_ble_eq_true rfl) dL_due_104 rfl ?_
  refine V.topi (fun z11 e11 => ?_)
  refine V.iand F dL_due_107 (fun z12 e12 => ?_)
  refine V.if_eq (tgt := 116) F dL_due_108 (by decide) (fun c13 => ?_) (fun c13 => ?_)
  · skip
    subst e10 e11 e12; exact absurd c13 hb
  · skip
    refine V.bipush (v := (-103)) F dL_due_111 (by decide) ?_
    refine V.goto (tgt := 133) F dL_due_113 (by decide) ?_
    exact V.iretW F hr hk dL_due_133 (by subst e10 e11 e12; first | with_reducible rfl | (simp only [c13, oi1n, nI_add, pk_mul, bI, and_true, true_and, and_false, false_and, and_self, or_true, true_or, or_false, false_or, or_self, not_true_eq_false, not_false_eq_true, if_true, if_false, ↓reduceIte] <;> rfl) | rfl | (simp [c13, bI, oi1, nI_succ]; done)) (by subst e10 e11 e12; first | with_reducible rfl | (simp only [c13, oi1n, nI_add, pk_mul, bI, and_true, true_and, and_false, false_and, and_self, or_true, true_or, or_false, false_or, or_self, not_true_eq_false, not_false_eq_true, if_true, if_false, ↓reduceIte] <;> rfl) | rfl | (simp [c13, bI, oi1, nI_succ]; done))
set_option maxHeartbeats 4000000 in
set_option maxRecDepth 100000 in
theorem c_L_due_2a (l : Launch) (E : EV) {u0 u1 u2 u3 u4 u5 u6 u7 : Nat} {ca qs zs fo ts rs hs cs : Nat → Int32} {p : Nat} {k H : Nat} {v : Int32} (hc0 : ca 0 = nI 2) (hc1 : ca 1 = nI p) (hp8 : p < 8) (hc2 : ca 2 = nI k) (hc3 : ca 3 = v) (hk6 : k < 6) (hti : nI 3 < ts p + nI 1) (hH : qs 9 = nI H) (hH12 : H ≤ 12) (hb : hpL hs (qs 0) (nI p) H &&& bpM (nI k) = 0) : Wr l E yL_due cL_due 13 (some .int) 3 77 [.ref u0, .ref u1, .ref u2, .ref u3, .ref u4, .ref u5, .ref u6, .ref u7] ([rw_ E u0 4 ca, rw_ E u1 10 qs, rw_ E u2 8 zs, rw_ E u3 8 fo, rw_ E u4 8 ts, rw_ E u5 40 rs, rw_ E u6 12 hs, rw_ E u7 10 cs]) ([rw_ E u0 4 ca, rw_ E u1 10 (ijQ (rhQ qs) (ijN H)), rw_ E u2 8 zs, rw_ E u3 8 fo, rw_ E u4 8 (upd ts p (ts p + nI 1)), rw_ E u5 40 rs, rw_ E u6 12 (ijH hs H (ijV (rhQ qs) (nI p) (prL k) (nI 2 * v))), rw_ E u7 10 cs]) (some (.int (nI 0))) := by
  refine Wr.mk0 (by decide) (Nat.le_of_ble_eq_true rfl) ?_
  intro pP eE sS mM aA bB mt cC F hr hk hE hN ls hl
  have hl : lv_has ls 13 [(0, .ref u0), (1, .ref u1), (2, .ref u2), (3, .ref u3), (4, .ref u4), (5, .ref u5), (6, .ref u6), (7, .ref u7)] := hl
  refine V.aload_n F dL_due_0 rfl (lv_at hl 0 rfl) ?_
  refine V.iconst (v := nI 1) F dL_due_1 (by decide) ?_
  refine V.iadn (i := 1) F hE 0 rfl (by omega) (by omega) dL_due_2 (fun z1 e1 => ?_)
  obtain rfl : nI p = z1 := (e1.trans hc1).symm
  refine V.istore (lv' := [(8, .int (nI p)), (0, .ref u0), (1, .ref u1), (2, .ref u2), (3, .ref u3), (4, .ref u4), (5, .ref u5), (6, .ref u6), (7, .ref u7)]) F dL_due_3 hl (by decide) rfl (fun ls hl => ?_)
  refine V.aload_n F dL_due_5 rfl (lv_at hl 1 rfl) ?_
  refine V.iconst (v := nI 2) F dL_due_6 (by decide) ?_
  refine V.iadn (i := 2) F hE 0 rfl (by omega) (by omega) dL_due_7 (fun z2 e2 => ?_)
  obtain rfl : nI k = z2 := (e2.trans hc2).symm
  refine V.istore (lv' := [(9, .int (nI k)), (8, .int (nI p)), (0, .ref u0), (1, .ref u1), (2, .ref u2), (3, .ref u3), (4, .ref u4), (5, .ref u5), (6, .ref u6), (7, .ref u7)]) F dL_due_8 hl (by decide) rfl (fun ls hl => ?_)
  refine V.aload_n F dL_due_10 rfl (lv_at hl 4 rfl) ?_
  refine V.iload F dL_due_11 (lv_at hl 1 rfl) ?_
  refine V.iadn (i := p) F hE 2 rfl (by omega) (by omega) dL_due_13 (fun z3 e3 => ?_)
  obtain rfl : zs p = z3 := (e3.trans rfl).symm
  refine V.istore (lv' := [(10, .int (zs p)), (9, .int (nI k)), (8, .int (nI p)), (0, .ref u0), (1, .ref u1), (2, .ref u2), (3, .ref u3), (4, .ref u4), (5, .ref u5), (6, .ref u6), (7, .ref u7)]) F dL_due_14 hl (by decide) rfl (fun ls hl => ?_)
  refine V.aload_n F dL_due_16 rfl (lv_at hl 3 rfl) ?_
  refine V.iconst (v := nI 0) F dL_due_17 (by decide) ?_
  refine V.iadn (i := 0) F hE 0 rfl (by omega) (by omega) dL_due_18 (fun z4 e4 => ?_)
  obtain rfl : nI 2 = z4 := (e4.trans hc0).symm
  refine V.if_ne (tgt := 31) F dL_due_19 (by decide) (fun _ => ?_) (fun h => absurd h (by decide))
  refine V.aload_n F dL_due_31 rfl (lv_at hl 3 rfl) ?_
  refine V.iconst (v := nI 0) F dL_due_32 (by decide) ?_
  refine V.iadn (i := 0) F hE 0 rfl (by omega) (by omega) dL_due_33 (fun z6 e6 => ?_)
  obtain rfl : nI 2 = z6 := (e6.trans hc0).symm
  refine V.iconst (v := nI 1) F dL_due_34 (by decide) ?_
  refine V.icmp_ne (tgt := 87) F dL_due_35 (by decide) (fun _ => ?_) (fun h => absurd h (by decide))
  refine V.aload_n F dL_due_87 rfl (lv_at hl 3 rfl) ?_
  refine V.iconst (v := nI 0) F dL_due_88 (by decide) ?_
  refine V.iadn (i := 0) F hE 0 rfl (by omega) (by omega) dL_due_89 (fun z8 e8 => ?_)
  obtain rfl : nI 2 = z8 := (e8.trans hc0).symm
  refine V.iconst (v := nI 2) F dL_due_90 (by decide) ?_
  refine V.icmp_ne (tgt := 134) F dL_due_91 (by decide) (fun h => absurd h (by decide)) (fun _ => ?_)
  refine V.iload F dL_due_94 (lv_at hl 2 rfl) ?_
  refine V.aload_n F dL_due_96 rfl (lv_at hl 4 rfl) ?_
  refine V.aload F dL_due_97 (lv_at hl 9 rfl) ?_
  refine V.rdS F hE (c_L_hurtParts l E hH hH12) (kL_66 F.2.2.2.2 ⟨Nat.le_of_ble_eq_true rfl, Nat.le_of_ble_eq_true rfl⟩) [1, 6] rfl rfl hl.1 (Nat.le_of_ble_eq_true rfl) dL_due_99 rfl ?_
  refine V.topi (fun z10 e10 => ?_)
  refine V.iload F dL_due_102 (lv_at hl 1 rfl) ?_
  refine V.rdS F hE (c_L_bars l E) (kL_70 F.2.2.2.2 ⟨Nat.le_of_ble_eq_true rfl, Nat.le_of_ble_eq_true rfl⟩) [] rfl rfl hl.1 (Nat.le_of_ble_eq_true rfl) dL_due_104 rfl ?_
  refine V.topi (fun z11 e11 => ?_)
  refine V.iand F dL_due_107 (fun z12 e12 => ?_)
  refine V.if_eq (tgt := 116) F dL_due_108 (by decide) (fun c13 => ?_) (fun c13 => ?_)
  · skip
    refine V.iload F dL_due_116 (lv_at hl 2 rfl) ?_
    refine V.iload F dL_due_118 (lv_at hl 1 rfl) ?_
    refine V.aload_n F dL_due_120 rfl (lv_at hl 3 rfl) ?_
    refine V.iconst (v := nI 3) F dL_due_121 (by decide) ?_
    refine V.iadn (i := 3) F hE 0 rfl (by omega) (by omega) dL_due_122 (fun z14 e14 => ?_)
    obtain rfl : v = z14 := (e14.trans hc3).symm
    refine V.aload_n F dL_due_123 rfl (lv_at hl 4 rfl) ?_
    refine V.aload F dL_due_124 (lv_at hl 7 rfl) ?_
    refine V.aload F dL_due_126 (lv_at hl 8 rfl) ?_
    refine V.aload F dL_due_128 (lv_at hl 9 rfl) ?_
    refine V.wrS F hE hN (by rfl) (c_L_rehearses_a l E hp8 hk6 hti hH hH12) (kL_112 F.2.2.2.2 ⟨Nat.le_of_ble_eq_true rfl, Nat.le_of_ble_eq_true rfl⟩) [1, 4, 5, 6] rfl (by decide) rfl rfl rfl hl.1 (by exact Nat.le_of_ble_eq_true rfl) dL_due_130 rfl ?_
    refine V.topi (fun z15 e15 => ?_)
    exact V.iretW F hr hk dL_due_133 (by subst e10 e11 e12 e15; first | with_reducible rfl | (simp only [eq_true c13, oi1n, nI_add, pk_mul, bI, and_true, true_and, and_false, false_and, and_self, or_true, true_or, or_false, false_or, or_self, not_true_eq_false, not_false_eq_true, if_true, if_false, ↓reduceIte] <;> rfl) | rfl | (simp [eq_true c13, bI, oi1, nI_succ]; done)) (by subst e10 e11 e12 e15; first | with_reducible rfl | (simp only [eq_true c13, oi1n, nI_add, pk_mul, bI, and_true, true_and, and_false, false_and, and_self, or_true, true_or, or_false, false_or, or_self, not_true_eq_false, not_false_eq_true, if_true, if_false, ↓reduceIte] <;> rfl) | rfl | (simp [eq_true c13, bI, oi1, nI_succ]; done))
  · skip
    subst e10 e11 e12; exact absurd hb c13
set_option maxHeartbeats 4000000 in
set_option maxRecDepth 100000 in
theorem c_L_due_2k (l : Launch) (E : EV) {u0 u1 u2 u3 u4 u5 u6 u7 : Nat} {ca qs zs fo ts rs hs cs : Nat → Int32} {p : Nat} {k H R : Nat} {v : Int32} (hc0 : ca 0 = nI 2) (hc1 : ca 1 = nI p) (hp8 : p < 8) (hc2 : ca 2 = nI k) (hc3 : ca 3 = v) (hk6 : k < 6) (hti : ¬ nI 3 < ts p + nI 1) (hH : qs 9 = nI H) (hH12 : H ≤ 12) (hR : qs 8 = nI R) (hR40 : R ≤ 40) (hb : hpL hs (qs 0) (nI p) H &&& bpM (nI k) = 0) : Wr l E yL_due cL_due 13 (some .int) 3 77 [.ref u0, .ref u1, .ref u2, .ref u3, .ref u4, .ref u5, .ref u6, .ref u7] ([rw_ E u0 4 ca, rw_ E u1 10 qs, rw_ E u2 8 zs, rw_ E u3 8 fo, rw_ E u4 8 ts, rw_ E u5 40 rs, rw_ E u6 12 hs, rw_ E u7 10 cs]) ([rw_ E u0 4 ca, rw_ E u1 10 (upd (rhQ qs) 8 (nI (rhN R))), rw_ E u2 8 zs, rw_ E u3 8 fo, rw_ E u4 8 (upd ts p (ts p + nI 1)), rw_ E u5 40 (rhR rs R (rhV qs p k v)), rw_ E u6 12 hs, rw_ E u7 10 cs]) (some (.int (nI 1))) := by
  refine Wr.mk0 (by decide) (Nat.le_of_ble_eq_true rfl) ?_
  intro pP eE sS mM aA bB mt cC F hr hk hE hN ls hl
  have hl : lv_has ls 13 [(0, .ref u0), (1, .ref u1), (2, .ref u2), (3, .ref u3), (4, .ref u4), (5, .ref u5), (6, .ref u6), (7, .ref u7)] := hl
  refine V.aload_n F dL_due_0 rfl (lv_at hl 0 rfl) ?_
  refine V.iconst (v := nI 1) F dL_due_1 (by decide) ?_
  refine V.iadn (i := 1) F hE 0 rfl (by omega) (by omega) dL_due_2 (fun z1 e1 => ?_)
  obtain rfl : nI p = z1 := (e1.trans hc1).symm
  refine V.istore (lv' := [(8, .int (nI p)), (0, .ref u0), (1, .ref u1), (2, .ref u2), (3, .ref u3), (4, .ref u4), (5, .ref u5), (6, .ref u6), (7, .ref u7)]) F dL_due_3 hl (by decide) rfl (fun ls hl => ?_)
  refine V.aload_n F dL_due_5 rfl (lv_at hl 1 rfl) ?_
  refine V.iconst (v := nI 2) F dL_due_6 (by decide) ?_
  refine V.iadn (i := 2) F hE 0 rfl (by omega) (by omega) dL_due_7 (fun z2 e2 => ?_)
  obtain rfl : nI k = z2 := (e2.trans hc2).symm
  refine V.istore (lv' := [(9, .int (nI k)), (8, .int (nI p)), (0, .ref u0), (1, .ref u1), (2, .ref u2), (3, .ref u3), (4, .ref u4), (5, .ref u5), (6, .ref u6), (7, .ref u7)]) F dL_due_8 hl (by decide) rfl (fun ls hl => ?_)
  refine V.aload_n F dL_due_10 rfl (lv_at hl 4 rfl) ?_
  refine V.iload F dL_due_11 (lv_at hl 1 rfl) ?_
  refine V.iadn (i := p) F hE 2 rfl (by omega) (by omega) dL_due_13 (fun z3 e3 => ?_)
  obtain rfl : zs p = z3 := (e3.trans rfl).symm
  refine V.istore (lv' := [(10, .int (zs p)), (9, .int (nI k)), (8, .int (nI p)), (0, .ref u0), (1, .ref u1), (2, .ref u2), (3, .ref u3), (4, .ref u4), (5, .ref u5), (6, .ref u6), (7, .ref u7)]) F dL_due_14 hl (by decide) rfl (fun ls hl => ?_)
  refine V.aload_n F dL_due_16 rfl (lv_at hl 3 rfl) ?_
  refine V.iconst (v := nI 0) F dL_due_17 (by decide) ?_
  refine V.iadn (i := 0) F hE 0 rfl (by omega) (by omega) dL_due_18 (fun z4 e4 => ?_)
  obtain rfl : nI 2 = z4 := (e4.trans hc0).symm
  refine V.if_ne (tgt := 31) F dL_due_19 (by decide) (fun _ => ?_) (fun h => absurd h (by decide))
  refine V.aload_n F dL_due_31 rfl (lv_at hl 3 rfl) ?_
  refine V.iconst (v := nI 0) F dL_due_32 (by decide) ?_
  refine V.iadn (i := 0) F hE 0 rfl (by omega) (by omega) dL_due_33 (fun z6 e6 => ?_)
  obtain rfl : nI 2 = z6 := (e6.trans hc0).symm
  refine V.iconst (v := nI 1) F dL_due_34 (by decide) ?_
  refine V.icmp_ne (tgt := 87) F dL_due_35 (by decide) (fun _ => ?_) (fun h => absurd h (by decide))
  refine V.aload_n F dL_due_87 rfl (lv_at hl 3 rfl) ?_
  refine V.iconst (v := nI 0) F dL_due_88 (by decide) ?_
  refine V.iadn (i := 0) F hE 0 rfl (by omega) (by omega) dL_due_89 (fun z8 e8 => ?_)
  obtain rfl : nI 2 = z8 := (e8.trans hc0).symm
  refine V.iconst (v := nI 2) F dL_due_90 (by decide) ?_
  refine V.icmp_ne (tgt := 134) F dL_due_91 (by decide) (fun h => absurd h (by decide)) (fun _ => ?_)
  refine V.iload F dL_due_94 (lv_at hl 2 rfl) ?_
  refine V.aload_n F dL_due_96 rfl (lv_at hl 4 rfl) ?_
  refine V.aload F dL_due_97 (lv_at hl 9 rfl) ?_
  refine V.rdS F hE (c_L_hurtParts l E hH hH12) (kL_66 F.2.2.2.2 ⟨Nat.le_of_ble_eq_true rfl, Nat.le_of_ble_eq_true rfl⟩) [1, 6] rfl rfl hl.1 (Nat.le_of_ble_eq_true rfl) dL_due_99 rfl ?_
  refine V.topi (fun z10 e10 => ?_)
  refine V.iload F dL_due_102 (lv_at hl 1 rfl) ?_
  refine V.rdS F hE (c_L_bars l E) (kL_70 F.2.2.2.2 ⟨Nat.le_of_ble_eq_true rfl, Nat.le_of_ble_eq_true rfl⟩) [] rfl rfl hl.1 (Nat.le_of_ble_eq_true rfl) dL_due_104 rfl ?_
  refine V.topi (fun z11 e11 => ?_)
  refine V.iand F dL_due_107 (fun z12 e12 => ?_)
  refine V.if_eq (tgt := 116) F dL_due_108 (by decide) (fun c13 => ?_) (fun c13 => ?_)
  · skip
    refine V.iload F dL_due_116 (lv_at hl 2 rfl) ?_
    refine V.iload F dL_due_118 (lv_at hl 1 rfl) ?_
    refine V.aload_n F dL_due_120 rfl (lv_at hl 3 rfl) ?_
    refine V.iconst (v := nI 3) F dL_due_121 (by decide) ?_
    refine V.iadn (i := 3) F hE 0 rfl (by omega) (by omega) dL_due_122 (fun z14 e14 => ?_)
    obtain rfl : v = z14 := (e14.trans hc3).symm
    refine V.aload_n F dL_due_123 rfl (lv_at hl 4 rfl) ?_
    refine V.aload F dL_due_124 (lv_at hl 7 rfl) ?_
    refine V.aload F dL_due_126 (lv_at hl 8 rfl) ?_
    refine V.aload F dL_due_128 (lv_at hl 9 rfl) ?_
    refine V.wrS F hE hN (by rfl) (c_L_rehearses_k l E hp8 hk6 hti hR hR40) (kL_112 F.2.2.2.2 ⟨Nat.le_of_ble_eq_true rfl, Nat.le_of_ble_eq_true rfl⟩) [1, 4, 5, 6] rfl (by decide) rfl rfl rfl hl.1 (by exact Nat.le_of_ble_eq_true rfl) dL_due_130 rfl ?_
    refine V.topi (fun z15 e15 => ?_)
    exact V.iretW F hr hk dL_due_133 (by subst e10 e11 e12 e15; first | with_reducible rfl | (simp only [eq_true c13, oi1n, nI_add, pk_mul, bI, and_true, true_and, and_false, false_and, and_self, or_true, true_or, or_false, false_or, or_self, not_true_eq_false, not_false_eq_true, if_true, if_false, ↓reduceIte] <;> rfl) | rfl | (simp [eq_true c13, bI, oi1, nI_succ]; done)) (by subst e10 e11 e12 e15; first | with_reducible rfl | (simp only [eq_true c13, oi1n, nI_add, pk_mul, bI, and_true, true_and, and_false, false_and, and_self, or_true, true_or, or_false, false_or, or_self, not_true_eq_false, not_false_eq_true, if_true, if_false, ↓reduceIte] <;> rfl) | rfl | (simp [eq_true c13, bI, oi1, nI_succ]; done))
  · skip
    subst e10 e11 e12; exact absurd hb c13
set_option maxHeartbeats 4000000 in
set_option maxRecDepth 100000 in
theorem c_L_due_3 (l : Launch) (E : EV) {u0 u1 u2 u3 u4 u5 u6 u7 : Nat} {ca qs zs fo ts rs hs cs : Nat → Int32} {p : Nat} {w v : Int32} {H C : Nat} (hc0 : ca 0 = nI 3) (hc1 : ca 1 = nI p) (hp8 : p < 8) (hc2 : ca 2 = w) (hc3 : ca 3 = v) (hH : qs 9 = nI H) (hH12 : H ≤ 12) (hC : qs 4 = nI C) (hC10 : C ≤ 10) : Wr l E yL_due cL_due 13 (some .int) 3 77 [.ref u0, .ref u1, .ref u2, .ref u3, .ref u4, .ref u5, .ref u6, .ref u7] ([rw_ E u0 4 ca, rw_ E u1 10 qs, rw_ E u2 8 zs, rw_ E u3 8 fo, rw_ E u4 8 ts, rw_ E u5 40 rs, rw_ E u6 12 hs, rw_ E u7 10 cs]) ([rw_ E u0 4 ca, rw_ E u1 10 (ijQ qs (ijN H)), rw_ E u2 8 zs, rw_ E u3 8 fo, rw_ E u4 8 ts, rw_ E u5 40 rs, rw_ E u6 12 (ijH hs H (ijV qs (nI p) w v)), rw_ E u7 10 cs]) (some (.int (hbL cs (hpL (ijH hs H (ijV qs (nI p) w v)) ((ijQ qs (ijN H)) 0) (nI p) (ijN H)) C))) := by
  refine Wr.mk0 (by decide) (Nat.le_of_ble_eq_true rfl) ?_
  intro pP eE sS mM aA bB mt cC F hr hk hE hN ls hl
  have hl : lv_has ls 13 [(0, .ref u0), (1, .ref u1), (2, .ref u2), (3, .ref u3), (4, .ref u4), (5, .ref u5), (6, .ref u6), (7, .ref u7)] := hl
  refine V.aload_n F dL_due_0 rfl (lv_at hl 0 rfl) ?_
  refine V.iconst (v := nI 1) F dL_due_1 (by decide) ?_
  refine V.iadn (i := 1) F hE 0 rfl (by omega) (by omega) dL_due_2 (fun z1 e1 => ?_)
  obtain rfl : nI p = z1 := (e1.trans hc1).symm
  refine V.istore (lv' := [(8, .int (nI p)), (0, .ref u0), (1, .ref u1), (2, .ref u2), (3, .ref u3), (4, .ref u4), (5, .ref u5), (6, .ref u6), (7, .ref u7)]) F dL_due_3 hl (by decide) rfl (fun ls hl => ?_)
  refine V.aload_n F dL_due_5 rfl (lv_at hl 1 rfl) ?_
  refine V.iconst (v := nI 2) F dL_due_6 (by decide) ?_
  refine V.iadn (i := 2) F hE 0 rfl (by omega) (by omega) dL_due_7 (fun z2 e2 => ?_)
  obtain rfl : w = z2 := (e2.trans hc2).symm
  refine V.istore (lv' := [(9, .int w), (8, .int (nI p)), (0, .ref u0), (1, .ref u1), (2, .ref u2), (3, .ref u3), (4, .ref u4), (5, .ref u5), (6, .ref u6), (7, .ref u7)]) F dL_due_8 hl (by decide) rfl (fun ls hl => ?_)
  refine V.aload_n F dL_due_10 rfl (lv_at hl 4 rfl) ?_
  refine V.iload F dL_due_11 (lv_at hl 1 rfl) ?_
  refine V.iadn (i := p) F hE 2 rfl (by omega) (by omega) dL_due_13 (fun z3 e3 => ?_)
  obtain rfl : zs p = z3 := (e3.trans rfl).symm
  refine V.istore (lv' := [(10, .int (zs p)), (9, .int w), (8, .int (nI p)), (0, .ref u0), (1, .ref u1), (2, .ref u2), (3, .ref u3), (4, .ref u4), (5, .ref u5), (6, .ref u6), (7, .ref u7)]) F dL_due_14 hl (by decide) rfl (fun ls hl => ?_)
  refine V.aload_n F dL_due_16 rfl (lv_at hl 3 rfl) ?_
  refine V.iconst (v := nI 0) F dL_due_17 (by decide) ?_
  refine V.iadn (i := 0) F hE 0 rfl (by omega) (by omega) dL_due_18 (fun z4 e4 => ?_)
  obtain rfl : nI 3 = z4 := (e4.trans hc0).symm
  refine V.if_ne (tgt := 31) F dL_due_19 (by decide) (fun _ => ?_) (fun h => absurd h (by decide))
  refine V.aload_n F dL_due_31 rfl (lv_at hl 3 rfl) ?_
  refine V.iconst (v := nI 0) F dL_due_32 (by decide) ?_
  refine V.iadn (i := 0) F hE 0 rfl (by omega) (by omega) dL_due_33 (fun z6 e6 => ?_)
  obtain rfl : nI 3 = z6 := (e6.trans hc0).symm
  refine V.iconst (v := nI 1) F dL_due_34 (by decide) ?_
  refine V.icmp_ne (tgt := 87) F dL_due_35 (by decide) (fun _ => ?_) (fun h => absurd h (by decide))
  refine V.aload_n F dL_due_87 rfl (lv_at hl 3 rfl) ?_
  refine V.iconst (v := nI 0) F dL_due_88 (by decide) ?_
  refine V.iadn (i := 0) F hE 0 rfl (by omega) (by omega) dL_due_89 (fun z8 e8 => ?_)
  obtain rfl : nI 3 = z8 := (e8.trans hc0).symm
  refine V.iconst (v := nI 2) F dL_due_90 (by decide) ?_
  refine V.icmp_ne (tgt := 134) F dL_due_91 (by decide) (fun _ => ?_) (fun h => absurd h (by decide))
  refine V.aload_n F dL_due_134 rfl (lv_at hl 3 rfl) ?_
  refine V.iconst (v := nI 0) F dL_due_135 (by decide) ?_
  refine V.iadn (i := 0) F hE 0 rfl (by omega) (by omega) dL_due_136 (fun z10 e10 => ?_)
  obtain rfl : nI 3 = z10 := (e10.trans hc0).symm
  refine V.iconst (v := nI 3) F dL_due_137 (by decide) ?_
  refine V.icmp_ne (tgt := 225) F dL_due_138 (by decide) (fun h => absurd h (by decide)) (fun _ => ?_)
  refine V.iload F dL_due_141 (lv_at hl 2 rfl) ?_
  refine V.iload F dL_due_143 (lv_at hl 1 rfl) ?_
  refine V.aload_n F dL_due_145 rfl (lv_at hl 3 rfl) ?_
  refine V.iconst (v := nI 3) F dL_due_146 (by decide) ?_
  refine V.iadn (i := 3) F hE 0 rfl (by omega) (by omega) dL_due_147 (fun z12 e12 => ?_)
  obtain rfl : v = z12 := (e12.trans hc3).symm
  refine V.aload_n F dL_due_148 rfl (lv_at hl 4 rfl) ?_
  refine V.aload F dL_due_149 (lv_at hl 9 rfl) ?_
  refine V.wrSn F hE hN (by rfl) (c_L_injure l E hH hH12) (kL_81 F.2.2.2.2 ⟨Nat.le_of_ble_eq_true rfl, Nat.le_of_ble_eq_true rfl⟩) [1, 6] rfl (by decide) rfl rfl rfl hl.1 (by exact Nat.le_of_ble_eq_true rfl) dL_due_151 rfl ?_
  refine V.weq (ws' := [rw_ E u0 4 ca, rw_ E u1 10 (ijQ qs (ijN H)), rw_ E u2 8 zs, rw_ E u3 8 fo, rw_ E u4 8 ts, rw_ E u5 40 rs, rw_ E u6 12 (ijH hs H (ijV qs (nI p) w v)), rw_ E u7 10 cs]) (by first | with_reducible rfl | (simp only [hbL, oi1n, nI_add, pk_mul, bI, and_true, true_and, and_false, false_and, and_self, or_true, true_or, or_false, false_or, or_self, not_true_eq_false, not_false_eq_true, if_true, if_false, ↓reduceIte] <;> rfl) | rfl | (simp [hbL, bI, oi1, nI_succ]; done)) ?_
  refine V.iconst (v := nI 0) F dL_due_154 (by decide) ?_
  refine V.istore (lv' := [(11, .int (nI 0)), (10, .int (zs p)), (9, .int w), (8, .int (nI p)), (0, .ref u0), (1, .ref u1), (2, .ref u2), (3, .ref u3), (4, .ref u4), (5, .ref u5), (6, .ref u6), (7, .ref u7)]) F dL_due_155 hl (by decide) rfl (fun ls hl => ?_)
  refine V.iconst (v := nI 0) F dL_due_157 (by decide) ?_
  refine V.istore (lv' := [(12, .int (nI 0)), (11, .int (nI 0)), (10, .int (zs p)), (9, .int w), (8, .int (nI p)), (0, .ref u0), (1, .ref u1), (2, .ref u2), (3, .ref u3), (4, .ref u4), (5, .ref u5), (6, .ref u6), (7, .ref u7)]) F dL_due_158 hl (by decide) rfl (fun ls hl => ?_)
  have h14 : nI 0 = nI 0 := (by first | with_reducible rfl | (simp only [hbL, oi1n, nI_add, pk_mul, bI, and_true, true_and, and_false, false_and, and_self, or_true, true_or, or_false, false_or, or_self, not_true_eq_false, not_false_eq_true, if_true, if_false, ↓reduceIte] <;> rfl) | rfl | (simp [hbL, bI, oi1, nI_succ]; done))
  have h15 : hbL cs (hpL (ijH hs H (ijV qs (nI p) w v)) ((ijQ qs (ijN H)) 0) (nI p) (ijN H)) 0 = nI 0 := (by first | with_reducible rfl | (simp only [hbL, oi1n, nI_add, pk_mul, bI, and_true, true_and, and_false, false_and, and_self, or_true, true_or, or_false, false_or, or_self, not_true_eq_false, not_false_eq_true, if_true, if_false, ↓reduceIte] <;> rfl) | rfl | (simp [hbL, bI, oi1, nI_succ]; done))
  refine V.loop (N := C) (k0 := 0) (I := (fun j13 : Nat => [(12, .int (nI j13)), (11, .int (hbL cs (hpL (ijH hs H (ijV qs (nI p) w v)) ((ijQ qs (ijN H)) 0) (nI p) (ijN H)) j13)), (10, .int (zs p)), (9, .int w), (8, .int (nI p)), (0, .ref u0), (1, .ref u1), (2, .ref u2), (3, .ref u3), (4, .ref u4), (5, .ref u5), (6, .ref u6), (7, .ref u7)])) (J := fun _ => True) (Nat.zero_le _) trivial (lv_sub hl [0, 1, 2, 3, 4, 5, 6, 7, 8, 9, 10, 11, 12] (by rw [h14, h15]; rfl)) ?_
  intro j13 j13_N j13_J ihj13 ls hl
  have hl : lv_has ls 13 [(12, .int (nI j13)), (11, .int (hbL cs (hpL (ijH hs H (ijV qs (nI p) w v)) ((ijQ qs (ijN H)) 0) (nI p) (ijN H)) j13)), (10, .int (zs p)), (9, .int w), (8, .int (nI p)), (0, .ref u0), (1, .ref u1), (2, .ref u2), (3, .ref u3), (4, .ref u4), (5, .ref u5), (6, .ref u6), (7, .ref u7)] := hl
  refine V.iload F dL_due_160 (lv_at hl 0 rfl) ?_
  refine V.aload_n F dL_due_162 rfl (lv_at hl 6 rfl) ?_
  refine V.iconst (v := nI 4) F dL_due_163 (by decide) ?_
  refine V.iadn (i := 4) F hE 1 rfl (by omega) (by omega) dL_due_164 (fun z16 e16 => ?_)
  obtain rfl : nI C = z16 := (e16.trans ((upd_ne (by decide)).trans ((upd_ne (by decide)).trans hC))).symm
  refine V.icmp_ge (tgt := 222) F dL_due_165 (by decide) (fun c17 c17' => ?_) (fun c17 c17' => ?_)
  · skip
    have j13_eq := ((lpL rfl (by omega) j13_N).1 c17).symm
    subst j13_eq
    refine V.iload F dL_due_222 (lv_at hl 1 rfl) ?_
    exact V.iretW F hr hk dL_due_224 (by first | with_reducible rfl | (simp only [hbL, c17, c17', oi1n, nI_add, pk_mul, bI, and_true, true_and, and_false, false_and, and_self, or_true, true_or, or_false, false_or, or_self, not_true_eq_false, not_false_eq_true, if_true, if_false, ↓reduceIte] <;> rfl) | rfl | (simp [hbL, c17, c17', bI, oi1, nI_succ]; done)) (by first | with_reducible rfl | (simp only [hbL, c17, c17', oi1n, nI_add, pk_mul, bI, and_true, true_and, and_false, false_and, and_self, or_true, true_or, or_false, false_or, or_self, not_true_eq_false, not_false_eq_true, if_true, if_false, ↓reduceIte] <;> rfl) | rfl | (simp [hbL, c17, c17', bI, oi1, nI_succ]; done))
  · skip
    have j13_lt := (lpL rfl (by omega) j13_N).2 c17
    refine V.iload F dL_due_168 (lv_at hl 1 rfl) ?_
    refine V.aload F dL_due_170 (lv_at hl 12 rfl) ?_
    refine V.iload F dL_due_172 (lv_at hl 0 rfl) ?_
    refine V.iadn (i := j13) F hE 7 rfl (by omega) (by omega) dL_due_174 (fun z18 e18 => ?_)
    refine V.bipush (v := nI 9) F dL_due_175 (by decide) ?_
    refine V.ishr F dL_due_177 (fun z19 e19 => ?_)
    refine V.sipush (v := nI 1023) F dL_due_178 (by decide) ?_
    refine V.iand F dL_due_181 (fun z20 e20 => ?_)
    refine V.if_ne (tgt := 212) F dL_due_182 (by decide) (fun c21 => ?_) (fun c21 => ?_)
    · skip
      refine V.iconst (v := nI 0) F dL_due_212 (by decide) ?_
      refine V.iadd F dL_due_213 (fun z22 e22 => ?_)
      refine V.istore (lv' := [(11, .int z22), (12, .int (nI j13)), (10, .int (zs p)), (9, .int w), (8, .int (nI p)), (0, .ref u0), (1, .ref u1), (2, .ref u2), (3, .ref u3), (4, .ref u4), (5, .ref u5), (6, .ref u6), (7, .ref u7)]) F dL_due_214 hl (by decide) rfl (fun ls hl => ?_)
      refine V.iinc (j := 1) (lv' := fun z23 => [(12, .int z23), (11, .int z22), (10, .int (zs p)), (9, .int w), (8, .int (nI p)), (0, .ref u0), (1, .ref u1), (2, .ref u2), (3, .ref u3), (4, .ref u4), (5, .ref u5), (6, .ref u6), (7, .ref u7)]) F dL_due_216 hl rfl (by decide) (fun _ => rfl) (fun z23 e23 ls hl => ?_)
      refine V.goto (tgt := 160) F dL_due_219 (by decide) ?_
      have h24 : nI (j13 + 1) = z23 := (by subst e18 e19 e20 e22 e23; first | with_reducible rfl | (simp only [hbL, c17, c17', c21, oi1n, nI_add, pk_mul, bI, and_true, true_and, and_false, false_and, and_self, or_true, true_or, or_false, false_or, or_self, not_true_eq_false, not_false_eq_true, if_true, if_false, ↓reduceIte] <;> rfl) | rfl | (simp [hbL, c17, c17', c21, bI, oi1, nI_succ]; done))
      have h25 : hbL cs (hpL (ijH hs H (ijV qs (nI p) w v)) ((ijQ qs (ijN H)) 0) (nI p) (ijN H)) (j13 + 1) = z22 := (by subst e18 e19 e20 e22 e23; first | with_reducible rfl | (simp only [hbL, c17, c17', c21, oi1n, nI_add, pk_mul, bI, and_true, true_and, and_false, false_and, and_self, or_true, true_or, or_false, false_or, or_self, not_true_eq_false, not_false_eq_true, if_true, if_false, ↓reduceIte] <;> rfl) | rfl | (simp [hbL, c17, c17', c21, bI, oi1, nI_succ]; done))
      exact ihj13 j13_lt trivial _ (lv_sub hl [0, 1, 2, 3, 4, 5, 6, 7, 8, 9, 10, 11, 12] (by rw [h24, h25]; rfl))
    · skip
      refine V.iload F dL_due_185 (lv_at hl 4 rfl) ?_
      refine V.aload_n F dL_due_187 rfl (lv_at hl 6 rfl) ?_
      refine V.aload F dL_due_188 (lv_at hl 11 rfl) ?_
      refine V.rdS F hE (c_L_hurtParts l E ((upd_ne (by decide)).trans upd_eq) (ijN_le hH12)) (kL_66 F.2.2.2.2 ⟨Nat.le_of_ble_eq_true rfl, Nat.le_of_ble_eq_true rfl⟩) [1, 6] rfl rfl hl.1 (Nat.le_of_ble_eq_true rfl) dL_due_190 rfl ?_
      refine V.topi (fun z26 e26 => ?_)
      refine V.aload F dL_due_193 (lv_at hl 12 rfl) ?_
      refine V.iload F dL_due_195 (lv_at hl 0 rfl) ?_
      refine V.iadn (i := j13) F hE 7 rfl (by omega) (by omega) dL_due_197 (fun z27 e27 => ?_)
      refine V.bipush (v := nI 7) F dL_due_198 (by decide) ?_
      refine V.iand F dL_due_200 (fun z28 e28 => ?_)
      refine V.rdS F hE (c_L_bars l E) (kL_70 F.2.2.2.2 ⟨Nat.le_of_ble_eq_true rfl, Nat.le_of_ble_eq_true rfl⟩) [] rfl rfl hl.1 (Nat.le_of_ble_eq_true rfl) dL_due_201 rfl ?_
      refine V.topi (fun z29 e29 => ?_)
      refine V.iand F dL_due_204 (fun z30 e30 => ?_)
      refine V.if_eq (tgt := 212) F dL_due_205 (by decide) (fun c31 => ?_) (fun c31 => ?_)
      · skip
        refine V.iconst (v := nI 0) F dL_due_212 (by decide) ?_
        refine V.iadd F dL_due_213 (fun z32 e32 => ?_)
        refine V.istore (lv' := [(11, .int z32), (12, .int (nI j13)), (10, .int (zs p)), (9, .int w), (8, .int (nI p)), (0, .ref u0), (1, .ref u1), (2, .ref u2), (3, .ref u3), (4, .ref u4), (5, .ref u5), (6, .ref u6), (7, .ref u7)]) F dL_due_214 hl (by decide) rfl (fun ls hl => ?_)
        refine V.iinc (j := 1) (lv' := fun z33 => [(12, .int z33), (11, .int z32), (10, .int (zs p)), (9, .int w), (8, .int (nI p)), (0, .ref u0), (1, .ref u1), (2, .ref u2), (3, .ref u3), (4, .ref u4), (5, .ref u5), (6, .ref u6), (7, .ref u7)]) F dL_due_216 hl rfl (by decide) (fun _ => rfl) (fun z33 e33 ls hl => ?_)
        refine V.goto (tgt := 160) F dL_due_219 (by decide) ?_
        have h34 : nI (j13 + 1) = z33 := (by subst e18 e19 e20 e26 e27 e28 e29 e30 e32 e33; first | with_reducible rfl | (simp only [hbL, c17, c17', eq_true c21, eq_true c31, oi1n, nI_add, pk_mul, bI, and_true, true_and, and_false, false_and, and_self, or_true, true_or, or_false, false_or, or_self, not_true_eq_false, not_false_eq_true, if_true, if_false, ↓reduceIte] <;> rfl) | rfl | (simp [hbL, c17, c17', eq_true c21, eq_true c31, bI, oi1, nI_succ]; done))
        have h35 : hbL cs (hpL (ijH hs H (ijV qs (nI p) w v)) ((ijQ qs (ijN H)) 0) (nI p) (ijN H)) (j13 + 1) = z32 := (by subst e18 e19 e20 e26 e27 e28 e29 e30 e32 e33; first | with_reducible rfl | (simp only [hbL, c17, c17', eq_true c21, eq_true c31, oi1n, nI_add, pk_mul, bI, and_true, true_and, and_false, false_and, and_self, or_true, true_or, or_false, false_or, or_self, not_true_eq_false, not_false_eq_true, if_true, if_false, ↓reduceIte] <;> rfl) | rfl | (simp [hbL, c17, c17', eq_true c21, eq_true c31, bI, oi1, nI_succ]; done))
        exact ihj13 j13_lt trivial _ (lv_sub hl [0, 1, 2, 3, 4, 5, 6, 7, 8, 9, 10, 11, 12] (by rw [h34, h35]; rfl))
      · skip
        refine V.iconst (v := nI 1) F dL_due_208 (by decide) ?_
        refine V.goto (tgt := 213) F dL_due_209 (by decide) ?_
        refine V.iadd F dL_due_213 (fun z36 e36 => ?_)
        refine V.istore (lv' := [(11, .int z36), (12, .int (nI j13)), (10, .int (zs p)), (9, .int w), (8, .int (nI p)), (0, .ref u0), (1, .ref u1), (2, .ref u2), (3, .ref u3), (4, .ref u4), (5, .ref u5), (6, .ref u6), (7, .ref u7)]) F dL_due_214 hl (by decide) rfl (fun ls hl => ?_)
        refine V.iinc (j := 1) (lv' := fun z37 => [(12, .int z37), (11, .int z36), (10, .int (zs p)), (9, .int w), (8, .int (nI p)), (0, .ref u0), (1, .ref u1), (2, .ref u2), (3, .ref u3), (4, .ref u4), (5, .ref u5), (6, .ref u6), (7, .ref u7)]) F dL_due_216 hl rfl (by decide) (fun _ => rfl) (fun z37 e37 ls hl => ?_)
        refine V.goto (tgt := 160) F dL_due_219 (by decide) ?_
        have h38 : nI (j13 + 1) = z37 := (by subst e18 e19 e20 e26 e27 e28 e29 e30 e36 e37; first | with_reducible rfl | (simp only [hbL, c17, c17', eq_true c21, c31, oi1n, nI_add, pk_mul, bI, and_true, true_and, and_false, false_and, and_self, or_true, true_or, or_false, false_or, or_self, not_true_eq_false, not_false_eq_true, if_true, if_false, ↓reduceIte] <;> rfl) | rfl | (simp [hbL, c17, c17', eq_true c21, c31, bI, oi1, nI_succ]; done))
        have h39 : hbL cs (hpL (ijH hs H (ijV qs (nI p) w v)) ((ijQ qs (ijN H)) 0) (nI p) (ijN H)) (j13 + 1) = z36 := (by subst e18 e19 e20 e26 e27 e28 e29 e30 e36 e37; first | with_reducible rfl | (simp only [hbL, c17, c17', eq_true c21, c31, oi1n, nI_add, pk_mul, bI, and_true, true_and, and_false, false_and, and_self, or_true, true_or, or_false, false_or, or_self, not_true_eq_false, not_false_eq_true, if_true, if_false, ↓reduceIte] <;> rfl) | rfl | (simp [hbL, c17, c17', eq_true c21, c31, bI, oi1, nI_succ]; done))
        exact ihj13 j13_lt trivial _ (lv_sub hl [0, 1, 2, 3, 4, 5, 6, 7, 8, 9, 10, 11, 12] (by rw [h38, h39]; rfl))
set_option maxHeartbeats 4000000 in
set_option maxRecDepth 100000 in
theorem c_L_due_4r (l : Launch) (E : EV) {u0 u1 u2 u3 u4 u5 u6 u7 : Nat} {ca qs zs fo ts rs hs cs : Nat → Int32} {p : Nat} {w v : Int32} (hc0 : ca 0 = nI 4) (hc1 : ca 1 = nI p) (hp8 : p < 8) (hc2 : ca 2 = w) (hc3 : ca 3 = v) (hg : qs 1 < coL qs v w) : Wr l E yL_due cL_due 13 (some .int) 3 77 [.ref u0, .ref u1, .ref u2, .ref u3, .ref u4, .ref u5, .ref u6, .ref u7] ([rw_ E u0 4 ca, rw_ E u1 10 qs, rw_ E u2 8 zs, rw_ E u3 8 fo, rw_ E u4 8 ts, rw_ E u5 40 rs, rw_ E u6 12 hs, rw_ E u7 10 cs]) ([rw_ E u0 4 ca, rw_ E u1 10 qs, rw_ E u2 8 zs, rw_ E u3 8 fo, rw_ E u4 8 ts, rw_ E u5 40 rs, rw_ E u6 12 hs, rw_ E u7 10 cs]) (some (.int (-103))) := by
  refine Wr.mk0 (by decide) (Nat.le_of_ble_eq_true rfl) ?_
  intro pP eE sS mM aA bB mt cC F hr hk hE hN ls hl
  have hl : lv_has ls 13 [(0, .ref u0), (1, .ref u1), (2, .ref u2), (3, .ref u3), (4, .ref u4), (5, .ref u5), (6, .ref u6), (7, .ref u7)] := hl
  refine V.aload_n F dL_due_0 rfl (lv_at hl 0 rfl) ?_
  refine V.iconst (v := nI 1) F dL_due_1 (by decide) ?_
  refine V.iadn (i := 1) F hE 0 rfl (by omega) (by omega) dL_due_2 (fun z1 e1 => ?_)
  obtain rfl : nI p = z1 := (e1.trans hc1).symm
  refine V.istore (lv' := [(8, .int (nI p)), (0, .ref u0), (1, .ref u1), (2, .ref u2), (3, .ref u3), (4, .ref u4), (5, .ref u5), (6, .ref u6), (7, .ref u7)]) F dL_due_3 hl (by decide) rfl (fun ls hl => ?_)
  refine V.aload_n F dL_due_5 rfl (lv_at hl 1 rfl) ?_
  refine V.iconst (v := nI 2) F dL_due_6 (by decide) ?_
  refine V.iadn (i := 2) F hE 0 rfl (by omega) (by omega) dL_due_7 (fun z2 e2 => ?_)
  obtain rfl : w = z2 := (e2.trans hc2).symm
  refine V.istore (lv' := [(9, .int w), (8, .int (nI p)), (0, .ref u0), (1, .ref u1), (2, .ref u2), (3, .ref u3), (4, .ref u4), (5, .ref u5), (6, .ref u6), (7, .ref u7)]) F dL_due_8 hl (by decide) rfl (fun ls hl => ?_)
  refine V.aload_n F dL_due_10 rfl (lv_at hl 4 rfl) ?_
  refine V.iload F dL_due_11 (lv_at hl 1 rfl) ?_
  refine V.iadn (i := p) F hE 2 rfl (by omega) (by omega) dL_due_13 (fun z3 e3 => ?_)
  obtain rfl : zs p = z3 := (e3.trans rfl).symm
  refine V.istore (lv' := [(10, .int (zs p)), (9, .int w), (8, .int (nI p)), (0, .ref u0), (1, .ref u1), (2, .ref u2), (3, .ref u3), (4, .ref u4), (5, .ref u5), (6, .ref u6), (7, .ref u7)]) F dL_due_14 hl (by decide) rfl (fun ls hl => ?_)
  refine V.aload_n F dL_due_16 rfl (lv_at hl 3 rfl) ?_
  refine V.iconst (v := nI 0) F dL_due_17 (by decide) ?_
  refine V.iadn (i := 0) F hE 0 rfl (by omega) (by omega) dL_due_18 (fun z4 e4 => ?_)
  obtain rfl : nI 4 = z4 := (e4.trans hc0).symm
  refine V.if_ne (tgt := 31) F dL_due_19 (by decide) (fun _ => ?_) (fun h => absurd h (by decide))
  refine V.aload_n F dL_due_31 rfl (lv_at hl 3 rfl) ?_
  refine V.iconst (v := nI 0) F dL_due_32 (by decide) ?_
  refine V.iadn (i := 0) F hE 0 rfl (by omega) (by omega) dL_due_33 (fun z6 e6 => ?_)
  obtain rfl : nI 4 = z6 := (e6.trans hc0).symm
  refine V.iconst (v := nI 1) F dL_due_34 (by decide) ?_
  refine V.icmp_ne (tgt := 87) F dL_due_35 (by decide) (fun _ => ?_) (fun h => absurd h (by decide))
  refine V.aload_n F dL_due_87 rfl (lv_at hl 3 rfl) ?_
  refine V.iconst (v := nI 0) F dL_due_88 (by decide) ?_
  refine V.iadn (i := 0) F hE 0 rfl (by omega) (by omega) dL_due_89 (fun z8 e8 => ?_)
  obtain rfl : nI 4 = z8 := (e8.trans hc0).symm
  refine V.iconst (v := nI 2) F dL_due_90 (by decide) ?_
  refine V.icmp_ne (tgt := 134) F dL_due_91 (by decide) (fun _ => ?_) (fun h => absurd h (by decide))
  refine V.aload_n F dL_due_134 rfl (lv_at hl 3 rfl) ?_
  refine V.iconst (v := nI 0) F dL_due_135 (by decide) ?_
  refine V.iadn (i := 0) F hE 0 rfl (by omega) (by omega) dL_due_136 (fun z10 e10 => ?_)
  obtain rfl : nI 4 = z10 := (e10.trans hc0).symm
  refine V.iconst (v := nI 3) F dL_due_137 (by decide) ?_
  refine V.icmp_ne (tgt := 225) F dL_due_138 (by decide) (fun _ => ?_) (fun h => absurd h (by decide))
  refine V.aload_n F dL_due_225 rfl (lv_at hl 3 rfl) ?_
  refine V.iconst (v := nI 0) F dL_due_226 (by decide) ?_
  refine V.iadn (i := 0) F hE 0 rfl (by omega) (by omega) dL_due_227 (fun z12 e12 => ?_)
  obtain rfl : nI 4 = z12 := (e12.trans hc0).symm
  refine V.iconst (v := nI 4) F dL_due_228 (by decide) ?_
  refine V.icmp_ne (tgt := 298) F dL_due_229 (by decide) (fun h => absurd h (by decide)) (fun _ => ?_)
  refine V.aload_n F dL_due_232 rfl (lv_at hl 3 rfl) ?_
  refine V.iconst (v := nI 3) F dL_due_233 (by decide) ?_
  refine V.iadn (i := 3) F hE 0 rfl (by omega) (by omega) dL_due_234 (fun z14 e14 => ?_)
  obtain rfl : v = z14 := (e14.trans hc3).symm
  refine V.iload F dL_due_235 (lv_at hl 1 rfl) ?_
  refine V.imul F dL_due_237 (fun z15 e15 => ?_)
  refine V.iload F dL_due_238 (lv_at hl 1 rfl) ?_
  refine V.imul F dL_due_240 (fun z16 e16 => ?_)
  refine V.istore (lv' := [(11, .int z16), (10, .int (zs p)), (9, .int w), (8, .int (nI p)), (0, .ref u0), (1, .ref u1), (2, .ref u2), (3, .ref u3), (4, .ref u4), (5, .ref u5), (6, .ref u6), (7, .ref u7)]) F dL_due_241 hl (by decide) rfl (fun ls hl => ?_)
  refine V.iload F dL_due_243 (lv_at hl 0 rfl) ?_
  refine V.iload F dL_due_245 (lv_at hl 0 rfl) ?_
  refine V.aload_n F dL_due_247 rfl (lv_at hl 5 rfl) ?_
  refine V.bipush (v := nI 6) F dL_due_248 (by decide) ?_
  refine V.iadn (i := 6) F hE 1 rfl (by omega) (by omega) dL_due_250 (fun z17 e17 => ?_)
  obtain rfl : qs 6 = z17 := (e17.trans rfl).symm
  refine V.imul F dL_due_251 (fun z18 e18 => ?_)
  refine V.bipush (v := nI 10) F dL_due_252 (by decide) ?_
  refine V.idiv F dL_due_254 (by decide) (fun z19 e19 => ?_)
  refine V.iadd F dL_due_255 (fun z20 e20 => ?_)
  have efold : z20 = coL qs v w := (by subst e15 e16 e18 e19 e20; rfl)
  clear e20
  subst efold
  refine V.istore (lv' := [(11, .int (coL qs v w)), (10, .int (zs p)), (9, .int w), (8, .int (nI p)), (0, .ref u0), (1, .ref u1), (2, .ref u2), (3, .ref u3), (4, .ref u4), (5, .ref u5), (6, .ref u6), (7, .ref u7)]) F dL_due_256 hl (by decide) rfl (fun ls hl => ?_)
  refine V.iload F dL_due_258 (lv_at hl 0 rfl) ?_
  refine V.aload_n F dL_due_260 rfl (lv_at hl 5 rfl) ?_
  refine V.iconst (v := nI 1) F dL_due_261 (by decide) ?_
  refine V.iadn (i := 1) F hE 1 rfl (by omega) (by omega) dL_due_262 (fun z21 e21 => ?_)
  obtain rfl : qs 1 = z21 := (e21.trans rfl).symm
  refine V.icmp_le (tgt := 269) F dL_due_263 (by decide) (fun c22 c22' => ?_) (fun c22 c22' => ?_)
  · skip
    exact absurd hg c22'
  · skip
    refine V.bipush (v := (-103)) F dL_due_266 (by decide) ?_
    exact V.iretW F hr hk dL_due_268 (by subst e15 e16 e18 e19; first | with_reducible rfl | (simp only [c22, c22', oi1n, nI_add, pk_mul, bI, and_true, true_and, and_false, false_and, and_self, or_true, true_or, or_false, false_or, or_self, not_true_eq_false, not_false_eq_true, if_true, if_false, ↓reduceIte] <;> rfl) | rfl | (simp [c22, c22', bI, oi1, nI_succ]; done)) (by subst e15 e16 e18 e19; first | with_reducible rfl | (simp only [c22, c22', oi1n, nI_add, pk_mul, bI, and_true, true_and, and_false, false_and, and_self, or_true, true_or, or_false, false_or, or_self, not_true_eq_false, not_false_eq_true, if_true, if_false, ↓reduceIte] <;> rfl) | rfl | (simp [c22, c22', bI, oi1, nI_succ]; done))
set_option maxHeartbeats 4000000 in
set_option maxRecDepth 100000 in
theorem c_L_due_4 (l : Launch) (E : EV) {u0 u1 u2 u3 u4 u5 u6 u7 : Nat} {ca qs zs fo ts rs hs cs : Nat → Int32} {p : Nat} {w v : Int32} (hc0 : ca 0 = nI 4) (hc1 : ca 1 = nI p) (hp8 : p < 8) (hc2 : ca 2 = w) (hc3 : ca 3 = v) (hg : ¬ qs 1 < coL qs v w) : Wr l E yL_due cL_due 13 (some .int) 3 77 [.ref u0, .ref u1, .ref u2, .ref u3, .ref u4, .ref u5, .ref u6, .ref u7] ([rw_ E u0 4 ca, rw_ E u1 10 qs, rw_ E u2 8 zs, rw_ E u3 8 fo, rw_ E u4 8 ts, rw_ E u5 40 rs, rw_ E u6 12 hs, rw_ E u7 10 cs]) ([rw_ E u0 4 ca, rw_ E u1 10 (isQ qs v w), rw_ E u2 8 zs, rw_ E u3 8 fo, rw_ E u4 8 ts, rw_ E u5 40 rs, rw_ E u6 12 hs, rw_ E u7 10 cs]) (some (.int (qs 1 - coL qs v w))) := by
  refine Wr.mk0 (by decide) (Nat.le_of_ble_eq_true rfl) ?_
  intro pP eE sS mM aA bB mt cC F hr hk hE hN ls hl
  have hl : lv_has ls 13 [(0, .ref u0), (1, .ref u1), (2, .ref u2), (3, .ref u3), (4, .ref u4), (5, .ref u5), (6, .ref u6), (7, .ref u7)] := hl
  refine V.aload_n F dL_due_0 rfl (lv_at hl 0 rfl) ?_
  refine V.iconst (v := nI 1) F dL_due_1 (by decide) ?_
  refine V.iadn (i := 1) F hE 0 rfl (by omega) (by omega) dL_due_2 (fun z1 e1 => ?_)
  obtain rfl : nI p = z1 := (e1.trans hc1).symm
  refine V.istore (lv' := [(8, .int (nI p)), (0, .ref u0), (1, .ref u1), (2, .ref u2), (3, .ref u3), (4, .ref u4), (5, .ref u5), (6, .ref u6), (7, .ref u7)]) F dL_due_3 hl (by decide) rfl (fun ls hl => ?_)
  refine V.aload_n F dL_due_5 rfl (lv_at hl 1 rfl) ?_
  refine V.iconst (v := nI 2) F dL_due_6 (by decide) ?_
  refine V.iadn (i := 2) F hE 0 rfl (by omega) (by omega) dL_due_7 (fun z2 e2 => ?_)
  obtain rfl : w = z2 := (e2.trans hc2).symm
  refine V.istore (lv' := [(9, .int w), (8, .int (nI p)), (0, .ref u0), (1, .ref u1), (2, .ref u2), (3, .ref u3), (4, .ref u4), (5, .ref u5), (6, .ref u6), (7, .ref u7)]) F dL_due_8 hl (by decide) rfl (fun ls hl => ?_)
  refine V.aload_n F dL_due_10 rfl (lv_at hl 4 rfl) ?_
  refine V.iload F dL_due_11 (lv_at hl 1 rfl) ?_
  refine V.iadn (i := p) F hE 2 rfl (by omega) (by omega) dL_due_13 (fun z3 e3 => ?_)
  obtain rfl : zs p = z3 := (e3.trans rfl).symm
  refine V.istore (lv' := [(10, .int (zs p)), (9, .int w), (8, .int (nI p)), (0, .ref u0), (1, .ref u1), (2, .ref u2), (3, .ref u3), (4, .ref u4), (5, .ref u5), (6, .ref u6), (7, .ref u7)]) F dL_due_14 hl (by decide) rfl (fun ls hl => ?_)
  refine V.aload_n F dL_due_16 rfl (lv_at hl 3 rfl) ?_
  refine V.iconst (v := nI 0) F dL_due_17 (by decide) ?_
  refine V.iadn (i := 0) F hE 0 rfl (by omega) (by omega) dL_due_18 (fun z4 e4 => ?_)
  obtain rfl : nI 4 = z4 := (e4.trans hc0).symm
  refine V.if_ne (tgt := 31) F dL_due_19 (by decide) (fun _ => ?_) (fun h => absurd h (by decide))
  refine V.aload_n F dL_due_31 rfl (lv_at hl 3 rfl) ?_
  refine V.iconst (v := nI 0) F dL_due_32 (by decide) ?_
  refine V.iadn (i := 0) F hE 0 rfl (by omega) (by omega) dL_due_33 (fun z6 e6 => ?_)
  obtain rfl : nI 4 = z6 := (e6.trans hc0).symm
  refine V.iconst (v := nI 1) F dL_due_34 (by decide) ?_
  refine V.icmp_ne (tgt := 87) F dL_due_35 (by decide) (fun _ => ?_) (fun h => absurd h (by decide))
  refine V.aload_n F dL_due_87 rfl (lv_at hl 3 rfl) ?_
  refine V.iconst (v := nI 0) F dL_due_88 (by decide) ?_
  refine V.iadn (i := 0) F hE 0 rfl (by omega) (by omega) dL_due_89 (fun z8 e8 => ?_)
  obtain rfl : nI 4 = z8 := (e8.trans hc0).symm
  refine V.iconst (v := nI 2) F dL_due_90 (by decide) ?_
  refine V.icmp_ne (tgt := 134) F dL_due_91 (by decide) (fun _ => ?_) (fun h => absurd h (by decide))
  refine V.aload_n F dL_due_134 rfl (lv_at hl 3 rfl) ?_
  refine V.iconst (v := nI 0) F dL_due_135 (by decide) ?_
  refine V.iadn (i := 0) F hE 0 rfl (by omega) (by omega) dL_due_136 (fun z10 e10 => ?_)
  obtain rfl : nI 4 = z10 := (e10.trans hc0).symm
  refine V.iconst (v := nI 3) F dL_due_137 (by decide) ?_
  refine V.icmp_ne (tgt := 225) F dL_due_138 (by decide) (fun _ => ?_) (fun h => absurd h (by decide))
  refine V.aload_n F dL_due_225 rfl (lv_at hl 3 rfl) ?_
  refine V.iconst (v := nI 0) F dL_due_226 (by decide) ?_
  refine V.iadn (i := 0) F hE 0 rfl (by omega) (by omega) dL_due_227 (fun z12 e12 => ?_)
  obtain rfl : nI 4 = z12 := (e12.trans hc0).symm
  refine V.iconst (v := nI 4) F dL_due_228 (by decide) ?_
  refine V.icmp_ne (tgt := 298) F dL_due_229 (by decide) (fun h => absurd h (by decide)) (fun _ => ?_)
  refine V.aload_n F dL_due_232 rfl (lv_at hl 3 rfl) ?_
  refine V.iconst (v := nI 3) F dL_due_233 (by decide) ?_
  refine V.iadn (i := 3) F hE 0 rfl (by omega) (by omega) dL_due_234 (fun z14 e14 => ?_)
  obtain rfl : v = z14 := (e14.trans hc3).symm
  refine V.iload F dL_due_235 (lv_at hl 1 rfl) ?_
  refine V.imul F dL_due_237 (fun z15 e15 => ?_)
  refine V.iload F dL_due_238 (lv_at hl 1 rfl) ?_
  refine V.imul F dL_due_240 (fun z16 e16 => ?_)
  refine V.istore (lv' := [(11, .int z16), (10, .int (zs p)), (9, .int w), (8, .int (nI p)), (0, .ref u0), (1, .ref u1), (2, .ref u2), (3, .ref u3), (4, .ref u4), (5, .ref u5), (6, .ref u6), (7, .ref u7)]) F dL_due_241 hl (by decide) rfl (fun ls hl => ?_)
  refine V.iload F dL_due_243 (lv_at hl 0 rfl) ?_
  refine V.iload F dL_due_245 (lv_at hl 0 rfl) ?_
  refine V.aload_n F dL_due_247 rfl (lv_at hl 5 rfl) ?_
  refine V.bipush (v := nI 6) F dL_due_248 (by decide) ?_
  refine V.iadn (i := 6) F hE 1 rfl (by omega) (by omega) dL_due_250 (fun z17 e17 => ?_)
  obtain rfl : qs 6 = z17 := (e17.trans rfl).symm
  refine V.imul F dL_due_251 (fun z18 e18 => ?_)
  refine V.bipush (v := nI 10) F dL_due_252 (by decide) ?_
  refine V.idiv F dL_due_254 (by decide) (fun z19 e19 => ?_)
  refine V.iadd F dL_due_255 (fun z20 e20 => ?_)
  have efold : z20 = coL qs v w := (by subst e15 e16 e18 e19 e20; rfl)
  clear e20
  subst efold
  refine V.istore (lv' := [(11, .int (coL qs v w)), (10, .int (zs p)), (9, .int w), (8, .int (nI p)), (0, .ref u0), (1, .ref u1), (2, .ref u2), (3, .ref u3), (4, .ref u4), (5, .ref u5), (6, .ref u6), (7, .ref u7)]) F dL_due_256 hl (by decide) rfl (fun ls hl => ?_)
  refine V.iload F dL_due_258 (lv_at hl 0 rfl) ?_
  refine V.aload_n F dL_due_260 rfl (lv_at hl 5 rfl) ?_
  refine V.iconst (v := nI 1) F dL_due_261 (by decide) ?_
  refine V.iadn (i := 1) F hE 1 rfl (by omega) (by omega) dL_due_262 (fun z21 e21 => ?_)
  obtain rfl : qs 1 = z21 := (e21.trans rfl).symm
  refine V.icmp_le (tgt := 269) F dL_due_263 (by decide) (fun c22 c22' => ?_) (fun c22 c22' => ?_)
  · skip
    refine V.aload_n F dL_due_269 rfl (lv_at hl 5 rfl) ?_
    refine V.iconst (v := nI 1) F dL_due_270 (by decide) ?_
    refine V.dup2 F dL_due_271 rfl rfl ?_
    refine V.iadn (i := 1) F hE 1 rfl (by omega) (by omega) dL_due_272 (fun z23 e23 => ?_)
    obtain rfl : qs 1 = z23 := (e23.trans rfl).symm
    refine V.iload F dL_due_273 (lv_at hl 0 rfl) ?_
    refine V.isub F dL_due_275 (fun z24 e24 => ?_)
    obtain rfl : (qs 1 - coL qs v w) = z24 := (e24.trans rfl).symm
    refine V.isn (i := 1) F hE hN (by rfl) 1 rfl (by omega) (by omega) dL_due_276 rfl ?_
    refine V.aload_n F dL_due_277 rfl (lv_at hl 5 rfl) ?_
    refine V.iconst (v := nI 2) F dL_due_278 (by decide) ?_
    refine V.iload F dL_due_279 (lv_at hl 2 rfl) ?_
    refine V.isn (i := 2) F hE hN (by rfl) 1 rfl (by omega) (by omega) dL_due_281 rfl ?_
    refine V.aload_n F dL_due_282 rfl (lv_at hl 5 rfl) ?_
    refine V.iconst (v := nI 3) F dL_due_283 (by decide) ?_
    refine V.aload_n F dL_due_284 rfl (lv_at hl 5 rfl) ?_
    refine V.iconst (v := nI 0) F dL_due_285 (by decide) ?_
    refine V.iadn (i := 0) F hE 1 rfl (by omega) (by omega) dL_due_286 (fun z25 e25 => ?_)
    obtain rfl : qs 0 = z25 := (e25.trans ((upd_ne (by decide)).trans (upd_ne (by decide)))).symm
    refine V.aload_n F dL_due_287 rfl (lv_at hl 4 rfl) ?_
    refine V.iconst (v := nI 3) F dL_due_288 (by decide) ?_
    refine V.iadn (i := 3) F hE 0 rfl (by omega) (by omega) dL_due_289 (fun z26 e26 => ?_)
    obtain rfl : v = z26 := (e26.trans hc3).symm
    refine V.iadd F dL_due_290 (fun z27 e27 => ?_)
    refine V.iconst (v := nI 1) F dL_due_291 (by decide) ?_
    refine V.isub F dL_due_292 (fun z28 e28 => ?_)
    refine V.isn (i := 3) F hE hN (by rfl) 1 rfl (by omega) (by omega) dL_due_293 rfl ?_
    refine V.aload_n F dL_due_294 rfl (lv_at hl 5 rfl) ?_
    refine V.iconst (v := nI 1) F dL_due_295 (by decide) ?_
    refine V.iadn (i := 1) F hE 1 rfl (by omega) (by omega) dL_due_296 (fun z29 e29 => ?_)
    obtain rfl : (qs 1 - coL qs v w) = z29 := (e29.trans ((upd_ne (by decide)).trans ((upd_ne (by decide)).trans upd_eq))).symm
    exact V.iretW F hr hk dL_due_297 (by subst e15 e16 e18 e19 e27 e28; first | with_reducible rfl | (simp only [c22, c22', oi1n, nI_add, pk_mul, bI, and_true, true_and, and_false, false_and, and_self, or_true, true_or, or_false, false_or, or_self, not_true_eq_false, not_false_eq_true, if_true, if_false, ↓reduceIte] <;> rfl) | rfl | (simp [c22, c22', bI, oi1, nI_succ]; done)) (by subst e15 e16 e18 e19 e27 e28; first | with_reducible rfl | (simp only [c22, c22', oi1n, nI_add, pk_mul, bI, and_true, true_and, and_false, false_and, and_self, or_true, true_or, or_false, false_or, or_self, not_true_eq_false, not_false_eq_true, if_true, if_false, ↓reduceIte] <;> rfl) | rfl | (simp [c22, c22', bI, oi1, nI_succ]; done))
  · skip
    exact absurd c22' hg
set_option maxHeartbeats 4000000 in
set_option maxRecDepth 100000 in
theorem c_L_due_5r (l : Launch) (E : EV) {u0 u1 u2 u3 u4 u5 u6 u7 : Nat} {ca qs zs fo ts rs hs cs : Nat → Int32} {p : Nat} {w : Int32} (hc0 : ca 0 = nI 5) (hc1 : ca 1 = nI p) (hp8 : p < 8) (hc2 : ca 2 = w) (hg : qs 4 = nI 10) : Wr l E yL_due cL_due 13 (some .int) 3 77 [.ref u0, .ref u1, .ref u2, .ref u3, .ref u4, .ref u5, .ref u6, .ref u7] ([rw_ E u0 4 ca, rw_ E u1 10 qs, rw_ E u2 8 zs, rw_ E u3 8 fo, rw_ E u4 8 ts, rw_ E u5 40 rs, rw_ E u6 12 hs, rw_ E u7 10 cs]) ([rw_ E u0 4 ca, rw_ E u1 10 qs, rw_ E u2 8 zs, rw_ E u3 8 fo, rw_ E u4 8 ts, rw_ E u5 40 rs, rw_ E u6 12 hs, rw_ E u7 10 cs]) (some (.int (-103))) := by
  refine Wr.mk0 (by decide) (Nat.le_of_ble_eq_true rfl) ?_
  intro pP eE sS mM aA bB mt cC F hr hk hE hN ls hl
  have hl : lv_has ls 13 [(0, .ref u0), (1, .ref u1), (2, .ref u2), (3, .ref u3), (4, .ref u4), (5, .ref u5), (6, .ref u6), (7, .ref u7)] := hl
  refine V.aload_n F dL_due_0 rfl (lv_at hl 0 rfl) ?_
  refine V.iconst (v := nI 1) F dL_due_1 (by decide) ?_
  refine V.iadn (i := 1) F hE 0 rfl (by omega) (by omega) dL_due_2 (fun z1 e1 => ?_)
  obtain rfl : nI p = z1 := (e1.trans hc1).symm
  refine V.istore (lv' := [(8, .int (nI p)), (0, .ref u0), (1, .ref u1), (2, .ref u2), (3, .ref u3), (4, .ref u4), (5, .ref u5), (6, .ref u6), (7, .ref u7)]) F dL_due_3 hl (by decide) rfl (fun ls hl => ?_)
  refine V.aload_n F dL_due_5 rfl (lv_at hl 1 rfl) ?_
  refine V.iconst (v := nI 2) F dL_due_6 (by decide) ?_
  refine V.iadn (i := 2) F hE 0 rfl (by omega) (by omega) dL_due_7 (fun z2 e2 => ?_)
  obtain rfl : w = z2 := (e2.trans hc2).symm
  refine V.istore (lv' := [(9, .int w), (8, .int (nI p)), (0, .ref u0), (1, .ref u1), (2, .ref u2), (3, .ref u3), (4, .ref u4), (5, .ref u5), (6, .ref u6), (7, .ref u7)]) F dL_due_8 hl (by decide) rfl (fun ls hl => ?_)
  refine V.aload_n F dL_due_10 rfl (lv_at hl 4 rfl) ?_
  refine V.iload F dL_due_11 (lv_at hl 1 rfl) ?_
  refine V.iadn (i := p) F hE 2 rfl (by omega) (by omega) dL_due_13 (fun z3 e3 => ?_)
  obtain rfl : zs p = z3 := (e3.trans rfl).symm
  refine V.istore (lv' := [(10, .int (zs p)), (9, .int w), (8, .int (nI p)), (0, .ref u0), (1, .ref u1), (2, .ref u2), (3, .ref u3), (4, .ref u4), (5, .ref u5), (6, .ref u6), (7, .ref u7)]) F dL_due_14 hl (by decide) rfl (fun ls hl => ?_)
  refine V.aload_n F dL_due_16 rfl (lv_at hl 3 rfl) ?_
  refine V.iconst (v := nI 0) F dL_due_17 (by decide) ?_
  refine V.iadn (i := 0) F hE 0 rfl (by omega) (by omega) dL_due_18 (fun z4 e4 => ?_)
  obtain rfl : nI 5 = z4 := (e4.trans hc0).symm
  refine V.if_ne (tgt := 31) F dL_due_19 (by decide) (fun _ => ?_) (fun h => absurd h (by decide))
  refine V.aload_n F dL_due_31 rfl (lv_at hl 3 rfl) ?_
  refine V.iconst (v := nI 0) F dL_due_32 (by decide) ?_
  refine V.iadn (i := 0) F hE 0 rfl (by omega) (by omega) dL_due_33 (fun z6 e6 => ?_)
  obtain rfl : nI 5 = z6 := (e6.trans hc0).symm
  refine V.iconst (v := nI 1) F dL_due_34 (by decide) ?_
  refine V.icmp_ne (tgt := 87) F dL_due_35 (by decide) (fun _ => ?_) (fun h => absurd h (by decide))
  refine V.aload_n F dL_due_87 rfl (lv_at hl 3 rfl) ?_
  refine V.iconst (v := nI 0) F dL_due_88 (by decide) ?_
  refine V.iadn (i := 0) F hE 0 rfl (by omega) (by omega) dL_due_89 (fun z8 e8 => ?_)
  obtain rfl : nI 5 = z8 := (e8.trans hc0).symm
  refine V.iconst (v := nI 2) F dL_due_90 (by decide) ?_
  refine V.icmp_ne (tgt := 134) F dL_due_91 (by decide) (fun _ => ?_) (fun h => absurd h (by decide))
  refine V.aload_n F dL_due_134 rfl (lv_at hl 3 rfl) ?_
  refine V.iconst (v := nI 0) F dL_due_135 (by decide) ?_
  refine V.iadn (i := 0) F hE 0 rfl (by omega) (by omega) dL_due_136 (fun z10 e10 => ?_)
  obtain rfl : nI 5 = z10 := (e10.trans hc0).symm
  refine V.iconst (v := nI 3) F dL_due_137 (by decide) ?_
  refine V.icmp_ne (tgt := 225) F dL_due_138 (by decide) (fun _ => ?_) (fun h => absurd h (by decide))
  refine V.aload_n F dL_due_225 rfl (lv_at hl 3 rfl) ?_
  refine V.iconst (v := nI 0) F dL_due_226 (by decide) ?_
  refine V.iadn (i := 0) F hE 0 rfl (by omega) (by omega) dL_due_227 (fun z12 e12 => ?_)
  obtain rfl : nI 5 = z12 := (e12.trans hc0).symm
  refine V.iconst (v := nI 4) F dL_due_228 (by decide) ?_
  refine V.icmp_ne (tgt := 298) F dL_due_229 (by decide) (fun _ => ?_) (fun h => absurd h (by decide))
  refine V.aload_n F dL_due_298 rfl (lv_at hl 3 rfl) ?_
  refine V.iconst (v := nI 0) F dL_due_299 (by decide) ?_
  refine V.iadn (i := 0) F hE 0 rfl (by omega) (by omega) dL_due_300 (fun z14 e14 => ?_)
  obtain rfl : nI 5 = z14 := (e14.trans hc0).symm
  refine V.iconst (v := nI 5) F dL_due_301 (by decide) ?_
  refine V.icmp_ne (tgt := 350) F dL_due_302 (by decide) (fun h => absurd h (by decide)) (fun _ => ?_)
  refine V.aload_n F dL_due_305 rfl (lv_at hl 4 rfl) ?_
  refine V.iconst (v := nI 4) F dL_due_306 (by decide) ?_
  refine V.iadn (i := 4) F hE 1 rfl (by omega) (by omega) dL_due_307 (fun z16 e16 => ?_)
  obtain rfl : nI 10 = z16 := (e16.trans hg).symm
  refine V.bipush (v := nI 10) F dL_due_308 (by decide) ?_
  refine V.icmp_ne (tgt := 316) F dL_due_310 (by decide) (fun h => absurd h (by decide)) (fun _ => ?_)
  refine V.bipush (v := (-103)) F dL_due_313 (by decide) ?_
  exact V.iretW F hr hk dL_due_315 (by first | with_reducible rfl | (simp only [oi1n, nI_add, pk_mul, bI, and_true, true_and, and_false, false_and, and_self, or_true, true_or, or_false, false_or, or_self, not_true_eq_false, not_false_eq_true, if_true, if_false, ↓reduceIte] <;> rfl) | rfl | (simp [bI, oi1, nI_succ]; done)) (by first | with_reducible rfl | (simp only [oi1n, nI_add, pk_mul, bI, and_true, true_and, and_false, false_and, and_self, or_true, true_or, or_false, false_or, or_self, not_true_eq_false, not_false_eq_true, if_true, if_false, ↓reduceIte] <;> rfl) | rfl | (simp [bI, oi1, nI_succ]; done))
set_option maxHeartbeats 4000000 in
set_option maxRecDepth 100000 in
theorem c_L_due_5 (l : Launch) (E : EV) {u0 u1 u2 u3 u4 u5 u6 u7 : Nat} {ca qs zs fo ts rs hs cs : Nat → Int32} {p : Nat} {k w C : Nat} (hc0 : ca 0 = nI 5) (hc1 : ca 1 = nI p) (hp8 : p < 8) (hc2 : ca 2 = nI k) (hc3 : ca 3 = nI w) (hC : qs 4 = nI C) (hC10 : C < 10) : Wr l E yL_due cL_due 13 (some .int) 3 77 [.ref u0, .ref u1, .ref u2, .ref u3, .ref u4, .ref u5, .ref u6, .ref u7] ([rw_ E u0 4 ca, rw_ E u1 10 qs, rw_ E u2 8 zs, rw_ E u3 8 fo, rw_ E u4 8 ts, rw_ E u5 40 rs, rw_ E u6 12 hs, rw_ E u7 10 cs]) ([rw_ E u0 4 ca, rw_ E u1 10 (upd qs 4 (nI (C + 1))), rw_ E u2 8 zs, rw_ E u3 8 fo, rw_ E u4 8 ts, rw_ E u5 40 rs, rw_ E u6 12 hs, rw_ E u7 10 (upd cs C (nI (k + 8 * w + 64 * p)))]) (some (.int (nI C))) := by
  refine Wr.mk0 (by decide) (Nat.le_of_ble_eq_true rfl) ?_
  intro pP eE sS mM aA bB mt cC F hr hk hE hN ls hl
  have hl : lv_has ls 13 [(0, .ref u0), (1, .ref u1), (2, .ref u2), (3, .ref u3), (4, .ref u4), (5, .ref u5), (6, .ref u6), (7, .ref u7)] := hl
  refine V.aload_n F dL_due_0 rfl (lv_at hl 0 rfl) ?_
  refine V.iconst (v := nI 1) F dL_due_1 (by decide) ?_
  refine V.iadn (i := 1) F hE 0 rfl (by omega) (by omega) dL_due_2 (fun z1 e1 => ?_)
  obtain rfl : nI p = z1 := (e1.trans hc1).symm
  refine V.istore (lv' := [(8, .int (nI p)), (0, .ref u0), (1, .ref u1), (2, .ref u2), (3, .ref u3), (4, .ref u4), (5, .ref u5), (6, .ref u6), (7, .ref u7)]) F dL_due_3 hl (by decide) rfl (fun ls hl => ?_)
  refine V.aload_n F dL_due_5 rfl (lv_at hl 1 rfl) ?_
  refine V.iconst (v := nI 2) F dL_due_6 (by decide) ?_
  refine V.iadn (i := 2) F hE 0 rfl (by omega) (by omega) dL_due_7 (fun z2 e2 => ?_)
  obtain rfl : nI k = z2 := (e2.trans hc2).symm
  refine V.istore (lv' := [(9, .int (nI k)), (8, .int (nI p)), (0, .ref u0), (1, .ref u1), (2, .ref u2), (3, .ref u3), (4, .ref u4), (5, .ref u5), (6, .ref u6), (7, .ref u7)]) F dL_due_8 hl (by decide) rfl (fun ls hl => ?_)
  refine V.aload_n F dL_due_10 rfl (lv_at hl 4 rfl) ?_
  refine V.iload F dL_due_11 (lv_at hl 1 rfl) ?_
  refine V.iadn (i := p) F hE 2 rfl (by omega) (by omega) dL_due_13 (fun z3 e3 => ?_)
  obtain rfl : zs p = z3 := (e3.trans rfl).symm
  refine V.istore (lv' := [(10, .int (zs p)), (9, .int (nI k)), (8, .int (nI p)), (0, .ref u0), (1, .ref u1), (2, .ref u2), (3, .ref u3), (4, .ref u4), (5, .ref u5), (6, .ref u6), (7, .ref u7)]) F dL_due_14 hl (by decide) rfl (fun ls hl => ?_)
  refine V.aload_n F dL_due_16 rfl (lv_at hl 3 rfl) ?_
  refine V.iconst (v := nI 0) F dL_due_17 (by decide) ?_
  refine V.iadn (i := 0) F hE 0 rfl (by omega) (by omega) dL_due_18 (fun z4 e4 => ?_)
  obtain rfl : nI 5 = z4 := (e4.trans hc0).symm
  refine V.if_ne (tgt := 31) F dL_due_19 (by decide) (fun _ => ?_) (fun h => absurd h (by decide))
  refine V.aload_n F dL_due_31 rfl (lv_at hl 3 rfl) ?_
  refine V.iconst (v := nI 0) F dL_due_32 (by decide) ?_
  refine V.iadn (i := 0) F hE 0 rfl (by omega) (by omega) dL_due_33 (fun z6 e6 => ?_)
  obtain rfl : nI 5 = z6 := (e6.trans hc0).symm
  refine V.iconst (v := nI 1) F dL_due_34 (by decide) ?_
  refine V.icmp_ne (tgt := 87) F dL_due_35 (by decide) (fun _ => ?_) (fun h => absurd h (by decide))
  refine V.aload_n F dL_due_87 rfl (lv_at hl 3 rfl) ?_
  refine V.iconst (v := nI 0) F dL_due_88 (by decide) ?_
  refine V.iadn (i := 0) F hE 0 rfl (by omega) (by omega) dL_due_89 (fun z8 e8 => ?_)
  obtain rfl : nI 5 = z8 := (e8.trans hc0).symm
  refine V.iconst (v := nI 2) F dL_due_90 (by decide) ?_
  refine V.icmp_ne (tgt := 134) F dL_due_91 (by decide) (fun _ => ?_) (fun h => absurd h (by decide))
  refine V.aload_n F dL_due_134 rfl (lv_at hl 3 rfl) ?_
  refine V.iconst (v := nI 0) F dL_due_135 (by decide) ?_
  refine V.iadn (i := 0) F hE 0 rfl (by omega) (by omega) dL_due_136 (fun z10 e10 => ?_)
  obtain rfl : nI 5 = z10 := (e10.trans hc0).symm
  refine V.iconst (v := nI 3) F dL_due_137 (by decide) ?_
  refine V.icmp_ne (tgt := 225) F dL_due_138 (by decide) (fun _ => ?_) (fun h => absurd h (by decide))
  refine V.aload_n F dL_due_225 rfl (lv_at hl 3 rfl) ?_
  refine V.iconst (v := nI 0) F dL_due_226 (by decide) ?_
  refine V.iadn (i := 0) F hE 0 rfl (by omega) (by omega) dL_due_227 (fun z12 e12 => ?_)
  obtain rfl : nI 5 = z12 := (e12.trans hc0).symm
  refine V.iconst (v := nI 4) F dL_due_228 (by decide) ?_
  refine V.icmp_ne (tgt := 298) F dL_due_229 (by decide) (fun _ => ?_) (fun h => absurd h (by decide))
  refine V.aload_n F dL_due_298 rfl (lv_at hl 3 rfl) ?_
  refine V.iconst (v := nI 0) F dL_due_299 (by decide) ?_
  refine V.iadn (i := 0) F hE 0 rfl (by omega) (by omega) dL_due_300 (fun z14 e14 => ?_)
  obtain rfl : nI 5 = z14 := (e14.trans hc0).symm
  refine V.iconst (v := nI 5) F dL_due_301 (by decide) ?_
  refine V.icmp_ne (tgt := 350) F dL_due_302 (by decide) (fun h => absurd h (by decide)) (fun _ => ?_)
  refine V.aload_n F dL_due_305 rfl (lv_at hl 4 rfl) ?_
  refine V.iconst (v := nI 4) F dL_due_306 (by decide) ?_
  refine V.iadn (i := 4) F hE 1 rfl (by omega) (by omega) dL_due_307 (fun z16 e16 => ?_)
  obtain rfl : nI C = z16 := (e16.trans hC).symm
  refine V.bipush (v := nI 10) F dL_due_308 (by decide) ?_
  refine V.icmp_ne (tgt := 316) F dL_due_310 (by decide) (fun c17 => ?_) (fun c17 => ?_)
  · skip
    refine V.aload F dL_due_316 (lv_at hl 10 rfl) ?_
    refine V.aload_n F dL_due_318 rfl (lv_at hl 4 rfl) ?_
    refine V.iconst (v := nI 4) F dL_due_319 (by decide) ?_
    refine V.iadn (i := 4) F hE 1 rfl (by omega) (by omega) dL_due_320 (fun z18 e18 => ?_)
    obtain rfl : nI C = z18 := (e18.trans hC).symm
    refine V.iload F dL_due_321 (lv_at hl 1 rfl) ?_
    refine V.bipush (v := nI 8) F dL_due_323 (by decide) ?_
    refine V.aload_n F dL_due_325 rfl (lv_at hl 3 rfl) ?_
    refine V.iconst (v := nI 3) F dL_due_326 (by decide) ?_
    refine V.iadn (i := 3) F hE 0 rfl (by omega) (by omega) dL_due_327 (fun z19 e19 => ?_)
    obtain rfl : nI w = z19 := (e19.trans hc3).symm
    refine V.imul F dL_due_328 (fun z20 e20 => ?_)
    obtain rfl : z20 = nI (8 * w) := e20.trans (pk_mul _ _)
    refine V.iadd F dL_due_329 (fun z21 e21 => ?_)
    obtain rfl : z21 = nI (k + (8 * w)) := e21.trans (nI_add _ _)
    refine V.bipush (v := nI 64) F dL_due_330 (by decide) ?_
    refine V.iload F dL_due_332 (lv_at hl 2 rfl) ?_
    refine V.imul F dL_due_334 (fun z22 e22 => ?_)
    obtain rfl : z22 = nI (64 * p) := e22.trans (pk_mul _ _)
    refine V.iadd F dL_due_335 (fun z23 e23 => ?_)
    obtain rfl : z23 = nI ((k + (8 * w)) + (64 * p)) := e23.trans (nI_add _ _)
    refine V.isn (i := C) F hE hN (by rfl) 7 rfl (by omega) (by omega) dL_due_336 rfl ?_
    refine V.aload_n F dL_due_337 rfl (lv_at hl 4 rfl) ?_
    refine V.iconst (v := nI 4) F dL_due_338 (by decide) ?_
    refine V.dup2 F dL_due_339 rfl rfl ?_
    refine V.iadn (i := 4) F hE 1 rfl (by omega) (by omega) dL_due_340 (fun z24 e24 => ?_)
    obtain rfl : nI C = z24 := (e24.trans hC).symm
    refine V.iconst (v := nI 1) F dL_due_341 (by decide) ?_
    refine V.iadd F dL_due_342 (fun z25 e25 => ?_)
    obtain rfl : z25 = nI (C + 1) := e25.trans (nI_add _ _)
    refine V.isn (i := 4) F hE hN (by rfl) 1 rfl (by omega) (by omega) dL_due_343 rfl ?_
    refine V.aload_n F dL_due_344 rfl (lv_at hl 4 rfl) ?_
    refine V.iconst (v := nI 4) F dL_due_345 (by decide) ?_
    refine V.iadn (i := 4) F hE 1 rfl (by omega) (by omega) dL_due_346 (fun z26 e26 => ?_)
    obtain rfl : nI (C + 1) = z26 := (e26.trans upd_eq).symm
    refine V.iconst (v := nI 1) F dL_due_347 (by decide) ?_
    refine V.isub F dL_due_348 (fun z27 e27 => ?_)
    obtain rfl : nI C = z27 := (e27.trans (nI_m1 C)).symm
    exact V.iretW F hr hk dL_due_349 (by first | with_reducible rfl | (simp only [c17, oi1n, nI_add, pk_mul, bI, and_true, true_and, and_false, false_and, and_self, or_true, true_or, or_false, false_or, or_self, not_true_eq_false, not_false_eq_true, if_true, if_false, ↓reduceIte] <;> rfl) | rfl | (simp [c17, bI, oi1, nI_succ]; done)) (by first | with_reducible rfl | (simp only [c17, oi1n, nI_add, pk_mul, bI, and_true, true_and, and_false, false_and, and_self, or_true, true_or, or_false, false_or, or_self, not_true_eq_false, not_false_eq_true, if_true, if_false, ↓reduceIte] <;> rfl) | rfl | (simp [c17, bI, oi1, nI_succ]; done))
  · skip
    exact absurd ((nI_eq (by omega) (by omega)).mp c17) (by omega)
set_option maxHeartbeats 4000000 in
set_option maxRecDepth 100000 in
theorem c_L_due_6a (l : Launch) (E : EV) {u0 u1 u2 u3 u4 u5 u6 u7 : Nat} {ca qs zs fo ts rs hs cs : Nat → Int32} {p : Nat} {x C : Nat} (hc0 : ca 0 = nI 6) (hc1 : ca 1 = nI p) (hp8 : p < 8) (hc2 : ca 2 = nI x) (hC : qs 4 = nI C) (hC10 : C ≤ 10) (hx : C ≤ x) (hx31 : x < 2 ^ 31) : Wr l E yL_due cL_due 13 (some .int) 3 77 [.ref u0, .ref u1, .ref u2, .ref u3, .ref u4, .ref u5, .ref u6, .ref u7] ([rw_ E u0 4 ca, rw_ E u1 10 qs, rw_ E u2 8 zs, rw_ E u3 8 fo, rw_ E u4 8 ts, rw_ E u5 40 rs, rw_ E u6 12 hs, rw_ E u7 10 cs]) ([rw_ E u0 4 ca, rw_ E u1 10 qs, rw_ E u2 8 zs, rw_ E u3 8 fo, rw_ E u4 8 ts, rw_ E u5 40 rs, rw_ E u6 12 hs, rw_ E u7 10 cs]) (some (.int (-101))) := by
  refine Wr.mk0 (by decide) (Nat.le_of_ble_eq_true rfl) ?_
  intro pP eE sS mM aA bB mt cC F hr hk hE hN ls hl
  have hl : lv_has ls 13 [(0, .ref u0), (1, .ref u1), (2, .ref u2), (3, .ref u3), (4, .ref u4), (5, .ref u5), (6, .ref u6), (7, .ref u7)] := hl
  refine V.aload_n F dL_due_0 rfl (lv_at hl 0 rfl) ?_
  refine V.iconst (v := nI 1) F dL_due_1 (by decide) ?_
  refine V.iadn (i := 1) F hE 0 rfl (by omega) (by omega) dL_due_2 (fun z1 e1 => ?_)
  obtain rfl : nI p = z1 := (e1.trans hc1).symm
  refine V.istore (lv' := [(8, .int (nI p)), (0, .ref u0), (1, .ref u1), (2, .ref u2), (3, .ref u3), (4, .ref u4), (5, .ref u5), (6, .ref u6), (7, .ref u7)]) F dL_due_3 hl (by decide) rfl (fun ls hl => ?_)
  refine V.aload_n F dL_due_5 rfl (lv_at hl 1 rfl) ?_
  refine V.iconst (v := nI 2) F dL_due_6 (by decide) ?_
  refine V.iadn (i := 2) F hE 0 rfl (by omega) (by omega) dL_due_7 (fun z2 e2 => ?_)
  obtain rfl : nI x = z2 := (e2.trans hc2).symm
  refine V.istore (lv' := [(9, .int (nI x)), (8, .int (nI p)), (0, .ref u0), (1, .ref u1), (2, .ref u2), (3, .ref u3), (4, .ref u4), (5, .ref u5), (6, .ref u6), (7, .ref u7)]) F dL_due_8 hl (by decide) rfl (fun ls hl => ?_)
  refine V.aload_n F dL_due_10 rfl (lv_at hl 4 rfl) ?_
  refine V.iload F dL_due_11 (lv_at hl 1 rfl) ?_
  refine V.iadn (i := p) F hE 2 rfl (by omega) (by omega) dL_due_13 (fun z3 e3 => ?_)
  obtain rfl : zs p = z3 := (e3.trans rfl).symm
  refine V.istore (lv' := [(10, .int (zs p)), (9, .int (nI x)), (8, .int (nI p)), (0, .ref u0), (1, .ref u1), (2, .ref u2), (3, .ref u3), (4, .ref u4), (5, .ref u5), (6, .ref u6), (7, .ref u7)]) F dL_due_14 hl (by decide) rfl (fun ls hl => ?_)
  refine V.aload_n F dL_due_16 rfl (lv_at hl 3 rfl) ?_
  refine V.iconst (v := nI 0) F dL_due_17 (by decide) ?_
  refine V.iadn (i := 0) F hE 0 rfl (by omega) (by omega) dL_due_18 (fun z4 e4 => ?_)
  obtain rfl : nI 6 = z4 := (e4.trans hc0).symm
  refine V.if_ne (tgt := 31) F dL_due_19 (by decide) (fun _ => ?_) (fun h => absurd h (by decide))
  refine V.aload_n F dL_due_31 rfl (lv_at hl 3 rfl) ?_
  refine V.iconst (v := nI 0) F dL_due_32 (by decide) ?_
  refine V.iadn (i := 0) F hE 0 rfl (by omega) (by omega) dL_due_33 (fun z6 e6 => ?_)
  obtain rfl : nI 6 = z6 := (e6.trans hc0).symm
  refine V.iconst (v := nI 1) F dL_due_34 (by decide) ?_
  refine V.icmp_ne (tgt := 87) F dL_due_35 (by decide) (fun _ => ?_) (fun h => absurd h (by decide))
  refine V.aload_n F dL_due_87 rfl (lv_at hl 3 rfl) ?_
  refine V.iconst (v := nI 0) F dL_due_88 (by decide) ?_
  refine V.iadn (i := 0) F hE 0 rfl (by omega) (by omega) dL_due_89 (fun z8 e8 => ?_)
  obtain rfl : nI 6 = z8 := (e8.trans hc0).symm
  refine V.iconst (v := nI 2) F dL_due_90 (by decide) ?_
  refine V.icmp_ne (tgt := 134) F dL_due_91 (by decide) (fun _ => ?_) (fun h => absurd h (by decide))
  refine V.aload_n F dL_due_134 rfl (lv_at hl 3 rfl) ?_
  refine V.iconst (v := nI 0) F dL_due_135 (by decide) ?_
  refine V.iadn (i := 0) F hE 0 rfl (by omega) (by omega) dL_due_136 (fun z10 e10 => ?_)
  obtain rfl : nI 6 = z10 := (e10.trans hc0).symm
  refine V.iconst (v := nI 3) F dL_due_137 (by decide) ?_
  refine V.icmp_ne (tgt := 225) F dL_due_138 (by decide) (fun _ => ?_) (fun h => absurd h (by decide))
  refine V.aload_n F dL_due_225 rfl (lv_at hl 3 rfl) ?_
  refine V.iconst (v := nI 0) F dL_due_226 (by decide) ?_
  refine V.iadn (i := 0) F hE 0 rfl (by omega) (by omega) dL_due_227 (fun z12 e12 => ?_)
  obtain rfl : nI 6 = z12 := (e12.trans hc0).symm
  refine V.iconst (v := nI 4) F dL_due_228 (by decide) ?_
  refine V.icmp_ne (tgt := 298) F dL_due_229 (by decide) (fun _ => ?_) (fun h => absurd h (by decide))
  refine V.aload_n F dL_due_298 rfl (lv_at hl 3 rfl) ?_
  refine V.iconst (v := nI 0) F dL_due_299 (by decide) ?_
  refine V.iadn (i := 0) F hE 0 rfl (by omega) (by omega) dL_due_300 (fun z14 e14 => ?_)
  obtain rfl : nI 6 = z14 := (e14.trans hc0).symm
  refine V.iconst (v := nI 5) F dL_due_301 (by decide) ?_
  refine V.icmp_ne (tgt := 350) F dL_due_302 (by decide) (fun _ => ?_) (fun h => absurd h (by decide))
  refine V.iload F dL_due_350 (lv_at hl 1 rfl) ?_
  refine V.aload_n F dL_due_352 rfl (lv_at hl 4 rfl) ?_
  refine V.iconst (v := nI 4) F dL_due_353 (by decide) ?_
  refine V.iadn (i := 4) F hE 1 rfl (by omega) (by omega) dL_due_354 (fun z16 e16 => ?_)
  obtain rfl : nI C = z16 := (e16.trans hC).symm
  refine V.icmp_lt (tgt := 361) F dL_due_355 (by decide) (fun c17 c17' => ?_) (fun c17 c17' => ?_)
  · skip
    exact absurd ((nI_ltI hx31 (by omega)).mp c17) (by omega)
  · skip
    refine V.bipush (v := (-101)) F dL_due_358 (by decide) ?_
    exact V.iretW F hr hk dL_due_360 (by first | with_reducible rfl | (simp only [c17, c17', oi1n, nI_add, pk_mul, bI, and_true, true_and, and_false, false_and, and_self, or_true, true_or, or_false, false_or, or_self, not_true_eq_false, not_false_eq_true, if_true, if_false, ↓reduceIte] <;> rfl) | rfl | (simp [c17, c17', bI, oi1, nI_succ]; done)) (by first | with_reducible rfl | (simp only [c17, c17', oi1n, nI_add, pk_mul, bI, and_true, true_and, and_false, false_and, and_self, or_true, true_or, or_false, false_or, or_self, not_true_eq_false, not_false_eq_true, if_true, if_false, ↓reduceIte] <;> rfl) | rfl | (simp [c17, c17', bI, oi1, nI_succ]; done))
set_option maxHeartbeats 4000000 in
set_option maxRecDepth 100000 in
theorem c_L_due_6r (l : Launch) (E : EV) {u0 u1 u2 u3 u4 u5 u6 u7 : Nat} {ca qs zs fo ts rs hs cs : Nat → Int32} {p : Nat} {x C sn H R : Nat} (hc0 : ca 0 = nI 6) (hc1 : ca 1 = nI p) (hp8 : p < 8) (hc2 : ca 2 = nI x) (hC : qs 4 = nI C) (hC10 : C ≤ 10) (hxC : x < C) (hsn : shx (cs x) 6 &&& nI 7 = nI sn) (hs8 : sn < 8) (hH : qs 9 = nI H) (hH12 : H ≤ 12) (hR : qs 8 = nI R) (hR40 : R ≤ 40) (hg : ¬ rsL qs zs fo rs hs cs H R x p sn = 0) : Wr l E yL_due cL_due 13 (some .int) 3 77 [.ref u0, .ref u1, .ref u2, .ref u3, .ref u4, .ref u5, .ref u6, .ref u7] ([rw_ E u0 4 ca, rw_ E u1 10 qs, rw_ E u2 8 zs, rw_ E u3 8 fo, rw_ E u4 8 ts, rw_ E u5 40 rs, rw_ E u6 12 hs, rw_ E u7 10 cs]) ([rw_ E u0 4 ca, rw_ E u1 10 qs, rw_ E u2 8 zs, rw_ E u3 8 fo, rw_ E u4 8 ts, rw_ E u5 40 rs, rw_ E u6 12 hs, rw_ E u7 10 cs]) (some (.int (-103))) := by
  refine Wr.mk0 (by decide) (Nat.le_of_ble_eq_true rfl) ?_
  intro pP eE sS mM aA bB mt cC F hr hk hE hN ls hl
  have hl : lv_has ls 13 [(0, .ref u0), (1, .ref u1), (2, .ref u2), (3, .ref u3), (4, .ref u4), (5, .ref u5), (6, .ref u6), (7, .ref u7)] := hl
  refine V.aload_n F dL_due_0 rfl (lv_at hl 0 rfl) ?_
  refine V.iconst (v := nI 1) F dL_due_1 (by decide) ?_
  refine V.iadn (i := 1) F hE 0 rfl (by omega) (by omega) dL_due_2 (fun z1 e1 => ?_)
  obtain rfl : nI p = z1 := (e1.trans hc1).symm
  refine V.istore (lv' := [(8, .int (nI p)), (0, .ref u0), (1, .ref u1), (2, .ref u2), (3, .ref u3), (4, .ref u4), (5, .ref u5), (6, .ref u6), (7, .ref u7)]) F dL_due_3 hl (by decide) rfl (fun ls hl => ?_)
  refine V.aload_n F dL_due_5 rfl (lv_at hl 1 rfl) ?_
  refine V.iconst (v := nI 2) F dL_due_6 (by decide) ?_
  refine V.iadn (i := 2) F hE 0 rfl (by omega) (by omega) dL_due_7 (fun z2 e2 => ?_)
  obtain rfl : nI x = z2 := (e2.trans hc2).symm
  refine V.istore (lv' := [(9, .int (nI x)), (8, .int (nI p)), (0, .ref u0), (1, .ref u1), (2, .ref u2), (3, .ref u3), (4, .ref u4), (5, .ref u5), (6, .ref u6), (7, .ref u7)]) F dL_due_8 hl (by decide) rfl (fun ls hl => ?_)
  refine V.aload_n F dL_due_10 rfl (lv_at hl 4 rfl) ?_
  refine V.iload F dL_due_11 (lv_at hl 1 rfl) ?_
  refine V.iadn (i := p) F hE 2 rfl (by omega) (by omega) dL_due_13 (fun z3 e3 => ?_)
  obtain rfl : zs p = z3 := (e3.trans rfl).symm
  refine V.istore (lv' := [(10, .int (zs p)), (9, .int (nI x)), (8, .int (nI p)), (0, .ref u0), (1, .ref u1), (2, .ref u2), (3, .ref u3), (4, .ref u4), (5, .ref u5), (6, .ref u6), (7, .ref u7)]) F dL_due_14 hl (by decide) rfl (fun ls hl => ?_)
  refine V.aload_n F dL_due_16 rfl (lv_at hl 3 rfl) ?_
  refine V.iconst (v := nI 0) F dL_due_17 (by decide) ?_
  refine V.iadn (i := 0) F hE 0 rfl (by omega) (by omega) dL_due_18 (fun z4 e4 => ?_)
  obtain rfl : nI 6 = z4 := (e4.trans hc0).symm
  refine V.if_ne (tgt := 31) F dL_due_19 (by decide) (fun _ => ?_) (fun h => absurd h (by decide))
  refine V.aload_n F dL_due_31 rfl (lv_at hl 3 rfl) ?_
  refine V.iconst (v := nI 0) F dL_due_32 (by decide) ?_
  refine V.iadn (i := 0) F hE 0 rfl (by omega) (by omega) dL_due_33 (fun z6 e6 => ?_)
  obtain rfl : nI 6 = z6 := (e6.trans hc0).symm
  refine V.iconst (v := nI 1) F dL_due_34 (by decide) ?_
  refine V.icmp_ne (tgt := 87) F dL_due_35 (by decide) (fun _ => ?_) (fun h => absurd h (by decide))
  refine V.aload_n F dL_due_87 rfl (lv_at hl 3 rfl) ?_
  refine V.iconst (v := nI 0) F dL_due_88 (by decide) ?_
  refine V.iadn (i := 0) F hE 0 rfl (by omega) (by omega) dL_due_89 (fun z8 e8 => ?_)
  obtain rfl : nI 6 = z8 := (e8.trans hc0).symm
  refine V.iconst (v := nI 2) F dL_due_90 (by decide) ?_
  refine V.icmp_ne (tgt := 134) F dL_due_91 (by decide) (fun _ => ?_) (fun h => absurd h (by decide))
  refine V.aload_n F dL_due_134 rfl (lv_at hl 3 rfl) ?_
  refine V.iconst (v := nI 0) F dL_due_135 (by decide) ?_
  refine V.iadn (i := 0) F hE 0 rfl (by omega) (by omega) dL_due_136 (fun z10 e10 => ?_)
  obtain rfl : nI 6 = z10 := (e10.trans hc0).symm
  refine V.iconst (v := nI 3) F dL_due_137 (by decide) ?_
  refine V.icmp_ne (tgt := 225) F dL_due_138 (by decide) (fun _ => ?_) (fun h => absurd h (by decide))
  refine V.aload_n F dL_due_225 rfl (lv_at hl 3 rfl) ?_
  refine V.iconst (v := nI 0) F dL_due_226 (by decide) ?_
  refine V.iadn (i := 0) F hE 0 rfl (by omega) (by omega) dL_due_227 (fun z12 e12 => ?_)
  obtain rfl : nI 6 = z12 := (e12.trans hc0).symm
  refine V.iconst (v := nI 4) F dL_due_228 (by decide) ?_
  refine V.icmp_ne (tgt := 298) F dL_due_229 (by decide) (fun _ => ?_) (fun h => absurd h (by decide))
  refine V.aload_n F dL_due_298 rfl (lv_at hl 3 rfl) ?_
  refine V.iconst (v := nI 0) F dL_due_299 (by decide) ?_
  refine V.iadn (i := 0) F hE 0 rfl (by omega) (by omega) dL_due_300 (fun z14 e14 => ?_)
  obtain rfl : nI 6 = z14 := (e14.trans hc0).symm
  refine V.iconst (v := nI 5) F dL_due_301 (by decide) ?_
  refine V.icmp_ne (tgt := 350) F dL_due_302 (by decide) (fun _ => ?_) (fun h => absurd h (by decide))
  refine V.iload F dL_due_350 (lv_at hl 1 rfl) ?_
  refine V.aload_n F dL_due_352 rfl (lv_at hl 4 rfl) ?_
  refine V.iconst (v := nI 4) F dL_due_353 (by decide) ?_
  refine V.iadn (i := 4) F hE 1 rfl (by omega) (by omega) dL_due_354 (fun z16 e16 => ?_)
  obtain rfl : nI C = z16 := (e16.trans hC).symm
  refine V.icmp_lt (tgt := 361) F dL_due_355 (by decide) (fun c17 c17' => ?_) (fun c17 c17' => ?_)
  · skip
    refine V.iload F dL_due_361 (lv_at hl 1 rfl) ?_
    refine V.iload F dL_due_363 (lv_at hl 2 rfl) ?_
    refine V.aload_n F dL_due_365 rfl (lv_at hl 4 rfl) ?_
    refine V.aload_n F dL_due_366 rfl (lv_at hl 5 rfl) ?_
    refine V.aload_n F dL_due_367 rfl (lv_at hl 6 rfl) ?_
    refine V.aload F dL_due_368 (lv_at hl 8 rfl) ?_
    refine V.aload F dL_due_370 (lv_at hl 9 rfl) ?_
    refine V.aload F dL_due_372 (lv_at hl 10 rfl) ?_
    refine V.rdS F hE (c_L_reason l E (by omega) hp8 hsn hs8 hH hH12 hR hR40) (kL_116 F.2.2.2.2 ⟨Nat.le_of_ble_eq_true rfl, Nat.le_of_ble_eq_true rfl⟩) [1, 2, 3, 5, 6, 7] rfl rfl hl.1 (Nat.le_of_ble_eq_true rfl) dL_due_374 rfl ?_
    refine V.topi (fun z18 e18 => ?_)
    refine V.if_eq (tgt := 383) F dL_due_377 (by decide) (fun c19 => ?_) (fun c19 => ?_)
    · skip
      subst e18; exact absurd c19 hg
    · skip
      refine V.bipush (v := (-103)) F dL_due_380 (by decide) ?_
      exact V.iretW F hr hk dL_due_382 (by subst e18; first | with_reducible rfl | (simp only [c17, c17', c19, oi1n, nI_add, pk_mul, bI, and_true, true_and, and_false, false_and, and_self, or_true, true_or, or_false, false_or, or_self, not_true_eq_false, not_false_eq_true, if_true, if_false, ↓reduceIte] <;> rfl) | rfl | (simp [c17, c17', c19, bI, oi1, nI_succ]; done)) (by subst e18; first | with_reducible rfl | (simp only [c17, c17', c19, oi1n, nI_add, pk_mul, bI, and_true, true_and, and_false, false_and, and_self, or_true, true_or, or_false, false_or, or_self, not_true_eq_false, not_false_eq_true, if_true, if_false, ↓reduceIte] <;> rfl) | rfl | (simp [c17, c17', c19, bI, oi1, nI_succ]; done))
  · skip
    exact absurd ((nI_ltI (by omega) (by omega)).mpr hxC) c17
set_option maxHeartbeats 4000000 in
set_option maxRecDepth 100000 in
theorem c_L_due_6 (l : Launch) (E : EV) {u0 u1 u2 u3 u4 u5 u6 u7 : Nat} {ca qs zs fo ts rs hs cs : Nat → Int32} {p : Nat} {x C sn H R : Nat} (hc0 : ca 0 = nI 6) (hc1 : ca 1 = nI p) (hp8 : p < 8) (hc2 : ca 2 = nI x) (hC : qs 4 = nI C) (hC10 : C ≤ 10) (hxC : x < C) (hsn : shx (cs x) 6 &&& nI 7 = nI sn) (hs8 : sn < 8) (hH : qs 9 = nI H) (hH12 : H ≤ 12) (hR : qs 8 = nI R) (hR40 : R ≤ 40) (hg : rsL qs zs fo rs hs cs H R x p sn = 0) : Wr l E yL_due cL_due 13 (some .int) 3 77 [.ref u0, .ref u1, .ref u2, .ref u3, .ref u4, .ref u5, .ref u6, .ref u7] ([rw_ E u0 4 ca, rw_ E u1 10 qs, rw_ E u2 8 zs, rw_ E u3 8 fo, rw_ E u4 8 ts, rw_ E u5 40 rs, rw_ E u6 12 hs, rw_ E u7 10 cs]) ([rw_ E u0 4 ca, rw_ E u1 10 (upd qs 5 (qs 5 + dbL sn p)), rw_ E u2 8 zs, rw_ E u3 8 (upd fo p (qs 0)), rw_ E u4 8 ts, rw_ E u5 40 rs, rw_ E u6 12 hs, rw_ E u7 10 (upd cs x (cs x + (nI 512 * (qs 0 + nI 1) + nI (524288 * (p + 1)))))]) (some (.int (dbL sn p))) := by
  refine Wr.mk0 (by decide) (Nat.le_of_ble_eq_true rfl) ?_
  intro pP eE sS mM aA bB mt cC F hr hk hE hN ls hl
  have hl : lv_has ls 13 [(0, .ref u0), (1, .ref u1), (2, .ref u2), (3, .ref u3), (4, .ref u4), (5, .ref u5), (6, .ref u6), (7, .ref u7)] := hl
  refine V.aload_n F dL_due_0 rfl (lv_at hl 0 rfl) ?_
  refine V.iconst (v := nI 1) F dL_due_1 (by decide) ?_
  refine V.iadn (i := 1) F hE 0 rfl (by omega) (by omega) dL_due_2 (fun z1 e1 => ?_)
  obtain rfl : nI p = z1 := (e1.trans hc1).symm
  refine V.istore (lv' := [(8, .int (nI p)), (0, .ref u0), (1, .ref u1), (2, .ref u2), (3, .ref u3), (4, .ref u4), (5, .ref u5), (6, .ref u6), (7, .ref u7)]) F dL_due_3 hl (by decide) rfl (fun ls hl => ?_)
  refine V.aload_n F dL_due_5 rfl (lv_at hl 1 rfl) ?_
  refine V.iconst (v := nI 2) F dL_due_6 (by decide) ?_
  refine V.iadn (i := 2) F hE 0 rfl (by omega) (by omega) dL_due_7 (fun z2 e2 => ?_)
  obtain rfl : nI x = z2 := (e2.trans hc2).symm
  refine V.istore (lv' := [(9, .int (nI x)), (8, .int (nI p)), (0, .ref u0), (1, .ref u1), (2, .ref u2), (3, .ref u3), (4, .ref u4), (5, .ref u5), (6, .ref u6), (7, .ref u7)]) F dL_due_8 hl (by decide) rfl (fun ls hl => ?_)
  refine V.aload_n F dL_due_10 rfl (lv_at hl 4 rfl) ?_
  refine V.iload F dL_due_11 (lv_at hl 1 rfl) ?_
  refine V.iadn (i := p) F hE 2 rfl (by omega) (by omega) dL_due_13 (fun z3 e3 => ?_)
  obtain rfl : zs p = z3 := (e3.trans rfl).symm
  refine V.istore (lv' := [(10, .int (zs p)), (9, .int (nI x)), (8, .int (nI p)), (0, .ref u0), (1, .ref u1), (2, .ref u2), (3, .ref u3), (4, .ref u4), (5, .ref u5), (6, .ref u6), (7, .ref u7)]) F dL_due_14 hl (by decide) rfl (fun ls hl => ?_)
  refine V.aload_n F dL_due_16 rfl (lv_at hl 3 rfl) ?_
  refine V.iconst (v := nI 0) F dL_due_17 (by decide) ?_
  refine V.iadn (i := 0) F hE 0 rfl (by omega) (by omega) dL_due_18 (fun z4 e4 => ?_)
  obtain rfl : nI 6 = z4 := (e4.trans hc0).symm
  refine V.if_ne (tgt := 31) F dL_due_19 (by decide) (fun _ => ?_) (fun h => absurd h (by decide))
  refine V.aload_n F dL_due_31 rfl (lv_at hl 3 rfl) ?_
  refine V.iconst (v := nI 0) F dL_due_32 (by decide) ?_
  refine V.iadn (i := 0) F hE 0 rfl (by omega) (by omega) dL_due_33 (fun z6 e6 => ?_)
  obtain rfl : nI 6 = z6 := (e6.trans hc0).symm
  refine V.iconst (v := nI 1) F dL_due_34 (by decide) ?_
  refine V.icmp_ne (tgt := 87) F dL_due_35 (by decide) (fun _ => ?_) (fun h => absurd h (by decide))
  refine V.aload_n F dL_due_87 rfl (lv_at hl 3 rfl) ?_
  refine V.iconst (v := nI 0) F dL_due_88 (by decide) ?_
  refine V.iadn (i := 0) F hE 0 rfl (by omega) (by omega) dL_due_89 (fun z8 e8 => ?_)
  obtain rfl : nI 6 = z8 := (e8.trans hc0).symm
  refine V.iconst (v := nI 2) F dL_due_90 (by decide) ?_
  refine V.icmp_ne (tgt := 134) F dL_due_91 (by decide) (fun _ => ?_) (fun h => absurd h (by decide))
  refine V.aload_n F dL_due_134 rfl (lv_at hl 3 rfl) ?_
  refine V.iconst (v := nI 0) F dL_due_135 (by decide) ?_
  refine V.iadn (i := 0) F hE 0 rfl (by omega) (by omega) dL_due_136 (fun z10 e10 => ?_)
  obtain rfl : nI 6 = z10 := (e10.trans hc0).symm
  refine V.iconst (v := nI 3) F dL_due_137 (by decide) ?_
  refine V.icmp_ne (tgt := 225) F dL_due_138 (by decide) (fun _ => ?_) (fun h => absurd h (by decide))
  refine V.aload_n F dL_due_225 rfl (lv_at hl 3 rfl) ?_
  refine V.iconst (v := nI 0) F dL_due_226 (by decide) ?_
  refine V.iadn (i := 0) F hE 0 rfl (by omega) (by omega) dL_due_227 (fun z12 e12 => ?_)
  obtain rfl : nI 6 = z12 := (e12.trans hc0).symm
  refine V.iconst (v := nI 4) F dL_due_228 (by decide) ?_
  refine V.icmp_ne (tgt := 298) F dL_due_229 (by decide) (fun _ => ?_) (fun h => absurd h (by decide))
  refine V.aload_n F dL_due_298 rfl (lv_at hl 3 rfl) ?_
  refine V.iconst (v := nI 0) F dL_due_299 (by decide) ?_
  refine V.iadn (i := 0) F hE 0 rfl (by omega) (by omega) dL_due_300 (fun z14 e14 => ?_)
  obtain rfl : nI 6 = z14 := (e14.trans hc0).symm
  refine V.iconst (v := nI 5) F dL_due_301 (by decide) ?_
  refine V.icmp_ne (tgt := 350) F dL_due_302 (by decide) (fun _ => ?_) (fun h => absurd h (by decide))
  refine V.iload F dL_due_350 (lv_at hl 1 rfl) ?_
  refine V.aload_n F dL_due_352 rfl (lv_at hl 4 rfl) ?_
  refine V.iconst (v := nI 4) F dL_due_353 (by decide) ?_
  refine V.iadn (i := 4) F hE 1 rfl (by omega) (by omega) dL_due_354 (fun z16 e16 => ?_)
  obtain rfl : nI C = z16 := (e16.trans hC).symm
  refine V.icmp_lt (tgt := 361) F dL_due_355 (by decide) (fun c17 c17' => ?_) (fun c17 c17' => ?_)
  · skip
    refine V.iload F dL_due_361 (lv_at hl 1 rfl) ?_
    refine V.iload F dL_due_363 (lv_at hl 2 rfl) ?_
    refine V.aload_n F dL_due_365 rfl (lv_at hl 4 rfl) ?_
    refine V.aload_n F dL_due_366 rfl (lv_at hl 5 rfl) ?_
    refine V.aload_n F dL_due_367 rfl (lv_at hl 6 rfl) ?_
    refine V.aload F dL_due_368 (lv_at hl 8 rfl) ?_
    refine V.aload F dL_due_370 (lv_at hl 9 rfl) ?_
    refine V.aload F dL_due_372 (lv_at hl 10 rfl) ?_
    refine V.rdS F hE (c_L_reason l E (by omega) hp8 hsn hs8 hH hH12 hR hR40) (kL_116 F.2.2.2.2 ⟨Nat.le_of_ble_eq_true rfl, Nat.le_of_ble_eq_true rfl⟩) [1, 2, 3, 5, 6, 7] rfl rfl hl.1 (Nat.le_of_ble_eq_true rfl) dL_due_374 rfl ?_
    refine V.topi (fun z18 e18 => ?_)
    refine V.if_eq (tgt := 383) F dL_due_377 (by decide) (fun c19 => ?_) (fun c19 => ?_)
    · skip
      refine V.aload F dL_due_383 (lv_at hl 10 rfl) ?_
      refine V.iload F dL_due_385 (lv_at hl 1 rfl) ?_
      refine V.iadn (i := x) F hE 7 rfl (by omega) (by omega) dL_due_387 (fun z20 e20 => ?_)
      refine V.bipush (v := nI 6) F dL_due_388 (by decide) ?_
      refine V.ishr F dL_due_390 (fun z21 e21 => ?_)
      refine V.bipush (v := nI 7) F dL_due_391 (by decide) ?_
      refine V.iand F dL_due_393 (fun z22 e22 => ?_)
      have efold : z22 = nI sn := (by subst e18 e20 e21 e22; exact hsn)
      clear e22
      subst efold
      refine V.iload F dL_due_394 (lv_at hl 2 rfl) ?_
      refine V.icmp_ne (tgt := 403) F dL_due_396 (by decide) (fun c23 => ?_) (fun c23 => ?_)
      · skip
        refine V.iconst (v := nI 1) F dL_due_403 (by decide) ?_
        refine V.istore (lv' := [(11, .int (nI 1)), (10, .int (zs p)), (9, .int (nI x)), (8, .int (nI p)), (0, .ref u0), (1, .ref u1), (2, .ref u2), (3, .ref u3), (4, .ref u4), (5, .ref u5), (6, .ref u6), (7, .ref u7)]) F dL_due_404 hl (by decide) rfl (fun ls hl => ?_)
        refine V.aload F dL_due_406 (lv_at hl 11 rfl) ?_
        refine V.iload F dL_due_408 (lv_at hl 2 rfl) ?_
        refine V.dup2 F dL_due_410 rfl rfl ?_
        refine V.iadn (i := x) F hE 7 rfl (by omega) (by omega) dL_due_411 (fun z24 e24 => ?_)
        refine V.sipush (v := nI 512) F dL_due_412 (by decide) ?_
        refine V.aload_n F dL_due_415 rfl (lv_at hl 5 rfl) ?_
        refine V.iconst (v := nI 0) F dL_due_416 (by decide) ?_
        refine V.iadn (i := 0) F hE 1 rfl (by omega) (by omega) dL_due_417 (fun z25 e25 => ?_)
        refine V.iconst (v := nI 1) F dL_due_418 (by decide) ?_
        refine V.iadd F dL_due_419 (fun z26 e26 => ?_)
        refine V.imul F dL_due_420 (fun z27 e27 => ?_)
        refine V.ldc F cL_80 dL_due_421 ?_
        refine V.iload F dL_due_423 (lv_at hl 3 rfl) ?_
        refine V.iconst (v := nI 1) F dL_due_425 (by decide) ?_
        refine V.iadd F dL_due_426 (fun z28 e28 => ?_)
        obtain rfl : z28 = nI (p + 1) := e28.trans (nI_add _ _)
        refine V.imul F dL_due_427 (fun z29 e29 => ?_)
        obtain rfl : z29 = nI (524288 * (p + 1)) := e29.trans (pk_mul _ _)
        refine V.iadd F dL_due_428 (fun z30 e30 => ?_)
        refine V.iadd F dL_due_429 (fun z31 e31 => ?_)
        refine V.isn (i := x) F hE hN (by rfl) 7 rfl (by omega) (by omega) dL_due_430 rfl ?_
        refine V.aload_n F dL_due_431 rfl (lv_at hl 7 rfl) ?_
        refine V.iload F dL_due_432 (lv_at hl 3 rfl) ?_
        refine V.aload_n F dL_due_434 rfl (lv_at hl 5 rfl) ?_
        refine V.iconst (v := nI 0) F dL_due_435 (by decide) ?_
        refine V.iadn (i := 0) F hE 1 rfl (by omega) (by omega) dL_due_436 (fun z32 e32 => ?_)
        refine V.isn (i := p) F hE hN (by rfl) 3 rfl (by omega) (by omega) dL_due_437 rfl ?_
        refine V.aload_n F dL_due_438 rfl (lv_at hl 5 rfl) ?_
        refine V.iconst (v := nI 5) F dL_due_439 (by decide) ?_
        refine V.dup2 F dL_due_440 rfl rfl ?_
        refine V.iadn (i := 5) F hE 1 rfl (by omega) (by omega) dL_due_441 (fun z33 e33 => ?_)
        refine V.iload F dL_due_442 (lv_at hl 0 rfl) ?_
        refine V.iadd F dL_due_444 (fun z34 e34 => ?_)
        refine V.isn (i := 5) F hE hN (by rfl) 1 rfl (by omega) (by omega) dL_due_445 rfl ?_
        refine V.iload F dL_due_446 (lv_at hl 0 rfl) ?_
        exact V.iretW F hr hk dL_due_448 (by subst e18 e20 e21 e24 e25 e26 e27 e30 e31 e32 e33 e34; first | with_reducible rfl | (simp only [dbL, c17, c17', eq_true c19, c23, oi1n, nI_add, pk_mul, bI, and_true, true_and, and_false, false_and, and_self, or_true, true_or, or_false, false_or, or_self, not_true_eq_false, not_false_eq_true, if_true, if_false, ↓reduceIte] <;> rfl) | rfl | (simp [dbL, c17, c17', eq_true c19, c23, bI, oi1, nI_succ]; done)) (by subst e18 e20 e21 e24 e25 e26 e27 e30 e31 e32 e33 e34; first | with_reducible rfl | (simp only [dbL, c17, c17', eq_true c19, c23, oi1n, nI_add, pk_mul, bI, and_true, true_and, and_false, false_and, and_self, or_true, true_or, or_false, false_or, or_self, not_true_eq_false, not_false_eq_true, if_true, if_false, ↓reduceIte] <;> rfl) | rfl | (simp [dbL, c17, c17', eq_true c19, c23, bI, oi1, nI_succ]; done))
      · skip
        refine V.iconst (v := nI 0) F dL_due_399 (by decide) ?_
        refine V.goto (tgt := 404) F dL_due_400 (by decide) ?_
        refine V.istore (lv' := [(11, .int (nI 0)), (10, .int (zs p)), (9, .int (nI x)), (8, .int (nI p)), (0, .ref u0), (1, .ref u1), (2, .ref u2), (3, .ref u3), (4, .ref u4), (5, .ref u5), (6, .ref u6), (7, .ref u7)]) F dL_due_404 hl (by decide) rfl (fun ls hl => ?_)
        refine V.aload F dL_due_406 (lv_at hl 11 rfl) ?_
        refine V.iload F dL_due_408 (lv_at hl 2 rfl) ?_
        refine V.dup2 F dL_due_410 rfl rfl ?_
        refine V.iadn (i := x) F hE 7 rfl (by omega) (by omega) dL_due_411 (fun z35 e35 => ?_)
        refine V.sipush (v := nI 512) F dL_due_412 (by decide) ?_
        refine V.aload_n F dL_due_415 rfl (lv_at hl 5 rfl) ?_
        refine V.iconst (v := nI 0) F dL_due_416 (by decide) ?_
        refine V.iadn (i := 0) F hE 1 rfl (by omega) (by omega) dL_due_417 (fun z36 e36 => ?_)
        refine V.iconst (v := nI 1) F dL_due_418 (by decide) ?_
        refine V.iadd F dL_due_419 (fun z37 e37 => ?_)
        refine V.imul F dL_due_420 (fun z38 e38 => ?_)
        refine V.ldc F cL_80 dL_due_421 ?_
        refine V.iload F dL_due_423 (lv_at hl 3 rfl) ?_
        refine V.iconst (v := nI 1) F dL_due_425 (by decide) ?_
        refine V.iadd F dL_due_426 (fun z39 e39 => ?_)
        obtain rfl : z39 = nI (p + 1) := e39.trans (nI_add _ _)
        refine V.imul F dL_due_427 (fun z40 e40 => ?_)
        obtain rfl : z40 = nI (524288 * (p + 1)) := e40.trans (pk_mul _ _)
        refine V.iadd F dL_due_428 (fun z41 e41 => ?_)
        refine V.iadd F dL_due_429 (fun z42 e42 => ?_)
        refine V.isn (i := x) F hE hN (by rfl) 7 rfl (by omega) (by omega) dL_due_430 rfl ?_
        refine V.aload_n F dL_due_431 rfl (lv_at hl 7 rfl) ?_
        refine V.iload F dL_due_432 (lv_at hl 3 rfl) ?_
        refine V.aload_n F dL_due_434 rfl (lv_at hl 5 rfl) ?_
        refine V.iconst (v := nI 0) F dL_due_435 (by decide) ?_
        refine V.iadn (i := 0) F hE 1 rfl (by omega) (by omega) dL_due_436 (fun z43 e43 => ?_)
        refine V.isn (i := p) F hE hN (by rfl) 3 rfl (by omega) (by omega) dL_due_437 rfl ?_
        refine V.aload_n F dL_due_438 rfl (lv_at hl 5 rfl) ?_
        refine V.iconst (v := nI 5) F dL_due_439 (by decide) ?_
        refine V.dup2 F dL_due_440 rfl rfl ?_
        refine V.iadn (i := 5) F hE 1 rfl (by omega) (by omega) dL_due_441 (fun z44 e44 => ?_)
        refine V.iload F dL_due_442 (lv_at hl 0 rfl) ?_
        refine V.iadd F dL_due_444 (fun z45 e45 => ?_)
        refine V.isn (i := 5) F hE hN (by rfl) 1 rfl (by omega) (by omega) dL_due_445 rfl ?_
        refine V.iload F dL_due_446 (lv_at hl 0 rfl) ?_
        exact V.iretW F hr hk dL_due_448 (by subst e18 e20 e21 e35 e36 e37 e38 e41 e42 e43 e44 e45; first | with_reducible rfl | (simp only [dbL, c17, c17', eq_true c19, eq_true c23, oi1n, nI_add, pk_mul, bI, and_true, true_and, and_false, false_and, and_self, or_true, true_or, or_false, false_or, or_self, not_true_eq_false, not_false_eq_true, if_true, if_false, ↓reduceIte] <;> rfl) | rfl | (simp [dbL, c17, c17', eq_true c19, eq_true c23, bI, oi1, nI_succ]; done)) (by subst e18 e20 e21 e35 e36 e37 e38 e41 e42 e43 e44 e45; first | with_reducible rfl | (simp only [dbL, c17, c17', eq_true c19, eq_true c23, oi1n, nI_add, pk_mul, bI, and_true, true_and, and_false, false_and, and_self, or_true, true_or, or_false, false_or, or_self, not_true_eq_false, not_false_eq_true, if_true, if_false, ↓reduceIte] <;> rfl) | rfl | (simp [dbL, c17, c17', eq_true c19, eq_true c23, bI, oi1, nI_succ]; done))
    · skip
      subst e18; exact absurd hg c19
  · skip
    exact absurd ((nI_ltI (by omega) (by omega)).mpr hxC) c17
