theorem ijN_le {H : Nat} (h : H ≤ 12) : ijN H ≤ 12 := by unfold ijN; split <;> omega
theorem c_L_injure (l : Launch) (E : EV) {u1 u6 : Nat} {qs hs : Nat → Int32} {p w x : Int32} {H : Nat} (hH : qs 9 = nI H) (hH12 : H ≤ 12) : Wr l E yL_injure cL_injure 6 none 0 0 [.int p, .int w, .int x, .ref u1, .ref u6] ([rw_ E u1 10 qs, rw_ E u6 12 hs]) ([rw_ E u1 10 (ijQ qs (ijN H)), rw_ E u6 12 (ijH hs H (ijV qs p w x))]) none := by
  by_cases e : H < 12
  · have h := c_L_injure_a l E (u1 := u1) (u6 := u6) (qs := qs) (hs := hs) (p := p) (w := w) (x := x) hH e
    unfold ijN ijH
    rw [if_pos e, if_pos e]
    exact h
  · obtain rfl : H = 12 := by omega
    unfold ijN ijH
    rw [if_neg e, if_neg e]
    exact c_L_injure_b l E hH
set_option maxHeartbeats 4000000 in
set_option maxRecDepth 100000 in
theorem c_L_rehearses_a (l : Launch) (E : EV) {u1 u4 u5 u6 : Nat} {qs ts rs hs : Nat → Int32} {p k : Nat} {w : Int32} {H : Nat} (hp8 : p < 8) (hk6 : k < 6) (hti : nI 3 < ts p + nI 1) (hH : qs 9 = nI H) (hH12 : H ≤ 12) : Wr l E yL_rehearses cL_rehearses 8 (some .int) 1 25 [.int (nI p), .int (nI k), .int w, .ref u1, .ref u4, .ref u5, .ref u6] ([rw_ E u1 10 qs, rw_ E u4 8 ts, rw_ E u5 40 rs, rw_ E u6 12 hs]) ([rw_ E u1 10 (ijQ (rhQ qs) (ijN H)), rw_ E u4 8 (upd ts p (ts p + nI 1)), rw_ E u5 40 rs, rw_ E u6 12 (ijH hs H (ijV (rhQ qs) (nI p) (prL k) (nI 2 * w)))]) (some (.int (nI 0))) := by
  refine Wr.mk0 (by decide) (Nat.le_of_ble_eq_true rfl) ?_
  intro pP eE sS mM aA bB mt cC F hr hk hE hN ls hl
  have hl : lv_has ls 8 [(0, .int (nI p)), (1, .int (nI k)), (2, .int w), (3, .ref u1), (4, .ref u4), (5, .ref u5), (6, .ref u6)] := hl
  refine V.aload_n F dL_rehearses_0 rfl (lv_at hl 3 rfl) ?_
  refine V.bipush (v := nI 7) F dL_rehearses_1 (by decide) ?_
  refine V.dup2 F dL_rehearses_3 rfl rfl ?_
  refine V.iadn (i := 7) F hE 0 rfl (by omega) (by omega) dL_rehearses_4 (fun z1 e1 => ?_)
  obtain rfl : z1 = qs 7 := e1.trans rfl
  refine V.iconst (v := nI 1) F dL_rehearses_5 (by decide) ?_
  refine V.iadd F dL_rehearses_6 (fun z2 e2 => ?_)
  obtain rfl : z2 = (qs 7 + nI 1) := e2.trans rfl
  refine V.isn (i := 7) F hE hN (by rfl) 0 rfl (by omega) (by omega) dL_rehearses_7 rfl ?_
  refine V.aload F dL_rehearses_8 (lv_at hl 4 rfl) ?_
  refine V.iload_n F dL_rehearses_10 rfl (lv_at hl 0 rfl) ?_
  refine V.dup2 F dL_rehearses_11 rfl rfl ?_
  refine V.iadn (i := p) F hE 1 rfl (by omega) (by omega) dL_rehearses_12 (fun z3 e3 => ?_)
  obtain rfl : z3 = ts p := e3.trans rfl
  refine V.iconst (v := nI 1) F dL_rehearses_13 (by decide) ?_
  refine V.iadd F dL_rehearses_14 (fun z4 e4 => ?_)
  obtain rfl : z4 = (ts p + nI 1) := e4.trans rfl
  refine V.isn (i := p) F hE hN (by rfl) 1 rfl (by omega) (by omega) dL_rehearses_15 rfl ?_
  refine V.aload F dL_rehearses_16 (lv_at hl 4 rfl) ?_
  refine V.iload_n F dL_rehearses_18 rfl (lv_at hl 0 rfl) ?_
  refine V.iadn (i := p) F hE 1 rfl (by omega) (by omega) dL_rehearses_19 (fun z5 e5 => ?_)
  obtain rfl : z5 = (ts p + nI 1) := e5.trans upd_eq
  refine V.iconst (v := nI 3) F dL_rehearses_20 (by decide) ?_
  refine V.icmp_le (tgt := 62) F dL_rehearses_21 (by decide) (fun c6 c6' => ?_) (fun c6 c6' => ?_)
  · skip
    exact absurd hti c6'
  · skip
    refine V.iload_n F dL_rehearses_24 rfl (lv_at hl 0 rfl) ?_
    refine V.iload_n F dL_rehearses_25 rfl (lv_at hl 1 rfl) ?_
    refine V.iconst (v := nI 5) F dL_rehearses_26 (by decide) ?_
    refine V.irem F dL_rehearses_27 (by decide) (fun z7 e7 => ?_)
    obtain rfl : z7 = nI (k % 5) := e7.trans (pk_rem (by omega) (by decide) (by decide))
    refine V.if_ne (tgt := 35) F dL_rehearses_28 (by decide) (fun c8 => ?_) (fun c8 => ?_)
    · skip
      refine V.iload_n F dL_rehearses_35 rfl (lv_at hl 1 rfl) ?_
      refine V.iconst (v := nI 1) F dL_rehearses_36 (by decide) ?_
      refine V.icmp_eq (tgt := 45) F dL_rehearses_37 (by decide) (fun c9 => ?_) (fun c9 => ?_)
      · skip
        refine V.iconst (v := nI 4) F dL_rehearses_45 (by decide) ?_
        refine V.goto (tgt := 51) F dL_rehearses_46 (by decide) ?_
        refine V.iconst (v := nI 2) F dL_rehearses_51 (by decide) ?_
        refine V.iload_n F dL_rehearses_52 rfl (lv_at hl 2 rfl) ?_
        refine V.imul F dL_rehearses_53 (fun z10 e10 => ?_)
        refine V.aload_n F dL_rehearses_54 rfl (lv_at hl 3 rfl) ?_
        refine V.aload F dL_rehearses_55 (lv_at hl 6 rfl) ?_
        refine V.wrSn F hE hN (by rfl) (c_L_injure l E ((upd_ne (by decide)).trans hH) hH12) (kL_81 F.2.2.2.2 ⟨Nat.le_of_ble_eq_true rfl, Nat.le_of_ble_eq_true rfl⟩) [0, 3] rfl (by decide) rfl rfl rfl hl.1 (by exact Nat.le_of_ble_eq_true rfl) dL_rehearses_57 rfl ?_
        refine V.iconst (v := nI 0) F dL_rehearses_60 (by decide) ?_
        exact V.iretW F hr hk dL_rehearses_61 (by subst e10; first | with_reducible rfl | (simp only [prL, c6, c6', c8, eq_true c9, oi1n, nI_add, pk_mul, bI, and_true, true_and, and_false, false_and, and_self, or_true, true_or, or_false, false_or, or_self, not_true_eq_false, not_false_eq_true, if_true, if_false, ↓reduceIte] <;> rfl) | rfl | (simp [prL, c6, c6', c8, eq_true c9, bI, oi1, nI_succ]; done)) (by subst e10; first | with_reducible rfl | (simp only [prL, c6, c6', c8, eq_true c9, oi1n, nI_add, pk_mul, bI, and_true, true_and, and_false, false_and, and_self, or_true, true_or, or_false, false_or, or_self, not_true_eq_false, not_false_eq_true, if_true, if_false, ↓reduceIte] <;> rfl) | rfl | (simp [prL, c6, c6', c8, eq_true c9, bI, oi1, nI_succ]; done))
      · skip
        refine V.iload_n F dL_rehearses_40 rfl (lv_at hl 1 rfl) ?_
        refine V.iconst (v := nI 4) F dL_rehearses_41 (by decide) ?_
        refine V.icmp_ne (tgt := 49) F dL_rehearses_42 (by decide) (fun c11 => ?_) (fun c11 => ?_)
        · skip
          refine V.bipush (v := nI 16) F dL_rehearses_49 (by decide) ?_
          refine V.iconst (v := nI 2) F dL_rehearses_51 (by decide) ?_
          refine V.iload_n F dL_rehearses_52 rfl (lv_at hl 2 rfl) ?_
          refine V.imul F dL_rehearses_53 (fun z12 e12 => ?_)
          refine V.aload_n F dL_rehearses_54 rfl (lv_at hl 3 rfl) ?_
          refine V.aload F dL_rehearses_55 (lv_at hl 6 rfl) ?_
          refine V.wrSn F hE hN (by rfl) (c_L_injure l E ((upd_ne (by decide)).trans hH) hH12) (kL_81 F.2.2.2.2 ⟨Nat.le_of_ble_eq_true rfl, Nat.le_of_ble_eq_true rfl⟩) [0, 3] rfl (by decide) rfl rfl rfl hl.1 (by exact Nat.le_of_ble_eq_true rfl) dL_rehearses_57 rfl ?_
          refine V.iconst (v := nI 0) F dL_rehearses_60 (by decide) ?_
          exact V.iretW F hr hk dL_rehearses_61 (by subst e12; first | with_reducible rfl | (simp only [prL, c6, c6', c8, c9, c11, oi1n, nI_add, pk_mul, bI, and_true, true_and, and_false, false_and, and_self, or_true, true_or, or_false, false_or, or_self, not_true_eq_false, not_false_eq_true, if_true, if_false, ↓reduceIte] <;> rfl) | rfl | (simp [prL, c6, c6', c8, c9, c11, bI, oi1, nI_succ]; done)) (by subst e12; first | with_reducible rfl | (simp only [prL, c6, c6', c8, c9, c11, oi1n, nI_add, pk_mul, bI, and_true, true_and, and_false, false_and, and_self, or_true, true_or, or_false, false_or, or_self, not_true_eq_false, not_false_eq_true, if_true, if_false, ↓reduceIte] <;> rfl) | rfl | (simp [prL, c6, c6', c8, c9, c11, bI, oi1, nI_succ]; done))
        · skip
          refine V.iconst (v := nI 4) F dL_rehearses_45 (by decide) ?_
          refine V.goto (tgt := 51) F dL_rehearses_46 (by decide) ?_
          refine V.iconst (v := nI 2) F dL_rehearses_51 (by decide) ?_
          refine V.iload_n F dL_rehearses_52 rfl (lv_at hl 2 rfl) ?_
          refine V.imul F dL_rehearses_53 (fun z13 e13 => ?_)
          refine V.aload_n F dL_rehearses_54 rfl (lv_at hl 3 rfl) ?_
          refine V.aload F dL_rehearses_55 (lv_at hl 6 rfl) ?_
          refine V.wrSn F hE hN (by rfl) (c_L_injure l E ((upd_ne (by decide)).trans hH) hH12) (kL_81 F.2.2.2.2 ⟨Nat.le_of_ble_eq_true rfl, Nat.le_of_ble_eq_true rfl⟩) [0, 3] rfl (by decide) rfl rfl rfl hl.1 (by exact Nat.le_of_ble_eq_true rfl) dL_rehearses_57 rfl ?_
          refine V.iconst (v := nI 0) F dL_rehearses_60 (by decide) ?_
          exact V.iretW F hr hk dL_rehearses_61 (by subst e13; first | with_reducible rfl | (simp only [prL, c6, c6', c8, c9, eq_true c11, oi1n, nI_add, pk_mul, bI, and_true, true_and, and_false, false_and, and_self, or_true, true_or, or_false, false_or, or_self, not_true_eq_false, not_false_eq_true, if_true, if_false, ↓reduceIte] <;> rfl) | rfl | (simp [prL, c6, c6', c8, c9, eq_true c11, bI, oi1, nI_succ]; done)) (by subst e13; first | with_reducible rfl | (simp only [prL, c6, c6', c8, c9, eq_true c11, oi1n, nI_add, pk_mul, bI, and_true, true_and, and_false, false_and, and_self, or_true, true_or, or_false, false_or, or_self, not_true_eq_false, not_false_eq_true, if_true, if_false, ↓reduceIte] <;> rfl) | rfl | (simp [prL, c6, c6', c8, c9, eq_true c11, bI, oi1, nI_succ]; done))
    · skip
      refine V.iconst (v := nI 1) F dL_rehearses_31 (by decide) ?_
      refine V.goto (tgt := 51) F dL_rehearses_32 (by decide) ?_
      refine V.iconst (v := nI 2) F dL_rehearses_51 (by decide) ?_
      refine V.iload_n F dL_rehearses_52 rfl (lv_at hl 2 rfl) ?_
      refine V.imul F dL_rehearses_53 (fun z14 e14 => ?_)
      refine V.aload_n F dL_rehearses_54 rfl (lv_at hl 3 rfl) ?_
      refine V.aload F dL_rehearses_55 (lv_at hl 6 rfl) ?_
      refine V.wrSn F hE hN (by rfl) (c_L_injure l E ((upd_ne (by decide)).trans hH) hH12) (kL_81 F.2.2.2.2 ⟨Nat.le_of_ble_eq_true rfl, Nat.le_of_ble_eq_true rfl⟩) [0, 3] rfl (by decide) rfl rfl rfl hl.1 (by exact Nat.le_of_ble_eq_true rfl) dL_rehearses_57 rfl ?_
      refine V.iconst (v := nI 0) F dL_rehearses_60 (by decide) ?_
      exact V.iretW F hr hk dL_rehearses_61 (by subst e14; first | with_reducible rfl | (simp only [prL, c6, c6', eq_true c8, oi1n, nI_add, pk_mul, bI, and_true, true_and, and_false, false_and, and_self, or_true, true_or, or_false, false_or, or_self, not_true_eq_false, not_false_eq_true, if_true, if_false, ↓reduceIte] <;> rfl) | rfl | (simp [prL, c6, c6', eq_true c8, bI, oi1, nI_succ]; done)) (by subst e14; first | with_reducible rfl | (simp only [prL, c6, c6', eq_true c8, oi1n, nI_add, pk_mul, bI, and_true, true_and, and_false, false_and, and_self, or_true, true_or, or_false, false_or, or_self, not_true_eq_false, not_false_eq_true, if_true, if_false, ↓reduceIte] <;> rfl) | rfl | (simp [prL, c6, c6', eq_true c8, bI, oi1, nI_succ]; done))
set_option maxHeartbeats 4000000 in
set_option maxRecDepth 100000 in
theorem c_L_rehearses_b (l : Launch) (E : EV) {u1 u4 u5 u6 : Nat} {qs ts rs hs : Nat → Int32} {p k : Nat} {w : Int32} {R : Nat} (hp8 : p < 8) (hk6 : k < 6) (hti : ¬ nI 3 < ts p + nI 1) (hR : qs 8 = nI R) (hlt : R < 40) : Wr l E yL_rehearses cL_rehearses 8 (some .int) 1 25 [.int (nI p), .int (nI k), .int w, .ref u1, .ref u4, .ref u5, .ref u6] ([rw_ E u1 10 qs, rw_ E u4 8 ts, rw_ E u5 40 rs, rw_ E u6 12 hs]) ([rw_ E u1 10 (upd (rhQ qs) 8 (nI (R + 1))), rw_ E u4 8 (upd ts p (ts p + nI 1)), rw_ E u5 40 (upd rs R (rhV qs p k w)), rw_ E u6 12 hs]) (some (.int (nI 1))) := by
  refine Wr.mk0 (by decide) (Nat.le_of_ble_eq_true rfl) ?_
  intro pP eE sS mM aA bB mt cC F hr hk hE hN ls hl
  have hl : lv_has ls 8 [(0, .int (nI p)), (1, .int (nI k)), (2, .int w), (3, .ref u1), (4, .ref u4), (5, .ref u5), (6, .ref u6)] := hl
  refine V.aload_n F dL_rehearses_0 rfl (lv_at hl 3 rfl) ?_
  refine V.bipush (v := nI 7) F dL_rehearses_1 (by decide) ?_
  refine V.dup2 F dL_rehearses_3 rfl rfl ?_
  refine V.iadn (i := 7) F hE 0 rfl (by omega) (by omega) dL_rehearses_4 (fun z1 e1 => ?_)
  obtain rfl : z1 = qs 7 := e1.trans rfl
  refine V.iconst (v := nI 1) F dL_rehearses_5 (by decide) ?_
  refine V.iadd F dL_rehearses_6 (fun z2 e2 => ?_)
  obtain rfl : z2 = (qs 7 + nI 1) := e2.trans rfl
  refine V.isn (i := 7) F hE hN (by rfl) 0 rfl (by omega) (by omega) dL_rehearses_7 rfl ?_
  refine V.aload F dL_rehearses_8 (lv_at hl 4 rfl) ?_
  refine V.iload_n F dL_rehearses_10 rfl (lv_at hl 0 rfl) ?_
  refine V.dup2 F dL_rehearses_11 rfl rfl ?_
  refine V.iadn (i := p) F hE 1 rfl (by omega) (by omega) dL_rehearses_12 (fun z3 e3 => ?_)
  obtain rfl : z3 = ts p := e3.trans rfl
  refine V.iconst (v := nI 1) F dL_rehearses_13 (by decide) ?_
  refine V.iadd F dL_rehearses_14 (fun z4 e4 => ?_)
  obtain rfl : z4 = (ts p + nI 1) := e4.trans rfl
  refine V.isn (i := p) F hE hN (by rfl) 1 rfl (by omega) (by omega) dL_rehearses_15 rfl ?_
  refine V.aload F dL_rehearses_16 (lv_at hl 4 rfl) ?_
  refine V.iload_n F dL_rehearses_18 rfl (lv_at hl 0 rfl) ?_
  refine V.iadn (i := p) F hE 1 rfl (by omega) (by omega) dL_rehearses_19 (fun z5 e5 => ?_)
  obtain rfl : z5 = (ts p + nI 1) := e5.trans upd_eq
  refine V.iconst (v := nI 3) F dL_rehearses_20 (by decide) ?_
  refine V.icmp_le (tgt := 62) F dL_rehearses_21 (by decide) (fun c6 c6' => ?_) (fun c6 c6' => ?_)
  · skip
    refine V.iconst (v := nI 0) F dL_rehearses_62 (by decide) ?_
    refine V.istore (lv' := [(7, .int (nI 0)), (0, .int (nI p)), (1, .int (nI k)), (2, .int w), (3, .ref u1), (4, .ref u4), (5, .ref u5), (6, .ref u6)]) F dL_rehearses_63 hl (by decide) rfl (fun ls hl => ?_)
    refine V.iload F dL_rehearses_65 (lv_at hl 0 rfl) ?_
    refine V.bipush (v := nI 39) F dL_rehearses_67 (by decide) ?_
    refine V.icmp_ge (tgt := 99) F dL_rehearses_69 (by decide) (fun h _ => absurd h (by decide)) (fun _ _ => ?_)
    refine V.aload_n F dL_rehearses_72 rfl (lv_at hl 4 rfl) ?_
    refine V.bipush (v := nI 8) F dL_rehearses_73 (by decide) ?_
    refine V.iadn (i := 8) F hE 0 rfl (by omega) (by omega) dL_rehearses_75 (fun z8 e8 => ?_)
    obtain rfl : z8 = nI R := e8.trans ((upd_ne (by decide)).trans hR)
    refine V.bipush (v := nI 40) F dL_rehearses_76 (by decide) ?_
    refine V.icmp_ne (tgt := 99) F dL_rehearses_78 (by decide) (fun c9 => ?_) (fun c9 => ?_)
    · skip
      refine V.aload_n F dL_rehearses_99 rfl (lv_at hl 4 rfl) ?_
      refine V.bipush (v := nI 8) F dL_rehearses_100 (by decide) ?_
      refine V.aload_n F dL_rehearses_102 rfl (lv_at hl 4 rfl) ?_
      refine V.bipush (v := nI 8) F dL_rehearses_103 (by decide) ?_
      refine V.iadn (i := 8) F hE 0 rfl (by omega) (by omega) dL_rehearses_105 (fun z10 e10 => ?_)
      obtain rfl : z10 = nI R := e10.trans ((upd_ne (by decide)).trans hR)
      refine V.bipush (v := nI 40) F dL_rehearses_106 (by decide) ?_
      refine V.icmp_ne (tgt := 116) F dL_rehearses_108 (by decide) (fun _ => ?_) (fun h => absurd h c9)
      refine V.aload_n F dL_rehearses_116 rfl (lv_at hl 4 rfl) ?_
      refine V.bipush (v := nI 8) F dL_rehearses_117 (by decide) ?_
      refine V.iadn (i := 8) F hE 0 rfl (by omega) (by omega) dL_rehearses_119 (fun z12 e12 => ?_)
      obtain rfl : z12 = nI R := e12.trans ((upd_ne (by decide)).trans hR)
      refine V.isn (i := 8) F hE hN (by rfl) 0 rfl (by omega) (by omega) dL_rehearses_120 rfl ?_
      refine V.aload F dL_rehearses_121 (lv_at hl 6 rfl) ?_
      refine V.aload_n F dL_rehearses_123 rfl (lv_at hl 4 rfl) ?_
      refine V.bipush (v := nI 8) F dL_rehearses_124 (by decide) ?_
      refine V.iadn (i := 8) F hE 0 rfl (by omega) (by omega) dL_rehearses_126 (fun z13 e13 => ?_)
      obtain rfl : z13 = nI R := e13.trans upd_eq
      refine V.iload_n F dL_rehearses_127 rfl (lv_at hl 1 rfl) ?_
      refine V.bipush (v := nI 8) F dL_rehearses_128 (by decide) ?_
      refine V.iload_n F dL_rehearses_130 rfl (lv_at hl 2 rfl) ?_
      refine V.imul F dL_rehearses_131 (fun z14 e14 => ?_)
      obtain rfl : z14 = nI (8 * k) := e14.trans (pk_mul _ _)
      refine V.iadd F dL_rehearses_132 (fun z15 e15 => ?_)
      obtain rfl : z15 = nI (p + (8 * k)) := e15.trans (nI_add _ _)
      refine V.bipush (v := nI 64) F dL_rehearses_133 (by decide) ?_
      refine V.iload_n F dL_rehearses_135 rfl (lv_at hl 3 rfl) ?_
      refine V.imul F dL_rehearses_136 (fun z16 e16 => ?_)
      refine V.iadd F dL_rehearses_137 (fun z17 e17 => ?_)
      refine V.sipush (v := nI 512) F dL_rehearses_138 (by decide) ?_
      refine V.aload_n F dL_rehearses_141 rfl (lv_at hl 4 rfl) ?_
      refine V.iconst (v := nI 0) F dL_rehearses_142 (by decide) ?_
      refine V.iadn (i := 0) F hE 0 rfl (by omega) (by omega) dL_rehearses_143 (fun z18 e18 => ?_)
      obtain rfl : z18 = qs 0 := e18.trans ((upd_ne (by decide)).trans (upd_ne (by decide)))
      refine V.imul F dL_rehearses_144 (fun z19 e19 => ?_)
      refine V.iadd F dL_rehearses_145 (fun z20 e20 => ?_)
      refine V.isn (i := R) F hE hN (by rfl) 2 rfl (by omega) (by omega) dL_rehearses_146 rfl ?_
      refine V.aload_n F dL_rehearses_147 rfl (lv_at hl 4 rfl) ?_
      refine V.bipush (v := nI 8) F dL_rehearses_148 (by decide) ?_
      refine V.dup2 F dL_rehearses_150 rfl rfl ?_
      refine V.iadn (i := 8) F hE 0 rfl (by omega) (by omega) dL_rehearses_151 (fun z21 e21 => ?_)
      obtain rfl : z21 = nI R := e21.trans upd_eq
      refine V.iconst (v := nI 1) F dL_rehearses_152 (by decide) ?_
      refine V.iadd F dL_rehearses_153 (fun z22 e22 => ?_)
      obtain rfl : z22 = nI (R + 1) := e22.trans (nI_add _ _)
      refine V.isn (i := 8) F hE hN (by rfl) 0 rfl (by omega) (by omega) dL_rehearses_154 rfl ?_
      refine V.iconst (v := nI 1) F dL_rehearses_155 (by decide) ?_
      exact V.iretW F hr hk dL_rehearses_156 (by subst e16 e17 e19 e20; first | with_reducible rfl | rfl | exact (congrArg (fun y => [rw_ E u1 10 y, rw_ E u4 8 (upd ts p (ts p + nI 1)), rw_ E u5 40 (upd rs R (rhV qs p k w)), rw_ E u6 12 hs]) drK_z) | exact (congrArg (fun y => [rw_ E u1 10 y, rw_ E u4 8 (upd ts p (ts p + nI 1)), rw_ E u5 40 (upd rs R (rhV qs p k w)), rw_ E u6 12 hs]) drK_z).symm | exact (congrArg (fun y => [rw_ E u1 10 y, rw_ E u4 8 (upd ts p (ts p + nI 1)), rw_ E u5 40 (upd rs R (rhV qs p k w)), rw_ E u6 12 hs]) drK_u) | exact (congrArg (fun y => [rw_ E u1 10 y, rw_ E u4 8 (upd ts p (ts p + nI 1)), rw_ E u5 40 (upd rs R (rhV qs p k w)), rw_ E u6 12 hs]) drK_u).symm | exact (congrArg (fun y => [rw_ E u1 10 y, rw_ E u4 8 (upd ts p (ts p + nI 1)), rw_ E u5 40 (upd rs R (rhV qs p k w)), rw_ E u6 12 hs]) ztF_z) | exact (congrArg (fun y => [rw_ E u1 10 y, rw_ E u4 8 (upd ts p (ts p + nI 1)), rw_ E u5 40 (upd rs R (rhV qs p k w)), rw_ E u6 12 hs]) ztF_z).symm | exact (congrArg (fun y => [rw_ E u1 10 y, rw_ E u4 8 (upd ts p (ts p + nI 1)), rw_ E u5 40 (upd rs R (rhV qs p k w)), rw_ E u6 12 hs]) ztF_u) | exact (congrArg (fun y => [rw_ E u1 10 y, rw_ E u4 8 (upd ts p (ts p + nI 1)), rw_ E u5 40 (upd rs R (rhV qs p k w)), rw_ E u6 12 hs]) ztF_u).symm | exact (congrArg (fun y => [rw_ E u1 10 y, rw_ E u4 8 (upd ts p (ts p + nI 1)), rw_ E u5 40 (upd rs R (rhV qs p k w)), rw_ E u6 12 hs]) upd_upd) | exact (congrArg (fun y => [rw_ E u1 10 y, rw_ E u4 8 (upd ts p (ts p + nI 1)), rw_ E u5 40 (upd rs R (rhV qs p k w)), rw_ E u6 12 hs]) upd_upd).symm | (simp only [c6, c6', c9, oi1n, nI_add, pk_mul, bI, and_true, true_and, and_false, false_and, and_self, or_true, true_or, or_false, false_or, or_self, not_true_eq_false, not_false_eq_true, if_true, if_false, ↓reduceIte] <;> rfl)) (by subst e16 e17 e19 e20; first | with_reducible rfl | rfl | exact (congrArg (fun y => [rw_ E u1 10 y, rw_ E u4 8 (upd ts p (ts p + nI 1)), rw_ E u5 40 (upd rs R (rhV qs p k w)), rw_ E u6 12 hs]) drK_z) | exact (congrArg (fun y => [rw_ E u1 10 y, rw_ E u4 8 (upd ts p (ts p + nI 1)), rw_ E u5 40 (upd rs R (rhV qs p k w)), rw_ E u6 12 hs]) drK_z).symm | exact (congrArg (fun y => [rw_ E u1 10 y, rw_ E u4 8 (upd ts p (ts p + nI 1)), rw_ E u5 40 (upd rs R (rhV qs p k w)), rw_ E u6 12 hs]) drK_u) | exact (congrArg (fun y => [rw_ E u1 10 y, rw_ E u4 8 (upd ts p (ts p + nI 1)), rw_ E u5 40 (upd rs R (rhV qs p k w)), rw_ E u6 12 hs]) drK_u).symm | exact (congrArg (fun y => [rw_ E u1 10 y, rw_ E u4 8 (upd ts p (ts p + nI 1)), rw_ E u5 40 (upd rs R (rhV qs p k w)), rw_ E u6 12 hs]) ztF_z) | exact (congrArg (fun y => [rw_ E u1 10 y, rw_ E u4 8 (upd ts p (ts p + nI 1)), rw_ E u5 40 (upd rs R (rhV qs p k w)), rw_ E u6 12 hs]) ztF_z).symm | exact (congrArg (fun y => [rw_ E u1 10 y, rw_ E u4 8 (upd ts p (ts p + nI 1)), rw_ E u5 40 (upd rs R (rhV qs p k w)), rw_ E u6 12 hs]) ztF_u) | exact (congrArg (fun y => [rw_ E u1 10 y, rw_ E u4 8 (upd ts p (ts p + nI 1)), rw_ E u5 40 (upd rs R (rhV qs p k w)), rw_ E u6 12 hs]) ztF_u).symm | exact (congrArg (fun y => [rw_ E u1 10 y, rw_ E u4 8 (upd ts p (ts p + nI 1)), rw_ E u5 40 (upd rs R (rhV qs p k w)), rw_ E u6 12 hs]) upd_upd) | exact (congrArg (fun y => [rw_ E u1 10 y, rw_ E u4 8 (upd ts p (ts p + nI 1)), rw_ E u5 40 (upd rs R (rhV qs p k w)), rw_ E u6 12 hs]) upd_upd).symm | (simp only [c6, c6', c9, oi1n, nI_add, pk_mul, bI, and_true, true_and, and_false, false_and, and_self, or_true, true_or, or_false, false_or, or_self, not_true_eq_false, not_false_eq_true, if_true, if_false, ↓reduceIte] <;> rfl))
    · skip
      exact absurd ((nI_eq (by omega) (by omega)).mp c9) (by omega)
  · skip
    exact absurd c6' hti
set_option maxHeartbeats 4000000 in
set_option maxRecDepth 100000 in
theorem c_L_rehearses_c (l : Launch) (E : EV) {u1 u4 u5 u6 : Nat} {qs ts rs hs : Nat → Int32} {p k : Nat} {w : Int32} (hp8 : p < 8) (hk6 : k < 6) (hti : ¬ nI 3 < ts p + nI 1) (hR : qs 8 = nI 40) : Wr l E yL_rehearses cL_rehearses 8 (some .int) 1 25 [.int (nI p), .int (nI k), .int w, .ref u1, .ref u4, .ref u5, .ref u6] ([rw_ E u1 10 qs, rw_ E u4 8 ts, rw_ E u5 40 rs, rw_ E u6 12 hs]) ([rw_ E u1 10 (upd (rhQ qs) 8 (nI 40)), rw_ E u4 8 (upd ts p (ts p + nI 1)), rw_ E u5 40 (upd (drF 40 rs) 39 (rhV qs p k w)), rw_ E u6 12 hs]) (some (.int (nI 1))) := by
  refine Wr.mk0 (by decide) (Nat.le_of_ble_eq_true rfl) ?_
  intro pP eE sS mM aA bB mt cC F hr hk hE hN ls hl
  have hl : lv_has ls 8 [(0, .int (nI p)), (1, .int (nI k)), (2, .int w), (3, .ref u1), (4, .ref u4), (5, .ref u5), (6, .ref u6)] := hl
  refine V.aload_n F dL_rehearses_0 rfl (lv_at hl 3 rfl) ?_
  refine V.bipush (v := nI 7) F dL_rehearses_1 (by decide) ?_
  refine V.dup2 F dL_rehearses_3 rfl rfl ?_
  refine V.iadn (i := 7) F hE 0 rfl (by omega) (by omega) dL_rehearses_4 (fun z1 e1 => ?_)
  obtain rfl : z1 = qs 7 := e1.trans rfl
  refine V.iconst (v := nI 1) F dL_rehearses_5 (by decide) ?_
  refine V.iadd F dL_rehearses_6 (fun z2 e2 => ?_)
  obtain rfl : z2 = (qs 7 + nI 1) := e2.trans rfl
  refine V.isn (i := 7) F hE hN (by rfl) 0 rfl (by omega) (by omega) dL_rehearses_7 rfl ?_
  refine V.aload F dL_rehearses_8 (lv_at hl 4 rfl) ?_
  refine V.iload_n F dL_rehearses_10 rfl (lv_at hl 0 rfl) ?_
  refine V.dup2 F dL_rehearses_11 rfl rfl ?_
  refine V.iadn (i := p) F hE 1 rfl (by omega) (by omega) dL_rehearses_12 (fun z3 e3 => ?_)
  obtain rfl : z3 = ts p := e3.trans rfl
  refine V.iconst (v := nI 1) F dL_rehearses_13 (by decide) ?_
  refine V.iadd F dL_rehearses_14 (fun z4 e4 => ?_)
  obtain rfl : z4 = (ts p + nI 1) := e4.trans rfl
  refine V.isn (i := p) F hE hN (by rfl) 1 rfl (by omega) (by omega) dL_rehearses_15 rfl ?_
  refine V.aload F dL_rehearses_16 (lv_at hl 4 rfl) ?_
  refine V.iload_n F dL_rehearses_18 rfl (lv_at hl 0 rfl) ?_
  refine V.iadn (i := p) F hE 1 rfl (by omega) (by omega) dL_rehearses_19 (fun z5 e5 => ?_)
  obtain rfl : z5 = (ts p + nI 1) := e5.trans upd_eq
  refine V.iconst (v := nI 3) F dL_rehearses_20 (by decide) ?_
  refine V.icmp_le (tgt := 62) F dL_rehearses_21 (by decide) (fun c6 c6' => ?_) (fun c6 c6' => ?_)
  · skip
    refine V.iconst (v := nI 0) F dL_rehearses_62 (by decide) ?_
    refine V.istore (lv' := [(7, .int (nI 0)), (0, .int (nI p)), (1, .int (nI k)), (2, .int w), (3, .ref u1), (4, .ref u4), (5, .ref u5), (6, .ref u6)]) F dL_rehearses_63 hl (by decide) rfl (fun ls hl => ?_)
    have h8 : nI 0 = nI 0 := (by first | with_reducible rfl | rfl | exact (congrArg (fun y => [rw_ E u1 10 (rhQ qs), rw_ E u4 8 (upd ts p (ts p + nI 1)), rw_ E u5 40 y, rw_ E u6 12 hs]) drK_z) | exact (congrArg (fun y => [rw_ E u1 10 (rhQ qs), rw_ E u4 8 (upd ts p (ts p + nI 1)), rw_ E u5 40 y, rw_ E u6 12 hs]) drK_z).symm | exact (congrArg (fun y => [rw_ E u1 10 (rhQ qs), rw_ E u4 8 (upd ts p (ts p + nI 1)), rw_ E u5 40 y, rw_ E u6 12 hs]) drK_u) | exact (congrArg (fun y => [rw_ E u1 10 (rhQ qs), rw_ E u4 8 (upd ts p (ts p + nI 1)), rw_ E u5 40 y, rw_ E u6 12 hs]) drK_u).symm | exact (congrArg (fun y => [rw_ E u1 10 (rhQ qs), rw_ E u4 8 (upd ts p (ts p + nI 1)), rw_ E u5 40 y, rw_ E u6 12 hs]) ztF_z) | exact (congrArg (fun y => [rw_ E u1 10 (rhQ qs), rw_ E u4 8 (upd ts p (ts p + nI 1)), rw_ E u5 40 y, rw_ E u6 12 hs]) ztF_z).symm | exact (congrArg (fun y => [rw_ E u1 10 (rhQ qs), rw_ E u4 8 (upd ts p (ts p + nI 1)), rw_ E u5 40 y, rw_ E u6 12 hs]) ztF_u) | exact (congrArg (fun y => [rw_ E u1 10 (rhQ qs), rw_ E u4 8 (upd ts p (ts p + nI 1)), rw_ E u5 40 y, rw_ E u6 12 hs]) ztF_u).symm | exact (congrArg (fun y => [rw_ E u1 10 (rhQ qs), rw_ E u4 8 (upd ts p (ts p + nI 1)), rw_ E u5 40 y, rw_ E u6 12 hs]) upd_upd) | exact (congrArg (fun y => [rw_ E u1 10 (rhQ qs), rw_ E u4 8 (upd ts p (ts p + nI 1)), rw_ E u5 40 y, rw_ E u6 12 hs]) upd_upd).symm | exact (congrArg (fun y => [rw_ E u1 10 y, rw_ E u4 8 (upd ts p (ts p + nI 1)), rw_ E u5 40 (upd (drF 40 rs) 39 (rhV qs p k w)), rw_ E u6 12 hs]) drK_z) | exact (congrArg (fun y => [rw_ E u1 10 y, rw_ E u4 8 (upd ts p (ts p + nI 1)), rw_ E u5 40 (upd (drF 40 rs) 39 (rhV qs p k w)), rw_ E u6 12 hs]) drK_z).symm | exact (congrArg (fun y => [rw_ E u1 10 y, rw_ E u4 8 (upd ts p (ts p + nI 1)), rw_ E u5 40 (upd (drF 40 rs) 39 (rhV qs p k w)), rw_ E u6 12 hs]) drK_u) | exact (congrArg (fun y => [rw_ E u1 10 y, rw_ E u4 8 (upd ts p (ts p + nI 1)), rw_ E u5 40 (upd (drF 40 rs) 39 (rhV qs p k w)), rw_ E u6 12 hs]) drK_u).symm | exact (congrArg (fun y => [rw_ E u1 10 y, rw_ E u4 8 (upd ts p (ts p + nI 1)), rw_ E u5 40 (upd (drF 40 rs) 39 (rhV qs p k w)), rw_ E u6 12 hs]) ztF_z) | exact (congrArg (fun y => [rw_ E u1 10 y, rw_ E u4 8 (upd ts p (ts p + nI 1)), rw_ E u5 40 (upd (drF 40 rs) 39 (rhV qs p k w)), rw_ E u6 12 hs]) ztF_z).symm | exact (congrArg (fun y => [rw_ E u1 10 y, rw_ E u4 8 (upd ts p (ts p + nI 1)), rw_ E u5 40 (upd (drF 40 rs) 39 (rhV qs p k w)), rw_ E u6 12 hs]) ztF_u) | exact (congrArg (fun y => [rw_ E u1 10 y, rw_ E u4 8 (upd ts p (ts p + nI 1)), rw_ E u5 40 (upd (drF 40 rs) 39 (rhV qs p k w)), rw_ E u6 12 hs]) ztF_u).symm | exact (congrArg (fun y => [rw_ E u1 10 y, rw_ E u4 8 (upd ts p (ts p + nI 1)), rw_ E u5 40 (upd (drF 40 rs) 39 (rhV qs p k w)), rw_ E u6 12 hs]) upd_upd) | exact (congrArg (fun y => [rw_ E u1 10 y, rw_ E u4 8 (upd ts p (ts p + nI 1)), rw_ E u5 40 (upd (drF 40 rs) 39 (rhV qs p k w)), rw_ E u6 12 hs]) upd_upd).symm | (simp only [c6, c6', oi1n, nI_add, pk_mul, bI, and_true, true_and, and_false, false_and, and_self, or_true, true_or, or_false, false_or, or_self, not_true_eq_false, not_false_eq_true, if_true, if_false, ↓reduceIte] <;> rfl))
    refine V.weq (ws' := [rw_ E u1 10 (rhQ qs), rw_ E u4 8 (upd ts p (ts p + nI 1)), rw_ E u5 40 (drK rs 0), rw_ E u6 12 hs]) (by first | with_reducible rfl | rfl | exact (congrArg (fun y => [rw_ E u1 10 (rhQ qs), rw_ E u4 8 (upd ts p (ts p + nI 1)), rw_ E u5 40 y, rw_ E u6 12 hs]) drK_z) | exact (congrArg (fun y => [rw_ E u1 10 (rhQ qs), rw_ E u4 8 (upd ts p (ts p + nI 1)), rw_ E u5 40 y, rw_ E u6 12 hs]) drK_z).symm | exact (congrArg (fun y => [rw_ E u1 10 (rhQ qs), rw_ E u4 8 (upd ts p (ts p + nI 1)), rw_ E u5 40 y, rw_ E u6 12 hs]) drK_u) | exact (congrArg (fun y => [rw_ E u1 10 (rhQ qs), rw_ E u4 8 (upd ts p (ts p + nI 1)), rw_ E u5 40 y, rw_ E u6 12 hs]) drK_u).symm | exact (congrArg (fun y => [rw_ E u1 10 (rhQ qs), rw_ E u4 8 (upd ts p (ts p + nI 1)), rw_ E u5 40 y, rw_ E u6 12 hs]) ztF_z) | exact (congrArg (fun y => [rw_ E u1 10 (rhQ qs), rw_ E u4 8 (upd ts p (ts p + nI 1)), rw_ E u5 40 y, rw_ E u6 12 hs]) ztF_z).symm | exact (congrArg (fun y => [rw_ E u1 10 (rhQ qs), rw_ E u4 8 (upd ts p (ts p + nI 1)), rw_ E u5 40 y, rw_ E u6 12 hs]) ztF_u) | exact (congrArg (fun y => [rw_ E u1 10 (rhQ qs), rw_ E u4 8 (upd ts p (ts p + nI 1)), rw_ E u5 40 y, rw_ E u6 12 hs]) ztF_u).symm | exact (congrArg (fun y => [rw_ E u1 10 (rhQ qs), rw_ E u4 8 (upd ts p (ts p + nI 1)), rw_ E u5 40 y, rw_ E u6 12 hs]) upd_upd) | exact (congrArg (fun y => [rw_ E u1 10 (rhQ qs), rw_ E u4 8 (upd ts p (ts p + nI 1)), rw_ E u5 40 y, rw_ E u6 12 hs]) upd_upd).symm | exact (congrArg (fun y => [rw_ E u1 10 y, rw_ E u4 8 (upd ts p (ts p + nI 1)), rw_ E u5 40 (upd (drF 40 rs) 39 (rhV qs p k w)), rw_ E u6 12 hs]) drK_z) | exact (congrArg (fun y => [rw_ E u1 10 y, rw_ E u4 8 (upd ts p (ts p + nI 1)), rw_ E u5 40 (upd (drF 40 rs) 39 (rhV qs p k w)), rw_ E u6 12 hs]) drK_z).symm | exact (congrArg (fun y => [rw_ E u1 10 y, rw_ E u4 8 (upd ts p (ts p + nI 1)), rw_ E u5 40 (upd (drF 40 rs) 39 (rhV qs p k w)), rw_ E u6 12 hs]) drK_u) | exact (congrArg (fun y => [rw_ E u1 10 y, rw_ E u4 8 (upd ts p (ts p + nI 1)), rw_ E u5 40 (upd (drF 40 rs) 39 (rhV qs p k w)), rw_ E u6 12 hs]) drK_u).symm | exact (congrArg (fun y => [rw_ E u1 10 y, rw_ E u4 8 (upd ts p (ts p + nI 1)), rw_ E u5 40 (upd (drF 40 rs) 39 (rhV qs p k w)), rw_ E u6 12 hs]) ztF_z) | exact (congrArg (fun y => [rw_ E u1 10 y, rw_ E u4 8 (upd ts p (ts p + nI 1)), rw_ E u5 40 (upd (drF 40 rs) 39 (rhV qs p k w)), rw_ E u6 12 hs]) ztF_z).symm | exact (congrArg (fun y => [rw_ E u1 10 y, rw_ E u4 8 (upd ts p (ts p + nI 1)), rw_ E u5 40 (upd (drF 40 rs) 39 (rhV qs p k w)), rw_ E u6 12 hs]) ztF_u) | exact (congrArg (fun y => [rw_ E u1 10 y, rw_ E u4 8 (upd ts p (ts p + nI 1)), rw_ E u5 40 (upd (drF 40 rs) 39 (rhV qs p k w)), rw_ E u6 12 hs]) ztF_u).symm | exact (congrArg (fun y => [rw_ E u1 10 y, rw_ E u4 8 (upd ts p (ts p + nI 1)), rw_ E u5 40 (upd (drF 40 rs) 39 (rhV qs p k w)), rw_ E u6 12 hs]) upd_upd) | exact (congrArg (fun y => [rw_ E u1 10 y, rw_ E u4 8 (upd ts p (ts p + nI 1)), rw_ E u5 40 (upd (drF 40 rs) 39 (rhV qs p k w)), rw_ E u6 12 hs]) upd_upd).symm | (simp only [c6, c6', oi1n, nI_add, pk_mul, bI, and_true, true_and, and_false, false_and, and_self, or_true, true_or, or_false, false_or, or_self, not_true_eq_false, not_false_eq_true, if_true, if_false, ↓reduceIte] <;> rfl)) ?_
    refine V.loopW (Wd := fun j7 : Nat => [rw_ E u1 10 (rhQ qs), rw_ E u4 8 (upd ts p (ts p + nI 1)), rw_ E u5 40 (drK rs j7), rw_ E u6 12 hs]) (N := 39) (k0 := 0) (I := (fun j7 : Nat => [(7, .int (nI j7)), (0, .int (nI p)), (1, .int (nI k)), (2, .int w), (3, .ref u1), (4, .ref u4), (5, .ref u5), (6, .ref u6)])) (J := fun _ => True) (Nat.zero_le _) trivial (lv_sub hl [0, 1, 2, 3, 4, 5, 6, 7] (by rw [h8]; rfl)) ?_
    intro j7 j7_N j7_J ihj7 ls hl
    have hl : lv_has ls 8 [(7, .int (nI j7)), (0, .int (nI p)), (1, .int (nI k)), (2, .int w), (3, .ref u1), (4, .ref u4), (5, .ref u5), (6, .ref u6)] := hl
    try dsimp only at j7_J ihj7 ⊢
    refine V.iload F dL_rehearses_65 (lv_at hl 0 rfl) ?_
    refine V.bipush (v := nI 39) F dL_rehearses_67 (by decide) ?_
    refine V.icmp_ge (tgt := 99) F dL_rehearses_69 (by decide) (fun c9 c9' => ?_) (fun c9 c9' => ?_)
    · skip
      have j7_eq := ((lpL rfl (by omega) j7_N).1 c9).symm
      subst j7_eq
      refine V.aload_n F dL_rehearses_99 rfl (lv_at hl 4 rfl) ?_
      refine V.bipush (v := nI 8) F dL_rehearses_100 (by decide) ?_
      refine V.aload_n F dL_rehearses_102 rfl (lv_at hl 4 rfl) ?_
      refine V.bipush (v := nI 8) F dL_rehearses_103 (by decide) ?_
      refine V.iadn (i := 8) F hE 0 rfl (by omega) (by omega) dL_rehearses_105 (fun z10 e10 => ?_)
      obtain rfl : z10 = nI 40 := e10.trans ((upd_ne (by decide)).trans hR)
      refine V.bipush (v := nI 40) F dL_rehearses_106 (by decide) ?_
      refine V.icmp_ne (tgt := 116) F dL_rehearses_108 (by decide) (fun h => absurd h (by decide)) (fun _ => ?_)
      refine V.bipush (v := nI 39) F dL_rehearses_111 (by decide) ?_
      refine V.goto (tgt := 120) F dL_rehearses_113 (by decide) ?_
      refine V.isn (i := 8) F hE hN (by rfl) 0 rfl (by omega) (by omega) dL_rehearses_120 rfl ?_
      refine V.aload F dL_rehearses_121 (lv_at hl 6 rfl) ?_
      refine V.aload_n F dL_rehearses_123 rfl (lv_at hl 4 rfl) ?_
      refine V.bipush (v := nI 8) F dL_rehearses_124 (by decide) ?_
      refine V.iadn (i := 8) F hE 0 rfl (by omega) (by omega) dL_rehearses_126 (fun z12 e12 => ?_)
      obtain rfl : z12 = nI 39 := e12.trans upd_eq
      refine V.iload_n F dL_rehearses_127 rfl (lv_at hl 1 rfl) ?_
      refine V.bipush (v := nI 8) F dL_rehearses_128 (by decide) ?_
      refine V.iload_n F dL_rehearses_130 rfl (lv_at hl 2 rfl) ?_
      refine V.imul F dL_rehearses_131 (fun z13 e13 => ?_)
      obtain rfl : z13 = nI (8 * k) := e13.trans (pk_mul _ _)
      refine V.iadd F dL_rehearses_132 (fun z14 e14 => ?_)
      obtain rfl : z14 = nI (p + (8 * k)) := e14.trans (nI_add _ _)
      refine V.bipush (v := nI 64) F dL_rehearses_133 (by decide) ?_
      refine V.iload_n F dL_rehearses_135 rfl (lv_at hl 3 rfl) ?_
      refine V.imul F dL_rehearses_136 (fun z15 e15 => ?_)
      refine V.iadd F dL_rehearses_137 (fun z16 e16 => ?_)
      refine V.sipush (v := nI 512) F dL_rehearses_138 (by decide) ?_
      refine V.aload_n F dL_rehearses_141 rfl (lv_at hl 4 rfl) ?_
      refine V.iconst (v := nI 0) F dL_rehearses_142 (by decide) ?_
      refine V.iadn (i := 0) F hE 0 rfl (by omega) (by omega) dL_rehearses_143 (fun z17 e17 => ?_)
      obtain rfl : z17 = qs 0 := e17.trans ((upd_ne (by decide)).trans (upd_ne (by decide)))
      refine V.imul F dL_rehearses_144 (fun z18 e18 => ?_)
      refine V.iadd F dL_rehearses_145 (fun z19 e19 => ?_)
      refine V.isn (i := 39) F hE hN (by rfl) 2 rfl (by omega) (by omega) dL_rehearses_146 rfl ?_
      refine V.aload_n F dL_rehearses_147 rfl (lv_at hl 4 rfl) ?_
      refine V.bipush (v := nI 8) F dL_rehearses_148 (by decide) ?_
      refine V.dup2 F dL_rehearses_150 rfl rfl ?_
      refine V.iadn (i := 8) F hE 0 rfl (by omega) (by omega) dL_rehearses_151 (fun z20 e20 => ?_)
      obtain rfl : z20 = nI 39 := e20.trans upd_eq
      refine V.iconst (v := nI 1) F dL_rehearses_152 (by decide) ?_
      refine V.iadd F dL_rehearses_153 (fun z21 e21 => ?_)
      obtain rfl : z21 = nI (39 + 1) := e21.trans (nI_add _ _)
      refine V.isn (i := 8) F hE hN (by rfl) 0 rfl (by omega) (by omega) dL_rehearses_154 rfl ?_
      refine V.iconst (v := nI 1) F dL_rehearses_155 (by decide) ?_
      exact V.iretW F hr hk dL_rehearses_156 (by subst e15 e16 e18 e19; first | with_reducible rfl | rfl | exact (congrArg (fun y => [rw_ E u1 10 (rhQ qs), rw_ E u4 8 (upd ts p (ts p + nI 1)), rw_ E u5 40 y, rw_ E u6 12 hs]) drK_z) | exact (congrArg (fun y => [rw_ E u1 10 (rhQ qs), rw_ E u4 8 (upd ts p (ts p + nI 1)), rw_ E u5 40 y, rw_ E u6 12 hs]) drK_z).symm | exact (congrArg (fun y => [rw_ E u1 10 (rhQ qs), rw_ E u4 8 (upd ts p (ts p + nI 1)), rw_ E u5 40 y, rw_ E u6 12 hs]) drK_u) | exact (congrArg (fun y => [rw_ E u1 10 (rhQ qs), rw_ E u4 8 (upd ts p (ts p + nI 1)), rw_ E u5 40 y, rw_ E u6 12 hs]) drK_u).symm | exact (congrArg (fun y => [rw_ E u1 10 (rhQ qs), rw_ E u4 8 (upd ts p (ts p + nI 1)), rw_ E u5 40 y, rw_ E u6 12 hs]) ztF_z) | exact (congrArg (fun y => [rw_ E u1 10 (rhQ qs), rw_ E u4 8 (upd ts p (ts p + nI 1)), rw_ E u5 40 y, rw_ E u6 12 hs]) ztF_z).symm | exact (congrArg (fun y => [rw_ E u1 10 (rhQ qs), rw_ E u4 8 (upd ts p (ts p + nI 1)), rw_ E u5 40 y, rw_ E u6 12 hs]) ztF_u) | exact (congrArg (fun y => [rw_ E u1 10 (rhQ qs), rw_ E u4 8 (upd ts p (ts p + nI 1)), rw_ E u5 40 y, rw_ E u6 12 hs]) ztF_u).symm | exact (congrArg (fun y => [rw_ E u1 10 (rhQ qs), rw_ E u4 8 (upd ts p (ts p + nI 1)), rw_ E u5 40 y, rw_ E u6 12 hs]) upd_upd) | exact (congrArg (fun y => [rw_ E u1 10 (rhQ qs), rw_ E u4 8 (upd ts p (ts p + nI 1)), rw_ E u5 40 y, rw_ E u6 12 hs]) upd_upd).symm | exact (congrArg (fun y => [rw_ E u1 10 y, rw_ E u4 8 (upd ts p (ts p + nI 1)), rw_ E u5 40 (upd (drF 40 rs) 39 (rhV qs p k w)), rw_ E u6 12 hs]) drK_z) | exact (congrArg (fun y => [rw_ E u1 10 y, rw_ E u4 8 (upd ts p (ts p + nI 1)), rw_ E u5 40 (upd (drF 40 rs) 39 (rhV qs p k w)), rw_ E u6 12 hs]) drK_z).symm | exact (congrArg (fun y => [rw_ E u1 10 y, rw_ E u4 8 (upd ts p (ts p + nI 1)), rw_ E u5 40 (upd (drF 40 rs) 39 (rhV qs p k w)), rw_ E u6 12 hs]) drK_u) | exact (congrArg (fun y => [rw_ E u1 10 y, rw_ E u4 8 (upd ts p (ts p + nI 1)), rw_ E u5 40 (upd (drF 40 rs) 39 (rhV qs p k w)), rw_ E u6 12 hs]) drK_u).symm | exact (congrArg (fun y => [rw_ E u1 10 y, rw_ E u4 8 (upd ts p (ts p + nI 1)), rw_ E u5 40 (upd (drF 40 rs) 39 (rhV qs p k w)), rw_ E u6 12 hs]) ztF_z) | exact (congrArg (fun y => [rw_ E u1 10 y, rw_ E u4 8 (upd ts p (ts p + nI 1)), rw_ E u5 40 (upd (drF 40 rs) 39 (rhV qs p k w)), rw_ E u6 12 hs]) ztF_z).symm | exact (congrArg (fun y => [rw_ E u1 10 y, rw_ E u4 8 (upd ts p (ts p + nI 1)), rw_ E u5 40 (upd (drF 40 rs) 39 (rhV qs p k w)), rw_ E u6 12 hs]) ztF_u) | exact (congrArg (fun y => [rw_ E u1 10 y, rw_ E u4 8 (upd ts p (ts p + nI 1)), rw_ E u5 40 (upd (drF 40 rs) 39 (rhV qs p k w)), rw_ E u6 12 hs]) ztF_u).symm | exact (congrArg (fun y => [rw_ E u1 10 y, rw_ E u4 8 (upd ts p (ts p + nI 1)), rw_ E u5 40 (upd (drF 40 rs) 39 (rhV qs p k w)), rw_ E u6 12 hs]) upd_upd) | exact (congrArg (fun y => [rw_ E u1 10 y, rw_ E u4 8 (upd ts p (ts p + nI 1)), rw_ E u5 40 (upd (drF 40 rs) 39 (rhV qs p k w)), rw_ E u6 12 hs]) upd_upd).symm | (simp only [c6, c6', c9, c9', oi1n, nI_add, pk_mul, bI, and_true, true_and, and_false, false_and, and_self, or_true, true_or, or_false, false_or, or_self, not_true_eq_false, not_false_eq_true, if_true, if_false, ↓reduceIte] <;> rfl)) (by subst e15 e16 e18 e19; first | with_reducible rfl | rfl | exact (congrArg (fun y => [rw_ E u1 10 (rhQ qs), rw_ E u4 8 (upd ts p (ts p + nI 1)), rw_ E u5 40 y, rw_ E u6 12 hs]) drK_z) | exact (congrArg (fun y => [rw_ E u1 10 (rhQ qs), rw_ E u4 8 (upd ts p (ts p + nI 1)), rw_ E u5 40 y, rw_ E u6 12 hs]) drK_z).symm | exact (congrArg (fun y => [rw_ E u1 10 (rhQ qs), rw_ E u4 8 (upd ts p (ts p + nI 1)), rw_ E u5 40 y, rw_ E u6 12 hs]) drK_u) | exact (congrArg (fun y => [rw_ E u1 10 (rhQ qs), rw_ E u4 8 (upd ts p (ts p + nI 1)), rw_ E u5 40 y, rw_ E u6 12 hs]) drK_u).symm | exact (congrArg (fun y => [rw_ E u1 10 (rhQ qs), rw_ E u4 8 (upd ts p (ts p + nI 1)), rw_ E u5 40 y, rw_ E u6 12 hs]) ztF_z) | exact (congrArg (fun y => [rw_ E u1 10 (rhQ qs), rw_ E u4 8 (upd ts p (ts p + nI 1)), rw_ E u5 40 y, rw_ E u6 12 hs]) ztF_z).symm | exact (congrArg (fun y => [rw_ E u1 10 (rhQ qs), rw_ E u4 8 (upd ts p (ts p + nI 1)), rw_ E u5 40 y, rw_ E u6 12 hs]) ztF_u) | exact (congrArg (fun y => [rw_ E u1 10 (rhQ qs), rw_ E u4 8 (upd ts p (ts p + nI 1)), rw_ E u5 40 y, rw_ E u6 12 hs]) ztF_u).symm | exact (congrArg (fun y => [rw_ E u1 10 (rhQ qs), rw_ E u4 8 (upd ts p (ts p + nI 1)), rw_ E u5 40 y, rw_ E u6 12 hs]) upd_upd) | exact (congrArg (fun y => [rw_ E u1 10 (rhQ qs), rw_ E u4 8 (upd ts p (ts p + nI 1)), rw_ E u5 40 y, rw_ E u6 12 hs]) upd_upd).symm | exact (congrArg (fun y => [rw_ E u1 10 y, rw_ E u4 8 (upd ts p (ts p + nI 1)), rw_ E u5 40 (upd (drF 40 rs) 39 (rhV qs p k w)), rw_ E u6 12 hs]) drK_z) | exact (congrArg (fun y => [rw_ E u1 10 y, rw_ E u4 8 (upd ts p (ts p + nI 1)), rw_ E u5 40 (upd (drF 40 rs) 39 (rhV qs p k w)), rw_ E u6 12 hs]) drK_z).symm | exact (congrArg (fun y => [rw_ E u1 10 y, rw_ E u4 8 (upd ts p (ts p + nI 1)), rw_ E u5 40 (upd (drF 40 rs) 39 (rhV qs p k w)), rw_ E u6 12 hs]) drK_u) | exact (congrArg (fun y => [rw_ E u1 10 y, rw_ E u4 8 (upd ts p (ts p + nI 1)), rw_ E u5 40 (upd (drF 40 rs) 39 (rhV qs p k w)), rw_ E u6 12 hs]) drK_u).symm | exact (congrArg (fun y => [rw_ E u1 10 y, rw_ E u4 8 (upd ts p (ts p + nI 1)), rw_ E u5 40 (upd (drF 40 rs) 39 (rhV qs p k w)), rw_ E u6 12 hs]) ztF_z) | exact (congrArg (fun y => [rw_ E u1 10 y, rw_ E u4 8 (upd ts p (ts p + nI 1)), rw_ E u5 40 (upd (drF 40 rs) 39 (rhV qs p k w)), rw_ E u6 12 hs]) ztF_z).symm | exact (congrArg (fun y => [rw_ E u1 10 y, rw_ E u4 8 (upd ts p (ts p + nI 1)), rw_ E u5 40 (upd (drF 40 rs) 39 (rhV qs p k w)), rw_ E u6 12 hs]) ztF_u) | exact (congrArg (fun y => [rw_ E u1 10 y, rw_ E u4 8 (upd ts p (ts p + nI 1)), rw_ E u5 40 (upd (drF 40 rs) 39 (rhV qs p k w)), rw_ E u6 12 hs]) ztF_u).symm | exact (congrArg (fun y => [rw_ E u1 10 y, rw_ E u4 8 (upd ts p (ts p + nI 1)), rw_ E u5 40 (upd (drF 40 rs) 39 (rhV qs p k w)), rw_ E u6 12 hs]) upd_upd) | exact (congrArg (fun y => [rw_ E u1 10 y, rw_ E u4 8 (upd ts p (ts p + nI 1)), rw_ E u5 40 (upd (drF 40 rs) 39 (rhV qs p k w)), rw_ E u6 12 hs]) upd_upd).symm | (simp only [c6, c6', c9, c9', oi1n, nI_add, pk_mul, bI, and_true, true_and, and_false, false_and, and_self, or_true, true_or, or_false, false_or, or_self, not_true_eq_false, not_false_eq_true, if_true, if_false, ↓reduceIte] <;> rfl))
    · skip
      have j7_lt := (lpL rfl (by omega) j7_N).2 c9
      refine V.aload_n F dL_rehearses_72 rfl (lv_at hl 4 rfl) ?_
      refine V.bipush (v := nI 8) F dL_rehearses_73 (by decide) ?_
      refine V.iadn (i := 8) F hE 0 rfl (by omega) (by omega) dL_rehearses_75 (fun z22 e22 => ?_)
      obtain rfl : z22 = nI 40 := e22.trans ((upd_ne (by decide)).trans hR)
      refine V.bipush (v := nI 40) F dL_rehearses_76 (by decide) ?_
      refine V.icmp_ne (tgt := 99) F dL_rehearses_78 (by decide) (fun h => absurd h (by decide)) (fun _ => ?_)
      refine V.aload F dL_rehearses_81 (lv_at hl 6 rfl) ?_
      refine V.iload F dL_rehearses_83 (lv_at hl 0 rfl) ?_
      refine V.aload F dL_rehearses_85 (lv_at hl 6 rfl) ?_
      refine V.iload F dL_rehearses_87 (lv_at hl 0 rfl) ?_
      refine V.iconst (v := nI 1) F dL_rehearses_89 (by decide) ?_
      refine V.iadd F dL_rehearses_90 (fun z24 e24 => ?_)
      obtain rfl : z24 = nI (j7 + 1) := e24.trans (nI_add _ _)
      refine V.iadn (i := (j7 + 1)) F hE 2 rfl (by omega) (by omega) dL_rehearses_91 (fun z25 e25 => ?_)
      refine V.isn (i := j7) F hE hN (by rfl) 2 rfl (by omega) (by omega) dL_rehearses_92 rfl ?_
      refine V.iinc (j := 0) (lv' := fun z26 => [(7, .int z26), (0, .int (nI p)), (1, .int (nI k)), (2, .int w), (3, .ref u1), (4, .ref u4), (5, .ref u5), (6, .ref u6)]) F dL_rehearses_93 hl rfl (by decide) (fun _ => rfl) (fun z26 e26 ls hl => ?_)
      refine V.goto (tgt := 65) F dL_rehearses_96 (by decide) ?_
      have h27 : nI (j7 + 1) = z26 := (by subst e25 e26; first | with_reducible rfl | rfl | exact (congrArg (fun y => [rw_ E u1 10 (rhQ qs), rw_ E u4 8 (upd ts p (ts p + nI 1)), rw_ E u5 40 y, rw_ E u6 12 hs]) drK_z) | exact (congrArg (fun y => [rw_ E u1 10 (rhQ qs), rw_ E u4 8 (upd ts p (ts p + nI 1)), rw_ E u5 40 y, rw_ E u6 12 hs]) drK_z).symm | exact (congrArg (fun y => [rw_ E u1 10 (rhQ qs), rw_ E u4 8 (upd ts p (ts p + nI 1)), rw_ E u5 40 y, rw_ E u6 12 hs]) drK_u) | exact (congrArg (fun y => [rw_ E u1 10 (rhQ qs), rw_ E u4 8 (upd ts p (ts p + nI 1)), rw_ E u5 40 y, rw_ E u6 12 hs]) drK_u).symm | exact (congrArg (fun y => [rw_ E u1 10 (rhQ qs), rw_ E u4 8 (upd ts p (ts p + nI 1)), rw_ E u5 40 y, rw_ E u6 12 hs]) ztF_z) | exact (congrArg (fun y => [rw_ E u1 10 (rhQ qs), rw_ E u4 8 (upd ts p (ts p + nI 1)), rw_ E u5 40 y, rw_ E u6 12 hs]) ztF_z).symm | exact (congrArg (fun y => [rw_ E u1 10 (rhQ qs), rw_ E u4 8 (upd ts p (ts p + nI 1)), rw_ E u5 40 y, rw_ E u6 12 hs]) ztF_u) | exact (congrArg (fun y => [rw_ E u1 10 (rhQ qs), rw_ E u4 8 (upd ts p (ts p + nI 1)), rw_ E u5 40 y, rw_ E u6 12 hs]) ztF_u).symm | exact (congrArg (fun y => [rw_ E u1 10 (rhQ qs), rw_ E u4 8 (upd ts p (ts p + nI 1)), rw_ E u5 40 y, rw_ E u6 12 hs]) upd_upd) | exact (congrArg (fun y => [rw_ E u1 10 (rhQ qs), rw_ E u4 8 (upd ts p (ts p + nI 1)), rw_ E u5 40 y, rw_ E u6 12 hs]) upd_upd).symm | exact (congrArg (fun y => [rw_ E u1 10 y, rw_ E u4 8 (upd ts p (ts p + nI 1)), rw_ E u5 40 (upd (drF 40 rs) 39 (rhV qs p k w)), rw_ E u6 12 hs]) drK_z) | exact (congrArg (fun y => [rw_ E u1 10 y, rw_ E u4 8 (upd ts p (ts p + nI 1)), rw_ E u5 40 (upd (drF 40 rs) 39 (rhV qs p k w)), rw_ E u6 12 hs]) drK_z).symm | exact (congrArg (fun y => [rw_ E u1 10 y, rw_ E u4 8 (upd ts p (ts p + nI 1)), rw_ E u5 40 (upd (drF 40 rs) 39 (rhV qs p k w)), rw_ E u6 12 hs]) drK_u) | exact (congrArg (fun y => [rw_ E u1 10 y, rw_ E u4 8 (upd ts p (ts p + nI 1)), rw_ E u5 40 (upd (drF 40 rs) 39 (rhV qs p k w)), rw_ E u6 12 hs]) drK_u).symm | exact (congrArg (fun y => [rw_ E u1 10 y, rw_ E u4 8 (upd ts p (ts p + nI 1)), rw_ E u5 40 (upd (drF 40 rs) 39 (rhV qs p k w)), rw_ E u6 12 hs]) ztF_z) | exact (congrArg (fun y => [rw_ E u1 10 y, rw_ E u4 8 (upd ts p (ts p + nI 1)), rw_ E u5 40 (upd (drF 40 rs) 39 (rhV qs p k w)), rw_ E u6 12 hs]) ztF_z).symm | exact (congrArg (fun y => [rw_ E u1 10 y, rw_ E u4 8 (upd ts p (ts p + nI 1)), rw_ E u5 40 (upd (drF 40 rs) 39 (rhV qs p k w)), rw_ E u6 12 hs]) ztF_u) | exact (congrArg (fun y => [rw_ E u1 10 y, rw_ E u4 8 (upd ts p (ts p + nI 1)), rw_ E u5 40 (upd (drF 40 rs) 39 (rhV qs p k w)), rw_ E u6 12 hs]) ztF_u).symm | exact (congrArg (fun y => [rw_ E u1 10 y, rw_ E u4 8 (upd ts p (ts p + nI 1)), rw_ E u5 40 (upd (drF 40 rs) 39 (rhV qs p k w)), rw_ E u6 12 hs]) upd_upd) | exact (congrArg (fun y => [rw_ E u1 10 y, rw_ E u4 8 (upd ts p (ts p + nI 1)), rw_ E u5 40 (upd (drF 40 rs) 39 (rhV qs p k w)), rw_ E u6 12 hs]) upd_upd).symm | (simp only [c6, c6', c9, c9', oi1n, nI_add, pk_mul, bI, and_true, true_and, and_false, false_and, and_self, or_true, true_or, or_false, false_or, or_self, not_true_eq_false, not_false_eq_true, if_true, if_false, ↓reduceIte] <;> rfl))
      refine V.weq (ws' := [rw_ E u1 10 (rhQ qs), rw_ E u4 8 (upd ts p (ts p + nI 1)), rw_ E u5 40 (drK rs (j7 + 1)), rw_ E u6 12 hs]) (by subst e25 e26; first | with_reducible rfl | rfl | exact (congrArg (fun y => [rw_ E u1 10 (rhQ qs), rw_ E u4 8 (upd ts p (ts p + nI 1)), rw_ E u5 40 y, rw_ E u6 12 hs]) drK_z) | exact (congrArg (fun y => [rw_ E u1 10 (rhQ qs), rw_ E u4 8 (upd ts p (ts p + nI 1)), rw_ E u5 40 y, rw_ E u6 12 hs]) drK_z).symm | exact (congrArg (fun y => [rw_ E u1 10 (rhQ qs), rw_ E u4 8 (upd ts p (ts p + nI 1)), rw_ E u5 40 y, rw_ E u6 12 hs]) drK_u) | exact (congrArg (fun y => [rw_ E u1 10 (rhQ qs), rw_ E u4 8 (upd ts p (ts p + nI 1)), rw_ E u5 40 y, rw_ E u6 12 hs]) drK_u).symm | exact (congrArg (fun y => [rw_ E u1 10 (rhQ qs), rw_ E u4 8 (upd ts p (ts p + nI 1)), rw_ E u5 40 y, rw_ E u6 12 hs]) ztF_z) | exact (congrArg (fun y => [rw_ E u1 10 (rhQ qs), rw_ E u4 8 (upd ts p (ts p + nI 1)), rw_ E u5 40 y, rw_ E u6 12 hs]) ztF_z).symm | exact (congrArg (fun y => [rw_ E u1 10 (rhQ qs), rw_ E u4 8 (upd ts p (ts p + nI 1)), rw_ E u5 40 y, rw_ E u6 12 hs]) ztF_u) | exact (congrArg (fun y => [rw_ E u1 10 (rhQ qs), rw_ E u4 8 (upd ts p (ts p + nI 1)), rw_ E u5 40 y, rw_ E u6 12 hs]) ztF_u).symm | exact (congrArg (fun y => [rw_ E u1 10 (rhQ qs), rw_ E u4 8 (upd ts p (ts p + nI 1)), rw_ E u5 40 y, rw_ E u6 12 hs]) upd_upd) | exact (congrArg (fun y => [rw_ E u1 10 (rhQ qs), rw_ E u4 8 (upd ts p (ts p + nI 1)), rw_ E u5 40 y, rw_ E u6 12 hs]) upd_upd).symm | exact (congrArg (fun y => [rw_ E u1 10 y, rw_ E u4 8 (upd ts p (ts p + nI 1)), rw_ E u5 40 (upd (drF 40 rs) 39 (rhV qs p k w)), rw_ E u6 12 hs]) drK_z) | exact (congrArg (fun y => [rw_ E u1 10 y, rw_ E u4 8 (upd ts p (ts p + nI 1)), rw_ E u5 40 (upd (drF 40 rs) 39 (rhV qs p k w)), rw_ E u6 12 hs]) drK_z).symm | exact (congrArg (fun y => [rw_ E u1 10 y, rw_ E u4 8 (upd ts p (ts p + nI 1)), rw_ E u5 40 (upd (drF 40 rs) 39 (rhV qs p k w)), rw_ E u6 12 hs]) drK_u) | exact (congrArg (fun y => [rw_ E u1 10 y, rw_ E u4 8 (upd ts p (ts p + nI 1)), rw_ E u5 40 (upd (drF 40 rs) 39 (rhV qs p k w)), rw_ E u6 12 hs]) drK_u).symm | exact (congrArg (fun y => [rw_ E u1 10 y, rw_ E u4 8 (upd ts p (ts p + nI 1)), rw_ E u5 40 (upd (drF 40 rs) 39 (rhV qs p k w)), rw_ E u6 12 hs]) ztF_z) | exact (congrArg (fun y => [rw_ E u1 10 y, rw_ E u4 8 (upd ts p (ts p + nI 1)), rw_ E u5 40 (upd (drF 40 rs) 39 (rhV qs p k w)), rw_ E u6 12 hs]) ztF_z).symm | exact (congrArg (fun y => [rw_ E u1 10 y, rw_ E u4 8 (upd ts p (ts p + nI 1)), rw_ E u5 40 (upd (drF 40 rs) 39 (rhV qs p k w)), rw_ E u6 12 hs]) ztF_u) | exact (congrArg (fun y => [rw_ E u1 10 y, rw_ E u4 8 (upd ts p (ts p + nI 1)), rw_ E u5 40 (upd (drF 40 rs) 39 (rhV qs p k w)), rw_ E u6 12 hs]) ztF_u).symm | exact (congrArg (fun y => [rw_ E u1 10 y, rw_ E u4 8 (upd ts p (ts p + nI 1)), rw_ E u5 40 (upd (drF 40 rs) 39 (rhV qs p k w)), rw_ E u6 12 hs]) upd_upd) | exact (congrArg (fun y => [rw_ E u1 10 y, rw_ E u4 8 (upd ts p (ts p + nI 1)), rw_ E u5 40 (upd (drF 40 rs) 39 (rhV qs p k w)), rw_ E u6 12 hs]) upd_upd).symm | (simp only [c6, c6', c9, c9', oi1n, nI_add, pk_mul, bI, and_true, true_and, and_false, false_and, and_self, or_true, true_or, or_false, false_or, or_self, not_true_eq_false, not_false_eq_true, if_true, if_false, ↓reduceIte] <;> rfl)) ?_
      exact ihj7 j7_lt trivial _ (lv_sub hl [0, 1, 2, 3, 4, 5, 6, 7] (by rw [h27]; rfl))
  · skip
    exact absurd c6' hti
theorem c_L_rehearses_k (l : Launch) (E : EV) {u1 u4 u5 u6 : Nat} {qs ts rs hs : Nat → Int32} {p k : Nat} {w : Int32} {R : Nat} (hp8 : p < 8) (hk6 : k < 6) (hti : ¬ nI 3 < ts p + nI 1) (hR : qs 8 = nI R) (hR40 : R ≤ 40) : Wr l E yL_rehearses cL_rehearses 8 (some .int) 1 25 [.int (nI p), .int (nI k), .int w, .ref u1, .ref u4, .ref u5, .ref u6] ([rw_ E u1 10 qs, rw_ E u4 8 ts, rw_ E u5 40 rs, rw_ E u6 12 hs]) ([rw_ E u1 10 (upd (rhQ qs) 8 (nI (rhN R))), rw_ E u4 8 (upd ts p (ts p + nI 1)), rw_ E u5 40 (rhR rs R (rhV qs p k w)), rw_ E u6 12 hs]) (some (.int (nI 1))) := by
  by_cases e : R < 40
  · have h := c_L_rehearses_b l E (u1 := u1) (u4 := u4) (u5 := u5) (u6 := u6) (qs := qs) (ts := ts) (rs := rs) (hs := hs) (w := w) hp8 hk6 hti hR e
    unfold rhN rhR
    rw [if_pos e, if_pos e]
    exact h
  · obtain rfl : R = 40 := by omega
    unfold rhN rhR
    rw [if_neg e, if_neg e]
    exact c_L_rehearses_c l E hp8 hk6 hti hR
