set_option maxHeartbeats 4000000 in
set_option maxRecDepth 100000 in
theorem c_X4_shareShot (l : Launch) (E : EV) {o a1 a2 a3 a4 a5 : Nat} {n : Int32} {fk fr fs fd fe : Nat → Int32} (hnn : n = 0 ∨ vf_n64 (FP.ddiv (FP.i2d (shoC fd n.toNatClampNeg)) (FP.i2d n))) : Rd l E yX4_shareShot cX4_shareShot 1 (some .double) 3 64 [.ref o] (scO E o a1 a2 a3 a4 a5 n fk fr fs fd fe) (some (.double (shrC fd n))) := by
  refine Rd.mk0 (by decide) (Nat.le_of_ble_eq_true rfl) ?_
  intro pP eE sS mM aA bB mt cC F hr hk hE ls hl
  have hl : lv_has ls 1 [(0, .ref o)] := hl
  refine V.aload_n F dX4_shareShot_0 rfl (lv_at hl 0 rfl) ?_
  refine V.getfi F hE gX4_9 0 rfl rfl dX4_shareShot_1 (fun z1 e1 => ?_)
  refine V.if_ne (tgt := 11) F dX4_shareShot_4 (by decide) (fun c2 => ?_) (fun c2 => ?_)
  · skip
    refine V.aload_n F dX4_shareShot_11 rfl (lv_at hl 0 rfl) ?_
    refine V.rdV (q0 := 0) F hE (c_X4_shotOnes l E) (kX4_53 F.2.2.2.2 ⟨Nat.le_of_ble_eq_true rfl, Nat.le_of_ble_eq_true rfl⟩) rfl rfl [0, 1, 2, 3, 4, 5] rfl rfl hl.1 (Nat.le_of_ble_eq_true rfl) dX4_shareShot_12 rfl ?_
    refine V.topi (fun z3 e3 => ?_)
    refine V.i2d F dX4_shareShot_15 (fun z4 e4 => ?_)
    refine V.aload_n F dX4_shareShot_16 rfl (lv_at hl 0 rfl) ?_
    refine V.getfi F hE gX4_9 0 rfl rfl dX4_shareShot_17 (fun z5 e5 => ?_)
    refine V.i2d F dX4_shareShot_20 (fun z6 e6 => ?_)
    refine V.ddiv F dX4_shareShot_21 (by subst e1 e3 e4 e5 e6; exact hnn.resolve_left (by assumption)) (fun z7 e7 => ?_)
    exact V.dretR F hr hk dX4_shareShot_22 (by subst e1 e3 e4 e5 e6 e7; first | with_reducible rfl | (simp only [shrC, c2, oi1, nI_succ, bI, and_true, true_and, and_false, false_and, and_self, or_true, true_or, or_false, false_or, or_self, not_true_eq_false, not_false_eq_true, if_true, if_false, ↓reduceIte] <;> rfl) | rfl | (simp [shrC, c2, bI, oi1, nI_succ]; done))
  · skip
    refine V.dconst1 F dX4_shareShot_7 ?_
    refine V.goto (tgt := 22) F dX4_shareShot_8 (by decide) ?_
    exact V.dretR F hr hk dX4_shareShot_22 (by subst e1; first | with_reducible rfl | (simp only [shrC, eq_true c2, oi1, nI_succ, bI, and_true, true_and, and_false, false_and, and_self, or_true, true_or, or_false, false_or, or_self, not_true_eq_false, not_false_eq_true, if_true, if_false, ↓reduceIte] <;> rfl) | rfl | (simp [shrC, eq_true c2, bI, oi1, nI_succ]; done))
set_option maxHeartbeats 4000000 in
set_option maxRecDepth 100000 in
theorem c_X6_bitsOfShare (l : Launch) (E : EV) {x : UInt64} (hb : bsOK x) : Rd l E yX6_bitsOfShare cX6_bitsOfShare 7 (some .long) 0 0 [.double x] ([]) (some (.long (bsC x))) := by
  refine Rd.mk0 (by decide) (Nat.le_of_ble_eq_true rfl) ?_
  intro pP eE sS mM aA bB mt cC F hr hk hE ls hl
  have hl : lv_has ls 7 [(0, .double x)] := hl
  refine V.dload_n F dX6_bitsOfShare_0 rfl (lv_at hl 0 rfl) ?_
  refine V.dconst0 F dX6_bitsOfShare_1 ?_
  refine V.dcmp F dX6_bitsOfShare_2 (fun z1 e1 => ?_)
  refine V.if_gt (tgt := 8) F dX6_bitsOfShare_3 (by decide) (fun c2 c2' => ?_) (fun c2 c2' => ?_)
  · skip
    refine V.dload_n F dX6_bitsOfShare_8 rfl (lv_at hl 0 rfl) ?_
    refine V.dstore_n (lv' := [(2, .double x), (0, .double x)]) F dX6_bitsOfShare_9 rfl hl (by decide) rfl (fun ls hl => ?_)
    refine V.ldc2 F lX6_226 dX6_bitsOfShare_10 ?_
    refine V.lstore (lv' := [(4, .long 1023), (2, .double x), (0, .double x)]) F dX6_bitsOfShare_13 hl (by decide) rfl (fun ls hl => ?_)
    refine V.iconst (v := 0) F dX6_bitsOfShare_15 (by decide) ?_
    refine V.istore (lv' := [(6, .int 0), (4, .long 1023), (2, .double x), (0, .double x)]) F dX6_bitsOfShare_16 hl (by decide) rfl (fun ls hl => ?_)
    have h5 : nI 0 = 0 := (by subst e1; first | with_reducible rfl | (simp only [oi1, nI_succ]; done) | rfl)
    have h6 : bfr x 0 = x := (by subst e1; first | with_reducible rfl | (simp only [oi1, nI_succ]; done) | rfl)
    have h7 : bex 0 = 1023 := (by subst e1; first | with_reducible rfl | (simp only [oi1, nI_succ]; done) | rfl)
    refine V.loop (N := 64) (k0 := 0) (I := (fun j4 : Nat => [(6, .int (nI j4)), (4, .long (bex j4)), (2, .double (bfr x j4)), (0, .double x)])) (J := fun j4 : Nat => bsE x 64 0 = bsE x (64 - j4) j4) (Nat.zero_le _) rfl (lv_sub hl [0, 1, 2, 3] (by rw [h5, h6, h7]; rfl)) ?_
    intro j4 j4_N j4_J ihj4 ls hl
    have hl : lv_has ls 7 [(6, .int (nI j4)), (4, .long (bex j4)), (2, .double (bfr x j4)), (0, .double x)] := hl
    try dsimp only at j4_J ihj4 ⊢
    refine V.iload F dX6_bitsOfShare_18 (lv_at hl 0 rfl) ?_
    refine V.bipush (v := 64) F dX6_bitsOfShare_20 (by decide) ?_
    refine V.icmp_ge (tgt := 49) F dX6_bitsOfShare_22 (by decide) (fun c8 c8' => ?_) (fun c8 c8' => ?_)
    · skip
      have j4_eq := ((lpL (by rfl) (by decide) j4_N).1 c8).symm
      subst j4_eq
      have hK : bsE x 64 0 = 64 := j4_J.trans rfl
      refine V.lload F dX6_bitsOfShare_49 (lv_at hl 1 rfl) ?_
      refine V.bipush (v := 52) F dX6_bitsOfShare_51 (by decide) ?_
      refine V.lshl F dX6_bitsOfShare_53 (fun z9 e9 => ?_)
      refine V.dload_n F dX6_bitsOfShare_54 rfl (lv_at hl 2 rfl) ?_
      refine V.dconst1 F dX6_bitsOfShare_55 ?_
      refine V.dsub F dX6_bitsOfShare_56 (by have q := hb.2.1; rw [hK] at q; exact q) (fun z10 e10 => ?_)
      refine V.ldc2d F lX6_230 dX6_bitsOfShare_57 ?_
      refine V.dmul F dX6_bitsOfShare_60 (by have q := hb.2.2; rw [hK] at q; subst e10; exact q) (fun z12 e12 => ?_)
      refine V.d2l F dX6_bitsOfShare_61 (fun z13 e13 => ?_)
      refine V.ladd F dX6_bitsOfShare_62 (fun z14 e14 => ?_)
      exact V.lretR F hr hk dX6_bitsOfShare_63 (by subst e1 e9 e10 e12 e13 e14; exact (bsC_pos c2 hK).symm)
    · skip
      have j4_lt := (lpL (by rfl) (by decide) j4_N).2 c8
      refine V.dload_n F dX6_bitsOfShare_25 rfl (lv_at hl 2 rfl) ?_
      refine V.dconst1 F dX6_bitsOfShare_26 ?_
      refine V.dcmp F dX6_bitsOfShare_27 (fun z15 e15 => ?_)
      refine V.if_ge (tgt := 49) F dX6_bitsOfShare_28 (by decide) (fun c16 c16' => ?_) (fun c16 c16' => ?_)
      · skip
        have hK : bsE x 64 0 = j4 := j4_J.trans (bsE_r j4_lt (by rw [← e15]; exact c16'))
        refine V.lload F dX6_bitsOfShare_49 (lv_at hl 1 rfl) ?_
        refine V.bipush (v := 52) F dX6_bitsOfShare_51 (by decide) ?_
        refine V.lshl F dX6_bitsOfShare_53 (fun z17 e17 => ?_)
        refine V.dload_n F dX6_bitsOfShare_54 rfl (lv_at hl 2 rfl) ?_
        refine V.dconst1 F dX6_bitsOfShare_55 ?_
        refine V.dsub F dX6_bitsOfShare_56 (by have q := hb.2.1; rw [hK] at q; exact q) (fun z18 e18 => ?_)
        refine V.ldc2d F lX6_230 dX6_bitsOfShare_57 ?_
        refine V.dmul F dX6_bitsOfShare_60 (by have q := hb.2.2; rw [hK] at q; subst e18; exact q) (fun z20 e20 => ?_)
        refine V.d2l F dX6_bitsOfShare_61 (fun z21 e21 => ?_)
        refine V.ladd F dX6_bitsOfShare_62 (fun z22 e22 => ?_)
        exact V.lretR F hr hk dX6_bitsOfShare_63 (by subst e1 e15 e17 e18 e20 e21 e22; exact (bsC_pos c2 hK).symm)
      · skip
        have hS : bsE x 64 0 = bsE x (64 - (j4 + 1)) (j4 + 1) := j4_J.trans (bsE_s j4_lt (by rw [← e15]; exact c16'))
        refine V.dload_n F dX6_bitsOfShare_31 rfl (lv_at hl 2 rfl) ?_
        refine V.ldc2d F lX6_228 dX6_bitsOfShare_32 ?_
        refine V.dmul F dX6_bitsOfShare_35 (hb.1 _ (by rw [hS]; exact bsE_ge _ _ _)) (fun z24 e24 => ?_)
        refine V.dstore_n (lv' := [(2, .double z24), (6, .int (nI j4)), (4, .long (bex j4)), (0, .double x)]) F dX6_bitsOfShare_36 rfl hl (by decide) rfl (fun ls hl => ?_)
        refine V.lload F dX6_bitsOfShare_37 (lv_at hl 2 rfl) ?_
        refine V.lconst (v := 1) F dX6_bitsOfShare_39 (by decide) ?_
        refine V.lsub F dX6_bitsOfShare_40 (fun z25 e25 => ?_)
        refine V.lstore (lv' := [(4, .long z25), (2, .double z24), (6, .int (nI j4)), (0, .double x)]) F dX6_bitsOfShare_41 hl (by decide) rfl (fun ls hl => ?_)
        refine V.iinc (j := 2) (lv' := fun z26 => [(6, .int z26), (4, .long z25), (2, .double z24), (0, .double x)]) F dX6_bitsOfShare_43 hl rfl (by decide) (fun _ => rfl) (fun z26 e26 ls hl => ?_)
        refine V.goto (tgt := 18) F dX6_bitsOfShare_46 (by decide) ?_
        have h27 : nI (j4 + 1) = z26 := (by subst e1 e15 e24 e25 e26; first | with_reducible rfl | (simp only [oi1, nI_succ]; done) | rfl)
        have h28 : bfr x (j4 + 1) = z24 := (by subst e1 e15 e24 e25 e26; first | with_reducible rfl | (simp only [oi1, nI_succ]; done) | rfl)
        have h29 : bex (j4 + 1) = z25 := (by subst e1 e15 e24 e25 e26; first | with_reducible rfl | (simp only [oi1, nI_succ]; done) | rfl)
        exact ihj4 j4_lt hS _ (lv_sub hl [0, 1, 2, 3] (by rw [h27, h28, h29]; rfl))
  · skip
    refine V.lconst (v := 0) F dX6_bitsOfShare_6 (by decide) ?_
    exact V.lretR F hr hk dX6_bitsOfShare_7 (by subst e1; exact (bsC_neg c2).symm)
