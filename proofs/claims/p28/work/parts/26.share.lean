set_option maxHeartbeats 4000000 in
set_option maxRecDepth 100000 in
theorem c_X4_shareShot (l : Launch) (E : EV) {o a1 a2 a3 a4 a5 : Nat} {n : Int32} {fk fr fs fd fe : Nat → Int32} (hnn : n = 0 ∨ vf_n64 (FP.ddiv (FP.i2d (shoC fd n.toNatClampNeg)) (FP.i2d n))) : Rd l E yX4_shareShot cX4_shareShot 1 (some .double) 3 64 [.ref o] (scO E o a1 a2 a3 a4 a5 n fk fr fs fd fe) (some (.double (shrC fd n))) := by
  refine Rd.mk0 (by decide) (Nat.le_of_ble_eq_true rfl) ?_
  intro pP eE sS mM aA bB mt cC F hr hk hE ls hl
  have hl : lv_has ls 1 [(0, .ref o)] := hl
  refine V.aload_n F dX4_shareShot_0 rfl (lv_at hl 0 rfl) ?_
  refine V.getfi F hE gX4_9 0 rfl rfl dX4_shareShot_1 (fun z1 e1 => ?_)
  refine V.if_ne (tgt := 11) F dX4_shareShot_4 (by decide) (fun c2 => ?_) (fun c2 => ?_)
  · skip
    refine V.aload_n F dX4_shareShot_11 rfl (lv_at hl 0 rfl) ?_
    refine V.rdV (q0 := 0) F hE (c_X4_shotOnes l E) (kX4_53 F.2.2.2.2 ⟨Nat.le_of_ble_eq_true rfl, Nat.le_of_ble_eq_true rfl⟩) rfl rfl [0, 1, 2, 3, 4, 5] rfl rfl hl.1 (Nat.le_of_ble_eq_true rfl) dX4_shareShot_12 rfl ?_
    refine V.topi (fun z3 e3 => ?_)
    refine V.i2d F dX4_shareShot_15 (fun z4 e4 => ?_)
    refine V.aload_n F dX4_shareShot_16 rfl (lv_at hl 0 rfl) ?_
    refine V.getfi F hE gX4_9 0 rfl rfl dX4_shareShot_17 (fun z5 e5 => ?_)
    refine V.i2d F dX4_shareShot_20 (fun z6 e6 => ?_)
    refine V.ddiv F dX4_shareShot_21 (by subst e1 e3 e4 e5 e6; exact hnn.resolve_left (by assumption)) (fun z7 e7 => ?_)
    exact V.dretR F hr hk dX4_shareShot_22 (by subst e1 e3 e4 e5 e6 e7; first | with_reducible rfl | (simp only [shrC, c2, oi1, nI_succ, bI, and_true, true_and, and_false, false_and, and_self, or_true, true_or, or_false, false_or, or_self, not_true_eq_false, not_false_eq_true, if_true, if_false, ↓reduceIte] <;> rfl) | rfl | (simp [shrC, c2, bI, oi1, nI_succ]; done))
  · skip
    refine V.dconst1 F dX4_shareShot_7 ?_
    refine V.goto (tgt := 22) F dX4_shareShot_8 (by decide) ?_
    exact V.dretR F hr hk dX4_shareShot_22 (by subst e1; first | with_reducible rfl | (simp only [shrC, eq_true c2, oi1, nI_succ, bI, and_true, true_and, and_false, false_and, and_self, or_true, true_or, or_false, false_or, or_self, not_true_eq_false, not_false_eq_true, if_true, if_false, ↓reduceIte] <;> rfl) | rfl | (simp [shrC, eq_true c2, bI, oi1, nI_succ]; done))
