set_option maxHeartbeats 4000000 in
set_option maxRecDepth 100000 in
theorem c_X6_copyRow (l : Launch) (E : EV) {a b N : Nat} {f g : Nat → Int32} (hNN : N < 2 ^ 31) : Wr l E yX6_copyRow cX6_copyRow 3 none 0 0 [.ref a, .ref b] ([rw_ E a N f, rw_ E b N g]) ([rw_ E a N f, rw_ E b N f]) none := by
  refine Wr.mk0 (by decide) (Nat.le_of_ble_eq_true rfl) ?_
  intro pP eE sS mM aA bB mt cC F hr hk hE hN ls hl
  have hl : lv_has ls 3 [(0, .ref a), (1, .ref b)] := hl
  refine V.aload_n F dX6_copyRow_0 rfl (lv_at hl 0 rfl) ?_
  refine V.ifnull F dX6_copyRow_1 ?_
  refine V.aload_n F dX6_copyRow_4 rfl (lv_at hl 1 rfl) ?_
  refine V.ifnonnull (tgt := 9) F dX6_copyRow_5 (by decide) ?_
  refine V.iconst (v := 0) F dX6_copyRow_9 (by decide) ?_
  refine V.istore_n (lv' := [(2, .int 0), (0, .ref a), (1, .ref b)]) F dX6_copyRow_10 rfl hl (by decide) rfl (fun ls hl => ?_)
  have h2 : nI 0 = 0 := (by first | rfl | (simp only [oi1, nI_succ]; done) | (exact congrArg (fun x => [rw_ E a N f, rw_ E b N x]) (cpF_s (by assumption) hNN)) | (refine congrArg (fun x => [rw_ E a N f, rw_ E b N x]) ?_; funext t; simp only [cpF, Nat.not_lt_zero, if_false]; done))
  refine V.weq (ws' := [rw_ E a N f, rw_ E b N (cpF f g 0)]) (by first | rfl | (simp only [oi1, nI_succ]; done) | (exact congrArg (fun x => [rw_ E a N f, rw_ E b N x]) (cpF_s (by assumption) hNN)) | (refine congrArg (fun x => [rw_ E a N f, rw_ E b N x]) ?_; funext t; simp only [cpF, Nat.not_lt_zero, if_false]; done)) ?_
  refine V.loopW (Wd := fun j1 : Nat => [rw_ E a N f, rw_ E b N (cpF f g j1)]) (N := N) (k0 := 0) (I := (fun j1 : Nat => [(2, .int (nI j1)), (0, .ref a), (1, .ref b)])) (J := fun _ => True) (Nat.zero_le _) trivial (lv_sub hl [0, 1, 2] (by rw [h2]; rfl)) ?_
  intro j1 j1_N j1_J ihj1 ls hl
  have hl : lv_has ls 3 [(2, .int (nI j1)), (0, .ref a), (1, .ref b)] := hl
  try dsimp only at j1_J ihj1 ⊢
  refine V.iload_n F dX6_copyRow_11 rfl (lv_at hl 0 rfl) ?_
  refine V.aload_n F dX6_copyRow_12 rfl (lv_at hl 1 rfl) ?_
  refine V.alen F hE 0 rfl dX6_copyRow_13 (fun z3 e3 => ?_)
  refine V.icmp_ge (tgt := 35) F dX6_copyRow_14 (by decide) (fun c4 c4' => ?_) (fun c4 c4' => ?_)
  · skip
    have j1_eq := ((lpL rfl hNN j1_N).1 (by rw [e3] at c4; exact c4)).symm
    subst j1_eq
    refine V.cell 1 rfl (f' := f) (fun j hj => if_pos hj) rfl ?_
    exact V.vretW F hr hk dX6_copyRow_35 (by subst e3; first | rfl | (simp only [oi1, nI_succ]; done) | (exact congrArg (fun x => [rw_ E a N f, rw_ E b N x]) (cpF_s (by assumption) hNN)) | (refine congrArg (fun x => [rw_ E a N f, rw_ E b N x]) ?_; funext t; simp only [cpF, Nat.not_lt_zero, if_false]; done))
  · skip
    have j1_lt := (lpL rfl hNN j1_N).2 (by rw [e3] at c4; exact c4)
    refine V.iload_n F dX6_copyRow_17 rfl (lv_at hl 0 rfl) ?_
    refine V.aload_n F dX6_copyRow_18 rfl (lv_at hl 2 rfl) ?_
    refine V.alen F hE 1 rfl dX6_copyRow_19 (fun z5 e5 => ?_)
    refine V.icmp_ge (tgt := 35) F dX6_copyRow_20 (by decide) (fun c6 c6' => ?_) (fun c6 c6' => ?_)
    · skip
      have j1_eq := ((lpL rfl hNN j1_N).1 (by rw [e5] at c6; exact c6)).symm
      subst j1_eq
      refine V.cell 1 rfl (f' := f) (fun j hj => if_pos hj) rfl ?_
      exact V.vretW F hr hk dX6_copyRow_35 (by subst e3 e5; first | rfl | (simp only [oi1, nI_succ]; done) | (exact congrArg (fun x => [rw_ E a N f, rw_ E b N x]) (cpF_s (by assumption) hNN)) | (refine congrArg (fun x => [rw_ E a N f, rw_ E b N x]) ?_; funext t; simp only [cpF, Nat.not_lt_zero, if_false]; done))
    · skip
      have j1_lt := (lpL rfl hNN j1_N).2 (by rw [e5] at c6; exact c6)
      refine V.aload_n F dX6_copyRow_23 rfl (lv_at hl 2 rfl) ?_
      refine V.iload_n F dX6_copyRow_24 rfl (lv_at hl 0 rfl) ?_
      refine V.aload_n F dX6_copyRow_25 rfl (lv_at hl 1 rfl) ?_
      refine V.iload_n F dX6_copyRow_26 rfl (lv_at hl 0 rfl) ?_
      refine V.iald F hE 0 rfl (by subst e3 e5; exact vp_in_nI (by assumption) hNN) dX6_copyRow_27 (fun z7 e7 => ?_)
      refine V.iast F hE hN (by rfl) 1 rfl (by subst e3 e5 e7; exact vp_in_nI (by assumption) hNN) dX6_copyRow_28 rfl ?_
      refine V.iinc (j := 0) (lv' := fun z8 => [(2, .int z8), (0, .ref a), (1, .ref b)]) F dX6_copyRow_29 hl rfl (by decide) (fun _ => rfl) (fun z8 e8 ls hl => ?_)
      refine V.goto (tgt := 11) F dX6_copyRow_32 (by decide) ?_
      have h9 : nI (j1 + 1) = z8 := (by subst e3 e5 e7 e8; first | rfl | (simp only [oi1, nI_succ]; done) | (exact congrArg (fun x => [rw_ E a N f, rw_ E b N x]) (cpF_s (by assumption) hNN)) | (refine congrArg (fun x => [rw_ E a N f, rw_ E b N x]) ?_; funext t; simp only [cpF, Nat.not_lt_zero, if_false]; done))
      refine V.weq (ws' := [rw_ E a N f, rw_ E b N (cpF f g (j1 + 1))]) (by subst e3 e5 e7 e8; first | rfl | (simp only [oi1, nI_succ]; done) | (exact congrArg (fun x => [rw_ E a N f, rw_ E b N x]) (cpF_s (by assumption) hNN)) | (refine congrArg (fun x => [rw_ E a N f, rw_ E b N x]) ?_; funext t; simp only [cpF, Nat.not_lt_zero, if_false]; done)) ?_
      exact ihj1 j1_lt trivial _ (lv_sub hl [0, 1, 2] (by rw [h9]; rfl))
set_option maxHeartbeats 4000000 in
set_option maxRecDepth 100000 in
theorem c_X6_dropFirst (l : Launch) (E : EV) {a N : Nat} {f : Nat → Int32} (hNN : N < 2 ^ 31) : Wr l E yX6_dropFirst cX6_dropFirst 2 none 0 0 [.ref a] ([rw_ E a N f]) ([rw_ E a N (drF N f)]) none := by
  refine Wr.mk0 (by decide) (Nat.le_of_ble_eq_true rfl) ?_
  intro pP eE sS mM aA bB mt cC F hr hk hE hN ls hl
  have hl : lv_has ls 2 [(0, .ref a)] := hl
  refine V.aload_n F dX6_dropFirst_0 rfl (lv_at hl 0 rfl) ?_
  refine V.ifnonnull (tgt := 5) F dX6_dropFirst_1 (by decide) ?_
  refine V.iconst (v := 0) F dX6_dropFirst_5 (by decide) ?_
  refine V.istore_n (lv' := [(1, .int 0), (0, .ref a)]) F dX6_dropFirst_6 rfl hl (by decide) rfl (fun ls hl => ?_)
  have h2 : nI 0 = 0 := (by first | rfl | (simp only [oi1, nI_succ]; done) | (exact congrArg (fun x => [rw_ E a N x]) (drK_s (by assumption) hNN)) | (refine congrArg (fun x => [rw_ E a N x]) ?_; funext t; simp only [drK, Nat.not_lt_zero, if_false]; done))
  refine V.weq (ws' := [rw_ E a N (drK f 0)]) (by first | rfl | (simp only [oi1, nI_succ]; done) | (exact congrArg (fun x => [rw_ E a N x]) (drK_s (by assumption) hNN)) | (refine congrArg (fun x => [rw_ E a N x]) ?_; funext t; simp only [drK, Nat.not_lt_zero, if_false]; done)) ?_
  refine V.loopW (Wd := fun j1 : Nat => [rw_ E a N (drK f j1)]) (N := N - 1) (k0 := 0) (I := (fun j1 : Nat => [(1, .int (nI j1)), (0, .ref a)])) (J := fun _ => True) (Nat.zero_le _) trivial (lv_sub hl [0, 1] (by rw [h2]; rfl)) ?_
  intro j1 j1_N j1_J ihj1 ls hl
  have hl : lv_has ls 2 [(1, .int (nI j1)), (0, .ref a)] := hl
  try dsimp only at j1_J ihj1 ⊢
  refine V.iload_n F dX6_dropFirst_7 rfl (lv_at hl 0 rfl) ?_
  refine V.iconst (v := 1) F dX6_dropFirst_8 (by decide) ?_
  refine V.iadd F dX6_dropFirst_9 (fun z3 e3 => ?_)
  refine V.aload_n F dX6_dropFirst_10 rfl (lv_at hl 1 rfl) ?_
  refine V.alen F hE 0 rfl dX6_dropFirst_11 (fun z4 e4 => ?_)
  refine V.icmp_ge (tgt := 29) F dX6_dropFirst_12 (by decide) (fun c5 c5' => ?_) (fun c5 c5' => ?_)
  · skip
    rw [e4] at c5
    have j1_eq := ((lpD hNN j1_N e3).1 c5).symm
    subst j1_eq
    exact V.vretW F hr hk dX6_dropFirst_29 (by subst e3 e4; first | rfl | (simp only [oi1, nI_succ]; done) | (exact congrArg (fun x => [rw_ E a N x]) (drK_s (by assumption) hNN)) | (refine congrArg (fun x => [rw_ E a N x]) ?_; funext t; simp only [drK, Nat.not_lt_zero, if_false]; done))
  · skip
    rw [e4] at c5
    have j1_lt := (lpD hNN j1_N e3).2 c5
    refine V.aload_n F dX6_dropFirst_15 rfl (lv_at hl 1 rfl) ?_
    refine V.iload_n F dX6_dropFirst_16 rfl (lv_at hl 0 rfl) ?_
    refine V.aload_n F dX6_dropFirst_17 rfl (lv_at hl 1 rfl) ?_
    refine V.iload_n F dX6_dropFirst_18 rfl (lv_at hl 0 rfl) ?_
    refine V.iconst (v := 1) F dX6_dropFirst_19 (by decide) ?_
    refine V.iadd F dX6_dropFirst_20 (fun z6 e6 => ?_)
    refine V.iald F hE 0 rfl (by subst e3 e4 e6; exact drK_in (f := f) (by assumption) hNN) dX6_dropFirst_21 (fun z7 e7 => ?_)
    refine V.iast F hE hN (by rfl) 0 rfl (vp_in_nI (by omega) hNN) dX6_dropFirst_22 rfl ?_
    refine V.iinc (j := 0) (lv' := fun z8 => [(1, .int z8), (0, .ref a)]) F dX6_dropFirst_23 hl rfl (by decide) (fun _ => rfl) (fun z8 e8 ls hl => ?_)
    refine V.goto (tgt := 7) F dX6_dropFirst_26 (by decide) ?_
    have h9 : nI (j1 + 1) = z8 := (by subst e3 e4 e6 e7 e8; first | rfl | (simp only [oi1, nI_succ]; done) | (exact congrArg (fun x => [rw_ E a N x]) (drK_s (by assumption) hNN)) | (refine congrArg (fun x => [rw_ E a N x]) ?_; funext t; simp only [drK, Nat.not_lt_zero, if_false]; done))
    refine V.weq (ws' := [rw_ E a N (drK f (j1 + 1))]) (by subst e3 e4 e6 e7 e8; first | rfl | (simp only [oi1, nI_succ]; done) | (exact congrArg (fun x => [rw_ E a N x]) (drK_s (by assumption) hNN)) | (refine congrArg (fun x => [rw_ E a N x]) ?_; funext t; simp only [drK, Nat.not_lt_zero, if_false]; done)) ?_
    exact ihj1 j1_lt trivial _ (lv_sub hl [0, 1] (by rw [h9]; rfl))
set_option maxHeartbeats 4000000 in
set_option maxRecDepth 100000 in
theorem c_X2_copyFrom (l : Launch) (E : EV) {o a1 a2 a3 a4 : Nat} {n : Int32} {fp fk fr fd : Nat → Int32} {u b1 b2 b3 b4 : Nat} {m : Int32} {gp gk gr gd : Nat → Int32} : Wr l E yX2_copyFrom cX2_copyFrom 2 none 1 22 [.ref o, .ref u] (reO E o a1 a2 a3 a4 n fp fk fr fd ++ reO E u b1 b2 b3 b4 m gp gk gr gd) (reO E o a1 a2 a3 a4 m gp gk gr gd ++ reO E u b1 b2 b3 b4 m gp gk gr gd) none := by
  refine Wr.mk0 (by decide) (Nat.le_of_ble_eq_true rfl) ?_
  intro pP eE sS mM aA bB mt cC F hr hk hE hN ls hl
  have hl : lv_has ls 2 [(0, .ref o), (1, .ref u)] := hl
  refine V.aload_n F dX2_copyFrom_0 rfl (lv_at hl 1 rfl) ?_
  refine V.ifnonnull (tgt := 5) F dX2_copyFrom_1 (by decide) ?_
  refine V.aload_n F dX2_copyFrom_5 rfl (lv_at hl 0 rfl) ?_
  refine V.aload_n F dX2_copyFrom_6 rfl (lv_at hl 1 rfl) ?_
  refine V.getfi F hE gX2_9 5 rfl rfl dX2_copyFrom_7 (fun z1 e1 => ?_)
  refine V.putf F hE hN (by rfl) pX2_9 rfl rfl 0 rfl (by exact Nat.le_of_ble_eq_true rfl) dX2_copyFrom_10 rfl ?_
  refine V.aload_n F dX2_copyFrom_13 rfl (lv_at hl 1 rfl) ?_
  refine V.getf F hE gX2_15 5 rfl rfl dX2_copyFrom_14 ?_
  refine V.aload_n F dX2_copyFrom_17 rfl (lv_at hl 0 rfl) ?_
  refine V.getf F hE gX2_15 0 rfl rfl dX2_copyFrom_18 ?_
  refine V.wrSNn F hE hN (by rfl) (c_X6_copyRow l E (by first | assumption | omega)) (kX2_43 F.2.2.2.2 hE.2.1 ⟨Nat.le_of_ble_eq_true rfl, Nat.le_of_ble_eq_true rfl⟩) [6, 1] rfl (by decide) rfl rfl rfl hl.1 (by exact Nat.le_of_ble_eq_true rfl) dX2_copyFrom_21 rfl ?_
  refine V.aload_n F dX2_copyFrom_24 rfl (lv_at hl 1 rfl) ?_
  refine V.getf F hE gX2_19 5 rfl rfl dX2_copyFrom_25 ?_
  refine V.aload_n F dX2_copyFrom_28 rfl (lv_at hl 0 rfl) ?_
  refine V.getf F hE gX2_19 0 rfl rfl dX2_copyFrom_29 ?_
  refine V.wrSNn F hE hN (by rfl) (c_X6_copyRow l E (by first | assumption | omega)) (kX2_43 F.2.2.2.2 hE.2.1 ⟨Nat.le_of_ble_eq_true rfl, Nat.le_of_ble_eq_true rfl⟩) [7, 2] rfl (by decide) rfl rfl rfl hl.1 (by exact Nat.le_of_ble_eq_true rfl) dX2_copyFrom_32 rfl ?_
  refine V.aload_n F dX2_copyFrom_35 rfl (lv_at hl 1 rfl) ?_
  refine V.getf F hE gX2_22 5 rfl rfl dX2_copyFrom_36 ?_
  refine V.aload_n F dX2_copyFrom_39 rfl (lv_at hl 0 rfl) ?_
  refine V.getf F hE gX2_22 0 rfl rfl dX2_copyFrom_40 ?_
  refine V.wrSNn F hE hN (by rfl) (c_X6_copyRow l E (by first | assumption | omega)) (kX2_43 F.2.2.2.2 hE.2.1 ⟨Nat.le_of_ble_eq_true rfl, Nat.le_of_ble_eq_true rfl⟩) [8, 3] rfl (by decide) rfl rfl rfl hl.1 (by exact Nat.le_of_ble_eq_true rfl) dX2_copyFrom_43 rfl ?_
  refine V.aload_n F dX2_copyFrom_46 rfl (lv_at hl 1 rfl) ?_
  refine V.getf F hE gX2_25 5 rfl rfl dX2_copyFrom_47 ?_
  refine V.aload_n F dX2_copyFrom_50 rfl (lv_at hl 0 rfl) ?_
  refine V.getf F hE gX2_25 0 rfl rfl dX2_copyFrom_51 ?_
  refine V.wrSNn F hE hN (by rfl) (c_X6_copyRow l E (by first | assumption | omega)) (kX2_43 F.2.2.2.2 hE.2.1 ⟨Nat.le_of_ble_eq_true rfl, Nat.le_of_ble_eq_true rfl⟩) [9, 4] rfl (by decide) rfl rfl rfl hl.1 (by exact Nat.le_of_ble_eq_true rfl) dX2_copyFrom_54 rfl ?_
  exact V.vretW F hr hk dX2_copyFrom_57 (by subst e1; first | rfl | (simp only [oi1, nI_succ, bI, and_true, true_and, and_false, false_and, and_self, or_true, true_or, or_false, false_or, or_self, not_true_eq_false, not_false_eq_true, if_true, if_false, ↓reduceIte] <;> rfl) | (simp [bI, oi1, nI_succ]; done))
set_option maxHeartbeats 4000000 in
set_option maxRecDepth 100000 in
theorem c_X0_copyFrom (l : Launch) (E : EV) {o a1 a2 a3 : Nat} {n : Int32} {fp fa fl : Nat → Int32} {u b1 b2 b3 : Nat} {m : Int32} {gp ga gl : Nat → Int32} : Wr l E yX0_copyFrom cX0_copyFrom 2 none 1 22 [.ref o, .ref u] (inO E o a1 a2 a3 n fp fa fl ++ inO E u b1 b2 b3 m gp ga gl) (inO E o a1 a2 a3 m gp ga gl ++ inO E u b1 b2 b3 m gp ga gl) none := by
  refine Wr.mk0 (by decide) (Nat.le_of_ble_eq_true rfl) ?_
  intro pP eE sS mM aA bB mt cC F hr hk hE hN ls hl
  have hl : lv_has ls 2 [(0, .ref o), (1, .ref u)] := hl
  refine V.aload_n F dX0_copyFrom_0 rfl (lv_at hl 1 rfl) ?_
  refine V.ifnonnull (tgt := 5) F dX0_copyFrom_1 (by decide) ?_
  refine V.aload_n F dX0_copyFrom_5 rfl (lv_at hl 0 rfl) ?_
  refine V.aload_n F dX0_copyFrom_6 rfl (lv_at hl 1 rfl) ?_
  refine V.getfi F hE gX0_9 4 rfl rfl dX0_copyFrom_7 (fun z1 e1 => ?_)
  refine V.putf F hE hN (by rfl) pX0_9 rfl rfl 0 rfl (by exact Nat.le_of_ble_eq_true rfl) dX0_copyFrom_10 rfl ?_
  refine V.aload_n F dX0_copyFrom_13 rfl (lv_at hl 1 rfl) ?_
  refine V.getf F hE gX0_15 4 rfl rfl dX0_copyFrom_14 ?_
  refine V.aload_n F dX0_copyFrom_17 rfl (lv_at hl 0 rfl) ?_
  refine V.getf F hE gX0_15 0 rfl rfl dX0_copyFrom_18 ?_
  refine V.wrSNn F hE hN (by rfl) (c_X6_copyRow l E (by first | assumption | omega)) (kX0_37 F.2.2.2.2 hE.2.1 ⟨Nat.le_of_ble_eq_true rfl, Nat.le_of_ble_eq_true rfl⟩) [5, 1] rfl (by decide) rfl rfl rfl hl.1 (by exact Nat.le_of_ble_eq_true rfl) dX0_copyFrom_21 rfl ?_
  refine V.aload_n F dX0_copyFrom_24 rfl (lv_at hl 1 rfl) ?_
  refine V.getf F hE gX0_19 4 rfl rfl dX0_copyFrom_25 ?_
  refine V.aload_n F dX0_copyFrom_28 rfl (lv_at hl 0 rfl) ?_
  refine V.getf F hE gX0_19 0 rfl rfl dX0_copyFrom_29 ?_
  refine V.wrSNn F hE hN (by rfl) (c_X6_copyRow l E (by first | assumption | omega)) (kX0_37 F.2.2.2.2 hE.2.1 ⟨Nat.le_of_ble_eq_true rfl, Nat.le_of_ble_eq_true rfl⟩) [6, 2] rfl (by decide) rfl rfl rfl hl.1 (by exact Nat.le_of_ble_eq_true rfl) dX0_copyFrom_32 rfl ?_
  refine V.aload_n F dX0_copyFrom_35 rfl (lv_at hl 1 rfl) ?_
  refine V.getf F hE gX0_22 4 rfl rfl dX0_copyFrom_36 ?_
  refine V.aload_n F dX0_copyFrom_39 rfl (lv_at hl 0 rfl) ?_
  refine V.getf F hE gX0_22 0 rfl rfl dX0_copyFrom_40 ?_
  refine V.wrSNn F hE hN (by rfl) (c_X6_copyRow l E (by first | assumption | omega)) (kX0_37 F.2.2.2.2 hE.2.1 ⟨Nat.le_of_ble_eq_true rfl, Nat.le_of_ble_eq_true rfl⟩) [7, 3] rfl (by decide) rfl rfl rfl hl.1 (by exact Nat.le_of_ble_eq_true rfl) dX0_copyFrom_43 rfl ?_
  exact V.vretW F hr hk dX0_copyFrom_46 (by subst e1; first | rfl | (simp only [oi1, nI_succ, bI, and_true, true_and, and_false, false_and, and_self, or_true, true_or, or_false, false_or, or_self, not_true_eq_false, not_false_eq_true, if_true, if_false, ↓reduceIte] <;> rfl) | (simp [bI, oi1, nI_succ]; done))
set_option maxHeartbeats 4000000 in
set_option maxRecDepth 100000 in
theorem c_X4_copyFrom (l : Launch) (E : EV) {o a1 a2 a3 a4 a5 : Nat} {n : Int32} {fk fr fs fd fe : Nat → Int32} {u b1 b2 b3 b4 b5 : Nat} {m : Int32} {gk gr gs gd ge : Nat → Int32} : Wr l E yX4_copyFrom cX4_copyFrom 2 none 1 22 [.ref o, .ref u] (scO E o a1 a2 a3 a4 a5 n fk fr fs fd fe ++ scO E u b1 b2 b3 b4 b5 m gk gr gs gd ge) (scO E o a1 a2 a3 a4 a5 m gk gr gs gd ge ++ scO E u b1 b2 b3 b4 b5 m gk gr gs gd ge) none := by
  refine Wr.mk0 (by decide) (Nat.le_of_ble_eq_true rfl) ?_
  intro pP eE sS mM aA bB mt cC F hr hk hE hN ls hl
  have hl : lv_has ls 2 [(0, .ref o), (1, .ref u)] := hl
  refine V.aload_n F dX4_copyFrom_0 rfl (lv_at hl 1 rfl) ?_
  refine V.ifnonnull (tgt := 5) F dX4_copyFrom_1 (by decide) ?_
  refine V.aload_n F dX4_copyFrom_5 rfl (lv_at hl 0 rfl) ?_
  refine V.aload_n F dX4_copyFrom_6 rfl (lv_at hl 1 rfl) ?_
  refine V.getfi F hE gX4_9 6 rfl rfl dX4_copyFrom_7 (fun z1 e1 => ?_)
  refine V.putf F hE hN (by rfl) pX4_9 rfl rfl 0 rfl (by exact Nat.le_of_ble_eq_true rfl) dX4_copyFrom_10 rfl ?_
  refine V.aload_n F dX4_copyFrom_13 rfl (lv_at hl 1 rfl) ?_
  refine V.getf F hE gX4_15 6 rfl rfl dX4_copyFrom_14 ?_
  refine V.aload_n F dX4_copyFrom_17 rfl (lv_at hl 0 rfl) ?_
  refine V.getf F hE gX4_15 0 rfl rfl dX4_copyFrom_18 ?_
  refine V.wrSNn F hE hN (by rfl) (c_X6_copyRow l E (by first | assumption | omega)) (kX4_57 F.2.2.2.2 hE.2.1 ⟨Nat.le_of_ble_eq_true rfl, Nat.le_of_ble_eq_true rfl⟩) [7, 1] rfl (by decide) rfl rfl rfl hl.1 (by exact Nat.le_of_ble_eq_true rfl) dX4_copyFrom_21 rfl ?_
  refine V.aload_n F dX4_copyFrom_24 rfl (lv_at hl 1 rfl) ?_
  refine V.getf F hE gX4_19 6 rfl rfl dX4_copyFrom_25 ?_
  refine V.aload_n F dX4_copyFrom_28 rfl (lv_at hl 0 rfl) ?_
  refine V.getf F hE gX4_19 0 rfl rfl dX4_copyFrom_29 ?_
  refine V.wrSNn F hE hN (by rfl) (c_X6_copyRow l E (by first | assumption | omega)) (kX4_57 F.2.2.2.2 hE.2.1 ⟨Nat.le_of_ble_eq_true rfl, Nat.le_of_ble_eq_true rfl⟩) [8, 2] rfl (by decide) rfl rfl rfl hl.1 (by exact Nat.le_of_ble_eq_true rfl) dX4_copyFrom_32 rfl ?_
  refine V.aload_n F dX4_copyFrom_35 rfl (lv_at hl 1 rfl) ?_
  refine V.getf F hE gX4_22 6 rfl rfl dX4_copyFrom_36 ?_
  refine V.aload_n F dX4_copyFrom_39 rfl (lv_at hl 0 rfl) ?_
  refine V.getf F hE gX4_22 0 rfl rfl dX4_copyFrom_40 ?_
  refine V.wrSNn F hE hN (by rfl) (c_X6_copyRow l E (by first | assumption | omega)) (kX4_57 F.2.2.2.2 hE.2.1 ⟨Nat.le_of_ble_eq_true rfl, Nat.le_of_ble_eq_true rfl⟩) [9, 3] rfl (by decide) rfl rfl rfl hl.1 (by exact Nat.le_of_ble_eq_true rfl) dX4_copyFrom_43 rfl ?_
  refine V.aload_n F dX4_copyFrom_46 rfl (lv_at hl 1 rfl) ?_
  refine V.getf F hE gX4_25 6 rfl rfl dX4_copyFrom_47 ?_
  refine V.aload_n F dX4_copyFrom_50 rfl (lv_at hl 0 rfl) ?_
  refine V.getf F hE gX4_25 0 rfl rfl dX4_copyFrom_51 ?_
  refine V.wrSNn F hE hN (by rfl) (c_X6_copyRow l E (by first | assumption | omega)) (kX4_57 F.2.2.2.2 hE.2.1 ⟨Nat.le_of_ble_eq_true rfl, Nat.le_of_ble_eq_true rfl⟩) [10, 4] rfl (by decide) rfl rfl rfl hl.1 (by exact Nat.le_of_ble_eq_true rfl) dX4_copyFrom_54 rfl ?_
  refine V.aload_n F dX4_copyFrom_57 rfl (lv_at hl 1 rfl) ?_
  refine V.getf F hE gX4_28 6 rfl rfl dX4_copyFrom_58 ?_
  refine V.aload_n F dX4_copyFrom_61 rfl (lv_at hl 0 rfl) ?_
  refine V.getf F hE gX4_28 0 rfl rfl dX4_copyFrom_62 ?_
  refine V.wrSNn F hE hN (by rfl) (c_X6_copyRow l E (by first | assumption | omega)) (kX4_57 F.2.2.2.2 hE.2.1 ⟨Nat.le_of_ble_eq_true rfl, Nat.le_of_ble_eq_true rfl⟩) [11, 5] rfl (by decide) rfl rfl rfl hl.1 (by exact Nat.le_of_ble_eq_true rfl) dX4_copyFrom_65 rfl ?_
  exact V.vretW F hr hk dX4_copyFrom_68 (by subst e1; first | rfl | (simp only [oi1, nI_succ, bI, and_true, true_and, and_false, false_and, and_self, or_true, true_or, or_false, false_or, or_self, not_true_eq_false, not_false_eq_true, if_true, if_false, ↓reduceIte] <;> rfl) | (simp [bI, oi1, nI_succ]; done))
set_option maxHeartbeats 4000000 in
set_option maxRecDepth 100000 in
theorem c_X2_keep (l : Launch) (E : EV) {o a1 a2 a3 a4 : Nat} {n : Int32} {fp fk fr fd : Nat → Int32} {p k r d : Int32} : Wr l E yX2_keep cX2_keep 5 none 1 22 [.ref o, .int p, .int k, .int r, .int d] (reO E o a1 a2 a3 a4 n fp fk fr fd) (reO E o a1 a2 a3 a4 (kpI n 40 + 1) (ptF (kpR n 40 40 fp) 40 (kpI n 40) p) (ptF (kpR n 40 40 fk) 40 (kpI n 40) k) (ptF (kpR n 40 40 fr) 40 (kpI n 40) r) (ptF (kpR n 40 40 fd) 40 (kpI n 40) d)) none := by
  refine Wr.mk0 (by decide) (Nat.le_of_ble_eq_true rfl) ?_
  intro pP eE sS mM aA bB mt cC F hr hk hE hN ls hl
  have hl : lv_has ls 5 [(0, .ref o), (1, .int p), (2, .int k), (3, .int r), (4, .int d)] := hl
  refine V.aload_n F dX2_keep_0 rfl (lv_at hl 0 rfl) ?_
  refine V.getfi F hE gX2_9 0 rfl rfl dX2_keep_1 (fun z1 e1 => ?_)
  refine V.bipush (v := 40) F dX2_keep_4 (by decide) ?_
  refine V.icmp_lt (tgt := 47) F dX2_keep_6 (by decide) (fun c2 c2' => ?_) (fun c2 c2' => ?_)
  · skip
    refine V.aload_n F dX2_keep_47 rfl (lv_at hl 0 rfl) ?_
    refine V.getf F hE gX2_15 0 rfl rfl dX2_keep_48 ?_
    refine V.aload_n F dX2_keep_51 rfl (lv_at hl 0 rfl) ?_
    refine V.getfi F hE gX2_9 0 rfl rfl dX2_keep_52 (fun z3 e3 => ?_)
    refine V.iload_n F dX2_keep_55 rfl (lv_at hl 1 rfl) ?_
    refine V.wrSNn F hE hN (by rfl) (c_X6_put l E (by first | assumption | omega)) (kX2_32 F.2.2.2.2 hE.2.1 ⟨Nat.le_of_ble_eq_true rfl, Nat.le_of_ble_eq_true rfl⟩) [1] rfl (by decide) rfl rfl rfl hl.1 (by exact Nat.le_of_ble_eq_true rfl) dX2_keep_56 rfl ?_
    refine V.aload_n F dX2_keep_59 rfl (lv_at hl 0 rfl) ?_
    refine V.getf F hE gX2_19 0 rfl rfl dX2_keep_60 ?_
    refine V.aload_n F dX2_keep_63 rfl (lv_at hl 0 rfl) ?_
    refine V.getfi F hE gX2_9 0 rfl rfl dX2_keep_64 (fun z4 e4 => ?_)
    refine V.iload_n F dX2_keep_67 rfl (lv_at hl 2 rfl) ?_
    refine V.wrSNn F hE hN (by rfl) (c_X6_put l E (by first | assumption | omega)) (kX2_32 F.2.2.2.2 hE.2.1 ⟨Nat.le_of_ble_eq_true rfl, Nat.le_of_ble_eq_true rfl⟩) [2] rfl (by decide) rfl rfl rfl hl.1 (by exact Nat.le_of_ble_eq_true rfl) dX2_keep_68 rfl ?_
    refine V.aload_n F dX2_keep_71 rfl (lv_at hl 0 rfl) ?_
    refine V.getf F hE gX2_22 0 rfl rfl dX2_keep_72 ?_
    refine V.aload_n F dX2_keep_75 rfl (lv_at hl 0 rfl) ?_
    refine V.getfi F hE gX2_9 0 rfl rfl dX2_keep_76 (fun z5 e5 => ?_)
    refine V.iload_n F dX2_keep_79 rfl (lv_at hl 3 rfl) ?_
    refine V.wrSNn F hE hN (by rfl) (c_X6_put l E (by first | assumption | omega)) (kX2_32 F.2.2.2.2 hE.2.1 ⟨Nat.le_of_ble_eq_true rfl, Nat.le_of_ble_eq_true rfl⟩) [3] rfl (by decide) rfl rfl rfl hl.1 (by exact Nat.le_of_ble_eq_true rfl) dX2_keep_80 rfl ?_
    refine V.aload_n F dX2_keep_83 rfl (lv_at hl 0 rfl) ?_
    refine V.getf F hE gX2_25 0 rfl rfl dX2_keep_84 ?_
    refine V.aload_n F dX2_keep_87 rfl (lv_at hl 0 rfl) ?_
    refine V.getfi F hE gX2_9 0 rfl rfl dX2_keep_88 (fun z6 e6 => ?_)
    refine V.iload F dX2_keep_91 (lv_at hl 4 rfl) ?_
    refine V.wrSNn F hE hN (by rfl) (c_X6_put l E (by first | assumption | omega)) (kX2_32 F.2.2.2.2 hE.2.1 ⟨Nat.le_of_ble_eq_true rfl, Nat.le_of_ble_eq_true rfl⟩) [4] rfl (by decide) rfl rfl rfl hl.1 (by exact Nat.le_of_ble_eq_true rfl) dX2_keep_93 rfl ?_
    refine V.aload_n F dX2_keep_96 rfl (lv_at hl 0 rfl) ?_
    refine V.dup F dX2_keep_97 rfl ?_
    refine V.getfi F hE gX2_9 0 rfl rfl dX2_keep_98 (fun z7 e7 => ?_)
    refine V.iconst (v := 1) F dX2_keep_101 (by decide) ?_
    refine V.iadd F dX2_keep_102 (fun z8 e8 => ?_)
    refine V.putf F hE hN (by rfl) pX2_9 rfl rfl 0 rfl (by exact Nat.le_of_ble_eq_true rfl) dX2_keep_103 rfl ?_
    exact V.vretW F hr hk dX2_keep_106 (by subst e1 e3 e4 e5 e6 e7 e8; first | rfl | (simp only [kpI, kpR, c2, c2', oi1, nI_succ, bI, and_true, true_and, and_false, false_and, and_self, or_true, true_or, or_false, false_or, or_self, not_true_eq_false, not_false_eq_true, if_true, if_false, ↓reduceIte] <;> rfl) | (simp [kpI, kpR, c2, c2', bI, oi1, nI_succ]; done))
  · skip
    refine V.aload_n F dX2_keep_9 rfl (lv_at hl 0 rfl) ?_
    refine V.getf F hE gX2_15 0 rfl rfl dX2_keep_10 ?_
    refine V.wrSNn F hE hN (by rfl) (c_X6_dropFirst l E (by first | assumption | omega)) (kX2_28 F.2.2.2.2 hE.2.1 ⟨Nat.le_of_ble_eq_true rfl, Nat.le_of_ble_eq_true rfl⟩) [1] rfl (by decide) rfl rfl rfl hl.1 (by exact Nat.le_of_ble_eq_true rfl) dX2_keep_13 rfl ?_
    refine V.aload_n F dX2_keep_16 rfl (lv_at hl 0 rfl) ?_
    refine V.getf F hE gX2_19 0 rfl rfl dX2_keep_17 ?_
    refine V.wrSNn F hE hN (by rfl) (c_X6_dropFirst l E (by first | assumption | omega)) (kX2_28 F.2.2.2.2 hE.2.1 ⟨Nat.le_of_ble_eq_true rfl, Nat.le_of_ble_eq_true rfl⟩) [2] rfl (by decide) rfl rfl rfl hl.1 (by exact Nat.le_of_ble_eq_true rfl) dX2_keep_20 rfl ?_
    refine V.aload_n F dX2_keep_23 rfl (lv_at hl 0 rfl) ?_
    refine V.getf F hE gX2_22 0 rfl rfl dX2_keep_24 ?_
    refine V.wrSNn F hE hN (by rfl) (c_X6_dropFirst l E (by first | assumption | omega)) (kX2_28 F.2.2.2.2 hE.2.1 ⟨Nat.le_of_ble_eq_true rfl, Nat.le_of_ble_eq_true rfl⟩) [3] rfl (by decide) rfl rfl rfl hl.1 (by exact Nat.le_of_ble_eq_true rfl) dX2_keep_27 rfl ?_
    refine V.aload_n F dX2_keep_30 rfl (lv_at hl 0 rfl) ?_
    refine V.getf F hE gX2_25 0 rfl rfl dX2_keep_31 ?_
    refine V.wrSNn F hE hN (by rfl) (c_X6_dropFirst l E (by first | assumption | omega)) (kX2_28 F.2.2.2.2 hE.2.1 ⟨Nat.le_of_ble_eq_true rfl, Nat.le_of_ble_eq_true rfl⟩) [4] rfl (by decide) rfl rfl rfl hl.1 (by exact Nat.le_of_ble_eq_true rfl) dX2_keep_34 rfl ?_
    refine V.aload_n F dX2_keep_37 rfl (lv_at hl 0 rfl) ?_
    refine V.dup F dX2_keep_38 rfl ?_
    refine V.getfi F hE gX2_9 0 rfl rfl dX2_keep_39 (fun z9 e9 => ?_)
    refine V.iconst (v := 1) F dX2_keep_42 (by decide) ?_
    refine V.isub F dX2_keep_43 (fun z10 e10 => ?_)
    refine V.putf F hE hN (by rfl) pX2_9 rfl rfl 0 rfl (by exact Nat.le_of_ble_eq_true rfl) dX2_keep_44 rfl ?_
    refine V.aload_n F dX2_keep_47 rfl (lv_at hl 0 rfl) ?_
    refine V.getf F hE gX2_15 0 rfl rfl dX2_keep_48 ?_
    refine V.aload_n F dX2_keep_51 rfl (lv_at hl 0 rfl) ?_
    refine V.getfi F hE gX2_9 0 rfl rfl dX2_keep_52 (fun z11 e11 => ?_)
    refine V.iload_n F dX2_keep_55 rfl (lv_at hl 1 rfl) ?_
    refine V.wrSNn F hE hN (by rfl) (c_X6_put l E (by first | assumption | omega)) (kX2_32 F.2.2.2.2 hE.2.1 ⟨Nat.le_of_ble_eq_true rfl, Nat.le_of_ble_eq_true rfl⟩) [1] rfl (by decide) rfl rfl rfl hl.1 (by exact Nat.le_of_ble_eq_true rfl) dX2_keep_56 rfl ?_
    refine V.aload_n F dX2_keep_59 rfl (lv_at hl 0 rfl) ?_
    refine V.getf F hE gX2_19 0 rfl rfl dX2_keep_60 ?_
    refine V.aload_n F dX2_keep_63 rfl (lv_at hl 0 rfl) ?_
    refine V.getfi F hE gX2_9 0 rfl rfl dX2_keep_64 (fun z12 e12 => ?_)
    refine V.iload_n F dX2_keep_67 rfl (lv_at hl 2 rfl) ?_
    refine V.wrSNn F hE hN (by rfl) (c_X6_put l E (by first | assumption | omega)) (kX2_32 F.2.2.2.2 hE.2.1 ⟨Nat.le_of_ble_eq_true rfl, Nat.le_of_ble_eq_true rfl⟩) [2] rfl (by decide) rfl rfl rfl hl.1 (by exact Nat.le_of_ble_eq_true rfl) dX2_keep_68 rfl ?_
    refine V.aload_n F dX2_keep_71 rfl (lv_at hl 0 rfl) ?_
    refine V.getf F hE gX2_22 0 rfl rfl dX2_keep_72 ?_
    refine V.aload_n F dX2_keep_75 rfl (lv_at hl 0 rfl) ?_
    refine V.getfi F hE gX2_9 0 rfl rfl dX2_keep_76 (fun z13 e13 => ?_)
    refine V.iload_n F dX2_keep_79 rfl (lv_at hl 3 rfl) ?_
    refine V.wrSNn F hE hN (by rfl) (c_X6_put l E (by first | assumption | omega)) (kX2_32 F.2.2.2.2 hE.2.1 ⟨Nat.le_of_ble_eq_true rfl, Nat.le_of_ble_eq_true rfl⟩) [3] rfl (by decide) rfl rfl rfl hl.1 (by exact Nat.le_of_ble_eq_true rfl) dX2_keep_80 rfl ?_
    refine V.aload_n F dX2_keep_83 rfl (lv_at hl 0 rfl) ?_
    refine V.getf F hE gX2_25 0 rfl rfl dX2_keep_84 ?_
    refine V.aload_n F dX2_keep_87 rfl (lv_at hl 0 rfl) ?_
    refine V.getfi F hE gX2_9 0 rfl rfl dX2_keep_88 (fun z14 e14 => ?_)
    refine V.iload F dX2_keep_91 (lv_at hl 4 rfl) ?_
    refine V.wrSNn F hE hN (by rfl) (c_X6_put l E (by first | assumption | omega)) (kX2_32 F.2.2.2.2 hE.2.1 ⟨Nat.le_of_ble_eq_true rfl, Nat.le_of_ble_eq_true rfl⟩) [4] rfl (by decide) rfl rfl rfl hl.1 (by exact Nat.le_of_ble_eq_true rfl) dX2_keep_93 rfl ?_
    refine V.aload_n F dX2_keep_96 rfl (lv_at hl 0 rfl) ?_
    refine V.dup F dX2_keep_97 rfl ?_
    refine V.getfi F hE gX2_9 0 rfl rfl dX2_keep_98 (fun z15 e15 => ?_)
    refine V.iconst (v := 1) F dX2_keep_101 (by decide) ?_
    refine V.iadd F dX2_keep_102 (fun z16 e16 => ?_)
    refine V.putf F hE hN (by rfl) pX2_9 rfl rfl 0 rfl (by exact Nat.le_of_ble_eq_true rfl) dX2_keep_103 rfl ?_
    exact V.vretW F hr hk dX2_keep_106 (by subst e1 e9 e10 e11 e12 e13 e14 e15 e16; first | rfl | (simp only [kpI, kpR, c2, c2', oi1, nI_succ, bI, and_true, true_and, and_false, false_and, and_self, or_true, true_or, or_false, false_or, or_self, not_true_eq_false, not_false_eq_true, if_true, if_false, ↓reduceIte] <;> rfl) | (simp [kpI, kpR, c2, c2', bI, oi1, nI_succ]; done))
set_option maxHeartbeats 4000000 in
set_option maxRecDepth 100000 in
theorem c_X0_keep (l : Launch) (E : EV) {o a1 a2 a3 : Nat} {n : Int32} {fp fa fl : Nat → Int32} {p q d : Int32} : Wr l E yX0_keep cX0_keep 4 none 1 22 [.ref o, .int p, .int q, .int d] (inO E o a1 a2 a3 n fp fa fl) (inO E o a1 a2 a3 (kpI n 12 + 1) (ptF (kpR n 12 12 fp) 12 (kpI n 12) p) (ptF (kpR n 12 12 fa) 12 (kpI n 12) q) (ptF (kpR n 12 12 fl) 12 (kpI n 12) d)) none := by
  refine Wr.mk0 (by decide) (Nat.le_of_ble_eq_true rfl) ?_
  intro pP eE sS mM aA bB mt cC F hr hk hE hN ls hl
  have hl : lv_has ls 4 [(0, .ref o), (1, .int p), (2, .int q), (3, .int d)] := hl
  refine V.aload_n F dX0_keep_0 rfl (lv_at hl 0 rfl) ?_
  refine V.getfi F hE gX0_9 0 rfl rfl dX0_keep_1 (fun z1 e1 => ?_)
  refine V.bipush (v := 12) F dX0_keep_4 (by decide) ?_
  refine V.icmp_lt (tgt := 40) F dX0_keep_6 (by decide) (fun c2 c2' => ?_) (fun c2 c2' => ?_)
  · skip
    refine V.aload_n F dX0_keep_40 rfl (lv_at hl 0 rfl) ?_
    refine V.getf F hE gX0_15 0 rfl rfl dX0_keep_41 ?_
    refine V.aload_n F dX0_keep_44 rfl (lv_at hl 0 rfl) ?_
    refine V.getfi F hE gX0_9 0 rfl rfl dX0_keep_45 (fun z3 e3 => ?_)
    refine V.iload_n F dX0_keep_48 rfl (lv_at hl 1 rfl) ?_
    refine V.wrSNn F hE hN (by rfl) (c_X6_put l E (by first | assumption | omega)) (kX0_29 F.2.2.2.2 hE.2.1 ⟨Nat.le_of_ble_eq_true rfl, Nat.le_of_ble_eq_true rfl⟩) [1] rfl (by decide) rfl rfl rfl hl.1 (by exact Nat.le_of_ble_eq_true rfl) dX0_keep_49 rfl ?_
    refine V.aload_n F dX0_keep_52 rfl (lv_at hl 0 rfl) ?_
    refine V.getf F hE gX0_19 0 rfl rfl dX0_keep_53 ?_
    refine V.aload_n F dX0_keep_56 rfl (lv_at hl 0 rfl) ?_
    refine V.getfi F hE gX0_9 0 rfl rfl dX0_keep_57 (fun z4 e4 => ?_)
    refine V.iload_n F dX0_keep_60 rfl (lv_at hl 2 rfl) ?_
    refine V.wrSNn F hE hN (by rfl) (c_X6_put l E (by first | assumption | omega)) (kX0_29 F.2.2.2.2 hE.2.1 ⟨Nat.le_of_ble_eq_true rfl, Nat.le_of_ble_eq_true rfl⟩) [2] rfl (by decide) rfl rfl rfl hl.1 (by exact Nat.le_of_ble_eq_true rfl) dX0_keep_61 rfl ?_
    refine V.aload_n F dX0_keep_64 rfl (lv_at hl 0 rfl) ?_
    refine V.getf F hE gX0_22 0 rfl rfl dX0_keep_65 ?_
    refine V.aload_n F dX0_keep_68 rfl (lv_at hl 0 rfl) ?_
    refine V.getfi F hE gX0_9 0 rfl rfl dX0_keep_69 (fun z5 e5 => ?_)
    refine V.iload_n F dX0_keep_72 rfl (lv_at hl 3 rfl) ?_
    refine V.wrSNn F hE hN (by rfl) (c_X6_put l E (by first | assumption | omega)) (kX0_29 F.2.2.2.2 hE.2.1 ⟨Nat.le_of_ble_eq_true rfl, Nat.le_of_ble_eq_true rfl⟩) [3] rfl (by decide) rfl rfl rfl hl.1 (by exact Nat.le_of_ble_eq_true rfl) dX0_keep_73 rfl ?_
    refine V.aload_n F dX0_keep_76 rfl (lv_at hl 0 rfl) ?_
    refine V.dup F dX0_keep_77 rfl ?_
    refine V.getfi F hE gX0_9 0 rfl rfl dX0_keep_78 (fun z6 e6 => ?_)
    refine V.iconst (v := 1) F dX0_keep_81 (by decide) ?_
    refine V.iadd F dX0_keep_82 (fun z7 e7 => ?_)
    refine V.putf F hE hN (by rfl) pX0_9 rfl rfl 0 rfl (by exact Nat.le_of_ble_eq_true rfl) dX0_keep_83 rfl ?_
    exact V.vretW F hr hk dX0_keep_86 (by subst e1 e3 e4 e5 e6 e7; first | rfl | (simp only [kpI, kpR, c2, c2', oi1, nI_succ, bI, and_true, true_and, and_false, false_and, and_self, or_true, true_or, or_false, false_or, or_self, not_true_eq_false, not_false_eq_true, if_true, if_false, ↓reduceIte] <;> rfl) | (simp [kpI, kpR, c2, c2', bI, oi1, nI_succ]; done))
  · skip
    refine V.aload_n F dX0_keep_9 rfl (lv_at hl 0 rfl) ?_
    refine V.getf F hE gX0_15 0 rfl rfl dX0_keep_10 ?_
    refine V.wrSNn F hE hN (by rfl) (c_X6_dropFirst l E (by first | assumption | omega)) (kX0_25 F.2.2.2.2 hE.2.1 ⟨Nat.le_of_ble_eq_true rfl, Nat.le_of_ble_eq_true rfl⟩) [1] rfl (by decide) rfl rfl rfl hl.1 (by exact Nat.le_of_ble_eq_true rfl) dX0_keep_13 rfl ?_
    refine V.aload_n F dX0_keep_16 rfl (lv_at hl 0 rfl) ?_
    refine V.getf F hE gX0_19 0 rfl rfl dX0_keep_17 ?_
    refine V.wrSNn F hE hN (by rfl) (c_X6_dropFirst l E (by first | assumption | omega)) (kX0_25 F.2.2.2.2 hE.2.1 ⟨Nat.le_of_ble_eq_true rfl, Nat.le_of_ble_eq_true rfl⟩) [2] rfl (by decide) rfl rfl rfl hl.1 (by exact Nat.le_of_ble_eq_true rfl) dX0_keep_20 rfl ?_
    refine V.aload_n F dX0_keep_23 rfl (lv_at hl 0 rfl) ?_
    refine V.getf F hE gX0_22 0 rfl rfl dX0_keep_24 ?_
    refine V.wrSNn F hE hN (by rfl) (c_X6_dropFirst l E (by first | assumption | omega)) (kX0_25 F.2.2.2.2 hE.2.1 ⟨Nat.le_of_ble_eq_true rfl, Nat.le_of_ble_eq_true rfl⟩) [3] rfl (by decide) rfl rfl rfl hl.1 (by exact Nat.le_of_ble_eq_true rfl) dX0_keep_27 rfl ?_
    refine V.aload_n F dX0_keep_30 rfl (lv_at hl 0 rfl) ?_
    refine V.dup F dX0_keep_31 rfl ?_
    refine V.getfi F hE gX0_9 0 rfl rfl dX0_keep_32 (fun z8 e8 => ?_)
    refine V.iconst (v := 1) F dX0_keep_35 (by decide) ?_
    refine V.isub F dX0_keep_36 (fun z9 e9 => ?_)
    refine V.putf F hE hN (by rfl) pX0_9 rfl rfl 0 rfl (by exact Nat.le_of_ble_eq_true rfl) dX0_keep_37 rfl ?_
    refine V.aload_n F dX0_keep_40 rfl (lv_at hl 0 rfl) ?_
    refine V.getf F hE gX0_15 0 rfl rfl dX0_keep_41 ?_
    refine V.aload_n F dX0_keep_44 rfl (lv_at hl 0 rfl) ?_
    refine V.getfi F hE gX0_9 0 rfl rfl dX0_keep_45 (fun z10 e10 => ?_)
    refine V.iload_n F dX0_keep_48 rfl (lv_at hl 1 rfl) ?_
    refine V.wrSNn F hE hN (by rfl) (c_X6_put l E (by first | assumption | omega)) (kX0_29 F.2.2.2.2 hE.2.1 ⟨Nat.le_of_ble_eq_true rfl, Nat.le_of_ble_eq_true rfl⟩) [1] rfl (by decide) rfl rfl rfl hl.1 (by exact Nat.le_of_ble_eq_true rfl) dX0_keep_49 rfl ?_
    refine V.aload_n F dX0_keep_52 rfl (lv_at hl 0 rfl) ?_
    refine V.getf F hE gX0_19 0 rfl rfl dX0_keep_53 ?_
    refine V.aload_n F dX0_keep_56 rfl (lv_at hl 0 rfl) ?_
    refine V.getfi F hE gX0_9 0 rfl rfl dX0_keep_57 (fun z11 e11 => ?_)
    refine V.iload_n F dX0_keep_60 rfl (lv_at hl 2 rfl) ?_
    refine V.wrSNn F hE hN (by rfl) (c_X6_put l E (by first | assumption | omega)) (kX0_29 F.2.2.2.2 hE.2.1 ⟨Nat.le_of_ble_eq_true rfl, Nat.le_of_ble_eq_true rfl⟩) [2] rfl (by decide) rfl rfl rfl hl.1 (by exact Nat.le_of_ble_eq_true rfl) dX0_keep_61 rfl ?_
    refine V.aload_n F dX0_keep_64 rfl (lv_at hl 0 rfl) ?_
    refine V.getf F hE gX0_22 0 rfl rfl dX0_keep_65 ?_
    refine V.aload_n F dX0_keep_68 rfl (lv_at hl 0 rfl) ?_
    refine V.getfi F hE gX0_9 0 rfl rfl dX0_keep_69 (fun z12 e12 => ?_)
    refine V.iload_n F dX0_keep_72 rfl (lv_at hl 3 rfl) ?_
    refine V.wrSNn F hE hN (by rfl) (c_X6_put l E (by first | assumption | omega)) (kX0_29 F.2.2.2.2 hE.2.1 ⟨Nat.le_of_ble_eq_true rfl, Nat.le_of_ble_eq_true rfl⟩) [3] rfl (by decide) rfl rfl rfl hl.1 (by exact Nat.le_of_ble_eq_true rfl) dX0_keep_73 rfl ?_
    refine V.aload_n F dX0_keep_76 rfl (lv_at hl 0 rfl) ?_
    refine V.dup F dX0_keep_77 rfl ?_
    refine V.getfi F hE gX0_9 0 rfl rfl dX0_keep_78 (fun z13 e13 => ?_)
    refine V.iconst (v := 1) F dX0_keep_81 (by decide) ?_
    refine V.iadd F dX0_keep_82 (fun z14 e14 => ?_)
    refine V.putf F hE hN (by rfl) pX0_9 rfl rfl 0 rfl (by exact Nat.le_of_ble_eq_true rfl) dX0_keep_83 rfl ?_
    exact V.vretW F hr hk dX0_keep_86 (by subst e1 e8 e9 e10 e11 e12 e13 e14; first | rfl | (simp only [kpI, kpR, c2, c2', oi1, nI_succ, bI, and_true, true_and, and_false, false_and, and_self, or_true, true_or, or_false, false_or, or_self, not_true_eq_false, not_false_eq_true, if_true, if_false, ↓reduceIte] <;> rfl) | (simp [kpI, kpR, c2, c2', bI, oi1, nI_succ]; done))
set_option maxHeartbeats 4000000 in
set_option maxRecDepth 100000 in
theorem c_X4_tell (l : Launch) (E : EV) {o a1 a2 a3 a4 a5 : Nat} {n : Int32} {fk fr fs fd fe : Nat → Int32} {k r p : Int32} : Wr l E yX4_tell cX4_tell 5 (some .int) 1 22 [.ref o, .int k, .int r, .int p] (scO E o a1 a2 a3 a4 a5 n fk fr fs fd fe) (scO E o a1 a2 a3 a4 a5 (n + 1) (ptF fk 10 n k) (ptF fr 10 n r) (ptF fs 10 n p) (ptF fd 10 n (-1)) (ptF fe 10 n (-1))) (some (.int n)) := by
  refine Wr.mk0 (by decide) (Nat.le_of_ble_eq_true rfl) ?_
  intro pP eE sS mM aA bB mt cC F hr hk hE hN ls hl
  have hl : lv_has ls 5 [(0, .ref o), (1, .int k), (2, .int r), (3, .int p)] := hl
  refine V.aload_n F dX4_tell_0 rfl (lv_at hl 0 rfl) ?_
  refine V.getfi F hE gX4_9 0 rfl rfl dX4_tell_1 (fun z1 e1 => ?_)
  refine V.istore (lv' := [(4, .int z1), (0, .ref o), (1, .int k), (2, .int r), (3, .int p)]) F dX4_tell_4 hl (by decide) rfl (fun ls hl => ?_)
  refine V.aload_n F dX4_tell_6 rfl (lv_at hl 1 rfl) ?_
  refine V.getf F hE gX4_15 0 rfl rfl dX4_tell_7 ?_
  refine V.iload F dX4_tell_10 (lv_at hl 0 rfl) ?_
  refine V.iload_n F dX4_tell_12 rfl (lv_at hl 2 rfl) ?_
  refine V.wrSNn F hE hN (by rfl) (c_X6_put l E (by first | assumption | omega)) (kX4_31 F.2.2.2.2 hE.2.1 ⟨Nat.le_of_ble_eq_true rfl, Nat.le_of_ble_eq_true rfl⟩) [1] rfl (by decide) rfl rfl rfl hl.1 (by exact Nat.le_of_ble_eq_true rfl) dX4_tell_13 rfl ?_
  refine V.aload_n F dX4_tell_16 rfl (lv_at hl 1 rfl) ?_
  refine V.getf F hE gX4_19 0 rfl rfl dX4_tell_17 ?_
  refine V.iload F dX4_tell_20 (lv_at hl 0 rfl) ?_
  refine V.iload_n F dX4_tell_22 rfl (lv_at hl 3 rfl) ?_
  refine V.wrSNn F hE hN (by rfl) (c_X6_put l E (by first | assumption | omega)) (kX4_31 F.2.2.2.2 hE.2.1 ⟨Nat.le_of_ble_eq_true rfl, Nat.le_of_ble_eq_true rfl⟩) [2] rfl (by decide) rfl rfl rfl hl.1 (by exact Nat.le_of_ble_eq_true rfl) dX4_tell_23 rfl ?_
  refine V.aload_n F dX4_tell_26 rfl (lv_at hl 1 rfl) ?_
  refine V.getf F hE gX4_22 0 rfl rfl dX4_tell_27 ?_
  refine V.iload F dX4_tell_30 (lv_at hl 0 rfl) ?_
  refine V.iload_n F dX4_tell_32 rfl (lv_at hl 4 rfl) ?_
  refine V.wrSNn F hE hN (by rfl) (c_X6_put l E (by first | assumption | omega)) (kX4_31 F.2.2.2.2 hE.2.1 ⟨Nat.le_of_ble_eq_true rfl, Nat.le_of_ble_eq_true rfl⟩) [3] rfl (by decide) rfl rfl rfl hl.1 (by exact Nat.le_of_ble_eq_true rfl) dX4_tell_33 rfl ?_
  refine V.aload_n F dX4_tell_36 rfl (lv_at hl 1 rfl) ?_
  refine V.getf F hE gX4_25 0 rfl rfl dX4_tell_37 ?_
  refine V.iload F dX4_tell_40 (lv_at hl 0 rfl) ?_
  refine V.iconst (v := (-1)) F dX4_tell_42 (by decide) ?_
  refine V.wrSNn F hE hN (by rfl) (c_X6_put l E (by first | assumption | omega)) (kX4_31 F.2.2.2.2 hE.2.1 ⟨Nat.le_of_ble_eq_true rfl, Nat.le_of_ble_eq_true rfl⟩) [4] rfl (by decide) rfl rfl rfl hl.1 (by exact Nat.le_of_ble_eq_true rfl) dX4_tell_43 rfl ?_
  refine V.aload_n F dX4_tell_46 rfl (lv_at hl 1 rfl) ?_
  refine V.getf F hE gX4_28 0 rfl rfl dX4_tell_47 ?_
  refine V.iload F dX4_tell_50 (lv_at hl 0 rfl) ?_
  refine V.iconst (v := (-1)) F dX4_tell_52 (by decide) ?_
  refine V.wrSNn F hE hN (by rfl) (c_X6_put l E (by first | assumption | omega)) (kX4_31 F.2.2.2.2 hE.2.1 ⟨Nat.le_of_ble_eq_true rfl, Nat.le_of_ble_eq_true rfl⟩) [5] rfl (by decide) rfl rfl rfl hl.1 (by exact Nat.le_of_ble_eq_true rfl) dX4_tell_53 rfl ?_
  refine V.aload_n F dX4_tell_56 rfl (lv_at hl 1 rfl) ?_
  refine V.dup F dX4_tell_57 rfl ?_
  refine V.getfi F hE gX4_9 0 rfl rfl dX4_tell_58 (fun z2 e2 => ?_)
  refine V.iconst (v := 1) F dX4_tell_61 (by decide) ?_
  refine V.iadd F dX4_tell_62 (fun z3 e3 => ?_)
  refine V.putf F hE hN (by rfl) pX4_9 rfl rfl 0 rfl (by exact Nat.le_of_ble_eq_true rfl) dX4_tell_63 rfl ?_
  refine V.iload F dX4_tell_66 (lv_at hl 0 rfl) ?_
  exact V.iretW F hr hk dX4_tell_68 (by subst e1 e2 e3; first | rfl | (simp only [oi1, nI_succ, bI, and_true, true_and, and_false, false_and, and_self, or_true, true_or, or_false, false_or, or_self, not_true_eq_false, not_false_eq_true, if_true, if_false, ↓reduceIte] <;> rfl) | (simp [bI, oi1, nI_succ]; done)) (by subst e1 e2 e3; first | rfl | (simp only [oi1, nI_succ, bI, and_true, true_and, and_false, false_and, and_self, or_true, true_or, or_false, false_or, or_self, not_true_eq_false, not_false_eq_true, if_true, if_false, ↓reduceIte] <;> rfl) | (simp [bI, oi1, nI_succ]; done))
set_option maxHeartbeats 4000000 in
set_option maxRecDepth 100000 in
theorem c_X4_noteShot (l : Launch) (E : EV) {o a1 a2 a3 a4 a5 : Nat} {n : Int32} {fk fr fs fd fe : Nat → Int32} {x p d : Int32} : Wr l E yX4_noteShot cX4_noteShot 4 none 1 22 [.ref o, .int x, .int p, .int d] (scO E o a1 a2 a3 a4 a5 n fk fr fs fd fe) (scO E o a1 a2 a3 a4 a5 n fk fr fs (ptF fd 10 x d) (ptF fe 10 x p)) none := by
  refine Wr.mk0 (by decide) (Nat.le_of_ble_eq_true rfl) ?_
  intro pP eE sS mM aA bB mt cC F hr hk hE hN ls hl
  have hl : lv_has ls 4 [(0, .ref o), (1, .int x), (2, .int p), (3, .int d)] := hl
  refine V.aload_n F dX4_noteShot_0 rfl (lv_at hl 0 rfl) ?_
  refine V.getf F hE gX4_25 0 rfl rfl dX4_noteShot_1 ?_
  refine V.iload_n F dX4_noteShot_4 rfl (lv_at hl 1 rfl) ?_
  refine V.iload_n F dX4_noteShot_5 rfl (lv_at hl 3 rfl) ?_
  refine V.wrSNn F hE hN (by rfl) (c_X6_put l E (by first | assumption | omega)) (kX4_31 F.2.2.2.2 hE.2.1 ⟨Nat.le_of_ble_eq_true rfl, Nat.le_of_ble_eq_true rfl⟩) [4] rfl (by decide) rfl rfl rfl hl.1 (by exact Nat.le_of_ble_eq_true rfl) dX4_noteShot_6 rfl ?_
  refine V.aload_n F dX4_noteShot_9 rfl (lv_at hl 0 rfl) ?_
  refine V.getf F hE gX4_28 0 rfl rfl dX4_noteShot_10 ?_
  refine V.iload_n F dX4_noteShot_13 rfl (lv_at hl 1 rfl) ?_
  refine V.iload_n F dX4_noteShot_14 rfl (lv_at hl 2 rfl) ?_
  refine V.wrSNn F hE hN (by rfl) (c_X6_put l E (by first | assumption | omega)) (kX4_31 F.2.2.2.2 hE.2.1 ⟨Nat.le_of_ble_eq_true rfl, Nat.le_of_ble_eq_true rfl⟩) [5] rfl (by decide) rfl rfl rfl hl.1 (by exact Nat.le_of_ble_eq_true rfl) dX4_noteShot_15 rfl ?_
  exact V.vretW F hr hk dX4_noteShot_18 (by first | rfl | (simp only [oi1, nI_succ, bI, and_true, true_and, and_false, false_and, and_self, or_true, true_or, or_false, false_or, or_self, not_true_eq_false, not_false_eq_true, if_true, if_false, ↓reduceIte] <;> rfl) | (simp [bI, oi1, nI_succ]; done))
