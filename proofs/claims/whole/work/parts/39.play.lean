set_option maxHeartbeats 4000000 in
set_option maxRecDepth 100000 in
theorem c_X6_play (l : Launch) (E : EV) {d v0 v1 t u : Nat} {a : Nat → Nat} {g : Nat → Int32} {f : Nat → Nat → Int32} {n : Nat} {m : Int32} {r : Nat → Int32} {B : Nat → Nat → Nat} {G : Nat → Nat → Int32} {K : Nat → Nat → Nat → Int32} (h1 : plC r m.toNatClampNeg = 8 ∨ plC r m.toNatClampNeg = 5) (hn : n ≤ 6) : Wr l E yX6_play cX6_play 5 (some .int) 7 139 [.ref d] (dW E d v0 v1 t u (nI n) (m) r a g f ++ tlW E v1 B G K) (dW E d v0 v1 t u (nI (kN n)) (0) r a ((plI g f r m m.toNatClampNeg).2.2.1) ((plI g f r m m.toNatClampNeg).2.2.2) ++ tlW E v1 (kB n B) (kG n G g) (kG n K f)) (some (.int ((plI g f r m m.toNatClampNeg).1))) := by
  refine Wr.mk0 (by decide) (Nat.le_of_ble_eq_true rfl) ?_
  intro pP eE sS mM aA bB mt cC F hr hk hE hN ls hl
  have hl : lv_has ls 5 [(0, .ref d)] := hl
  refine V.aload_n F dX6_play_0 rfl (lv_at hl 0 rfl) ?_
  refine V.getf F hE gX6_26 0 rfl rfl dX6_play_1 ?_
  refine V.rdV (q0 := 1) F hE (c_X1_isComplete l E) (kX6_136 F.2.2.2.2 ⟨Nat.le_of_ble_eq_true rfl, Nat.le_of_ble_eq_true rfl⟩) rfl rfl [1, 2] rfl rfl hl.1 (Nat.le_of_ble_eq_true rfl) dX6_play_4 rfl ?_
  refine V.topi (fun z1 e1 => ?_)
  refine V.rdSn F hE (c_X6_requireArgument l E (by rw [e1, bI_t h1]; decide)) (kX6_38 F.2.2.2.2 ⟨Nat.le_of_ble_eq_true rfl, Nat.le_of_ble_eq_true rfl⟩) [] rfl rfl hl.1 (Nat.le_of_ble_eq_true rfl) dX6_play_7 rfl ?_
  refine V.aload_n F dX6_play_10 rfl (lv_at hl 0 rfl) ?_
  refine V.getf F hE gX6_19 0 rfl rfl dX6_play_11 ?_
  refine V.aload_n F dX6_play_14 rfl (lv_at hl 0 rfl) ?_
  refine V.getf F hE gX6_10 0 rfl rfl dX6_play_15 ?_
  refine V.keepD F hE hN hn (by rfl) hl.1 (Nat.le_of_ble_eq_true rfl) ⟨Nat.le_of_ble_eq_true rfl, Nat.le_of_ble_eq_true rfl⟩ dX6_play_18 ?_
  refine V.iconst (v := 0) F dX6_play_21 (by decide) ?_
  refine V.istore_n (lv' := [(1, .int 0), (0, .ref d)]) F dX6_play_22 rfl hl (by decide) rfl (fun ls hl => ?_)
  refine V.iconst (v := 1) F dX6_play_23 (by decide) ?_
  refine V.istore_n (lv' := [(2, .int 1), (1, .int 0), (0, .ref d)]) F dX6_play_24 rfl hl (by decide) rfl (fun ls hl => ?_)
  refine V.aload_n F dX6_play_25 rfl (lv_at hl 2 rfl) ?_
  refine V.getf F hE gX6_26 0 rfl rfl dX6_play_26 ?_
  refine V.getfi F hE gX6_123 1 rfl rfl dX6_play_29 (fun z2 e2 => ?_)
  refine V.istore_n (lv' := [(3, .int z2), (2, .int 1), (1, .int 0), (0, .ref d)]) F dX6_play_32 rfl hl (by decide) rfl (fun ls hl => ?_)
  refine V.iconst (v := 0) F dX6_play_33 (by decide) ?_
  refine V.istore (lv' := [(4, .int 0), (3, .int z2), (2, .int 1), (1, .int 0), (0, .ref d)]) F dX6_play_34 hl (by decide) rfl (fun ls hl => ?_)
  have h4 : nI 0 = 0 := (by subst e1 e2; first | with_reducible rfl | (simp only [plI, oi1, nI_succ, bI, and_true, true_and, and_false, false_and, and_self, or_true, true_or, or_false, false_or, or_self, not_true_eq_false, not_false_eq_true, if_true, if_false, ↓reduceIte] <;> rfl) | rfl | (simp [plI, bI, oi1, nI_succ]; done))
  have h5 : (plI g f r m 0).1 = 0 := (by subst e1 e2; first | with_reducible rfl | (simp only [plI, oi1, nI_succ, bI, and_true, true_and, and_false, false_and, and_self, or_true, true_or, or_false, false_or, or_self, not_true_eq_false, not_false_eq_true, if_true, if_false, ↓reduceIte] <;> rfl) | rfl | (simp [plI, bI, oi1, nI_succ]; done))
  have h6 : (plI g f r m 0).2.1 = 1 := (by subst e1 e2; first | with_reducible rfl | (simp only [plI, oi1, nI_succ, bI, and_true, true_and, and_false, false_and, and_self, or_true, true_or, or_false, false_or, or_self, not_true_eq_false, not_false_eq_true, if_true, if_false, ↓reduceIte] <;> rfl) | rfl | (simp [plI, bI, oi1, nI_succ]; done))
  refine V.weq (ws' := dW E d v0 v1 t u (nI (kN n)) (m) r a ((plI g f r m 0).2.2.1) ((plI g f r m 0).2.2.2) ++ tlW E v1 (kB n B) (kG n G g) (kG n K f)) (by subst e1 e2; first | with_reducible rfl | (simp only [plI, oi1, nI_succ, bI, and_true, true_and, and_false, false_and, and_self, or_true, true_or, or_false, false_or, or_self, not_true_eq_false, not_false_eq_true, if_true, if_false, ↓reduceIte] <;> rfl) | rfl | (simp [plI, bI, oi1, nI_succ]; done)) ?_
  refine V.loopW (Wd := fun j3 : Nat => dW E d v0 v1 t u (nI (kN n)) (m) r a ((plI g f r m j3).2.2.1) ((plI g f r m j3).2.2.2) ++ tlW E v1 (kB n B) (kG n G g) (kG n K f)) (N := m.toNatClampNeg) (k0 := 0) (I := (fun j3 : Nat => [(4, .int (nI j3)), (3, .int z2), (2, .int ((plI g f r m j3).2.1)), (1, .int ((plI g f r m j3).1)), (0, .ref d)])) (J := fun _ => True) (Nat.zero_le _) trivial (lv_sub hl [0, 1, 2, 3, 4] (by rw [h4, h5, h6]; rfl)) ?_
  intro j3 j3_N j3_J ihj3 ls hl
  have hl : lv_has ls 5 [(4, .int (nI j3)), (3, .int z2), (2, .int ((plI g f r m j3).2.1)), (1, .int ((plI g f r m j3).1)), (0, .ref d)] := hl
  try dsimp only at j3_J ihj3 ⊢
  refine V.iload F dX6_play_36 (lv_at hl 0 rfl) ?_
  refine V.iload_n F dX6_play_38 rfl (lv_at hl 1 rfl) ?_
  refine V.icmp_ge (tgt := 83) F dX6_play_39 (by decide) (fun c7 c7' => ?_) (fun c7 c7' => ?_)
  · skip
    have j3_eq := ((lpT j3_N).1 (by rw [← e2]; exact c7)).symm
    subst j3_eq
    refine V.aload_n F dX6_play_83 rfl (lv_at hl 4 rfl) ?_
    refine V.getf F hE gX6_26 0 rfl rfl dX6_play_84 ?_
    refine V.wsVn (q0 := 1) (ws' := dW E d v0 v1 t u (nI (kN n)) (0) r a ((plI g f r m m.toNatClampNeg).2.2.1) ((plI g f r m m.toNatClampNeg).2.2.2) ++ tlW E v1 (kB n B) (kG n G g) (kG n K f)) F hE hN keep_pm (c_X1_makeEmpty l E) (kX6_129 F.2.2.2.2 ⟨Nat.le_of_ble_eq_true rfl, Nat.le_of_ble_eq_true rfl⟩) rfl rfl 1 2 (by rfl) (by rfl) rfl hl.1 (Nat.le_of_ble_eq_true rfl) dX6_play_87 rfl ?_
    refine V.iload_n F dX6_play_90 rfl (lv_at hl 3 rfl) ?_
    exact V.iretW F hr hk dX6_play_91 (by subst e1 e2; first | with_reducible rfl | (simp only [plI, c7, c7', oi1, nI_succ, bI, and_true, true_and, and_false, false_and, and_self, or_true, true_or, or_false, false_or, or_self, not_true_eq_false, not_false_eq_true, if_true, if_false, ↓reduceIte] <;> rfl) | rfl | (simp [plI, c7, c7', bI, oi1, nI_succ]; done)) (by subst e1 e2; first | with_reducible rfl | (simp only [plI, c7, c7', oi1, nI_succ, bI, and_true, true_and, and_false, false_and, and_self, or_true, true_or, or_false, false_or, or_self, not_true_eq_false, not_false_eq_true, if_true, if_false, ↓reduceIte] <;> rfl) | rfl | (simp [plI, c7, c7', bI, oi1, nI_succ]; done))
  · skip
    have j3_lt := (lpT j3_N).2 (by rw [← e2]; exact c7)
    refine V.iload_n F dX6_play_42 rfl (lv_at hl 2 rfl) ?_
    refine V.if_eq (tgt := 83) F dX6_play_43 (by decide) (fun c8 => ?_) (fun c8 => ?_)
    · skip
      have hQ : plI g f r m j3 = plI g f r m m.toNatClampNeg := plI_stop j3_N c8
      rw [hQ] at hl ⊢
      refine V.aload_n F dX6_play_83 rfl (lv_at hl 4 rfl) ?_
      refine V.getf F hE gX6_26 0 rfl rfl dX6_play_84 ?_
      refine V.wsVn (q0 := 1) (ws' := dW E d v0 v1 t u (nI (kN n)) (0) r a ((plI g f r m m.toNatClampNeg).2.2.1) ((plI g f r m m.toNatClampNeg).2.2.2) ++ tlW E v1 (kB n B) (kG n G g) (kG n K f)) F hE hN keep_pm (c_X1_makeEmpty l E) (kX6_129 F.2.2.2.2 ⟨Nat.le_of_ble_eq_true rfl, Nat.le_of_ble_eq_true rfl⟩) rfl rfl 1 2 (by rfl) (by rfl) rfl hl.1 (Nat.le_of_ble_eq_true rfl) dX6_play_87 rfl ?_
      refine V.iload_n F dX6_play_90 rfl (lv_at hl 3 rfl) ?_
      exact V.iretW F hr hk dX6_play_91 (by subst e1 e2; first | with_reducible rfl | (simp only [plI, c7, c7', eq_true c8, oi1, nI_succ, bI, and_true, true_and, and_false, false_and, and_self, or_true, true_or, or_false, false_or, or_self, not_true_eq_false, not_false_eq_true, if_true, if_false, ↓reduceIte] <;> rfl) | rfl | (simp [plI, c7, c7', eq_true c8, bI, oi1, nI_succ]; done)) (by subst e1 e2; first | with_reducible rfl | (simp only [plI, c7, c7', eq_true c8, oi1, nI_succ, bI, and_true, true_and, and_false, false_and, and_self, or_true, true_or, or_false, false_or, or_self, not_true_eq_false, not_false_eq_true, if_true, if_false, ↓reduceIte] <;> rfl) | rfl | (simp [plI, c7, c7', eq_true c8, bI, oi1, nI_succ]; done))
    · skip
      refine V.aload_n F dX6_play_46 rfl (lv_at hl 4 rfl) ?_
      refine V.getf F hE gX6_26 0 rfl rfl dX6_play_47 ?_
      refine V.iload F dX6_play_50 (lv_at hl 0 rfl) ?_
      refine V.rdV (q0 := 1) F hE (c_X1_isPartStart l E) (kX6_140 F.2.2.2.2 ⟨Nat.le_of_ble_eq_true rfl, Nat.le_of_ble_eq_true rfl⟩) rfl rfl [1, 2] rfl rfl hl.1 (Nat.le_of_ble_eq_true rfl) dX6_play_52 rfl ?_
      refine V.topi (fun z9 e9 => ?_)
      refine V.if_eqB (tgt := 77) F e9 dX6_play_55 (by decide) (fun c10 => ?_) (fun c10 => ?_)
      · skip
        refine V.iinc (j := 0) (lv' := fun z11 => [(4, .int z11), (3, .int z2), (2, .int ((plI g f r m j3).2.1)), (1, .int ((plI g f r m j3).1)), (0, .ref d)]) F dX6_play_77 hl rfl (by decide) (fun _ => rfl) (fun z11 e11 ls hl => ?_)
        refine V.goto (tgt := 36) F dX6_play_80 (by decide) ?_
        have h12 : nI (j3 + 1) = z11 := (by subst e1 e2 e9 e11; first | with_reducible rfl | (simp only [plI, c7, c7', c8, c10, oi1, nI_succ, bI, and_true, true_and, and_false, false_and, and_self, or_true, true_or, or_false, false_or, or_self, not_true_eq_false, not_false_eq_true, if_true, if_false, ↓reduceIte] <;> rfl) | rfl | (simp [plI, c7, c7', c8, c10, bI, oi1, nI_succ]; done))
        have h13 : (plI g f r m (j3 + 1)).1 = (plI g f r m j3).1 := (by subst e1 e2 e9 e11; first | with_reducible rfl | (simp only [plI, c7, c7', c8, c10, oi1, nI_succ, bI, and_true, true_and, and_false, false_and, and_self, or_true, true_or, or_false, false_or, or_self, not_true_eq_false, not_false_eq_true, if_true, if_false, ↓reduceIte] <;> rfl) | rfl | (simp [plI, c7, c7', c8, c10, bI, oi1, nI_succ]; done))
        have h14 : (plI g f r m (j3 + 1)).2.1 = (plI g f r m j3).2.1 := (by subst e1 e2 e9 e11; first | with_reducible rfl | (simp only [plI, c7, c7', c8, c10, oi1, nI_succ, bI, and_true, true_and, and_false, false_and, and_self, or_true, true_or, or_false, false_or, or_self, not_true_eq_false, not_false_eq_true, if_true, if_false, ↓reduceIte] <;> rfl) | rfl | (simp [plI, c7, c7', c8, c10, bI, oi1, nI_succ]; done))
        refine V.weq (ws' := dW E d v0 v1 t u (nI (kN n)) (m) r a ((plI g f r m (j3 + 1)).2.2.1) ((plI g f r m (j3 + 1)).2.2.2) ++ tlW E v1 (kB n B) (kG n G g) (kG n K f)) (by subst e1 e2 e9 e11; first | with_reducible rfl | (simp only [plI, c7, c7', c8, c10, oi1, nI_succ, bI, and_true, true_and, and_false, false_and, and_self, or_true, true_or, or_false, false_or, or_self, not_true_eq_false, not_false_eq_true, if_true, if_false, ↓reduceIte] <;> rfl) | rfl | (simp [plI, c7, c7', c8, c10, bI, oi1, nI_succ]; done)) ?_
        exact ihj3 j3_lt trivial _ (lv_sub hl [0, 1, 2, 3, 4] (by rw [h12, h13, h14]; rfl))
      · skip
        refine V.aload_n F dX6_play_58 rfl (lv_at hl 4 rfl) ?_
        refine V.iload F dX6_play_59 (lv_at hl 0 rfl) ?_
        refine V.wsV (q0 := 0) (ws' := dW E d v0 v1 t u (nI (kN n)) (m) r a (ppG (plI g f r m j3).2.2.1 (plI g f r m j3).2.2.2 r m (nI j3)) (ppF (plI g f r m j3).2.2.1 (plI g f r m j3).2.2.2 r m (nI j3)) ++ tlW E v1 (kB n B) (kG n G g) (kG n K f)) F hE hN keep_pm (c_X6_playPart l E) (kX6_143 F.2.2.2.2 ⟨Nat.le_of_ble_eq_true rfl, Nat.le_of_ble_eq_true rfl⟩) rfl rfl 0 22 (by rfl) (by rfl) rfl hl.1 (Nat.le_of_ble_eq_true rfl) dX6_play_61 rfl ?_
        refine V.topi (fun z15 e15 => ?_)
        refine V.istore_n (lv' := [(2, .int z15), (4, .int (nI j3)), (3, .int z2), (1, .int ((plI g f r m j3).1)), (0, .ref d)]) F dX6_play_64 rfl hl (by decide) rfl (fun ls hl => ?_)
        refine V.iload_n F dX6_play_65 rfl (lv_at hl 3 rfl) ?_
        refine V.iload_n F dX6_play_66 rfl (lv_at hl 0 rfl) ?_
        refine V.if_eq (tgt := 74) F dX6_play_67 (by decide) (fun c16 => ?_) (fun c16 => ?_)
        · skip
          refine V.iconst (v := 0) F dX6_play_74 (by decide) ?_
          refine V.iadd F dX6_play_75 (fun z17 e17 => ?_)
          refine V.istore_n (lv' := [(1, .int z17), (2, .int z15), (4, .int (nI j3)), (3, .int z2), (0, .ref d)]) F dX6_play_76 rfl hl (by decide) rfl (fun ls hl => ?_)
          refine V.iinc (j := 2) (lv' := fun z18 => [(4, .int z18), (1, .int z17), (2, .int z15), (3, .int z2), (0, .ref d)]) F dX6_play_77 hl rfl (by decide) (fun _ => rfl) (fun z18 e18 ls hl => ?_)
          refine V.goto (tgt := 36) F dX6_play_80 (by decide) ?_
          have h19 : nI (j3 + 1) = z18 := (by subst e1 e2 e9 e15 e17 e18; first | with_reducible rfl | (simp only [plI, c7, c7', c8, eq_true c10, eq_true c16, oi1, nI_succ, bI, and_true, true_and, and_false, false_and, and_self, or_true, true_or, or_false, false_or, or_self, not_true_eq_false, not_false_eq_true, if_true, if_false, ↓reduceIte] <;> rfl) | rfl | (simp [plI, c7, c7', c8, eq_true c10, eq_true c16, bI, oi1, nI_succ]; done))
          have h20 : (plI g f r m (j3 + 1)).1 = z17 := (by subst e1 e2 e9 e15 e17 e18; first | with_reducible rfl | (simp only [plI, c7, c7', c8, eq_true c10, eq_true c16, oi1, nI_succ, bI, and_true, true_and, and_false, false_and, and_self, or_true, true_or, or_false, false_or, or_self, not_true_eq_false, not_false_eq_true, if_true, if_false, ↓reduceIte] <;> rfl) | rfl | (simp [plI, c7, c7', c8, eq_true c10, eq_true c16, bI, oi1, nI_succ]; done))
          have h21 : (plI g f r m (j3 + 1)).2.1 = z15 := (by subst e1 e2 e9 e15 e17 e18; first | with_reducible rfl | (simp only [plI, c7, c7', c8, eq_true c10, eq_true c16, oi1, nI_succ, bI, and_true, true_and, and_false, false_and, and_self, or_true, true_or, or_false, false_or, or_self, not_true_eq_false, not_false_eq_true, if_true, if_false, ↓reduceIte] <;> rfl) | rfl | (simp [plI, c7, c7', c8, eq_true c10, eq_true c16, bI, oi1, nI_succ]; done))
          refine V.weq (ws' := dW E d v0 v1 t u (nI (kN n)) (m) r a ((plI g f r m (j3 + 1)).2.2.1) ((plI g f r m (j3 + 1)).2.2.2) ++ tlW E v1 (kB n B) (kG n G g) (kG n K f)) (by subst e1 e2 e9 e15 e17 e18; first | with_reducible rfl | (simp only [plI, c7, c7', c8, eq_true c10, eq_true c16, oi1, nI_succ, bI, and_true, true_and, and_false, false_and, and_self, or_true, true_or, or_false, false_or, or_self, not_true_eq_false, not_false_eq_true, if_true, if_false, ↓reduceIte] <;> rfl) | rfl | (simp [plI, c7, c7', c8, eq_true c10, eq_true c16, bI, oi1, nI_succ]; done)) ?_
          exact ihj3 j3_lt trivial _ (lv_sub hl [0, 3, 2, 1, 4] (by rw [h19, h20, h21]; rfl))
        · skip
          refine V.iconst (v := 1) F dX6_play_70 (by decide) ?_
          refine V.goto (tgt := 75) F dX6_play_71 (by decide) ?_
          refine V.iadd F dX6_play_75 (fun z22 e22 => ?_)
          refine V.istore_n (lv' := [(1, .int z22), (2, .int z15), (4, .int (nI j3)), (3, .int z2), (0, .ref d)]) F dX6_play_76 rfl hl (by decide) rfl (fun ls hl => ?_)
          refine V.iinc (j := 2) (lv' := fun z23 => [(4, .int z23), (1, .int z22), (2, .int z15), (3, .int z2), (0, .ref d)]) F dX6_play_77 hl rfl (by decide) (fun _ => rfl) (fun z23 e23 ls hl => ?_)
          refine V.goto (tgt := 36) F dX6_play_80 (by decide) ?_
          have h24 : nI (j3 + 1) = z23 := (by subst e1 e2 e9 e15 e22 e23; first | with_reducible rfl | (simp only [plI, c7, c7', c8, eq_true c10, c16, oi1, nI_succ, bI, and_true, true_and, and_false, false_and, and_self, or_true, true_or, or_false, false_or, or_self, not_true_eq_false, not_false_eq_true, if_true, if_false, ↓reduceIte] <;> rfl) | rfl | (simp [plI, c7, c7', c8, eq_true c10, c16, bI, oi1, nI_succ]; done))
          have h25 : (plI g f r m (j3 + 1)).1 = z22 := (by subst e1 e2 e9 e15 e22 e23; first | with_reducible rfl | (simp only [plI, c7, c7', c8, eq_true c10, c16, oi1, nI_succ, bI, and_true, true_and, and_false, false_and, and_self, or_true, true_or, or_false, false_or, or_self, not_true_eq_false, not_false_eq_true, if_true, if_false, ↓reduceIte] <;> rfl) | rfl | (simp [plI, c7, c7', c8, eq_true c10, c16, bI, oi1, nI_succ]; done))
          have h26 : (plI g f r m (j3 + 1)).2.1 = z15 := (by subst e1 e2 e9 e15 e22 e23; first | with_reducible rfl | (simp only [plI, c7, c7', c8, eq_true c10, c16, oi1, nI_succ, bI, and_true, true_and, and_false, false_and, and_self, or_true, true_or, or_false, false_or, or_self, not_true_eq_false, not_false_eq_true, if_true, if_false, ↓reduceIte] <;> rfl) | rfl | (simp [plI, c7, c7', c8, eq_true c10, c16, bI, oi1, nI_succ]; done))
          refine V.weq (ws' := dW E d v0 v1 t u (nI (kN n)) (m) r a ((plI g f r m (j3 + 1)).2.2.1) ((plI g f r m (j3 + 1)).2.2.2) ++ tlW E v1 (kB n B) (kG n G g) (kG n K f)) (by subst e1 e2 e9 e15 e22 e23; first | with_reducible rfl | (simp only [plI, c7, c7', c8, eq_true c10, c16, oi1, nI_succ, bI, and_true, true_and, and_false, false_and, and_self, or_true, true_or, or_false, false_or, or_self, not_true_eq_false, not_false_eq_true, if_true, if_false, ↓reduceIte] <;> rfl) | rfl | (simp [plI, c7, c7', c8, eq_true c10, c16, bI, oi1, nI_succ]; done)) ?_
          exact ihj3 j3_lt trivial _ (lv_sub hl [0, 3, 2, 1, 4] (by rw [h24, h25, h26]; rfl))
set_option maxHeartbeats 4000000 in
set_option maxRecDepth 100000 in
theorem c_X6_play_t1 (l : Launch) (E : EV) {d v0 v1 t u : Nat} {a : Nat → Nat} {g : Nat → Int32} {f : Nat → Nat → Int32} {n m : Int32} {r : Nat → Int32} (h1 : ¬ (plC r m.toNatClampNeg = 8 ∨ plC r m.toNatClampNeg = 5)) (hst : l.stackTraces = false) : Th l E yX6_play cX6_play 5 (some .int) 7 139 [.ref d] (dW E d v0 v1 t u n m r a g f) xA := by
  refine Th.mk0 (by decide) (Nat.le_of_ble_eq_true rfl) ?_
  intro pP eE sS mM aA bB mt cC F hk hx hE ls hl
  have hl : lv_has ls 5 [(0, .ref d)] := hl
  refine V.aload_n F dX6_play_0 rfl (lv_at hl 0 rfl) ?_
  refine V.getf F hE gX6_26 0 rfl rfl dX6_play_1 ?_
  refine V.rdV (q0 := 1) F hE (c_X1_isComplete l E) (kX6_136 F.2.2.2.2 ⟨Nat.le_of_ble_eq_true rfl, Nat.le_of_ble_eq_true rfl⟩) rfl rfl [1, 2] rfl rfl hl.1 (Nat.le_of_ble_eq_true rfl) dX6_play_4 rfl ?_
  refine V.topi (fun z1 e1 => ?_)
  exact V.thS F hE hx hk (c_X6_requireArgument_t l E (by rw [e1, bI_f h1]) hst) (kX6_38 F.2.2.2.2 ⟨Nat.le_of_ble_eq_true rfl, Nat.le_of_ble_eq_true rfl⟩) [] rfl rfl hl.1 (Nat.le_of_ble_eq_true rfl) dX6_play_7 rfl ⟨Nat.le_of_ble_eq_true rfl, Nat.le_of_ble_eq_true rfl⟩
