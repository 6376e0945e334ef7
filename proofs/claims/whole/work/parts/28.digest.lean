set_option maxHeartbeats 4000000 in
set_option maxRecDepth 100000 in
theorem c_X6_countNumber (l : Launch) (E : EV) {d v0 v1 t u : Nat} {a : Nat → Nat} {g : Nat → Int32} {f : Nat → Nat → Int32} {n m : Int32} {r : Nat → Int32} {w : Int32} : Rd l E yX6_countNumber cX6_countNumber 2 (some .int) 5 119 [.ref d, .int w] (dW E d v0 v1 t u n m r a g f) (some (.int (cnuC g f n w))) := by
  refine Rd.mk0 (by decide) (Nat.le_of_ble_eq_true rfl) ?_
  intro pP eE sS mM aA bB mt cC F hr hk hE ls hl
  have hl : lv_has ls 2 [(0, .ref d), (1, .int w)] := hl
  refine V.iload_n F dX6_countNumber_0 rfl (lv_at hl 1 rfl) ?_
  by_cases c1 : w = 0
  · skip
    refine V.tableIn (tgt := 56) F dX6_countNumber_1 (by rw [c1]; decide) (by rw [c1]; decide) (by rw [c1]; rfl) (by decide) ?_
    refine V.aload_n F dX6_countNumber_56 rfl (lv_at hl 0 rfl) ?_
    refine V.getf F hE gX6_10 0 rfl rfl dX6_countNumber_57 ?_
    refine V.getfi F hE gX6_60 4 rfl rfl dX6_countNumber_60 (fun z2 e2 => ?_)
    exact V.iretR F hr hk dX6_countNumber_63 (by subst e2; first | with_reducible rfl | (simp only [cnuC, eq_true c1, oi1, nI_succ, bI, and_true, true_and, and_false, false_and, and_self, or_true, true_or, or_false, false_or, or_self, not_true_eq_false, not_false_eq_true, if_true, if_false, ↓reduceIte] <;> rfl) | rfl | (simp [cnuC, eq_true c1, bI, oi1, nI_succ]; done))
  by_cases c3 : w = 1
  · skip
    refine V.tableIn (tgt := 64) F dX6_countNumber_1 (by rw [c3]; decide) (by rw [c3]; decide) (by rw [c3]; rfl) (by decide) ?_
    refine V.aload_n F dX6_countNumber_64 rfl (lv_at hl 0 rfl) ?_
    refine V.getf F hE gX6_10 0 rfl rfl dX6_countNumber_65 ?_
    refine V.getfi F hE gX6_91 4 rfl rfl dX6_countNumber_68 (fun z4 e4 => ?_)
    exact V.iretR F hr hk dX6_countNumber_71 (by subst e4; first | with_reducible rfl | (simp only [cnuC, c1, eq_true c3, oi1, nI_succ, bI, and_true, true_and, and_false, false_and, and_self, or_true, true_or, or_false, false_or, or_self, not_true_eq_false, not_false_eq_true, if_true, if_false, ↓reduceIte] <;> rfl) | rfl | (simp [cnuC, c1, eq_true c3, bI, oi1, nI_succ]; done))
  by_cases c5 : w = 2
  · skip
    refine V.tableIn (tgt := 72) F dX6_countNumber_1 (by rw [c5]; decide) (by rw [c5]; decide) (by rw [c5]; rfl) (by decide) ?_
    refine V.aload_n F dX6_countNumber_72 rfl (lv_at hl 0 rfl) ?_
    refine V.getf F hE gX6_10 0 rfl rfl dX6_countNumber_73 ?_
    refine V.aload_n F dX6_countNumber_76 rfl (lv_at hl 0 rfl) ?_
    refine V.getf F hE gX6_10 0 rfl rfl dX6_countNumber_77 ?_
    refine V.getfi F hE gX6_60 4 rfl rfl dX6_countNumber_80 (fun z6 e6 => ?_)
    refine V.rsV (q0 := 4) F hE (c_X5_stepOn l E) (kX6_232 F.2.2.2.2 ⟨Nat.le_of_ble_eq_true rfl, Nat.le_of_ble_eq_true rfl⟩) rfl rfl 4 18 (by rfl) rfl hl.1 (Nat.le_of_ble_eq_true rfl) dX6_countNumber_83 rfl ?_
    refine V.topi (fun z7 e7 => ?_)
    exact V.iretR F hr hk dX6_countNumber_86 (by subst e6 e7; first | with_reducible rfl | (simp only [cnuC, c1, c3, eq_true c5, oi1, nI_succ, bI, and_true, true_and, and_false, false_and, and_self, or_true, true_or, or_false, false_or, or_self, not_true_eq_false, not_false_eq_true, if_true, if_false, ↓reduceIte] <;> rfl) | rfl | (simp [cnuC, c1, c3, eq_true c5, bI, oi1, nI_succ]; done))
  by_cases c8 : w = 3
  · skip
    refine V.tableIn (tgt := 87) F dX6_countNumber_1 (by rw [c8]; decide) (by rw [c8]; decide) (by rw [c8]; rfl) (by decide) ?_
    refine V.aload_n F dX6_countNumber_87 rfl (lv_at hl 0 rfl) ?_
    refine V.getf F hE gX6_10 0 rfl rfl dX6_countNumber_88 ?_
    refine V.rsV (q0 := 4) F hE (c_X5_lastInsuredDay l E) (kX6_235 F.2.2.2.2 ⟨Nat.le_of_ble_eq_true rfl, Nat.le_of_ble_eq_true rfl⟩) rfl rfl 4 18 (by rfl) rfl hl.1 (Nat.le_of_ble_eq_true rfl) dX6_countNumber_91 rfl ?_
    refine V.topi (fun z9 e9 => ?_)
    exact V.iretR F hr hk dX6_countNumber_94 (by subst e9; first | with_reducible rfl | (simp only [cnuC, c1, c3, c5, eq_true c8, oi1, nI_succ, bI, and_true, true_and, and_false, false_and, and_self, or_true, true_or, or_false, false_or, or_self, not_true_eq_false, not_false_eq_true, if_true, if_false, ↓reduceIte] <;> rfl) | rfl | (simp [cnuC, c1, c3, c5, eq_true c8, bI, oi1, nI_succ]; done))
  by_cases c10 : w = 4
  · skip
    refine V.tableIn (tgt := 95) F dX6_countNumber_1 (by rw [c10]; decide) (by rw [c10]; decide) (by rw [c10]; rfl) (by decide) ?_
    refine V.aload_n F dX6_countNumber_95 rfl (lv_at hl 0 rfl) ?_
    refine V.getf F hE gX6_10 0 rfl rfl dX6_countNumber_96 ?_
    refine V.getf F hE gX6_98 4 rfl rfl dX6_countNumber_99 ?_
    refine V.getfi F hE gX6_102 16 rfl rfl dX6_countNumber_102 (fun z11 e11 => ?_)
    exact V.iretR F hr hk dX6_countNumber_105 (by subst e11; first | with_reducible rfl | (simp only [cnuC, c1, c3, c5, c8, eq_true c10, oi1, nI_succ, bI, and_true, true_and, and_false, false_and, and_self, or_true, true_or, or_false, false_or, or_self, not_true_eq_false, not_false_eq_true, if_true, if_false, ↓reduceIte] <;> rfl) | rfl | (simp [cnuC, c1, c3, c5, c8, eq_true c10, bI, oi1, nI_succ]; done))
  by_cases c12 : w = 5
  · skip
    refine V.tableIn (tgt := 106) F dX6_countNumber_1 (by rw [c12]; decide) (by rw [c12]; decide) (by rw [c12]; rfl) (by decide) ?_
    refine V.aload_n F dX6_countNumber_106 rfl (lv_at hl 0 rfl) ?_
    refine V.getf F hE gX6_10 0 rfl rfl dX6_countNumber_107 ?_
    refine V.getf F hE gX6_98 4 rfl rfl dX6_countNumber_110 ?_
    refine V.rdV (q0 := 16) F hE (c_X4_shotOnes l E) (kX6_238 F.2.2.2.2 ⟨Nat.le_of_ble_eq_true rfl, Nat.le_of_ble_eq_true rfl⟩) rfl rfl [16, 17, 18, 19, 20, 21] rfl rfl hl.1 (Nat.le_of_ble_eq_true rfl) dX6_countNumber_113 rfl ?_
    refine V.topi (fun z13 e13 => ?_)
    exact V.iretR F hr hk dX6_countNumber_116 (by subst e13; first | with_reducible rfl | (simp only [cnuC, c1, c3, c5, c8, c10, eq_true c12, oi1, nI_succ, bI, and_true, true_and, and_false, false_and, and_self, or_true, true_or, or_false, false_or, or_self, not_true_eq_false, not_false_eq_true, if_true, if_false, ↓reduceIte] <;> rfl) | rfl | (simp [cnuC, c1, c3, c5, c8, c10, eq_true c12, bI, oi1, nI_succ]; done))
  by_cases c14 : w = 6
  · skip
    refine V.tableIn (tgt := 117) F dX6_countNumber_1 (by rw [c14]; decide) (by rw [c14]; decide) (by rw [c14]; rfl) (by decide) ?_
    refine V.aload_n F dX6_countNumber_117 rfl (lv_at hl 0 rfl) ?_
    refine V.getf F hE gX6_10 0 rfl rfl dX6_countNumber_118 ?_
    refine V.getf F hE gX6_98 4 rfl rfl dX6_countNumber_121 ?_
    refine V.rdV (q0 := 16) F hE (c_X4_shotByDoubles l E) (kX6_241 F.2.2.2.2 ⟨Nat.le_of_ble_eq_true rfl, Nat.le_of_ble_eq_true rfl⟩) rfl rfl [16, 17, 18, 19, 20, 21] rfl rfl hl.1 (Nat.le_of_ble_eq_true rfl) dX6_countNumber_124 rfl ?_
    refine V.topi (fun z15 e15 => ?_)
    exact V.iretR F hr hk dX6_countNumber_127 (by subst e15; first | with_reducible rfl | (simp only [cnuC, c1, c3, c5, c8, c10, c12, eq_true c14, oi1, nI_succ, bI, and_true, true_and, and_false, false_and, and_self, or_true, true_or, or_false, false_or, or_self, not_true_eq_false, not_false_eq_true, if_true, if_false, ↓reduceIte] <;> rfl) | rfl | (simp [cnuC, c1, c3, c5, c8, c10, c12, eq_true c14, bI, oi1, nI_succ]; done))
  by_cases c16 : w = 7
  · skip
    refine V.tableIn (tgt := 128) F dX6_countNumber_1 (by rw [c16]; decide) (by rw [c16]; decide) (by rw [c16]; rfl) (by decide) ?_
    refine V.aload_n F dX6_countNumber_128 rfl (lv_at hl 0 rfl) ?_
    refine V.getf F hE gX6_10 0 rfl rfl dX6_countNumber_129 ?_
    refine V.getfi F hE gX6_244 4 rfl rfl dX6_countNumber_132 (fun z17 e17 => ?_)
    exact V.iretR F hr hk dX6_countNumber_135 (by subst e17; first | with_reducible rfl | (simp only [cnuC, c1, c3, c5, c8, c10, c12, c14, eq_true c16, oi1, nI_succ, bI, and_true, true_and, and_false, false_and, and_self, or_true, true_or, or_false, false_or, or_self, not_true_eq_false, not_false_eq_true, if_true, if_false, ↓reduceIte] <;> rfl) | rfl | (simp [cnuC, c1, c3, c5, c8, c10, c12, c14, eq_true c16, bI, oi1, nI_succ]; done))
  by_cases c18 : w = 8
  · skip
    refine V.tableIn (tgt := 136) F dX6_countNumber_1 (by rw [c18]; decide) (by rw [c18]; decide) (by rw [c18]; rfl) (by decide) ?_
    refine V.aload_n F dX6_countNumber_136 rfl (lv_at hl 0 rfl) ?_
    refine V.getf F hE gX6_10 0 rfl rfl dX6_countNumber_137 ?_
    refine V.getfi F hE gX6_247 4 rfl rfl dX6_countNumber_140 (fun z19 e19 => ?_)
    exact V.iretR F hr hk dX6_countNumber_143 (by subst e19; first | with_reducible rfl | (simp only [cnuC, c1, c3, c5, c8, c10, c12, c14, c16, eq_true c18, oi1, nI_succ, bI, and_true, true_and, and_false, false_and, and_self, or_true, true_or, or_false, false_or, or_self, not_true_eq_false, not_false_eq_true, if_true, if_false, ↓reduceIte] <;> rfl) | rfl | (simp [cnuC, c1, c3, c5, c8, c10, c12, c14, c16, eq_true c18, bI, oi1, nI_succ]; done))
  by_cases c20 : w = 9
  · skip
    refine V.tableIn (tgt := 144) F dX6_countNumber_1 (by rw [c20]; decide) (by rw [c20]; decide) (by rw [c20]; rfl) (by decide) ?_
    refine V.aload_n F dX6_countNumber_144 rfl (lv_at hl 0 rfl) ?_
    refine V.getf F hE gX6_10 0 rfl rfl dX6_countNumber_145 ?_
    refine V.rsV (q0 := 4) F hE (c_X5_scenesSomebodyCouldShoot l E) (kX6_250 F.2.2.2.2 ⟨Nat.le_of_ble_eq_true rfl, Nat.le_of_ble_eq_true rfl⟩) rfl rfl 4 18 (by rfl) rfl hl.1 (Nat.le_of_ble_eq_true rfl) dX6_countNumber_148 rfl ?_
    refine V.topi (fun z21 e21 => ?_)
    exact V.iretR F hr hk dX6_countNumber_151 (by subst e21; first | with_reducible rfl | (simp only [cnuC, c1, c3, c5, c8, c10, c12, c14, c16, c18, eq_true c20, oi1, nI_succ, bI, and_true, true_and, and_false, false_and, and_self, or_true, true_or, or_false, false_or, or_self, not_true_eq_false, not_false_eq_true, if_true, if_false, ↓reduceIte] <;> rfl) | rfl | (simp [cnuC, c1, c3, c5, c8, c10, c12, c14, c16, c18, eq_true c20, bI, oi1, nI_succ]; done))
  refine V.tableOut (tgt := 152) F dX6_countNumber_1 (sw_out fun i h1 h2 => by rcases (show i = 0 ∨ i = 1 ∨ i = 2 ∨ i = 3 ∨ i = 4 ∨ i = 5 ∨ i = 6 ∨ i = 7 ∨ i = 8 ∨ i = 9 by omega) with rfl | rfl | rfl | rfl | rfl | rfl | rfl | rfl | rfl | rfl <;> assumption) (by decide) ?_
  refine V.aload_n F dX6_countNumber_152 rfl (lv_at hl 0 rfl) ?_
  refine V.getf F hE gX6_19 0 rfl rfl dX6_countNumber_153 ?_
  refine V.getfi F hE gX6_146 3 rfl rfl dX6_countNumber_156 (fun z22 e22 => ?_)
  exact V.iretR F hr hk dX6_countNumber_159 (by subst e22; first | with_reducible rfl | (simp only [cnuC, c1, c3, c5, c8, c10, c12, c14, c16, c18, c20, oi1, nI_succ, bI, and_true, true_and, and_false, false_and, and_self, or_true, true_or, or_false, false_or, or_self, not_true_eq_false, not_false_eq_true, if_true, if_false, ↓reduceIte] <;> rfl) | rfl | (simp [cnuC, c1, c3, c5, c8, c10, c12, c14, c16, c18, c20, bI, oi1, nI_succ]; done))
set_option maxHeartbeats 4000000 in
set_option maxRecDepth 100000 in
theorem c_X6_mixedWithPerson (l : Launch) (E : EV) {d v0 v1 t u : Nat} {a : Nat → Nat} {g : Nat → Int32} {f : Nat → Nat → Int32} {n m : Int32} {r : Nat → Int32} {h : Int64} {p : Int32} : Rd l E yX6_mixedWithPerson cX6_mixedWithPerson 7 (some .long) 5 121 [.ref d, .long h, .int p] (dW E d v0 v1 t u n m r a g f) (some (.long (mpC g f h p))) := by
  refine Rd.mk0 (by decide) (Nat.le_of_ble_eq_true rfl) ?_
  intro pP eE sS mM aA bB mt cC F hr hk hE ls hl
  have hl : lv_has ls 7 [(0, .ref d), (1, .long h), (3, .int p)] := hl
  refine V.lload_n F dX6_mixedWithPerson_0 rfl (lv_at hl 1 rfl) ?_
  refine V.lstore (lv' := [(4, .long h), (0, .ref d), (1, .long h), (3, .int p)]) F dX6_mixedWithPerson_1 hl (by decide) rfl (fun ls hl => ?_)
  refine V.iconst (v := 0) F dX6_mixedWithPerson_3 (by decide) ?_
  refine V.istore (lv' := [(6, .int 0), (4, .long h), (0, .ref d), (1, .long h), (3, .int p)]) F dX6_mixedWithPerson_4 hl (by decide) rfl (fun ls hl => ?_)
  have h2 : nI 0 = 0 := (by first | with_reducible rfl | (simp only [mpC, mpA, mpB, oi1, nI_succ, bI, and_true, true_and, and_false, false_and, and_self, or_true, true_or, or_false, false_or, or_self, not_true_eq_false, not_false_eq_true, if_true, if_false, ↓reduceIte] <;> rfl) | rfl | (simp [mpC, mpA, mpB, bI, oi1, nI_succ]; done))
  have h3 : mpA g f h p 0 = h := (by first | with_reducible rfl | (simp only [mpC, mpA, mpB, oi1, nI_succ, bI, and_true, true_and, and_false, false_and, and_self, or_true, true_or, or_false, false_or, or_self, not_true_eq_false, not_false_eq_true, if_true, if_false, ↓reduceIte] <;> rfl) | rfl | (simp [mpC, mpA, mpB, bI, oi1, nI_succ]; done))
  refine V.loop (N := 7) (k0 := 0) (I := (fun j1 : Nat => [(6, .int (nI j1)), (4, .long (mpA g f h p j1)), (0, .ref d), (1, .long h), (3, .int p)])) (J := fun _ => True) (Nat.zero_le _) trivial (lv_sub hl [0, 1, 2, 3, 4] (by rw [h2, h3]; rfl)) ?_
  intro j1 j1_N j1_J ihj1 ls hl
  have hl : lv_has ls 7 [(6, .int (nI j1)), (4, .long (mpA g f h p j1)), (0, .ref d), (1, .long h), (3, .int p)] := hl
  refine V.iload F dX6_mixedWithPerson_6 (lv_at hl 0 rfl) ?_
  refine V.bipush (v := 6) F dX6_mixedWithPerson_8 (by decide) ?_
  refine V.icmp_gt (tgt := 37) F dX6_mixedWithPerson_10 (by decide) (fun c4 c4' => ?_) (fun c4 c4' => ?_)
  · skip
    have j1_eq := ((lpG (by rfl) (by decide) j1_N).1 c4).symm
    subst j1_eq
    refine V.iconst (v := 0) F dX6_mixedWithPerson_37 (by decide) ?_
    refine V.istore (lv' := [(6, .int 0), (4, .long (mpA g f h p 7)), (0, .ref d), (1, .long h), (3, .int p)]) F dX6_mixedWithPerson_38 hl (by decide) rfl (fun ls hl => ?_)
    have h6 : nI 0 = 0 := (by first | with_reducible rfl | (simp only [mpC, mpA, mpB, c4, c4', oi1, nI_succ, bI, and_true, true_and, and_false, false_and, and_self, or_true, true_or, or_false, false_or, or_self, not_true_eq_false, not_false_eq_true, if_true, if_false, ↓reduceIte] <;> rfl) | rfl | (simp [mpC, mpA, mpB, c4, c4', bI, oi1, nI_succ]; done))
    have h7 : mpB g f (mpA g f h p 7) p 0 = mpA g f h p 7 := (by first | with_reducible rfl | (simp only [mpC, mpA, mpB, c4, c4', oi1, nI_succ, bI, and_true, true_and, and_false, false_and, and_self, or_true, true_or, or_false, false_or, or_self, not_true_eq_false, not_false_eq_true, if_true, if_false, ↓reduceIte] <;> rfl) | rfl | (simp [mpC, mpA, mpB, c4, c4', bI, oi1, nI_succ]; done))
    refine V.loop (N := 6) (k0 := 0) (I := (fun i5 : Nat => [(6, .int (nI i5)), (4, .long (mpB g f (mpA g f h p 7) p i5)), (0, .ref d), (1, .long h), (3, .int p)])) (J := fun _ => True) (Nat.zero_le _) trivial (lv_sub hl [0, 1, 2, 3, 4] (by rw [h6, h7]; rfl)) ?_
    intro i5 i5_N i5_J ihi5 ls hl
    have hl : lv_has ls 7 [(6, .int (nI i5)), (4, .long (mpB g f (mpA g f h p 7) p i5)), (0, .ref d), (1, .long h), (3, .int p)] := hl
    refine V.iload F dX6_mixedWithPerson_40 (lv_at hl 0 rfl) ?_
    refine V.bipush (v := 6) F dX6_mixedWithPerson_42 (by decide) ?_
    refine V.icmp_ge (tgt := 82) F dX6_mixedWithPerson_44 (by decide) (fun c8 c8' => ?_) (fun c8 c8' => ?_)
    · skip
      have i5_eq := ((lpL (by rfl) (by decide) i5_N).1 c8).symm
      subst i5_eq
      refine V.lload F dX6_mixedWithPerson_82 (lv_at hl 1 rfl) ?_
      refine V.aload_n F dX6_mixedWithPerson_84 rfl (lv_at hl 2 rfl) ?_
      refine V.getf F hE gX6_10 0 rfl rfl dX6_mixedWithPerson_85 ?_
      refine V.iload_n F dX6_mixedWithPerson_88 rfl (lv_at hl 4 rfl) ?_
      refine V.bipush (v := 16) F dX6_mixedWithPerson_89 (by decide) ?_
      refine V.rsV (q0 := 4) F hE (c_X5_scenesStoppedBy l E) (kX6_197 F.2.2.2.2 ⟨Nat.le_of_ble_eq_true rfl, Nat.le_of_ble_eq_true rfl⟩) rfl rfl 4 18 (by rfl) rfl hl.1 (Nat.le_of_ble_eq_true rfl) dX6_mixedWithPerson_91 rfl ?_
      refine V.topi (fun z9 e9 => ?_)
      refine V.i2l F dX6_mixedWithPerson_94 (fun z10 e10 => ?_)
      refine V.rdS F hE (c_X6_mixed l E) (kX6_206 F.2.2.2.2 ⟨Nat.le_of_ble_eq_true rfl, Nat.le_of_ble_eq_true rfl⟩) [] rfl rfl hl.1 (Nat.le_of_ble_eq_true rfl) dX6_mixedWithPerson_95 rfl ?_
      refine V.topl (fun z11 e11 => ?_)
      exact V.lretR F hr hk dX6_mixedWithPerson_98 (by subst e9 e10 e11; first | with_reducible rfl | (simp only [mpC, mpA, mpB, c4, c4', c8, c8', oi1, nI_succ, bI, and_true, true_and, and_false, false_and, and_self, or_true, true_or, or_false, false_or, or_self, not_true_eq_false, not_false_eq_true, if_true, if_false, ↓reduceIte] <;> rfl) | rfl | (simp [mpC, mpA, mpB, c4, c4', c8, c8', bI, oi1, nI_succ]; done))
    · skip
      have i5_lt := (lpL (by rfl) (by decide) i5_N).2 c8
      refine V.lload F dX6_mixedWithPerson_47 (lv_at hl 1 rfl) ?_
      refine V.aload_n F dX6_mixedWithPerson_49 rfl (lv_at hl 2 rfl) ?_
      refine V.getf F hE gX6_10 0 rfl rfl dX6_mixedWithPerson_50 ?_
      refine V.getf F hE gX6_155 4 rfl rfl dX6_mixedWithPerson_53 ?_
      refine V.aload_n F dX6_mixedWithPerson_56 rfl (lv_at hl 2 rfl) ?_
      refine V.getf F hE gX6_10 0 rfl rfl dX6_mixedWithPerson_57 ?_
      refine V.getfi F hE gX6_60 4 rfl rfl dX6_mixedWithPerson_60 (fun z12 e12 => ?_)
      refine V.iload_n F dX6_mixedWithPerson_63 rfl (lv_at hl 4 rfl) ?_
      refine V.iload F dX6_mixedWithPerson_64 (lv_at hl 0 rfl) ?_
      refine V.iconst (v := 2) F dX6_mixedWithPerson_66 (by decide) ?_
      refine V.rdV (q0 := 7) F hE (c_X2_countingOn l E) (kX6_159 F.2.2.2.2 ⟨Nat.le_of_ble_eq_true rfl, Nat.le_of_ble_eq_true rfl⟩) rfl rfl [7, 8, 9, 10, 11] rfl rfl hl.1 (Nat.le_of_ble_eq_true rfl) dX6_mixedWithPerson_67 rfl ?_
      refine V.topi (fun z13 e13 => ?_)
      refine V.i2l F dX6_mixedWithPerson_70 (fun z14 e14 => ?_)
      refine V.rdS F hE (c_X6_mixed l E) (kX6_206 F.2.2.2.2 ⟨Nat.le_of_ble_eq_true rfl, Nat.le_of_ble_eq_true rfl⟩) [] rfl rfl hl.1 (Nat.le_of_ble_eq_true rfl) dX6_mixedWithPerson_71 rfl ?_
      refine V.topl (fun z15 e15 => ?_)
      refine V.lstore (lv' := [(4, .long z15), (6, .int (nI i5)), (0, .ref d), (1, .long h), (3, .int p)]) F dX6_mixedWithPerson_74 hl (by decide) rfl (fun ls hl => ?_)
      refine V.iinc (j := 1) (lv' := fun z16 => [(6, .int z16), (4, .long z15), (0, .ref d), (1, .long h), (3, .int p)]) F dX6_mixedWithPerson_76 hl rfl (by decide) (fun _ => rfl) (fun z16 e16 ls hl => ?_)
      refine V.goto (tgt := 40) F dX6_mixedWithPerson_79 (by decide) ?_
      have h17 : nI (i5 + 1) = z16 := (by subst e12 e13 e14 e15 e16; first | with_reducible rfl | (simp only [mpC, mpA, mpB, c4, c4', c8, c8', oi1, nI_succ, bI, and_true, true_and, and_false, false_and, and_self, or_true, true_or, or_false, false_or, or_self, not_true_eq_false, not_false_eq_true, if_true, if_false, ↓reduceIte] <;> rfl) | rfl | (simp [mpC, mpA, mpB, c4, c4', c8, c8', bI, oi1, nI_succ]; done))
      have h18 : mpB g f (mpA g f h p 7) p (i5 + 1) = z15 := (by subst e12 e13 e14 e15 e16; first | with_reducible rfl | (simp only [mpC, mpA, mpB, c4, c4', c8, c8', oi1, nI_succ, bI, and_true, true_and, and_false, false_and, and_self, or_true, true_or, or_false, false_or, or_self, not_true_eq_false, not_false_eq_true, if_true, if_false, ↓reduceIte] <;> rfl) | rfl | (simp [mpC, mpA, mpB, c4, c4', c8, c8', bI, oi1, nI_succ]; done))
      exact ihi5 i5_lt trivial _ (lv_sub hl [0, 1, 2, 3, 4] (by rw [h17, h18]; rfl))
  · skip
    have j1_lt := (lpG (by rfl) (by decide) j1_N).2 c4
    refine V.lload F dX6_mixedWithPerson_13 (lv_at hl 1 rfl) ?_
    refine V.aload_n F dX6_mixedWithPerson_15 rfl (lv_at hl 2 rfl) ?_
    refine V.getf F hE gX6_10 0 rfl rfl dX6_mixedWithPerson_16 ?_
    refine V.iload_n F dX6_mixedWithPerson_19 rfl (lv_at hl 4 rfl) ?_
    refine V.iload F dX6_mixedWithPerson_20 (lv_at hl 0 rfl) ?_
    refine V.rsV (q0 := 4) F hE (c_X5_personNumber l E) (kX6_152 F.2.2.2.2 ⟨Nat.le_of_ble_eq_true rfl, Nat.le_of_ble_eq_true rfl⟩) rfl rfl 4 18 (by rfl) rfl hl.1 (Nat.le_of_ble_eq_true rfl) dX6_mixedWithPerson_22 rfl ?_
    refine V.topi (fun z19 e19 => ?_)
    refine V.i2l F dX6_mixedWithPerson_25 (fun z20 e20 => ?_)
    refine V.rdS F hE (c_X6_mixed l E) (kX6_206 F.2.2.2.2 ⟨Nat.le_of_ble_eq_true rfl, Nat.le_of_ble_eq_true rfl⟩) [] rfl rfl hl.1 (Nat.le_of_ble_eq_true rfl) dX6_mixedWithPerson_26 rfl ?_
    refine V.topl (fun z21 e21 => ?_)
    refine V.lstore (lv' := [(4, .long z21), (6, .int (nI j1)), (0, .ref d), (1, .long h), (3, .int p)]) F dX6_mixedWithPerson_29 hl (by decide) rfl (fun ls hl => ?_)
    refine V.iinc (j := 1) (lv' := fun z22 => [(6, .int z22), (4, .long z21), (0, .ref d), (1, .long h), (3, .int p)]) F dX6_mixedWithPerson_31 hl rfl (by decide) (fun _ => rfl) (fun z22 e22 ls hl => ?_)
    refine V.goto (tgt := 6) F dX6_mixedWithPerson_34 (by decide) ?_
    have h23 : nI (j1 + 1) = z22 := (by subst e19 e20 e21 e22; first | with_reducible rfl | (simp only [mpC, mpA, mpB, c4, c4', oi1, nI_succ, bI, and_true, true_and, and_false, false_and, and_self, or_true, true_or, or_false, false_or, or_self, not_true_eq_false, not_false_eq_true, if_true, if_false, ↓reduceIte] <;> rfl) | rfl | (simp [mpC, mpA, mpB, c4, c4', bI, oi1, nI_succ]; done))
    have h24 : mpA g f h p (j1 + 1) = z21 := (by subst e19 e20 e21 e22; first | with_reducible rfl | (simp only [mpC, mpA, mpB, c4, c4', oi1, nI_succ, bI, and_true, true_and, and_false, false_and, and_self, or_true, true_or, or_false, false_or, or_self, not_true_eq_false, not_false_eq_true, if_true, if_false, ↓reduceIte] <;> rfl) | rfl | (simp [mpC, mpA, mpB, c4, c4', bI, oi1, nI_succ]; done))
    exact ihj1 j1_lt trivial _ (lv_sub hl [0, 1, 2, 3, 4] (by rw [h23, h24]; rfl))
set_option maxHeartbeats 4000000 in
set_option maxRecDepth 100000 in
theorem c_X6_mixedWithScene (l : Launch) (E : EV) {d v0 v1 t u : Nat} {a : Nat → Nat} {g : Nat → Int32} {f : Nat → Nat → Int32} {n m : Int32} {r : Nat → Int32} {h : Int64} {x : Int32} : Rd l E yX6_mixedWithScene cX6_mixedWithScene 7 (some .long) 5 120 [.ref d, .long h, .int x] (dW E d v0 v1 t u n m r a g f) (some (.long (msC g f h x))) := by
  refine Rd.mk0 (by decide) (Nat.le_of_ble_eq_true rfl) ?_
  intro pP eE sS mM aA bB mt cC F hr hk hE ls hl
  have hl : lv_has ls 7 [(0, .ref d), (1, .long h), (3, .int x)] := hl
  refine V.lload_n F dX6_mixedWithScene_0 rfl (lv_at hl 1 rfl) ?_
  refine V.lstore (lv' := [(4, .long h), (0, .ref d), (1, .long h), (3, .int x)]) F dX6_mixedWithScene_1 hl (by decide) rfl (fun ls hl => ?_)
  refine V.iconst (v := 0) F dX6_mixedWithScene_3 (by decide) ?_
  refine V.istore (lv' := [(6, .int 0), (4, .long h), (0, .ref d), (1, .long h), (3, .int x)]) F dX6_mixedWithScene_4 hl (by decide) rfl (fun ls hl => ?_)
  have h2 : nI 0 = 0 := (by first | with_reducible rfl | (simp only [msC, msA, msB, oi1, nI_succ, bI, and_true, true_and, and_false, false_and, and_self, or_true, true_or, or_false, false_or, or_self, not_true_eq_false, not_false_eq_true, if_true, if_false, ↓reduceIte] <;> rfl) | rfl | (simp [msC, msA, msB, bI, oi1, nI_succ]; done))
  have h3 : msA g f h x 0 = h := (by first | with_reducible rfl | (simp only [msC, msA, msB, oi1, nI_succ, bI, and_true, true_and, and_false, false_and, and_self, or_true, true_or, or_false, false_or, or_self, not_true_eq_false, not_false_eq_true, if_true, if_false, ↓reduceIte] <;> rfl) | rfl | (simp [msC, msA, msB, bI, oi1, nI_succ]; done))
  refine V.loop (N := 6) (k0 := 0) (I := (fun j1 : Nat => [(6, .int (nI j1)), (4, .long (msA g f h x j1)), (0, .ref d), (1, .long h), (3, .int x)])) (J := fun _ => True) (Nat.zero_le _) trivial (lv_sub hl [0, 1, 2, 3, 4] (by rw [h2, h3]; rfl)) ?_
  intro j1 j1_N j1_J ihj1 ls hl
  have hl : lv_has ls 7 [(6, .int (nI j1)), (4, .long (msA g f h x j1)), (0, .ref d), (1, .long h), (3, .int x)] := hl
  refine V.iload F dX6_mixedWithScene_6 (lv_at hl 0 rfl) ?_
  refine V.iconst (v := 5) F dX6_mixedWithScene_8 (by decide) ?_
  refine V.icmp_gt (tgt := 36) F dX6_mixedWithScene_9 (by decide) (fun c4 c4' => ?_) (fun c4 c4' => ?_)
  · skip
    have j1_eq := ((lpG (by rfl) (by decide) j1_N).1 c4).symm
    subst j1_eq
    refine V.lload F dX6_mixedWithScene_36 (lv_at hl 1 rfl) ?_
    refine V.aload_n F dX6_mixedWithScene_38 rfl (lv_at hl 2 rfl) ?_
    refine V.getf F hE gX6_10 0 rfl rfl dX6_mixedWithScene_39 ?_
    refine V.iload_n F dX6_mixedWithScene_42 rfl (lv_at hl 4 rfl) ?_
    refine V.rsV (q0 := 4) F hE (c_X5_bestFor l E) (kX6_194 F.2.2.2.2 ⟨Nat.le_of_ble_eq_true rfl, Nat.le_of_ble_eq_true rfl⟩) rfl rfl 4 18 (by rfl) rfl hl.1 (Nat.le_of_ble_eq_true rfl) dX6_mixedWithScene_43 rfl ?_
    refine V.topi (fun z5 e5 => ?_)
    refine V.i2l F dX6_mixedWithScene_46 (fun z6 e6 => ?_)
    refine V.rdS F hE (c_X6_mixed l E) (kX6_206 F.2.2.2.2 ⟨Nat.le_of_ble_eq_true rfl, Nat.le_of_ble_eq_true rfl⟩) [] rfl rfl hl.1 (Nat.le_of_ble_eq_true rfl) dX6_mixedWithScene_47 rfl ?_
    refine V.topl (fun z7 e7 => ?_)
    refine V.lstore (lv' := [(4, .long z7), (6, .int (nI 6)), (0, .ref d), (1, .long h), (3, .int x)]) F dX6_mixedWithScene_50 hl (by decide) rfl (fun ls hl => ?_)
    refine V.iconst (v := 0) F dX6_mixedWithScene_52 (by decide) ?_
    refine V.istore (lv' := [(6, .int 0), (4, .long z7), (0, .ref d), (1, .long h), (3, .int x)]) F dX6_mixedWithScene_53 hl (by decide) rfl (fun ls hl => ?_)
    have h9 : nI 0 = 0 := (by subst e5 e6 e7; first | with_reducible rfl | (simp only [msC, msA, msB, c4, c4', oi1, nI_succ, bI, and_true, true_and, and_false, false_and, and_self, or_true, true_or, or_false, false_or, or_self, not_true_eq_false, not_false_eq_true, if_true, if_false, ↓reduceIte] <;> rfl) | rfl | (simp [msC, msA, msB, c4, c4', bI, oi1, nI_succ]; done))
    have h10 : msB g f (31 * msA g f h x 6 + (bstC g f x).toInt64) x 0 = z7 := (by subst e5 e6 e7; first | with_reducible rfl | (simp only [msC, msA, msB, c4, c4', oi1, nI_succ, bI, and_true, true_and, and_false, false_and, and_self, or_true, true_or, or_false, false_or, or_self, not_true_eq_false, not_false_eq_true, if_true, if_false, ↓reduceIte] <;> rfl) | rfl | (simp [msC, msA, msB, c4, c4', bI, oi1, nI_succ]; done))
    refine V.loop (N := 8) (k0 := 0) (I := (fun i8 : Nat => [(6, .int (nI i8)), (4, .long (msB g f (31 * msA g f h x 6 + (bstC g f x).toInt64) x i8)), (0, .ref d), (1, .long h), (3, .int x)])) (J := fun _ => True) (Nat.zero_le _) trivial (lv_sub hl [0, 1, 2, 3, 4] (by rw [h9, h10]; rfl)) ?_
    intro i8 i8_N i8_J ihi8 ls hl
    have hl : lv_has ls 7 [(6, .int (nI i8)), (4, .long (msB g f (31 * msA g f h x 6 + (bstC g f x).toInt64) x i8)), (0, .ref d), (1, .long h), (3, .int x)] := hl
    refine V.iload F dX6_mixedWithScene_55 (lv_at hl 0 rfl) ?_
    refine V.bipush (v := 8) F dX6_mixedWithScene_57 (by decide) ?_
    refine V.icmp_ge (tgt := 129) F dX6_mixedWithScene_59 (by decide) (fun c11 c11' => ?_) (fun c11 c11' => ?_)
    · skip
      have i8_eq := ((lpL (by rfl) (by decide) i8_N).1 c11).symm
      subst i8_eq
      refine V.lload F dX6_mixedWithScene_129 (lv_at hl 1 rfl) ?_
      exact V.lretR F hr hk dX6_mixedWithScene_131 (by subst e5 e6 e7; first | with_reducible rfl | (simp only [msC, msA, msB, c4, c4', c11, c11', oi1, nI_succ, bI, and_true, true_and, and_false, false_and, and_self, or_true, true_or, or_false, false_or, or_self, not_true_eq_false, not_false_eq_true, if_true, if_false, ↓reduceIte] <;> rfl) | rfl | (simp [msC, msA, msB, c4, c4', c11, c11', bI, oi1, nI_succ]; done))
    · skip
      have i8_lt := (lpL (by rfl) (by decide) i8_N).2 c11
      refine V.lload F dX6_mixedWithScene_62 (lv_at hl 1 rfl) ?_
      refine V.aload_n F dX6_mixedWithScene_64 rfl (lv_at hl 2 rfl) ?_
      refine V.getf F hE gX6_10 0 rfl rfl dX6_mixedWithScene_65 ?_
      refine V.aload_n F dX6_mixedWithScene_68 rfl (lv_at hl 2 rfl) ?_
      refine V.getf F hE gX6_10 0 rfl rfl dX6_mixedWithScene_69 ?_
      refine V.getfi F hE gX6_60 4 rfl rfl dX6_mixedWithScene_72 (fun z12 e12 => ?_)
      refine V.iload_n F dX6_mixedWithScene_75 rfl (lv_at hl 4 rfl) ?_
      refine V.iload F dX6_mixedWithScene_76 (lv_at hl 0 rfl) ?_
      refine V.rsV (q0 := 4) F hE (c_X5_reasonOn l E) (kX6_185 F.2.2.2.2 ⟨Nat.le_of_ble_eq_true rfl, Nat.le_of_ble_eq_true rfl⟩) rfl rfl 4 18 (by rfl) rfl hl.1 (Nat.le_of_ble_eq_true rfl) dX6_mixedWithScene_78 rfl ?_
      refine V.topi (fun z13 e13 => ?_)
      refine V.i2l F dX6_mixedWithScene_81 (fun z14 e14 => ?_)
      refine V.rdS F hE (c_X6_mixed l E) (kX6_206 F.2.2.2.2 ⟨Nat.le_of_ble_eq_true rfl, Nat.le_of_ble_eq_true rfl⟩) [] rfl rfl hl.1 (Nat.le_of_ble_eq_true rfl) dX6_mixedWithScene_82 rfl ?_
      refine V.topl (fun z15 e15 => ?_)
      refine V.lstore (lv' := [(4, .long z15), (6, .int (nI i8)), (0, .ref d), (1, .long h), (3, .int x)]) F dX6_mixedWithScene_85 hl (by decide) rfl (fun ls hl => ?_)
      refine V.lload F dX6_mixedWithScene_87 (lv_at hl 0 rfl) ?_
      refine V.aload_n F dX6_mixedWithScene_89 rfl (lv_at hl 2 rfl) ?_
      refine V.getf F hE gX6_10 0 rfl rfl dX6_mixedWithScene_90 ?_
      refine V.iload_n F dX6_mixedWithScene_93 rfl (lv_at hl 4 rfl) ?_
      refine V.iload F dX6_mixedWithScene_94 (lv_at hl 1 rfl) ?_
      refine V.rsV (q0 := 4) F hE (c_X5_rehearsalsLacking l E) (kX6_191 F.2.2.2.2 ⟨Nat.le_of_ble_eq_true rfl, Nat.le_of_ble_eq_true rfl⟩) rfl rfl 4 18 (by rfl) rfl hl.1 (Nat.le_of_ble_eq_true rfl) dX6_mixedWithScene_96 rfl ?_
      refine V.topi (fun z16 e16 => ?_)
      refine V.i2l F dX6_mixedWithScene_99 (fun z17 e17 => ?_)
      refine V.rdS F hE (c_X6_mixed l E) (kX6_206 F.2.2.2.2 ⟨Nat.le_of_ble_eq_true rfl, Nat.le_of_ble_eq_true rfl⟩) [] rfl rfl hl.1 (Nat.le_of_ble_eq_true rfl) dX6_mixedWithScene_100 rfl ?_
      refine V.topl (fun z18 e18 => ?_)
      refine V.lstore (lv' := [(4, .long z18), (6, .int (nI i8)), (0, .ref d), (1, .long h), (3, .int x)]) F dX6_mixedWithScene_103 hl (by decide) rfl (fun ls hl => ?_)
      refine V.lload F dX6_mixedWithScene_105 (lv_at hl 0 rfl) ?_
      refine V.aload_n F dX6_mixedWithScene_107 rfl (lv_at hl 2 rfl) ?_
      refine V.getf F hE gX6_10 0 rfl rfl dX6_mixedWithScene_108 ?_
      refine V.iload_n F dX6_mixedWithScene_111 rfl (lv_at hl 4 rfl) ?_
      refine V.iload F dX6_mixedWithScene_112 (lv_at hl 1 rfl) ?_
      refine V.rsV (q0 := 4) F hE (c_X5_firstClearedDay l E) (kX6_188 F.2.2.2.2 ⟨Nat.le_of_ble_eq_true rfl, Nat.le_of_ble_eq_true rfl⟩) rfl rfl 4 18 (by rfl) rfl hl.1 (Nat.le_of_ble_eq_true rfl) dX6_mixedWithScene_114 rfl ?_
      refine V.topi (fun z19 e19 => ?_)
      refine V.i2l F dX6_mixedWithScene_117 (fun z20 e20 => ?_)
      refine V.rdS F hE (c_X6_mixed l E) (kX6_206 F.2.2.2.2 ⟨Nat.le_of_ble_eq_true rfl, Nat.le_of_ble_eq_true rfl⟩) [] rfl rfl hl.1 (Nat.le_of_ble_eq_true rfl) dX6_mixedWithScene_118 rfl ?_
      refine V.topl (fun z21 e21 => ?_)
      refine V.lstore (lv' := [(4, .long z21), (6, .int (nI i8)), (0, .ref d), (1, .long h), (3, .int x)]) F dX6_mixedWithScene_121 hl (by decide) rfl (fun ls hl => ?_)
      refine V.iinc (j := 1) (lv' := fun z22 => [(6, .int z22), (4, .long z21), (0, .ref d), (1, .long h), (3, .int x)]) F dX6_mixedWithScene_123 hl rfl (by decide) (fun _ => rfl) (fun z22 e22 ls hl => ?_)
      refine V.goto (tgt := 55) F dX6_mixedWithScene_126 (by decide) ?_
      have h23 : nI (i8 + 1) = z22 := (by subst e5 e6 e7 e12 e13 e14 e15 e16 e17 e18 e19 e20 e21 e22; first | with_reducible rfl | (simp only [msC, msA, msB, c4, c4', c11, c11', oi1, nI_succ, bI, and_true, true_and, and_false, false_and, and_self, or_true, true_or, or_false, false_or, or_self, not_true_eq_false, not_false_eq_true, if_true, if_false, ↓reduceIte] <;> rfl) | rfl | (simp [msC, msA, msB, c4, c4', c11, c11', bI, oi1, nI_succ]; done))
      have h24 : msB g f (31 * msA g f h x 6 + (bstC g f x).toInt64) x (i8 + 1) = z21 := (by subst e5 e6 e7 e12 e13 e14 e15 e16 e17 e18 e19 e20 e21 e22; first | with_reducible rfl | (simp only [msC, msA, msB, c4, c4', c11, c11', oi1, nI_succ, bI, and_true, true_and, and_false, false_and, and_self, or_true, true_or, or_false, false_or, or_self, not_true_eq_false, not_false_eq_true, if_true, if_false, ↓reduceIte] <;> rfl) | rfl | (simp [msC, msA, msB, c4, c4', c11, c11', bI, oi1, nI_succ]; done))
      exact ihi8 i8_lt trivial _ (lv_sub hl [0, 1, 2, 3, 4] (by rw [h23, h24]; rfl))
  · skip
    have j1_lt := (lpG (by rfl) (by decide) j1_N).2 c4
    refine V.lload F dX6_mixedWithScene_12 (lv_at hl 1 rfl) ?_
    refine V.aload_n F dX6_mixedWithScene_14 rfl (lv_at hl 2 rfl) ?_
    refine V.getf F hE gX6_10 0 rfl rfl dX6_mixedWithScene_15 ?_
    refine V.iload_n F dX6_mixedWithScene_18 rfl (lv_at hl 4 rfl) ?_
    refine V.iload F dX6_mixedWithScene_19 (lv_at hl 0 rfl) ?_
    refine V.rsV (q0 := 4) F hE (c_X5_sceneNumber l E) (kX6_179 F.2.2.2.2 ⟨Nat.le_of_ble_eq_true rfl, Nat.le_of_ble_eq_true rfl⟩) rfl rfl 4 18 (by rfl) rfl hl.1 (Nat.le_of_ble_eq_true rfl) dX6_mixedWithScene_21 rfl ?_
    refine V.topi (fun z25 e25 => ?_)
    refine V.i2l F dX6_mixedWithScene_24 (fun z26 e26 => ?_)
    refine V.rdS F hE (c_X6_mixed l E) (kX6_206 F.2.2.2.2 ⟨Nat.le_of_ble_eq_true rfl, Nat.le_of_ble_eq_true rfl⟩) [] rfl rfl hl.1 (Nat.le_of_ble_eq_true rfl) dX6_mixedWithScene_25 rfl ?_
    refine V.topl (fun z27 e27 => ?_)
    refine V.lstore (lv' := [(4, .long z27), (6, .int (nI j1)), (0, .ref d), (1, .long h), (3, .int x)]) F dX6_mixedWithScene_28 hl (by decide) rfl (fun ls hl => ?_)
    refine V.iinc (j := 1) (lv' := fun z28 => [(6, .int z28), (4, .long z27), (0, .ref d), (1, .long h), (3, .int x)]) F dX6_mixedWithScene_30 hl rfl (by decide) (fun _ => rfl) (fun z28 e28 ls hl => ?_)
    refine V.goto (tgt := 6) F dX6_mixedWithScene_33 (by decide) ?_
    have h29 : nI (j1 + 1) = z28 := (by subst e25 e26 e27 e28; first | with_reducible rfl | (simp only [msC, msA, msB, c4, c4', oi1, nI_succ, bI, and_true, true_and, and_false, false_and, and_self, or_true, true_or, or_false, false_or, or_self, not_true_eq_false, not_false_eq_true, if_true, if_false, ↓reduceIte] <;> rfl) | rfl | (simp [msC, msA, msB, c4, c4', bI, oi1, nI_succ]; done))
    have h30 : msA g f h x (j1 + 1) = z27 := (by subst e25 e26 e27 e28; first | with_reducible rfl | (simp only [msC, msA, msB, c4, c4', oi1, nI_succ, bI, and_true, true_and, and_false, false_and, and_self, or_true, true_or, or_false, false_or, or_self, not_true_eq_false, not_false_eq_true, if_true, if_false, ↓reduceIte] <;> rfl) | rfl | (simp [msC, msA, msB, c4, c4', bI, oi1, nI_succ]; done))
    exact ihj1 j1_lt trivial _ (lv_sub hl [0, 1, 2, 3, 4] (by rw [h29, h30]; rfl))
set_option maxHeartbeats 4000000 in
set_option maxRecDepth 100000 in
theorem c_X6_digest (l : Launch) (E : EV) {d v0 v1 t u : Nat} {a : Nat → Nat} {g : Nat → Int32} {f : Nat → Nat → Int32} {n m : Int32} {r : Nat → Int32} (hnn : g 8 = 0 ∨ vf_n64 (FP.ddiv (FP.i2d (shoC (f 12) (g 8).toNatClampNeg)) (FP.i2d (g 8)))) (hb : bsOK (shrC (f 12) (g 8))) : Rd l E yX6_digest cX6_digest 4 (some .long) 6 147 [.ref d] (dW E d v0 v1 t u n m r a g f) (some (.long (dgC g f n m r))) := by
  refine Rd.mk0 (by decide) (Nat.le_of_ble_eq_true rfl) ?_
  intro pP eE sS mM aA bB mt cC F hr hk hE ls hl
  have hl : lv_has ls 4 [(0, .ref d)] := hl
  refine V.ldc2 F lX6_204 dX6_digest_0 ?_
  refine V.lstore_n (lv' := [(1, .long 3527), (0, .ref d)]) F dX6_digest_3 rfl hl (by decide) rfl (fun ls hl => ?_)
  refine V.iconst (v := 0) F dX6_digest_4 (by decide) ?_
  refine V.istore_n (lv' := [(3, .int 0), (1, .long 3527), (0, .ref d)]) F dX6_digest_5 rfl hl (by decide) rfl (fun ls hl => ?_)
  have h3 : nI 0 = 0 := (by first | with_reducible rfl | (simp only [dgC, dgA, dgB, dgD, dgE, oi1, nI_succ, bI, and_true, true_and, and_false, false_and, and_self, or_true, true_or, or_false, false_or, or_self, not_true_eq_false, not_false_eq_true, if_true, if_false, ↓reduceIte] <;> rfl) | rfl | (simp [dgC, dgA, dgB, dgD, dgE, bI, oi1, nI_succ]; done))
  have h4 : dgA g f n 0 = 3527 := (by first | with_reducible rfl | (simp only [dgC, dgA, dgB, dgD, dgE, oi1, nI_succ, bI, and_true, true_and, and_false, false_and, and_self, or_true, true_or, or_false, false_or, or_self, not_true_eq_false, not_false_eq_true, if_true, if_false, ↓reduceIte] <;> rfl) | rfl | (simp [dgC, dgA, dgB, dgD, dgE, bI, oi1, nI_succ]; done))
  refine V.loop (N := 11) (k0 := 0) (I := (fun j2 : Nat => [(3, .int (nI j2)), (1, .long (dgA g f n j2)), (0, .ref d)])) (J := fun _ => True) (Nat.zero_le _) trivial (lv_sub hl [0, 1, 2] (by rw [h3, h4]; rfl)) ?_
  intro j2 j2_N j2_J ihj2 ls hl
  have hl : lv_has ls 4 [(3, .int (nI j2)), (1, .long (dgA g f n j2)), (0, .ref d)] := hl
  refine V.iload_n F dX6_digest_6 rfl (lv_at hl 0 rfl) ?_
  refine V.bipush (v := 10) F dX6_digest_7 (by decide) ?_
  refine V.icmp_gt (tgt := 29) F dX6_digest_9 (by decide) (fun c5 c5' => ?_) (fun c5 c5' => ?_)
  · skip
    have j2_eq := ((lpG (by rfl) (by decide) j2_N).1 c5).symm
    subst j2_eq
    refine V.iconst (v := 0) F dX6_digest_29 (by decide) ?_
    refine V.istore_n (lv' := [(3, .int 0), (1, .long (dgA g f n 11)), (0, .ref d)]) F dX6_digest_30 rfl hl (by decide) rfl (fun ls hl => ?_)
    have h7 : nI 0 = 0 := (by first | with_reducible rfl | (simp only [dgC, dgA, dgB, dgD, dgE, c5, c5', oi1, nI_succ, bI, and_true, true_and, and_false, false_and, and_self, or_true, true_or, or_false, false_or, or_self, not_true_eq_false, not_false_eq_true, if_true, if_false, ↓reduceIte] <;> rfl) | rfl | (simp [dgC, dgA, dgB, dgD, dgE, c5, c5', bI, oi1, nI_succ]; done))
    have h8 : dgB g f (dgA g f n 11) 0 = dgA g f n 11 := (by first | with_reducible rfl | (simp only [dgC, dgA, dgB, dgD, dgE, c5, c5', oi1, nI_succ, bI, and_true, true_and, and_false, false_and, and_self, or_true, true_or, or_false, false_or, or_self, not_true_eq_false, not_false_eq_true, if_true, if_false, ↓reduceIte] <;> rfl) | rfl | (simp [dgC, dgA, dgB, dgD, dgE, c5, c5', bI, oi1, nI_succ]; done))
    refine V.loop (N := 8) (k0 := 0) (I := (fun i6 : Nat => [(3, .int (nI i6)), (1, .long (dgB g f (dgA g f n 11) i6)), (0, .ref d)])) (J := fun _ => True) (Nat.zero_le _) trivial (lv_sub hl [0, 1, 2] (by rw [h7, h8]; rfl)) ?_
    intro i6 i6_N i6_J ihi6 ls hl
    have hl : lv_has ls 4 [(3, .int (nI i6)), (1, .long (dgB g f (dgA g f n 11) i6)), (0, .ref d)] := hl
    refine V.iload_n F dX6_digest_31 rfl (lv_at hl 0 rfl) ?_
    refine V.bipush (v := 8) F dX6_digest_32 (by decide) ?_
    refine V.icmp_ge (tgt := 50) F dX6_digest_34 (by decide) (fun c9 c9' => ?_) (fun c9 c9' => ?_)
    · skip
      have i6_eq := ((lpL (by rfl) (by decide) i6_N).1 c9).symm
      subst i6_eq
      refine V.iconst (v := 0) F dX6_digest_50 (by decide) ?_
      refine V.istore_n (lv' := [(3, .int 0), (1, .long (dgB g f (dgA g f n 11) 8)), (0, .ref d)]) F dX6_digest_51 rfl hl (by decide) rfl (fun ls hl => ?_)
      have h11 : nI 0 = 0 := (by first | with_reducible rfl | (simp only [dgC, dgA, dgB, dgD, dgE, c5, c5', c9, c9', oi1, nI_succ, bI, and_true, true_and, and_false, false_and, and_self, or_true, true_or, or_false, false_or, or_self, not_true_eq_false, not_false_eq_true, if_true, if_false, ↓reduceIte] <;> rfl) | rfl | (simp [dgC, dgA, dgB, dgD, dgE, c5, c5', c9, c9', bI, oi1, nI_succ]; done))
      have h12 : dgD g f (dgB g f (dgA g f n 11) 8) 0 = dgB g f (dgA g f n 11) 8 := (by first | with_reducible rfl | (simp only [dgC, dgA, dgB, dgD, dgE, c5, c5', c9, c9', oi1, nI_succ, bI, and_true, true_and, and_false, false_and, and_self, or_true, true_or, or_false, false_or, or_self, not_true_eq_false, not_false_eq_true, if_true, if_false, ↓reduceIte] <;> rfl) | rfl | (simp [dgC, dgA, dgB, dgD, dgE, c5, c5', c9, c9', bI, oi1, nI_succ]; done))
      refine V.loop (N := (g 8).toNatClampNeg) (k0 := 0) (I := (fun k10 : Nat => [(3, .int (nI k10)), (1, .long (dgD g f (dgB g f (dgA g f n 11) 8) k10)), (0, .ref d)])) (J := fun _ => True) (Nat.zero_le _) trivial (lv_sub hl [0, 1, 2] (by rw [h11, h12]; rfl)) ?_
      intro k10 k10_N k10_J ihk10 ls hl
      have hl : lv_has ls 4 [(3, .int (nI k10)), (1, .long (dgD g f (dgB g f (dgA g f n 11) 8) k10)), (0, .ref d)] := hl
      refine V.iload_n F dX6_digest_52 rfl (lv_at hl 0 rfl) ?_
      refine V.aload_n F dX6_digest_53 rfl (lv_at hl 2 rfl) ?_
      refine V.getf F hE gX6_10 0 rfl rfl dX6_digest_54 ?_
      refine V.getf F hE gX6_98 4 rfl rfl dX6_digest_57 ?_
      refine V.getfi F hE gX6_102 16 rfl rfl dX6_digest_60 (fun z13 e13 => ?_)
      refine V.icmp_ge (tgt := 79) F dX6_digest_63 (by decide) (fun c14 c14' => ?_) (fun c14 c14' => ?_)
      · skip
        have k10_eq := ((lpT k10_N).1 (by rw [← e13]; exact c14)).symm
        subst k10_eq
        refine V.lload_n F dX6_digest_79 rfl (lv_at hl 1 rfl) ?_
        refine V.aload_n F dX6_digest_80 rfl (lv_at hl 2 rfl) ?_
        refine V.getf F hE gX6_10 0 rfl rfl dX6_digest_81 ?_
        refine V.iconst (v := 3) F dX6_digest_84 (by decide) ?_
        refine V.bipush (v := 10) F dX6_digest_85 (by decide) ?_
        refine V.rsV (q0 := 4) F hE (c_X5_costOf l E) (kX6_88 F.2.2.2.2 ⟨Nat.le_of_ble_eq_true rfl, Nat.le_of_ble_eq_true rfl⟩) rfl rfl 4 18 (by rfl) rfl hl.1 (Nat.le_of_ble_eq_true rfl) dX6_digest_87 rfl ?_
        refine V.topi (fun z15 e15 => ?_)
        refine V.i2l F dX6_digest_90 (fun z16 e16 => ?_)
        refine V.rdS F hE (c_X6_mixed l E) (kX6_206 F.2.2.2.2 ⟨Nat.le_of_ble_eq_true rfl, Nat.le_of_ble_eq_true rfl⟩) [] rfl rfl hl.1 (Nat.le_of_ble_eq_true rfl) dX6_digest_91 rfl ?_
        refine V.topl (fun z17 e17 => ?_)
        refine V.lstore_n (lv' := [(1, .long z17), (3, .int (nI ((g 8).toNatClampNeg))), (0, .ref d)]) F dX6_digest_94 rfl hl (by decide) rfl (fun ls hl => ?_)
        refine V.lload_n F dX6_digest_95 rfl (lv_at hl 0 rfl) ?_
        refine V.aload_n F dX6_digest_96 rfl (lv_at hl 2 rfl) ?_
        refine V.getf F hE gX6_10 0 rfl rfl dX6_digest_97 ?_
        refine V.getf F hE gX6_98 4 rfl rfl dX6_digest_100 ?_
        refine V.rdV (q0 := 16) F hE (c_X4_shareShot l E (by assumption)) (kX6_200 F.2.2.2.2 ⟨Nat.le_of_ble_eq_true rfl, Nat.le_of_ble_eq_true rfl⟩) rfl rfl [16, 17, 18, 19, 20, 21] rfl rfl hl.1 (Nat.le_of_ble_eq_true rfl) dX6_digest_103 rfl ?_
        refine V.topd (fun z18 e18 => ?_)
        refine V.rdS F hE (c_X6_bitsOfShare l E (by subst_vars; assumption)) (kX6_217 F.2.2.2.2 ⟨Nat.le_of_ble_eq_true rfl, Nat.le_of_ble_eq_true rfl⟩) [] rfl rfl hl.1 (Nat.le_of_ble_eq_true rfl) dX6_digest_106 rfl ?_
        refine V.topl (fun z19 e19 => ?_)
        refine V.rdS F hE (c_X6_mixed l E) (kX6_206 F.2.2.2.2 ⟨Nat.le_of_ble_eq_true rfl, Nat.le_of_ble_eq_true rfl⟩) [] rfl rfl hl.1 (Nat.le_of_ble_eq_true rfl) dX6_digest_109 rfl ?_
        refine V.topl (fun z20 e20 => ?_)
        refine V.lstore_n (lv' := [(1, .long z20), (3, .int (nI ((g 8).toNatClampNeg))), (0, .ref d)]) F dX6_digest_112 rfl hl (by decide) rfl (fun ls hl => ?_)
        refine V.lload_n F dX6_digest_113 rfl (lv_at hl 0 rfl) ?_
        refine V.aload_n F dX6_digest_114 rfl (lv_at hl 2 rfl) ?_
        refine V.getf F hE gX6_26 0 rfl rfl dX6_digest_115 ?_
        refine V.getfi F hE gX6_123 1 rfl rfl dX6_digest_118 (fun z21 e21 => ?_)
        refine V.i2l F dX6_digest_121 (fun z22 e22 => ?_)
        refine V.rdS F hE (c_X6_mixed l E) (kX6_206 F.2.2.2.2 ⟨Nat.le_of_ble_eq_true rfl, Nat.le_of_ble_eq_true rfl⟩) [] rfl rfl hl.1 (Nat.le_of_ble_eq_true rfl) dX6_digest_122 rfl ?_
        refine V.topl (fun z23 e23 => ?_)
        refine V.lstore_n (lv' := [(1, .long z23), (3, .int (nI ((g 8).toNatClampNeg))), (0, .ref d)]) F dX6_digest_125 rfl hl (by decide) rfl (fun ls hl => ?_)
        refine V.iconst (v := 0) F dX6_digest_126 (by decide) ?_
        refine V.istore_n (lv' := [(3, .int 0), (1, .long z23), (0, .ref d)]) F dX6_digest_127 rfl hl (by decide) rfl (fun ls hl => ?_)
        have h25 : nI 0 = 0 := (by subst e13 e15 e16 e17 e18 e19 e20 e21 e22 e23; first | with_reducible rfl | (simp only [dgC, dgA, dgB, dgD, dgE, c5, c5', c9, c9', c14, c14', oi1, nI_succ, bI, and_true, true_and, and_false, false_and, and_self, or_true, true_or, or_false, false_or, or_self, not_true_eq_false, not_false_eq_true, if_true, if_false, ↓reduceIte] <;> rfl) | rfl | (simp [dgC, dgA, dgB, dgD, dgE, c5, c5', c9, c9', c14, c14', bI, oi1, nI_succ]; done))
        have h26 : dgE r (dgM g f n m) 0 = z23 := (by subst e13 e15 e16 e17 e18 e19 e20 e21 e22 e23; first | with_reducible rfl | (simp only [dgC, dgA, dgB, dgD, dgE, c5, c5', c9, c9', c14, c14', oi1, nI_succ, bI, and_true, true_and, and_false, false_and, and_self, or_true, true_or, or_false, false_or, or_self, not_true_eq_false, not_false_eq_true, if_true, if_false, ↓reduceIte] <;> rfl) | rfl | (simp [dgC, dgA, dgB, dgD, dgE, c5, c5', c9, c9', c14, c14', bI, oi1, nI_succ]; done))
        refine V.loop (N := m.toNatClampNeg) (k0 := 0) (I := (fun o24 : Nat => [(3, .int (nI o24)), (1, .long (dgE r (dgM g f n m) o24)), (0, .ref d)])) (J := fun _ => True) (Nat.zero_le _) trivial (lv_sub hl [0, 1, 2] (by rw [h25, h26]; rfl)) ?_
        intro o24 o24_N o24_J iho24 ls hl
        have hl : lv_has ls 4 [(3, .int (nI o24)), (1, .long (dgE r (dgM g f n m) o24)), (0, .ref d)] := hl
        refine V.iload_n F dX6_digest_128 rfl (lv_at hl 0 rfl) ?_
        refine V.aload_n F dX6_digest_129 rfl (lv_at hl 2 rfl) ?_
        refine V.getf F hE gX6_26 0 rfl rfl dX6_digest_130 ?_
        refine V.getfi F hE gX6_123 1 rfl rfl dX6_digest_133 (fun z27 e27 => ?_)
        refine V.icmp_ge (tgt := 159) F dX6_digest_136 (by decide) (fun c28 c28' => ?_) (fun c28 c28' => ?_)
        · skip
          have o24_eq := ((lpT o24_N).1 (by rw [← e27]; exact c28)).symm
          subst o24_eq
          refine V.lload_n F dX6_digest_159 rfl (lv_at hl 1 rfl) ?_
          exact V.lretR F hr hk dX6_digest_160 (by subst e13 e15 e16 e17 e18 e19 e20 e21 e22 e23 e27; first | with_reducible rfl | (simp only [dgC, dgA, dgB, dgD, dgE, c5, c5', c9, c9', c14, c14', c28, c28', oi1, nI_succ, bI, and_true, true_and, and_false, false_and, and_self, or_true, true_or, or_false, false_or, or_self, not_true_eq_false, not_false_eq_true, if_true, if_false, ↓reduceIte] <;> rfl) | rfl | (simp [dgC, dgA, dgB, dgD, dgE, c5, c5', c9, c9', c14, c14', c28, c28', bI, oi1, nI_succ]; done))
        · skip
          have o24_lt := (lpT o24_N).2 (by rw [← e27]; exact c28)
          refine V.lload_n F dX6_digest_139 rfl (lv_at hl 1 rfl) ?_
          refine V.aload_n F dX6_digest_140 rfl (lv_at hl 2 rfl) ?_
          refine V.getf F hE gX6_26 0 rfl rfl dX6_digest_141 ?_
          refine V.iload_n F dX6_digest_144 rfl (lv_at hl 0 rfl) ?_
          refine V.rdV (q0 := 1) F hE (c_X1_codeAt l E) (kX6_221 F.2.2.2.2 ⟨Nat.le_of_ble_eq_true rfl, Nat.le_of_ble_eq_true rfl⟩) rfl rfl [1, 2] rfl rfl hl.1 (Nat.le_of_ble_eq_true rfl) dX6_digest_145 rfl ?_
          refine V.topi (fun z29 e29 => ?_)
          refine V.i2l F dX6_digest_148 (fun z30 e30 => ?_)
          refine V.rdS F hE (c_X6_mixed l E) (kX6_206 F.2.2.2.2 ⟨Nat.le_of_ble_eq_true rfl, Nat.le_of_ble_eq_true rfl⟩) [] rfl rfl hl.1 (Nat.le_of_ble_eq_true rfl) dX6_digest_149 rfl ?_
          refine V.topl (fun z31 e31 => ?_)
          refine V.lstore_n (lv' := [(1, .long z31), (3, .int (nI o24)), (0, .ref d)]) F dX6_digest_152 rfl hl (by decide) rfl (fun ls hl => ?_)
          refine V.iinc (j := 1) (lv' := fun z32 => [(3, .int z32), (1, .long z31), (0, .ref d)]) F dX6_digest_153 hl rfl (by decide) (fun _ => rfl) (fun z32 e32 ls hl => ?_)
          refine V.goto (tgt := 128) F dX6_digest_156 (by decide) ?_
          have h33 : nI (o24 + 1) = z32 := (by subst e13 e15 e16 e17 e18 e19 e20 e21 e22 e23 e27 e29 e30 e31 e32; first | with_reducible rfl | (simp only [dgC, dgA, dgB, dgD, dgE, c5, c5', c9, c9', c14, c14', c28, c28', oi1, nI_succ, bI, and_true, true_and, and_false, false_and, and_self, or_true, true_or, or_false, false_or, or_self, not_true_eq_false, not_false_eq_true, if_true, if_false, ↓reduceIte] <;> rfl) | rfl | (simp [dgC, dgA, dgB, dgD, dgE, c5, c5', c9, c9', c14, c14', c28, c28', bI, oi1, nI_succ]; done))
          have h34 : dgE r (dgM g f n m) (o24 + 1) = z31 := (by subst e13 e15 e16 e17 e18 e19 e20 e21 e22 e23 e27 e29 e30 e31 e32; first | with_reducible rfl | (simp only [dgC, dgA, dgB, dgD, dgE, c5, c5', c9, c9', c14, c14', c28, c28', oi1, nI_succ, bI, and_true, true_and, and_false, false_and, and_self, or_true, true_or, or_false, false_or, or_self, not_true_eq_false, not_false_eq_true, if_true, if_false, ↓reduceIte] <;> rfl) | rfl | (simp [dgC, dgA, dgB, dgD, dgE, c5, c5', c9, c9', c14, c14', c28, c28', bI, oi1, nI_succ]; done))
          exact iho24 o24_lt trivial _ (lv_sub hl [0, 1, 2] (by rw [h33, h34]; rfl))
      · skip
        have k10_lt := (lpT k10_N).2 (by rw [← e13]; exact c14)
        refine V.aload_n F dX6_digest_66 rfl (lv_at hl 2 rfl) ?_
        refine V.lload_n F dX6_digest_67 rfl (lv_at hl 1 rfl) ?_
        refine V.iload_n F dX6_digest_68 rfl (lv_at hl 0 rfl) ?_
        refine V.rsV (q0 := 0) F hE (c_X6_mixedWithScene l E) (kX6_214 F.2.2.2.2 ⟨Nat.le_of_ble_eq_true rfl, Nat.le_of_ble_eq_true rfl⟩) rfl rfl 0 22 (by rfl) rfl hl.1 (Nat.le_of_ble_eq_true rfl) dX6_digest_69 rfl ?_
        refine V.topl (fun z35 e35 => ?_)
        refine V.lstore_n (lv' := [(1, .long z35), (3, .int (nI k10)), (0, .ref d)]) F dX6_digest_72 rfl hl (by decide) rfl (fun ls hl => ?_)
        refine V.iinc (j := 1) (lv' := fun z36 => [(3, .int z36), (1, .long z35), (0, .ref d)]) F dX6_digest_73 hl rfl (by decide) (fun _ => rfl) (fun z36 e36 ls hl => ?_)
        refine V.goto (tgt := 52) F dX6_digest_76 (by decide) ?_
        have h37 : nI (k10 + 1) = z36 := (by subst e13 e35 e36; first | with_reducible rfl | (simp only [dgC, dgA, dgB, dgD, dgE, c5, c5', c9, c9', c14, c14', oi1, nI_succ, bI, and_true, true_and, and_false, false_and, and_self, or_true, true_or, or_false, false_or, or_self, not_true_eq_false, not_false_eq_true, if_true, if_false, ↓reduceIte] <;> rfl) | rfl | (simp [dgC, dgA, dgB, dgD, dgE, c5, c5', c9, c9', c14, c14', bI, oi1, nI_succ]; done))
        have h38 : dgD g f (dgB g f (dgA g f n 11) 8) (k10 + 1) = z35 := (by subst e13 e35 e36; first | with_reducible rfl | (simp only [dgC, dgA, dgB, dgD, dgE, c5, c5', c9, c9', c14, c14', oi1, nI_succ, bI, and_true, true_and, and_false, false_and, and_self, or_true, true_or, or_false, false_or, or_self, not_true_eq_false, not_false_eq_true, if_true, if_false, ↓reduceIte] <;> rfl) | rfl | (simp [dgC, dgA, dgB, dgD, dgE, c5, c5', c9, c9', c14, c14', bI, oi1, nI_succ]; done))
        exact ihk10 k10_lt trivial _ (lv_sub hl [0, 1, 2] (by rw [h37, h38]; rfl))
    · skip
      have i6_lt := (lpL (by rfl) (by decide) i6_N).2 c9
      refine V.aload_n F dX6_digest_37 rfl (lv_at hl 2 rfl) ?_
      refine V.lload_n F dX6_digest_38 rfl (lv_at hl 1 rfl) ?_
      refine V.iload_n F dX6_digest_39 rfl (lv_at hl 0 rfl) ?_
      refine V.rsV (q0 := 0) F hE (c_X6_mixedWithPerson l E) (kX6_210 F.2.2.2.2 ⟨Nat.le_of_ble_eq_true rfl, Nat.le_of_ble_eq_true rfl⟩) rfl rfl 0 22 (by rfl) rfl hl.1 (Nat.le_of_ble_eq_true rfl) dX6_digest_40 rfl ?_
      refine V.topl (fun z39 e39 => ?_)
      refine V.lstore_n (lv' := [(1, .long z39), (3, .int (nI i6)), (0, .ref d)]) F dX6_digest_43 rfl hl (by decide) rfl (fun ls hl => ?_)
      refine V.iinc (j := 1) (lv' := fun z40 => [(3, .int z40), (1, .long z39), (0, .ref d)]) F dX6_digest_44 hl rfl (by decide) (fun _ => rfl) (fun z40 e40 ls hl => ?_)
      refine V.goto (tgt := 31) F dX6_digest_47 (by decide) ?_
      have h41 : nI (i6 + 1) = z40 := (by subst e39 e40; first | with_reducible rfl | (simp only [dgC, dgA, dgB, dgD, dgE, c5, c5', c9, c9', oi1, nI_succ, bI, and_true, true_and, and_false, false_and, and_self, or_true, true_or, or_false, false_or, or_self, not_true_eq_false, not_false_eq_true, if_true, if_false, ↓reduceIte] <;> rfl) | rfl | (simp [dgC, dgA, dgB, dgD, dgE, c5, c5', c9, c9', bI, oi1, nI_succ]; done))
      have h42 : dgB g f (dgA g f n 11) (i6 + 1) = z39 := (by subst e39 e40; first | with_reducible rfl | (simp only [dgC, dgA, dgB, dgD, dgE, c5, c5', c9, c9', oi1, nI_succ, bI, and_true, true_and, and_false, false_and, and_self, or_true, true_or, or_false, false_or, or_self, not_true_eq_false, not_false_eq_true, if_true, if_false, ↓reduceIte] <;> rfl) | rfl | (simp [dgC, dgA, dgB, dgD, dgE, c5, c5', c9, c9', bI, oi1, nI_succ]; done))
      exact ihi6 i6_lt trivial _ (lv_sub hl [0, 1, 2] (by rw [h41, h42]; rfl))
  · skip
    have j2_lt := (lpG (by rfl) (by decide) j2_N).2 c5
    refine V.lload_n F dX6_digest_12 rfl (lv_at hl 1 rfl) ?_
    refine V.aload_n F dX6_digest_13 rfl (lv_at hl 2 rfl) ?_
    refine V.iload_n F dX6_digest_14 rfl (lv_at hl 0 rfl) ?_
    refine V.rsV (q0 := 0) F hE (c_X6_countNumber l E) (kX6_182 F.2.2.2.2 ⟨Nat.le_of_ble_eq_true rfl, Nat.le_of_ble_eq_true rfl⟩) rfl rfl 0 22 (by rfl) rfl hl.1 (Nat.le_of_ble_eq_true rfl) dX6_digest_15 rfl ?_
    refine V.topi (fun z43 e43 => ?_)
    refine V.i2l F dX6_digest_18 (fun z44 e44 => ?_)
    refine V.rdS F hE (c_X6_mixed l E) (kX6_206 F.2.2.2.2 ⟨Nat.le_of_ble_eq_true rfl, Nat.le_of_ble_eq_true rfl⟩) [] rfl rfl hl.1 (Nat.le_of_ble_eq_true rfl) dX6_digest_19 rfl ?_
    refine V.topl (fun z45 e45 => ?_)
    refine V.lstore_n (lv' := [(1, .long z45), (3, .int (nI j2)), (0, .ref d)]) F dX6_digest_22 rfl hl (by decide) rfl (fun ls hl => ?_)
    refine V.iinc (j := 1) (lv' := fun z46 => [(3, .int z46), (1, .long z45), (0, .ref d)]) F dX6_digest_23 hl rfl (by decide) (fun _ => rfl) (fun z46 e46 ls hl => ?_)
    refine V.goto (tgt := 6) F dX6_digest_26 (by decide) ?_
    have h47 : nI (j2 + 1) = z46 := (by subst e43 e44 e45 e46; first | with_reducible rfl | (simp only [dgC, dgA, dgB, dgD, dgE, c5, c5', oi1, nI_succ, bI, and_true, true_and, and_false, false_and, and_self, or_true, true_or, or_false, false_or, or_self, not_true_eq_false, not_false_eq_true, if_true, if_false, ↓reduceIte] <;> rfl) | rfl | (simp [dgC, dgA, dgB, dgD, dgE, c5, c5', bI, oi1, nI_succ]; done))
    have h48 : dgA g f n (j2 + 1) = z45 := (by subst e43 e44 e45 e46; first | with_reducible rfl | (simp only [dgC, dgA, dgB, dgD, dgE, c5, c5', oi1, nI_succ, bI, and_true, true_and, and_false, false_and, and_self, or_true, true_or, or_false, false_or, or_self, not_true_eq_false, not_false_eq_true, if_true, if_false, ↓reduceIte] <;> rfl) | rfl | (simp [dgC, dgA, dgB, dgD, dgE, c5, c5', bI, oi1, nI_succ]; done))
    exact ihj2 j2_lt trivial _ (lv_sub hl [0, 1, 2] (by rw [h47, h48]; rfl))
