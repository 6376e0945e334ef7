set_option maxHeartbeats 4000000 in
set_option maxRecDepth 100000 in
theorem c_X6_countNumber (l : Launch) (E : EV) {d v0 v1 t u : Nat} {a : Nat → Nat} {g : Nat → Int32} {f : Nat → Nat → Int32} {n m : Int32} {r : Nat → Int32} {w : Int32} : Rd l E yX6_countNumber cX6_countNumber 2 (some .int) 5 119 [.ref d, .int w] (dW E d v0 v1 t u n m r a g f) (some (.int (cnuC g f n w))) := by
  refine Rd.mk0 (by decide) (Nat.le_of_ble_eq_true rfl) ?_
  intro pP eE sS mM aA bB mt cC F hr hk hE ls hl
  have hl : lv_has ls 2 [(0, .ref d), (1, .int w)] := hl
  refine V.iload_n F dX6_countNumber_0 rfl (lv_at hl 1 rfl) ?_
  by_cases c1 : w = 0
  · skip
    refine V.tableIn (tgt := 56) F dX6_countNumber_1 (by rw [c1]; decide) (by rw [c1]; decide) (by rw [c1]; rfl) (by decide) ?_
    refine V.aload_n F dX6_countNumber_56 rfl (lv_at hl 0 rfl) ?_
    refine V.getf F hE gX6_10 0 rfl rfl dX6_countNumber_57 ?_
    refine V.getfi F hE gX6_60 4 rfl rfl dX6_countNumber_60 (fun z2 e2 => ?_)
    exact V.iretR F hr hk dX6_countNumber_63 (by subst e2; first | with_reducible rfl | (simp only [cnuC, eq_true c1, oi1, nI_succ, bI, and_true, true_and, and_false, false_and, and_self, or_true, true_or, or_false, false_or, or_self, not_true_eq_false, not_false_eq_true, if_true, if_false, ↓reduceIte] <;> rfl) | rfl | (simp [cnuC, eq_true c1, bI, oi1, nI_succ]; done))
  by_cases c3 : w = 1
  · skip
    refine V.tableIn (tgt := 64) F dX6_countNumber_1 (by rw [c3]; decide) (by rw [c3]; decide) (by rw [c3]; rfl) (by decide) ?_
    refine V.aload_n F dX6_countNumber_64 rfl (lv_at hl 0 rfl) ?_
    refine V.getf F hE gX6_10 0 rfl rfl dX6_countNumber_65 ?_
    refine V.getfi F hE gX6_91 4 rfl rfl dX6_countNumber_68 (fun z4 e4 => ?_)
    exact V.iretR F hr hk dX6_countNumber_71 (by subst e4; first | with_reducible rfl | (simp only [cnuC, c1, eq_true c3, oi1, nI_succ, bI, and_true, true_and, and_false, false_and, and_self, or_true, true_or, or_false, false_or, or_self, not_true_eq_false, not_false_eq_true, if_true, if_false, ↓reduceIte] <;> rfl) | rfl | (simp [cnuC, c1, eq_true c3, bI, oi1, nI_succ]; done))
  by_cases c5 : w = 2
  · skip
    refine V.tableIn (tgt := 72) F dX6_countNumber_1 (by rw [c5]; decide) (by rw [c5]; decide) (by rw [c5]; rfl) (by decide) ?_
    refine V.aload_n F dX6_countNumber_72 rfl (lv_at hl 0 rfl) ?_
    refine V.getf F hE gX6_10 0 rfl rfl dX6_countNumber_73 ?_
    refine V.aload_n F dX6_countNumber_76 rfl (lv_at hl 0 rfl) ?_
    refine V.getf F hE gX6_10 0 rfl rfl dX6_countNumber_77 ?_
    refine V.getfi F hE gX6_60 4 rfl rfl dX6_countNumber_80 (fun z6 e6 => ?_)
    refine V.rsV (q0 := 4) F hE (c_X5_stepOn l E) (kX6_232 F.2.2.2.2 ⟨Nat.le_of_ble_eq_true rfl, Nat.le_of_ble_eq_true rfl⟩) rfl rfl 4 18 (by rfl) rfl hl.1 (Nat.le_of_ble_eq_true rfl) dX6_countNumber_83 rfl ?_
    refine V.topi (fun z7 e7 => ?_)
    exact V.iretR F hr hk dX6_countNumber_86 (by subst e6 e7; first | with_reducible rfl | (simp only [cnuC, c1, c3, eq_true c5, oi1, nI_succ, bI, and_true, true_and, and_false, false_and, and_self, or_true, true_or, or_false, false_or, or_self, not_true_eq_false, not_false_eq_true, if_true, if_false, ↓reduceIte] <;> rfl) | rfl | (simp [cnuC, c1, c3, eq_true c5, bI, oi1, nI_succ]; done))
  by_cases c8 : w = 3
  · skip
    refine V.tableIn (tgt := 87) F dX6_countNumber_1 (by rw [c8]; decide) (by rw [c8]; decide) (by rw [c8]; rfl) (by decide) ?_
    refine V.aload_n F dX6_countNumber_87 rfl (lv_at hl 0 rfl) ?_
    refine V.getf F hE gX6_10 0 rfl rfl dX6_countNumber_88 ?_
    refine V.rsV (q0 := 4) F hE (c_X5_lastInsuredDay l E) (kX6_235 F.2.2.2.2 ⟨Nat.le_of_ble_eq_true rfl, Nat.le_of_ble_eq_true rfl⟩) rfl rfl 4 18 (by rfl) rfl hl.1 (Nat.le_of_ble_eq_true rfl) dX6_countNumber_91 rfl ?_
    refine V.topi (fun z9 e9 => ?_)
    exact V.iretR F hr hk dX6_countNumber_94 (by subst e9; first | with_reducible rfl | (simp only [cnuC, c1, c3, c5, eq_true c8, oi1, nI_succ, bI, and_true, true_and, and_false, false_and, and_self, or_true, true_or, or_false, false_or, or_self, not_true_eq_false, not_false_eq_true, if_true, if_false, ↓reduceIte] <;> rfl) | rfl | (simp [cnuC, c1, c3, c5, eq_true c8, bI, oi1, nI_succ]; done))
  by_cases c10 : w = 4
  · skip
    refine V.tableIn (tgt := 95) F dX6_countNumber_1 (by rw [c10]; decide) (by rw [c10]; decide) (by rw [c10]; rfl) (by decide) ?_
    refine V.aload_n F dX6_countNumber_95 rfl (lv_at hl 0 rfl) ?_
    refine V.getf F hE gX6_10 0 rfl rfl dX6_countNumber_96 ?_
    refine V.getf F hE gX6_98 4 rfl rfl dX6_countNumber_99 ?_
    refine V.getfi F hE gX6_102 16 rfl rfl dX6_countNumber_102 (fun z11 e11 => ?_)
    exact V.iretR F hr hk dX6_countNumber_105 (by subst e11; first | with_reducible rfl | (simp only [cnuC, c1, c3, c5, c8, eq_true c10, oi1, nI_succ, bI, and_true, true_and, and_false, false_and, and_self, or_true, true_or, or_false, false_or, or_self, not_true_eq_false, not_false_eq_true, if_true, if_false, ↓reduceIte] <;> rfl) | rfl | (simp [cnuC, c1, c3, c5, c8, eq_true c10, bI, oi1, nI_succ]; done))
  by_cases c12 : w = 5
  · skip
    refine V.tableIn (tgt := 106) F dX6_countNumber_1 (by rw [c12]; decide) (by rw [c12]; decide) (by rw [c12]; rfl) (by decide) ?_
    refine V.aload_n F dX6_countNumber_106 rfl (lv_at hl 0 rfl) ?_
    refine V.getf F hE gX6_10 0 rfl rfl dX6_countNumber_107 ?_
    refine V.getf F hE gX6_98 4 rfl rfl dX6_countNumber_110 ?_
    refine V.rdV (q0 := 16) F hE (c_X4_shotOnes l E) (kX6_238 F.2.2.2.2 ⟨Nat.le_of_ble_eq_true rfl, Nat.le_of_ble_eq_true rfl⟩) rfl rfl [16, 17, 18, 19, 20, 21] rfl rfl hl.1 (Nat.le_of_ble_eq_true rfl) dX6_countNumber_113 rfl ?_
    refine V.topi (fun z13 e13 => ?_)
    exact V.iretR F hr hk dX6_countNumber_116 (by subst e13; first | with_reducible rfl | (simp only [cnuC, c1, c3, c5, c8, c10, eq_true c12, oi1, nI_succ, bI, and_true, true_and, and_false, false_and, and_self, or_true, true_or, or_false, false_or, or_self, not_true_eq_false, not_false_eq_true, if_true, if_false, ↓reduceIte] <;> rfl) | rfl | (simp [cnuC, c1, c3, c5, c8, c10, eq_true c12, bI, oi1, nI_succ]; done))
  by_cases c14 : w = 6
  · skip
    refine V.tableIn (tgt := 117) F dX6_countNumber_1 (by rw [c14]; decide) (by rw [c14]; decide) (by rw [c14]; rfl) (by decide) ?_
    refine V.aload_n F dX6_countNumber_117 rfl (lv_at hl 0 rfl) ?_
    refine V.getf F hE gX6_10 0 rfl rfl dX6_countNumber_118 ?_
    refine V.getf F hE gX6_98 4 rfl rfl dX6_countNumber_121 ?_
    refine V.rdV (q0 := 16) F hE (c_X4_shotByDoubles l E) (kX6_241 F.2.2.2.2 ⟨Nat.le_of_ble_eq_true rfl, Nat.le_of_ble_eq_true rfl⟩) rfl rfl [16, 17, 18, 19, 20, 21] rfl rfl hl.1 (Nat.le_of_ble_eq_true rfl) dX6_countNumber_124 rfl ?_
    refine V.topi (fun z15 e15 => ?_)
    exact V.iretR F hr hk dX6_countNumber_127 (by subst e15; first | with_reducible rfl | (simp only [cnuC, c1, c3, c5, c8, c10, c12, eq_true c14, oi1, nI_succ, bI, and_true, true_and, and_false, false_and, and_self, or_true, true_or, or_false, false_or, or_self, not_true_eq_false, not_false_eq_true, if_true, if_false, ↓reduceIte] <;> rfl) | rfl | (simp [cnuC, c1, c3, c5, c8, c10, c12, eq_true c14, bI, oi1, nI_succ]; done))
  by_cases c16 : w = 7
  · skip
    refine V.tableIn (tgt := 128) F dX6_countNumber_1 (by rw [c16]; decide) (by rw [c16]; decide) (by rw [c16]; rfl) (by decide) ?_
    refine V.aload_n F dX6_countNumber_128 rfl (lv_at hl 0 rfl) ?_
    refine V.getf F hE gX6_10 0 rfl rfl dX6_countNumber_129 ?_
    refine V.getfi F hE gX6_244 4 rfl rfl dX6_countNumber_132 (fun z17 e17 => ?_)
    exact V.iretR F hr hk dX6_countNumber_135 (by subst e17; first | with_reducible rfl | (simp only [cnuC, c1, c3, c5, c8, c10, c12, c14, eq_true c16, oi1, nI_succ, bI, and_true, true_and, and_false, false_and, and_self, or_true, true_or, or_false, false_or, or_self, not_true_eq_false, not_false_eq_true, if_true, if_false, ↓reduceIte] <;> rfl) | rfl | (simp [cnuC, c1, c3, c5, c8, c10, c12, c14, eq_true c16, bI, oi1, nI_succ]; done))
  by_cases c18 : w = 8
  · skip
    refine V.tableIn (tgt := 136) F dX6_countNumber_1 (by rw [c18]; decide) (by rw [c18]; decide) (by rw [c18]; rfl) (by decide) ?_
    refine V.aload_n F dX6_countNumber_136 rfl (lv_at hl 0 rfl) ?_
    refine V.getf F hE gX6_10 0 rfl rfl dX6_countNumber_137 ?_
    refine V.getfi F hE gX6_247 4 rfl rfl dX6_countNumber_140 (fun z19 e19 => ?_)
    exact V.iretR F hr hk dX6_countNumber_143 (by subst e19; first | with_reducible rfl | (simp only [cnuC, c1, c3, c5, c8, c10, c12, c14, c16, eq_true c18, oi1, nI_succ, bI, and_true, true_and, and_false, false_and, and_self, or_true, true_or, or_false, false_or, or_self, not_true_eq_false, not_false_eq_true, if_true, if_false, ↓reduceIte] <;> rfl) | rfl | (simp [cnuC, c1, c3, c5, c8, c10, c12, c14, c16, eq_true c18, bI, oi1, nI_succ]; done))
  by_cases c20 : w = 9
  · skip
    refine V.tableIn (tgt := 144) F dX6_countNumber_1 (by rw [c20]; decide) (by rw [c20]; decide) (by rw [c20]; rfl) (by decide) ?_
    refine V.aload_n F dX6_countNumber_144 rfl (lv_at hl 0 rfl) ?_
    refine V.getf F hE gX6_10 0 rfl rfl dX6_countNumber_145 ?_
    refine V.rsV (q0 := 4) F hE (c_X5_scenesSomebodyCouldShoot l E) (kX6_250 F.2.2.2.2 ⟨Nat.le_of_ble_eq_true rfl, Nat.le_of_ble_eq_true rfl⟩) rfl rfl 4 18 (by rfl) rfl hl.1 (Nat.le_of_ble_eq_true rfl) dX6_countNumber_148 rfl ?_
    refine V.topi (fun z21 e21 => ?_)
    exact V.iretR F hr hk dX6_countNumber_151 (by subst e21; first | with_reducible rfl | (simp only [cnuC, c1, c3, c5, c8, c10, c12, c14, c16, c18, eq_true c20, oi1, nI_succ, bI, and_true, true_and, and_false, false_and, and_self, or_true, true_or, or_false, false_or, or_self, not_true_eq_false, not_false_eq_true, if_true, if_false, ↓reduceIte] <;> rfl) | rfl | (simp [cnuC, c1, c3, c5, c8, c10, c12, c14, c16, c18, eq_true c20, bI, oi1, nI_succ]; done))
  refine V.tableOut (tgt := 152) F dX6_countNumber_1 (sw_out fun i h1 h2 => by rcases (show i = 0 ∨ i = 1 ∨ i = 2 ∨ i = 3 ∨ i = 4 ∨ i = 5 ∨ i = 6 ∨ i = 7 ∨ i = 8 ∨ i = 9 by omega) with rfl | rfl | rfl | rfl | rfl | rfl | rfl | rfl | rfl | rfl <;> assumption) (by decide) ?_
  refine V.aload_n F dX6_countNumber_152 rfl (lv_at hl 0 rfl) ?_
  refine V.getf F hE gX6_19 0 rfl rfl dX6_countNumber_153 ?_
  refine V.getfi F hE gX6_146 3 rfl rfl dX6_countNumber_156 (fun z22 e22 => ?_)
  exact V.iretR F hr hk dX6_countNumber_159 (by subst e22; first | with_reducible rfl | (simp only [cnuC, c1, c3, c5, c8, c10, c12, c14, c16, c18, c20, oi1, nI_succ, bI, and_true, true_and, and_false, false_and, and_self, or_true, true_or, or_false, false_or, or_self, not_true_eq_false, not_false_eq_true, if_true, if_false, ↓reduceIte] <;> rfl) | rfl | (simp [cnuC, c1, c3, c5, c8, c10, c12, c14, c16, c18, c20, bI, oi1, nI_succ]; done))
