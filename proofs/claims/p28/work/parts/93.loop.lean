/-! a turn of the law, and all forty -/
theorem tdA_n {g : Nat → Int32} {f : Nat → Nat → Int32} (n n' : Int32) {k : Nat} (hk : k ≤ 10) : tdA g f n k = tdA g f n' k := by
  induction k with
  | zero => rfl
  | succ k ih =>
    have e : cnuC g f n (nI k) = cnuC g f n' (nI k) := by
      rcases (show k = 0 ∨ k = 1 ∨ k = 2 ∨ k = 3 ∨ k = 4 ∨ k = 5 ∨ k = 6 ∨ k = 7 ∨ k = 8 ∨ k = 9 by omega) with rfl | rfl | rfl | rfl | rfl | rfl | rfl | rfl | rfl | rfl <;> rfl
    rw [tdA, tdA, ih (by omega), e]
theorem tdL_n {g : Nat → Int32} {f : Nat → Nat → Int32} (n n' : Int32) (C : Nat) : tdL g f n C = tdL g f n' C := by
  unfold tdL
  rw [tdA_n n n' (Nat.le_refl 10)]
theorem kN_s {n : Nat} (hn : n ≤ 6) : ∃ n1, n1 < 6 ∧ kN n = n1 + 1 ∧ (∀ (G : Nat → Nat → Int32) (g : Nat → Int32), kG n G g n1 = g) ∧ (∀ (G : Nat → Nat → Nat → Int32) (g : Nat → Nat → Int32), kG n G g n1 = g) := by
  unfold kN kG
  by_cases h : n < 6
  · rw [if_pos h]
    exact ⟨n, h, rfl, fun G g => by rw [if_pos h, va_up_self], fun G g => by rw [if_pos h, va_up_self]⟩
  · rw [if_neg h]
    exact ⟨5, by decide, rfl, fun G g => by rw [if_neg h, va_up_self], fun G g => by rw [if_neg h, va_up_self]⟩
theorem un_pm {E : EV} {d v0 v1 t u : Nat} {a : Nat → Nat} {n1 n2 m1 m2 : Int32} {r1 r2 : Nat → Int32} {g1 g2 : Nat → Int32} {f1 f2 : Nat → Nat → Int32} {wb : va_W} : (ads (dW E d v0 v1 t u n1 m1 r1 a g1 f1 ++ wb)).Perm (ads (dW E d v0 v1 t u n2 m2 r2 a g2 f2 ++ wb)) := pm_eq rfl
set_option maxHeartbeats 4000000 in
set_option maxRecDepth 100000 in
theorem turn_end {p : Program} {l : Launch} {e : Env} {s : State} {m : MethodId} {args : Array Value} {below : List Frame} {meth : Method} {c : Code} {E : EV} {A : Nat → Prop} {Q : State → Prop} (F : CallFix p m c cL_law 19 s args LW RL) (hE : CE E A s s.heap) (hA : ∀ q, s.heap.size ≤ q → A q) {b d u0 u1 u2 u3 u4 u5 u6 u7 i v0 v1 t u : Nat} {m9 : Int32} {r : Nat → Int32} {a : Nat → Nat} {Y ans : Int32} {ca : Nat → Int32} {qs zs fo ts rs hs cs qs' zs' fo' ts' rs' hs' cs' : Nat → Int32} {g' : Nat → Int32} {f' : Nat → Nat → Int32} {n' : Nat} {B' : Nat → Nat → Nat} {G' : Nat → Nat → Int32} {Q' : Nat → Nat → Nat → Int32} {tm k1 n1 : Nat} (hst : l.stackTraces = false) (hI : LI g' f' qs' zs' fo' ts' rs' hs' cs' tm) (hd : Wr l E yL_due cL_due 13 (some .int) 3 77 [.ref u0, .ref u1, .ref u2, .ref u3, .ref u4, .ref u5, .ref u6, .ref u7] (W8 E u0 u1 u2 u3 u4 u5 u6 u7 ca qs zs fo ts rs hs cs) (W8 E u0 u1 u2 u3 u4 u5 u6 u7 ca qs' zs' fo' ts' rs' hs' cs') (some (.int ans))) (hkn : k1 + 1 ≤ room_1.cells ∧ n1 + 6 ≤ room_1.slots) {ls : Array Slot} (hl : lv_has ls 19 [(0, .ref b), (1, .ref d), (2, .ref u1), (3, .ref u2), (4, .ref u3), (5, .ref u4), (6, .ref u5), (7, .ref u6), (8, .ref u7), (9, .ref u0), (10, .int (nI i)), (12, .int Y), (18, .int ans)]) (kk : ∀ ls : Array Slot, lv_has ls 19 [(0, .ref b), (1, .ref d), (2, .ref u1), (3, .ref u2), (4, .ref u3), (5, .ref u4), (6, .ref u5), (7, .ref u6), (8, .ref u7), (9, .ref u0), (10, .int (nI (i + 1)))] → GV p l e room_1 s m args below meth c E A Q (W8 E u0 u1 u2 u3 u4 u5 u6 u7 ca qs' zs' fo' ts' rs' hs' cs' ++ (dW E d v0 v1 t u (nI n') m9 r a g' f' ++ tlW E v1 B' G' Q')) (k1 + 1) (n1 + 6) (F0 m 95 ls [])) : GV p l e room_1 s m args below meth c E A Q (W8 E u0 u1 u2 u3 u4 u5 u6 u7 ca qs zs fo ts rs hs cs ++ (dW E d v0 v1 t u (nI n') m9 r a g' f' ++ tlW E v1 B' G' Q')) k1 n1 (F0 m 577 ls []) := by
  obtain ⟨D, R, H, C, I, P, hJ, hIt, hZ⟩ := hI
  refine GW.iload F dL_law_577 (lv_at hl 12 rfl) ?_
  refine GW.aload F dL_law_579 (lv_at hl 9 rfl) ?_
  refine GW.aload_n F dL_law_581 rfl (lv_at hl 2 rfl) ?_
  refine GW.aload_n F dL_law_582 rfl (lv_at hl 3 rfl) ?_
  refine GW.aload F dL_law_583 (lv_at hl 4 rfl) ?_
  refine GW.aload F dL_law_585 (lv_at hl 5 rfl) ?_
  refine GW.aload F dL_law_587 (lv_at hl 6 rfl) ?_
  refine GW.aload F dL_law_589 (lv_at hl 7 rfl) ?_
  refine GW.aload F dL_law_591 (lv_at hl 8 rfl) ?_
  refine GV.wrS (wa := []) (wc := W8 E u0 u1 u2 u3 u4 u5 u6 u7 ca qs zs fo ts rs hs cs) (wc' := W8 E u0 u1 u2 u3 u4 u5 u6 u7 ca qs' zs' fo' ts' rs' hs' cs') (wb := dW E d v0 v1 t u (nI n') m9 r a g' f' ++ tlW E v1 B' G' Q') F hE hd (pm_eq rfl) (kL_147 F.2.2.2.2 ⟨Nat.le_of_ble_eq_true rfl, Nat.le_of_ble_eq_true rfl⟩) rfl rfl hl.1 (Nat.le_of_ble_eq_true rfl) (by omega) dL_law_593 rfl ?_
  refine GW.icmp_ne (tgt := 622) F dL_law_596 (by decide) (fun h => absurd rfl h) (fun _ => ?_)
  refine GW.aload_n F dL_law_599 rfl (lv_at hl 1 rfl) ?_
  refine GW.iload F dL_law_600 (lv_at hl 11 rfl) ?_
  refine GW.iconst (v := nI 5) F dL_law_602 (by decide) ?_
  refine GW.ishr F dL_law_603 (fun z9 e9 => ?_)
  refine GW.aload_n F dL_law_604 rfl (lv_at hl 2 rfl) ?_
  refine GW.aload_n F dL_law_605 rfl (lv_at hl 3 rfl) ?_
  refine GW.aload F dL_law_606 (lv_at hl 4 rfl) ?_
  refine GW.aload F dL_law_608 (lv_at hl 5 rfl) ?_
  refine GW.aload F dL_law_610 (lv_at hl 6 rfl) ?_
  refine GW.aload F dL_law_612 (lv_at hl 7 rfl) ?_
  refine GW.aload F dL_law_614 (lv_at hl 8 rfl) ?_
  refine GV.gy (wa := [rw_ E u0 4 ca]) (wc := [rw_ E u1 10 qs', rw_ E u2 8 zs', rw_ E u3 8 fo', rw_ E u4 8 ts', rw_ E u5 40 rs', rw_ E u6 12 hs', rw_ E u7 10 cs'] ++ dW E d v0 v1 t u (nI n') m9 r a g' f') (wb := tlW E v1 B' G' Q') F hE hA (c_L_isSo l E hJ hst) (kL_151 F.2.2.2.2 ⟨Nat.le_of_ble_eq_true rfl, Nat.le_of_ble_eq_true rfl⟩) (by rfl) rfl hl.1 (Nat.le_of_ble_eq_true rfl) (by omega) dL_law_616 rfl ?_
  refine GV.weq (ws' := W8 E u0 u1 u2 u3 u4 u5 u6 u7 ca qs' zs' fo' ts' rs' hs' cs' ++ (dW E d v0 v1 t u (nI n') m9 r a g' f' ++ tlW E v1 B' G' Q')) (by rfl) ?_
  refine GW.if_ne (tgt := 624) F dL_law_619 (by decide) (fun _ => ?_) (fun h => absurd h (by decide))
  refine GV.iinc (j := 10) (y := nI (i + 1)) (lv' := [(10, .int (nI (i + 1))), (0, .ref b), (1, .ref d), (2, .ref u1), (3, .ref u2), (4, .ref u3), (5, .ref u4), (6, .ref u5), (7, .ref u6), (8, .ref u7), (9, .ref u0), (12, .int Y), (18, .int ans)]) F dL_law_624 hl rfl (nI_add i 1) (by decide) rfl (fun ls hl => ?_)
  refine GW.goto (tgt := 95) F dL_law_627 (by decide) ?_
  exact kk ls (lv_sub hl [1, 2, 3, 4, 5, 6, 7, 8, 9, 10, 0] rfl)
theorem LI_up {g : Nat → Int32} {f : Nat → Nat → Int32} {qs zs fo ts rs hs cs : Nat → Int32} {tm : Nat} (h : LI g f qs zs fo ts rs hs cs tm) : LI g f qs zs fo ts rs hs cs (tm + 1) := by
  obtain ⟨D, R, H, C, I, P, hJ, hIt, hZ⟩ := h
  exact ⟨D, R, H, C, I, P, hJ, by omega, hZ⟩
set_option maxHeartbeats 4000000 in
set_option maxRecDepth 100000 in
theorem turn {p : Program} {l : Launch} {e : Env} {s : State} {m : MethodId} {args : Array Value} {below : List Frame} {meth : Method} {c : Code} {E : EV} {A : Nat → Prop} {Q : State → Prop} (F : CallFix p m c cL_law 19 s args LW RL) (hE : CE E A s s.heap) (hA : ∀ q, s.heap.size ≤ q → A q) {b d u0 u1 u2 u3 u4 u5 u6 u7 i v0 v1 t u : Nat} {m9 : Int32} {r : Nat → Int32} {a : Nat → Nat} {X Y : Int32} {K : Nat} {x y z : Int32} {ca : Nat → Int32} {qs zs fo ts rs hs cs : Nat → Int32} {g : Nat → Int32} {f : Nat → Nat → Int32} {n : Nat} {B : Nat → Nat → Nat} {G : Nat → Nat → Int32} {Q9 : Nat → Nat → Nat → Int32} {tm kc nc : Nat} (hst : l.stackTraces = false) (hI : LI g f qs zs fo ts rs hs cs tm) (hn : n ≤ 6) (hca : ca 0 = nI K ∧ ca 1 = x ∧ ca 2 = y ∧ ca 3 = z) (hO : OpN l E d v0 v1 t u m9 r a u0 u1 u2 u3 u4 u5 u6 u7 K x y z ca g f qs zs fo ts rs hs cs ∨ OpY l E d v0 v1 t u m9 r a u0 u1 u2 u3 u4 u5 u6 u7 K x y z ca g f qs zs fo ts rs hs cs tm) (hkn : kc + 4 ≤ room_1.cells ∧ nc + 24 ≤ room_1.slots) {ls : Array Slot} (hl : lv_has ls 19 [(0, .ref b), (1, .ref d), (2, .ref u1), (3, .ref u2), (4, .ref u3), (5, .ref u4), (6, .ref u5), (7, .ref u6), (8, .ref u7), (9, .ref u0), (10, .int (nI i)), (11, .int X), (12, .int Y)]) (kk : ∀ (g' : Nat → Int32) (f' : Nat → Nat → Int32) (qs' zs' fo' ts' rs' hs' cs' : Nat → Int32) (n' : Nat) (B' : Nat → Nat → Nat) (G' : Nat → Nat → Int32) (Q' : Nat → Nat → Nat → Int32) (k' n2 : Nat) (ls : Array Slot), LI g' f' qs' zs' fo' ts' rs' hs' cs' (tm + 1) → n' ≤ 6 → k' ≤ kc + 4 → n2 ≤ nc + 24 → lv_has ls 19 [(0, .ref b), (1, .ref d), (2, .ref u1), (3, .ref u2), (4, .ref u3), (5, .ref u4), (6, .ref u5), (7, .ref u6), (8, .ref u7), (9, .ref u0), (10, .int (nI (i + 1)))] → GV p l e room_1 s m args below meth c E A Q (W8 E u0 u1 u2 u3 u4 u5 u6 u7 ca qs' zs' fo' ts' rs' hs' cs' ++ (dW E d v0 v1 t u (nI n') m9 r a g' f' ++ tlW E v1 B' G' Q')) k' n2 (F0 m 95 ls [])) : GV p l e room_1 s m args below meth c E A Q (W8 E u0 u1 u2 u3 u4 u5 u6 u7 ca qs zs fo ts rs hs cs ++ (dW E d v0 v1 t u (nI n) m9 r a g f ++ tlW E v1 B G Q9)) kc nc (F0 m 475 ls []) := by
  have hI0 := hI
  obtain ⟨D, R, H, C, I, P, hJ, hIt, hZ⟩ := hI0
  have hb := hJ.bd
  refine GW.aload_n F dL_law_475 rfl (lv_at hl 1 rfl) ?_
  refine GV.rdS (wa := W8 E u0 u1 u2 u3 u4 u5 u6 u7 ca qs zs fo ts rs hs cs) (wc := dW E d v0 v1 t u (nI n) m9 r a g f) (wb := tlW E v1 B G Q9) F hE (c_L_told l E hJ.g8 hb.2.2.2.1) (kL_136 F.2.2.2.2 ⟨Nat.le_of_ble_eq_true rfl, Nat.le_of_ble_eq_true rfl⟩) rfl rfl hl.1 (Nat.le_of_ble_eq_true rfl) (by omega) dL_law_476 rfl ?_
  refine GW.lstore (lv' := [(16, .long (tdL g f (nI n) C)), (0, .ref b), (1, .ref d), (2, .ref u1), (3, .ref u2), (4, .ref u3), (5, .ref u4), (6, .ref u5), (7, .ref u6), (8, .ref u7), (9, .ref u0), (10, .int (nI i)), (11, .int X), (12, .int Y)]) F dL_law_479 hl (by decide) rfl (fun ls hl => ?_)
  rcases hO with ⟨ans, hlt, hG, hd⟩ | ⟨ans, g', f', qs', zs', fo', ts', rs', hs', cs', hge, hG, hd, hI2⟩
  · skip
    refine GW.aload_n F dL_law_481 rfl (lv_at hl 2 rfl) ?_
    refine GW.aload F dL_law_482 (lv_at hl 10 rfl) ?_
    refine GW.iconst (v := nI 0) F dL_law_484 (by decide) ?_
    refine GW.iadn (i := 0) F hE 0 rfl (by decide) (by decide) dL_law_485 (fun z9 e9 => ?_)
    obtain rfl := (e9.trans hca.1).symm
    clear e9
    refine GW.aload F dL_law_486 (lv_at hl 10 rfl) ?_
    refine GW.iconst (v := nI 1) F dL_law_488 (by decide) ?_
    refine GW.iadn (i := 1) F hE 0 rfl (by decide) (by decide) dL_law_489 (fun z9 e9 => ?_)
    obtain rfl := (e9.trans hca.2.1).symm
    clear e9
    refine GW.aload F dL_law_490 (lv_at hl 10 rfl) ?_
    refine GW.iconst (v := nI 2) F dL_law_492 (by decide) ?_
    refine GW.iadn (i := 2) F hE 0 rfl (by decide) (by decide) dL_law_493 (fun z9 e9 => ?_)
    obtain rfl := (e9.trans hca.2.2.1).symm
    clear e9
    refine GW.aload F dL_law_494 (lv_at hl 10 rfl) ?_
    refine GW.iconst (v := nI 3) F dL_law_496 (by decide) ?_
    refine GW.iadn (i := 3) F hE 0 rfl (by decide) (by decide) dL_law_497 (fun z9 e9 => ?_)
    obtain rfl := (e9.trans hca.2.2.2).symm
    clear e9
    refine GV.gy (wa := W8 E u0 u1 u2 u3 u4 u5 u6 u7 ca qs zs fo ts rs hs cs) (wb := []) F hE hA (hG n B G Q9 (by omega)) (kL_140 F.2.2.2.2 ⟨Nat.le_of_ble_eq_true rfl, Nat.le_of_ble_eq_true rfl⟩) (by rw [List.append_nil]) rfl hl.1 (Nat.le_of_ble_eq_true rfl) (by omega) dL_law_498 rfl ?_
    refine GV.weq (ws' := W8 E u0 u1 u2 u3 u4 u5 u6 u7 ca qs zs fo ts rs hs cs ++ (dW E d v0 v1 t u (nI n) m9 r a g f ++ tlW E v1 B G Q9)) (by rw [List.append_nil]) ?_
    refine GW.istore (lv' := [(18, .int ans), (16, .long (tdL g f (nI n) C)), (0, .ref b), (1, .ref d), (2, .ref u1), (3, .ref u2), (4, .ref u3), (5, .ref u4), (6, .ref u5), (7, .ref u6), (8, .ref u7), (9, .ref u0), (10, .int (nI i)), (11, .int X), (12, .int Y)]) F dL_law_501 hl (by decide) rfl (fun ls hl => ?_)
    refine GW.iload F dL_law_503 (lv_at hl 0 rfl) ?_
    refine GW.bipush (v := (-100)) F dL_law_505 (by decide) ?_
    refine GW.icmp_ge (tgt := 523) F dL_law_507 (by decide) (fun _ h => absurd hlt h) (fun _ _ => ?_)
    refine GW.aload_n F dL_law_510 rfl (lv_at hl 3 rfl) ?_
    refine GV.rdS (wa := W8 E u0 u1 u2 u3 u4 u5 u6 u7 ca qs zs fo ts rs hs cs) (wc := dW E d v0 v1 t u (nI n) m9 r a g f) (wb := tlW E v1 B G Q9) F hE (c_L_told l E hJ.g8 hb.2.2.2.1) (kL_136 F.2.2.2.2 ⟨Nat.le_of_ble_eq_true rfl, Nat.le_of_ble_eq_true rfl⟩) rfl rfl hl.1 (Nat.le_of_ble_eq_true rfl) (by omega) dL_law_511 rfl ?_
    refine GW.lload F dL_law_514 (lv_at hl 1 rfl) ?_
    refine GW.lcmp F dL_law_516 ?_
    refine GW.if_eq (tgt := 577) F dL_law_517 (by decide) (fun _ => ?_) (fun h => absurd (lg_self _) h)
    refine turn_end F hE hA hst hI hd (by omega) (lv_sub hl [2, 3, 4, 5, 6, 7, 8, 9, 10, 11, 12, 14, 0] rfl) (fun ls hl => kk _ _ _ _ _ _ _ _ _ _ _ _ _ _ _ ls (LI_up hI) hn (by omega) (by omega) hl)
  · skip
    refine GW.aload_n F dL_law_481 rfl (lv_at hl 2 rfl) ?_
    refine GW.aload F dL_law_482 (lv_at hl 10 rfl) ?_
    refine GW.iconst (v := nI 0) F dL_law_484 (by decide) ?_
    refine GW.iadn (i := 0) F hE 0 rfl (by decide) (by decide) dL_law_485 (fun z9 e9 => ?_)
    obtain rfl := (e9.trans hca.1).symm
    clear e9
    refine GW.aload F dL_law_486 (lv_at hl 10 rfl) ?_
    refine GW.iconst (v := nI 1) F dL_law_488 (by decide) ?_
    refine GW.iadn (i := 1) F hE 0 rfl (by decide) (by decide) dL_law_489 (fun z9 e9 => ?_)
    obtain rfl := (e9.trans hca.2.1).symm
    clear e9
    refine GW.aload F dL_law_490 (lv_at hl 10 rfl) ?_
    refine GW.iconst (v := nI 2) F dL_law_492 (by decide) ?_
    refine GW.iadn (i := 2) F hE 0 rfl (by decide) (by decide) dL_law_493 (fun z9 e9 => ?_)
    obtain rfl := (e9.trans hca.2.2.1).symm
    clear e9
    refine GW.aload F dL_law_494 (lv_at hl 10 rfl) ?_
    refine GW.iconst (v := nI 3) F dL_law_496 (by decide) ?_
    refine GW.iadn (i := 3) F hE 0 rfl (by decide) (by decide) dL_law_497 (fun z9 e9 => ?_)
    obtain rfl := (e9.trans hca.2.2.2).symm
    clear e9
    refine GV.gy (wa := W8 E u0 u1 u2 u3 u4 u5 u6 u7 ca qs zs fo ts rs hs cs) (wb := []) F hE hA (hG n B G Q9 (by omega)) (kL_140 F.2.2.2.2 ⟨Nat.le_of_ble_eq_true rfl, Nat.le_of_ble_eq_true rfl⟩) (by rw [List.append_nil]) rfl hl.1 (Nat.le_of_ble_eq_true rfl) (by omega) dL_law_498 rfl ?_
    refine GV.weq (ws' := W8 E u0 u1 u2 u3 u4 u5 u6 u7 ca qs zs fo ts rs hs cs ++ (dW E d v0 v1 t u (nI (kN n)) m9 r a g' f' ++ tlW E v1 (kB n B) (kG n G g) (kG n Q9 f))) (by rw [List.append_nil]) ?_
    refine GW.istore (lv' := [(18, .int ans), (16, .long (tdL g f (nI n) C)), (0, .ref b), (1, .ref d), (2, .ref u1), (3, .ref u2), (4, .ref u3), (5, .ref u4), (6, .ref u5), (7, .ref u6), (8, .ref u7), (9, .ref u0), (10, .int (nI i)), (11, .int X), (12, .int Y)]) F dL_law_501 hl (by decide) rfl (fun ls hl => ?_)
    refine GW.iload F dL_law_503 (lv_at hl 0 rfl) ?_
    refine GW.bipush (v := (-100)) F dL_law_505 (by decide) ?_
    refine GW.icmp_ge (tgt := 523) F dL_law_507 (by decide) (fun _ _ => ?_) (fun _ h => absurd h hge)
    refine GW.iload F dL_law_523 (lv_at hl 13 rfl) ?_
    refine GW.bipush (v := nI 20) F dL_law_525 (by decide) ?_
    refine GW.ishr F dL_law_527 (fun z8 e8 => ?_)
    refine GW.iconst (v := nI 3) F dL_law_528 (by decide) ?_
    refine GW.iand F dL_law_529 (fun z7 e7 => ?_)
    refine GW.if_ne (tgt := 577) F dL_law_530 (by decide) (fun _ => ?_) (fun _ => ?_)
    · skip
      refine turn_end F hE hA hst hI2 hd (by omega) (lv_sub hl [2, 3, 4, 5, 6, 7, 8, 9, 10, 11, 12, 14, 0] rfl) (fun ls hl => kk _ _ _ _ _ _ _ _ _ _ _ _ _ _ _ ls hI2 (kN_le hn) (by omega) (by omega) hl)
    · skip
      obtain ⟨n1, hn1, eN, eG, eQ⟩ := kN_s hn
      refine GW.aload_n F dL_law_533 rfl (lv_at hl 3 rfl) ?_
      refine GV.weq (ws' := W8 E u0 u1 u2 u3 u4 u5 u6 u7 ca qs zs fo ts rs hs cs ++ (dW E d v0 v1 t u (nI (n1 + 1)) m9 r a g' f' ++ tlW E v1 (kB n B) (kG n G g) (kG n Q9 f))) (by rw [eN]) ?_
      refine GV.gx (wa := W8 E u0 u1 u2 u3 u4 u5 u6 u7 ca qs zs fo ts rs hs cs) (wb := []) F hE hA (w_L_undo l E (c_X6_undo l E (d := d) (v0 := v0) (v1 := v1) (t := t) (u := u) (a := a) (g := g') (f := f') (m := m9) (r := r) (B := kB n B) (G := kG n G g) (K := kG n Q9 f) hn1) un_pm) (kx_undo F.2.2.2.2 ⟨Nat.le_of_ble_eq_true rfl, Nat.le_of_ble_eq_true rfl⟩) (by rw [List.append_nil]; rfl) rfl hl.1 (Nat.le_of_ble_eq_true rfl) (by omega) dL_law_534 rfl ?_
      refine GV.weq (ws' := W8 E u0 u1 u2 u3 u4 u5 u6 u7 ca qs zs fo ts rs hs cs ++ (dW E d v0 v1 t u (nI n1) m9 r a g f ++ tlW E v1 (kB n B) (kG n G g) (kG n Q9 f))) (by rw [List.append_nil, eG, eQ]; rfl) ?_
      refine GW.if_lt (tgt := 575) F dL_law_537 (by decide) (fun h _ => absurd h (nI_pos (by omega))) (fun _ _ => ?_)
      refine GW.aload_n F dL_law_540 rfl (lv_at hl 3 rfl) ?_
      refine GV.rdS (wa := W8 E u0 u1 u2 u3 u4 u5 u6 u7 ca qs zs fo ts rs hs cs) (wc := dW E d v0 v1 t u (nI n1) m9 r a g f) (wb := tlW E v1 (kB n B) (kG n G g) (kG n Q9 f)) F hE (c_L_told l E hJ.g8 hb.2.2.2.1) (kL_136 F.2.2.2.2 ⟨Nat.le_of_ble_eq_true rfl, Nat.le_of_ble_eq_true rfl⟩) rfl rfl hl.1 (Nat.le_of_ble_eq_true rfl) (by omega) dL_law_541 rfl ?_
      rw [tdL_n (nI n1) (nI n) C]
      refine GW.lload F dL_law_544 (lv_at hl 1 rfl) ?_
      refine GW.lcmp F dL_law_546 ?_
      refine GW.if_ne (tgt := 575) F dL_law_547 (by decide) (fun h => absurd (lg_self _) h) (fun _ => ?_)
      refine GW.aload_n F dL_law_550 rfl (lv_at hl 3 rfl) ?_
      refine GW.aload F dL_law_551 (lv_at hl 11 rfl) ?_
      refine GW.iconst (v := nI 0) F dL_law_553 (by decide) ?_
      refine GW.iadn (i := 0) F hE 0 rfl (by decide) (by decide) dL_law_554 (fun z9 e9 => ?_)
      obtain rfl := (e9.trans hca.1).symm
      clear e9
      refine GW.aload F dL_law_555 (lv_at hl 11 rfl) ?_
      refine GW.iconst (v := nI 1) F dL_law_557 (by decide) ?_
      refine GW.iadn (i := 1) F hE 0 rfl (by decide) (by decide) dL_law_558 (fun z9 e9 => ?_)
      obtain rfl := (e9.trans hca.2.1).symm
      clear e9
      refine GW.aload F dL_law_559 (lv_at hl 11 rfl) ?_
      refine GW.iconst (v := nI 2) F dL_law_561 (by decide) ?_
      refine GW.iadn (i := 2) F hE 0 rfl (by decide) (by decide) dL_law_562 (fun z9 e9 => ?_)
      obtain rfl := (e9.trans hca.2.2.1).symm
      clear e9
      refine GW.aload F dL_law_563 (lv_at hl 11 rfl) ?_
      refine GW.iconst (v := nI 3) F dL_law_565 (by decide) ?_
      refine GW.iadn (i := 3) F hE 0 rfl (by decide) (by decide) dL_law_566 (fun z9 e9 => ?_)
      obtain rfl := (e9.trans hca.2.2.2).symm
      clear e9
      refine GV.gy (wa := W8 E u0 u1 u2 u3 u4 u5 u6 u7 ca qs zs fo ts rs hs cs) (wb := []) F hE hA (hG n1 (kB n B) (kG n G g) (kG n Q9 f) (by omega)) (kL_140 F.2.2.2.2 ⟨Nat.le_of_ble_eq_true rfl, Nat.le_of_ble_eq_true rfl⟩) (by rw [List.append_nil]) rfl hl.1 (Nat.le_of_ble_eq_true rfl) (by omega) dL_law_567 rfl ?_
      refine GV.weq (ws' := W8 E u0 u1 u2 u3 u4 u5 u6 u7 ca qs zs fo ts rs hs cs ++ (dW E d v0 v1 t u (nI (kN n1)) m9 r a g' f' ++ tlW E v1 (kB n1 (kB n B)) (kG n1 (kG n G g) g) (kG n1 (kG n Q9 f) f))) (by rw [List.append_nil]) ?_
      refine GW.iload F dL_law_570 (lv_at hl 0 rfl) ?_
      refine GW.icmp_eq (tgt := 577) F dL_law_572 (by decide) (fun _ => ?_) (fun h => absurd rfl h)
      refine turn_end F hE hA hst hI2 hd (by omega) (lv_sub hl [2, 3, 4, 5, 6, 7, 8, 9, 10, 11, 12, 14, 0] rfl) (fun ls hl => kk _ _ _ _ _ _ _ _ _ _ _ _ _ _ _ ls hI2 (kN_le (by omega)) (by omega) (by omega) hl)
set_option maxHeartbeats 4000000 in
set_option maxRecDepth 100000 in
theorem law_it {p : Program} {l : Launch} {e : Env} {s : State} {m : MethodId} {args : Array Value} {below : List Frame} {meth : Method} {c : Code} {E : EV} {A : Nat → Prop} {Q : State → Prop} (F : CallFix p m c cL_law 19 s args LW RL) (hE : CE E A s s.heap) (hA : ∀ q, s.heap.size ≤ q → A q) {b L : Nat} {xs : Nat → Int32} (hX : va_X b L xs s s.heap) (hbl : b < s.heap.size) (hbA : ¬ A b) (hL : L < 2 ^ 31) {d u0 u1 u2 u3 u4 u5 u6 u7 v0 v1 t u : Nat} {m9 : Int32} {r : Nat → Int32} {a : Nat → Nat} {i : Nat} {ca : Nat → Int32} {qs zs fo ts rs hs cs : Nat → Int32} {g : Nat → Int32} {f : Nat → Nat → Int32} {n : Nat} {B : Nat → Nat → Nat} {G : Nat → Nat → Int32} {Q9 : Nat → Nat → Nat → Int32} {kc nc : Nat} (hst : l.stackTraces = false) (hI : LI g f qs zs fo ts rs hs cs i) (hi : i < 40) (hn : n ≤ 6) (hkn : kc + 4 ≤ room_1.cells ∧ nc + 24 ≤ room_1.slots) {ls : Array Slot} (hl : lv_has ls 19 [(0, .ref b), (1, .ref d), (2, .ref u1), (3, .ref u2), (4, .ref u3), (5, .ref u4), (6, .ref u5), (7, .ref u6), (8, .ref u7), (9, .ref u0), (10, .int (nI i))]) (kk : ∀ (ca : Nat → Int32) (g' : Nat → Int32) (f' : Nat → Nat → Int32) (qs' zs' fo' ts' rs' hs' cs' : Nat → Int32) (n' : Nat) (B' : Nat → Nat → Nat) (G' : Nat → Nat → Int32) (Q' : Nat → Nat → Nat → Int32) (k' n2 : Nat) (ls : Array Slot), LI g' f' qs' zs' fo' ts' rs' hs' cs' (i + 1) → n' ≤ 6 → k' ≤ kc + 4 → n2 ≤ nc + 24 → lv_has ls 19 [(0, .ref b), (1, .ref d), (2, .ref u1), (3, .ref u2), (4, .ref u3), (5, .ref u4), (6, .ref u5), (7, .ref u6), (8, .ref u7), (9, .ref u0), (10, .int (nI (i + 1)))] → GV p l e room_1 s m args below meth c E A Q (W8 E u0 u1 u2 u3 u4 u5 u6 u7 ca qs' zs' fo' ts' rs' hs' cs' ++ (dW E d v0 v1 t u (nI n') m9 r a g' f' ++ tlW E v1 B' G' Q')) k' n2 (F0 m 95 ls [])) : GV p l e room_1 s m args below meth c E A Q (W8 E u0 u1 u2 u3 u4 u5 u6 u7 ca qs zs fo ts rs hs cs ++ (dW E d v0 v1 t u (nI n) m9 r a g f ++ tlW E v1 B G Q9)) kc nc (F0 m 95 ls []) := by
  have hkn0 : kc ≤ room_1.cells ∧ nc ≤ room_1.slots := by omega
  refine GW.iload F dL_law_95 (lv_at hl 10 rfl) ?_
  refine GW.bipush (v := nI 40) F dL_law_97 (by decide) ?_
  refine GW.icmp_ge (tgt := 630) F dL_law_99 (by decide) (fun h _ => absurd ((nI_leI (by omega) (by omega)).mp h) (by omega)) (fun _ _ => ?_)
  refine GW.aload_n F dL_law_102 rfl (lv_at hl 0 rfl) ?_
  refine GW.iconst (v := nI 2) F dL_law_103 (by decide) ?_
  refine GW.iload F dL_law_104 (lv_at hl 10 rfl) ?_
  refine GW.imul F dL_law_106 (fun z9 e9 => ?_)
  obtain rfl := (e9.trans (pk_mul 2 i)).symm
  clear e9
  refine GV.cell F hX hbl hbA (c_L_cell l E hL (by omega)) (kL_132 F.2.2.2.2 ⟨Nat.le_of_ble_eq_true rfl, Nat.le_of_ble_eq_true rfl⟩) hl.1 (Nat.le_of_ble_eq_true rfl) hkn0 dL_law_107 ?_
  refine GW.topi (fun X eX => ?_)
  clear eX
  refine GW.istore (lv' := [(11, .int X), (0, .ref b), (1, .ref d), (2, .ref u1), (3, .ref u2), (4, .ref u3), (5, .ref u4), (6, .ref u5), (7, .ref u6), (8, .ref u7), (9, .ref u0), (10, .int (nI i))]) F dL_law_110 hl (by decide) rfl (fun ls hl => ?_)
  refine GW.aload_n F dL_law_112 rfl (lv_at hl 1 rfl) ?_
  refine GW.iconst (v := nI 2) F dL_law_113 (by decide) ?_
  refine GW.iload F dL_law_114 (lv_at hl 11 rfl) ?_
  refine GW.imul F dL_law_116 (fun z9 e9 => ?_)
  obtain rfl := (e9.trans (pk_mul 2 i)).symm
  clear e9
  refine GW.iconst (v := nI 1) F dL_law_117 (by decide) ?_
  refine GW.iadd F dL_law_118 (fun z9 e9 => ?_)
  obtain rfl := (e9.trans (nI_add (2 * i) 1)).symm
  clear e9
  refine GV.cell F hX hbl hbA (c_L_cell l E hL (by omega)) (kL_132 F.2.2.2.2 ⟨Nat.le_of_ble_eq_true rfl, Nat.le_of_ble_eq_true rfl⟩) hl.1 (Nat.le_of_ble_eq_true rfl) hkn0 dL_law_119 ?_
  refine GW.topi (fun Y eY => ?_)
  clear eY
  refine GW.istore (lv' := [(12, .int Y), (11, .int X), (0, .ref b), (1, .ref d), (2, .ref u1), (3, .ref u2), (4, .ref u3), (5, .ref u4), (6, .ref u5), (7, .ref u6), (8, .ref u7), (9, .ref u0), (10, .int (nI i))]) F dL_law_122 hl (by decide) rfl (fun ls hl => ?_)
  refine sg_kind F hE (by omega) hkn0 (lv_sub hl [2, 3, 4, 5, 6, 7, 8, 9, 10, 11, 12, 1, 0] rfl) (fun κ hκ ls hl => ?_)
  refine sg_c0 F hE hkn0 hl (fun K hK ls hl => ?_)
  refine sg_c1 F hE hkn0 hl (fun p hp8 ls hl => ?_)
  refine sg_ab F hE hkn0 hl (fun α β hα hβ ls hl => ?_)
  have k0 : upd (upd ca 0 (nI K)) 1 (nI p) 0 = nI K := (upd_ne (by decide)).trans upd_eq
  have k1 : upd (upd ca 0 (nI K)) 1 (nI p) 1 = nI p := upd_eq
  generalize upd (upd ca 0 (nI K)) 1 (nI p) = cb at k0 k1 ⊢
  rcases (show K = 0 ∨ K = 1 ∨ K = 2 ∨ K = 3 ∨ K = 4 ∨ K = 5 ∨ K = 6 by omega) with rfl | rfl | rfl | rfl | rfl | rfl | rfl
  · skip
    refine sg_w0 F hE hα hβ k0 hkn0 hl (fun w v hw hv ls hl => ?_)
    have r0 : upd (upd cb 2 (nI w)) 3 (nI v) 0 = nI 0 := (upd_ne (by decide)).trans ((upd_ne (by decide)).trans k0)
    have r1 : upd (upd cb 2 (nI w)) 3 (nI v) 1 = nI p := (upd_ne (by decide)).trans ((upd_ne (by decide)).trans k1)
    have r2 : upd (upd cb 2 (nI w)) 3 (nI v) 2 = nI w := (upd_ne (by decide)).trans upd_eq
    have r3 : upd (upd cb 2 (nI w)) 3 (nI v) 3 = nI v := upd_eq
    exact turn F hE hA (K := 0) (x := nI p) (y := nI w) (z := nI v) (tm := i) hst hI hn ⟨r0, r1, r2, r3⟩ (op_0 hst hI hi r0 r1 hp8 r2 hw.1 hw.2) hkn hl (kk _)
  · skip
    refine sg_w1 F hE hα hβ k0 hkn0 hl (fun w v hw hv ls hl => ?_)
    have r0 : upd (upd cb 2 (nI w)) 3 (nI v) 0 = nI 1 := (upd_ne (by decide)).trans ((upd_ne (by decide)).trans k0)
    have r1 : upd (upd cb 2 (nI w)) 3 (nI v) 1 = nI p := (upd_ne (by decide)).trans ((upd_ne (by decide)).trans k1)
    have r2 : upd (upd cb 2 (nI w)) 3 (nI v) 2 = nI w := (upd_ne (by decide)).trans upd_eq
    have r3 : upd (upd cb 2 (nI w)) 3 (nI v) 3 = nI v := upd_eq
    exact turn F hE hA (K := 1) (x := nI p) (y := nI w) (z := nI v) (tm := i) hst hI hn ⟨r0, r1, r2, r3⟩ (op_1 hst hI hi r0 r1 hp8 r2 hw.1 hw.2) hkn hl (kk _)
  · skip
    refine sg_w2 F hE hα hβ k0 hkn0 hl (fun w v hw hv ls hl => ?_)
    have r0 : upd (upd cb 2 (nI w)) 3 (nI v) 0 = nI 2 := (upd_ne (by decide)).trans ((upd_ne (by decide)).trans k0)
    have r1 : upd (upd cb 2 (nI w)) 3 (nI v) 1 = nI p := (upd_ne (by decide)).trans ((upd_ne (by decide)).trans k1)
    have r2 : upd (upd cb 2 (nI w)) 3 (nI v) 2 = nI w := (upd_ne (by decide)).trans upd_eq
    have r3 : upd (upd cb 2 (nI w)) 3 (nI v) 3 = nI v := upd_eq
    exact turn F hE hA (K := 2) (x := nI p) (y := nI w) (z := nI v) (tm := i) hst hI hn ⟨r0, r1, r2, r3⟩ (op_2 hst hI hi r0 r1 hp8 r2 hw r3 hv.1 hv.2) hkn hl (kk _)
  · skip
    refine sg_w3 F hE hα hβ k0 hkn0 hl (fun w v hw hv ls hl => ?_)
    have r0 : upd (upd cb 2 (nI w)) 3 (nI v) 0 = nI 3 := (upd_ne (by decide)).trans ((upd_ne (by decide)).trans k0)
    have r1 : upd (upd cb 2 (nI w)) 3 (nI v) 1 = nI p := (upd_ne (by decide)).trans ((upd_ne (by decide)).trans k1)
    have r2 : upd (upd cb 2 (nI w)) 3 (nI v) 2 = nI w := (upd_ne (by decide)).trans upd_eq
    have r3 : upd (upd cb 2 (nI w)) 3 (nI v) 3 = nI v := upd_eq
    exact turn F hE hA (K := 3) (x := nI p) (y := nI w) (z := nI v) (tm := i) hst hI hn ⟨r0, r1, r2, r3⟩ (op_3 hst hI hi r0 r1 hp8 r2 hw r3 hv.1 hv.2) hkn hl (kk _)
  · skip
    refine sg_w4 F hE hα hβ k0 hkn0 hl (fun w v hw hv ls hl => ?_)
    have r0 : upd (upd cb 2 (nI w)) 3 (nI v) 0 = nI 4 := (upd_ne (by decide)).trans ((upd_ne (by decide)).trans k0)
    have r1 : upd (upd cb 2 (nI w)) 3 (nI v) 1 = nI p := (upd_ne (by decide)).trans ((upd_ne (by decide)).trans k1)
    have r2 : upd (upd cb 2 (nI w)) 3 (nI v) 2 = nI w := (upd_ne (by decide)).trans upd_eq
    have r3 : upd (upd cb 2 (nI w)) 3 (nI v) 3 = nI v := upd_eq
    exact turn F hE hA (K := 4) (x := nI p) (y := nI w) (z := nI v) (tm := i) hst hI hn ⟨r0, r1, r2, r3⟩ (op_4 hst hI hi r0 r1 hp8 r2 hw.1 hw.2 r3 hv.1 hv.2) hkn hl (kk _)
  · skip
    refine sg_w5 F hE hα hβ k0 hkn0 hl (fun w v hw hv ls hl => ?_)
    have r0 : upd (upd cb 2 (nI w)) 3 (nI v) 0 = nI 5 := (upd_ne (by decide)).trans ((upd_ne (by decide)).trans k0)
    have r1 : upd (upd cb 2 (nI w)) 3 (nI v) 1 = nI p := (upd_ne (by decide)).trans ((upd_ne (by decide)).trans k1)
    have r2 : upd (upd cb 2 (nI w)) 3 (nI v) 2 = nI w := (upd_ne (by decide)).trans upd_eq
    have r3 : upd (upd cb 2 (nI w)) 3 (nI v) 3 = nI v := upd_eq
    exact turn F hE hA (K := 5) (x := nI p) (y := nI w) (z := nI v) (tm := i) hst hI hn ⟨r0, r1, r2, r3⟩ (op_5 hst hI hi r0 r1 hp8 r2 hw r3 hv.1 hv.2) hkn hl (kk _)
  · skip
    refine sg_w6 F hE hα hβ k0 hkn0 hl (fun w v hw hv ls hl => ?_)
    have r0 : upd (upd cb 2 (nI w)) 3 (nI v) 0 = nI 6 := (upd_ne (by decide)).trans ((upd_ne (by decide)).trans k0)
    have r1 : upd (upd cb 2 (nI w)) 3 (nI v) 1 = nI p := (upd_ne (by decide)).trans ((upd_ne (by decide)).trans k1)
    have r2 : upd (upd cb 2 (nI w)) 3 (nI v) 2 = nI w := (upd_ne (by decide)).trans upd_eq
    have r3 : upd (upd cb 2 (nI w)) 3 (nI v) 3 = nI v := upd_eq
    exact turn F hE hA (K := 6) (x := nI p) (y := nI w) (z := nI v) (tm := i) hst hI hn ⟨r0, r1, r2, r3⟩ (op_6 hst hI hi r0 r1 hp8 r2 hw) hkn hl (kk _)
set_option maxHeartbeats 4000000 in
set_option maxRecDepth 100000 in
theorem law_loop {p : Program} {l : Launch} {e : Env} {s : State} {m : MethodId} {args : Array Value} {below : List Frame} {meth : Method} {c : Code} {E : EV} {A : Nat → Prop} {Q : State → Prop} (F : CallFix p m c cL_law 19 s args LW RL) (hE : CE E A s s.heap) (hA : ∀ q, s.heap.size ≤ q → A q) {b L : Nat} {xs : Nat → Int32} (hX : va_X b L xs s s.heap) (hbl : b < s.heap.size) (hbA : ¬ A b) (hL : L < 2 ^ 31) {d u0 u1 u2 u3 u4 u5 u6 u7 v0 v1 t u : Nat} {m9 : Int32} {r : Nat → Int32} {a : Nat → Nat} (hst : l.stackTraces = false) {K1 N1 : Nat} (hK : K1 ≤ room_1.cells) (hN : N1 ≤ room_1.slots) (hx : ∀ (ws : va_W) (k n : Nat) (ls : Array Slot), k ≤ K1 → n ≤ N1 → GV p l e room_1 s m args below meth c E A Q ws k n (F0 m 630 ls [])) :
    ∀ (N i : Nat), i + N = 40 → ∀ (ca qs zs fo ts rs hs cs : Nat → Int32) (g : Nat → Int32) (f : Nat → Nat → Int32) (n : Nat) (B : Nat → Nat → Nat) (G : Nat → Nat → Int32) (Q9 : Nat → Nat → Nat → Int32) (kc nc : Nat) (ls : Array Slot), LI g f qs zs fo ts rs hs cs i → n ≤ 6 → kc + 4 * N ≤ K1 → nc + 24 * N ≤ N1 → lv_has ls 19 [(0, .ref b), (1, .ref d), (2, .ref u1), (3, .ref u2), (4, .ref u3), (5, .ref u4), (6, .ref u5), (7, .ref u6), (8, .ref u7), (9, .ref u0), (10, .int (nI i))] → GV p l e room_1 s m args below meth c E A Q (W8 E u0 u1 u2 u3 u4 u5 u6 u7 ca qs zs fo ts rs hs cs ++ (dW E d v0 v1 t u (nI n) m9 r a g f ++ tlW E v1 B G Q9)) kc nc (F0 m 95 ls []) := by
  intro N
  induction N with
  | zero =>
    intro i hiN ca qs zs fo ts rs hs cs g f n B G Q9 kc nc ls hI hn hk hn2 hl
    obtain rfl : i = 40 := by omega
    refine GW.iload F dL_law_95 (lv_at hl 10 rfl) ?_
    refine GW.bipush (v := nI 40) F dL_law_97 (by decide) ?_
    refine GW.icmp_ge (tgt := 630) F dL_law_99 (by decide) (fun _ _ => ?_) (fun h => absurd Int32.le_rfl h)
    exact hx _ kc nc ls (by omega) (by omega)
  | succ N ih =>
    intro i hiN ca qs zs fo ts rs hs cs g f n B G Q9 kc nc ls hI hn hk hn2 hl
    exact law_it F hE hA hX hbl hbA hL hst hI (by omega) hn (by omega) hl (fun ca' g' f' qs' zs' fo' ts' rs' hs' cs' n' B' G' Q' k' n2 ls hI' hn' hk' hn2' hl => ih (i + 1) (by omega) ca' qs' zs' fo' ts' rs' hs' cs' g' f' n' B' G' Q' k' n2 ls hI' hn' (by omega) (by omega) hl)
