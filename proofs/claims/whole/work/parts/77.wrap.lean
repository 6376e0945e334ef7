section GVw
variable {p : Program} {l : Launch} {e : Env} {R : Room} {s : State} {m : MethodId} {args : Array Value} {below : List Frame} {meth : Method} {c : Code} {E : EV} {A : Nat → Prop} {Q : State → Prop} {ws : va_W} {k n : Nat}
variable {cc : ByteArray} {nL : Nat} {own : String} {pc : Nat} {ls : Array Slot} {st : List Value} {g g2 : JFrame}
theorem GV.aload (F : CallFix p m c cc nL s args LW own) {i : Nat} {x : Nat} (hd : decode cc pc = .ok (.aload i, 2)) (hl : ls[i]? = some (.val (.ref x))) (kk : GV p l e R s m args below meth c E A Q ws k n (F0 m (pc + 2) ls (.ref x :: st))) : GV p l e R s m args below meth c E A Q ws k n (F0 m pc ls st) := GV.go (fun _ _ kk => lv_aload F.1 F.2.1 hd hl kk) kk
theorem GV.i2l (F : CallFix p m c cc nL s args LW own) {x : Int32} (hd : decode cc pc = .ok (.i2l, 1)) (kk : GV p l e R s m args below meth c E A Q ws k n (F0 m (pc + 1) ls (.long x.toInt64 :: st))) : GV p l e R s m args below meth c E A Q ws k n (F0 m pc ls (.int x :: st)) := GV.go (fun _ _ kk => lv_i2l F.1 F.2.1 hd rfl kk) kk
theorem GV.last (F : CallFix p m c cc nL s args LW own) (hE : CE E A s s.heap) {a i N : Nat} {f : Nat → Int64} {x : Int64} (q0 : Nat) (he : ws[q0]? = some (rl_ E a N f)) (hi : i < N) (hN : N < 2 ^ 31) (hd : decode cc pc = .ok (.lastore, 1)) {ws' : va_W} (hw : ws.set q0 (rl_ E a N (vp_updL f i x)) = ws') (kk : GV p l e R s m args below meth c E A Q ws' k n (F0 m (pc + 1) ls st)) : GV p l e R s m args below meth c E A Q ws k n (F0 m pc ls (.long x :: .int (nI i) :: .ref a :: st)) := by
  subst hw
  exact fun H locs hP hD hS => va_last F.1 F.2.1 hE.1 hP hD hS q0 2 he rfl (vp_in_nI hi hN) hd (fun H1 locs1 a b d => kk H1 locs1 (by rw [nI_clamp (by omega)] at a; exact a) (by rw [nI_clamp (by omega)] at b; exact b) d)
theorem GV.astore (F : CallFix p m c cc nL s args LW own) {i : Nat} {x : Nat} {lv lv' : List (Nat × Value)} (hd : decode cc pc = .ok (.astore i, 2)) (h : lv_has ls nL lv) (hn : i < nL) (hl : (i, Value.ref x) :: lv.filter (fun q => !(q.1 == i) && !(q.1 + 1 == i && q.2.category == 2)) = lv') (kk : ∀ ls' : Array Slot, lv_has ls' nL lv' → GV p l e R s m args below meth c E A Q ws k n (F0 m (pc + 2) ls' st)) : GV p l e R s m args below meth c E A Q ws k n (F0 m pc ls (.ref x :: st)) := fun H locs a b d => lv_astore F.1 F.2.1 hd h hn hl (fun ls' h' => kk ls' h' H locs a b d)
theorem GV.astore_n (F : CallFix p m c cc nL s args LW own) {k0 : Fin 4} {i : Nat} {x : Nat} {lv lv' : List (Nat × Value)} (hd : decode cc pc = .ok (.astore_n k0, 1)) (hi : (k0 : Nat) = i) (h : lv_has ls nL lv) (hn : i < nL) (hl : (i, Value.ref x) :: lv.filter (fun q => !(q.1 == i) && !(q.1 + 1 == i && q.2.category == 2)) = lv') (kk : ∀ ls' : Array Slot, lv_has ls' nL lv' → GV p l e R s m args below meth c E A Q ws k n (F0 m (pc + 1) ls' st)) : GV p l e R s m args below meth c E A Q ws k n (F0 m pc ls (.ref x :: st)) := fun H locs a b d => lv_astore_n F.1 F.2.1 hd hi h hn hl (fun ls' h' => kk ls' h' H locs a b d)
end GVw
theorem casI : Cond.castable xI xI ∈ NWL := NWL_mk 468 (by decide +kernel) rfl
theorem casA : Cond.castable xA xA ∈ NWL := NWL_mk 539 (by decide +kernel) rfl
theorem casS : Cond.castable xS xS ∈ NWL := NWL_mk 611 (by decide +kernel) rfl
theorem clL_13 : Cond.classLink RL 13 xI ∈ LW := LW_mk 456 (by decide +kernel) rfl
theorem clL_15 : Cond.classLink RL 15 xA ∈ LW := LW_mk 457 (by decide +kernel) rfl
theorem clL_21 : Cond.classLink RL 21 xS ∈ LW := LW_mk 597 (by decide +kernel) rfl
theorem wd_L_size : Cond.codeWith yL_size cL_size 5 (some .int) [(0, 10, 13, 13), (0, 10, 17, 15)] ∈ LW := LW_mk 455 (by decide +kernel) rfl
set_option maxHeartbeats 4000000 in
set_option maxRecDepth 100000 in
theorem w_L_size (l : Launch) (E : EV) {d o : Nat} {f : Nat → Int64} {p0 p1 : Int32} {fs fs' : List Value} {wc wc' wb : va_W} {v : Int32} (hM : Wr l E yX6_size cX6_size 3 (some .int) 7 104 [.ref d, .int p0, .int p1] ((d, .inr (6, fs)) :: wc) ((d, .inr (6, fs')) :: wc') (some (.int v))) (hp : (ads ((d, .inr (6, fs')) :: wc')).Perm (ads ((d, .inr (6, fs)) :: wc))) : Gx l E yL_size cL_size 5 [(0, 10, 13, 13), (0, 10, 17, 15)] 8 126 [.ref d, .int p0, .int p1, .ref o] (rl_ E o 1 f :: (((d, .inr (6, fs)) :: wc) ++ wb)) (rl_ E o 1 (vp_updL f 0 v.toInt64) :: (((d, .inr (6, fs')) :: wc') ++ wb)) (nI 0) := by
  refine Gx.mk0 (by decide) (Nat.le_of_ble_eq_true rfl) ?_
  intro pP eE sS mM aA bB mt cC A F hr hk hT hE ls hl
  have hl : lv_has ls 5 [(0, .ref d), (1, .int p0), (2, .int p1), (3, .ref o)] := hl
  refine GV.aload_n F dL_size_0 rfl (lv_at hl 3 rfl) ?_
  refine GV.iconst (v := nI 0) F dL_size_1 (by decide) ?_
  refine GV.aload_n F dL_size_2 rfl (lv_at hl 0 rfl) ?_
  refine GV.iload_n F dL_size_3 rfl (lv_at hl 1 rfl) ?_
  refine GV.iload_n F dL_size_4 rfl (lv_at hl 2 rfl) ?_
  refine GV.wrV (q0 := 1) (wa := [rl_ E o 1 f]) (wb := wb) F hE hM hp (kL_7 F.2.2.2.2 ⟨Nat.le_of_ble_eq_true rfl, Nat.le_of_ble_eq_true rfl⟩) rfl rfl rfl rfl hl.1 (Nat.le_of_ble_eq_true rfl) ⟨Nat.zero_le _, Nat.zero_le _⟩ dL_size_5 rfl ?_
  refine GV.i2l F dL_size_8 ?_
  refine GV.last F hE 0 rfl (by decide) (by decide) dL_size_9 rfl ?_
  refine GV.goto (tgt := 21) F dL_size_10 (by decide) ?_
  refine GV.iconst (v := nI 0) F dL_size_21 (by decide) ?_
  exact GV.iret F hr hk rfl rfl (Nat.zero_le _) (Nat.zero_le _) dL_size_22
set_option maxHeartbeats 4000000 in
set_option maxRecDepth 100000 in
theorem w_L_size_e1 (l : Launch) (E : EV) {d o : Nat} {f : Nat → Int64} {p0 p1 : Int32} {fs : List Value} {wc wb : va_W} (hM : Th l E yX6_size cX6_size 3 (some .int) 7 104 [.ref d, .int p0, .int p1] ((d, .inr (6, fs)) :: wc) xI) : Gx l E yL_size cL_size 5 [(0, 10, 13, 13), (0, 10, 17, 15)] 8 126 [.ref d, .int p0, .int p1, .ref o] (rl_ E o 1 f :: (((d, .inr (6, fs)) :: wc) ++ wb)) (rl_ E o 1 f :: (((d, .inr (6, fs)) :: wc) ++ wb)) (nI 1) := by
  refine Gx.mk0 (by decide) (Nat.le_of_ble_eq_true rfl) ?_
  intro pP eE sS mM aA bB mt cC A F hr hk hT hE ls hl
  have hl : lv_has ls 5 [(0, .ref d), (1, .int p0), (2, .int p1), (3, .ref o)] := hl
  refine GV.aload_n F dL_size_0 rfl (lv_at hl 3 rfl) ?_
  refine GV.iconst (v := nI 0) F dL_size_1 (by decide) ?_
  refine GV.aload_n F dL_size_2 rfl (lv_at hl 0 rfl) ?_
  refine GV.iload_n F dL_size_3 rfl (lv_at hl 1 rfl) ?_
  refine GV.iload_n F dL_size_4 rfl (lv_at hl 2 rfl) ?_
  refine GV.thr (q0 := 1) (wa := [rl_ E o 1 f]) (wb := wb) (name := xI) F hE hM (kL_7 F.2.2.2.2 ⟨Nat.le_of_ble_eq_true rfl, Nat.le_of_ble_eq_true rfl⟩) rfl rfl rfl rfl hl.1 (Nat.le_of_ble_eq_true rfl) ⟨Nat.le_of_ble_eq_true rfl, Nat.le_of_ble_eq_true rfl⟩ dL_size_5 rfl [] ⟨0, 10, 13, 13⟩ [⟨0, 10, 17, 15⟩] hT (fun z hz => absurd hz List.not_mem_nil) rfl (by decide) clL_13 (nw_use casI hE.2.1) (fun q => ?_)
  refine GV.astore (lv' := [(4, .ref q), (0, .ref d), (1, .int p0), (2, .int p1), (3, .ref o)]) F dL_size_13 hl (by decide) rfl (fun ls hl => ?_)
  refine GV.iconst (v := nI 1) F dL_size_15 (by decide) ?_
  exact GV.iret F hr hk rfl rfl (Nat.le_of_ble_eq_true rfl) (Nat.le_of_ble_eq_true rfl) dL_size_16
set_option maxHeartbeats 4000000 in
set_option maxRecDepth 100000 in
theorem w_L_size_e2 (l : Launch) (E : EV) {d o : Nat} {f : Nat → Int64} {p0 p1 : Int32} {fs : List Value} {wc wb : va_W} (hM : Th l E yX6_size cX6_size 3 (some .int) 7 104 [.ref d, .int p0, .int p1] ((d, .inr (6, fs)) :: wc) xA) : Gx l E yL_size cL_size 5 [(0, 10, 13, 13), (0, 10, 17, 15)] 8 126 [.ref d, .int p0, .int p1, .ref o] (rl_ E o 1 f :: (((d, .inr (6, fs)) :: wc) ++ wb)) (rl_ E o 1 f :: (((d, .inr (6, fs)) :: wc) ++ wb)) (nI 2) := by
  refine Gx.mk0 (by decide) (Nat.le_of_ble_eq_true rfl) ?_
  intro pP eE sS mM aA bB mt cC A F hr hk hT hE ls hl
  have hl : lv_has ls 5 [(0, .ref d), (1, .int p0), (2, .int p1), (3, .ref o)] := hl
  refine GV.aload_n F dL_size_0 rfl (lv_at hl 3 rfl) ?_
  refine GV.iconst (v := nI 0) F dL_size_1 (by decide) ?_
  refine GV.aload_n F dL_size_2 rfl (lv_at hl 0 rfl) ?_
  refine GV.iload_n F dL_size_3 rfl (lv_at hl 1 rfl) ?_
  refine GV.iload_n F dL_size_4 rfl (lv_at hl 2 rfl) ?_
  refine GV.thr (q0 := 1) (wa := [rl_ E o 1 f]) (wb := wb) (name := xA) F hE hM (kL_7 F.2.2.2.2 ⟨Nat.le_of_ble_eq_true rfl, Nat.le_of_ble_eq_true rfl⟩) rfl rfl rfl rfl hl.1 (Nat.le_of_ble_eq_true rfl) ⟨Nat.le_of_ble_eq_true rfl, Nat.le_of_ble_eq_true rfl⟩ dL_size_5 rfl [⟨0, 10, 13, 13⟩] ⟨0, 10, 17, 15⟩ [] hT (List.forall_mem_cons.mpr ⟨⟨by decide, xI, clL_13, hE.2.2.2.2.1.2.2.1⟩, fun _ h => absurd h List.not_mem_nil⟩) rfl (by decide) clL_15 (nw_use casA hE.2.1) (fun q => ?_)
  refine GV.astore (lv' := [(4, .ref q), (0, .ref d), (1, .int p0), (2, .int p1), (3, .ref o)]) F dL_size_17 hl (by decide) rfl (fun ls hl => ?_)
  refine GV.iconst (v := nI 2) F dL_size_19 (by decide) ?_
  exact GV.iret F hr hk rfl rfl (Nat.le_of_ble_eq_true rfl) (Nat.le_of_ble_eq_true rfl) dL_size_20
theorem wd_L_pass : Cond.codeWith yL_pass cL_pass 4 (some .int) [(0, 9, 12, 15), (0, 9, 15, 21)] ∈ LW := LW_mk 596 (by decide +kernel) rfl
set_option maxHeartbeats 4000000 in
set_option maxRecDepth 100000 in
theorem w_L_pass (l : Launch) (E : EV) {d o : Nat} {f : Nat → Int64} {p0 : Int32} {fs fs' : List Value} {wc wc' wb : va_W} {v : Int32} (hM : Wr l E yX6_pass cX6_pass 2 (some .int) 7 104 [.ref d, .int p0] ((d, .inr (6, fs)) :: wc) ((d, .inr (6, fs')) :: wc') (some (.int v))) (hp : (ads ((d, .inr (6, fs')) :: wc')).Perm (ads ((d, .inr (6, fs)) :: wc))) : Gx l E yL_pass cL_pass 4 [(0, 9, 12, 15), (0, 9, 15, 21)] 8 125 [.ref d, .int p0, .ref o] (rl_ E o 1 f :: (((d, .inr (6, fs)) :: wc) ++ wb)) (rl_ E o 1 (vp_updL f 0 v.toInt64) :: (((d, .inr (6, fs')) :: wc') ++ wb)) (nI 0) := by
  refine Gx.mk0 (by decide) (Nat.le_of_ble_eq_true rfl) ?_
  intro pP eE sS mM aA bB mt cC A F hr hk hT hE ls hl
  have hl : lv_has ls 4 [(0, .ref d), (1, .int p0), (2, .ref o)] := hl
  refine GV.aload_n F dL_pass_0 rfl (lv_at hl 2 rfl) ?_
  refine GV.iconst (v := nI 0) F dL_pass_1 (by decide) ?_
  refine GV.aload_n F dL_pass_2 rfl (lv_at hl 0 rfl) ?_
  refine GV.iload_n F dL_pass_3 rfl (lv_at hl 1 rfl) ?_
  refine GV.wrV (q0 := 1) (wa := [rl_ E o 1 f]) (wb := wb) F hE hM hp (kL_17 F.2.2.2.2 ⟨Nat.le_of_ble_eq_true rfl, Nat.le_of_ble_eq_true rfl⟩) rfl rfl rfl rfl hl.1 (Nat.le_of_ble_eq_true rfl) ⟨Nat.zero_le _, Nat.zero_le _⟩ dL_pass_4 rfl ?_
  refine GV.i2l F dL_pass_7 ?_
  refine GV.last F hE 0 rfl (by decide) (by decide) dL_pass_8 rfl ?_
  refine GV.goto (tgt := 18) F dL_pass_9 (by decide) ?_
  refine GV.iconst (v := nI 0) F dL_pass_18 (by decide) ?_
  exact GV.iret F hr hk rfl rfl (Nat.zero_le _) (Nat.zero_le _) dL_pass_19
set_option maxHeartbeats 4000000 in
set_option maxRecDepth 100000 in
theorem w_L_pass_e1 (l : Launch) (E : EV) {d o : Nat} {f : Nat → Int64} {p0 : Int32} {fs : List Value} {wc wb : va_W} (hM : Th l E yX6_pass cX6_pass 2 (some .int) 7 104 [.ref d, .int p0] ((d, .inr (6, fs)) :: wc) xA) : Gx l E yL_pass cL_pass 4 [(0, 9, 12, 15), (0, 9, 15, 21)] 8 125 [.ref d, .int p0, .ref o] (rl_ E o 1 f :: (((d, .inr (6, fs)) :: wc) ++ wb)) (rl_ E o 1 f :: (((d, .inr (6, fs)) :: wc) ++ wb)) (nI 1) := by
  refine Gx.mk0 (by decide) (Nat.le_of_ble_eq_true rfl) ?_
  intro pP eE sS mM aA bB mt cC A F hr hk hT hE ls hl
  have hl : lv_has ls 4 [(0, .ref d), (1, .int p0), (2, .ref o)] := hl
  refine GV.aload_n F dL_pass_0 rfl (lv_at hl 2 rfl) ?_
  refine GV.iconst (v := nI 0) F dL_pass_1 (by decide) ?_
  refine GV.aload_n F dL_pass_2 rfl (lv_at hl 0 rfl) ?_
  refine GV.iload_n F dL_pass_3 rfl (lv_at hl 1 rfl) ?_
  refine GV.thr (q0 := 1) (wa := [rl_ E o 1 f]) (wb := wb) (name := xA) F hE hM (kL_17 F.2.2.2.2 ⟨Nat.le_of_ble_eq_true rfl, Nat.le_of_ble_eq_true rfl⟩) rfl rfl rfl rfl hl.1 (Nat.le_of_ble_eq_true rfl) ⟨Nat.le_of_ble_eq_true rfl, Nat.le_of_ble_eq_true rfl⟩ dL_pass_4 rfl [] ⟨0, 9, 12, 15⟩ [⟨0, 9, 15, 21⟩] hT (fun z hz => absurd hz List.not_mem_nil) rfl (by decide) clL_15 (nw_use casA hE.2.1) (fun q => ?_)
  refine GV.astore_n (lv' := [(3, .ref q), (0, .ref d), (1, .int p0), (2, .ref o)]) F dL_pass_12 rfl hl (by decide) rfl (fun ls hl => ?_)
  refine GV.iconst (v := nI 1) F dL_pass_13 (by decide) ?_
  exact GV.iret F hr hk rfl rfl (Nat.le_of_ble_eq_true rfl) (Nat.le_of_ble_eq_true rfl) dL_pass_14
set_option maxHeartbeats 4000000 in
set_option maxRecDepth 100000 in
theorem w_L_pass_e2 (l : Launch) (E : EV) {d o : Nat} {f : Nat → Int64} {p0 : Int32} {fs : List Value} {wc wb : va_W} (hM : Th l E yX6_pass cX6_pass 2 (some .int) 7 104 [.ref d, .int p0] ((d, .inr (6, fs)) :: wc) xS) : Gx l E yL_pass cL_pass 4 [(0, 9, 12, 15), (0, 9, 15, 21)] 8 125 [.ref d, .int p0, .ref o] (rl_ E o 1 f :: (((d, .inr (6, fs)) :: wc) ++ wb)) (rl_ E o 1 f :: (((d, .inr (6, fs)) :: wc) ++ wb)) (nI 2) := by
  refine Gx.mk0 (by decide) (Nat.le_of_ble_eq_true rfl) ?_
  intro pP eE sS mM aA bB mt cC A F hr hk hT hE ls hl
  have hl : lv_has ls 4 [(0, .ref d), (1, .int p0), (2, .ref o)] := hl
  refine GV.aload_n F dL_pass_0 rfl (lv_at hl 2 rfl) ?_
  refine GV.iconst (v := nI 0) F dL_pass_1 (by decide) ?_
  refine GV.aload_n F dL_pass_2 rfl (lv_at hl 0 rfl) ?_
  refine GV.iload_n F dL_pass_3 rfl (lv_at hl 1 rfl) ?_
  refine GV.thr (q0 := 1) (wa := [rl_ E o 1 f]) (wb := wb) (name := xS) F hE hM (kL_17 F.2.2.2.2 ⟨Nat.le_of_ble_eq_true rfl, Nat.le_of_ble_eq_true rfl⟩) rfl rfl rfl rfl hl.1 (Nat.le_of_ble_eq_true rfl) ⟨Nat.le_of_ble_eq_true rfl, Nat.le_of_ble_eq_true rfl⟩ dL_pass_4 rfl [⟨0, 9, 12, 15⟩] ⟨0, 9, 15, 21⟩ [] hT (List.forall_mem_cons.mpr ⟨⟨by decide, xA, clL_15, hE.2.2.2.2.1.2.2.2.2.2⟩, fun _ h => absurd h List.not_mem_nil⟩) rfl (by decide) clL_21 (nw_use casS hE.2.1) (fun q => ?_)
  refine GV.astore_n (lv' := [(3, .ref q), (0, .ref d), (1, .int p0), (2, .ref o)]) F dL_pass_15 rfl hl (by decide) rfl (fun ls hl => ?_)
  refine GV.iconst (v := nI 2) F dL_pass_16 (by decide) ?_
  exact GV.iret F hr hk rfl rfl (Nat.le_of_ble_eq_true rfl) (Nat.le_of_ble_eq_true rfl) dL_pass_17
theorem wd_L_rehearse : Cond.codeWith yL_rehearse cL_rehearse 6 (some .int) [(0, 12, 15, 13), (0, 12, 19, 15), (0, 12, 23, 21)] ∈ LW := LW_mk 631 (by decide +kernel) rfl
set_option maxHeartbeats 4000000 in
set_option maxRecDepth 100000 in
theorem w_L_rehearse (l : Launch) (E : EV) {d o : Nat} {f : Nat → Int64} {p0 p1 p2 : Int32} {fs fs' : List Value} {wc wc' wb : va_W} {v : Int32} (hM : Wr l E yX6_rehearse cX6_rehearse 4 (some .int) 7 104 [.ref d, .int p0, .int p1, .int p2] ((d, .inr (6, fs)) :: wc) ((d, .inr (6, fs')) :: wc') (some (.int v))) (hp : (ads ((d, .inr (6, fs')) :: wc')).Perm (ads ((d, .inr (6, fs)) :: wc))) : Gx l E yL_rehearse cL_rehearse 6 [(0, 12, 15, 13), (0, 12, 19, 15), (0, 12, 23, 21)] 8 127 [.ref d, .int p0, .int p1, .int p2, .ref o] (rl_ E o 1 f :: (((d, .inr (6, fs)) :: wc) ++ wb)) (rl_ E o 1 (vp_updL f 0 v.toInt64) :: (((d, .inr (6, fs')) :: wc') ++ wb)) (nI 0) := by
  refine Gx.mk0 (by decide) (Nat.le_of_ble_eq_true rfl) ?_
  intro pP eE sS mM aA bB mt cC A F hr hk hT hE ls hl
  have hl : lv_has ls 6 [(0, .ref d), (1, .int p0), (2, .int p1), (3, .int p2), (4, .ref o)] := hl
  refine GV.aload F dL_rehearse_0 (lv_at hl 4 rfl) ?_
  refine GV.iconst (v := nI 0) F dL_rehearse_2 (by decide) ?_
  refine GV.aload_n F dL_rehearse_3 rfl (lv_at hl 0 rfl) ?_
  refine GV.iload_n F dL_rehearse_4 rfl (lv_at hl 1 rfl) ?_
  refine GV.iload_n F dL_rehearse_5 rfl (lv_at hl 2 rfl) ?_
  refine GV.iload_n F dL_rehearse_6 rfl (lv_at hl 3 rfl) ?_
  refine GV.wrV (q0 := 1) (wa := [rl_ E o 1 f]) (wb := wb) F hE hM hp (kL_23 F.2.2.2.2 ⟨Nat.le_of_ble_eq_true rfl, Nat.le_of_ble_eq_true rfl⟩) rfl rfl rfl rfl hl.1 (Nat.le_of_ble_eq_true rfl) ⟨Nat.zero_le _, Nat.zero_le _⟩ dL_rehearse_7 rfl ?_
  refine GV.i2l F dL_rehearse_10 ?_
  refine GV.last F hE 0 rfl (by decide) (by decide) dL_rehearse_11 rfl ?_
  refine GV.goto (tgt := 27) F dL_rehearse_12 (by decide) ?_
  refine GV.iconst (v := nI 0) F dL_rehearse_27 (by decide) ?_
  exact GV.iret F hr hk rfl rfl (Nat.zero_le _) (Nat.zero_le _) dL_rehearse_28
set_option maxHeartbeats 4000000 in
set_option maxRecDepth 100000 in
theorem w_L_rehearse_e1 (l : Launch) (E : EV) {d o : Nat} {f : Nat → Int64} {p0 p1 p2 : Int32} {fs : List Value} {wc wb : va_W} (hM : Th l E yX6_rehearse cX6_rehearse 4 (some .int) 7 104 [.ref d, .int p0, .int p1, .int p2] ((d, .inr (6, fs)) :: wc) xI) : Gx l E yL_rehearse cL_rehearse 6 [(0, 12, 15, 13), (0, 12, 19, 15), (0, 12, 23, 21)] 8 127 [.ref d, .int p0, .int p1, .int p2, .ref o] (rl_ E o 1 f :: (((d, .inr (6, fs)) :: wc) ++ wb)) (rl_ E o 1 f :: (((d, .inr (6, fs)) :: wc) ++ wb)) (nI 1) := by
  refine Gx.mk0 (by decide) (Nat.le_of_ble_eq_true rfl) ?_
  intro pP eE sS mM aA bB mt cC A F hr hk hT hE ls hl
  have hl : lv_has ls 6 [(0, .ref d), (1, .int p0), (2, .int p1), (3, .int p2), (4, .ref o)] := hl
  refine GV.aload F dL_rehearse_0 (lv_at hl 4 rfl) ?_
  refine GV.iconst (v := nI 0) F dL_rehearse_2 (by decide) ?_
  refine GV.aload_n F dL_rehearse_3 rfl (lv_at hl 0 rfl) ?_
  refine GV.iload_n F dL_rehearse_4 rfl (lv_at hl 1 rfl) ?_
  refine GV.iload_n F dL_rehearse_5 rfl (lv_at hl 2 rfl) ?_
  refine GV.iload_n F dL_rehearse_6 rfl (lv_at hl 3 rfl) ?_
  refine GV.thr (q0 := 1) (wa := [rl_ E o 1 f]) (wb := wb) (name := xI) F hE hM (kL_23 F.2.2.2.2 ⟨Nat.le_of_ble_eq_true rfl, Nat.le_of_ble_eq_true rfl⟩) rfl rfl rfl rfl hl.1 (Nat.le_of_ble_eq_true rfl) ⟨Nat.le_of_ble_eq_true rfl, Nat.le_of_ble_eq_true rfl⟩ dL_rehearse_7 rfl [] ⟨0, 12, 15, 13⟩ [⟨0, 12, 19, 15⟩, ⟨0, 12, 23, 21⟩] hT (fun z hz => absurd hz List.not_mem_nil) rfl (by decide) clL_13 (nw_use casI hE.2.1) (fun q => ?_)
  refine GV.astore (lv' := [(5, .ref q), (0, .ref d), (1, .int p0), (2, .int p1), (3, .int p2), (4, .ref o)]) F dL_rehearse_15 hl (by decide) rfl (fun ls hl => ?_)
  refine GV.iconst (v := nI 1) F dL_rehearse_17 (by decide) ?_
  exact GV.iret F hr hk rfl rfl (Nat.le_of_ble_eq_true rfl) (Nat.le_of_ble_eq_true rfl) dL_rehearse_18
set_option maxHeartbeats 4000000 in
set_option maxRecDepth 100000 in
theorem w_L_rehearse_e2 (l : Launch) (E : EV) {d o : Nat} {f : Nat → Int64} {p0 p1 p2 : Int32} {fs : List Value} {wc wb : va_W} (hM : Th l E yX6_rehearse cX6_rehearse 4 (some .int) 7 104 [.ref d, .int p0, .int p1, .int p2] ((d, .inr (6, fs)) :: wc) xA) : Gx l E yL_rehearse cL_rehearse 6 [(0, 12, 15, 13), (0, 12, 19, 15), (0, 12, 23, 21)] 8 127 [.ref d, .int p0, .int p1, .int p2, .ref o] (rl_ E o 1 f :: (((d, .inr (6, fs)) :: wc) ++ wb)) (rl_ E o 1 f :: (((d, .inr (6, fs)) :: wc) ++ wb)) (nI 2) := by
  refine Gx.mk0 (by decide) (Nat.le_of_ble_eq_true rfl) ?_
  intro pP eE sS mM aA bB mt cC A F hr hk hT hE ls hl
  have hl : lv_has ls 6 [(0, .ref d), (1, .int p0), (2, .int p1), (3, .int p2), (4, .ref o)] := hl
  refine GV.aload F dL_rehearse_0 (lv_at hl 4 rfl) ?_
  refine GV.iconst (v := nI 0) F dL_rehearse_2 (by decide) ?_
  refine GV.aload_n F dL_rehearse_3 rfl (lv_at hl 0 rfl) ?_
  refine GV.iload_n F dL_rehearse_4 rfl (lv_at hl 1 rfl) ?_
  refine GV.iload_n F dL_rehearse_5 rfl (lv_at hl 2 rfl) ?_
  refine GV.iload_n F dL_rehearse_6 rfl (lv_at hl 3 rfl) ?_
  refine GV.thr (q0 := 1) (wa := [rl_ E o 1 f]) (wb := wb) (name := xA) F hE hM (kL_23 F.2.2.2.2 ⟨Nat.le_of_ble_eq_true rfl, Nat.le_of_ble_eq_true rfl⟩) rfl rfl rfl rfl hl.1 (Nat.le_of_ble_eq_true rfl) ⟨Nat.le_of_ble_eq_true rfl, Nat.le_of_ble_eq_true rfl⟩ dL_rehearse_7 rfl [⟨0, 12, 15, 13⟩] ⟨0, 12, 19, 15⟩ [⟨0, 12, 23, 21⟩] hT (List.forall_mem_cons.mpr ⟨⟨by decide, xI, clL_13, hE.2.2.2.2.1.2.2.1⟩, fun _ h => absurd h List.not_mem_nil⟩) rfl (by decide) clL_15 (nw_use casA hE.2.1) (fun q => ?_)
  refine GV.astore (lv' := [(5, .ref q), (0, .ref d), (1, .int p0), (2, .int p1), (3, .int p2), (4, .ref o)]) F dL_rehearse_19 hl (by decide) rfl (fun ls hl => ?_)
  refine GV.iconst (v := nI 2) F dL_rehearse_21 (by decide) ?_
  exact GV.iret F hr hk rfl rfl (Nat.le_of_ble_eq_true rfl) (Nat.le_of_ble_eq_true rfl) dL_rehearse_22
set_option maxHeartbeats 4000000 in
set_option maxRecDepth 100000 in
theorem w_L_rehearse_e3 (l : Launch) (E : EV) {d o : Nat} {f : Nat → Int64} {p0 p1 p2 : Int32} {fs : List Value} {wc wb : va_W} (hM : Th l E yX6_rehearse cX6_rehearse 4 (some .int) 7 104 [.ref d, .int p0, .int p1, .int p2] ((d, .inr (6, fs)) :: wc) xS) : Gx l E yL_rehearse cL_rehearse 6 [(0, 12, 15, 13), (0, 12, 19, 15), (0, 12, 23, 21)] 8 127 [.ref d, .int p0, .int p1, .int p2, .ref o] (rl_ E o 1 f :: (((d, .inr (6, fs)) :: wc) ++ wb)) (rl_ E o 1 f :: (((d, .inr (6, fs)) :: wc) ++ wb)) (nI 3) := by
  refine Gx.mk0 (by decide) (Nat.le_of_ble_eq_true rfl) ?_
  intro pP eE sS mM aA bB mt cC A F hr hk hT hE ls hl
  have hl : lv_has ls 6 [(0, .ref d), (1, .int p0), (2, .int p1), (3, .int p2), (4, .ref o)] := hl
  refine GV.aload F dL_rehearse_0 (lv_at hl 4 rfl) ?_
  refine GV.iconst (v := nI 0) F dL_rehearse_2 (by decide) ?_
  refine GV.aload_n F dL_rehearse_3 rfl (lv_at hl 0 rfl) ?_
  refine GV.iload_n F dL_rehearse_4 rfl (lv_at hl 1 rfl) ?_
  refine GV.iload_n F dL_rehearse_5 rfl (lv_at hl 2 rfl) ?_
  refine GV.iload_n F dL_rehearse_6 rfl (lv_at hl 3 rfl) ?_
  refine GV.thr (q0 := 1) (wa := [rl_ E o 1 f]) (wb := wb) (name := xS) F hE hM (kL_23 F.2.2.2.2 ⟨Nat.le_of_ble_eq_true rfl, Nat.le_of_ble_eq_true rfl⟩) rfl rfl rfl rfl hl.1 (Nat.le_of_ble_eq_true rfl) ⟨Nat.le_of_ble_eq_true rfl, Nat.le_of_ble_eq_true rfl⟩ dL_rehearse_7 rfl [⟨0, 12, 15, 13⟩, ⟨0, 12, 19, 15⟩] ⟨0, 12, 23, 21⟩ [] hT (List.forall_mem_cons.mpr ⟨⟨by decide, xI, clL_13, hE.2.2.2.2.1.2.2.2.2.1⟩, List.forall_mem_cons.mpr ⟨⟨by decide, xA, clL_15, hE.2.2.2.2.1.2.2.2.2.2⟩, fun _ h => absurd h List.not_mem_nil⟩⟩) rfl (by decide) clL_21 (nw_use casS hE.2.1) (fun q => ?_)
  refine GV.astore (lv' := [(5, .ref q), (0, .ref d), (1, .int p0), (2, .int p1), (3, .int p2), (4, .ref o)]) F dL_rehearse_23 hl (by decide) rfl (fun ls hl => ?_)
  refine GV.iconst (v := nI 3) F dL_rehearse_25 (by decide) ?_
  exact GV.iret F hr hk rfl rfl (Nat.le_of_ble_eq_true rfl) (Nat.le_of_ble_eq_true rfl) dL_rehearse_26
theorem wd_L_hurt : Cond.codeWith yL_hurt cL_hurt 6 (some .int) [(0, 12, 15, 13), (0, 12, 19, 15)] ∈ LW := LW_mk 667 (by decide +kernel) rfl
set_option maxHeartbeats 4000000 in
set_option maxRecDepth 100000 in
theorem w_L_hurt (l : Launch) (E : EV) {d o : Nat} {f : Nat → Int64} {p0 p1 p2 : Int32} {fs fs' : List Value} {wc wc' wb : va_W} {v : Int32} (hM : Wr l E yX6_hurt cX6_hurt 4 (some .int) 7 104 [.ref d, .int p0, .int p1, .int p2] ((d, .inr (6, fs)) :: wc) ((d, .inr (6, fs')) :: wc') (some (.int v))) (hp : (ads ((d, .inr (6, fs')) :: wc')).Perm (ads ((d, .inr (6, fs)) :: wc))) : Gx l E yL_hurt cL_hurt 6 [(0, 12, 15, 13), (0, 12, 19, 15)] 8 127 [.ref d, .int p0, .int p1, .int p2, .ref o] (rl_ E o 1 f :: (((d, .inr (6, fs)) :: wc) ++ wb)) (rl_ E o 1 (vp_updL f 0 v.toInt64) :: (((d, .inr (6, fs')) :: wc') ++ wb)) (nI 0) := by
  refine Gx.mk0 (by decide) (Nat.le_of_ble_eq_true rfl) ?_
  intro pP eE sS mM aA bB mt cC A F hr hk hT hE ls hl
  have hl : lv_has ls 6 [(0, .ref d), (1, .int p0), (2, .int p1), (3, .int p2), (4, .ref o)] := hl
  refine GV.aload F dL_hurt_0 (lv_at hl 4 rfl) ?_
  refine GV.iconst (v := nI 0) F dL_hurt_2 (by decide) ?_
  refine GV.aload_n F dL_hurt_3 rfl (lv_at hl 0 rfl) ?_
  refine GV.iload_n F dL_hurt_4 rfl (lv_at hl 1 rfl) ?_
  refine GV.iload_n F dL_hurt_5 rfl (lv_at hl 2 rfl) ?_
  refine GV.iload_n F dL_hurt_6 rfl (lv_at hl 3 rfl) ?_
  refine GV.wrV (q0 := 1) (wa := [rl_ E o 1 f]) (wb := wb) F hE hM hp (kL_27 F.2.2.2.2 ⟨Nat.le_of_ble_eq_true rfl, Nat.le_of_ble_eq_true rfl⟩) rfl rfl rfl rfl hl.1 (Nat.le_of_ble_eq_true rfl) ⟨Nat.zero_le _, Nat.zero_le _⟩ dL_hurt_7 rfl ?_
  refine GV.i2l F dL_hurt_10 ?_
  refine GV.last F hE 0 rfl (by decide) (by decide) dL_hurt_11 rfl ?_
  refine GV.goto (tgt := 23) F dL_hurt_12 (by decide) ?_
  refine GV.iconst (v := nI 0) F dL_hurt_23 (by decide) ?_
  exact GV.iret F hr hk rfl rfl (Nat.zero_le _) (Nat.zero_le _) dL_hurt_24
set_option maxHeartbeats 4000000 in
set_option maxRecDepth 100000 in
theorem w_L_hurt_e1 (l : Launch) (E : EV) {d o : Nat} {f : Nat → Int64} {p0 p1 p2 : Int32} {fs : List Value} {wc wb : va_W} (hM : Th l E yX6_hurt cX6_hurt 4 (some .int) 7 104 [.ref d, .int p0, .int p1, .int p2] ((d, .inr (6, fs)) :: wc) xI) : Gx l E yL_hurt cL_hurt 6 [(0, 12, 15, 13), (0, 12, 19, 15)] 8 127 [.ref d, .int p0, .int p1, .int p2, .ref o] (rl_ E o 1 f :: (((d, .inr (6, fs)) :: wc) ++ wb)) (rl_ E o 1 f :: (((d, .inr (6, fs)) :: wc) ++ wb)) (nI 1) := by
  refine Gx.mk0 (by decide) (Nat.le_of_ble_eq_true rfl) ?_
  intro pP eE sS mM aA bB mt cC A F hr hk hT hE ls hl
  have hl : lv_has ls 6 [(0, .ref d), (1, .int p0), (2, .int p1), (3, .int p2), (4, .ref o)] := hl
  refine GV.aload F dL_hurt_0 (lv_at hl 4 rfl) ?_
  refine GV.iconst (v := nI 0) F dL_hurt_2 (by decide) ?_
  refine GV.aload_n F dL_hurt_3 rfl (lv_at hl 0 rfl) ?_
  refine GV.iload_n F dL_hurt_4 rfl (lv_at hl 1 rfl) ?_
  refine GV.iload_n F dL_hurt_5 rfl (lv_at hl 2 rfl) ?_
  refine GV.iload_n F dL_hurt_6 rfl (lv_at hl 3 rfl) ?_
  refine GV.thr (q0 := 1) (wa := [rl_ E o 1 f]) (wb := wb) (name := xI) F hE hM (kL_27 F.2.2.2.2 ⟨Nat.le_of_ble_eq_true rfl, Nat.le_of_ble_eq_true rfl⟩) rfl rfl rfl rfl hl.1 (Nat.le_of_ble_eq_true rfl) ⟨Nat.le_of_ble_eq_true rfl, Nat.le_of_ble_eq_true rfl⟩ dL_hurt_7 rfl [] ⟨0, 12, 15, 13⟩ [⟨0, 12, 19, 15⟩] hT (fun z hz => absurd hz List.not_mem_nil) rfl (by decide) clL_13 (nw_use casI hE.2.1) (fun q => ?_)
  refine GV.astore (lv' := [(5, .ref q), (0, .ref d), (1, .int p0), (2, .int p1), (3, .int p2), (4, .ref o)]) F dL_hurt_15 hl (by decide) rfl (fun ls hl => ?_)
  refine GV.iconst (v := nI 1) F dL_hurt_17 (by decide) ?_
  exact GV.iret F hr hk rfl rfl (Nat.le_of_ble_eq_true rfl) (Nat.le_of_ble_eq_true rfl) dL_hurt_18
set_option maxHeartbeats 4000000 in
set_option maxRecDepth 100000 in
theorem w_L_hurt_e2 (l : Launch) (E : EV) {d o : Nat} {f : Nat → Int64} {p0 p1 p2 : Int32} {fs : List Value} {wc wb : va_W} (hM : Th l E yX6_hurt cX6_hurt 4 (some .int) 7 104 [.ref d, .int p0, .int p1, .int p2] ((d, .inr (6, fs)) :: wc) xA) : Gx l E yL_hurt cL_hurt 6 [(0, 12, 15, 13), (0, 12, 19, 15)] 8 127 [.ref d, .int p0, .int p1, .int p2, .ref o] (rl_ E o 1 f :: (((d, .inr (6, fs)) :: wc) ++ wb)) (rl_ E o 1 f :: (((d, .inr (6, fs)) :: wc) ++ wb)) (nI 2) := by
  refine Gx.mk0 (by decide) (Nat.le_of_ble_eq_true rfl) ?_
  intro pP eE sS mM aA bB mt cC A F hr hk hT hE ls hl
  have hl : lv_has ls 6 [(0, .ref d), (1, .int p0), (2, .int p1), (3, .int p2), (4, .ref o)] := hl
  refine GV.aload F dL_hurt_0 (lv_at hl 4 rfl) ?_
  refine GV.iconst (v := nI 0) F dL_hurt_2 (by decide) ?_
  refine GV.aload_n F dL_hurt_3 rfl (lv_at hl 0 rfl) ?_
  refine GV.iload_n F dL_hurt_4 rfl (lv_at hl 1 rfl) ?_
  refine GV.iload_n F dL_hurt_5 rfl (lv_at hl 2 rfl) ?_
  refine GV.iload_n F dL_hurt_6 rfl (lv_at hl 3 rfl) ?_
  refine GV.thr (q0 := 1) (wa := [rl_ E o 1 f]) (wb := wb) (name := xA) F hE hM (kL_27 F.2.2.2.2 ⟨Nat.le_of_ble_eq_true rfl, Nat.le_of_ble_eq_true rfl⟩) rfl rfl rfl rfl hl.1 (Nat.le_of_ble_eq_true rfl) ⟨Nat.le_of_ble_eq_true rfl, Nat.le_of_ble_eq_true rfl⟩ dL_hurt_7 rfl [⟨0, 12, 15, 13⟩] ⟨0, 12, 19, 15⟩ [] hT (List.forall_mem_cons.mpr ⟨⟨by decide, xI, clL_13, hE.2.2.2.2.1.2.2.1⟩, fun _ h => absurd h List.not_mem_nil⟩) rfl (by decide) clL_15 (nw_use casA hE.2.1) (fun q => ?_)
  refine GV.astore (lv' := [(5, .ref q), (0, .ref d), (1, .int p0), (2, .int p1), (3, .int p2), (4, .ref o)]) F dL_hurt_19 hl (by decide) rfl (fun ls hl => ?_)
  refine GV.iconst (v := nI 2) F dL_hurt_21 (by decide) ?_
  exact GV.iret F hr hk rfl rfl (Nat.le_of_ble_eq_true rfl) (Nat.le_of_ble_eq_true rfl) dL_hurt_22
theorem wd_L_insure : Cond.codeWith yL_insure cL_insure 5 (some .int) [(0, 10, 13, 15), (0, 10, 17, 21)] ∈ LW := LW_mk 682 (by decide +kernel) rfl
set_option maxHeartbeats 4000000 in
set_option maxRecDepth 100000 in
theorem w_L_insure (l : Launch) (E : EV) {d o : Nat} {f : Nat → Int64} {p0 p1 : Int32} {fs fs' : List Value} {wc wc' wb : va_W} {v : Int32} (hM : Wr l E yX6_insure cX6_insure 3 (some .int) 7 104 [.ref d, .int p0, .int p1] ((d, .inr (6, fs)) :: wc) ((d, .inr (6, fs')) :: wc') (some (.int v))) (hp : (ads ((d, .inr (6, fs')) :: wc')).Perm (ads ((d, .inr (6, fs)) :: wc))) : Gx l E yL_insure cL_insure 5 [(0, 10, 13, 15), (0, 10, 17, 21)] 8 126 [.ref d, .int p0, .int p1, .ref o] (rl_ E o 1 f :: (((d, .inr (6, fs)) :: wc) ++ wb)) (rl_ E o 1 (vp_updL f 0 v.toInt64) :: (((d, .inr (6, fs')) :: wc') ++ wb)) (nI 0) := by
  refine Gx.mk0 (by decide) (Nat.le_of_ble_eq_true rfl) ?_
  intro pP eE sS mM aA bB mt cC A F hr hk hT hE ls hl
  have hl : lv_has ls 5 [(0, .ref d), (1, .int p0), (2, .int p1), (3, .ref o)] := hl
  refine GV.aload_n F dL_insure_0 rfl (lv_at hl 3 rfl) ?_
  refine GV.iconst (v := nI 0) F dL_insure_1 (by decide) ?_
  refine GV.aload_n F dL_insure_2 rfl (lv_at hl 0 rfl) ?_
  refine GV.iload_n F dL_insure_3 rfl (lv_at hl 1 rfl) ?_
  refine GV.iload_n F dL_insure_4 rfl (lv_at hl 2 rfl) ?_
  refine GV.wrV (q0 := 1) (wa := [rl_ E o 1 f]) (wb := wb) F hE hM hp (kL_30 F.2.2.2.2 ⟨Nat.le_of_ble_eq_true rfl, Nat.le_of_ble_eq_true rfl⟩) rfl rfl rfl rfl hl.1 (Nat.le_of_ble_eq_true rfl) ⟨Nat.zero_le _, Nat.zero_le _⟩ dL_insure_5 rfl ?_
  refine GV.i2l F dL_insure_8 ?_
  refine GV.last F hE 0 rfl (by decide) (by decide) dL_insure_9 rfl ?_
  refine GV.goto (tgt := 21) F dL_insure_10 (by decide) ?_
  refine GV.iconst (v := nI 0) F dL_insure_21 (by decide) ?_
  exact GV.iret F hr hk rfl rfl (Nat.zero_le _) (Nat.zero_le _) dL_insure_22
set_option maxHeartbeats 4000000 in
set_option maxRecDepth 100000 in
theorem w_L_insure_e1 (l : Launch) (E : EV) {d o : Nat} {f : Nat → Int64} {p0 p1 : Int32} {fs : List Value} {wc wb : va_W} (hM : Th l E yX6_insure cX6_insure 3 (some .int) 7 104 [.ref d, .int p0, .int p1] ((d, .inr (6, fs)) :: wc) xA) : Gx l E yL_insure cL_insure 5 [(0, 10, 13, 15), (0, 10, 17, 21)] 8 126 [.ref d, .int p0, .int p1, .ref o] (rl_ E o 1 f :: (((d, .inr (6, fs)) :: wc) ++ wb)) (rl_ E o 1 f :: (((d, .inr (6, fs)) :: wc) ++ wb)) (nI 1) := by
  refine Gx.mk0 (by decide) (Nat.le_of_ble_eq_true rfl) ?_
  intro pP eE sS mM aA bB mt cC A F hr hk hT hE ls hl
  have hl : lv_has ls 5 [(0, .ref d), (1, .int p0), (2, .int p1), (3, .ref o)] := hl
  refine GV.aload_n F dL_insure_0 rfl (lv_at hl 3 rfl) ?_
  refine GV.iconst (v := nI 0) F dL_insure_1 (by decide) ?_
  refine GV.aload_n F dL_insure_2 rfl (lv_at hl 0 rfl) ?_
  refine GV.iload_n F dL_insure_3 rfl (lv_at hl 1 rfl) ?_
  refine GV.iload_n F dL_insure_4 rfl (lv_at hl 2 rfl) ?_
  refine GV.thr (q0 := 1) (wa := [rl_ E o 1 f]) (wb := wb) (name := xA) F hE hM (kL_30 F.2.2.2.2 ⟨Nat.le_of_ble_eq_true rfl, Nat.le_of_ble_eq_true rfl⟩) rfl rfl rfl rfl hl.1 (Nat.le_of_ble_eq_true rfl) ⟨Nat.le_of_ble_eq_true rfl, Nat.le_of_ble_eq_true rfl⟩ dL_insure_5 rfl [] ⟨0, 10, 13, 15⟩ [⟨0, 10, 17, 21⟩] hT (fun z hz => absurd hz List.not_mem_nil) rfl (by decide) clL_15 (nw_use casA hE.2.1) (fun q => ?_)
  refine GV.astore (lv' := [(4, .ref q), (0, .ref d), (1, .int p0), (2, .int p1), (3, .ref o)]) F dL_insure_13 hl (by decide) rfl (fun ls hl => ?_)
  refine GV.iconst (v := nI 1) F dL_insure_15 (by decide) ?_
  exact GV.iret F hr hk rfl rfl (Nat.le_of_ble_eq_true rfl) (Nat.le_of_ble_eq_true rfl) dL_insure_16
set_option maxHeartbeats 4000000 in
set_option maxRecDepth 100000 in
theorem w_L_insure_e2 (l : Launch) (E : EV) {d o : Nat} {f : Nat → Int64} {p0 p1 : Int32} {fs : List Value} {wc wb : va_W} (hM : Th l E yX6_insure cX6_insure 3 (some .int) 7 104 [.ref d, .int p0, .int p1] ((d, .inr (6, fs)) :: wc) xS) : Gx l E yL_insure cL_insure 5 [(0, 10, 13, 15), (0, 10, 17, 21)] 8 126 [.ref d, .int p0, .int p1, .ref o] (rl_ E o 1 f :: (((d, .inr (6, fs)) :: wc) ++ wb)) (rl_ E o 1 f :: (((d, .inr (6, fs)) :: wc) ++ wb)) (nI 2) := by
  refine Gx.mk0 (by decide) (Nat.le_of_ble_eq_true rfl) ?_
  intro pP eE sS mM aA bB mt cC A F hr hk hT hE ls hl
  have hl : lv_has ls 5 [(0, .ref d), (1, .int p0), (2, .int p1), (3, .ref o)] := hl
  refine GV.aload_n F dL_insure_0 rfl (lv_at hl 3 rfl) ?_
  refine GV.iconst (v := nI 0) F dL_insure_1 (by decide) ?_
  refine GV.aload_n F dL_insure_2 rfl (lv_at hl 0 rfl) ?_
  refine GV.iload_n F dL_insure_3 rfl (lv_at hl 1 rfl) ?_
  refine GV.iload_n F dL_insure_4 rfl (lv_at hl 2 rfl) ?_
  refine GV.thr (q0 := 1) (wa := [rl_ E o 1 f]) (wb := wb) (name := xS) F hE hM (kL_30 F.2.2.2.2 ⟨Nat.le_of_ble_eq_true rfl, Nat.le_of_ble_eq_true rfl⟩) rfl rfl rfl rfl hl.1 (Nat.le_of_ble_eq_true rfl) ⟨Nat.le_of_ble_eq_true rfl, Nat.le_of_ble_eq_true rfl⟩ dL_insure_5 rfl [⟨0, 10, 13, 15⟩] ⟨0, 10, 17, 21⟩ [] hT (List.forall_mem_cons.mpr ⟨⟨by decide, xA, clL_15, hE.2.2.2.2.1.2.2.2.2.2⟩, fun _ h => absurd h List.not_mem_nil⟩) rfl (by decide) clL_21 (nw_use casS hE.2.1) (fun q => ?_)
  refine GV.astore (lv' := [(4, .ref q), (0, .ref d), (1, .int p0), (2, .int p1), (3, .ref o)]) F dL_insure_17 hl (by decide) rfl (fun ls hl => ?_)
  refine GV.iconst (v := nI 2) F dL_insure_19 (by decide) ?_
  exact GV.iret F hr hk rfl rfl (Nat.le_of_ble_eq_true rfl) (Nat.le_of_ble_eq_true rfl) dL_insure_20
theorem wd_L_scene : Cond.codeWith yL_scene cL_scene 6 (some .int) [(0, 12, 15, 13), (0, 12, 19, 15), (0, 12, 23, 21)] ∈ LW := LW_mk 697 (by decide +kernel) rfl
set_option maxHeartbeats 4000000 in
set_option maxRecDepth 100000 in
theorem w_L_scene (l : Launch) (E : EV) {d o : Nat} {f : Nat → Int64} {p0 p1 p2 : Int32} {fs fs' : List Value} {wc wc' wb : va_W} {v : Int32} (hM : Wr l E yX6_scene cX6_scene 4 (some .int) 7 104 [.ref d, .int p0, .int p1, .int p2] ((d, .inr (6, fs)) :: wc) ((d, .inr (6, fs')) :: wc') (some (.int v))) (hp : (ads ((d, .inr (6, fs')) :: wc')).Perm (ads ((d, .inr (6, fs)) :: wc))) : Gx l E yL_scene cL_scene 6 [(0, 12, 15, 13), (0, 12, 19, 15), (0, 12, 23, 21)] 8 127 [.ref d, .int p0, .int p1, .int p2, .ref o] (rl_ E o 1 f :: (((d, .inr (6, fs)) :: wc) ++ wb)) (rl_ E o 1 (vp_updL f 0 v.toInt64) :: (((d, .inr (6, fs')) :: wc') ++ wb)) (nI 0) := by
  refine Gx.mk0 (by decide) (Nat.le_of_ble_eq_true rfl) ?_
  intro pP eE sS mM aA bB mt cC A F hr hk hT hE ls hl
  have hl : lv_has ls 6 [(0, .ref d), (1, .int p0), (2, .int p1), (3, .int p2), (4, .ref o)] := hl
  refine GV.aload F dL_scene_0 (lv_at hl 4 rfl) ?_
  refine GV.iconst (v := nI 0) F dL_scene_2 (by decide) ?_
  refine GV.aload_n F dL_scene_3 rfl (lv_at hl 0 rfl) ?_
  refine GV.iload_n F dL_scene_4 rfl (lv_at hl 1 rfl) ?_
  refine GV.iload_n F dL_scene_5 rfl (lv_at hl 2 rfl) ?_
  refine GV.iload_n F dL_scene_6 rfl (lv_at hl 3 rfl) ?_
  refine GV.wrV (q0 := 1) (wa := [rl_ E o 1 f]) (wb := wb) F hE hM hp (kL_33 F.2.2.2.2 ⟨Nat.le_of_ble_eq_true rfl, Nat.le_of_ble_eq_true rfl⟩) rfl rfl rfl rfl hl.1 (Nat.le_of_ble_eq_true rfl) ⟨Nat.zero_le _, Nat.zero_le _⟩ dL_scene_7 rfl ?_
  refine GV.i2l F dL_scene_10 ?_
  refine GV.last F hE 0 rfl (by decide) (by decide) dL_scene_11 rfl ?_
  refine GV.goto (tgt := 27) F dL_scene_12 (by decide) ?_
  refine GV.iconst (v := nI 0) F dL_scene_27 (by decide) ?_
  exact GV.iret F hr hk rfl rfl (Nat.zero_le _) (Nat.zero_le _) dL_scene_28
set_option maxHeartbeats 4000000 in
set_option maxRecDepth 100000 in
theorem w_L_scene_e1 (l : Launch) (E : EV) {d o : Nat} {f : Nat → Int64} {p0 p1 p2 : Int32} {fs : List Value} {wc wb : va_W} (hM : Th l E yX6_scene cX6_scene 4 (some .int) 7 104 [.ref d, .int p0, .int p1, .int p2] ((d, .inr (6, fs)) :: wc) xI) : Gx l E yL_scene cL_scene 6 [(0, 12, 15, 13), (0, 12, 19, 15), (0, 12, 23, 21)] 8 127 [.ref d, .int p0, .int p1, .int p2, .ref o] (rl_ E o 1 f :: (((d, .inr (6, fs)) :: wc) ++ wb)) (rl_ E o 1 f :: (((d, .inr (6, fs)) :: wc) ++ wb)) (nI 1) := by
  refine Gx.mk0 (by decide) (Nat.le_of_ble_eq_true rfl) ?_
  intro pP eE sS mM aA bB mt cC A F hr hk hT hE ls hl
  have hl : lv_has ls 6 [(0, .ref d), (1, .int p0), (2, .int p1), (3, .int p2), (4, .ref o)] := hl
  refine GV.aload F dL_scene_0 (lv_at hl 4 rfl) ?_
  refine GV.iconst (v := nI 0) F dL_scene_2 (by decide) ?_
  refine GV.aload_n F dL_scene_3 rfl (lv_at hl 0 rfl) ?_
  refine GV.iload_n F dL_scene_4 rfl (lv_at hl 1 rfl) ?_
  refine GV.iload_n F dL_scene_5 rfl (lv_at hl 2 rfl) ?_
  refine GV.iload_n F dL_scene_6 rfl (lv_at hl 3 rfl) ?_
  refine GV.thr (q0 := 1) (wa := [rl_ E o 1 f]) (wb := wb) (name := xI) F hE hM (kL_33 F.2.2.2.2 ⟨Nat.le_of_ble_eq_true rfl, Nat.le_of_ble_eq_true rfl⟩) rfl rfl rfl rfl hl.1 (Nat.le_of_ble_eq_true rfl) ⟨Nat.le_of_ble_eq_true rfl, Nat.le_of_ble_eq_true rfl⟩ dL_scene_7 rfl [] ⟨0, 12, 15, 13⟩ [⟨0, 12, 19, 15⟩, ⟨0, 12, 23, 21⟩] hT (fun z hz => absurd hz List.not_mem_nil) rfl (by decide) clL_13 (nw_use casI hE.2.1) (fun q => ?_)
  refine GV.astore (lv' := [(5, .ref q), (0, .ref d), (1, .int p0), (2, .int p1), (3, .int p2), (4, .ref o)]) F dL_scene_15 hl (by decide) rfl (fun ls hl => ?_)
  refine GV.iconst (v := nI 1) F dL_scene_17 (by decide) ?_
  exact GV.iret F hr hk rfl rfl (Nat.le_of_ble_eq_true rfl) (Nat.le_of_ble_eq_true rfl) dL_scene_18
set_option maxHeartbeats 4000000 in
set_option maxRecDepth 100000 in
theorem w_L_scene_e2 (l : Launch) (E : EV) {d o : Nat} {f : Nat → Int64} {p0 p1 p2 : Int32} {fs : List Value} {wc wb : va_W} (hM : Th l E yX6_scene cX6_scene 4 (some .int) 7 104 [.ref d, .int p0, .int p1, .int p2] ((d, .inr (6, fs)) :: wc) xA) : Gx l E yL_scene cL_scene 6 [(0, 12, 15, 13), (0, 12, 19, 15), (0, 12, 23, 21)] 8 127 [.ref d, .int p0, .int p1, .int p2, .ref o] (rl_ E o 1 f :: (((d, .inr (6, fs)) :: wc) ++ wb)) (rl_ E o 1 f :: (((d, .inr (6, fs)) :: wc) ++ wb)) (nI 2) := by
  refine Gx.mk0 (by decide) (Nat.le_of_ble_eq_true rfl) ?_
  intro pP eE sS mM aA bB mt cC A F hr hk hT hE ls hl
  have hl : lv_has ls 6 [(0, .ref d), (1, .int p0), (2, .int p1), (3, .int p2), (4, .ref o)] := hl
  refine GV.aload F dL_scene_0 (lv_at hl 4 rfl) ?_
  refine GV.iconst (v := nI 0) F dL_scene_2 (by decide) ?_
  refine GV.aload_n F dL_scene_3 rfl (lv_at hl 0 rfl) ?_
  refine GV.iload_n F dL_scene_4 rfl (lv_at hl 1 rfl) ?_
  refine GV.iload_n F dL_scene_5 rfl (lv_at hl 2 rfl) ?_
  refine GV.iload_n F dL_scene_6 rfl (lv_at hl 3 rfl) ?_
  refine GV.thr (q0 := 1) (wa := [rl_ E o 1 f]) (wb := wb) (name := xA) F hE hM (kL_33 F.2.2.2.2 ⟨Nat.le_of_ble_eq_true rfl, Nat.le_of_ble_eq_true rfl⟩) rfl rfl rfl rfl hl.1 (Nat.le_of_ble_eq_true rfl) ⟨Nat.le_of_ble_eq_true rfl, Nat.le_of_ble_eq_true rfl⟩ dL_scene_7 rfl [⟨0, 12, 15, 13⟩] ⟨0, 12, 19, 15⟩ [⟨0, 12, 23, 21⟩] hT (List.forall_mem_cons.mpr ⟨⟨by decide, xI, clL_13, hE.2.2.2.2.1.2.2.1⟩, fun _ h => absurd h List.not_mem_nil⟩) rfl (by decide) clL_15 (nw_use casA hE.2.1) (fun q => ?_)
  refine GV.astore (lv' := [(5, .ref q), (0, .ref d), (1, .int p0), (2, .int p1), (3, .int p2), (4, .ref o)]) F dL_scene_19 hl (by decide) rfl (fun ls hl => ?_)
  refine GV.iconst (v := nI 2) F dL_scene_21 (by decide) ?_
  exact GV.iret F hr hk rfl rfl (Nat.le_of_ble_eq_true rfl) (Nat.le_of_ble_eq_true rfl) dL_scene_22
set_option maxHeartbeats 4000000 in
set_option maxRecDepth 100000 in
theorem w_L_scene_e3 (l : Launch) (E : EV) {d o : Nat} {f : Nat → Int64} {p0 p1 p2 : Int32} {fs : List Value} {wc wb : va_W} (hM : Th l E yX6_scene cX6_scene 4 (some .int) 7 104 [.ref d, .int p0, .int p1, .int p2] ((d, .inr (6, fs)) :: wc) xS) : Gx l E yL_scene cL_scene 6 [(0, 12, 15, 13), (0, 12, 19, 15), (0, 12, 23, 21)] 8 127 [.ref d, .int p0, .int p1, .int p2, .ref o] (rl_ E o 1 f :: (((d, .inr (6, fs)) :: wc) ++ wb)) (rl_ E o 1 f :: (((d, .inr (6, fs)) :: wc) ++ wb)) (nI 3) := by
  refine Gx.mk0 (by decide) (Nat.le_of_ble_eq_true rfl) ?_
  intro pP eE sS mM aA bB mt cC A F hr hk hT hE ls hl
  have hl : lv_has ls 6 [(0, .ref d), (1, .int p0), (2, .int p1), (3, .int p2), (4, .ref o)] := hl
  refine GV.aload F dL_scene_0 (lv_at hl 4 rfl) ?_
  refine GV.iconst (v := nI 0) F dL_scene_2 (by decide) ?_
  refine GV.aload_n F dL_scene_3 rfl (lv_at hl 0 rfl) ?_
  refine GV.iload_n F dL_scene_4 rfl (lv_at hl 1 rfl) ?_
  refine GV.iload_n F dL_scene_5 rfl (lv_at hl 2 rfl) ?_
  refine GV.iload_n F dL_scene_6 rfl (lv_at hl 3 rfl) ?_
  refine GV.thr (q0 := 1) (wa := [rl_ E o 1 f]) (wb := wb) (name := xS) F hE hM (kL_33 F.2.2.2.2 ⟨Nat.le_of_ble_eq_true rfl, Nat.le_of_ble_eq_true rfl⟩) rfl rfl rfl rfl hl.1 (Nat.le_of_ble_eq_true rfl) ⟨Nat.le_of_ble_eq_true rfl, Nat.le_of_ble_eq_true rfl⟩ dL_scene_7 rfl [⟨0, 12, 15, 13⟩, ⟨0, 12, 19, 15⟩] ⟨0, 12, 23, 21⟩ [] hT (List.forall_mem_cons.mpr ⟨⟨by decide, xI, clL_13, hE.2.2.2.2.1.2.2.2.2.1⟩, List.forall_mem_cons.mpr ⟨⟨by decide, xA, clL_15, hE.2.2.2.2.1.2.2.2.2.2⟩, fun _ h => absurd h List.not_mem_nil⟩⟩) rfl (by decide) clL_21 (nw_use casS hE.2.1) (fun q => ?_)
  refine GV.astore (lv' := [(5, .ref q), (0, .ref d), (1, .int p0), (2, .int p1), (3, .int p2), (4, .ref o)]) F dL_scene_23 hl (by decide) rfl (fun ls hl => ?_)
  refine GV.iconst (v := nI 3) F dL_scene_25 (by decide) ?_
  exact GV.iret F hr hk rfl rfl (Nat.le_of_ble_eq_true rfl) (Nat.le_of_ble_eq_true rfl) dL_scene_26
theorem wd_L_shoot : Cond.codeWith yL_shoot cL_shoot 5 (some .int) [(0, 10, 13, 13), (0, 10, 17, 21)] ∈ LW := LW_mk 709 (by decide +kernel) rfl
set_option maxHeartbeats 4000000 in
set_option maxRecDepth 100000 in
theorem w_L_shoot (l : Launch) (E : EV) {d o : Nat} {f : Nat → Int64} {p0 p1 : Int32} {fs fs' : List Value} {wc wc' wb : va_W} {v : Int32} (hM : Wr l E yX6_shoot cX6_shoot 3 (some .int) 7 105 [.ref d, .int p0, .int p1] ((d, .inr (6, fs)) :: wc) ((d, .inr (6, fs')) :: wc') (some (.int v))) (hp : (ads ((d, .inr (6, fs')) :: wc')).Perm (ads ((d, .inr (6, fs)) :: wc))) : Gx l E yL_shoot cL_shoot 5 [(0, 10, 13, 13), (0, 10, 17, 21)] 8 127 [.ref d, .int p0, .int p1, .ref o] (rl_ E o 1 f :: (((d, .inr (6, fs)) :: wc) ++ wb)) (rl_ E o 1 (vp_updL f 0 v.toInt64) :: (((d, .inr (6, fs')) :: wc') ++ wb)) (nI 0) := by
  refine Gx.mk0 (by decide) (Nat.le_of_ble_eq_true rfl) ?_
  intro pP eE sS mM aA bB mt cC A F hr hk hT hE ls hl
  have hl : lv_has ls 5 [(0, .ref d), (1, .int p0), (2, .int p1), (3, .ref o)] := hl
  refine GV.aload_n F dL_shoot_0 rfl (lv_at hl 3 rfl) ?_
  refine GV.iconst (v := nI 0) F dL_shoot_1 (by decide) ?_
  refine GV.aload_n F dL_shoot_2 rfl (lv_at hl 0 rfl) ?_
  refine GV.iload_n F dL_shoot_3 rfl (lv_at hl 1 rfl) ?_
  refine GV.iload_n F dL_shoot_4 rfl (lv_at hl 2 rfl) ?_
  refine GV.wrV (q0 := 1) (wa := [rl_ E o 1 f]) (wb := wb) F hE hM hp (kL_36 F.2.2.2.2 ⟨Nat.le_of_ble_eq_true rfl, Nat.le_of_ble_eq_true rfl⟩) rfl rfl rfl rfl hl.1 (Nat.le_of_ble_eq_true rfl) ⟨Nat.zero_le _, Nat.zero_le _⟩ dL_shoot_5 rfl ?_
  refine GV.i2l F dL_shoot_8 ?_
  refine GV.last F hE 0 rfl (by decide) (by decide) dL_shoot_9 rfl ?_
  refine GV.goto (tgt := 21) F dL_shoot_10 (by decide) ?_
  refine GV.iconst (v := nI 0) F dL_shoot_21 (by decide) ?_
  exact GV.iret F hr hk rfl rfl (Nat.zero_le _) (Nat.zero_le _) dL_shoot_22
set_option maxHeartbeats 4000000 in
set_option maxRecDepth 100000 in
theorem w_L_shoot_e1 (l : Launch) (E : EV) {d o : Nat} {f : Nat → Int64} {p0 p1 : Int32} {fs : List Value} {wc wb : va_W} (hM : Th l E yX6_shoot cX6_shoot 3 (some .int) 7 105 [.ref d, .int p0, .int p1] ((d, .inr (6, fs)) :: wc) xI) : Gx l E yL_shoot cL_shoot 5 [(0, 10, 13, 13), (0, 10, 17, 21)] 8 127 [.ref d, .int p0, .int p1, .ref o] (rl_ E o 1 f :: (((d, .inr (6, fs)) :: wc) ++ wb)) (rl_ E o 1 f :: (((d, .inr (6, fs)) :: wc) ++ wb)) (nI 1) := by
  refine Gx.mk0 (by decide) (Nat.le_of_ble_eq_true rfl) ?_
  intro pP eE sS mM aA bB mt cC A F hr hk hT hE ls hl
  have hl : lv_has ls 5 [(0, .ref d), (1, .int p0), (2, .int p1), (3, .ref o)] := hl
  refine GV.aload_n F dL_shoot_0 rfl (lv_at hl 3 rfl) ?_
  refine GV.iconst (v := nI 0) F dL_shoot_1 (by decide) ?_
  refine GV.aload_n F dL_shoot_2 rfl (lv_at hl 0 rfl) ?_
  refine GV.iload_n F dL_shoot_3 rfl (lv_at hl 1 rfl) ?_
  refine GV.iload_n F dL_shoot_4 rfl (lv_at hl 2 rfl) ?_
  refine GV.thr (q0 := 1) (wa := [rl_ E o 1 f]) (wb := wb) (name := xI) F hE hM (kL_36 F.2.2.2.2 ⟨Nat.le_of_ble_eq_true rfl, Nat.le_of_ble_eq_true rfl⟩) rfl rfl rfl rfl hl.1 (Nat.le_of_ble_eq_true rfl) ⟨Nat.le_of_ble_eq_true rfl, Nat.le_of_ble_eq_true rfl⟩ dL_shoot_5 rfl [] ⟨0, 10, 13, 13⟩ [⟨0, 10, 17, 21⟩] hT (fun z hz => absurd hz List.not_mem_nil) rfl (by decide) clL_13 (nw_use casI hE.2.1) (fun q => ?_)
  refine GV.astore (lv' := [(4, .ref q), (0, .ref d), (1, .int p0), (2, .int p1), (3, .ref o)]) F dL_shoot_13 hl (by decide) rfl (fun ls hl => ?_)
  refine GV.iconst (v := nI 1) F dL_shoot_15 (by decide) ?_
  exact GV.iret F hr hk rfl rfl (Nat.le_of_ble_eq_true rfl) (Nat.le_of_ble_eq_true rfl) dL_shoot_16
set_option maxHeartbeats 4000000 in
set_option maxRecDepth 100000 in
theorem w_L_shoot_e2 (l : Launch) (E : EV) {d o : Nat} {f : Nat → Int64} {p0 p1 : Int32} {fs : List Value} {wc wb : va_W} (hM : Th l E yX6_shoot cX6_shoot 3 (some .int) 7 105 [.ref d, .int p0, .int p1] ((d, .inr (6, fs)) :: wc) xS) : Gx l E yL_shoot cL_shoot 5 [(0, 10, 13, 13), (0, 10, 17, 21)] 8 127 [.ref d, .int p0, .int p1, .ref o] (rl_ E o 1 f :: (((d, .inr (6, fs)) :: wc) ++ wb)) (rl_ E o 1 f :: (((d, .inr (6, fs)) :: wc) ++ wb)) (nI 2) := by
  refine Gx.mk0 (by decide) (Nat.le_of_ble_eq_true rfl) ?_
  intro pP eE sS mM aA bB mt cC A F hr hk hT hE ls hl
  have hl : lv_has ls 5 [(0, .ref d), (1, .int p0), (2, .int p1), (3, .ref o)] := hl
  refine GV.aload_n F dL_shoot_0 rfl (lv_at hl 3 rfl) ?_
  refine GV.iconst (v := nI 0) F dL_shoot_1 (by decide) ?_
  refine GV.aload_n F dL_shoot_2 rfl (lv_at hl 0 rfl) ?_
  refine GV.iload_n F dL_shoot_3 rfl (lv_at hl 1 rfl) ?_
  refine GV.iload_n F dL_shoot_4 rfl (lv_at hl 2 rfl) ?_
  refine GV.thr (q0 := 1) (wa := [rl_ E o 1 f]) (wb := wb) (name := xS) F hE hM (kL_36 F.2.2.2.2 ⟨Nat.le_of_ble_eq_true rfl, Nat.le_of_ble_eq_true rfl⟩) rfl rfl rfl rfl hl.1 (Nat.le_of_ble_eq_true rfl) ⟨Nat.le_of_ble_eq_true rfl, Nat.le_of_ble_eq_true rfl⟩ dL_shoot_5 rfl [⟨0, 10, 13, 13⟩] ⟨0, 10, 17, 21⟩ [] hT (List.forall_mem_cons.mpr ⟨⟨by decide, xI, clL_13, hE.2.2.2.2.1.2.2.2.2.1⟩, fun _ h => absurd h List.not_mem_nil⟩) rfl (by decide) clL_21 (nw_use casS hE.2.1) (fun q => ?_)
  refine GV.astore (lv' := [(4, .ref q), (0, .ref d), (1, .int p0), (2, .int p1), (3, .ref o)]) F dL_shoot_17 hl (by decide) rfl (fun ls hl => ?_)
  refine GV.iconst (v := nI 2) F dL_shoot_19 (by decide) ?_
  exact GV.iret F hr hk rfl rfl (Nat.le_of_ble_eq_true rfl) (Nat.le_of_ble_eq_true rfl) dL_shoot_20
theorem wd_L_append : Cond.codeWith yL_append cL_append 4 (some .int) [(0, 9, 12, 15), (0, 9, 15, 21)] ∈ LW := LW_mk 738 (by decide +kernel) rfl
set_option maxHeartbeats 4000000 in
set_option maxRecDepth 100000 in
theorem w_L_append (l : Launch) (E : EV) {d o : Nat} {f : Nat → Int64} {p0 : Int32} {fs fs' : List Value} {wc wc' wb : va_W} {v : Int32} (hM : Wr l E yX6_append cX6_append 2 (some .int) 7 104 [.ref d, .int p0] ((d, .inr (6, fs)) :: wc) ((d, .inr (6, fs')) :: wc') (some (.int v))) (hp : (ads ((d, .inr (6, fs')) :: wc')).Perm (ads ((d, .inr (6, fs)) :: wc))) : Gx l E yL_append cL_append 4 [(0, 9, 12, 15), (0, 9, 15, 21)] 8 125 [.ref d, .int p0, .ref o] (rl_ E o 1 f :: (((d, .inr (6, fs)) :: wc) ++ wb)) (rl_ E o 1 (vp_updL f 0 v.toInt64) :: (((d, .inr (6, fs')) :: wc') ++ wb)) (nI 0) := by
  refine Gx.mk0 (by decide) (Nat.le_of_ble_eq_true rfl) ?_
  intro pP eE sS mM aA bB mt cC A F hr hk hT hE ls hl
  have hl : lv_has ls 4 [(0, .ref d), (1, .int p0), (2, .ref o)] := hl
  refine GV.aload_n F dL_append_0 rfl (lv_at hl 2 rfl) ?_
  refine GV.iconst (v := nI 0) F dL_append_1 (by decide) ?_
  refine GV.aload_n F dL_append_2 rfl (lv_at hl 0 rfl) ?_
  refine GV.iload_n F dL_append_3 rfl (lv_at hl 1 rfl) ?_
  refine GV.wrV (q0 := 1) (wa := [rl_ E o 1 f]) (wb := wb) F hE hM hp (kL_39 F.2.2.2.2 ⟨Nat.le_of_ble_eq_true rfl, Nat.le_of_ble_eq_true rfl⟩) rfl rfl rfl rfl hl.1 (Nat.le_of_ble_eq_true rfl) ⟨Nat.zero_le _, Nat.zero_le _⟩ dL_append_4 rfl ?_
  refine GV.i2l F dL_append_7 ?_
  refine GV.last F hE 0 rfl (by decide) (by decide) dL_append_8 rfl ?_
  refine GV.goto (tgt := 18) F dL_append_9 (by decide) ?_
  refine GV.iconst (v := nI 0) F dL_append_18 (by decide) ?_
  exact GV.iret F hr hk rfl rfl (Nat.zero_le _) (Nat.zero_le _) dL_append_19
set_option maxHeartbeats 4000000 in
set_option maxRecDepth 100000 in
theorem w_L_append_e1 (l : Launch) (E : EV) {d o : Nat} {f : Nat → Int64} {p0 : Int32} {fs : List Value} {wc wb : va_W} (hM : Th l E yX6_append cX6_append 2 (some .int) 7 104 [.ref d, .int p0] ((d, .inr (6, fs)) :: wc) xA) : Gx l E yL_append cL_append 4 [(0, 9, 12, 15), (0, 9, 15, 21)] 8 125 [.ref d, .int p0, .ref o] (rl_ E o 1 f :: (((d, .inr (6, fs)) :: wc) ++ wb)) (rl_ E o 1 f :: (((d, .inr (6, fs)) :: wc) ++ wb)) (nI 1) := by
  refine Gx.mk0 (by decide) (Nat.le_of_ble_eq_true rfl) ?_
  intro pP eE sS mM aA bB mt cC A F hr hk hT hE ls hl
  have hl : lv_has ls 4 [(0, .ref d), (1, .int p0), (2, .ref o)] := hl
  refine GV.aload_n F dL_append_0 rfl (lv_at hl 2 rfl) ?_
  refine GV.iconst (v := nI 0) F dL_append_1 (by decide) ?_
  refine GV.aload_n F dL_append_2 rfl (lv_at hl 0 rfl) ?_
  refine GV.iload_n F dL_append_3 rfl (lv_at hl 1 rfl) ?_
  refine GV.thr (q0 := 1) (wa := [rl_ E o 1 f]) (wb := wb) (name := xA) F hE hM (kL_39 F.2.2.2.2 ⟨Nat.le_of_ble_eq_true rfl, Nat.le_of_ble_eq_true rfl⟩) rfl rfl rfl rfl hl.1 (Nat.le_of_ble_eq_true rfl) ⟨Nat.le_of_ble_eq_true rfl, Nat.le_of_ble_eq_true rfl⟩ dL_append_4 rfl [] ⟨0, 9, 12, 15⟩ [⟨0, 9, 15, 21⟩] hT (fun z hz => absurd hz List.not_mem_nil) rfl (by decide) clL_15 (nw_use casA hE.2.1) (fun q => ?_)
  refine GV.astore_n (lv' := [(3, .ref q), (0, .ref d), (1, .int p0), (2, .ref o)]) F dL_append_12 rfl hl (by decide) rfl (fun ls hl => ?_)
  refine GV.iconst (v := nI 1) F dL_append_13 (by decide) ?_
  exact GV.iret F hr hk rfl rfl (Nat.le_of_ble_eq_true rfl) (Nat.le_of_ble_eq_true rfl) dL_append_14
set_option maxHeartbeats 4000000 in
set_option maxRecDepth 100000 in
theorem w_L_append_e2 (l : Launch) (E : EV) {d o : Nat} {f : Nat → Int64} {p0 : Int32} {fs : List Value} {wc wb : va_W} (hM : Th l E yX6_append cX6_append 2 (some .int) 7 104 [.ref d, .int p0] ((d, .inr (6, fs)) :: wc) xS) : Gx l E yL_append cL_append 4 [(0, 9, 12, 15), (0, 9, 15, 21)] 8 125 [.ref d, .int p0, .ref o] (rl_ E o 1 f :: (((d, .inr (6, fs)) :: wc) ++ wb)) (rl_ E o 1 f :: (((d, .inr (6, fs)) :: wc) ++ wb)) (nI 2) := by
  refine Gx.mk0 (by decide) (Nat.le_of_ble_eq_true rfl) ?_
  intro pP eE sS mM aA bB mt cC A F hr hk hT hE ls hl
  have hl : lv_has ls 4 [(0, .ref d), (1, .int p0), (2, .ref o)] := hl
  refine GV.aload_n F dL_append_0 rfl (lv_at hl 2 rfl) ?_
  refine GV.iconst (v := nI 0) F dL_append_1 (by decide) ?_
  refine GV.aload_n F dL_append_2 rfl (lv_at hl 0 rfl) ?_
  refine GV.iload_n F dL_append_3 rfl (lv_at hl 1 rfl) ?_
  refine GV.thr (q0 := 1) (wa := [rl_ E o 1 f]) (wb := wb) (name := xS) F hE hM (kL_39 F.2.2.2.2 ⟨Nat.le_of_ble_eq_true rfl, Nat.le_of_ble_eq_true rfl⟩) rfl rfl rfl rfl hl.1 (Nat.le_of_ble_eq_true rfl) ⟨Nat.le_of_ble_eq_true rfl, Nat.le_of_ble_eq_true rfl⟩ dL_append_4 rfl [⟨0, 9, 12, 15⟩] ⟨0, 9, 15, 21⟩ [] hT (List.forall_mem_cons.mpr ⟨⟨by decide, xA, clL_15, hE.2.2.2.2.1.2.2.2.2.2⟩, fun _ h => absurd h List.not_mem_nil⟩) rfl (by decide) clL_21 (nw_use casS hE.2.1) (fun q => ?_)
  refine GV.astore_n (lv' := [(3, .ref q), (0, .ref d), (1, .int p0), (2, .ref o)]) F dL_append_15 rfl hl (by decide) rfl (fun ls hl => ?_)
  refine GV.iconst (v := nI 2) F dL_append_16 (by decide) ?_
  exact GV.iret F hr hk rfl rfl (Nat.le_of_ble_eq_true rfl) (Nat.le_of_ble_eq_true rfl) dL_append_17
theorem wd_L_play : Cond.codeWith yL_play cL_play 3 (some .int) [(0, 8, 11, 15)] ∈ LW := LW_mk 750 (by decide +kernel) rfl
set_option maxHeartbeats 4000000 in
set_option maxRecDepth 100000 in
theorem w_L_play (l : Launch) (E : EV) {d o : Nat} {f : Nat → Int64} {fs fs' : List Value} {wc wc' wb : va_W} {v : Int32} (hM : Wr l E yX6_play cX6_play 5 (some .int) 7 139 [.ref d] ((d, .inr (6, fs)) :: wc) ((d, .inr (6, fs')) :: wc') (some (.int v))) (hp : (ads ((d, .inr (6, fs')) :: wc')).Perm (ads ((d, .inr (6, fs)) :: wc))) : Gx l E yL_play cL_play 3 [(0, 8, 11, 15)] 8 163 [.ref d, .ref o] (rl_ E o 1 f :: (((d, .inr (6, fs)) :: wc) ++ wb)) (rl_ E o 1 (vp_updL f 0 v.toInt64) :: (((d, .inr (6, fs')) :: wc') ++ wb)) (nI 0) := by
  refine Gx.mk0 (by decide) (Nat.le_of_ble_eq_true rfl) ?_
  intro pP eE sS mM aA bB mt cC A F hr hk hT hE ls hl
  have hl : lv_has ls 3 [(0, .ref d), (1, .ref o)] := hl
  refine GV.aload_n F dL_play_0 rfl (lv_at hl 1 rfl) ?_
  refine GV.iconst (v := nI 0) F dL_play_1 (by decide) ?_
  refine GV.aload_n F dL_play_2 rfl (lv_at hl 0 rfl) ?_
  refine GV.wrV (q0 := 1) (wa := [rl_ E o 1 f]) (wb := wb) F hE hM hp (kL_42 F.2.2.2.2 ⟨Nat.le_of_ble_eq_true rfl, Nat.le_of_ble_eq_true rfl⟩) rfl rfl rfl rfl hl.1 (Nat.le_of_ble_eq_true rfl) ⟨Nat.zero_le _, Nat.zero_le _⟩ dL_play_3 rfl ?_
  refine GV.i2l F dL_play_6 ?_
  refine GV.last F hE 0 rfl (by decide) (by decide) dL_play_7 rfl ?_
  refine GV.goto (tgt := 14) F dL_play_8 (by decide) ?_
  refine GV.iconst (v := nI 0) F dL_play_14 (by decide) ?_
  exact GV.iret F hr hk rfl rfl (Nat.zero_le _) (Nat.zero_le _) dL_play_15
set_option maxHeartbeats 4000000 in
set_option maxRecDepth 100000 in
theorem w_L_play_e1 (l : Launch) (E : EV) {d o : Nat} {f : Nat → Int64} {fs : List Value} {wc wb : va_W} (hM : Th l E yX6_play cX6_play 5 (some .int) 7 139 [.ref d] ((d, .inr (6, fs)) :: wc) xA) : Gx l E yL_play cL_play 3 [(0, 8, 11, 15)] 8 163 [.ref d, .ref o] (rl_ E o 1 f :: (((d, .inr (6, fs)) :: wc) ++ wb)) (rl_ E o 1 f :: (((d, .inr (6, fs)) :: wc) ++ wb)) (nI 1) := by
  refine Gx.mk0 (by decide) (Nat.le_of_ble_eq_true rfl) ?_
  intro pP eE sS mM aA bB mt cC A F hr hk hT hE ls hl
  have hl : lv_has ls 3 [(0, .ref d), (1, .ref o)] := hl
  refine GV.aload_n F dL_play_0 rfl (lv_at hl 1 rfl) ?_
  refine GV.iconst (v := nI 0) F dL_play_1 (by decide) ?_
  refine GV.aload_n F dL_play_2 rfl (lv_at hl 0 rfl) ?_
  refine GV.thr (q0 := 1) (wa := [rl_ E o 1 f]) (wb := wb) (name := xA) F hE hM (kL_42 F.2.2.2.2 ⟨Nat.le_of_ble_eq_true rfl, Nat.le_of_ble_eq_true rfl⟩) rfl rfl rfl rfl hl.1 (Nat.le_of_ble_eq_true rfl) ⟨Nat.le_of_ble_eq_true rfl, Nat.le_of_ble_eq_true rfl⟩ dL_play_3 rfl [] ⟨0, 8, 11, 15⟩ [] hT (fun z hz => absurd hz List.not_mem_nil) rfl (by decide) clL_15 (nw_use casA hE.2.1) (fun q => ?_)
  refine GV.astore_n (lv' := [(2, .ref q), (0, .ref d), (1, .ref o)]) F dL_play_11 rfl hl (by decide) rfl (fun ls hl => ?_)
  refine GV.iconst (v := nI 1) F dL_play_12 (by decide) ?_
  exact GV.iret F hr hk rfl rfl (Nat.le_of_ble_eq_true rfl) (Nat.le_of_ble_eq_true rfl) dL_play_13
theorem wd_L_undo : Cond.codeWith yL_undo cL_undo 3 (some .int) [(0, 8, 11, 21)] ∈ LW := LW_mk 794 (by decide +kernel) rfl
set_option maxHeartbeats 4000000 in
set_option maxRecDepth 100000 in
theorem w_L_undo (l : Launch) (E : EV) {d o : Nat} {f : Nat → Int64} {fs fs' : List Value} {wc wc' wb : va_W} {v : Int32} (hM : Wr l E yX6_undo cX6_undo 1 (some .int) 7 104 [.ref d] ((d, .inr (6, fs)) :: wc) ((d, .inr (6, fs')) :: wc') (some (.int v))) (hp : (ads ((d, .inr (6, fs')) :: wc')).Perm (ads ((d, .inr (6, fs)) :: wc))) : Gx l E yL_undo cL_undo 3 [(0, 8, 11, 21)] 8 124 [.ref d, .ref o] (rl_ E o 1 f :: (((d, .inr (6, fs)) :: wc) ++ wb)) (rl_ E o 1 (vp_updL f 0 v.toInt64) :: (((d, .inr (6, fs')) :: wc') ++ wb)) (nI 0) := by
  refine Gx.mk0 (by decide) (Nat.le_of_ble_eq_true rfl) ?_
  intro pP eE sS mM aA bB mt cC A F hr hk hT hE ls hl
  have hl : lv_has ls 3 [(0, .ref d), (1, .ref o)] := hl
  refine GV.aload_n F dL_undo_0 rfl (lv_at hl 1 rfl) ?_
  refine GV.iconst (v := nI 0) F dL_undo_1 (by decide) ?_
  refine GV.aload_n F dL_undo_2 rfl (lv_at hl 0 rfl) ?_
  refine GV.wrV (q0 := 1) (wa := [rl_ E o 1 f]) (wb := wb) F hE hM hp (kL_46 F.2.2.2.2 ⟨Nat.le_of_ble_eq_true rfl, Nat.le_of_ble_eq_true rfl⟩) rfl rfl rfl rfl hl.1 (Nat.le_of_ble_eq_true rfl) ⟨Nat.zero_le _, Nat.zero_le _⟩ dL_undo_3 rfl ?_
  refine GV.i2l F dL_undo_6 ?_
  refine GV.last F hE 0 rfl (by decide) (by decide) dL_undo_7 rfl ?_
  refine GV.goto (tgt := 14) F dL_undo_8 (by decide) ?_
  refine GV.iconst (v := nI 0) F dL_undo_14 (by decide) ?_
  exact GV.iret F hr hk rfl rfl (Nat.zero_le _) (Nat.zero_le _) dL_undo_15
set_option maxHeartbeats 4000000 in
set_option maxRecDepth 100000 in
theorem w_L_undo_e1 (l : Launch) (E : EV) {d o : Nat} {f : Nat → Int64} {fs : List Value} {wc wb : va_W} (hM : Th l E yX6_undo cX6_undo 1 (some .int) 7 104 [.ref d] ((d, .inr (6, fs)) :: wc) xS) : Gx l E yL_undo cL_undo 3 [(0, 8, 11, 21)] 8 124 [.ref d, .ref o] (rl_ E o 1 f :: (((d, .inr (6, fs)) :: wc) ++ wb)) (rl_ E o 1 f :: (((d, .inr (6, fs)) :: wc) ++ wb)) (nI 1) := by
  refine Gx.mk0 (by decide) (Nat.le_of_ble_eq_true rfl) ?_
  intro pP eE sS mM aA bB mt cC A F hr hk hT hE ls hl
  have hl : lv_has ls 3 [(0, .ref d), (1, .ref o)] := hl
  refine GV.aload_n F dL_undo_0 rfl (lv_at hl 1 rfl) ?_
  refine GV.iconst (v := nI 0) F dL_undo_1 (by decide) ?_
  refine GV.aload_n F dL_undo_2 rfl (lv_at hl 0 rfl) ?_
  refine GV.thr (q0 := 1) (wa := [rl_ E o 1 f]) (wb := wb) (name := xS) F hE hM (kL_46 F.2.2.2.2 ⟨Nat.le_of_ble_eq_true rfl, Nat.le_of_ble_eq_true rfl⟩) rfl rfl rfl rfl hl.1 (Nat.le_of_ble_eq_true rfl) ⟨Nat.le_of_ble_eq_true rfl, Nat.le_of_ble_eq_true rfl⟩ dL_undo_3 rfl [] ⟨0, 8, 11, 21⟩ [] hT (fun z hz => absurd hz List.not_mem_nil) rfl (by decide) clL_21 (nw_use casS hE.2.1) (fun q => ?_)
  refine GV.astore_n (lv' := [(2, .ref q), (0, .ref d), (1, .ref o)]) F dL_undo_11 rfl hl (by decide) rfl (fun ls hl => ?_)
  refine GV.iconst (v := nI 1) F dL_undo_12 (by decide) ?_
  exact GV.iret F hr hk rfl rfl (Nat.le_of_ble_eq_true rfl) (Nat.le_of_ble_eq_true rfl) dL_undo_13
theorem wd_L_person : Cond.codeWith yL_person cL_person 5 (some .int) [(0, 10, 13, 13), (0, 10, 17, 15)] ∈ LW := LW_mk 805 (by decide +kernel) rfl
set_option maxHeartbeats 4000000 in
set_option maxRecDepth 100000 in
theorem w_L_person (l : Launch) (E : EV) {d o : Nat} {f : Nat → Int64} {p0 p1 : Int32} {fs : List Value} {wc wb : va_W} {v : Int32} (hM : Rd l E yX6_person cX6_person 3 (some .int) 7 104 [.ref d, .int p0, .int p1] ((d, .inr (6, fs)) :: wc) (some (.int v))) : Gx l E yL_person cL_person 5 [(0, 10, 13, 13), (0, 10, 17, 15)] 8 126 [.ref d, .int p0, .int p1, .ref o] (rl_ E o 1 f :: (((d, .inr (6, fs)) :: wc) ++ wb)) (rl_ E o 1 (vp_updL f 0 v.toInt64) :: (((d, .inr (6, fs)) :: wc) ++ wb)) (nI 0) := by
  refine Gx.mk0 (by decide) (Nat.le_of_ble_eq_true rfl) ?_
  intro pP eE sS mM aA bB mt cC A F hr hk hT hE ls hl
  have hl : lv_has ls 5 [(0, .ref d), (1, .int p0), (2, .int p1), (3, .ref o)] := hl
  refine GV.aload_n F dL_person_0 rfl (lv_at hl 3 rfl) ?_
  refine GV.iconst (v := nI 0) F dL_person_1 (by decide) ?_
  refine GV.aload_n F dL_person_2 rfl (lv_at hl 0 rfl) ?_
  refine GV.iload_n F dL_person_3 rfl (lv_at hl 1 rfl) ?_
  refine GV.iload_n F dL_person_4 rfl (lv_at hl 2 rfl) ?_
  refine GV.rdV (q0 := 1) (wa := [rl_ E o 1 f]) (wb := wb) F hE hM (kL_49 F.2.2.2.2 ⟨Nat.le_of_ble_eq_true rfl, Nat.le_of_ble_eq_true rfl⟩) rfl rfl rfl rfl hl.1 (Nat.le_of_ble_eq_true rfl) ⟨Nat.zero_le _, Nat.zero_le _⟩ dL_person_5 rfl ?_
  refine GV.i2l F dL_person_8 ?_
  refine GV.last F hE 0 rfl (by decide) (by decide) dL_person_9 rfl ?_
  refine GV.goto (tgt := 21) F dL_person_10 (by decide) ?_
  refine GV.iconst (v := nI 0) F dL_person_21 (by decide) ?_
  exact GV.iret F hr hk rfl rfl (Nat.zero_le _) (Nat.zero_le _) dL_person_22
set_option maxHeartbeats 4000000 in
set_option maxRecDepth 100000 in
theorem w_L_person_e1 (l : Launch) (E : EV) {d o : Nat} {f : Nat → Int64} {p0 p1 : Int32} {fs : List Value} {wc wb : va_W} (hM : Th l E yX6_person cX6_person 3 (some .int) 7 104 [.ref d, .int p0, .int p1] ((d, .inr (6, fs)) :: wc) xI) : Gx l E yL_person cL_person 5 [(0, 10, 13, 13), (0, 10, 17, 15)] 8 126 [.ref d, .int p0, .int p1, .ref o] (rl_ E o 1 f :: (((d, .inr (6, fs)) :: wc) ++ wb)) (rl_ E o 1 f :: (((d, .inr (6, fs)) :: wc) ++ wb)) (nI 1) := by
  refine Gx.mk0 (by decide) (Nat.le_of_ble_eq_true rfl) ?_
  intro pP eE sS mM aA bB mt cC A F hr hk hT hE ls hl
  have hl : lv_has ls 5 [(0, .ref d), (1, .int p0), (2, .int p1), (3, .ref o)] := hl
  refine GV.aload_n F dL_person_0 rfl (lv_at hl 3 rfl) ?_
  refine GV.iconst (v := nI 0) F dL_person_1 (by decide) ?_
  refine GV.aload_n F dL_person_2 rfl (lv_at hl 0 rfl) ?_
  refine GV.iload_n F dL_person_3 rfl (lv_at hl 1 rfl) ?_
  refine GV.iload_n F dL_person_4 rfl (lv_at hl 2 rfl) ?_
  refine GV.thr (q0 := 1) (wa := [rl_ E o 1 f]) (wb := wb) (name := xI) F hE hM (kL_49 F.2.2.2.2 ⟨Nat.le_of_ble_eq_true rfl, Nat.le_of_ble_eq_true rfl⟩) rfl rfl rfl rfl hl.1 (Nat.le_of_ble_eq_true rfl) ⟨Nat.le_of_ble_eq_true rfl, Nat.le_of_ble_eq_true rfl⟩ dL_person_5 rfl [] ⟨0, 10, 13, 13⟩ [⟨0, 10, 17, 15⟩] hT (fun z hz => absurd hz List.not_mem_nil) rfl (by decide) clL_13 (nw_use casI hE.2.1) (fun q => ?_)
  refine GV.astore (lv' := [(4, .ref q), (0, .ref d), (1, .int p0), (2, .int p1), (3, .ref o)]) F dL_person_13 hl (by decide) rfl (fun ls hl => ?_)
  refine GV.iconst (v := nI 1) F dL_person_15 (by decide) ?_
  exact GV.iret F hr hk rfl rfl (Nat.le_of_ble_eq_true rfl) (Nat.le_of_ble_eq_true rfl) dL_person_16
set_option maxHeartbeats 4000000 in
set_option maxRecDepth 100000 in
theorem w_L_person_e2 (l : Launch) (E : EV) {d o : Nat} {f : Nat → Int64} {p0 p1 : Int32} {fs : List Value} {wc wb : va_W} (hM : Th l E yX6_person cX6_person 3 (some .int) 7 104 [.ref d, .int p0, .int p1] ((d, .inr (6, fs)) :: wc) xA) : Gx l E yL_person cL_person 5 [(0, 10, 13, 13), (0, 10, 17, 15)] 8 126 [.ref d, .int p0, .int p1, .ref o] (rl_ E o 1 f :: (((d, .inr (6, fs)) :: wc) ++ wb)) (rl_ E o 1 f :: (((d, .inr (6, fs)) :: wc) ++ wb)) (nI 2) := by
  refine Gx.mk0 (by decide) (Nat.le_of_ble_eq_true rfl) ?_
  intro pP eE sS mM aA bB mt cC A F hr hk hT hE ls hl
  have hl : lv_has ls 5 [(0, .ref d), (1, .int p0), (2, .int p1), (3, .ref o)] := hl
  refine GV.aload_n F dL_person_0 rfl (lv_at hl 3 rfl) ?_
  refine GV.iconst (v := nI 0) F dL_person_1 (by decide) ?_
  refine GV.aload_n F dL_person_2 rfl (lv_at hl 0 rfl) ?_
  refine GV.iload_n F dL_person_3 rfl (lv_at hl 1 rfl) ?_
  refine GV.iload_n F dL_person_4 rfl (lv_at hl 2 rfl) ?_
  refine GV.thr (q0 := 1) (wa := [rl_ E o 1 f]) (wb := wb) (name := xA) F hE hM (kL_49 F.2.2.2.2 ⟨Nat.le_of_ble_eq_true rfl, Nat.le_of_ble_eq_true rfl⟩) rfl rfl rfl rfl hl.1 (Nat.le_of_ble_eq_true rfl) ⟨Nat.le_of_ble_eq_true rfl, Nat.le_of_ble_eq_true rfl⟩ dL_person_5 rfl [⟨0, 10, 13, 13⟩] ⟨0, 10, 17, 15⟩ [] hT (List.forall_mem_cons.mpr ⟨⟨by decide, xI, clL_13, hE.2.2.2.2.1.2.2.1⟩, fun _ h => absurd h List.not_mem_nil⟩) rfl (by decide) clL_15 (nw_use casA hE.2.1) (fun q => ?_)
  refine GV.astore (lv' := [(4, .ref q), (0, .ref d), (1, .int p0), (2, .int p1), (3, .ref o)]) F dL_person_17 hl (by decide) rfl (fun ls hl => ?_)
  refine GV.iconst (v := nI 2) F dL_person_19 (by decide) ?_
  exact GV.iret F hr hk rfl rfl (Nat.le_of_ble_eq_true rfl) (Nat.le_of_ble_eq_true rfl) dL_person_20
theorem wd_L_rehearsed : Cond.codeWith yL_rehearsed cL_rehearsed 6 (some .int) [(0, 12, 15, 13), (0, 12, 19, 15)] ∈ LW := LW_mk 812 (by decide +kernel) rfl
set_option maxHeartbeats 4000000 in
set_option maxRecDepth 100000 in
theorem w_L_rehearsed (l : Launch) (E : EV) {d o : Nat} {f : Nat → Int64} {p0 p1 p2 : Int32} {fs : List Value} {wc wb : va_W} {v : Int32} (hM : Rd l E yX6_rehearsed cX6_rehearsed 4 (some .int) 7 104 [.ref d, .int p0, .int p1, .int p2] ((d, .inr (6, fs)) :: wc) (some (.int v))) : Gx l E yL_rehearsed cL_rehearsed 6 [(0, 12, 15, 13), (0, 12, 19, 15)] 8 127 [.ref d, .int p0, .int p1, .int p2, .ref o] (rl_ E o 1 f :: (((d, .inr (6, fs)) :: wc) ++ wb)) (rl_ E o 1 (vp_updL f 0 v.toInt64) :: (((d, .inr (6, fs)) :: wc) ++ wb)) (nI 0) := by
  refine Gx.mk0 (by decide) (Nat.le_of_ble_eq_true rfl) ?_
  intro pP eE sS mM aA bB mt cC A F hr hk hT hE ls hl
  have hl : lv_has ls 6 [(0, .ref d), (1, .int p0), (2, .int p1), (3, .int p2), (4, .ref o)] := hl
  refine GV.aload F dL_rehearsed_0 (lv_at hl 4 rfl) ?_
  refine GV.iconst (v := nI 0) F dL_rehearsed_2 (by decide) ?_
  refine GV.aload_n F dL_rehearsed_3 rfl (lv_at hl 0 rfl) ?_
  refine GV.iload_n F dL_rehearsed_4 rfl (lv_at hl 1 rfl) ?_
  refine GV.iload_n F dL_rehearsed_5 rfl (lv_at hl 2 rfl) ?_
  refine GV.iload_n F dL_rehearsed_6 rfl (lv_at hl 3 rfl) ?_
  refine GV.rdV (q0 := 1) (wa := [rl_ E o 1 f]) (wb := wb) F hE hM (kL_52 F.2.2.2.2 ⟨Nat.le_of_ble_eq_true rfl, Nat.le_of_ble_eq_true rfl⟩) rfl rfl rfl rfl hl.1 (Nat.le_of_ble_eq_true rfl) ⟨Nat.zero_le _, Nat.zero_le _⟩ dL_rehearsed_7 rfl ?_
  refine GV.i2l F dL_rehearsed_10 ?_
  refine GV.last F hE 0 rfl (by decide) (by decide) dL_rehearsed_11 rfl ?_
  refine GV.goto (tgt := 23) F dL_rehearsed_12 (by decide) ?_
  refine GV.iconst (v := nI 0) F dL_rehearsed_23 (by decide) ?_
  exact GV.iret F hr hk rfl rfl (Nat.zero_le _) (Nat.zero_le _) dL_rehearsed_24
set_option maxHeartbeats 4000000 in
set_option maxRecDepth 100000 in
theorem w_L_rehearsed_e1 (l : Launch) (E : EV) {d o : Nat} {f : Nat → Int64} {p0 p1 p2 : Int32} {fs : List Value} {wc wb : va_W} (hM : Th l E yX6_rehearsed cX6_rehearsed 4 (some .int) 7 104 [.ref d, .int p0, .int p1, .int p2] ((d, .inr (6, fs)) :: wc) xI) : Gx l E yL_rehearsed cL_rehearsed 6 [(0, 12, 15, 13), (0, 12, 19, 15)] 8 127 [.ref d, .int p0, .int p1, .int p2, .ref o] (rl_ E o 1 f :: (((d, .inr (6, fs)) :: wc) ++ wb)) (rl_ E o 1 f :: (((d, .inr (6, fs)) :: wc) ++ wb)) (nI 1) := by
  refine Gx.mk0 (by decide) (Nat.le_of_ble_eq_true rfl) ?_
  intro pP eE sS mM aA bB mt cC A F hr hk hT hE ls hl
  have hl : lv_has ls 6 [(0, .ref d), (1, .int p0), (2, .int p1), (3, .int p2), (4, .ref o)] := hl
  refine GV.aload F dL_rehearsed_0 (lv_at hl 4 rfl) ?_
  refine GV.iconst (v := nI 0) F dL_rehearsed_2 (by decide) ?_
  refine GV.aload_n F dL_rehearsed_3 rfl (lv_at hl 0 rfl) ?_
  refine GV.iload_n F dL_rehearsed_4 rfl (lv_at hl 1 rfl) ?_
  refine GV.iload_n F dL_rehearsed_5 rfl (lv_at hl 2 rfl) ?_
  refine GV.iload_n F dL_rehearsed_6 rfl (lv_at hl 3 rfl) ?_
  refine GV.thr (q0 := 1) (wa := [rl_ E o 1 f]) (wb := wb) (name := xI) F hE hM (kL_52 F.2.2.2.2 ⟨Nat.le_of_ble_eq_true rfl, Nat.le_of_ble_eq_true rfl⟩) rfl rfl rfl rfl hl.1 (Nat.le_of_ble_eq_true rfl) ⟨Nat.le_of_ble_eq_true rfl, Nat.le_of_ble_eq_true rfl⟩ dL_rehearsed_7 rfl [] ⟨0, 12, 15, 13⟩ [⟨0, 12, 19, 15⟩] hT (fun z hz => absurd hz List.not_mem_nil) rfl (by decide) clL_13 (nw_use casI hE.2.1) (fun q => ?_)
  refine GV.astore (lv' := [(5, .ref q), (0, .ref d), (1, .int p0), (2, .int p1), (3, .int p2), (4, .ref o)]) F dL_rehearsed_15 hl (by decide) rfl (fun ls hl => ?_)
  refine GV.iconst (v := nI 1) F dL_rehearsed_17 (by decide) ?_
  exact GV.iret F hr hk rfl rfl (Nat.le_of_ble_eq_true rfl) (Nat.le_of_ble_eq_true rfl) dL_rehearsed_18
set_option maxHeartbeats 4000000 in
set_option maxRecDepth 100000 in
theorem w_L_rehearsed_e2 (l : Launch) (E : EV) {d o : Nat} {f : Nat → Int64} {p0 p1 p2 : Int32} {fs : List Value} {wc wb : va_W} (hM : Th l E yX6_rehearsed cX6_rehearsed 4 (some .int) 7 104 [.ref d, .int p0, .int p1, .int p2] ((d, .inr (6, fs)) :: wc) xA) : Gx l E yL_rehearsed cL_rehearsed 6 [(0, 12, 15, 13), (0, 12, 19, 15)] 8 127 [.ref d, .int p0, .int p1, .int p2, .ref o] (rl_ E o 1 f :: (((d, .inr (6, fs)) :: wc) ++ wb)) (rl_ E o 1 f :: (((d, .inr (6, fs)) :: wc) ++ wb)) (nI 2) := by
  refine Gx.mk0 (by decide) (Nat.le_of_ble_eq_true rfl) ?_
  intro pP eE sS mM aA bB mt cC A F hr hk hT hE ls hl
  have hl : lv_has ls 6 [(0, .ref d), (1, .int p0), (2, .int p1), (3, .int p2), (4, .ref o)] := hl
  refine GV.aload F dL_rehearsed_0 (lv_at hl 4 rfl) ?_
  refine GV.iconst (v := nI 0) F dL_rehearsed_2 (by decide) ?_
  refine GV.aload_n F dL_rehearsed_3 rfl (lv_at hl 0 rfl) ?_
  refine GV.iload_n F dL_rehearsed_4 rfl (lv_at hl 1 rfl) ?_
  refine GV.iload_n F dL_rehearsed_5 rfl (lv_at hl 2 rfl) ?_
  refine GV.iload_n F dL_rehearsed_6 rfl (lv_at hl 3 rfl) ?_
  refine GV.thr (q0 := 1) (wa := [rl_ E o 1 f]) (wb := wb) (name := xA) F hE hM (kL_52 F.2.2.2.2 ⟨Nat.le_of_ble_eq_true rfl, Nat.le_of_ble_eq_true rfl⟩) rfl rfl rfl rfl hl.1 (Nat.le_of_ble_eq_true rfl) ⟨Nat.le_of_ble_eq_true rfl, Nat.le_of_ble_eq_true rfl⟩ dL_rehearsed_7 rfl [⟨0, 12, 15, 13⟩] ⟨0, 12, 19, 15⟩ [] hT (List.forall_mem_cons.mpr ⟨⟨by decide, xI, clL_13, hE.2.2.2.2.1.2.2.1⟩, fun _ h => absurd h List.not_mem_nil⟩) rfl (by decide) clL_15 (nw_use casA hE.2.1) (fun q => ?_)
  refine GV.astore (lv' := [(5, .ref q), (0, .ref d), (1, .int p0), (2, .int p1), (3, .int p2), (4, .ref o)]) F dL_rehearsed_19 hl (by decide) rfl (fun ls hl => ?_)
  refine GV.iconst (v := nI 2) F dL_rehearsed_21 (by decide) ?_
  exact GV.iret F hr hk rfl rfl (Nat.le_of_ble_eq_true rfl) (Nat.le_of_ble_eq_true rfl) dL_rehearsed_22
theorem wd_L_kind : Cond.codeWith yL_kind cL_kind 6 (some .int) [(0, 12, 15, 13), (0, 12, 19, 15)] ∈ LW := LW_mk 819 (by decide +kernel) rfl
set_option maxHeartbeats 4000000 in
set_option maxRecDepth 100000 in
theorem w_L_kind (l : Launch) (E : EV) {d o : Nat} {f : Nat → Int64} {p0 p1 p2 : Int32} {fs : List Value} {wc wb : va_W} {v : Int32} (hM : Rd l E yX6_kind cX6_kind 4 (some .int) 7 104 [.ref d, .int p0, .int p1, .int p2] ((d, .inr (6, fs)) :: wc) (some (.int v))) : Gx l E yL_kind cL_kind 6 [(0, 12, 15, 13), (0, 12, 19, 15)] 8 127 [.ref d, .int p0, .int p1, .int p2, .ref o] (rl_ E o 1 f :: (((d, .inr (6, fs)) :: wc) ++ wb)) (rl_ E o 1 (vp_updL f 0 v.toInt64) :: (((d, .inr (6, fs)) :: wc) ++ wb)) (nI 0) := by
  refine Gx.mk0 (by decide) (Nat.le_of_ble_eq_true rfl) ?_
  intro pP eE sS mM aA bB mt cC A F hr hk hT hE ls hl
  have hl : lv_has ls 6 [(0, .ref d), (1, .int p0), (2, .int p1), (3, .int p2), (4, .ref o)] := hl
  refine GV.aload F dL_kind_0 (lv_at hl 4 rfl) ?_
  refine GV.iconst (v := nI 0) F dL_kind_2 (by decide) ?_
  refine GV.aload_n F dL_kind_3 rfl (lv_at hl 0 rfl) ?_
  refine GV.iload_n F dL_kind_4 rfl (lv_at hl 1 rfl) ?_
  refine GV.iload_n F dL_kind_5 rfl (lv_at hl 2 rfl) ?_
  refine GV.iload_n F dL_kind_6 rfl (lv_at hl 3 rfl) ?_
  refine GV.rdV (q0 := 1) (wa := [rl_ E o 1 f]) (wb := wb) F hE hM (kL_55 F.2.2.2.2 ⟨Nat.le_of_ble_eq_true rfl, Nat.le_of_ble_eq_true rfl⟩) rfl rfl rfl rfl hl.1 (Nat.le_of_ble_eq_true rfl) ⟨Nat.zero_le _, Nat.zero_le _⟩ dL_kind_7 rfl ?_
  refine GV.i2l F dL_kind_10 ?_
  refine GV.last F hE 0 rfl (by decide) (by decide) dL_kind_11 rfl ?_
  refine GV.goto (tgt := 23) F dL_kind_12 (by decide) ?_
  refine GV.iconst (v := nI 0) F dL_kind_23 (by decide) ?_
  exact GV.iret F hr hk rfl rfl (Nat.zero_le _) (Nat.zero_le _) dL_kind_24
set_option maxHeartbeats 4000000 in
set_option maxRecDepth 100000 in
theorem w_L_kind_e1 (l : Launch) (E : EV) {d o : Nat} {f : Nat → Int64} {p0 p1 p2 : Int32} {fs : List Value} {wc wb : va_W} (hM : Th l E yX6_kind cX6_kind 4 (some .int) 7 104 [.ref d, .int p0, .int p1, .int p2] ((d, .inr (6, fs)) :: wc) xI) : Gx l E yL_kind cL_kind 6 [(0, 12, 15, 13), (0, 12, 19, 15)] 8 127 [.ref d, .int p0, .int p1, .int p2, .ref o] (rl_ E o 1 f :: (((d, .inr (6, fs)) :: wc) ++ wb)) (rl_ E o 1 f :: (((d, .inr (6, fs)) :: wc) ++ wb)) (nI 1) := by
  refine Gx.mk0 (by decide) (Nat.le_of_ble_eq_true rfl) ?_
  intro pP eE sS mM aA bB mt cC A F hr hk hT hE ls hl
  have hl : lv_has ls 6 [(0, .ref d), (1, .int p0), (2, .int p1), (3, .int p2), (4, .ref o)] := hl
  refine GV.aload F dL_kind_0 (lv_at hl 4 rfl) ?_
  refine GV.iconst (v := nI 0) F dL_kind_2 (by decide) ?_
  refine GV.aload_n F dL_kind_3 rfl (lv_at hl 0 rfl) ?_
  refine GV.iload_n F dL_kind_4 rfl (lv_at hl 1 rfl) ?_
  refine GV.iload_n F dL_kind_5 rfl (lv_at hl 2 rfl) ?_
  refine GV.iload_n F dL_kind_6 rfl (lv_at hl 3 rfl) ?_
  refine GV.thr (q0 := 1) (wa := [rl_ E o 1 f]) (wb := wb) (name := xI) F hE hM (kL_55 F.2.2.2.2 ⟨Nat.le_of_ble_eq_true rfl, Nat.le_of_ble_eq_true rfl⟩) rfl rfl rfl rfl hl.1 (Nat.le_of_ble_eq_true rfl) ⟨Nat.le_of_ble_eq_true rfl, Nat.le_of_ble_eq_true rfl⟩ dL_kind_7 rfl [] ⟨0, 12, 15, 13⟩ [⟨0, 12, 19, 15⟩] hT (fun z hz => absurd hz List.not_mem_nil) rfl (by decide) clL_13 (nw_use casI hE.2.1) (fun q => ?_)
  refine GV.astore (lv' := [(5, .ref q), (0, .ref d), (1, .int p0), (2, .int p1), (3, .int p2), (4, .ref o)]) F dL_kind_15 hl (by decide) rfl (fun ls hl => ?_)
  refine GV.iconst (v := nI 1) F dL_kind_17 (by decide) ?_
  exact GV.iret F hr hk rfl rfl (Nat.le_of_ble_eq_true rfl) (Nat.le_of_ble_eq_true rfl) dL_kind_18
set_option maxHeartbeats 4000000 in
set_option maxRecDepth 100000 in
theorem w_L_kind_e2 (l : Launch) (E : EV) {d o : Nat} {f : Nat → Int64} {p0 p1 p2 : Int32} {fs : List Value} {wc wb : va_W} (hM : Th l E yX6_kind cX6_kind 4 (some .int) 7 104 [.ref d, .int p0, .int p1, .int p2] ((d, .inr (6, fs)) :: wc) xA) : Gx l E yL_kind cL_kind 6 [(0, 12, 15, 13), (0, 12, 19, 15)] 8 127 [.ref d, .int p0, .int p1, .int p2, .ref o] (rl_ E o 1 f :: (((d, .inr (6, fs)) :: wc) ++ wb)) (rl_ E o 1 f :: (((d, .inr (6, fs)) :: wc) ++ wb)) (nI 2) := by
  refine Gx.mk0 (by decide) (Nat.le_of_ble_eq_true rfl) ?_
  intro pP eE sS mM aA bB mt cC A F hr hk hT hE ls hl
  have hl : lv_has ls 6 [(0, .ref d), (1, .int p0), (2, .int p1), (3, .int p2), (4, .ref o)] := hl
  refine GV.aload F dL_kind_0 (lv_at hl 4 rfl) ?_
  refine GV.iconst (v := nI 0) F dL_kind_2 (by decide) ?_
  refine GV.aload_n F dL_kind_3 rfl (lv_at hl 0 rfl) ?_
  refine GV.iload_n F dL_kind_4 rfl (lv_at hl 1 rfl) ?_
  refine GV.iload_n F dL_kind_5 rfl (lv_at hl 2 rfl) ?_
  refine GV.iload_n F dL_kind_6 rfl (lv_at hl 3 rfl) ?_
  refine GV.thr (q0 := 1) (wa := [rl_ E o 1 f]) (wb := wb) (name := xA) F hE hM (kL_55 F.2.2.2.2 ⟨Nat.le_of_ble_eq_true rfl, Nat.le_of_ble_eq_true rfl⟩) rfl rfl rfl rfl hl.1 (Nat.le_of_ble_eq_true rfl) ⟨Nat.le_of_ble_eq_true rfl, Nat.le_of_ble_eq_true rfl⟩ dL_kind_7 rfl [⟨0, 12, 15, 13⟩] ⟨0, 12, 19, 15⟩ [] hT (List.forall_mem_cons.mpr ⟨⟨by decide, xI, clL_13, hE.2.2.2.2.1.2.2.1⟩, fun _ h => absurd h List.not_mem_nil⟩) rfl (by decide) clL_15 (nw_use casA hE.2.1) (fun q => ?_)
  refine GV.astore (lv' := [(5, .ref q), (0, .ref d), (1, .int p0), (2, .int p1), (3, .int p2), (4, .ref o)]) F dL_kind_19 hl (by decide) rfl (fun ls hl => ?_)
  refine GV.iconst (v := nI 2) F dL_kind_21 (by decide) ?_
  exact GV.iret F hr hk rfl rfl (Nat.le_of_ble_eq_true rfl) (Nat.le_of_ble_eq_true rfl) dL_kind_22
theorem wd_L_sceneOf : Cond.codeWith yL_sceneOf cL_sceneOf 5 (some .int) [(0, 10, 13, 13), (0, 10, 17, 15)] ∈ LW := LW_mk 828 (by decide +kernel) rfl
set_option maxHeartbeats 4000000 in
set_option maxRecDepth 100000 in
theorem w_L_sceneOf (l : Launch) (E : EV) {d o : Nat} {f : Nat → Int64} {p0 p1 : Int32} {fs : List Value} {wc wb : va_W} {v : Int32} (hM : Rd l E yX6_sceneOf cX6_sceneOf 3 (some .int) 7 119 [.ref d, .int p0, .int p1] ((d, .inr (6, fs)) :: wc) (some (.int v))) : Gx l E yL_sceneOf cL_sceneOf 5 [(0, 10, 13, 13), (0, 10, 17, 15)] 8 141 [.ref d, .int p0, .int p1, .ref o] (rl_ E o 1 f :: (((d, .inr (6, fs)) :: wc) ++ wb)) (rl_ E o 1 (vp_updL f 0 v.toInt64) :: (((d, .inr (6, fs)) :: wc) ++ wb)) (nI 0) := by
  refine Gx.mk0 (by decide) (Nat.le_of_ble_eq_true rfl) ?_
  intro pP eE sS mM aA bB mt cC A F hr hk hT hE ls hl
  have hl : lv_has ls 5 [(0, .ref d), (1, .int p0), (2, .int p1), (3, .ref o)] := hl
  refine GV.aload_n F dL_sceneOf_0 rfl (lv_at hl 3 rfl) ?_
  refine GV.iconst (v := nI 0) F dL_sceneOf_1 (by decide) ?_
  refine GV.aload_n F dL_sceneOf_2 rfl (lv_at hl 0 rfl) ?_
  refine GV.iload_n F dL_sceneOf_3 rfl (lv_at hl 1 rfl) ?_
  refine GV.iload_n F dL_sceneOf_4 rfl (lv_at hl 2 rfl) ?_
  refine GV.rdV (q0 := 1) (wa := [rl_ E o 1 f]) (wb := wb) F hE hM (kL_58 F.2.2.2.2 ⟨Nat.le_of_ble_eq_true rfl, Nat.le_of_ble_eq_true rfl⟩) rfl rfl rfl rfl hl.1 (Nat.le_of_ble_eq_true rfl) ⟨Nat.zero_le _, Nat.zero_le _⟩ dL_sceneOf_5 rfl ?_
  refine GV.i2l F dL_sceneOf_8 ?_
  refine GV.last F hE 0 rfl (by decide) (by decide) dL_sceneOf_9 rfl ?_
  refine GV.goto (tgt := 21) F dL_sceneOf_10 (by decide) ?_
  refine GV.iconst (v := nI 0) F dL_sceneOf_21 (by decide) ?_
  exact GV.iret F hr hk rfl rfl (Nat.zero_le _) (Nat.zero_le _) dL_sceneOf_22
set_option maxHeartbeats 4000000 in
set_option maxRecDepth 100000 in
theorem w_L_sceneOf_e1 (l : Launch) (E : EV) {d o : Nat} {f : Nat → Int64} {p0 p1 : Int32} {fs : List Value} {wc wb : va_W} (hM : Th l E yX6_sceneOf cX6_sceneOf 3 (some .int) 7 119 [.ref d, .int p0, .int p1] ((d, .inr (6, fs)) :: wc) xI) : Gx l E yL_sceneOf cL_sceneOf 5 [(0, 10, 13, 13), (0, 10, 17, 15)] 8 141 [.ref d, .int p0, .int p1, .ref o] (rl_ E o 1 f :: (((d, .inr (6, fs)) :: wc) ++ wb)) (rl_ E o 1 f :: (((d, .inr (6, fs)) :: wc) ++ wb)) (nI 1) := by
  refine Gx.mk0 (by decide) (Nat.le_of_ble_eq_true rfl) ?_
  intro pP eE sS mM aA bB mt cC A F hr hk hT hE ls hl
  have hl : lv_has ls 5 [(0, .ref d), (1, .int p0), (2, .int p1), (3, .ref o)] := hl
  refine GV.aload_n F dL_sceneOf_0 rfl (lv_at hl 3 rfl) ?_
  refine GV.iconst (v := nI 0) F dL_sceneOf_1 (by decide) ?_
  refine GV.aload_n F dL_sceneOf_2 rfl (lv_at hl 0 rfl) ?_
  refine GV.iload_n F dL_sceneOf_3 rfl (lv_at hl 1 rfl) ?_
  refine GV.iload_n F dL_sceneOf_4 rfl (lv_at hl 2 rfl) ?_
  refine GV.thr (q0 := 1) (wa := [rl_ E o 1 f]) (wb := wb) (name := xI) F hE hM (kL_58 F.2.2.2.2 ⟨Nat.le_of_ble_eq_true rfl, Nat.le_of_ble_eq_true rfl⟩) rfl rfl rfl rfl hl.1 (Nat.le_of_ble_eq_true rfl) ⟨Nat.le_of_ble_eq_true rfl, Nat.le_of_ble_eq_true rfl⟩ dL_sceneOf_5 rfl [] ⟨0, 10, 13, 13⟩ [⟨0, 10, 17, 15⟩] hT (fun z hz => absurd hz List.not_mem_nil) rfl (by decide) clL_13 (nw_use casI hE.2.1) (fun q => ?_)
  refine GV.astore (lv' := [(4, .ref q), (0, .ref d), (1, .int p0), (2, .int p1), (3, .ref o)]) F dL_sceneOf_13 hl (by decide) rfl (fun ls hl => ?_)
  refine GV.iconst (v := nI 1) F dL_sceneOf_15 (by decide) ?_
  exact GV.iret F hr hk rfl rfl (Nat.le_of_ble_eq_true rfl) (Nat.le_of_ble_eq_true rfl) dL_sceneOf_16
set_option maxHeartbeats 4000000 in
set_option maxRecDepth 100000 in
theorem w_L_sceneOf_e2 (l : Launch) (E : EV) {d o : Nat} {f : Nat → Int64} {p0 p1 : Int32} {fs : List Value} {wc wb : va_W} (hM : Th l E yX6_sceneOf cX6_sceneOf 3 (some .int) 7 119 [.ref d, .int p0, .int p1] ((d, .inr (6, fs)) :: wc) xA) : Gx l E yL_sceneOf cL_sceneOf 5 [(0, 10, 13, 13), (0, 10, 17, 15)] 8 141 [.ref d, .int p0, .int p1, .ref o] (rl_ E o 1 f :: (((d, .inr (6, fs)) :: wc) ++ wb)) (rl_ E o 1 f :: (((d, .inr (6, fs)) :: wc) ++ wb)) (nI 2) := by
  refine Gx.mk0 (by decide) (Nat.le_of_ble_eq_true rfl) ?_
  intro pP eE sS mM aA bB mt cC A F hr hk hT hE ls hl
  have hl : lv_has ls 5 [(0, .ref d), (1, .int p0), (2, .int p1), (3, .ref o)] := hl
  refine GV.aload_n F dL_sceneOf_0 rfl (lv_at hl 3 rfl) ?_
  refine GV.iconst (v := nI 0) F dL_sceneOf_1 (by decide) ?_
  refine GV.aload_n F dL_sceneOf_2 rfl (lv_at hl 0 rfl) ?_
  refine GV.iload_n F dL_sceneOf_3 rfl (lv_at hl 1 rfl) ?_
  refine GV.iload_n F dL_sceneOf_4 rfl (lv_at hl 2 rfl) ?_
  refine GV.thr (q0 := 1) (wa := [rl_ E o 1 f]) (wb := wb) (name := xA) F hE hM (kL_58 F.2.2.2.2 ⟨Nat.le_of_ble_eq_true rfl, Nat.le_of_ble_eq_true rfl⟩) rfl rfl rfl rfl hl.1 (Nat.le_of_ble_eq_true rfl) ⟨Nat.le_of_ble_eq_true rfl, Nat.le_of_ble_eq_true rfl⟩ dL_sceneOf_5 rfl [⟨0, 10, 13, 13⟩] ⟨0, 10, 17, 15⟩ [] hT (List.forall_mem_cons.mpr ⟨⟨by decide, xI, clL_13, hE.2.2.2.2.1.2.2.1⟩, fun _ h => absurd h List.not_mem_nil⟩) rfl (by decide) clL_15 (nw_use casA hE.2.1) (fun q => ?_)
  refine GV.astore (lv' := [(4, .ref q), (0, .ref d), (1, .int p0), (2, .int p1), (3, .ref o)]) F dL_sceneOf_17 hl (by decide) rfl (fun ls hl => ?_)
  refine GV.iconst (v := nI 2) F dL_sceneOf_19 (by decide) ?_
  exact GV.iret F hr hk rfl rfl (Nat.le_of_ble_eq_true rfl) (Nat.le_of_ble_eq_true rfl) dL_sceneOf_20
theorem wd_L_count : Cond.codeWith yL_count cL_count 4 (some .int) [(0, 9, 12, 15)] ∈ LW := LW_mk 835 (by decide +kernel) rfl
set_option maxHeartbeats 4000000 in
set_option maxRecDepth 100000 in
theorem w_L_count (l : Launch) (E : EV) {d o : Nat} {f : Nat → Int64} {p0 : Int32} {fs : List Value} {wc wb : va_W} {v : Int32} (hM : Rd l E yX6_count cX6_count 2 (some .int) 7 140 [.ref d, .int p0] ((d, .inr (6, fs)) :: wc) (some (.int v))) : Gx l E yL_count cL_count 4 [(0, 9, 12, 15)] 8 161 [.ref d, .int p0, .ref o] (rl_ E o 1 f :: (((d, .inr (6, fs)) :: wc) ++ wb)) (rl_ E o 1 (vp_updL f 0 v.toInt64) :: (((d, .inr (6, fs)) :: wc) ++ wb)) (nI 0) := by
  refine Gx.mk0 (by decide) (Nat.le_of_ble_eq_true rfl) ?_
  intro pP eE sS mM aA bB mt cC A F hr hk hT hE ls hl
  have hl : lv_has ls 4 [(0, .ref d), (1, .int p0), (2, .ref o)] := hl
  refine GV.aload_n F dL_count_0 rfl (lv_at hl 2 rfl) ?_
  refine GV.iconst (v := nI 0) F dL_count_1 (by decide) ?_
  refine GV.aload_n F dL_count_2 rfl (lv_at hl 0 rfl) ?_
  refine GV.iload_n F dL_count_3 rfl (lv_at hl 1 rfl) ?_
  refine GV.rdV (q0 := 1) (wa := [rl_ E o 1 f]) (wb := wb) F hE hM (kL_61 F.2.2.2.2 ⟨Nat.le_of_ble_eq_true rfl, Nat.le_of_ble_eq_true rfl⟩) rfl rfl rfl rfl hl.1 (Nat.le_of_ble_eq_true rfl) ⟨Nat.zero_le _, Nat.zero_le _⟩ dL_count_4 rfl ?_
  refine GV.i2l F dL_count_7 ?_
  refine GV.last F hE 0 rfl (by decide) (by decide) dL_count_8 rfl ?_
  refine GV.goto (tgt := 15) F dL_count_9 (by decide) ?_
  refine GV.iconst (v := nI 0) F dL_count_15 (by decide) ?_
  exact GV.iret F hr hk rfl rfl (Nat.zero_le _) (Nat.zero_le _) dL_count_16
set_option maxHeartbeats 4000000 in
set_option maxRecDepth 100000 in
theorem w_L_count_e1 (l : Launch) (E : EV) {d o : Nat} {f : Nat → Int64} {p0 : Int32} {fs : List Value} {wc wb : va_W} (hM : Th l E yX6_count cX6_count 2 (some .int) 7 140 [.ref d, .int p0] ((d, .inr (6, fs)) :: wc) xA) : Gx l E yL_count cL_count 4 [(0, 9, 12, 15)] 8 161 [.ref d, .int p0, .ref o] (rl_ E o 1 f :: (((d, .inr (6, fs)) :: wc) ++ wb)) (rl_ E o 1 f :: (((d, .inr (6, fs)) :: wc) ++ wb)) (nI 1) := by
  refine Gx.mk0 (by decide) (Nat.le_of_ble_eq_true rfl) ?_
  intro pP eE sS mM aA bB mt cC A F hr hk hT hE ls hl
  have hl : lv_has ls 4 [(0, .ref d), (1, .int p0), (2, .ref o)] := hl
  refine GV.aload_n F dL_count_0 rfl (lv_at hl 2 rfl) ?_
  refine GV.iconst (v := nI 0) F dL_count_1 (by decide) ?_
  refine GV.aload_n F dL_count_2 rfl (lv_at hl 0 rfl) ?_
  refine GV.iload_n F dL_count_3 rfl (lv_at hl 1 rfl) ?_
  refine GV.thr (q0 := 1) (wa := [rl_ E o 1 f]) (wb := wb) (name := xA) F hE hM (kL_61 F.2.2.2.2 ⟨Nat.le_of_ble_eq_true rfl, Nat.le_of_ble_eq_true rfl⟩) rfl rfl rfl rfl hl.1 (Nat.le_of_ble_eq_true rfl) ⟨Nat.le_of_ble_eq_true rfl, Nat.le_of_ble_eq_true rfl⟩ dL_count_4 rfl [] ⟨0, 9, 12, 15⟩ [] hT (fun z hz => absurd hz List.not_mem_nil) rfl (by decide) clL_15 (nw_use casA hE.2.1) (fun q => ?_)
  refine GV.astore_n (lv' := [(3, .ref q), (0, .ref d), (1, .int p0), (2, .ref o)]) F dL_count_12 rfl hl (by decide) rfl (fun ls hl => ?_)
  refine GV.iconst (v := nI 1) F dL_count_13 (by decide) ?_
  exact GV.iret F hr hk rfl rfl (Nat.le_of_ble_eq_true rfl) (Nat.le_of_ble_eq_true rfl) dL_count_14
theorem wd_L_refusal : Cond.codeWith yL_refusal cL_refusal 5 (some .int) [(0, 10, 13, 13)] ∈ LW := LW_mk 842 (by decide +kernel) rfl
set_option maxHeartbeats 4000000 in
set_option maxRecDepth 100000 in
theorem w_L_refusal (l : Launch) (E : EV) {d o : Nat} {f : Nat → Int64} {p0 p1 : Int32} {fs : List Value} {wc wb : va_W} {v : Int32} (hM : Rd l E yX6_refusal cX6_refusal 3 (some .int) 7 105 [.ref d, .int p0, .int p1] ((d, .inr (6, fs)) :: wc) (some (.int v))) : Gx l E yL_refusal cL_refusal 5 [(0, 10, 13, 13)] 8 127 [.ref d, .int p0, .int p1, .ref o] (rl_ E o 1 f :: (((d, .inr (6, fs)) :: wc) ++ wb)) (rl_ E o 1 (vp_updL f 0 v.toInt64) :: (((d, .inr (6, fs)) :: wc) ++ wb)) (nI 0) := by
  refine Gx.mk0 (by decide) (Nat.le_of_ble_eq_true rfl) ?_
  intro pP eE sS mM aA bB mt cC A F hr hk hT hE ls hl
  have hl : lv_has ls 5 [(0, .ref d), (1, .int p0), (2, .int p1), (3, .ref o)] := hl
  refine GV.aload_n F dL_refusal_0 rfl (lv_at hl 3 rfl) ?_
  refine GV.iconst (v := nI 0) F dL_refusal_1 (by decide) ?_
  refine GV.aload_n F dL_refusal_2 rfl (lv_at hl 0 rfl) ?_
  refine GV.iload_n F dL_refusal_3 rfl (lv_at hl 1 rfl) ?_
  refine GV.iload_n F dL_refusal_4 rfl (lv_at hl 2 rfl) ?_
  refine GV.rdV (q0 := 1) (wa := [rl_ E o 1 f]) (wb := wb) F hE hM (kL_64 F.2.2.2.2 ⟨Nat.le_of_ble_eq_true rfl, Nat.le_of_ble_eq_true rfl⟩) rfl rfl rfl rfl hl.1 (Nat.le_of_ble_eq_true rfl) ⟨Nat.zero_le _, Nat.zero_le _⟩ dL_refusal_5 rfl ?_
  refine GV.i2l F dL_refusal_8 ?_
  refine GV.last F hE 0 rfl (by decide) (by decide) dL_refusal_9 rfl ?_
  refine GV.goto (tgt := 17) F dL_refusal_10 (by decide) ?_
  refine GV.iconst (v := nI 0) F dL_refusal_17 (by decide) ?_
  exact GV.iret F hr hk rfl rfl (Nat.zero_le _) (Nat.zero_le _) dL_refusal_18
set_option maxHeartbeats 4000000 in
set_option maxRecDepth 100000 in
theorem w_L_refusal_e1 (l : Launch) (E : EV) {d o : Nat} {f : Nat → Int64} {p0 p1 : Int32} {fs : List Value} {wc wb : va_W} (hM : Th l E yX6_refusal cX6_refusal 3 (some .int) 7 105 [.ref d, .int p0, .int p1] ((d, .inr (6, fs)) :: wc) xI) : Gx l E yL_refusal cL_refusal 5 [(0, 10, 13, 13)] 8 127 [.ref d, .int p0, .int p1, .ref o] (rl_ E o 1 f :: (((d, .inr (6, fs)) :: wc) ++ wb)) (rl_ E o 1 f :: (((d, .inr (6, fs)) :: wc) ++ wb)) (nI 1) := by
  refine Gx.mk0 (by decide) (Nat.le_of_ble_eq_true rfl) ?_
  intro pP eE sS mM aA bB mt cC A F hr hk hT hE ls hl
  have hl : lv_has ls 5 [(0, .ref d), (1, .int p0), (2, .int p1), (3, .ref o)] := hl
  refine GV.aload_n F dL_refusal_0 rfl (lv_at hl 3 rfl) ?_
  refine GV.iconst (v := nI 0) F dL_refusal_1 (by decide) ?_
  refine GV.aload_n F dL_refusal_2 rfl (lv_at hl 0 rfl) ?_
  refine GV.iload_n F dL_refusal_3 rfl (lv_at hl 1 rfl) ?_
  refine GV.iload_n F dL_refusal_4 rfl (lv_at hl 2 rfl) ?_
  refine GV.thr (q0 := 1) (wa := [rl_ E o 1 f]) (wb := wb) (name := xI) F hE hM (kL_64 F.2.2.2.2 ⟨Nat.le_of_ble_eq_true rfl, Nat.le_of_ble_eq_true rfl⟩) rfl rfl rfl rfl hl.1 (Nat.le_of_ble_eq_true rfl) ⟨Nat.le_of_ble_eq_true rfl, Nat.le_of_ble_eq_true rfl⟩ dL_refusal_5 rfl [] ⟨0, 10, 13, 13⟩ [] hT (fun z hz => absurd hz List.not_mem_nil) rfl (by decide) clL_13 (nw_use casI hE.2.1) (fun q => ?_)
  refine GV.astore (lv' := [(4, .ref q), (0, .ref d), (1, .int p0), (2, .int p1), (3, .ref o)]) F dL_refusal_13 hl (by decide) rfl (fun ls hl => ?_)
  refine GV.iconst (v := nI 1) F dL_refusal_15 (by decide) ?_
  exact GV.iret F hr hk rfl rfl (Nat.le_of_ble_eq_true rfl) (Nat.le_of_ble_eq_true rfl) dL_refusal_16
theorem wd_L_soonest : Cond.codeWith yL_soonest cL_soonest 5 (some .int) [(0, 10, 13, 13)] ∈ LW := LW_mk 849 (by decide +kernel) rfl
set_option maxHeartbeats 4000000 in
set_option maxRecDepth 100000 in
theorem w_L_soonest (l : Launch) (E : EV) {d o : Nat} {f : Nat → Int64} {p0 p1 : Int32} {fs : List Value} {wc wb : va_W} {v : Int32} (hM : Rd l E yX6_soonest cX6_soonest 3 (some .int) 7 105 [.ref d, .int p0, .int p1] ((d, .inr (6, fs)) :: wc) (some (.int v))) : Gx l E yL_soonest cL_soonest 5 [(0, 10, 13, 13)] 8 127 [.ref d, .int p0, .int p1, .ref o] (rl_ E o 1 f :: (((d, .inr (6, fs)) :: wc) ++ wb)) (rl_ E o 1 (vp_updL f 0 v.toInt64) :: (((d, .inr (6, fs)) :: wc) ++ wb)) (nI 0) := by
  refine Gx.mk0 (by decide) (Nat.le_of_ble_eq_true rfl) ?_
  intro pP eE sS mM aA bB mt cC A F hr hk hT hE ls hl
  have hl : lv_has ls 5 [(0, .ref d), (1, .int p0), (2, .int p1), (3, .ref o)] := hl
  refine GV.aload_n F dL_soonest_0 rfl (lv_at hl 3 rfl) ?_
  refine GV.iconst (v := nI 0) F dL_soonest_1 (by decide) ?_
  refine GV.aload_n F dL_soonest_2 rfl (lv_at hl 0 rfl) ?_
  refine GV.iload_n F dL_soonest_3 rfl (lv_at hl 1 rfl) ?_
  refine GV.iload_n F dL_soonest_4 rfl (lv_at hl 2 rfl) ?_
  refine GV.rdV (q0 := 1) (wa := [rl_ E o 1 f]) (wb := wb) F hE hM (kL_67 F.2.2.2.2 ⟨Nat.le_of_ble_eq_true rfl, Nat.le_of_ble_eq_true rfl⟩) rfl rfl rfl rfl hl.1 (Nat.le_of_ble_eq_true rfl) ⟨Nat.zero_le _, Nat.zero_le _⟩ dL_soonest_5 rfl ?_
  refine GV.i2l F dL_soonest_8 ?_
  refine GV.last F hE 0 rfl (by decide) (by decide) dL_soonest_9 rfl ?_
  refine GV.goto (tgt := 17) F dL_soonest_10 (by decide) ?_
  refine GV.iconst (v := nI 0) F dL_soonest_17 (by decide) ?_
  exact GV.iret F hr hk rfl rfl (Nat.zero_le _) (Nat.zero_le _) dL_soonest_18
set_option maxHeartbeats 4000000 in
set_option maxRecDepth 100000 in
theorem w_L_soonest_e1 (l : Launch) (E : EV) {d o : Nat} {f : Nat → Int64} {p0 p1 : Int32} {fs : List Value} {wc wb : va_W} (hM : Th l E yX6_soonest cX6_soonest 3 (some .int) 7 105 [.ref d, .int p0, .int p1] ((d, .inr (6, fs)) :: wc) xI) : Gx l E yL_soonest cL_soonest 5 [(0, 10, 13, 13)] 8 127 [.ref d, .int p0, .int p1, .ref o] (rl_ E o 1 f :: (((d, .inr (6, fs)) :: wc) ++ wb)) (rl_ E o 1 f :: (((d, .inr (6, fs)) :: wc) ++ wb)) (nI 1) := by
  refine Gx.mk0 (by decide) (Nat.le_of_ble_eq_true rfl) ?_
  intro pP eE sS mM aA bB mt cC A F hr hk hT hE ls hl
  have hl : lv_has ls 5 [(0, .ref d), (1, .int p0), (2, .int p1), (3, .ref o)] := hl
  refine GV.aload_n F dL_soonest_0 rfl (lv_at hl 3 rfl) ?_
  refine GV.iconst (v := nI 0) F dL_soonest_1 (by decide) ?_
  refine GV.aload_n F dL_soonest_2 rfl (lv_at hl 0 rfl) ?_
  refine GV.iload_n F dL_soonest_3 rfl (lv_at hl 1 rfl) ?_
  refine GV.iload_n F dL_soonest_4 rfl (lv_at hl 2 rfl) ?_
  refine GV.thr (q0 := 1) (wa := [rl_ E o 1 f]) (wb := wb) (name := xI) F hE hM (kL_67 F.2.2.2.2 ⟨Nat.le_of_ble_eq_true rfl, Nat.le_of_ble_eq_true rfl⟩) rfl rfl rfl rfl hl.1 (Nat.le_of_ble_eq_true rfl) ⟨Nat.le_of_ble_eq_true rfl, Nat.le_of_ble_eq_true rfl⟩ dL_soonest_5 rfl [] ⟨0, 10, 13, 13⟩ [] hT (fun z hz => absurd hz List.not_mem_nil) rfl (by decide) clL_13 (nw_use casI hE.2.1) (fun q => ?_)
  refine GV.astore (lv' := [(4, .ref q), (0, .ref d), (1, .int p0), (2, .int p1), (3, .ref o)]) F dL_soonest_13 hl (by decide) rfl (fun ls hl => ?_)
  refine GV.iconst (v := nI 1) F dL_soonest_15 (by decide) ?_
  exact GV.iret F hr hk rfl rfl (Nat.le_of_ble_eq_true rfl) (Nat.le_of_ble_eq_true rfl) dL_soonest_16
theorem wd_L_lacking : Cond.codeWith yL_lacking cL_lacking 5 (some .int) [(0, 10, 13, 13)] ∈ LW := LW_mk 856 (by decide +kernel) rfl
set_option maxHeartbeats 4000000 in
set_option maxRecDepth 100000 in
theorem w_L_lacking (l : Launch) (E : EV) {d o : Nat} {f : Nat → Int64} {p0 p1 : Int32} {fs : List Value} {wc wb : va_W} {v : Int32} (hM : Rd l E yX6_lacking cX6_lacking 3 (some .int) 7 105 [.ref d, .int p0, .int p1] ((d, .inr (6, fs)) :: wc) (some (.int v))) : Gx l E yL_lacking cL_lacking 5 [(0, 10, 13, 13)] 8 127 [.ref d, .int p0, .int p1, .ref o] (rl_ E o 1 f :: (((d, .inr (6, fs)) :: wc) ++ wb)) (rl_ E o 1 (vp_updL f 0 v.toInt64) :: (((d, .inr (6, fs)) :: wc) ++ wb)) (nI 0) := by
  refine Gx.mk0 (by decide) (Nat.le_of_ble_eq_true rfl) ?_
  intro pP eE sS mM aA bB mt cC A F hr hk hT hE ls hl
  have hl : lv_has ls 5 [(0, .ref d), (1, .int p0), (2, .int p1), (3, .ref o)] := hl
  refine GV.aload_n F dL_lacking_0 rfl (lv_at hl 3 rfl) ?_
  refine GV.iconst (v := nI 0) F dL_lacking_1 (by decide) ?_
  refine GV.aload_n F dL_lacking_2 rfl (lv_at hl 0 rfl) ?_
  refine GV.iload_n F dL_lacking_3 rfl (lv_at hl 1 rfl) ?_
  refine GV.iload_n F dL_lacking_4 rfl (lv_at hl 2 rfl) ?_
  refine GV.rdV (q0 := 1) (wa := [rl_ E o 1 f]) (wb := wb) F hE hM (kL_70 F.2.2.2.2 ⟨Nat.le_of_ble_eq_true rfl, Nat.le_of_ble_eq_true rfl⟩) rfl rfl rfl rfl hl.1 (Nat.le_of_ble_eq_true rfl) ⟨Nat.zero_le _, Nat.zero_le _⟩ dL_lacking_5 rfl ?_
  refine GV.i2l F dL_lacking_8 ?_
  refine GV.last F hE 0 rfl (by decide) (by decide) dL_lacking_9 rfl ?_
  refine GV.goto (tgt := 17) F dL_lacking_10 (by decide) ?_
  refine GV.iconst (v := nI 0) F dL_lacking_17 (by decide) ?_
  exact GV.iret F hr hk rfl rfl (Nat.zero_le _) (Nat.zero_le _) dL_lacking_18
set_option maxHeartbeats 4000000 in
set_option maxRecDepth 100000 in
theorem w_L_lacking_e1 (l : Launch) (E : EV) {d o : Nat} {f : Nat → Int64} {p0 p1 : Int32} {fs : List Value} {wc wb : va_W} (hM : Th l E yX6_lacking cX6_lacking 3 (some .int) 7 105 [.ref d, .int p0, .int p1] ((d, .inr (6, fs)) :: wc) xI) : Gx l E yL_lacking cL_lacking 5 [(0, 10, 13, 13)] 8 127 [.ref d, .int p0, .int p1, .ref o] (rl_ E o 1 f :: (((d, .inr (6, fs)) :: wc) ++ wb)) (rl_ E o 1 f :: (((d, .inr (6, fs)) :: wc) ++ wb)) (nI 1) := by
  refine Gx.mk0 (by decide) (Nat.le_of_ble_eq_true rfl) ?_
  intro pP eE sS mM aA bB mt cC A F hr hk hT hE ls hl
  have hl : lv_has ls 5 [(0, .ref d), (1, .int p0), (2, .int p1), (3, .ref o)] := hl
  refine GV.aload_n F dL_lacking_0 rfl (lv_at hl 3 rfl) ?_
  refine GV.iconst (v := nI 0) F dL_lacking_1 (by decide) ?_
  refine GV.aload_n F dL_lacking_2 rfl (lv_at hl 0 rfl) ?_
  refine GV.iload_n F dL_lacking_3 rfl (lv_at hl 1 rfl) ?_
  refine GV.iload_n F dL_lacking_4 rfl (lv_at hl 2 rfl) ?_
  refine GV.thr (q0 := 1) (wa := [rl_ E o 1 f]) (wb := wb) (name := xI) F hE hM (kL_70 F.2.2.2.2 ⟨Nat.le_of_ble_eq_true rfl, Nat.le_of_ble_eq_true rfl⟩) rfl rfl rfl rfl hl.1 (Nat.le_of_ble_eq_true rfl) ⟨Nat.le_of_ble_eq_true rfl, Nat.le_of_ble_eq_true rfl⟩ dL_lacking_5 rfl [] ⟨0, 10, 13, 13⟩ [] hT (fun z hz => absurd hz List.not_mem_nil) rfl (by decide) clL_13 (nw_use casI hE.2.1) (fun q => ?_)
  refine GV.astore (lv' := [(4, .ref q), (0, .ref d), (1, .int p0), (2, .int p1), (3, .ref o)]) F dL_lacking_13 hl (by decide) rfl (fun ls hl => ?_)
  refine GV.iconst (v := nI 1) F dL_lacking_15 (by decide) ?_
  exact GV.iret F hr hk rfl rfl (Nat.le_of_ble_eq_true rfl) (Nat.le_of_ble_eq_true rfl) dL_lacking_16
theorem wd_L_best : Cond.codeWith yL_best cL_best 4 (some .int) [(0, 9, 12, 13)] ∈ LW := LW_mk 863 (by decide +kernel) rfl
set_option maxHeartbeats 4000000 in
set_option maxRecDepth 100000 in
theorem w_L_best (l : Launch) (E : EV) {d o : Nat} {f : Nat → Int64} {p0 : Int32} {fs : List Value} {wc wb : va_W} {v : Int32} (hM : Rd l E yX6_best cX6_best 2 (some .int) 7 120 [.ref d, .int p0] ((d, .inr (6, fs)) :: wc) (some (.int v))) : Gx l E yL_best cL_best 4 [(0, 9, 12, 13)] 8 141 [.ref d, .int p0, .ref o] (rl_ E o 1 f :: (((d, .inr (6, fs)) :: wc) ++ wb)) (rl_ E o 1 (vp_updL f 0 v.toInt64) :: (((d, .inr (6, fs)) :: wc) ++ wb)) (nI 0) := by
  refine Gx.mk0 (by decide) (Nat.le_of_ble_eq_true rfl) ?_
  intro pP eE sS mM aA bB mt cC A F hr hk hT hE ls hl
  have hl : lv_has ls 4 [(0, .ref d), (1, .int p0), (2, .ref o)] := hl
  refine GV.aload_n F dL_best_0 rfl (lv_at hl 2 rfl) ?_
  refine GV.iconst (v := nI 0) F dL_best_1 (by decide) ?_
  refine GV.aload_n F dL_best_2 rfl (lv_at hl 0 rfl) ?_
  refine GV.iload_n F dL_best_3 rfl (lv_at hl 1 rfl) ?_
  refine GV.rdV (q0 := 1) (wa := [rl_ E o 1 f]) (wb := wb) F hE hM (kL_73 F.2.2.2.2 ⟨Nat.le_of_ble_eq_true rfl, Nat.le_of_ble_eq_true rfl⟩) rfl rfl rfl rfl hl.1 (Nat.le_of_ble_eq_true rfl) ⟨Nat.zero_le _, Nat.zero_le _⟩ dL_best_4 rfl ?_
  refine GV.i2l F dL_best_7 ?_
  refine GV.last F hE 0 rfl (by decide) (by decide) dL_best_8 rfl ?_
  refine GV.goto (tgt := 15) F dL_best_9 (by decide) ?_
  refine GV.iconst (v := nI 0) F dL_best_15 (by decide) ?_
  exact GV.iret F hr hk rfl rfl (Nat.zero_le _) (Nat.zero_le _) dL_best_16
set_option maxHeartbeats 4000000 in
set_option maxRecDepth 100000 in
theorem w_L_best_e1 (l : Launch) (E : EV) {d o : Nat} {f : Nat → Int64} {p0 : Int32} {fs : List Value} {wc wb : va_W} (hM : Th l E yX6_best cX6_best 2 (some .int) 7 120 [.ref d, .int p0] ((d, .inr (6, fs)) :: wc) xI) : Gx l E yL_best cL_best 4 [(0, 9, 12, 13)] 8 141 [.ref d, .int p0, .ref o] (rl_ E o 1 f :: (((d, .inr (6, fs)) :: wc) ++ wb)) (rl_ E o 1 f :: (((d, .inr (6, fs)) :: wc) ++ wb)) (nI 1) := by
  refine Gx.mk0 (by decide) (Nat.le_of_ble_eq_true rfl) ?_
  intro pP eE sS mM aA bB mt cC A F hr hk hT hE ls hl
  have hl : lv_has ls 4 [(0, .ref d), (1, .int p0), (2, .ref o)] := hl
  refine GV.aload_n F dL_best_0 rfl (lv_at hl 2 rfl) ?_
  refine GV.iconst (v := nI 0) F dL_best_1 (by decide) ?_
  refine GV.aload_n F dL_best_2 rfl (lv_at hl 0 rfl) ?_
  refine GV.iload_n F dL_best_3 rfl (lv_at hl 1 rfl) ?_
  refine GV.thr (q0 := 1) (wa := [rl_ E o 1 f]) (wb := wb) (name := xI) F hE hM (kL_73 F.2.2.2.2 ⟨Nat.le_of_ble_eq_true rfl, Nat.le_of_ble_eq_true rfl⟩) rfl rfl rfl rfl hl.1 (Nat.le_of_ble_eq_true rfl) ⟨Nat.le_of_ble_eq_true rfl, Nat.le_of_ble_eq_true rfl⟩ dL_best_4 rfl [] ⟨0, 9, 12, 13⟩ [] hT (fun z hz => absurd hz List.not_mem_nil) rfl (by decide) clL_13 (nw_use casI hE.2.1) (fun q => ?_)
  refine GV.astore_n (lv' := [(3, .ref q), (0, .ref d), (1, .int p0), (2, .ref o)]) F dL_best_12 rfl hl (by decide) rfl (fun ls hl => ?_)
  refine GV.iconst (v := nI 1) F dL_best_13 (by decide) ?_
  exact GV.iret F hr hk rfl rfl (Nat.le_of_ble_eq_true rfl) (Nat.le_of_ble_eq_true rfl) dL_best_14
theorem wd_L_cost : Cond.codeWith yL_cost cL_cost 5 (some .int) [(0, 10, 13, 15)] ∈ LW := LW_mk 870 (by decide +kernel) rfl
set_option maxHeartbeats 4000000 in
set_option maxRecDepth 100000 in
theorem w_L_cost (l : Launch) (E : EV) {d o : Nat} {f : Nat → Int64} {p0 p1 : Int32} {fs : List Value} {wc wb : va_W} {v : Int32} (hM : Rd l E yX6_cost cX6_cost 3 (some .int) 7 104 [.ref d, .int p0, .int p1] ((d, .inr (6, fs)) :: wc) (some (.int v))) : Gx l E yL_cost cL_cost 5 [(0, 10, 13, 15)] 8 126 [.ref d, .int p0, .int p1, .ref o] (rl_ E o 1 f :: (((d, .inr (6, fs)) :: wc) ++ wb)) (rl_ E o 1 (vp_updL f 0 v.toInt64) :: (((d, .inr (6, fs)) :: wc) ++ wb)) (nI 0) := by
  refine Gx.mk0 (by decide) (Nat.le_of_ble_eq_true rfl) ?_
  intro pP eE sS mM aA bB mt cC A F hr hk hT hE ls hl
  have hl : lv_has ls 5 [(0, .ref d), (1, .int p0), (2, .int p1), (3, .ref o)] := hl
  refine GV.aload_n F dL_cost_0 rfl (lv_at hl 3 rfl) ?_
  refine GV.iconst (v := nI 0) F dL_cost_1 (by decide) ?_
  refine GV.aload_n F dL_cost_2 rfl (lv_at hl 0 rfl) ?_
  refine GV.iload_n F dL_cost_3 rfl (lv_at hl 1 rfl) ?_
  refine GV.iload_n F dL_cost_4 rfl (lv_at hl 2 rfl) ?_
  refine GV.rdV (q0 := 1) (wa := [rl_ E o 1 f]) (wb := wb) F hE hM (kL_76 F.2.2.2.2 ⟨Nat.le_of_ble_eq_true rfl, Nat.le_of_ble_eq_true rfl⟩) rfl rfl rfl rfl hl.1 (Nat.le_of_ble_eq_true rfl) ⟨Nat.zero_le _, Nat.zero_le _⟩ dL_cost_5 rfl ?_
  refine GV.i2l F dL_cost_8 ?_
  refine GV.last F hE 0 rfl (by decide) (by decide) dL_cost_9 rfl ?_
  refine GV.goto (tgt := 17) F dL_cost_10 (by decide) ?_
  refine GV.iconst (v := nI 0) F dL_cost_17 (by decide) ?_
  exact GV.iret F hr hk rfl rfl (Nat.zero_le _) (Nat.zero_le _) dL_cost_18
set_option maxHeartbeats 4000000 in
set_option maxRecDepth 100000 in
theorem w_L_cost_e1 (l : Launch) (E : EV) {d o : Nat} {f : Nat → Int64} {p0 p1 : Int32} {fs : List Value} {wc wb : va_W} (hM : Th l E yX6_cost cX6_cost 3 (some .int) 7 104 [.ref d, .int p0, .int p1] ((d, .inr (6, fs)) :: wc) xA) : Gx l E yL_cost cL_cost 5 [(0, 10, 13, 15)] 8 126 [.ref d, .int p0, .int p1, .ref o] (rl_ E o 1 f :: (((d, .inr (6, fs)) :: wc) ++ wb)) (rl_ E o 1 f :: (((d, .inr (6, fs)) :: wc) ++ wb)) (nI 1) := by
  refine Gx.mk0 (by decide) (Nat.le_of_ble_eq_true rfl) ?_
  intro pP eE sS mM aA bB mt cC A F hr hk hT hE ls hl
  have hl : lv_has ls 5 [(0, .ref d), (1, .int p0), (2, .int p1), (3, .ref o)] := hl
  refine GV.aload_n F dL_cost_0 rfl (lv_at hl 3 rfl) ?_
  refine GV.iconst (v := nI 0) F dL_cost_1 (by decide) ?_
  refine GV.aload_n F dL_cost_2 rfl (lv_at hl 0 rfl) ?_
  refine GV.iload_n F dL_cost_3 rfl (lv_at hl 1 rfl) ?_
  refine GV.iload_n F dL_cost_4 rfl (lv_at hl 2 rfl) ?_
  refine GV.thr (q0 := 1) (wa := [rl_ E o 1 f]) (wb := wb) (name := xA) F hE hM (kL_76 F.2.2.2.2 ⟨Nat.le_of_ble_eq_true rfl, Nat.le_of_ble_eq_true rfl⟩) rfl rfl rfl rfl hl.1 (Nat.le_of_ble_eq_true rfl) ⟨Nat.le_of_ble_eq_true rfl, Nat.le_of_ble_eq_true rfl⟩ dL_cost_5 rfl [] ⟨0, 10, 13, 15⟩ [] hT (fun z hz => absurd hz List.not_mem_nil) rfl (by decide) clL_15 (nw_use casA hE.2.1) (fun q => ?_)
  refine GV.astore (lv' := [(4, .ref q), (0, .ref d), (1, .int p0), (2, .int p1), (3, .ref o)]) F dL_cost_13 hl (by decide) rfl (fun ls hl => ?_)
  refine GV.iconst (v := nI 1) F dL_cost_15 (by decide) ?_
  exact GV.iret F hr hk rfl rfl (Nat.le_of_ble_eq_true rfl) (Nat.le_of_ble_eq_true rfl) dL_cost_16
theorem wd_L_ifHurt : Cond.codeWith yL_ifHurt cL_ifHurt 5 (some .int) [(0, 10, 13, 13), (0, 10, 17, 15)] ∈ LW := LW_mk 877 (by decide +kernel) rfl
set_option maxHeartbeats 4000000 in
set_option maxRecDepth 100000 in
theorem w_L_ifHurt (l : Launch) (E : EV) {d o : Nat} {f : Nat → Int64} {p0 p1 : Int32} {fs : List Value} {wc wb : va_W} {v : Int32} (hM : Rd l E yX6_ifHurt cX6_ifHurt 3 (some .int) 7 121 [.ref d, .int p0, .int p1] ((d, .inr (6, fs)) :: wc) (some (.int v))) : Gx l E yL_ifHurt cL_ifHurt 5 [(0, 10, 13, 13), (0, 10, 17, 15)] 8 143 [.ref d, .int p0, .int p1, .ref o] (rl_ E o 1 f :: (((d, .inr (6, fs)) :: wc) ++ wb)) (rl_ E o 1 (vp_updL f 0 v.toInt64) :: (((d, .inr (6, fs)) :: wc) ++ wb)) (nI 0) := by
  refine Gx.mk0 (by decide) (Nat.le_of_ble_eq_true rfl) ?_
  intro pP eE sS mM aA bB mt cC A F hr hk hT hE ls hl
  have hl : lv_has ls 5 [(0, .ref d), (1, .int p0), (2, .int p1), (3, .ref o)] := hl
  refine GV.aload_n F dL_ifHurt_0 rfl (lv_at hl 3 rfl) ?_
  refine GV.iconst (v := nI 0) F dL_ifHurt_1 (by decide) ?_
  refine GV.aload_n F dL_ifHurt_2 rfl (lv_at hl 0 rfl) ?_
  refine GV.iload_n F dL_ifHurt_3 rfl (lv_at hl 1 rfl) ?_
  refine GV.iload_n F dL_ifHurt_4 rfl (lv_at hl 2 rfl) ?_
  refine GV.rdV (q0 := 1) (wa := [rl_ E o 1 f]) (wb := wb) F hE hM (kL_79 F.2.2.2.2 ⟨Nat.le_of_ble_eq_true rfl, Nat.le_of_ble_eq_true rfl⟩) rfl rfl rfl rfl hl.1 (Nat.le_of_ble_eq_true rfl) ⟨Nat.zero_le _, Nat.zero_le _⟩ dL_ifHurt_5 rfl ?_
  refine GV.i2l F dL_ifHurt_8 ?_
  refine GV.last F hE 0 rfl (by decide) (by decide) dL_ifHurt_9 rfl ?_
  refine GV.goto (tgt := 21) F dL_ifHurt_10 (by decide) ?_
  refine GV.iconst (v := nI 0) F dL_ifHurt_21 (by decide) ?_
  exact GV.iret F hr hk rfl rfl (Nat.zero_le _) (Nat.zero_le _) dL_ifHurt_22
set_option maxHeartbeats 4000000 in
set_option maxRecDepth 100000 in
theorem w_L_ifHurt_e1 (l : Launch) (E : EV) {d o : Nat} {f : Nat → Int64} {p0 p1 : Int32} {fs : List Value} {wc wb : va_W} (hM : Th l E yX6_ifHurt cX6_ifHurt 3 (some .int) 7 121 [.ref d, .int p0, .int p1] ((d, .inr (6, fs)) :: wc) xI) : Gx l E yL_ifHurt cL_ifHurt 5 [(0, 10, 13, 13), (0, 10, 17, 15)] 8 143 [.ref d, .int p0, .int p1, .ref o] (rl_ E o 1 f :: (((d, .inr (6, fs)) :: wc) ++ wb)) (rl_ E o 1 f :: (((d, .inr (6, fs)) :: wc) ++ wb)) (nI 1) := by
  refine Gx.mk0 (by decide) (Nat.le_of_ble_eq_true rfl) ?_
  intro pP eE sS mM aA bB mt cC A F hr hk hT hE ls hl
  have hl : lv_has ls 5 [(0, .ref d), (1, .int p0), (2, .int p1), (3, .ref o)] := hl
  refine GV.aload_n F dL_ifHurt_0 rfl (lv_at hl 3 rfl) ?_
  refine GV.iconst (v := nI 0) F dL_ifHurt_1 (by decide) ?_
  refine GV.aload_n F dL_ifHurt_2 rfl (lv_at hl 0 rfl) ?_
  refine GV.iload_n F dL_ifHurt_3 rfl (lv_at hl 1 rfl) ?_
  refine GV.iload_n F dL_ifHurt_4 rfl (lv_at hl 2 rfl) ?_
  refine GV.thr (q0 := 1) (wa := [rl_ E o 1 f]) (wb := wb) (name := xI) F hE hM (kL_79 F.2.2.2.2 ⟨Nat.le_of_ble_eq_true rfl, Nat.le_of_ble_eq_true rfl⟩) rfl rfl rfl rfl hl.1 (Nat.le_of_ble_eq_true rfl) ⟨Nat.le_of_ble_eq_true rfl, Nat.le_of_ble_eq_true rfl⟩ dL_ifHurt_5 rfl [] ⟨0, 10, 13, 13⟩ [⟨0, 10, 17, 15⟩] hT (fun z hz => absurd hz List.not_mem_nil) rfl (by decide) clL_13 (nw_use casI hE.2.1) (fun q => ?_)
  refine GV.astore (lv' := [(4, .ref q), (0, .ref d), (1, .int p0), (2, .int p1), (3, .ref o)]) F dL_ifHurt_13 hl (by decide) rfl (fun ls hl => ?_)
  refine GV.iconst (v := nI 1) F dL_ifHurt_15 (by decide) ?_
  exact GV.iret F hr hk rfl rfl (Nat.le_of_ble_eq_true rfl) (Nat.le_of_ble_eq_true rfl) dL_ifHurt_16
set_option maxHeartbeats 4000000 in
set_option maxRecDepth 100000 in
theorem w_L_ifHurt_e2 (l : Launch) (E : EV) {d o : Nat} {f : Nat → Int64} {p0 p1 : Int32} {fs : List Value} {wc wb : va_W} (hM : Th l E yX6_ifHurt cX6_ifHurt 3 (some .int) 7 121 [.ref d, .int p0, .int p1] ((d, .inr (6, fs)) :: wc) xA) : Gx l E yL_ifHurt cL_ifHurt 5 [(0, 10, 13, 13), (0, 10, 17, 15)] 8 143 [.ref d, .int p0, .int p1, .ref o] (rl_ E o 1 f :: (((d, .inr (6, fs)) :: wc) ++ wb)) (rl_ E o 1 f :: (((d, .inr (6, fs)) :: wc) ++ wb)) (nI 2) := by
  refine Gx.mk0 (by decide) (Nat.le_of_ble_eq_true rfl) ?_
  intro pP eE sS mM aA bB mt cC A F hr hk hT hE ls hl
  have hl : lv_has ls 5 [(0, .ref d), (1, .int p0), (2, .int p1), (3, .ref o)] := hl
  refine GV.aload_n F dL_ifHurt_0 rfl (lv_at hl 3 rfl) ?_
  refine GV.iconst (v := nI 0) F dL_ifHurt_1 (by decide) ?_
  refine GV.aload_n F dL_ifHurt_2 rfl (lv_at hl 0 rfl) ?_
  refine GV.iload_n F dL_ifHurt_3 rfl (lv_at hl 1 rfl) ?_
  refine GV.iload_n F dL_ifHurt_4 rfl (lv_at hl 2 rfl) ?_
  refine GV.thr (q0 := 1) (wa := [rl_ E o 1 f]) (wb := wb) (name := xA) F hE hM (kL_79 F.2.2.2.2 ⟨Nat.le_of_ble_eq_true rfl, Nat.le_of_ble_eq_true rfl⟩) rfl rfl rfl rfl hl.1 (Nat.le_of_ble_eq_true rfl) ⟨Nat.le_of_ble_eq_true rfl, Nat.le_of_ble_eq_true rfl⟩ dL_ifHurt_5 rfl [⟨0, 10, 13, 13⟩] ⟨0, 10, 17, 15⟩ [] hT (List.forall_mem_cons.mpr ⟨⟨by decide, xI, clL_13, hE.2.2.2.2.1.2.2.1⟩, fun _ h => absurd h List.not_mem_nil⟩) rfl (by decide) clL_15 (nw_use casA hE.2.1) (fun q => ?_)
  refine GV.astore (lv' := [(4, .ref q), (0, .ref d), (1, .int p0), (2, .int p1), (3, .ref o)]) F dL_ifHurt_17 hl (by decide) rfl (fun ls hl => ?_)
  refine GV.iconst (v := nI 2) F dL_ifHurt_19 (by decide) ?_
  exact GV.iret F hr hk rfl rfl (Nat.le_of_ble_eq_true rfl) (Nat.le_of_ble_eq_true rfl) dL_ifHurt_20
