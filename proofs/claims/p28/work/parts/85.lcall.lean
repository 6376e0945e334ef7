section GVy
variable {p : Program} {l : Launch} {e : Env} {R : Room} {s : State} {m : MethodId} {args : Array Value} {below : List Frame} {meth : Method} {c : Code} {E : EV} {A : Nat → Prop} {Q : State → Prop} {ws : va_W} {k n : Nat}
variable {cc : ByteArray} {nL : Nat} {own : String} {pc : Nat} {ls : Array Slot} {st : List Value} {g g2 : JFrame}
theorem GV.wrS (F : CallFix p m c cc nL s args LW own) (hE : CE E A s s.heap) {index : Nat} {y : MethodName} {bytes : ByteArray} {maxL n0 fr lo : Nat} {ret : Option FieldType} {v : Value} {As rest st0 : List Value} {wa wc wc' wb : va_W} (hM : Wr l E y bytes maxL ret fr lo As wc wc' (some v)) (hp : (ads wc').Perm (ads wc)) (cw : CallB R s args own index y bytes maxL ret (Cond.code y bytes maxL ret :: LW) (rmk fr 0 0 lo) 0 0 n0 ∧ (Cond.static y).before args s = true) (hw : ws = wa ++ (wc ++ wb)) (hn : As.length = n0) (hsz : ls.size = nL) (hroom : (rest.map fun v => v.category).sum ≤ 8) (hkn : k ≤ R.cells ∧ n ≤ R.slots) (hd : decode cc pc = .ok (.invokestatic index, 3)) (hst : st0 = As.reverse ++ rest) (kk : GV p l e R s m args below meth c E A Q (wa ++ (wc' ++ wb)) k n (F0 m (pc + 3) ls (v :: rest))) : GV p l e R s m args below meth c E A Q ws k n (F0 m pc ls st0) := by
  intro H locs hP hD hS
  subst hst
  subst hw
  have hPc := P_mid hP
  have hDc := D_mid hD
  have hcA : ∀ q, q ∈ ads wc → A q := fun q h => by
    obtain ⟨x, hx, rfl⟩ := List.mem_map.mp h
    exact D_in hDc x hx
  have hr : va_Run p l e R s m args below meth c H locs k n 0 0 (F0 m pc ls (As.reverse ++ rest)) rest (WQ E wc wc' (some v) As.toArray) (fun q => q ∈ ads wc) := va_runS (As := As) (rest := rest) F hM cw ⟨PW.blind, fun U hU hW => ⟨rfl, by rw [hU]; exact hPc, nodup_of_D hDc, by rw [hU]; exact hE.tr hW (fun q h1 h2 => hS.2.1 q h1 h2) hcA⟩⟩ rfl hn hsz rfl (lv_room hroom) hd ⟨by omega, by omega⟩
  intro T hT X
  obtain ⟨v', st₀, t, T', L, h0, X', hL, e1, e2, ⟨hv, hp', hz', ho'⟩, stp⟩ := hr T hT X
  cases hv
  rw [h0] at hz' ho'
  have hF : ∀ q, va_A wc H.size q → q ∈ ads wc ∨ H.size ≤ q := fun q h => by
    rcases h with ⟨j, e, h⟩ | h
    · exact Or.inl (List.mem_map.mpr ⟨_, List.mem_of_getElem? h, rfl⟩)
    · exact Or.inr h
  have hA2 : ∀ q, va_A wc H.size q → (A q ∨ H.size ≤ q) := fun q h => (hF q h).imp (hcA q) id
  have hN2 : (ads wc').Nodup := hp.nodup_iff.mpr (nodup_of_D hDc)
  obtain ⟨P1, D1⟩ := join3 (A0 := fun q => A q ∨ H.size ≤ q) (w1 := wc') (H1 := T'.heap) hP (hD.weaken (fun _ _ _ h => Or.inl h)) (fun q h1 h2 => by rw [e1]; exact ho' q (fun h => h2 (by obtain ⟨x, hx, rfl⟩ := List.mem_map.mp h; obtain ⟨j, hj⟩ := List.getElem?_of_mem hx; exact Or.inl ⟨j, x.2, hj⟩))) hA2 (by rw [e1]; exact hp') (D_of hN2 fun x hx => by
    have h := hp.mem_iff.mp (List.mem_map.mpr ⟨x, hx, rfl⟩)
    obtain ⟨y, hy, e⟩ := List.mem_map.mp h
    obtain ⟨j, hj⟩ := List.getElem?_of_mem hy
    exact Or.inl ⟨j, y.2, by rw [hj, ← e]⟩)
  have D2 : va_D A (wa ++ (wc' ++ wb)) := D_of (nodup_of_D D1) fun x hx => by
    rcases List.mem_append.mp hx with h | h
    · exact D_in hD x (List.mem_append_left _ h)
    · rcases List.mem_append.mp h with h | h
      · exact hcA _ (hp.mem_iff.mp (List.mem_map.mpr ⟨x, h, rfl⟩))
      · exact D_in hD x (List.mem_append_right _ (List.mem_append_right _ h))
  obtain ⟨t2, a1, b1⟩ := kk T'.heap (locs ++ L) P1 D2 ⟨by rw [e1, hz']; exact hS.1, fun q h1 h2 => by rw [e1, ho' q (fun h => h2 (hcA q h))]; exact hS.2.1 q h1 h2, fun z hz => (List.mem_append.mp hz).elim (hS.2.2 z) (fun h => hcA _ (hL z h))⟩ T' rfl X'
  exact ⟨t2, stp t2 a1, b1⟩
theorem GV.rdS (F : CallFix p m c cc nL s args LW own) (hE : CE E A s s.heap) {index : Nat} {y : MethodName} {bytes : ByteArray} {maxL n0 fr lo : Nat} {ret : Option FieldType} {v : Value} {As rest st0 : List Value} {wa wc wb : va_W} (hM : Rd l E y bytes maxL ret fr lo As wc (some v)) (cw : CallB R s args own index y bytes maxL ret (Cond.code y bytes maxL ret :: LW) (rmk fr 0 0 lo) 0 0 n0 ∧ (Cond.static y).before args s = true) (hw : ws = wa ++ (wc ++ wb)) (hn : As.length = n0) (hsz : ls.size = nL) (hroom : (rest.map fun v => v.category).sum ≤ 8) (hkn : k ≤ R.cells ∧ n ≤ R.slots) (hd : decode cc pc = .ok (.invokestatic index, 3)) (hst : st0 = As.reverse ++ rest) (kk : GV p l e R s m args below meth c E A Q ws k n (F0 m (pc + 3) ls (v :: rest))) : GV p l e R s m args below meth c E A Q ws k n (F0 m pc ls st0) := by
  intro H locs hP hD hS
  subst hst
  have hPc : va_P E.1 vwCl wc H := by subst hw; exact P_mid hP
  have hr : va_Run p l e R s m args below meth c H locs k n 0 0 (F0 m pc ls (As.reverse ++ rest)) rest (RQ (some v) As.toArray) (fun _ => False) := va_runS (As := As) (rest := rest) F hM cw ⟨PB.blind, fun U hU hW => ⟨rfl, by rw [hU]; exact hPc, by rw [hU]; exact hE.tr hW (fun q h1 h2 => hS.2.1 q h1 h2) (fun _ h => h.elim)⟩⟩ rfl hn hsz rfl (lv_room hroom) hd ⟨by omega, by omega⟩
  intro T hT X
  obtain ⟨v', st₀, t, T', L, h0, X', hL, e1, e2, ⟨hv, hh⟩, stp⟩ := hr T hT X
  cases hv
  have hLn : L = [] := by
    cases L with
    | nil => rfl
    | cons a _ => exact (hL a List.mem_cons_self).elim
  subst hLn
  rw [List.append_nil] at X'
  obtain ⟨t2, a1, b1⟩ := kk H locs hP hD hS T' (by rw [e1, hh, h0]) X'
  exact ⟨t2, stp t2 a1, b1⟩
def Gy (l : Launch) (E : EV) (y : MethodName) (cc : ByteArray) (maxL : Nat) (ret : Option FieldType) (fr lo : Nat) (av : List Value) (w0 w1 : va_W) (v : Int32) : Prop :=
  ∀ sz, Met l y (Cond.code y cc maxL ret :: LW) (rmk fr 1 6 lo) (va_Pc av (fun U => U.heap.size = sz ∧ va_P E.1 vwCl w0 U.heap ∧ CE E (va_A w0 sz) U U.heap ∧ va_D (fun _ => True) w0)) (va_Qi (fun r (_ : Unit) => r = v) (fun _ t => va_P E.1 vwCl w1 t.heap ∧ va_D (va_A w0 sz) w1) (va_A w0 sz)) 1 6 (va_A w0 sz)
theorem Gy.mk0 {y : MethodName} {maxL fr lo : Nat} {ret : Option FieldType} {av : List Value} {w0 w1 : va_W} {v : Int32} (hy : plainName y.cls = true) (hlen : (lg_sl av).length ≤ maxL)
    (body : ∀ (p : Program) (e : Env) (s : State) (m : MethodId) (args : Array Value) (below : List Frame) (meth : Method) (c : Code) (A : Nat → Prop), CallFix p m c cc maxL s args LW y.cls → meth.sig.returnType = ret → meth.locks = false → CE E A s s.heap → (∀ q, s.heap.size ≤ q → A q) → va_D A w0 → ∀ ls, lv_has ls maxL (lv_args 0 av) → GV p l e (rmk fr 1 6 lo) s m args below meth c E A (MQ below (va_Qi (fun r (_ : Unit) => r = v) (fun _ t => va_P E.1 vwCl w1 t.heap ∧ va_D A w1) A) args s 1 6 A) w0 0 0 (F0 m 0 ls [])) : Gy l E y cc maxL ret fr lo av w0 w1 v := by
  intro sz
  refine Met.ofW (cc := cc) (maxL := maxL) (ret := ret) hy rfl ?_
  intro p e s m args below meth c s₁ B hml hv
  obtain ⟨rfl, hsz, hP, hE, hD0⟩ := hv
  subst hsz
  have hts := atoms_spec (ws := Cond.code y cc maxL ret :: LW) B.pre
  rw [lg_entry_eq]
  exact body p e s m _ below meth c (va_A w0 s.heap.size) ⟨B.exec, B.bytes, hml, findClass_of_methodNamed B.named, fun w h => hts w (List.mem_cons_of_mem _ h)⟩ B.returns B.notSynchronized hE (fun q h => Or.inr h) hD0.self _ (lv_entry av hlen) s.heap [] hP hD0.self va_S.rf
theorem Gy.mkV {y : MethodName} {maxL fr lo : Nat} {ret : Option FieldType} {av : List Value} {w0 w1 : va_W} {v : Int32} (hy : plainName y.cls = true) (hlen : (lg_sl av).length ≤ maxL)
    (body : ∀ (p : Program) (e : Env) (s : State) (m : MethodId) (args : Array Value) (below : List Frame) (meth : Method) (c : Code) (A : Nat → Prop), CallFix p m c cc maxL s args LW y.cls → meth.sig.returnType = ret → meth.locks = false → CE E A s s.heap → CE E (fun q => q ∈ ([] : List Nat)) s s.heap → (∀ q, s.heap.size ≤ q → A q) → va_D A w0 → ∀ ls, lv_has ls maxL (lv_args 0 av) → V p l e (rmk fr 1 6 lo) s m args below meth c E [] (MQ below (va_Qi (fun r (_ : Unit) => r = v) (fun _ t => va_P E.1 vwCl w1 t.heap ∧ va_D A w1) A) args s 1 6 A) w0 (F0 m 0 ls [])) : Gy l E y cc maxL ret fr lo av w0 w1 v := by
  intro sz
  refine Met.ofW (cc := cc) (maxL := maxL) (ret := ret) hy rfl ?_
  intro p e s m args below meth c s₁ B hml hv
  obtain ⟨rfl, hsz, hP, hE, hD0⟩ := hv
  subst hsz
  have hts := atoms_spec (ws := Cond.code y cc maxL ret :: LW) B.pre
  rw [lg_entry_eq]
  exact body p e s m _ below meth c (va_A w0 s.heap.size) ⟨B.exec, B.bytes, hml, findClass_of_methodNamed B.named, fun w h => hts w (List.mem_cons_of_mem _ h)⟩ B.returns B.notSynchronized hE (hE.tr (State.WarmedH.refl s) (fun _ _ _ => rfl) (fun q h => absurd h List.not_mem_nil)) (fun q h => Or.inr h) hD0.self _ (lv_entry av hlen) s.heap [] hP rfl (fun _ _ => rfl) (fun _ h => absurd h List.not_mem_nil)
theorem V.toGV (hD : va_D A ws) (kk : GV p l e R s m args below meth c E A Q ws 0 0 g) : V p l e R s m args below meth c E [] Q ws g := fun H locs hP hz ho hl => kk H locs hP hD ⟨Nat.le_of_eq hz.symm, fun q _ _ => ho q List.not_mem_nil, fun z h => absurd (hl z h) List.not_mem_nil⟩
theorem GV.zret (F : CallFix p m c cc nL s args LW own) (hr : meth.sig.returnType = some .boolean) (hk : meth.locks = false) {w1 : va_W} {v r : Int32} {mc ms : Nat} (hn : narrow .boolean (.int r) = .int r) (hp : r = v) (hw : ws = w1) (h1 : k ≤ mc) (h2 : n ≤ ms) (hd : decode cc pc = .ok (.ireturn, 1)) : GV p l e R s m args below meth c E A (MQ below (va_Qi (fun r (_ : Unit) => r = v) (fun _ t => va_P E.1 vwCl w1 t.heap ∧ va_D A w1) A) args s mc ms A) ws k n (F0 m pc ls [.int r]) := by
  subst hw
  exact fun H locs hP hD hS => W.widen h1 h2 (W.zret F.1 F.2.1 hr hn (fun t ht _ => ⟨⟨r, (), rfl, hp, by rw [ht]; exact hP, hD⟩, hS.F ht⟩) hS.2.2 hd hk)
theorem GV.gy (F : CallFix p m c cc nL s args LW own) (hE : CE E A s s.heap) (hA : ∀ q, s.heap.size ≤ q → A q) {index n0 : Nat} {y : MethodName} {bytes : ByteArray} {maxL fr lo : Nat} {ret : Option FieldType} {v : Int32} {As rest st0 : List Value} {wa wc wc' wb : va_W} (hM : Gy l E y bytes maxL ret fr lo As wc wc' v) (cw : CallB R s args own index y bytes maxL ret (Cond.code y bytes maxL ret :: LW) (rmk fr 1 6 lo) 1 6 n0 ∧ (Cond.static y).before args s = true) (hw : ws = wa ++ (wc ++ wb)) (hn : As.length = n0) (hsz : ls.size = nL) (hroom : (rest.map fun v => v.category).sum ≤ 8) (hkn : k + 1 ≤ R.cells ∧ n + 6 ≤ R.slots) (hd : decode cc pc = .ok (.invokestatic index, 3)) (hst : st0 = As.reverse ++ rest) (kk : GV p l e R s m args below meth c E A Q (wa ++ (wc' ++ wb)) (k + 1) (n + 6) (F0 m (pc + 3) ls (.int v :: rest))) : GV p l e R s m args below meth c E A Q ws k n (F0 m pc ls st0) := by
  intro H locs hP hD hS
  subst hst
  subst hw
  have hPc := P_mid hP
  have hDc := D_mid hD
  have hF : ∀ q, va_A wc H.size q → A q := fun q h => by
    rcases h with ⟨j, e, h⟩ | h
    · exact D_in hDc _ (List.mem_of_getElem? h)
    · exact hA q (Nat.le_trans hS.1 h)
  refine va_calli (va_runS (As := As) (rest := rest) F (hM H.size) cw ⟨fun a U g mk q => ⟨q.1, q.2.1, q.2.2.1, q.2.2.2.1.same rfl, q.2.2.2.2⟩, fun U hU hW => ⟨rfl, by rw [hU], by rw [hU]; exact hPc, by rw [hU]; exact hE.tr hW (fun q h1 h2 => hS.2.1 q h1 h2) hF, hDc.weaken (fun _ _ _ _ => trivial)⟩⟩ rfl hn hsz rfl (lv_room hroom) hd hkn) hS (fun q _ h => hF q h) hF (fun r u t H1 locs1 ht hvm hp hB hz1 hk1 hS1 => ?_)
  subst hp
  obtain ⟨hP1, hD1⟩ := hB
  rw [ht] at hP1
  obtain ⟨P1, D1⟩ := join3 hP hD hk1 hF hP1 hD1
  exact kk H1 locs1 P1 D1 hS1
end GVy
set_option maxHeartbeats 4000000 in
set_option maxRecDepth 100000 in
theorem w_L_size (l : Launch) (E : EV) {d : Nat} {p0 p1 : Int32} {fs fs' : List Value} {wc wc' : va_W} {v : Int32} (hM : Wr l E yX6_size cX6_size 3 (some .int) 7 104 [.ref d, .int p0, .int p1] ((d, .inr (6, fs)) :: wc) ((d, .inr (6, fs')) :: wc') (some (.int v))) (hp : (ads ((d, .inr (6, fs')) :: wc')).Perm (ads ((d, .inr (6, fs)) :: wc))) : Gx l E yL_size cL_size 4 [(0, 6, 7, 16), (0, 6, 11, 18)] 8 126 [.ref d, .int p0, .int p1] ((d, .inr (6, fs)) :: wc) ((d, .inr (6, fs')) :: wc') v := by
  refine Gx.mk0 (by decide) (Nat.le_of_ble_eq_true rfl) ?_
  intro pP eE sS mM aA bB mt cC A F hr hk hT hE ls hl
  have hl : lv_has ls 4 [(0, .ref d), (1, .int p0), (2, .int p1)] := hl
  refine GV.aload_n F dL_size_0 rfl (lv_at hl 0 rfl) ?_
  refine GV.iload_n F dL_size_1 rfl (lv_at hl 1 rfl) ?_
  refine GV.iload_n F dL_size_2 rfl (lv_at hl 2 rfl) ?_
  refine GV.wrV (q0 := 0) (wa := []) (wb := []) F hE hM hp (kL_10 F.2.2.2.2 ⟨Nat.le_of_ble_eq_true rfl, Nat.le_of_ble_eq_true rfl⟩) rfl rfl (by rw [List.nil_append, List.append_nil]) rfl hl.1 (Nat.le_of_ble_eq_true rfl) ⟨Nat.zero_le _, Nat.zero_le _⟩ dL_size_3 rfl ?_
  exact GV.iret F hr hk rfl (by rw [List.nil_append, List.append_nil]) (Nat.zero_le _) (Nat.zero_le _) dL_size_6
set_option maxHeartbeats 4000000 in
set_option maxRecDepth 100000 in
theorem w_L_size_e1 (l : Launch) (E : EV) {d : Nat} {p0 p1 : Int32} {fs : List Value} {wc : va_W} (hM : Th l E yX6_size cX6_size 3 (some .int) 7 104 [.ref d, .int p0, .int p1] ((d, .inr (6, fs)) :: wc) xI) : Gx l E yL_size cL_size 4 [(0, 6, 7, 16), (0, 6, 11, 18)] 8 126 [.ref d, .int p0, .int p1] ((d, .inr (6, fs)) :: wc) ((d, .inr (6, fs)) :: wc) (-101) := by
  refine Gx.mk0 (by decide) (Nat.le_of_ble_eq_true rfl) ?_
  intro pP eE sS mM aA bB mt cC A F hr hk hT hE ls hl
  have hl : lv_has ls 4 [(0, .ref d), (1, .int p0), (2, .int p1)] := hl
  refine GV.aload_n F dL_size_0 rfl (lv_at hl 0 rfl) ?_
  refine GV.iload_n F dL_size_1 rfl (lv_at hl 1 rfl) ?_
  refine GV.iload_n F dL_size_2 rfl (lv_at hl 2 rfl) ?_
  refine GV.thr (q0 := 0) (wa := []) (wb := []) (name := xI) F hE hM (kL_10 F.2.2.2.2 ⟨Nat.le_of_ble_eq_true rfl, Nat.le_of_ble_eq_true rfl⟩) rfl rfl (by rw [List.nil_append, List.append_nil]) rfl hl.1 (Nat.le_of_ble_eq_true rfl) ⟨Nat.le_of_ble_eq_true rfl, Nat.le_of_ble_eq_true rfl⟩ dL_size_3 rfl [] ⟨0, 6, 7, 16⟩ [⟨0, 6, 11, 18⟩] hT (fun z hz => absurd hz List.not_mem_nil) rfl (by decide) clL_16 (nw_use casI hE.2.1) (fun q => ?_)
  refine GV.astore_n (lv' := [(3, .ref q), (0, .ref d), (1, .int p0), (2, .int p1)]) F dL_size_7 rfl hl (by decide) rfl (fun ls hl => ?_)
  refine GV.bipush (v := (-101)) F dL_size_8 (by decide) ?_
  exact GV.iret F hr hk rfl rfl (Nat.le_of_ble_eq_true rfl) (Nat.le_of_ble_eq_true rfl) dL_size_10
set_option maxHeartbeats 4000000 in
set_option maxRecDepth 100000 in
theorem w_L_size_e2 (l : Launch) (E : EV) {d : Nat} {p0 p1 : Int32} {fs : List Value} {wc : va_W} (hM : Th l E yX6_size cX6_size 3 (some .int) 7 104 [.ref d, .int p0, .int p1] ((d, .inr (6, fs)) :: wc) xA) : Gx l E yL_size cL_size 4 [(0, 6, 7, 16), (0, 6, 11, 18)] 8 126 [.ref d, .int p0, .int p1] ((d, .inr (6, fs)) :: wc) ((d, .inr (6, fs)) :: wc) (-102) := by
  refine Gx.mk0 (by decide) (Nat.le_of_ble_eq_true rfl) ?_
  intro pP eE sS mM aA bB mt cC A F hr hk hT hE ls hl
  have hl : lv_has ls 4 [(0, .ref d), (1, .int p0), (2, .int p1)] := hl
  refine GV.aload_n F dL_size_0 rfl (lv_at hl 0 rfl) ?_
  refine GV.iload_n F dL_size_1 rfl (lv_at hl 1 rfl) ?_
  refine GV.iload_n F dL_size_2 rfl (lv_at hl 2 rfl) ?_
  refine GV.thr (q0 := 0) (wa := []) (wb := []) (name := xA) F hE hM (kL_10 F.2.2.2.2 ⟨Nat.le_of_ble_eq_true rfl, Nat.le_of_ble_eq_true rfl⟩) rfl rfl (by rw [List.nil_append, List.append_nil]) rfl hl.1 (Nat.le_of_ble_eq_true rfl) ⟨Nat.le_of_ble_eq_true rfl, Nat.le_of_ble_eq_true rfl⟩ dL_size_3 rfl [⟨0, 6, 7, 16⟩] ⟨0, 6, 11, 18⟩ [] hT (List.forall_mem_cons.mpr ⟨⟨by decide, xI, clL_16, hE.2.2.2.2.1.2.2.1⟩, fun _ h => absurd h List.not_mem_nil⟩) rfl (by decide) clL_18 (nw_use casA hE.2.1) (fun q => ?_)
  refine GV.astore_n (lv' := [(3, .ref q), (0, .ref d), (1, .int p0), (2, .int p1)]) F dL_size_11 rfl hl (by decide) rfl (fun ls hl => ?_)
  refine GV.bipush (v := (-102)) F dL_size_12 (by decide) ?_
  exact GV.iret F hr hk rfl rfl (Nat.le_of_ble_eq_true rfl) (Nat.le_of_ble_eq_true rfl) dL_size_14
set_option maxHeartbeats 4000000 in
set_option maxRecDepth 100000 in
theorem w_L_pass (l : Launch) (E : EV) {d : Nat} {p0 : Int32} {fs fs' : List Value} {wc wc' : va_W} {v : Int32} (hM : Wr l E yX6_pass cX6_pass 2 (some .int) 7 104 [.ref d, .int p0] ((d, .inr (6, fs)) :: wc) ((d, .inr (6, fs')) :: wc') (some (.int v))) (hp : (ads ((d, .inr (6, fs')) :: wc')).Perm (ads ((d, .inr (6, fs)) :: wc))) : Gx l E yL_pass cL_pass 3 [(0, 5, 6, 18), (0, 5, 10, 24)] 8 125 [.ref d, .int p0] ((d, .inr (6, fs)) :: wc) ((d, .inr (6, fs')) :: wc') v := by
  refine Gx.mk0 (by decide) (Nat.le_of_ble_eq_true rfl) ?_
  intro pP eE sS mM aA bB mt cC A F hr hk hT hE ls hl
  have hl : lv_has ls 3 [(0, .ref d), (1, .int p0)] := hl
  refine GV.aload_n F dL_pass_0 rfl (lv_at hl 0 rfl) ?_
  refine GV.iload_n F dL_pass_1 rfl (lv_at hl 1 rfl) ?_
  refine GV.wrV (q0 := 0) (wa := []) (wb := []) F hE hM hp (kL_20 F.2.2.2.2 ⟨Nat.le_of_ble_eq_true rfl, Nat.le_of_ble_eq_true rfl⟩) rfl rfl (by rw [List.nil_append, List.append_nil]) rfl hl.1 (Nat.le_of_ble_eq_true rfl) ⟨Nat.zero_le _, Nat.zero_le _⟩ dL_pass_2 rfl ?_
  exact GV.iret F hr hk rfl (by rw [List.nil_append, List.append_nil]) (Nat.zero_le _) (Nat.zero_le _) dL_pass_5
set_option maxHeartbeats 4000000 in
set_option maxRecDepth 100000 in
theorem w_L_pass_e1 (l : Launch) (E : EV) {d : Nat} {p0 : Int32} {fs : List Value} {wc : va_W} (hM : Th l E yX6_pass cX6_pass 2 (some .int) 7 104 [.ref d, .int p0] ((d, .inr (6, fs)) :: wc) xA) : Gx l E yL_pass cL_pass 3 [(0, 5, 6, 18), (0, 5, 10, 24)] 8 125 [.ref d, .int p0] ((d, .inr (6, fs)) :: wc) ((d, .inr (6, fs)) :: wc) (-102) := by
  refine Gx.mk0 (by decide) (Nat.le_of_ble_eq_true rfl) ?_
  intro pP eE sS mM aA bB mt cC A F hr hk hT hE ls hl
  have hl : lv_has ls 3 [(0, .ref d), (1, .int p0)] := hl
  refine GV.aload_n F dL_pass_0 rfl (lv_at hl 0 rfl) ?_
  refine GV.iload_n F dL_pass_1 rfl (lv_at hl 1 rfl) ?_
  refine GV.thr (q0 := 0) (wa := []) (wb := []) (name := xA) F hE hM (kL_20 F.2.2.2.2 ⟨Nat.le_of_ble_eq_true rfl, Nat.le_of_ble_eq_true rfl⟩) rfl rfl (by rw [List.nil_append, List.append_nil]) rfl hl.1 (Nat.le_of_ble_eq_true rfl) ⟨Nat.le_of_ble_eq_true rfl, Nat.le_of_ble_eq_true rfl⟩ dL_pass_2 rfl [] ⟨0, 5, 6, 18⟩ [⟨0, 5, 10, 24⟩] hT (fun z hz => absurd hz List.not_mem_nil) rfl (by decide) clL_18 (nw_use casA hE.2.1) (fun q => ?_)
  refine GV.astore_n (lv' := [(2, .ref q), (0, .ref d), (1, .int p0)]) F dL_pass_6 rfl hl (by decide) rfl (fun ls hl => ?_)
  refine GV.bipush (v := (-102)) F dL_pass_7 (by decide) ?_
  exact GV.iret F hr hk rfl rfl (Nat.le_of_ble_eq_true rfl) (Nat.le_of_ble_eq_true rfl) dL_pass_9
set_option maxHeartbeats 4000000 in
set_option maxRecDepth 100000 in
theorem w_L_pass_e2 (l : Launch) (E : EV) {d : Nat} {p0 : Int32} {fs : List Value} {wc : va_W} (hM : Th l E yX6_pass cX6_pass 2 (some .int) 7 104 [.ref d, .int p0] ((d, .inr (6, fs)) :: wc) xS) : Gx l E yL_pass cL_pass 3 [(0, 5, 6, 18), (0, 5, 10, 24)] 8 125 [.ref d, .int p0] ((d, .inr (6, fs)) :: wc) ((d, .inr (6, fs)) :: wc) (-103) := by
  refine Gx.mk0 (by decide) (Nat.le_of_ble_eq_true rfl) ?_
  intro pP eE sS mM aA bB mt cC A F hr hk hT hE ls hl
  have hl : lv_has ls 3 [(0, .ref d), (1, .int p0)] := hl
  refine GV.aload_n F dL_pass_0 rfl (lv_at hl 0 rfl) ?_
  refine GV.iload_n F dL_pass_1 rfl (lv_at hl 1 rfl) ?_
  refine GV.thr (q0 := 0) (wa := []) (wb := []) (name := xS) F hE hM (kL_20 F.2.2.2.2 ⟨Nat.le_of_ble_eq_true rfl, Nat.le_of_ble_eq_true rfl⟩) rfl rfl (by rw [List.nil_append, List.append_nil]) rfl hl.1 (Nat.le_of_ble_eq_true rfl) ⟨Nat.le_of_ble_eq_true rfl, Nat.le_of_ble_eq_true rfl⟩ dL_pass_2 rfl [⟨0, 5, 6, 18⟩] ⟨0, 5, 10, 24⟩ [] hT (List.forall_mem_cons.mpr ⟨⟨by decide, xA, clL_18, hE.2.2.2.2.1.2.2.2.2.2⟩, fun _ h => absurd h List.not_mem_nil⟩) rfl (by decide) clL_24 (nw_use casS hE.2.1) (fun q => ?_)
  refine GV.astore_n (lv' := [(2, .ref q), (0, .ref d), (1, .int p0)]) F dL_pass_10 rfl hl (by decide) rfl (fun ls hl => ?_)
  refine GV.bipush (v := (-103)) F dL_pass_11 (by decide) ?_
  exact GV.iret F hr hk rfl rfl (Nat.le_of_ble_eq_true rfl) (Nat.le_of_ble_eq_true rfl) dL_pass_13
set_option maxHeartbeats 4000000 in
set_option maxRecDepth 100000 in
theorem w_L_rehearse (l : Launch) (E : EV) {d : Nat} {p0 p1 p2 : Int32} {fs fs' : List Value} {wc wc' : va_W} {v : Int32} (hM : Wr l E yX6_rehearse cX6_rehearse 4 (some .int) 7 104 [.ref d, .int p0, .int p1, .int p2] ((d, .inr (6, fs)) :: wc) ((d, .inr (6, fs')) :: wc') (some (.int v))) (hp : (ads ((d, .inr (6, fs')) :: wc')).Perm (ads ((d, .inr (6, fs)) :: wc))) : Gx l E yL_rehearse cL_rehearse 5 [(0, 7, 8, 16), (0, 7, 13, 18), (0, 7, 18, 24)] 8 127 [.ref d, .int p0, .int p1, .int p2] ((d, .inr (6, fs)) :: wc) ((d, .inr (6, fs')) :: wc') v := by
  refine Gx.mk0 (by decide) (Nat.le_of_ble_eq_true rfl) ?_
  intro pP eE sS mM aA bB mt cC A F hr hk hT hE ls hl
  have hl : lv_has ls 5 [(0, .ref d), (1, .int p0), (2, .int p1), (3, .int p2)] := hl
  refine GV.aload_n F dL_rehearse_0 rfl (lv_at hl 0 rfl) ?_
  refine GV.iload_n F dL_rehearse_1 rfl (lv_at hl 1 rfl) ?_
  refine GV.iload_n F dL_rehearse_2 rfl (lv_at hl 2 rfl) ?_
  refine GV.iload_n F dL_rehearse_3 rfl (lv_at hl 3 rfl) ?_
  refine GV.wrV (q0 := 0) (wa := []) (wb := []) F hE hM hp (kL_26 F.2.2.2.2 ⟨Nat.le_of_ble_eq_true rfl, Nat.le_of_ble_eq_true rfl⟩) rfl rfl (by rw [List.nil_append, List.append_nil]) rfl hl.1 (Nat.le_of_ble_eq_true rfl) ⟨Nat.zero_le _, Nat.zero_le _⟩ dL_rehearse_4 rfl ?_
  exact GV.iret F hr hk rfl (by rw [List.nil_append, List.append_nil]) (Nat.zero_le _) (Nat.zero_le _) dL_rehearse_7
set_option maxHeartbeats 4000000 in
set_option maxRecDepth 100000 in
theorem w_L_rehearse_e1 (l : Launch) (E : EV) {d : Nat} {p0 p1 p2 : Int32} {fs : List Value} {wc : va_W} (hM : Th l E yX6_rehearse cX6_rehearse 4 (some .int) 7 104 [.ref d, .int p0, .int p1, .int p2] ((d, .inr (6, fs)) :: wc) xI) : Gx l E yL_rehearse cL_rehearse 5 [(0, 7, 8, 16), (0, 7, 13, 18), (0, 7, 18, 24)] 8 127 [.ref d, .int p0, .int p1, .int p2] ((d, .inr (6, fs)) :: wc) ((d, .inr (6, fs)) :: wc) (-101) := by
  refine Gx.mk0 (by decide) (Nat.le_of_ble_eq_true rfl) ?_
  intro pP eE sS mM aA bB mt cC A F hr hk hT hE ls hl
  have hl : lv_has ls 5 [(0, .ref d), (1, .int p0), (2, .int p1), (3, .int p2)] := hl
  refine GV.aload_n F dL_rehearse_0 rfl (lv_at hl 0 rfl) ?_
  refine GV.iload_n F dL_rehearse_1 rfl (lv_at hl 1 rfl) ?_
  refine GV.iload_n F dL_rehearse_2 rfl (lv_at hl 2 rfl) ?_
  refine GV.iload_n F dL_rehearse_3 rfl (lv_at hl 3 rfl) ?_
  refine GV.thr (q0 := 0) (wa := []) (wb := []) (name := xI) F hE hM (kL_26 F.2.2.2.2 ⟨Nat.le_of_ble_eq_true rfl, Nat.le_of_ble_eq_true rfl⟩) rfl rfl (by rw [List.nil_append, List.append_nil]) rfl hl.1 (Nat.le_of_ble_eq_true rfl) ⟨Nat.le_of_ble_eq_true rfl, Nat.le_of_ble_eq_true rfl⟩ dL_rehearse_4 rfl [] ⟨0, 7, 8, 16⟩ [⟨0, 7, 13, 18⟩, ⟨0, 7, 18, 24⟩] hT (fun z hz => absurd hz List.not_mem_nil) rfl (by decide) clL_16 (nw_use casI hE.2.1) (fun q => ?_)
  refine GV.astore (lv' := [(4, .ref q), (0, .ref d), (1, .int p0), (2, .int p1), (3, .int p2)]) F dL_rehearse_8 hl (by decide) rfl (fun ls hl => ?_)
  refine GV.bipush (v := (-101)) F dL_rehearse_10 (by decide) ?_
  exact GV.iret F hr hk rfl rfl (Nat.le_of_ble_eq_true rfl) (Nat.le_of_ble_eq_true rfl) dL_rehearse_12
set_option maxHeartbeats 4000000 in
set_option maxRecDepth 100000 in
theorem w_L_rehearse_e2 (l : Launch) (E : EV) {d : Nat} {p0 p1 p2 : Int32} {fs : List Value} {wc : va_W} (hM : Th l E yX6_rehearse cX6_rehearse 4 (some .int) 7 104 [.ref d, .int p0, .int p1, .int p2] ((d, .inr (6, fs)) :: wc) xA) : Gx l E yL_rehearse cL_rehearse 5 [(0, 7, 8, 16), (0, 7, 13, 18), (0, 7, 18, 24)] 8 127 [.ref d, .int p0, .int p1, .int p2] ((d, .inr (6, fs)) :: wc) ((d, .inr (6, fs)) :: wc) (-102) := by
  refine Gx.mk0 (by decide) (Nat.le_of_ble_eq_true rfl) ?_
  intro pP eE sS mM aA bB mt cC A F hr hk hT hE ls hl
  have hl : lv_has ls 5 [(0, .ref d), (1, .int p0), (2, .int p1), (3, .int p2)] := hl
  refine GV.aload_n F dL_rehearse_0 rfl (lv_at hl 0 rfl) ?_
  refine GV.iload_n F dL_rehearse_1 rfl (lv_at hl 1 rfl) ?_
  refine GV.iload_n F dL_rehearse_2 rfl (lv_at hl 2 rfl) ?_
  refine GV.iload_n F dL_rehearse_3 rfl (lv_at hl 3 rfl) ?_
  refine GV.thr (q0 := 0) (wa := []) (wb := []) (name := xA) F hE hM (kL_26 F.2.2.2.2 ⟨Nat.le_of_ble_eq_true rfl, Nat.le_of_ble_eq_true rfl⟩) rfl rfl (by rw [List.nil_append, List.append_nil]) rfl hl.1 (Nat.le_of_ble_eq_true rfl) ⟨Nat.le_of_ble_eq_true rfl, Nat.le_of_ble_eq_true rfl⟩ dL_rehearse_4 rfl [⟨0, 7, 8, 16⟩] ⟨0, 7, 13, 18⟩ [⟨0, 7, 18, 24⟩] hT (List.forall_mem_cons.mpr ⟨⟨by decide, xI, clL_16, hE.2.2.2.2.1.2.2.1⟩, fun _ h => absurd h List.not_mem_nil⟩) rfl (by decide) clL_18 (nw_use casA hE.2.1) (fun q => ?_)
  refine GV.astore (lv' := [(4, .ref q), (0, .ref d), (1, .int p0), (2, .int p1), (3, .int p2)]) F dL_rehearse_13 hl (by decide) rfl (fun ls hl => ?_)
  refine GV.bipush (v := (-102)) F dL_rehearse_15 (by decide) ?_
  exact GV.iret F hr hk rfl rfl (Nat.le_of_ble_eq_true rfl) (Nat.le_of_ble_eq_true rfl) dL_rehearse_17
set_option maxHeartbeats 4000000 in
set_option maxRecDepth 100000 in
theorem w_L_rehearse_e3 (l : Launch) (E : EV) {d : Nat} {p0 p1 p2 : Int32} {fs : List Value} {wc : va_W} (hM : Th l E yX6_rehearse cX6_rehearse 4 (some .int) 7 104 [.ref d, .int p0, .int p1, .int p2] ((d, .inr (6, fs)) :: wc) xS) : Gx l E yL_rehearse cL_rehearse 5 [(0, 7, 8, 16), (0, 7, 13, 18), (0, 7, 18, 24)] 8 127 [.ref d, .int p0, .int p1, .int p2] ((d, .inr (6, fs)) :: wc) ((d, .inr (6, fs)) :: wc) (-103) := by
  refine Gx.mk0 (by decide) (Nat.le_of_ble_eq_true rfl) ?_
  intro pP eE sS mM aA bB mt cC A F hr hk hT hE ls hl
  have hl : lv_has ls 5 [(0, .ref d), (1, .int p0), (2, .int p1), (3, .int p2)] := hl
  refine GV.aload_n F dL_rehearse_0 rfl (lv_at hl 0 rfl) ?_
  refine GV.iload_n F dL_rehearse_1 rfl (lv_at hl 1 rfl) ?_
  refine GV.iload_n F dL_rehearse_2 rfl (lv_at hl 2 rfl) ?_
  refine GV.iload_n F dL_rehearse_3 rfl (lv_at hl 3 rfl) ?_
  refine GV.thr (q0 := 0) (wa := []) (wb := []) (name := xS) F hE hM (kL_26 F.2.2.2.2 ⟨Nat.le_of_ble_eq_true rfl, Nat.le_of_ble_eq_true rfl⟩) rfl rfl (by rw [List.nil_append, List.append_nil]) rfl hl.1 (Nat.le_of_ble_eq_true rfl) ⟨Nat.le_of_ble_eq_true rfl, Nat.le_of_ble_eq_true rfl⟩ dL_rehearse_4 rfl [⟨0, 7, 8, 16⟩, ⟨0, 7, 13, 18⟩] ⟨0, 7, 18, 24⟩ [] hT (List.forall_mem_cons.mpr ⟨⟨by decide, xI, clL_16, hE.2.2.2.2.1.2.2.2.2.1⟩, List.forall_mem_cons.mpr ⟨⟨by decide, xA, clL_18, hE.2.2.2.2.1.2.2.2.2.2⟩, fun _ h => absurd h List.not_mem_nil⟩⟩) rfl (by decide) clL_24 (nw_use casS hE.2.1) (fun q => ?_)
  refine GV.astore (lv' := [(4, .ref q), (0, .ref d), (1, .int p0), (2, .int p1), (3, .int p2)]) F dL_rehearse_18 hl (by decide) rfl (fun ls hl => ?_)
  refine GV.bipush (v := (-103)) F dL_rehearse_20 (by decide) ?_
  exact GV.iret F hr hk rfl rfl (Nat.le_of_ble_eq_true rfl) (Nat.le_of_ble_eq_true rfl) dL_rehearse_22
set_option maxHeartbeats 4000000 in
set_option maxRecDepth 100000 in
theorem w_L_hurt (l : Launch) (E : EV) {d : Nat} {p0 p1 p2 : Int32} {fs fs' : List Value} {wc wc' : va_W} {v : Int32} (hM : Wr l E yX6_hurt cX6_hurt 4 (some .int) 7 104 [.ref d, .int p0, .int p1, .int p2] ((d, .inr (6, fs)) :: wc) ((d, .inr (6, fs')) :: wc') (some (.int v))) (hp : (ads ((d, .inr (6, fs')) :: wc')).Perm (ads ((d, .inr (6, fs)) :: wc))) : Gx l E yL_hurt cL_hurt 5 [(0, 7, 8, 16), (0, 7, 13, 18)] 8 127 [.ref d, .int p0, .int p1, .int p2] ((d, .inr (6, fs)) :: wc) ((d, .inr (6, fs')) :: wc') v := by
  refine Gx.mk0 (by decide) (Nat.le_of_ble_eq_true rfl) ?_
  intro pP eE sS mM aA bB mt cC A F hr hk hT hE ls hl
  have hl : lv_has ls 5 [(0, .ref d), (1, .int p0), (2, .int p1), (3, .int p2)] := hl
  refine GV.aload_n F dL_hurt_0 rfl (lv_at hl 0 rfl) ?_
  refine GV.iload_n F dL_hurt_1 rfl (lv_at hl 1 rfl) ?_
  refine GV.iload_n F dL_hurt_2 rfl (lv_at hl 2 rfl) ?_
  refine GV.iload_n F dL_hurt_3 rfl (lv_at hl 3 rfl) ?_
  refine GV.wrV (q0 := 0) (wa := []) (wb := []) F hE hM hp (kL_30 F.2.2.2.2 ⟨Nat.le_of_ble_eq_true rfl, Nat.le_of_ble_eq_true rfl⟩) rfl rfl (by rw [List.nil_append, List.append_nil]) rfl hl.1 (Nat.le_of_ble_eq_true rfl) ⟨Nat.zero_le _, Nat.zero_le _⟩ dL_hurt_4 rfl ?_
  exact GV.iret F hr hk rfl (by rw [List.nil_append, List.append_nil]) (Nat.zero_le _) (Nat.zero_le _) dL_hurt_7
set_option maxHeartbeats 4000000 in
set_option maxRecDepth 100000 in
theorem w_L_hurt_e1 (l : Launch) (E : EV) {d : Nat} {p0 p1 p2 : Int32} {fs : List Value} {wc : va_W} (hM : Th l E yX6_hurt cX6_hurt 4 (some .int) 7 104 [.ref d, .int p0, .int p1, .int p2] ((d, .inr (6, fs)) :: wc) xI) : Gx l E yL_hurt cL_hurt 5 [(0, 7, 8, 16), (0, 7, 13, 18)] 8 127 [.ref d, .int p0, .int p1, .int p2] ((d, .inr (6, fs)) :: wc) ((d, .inr (6, fs)) :: wc) (-101) := by
  refine Gx.mk0 (by decide) (Nat.le_of_ble_eq_true rfl) ?_
  intro pP eE sS mM aA bB mt cC A F hr hk hT hE ls hl
  have hl : lv_has ls 5 [(0, .ref d), (1, .int p0), (2, .int p1), (3, .int p2)] := hl
  refine GV.aload_n F dL_hurt_0 rfl (lv_at hl 0 rfl) ?_
  refine GV.iload_n F dL_hurt_1 rfl (lv_at hl 1 rfl) ?_
  refine GV.iload_n F dL_hurt_2 rfl (lv_at hl 2 rfl) ?_
  refine GV.iload_n F dL_hurt_3 rfl (lv_at hl 3 rfl) ?_
  refine GV.thr (q0 := 0) (wa := []) (wb := []) (name := xI) F hE hM (kL_30 F.2.2.2.2 ⟨Nat.le_of_ble_eq_true rfl, Nat.le_of_ble_eq_true rfl⟩) rfl rfl (by rw [List.nil_append, List.append_nil]) rfl hl.1 (Nat.le_of_ble_eq_true rfl) ⟨Nat.le_of_ble_eq_true rfl, Nat.le_of_ble_eq_true rfl⟩ dL_hurt_4 rfl [] ⟨0, 7, 8, 16⟩ [⟨0, 7, 13, 18⟩] hT (fun z hz => absurd hz List.not_mem_nil) rfl (by decide) clL_16 (nw_use casI hE.2.1) (fun q => ?_)
  refine GV.astore (lv' := [(4, .ref q), (0, .ref d), (1, .int p0), (2, .int p1), (3, .int p2)]) F dL_hurt_8 hl (by decide) rfl (fun ls hl => ?_)
  refine GV.bipush (v := (-101)) F dL_hurt_10 (by decide) ?_
  exact GV.iret F hr hk rfl rfl (Nat.le_of_ble_eq_true rfl) (Nat.le_of_ble_eq_true rfl) dL_hurt_12
set_option maxHeartbeats 4000000 in
set_option maxRecDepth 100000 in
theorem w_L_hurt_e2 (l : Launch) (E : EV) {d : Nat} {p0 p1 p2 : Int32} {fs : List Value} {wc : va_W} (hM : Th l E yX6_hurt cX6_hurt 4 (some .int) 7 104 [.ref d, .int p0, .int p1, .int p2] ((d, .inr (6, fs)) :: wc) xA) : Gx l E yL_hurt cL_hurt 5 [(0, 7, 8, 16), (0, 7, 13, 18)] 8 127 [.ref d, .int p0, .int p1, .int p2] ((d, .inr (6, fs)) :: wc) ((d, .inr (6, fs)) :: wc) (-102) := by
  refine Gx.mk0 (by decide) (Nat.le_of_ble_eq_true rfl) ?_
  intro pP eE sS mM aA bB mt cC A F hr hk hT hE ls hl
  have hl : lv_has ls 5 [(0, .ref d), (1, .int p0), (2, .int p1), (3, .int p2)] := hl
  refine GV.aload_n F dL_hurt_0 rfl (lv_at hl 0 rfl) ?_
  refine GV.iload_n F dL_hurt_1 rfl (lv_at hl 1 rfl) ?_
  refine GV.iload_n F dL_hurt_2 rfl (lv_at hl 2 rfl) ?_
  refine GV.iload_n F dL_hurt_3 rfl (lv_at hl 3 rfl) ?_
  refine GV.thr (q0 := 0) (wa := []) (wb := []) (name := xA) F hE hM (kL_30 F.2.2.2.2 ⟨Nat.le_of_ble_eq_true rfl, Nat.le_of_ble_eq_true rfl⟩) rfl rfl (by rw [List.nil_append, List.append_nil]) rfl hl.1 (Nat.le_of_ble_eq_true rfl) ⟨Nat.le_of_ble_eq_true rfl, Nat.le_of_ble_eq_true rfl⟩ dL_hurt_4 rfl [⟨0, 7, 8, 16⟩] ⟨0, 7, 13, 18⟩ [] hT (List.forall_mem_cons.mpr ⟨⟨by decide, xI, clL_16, hE.2.2.2.2.1.2.2.1⟩, fun _ h => absurd h List.not_mem_nil⟩) rfl (by decide) clL_18 (nw_use casA hE.2.1) (fun q => ?_)
  refine GV.astore (lv' := [(4, .ref q), (0, .ref d), (1, .int p0), (2, .int p1), (3, .int p2)]) F dL_hurt_13 hl (by decide) rfl (fun ls hl => ?_)
  refine GV.bipush (v := (-102)) F dL_hurt_15 (by decide) ?_
  exact GV.iret F hr hk rfl rfl (Nat.le_of_ble_eq_true rfl) (Nat.le_of_ble_eq_true rfl) dL_hurt_17
set_option maxHeartbeats 4000000 in
set_option maxRecDepth 100000 in
theorem w_L_insure (l : Launch) (E : EV) {d : Nat} {p0 p1 : Int32} {fs fs' : List Value} {wc wc' : va_W} {v : Int32} (hM : Wr l E yX6_insure cX6_insure 3 (some .int) 7 104 [.ref d, .int p0, .int p1] ((d, .inr (6, fs)) :: wc) ((d, .inr (6, fs')) :: wc') (some (.int v))) (hp : (ads ((d, .inr (6, fs')) :: wc')).Perm (ads ((d, .inr (6, fs)) :: wc))) : Gx l E yL_insure cL_insure 4 [(0, 6, 7, 18), (0, 6, 11, 24)] 8 126 [.ref d, .int p0, .int p1] ((d, .inr (6, fs)) :: wc) ((d, .inr (6, fs')) :: wc') v := by
  refine Gx.mk0 (by decide) (Nat.le_of_ble_eq_true rfl) ?_
  intro pP eE sS mM aA bB mt cC A F hr hk hT hE ls hl
  have hl : lv_has ls 4 [(0, .ref d), (1, .int p0), (2, .int p1)] := hl
  refine GV.aload_n F dL_insure_0 rfl (lv_at hl 0 rfl) ?_
  refine GV.iload_n F dL_insure_1 rfl (lv_at hl 1 rfl) ?_
  refine GV.iload_n F dL_insure_2 rfl (lv_at hl 2 rfl) ?_
  refine GV.wrV (q0 := 0) (wa := []) (wb := []) F hE hM hp (kL_33 F.2.2.2.2 ⟨Nat.le_of_ble_eq_true rfl, Nat.le_of_ble_eq_true rfl⟩) rfl rfl (by rw [List.nil_append, List.append_nil]) rfl hl.1 (Nat.le_of_ble_eq_true rfl) ⟨Nat.zero_le _, Nat.zero_le _⟩ dL_insure_3 rfl ?_
  exact GV.iret F hr hk rfl (by rw [List.nil_append, List.append_nil]) (Nat.zero_le _) (Nat.zero_le _) dL_insure_6
set_option maxHeartbeats 4000000 in
set_option maxRecDepth 100000 in
theorem w_L_insure_e1 (l : Launch) (E : EV) {d : Nat} {p0 p1 : Int32} {fs : List Value} {wc : va_W} (hM : Th l E yX6_insure cX6_insure 3 (some .int) 7 104 [.ref d, .int p0, .int p1] ((d, .inr (6, fs)) :: wc) xA) : Gx l E yL_insure cL_insure 4 [(0, 6, 7, 18), (0, 6, 11, 24)] 8 126 [.ref d, .int p0, .int p1] ((d, .inr (6, fs)) :: wc) ((d, .inr (6, fs)) :: wc) (-102) := by
  refine Gx.mk0 (by decide) (Nat.le_of_ble_eq_true rfl) ?_
  intro pP eE sS mM aA bB mt cC A F hr hk hT hE ls hl
  have hl : lv_has ls 4 [(0, .ref d), (1, .int p0), (2, .int p1)] := hl
  refine GV.aload_n F dL_insure_0 rfl (lv_at hl 0 rfl) ?_
  refine GV.iload_n F dL_insure_1 rfl (lv_at hl 1 rfl) ?_
  refine GV.iload_n F dL_insure_2 rfl (lv_at hl 2 rfl) ?_
  refine GV.thr (q0 := 0) (wa := []) (wb := []) (name := xA) F hE hM (kL_33 F.2.2.2.2 ⟨Nat.le_of_ble_eq_true rfl, Nat.le_of_ble_eq_true rfl⟩) rfl rfl (by rw [List.nil_append, List.append_nil]) rfl hl.1 (Nat.le_of_ble_eq_true rfl) ⟨Nat.le_of_ble_eq_true rfl, Nat.le_of_ble_eq_true rfl⟩ dL_insure_3 rfl [] ⟨0, 6, 7, 18⟩ [⟨0, 6, 11, 24⟩] hT (fun z hz => absurd hz List.not_mem_nil) rfl (by decide) clL_18 (nw_use casA hE.2.1) (fun q => ?_)
  refine GV.astore_n (lv' := [(3, .ref q), (0, .ref d), (1, .int p0), (2, .int p1)]) F dL_insure_7 rfl hl (by decide) rfl (fun ls hl => ?_)
  refine GV.bipush (v := (-102)) F dL_insure_8 (by decide) ?_
  exact GV.iret F hr hk rfl rfl (Nat.le_of_ble_eq_true rfl) (Nat.le_of_ble_eq_true rfl) dL_insure_10
set_option maxHeartbeats 4000000 in
set_option maxRecDepth 100000 in
theorem w_L_insure_e2 (l : Launch) (E : EV) {d : Nat} {p0 p1 : Int32} {fs : List Value} {wc : va_W} (hM : Th l E yX6_insure cX6_insure 3 (some .int) 7 104 [.ref d, .int p0, .int p1] ((d, .inr (6, fs)) :: wc) xS) : Gx l E yL_insure cL_insure 4 [(0, 6, 7, 18), (0, 6, 11, 24)] 8 126 [.ref d, .int p0, .int p1] ((d, .inr (6, fs)) :: wc) ((d, .inr (6, fs)) :: wc) (-103) := by
  refine Gx.mk0 (by decide) (Nat.le_of_ble_eq_true rfl) ?_
  intro pP eE sS mM aA bB mt cC A F hr hk hT hE ls hl
  have hl : lv_has ls 4 [(0, .ref d), (1, .int p0), (2, .int p1)] := hl
  refine GV.aload_n F dL_insure_0 rfl (lv_at hl 0 rfl) ?_
  refine GV.iload_n F dL_insure_1 rfl (lv_at hl 1 rfl) ?_
  refine GV.iload_n F dL_insure_2 rfl (lv_at hl 2 rfl) ?_
  refine GV.thr (q0 := 0) (wa := []) (wb := []) (name := xS) F hE hM (kL_33 F.2.2.2.2 ⟨Nat.le_of_ble_eq_true rfl, Nat.le_of_ble_eq_true rfl⟩) rfl rfl (by rw [List.nil_append, List.append_nil]) rfl hl.1 (Nat.le_of_ble_eq_true rfl) ⟨Nat.le_of_ble_eq_true rfl, Nat.le_of_ble_eq_true rfl⟩ dL_insure_3 rfl [⟨0, 6, 7, 18⟩] ⟨0, 6, 11, 24⟩ [] hT (List.forall_mem_cons.mpr ⟨⟨by decide, xA, clL_18, hE.2.2.2.2.1.2.2.2.2.2⟩, fun _ h => absurd h List.not_mem_nil⟩) rfl (by decide) clL_24 (nw_use casS hE.2.1) (fun q => ?_)
  refine GV.astore_n (lv' := [(3, .ref q), (0, .ref d), (1, .int p0), (2, .int p1)]) F dL_insure_11 rfl hl (by decide) rfl (fun ls hl => ?_)
  refine GV.bipush (v := (-103)) F dL_insure_12 (by decide) ?_
  exact GV.iret F hr hk rfl rfl (Nat.le_of_ble_eq_true rfl) (Nat.le_of_ble_eq_true rfl) dL_insure_14
set_option maxHeartbeats 4000000 in
set_option maxRecDepth 100000 in
theorem w_L_scene (l : Launch) (E : EV) {d : Nat} {p0 p1 p2 : Int32} {fs fs' : List Value} {wc wc' : va_W} {v : Int32} (hM : Wr l E yX6_scene cX6_scene 4 (some .int) 7 104 [.ref d, .int p0, .int p1, .int p2] ((d, .inr (6, fs)) :: wc) ((d, .inr (6, fs')) :: wc') (some (.int v))) (hp : (ads ((d, .inr (6, fs')) :: wc')).Perm (ads ((d, .inr (6, fs)) :: wc))) : Gx l E yL_scene cL_scene 5 [(0, 7, 8, 16), (0, 7, 13, 18), (0, 7, 18, 24)] 8 127 [.ref d, .int p0, .int p1, .int p2] ((d, .inr (6, fs)) :: wc) ((d, .inr (6, fs')) :: wc') v := by
  refine Gx.mk0 (by decide) (Nat.le_of_ble_eq_true rfl) ?_
  intro pP eE sS mM aA bB mt cC A F hr hk hT hE ls hl
  have hl : lv_has ls 5 [(0, .ref d), (1, .int p0), (2, .int p1), (3, .int p2)] := hl
  refine GV.aload_n F dL_scene_0 rfl (lv_at hl 0 rfl) ?_
  refine GV.iload_n F dL_scene_1 rfl (lv_at hl 1 rfl) ?_
  refine GV.iload_n F dL_scene_2 rfl (lv_at hl 2 rfl) ?_
  refine GV.iload_n F dL_scene_3 rfl (lv_at hl 3 rfl) ?_
  refine GV.wrV (q0 := 0) (wa := []) (wb := []) F hE hM hp (kL_36 F.2.2.2.2 ⟨Nat.le_of_ble_eq_true rfl, Nat.le_of_ble_eq_true rfl⟩) rfl rfl (by rw [List.nil_append, List.append_nil]) rfl hl.1 (Nat.le_of_ble_eq_true rfl) ⟨Nat.zero_le _, Nat.zero_le _⟩ dL_scene_4 rfl ?_
  exact GV.iret F hr hk rfl (by rw [List.nil_append, List.append_nil]) (Nat.zero_le _) (Nat.zero_le _) dL_scene_7
set_option maxHeartbeats 4000000 in
set_option maxRecDepth 100000 in
theorem w_L_scene_e1 (l : Launch) (E : EV) {d : Nat} {p0 p1 p2 : Int32} {fs : List Value} {wc : va_W} (hM : Th l E yX6_scene cX6_scene 4 (some .int) 7 104 [.ref d, .int p0, .int p1, .int p2] ((d, .inr (6, fs)) :: wc) xI) : Gx l E yL_scene cL_scene 5 [(0, 7, 8, 16), (0, 7, 13, 18), (0, 7, 18, 24)] 8 127 [.ref d, .int p0, .int p1, .int p2] ((d, .inr (6, fs)) :: wc) ((d, .inr (6, fs)) :: wc) (-101) := by
  refine Gx.mk0 (by decide) (Nat.le_of_ble_eq_true rfl) ?_
  intro pP eE sS mM aA bB mt cC A F hr hk hT hE ls hl
  have hl : lv_has ls 5 [(0, .ref d), (1, .int p0), (2, .int p1), (3, .int p2)] := hl
  refine GV.aload_n F dL_scene_0 rfl (lv_at hl 0 rfl) ?_
  refine GV.iload_n F dL_scene_1 rfl (lv_at hl 1 rfl) ?_
  refine GV.iload_n F dL_scene_2 rfl (lv_at hl 2 rfl) ?_
  refine GV.iload_n F dL_scene_3 rfl (lv_at hl 3 rfl) ?_
  refine GV.thr (q0 := 0) (wa := []) (wb := []) (name := xI) F hE hM (kL_36 F.2.2.2.2 ⟨Nat.le_of_ble_eq_true rfl, Nat.le_of_ble_eq_true rfl⟩) rfl rfl (by rw [List.nil_append, List.append_nil]) rfl hl.1 (Nat.le_of_ble_eq_true rfl) ⟨Nat.le_of_ble_eq_true rfl, Nat.le_of_ble_eq_true rfl⟩ dL_scene_4 rfl [] ⟨0, 7, 8, 16⟩ [⟨0, 7, 13, 18⟩, ⟨0, 7, 18, 24⟩] hT (fun z hz => absurd hz List.not_mem_nil) rfl (by decide) clL_16 (nw_use casI hE.2.1) (fun q => ?_)
  refine GV.astore (lv' := [(4, .ref q), (0, .ref d), (1, .int p0), (2, .int p1), (3, .int p2)]) F dL_scene_8 hl (by decide) rfl (fun ls hl => ?_)
  refine GV.bipush (v := (-101)) F dL_scene_10 (by decide) ?_
  exact GV.iret F hr hk rfl rfl (Nat.le_of_ble_eq_true rfl) (Nat.le_of_ble_eq_true rfl) dL_scene_12
set_option maxHeartbeats 4000000 in
set_option maxRecDepth 100000 in
theorem w_L_scene_e2 (l : Launch) (E : EV) {d : Nat} {p0 p1 p2 : Int32} {fs : List Value} {wc : va_W} (hM : Th l E yX6_scene cX6_scene 4 (some .int) 7 104 [.ref d, .int p0, .int p1, .int p2] ((d, .inr (6, fs)) :: wc) xA) : Gx l E yL_scene cL_scene 5 [(0, 7, 8, 16), (0, 7, 13, 18), (0, 7, 18, 24)] 8 127 [.ref d, .int p0, .int p1, .int p2] ((d, .inr (6, fs)) :: wc) ((d, .inr (6, fs)) :: wc) (-102) := by
  refine Gx.mk0 (by decide) (Nat.le_of_ble_eq_true rfl) ?_
  intro pP eE sS mM aA bB mt cC A F hr hk hT hE ls hl
  have hl : lv_has ls 5 [(0, .ref d), (1, .int p0), (2, .int p1), (3, .int p2)] := hl
  refine GV.aload_n F dL_scene_0 rfl (lv_at hl 0 rfl) ?_
  refine GV.iload_n F dL_scene_1 rfl (lv_at hl 1 rfl) ?_
  refine GV.iload_n F dL_scene_2 rfl (lv_at hl 2 rfl) ?_
  refine GV.iload_n F dL_scene_3 rfl (lv_at hl 3 rfl) ?_
  refine GV.thr (q0 := 0) (wa := []) (wb := []) (name := xA) F hE hM (kL_36 F.2.2.2.2 ⟨Nat.le_of_ble_eq_true rfl, Nat.le_of_ble_eq_true rfl⟩) rfl rfl (by rw [List.nil_append, List.append_nil]) rfl hl.1 (Nat.le_of_ble_eq_true rfl) ⟨Nat.le_of_ble_eq_true rfl, Nat.le_of_ble_eq_true rfl⟩ dL_scene_4 rfl [⟨0, 7, 8, 16⟩] ⟨0, 7, 13, 18⟩ [⟨0, 7, 18, 24⟩] hT (List.forall_mem_cons.mpr ⟨⟨by decide, xI, clL_16, hE.2.2.2.2.1.2.2.1⟩, fun _ h => absurd h List.not_mem_nil⟩) rfl (by decide) clL_18 (nw_use casA hE.2.1) (fun q => ?_)
  refine GV.astore (lv' := [(4, .ref q), (0, .ref d), (1, .int p0), (2, .int p1), (3, .int p2)]) F dL_scene_13 hl (by decide) rfl (fun ls hl => ?_)
  refine GV.bipush (v := (-102)) F dL_scene_15 (by decide) ?_
  exact GV.iret F hr hk rfl rfl (Nat.le_of_ble_eq_true rfl) (Nat.le_of_ble_eq_true rfl) dL_scene_17
set_option maxHeartbeats 4000000 in
set_option maxRecDepth 100000 in
theorem w_L_scene_e3 (l : Launch) (E : EV) {d : Nat} {p0 p1 p2 : Int32} {fs : List Value} {wc : va_W} (hM : Th l E yX6_scene cX6_scene 4 (some .int) 7 104 [.ref d, .int p0, .int p1, .int p2] ((d, .inr (6, fs)) :: wc) xS) : Gx l E yL_scene cL_scene 5 [(0, 7, 8, 16), (0, 7, 13, 18), (0, 7, 18, 24)] 8 127 [.ref d, .int p0, .int p1, .int p2] ((d, .inr (6, fs)) :: wc) ((d, .inr (6, fs)) :: wc) (-103) := by
  refine Gx.mk0 (by decide) (Nat.le_of_ble_eq_true rfl) ?_
  intro pP eE sS mM aA bB mt cC A F hr hk hT hE ls hl
  have hl : lv_has ls 5 [(0, .ref d), (1, .int p0), (2, .int p1), (3, .int p2)] := hl
  refine GV.aload_n F dL_scene_0 rfl (lv_at hl 0 rfl) ?_
  refine GV.iload_n F dL_scene_1 rfl (lv_at hl 1 rfl) ?_
  refine GV.iload_n F dL_scene_2 rfl (lv_at hl 2 rfl) ?_
  refine GV.iload_n F dL_scene_3 rfl (lv_at hl 3 rfl) ?_
  refine GV.thr (q0 := 0) (wa := []) (wb := []) (name := xS) F hE hM (kL_36 F.2.2.2.2 ⟨Nat.le_of_ble_eq_true rfl, Nat.le_of_ble_eq_true rfl⟩) rfl rfl (by rw [List.nil_append, List.append_nil]) rfl hl.1 (Nat.le_of_ble_eq_true rfl) ⟨Nat.le_of_ble_eq_true rfl, Nat.le_of_ble_eq_true rfl⟩ dL_scene_4 rfl [⟨0, 7, 8, 16⟩, ⟨0, 7, 13, 18⟩] ⟨0, 7, 18, 24⟩ [] hT (List.forall_mem_cons.mpr ⟨⟨by decide, xI, clL_16, hE.2.2.2.2.1.2.2.2.2.1⟩, List.forall_mem_cons.mpr ⟨⟨by decide, xA, clL_18, hE.2.2.2.2.1.2.2.2.2.2⟩, fun _ h => absurd h List.not_mem_nil⟩⟩) rfl (by decide) clL_24 (nw_use casS hE.2.1) (fun q => ?_)
  refine GV.astore (lv' := [(4, .ref q), (0, .ref d), (1, .int p0), (2, .int p1), (3, .int p2)]) F dL_scene_18 hl (by decide) rfl (fun ls hl => ?_)
  refine GV.bipush (v := (-103)) F dL_scene_20 (by decide) ?_
  exact GV.iret F hr hk rfl rfl (Nat.le_of_ble_eq_true rfl) (Nat.le_of_ble_eq_true rfl) dL_scene_22
set_option maxHeartbeats 4000000 in
set_option maxRecDepth 100000 in
theorem w_L_shoot (l : Launch) (E : EV) {d : Nat} {p0 p1 : Int32} {fs fs' : List Value} {wc wc' : va_W} {v : Int32} (hM : Wr l E yX6_shoot cX6_shoot 3 (some .int) 7 105 [.ref d, .int p0, .int p1] ((d, .inr (6, fs)) :: wc) ((d, .inr (6, fs')) :: wc') (some (.int v))) (hp : (ads ((d, .inr (6, fs')) :: wc')).Perm (ads ((d, .inr (6, fs)) :: wc))) : Gx l E yL_shoot cL_shoot 4 [(0, 6, 7, 16), (0, 6, 11, 24)] 8 127 [.ref d, .int p0, .int p1] ((d, .inr (6, fs)) :: wc) ((d, .inr (6, fs')) :: wc') v := by
  refine Gx.mk0 (by decide) (Nat.le_of_ble_eq_true rfl) ?_
  intro pP eE sS mM aA bB mt cC A F hr hk hT hE ls hl
  have hl : lv_has ls 4 [(0, .ref d), (1, .int p0), (2, .int p1)] := hl
  refine GV.aload_n F dL_shoot_0 rfl (lv_at hl 0 rfl) ?_
  refine GV.iload_n F dL_shoot_1 rfl (lv_at hl 1 rfl) ?_
  refine GV.iload_n F dL_shoot_2 rfl (lv_at hl 2 rfl) ?_
  refine GV.wrV (q0 := 0) (wa := []) (wb := []) F hE hM hp (kL_39 F.2.2.2.2 ⟨Nat.le_of_ble_eq_true rfl, Nat.le_of_ble_eq_true rfl⟩) rfl rfl (by rw [List.nil_append, List.append_nil]) rfl hl.1 (Nat.le_of_ble_eq_true rfl) ⟨Nat.zero_le _, Nat.zero_le _⟩ dL_shoot_3 rfl ?_
  exact GV.iret F hr hk rfl (by rw [List.nil_append, List.append_nil]) (Nat.zero_le _) (Nat.zero_le _) dL_shoot_6
set_option maxHeartbeats 4000000 in
set_option maxRecDepth 100000 in
theorem w_L_shoot_e1 (l : Launch) (E : EV) {d : Nat} {p0 p1 : Int32} {fs : List Value} {wc : va_W} (hM : Th l E yX6_shoot cX6_shoot 3 (some .int) 7 105 [.ref d, .int p0, .int p1] ((d, .inr (6, fs)) :: wc) xI) : Gx l E yL_shoot cL_shoot 4 [(0, 6, 7, 16), (0, 6, 11, 24)] 8 127 [.ref d, .int p0, .int p1] ((d, .inr (6, fs)) :: wc) ((d, .inr (6, fs)) :: wc) (-101) := by
  refine Gx.mk0 (by decide) (Nat.le_of_ble_eq_true rfl) ?_
  intro pP eE sS mM aA bB mt cC A F hr hk hT hE ls hl
  have hl : lv_has ls 4 [(0, .ref d), (1, .int p0), (2, .int p1)] := hl
  refine GV.aload_n F dL_shoot_0 rfl (lv_at hl 0 rfl) ?_
  refine GV.iload_n F dL_shoot_1 rfl (lv_at hl 1 rfl) ?_
  refine GV.iload_n F dL_shoot_2 rfl (lv_at hl 2 rfl) ?_
  refine GV.thr (q0 := 0) (wa := []) (wb := []) (name := xI) F hE hM (kL_39 F.2.2.2.2 ⟨Nat.le_of_ble_eq_true rfl, Nat.le_of_ble_eq_true rfl⟩) rfl rfl (by rw [List.nil_append, List.append_nil]) rfl hl.1 (Nat.le_of_ble_eq_true rfl) ⟨Nat.le_of_ble_eq_true rfl, Nat.le_of_ble_eq_true rfl⟩ dL_shoot_3 rfl [] ⟨0, 6, 7, 16⟩ [⟨0, 6, 11, 24⟩] hT (fun z hz => absurd hz List.not_mem_nil) rfl (by decide) clL_16 (nw_use casI hE.2.1) (fun q => ?_)
  refine GV.astore_n (lv' := [(3, .ref q), (0, .ref d), (1, .int p0), (2, .int p1)]) F dL_shoot_7 rfl hl (by decide) rfl (fun ls hl => ?_)
  refine GV.bipush (v := (-101)) F dL_shoot_8 (by decide) ?_
  exact GV.iret F hr hk rfl rfl (Nat.le_of_ble_eq_true rfl) (Nat.le_of_ble_eq_true rfl) dL_shoot_10
set_option maxHeartbeats 4000000 in
set_option maxRecDepth 100000 in
theorem w_L_shoot_e2 (l : Launch) (E : EV) {d : Nat} {p0 p1 : Int32} {fs : List Value} {wc : va_W} (hM : Th l E yX6_shoot cX6_shoot 3 (some .int) 7 105 [.ref d, .int p0, .int p1] ((d, .inr (6, fs)) :: wc) xS) : Gx l E yL_shoot cL_shoot 4 [(0, 6, 7, 16), (0, 6, 11, 24)] 8 127 [.ref d, .int p0, .int p1] ((d, .inr (6, fs)) :: wc) ((d, .inr (6, fs)) :: wc) (-103) := by
  refine Gx.mk0 (by decide) (Nat.le_of_ble_eq_true rfl) ?_
  intro pP eE sS mM aA bB mt cC A F hr hk hT hE ls hl
  have hl : lv_has ls 4 [(0, .ref d), (1, .int p0), (2, .int p1)] := hl
  refine GV.aload_n F dL_shoot_0 rfl (lv_at hl 0 rfl) ?_
  refine GV.iload_n F dL_shoot_1 rfl (lv_at hl 1 rfl) ?_
  refine GV.iload_n F dL_shoot_2 rfl (lv_at hl 2 rfl) ?_
  refine GV.thr (q0 := 0) (wa := []) (wb := []) (name := xS) F hE hM (kL_39 F.2.2.2.2 ⟨Nat.le_of_ble_eq_true rfl, Nat.le_of_ble_eq_true rfl⟩) rfl rfl (by rw [List.nil_append, List.append_nil]) rfl hl.1 (Nat.le_of_ble_eq_true rfl) ⟨Nat.le_of_ble_eq_true rfl, Nat.le_of_ble_eq_true rfl⟩ dL_shoot_3 rfl [⟨0, 6, 7, 16⟩] ⟨0, 6, 11, 24⟩ [] hT (List.forall_mem_cons.mpr ⟨⟨by decide, xI, clL_16, hE.2.2.2.2.1.2.2.2.2.1⟩, fun _ h => absurd h List.not_mem_nil⟩) rfl (by decide) clL_24 (nw_use casS hE.2.1) (fun q => ?_)
  refine GV.astore_n (lv' := [(3, .ref q), (0, .ref d), (1, .int p0), (2, .int p1)]) F dL_shoot_11 rfl hl (by decide) rfl (fun ls hl => ?_)
  refine GV.bipush (v := (-103)) F dL_shoot_12 (by decide) ?_
  exact GV.iret F hr hk rfl rfl (Nat.le_of_ble_eq_true rfl) (Nat.le_of_ble_eq_true rfl) dL_shoot_14
set_option maxHeartbeats 4000000 in
set_option maxRecDepth 100000 in
theorem w_L_undo (l : Launch) (E : EV) {d : Nat} {fs fs' : List Value} {wc wc' : va_W} {v : Int32} (hM : Wr l E yX6_undo cX6_undo 1 (some .int) 7 104 [.ref d] ((d, .inr (6, fs)) :: wc) ((d, .inr (6, fs')) :: wc') (some (.int v))) (hp : (ads ((d, .inr (6, fs')) :: wc')).Perm (ads ((d, .inr (6, fs)) :: wc))) : Gx l E yL_undo cL_undo 2 [(0, 4, 5, 24)] 8 124 [.ref d] ((d, .inr (6, fs)) :: wc) ((d, .inr (6, fs')) :: wc') v := by
  refine Gx.mk0 (by decide) (Nat.le_of_ble_eq_true rfl) ?_
  intro pP eE sS mM aA bB mt cC A F hr hk hT hE ls hl
  have hl : lv_has ls 2 [(0, .ref d)] := hl
  refine GV.aload_n F dL_undo_0 rfl (lv_at hl 0 rfl) ?_
  refine GV.wrV (q0 := 0) (wa := []) (wb := []) F hE hM hp (kL_42 F.2.2.2.2 ⟨Nat.le_of_ble_eq_true rfl, Nat.le_of_ble_eq_true rfl⟩) rfl rfl (by rw [List.nil_append, List.append_nil]) rfl hl.1 (Nat.le_of_ble_eq_true rfl) ⟨Nat.zero_le _, Nat.zero_le _⟩ dL_undo_1 rfl ?_
  exact GV.iret F hr hk rfl (by rw [List.nil_append, List.append_nil]) (Nat.zero_le _) (Nat.zero_le _) dL_undo_4
set_option maxHeartbeats 4000000 in
set_option maxRecDepth 100000 in
theorem w_L_refusal_e1 (l : Launch) (E : EV) {d : Nat} {p0 p1 : Int32} {fs : List Value} {wc : va_W} (hM : Th l E yX6_refusal cX6_refusal 3 (some .int) 7 105 [.ref d, .int p0, .int p1] ((d, .inr (6, fs)) :: wc) xI) : Gx l E yL_refusal cL_refusal 4 [(0, 6, 7, 16)] 8 127 [.ref d, .int p0, .int p1] ((d, .inr (6, fs)) :: wc) ((d, .inr (6, fs)) :: wc) (-101) := by
  refine Gx.mk0 (by decide) (Nat.le_of_ble_eq_true rfl) ?_
  intro pP eE sS mM aA bB mt cC A F hr hk hT hE ls hl
  have hl : lv_has ls 4 [(0, .ref d), (1, .int p0), (2, .int p1)] := hl
  refine GV.aload_n F dL_refusal_0 rfl (lv_at hl 0 rfl) ?_
  refine GV.iload_n F dL_refusal_1 rfl (lv_at hl 1 rfl) ?_
  refine GV.iload_n F dL_refusal_2 rfl (lv_at hl 2 rfl) ?_
  refine GV.thr (q0 := 0) (wa := []) (wb := []) (name := xI) F hE hM (kL_58 F.2.2.2.2 ⟨Nat.le_of_ble_eq_true rfl, Nat.le_of_ble_eq_true rfl⟩) rfl rfl (by rw [List.nil_append, List.append_nil]) rfl hl.1 (Nat.le_of_ble_eq_true rfl) ⟨Nat.le_of_ble_eq_true rfl, Nat.le_of_ble_eq_true rfl⟩ dL_refusal_3 rfl [] ⟨0, 6, 7, 16⟩ [] hT (fun z hz => absurd hz List.not_mem_nil) rfl (by decide) clL_16 (nw_use casI hE.2.1) (fun q => ?_)
  refine GV.astore_n (lv' := [(3, .ref q), (0, .ref d), (1, .int p0), (2, .int p1)]) F dL_refusal_7 rfl hl (by decide) rfl (fun ls hl => ?_)
  refine GV.bipush (v := (-101)) F dL_refusal_8 (by decide) ?_
  exact GV.iret F hr hk rfl rfl (Nat.le_of_ble_eq_true rfl) (Nat.le_of_ble_eq_true rfl) dL_refusal_10
set_option maxHeartbeats 4000000 in
set_option maxRecDepth 100000 in
theorem call_0 (l : Launch) (E : EV) {d : Nat} {x y z : Int32} {wx wx' : va_W} {v : Int32} (hC : Gx l E yL_size cL_size 4 [(0, 6, 7, 16), (0, 6, 11, 18)] 8 126 [.ref d, .int x, .int y] wx wx' v) : Gy l E yL_call cL_call 5 (some .int) 9 151 [.ref d, .int (nI 0), .int x, .int y, .int z] wx wx' v := by
  refine Gy.mk0 (by decide) (Nat.le_of_ble_eq_true rfl) ?_
  intro pP eE sS mM aA bB mt cC A F hr hk hE hA hD ls hl
  have hl : lv_has ls 5 [(0, .ref d), (1, .int (nI 0)), (2, .int x), (3, .int y), (4, .int z)] := hl
  refine GV.iload_n F dL_call_0 rfl (lv_at hl 1 rfl) ?_
  refine GV.tableIn (tgt := 40) F dL_call_1 (by decide) (by decide) (by rfl) (by decide) ?_
  refine GV.aload_n F dL_call_40 rfl (lv_at hl 0 rfl) ?_
  refine GV.iload_n F dL_call_41 rfl (lv_at hl 2 rfl) ?_
  refine GV.iload_n F dL_call_42 rfl (lv_at hl 3 rfl) ?_
  refine GV.gx (wa := []) (wb := []) F hE hA hC (kx_size F.2.2.2.2 ⟨Nat.le_of_ble_eq_true rfl, Nat.le_of_ble_eq_true rfl⟩) (by rw [List.nil_append, List.append_nil]) rfl hl.1 (Nat.le_of_ble_eq_true rfl) ⟨Nat.le_of_ble_eq_true rfl, Nat.le_of_ble_eq_true rfl⟩ dL_call_43 rfl ?_
  exact GV.iret F hr hk rfl (by rw [List.nil_append, List.append_nil]) (Nat.le_of_ble_eq_true rfl) (Nat.le_of_ble_eq_true rfl) dL_call_46
set_option maxHeartbeats 4000000 in
set_option maxRecDepth 100000 in
theorem call_1 (l : Launch) (E : EV) {d : Nat} {x y z : Int32} {wx wx' : va_W} {v : Int32} (hC : Gx l E yL_pass cL_pass 3 [(0, 5, 6, 18), (0, 5, 10, 24)] 8 125 [.ref d, .int y] wx wx' v) : Gy l E yL_call cL_call 5 (some .int) 9 151 [.ref d, .int (nI 1), .int x, .int y, .int z] wx wx' v := by
  refine Gy.mk0 (by decide) (Nat.le_of_ble_eq_true rfl) ?_
  intro pP eE sS mM aA bB mt cC A F hr hk hE hA hD ls hl
  have hl : lv_has ls 5 [(0, .ref d), (1, .int (nI 1)), (2, .int x), (3, .int y), (4, .int z)] := hl
  refine GV.iload_n F dL_call_0 rfl (lv_at hl 1 rfl) ?_
  refine GV.tableIn (tgt := 47) F dL_call_1 (by decide) (by decide) (by rfl) (by decide) ?_
  refine GV.aload_n F dL_call_47 rfl (lv_at hl 0 rfl) ?_
  refine GV.iload_n F dL_call_48 rfl (lv_at hl 3 rfl) ?_
  refine GV.gx (wa := []) (wb := []) F hE hA hC (kx_pass F.2.2.2.2 ⟨Nat.le_of_ble_eq_true rfl, Nat.le_of_ble_eq_true rfl⟩) (by rw [List.nil_append, List.append_nil]) rfl hl.1 (Nat.le_of_ble_eq_true rfl) ⟨Nat.le_of_ble_eq_true rfl, Nat.le_of_ble_eq_true rfl⟩ dL_call_49 rfl ?_
  exact GV.iret F hr hk rfl (by rw [List.nil_append, List.append_nil]) (Nat.le_of_ble_eq_true rfl) (Nat.le_of_ble_eq_true rfl) dL_call_52
set_option maxHeartbeats 4000000 in
set_option maxRecDepth 100000 in
theorem call_2 (l : Launch) (E : EV) {d : Nat} {x y z : Int32} {wx wx' : va_W} {v : Int32} (hC : Gx l E yL_rehearse cL_rehearse 5 [(0, 7, 8, 16), (0, 7, 13, 18), (0, 7, 18, 24)] 8 127 [.ref d, .int x, .int y, .int z] wx wx' v) : Gy l E yL_call cL_call 5 (some .int) 9 151 [.ref d, .int (nI 2), .int x, .int y, .int z] wx wx' v := by
  refine Gy.mk0 (by decide) (Nat.le_of_ble_eq_true rfl) ?_
  intro pP eE sS mM aA bB mt cC A F hr hk hE hA hD ls hl
  have hl : lv_has ls 5 [(0, .ref d), (1, .int (nI 2)), (2, .int x), (3, .int y), (4, .int z)] := hl
  refine GV.iload_n F dL_call_0 rfl (lv_at hl 1 rfl) ?_
  refine GV.tableIn (tgt := 53) F dL_call_1 (by decide) (by decide) (by rfl) (by decide) ?_
  refine GV.aload_n F dL_call_53 rfl (lv_at hl 0 rfl) ?_
  refine GV.iload_n F dL_call_54 rfl (lv_at hl 2 rfl) ?_
  refine GV.iload_n F dL_call_55 rfl (lv_at hl 3 rfl) ?_
  refine GV.iload F dL_call_56 (lv_at hl 4 rfl) ?_
  refine GV.gx (wa := []) (wb := []) F hE hA hC (kx_rehearse F.2.2.2.2 ⟨Nat.le_of_ble_eq_true rfl, Nat.le_of_ble_eq_true rfl⟩) (by rw [List.nil_append, List.append_nil]) rfl hl.1 (Nat.le_of_ble_eq_true rfl) ⟨Nat.le_of_ble_eq_true rfl, Nat.le_of_ble_eq_true rfl⟩ dL_call_58 rfl ?_
  exact GV.iret F hr hk rfl (by rw [List.nil_append, List.append_nil]) (Nat.le_of_ble_eq_true rfl) (Nat.le_of_ble_eq_true rfl) dL_call_61
set_option maxHeartbeats 4000000 in
set_option maxRecDepth 100000 in
theorem call_3 (l : Launch) (E : EV) {d : Nat} {x y z : Int32} {wx wx' : va_W} {v : Int32} (hC : Gx l E yL_hurt cL_hurt 5 [(0, 7, 8, 16), (0, 7, 13, 18)] 8 127 [.ref d, .int x, .int y, .int z] wx wx' v) : Gy l E yL_call cL_call 5 (some .int) 9 151 [.ref d, .int (nI 3), .int x, .int y, .int z] wx wx' v := by
  refine Gy.mk0 (by decide) (Nat.le_of_ble_eq_true rfl) ?_
  intro pP eE sS mM aA bB mt cC A F hr hk hE hA hD ls hl
  have hl : lv_has ls 5 [(0, .ref d), (1, .int (nI 3)), (2, .int x), (3, .int y), (4, .int z)] := hl
  refine GV.iload_n F dL_call_0 rfl (lv_at hl 1 rfl) ?_
  refine GV.tableIn (tgt := 62) F dL_call_1 (by decide) (by decide) (by rfl) (by decide) ?_
  refine GV.aload_n F dL_call_62 rfl (lv_at hl 0 rfl) ?_
  refine GV.iload_n F dL_call_63 rfl (lv_at hl 2 rfl) ?_
  refine GV.iload_n F dL_call_64 rfl (lv_at hl 3 rfl) ?_
  refine GV.iload F dL_call_65 (lv_at hl 4 rfl) ?_
  refine GV.gx (wa := []) (wb := []) F hE hA hC (kx_hurt F.2.2.2.2 ⟨Nat.le_of_ble_eq_true rfl, Nat.le_of_ble_eq_true rfl⟩) (by rw [List.nil_append, List.append_nil]) rfl hl.1 (Nat.le_of_ble_eq_true rfl) ⟨Nat.le_of_ble_eq_true rfl, Nat.le_of_ble_eq_true rfl⟩ dL_call_67 rfl ?_
  exact GV.iret F hr hk rfl (by rw [List.nil_append, List.append_nil]) (Nat.le_of_ble_eq_true rfl) (Nat.le_of_ble_eq_true rfl) dL_call_70
set_option maxHeartbeats 4000000 in
set_option maxRecDepth 100000 in
theorem call_4 (l : Launch) (E : EV) {d : Nat} {x y z : Int32} {wx wx' : va_W} {v : Int32} (hC : Gx l E yL_insure cL_insure 4 [(0, 6, 7, 18), (0, 6, 11, 24)] 8 126 [.ref d, .int y, .int z] wx wx' v) : Gy l E yL_call cL_call 5 (some .int) 9 151 [.ref d, .int (nI 4), .int x, .int y, .int z] wx wx' v := by
  refine Gy.mk0 (by decide) (Nat.le_of_ble_eq_true rfl) ?_
  intro pP eE sS mM aA bB mt cC A F hr hk hE hA hD ls hl
  have hl : lv_has ls 5 [(0, .ref d), (1, .int (nI 4)), (2, .int x), (3, .int y), (4, .int z)] := hl
  refine GV.iload_n F dL_call_0 rfl (lv_at hl 1 rfl) ?_
  refine GV.tableIn (tgt := 71) F dL_call_1 (by decide) (by decide) (by rfl) (by decide) ?_
  refine GV.aload_n F dL_call_71 rfl (lv_at hl 0 rfl) ?_
  refine GV.iload_n F dL_call_72 rfl (lv_at hl 3 rfl) ?_
  refine GV.iload F dL_call_73 (lv_at hl 4 rfl) ?_
  refine GV.gx (wa := []) (wb := []) F hE hA hC (kx_insure F.2.2.2.2 ⟨Nat.le_of_ble_eq_true rfl, Nat.le_of_ble_eq_true rfl⟩) (by rw [List.nil_append, List.append_nil]) rfl hl.1 (Nat.le_of_ble_eq_true rfl) ⟨Nat.le_of_ble_eq_true rfl, Nat.le_of_ble_eq_true rfl⟩ dL_call_75 rfl ?_
  exact GV.iret F hr hk rfl (by rw [List.nil_append, List.append_nil]) (Nat.le_of_ble_eq_true rfl) (Nat.le_of_ble_eq_true rfl) dL_call_78
set_option maxHeartbeats 4000000 in
set_option maxRecDepth 100000 in
theorem call_5 (l : Launch) (E : EV) {d : Nat} {x y z : Int32} {wx wx' : va_W} {v : Int32} (hC : Gx l E yL_scene cL_scene 5 [(0, 7, 8, 16), (0, 7, 13, 18), (0, 7, 18, 24)] 8 127 [.ref d, .int y, .int z, .int x] wx wx' v) : Gy l E yL_call cL_call 5 (some .int) 9 151 [.ref d, .int (nI 5), .int x, .int y, .int z] wx wx' v := by
  refine Gy.mk0 (by decide) (Nat.le_of_ble_eq_true rfl) ?_
  intro pP eE sS mM aA bB mt cC A F hr hk hE hA hD ls hl
  have hl : lv_has ls 5 [(0, .ref d), (1, .int (nI 5)), (2, .int x), (3, .int y), (4, .int z)] := hl
  refine GV.iload_n F dL_call_0 rfl (lv_at hl 1 rfl) ?_
  refine GV.tableIn (tgt := 79) F dL_call_1 (by decide) (by decide) (by rfl) (by decide) ?_
  refine GV.aload_n F dL_call_79 rfl (lv_at hl 0 rfl) ?_
  refine GV.iload_n F dL_call_80 rfl (lv_at hl 3 rfl) ?_
  refine GV.iload F dL_call_81 (lv_at hl 4 rfl) ?_
  refine GV.iload_n F dL_call_83 rfl (lv_at hl 2 rfl) ?_
  refine GV.gx (wa := []) (wb := []) F hE hA hC (kx_scene F.2.2.2.2 ⟨Nat.le_of_ble_eq_true rfl, Nat.le_of_ble_eq_true rfl⟩) (by rw [List.nil_append, List.append_nil]) rfl hl.1 (Nat.le_of_ble_eq_true rfl) ⟨Nat.le_of_ble_eq_true rfl, Nat.le_of_ble_eq_true rfl⟩ dL_call_84 rfl ?_
  exact GV.iret F hr hk rfl (by rw [List.nil_append, List.append_nil]) (Nat.le_of_ble_eq_true rfl) (Nat.le_of_ble_eq_true rfl) dL_call_87
set_option maxHeartbeats 4000000 in
set_option maxRecDepth 100000 in
theorem call_6 (l : Launch) (E : EV) {d : Nat} {x y z : Int32} {wx wx' : va_W} {v : Int32} (hC : Gx l E yL_shoot cL_shoot 4 [(0, 6, 7, 16), (0, 6, 11, 24)] 8 127 [.ref d, .int y, .int x] wx wx' v) : Gy l E yL_call cL_call 5 (some .int) 9 151 [.ref d, .int (nI 6), .int x, .int y, .int z] wx wx' v := by
  refine Gy.mk0 (by decide) (Nat.le_of_ble_eq_true rfl) ?_
  intro pP eE sS mM aA bB mt cC A F hr hk hE hA hD ls hl
  have hl : lv_has ls 5 [(0, .ref d), (1, .int (nI 6)), (2, .int x), (3, .int y), (4, .int z)] := hl
  refine GV.iload_n F dL_call_0 rfl (lv_at hl 1 rfl) ?_
  refine GV.tableOut (tgt := 88) F dL_call_1 (Or.inr (by decide)) (by decide) ?_
  refine GV.aload_n F dL_call_88 rfl (lv_at hl 0 rfl) ?_
  refine GV.iload_n F dL_call_89 rfl (lv_at hl 3 rfl) ?_
  refine GV.iload_n F dL_call_90 rfl (lv_at hl 2 rfl) ?_
  refine GV.gx (wa := []) (wb := []) F hE hA hC (kx_shoot F.2.2.2.2 ⟨Nat.le_of_ble_eq_true rfl, Nat.le_of_ble_eq_true rfl⟩) (by rw [List.nil_append, List.append_nil]) rfl hl.1 (Nat.le_of_ble_eq_true rfl) ⟨Nat.le_of_ble_eq_true rfl, Nat.le_of_ble_eq_true rfl⟩ dL_call_91 rfl ?_
  exact GV.iret F hr hk rfl (by rw [List.nil_append, List.append_nil]) (Nat.le_of_ble_eq_true rfl) (Nat.le_of_ble_eq_true rfl) dL_call_94
