/-! worlds in three stretches; rows of long numbers; calls out of a world that grows -/
theorem D_of {A : Nat → Prop} {ws : va_W} (hN : (ads ws).Nodup) (hA : ∀ x ∈ ws, A x.1) : va_D A ws := ⟨fun _ _ _ _ hi hj e => ads_inj hN hi hj e, fun _ _ hk => hA _ (List.mem_of_getElem? hk)⟩
theorem D_in {A : Nat → Prop} {ws : va_W} (hD : va_D A ws) : ∀ x ∈ ws, A x.1 := fun x hx => by
  obtain ⟨j, hj⟩ := List.getElem?_of_mem hx
  exact hD.2 j x hj
theorem P_lt {D : va_G} {ws : va_W} {H : Heap} (hP : va_P D vwCl ws H) : ∀ x ∈ ws, x.1 < H.size := fun x hx => by
  obtain ⟨j, hj⟩ := List.getElem?_of_mem hx
  exact vx_lt hP hj
theorem ads_app (a b : va_W) : ads (a ++ b) = ads a ++ ads b := List.map_append
theorem nodup3 {wa wc wb : va_W} : (ads (wa ++ (wc ++ wb))).Nodup ↔ (ads wa).Nodup ∧ ((ads wc).Nodup ∧ (ads wb).Nodup ∧ ∀ x ∈ ads wc, ∀ y ∈ ads wb, x ≠ y) ∧ ∀ x ∈ ads wa, ∀ y ∈ ads wc ++ ads wb, x ≠ y := by
  rw [ads_app, ads_app]
  unfold List.Nodup
  rw [List.pairwise_append, List.pairwise_append]
theorem join3 {A0 : Nat → Prop} {D : va_G} {wa wc wb w1 : va_W} {H H1 : Heap} (hP : va_P D vwCl (wa ++ (wc ++ wb)) H) (hD : va_D A0 (wa ++ (wc ++ wb))) (hk : ∀ q : Nat, q < H.size → ¬ va_A wc H.size q → H1[q]? = H[q]?) (hF : ∀ q, va_A wc H.size q → A0 q) (hP1 : va_P D vwCl w1 H1) (hD1 : va_D (va_A wc H.size) w1) : va_P D vwCl (wa ++ (w1 ++ wb)) H1 ∧ va_D A0 (wa ++ (w1 ++ wb)) := by
  obtain ⟨na, ⟨nc, nb, ncb⟩, nacb⟩ := nodup3.mp (nodup_of_D hD)
  have hlt := P_lt hP
  have hm := P_mem.mp hP
  have hA := D_in hD
  have inC : ∀ q : Nat, q < H.size → va_A wc H.size q → q ∈ ads wc := fun q h1 h2 => by
    rcases h2 with ⟨j, e, h⟩ | h
    · exact List.mem_map.mpr ⟨_, List.mem_of_getElem? h, rfl⟩
    · omega
  have ka : ∀ x ∈ wa, ¬ va_A wc H.size x.1 := fun x hx h => by
    have hl : x.1 < H.size := hlt x (List.mem_append_left _ hx)
    exact nacb x.1 (List.mem_map.mpr ⟨x, hx, rfl⟩) x.1 (List.mem_append_left _ (inC _ hl h)) rfl
  have kb : ∀ x ∈ wb, ¬ va_A wc H.size x.1 := fun x hx h => by
    have hl : x.1 < H.size := hlt x (List.mem_append_right _ (List.mem_append_right _ hx))
    exact ncb x.1 (inC _ hl h) x.1 (List.mem_map.mpr ⟨x, hx, rfl⟩) rfl
  have a1 := D_in hD1
  refine ⟨P_mem.mpr fun x hx => ?_, D_of (nodup3.mpr ⟨na, ⟨nodup_of_D hD1, nb, fun q hq r hr e => ?_⟩, fun q hq r hr e => ?_⟩) fun x hx => ?_⟩
  · rcases List.mem_append.mp hx with h | h
    · exact (hm x (List.mem_append_left _ h)).kept (hk _ (hlt x (List.mem_append_left _ h)) (ka x h))
    · rcases List.mem_append.mp h with h | h
      · exact P_mem.mp hP1 x h
      · exact (hm x (List.mem_append_right _ (List.mem_append_right _ h))).kept (hk _ (hlt x (List.mem_append_right _ (List.mem_append_right _ h))) (kb x h))
  · subst e
    obtain ⟨x, hx, rfl⟩ := List.mem_map.mp hq
    obtain ⟨y, hy, e⟩ := List.mem_map.mp hr
    exact kb y hy (e ▸ a1 x hx)
  · subst e
    obtain ⟨x, hx, rfl⟩ := List.mem_map.mp hq
    rcases List.mem_append.mp hr with h | h
    · obtain ⟨y, hy, e⟩ := List.mem_map.mp h
      exact ka x hx (e ▸ a1 y hy)
    · exact nacb x.1 (List.mem_map.mpr ⟨x, hx, rfl⟩) x.1 (List.mem_append_right _ h) rfl
  · rcases List.mem_append.mp hx with h | h
    · exact hA x (List.mem_append_left _ h)
    · rcases List.mem_append.mp h with h | h
      · exact hF _ (a1 x h)
      · exact hA x (List.mem_append_right _ (List.mem_append_right _ h))
theorem P_mid {D : va_G} {wa wc wb : va_W} {H : Heap} (hP : va_P D vwCl (wa ++ (wc ++ wb)) H) : va_P D vwCl wc H := P_mem.mpr fun x hx => P_mem.mp hP x (List.mem_append_right _ (List.mem_append_left _ hx))
theorem D_mid {A : Nat → Prop} {wa wc wb : va_W} (hD : va_D A (wa ++ (wc ++ wb))) : va_D A wc := D_of (nodup3.mp (nodup_of_D hD)).2.1.1 fun x hx => D_in hD x (List.mem_append_right _ (List.mem_append_left _ hx))
section GVv
variable {p : Program} {l : Launch} {e : Env} {R : Room} {s : State} {m : MethodId} {args : Array Value} {below : List Frame} {meth : Method} {c : Code} {E : EV} {A : Nat → Prop} {Q : State → Prop} {ws : va_W} {k n : Nat}
variable {cc : ByteArray} {nL : Nat} {own : String} {pc : Nat} {ls : Array Slot} {st : List Value} {g g2 : JFrame}
theorem GV.wrV (F : CallFix p m c cc nL s args LW own) (hE : CE E A s s.heap) {C : String} {b q0 ci : Nat} {T0 : u_T} {N0 : Nat} {fs : List Value} {index : Nat} {y : MethodName} {bytes : ByteArray} {maxL n0 fr lo : Nat} {ret : Option FieldType} {v : Value} {As rest st0 : List Value} {wa wc wc' wb : va_W} (hM : Wr l E y bytes maxL ret fr lo (.ref b :: As) wc wc' (some v)) (hp : (ads wc').Perm (ads wc)) (cw : CallW R s args own C index y bytes maxL ret (Cond.code y bytes maxL ret :: LW) (rmk fr 0 0 lo) 0 0 n0) (hob : ws[q0]? = some (b, .inr (ci, fs))) (hcl : vwCl[ci]? = some (C, T0, N0)) (hw : ws = wa ++ (wc ++ wb)) (hn : As.length = n0) (hsz : ls.size = nL) (hroom : (rest.map fun v => v.category).sum ≤ 8) (hkn : k ≤ R.cells ∧ n ≤ R.slots) (hd : decode cc pc = .ok (.invokevirtual index, 3)) (hst : st0 = As.reverse ++ .ref b :: rest) (kk : GV p l e R s m args below meth c E A Q (wa ++ (wc' ++ wb)) k n (F0 m (pc + 3) ls (v :: rest))) : GV p l e R s m args below meth c E A Q ws k n (F0 m pc ls st0) := by
  intro H locs hP hD hS
  subst hst
  subst hw
  have hPc := P_mid hP
  have hDc := D_mid hD
  have hcA : ∀ q, q ∈ ads wc → A q := fun q h => by
    obtain ⟨x, hx, rfl⟩ := List.mem_map.mp h
    exact D_in hDc x hx
  have hr : va_Run p l e R s m args below meth c H locs k n 0 0 (F0 m pc ls (As.reverse ++ .ref b :: rest)) rest (WQ E wc wc' (some v) (Value.ref b :: As).toArray) (fun q => q ∈ ads wc) := va_runV (As := As) (rest := rest) F hM cw ⟨PW.blind, va_recv hE.1 hP hcl hob, fun U hU hW => ⟨rfl, by rw [hU]; exact hPc, nodup_of_D hDc, by rw [hU]; exact hE.tr hW (fun q h1 h2 => hS.2.1 q h1 h2) hcA⟩⟩ rfl hn hsz rfl (lv_room hroom) hd ⟨by omega, by omega⟩
  intro T hT X
  obtain ⟨v', st₀, t, T', L, h0, X', hL, e1, e2, ⟨hv, hp', hz', ho'⟩, stp⟩ := hr T hT X
  cases hv
  rw [h0] at hz' ho'
  have hF : ∀ q, va_A wc H.size q → q ∈ ads wc ∨ H.size ≤ q := fun q h => by
    rcases h with ⟨j, e, h⟩ | h
    · exact Or.inl (List.mem_map.mpr ⟨_, List.mem_of_getElem? h, rfl⟩)
    · exact Or.inr h
  have hA2 : ∀ q, va_A wc H.size q → (A q ∨ H.size ≤ q) := fun q h => (hF q h).imp (hcA q) id
  have hN2 : (ads wc').Nodup := hp.nodup_iff.mpr (nodup_of_D hDc)
  obtain ⟨P1, D1⟩ := join3 (A0 := fun q => A q ∨ H.size ≤ q) (w1 := wc') (H1 := T'.heap) hP (hD.weaken (fun _ _ _ h => Or.inl h)) (fun q h1 h2 => by rw [e1]; exact ho' q (fun h => h2 (by obtain ⟨x, hx, rfl⟩ := List.mem_map.mp h; obtain ⟨j, hj⟩ := List.getElem?_of_mem hx; exact Or.inl ⟨j, x.2, hj⟩))) hA2 (by rw [e1]; exact hp') (D_of hN2 fun x hx => by
    have h := hp.mem_iff.mp (List.mem_map.mpr ⟨x, hx, rfl⟩)
    obtain ⟨y, hy, e⟩ := List.mem_map.mp h
    obtain ⟨j, hj⟩ := List.getElem?_of_mem hy
    exact Or.inl ⟨j, y.2, by rw [hj, ← e]⟩)
  have D2 : va_D A (wa ++ (wc' ++ wb)) := D_of (nodup_of_D D1) fun x hx => by
    rcases List.mem_append.mp hx with h | h
    · exact D_in hD x (List.mem_append_left _ h)
    · rcases List.mem_append.mp h with h | h
      · exact hcA _ (hp.mem_iff.mp (List.mem_map.mpr ⟨x, h, rfl⟩))
      · exact D_in hD x (List.mem_append_right _ (List.mem_append_right _ h))
  obtain ⟨t2, a1, b1⟩ := kk T'.heap (locs ++ L) P1 D2 ⟨by rw [e1, hz']; exact hS.1, fun q h1 h2 => by rw [e1, ho' q (fun h => h2 (hcA q h))]; exact hS.2.1 q h1 h2, fun z hz => (List.mem_append.mp hz).elim (hS.2.2 z) (fun h => hcA _ (hL z h))⟩ T' rfl X'
  exact ⟨t2, stp t2 a1, b1⟩
theorem GV.rdV (F : CallFix p m c cc nL s args LW own) (hE : CE E A s s.heap) {C : String} {b q0 ci : Nat} {T0 : u_T} {N0 : Nat} {fs : List Value} {index : Nat} {y : MethodName} {bytes : ByteArray} {maxL n0 fr lo : Nat} {ret : Option FieldType} {v : Value} {As rest st0 : List Value} {wa wc wb : va_W} (hM : Rd l E y bytes maxL ret fr lo (.ref b :: As) wc (some v)) (cw : CallW R s args own C index y bytes maxL ret (Cond.code y bytes maxL ret :: LW) (rmk fr 0 0 lo) 0 0 n0) (hob : ws[q0]? = some (b, .inr (ci, fs))) (hcl : vwCl[ci]? = some (C, T0, N0)) (hw : ws = wa ++ (wc ++ wb)) (hn : As.length = n0) (hsz : ls.size = nL) (hroom : (rest.map fun v => v.category).sum ≤ 8) (hkn : k ≤ R.cells ∧ n ≤ R.slots) (hd : decode cc pc = .ok (.invokevirtual index, 3)) (hst : st0 = As.reverse ++ .ref b :: rest) (kk : GV p l e R s m args below meth c E A Q ws k n (F0 m (pc + 3) ls (v :: rest))) : GV p l e R s m args below meth c E A Q ws k n (F0 m pc ls st0) := by
  intro H locs hP hD hS
  subst hst
  have hPc : va_P E.1 vwCl wc H := by subst hw; exact P_mid hP
  have hr : va_Run p l e R s m args below meth c H locs k n 0 0 (F0 m pc ls (As.reverse ++ .ref b :: rest)) rest (RQ (some v) (Value.ref b :: As).toArray) (fun _ => False) := va_runV (As := As) (rest := rest) F hM cw ⟨PB.blind, va_recv hE.1 hP hcl hob, fun U hU hW => ⟨rfl, by rw [hU]; exact hPc, by rw [hU]; exact hE.tr hW (fun q h1 h2 => hS.2.1 q h1 h2) (fun _ h => h.elim)⟩⟩ rfl hn hsz rfl (lv_room hroom) hd ⟨by omega, by omega⟩
  intro T hT X
  obtain ⟨v', st₀, t, T', L, h0, X', hL, e1, e2, ⟨hv, hh⟩, stp⟩ := hr T hT X
  cases hv
  have hLn : L = [] := by
    cases L with
    | nil => rfl
    | cons a _ => exact (hL a List.mem_cons_self).elim
  subst hLn
  rw [List.append_nil] at X'
  obtain ⟨t2, a1, b1⟩ := kk H locs hP hD hS T' (by rw [e1, hh, h0]) X'
  exact ⟨t2, stp t2 a1, b1⟩
theorem GV.thr (F : CallFix p m c cc nL s args LW own) (hE : CE E A s s.heap) {C : String} {b q0 ci : Nat} {T0 : u_T} {N0 : Nat} {fs : List Value} {index : Nat} {y : MethodName} {bytes : ByteArray} {maxL n0 fr lo : Nat} {ret : Option FieldType} {As rest st0 : List Value} {wa wc wb : va_W} {cls name : String} (hM : Th l E y bytes maxL ret fr lo (.ref b :: As) wc cls) (cw : CallW R s args own C index y bytes maxL ret (Cond.code y bytes maxL ret :: LW) (rmk fr 1 6 lo) 1 6 n0) (hob : ws[q0]? = some (b, .inr (ci, fs))) (hcl : vwCl[ci]? = some (C, T0, N0)) (hw : ws = wa ++ (wc ++ wb)) (hn : As.length = n0) (hsz : ls.size = nL) (hroom : (rest.map fun v => v.category).sum ≤ 8) (hkn : k + 1 ≤ R.cells ∧ n + 6 ≤ R.slots) (hd : decode cc pc = .ok (.invokevirtual index, 3)) (hst : st0 = As.reverse ++ .ref b :: rest)
    (pre : List ExceptionTableEntry) (x : ExceptionTableEntry) (suf : List ExceptionTableEntry) (hsplit : c.exceptionTable.toList = pre ++ x :: suf) (hpass : ∀ z ∈ pre, z.catchType ≠ 0 ∧ ∃ nm : String, Cond.classLink own z.catchType nm ∈ LW ∧ va_Nc cls nm s) (hx : covers x pc = true) (h0 : x.catchType ≠ 0) (hlink : Cond.classLink own x.catchType name ∈ LW) (hcast : (Cond.castable cls name).before args s = true)
    (kk : ∀ q : Nat, GV p l e R s m args below meth c E A Q ws (k + 1) (n + 6) (F0 m x.handlerPc ls [.ref q])) : GV p l e R s m args below meth c E A Q ws k n (F0 m pc ls st0) := by
  intro H locs hP hD hS
  subst hst
  have hPc : va_P E.1 vwCl wc H := by subst hw; exact P_mid hP
  have hr : vx_Run p l e R s m args below meth c H locs k n 1 6 (F0 m pc ls (As.reverse ++ .ref b :: rest)) rest (TF (Value.ref b :: As).toArray) (TQ cls) (fun _ => False) := vx_runV (As := As) (rest := rest) F hM cw ⟨PB.blind, va_recv hE.1 hP hcl hob, fun U hU hW => ⟨rfl, by rw [hU]; exact hPc, by rw [hU]; exact hE.tr hW (fun q h1 h2 => hS.2.1 q h1 h2) (fun _ h => h.elim)⟩⟩ rfl hn hsz rfl (lv_room hroom) hd hkn
  intro T hT X
  rcases hr T hT X with ⟨v', st₀, t, T', L, g0, X', hL, e1, e2, hv, stp⟩ | ⟨q, st₀, t, T', L, E', ce, g0, X', hL, e1, e2, ⟨hc1, hc2, hc3⟩, hce, hcv, hcl2, stp⟩
  · exact hv.elim
  · have hLn : L = [] := by
      cases L with
      | nil => rfl
      | cons a _ => exact (hL a List.mem_cons_self).elim
    subst hLn
    subst hc1
    rw [List.append_nil] at X'
    have hz : H.size ≤ T'.heap.size := by rw [e1, ← g0]; exact hc2
    have ho : ∀ r : Nat, r < H.size → T'.heap[r]? = H[r]? := fun r hr => by rw [e1, ← g0]; exact hc3 r (by rw [g0]; exact hr)
    have hP2 : va_P E.1 vwCl ws T'.heap := P_mem.mpr fun z hz => (P_mem.mp hP z hz).kept (ho _ (P_lt hP z hz))
    have hS2 : va_S A s.heap T'.heap locs := ⟨Nat.le_trans hS.1 hz, fun r h1 h2 => (ho r (Nat.lt_of_lt_of_le h1 hS.1)).trans (hS.2.1 r h1 h2), hS.2.2⟩
    obtain ⟨t2, a1, b1⟩ := vx_catch (H := T'.heap) (rest := rest) (name := name) F.2.2.2.1 pre x suf hsplit (fun z hz => Or.inr ⟨(hpass z hz).1, (hpass z hz).2.imp fun nm h => ⟨F.2.2.2.2 _ h.1, h.2⟩⟩) hx h0 (F.2.2.2.2 _ hlink) hcast (by rw [e1]; exact hce) hcv hcl2 (kk q T'.heap locs hP2 hD hS2) T' rfl X'
    exact ⟨t2, stp.trans a1, b1⟩
/-- the law's own static calls: they return a number, and make at most one cell of six slots -/
def Gx (l : Launch) (E : EV) (y : MethodName) (cc : ByteArray) (maxL : Nat) (hh : List (Nat × Nat × Nat × Nat)) (fr lo : Nat) (av : List Value) (w0 w1 : va_W) (v : Int32) : Prop :=
  ∀ sz, Met l y (Cond.codeWith y cc maxL (some .int) hh :: LW) (rmk fr 1 6 lo) (va_Pc av (fun U => U.heap.size = sz ∧ va_P E.1 vwCl w0 U.heap ∧ CE E (va_A w0 sz) U U.heap ∧ va_D (fun _ => True) w0)) (va_Qi (fun r (_ : Unit) => r = v) (fun _ t => va_P E.1 vwCl w1 t.heap ∧ va_D (va_A w0 sz) w1) (va_A w0 sz)) 1 6 (va_A w0 sz)
theorem Gx.mk0 {y : MethodName} {maxL fr lo : Nat} {hh : List (Nat × Nat × Nat × Nat)} {av : List Value} {w0 w1 : va_W} {v : Int32} (hy : plainName y.cls = true) (hlen : (lg_sl av).length ≤ maxL)
    (body : ∀ (p : Program) (e : Env) (s : State) (m : MethodId) (args : Array Value) (below : List Frame) (meth : Method) (c : Code) (A : Nat → Prop), CallFix p m c cc maxL s args LW y.cls → meth.sig.returnType = some .int → meth.locks = false → c.exceptionTable.toList = tableOf hh → CE E A s s.heap → ∀ ls, lv_has ls maxL (lv_args 0 av) → GV p l e (rmk fr 1 6 lo) s m args below meth c E A (MQ below (va_Qi (fun r (_ : Unit) => r = v) (fun _ t => va_P E.1 vwCl w1 t.heap ∧ va_D A w1) A) args s 1 6 A) w0 0 0 (F0 m 0 ls [])) : Gx l E y cc maxL hh fr lo av w0 w1 v := by
  intro sz
  refine va_MetW (cc := cc) (maxL := maxL) (ret := some .int) (hh := hh) hy rfl ?_
  intro p e s m args below meth c s₁ B hml hv
  obtain ⟨rfl, hsz, hP, hE, hD0⟩ := hv
  subst hsz
  have hts := atoms_spec (ws := Cond.codeWith y cc maxL (some .int) hh :: LW) B.pre
  rw [lg_entry_eq]
  exact body p e s m _ below meth c (va_A w0 s.heap.size) ⟨B.exec, B.bytes, hml, findClass_of_methodNamed B.named, fun w h => hts w (List.mem_cons_of_mem _ h)⟩ B.returns B.notSynchronized (vx_table (x := y) B (hts _ List.mem_cons_self)) hE _ (lv_entry av hlen) s.heap [] hP hD0.self va_S.rf
theorem GV.iret (F : CallFix p m c cc nL s args LW own) (hr : meth.sig.returnType = some .int) (hk : meth.locks = false) {w1 : va_W} {v r : Int32} {mc ms : Nat} (hp : r = v) (hw : ws = w1) (h1 : k ≤ mc) (h2 : n ≤ ms) (hd : decode cc pc = .ok (.ireturn, 1)) : GV p l e R s m args below meth c E A (MQ below (va_Qi (fun r (_ : Unit) => r = v) (fun _ t => va_P E.1 vwCl w1 t.heap ∧ va_D A w1) A) args s mc ms A) ws k n (F0 m pc ls [.int r]) := by
  subst hw
  exact fun H locs hP hD hS => W.widen h1 h2 (W.iret F.1 F.2.1 hr (fun t ht _ => ⟨⟨r, (), rfl, hp, by rw [ht]; exact hP, hD⟩, hS.F ht⟩) hS.2.2 hd hk)
theorem GV.gx (F : CallFix p m c cc nL s args LW own) (hE : CE E A s s.heap) (hA : ∀ q, s.heap.size ≤ q → A q) {index n0 : Nat} {y : MethodName} {bytes : ByteArray} {maxL fr lo : Nat} {hh : List (Nat × Nat × Nat × Nat)} {v : Int32} {As rest st0 : List Value} {wa wc wc' wb : va_W} (hM : Gx l E y bytes maxL hh fr lo As wc wc' v) (cw : vx_CSW R s args own index y bytes maxL (some .int) hh (Cond.codeWith y bytes maxL (some .int) hh :: LW) (rmk fr 1 6 lo) 1 6 n0) (hw : ws = wa ++ (wc ++ wb)) (hn : As.length = n0) (hsz : ls.size = nL) (hroom : (rest.map fun v => v.category).sum ≤ 8) (hkn : k + 1 ≤ R.cells ∧ n + 6 ≤ R.slots) (hd : decode cc pc = .ok (.invokestatic index, 3)) (hst : st0 = As.reverse ++ rest) (kk : GV p l e R s m args below meth c E A Q (wa ++ (wc' ++ wb)) (k + 1) (n + 6) (F0 m (pc + 3) ls (.int v :: rest))) : GV p l e R s m args below meth c E A Q ws k n (F0 m pc ls st0) := by
  intro H locs hP hD hS
  subst hst
  subst hw
  have hPc := P_mid hP
  have hDc := D_mid hD
  have hF : ∀ q, va_A wc H.size q → A q := fun q h => by
    rcases h with ⟨j, e, h⟩ | h
    · exact D_in hDc _ (List.mem_of_getElem? h)
    · exact hA q (Nat.le_trans hS.1 h)
  refine va_calli (vx_runSW (As := As) (rest := rest) F (hM H.size) cw ⟨fun a U g mk q => ⟨q.1, q.2.1, q.2.2.1, q.2.2.2.1.same rfl, q.2.2.2.2⟩, fun U hU hW => ⟨rfl, by rw [hU], by rw [hU]; exact hPc, by rw [hU]; exact hE.tr hW (fun q h1 h2 => hS.2.1 q h1 h2) hF, hDc.weaken (fun _ _ _ _ => trivial)⟩⟩ rfl hn hsz rfl (lv_room hroom) hd hkn) hS (fun q _ h => hF q h) hF (fun r u t H1 locs1 ht hvm hp hB hz1 hk1 hS1 => ?_)
  subst hp
  obtain ⟨hP1, hD1⟩ := hB
  rw [ht] at hP1
  obtain ⟨P1, D1⟩ := join3 hP hD hk1 hF hP1 hD1
  exact kk H1 locs1 P1 D1 hS1
end GVv
