/-! exceptions: contracts Th of methods that throw (class cls, one cell more, nothing else touched), and rows of V that end in a throw -/
theorem nw_use {w : Cond} (hw : w ∈ NWL) {A : Array Value} {U : State} (h : NW U) : w.before A U = true := va_Nw.use (by have := NWL_ok hw; cases w <;> first | rfl | (simp [nwOk] at this)) (h w hw)
def TQ (cls : String) : String → State → State → Prop := fun x st t => x = cls ∧ st.heap.size ≤ t.heap.size ∧ ∀ q : Nat, q < st.heap.size → t.heap[q]? = st.heap[q]?
def TF : Array Value → State → Outcome → State → Prop := fun _ _ _ _ => False
abbrev TM (below : List Frame) (cls : String) (args : Array Value) (s : State) : State → Prop := vx_MQ below TF (TQ cls) args s 1 6 (fun _ => False)
def Th (l : Launch) (E : EV) (y : MethodName) (cc : ByteArray) (maxL : Nat) (ret : Option FieldType) (fr lo : Nat) (av : List Value) (ws : va_W) (cls : String) : Prop :=
  vx_Met l y (Cond.code y cc maxL ret :: LW) (rmk fr 1 6 lo) (va_Pc av (PB E ws)) TF (TQ cls) 1 6 (fun _ => False)
theorem Th.mk0 {l : Launch} {E : EV} {y : MethodName} {cc : ByteArray} {maxL fr lo : Nat} {ret : Option FieldType} {av : List Value} {ws : va_W} {cls : String} (hy : plainName y.cls = true) (hlen : (lg_sl av).length ≤ maxL)
    (body : ∀ (p : Program) (e : Env) (s : State) (m : MethodId) (args : Array Value) (below : List Frame) (meth : Method) (c : Code), CallFix p m c cc maxL s args LW y.cls → meth.locks = false → (∀ x ∈ c.exceptionTable.toList, False) → CE E (fun q => q ∈ ([] : List Nat)) s s.heap → ∀ ls, lv_has ls maxL (lv_args 0 av) → V p l e (rmk fr 1 6 lo) s m args below meth c E [] (TM below cls args s) ws (F0 m 0 ls [])) : Th l E y cc maxL ret fr lo av ws cls := by
  refine vx_ofW (cc := cc) (maxL := maxL) (ret := ret) hy rfl ?_
  intro p e s m args below meth c s₁ B hml hx hv
  obtain ⟨rfl, hP, hE⟩ := hv
  have hts := atoms_spec (ws := Cond.code y cc maxL ret :: LW) B.pre
  rw [lg_entry_eq]
  exact body p e s m _ below meth c ⟨B.exec, B.bytes, hml, findClass_of_methodNamed B.named, fun w h => hts w (List.mem_cons_of_mem _ h)⟩ B.notSynchronized hx (hE.tr (State.WarmedH.refl s) (fun _ _ _ => rfl) (fun q h => absurd h List.not_mem_nil)) _ (lv_entry av hlen) s.heap [] hP rfl (fun _ _ => rfl) (fun _ h => absurd h List.not_mem_nil)
abbrev nmL : List String := ["java/lang/RuntimeException", "java/lang/Exception"]
def ThW (ik ic : Nat) (cls : String) : Prop := Bundle.fit cls = true ∧ Cond.classLink RX6 ik cls ∈ LW ∧ Cond.initialized cls ∈ LW ∧ (∀ w ∈ (vx_atS RX6 ic cls nmL).filter goodWord, w ∈ LW) ∧ (∀ w ∈ (vx_atS RX6 ic cls nmL).filter (fun w => !goodWord w), w ∈ NWL) ∧ ∀ w ∈ Cond.classLink RX6 ik cls :: Cond.initialized cls :: vx_atS RX6 ic cls nmL, vx_ot w = true
theorem ThW.mk {ik ic a b : Nat} {cls : String} (g n : List Nat) (h0 : Bundle.fit cls = true) (h1 : lw_tbl[a]? = some (Cond.classLink RX6 ik cls)) (h2 : lw_tbl[b]? = some (Cond.initialized cls)) (h3 : (vx_atS RX6 ic cls nmL).filter goodWord = g.filterMap (fun i => lw_tbl[i]?)) (h4 : (vx_atS RX6 ic cls nmL).filter (fun w => !goodWord w) = n.filterMap (fun i => lw_tbl[i]?))
    (h5 : (n.filterMap (fun i => lw_tbl[i]?)).all (fun w => !goodWord w && nwOk w) = true) (h6 : (Cond.classLink RX6 ik cls :: Cond.initialized cls :: vx_atS RX6 ic cls nmL).all vx_ot = true) : ThW ik ic cls := by
  refine ⟨h0, LW_mk a h1 rfl, LW_mk b h2 rfl, fun w hw => ?_, fun w hw => ?_, List.all_eq_true.mp h6⟩
  · have hg := (List.mem_filter.mp hw).2
    rw [h3] at hw
    obtain ⟨i, -, hi⟩ := List.mem_filterMap.mp hw
    exact LW_mk i hi hg
  · rw [h4] at hw
    have hq := List.all_eq_true.mp h5 w hw
    obtain ⟨i, -, hi⟩ := List.mem_filterMap.mp hw
    exact NWL_mk i hi hq
theorem thw_xI : ThW 271 275 xI := ThW.mk (a := 436) (b := 15) [11,222,231,235,238,240,223,224,23,24,225,230,236,256,212,257,214,258,216,226,228,218,252,253,255,218,447,448,449,246,246,247,248,249,249,250,251,252,446,437,439,234,440,441,442,443,221,220,444] [204,206,208,438] (by decide) (by decide +kernel) (by decide +kernel) (by decide +kernel) (by decide +kernel) (by decide +kernel) (by decide +kernel)
theorem thw_xA : ThW 282 286 xA := ThW.mk (a := 317) (b := 14) [11,222,231,235,238,240,223,224,23,24,225,230,236,256,212,257,214,258,216,226,228,218,252,253,255,218,328,329,330,246,246,247,248,249,249,250,251,252,327,318,320,233,321,322,323,324,221,220,325] [204,206,208,319] (by decide) (by decide +kernel) (by decide +kernel) (by decide +kernel) (by decide +kernel) (by decide +kernel) (by decide +kernel)
theorem thw_xS : ThW 287 291 xS := ThW.mk (a := 200) (b := 16) [11,222,231,235,238,240,223,224,23,24,225,230,236,256,212,257,214,258,216,226,228,218,252,253,255,218,243,244,245,246,246,247,248,249,249,250,251,252,242,201,209,210,211,213,215,217,221,220,219] [204,206,208,202] (by decide) (by decide +kernel) (by decide +kernel) (by decide +kernel) (by decide +kernel) (by decide +kernel) (by decide +kernel)
section V6
variable {p : Program} {l : Launch} {e : Env} {R : Room} {s : State} {m : MethodId} {args : Array Value} {below : List Frame} {meth : Method} {c : Code} {E : EV} {ws : va_W}
variable {cc : ByteArray} {nL : Nat} {own : String} {pc : Nat} {ls : Array Slot}
theorem TQ.of {cls : String} {H : Heap} {t : State} (hz : H.size = s.heap.size) (ho : ∀ q : Nat, q ∉ ([] : List Nat) → H[q]? = s.heap[q]?) (h1 : H.size ≤ t.heap.size) (h2 : ∀ q : Nat, q < H.size → t.heap[q]? = H[q]?) : TQ cls cls s t :=
  ⟨rfl, hz ▸ h1, fun q hq => (h2 q (hz ▸ hq)).trans (ho q List.not_mem_nil)⟩
theorem V.thr (F : CallFix p m c cc nL s args LW RX6) (hE : CE E (fun q => q ∈ ([] : List Nat)) s s.heap) (hst : l.stackTraces = false) (hx : ∀ x ∈ c.exceptionTable.toList, False) (hk : meth.locks = false) {ik ic is sa : Nat} {cls text : String} (hW : ThW ik ic cls) (hstr : vk_R RX6 is text sa s)
    (d0 : decode cc pc = .ok (.new ik, 3)) (d3 : decode cc (pc + 3) = .ok (.dup, 1)) (d4 : decode cc (pc + 4) = .ok (.ldc_w is, 3)) (d7 : decode cc (pc + 7) = .ok (.invokespecial ic, 3)) (d10 : decode cc (pc + 10) = .ok (.athrow, 1)) (hsz : ls.size = nL) (hR : 5 < R.frames ∧ 82 ≤ R.locals ∧ 1 ≤ R.cells ∧ 6 ≤ R.slots) :
    V p l e R s m args below meth c E [] (TM below cls args s) ws (F0 m pc ls []) := by
  obtain ⟨w1, w2, w3, w4, w5, w6⟩ := hW
  intro H locs hP hz ho hl
  refine vx_throwSW (names := nmL) (A := fun q => q ∈ ([] : List Nat)) F.1 F.2.1 hst F.2.2.2.1 w1 (by decide) (F.2.2.2.2 _ w2) (F.2.2.2.2 _ w3) hstr (vx_hat (B := NWL) (fun w hw => F.2.2.2.2 _ (w4 w hw)) w5 (fun w hw => nw_use hw hE.2.1)) w6 hE.2.2.2.2.2.1 hE.2.2.2.2.2.2 ⟨Nat.le_of_eq hz.symm, fun q _ h2 => ho q h2, hl⟩ (hsz.trans F.2.2.1.symm) d0 d3 d4 d7 d10 (fun x h => (hx x h).elim) hR.1 hR.2.1 hR.2.2.1 hR.2.2.2 hk
    (fun t _ h1 h2 => TQ.of hz ho h1 h2) (fun z h => absurd (hl z h) List.not_mem_nil) (Nat.le_refl _) (Nat.le_refl _)
theorem V.thS (F : CallFix p m c cc nL s args LW own) (hE : CE E (fun q => q ∈ ([] : List Nat)) s s.heap) (hx : ∀ x ∈ c.exceptionTable.toList, False) (hk : meth.locks = false) {index : Nat} {y : MethodName} {bytes : ByteArray} {maxL n fr lo : Nat} {ret : Option FieldType} {As rest st0 : List Value} {wc : va_W} {cls : String} (hM : Th l E y bytes maxL ret fr lo As wc cls) (cw : CallB R s args own index y bytes maxL ret (Cond.code y bytes maxL ret :: LW) (rmk fr 1 6 lo) 1 6 n ∧ (Cond.static y).before args s = true) (is : List Nat) (hC : is.map (fun i => ws[i]?) = wc.map some) (hn : As.length = n) (hsz : ls.size = nL) (hroom : (rest.map fun v => v.category).sum ≤ 8) (hd : decode cc pc = .ok (.invokestatic index, 3)) (hst : st0 = As.reverse ++ rest) (hR : 1 ≤ R.cells ∧ 6 ≤ R.slots) : V p l e R s m args below meth c E [] (TM below cls args s) ws (F0 m pc ls st0) := by
  intro H locs hP hz ho hl
  subst hst
  have hr : vx_Run p l e R s m args below meth c H locs 0 0 1 6 (F0 m pc ls (As.reverse ++ rest)) rest (TF (As).toArray) (TQ cls) (fun _ => False) := vx_runS (As := As) (rest := rest) F hM cw ⟨PB.blind, fun U hU hW => ⟨rfl, by rw [hU]; exact P_sub hP is hC, hE.at ho (fun _ h => h.elim) hU hW⟩⟩ rfl hn hsz rfl (lv_room hroom) hd ⟨by omega, by omega⟩
  intro T hT X
  rcases hr T hT X with ⟨v', st₀, t, T', L, h0, X', hL, e1, e2, hv, stp⟩ | ⟨q, st₀, t, T', L, E', ce, h0, X', hL, e1, e2, ⟨hc1, hc2, hc3⟩, hce, hcv, hcl, stp⟩
  · exact hv.elim
  · have hLn : L = [] := by
      cases L with
      | nil => rfl
      | cons a _ => exact (hL a List.mem_cons_self).elim
    subst hLn
    subst hc1
    rw [List.append_nil] at X'
    obtain ⟨t2, a1, b1⟩ := vx_out (H := T'.heap) (pc := pc) (ls := ls) (rest := rest) (Qc := TF) (XC := TQ E') (args := args) (free := fun _ => False) (mc := 1) (ms := 6) (below := below) (p := p) (e := e) (fun x h => (hx x h).elim) hk (by rw [e1]; exact hce) hcv hcl (fun t9 ht _ => TQ.of hz ho (by rw [ht, e1, ← h0]; exact hc2) (fun q hq => by rw [ht, e1, ← h0]; exact hc3 q (by rw [h0]; exact hq))) (fun z h => absurd (hl z h) List.not_mem_nil) (Nat.le_refl _) (Nat.le_refl _) T' rfl X'
    exact ⟨t2, stp.trans a1, b1⟩
theorem V.thV (F : CallFix p m c cc nL s args LW own) (hE : CE E (fun q => q ∈ ([] : List Nat)) s s.heap) (hx : ∀ x ∈ c.exceptionTable.toList, False) (hk : meth.locks = false) {C : String} {b q0 ci : Nat} {T0 : u_T} {N0 : Nat} {fs : List Value} {index : Nat} {y : MethodName} {bytes : ByteArray} {maxL n fr lo : Nat} {ret : Option FieldType} {As rest st0 : List Value} {wc : va_W} {cls : String} (hM : Th l E y bytes maxL ret fr lo (.ref b :: As) wc cls) (cw : CallW R s args own C index y bytes maxL ret (Cond.code y bytes maxL ret :: LW) (rmk fr 1 6 lo) 1 6 n) (hob : ws[q0]? = some (b, .inr (ci, fs))) (hcl : vwCl[ci]? = some (C, T0, N0)) (is : List Nat) (hC : is.map (fun i => ws[i]?) = wc.map some) (hn : As.length = n) (hsz : ls.size = nL) (hroom : (rest.map fun v => v.category).sum ≤ 8) (hd : decode cc pc = .ok (.invokevirtual index, 3)) (hst : st0 = As.reverse ++ .ref b :: rest) (hR : 1 ≤ R.cells ∧ 6 ≤ R.slots) : V p l e R s m args below meth c E [] (TM below cls args s) ws (F0 m pc ls st0) := by
  intro H locs hP hz ho hl
  subst hst
  have hr : vx_Run p l e R s m args below meth c H locs 0 0 1 6 (F0 m pc ls (As.reverse ++ .ref b :: rest)) rest (TF (Value.ref b :: As).toArray) (TQ cls) (fun _ => False) := vx_runV (As := As) (rest := rest) F hM cw ⟨PB.blind, va_recv hE.1 hP hcl hob, fun U hU hW => ⟨rfl, by rw [hU]; exact P_sub hP is hC, hE.at ho (fun _ h => h.elim) hU hW⟩⟩ rfl hn hsz rfl (lv_room hroom) hd ⟨by omega, by omega⟩
  intro T hT X
  rcases hr T hT X with ⟨v', st₀, t, T', L, h0, X', hL, e1, e2, hv, stp⟩ | ⟨q, st₀, t, T', L, E', ce, h0, X', hL, e1, e2, ⟨hc1, hc2, hc3⟩, hce, hcv, hcl, stp⟩
  · exact hv.elim
  · have hLn : L = [] := by
      cases L with
      | nil => rfl
      | cons a _ => exact (hL a List.mem_cons_self).elim
    subst hLn
    subst hc1
    rw [List.append_nil] at X'
    obtain ⟨t2, a1, b1⟩ := vx_out (H := T'.heap) (pc := pc) (ls := ls) (rest := rest) (Qc := TF) (XC := TQ E') (args := args) (free := fun _ => False) (mc := 1) (ms := 6) (below := below) (p := p) (e := e) (fun x h => (hx x h).elim) hk (by rw [e1]; exact hce) hcv hcl (fun t9 ht _ => TQ.of hz ho (by rw [ht, e1, ← h0]; exact hc2) (fun q hq => by rw [ht, e1, ← h0]; exact hc3 q (by rw [h0]; exact hq))) (fun z h => absurd (hl z h) List.not_mem_nil) (Nat.le_refl _) (Nat.le_refl _) T' rfl X'
    exact ⟨t2, stp.trans a1, b1⟩
end V6
