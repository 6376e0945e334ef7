/-! worlds that grow: constructors -/
section GVs
variable {p : Program} {l : Launch} {e : Env} {R : Room} {s : State} {m : MethodId} {args : Array Value} {below : List Frame} {meth : Method} {c : Code} {E : EV} {A : Nat → Prop} {Q : State → Prop} {ws : va_W} {k n : Nat}
variable {cc : ByteArray} {nL : Nat} {own : String} {pc : Nat} {ls : Array Slot} {st : List Value} {g g2 : JFrame}
def GV (p : Program) (l : Launch) (e : Env) (R : Room) (s : State) (m : MethodId) (args : Array Value) (below : List Frame) (meth : Method) (c : Code) (E : EV) (A : Nat → Prop) (Q : State → Prop) (ws : va_W) (k n : Nat) (g : JFrame) : Prop :=
  ∀ (H : Heap) (locs : List Loc), va_P E.1 vwCl ws H → va_D A ws → va_S A s.heap H locs → W p l e R s m args below meth c H locs k n Q g
theorem GV.go (h : ∀ H locs, W p l e R s m args below meth c H locs k n Q g2 → W p l e R s m args below meth c H locs k n Q g) (kk : GV p l e R s m args below meth c E A Q ws k n g2) : GV p l e R s m args below meth c E A Q ws k n g := fun H locs a b d => h H locs (kk H locs a b d)
theorem GV.weq {ws' : va_W} (h : ws = ws') (kk : GV p l e R s m args below meth c E A Q ws' k n g) : GV p l e R s m args below meth c E A Q ws k n g := h ▸ kk
theorem GV.aload_n (F : CallFix p m c cc nL s args LW own) {k0 : Fin 4} {i : Nat} {x : Nat} (hd : decode cc pc = .ok (.aload_n k0, 1)) (hi : (k0 : Nat) = i) (hl : ls[i]? = some (.val (.ref x))) (kk : GV p l e R s m args below meth c E A Q ws k n (F0 m (pc + 1) ls (.ref x :: st))) : GV p l e R s m args below meth c E A Q ws k n (F0 m pc ls st) := GV.go (fun _ _ kk => lv_aload_n F.1 F.2.1 hd hi hl kk) kk
theorem GV.iload_n (F : CallFix p m c cc nL s args LW own) {k0 : Fin 4} {i : Nat} {x : Int32} (hd : decode cc pc = .ok (.iload_n k0, 1)) (hi : (k0 : Nat) = i) (hl : ls[i]? = some (.val (.int x))) (kk : GV p l e R s m args below meth c E A Q ws k n (F0 m (pc + 1) ls (.int x :: st))) : GV p l e R s m args below meth c E A Q ws k n (F0 m pc ls st) := GV.go (fun _ _ kk => lv_iload_n F.1 F.2.1 hd hi hl kk) kk
theorem GV.iconst (F : CallFix p m c cc nL s args LW own) {i : Int} {v : Int32} (hd : decode cc pc = .ok (.iconst i, 1)) (hv : Int32.ofInt i = v) (kk : GV p l e R s m args below meth c E A Q ws k n (F0 m (pc + 1) ls (.int v :: st))) : GV p l e R s m args below meth c E A Q ws k n (F0 m pc ls st) := GV.go (fun _ _ kk => lv_iconst F.1 F.2.1 hd hv kk) kk
theorem GV.bipush (F : CallFix p m c cc nL s args LW own) {i : Int} {v : Int32} (hd : decode cc pc = .ok (.bipush i, 2)) (hv : (Int8.ofInt i).toInt32 = v) (kk : GV p l e R s m args below meth c E A Q ws k n (F0 m (pc + 2) ls (.int v :: st))) : GV p l e R s m args below meth c E A Q ws k n (F0 m pc ls st) := GV.go (fun _ _ kk => lv_bipush F.1 F.2.1 hd hv kk) kk
theorem GV.sipush (F : CallFix p m c cc nL s args LW own) {i : Int} {v : Int32} (hd : decode cc pc = .ok (.sipush i, 3)) (hv : (Int16.ofInt i).toInt32 = v) (kk : GV p l e R s m args below meth c E A Q ws k n (F0 m (pc + 3) ls (.int v :: st))) : GV p l e R s m args below meth c E A Q ws k n (F0 m pc ls st) := GV.go (fun _ _ kk => lv_sipush F.1 F.2.1 hd hv kk) kk
theorem GV.dup (F : CallFix p m c cc nL s args LW own) {x : Nat} (hd : decode cc pc = .ok (.dup, 1)) (kk : GV p l e R s m args below meth c E A Q ws k n (F0 m (pc + 1) ls (.ref x :: .ref x :: st))) : GV p l e R s m args below meth c E A Q ws k n (F0 m pc ls (.ref x :: st)) := GV.go (fun _ _ kk => lv_dup F.1 F.2.1 hd rfl kk) kk
theorem GV.iadd (F : CallFix p m c cc nL s args LW own) {x y z : Int32} (hd : decode cc pc = .ok (.iadd, 1)) (hz : x + y = z) (kk : GV p l e R s m args below meth c E A Q ws k n (F0 m (pc + 1) ls (.int z :: st))) : GV p l e R s m args below meth c E A Q ws k n (F0 m pc ls (.int y :: .int x :: st)) := by
  subst hz
  exact GV.go (fun _ _ kk => lv_iadd F.1 F.2.1 hd kk) kk
theorem GV.goto (F : CallFix p m c cc nL s args LW own) {off : Int} {tgt : Nat} (hd : decode cc pc = .ok (.goto off, 3)) (ht : (pc : Int) + off = (tgt : Int)) (kk : GV p l e R s m args below meth c E A Q ws k n (F0 m tgt ls st)) : GV p l e R s m args below meth c E A Q ws k n (F0 m pc ls st) := GV.go (fun _ _ kk => lv_goto F.1 F.2.1 hd ht kk) kk
theorem GV.ge_t (F : CallFix p m c cc nL s args LW own) {x y : Int32} {off : Int} {tgt : Nat} (hd : decode cc pc = .ok (.if_icmp .ge off, 3)) (ht : (pc : Int) + off = (tgt : Int)) (h : y ≤ x) (kk : GV p l e R s m args below meth c E A Q ws k n (F0 m tgt ls st)) : GV p l e R s m args below meth c E A Q ws k n (F0 m pc ls (.int y :: .int x :: st)) := fun H locs a b d => lv_icmp_ge F.1 F.2.1 hd ht (fun _ => kk H locs a b d) (fun h2 => absurd h h2)
theorem GV.ge_f (F : CallFix p m c cc nL s args LW own) {x y : Int32} {off : Int} {tgt : Nat} (hd : decode cc pc = .ok (.if_icmp .ge off, 3)) (ht : (pc : Int) + off = (tgt : Int)) (h : ¬ y ≤ x) (kk : GV p l e R s m args below meth c E A Q ws k n (F0 m (pc + 3) ls st)) : GV p l e R s m args below meth c E A Q ws k n (F0 m pc ls (.int y :: .int x :: st)) := fun H locs a b d => lv_icmp_ge F.1 F.2.1 hd ht (fun h2 => absurd h2 h) (fun _ => kk H locs a b d)
end GVs
section GVt
variable {p : Program} {l : Launch} {e : Env} {R : Room} {s : State} {m : MethodId} {args : Array Value} {below : List Frame} {meth : Method} {c : Code} {E : EV} {A : Nat → Prop} {Q : State → Prop} {ws : va_W} {k n : Nat}
variable {cc : ByteArray} {nL : Nat} {own : String} {pc : Nat} {ls : Array Slot} {st : List Value} {g g2 : JFrame}
theorem GV.istore_n (F : CallFix p m c cc nL s args LW own) {k0 : Fin 4} {i : Nat} {x : Int32} {lv lv' : List (Nat × Value)} (hd : decode cc pc = .ok (.istore_n k0, 1)) (hi : (k0 : Nat) = i) (h : lv_has ls nL lv) (hn : i < nL) (hl : (i, Value.int x) :: lv.filter (fun q => !(q.1 == i) && !(q.1 + 1 == i && q.2.category == 2)) = lv') (kk : ∀ ls' : Array Slot, lv_has ls' nL lv' → GV p l e R s m args below meth c E A Q ws k n (F0 m (pc + 1) ls' st)) : GV p l e R s m args below meth c E A Q ws k n (F0 m pc ls (.int x :: st)) := fun H locs a b d => lv_istore_n F.1 F.2.1 hd hi h hn hl (fun ls' h' => kk ls' h' H locs a b d)
theorem GV.iinc (F : CallFix p m c cc nL s args LW own) {i j : Nat} {i0 : Int} {x y : Int32} {lv lv' : List (Nat × Value)} (hd : decode cc pc = .ok (.iinc i i0, 3)) (h : lv_has ls nL lv) (hk : lv[j]? = some (i, .int x)) (hy : x + Int32.ofInt i0 = y) (hn : i < nL) (hl : (i, Value.int y) :: lv.filter (fun q => !(q.1 == i) && !(q.1 + 1 == i && q.2.category == 2)) = lv') (kk : ∀ ls' : Array Slot, lv_has ls' nL lv' → GV p l e R s m args below meth c E A Q ws k n (F0 m (pc + 3) ls' st)) : GV p l e R s m args below meth c E A Q ws k n (F0 m pc ls st) := by
  subst hy
  exact fun H locs a b d => lv_iinc (v := x + Int32.ofInt i0) F.1 F.2.1 hd h hk rfl hn hl (fun ls' h' => kk ls' h' H locs a b d)
theorem GV.getf (F : CallFix p m c cc nL s args LW own) (hE : CE E A s s.heap) {idx ci k0 a : Nat} {fs : List Value} {v : Value} (hg : GF own idx ci k0) (q0 : Nat) (he : ws[q0]? = some (a, .inr (ci, fs))) (hv : fs[k0]? = some v) (hd : decode cc pc = .ok (.getfield idx, 3)) (kk : GV p l e R s m args below meth c E A Q ws k n (F0 m (pc + 3) ls (v :: st))) : GV p l e R s m args below meth c E A Q ws k n (F0 m pc ls (.ref a :: st)) := by
  obtain ⟨C, T, N, h1, h2, h3, h4⟩ := hg
  exact fun H locs a b d => va_get F.1 F.2.1 F.2.2.2.2 h3 F.2.2.2.1 hE.1 a q0 he h1 k0 h2 (F.2.2.2.2 _ h4) (fun _ h => h) hv hd (kk H locs a b d)
theorem GV.putf (F : CallFix p m c cc nL s args LW own) (hE : CE E A s s.heap) {idx ci k0 a : Nat} {fs : List Value} {v : Value} {ty : FieldType} (hg : PF own idx ci k0 ty) (hn : narrow ty v = v) (hfit : fits ty v = true) (q0 : Nat) (he : ws[q0]? = some (a, .inr (ci, fs))) (hl : k0 < fs.length) (hd : decode cc pc = .ok (.putfield idx, 3)) {ws' : va_W} (hw : ws.set q0 (a, .inr (ci, fs.set k0 v)) = ws') (kk : GV p l e R s m args below meth c E A Q ws' k n (F0 m (pc + 3) ls st)) : GV p l e R s m args below meth c E A Q ws k n (F0 m pc ls (v :: .ref a :: st)) := by
  obtain ⟨C, T, N, t, hc, hk, hin, hlink, hty, hnm, hfin, hd2⟩ := hg
  subst hw
  exact fun H locs hP hD hS => va_put F.1 F.2.1 F.2.2.2.2 hin t hty hnm F.2.2.2.1 hE.1 hP hD hS q0 he hc k0 hk (F.2.2.2.2 _ hlink) (fun _ h => h) hfin hd2 hn hfit hl hd (fun H1 locs1 a b d => kk H1 locs1 a b d)
def FF (own : String) (idx ci k : Nat) (ty : FieldType) : Prop := ∃ (C : String) (T : u_T) (N : Nat) (t : Nat → FieldType), vwCl[ci]? = some (C, T, N) ∧ k < N ∧ (∀ w ∈ u_ws C T N, w ∈ LW) ∧ Cond.fieldLink own idx (T k).1 (T k).2.1 (T k).2.2.1 ∈ LW ∧ (∀ k, k < N → parseFieldDescriptor (T k).2.2.1 = some (t k)) ∧ (∀ a, a < N → ∀ b, b < N → a ≠ b → (T a).2.1 ≠ (T b).2.1) ∧ (T k).2.2.2 = true ∧ (T k).1 = own ∧ parseFieldDescriptor (T k).2.2.1 = some ty
theorem GV.putF (F : CallFix p m c cc nL s args LW own) (hE : CE E A s s.heap) (hi : meth.name = "<init>") {idx ci k0 a : Nat} {fs : List Value} {v : Value} {ty : FieldType} (hg : FF own idx ci k0 ty) (hn : narrow ty v = v) (hfit : fits ty v = true) (q0 : Nat) (he : ws[q0]? = some (a, .inr (ci, fs))) (hl : k0 < fs.length) (hd : decode cc pc = .ok (.putfield idx, 3)) {ws' : va_W} (hw : ws.set q0 (a, .inr (ci, fs.set k0 v)) = ws') (kk : GV p l e R s m args below meth c E A Q ws' k n (F0 m (pc + 3) ls st)) : GV p l e R s m args below meth c E A Q ws k n (F0 m pc ls (v :: .ref a :: st)) := by
  obtain ⟨C, T, N, t, hc, hk, hin, hlink, hty, hnm, hfin, hdc, hd2⟩ := hg
  subst hw
  exact fun H locs hP hD hS => va_putF F.1 F.2.1 F.2.2.2.2 hin t hty hnm F.2.2.2.1 hE.1 hP hD hS q0 he hc k0 hk (F.2.2.2.2 _ hlink) (fun _ h => h) hfin hi hdc hd2 hn hfit hl hd (fun H1 locs1 a b d => kk H1 locs1 a b d)
theorem GV.iast (F : CallFix p m c cc nL s args LW own) (hE : CE E A s s.heap) {a i N : Nat} {f : Nat → Int32} {x : Int32} (q0 : Nat) (he : ws[q0]? = some (rw_ E a N f)) (hi : i < N) (hN : N < 2 ^ 31) (hd : decode cc pc = .ok (.iastore, 1)) {ws' : va_W} (hw : ws.set q0 (rw_ E a N (upd f i x)) = ws') (kk : GV p l e R s m args below meth c E A Q ws' k n (F0 m (pc + 1) ls st)) : GV p l e R s m args below meth c E A Q ws k n (F0 m pc ls (.int x :: .int (nI i) :: .ref a :: st)) := by
  subst hw
  exact fun H locs hP hD hS => va_iast F.1 F.2.1 hE.1 hP hD hS q0 0 he rfl (vp_in_nI hi hN) hd (fun H1 locs1 a b d => kk H1 locs1 (by rw [nI_clamp (by omega)] at a; exact a) (by rw [nI_clamp (by omega)] at b; exact b) d)
theorem GV.alen (F : CallFix p m c cc nL s args LW own) (hE : CE E A s s.heap) {a N : Nat} {f : Nat → Int32} (q0 : Nat) (he : ws[q0]? = some (rw_ E a N f)) (hd : decode cc pc = .ok (.arraylength, 1)) (kk : GV p l e R s m args below meth c E A Q ws k n (F0 m (pc + 1) ls (.int (nI N) :: st))) : GV p l e R s m args below meth c E A Q ws k n (F0 m pc ls (.ref a :: st)) :=
  fun H locs hP hD hS => va_alen F.1 F.2.1 hE.1 hP q0 0 he (ty := .int) rfl rfl hd (kk H locs hP hD hS)
theorem GV.alenq (F : CallFix p m c cc nL s args LW own) (hE : CE E A s s.heap) {a N : Nat} {f : Nat → Option Nat} (q0 : Nat) (he : ws[q0]? = some (rq_ E a N f)) (hd : decode cc pc = .ok (.arraylength, 1)) (kk : GV p l e R s m args below meth c E A Q ws k n (F0 m (pc + 1) ls (.int (nI N) :: st))) : GV p l e R s m args below meth c E A Q ws k n (F0 m pc ls (.ref a :: st)) :=
  fun H locs hP hD hS => va_alen F.1 F.2.1 hE.1 hP q0 1 he (ty := .object RX5) rfl rfl hd (kk H locs hP hD hS)
theorem GV.aast (F : CallFix p m c cc nL s args LW own) (hE : CE E A s s.heap) {a v i N : Nat} {vs : List Value} {f : Nat → Option Nat} (q0 qk : Nat) (he : ws[q0]? = some (rq_ E a N f)) (hv : ws[qk]? = some (v, .inr (5, vs))) (hi : i < N) (hN : N < 2 ^ 31) (hd : decode cc pc = .ok (.aastore, 1)) {ws' : va_W} (hw : ws.set q0 (rq_ E a N (va_up f i (some v))) = ws') (kk : GV p l e R s m args below meth c E A Q ws' k n (F0 m (pc + 1) ls st)) : GV p l e R s m args below meth c E A Q ws k n (F0 m pc ls (.ref v :: .int (nI i) :: .ref a :: st)) := by
  subst hw
  exact fun H locs hP hD hS => va_astq F.1 F.2.1 hE.1 hP hD hS q0 1 qk 5 he rfl hv rfl (vp_in_nI hi hN) hd (fun H1 locs1 a b d => kk H1 locs1 (by rw [nI_clamp (by omega)] at a; exact a) (by rw [nI_clamp (by omega)] at b; exact b) d)
theorem GV.new (F : CallFix p m c cc nL s args LW own) (hE : CE E A s s.heap) (hA : ∀ q, s.heap.size ≤ q → A q) {C : String} {T : u_T} {N ci index : Nat} (hin : ∀ w ∈ u_ws C T N, w ∈ LW) (ty : Nat → FieldType) (hty : ∀ k, k < N → parseFieldDescriptor (T k).2.2.1 = some (ty k)) (hcl : Cond.classLink own index C ∈ LW) (hinst : Cond.instantiable C N ∈ LW) (hini : Cond.initialized C ∈ LW) (hc : vwCl[ci]? = some (C, T, N)) {fs : List Value} (hfs : ∀ j, j < N → defaultValue (ty j) = vp_V fs j) (hcells : k + 1 ≤ R.cells) (hslots : n + N ≤ R.slots) (hd : decode cc pc = .ok (.new index, 3))
    (kk : ∀ q : Nat, GV p l e R s m args below meth c E A Q (ws ++ [(q, .inr (ci, fs))]) (k + 1) (n + N) (F0 m (pc + 3) ls (.ref q :: st))) : GV p l e R s m args below meth c E A Q ws k n (F0 m pc ls st) :=
  fun H locs hP hD hS => va_new F.1 F.2.1 F.2.2.2.2 hin ty hty F.2.2.2.1 (F.2.2.2.2 _ hcl) (F.2.2.2.2 _ hinst) (F.2.2.2.2 _ hini) hE.1 hP hD hS hA hc hfs hcells hslots hd (fun q H1 a b d => kk q H1 locs a b d)
theorem GV.newa (F : CallFix p m c cc nL s args LW own) (hE : CE E A s s.heap) (hA : ∀ q, s.heap.size ≤ q → A q) (harr : Cond.arrayClass .int ∈ LW) {N : Nat} (hN : N < 100000) (hcells : k + 1 ≤ R.cells) (hslots : n + N ≤ R.slots) (hd : decode cc pc = .ok (.newarray .int, 2))
    (kk : ∀ q : Nat, GV p l e R s m args below meth c E A Q (ws ++ [rw_ E q N (fun _ => 0)]) (k + 1) (n + N) (F0 m (pc + 2) ls (.ref q :: st))) : GV p l e R s m args below meth c E A Q ws k n (F0 m pc ls (.int (nI N) :: st)) := by
  intro H locs hP hD hS
  refine va_newa (atype := .int) F.1 F.2.1 (F.2.2.2.2 _ harr) rfl hE.1 hP hD hS hA (a0 := (N, .inl (fun _ => 0))) (N' := N) (fun _ => rfl) (nI_pos (by omega)) (nI_clamp (by omega)) (by show N * 4 ≤ 536870912; omega) hcells hslots hd (fun q cA H1 hK a b d => ?_)
  have e1 : s.vm.findClass ("[" ++ (FieldType.int).toString) = some cA := (hK.2 2 (cA, .int) rfl).2
  have e2 : s.vm.findClass ("[" ++ (FieldType.int).toString) = some (eK E) := (hE.1.2 0 (eK E, .int) rfl).2
  obtain rfl : cA = eK E := Option.some.inj (e1.symm.trans e2)
  exact kk q H1 locs a b d
theorem GV.newq (F : CallFix p m c cc nL s args LW own) (hE : CE E A s s.heap) (hA : ∀ q, s.heap.size ≤ q → A q) (hO : va_AO RX5 s) {index N : Nat} (hcl : Cond.classLink own index RX5 ∈ LW) (hN : N < 100000) (hcells : k + 1 ≤ R.cells) (hslots : n + N ≤ R.slots) (hd : decode cc pc = .ok (.anewarray index, 3))
    (kk : ∀ q : Nat, GV p l e R s m args below meth c E A Q (ws ++ [rq_ E q N (fun _ => none)]) (k + 1) (n + N) (F0 m (pc + 3) ls (.ref q :: st))) : GV p l e R s m args below meth c E A Q ws k n (F0 m pc ls (.int (nI N) :: st)) := by
  intro H locs hP hD hS
  refine va_newq F.1 F.2.1 F.2.2.2.1 (F.2.2.2.2 _ hcl) hO hE.1 hP hD hS hA (N' := N) (nI_pos (by omega)) (nI_clamp (by omega)) (by omega) hcells hslots hd (fun q cA H1 hK a b d => ?_)
  obtain ⟨-, -, -, -, -, e1⟩ := (hK.2 2 (cA, .object RX5) rfl).2
  obtain ⟨-, -, -, -, -, e2⟩ := (hE.1.2 1 (eKs E, .object RX5) rfl).2
  obtain rfl : cA = eKs E := Option.some.inj (e1.symm.trans e2)
  exact kk q H1 locs a b d
theorem GV.obj (F : CallFix p m c cc nL s args LW own) {idx a : Nat} (hl : Cond.methodLink own idx objectInit ∈ LW) (hi : Cond.instanceMethod objectInit ∈ LW) (hc : Cond.code objectInit ⟨#[0xb1]⟩ 1 none ∈ LW) (hsz : ls.size = nL) (hd : decode cc pc = .ok (.invokespecial idx, 3)) (hR : 1 ≤ R.frames ∧ (st.map fun v => v.category).sum + 12 ≤ R.locals) (kk : GV p l e R s m args below meth c E A Q ws k n (F0 m (pc + 3) ls st)) : GV p l e R s m args below meth c E A Q ws k n (F0 m pc ls (.ref a :: st)) :=
  fun H locs hP hD hS => W.objInit F.1 F.2.1 F.2.2.2.1 (F.2.2.2.2 _ hl) (F.2.2.2.2 _ hi) (F.2.2.2.2 _ hc) rfl (by rw [F.2.2.1]; exact hsz) rfl hd hR.1 (by simpa using hR.2) (W.eq (g2 := F0 m (pc + 3) ls st) rfl (kk H locs hP hD hS))
/-- a constructor's contract: its world grows -/
def Cn (l : Launch) (E : EV) (y : MethodName) (cc : ByteArray) (maxL fr lo mc ms o : Nat) (w0 : va_W) {S : Type} (post : S → Prop) (Wn : S → va_W) : Prop :=
  ∀ sz, Met l y (Cond.code y cc maxL none :: LW) (rmk fr mc ms lo) (va_Pc [.ref o] (fun U => U.heap.size = sz ∧ va_P E.1 vwCl w0 U.heap ∧ CE E (va_A w0 sz) U U.heap ∧ va_D (fun _ => True) w0 ∧ va_AO RX5 U)) (va_Qv post (fun u t => va_P E.1 vwCl (Wn u) t.heap ∧ va_D (va_A w0 sz) (Wn u)) (va_A w0 sz)) mc ms (va_A w0 sz)
theorem Cn.mk0 {y : MethodName} {maxL fr lo mc ms o : Nat} {w0 : va_W} {S : Type} {post : S → Prop} {Wn : S → va_W} (hy : plainName y.cls = true) (hn : y.name = "<init>") (hlen : (lg_sl [.ref o]).length ≤ maxL)
    (body : ∀ (p : Program) (e : Env) (s : State) (m : MethodId) (args : Array Value) (below : List Frame) (meth : Method) (c : Code) (A : Nat → Prop), CallFix p m c cc maxL s args LW y.cls → meth.sig.returnType = none → meth.locks = false → meth.name = "<init>" → CE E A s s.heap → (∀ q, s.heap.size ≤ q → A q) → va_AO RX5 s → ∀ ls, lv_has ls maxL [(0, .ref o)] → GV p l e (rmk fr mc ms lo) s m args below meth c E A (MQ below (va_Qv post (fun u t => va_P E.1 vwCl (Wn u) t.heap ∧ va_D A (Wn u)) A) args s mc ms A) w0 0 0 (F0 m 0 ls [])) : Cn l E y cc maxL fr lo mc ms o w0 post Wn := by
  intro sz
  refine Met.ofW (cc := cc) (maxL := maxL) (ret := none) hy rfl ?_
  intro p e s m args below meth c s₁ B hml hv
  obtain ⟨rfl, hsz, hP, hE, hD0, hO⟩ := hv
  subst hsz
  have hts := atoms_spec (ws := Cond.code y cc maxL none :: LW) B.pre
  rw [lg_entry_eq]
  exact body p e s m _ below meth c (va_A w0 s.heap.size) ⟨B.exec, B.bytes, hml, findClass_of_methodNamed B.named, fun w h => hts w (List.mem_cons_of_mem _ h)⟩ B.returns B.notSynchronized ((name_of_methodNamed B.named B.method).1.trans hn) hE (fun q h => Or.inr h) hO _ (lv_entry ([.ref o]) hlen) s.heap [] hP hD0.self va_S.rf
theorem GV.ret (F : CallFix p m c cc nL s args LW own) (hr : meth.sig.returnType = none) (hk : meth.locks = false) {S : Type} {post : S → Prop} {Wn : S → va_W} {mc ms : Nat} (u : S) (hp : post u) (hw : ws = Wn u) (h1 : k ≤ mc) (h2 : n ≤ ms) (hd : decode cc pc = .ok (.return_, 1)) : GV p l e R s m args below meth c E A (MQ below (va_Qv post (fun u t => va_P E.1 vwCl (Wn u) t.heap ∧ va_D A (Wn u)) A) args s mc ms A) ws k n (F0 m pc ls []) := by
  subst hw
  exact fun H locs hP hD hS => W.widen h1 h2 (W.vret F.1 F.2.1 hr (fun t ht _ => ⟨⟨u, rfl, hp, by rw [ht]; exact hP, hD⟩, hS.F ht⟩) hS.2.2 hd hk)
theorem GV.callI (F : CallFix p m c cc nL s args LW own) (hE : CE E A s s.heap) (hA : ∀ q, s.heap.size ≤ q → A q) (hO : va_AO RX5 s) {idx o : Nat} {y : MethodName} {bytes : ByteArray} {maxL fr lo mc ms : Nat} {wc wr : va_W} {S : Type} {post : S → Prop} {Wn : S → va_W} (hM : Cn l E y bytes maxL fr lo mc ms o wc post Wn)
    (cw : CallB R s args own idx y bytes maxL none (Cond.code y bytes maxL none :: LW) (rmk fr mc ms lo) mc ms 0 ∧ y.name = "<init>" ∧ (Cond.instanceMethod y).before args s = true) (isC isR : List Nat) (hC : isC.map (fun i => ws[i]?) = wc.map some) (hR : isR.map (fun i => ws[i]?) = wr.map some) (hnC : va_nd isC = true) (hnR : va_nd isR = true) (hdis : ∀ i ∈ isR, i ∉ isC) (hsz : ls.size = nL) (hroom : (st.map fun v => v.category).sum ≤ 8) (hf : k + mc ≤ R.cells ∧ n + ms ≤ R.slots) (hd : decode cc pc = .ok (.invokespecial idx, 3))
    (kk : ∀ u, post u → GV p l e R s m args below meth c E A Q (wr ++ Wn u) (k + mc) (n + ms) (F0 m (pc + 3) ls st)) : GV p l e R s m args below meth c E A Q ws k n (F0 m pc ls (.ref o :: st)) := by
  intro H locs hP hD hS
  have hF := va_free (wc := wc) hD hS hA isC hC
  have hPc := P_sub (wc := wc) hP isC hC
  have hDc := hD.sub (ws' := wc) isC hnC hC
  refine va_callv (va_runI (As := []) (rest := st) F (hM H.size) cw ⟨fun a U g mk q => ⟨q.1, q.2.1, q.2.2.1, q.2.2.2.1.same rfl, q.2.2.2.2.1, va_AO.moved (Vm.Alike.refl U.vm) q.2.2.2.2.2⟩, fun U hU hW => ⟨rfl, by rw [hU], by rw [hU]; exact hPc, by rw [hU]; exact hE.tr hW (fun q h1 h2 => hS.2.1 q h1 h2) hF, hDc.weaken (fun _ _ _ _ => trivial), va_AO.moved hW.alike hO⟩⟩ rfl rfl hsz rfl (lv_room hroom) hd hf) hS (fun q _ h => hF q h) hF (fun u t H1 locs1 ht hvm hp hB hz1 hk1 hS1 => ?_)
  obtain ⟨hP1, hD1⟩ := hB
  rw [ht] at hP1
  obtain ⟨a, b⟩ := va_join hP hD isC isR hC hR hnR hdis hk1 hF hP1 hD1
  exact kk u hp H1 locs1 a b hS1
theorem GV.callN (F : CallFix p m c cc nL s args LW own) (hE : CE E A s s.heap) (hA : ∀ q, s.heap.size ≤ q → A q) (hO : va_AO RX5 s) {idx o : Nat} {host : String} {y : MethodName} {bytes : ByteArray} {maxL fr lo mc ms : Nat} {wc wr : va_W} {S : Type} {post : S → Prop} {Wn : S → va_W} (hM : Cn l E y bytes maxL fr lo mc ms o wc post Wn)
    (cw : va_CN R s args own idx y host bytes maxL none (Cond.code y bytes maxL none :: LW) (rmk fr mc ms lo) mc ms 0 ∧ y.name = "<init>" ∧ (Cond.instanceMethod y).before args s = true) (isC isR : List Nat) (hC : isC.map (fun i => ws[i]?) = wc.map some) (hR : isR.map (fun i => ws[i]?) = wr.map some) (hnC : va_nd isC = true) (hnR : va_nd isR = true) (hdis : ∀ i ∈ isR, i ∉ isC) (hsz : ls.size = nL) (hroom : (st.map fun v => v.category).sum ≤ 8) (hf : k + mc ≤ R.cells ∧ n + ms ≤ R.slots) (hd : decode cc pc = .ok (.invokespecial idx, 3))
    (kk : ∀ u, post u → GV p l e R s m args below meth c E A Q (wr ++ Wn u) (k + mc) (n + ms) (F0 m (pc + 3) ls st)) : GV p l e R s m args below meth c E A Q ws k n (F0 m pc ls (.ref o :: st)) := by
  intro H locs hP hD hS
  have hF := va_free (wc := wc) hD hS hA isC hC
  have hPc := P_sub (wc := wc) hP isC hC
  have hDc := hD.sub (ws' := wc) isC hnC hC
  refine va_callv (va_runIN (As := []) (rest := st) F (hM H.size) cw ⟨fun a U g mk q => ⟨q.1, q.2.1, q.2.2.1, q.2.2.2.1.same rfl, q.2.2.2.2.1, va_AO.moved (Vm.Alike.refl U.vm) q.2.2.2.2.2⟩, fun U hU hW => ⟨rfl, by rw [hU], by rw [hU]; exact hPc, by rw [hU]; exact hE.tr hW (fun q h1 h2 => hS.2.1 q h1 h2) hF, hDc.weaken (fun _ _ _ _ => trivial), va_AO.moved hW.alike hO⟩⟩ rfl rfl hsz rfl (lv_room hroom) hd hf) hS (fun q _ h => hF q h) hF (fun u t H1 locs1 ht hvm hp hB hz1 hk1 hS1 => ?_)
  obtain ⟨hP1, hD1⟩ := hB
  rw [ht] at hP1
  obtain ⟨a, b⟩ := va_join hP hD isC isR hC hR hnR hdis hk1 hF hP1 hD1
  exact kk u hp H1 locs1 a b hS1
end GVt
theorem nodup_of_D {A : Nat → Prop} {ws : va_W} (hD : va_D A ws) : (ads ws).Nodup := by
  refine List.pairwise_iff_getElem.mpr fun i j hi hj hlt e => ?_
  have hi' : i < ws.length := by simpa [ads] using hi
  have hj' : j < ws.length := by simpa [ads] using hj
  have := hD.1 i j ws[i] ws[j] (List.getElem?_eq_getElem hi') (List.getElem?_eq_getElem hj') (by simpa [ads] using e)
  omega
section GVu
variable {p : Program} {l : Launch} {e : Env} {R : Room} {s : State} {m : MethodId} {args : Array Value} {below : List Frame} {meth : Method} {c : Code} {E : EV} {A : Nat → Prop} {Q : State → Prop} {ws : va_W} {k n : Nat} {g : JFrame}
theorem va_D_perm {us : va_W} (h : ws.Perm us) (hD : va_D A ws) : va_D A us := by
  have hN : (ads ws).Nodup := nodup_of_D hD
  have hN2 : (ads us).Nodup := (h.map Prod.fst).nodup_iff.mp hN
  refine ⟨fun i j x y hi hj e => ads_inj hN2 hi hj e, fun k q hk => ?_⟩
  obtain ⟨j, hj⟩ := List.getElem?_of_mem (h.mem_iff.mpr (List.mem_of_getElem? hk))
  exact hD.2 j q hj
theorem GV.perm {us : va_W} (h : ws.Perm us) (kk : GV p l e R s m args below meth c E A Q us k n g) : GV p l e R s m args below meth c E A Q ws k n g := fun H locs hP hD hS => kk H locs (P_mem.mpr fun x hx => P_mem.mp hP x (h.mem_iff.mpr hx)) (va_D_perm h hD) hS
theorem GV.cellq {a N : Nat} {f f' : Nat → Option Nat} (q0 : Nat) (he : ws[q0]? = some (rq_ E a N f)) (h : ∀ j, j < N → f j = f' j) {ws' : va_W} (hw : ws.set q0 (rq_ E a N f') = ws') (kk : GV p l e R s m args below meth c E A Q ws' k n g) : GV p l e R s m args below meth c E A Q ws k n g := by
  subst hw
  refine fun H locs hP hD hS => kk H locs (fun j x hx => ?_) (hD.set he) hS
  by_cases e : j = q0
  · subst e
    have hl := (List.getElem?_eq_some_iff.mp he).1
    rw [List.getElem?_set_self hl] at hx
    cases hx
    have h1 := hP j _ he
    show H[a]? = some (vp_cell _ _)
    rw [← rowq_same h]
    exact h1
  · rw [List.getElem?_set_ne (fun q => e q.symm)] at hx
    exact hP j x hx
end GVu
/-! what fresh objects hold -/
def Z0 : Nat → Int32 := fun _ => 0
def sg0 : Nat → Int32 := fun j => match j with
  | 1 => nI 2000
  | 3 => -1
  | _ => nI 0
def sz0 : Nat → Int32 := upd (upd (upd (upd (upd (upd (upd (upd (fun _ => 0) 0 (nI 170)) 1 (nI 170)) 2 (nI 170)) 3 (nI 170)) 4 (nI 170)) 5 (nI 170)) 6 (nI 170)) 7 (nI 170)
def sf0 : Nat → Nat → Int32 := fun j => match j with
  | 0 => sz0
  | _ => fun _ => 0
def ms0 : Nat → Int32 := upd (upd (upd (upd (upd (upd (upd (upd (upd (upd (upd (upd (upd (upd (upd (upd (upd (upd (fun _ => 0) 1 (nI 2000)) 3 (-1)) 10 (nI 170)) 18 (-1)) 11 (nI 170)) 19 (-1)) 12 (nI 170)) 20 (-1)) 13 (nI 170)) 21 (-1)) 14 (nI 170)) 22 (-1)) 15 (nI 170)) 23 (-1)) 16 (nI 170)) 24 (-1)) 17 (nI 170)) 25 (-1)
