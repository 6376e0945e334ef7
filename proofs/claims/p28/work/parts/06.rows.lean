def bI (P : Prop) [Decidable P] : Int32 := if P then 1 else 0
theorem bI_t {P : Prop} [Decidable P] (h : P) : bI P = 1 := if_pos h
theorem bI_f {P : Prop} [Decidable P] (h : ¬ P) : bI P = 0 := if_neg h
theorem bI_0 {P : Prop} [Decidable P] (h : bI P = 0) : ¬ P := fun q => by rw [bI_t q] at h; exact absurd h (by decide)
theorem bI_1 {P : Prop} [Decidable P] (h : ¬ bI P = 0) : P := Decidable.byContradiction fun q => h (bI_f q)
theorem nb_bI (P : Prop) [Decidable P] : narrow .boolean (.int (bI P)) = .int (bI P) := by
  by_cases h : P
  · rw [bI_t h]; rfl
  · rw [bI_f h]; rfl
theorem bI_c {P Q : Prop} [Decidable P] [Decidable Q] (h : P ↔ Q) : bI P = bI Q := by
  by_cases q : Q
  · rw [bI_t q, bI_t (h.mpr q)]
  · rw [bI_f q, bI_f (fun z => q (h.mp z))]
section VV
variable {p : Program} {l : Launch} {e : Env} {R : Room} {s : State} {m : MethodId} {args : Array Value} {below : List Frame} {meth : Method} {c : Code} {E : EV} {AD : List Nat} {Q : State → Prop} {ws : va_W}
variable {cc : ByteArray} {nL : Nat} {own : String} {pc : Nat} {ls : Array Slot} {st : List Value} {g g1 g2 : JFrame}
def V (p : Program) (l : Launch) (e : Env) (R : Room) (s : State) (m : MethodId) (args : Array Value) (below : List Frame) (meth : Method) (c : Code) (E : EV) (AD : List Nat) (Q : State → Prop) (ws : va_W) (g : JFrame) : Prop :=
  ∀ (H : Heap) (locs : List Loc), va_P E.1 vwCl ws H → H.size = s.heap.size → (∀ q : Nat, q ∉ AD → H[q]? = s.heap[q]?) → (∀ z ∈ locs, z.base ∈ AD) → W p l e R s m args below meth c H locs 0 0 Q g
theorem V.go (h : ∀ H locs, W p l e R s m args below meth c H locs 0 0 Q g2 → W p l e R s m args below meth c H locs 0 0 Q g) (k : V p l e R s m args below meth c E AD Q ws g2) : V p l e R s m args below meth c E AD Q ws g := fun H locs a b d f => h H locs (k H locs a b d f)
theorem V.eq (h : g = g2) (k : V p l e R s m args below meth c E AD Q ws g2) : V p l e R s m args below meth c E AD Q ws g := h ▸ k
theorem V.world {ws' : va_W} (h : ∀ H, va_P E.1 vwCl ws H → va_P E.1 vwCl ws' H) (k : V p l e R s m args below meth c E AD Q ws' g) : V p l e R s m args below meth c E AD Q ws g := fun H locs a b d f => k H locs (h H a) b d f
theorem V.topi {x : Int32} (k : ∀ z : Int32, z = x → V p l e R s m args below meth c E AD Q ws (F0 m pc ls (.int z :: st))) : V p l e R s m args below meth c E AD Q ws (F0 m pc ls (.int x :: st)) := k x rfl
theorem V.topl {x : Int64} (k : ∀ z : Int64, z = x → V p l e R s m args below meth c E AD Q ws (F0 m pc ls (.long z :: st))) : V p l e R s m args below meth c E AD Q ws (F0 m pc ls (.long x :: st)) := k x rfl
theorem V.topd {x : UInt64} (k : ∀ z : UInt64, z = x → V p l e R s m args below meth c E AD Q ws (F0 m pc ls (.double z :: st))) : V p l e R s m args below meth c E AD Q ws (F0 m pc ls (.double x :: st)) := k x rfl

theorem V.iconst (F : CallFix p m c cc nL s args LW own) {n : Int} {v : Int32} (hd : decode cc pc = .ok (.iconst n, 1)) (hv : Int32.ofInt n = v) (k : V p l e R s m args below meth c E AD Q ws (F0 m (pc + 1) ls (.int v :: st))) : V p l e R s m args below meth c E AD Q ws (F0 m pc ls (st)) := V.go (fun _ _ k => lv_iconst F.1 F.2.1 hd hv k) k
theorem V.bipush (F : CallFix p m c cc nL s args LW own) {n : Int} {v : Int32} (hd : decode cc pc = .ok (.bipush n, 2)) (hv : (Int8.ofInt n).toInt32 = v) (k : V p l e R s m args below meth c E AD Q ws (F0 m (pc + 2) ls (.int v :: st))) : V p l e R s m args below meth c E AD Q ws (F0 m pc ls (st)) := V.go (fun _ _ k => lv_bipush F.1 F.2.1 hd hv k) k
theorem V.sipush (F : CallFix p m c cc nL s args LW own) {n : Int} {v : Int32} (hd : decode cc pc = .ok (.sipush n, 3)) (hv : (Int16.ofInt n).toInt32 = v) (k : V p l e R s m args below meth c E AD Q ws (F0 m (pc + 3) ls (.int v :: st))) : V p l e R s m args below meth c E AD Q ws (F0 m pc ls (st)) := V.go (fun _ _ k => lv_sipush F.1 F.2.1 hd hv k) k
theorem V.lconst (F : CallFix p m c cc nL s args LW own) {n : Fin 2} {v : Int64} (hd : decode cc pc = .ok (.lconst n, 1)) (hv : Int64.ofNat (n : Nat) = v) (k : V p l e R s m args below meth c E AD Q ws (F0 m (pc + 1) ls (.long v :: st))) : V p l e R s m args below meth c E AD Q ws (F0 m pc ls (st)) := V.go (fun _ _ k => lv_lconst F.1 F.2.1 hd hv k) k
theorem V.ldc2 (F : CallFix p m c cc nL s args LW own) {i : Nat} {v : Int64} (hc : (Cond.constantLong own i v) ∈ LW) (hd : decode cc pc = .ok (.ldc2_w i, 3)) (k : V p l e R s m args below meth c E AD Q ws (F0 m (pc + 3) ls (.long v :: st))) : V p l e R s m args below meth c E AD Q ws (F0 m pc ls (st)) := V.go (fun _ _ k => lv_ldc2 F.1 F.2.1 F.2.2.2.1 (F.2.2.2.2 _ hc) hd k) k
theorem V.ldc2d (F : CallFix p m c cc nL s args LW own) {i : Nat} {v : UInt64} (hc : (Cond.constantDouble own i v) ∈ LW) (hd : decode cc pc = .ok (.ldc2_w i, 3)) (k : V p l e R s m args below meth c E AD Q ws (F0 m (pc + 3) ls (.double v :: st))) : V p l e R s m args below meth c E AD Q ws (F0 m pc ls (st)) := V.go (fun _ _ k => lv_ldc2d F.1 F.2.1 F.2.2.2.1 (F.2.2.2.2 _ hc) hd k) k
theorem V.iload_n (F : CallFix p m c cc nL s args LW own) {k0 : Fin 4} {i : Nat} {x : Int32} (hd : decode cc pc = .ok (.iload_n k0, 1)) (hi : (k0 : Nat) = i) (hl : ls[i]? = some (.val (.int x))) (k : V p l e R s m args below meth c E AD Q ws (F0 m (pc + 1) ls (.int x :: st))) : V p l e R s m args below meth c E AD Q ws (F0 m pc ls (st)) := V.go (fun _ _ k => lv_iload_n F.1 F.2.1 hd hi hl k) k
theorem V.iload (F : CallFix p m c cc nL s args LW own) {i : Nat} {x : Int32} (hd : decode cc pc = .ok (.iload i, 2)) (hl : ls[i]? = some (.val (.int x))) (k : V p l e R s m args below meth c E AD Q ws (F0 m (pc + 2) ls (.int x :: st))) : V p l e R s m args below meth c E AD Q ws (F0 m pc ls (st)) := V.go (fun _ _ k => lv_iload F.1 F.2.1 hd hl k) k
theorem V.istore_n (F : CallFix p m c cc nL s args LW own) {k0 : Fin 4} {i : Nat} {x : Int32} {lv lv' : List (Nat × Value)} (hd : decode cc pc = .ok (.istore_n k0, 1)) (hi : (k0 : Nat) = i) (h : lv_has ls nL lv) (hn : i < nL) (hl : (i, Value.int x) :: lv.filter (fun q => !(q.1 == i) && !(q.1 + 1 == i && q.2.category == 2)) = lv') (k : ∀ ls' : Array Slot, lv_has ls' nL lv' → V p l e R s m args below meth c E AD Q ws (F0 m (pc + 1) ls' st)) : V p l e R s m args below meth c E AD Q ws (F0 m pc ls (.int x :: st)) := fun H locs a b d f => lv_istore_n F.1 F.2.1 hd hi h hn hl (fun ls' h' => k ls' h' H locs a b d f)
theorem V.istore (F : CallFix p m c cc nL s args LW own) {i : Nat} {x : Int32} {lv lv' : List (Nat × Value)} (hd : decode cc pc = .ok (.istore i, 2)) (h : lv_has ls nL lv) (hn : i < nL) (hl : (i, Value.int x) :: lv.filter (fun q => !(q.1 == i) && !(q.1 + 1 == i && q.2.category == 2)) = lv') (k : ∀ ls' : Array Slot, lv_has ls' nL lv' → V p l e R s m args below meth c E AD Q ws (F0 m (pc + 2) ls' st)) : V p l e R s m args below meth c E AD Q ws (F0 m pc ls (.int x :: st)) := fun H locs a b d f => lv_istore F.1 F.2.1 hd h hn hl (fun ls' h' => k ls' h' H locs a b d f)
theorem V.lload_n (F : CallFix p m c cc nL s args LW own) {k0 : Fin 4} {i : Nat} {x : Int64} (hd : decode cc pc = .ok (.lload_n k0, 1)) (hi : (k0 : Nat) = i) (hl : ls[i]? = some (.val (.long x))) (k : V p l e R s m args below meth c E AD Q ws (F0 m (pc + 1) ls (.long x :: st))) : V p l e R s m args below meth c E AD Q ws (F0 m pc ls (st)) := V.go (fun _ _ k => lv_lload_n F.1 F.2.1 hd hi hl k) k
theorem V.lload (F : CallFix p m c cc nL s args LW own) {i : Nat} {x : Int64} (hd : decode cc pc = .ok (.lload i, 2)) (hl : ls[i]? = some (.val (.long x))) (k : V p l e R s m args below meth c E AD Q ws (F0 m (pc + 2) ls (.long x :: st))) : V p l e R s m args below meth c E AD Q ws (F0 m pc ls (st)) := V.go (fun _ _ k => lv_lload F.1 F.2.1 hd hl k) k
theorem V.lstore_n (F : CallFix p m c cc nL s args LW own) {k0 : Fin 4} {i : Nat} {x : Int64} {lv lv' : List (Nat × Value)} (hd : decode cc pc = .ok (.lstore_n k0, 1)) (hi : (k0 : Nat) = i) (h : lv_has ls nL lv) (hn : i + 1 < nL) (hl : (i, Value.long x) :: lv.filter (fun q => !(q.1 == i) && (!(q.1 == i + 1) && !(q.1 + 1 == i && q.2.category == 2))) = lv') (k : ∀ ls' : Array Slot, lv_has ls' nL lv' → V p l e R s m args below meth c E AD Q ws (F0 m (pc + 1) ls' st)) : V p l e R s m args below meth c E AD Q ws (F0 m pc ls (.long x :: st)) := fun H locs a b d f => lv_lstore_n F.1 F.2.1 hd hi h hn hl (fun ls' h' => k ls' h' H locs a b d f)
theorem V.lstore (F : CallFix p m c cc nL s args LW own) {i : Nat} {x : Int64} {lv lv' : List (Nat × Value)} (hd : decode cc pc = .ok (.lstore i, 2)) (h : lv_has ls nL lv) (hn : i + 1 < nL) (hl : (i, Value.long x) :: lv.filter (fun q => !(q.1 == i) && (!(q.1 == i + 1) && !(q.1 + 1 == i && q.2.category == 2))) = lv') (k : ∀ ls' : Array Slot, lv_has ls' nL lv' → V p l e R s m args below meth c E AD Q ws (F0 m (pc + 2) ls' st)) : V p l e R s m args below meth c E AD Q ws (F0 m pc ls (.long x :: st)) := fun H locs a b d f => lv_lstore F.1 F.2.1 hd h hn hl (fun ls' h' => k ls' h' H locs a b d f)
theorem V.aload_n (F : CallFix p m c cc nL s args LW own) {k0 : Fin 4} {i : Nat} {x : Nat} (hd : decode cc pc = .ok (.aload_n k0, 1)) (hi : (k0 : Nat) = i) (hl : ls[i]? = some (.val (.ref x))) (k : V p l e R s m args below meth c E AD Q ws (F0 m (pc + 1) ls (.ref x :: st))) : V p l e R s m args below meth c E AD Q ws (F0 m pc ls (st)) := V.go (fun _ _ k => lv_aload_n F.1 F.2.1 hd hi hl k) k
theorem V.aload (F : CallFix p m c cc nL s args LW own) {i : Nat} {x : Nat} (hd : decode cc pc = .ok (.aload i, 2)) (hl : ls[i]? = some (.val (.ref x))) (k : V p l e R s m args below meth c E AD Q ws (F0 m (pc + 2) ls (.ref x :: st))) : V p l e R s m args below meth c E AD Q ws (F0 m pc ls (st)) := V.go (fun _ _ k => lv_aload F.1 F.2.1 hd hl k) k
theorem V.astore_n (F : CallFix p m c cc nL s args LW own) {k0 : Fin 4} {i : Nat} {x : Nat} {lv lv' : List (Nat × Value)} (hd : decode cc pc = .ok (.astore_n k0, 1)) (hi : (k0 : Nat) = i) (h : lv_has ls nL lv) (hn : i < nL) (hl : (i, Value.ref x) :: lv.filter (fun q => !(q.1 == i) && !(q.1 + 1 == i && q.2.category == 2)) = lv') (k : ∀ ls' : Array Slot, lv_has ls' nL lv' → V p l e R s m args below meth c E AD Q ws (F0 m (pc + 1) ls' st)) : V p l e R s m args below meth c E AD Q ws (F0 m pc ls (.ref x :: st)) := fun H locs a b d f => lv_astore_n F.1 F.2.1 hd hi h hn hl (fun ls' h' => k ls' h' H locs a b d f)
theorem V.astore (F : CallFix p m c cc nL s args LW own) {i : Nat} {x : Nat} {lv lv' : List (Nat × Value)} (hd : decode cc pc = .ok (.astore i, 2)) (h : lv_has ls nL lv) (hn : i < nL) (hl : (i, Value.ref x) :: lv.filter (fun q => !(q.1 == i) && !(q.1 + 1 == i && q.2.category == 2)) = lv') (k : ∀ ls' : Array Slot, lv_has ls' nL lv' → V p l e R s m args below meth c E AD Q ws (F0 m (pc + 2) ls' st)) : V p l e R s m args below meth c E AD Q ws (F0 m pc ls (.ref x :: st)) := fun H locs a b d f => lv_astore F.1 F.2.1 hd h hn hl (fun ls' h' => k ls' h' H locs a b d f)
theorem V.dload_n (F : CallFix p m c cc nL s args LW own) {k0 : Fin 4} {i : Nat} {x : UInt64} (hd : decode cc pc = .ok (.dload_n k0, 1)) (hi : (k0 : Nat) = i) (hl : ls[i]? = some (.val (.double x))) (k : V p l e R s m args below meth c E AD Q ws (F0 m (pc + 1) ls (.double x :: st))) : V p l e R s m args below meth c E AD Q ws (F0 m pc ls (st)) := V.go (fun _ _ k => lv_dload_n F.1 F.2.1 hd hi hl k) k
theorem V.dload (F : CallFix p m c cc nL s args LW own) {i : Nat} {x : UInt64} (hd : decode cc pc = .ok (.dload i, 2)) (hl : ls[i]? = some (.val (.double x))) (k : V p l e R s m args below meth c E AD Q ws (F0 m (pc + 2) ls (.double x :: st))) : V p l e R s m args below meth c E AD Q ws (F0 m pc ls (st)) := V.go (fun _ _ k => lv_dload F.1 F.2.1 hd hl k) k
theorem V.dstore_n (F : CallFix p m c cc nL s args LW own) {k0 : Fin 4} {i : Nat} {x : UInt64} {lv lv' : List (Nat × Value)} (hd : decode cc pc = .ok (.dstore_n k0, 1)) (hi : (k0 : Nat) = i) (h : lv_has ls nL lv) (hn : i + 1 < nL) (hl : (i, Value.double x) :: lv.filter (fun q => !(q.1 == i) && (!(q.1 == i + 1) && !(q.1 + 1 == i && q.2.category == 2))) = lv') (k : ∀ ls' : Array Slot, lv_has ls' nL lv' → V p l e R s m args below meth c E AD Q ws (F0 m (pc + 1) ls' st)) : V p l e R s m args below meth c E AD Q ws (F0 m pc ls (.double x :: st)) := fun H locs a b d f => lv_dstore_n F.1 F.2.1 hd hi h hn hl (fun ls' h' => k ls' h' H locs a b d f)
theorem V.dstore (F : CallFix p m c cc nL s args LW own) {i : Nat} {x : UInt64} {lv lv' : List (Nat × Value)} (hd : decode cc pc = .ok (.dstore i, 2)) (h : lv_has ls nL lv) (hn : i + 1 < nL) (hl : (i, Value.double x) :: lv.filter (fun q => !(q.1 == i) && (!(q.1 == i + 1) && !(q.1 + 1 == i && q.2.category == 2))) = lv') (k : ∀ ls' : Array Slot, lv_has ls' nL lv' → V p l e R s m args below meth c E AD Q ws (F0 m (pc + 2) ls' st)) : V p l e R s m args below meth c E AD Q ws (F0 m pc ls (.double x :: st)) := fun H locs a b d f => lv_dstore F.1 F.2.1 hd h hn hl (fun ls' h' => k ls' h' H locs a b d f)
theorem V.iinc (F : CallFix p m c cc nL s args LW own) {i j : Nat} {n : Int} {x : Int32} {lv : List (Nat × Value)} {lv' : Int32 → List (Nat × Value)} (hd : decode cc pc = .ok (.iinc i n, 3)) (h : lv_has ls nL lv) (hk : lv[j]? = some (i, .int x)) (hn : i < nL) (hl : ∀ v, (i, Value.int v) :: lv.filter (fun q => !(q.1 == i) && !(q.1 + 1 == i && q.2.category == 2)) = lv' v) (k : ∀ v : Int32, v = x + Int32.ofInt n → ∀ ls' : Array Slot, lv_has ls' nL (lv' v) → V p l e R s m args below meth c E AD Q ws (F0 m (pc + 3) ls' st)) : V p l e R s m args below meth c E AD Q ws (F0 m pc ls (st)) := fun H locs a b d f => lv_iinc (v := x + Int32.ofInt n) F.1 F.2.1 hd h hk rfl hn (hl _) (fun ls' h' => k _ rfl ls' h' H locs a b d f)
theorem V.iadd (F : CallFix p m c cc nL s args LW own) {x y : Int32} (hd : decode cc pc = .ok (.iadd, 1)) (k : ∀ z : Int32, z = x + y → V p l e R s m args below meth c E AD Q ws (F0 m (pc + 1) ls (.int z :: st))) : V p l e R s m args below meth c E AD Q ws (F0 m pc ls (.int y :: .int x :: st)) := V.go (fun _ _ k => lv_iadd F.1 F.2.1 hd k) (k _ rfl)
theorem V.isub (F : CallFix p m c cc nL s args LW own) {x y : Int32} (hd : decode cc pc = .ok (.isub, 1)) (k : ∀ z : Int32, z = x - y → V p l e R s m args below meth c E AD Q ws (F0 m (pc + 1) ls (.int z :: st))) : V p l e R s m args below meth c E AD Q ws (F0 m pc ls (.int y :: .int x :: st)) := V.go (fun _ _ k => lv_isub F.1 F.2.1 hd k) (k _ rfl)
theorem V.imul (F : CallFix p m c cc nL s args LW own) {x y : Int32} (hd : decode cc pc = .ok (.imul, 1)) (k : ∀ z : Int32, z = x * y → V p l e R s m args below meth c E AD Q ws (F0 m (pc + 1) ls (.int z :: st))) : V p l e R s m args below meth c E AD Q ws (F0 m pc ls (.int y :: .int x :: st)) := V.go (fun _ _ k => lv_imul F.1 F.2.1 hd k) (k _ rfl)
theorem V.iand (F : CallFix p m c cc nL s args LW own) {x y : Int32} (hd : decode cc pc = .ok (.iand, 1)) (k : ∀ z : Int32, z = x &&& y → V p l e R s m args below meth c E AD Q ws (F0 m (pc + 1) ls (.int z :: st))) : V p l e R s m args below meth c E AD Q ws (F0 m pc ls (.int y :: .int x :: st)) := V.go (fun _ _ k => lv_iand F.1 F.2.1 hd k) (k _ rfl)
theorem V.ior (F : CallFix p m c cc nL s args LW own) {x y : Int32} (hd : decode cc pc = .ok (.ior, 1)) (k : ∀ z : Int32, z = x ||| y → V p l e R s m args below meth c E AD Q ws (F0 m (pc + 1) ls (.int z :: st))) : V p l e R s m args below meth c E AD Q ws (F0 m pc ls (.int y :: .int x :: st)) := V.go (fun _ _ k => lv_ior F.1 F.2.1 hd k) (k _ rfl)
theorem V.ishl (F : CallFix p m c cc nL s args LW own) {x y : Int32} (hd : decode cc pc = .ok (.ishl, 1)) (k : ∀ z : Int32, z = x <<< (y &&& 31) → V p l e R s m args below meth c E AD Q ws (F0 m (pc + 1) ls (.int z :: st))) : V p l e R s m args below meth c E AD Q ws (F0 m pc ls (.int y :: .int x :: st)) := V.go (fun _ _ k => lv_ishl F.1 F.2.1 hd k) (k _ rfl)
theorem V.idiv (F : CallFix p m c cc nL s args LW own) {x y : Int32} (hd : decode cc pc = .ok (.idiv, 1)) (hne : ¬ y = 0) (k : ∀ z : Int32, z = x / y → V p l e R s m args below meth c E AD Q ws (F0 m (pc + 1) ls (.int z :: st))) : V p l e R s m args below meth c E AD Q ws (F0 m pc ls (.int y :: .int x :: st)) := V.go (fun _ _ k => lv_idiv F.1 F.2.1 hd hne k) (k _ rfl)
theorem V.ineg (F : CallFix p m c cc nL s args LW own) {x : Int32} (hd : decode cc pc = .ok (.ineg, 1)) (k : ∀ z : Int32, z = -x → V p l e R s m args below meth c E AD Q ws (F0 m (pc + 1) ls (.int z :: st))) : V p l e R s m args below meth c E AD Q ws (F0 m pc ls (.int x :: st)) := V.go (fun _ _ k => lv_ineg F.1 F.2.1 hd k) (k _ rfl)
theorem V.ladd (F : CallFix p m c cc nL s args LW own) {x y : Int64} (hd : decode cc pc = .ok (.ladd, 1)) (k : ∀ z : Int64, z = x + y → V p l e R s m args below meth c E AD Q ws (F0 m (pc + 1) ls (.long z :: st))) : V p l e R s m args below meth c E AD Q ws (F0 m pc ls (.long y :: .long x :: st)) := V.go (fun _ _ k => lv_ladd F.1 F.2.1 hd k) (k _ rfl)
theorem V.lsub (F : CallFix p m c cc nL s args LW own) {x y : Int64} (hd : decode cc pc = .ok (.lsub, 1)) (k : ∀ z : Int64, z = x - y → V p l e R s m args below meth c E AD Q ws (F0 m (pc + 1) ls (.long z :: st))) : V p l e R s m args below meth c E AD Q ws (F0 m pc ls (.long y :: .long x :: st)) := V.go (fun _ _ k => lv_lsub F.1 F.2.1 hd k) (k _ rfl)
theorem V.lmul (F : CallFix p m c cc nL s args LW own) {x y : Int64} (hd : decode cc pc = .ok (.lmul, 1)) (k : ∀ z : Int64, z = x * y → V p l e R s m args below meth c E AD Q ws (F0 m (pc + 1) ls (.long z :: st))) : V p l e R s m args below meth c E AD Q ws (F0 m pc ls (.long y :: .long x :: st)) := V.go (fun _ _ k => lv_lmul F.1 F.2.1 hd k) (k _ rfl)
theorem V.lshl (F : CallFix p m c cc nL s args LW own) {x : Int64} {y : Int32} (hd : decode cc pc = .ok (.lshl, 1)) (k : ∀ z : Int64, z = x <<< (y.toInt64 &&& 63) → V p l e R s m args below meth c E AD Q ws (F0 m (pc + 1) ls (.long z :: st))) : V p l e R s m args below meth c E AD Q ws (F0 m pc ls (.int y :: .long x :: st)) := V.go (fun _ _ k => lv_lshl F.1 F.2.1 hd rfl k) (k _ rfl)
theorem V.i2l (F : CallFix p m c cc nL s args LW own) {x : Int32} (hd : decode cc pc = .ok (.i2l, 1)) (k : ∀ z : Int64, z = x.toInt64 → V p l e R s m args below meth c E AD Q ws (F0 m (pc + 1) ls (.long z :: st))) : V p l e R s m args below meth c E AD Q ws (F0 m pc ls (.int x :: st)) := V.go (fun _ _ k => lv_i2l F.1 F.2.1 hd rfl k) (k _ rfl)
theorem V.i2d (F : CallFix p m c cc nL s args LW own) {x : Int32} (hd : decode cc pc = .ok (.i2d, 1)) (k : ∀ z : UInt64, z = FP.i2d x → V p l e R s m args below meth c E AD Q ws (F0 m (pc + 1) ls (.double z :: st))) : V p l e R s m args below meth c E AD Q ws (F0 m pc ls (.int x :: st)) := V.go (fun _ _ k => lv_i2d F.1 F.2.1 hd k) (k _ rfl)
theorem V.d2l (F : CallFix p m c cc nL s args LW own) {x : UInt64} (hd : decode cc pc = .ok (.d2l, 1)) (k : ∀ z : Int64, z = FP.d2l x → V p l e R s m args below meth c E AD Q ws (F0 m (pc + 1) ls (.long z :: st))) : V p l e R s m args below meth c E AD Q ws (F0 m pc ls (.double x :: st)) := V.go (fun _ _ k => lv_d2l F.1 F.2.1 hd k) (k _ rfl)
theorem V.ddiv (F : CallFix p m c cc nL s args LW own) {x y : UInt64} (hd : decode cc pc = .ok (.ddiv, 1)) (hne : vf_n64 (FP.ddiv x y)) (k : ∀ z : UInt64, z = FP.ddiv x y → V p l e R s m args below meth c E AD Q ws (F0 m (pc + 1) ls (.double z :: st))) : V p l e R s m args below meth c E AD Q ws (F0 m pc ls (.double y :: .double x :: st)) := V.go (fun _ _ k => lv_ddiv F.1 F.2.1 hd hne k) (k _ rfl)
theorem V.dmul (F : CallFix p m c cc nL s args LW own) {x y : UInt64} (hd : decode cc pc = .ok (.dmul, 1)) (hne : vf_n64 (FP.dmul x y)) (k : ∀ z : UInt64, z = FP.dmul x y → V p l e R s m args below meth c E AD Q ws (F0 m (pc + 1) ls (.double z :: st))) : V p l e R s m args below meth c E AD Q ws (F0 m pc ls (.double y :: .double x :: st)) := V.go (fun _ _ k => lv_dmul F.1 F.2.1 hd hne k) (k _ rfl)
theorem V.dsub (F : CallFix p m c cc nL s args LW own) {x y : UInt64} (hd : decode cc pc = .ok (.dsub, 1)) (hne : vf_n64 (FP.dsub x y)) (k : ∀ z : UInt64, z = FP.dsub x y → V p l e R s m args below meth c E AD Q ws (F0 m (pc + 1) ls (.double z :: st))) : V p l e R s m args below meth c E AD Q ws (F0 m pc ls (.double y :: .double x :: st)) := V.go (fun _ _ k => lv_dsub F.1 F.2.1 hd hne k) (k _ rfl)
theorem V.dcmp (F : CallFix p m c cc nL s args LW own) {x y : UInt64} {op : CmpOp} (hd : decode cc pc = .ok (.dcmp op, 1)) (k : ∀ z : Int32, z = Op.cmpValue (FP.dcmp x y) op → V p l e R s m args below meth c E AD Q ws (F0 m (pc + 1) ls (.int z :: st))) : V p l e R s m args below meth c E AD Q ws (F0 m pc ls (.double y :: .double x :: st)) := V.go (fun _ _ k => lv_dcmp F.1 F.2.1 hd k) (k _ rfl)
theorem V.dup (F : CallFix p m c cc nL s args LW own) {va : Value} (hd : decode cc pc = .ok (.dup, 1)) (hva : va.category = 1) (k : V p l e R s m args below meth c E AD Q ws (F0 m (pc + 1) ls (va :: va :: st))) : V p l e R s m args below meth c E AD Q ws (F0 m pc ls (va :: st)) := V.go (fun _ _ k => lv_dup F.1 F.2.1 hd hva k) k
theorem V.pop (F : CallFix p m c cc nL s args LW own) {va : Value} (hd : decode cc pc = .ok (.pop, 1)) (hva : va.category = 1) (k : V p l e R s m args below meth c E AD Q ws (F0 m (pc + 1) ls st)) : V p l e R s m args below meth c E AD Q ws (F0 m pc ls (va :: st)) := V.go (fun _ _ k => lv_pop F.1 F.2.1 hd hva k) k
theorem V.dup2 (F : CallFix p m c cc nL s args LW own) {va vb : Value} (hd : decode cc pc = .ok (.dup2, 1)) (hva : va.category = 1) (hvb : vb.category = 1) (k : V p l e R s m args below meth c E AD Q ws (F0 m (pc + 1) ls (va :: vb :: va :: vb :: st))) : V p l e R s m args below meth c E AD Q ws (F0 m pc ls (va :: vb :: st)) := V.go (fun _ _ k => lv_dup2_11 F.1 F.2.1 hd hva hvb k) k
theorem V.goto (F : CallFix p m c cc nL s args LW own) {off : Int} {tgt : Nat} (hd : decode cc pc = .ok (.goto off, 3)) (ht : (pc : Int) + off = (tgt : Int)) (k : V p l e R s m args below meth c E AD Q ws (F0 m tgt ls st)) : V p l e R s m args below meth c E AD Q ws (F0 m pc ls (st)) := V.go (fun _ _ k => lv_goto F.1 F.2.1 hd ht k) k
theorem V.icmp_lt (F : CallFix p m c cc nL s args LW own) {x y : Int32} {off : Int} {tgt : Nat} (hd : decode cc pc = .ok (.if_icmp .lt off, 3)) (ht : (pc : Int) + off = (tgt : Int)) (kt : x < y → ¬ y ≤ x → V p l e R s m args below meth c E AD Q ws (F0 m tgt ls st)) (kf : ¬ x < y → y ≤ x → V p l e R s m args below meth c E AD Q ws (F0 m (pc + 3) ls st)) : V p l e R s m args below meth c E AD Q ws (F0 m pc ls (.int y :: .int x :: st)) := fun H locs a b d f => lv_icmp_lt F.1 F.2.1 hd ht (fun h => kt h (Int32.not_le.mpr h) H locs a b d f) (fun h => kf h (Int32.not_lt.mp h) H locs a b d f)
theorem V.if_lt (F : CallFix p m c cc nL s args LW own) {x : Int32} {off : Int} {tgt : Nat} (hd : decode cc pc = .ok (.ifCond .lt off, 3)) (ht : (pc : Int) + off = (tgt : Int)) (kt : x < 0 → ¬ 0 ≤ x → V p l e R s m args below meth c E AD Q ws (F0 m tgt ls st)) (kf : ¬ x < 0 → 0 ≤ x → V p l e R s m args below meth c E AD Q ws (F0 m (pc + 3) ls st)) : V p l e R s m args below meth c E AD Q ws (F0 m pc ls (.int x :: st)) := fun H locs a b d f => lv_if_lt F.1 F.2.1 hd ht (fun h => kt h (Int32.not_le.mpr h) H locs a b d f) (fun h => kf h (Int32.not_lt.mp h) H locs a b d f)
theorem V.icmp_ge (F : CallFix p m c cc nL s args LW own) {x y : Int32} {off : Int} {tgt : Nat} (hd : decode cc pc = .ok (.if_icmp .ge off, 3)) (ht : (pc : Int) + off = (tgt : Int)) (kt : y ≤ x → ¬ x < y → V p l e R s m args below meth c E AD Q ws (F0 m tgt ls st)) (kf : ¬ y ≤ x → x < y → V p l e R s m args below meth c E AD Q ws (F0 m (pc + 3) ls st)) : V p l e R s m args below meth c E AD Q ws (F0 m pc ls (.int y :: .int x :: st)) := fun H locs a b d f => lv_icmp_ge F.1 F.2.1 hd ht (fun h => kt h (Int32.not_lt.mpr h) H locs a b d f) (fun h => kf h (Int32.not_le.mp h) H locs a b d f)
theorem V.if_ge (F : CallFix p m c cc nL s args LW own) {x : Int32} {off : Int} {tgt : Nat} (hd : decode cc pc = .ok (.ifCond .ge off, 3)) (ht : (pc : Int) + off = (tgt : Int)) (kt : 0 ≤ x → ¬ x < 0 → V p l e R s m args below meth c E AD Q ws (F0 m tgt ls st)) (kf : ¬ 0 ≤ x → x < 0 → V p l e R s m args below meth c E AD Q ws (F0 m (pc + 3) ls st)) : V p l e R s m args below meth c E AD Q ws (F0 m pc ls (.int x :: st)) := fun H locs a b d f => lv_if_ge F.1 F.2.1 hd ht (fun h => kt h (Int32.not_lt.mpr h) H locs a b d f) (fun h => kf h (Int32.not_le.mp h) H locs a b d f)
theorem V.icmp_gt (F : CallFix p m c cc nL s args LW own) {x y : Int32} {off : Int} {tgt : Nat} (hd : decode cc pc = .ok (.if_icmp .gt off, 3)) (ht : (pc : Int) + off = (tgt : Int)) (kt : y < x → ¬ x ≤ y → V p l e R s m args below meth c E AD Q ws (F0 m tgt ls st)) (kf : ¬ y < x → x ≤ y → V p l e R s m args below meth c E AD Q ws (F0 m (pc + 3) ls st)) : V p l e R s m args below meth c E AD Q ws (F0 m pc ls (.int y :: .int x :: st)) := fun H locs a b d f => lv_icmp_gt F.1 F.2.1 hd ht (fun h => kt h (Int32.not_le.mpr h) H locs a b d f) (fun h => kf h (Int32.not_lt.mp h) H locs a b d f)
theorem V.if_gt (F : CallFix p m c cc nL s args LW own) {x : Int32} {off : Int} {tgt : Nat} (hd : decode cc pc = .ok (.ifCond .gt off, 3)) (ht : (pc : Int) + off = (tgt : Int)) (kt : 0 < x → ¬ x ≤ 0 → V p l e R s m args below meth c E AD Q ws (F0 m tgt ls st)) (kf : ¬ 0 < x → x ≤ 0 → V p l e R s m args below meth c E AD Q ws (F0 m (pc + 3) ls st)) : V p l e R s m args below meth c E AD Q ws (F0 m pc ls (.int x :: st)) := fun H locs a b d f => lv_if_gt F.1 F.2.1 hd ht (fun h => kt h (Int32.not_le.mpr h) H locs a b d f) (fun h => kf h (Int32.not_lt.mp h) H locs a b d f)
theorem V.icmp_le (F : CallFix p m c cc nL s args LW own) {x y : Int32} {off : Int} {tgt : Nat} (hd : decode cc pc = .ok (.if_icmp .le off, 3)) (ht : (pc : Int) + off = (tgt : Int)) (kt : x ≤ y → ¬ y < x → V p l e R s m args below meth c E AD Q ws (F0 m tgt ls st)) (kf : ¬ x ≤ y → y < x → V p l e R s m args below meth c E AD Q ws (F0 m (pc + 3) ls st)) : V p l e R s m args below meth c E AD Q ws (F0 m pc ls (.int y :: .int x :: st)) := fun H locs a b d f => lv_icmp_le F.1 F.2.1 hd ht (fun h => kt h (Int32.not_lt.mpr h) H locs a b d f) (fun h => kf h (Int32.not_le.mp h) H locs a b d f)
theorem V.if_le (F : CallFix p m c cc nL s args LW own) {x : Int32} {off : Int} {tgt : Nat} (hd : decode cc pc = .ok (.ifCond .le off, 3)) (ht : (pc : Int) + off = (tgt : Int)) (kt : x ≤ 0 → ¬ 0 < x → V p l e R s m args below meth c E AD Q ws (F0 m tgt ls st)) (kf : ¬ x ≤ 0 → 0 < x → V p l e R s m args below meth c E AD Q ws (F0 m (pc + 3) ls st)) : V p l e R s m args below meth c E AD Q ws (F0 m pc ls (.int x :: st)) := fun H locs a b d f => lv_if_le F.1 F.2.1 hd ht (fun h => kt h (Int32.not_lt.mpr h) H locs a b d f) (fun h => kf h (Int32.not_le.mp h) H locs a b d f)
theorem V.icmp_eq (F : CallFix p m c cc nL s args LW own) {x y : Int32} {off : Int} {tgt : Nat} (hd : decode cc pc = .ok (.if_icmp .eq off, 3)) (ht : (pc : Int) + off = (tgt : Int)) (kt : x = y → V p l e R s m args below meth c E AD Q ws (F0 m tgt ls st)) (kf : ¬ x = y → V p l e R s m args below meth c E AD Q ws (F0 m (pc + 3) ls st)) : V p l e R s m args below meth c E AD Q ws (F0 m pc ls (.int y :: .int x :: st)) := fun H locs a b d f => lv_icmp_eq F.1 F.2.1 hd ht (fun h => kt h H locs a b d f) (fun h => kf h H locs a b d f)
theorem V.icmp_ne (F : CallFix p m c cc nL s args LW own) {x y : Int32} {off : Int} {tgt : Nat} (hd : decode cc pc = .ok (.if_icmp .ne off, 3)) (ht : (pc : Int) + off = (tgt : Int)) (kt : ¬ x = y → V p l e R s m args below meth c E AD Q ws (F0 m tgt ls st)) (kf : x = y → V p l e R s m args below meth c E AD Q ws (F0 m (pc + 3) ls st)) : V p l e R s m args below meth c E AD Q ws (F0 m pc ls (.int y :: .int x :: st)) := fun H locs a b d f => lv_icmp_ne F.1 F.2.1 hd ht (fun h => kt h H locs a b d f) (fun h => kf h H locs a b d f)
theorem V.if_eq (F : CallFix p m c cc nL s args LW own) {x : Int32} {off : Int} {tgt : Nat} (hd : decode cc pc = .ok (.ifCond .eq off, 3)) (ht : (pc : Int) + off = (tgt : Int)) (kt : x = 0 → V p l e R s m args below meth c E AD Q ws (F0 m tgt ls st)) (kf : ¬ x = 0 → V p l e R s m args below meth c E AD Q ws (F0 m (pc + 3) ls st)) : V p l e R s m args below meth c E AD Q ws (F0 m pc ls (.int x :: st)) := fun H locs a b d f => lv_if_eq F.1 F.2.1 hd ht (fun h => kt h H locs a b d f) (fun h => kf h H locs a b d f)
theorem V.if_ne (F : CallFix p m c cc nL s args LW own) {x : Int32} {off : Int} {tgt : Nat} (hd : decode cc pc = .ok (.ifCond .ne off, 3)) (ht : (pc : Int) + off = (tgt : Int)) (kt : ¬ x = 0 → V p l e R s m args below meth c E AD Q ws (F0 m tgt ls st)) (kf : x = 0 → V p l e R s m args below meth c E AD Q ws (F0 m (pc + 3) ls st)) : V p l e R s m args below meth c E AD Q ws (F0 m pc ls (.int x :: st)) := fun H locs a b d f => lv_if_ne F.1 F.2.1 hd ht (fun h => kt h H locs a b d f) (fun h => kf h H locs a b d f)
theorem V.if_eqB (F : CallFix p m c cc nL s args LW own) {P : Prop} [Decidable P] {x : Int32} {off : Int} {tgt : Nat} (hz : x = bI P) (hd : decode cc pc = .ok (.ifCond .eq off, 3)) (ht : (pc : Int) + off = (tgt : Int)) (kt : ¬ P → V p l e R s m args below meth c E AD Q ws (F0 m tgt ls st)) (kf : P → V p l e R s m args below meth c E AD Q ws (F0 m (pc + 3) ls st)) : V p l e R s m args below meth c E AD Q ws (F0 m pc ls (.int x :: st)) := fun H locs a b d f => lv_if_eq F.1 F.2.1 hd ht (fun h => kt (bI_0 (hz ▸ h)) H locs a b d f) (fun h => kf (bI_1 (hz ▸ h)) H locs a b d f)
theorem V.if_neB (F : CallFix p m c cc nL s args LW own) {P : Prop} [Decidable P] {x : Int32} {off : Int} {tgt : Nat} (hz : x = bI P) (hd : decode cc pc = .ok (.ifCond .ne off, 3)) (ht : (pc : Int) + off = (tgt : Int)) (kt : P → V p l e R s m args below meth c E AD Q ws (F0 m tgt ls st)) (kf : ¬ P → V p l e R s m args below meth c E AD Q ws (F0 m (pc + 3) ls st)) : V p l e R s m args below meth c E AD Q ws (F0 m pc ls (.int x :: st)) := fun H locs a b d f => lv_if_ne F.1 F.2.1 hd ht (fun h => kt (bI_1 (hz ▸ h)) H locs a b d f) (fun h => kf (bI_0 (hz ▸ h)) H locs a b d f)
theorem V.ifnonnull (F : CallFix p m c cc nL s args LW own) {x : Nat} {off : Int} {tgt : Nat} (hd : decode cc pc = .ok (.ifnonnull off, 3)) (ht : (pc : Int) + off = (tgt : Int)) (k : V p l e R s m args below meth c E AD Q ws (F0 m tgt ls st)) : V p l e R s m args below meth c E AD Q ws (F0 m pc ls (.ref x :: st)) := V.go (fun _ _ k => lv_ifnonnull F.1 F.2.1 hd ht k) k
theorem V.ifnull (F : CallFix p m c cc nL s args LW own) {x : Nat} {off : Int} (hd : decode cc pc = .ok (.ifnull off, 3)) (k : V p l e R s m args below meth c E AD Q ws (F0 m (pc + 3) ls st)) : V p l e R s m args below meth c E AD Q ws (F0 m pc ls (.ref x :: st)) := V.go (fun _ _ k => lv_ifnull F.1 F.2.1 hd k) k
theorem V.ifnullN (F : CallFix p m c cc nL s args LW own) {off : Int} {tgt : Nat} (hd : decode cc pc = .ok (.ifnull off, 3)) (ht : (pc : Int) + off = (tgt : Int)) (k : V p l e R s m args below meth c E AD Q ws (F0 m tgt ls st)) : V p l e R s m args below meth c E AD Q ws (F0 m pc ls (.null :: st)) := V.go (fun _ _ k => lv_ifnullN F.1 F.2.1 hd ht k) k
theorem V.lookup (F : CallFix p m c cc nL s args LW own) {dflt : Int} {ps : Array (Int × Int)} {len : Nat} {x : Int32} {off : Int} {tgt : Nat} (hd : decode cc pc = .ok (.lookupswitch dflt ps, len)) (hp : (ps.toList.zip (ps.toList.drop 1)).all (fun (a, next) => a.1 < next.1) = true) (ho : Op.lookupswitch.offset ps.toList dflt x.toInt = off) (ht : (pc : Int) + off = (tgt : Int)) (k : V p l e R s m args below meth c E AD Q ws (F0 m tgt ls st)) : V p l e R s m args below meth c E AD Q ws (F0 m pc ls (.int x :: st)) := V.go (fun _ _ k => lv_lookup F.1 F.2.1 hd hp ho ht k) k
theorem V.tableOut (F : CallFix p m c cc nL s args LW own) {dflt lo hi : Int} {offs : Array Int} {len : Nat} {x : Int32} {tgt : Nat} (hd : decode cc pc = .ok (.tableswitch dflt lo hi offs, len)) (h : x.toInt < lo ∨ hi < x.toInt) (ht : (pc : Int) + dflt = (tgt : Int)) (k : V p l e R s m args below meth c E AD Q ws (F0 m tgt ls st)) : V p l e R s m args below meth c E AD Q ws (F0 m pc ls (.int x :: st)) := V.go (fun _ _ k => lv_tableOut F.1 F.2.1 hd h ht k) k
theorem V.tableIn (F : CallFix p m c cc nL s args LW own) {dflt lo hi : Int} {offs : Array Int} {len : Nat} {x : Int32} {off : Int} {tgt : Nat} (hd : decode cc pc = .ok (.tableswitch dflt lo hi offs, len)) (h1 : ¬ x.toInt < lo) (h2 : ¬ hi < x.toInt) (ho : offs[(x.toInt - lo).toNat]? = some off) (ht : (pc : Int) + off = (tgt : Int)) (k : V p l e R s m args below meth c E AD Q ws (F0 m tgt ls st)) : V p l e R s m args below meth c E AD Q ws (F0 m pc ls (.int x :: st)) := V.go (fun _ _ k => lv_tableIn F.1 F.2.1 hd h1 h2 ho ht k) k
def GF (own : String) (idx ci k : Nat) : Prop := ∃ (C : String) (T : u_T) (N : Nat), vwCl[ci]? = some (C, T, N) ∧ k < N ∧ (∀ w ∈ u_ws C T N, w ∈ LW) ∧ Cond.fieldLink own idx (T k).1 (T k).2.1 (T k).2.2.1 ∈ LW
def PF (own : String) (idx ci k : Nat) (ty : FieldType) : Prop := ∃ (C : String) (T : u_T) (N : Nat) (t : Nat → FieldType), vwCl[ci]? = some (C, T, N) ∧ k < N ∧ (∀ w ∈ u_ws C T N, w ∈ LW) ∧ Cond.fieldLink own idx (T k).1 (T k).2.1 (T k).2.2.1 ∈ LW ∧ (∀ k, k < N → parseFieldDescriptor (T k).2.2.1 = some (t k)) ∧ (∀ a, a < N → ∀ b, b < N → a ≠ b → (T a).2.1 ≠ (T b).2.1) ∧ (T k).2.2.2 = false ∧ parseFieldDescriptor (T k).2.2.1 = some ty
theorem V.getf (F : CallFix p m c cc nL s args LW own) (hE : CE E (fun q => q ∈ AD) s s.heap) {idx ci k a : Nat} {fs : List Value} {v : Value} (hg : GF own idx ci k) (q0 : Nat) (he : ws[q0]? = some (a, .inr (ci, fs))) (hv : fs[k]? = some v) (hd : decode cc pc = .ok (.getfield idx, 3)) (kk : V p l e R s m args below meth c E AD Q ws (F0 m (pc + 3) ls (v :: st))) : V p l e R s m args below meth c E AD Q ws (F0 m pc ls (.ref a :: st)) := by
  obtain ⟨C, T, N, h1, h2, h3, h4⟩ := hg
  exact fun H locs a b d f => va_get F.1 F.2.1 F.2.2.2.2 h3 F.2.2.2.1 hE.1 a q0 he h1 k h2 (F.2.2.2.2 _ h4) (fun _ h => h) hv hd (kk H locs a b d f)
theorem V.getfi (F : CallFix p m c cc nL s args LW own) (hE : CE E (fun q => q ∈ AD) s s.heap) {idx ci k a : Nat} {fs : List Value} {v : Int32} (hg : GF own idx ci k) (q0 : Nat) (he : ws[q0]? = some (a, .inr (ci, fs))) (hv : fs[k]? = some (.int v)) (hd : decode cc pc = .ok (.getfield idx, 3)) (kk : ∀ z : Int32, z = v → V p l e R s m args below meth c E AD Q ws (F0 m (pc + 3) ls (.int z :: st))) : V p l e R s m args below meth c E AD Q ws (F0 m pc ls (.ref a :: st)) := V.getf F hE hg q0 he hv hd (kk v rfl)
theorem V.putf (F : CallFix p m c cc nL s args LW own) (hE : CE E (fun q => q ∈ AD) s s.heap) (hN : AD.Nodup) (hA : ads ws = AD) {idx ci k a : Nat} {fs : List Value} {v : Value} {ty : FieldType} (hg : PF own idx ci k ty) (hn : narrow ty v = v) (hfit : fits ty v = true) (q0 : Nat) (he : ws[q0]? = some (a, .inr (ci, fs))) (hl : k < fs.length) (hd : decode cc pc = .ok (.putfield idx, 3)) {ws' : va_W} (hw : ws.set q0 (a, .inr (ci, fs.set k v)) = ws') (kk : V p l e R s m args below meth c E AD Q ws' (F0 m (pc + 3) ls st)) : V p l e R s m args below meth c E AD Q ws (F0 m pc ls (v :: .ref a :: st)) := by
  obtain ⟨C, T, N, t, hc, hk, hin, hlink, hty, hnm, hfin, hd2⟩ := hg
  intro H locs hP hz ho hlo
  subst hw
  have hK := hE.1
  have hts := F.2.2.2.2
  have hap := va_apart (own := own) hts hin t hty hnm hK hc
  obtain ⟨r, h1, cell, q1, q2, q3, q4⟩ := hP q0 _ he
  have hr : r = (C, T, N) := Option.some.inj (h1.symm.trans hc)
  subst hr
  obtain ⟨hS, hfc, kC, hkC, hkind⟩ := hK.1 ci _ hc
  obtain ⟨cf, kf, fi, f, hi, hsl⟩ := hS k hk
  have hlay := hts _ (hin _ (u_in_lay hk))
  unfold u_lay at hlay
  rw [if_neg (by rw [hfin]; decide)] at hlay
  have hst := (u_facts hfc hkC (u_lays hts hin hk) hi).1
  have h6 := u_store hfc hkC hkind hlay hi hd2 hn hfit
  have haA : a ∈ AD := by rw [← hA]; exact List.mem_map.mpr ⟨_, List.mem_of_getElem? he, rfl⟩
  refine W.putK F.1 F.2.1 (f := f) ⟨F.2.2.2.1, hts _ hlink, ⟨_, _, _, hi⟩, hst⟩ (by rw [q2]; exact h6) q1 q3 (by rw [hsl]; exact k2_hasslot (q4 k hk)) rfl rfl hd fun H' e1 e2 e3 => ?_
  rw [hsl] at e1 ⊢
  refine kk H' _ (P_set hP (hA ▸ hN) he ⟨_, hc, t_OB.to (V := updV (vp_V fs) k v) ⟨_, e1, q2, q3, t_set q4 hap hk v⟩ (fun j _ => vp_updV_set hl v j)⟩ e3) (e2.trans hz) (fun q hq => (e3 q (fun h => hq (h ▸ haA))).trans (ho q hq)) (fun z hz => ?_)
  rcases List.mem_append.mp hz with h | h
  · exact hlo z h
  · rw [List.mem_singleton.mp h]; exact haA
theorem V.iald (F : CallFix p m c cc nL s args LW own) (hE : CE E (fun q => q ∈ AD) s s.heap) {a n : Nat} {f : Nat → Int32} {i : Int32} (q0 : Nat) (he : ws[q0]? = some (a, .inl (eK E, n, .inl f))) (hin : vp_in i n) (hd : decode cc pc = .ok (.iaload, 1)) (kk : ∀ z : Int32, z = f i.toNatClampNeg → V p l e R s m args below meth c E AD Q ws (F0 m (pc + 1) ls (.int z :: st))) : V p l e R s m args below meth c E AD Q ws (F0 m pc ls (.int i :: .ref a :: st)) :=
  fun H locs a b d f => va_iald F.1 F.2.1 hE.1 a q0 0 he rfl hin hd (kk _ rfl H locs a b d f)
theorem V.alen (F : CallFix p m c cc nL s args LW own) (hE : CE E (fun q => q ∈ AD) s s.heap) {a n : Nat} {f : Nat → Int32} (q0 : Nat) (he : ws[q0]? = some (a, .inl (eK E, n, .inl f))) (hd : decode cc pc = .ok (.arraylength, 1)) (kk : ∀ z : Int32, z = nI n → V p l e R s m args below meth c E AD Q ws (F0 m (pc + 1) ls (.int z :: st))) : V p l e R s m args below meth c E AD Q ws (F0 m pc ls (.ref a :: st)) :=
  fun H locs a b d f => va_alen F.1 F.2.1 hE.1 a q0 0 he (ty := .int) rfl rfl hd (kk _ rfl H locs a b d f)
theorem V.iast (F : CallFix p m c cc nL s args LW own) (hE : CE E (fun q => q ∈ AD) s s.heap) (hN : AD.Nodup) (hA : ads ws = AD) {a n : Nat} {f : Nat → Int32} {i x : Int32} (q0 : Nat) (he : ws[q0]? = some (a, .inl (eK E, n, .inl f))) (hin : vp_in i n) (hd : decode cc pc = .ok (.iastore, 1)) {ws' : va_W} (hw : ws.set q0 (a, .inl (eK E, n, .inl (upd f i.toNatClampNeg x))) = ws') (kk : V p l e R s m args below meth c E AD Q ws' (F0 m (pc + 1) ls st)) : V p l e R s m args below meth c E AD Q ws (F0 m pc ls (.int x :: .int i :: .ref a :: st)) := by
  intro H locs hP hz ho hlo
  subst hw
  have haA : a ∈ AD := by rw [← hA]; exact List.mem_map.mpr ⟨_, List.mem_of_getElem? he, rfl⟩
  refine W.iast F.1 F.2.1 (hP q0 _ he) ((hE.1.2 0 _ rfl).1 n (fun j => .int (f j))) (fun q => by cases q) (by show ¬ (i < 0 ∨ (arrV _ _ _).slots.size ≤ _); rw [arrV_size]; exact hin) rfl rfl hd fun H1 e z oq => ?_
  refine kk H1 _ (P_set hP (hA ▸ hN) he ?_ oq) (z.trans hz) (fun q hq => (oq q (fun h => hq (h ▸ haA))).trans (ho q hq)) (fun z hz => ?_)
  · show H1[a]? = some (vp_cell _ _)
    rw [e]
    rw [vp_cell_i, vp_cell_i, arrV_store]
    congr 2
    funext q
    by_cases hq : q = i.toNatClampNeg
    · subst hq
      simp [updV, upd]
    · simp [updV, upd, hq]
  · rcases List.mem_append.mp hz with h | h
    · exact hlo z h
    · rw [List.mem_singleton.mp h]; exact haA
theorem V.gets (F : CallFix p m c cc nL s args LW own) (hE : CE E (fun q => q ∈ AD) s s.heap) {idx t : Nat} {n : String} {f : Nat → Int32} (hZ : Tb n t f (fun q => q ∈ AD) s s.heap) (hl : Cond.fieldLink own idx "StuntDesk" n "[I" ∈ LW) (hd : decode cc pc = .ok (.getstatic idx, 3)) (kk : V p l e R s m args below meth c E AD Q ws (F0 m (pc + 3) ls (.ref t :: st))) : V p l e R s m args below meth c E AD Q ws (F0 m pc ls st) :=
  fun H locs a b d f => va_gets F.1 F.2.1 hZ.1 ⟨Nat.le_of_eq b.symm, fun q _ h2 => d q h2, f⟩ F.2.2.2.1 (F.2.2.2.2 _ hl) (fun _ h => h) hd (kk H locs a b d f)
theorem V.getsN (F : CallFix p m c cc nL s args LW own) (hE : CE E (fun q => q ∈ AD) s s.heap) {idx t : Nat} {n : String} {f : Nat → Int32} (hZ : Tb n t f (fun q => q ∈ AD) s s.heap) (hl : Cond.fieldLinkNest own idx "StuntDesk" n "[I" "StuntDesk" ∈ NWL) (hd : decode cc pc = .ok (.getstatic idx, 3)) (kk : V p l e R s m args below meth c E AD Q ws (F0 m (pc + 3) ls (.ref t :: st))) : V p l e R s m args below meth c E AD Q ws (F0 m pc ls st) :=
  fun H locs a b d f => va_getsN F.1 F.2.1 hZ.1 ⟨Nat.le_of_eq b.symm, fun q _ h2 => d q h2, f⟩ F.2.2.2.1 (va_Nw.use rfl (hE.2.1 _ hl)) (fun _ h => h) hd (kk H locs a b d f)
theorem V.tbald (F : CallFix p m c cc nL s args LW own) (hE : CE E (fun q => q ∈ AD) s s.heap) {t : Nat} {n : String} {f : Nat → Int32} {i : Int32} (hZ : Tb n t f (fun q => q ∈ AD) s s.heap) (hin : vp_in i 6) (hd : decode cc pc = .ok (.iaload, 1)) (kk : ∀ z : Int32, z = f i.toNatClampNeg → V p l e R s m args below meth c E AD Q ws (F0 m (pc + 1) ls (.int z :: st))) : V p l e R s m args below meth c E AD Q ws (F0 m pc ls (.int i :: .ref t :: st)) := by
  intro H locs a b d f
  obtain ⟨cell, h1, h2, h3, h4, h5, h6, h7⟩ := hZ.2
  have hlt : i.toNatClampNeg < 6 := Nat.not_le.mp fun q => hin (Or.inr q)
  exact W.iald F.1 F.2.1 (by rw [d t h7]; exact h1) h2 h3 (fun q => hin (q.imp id (fun z => Nat.le_trans h4 z))) (h6 _ hlt) rfl rfl hd (kk _ rfl H locs a b d f)
theorem V.tblen (F : CallFix p m c cc nL s args LW own) (hE : CE E (fun q => q ∈ AD) s s.heap) {t : Nat} {n : String} {f : Nat → Int32} (hZ : Tb n t f (fun q => q ∈ AD) s s.heap) (hd : decode cc pc = .ok (.arraylength, 1)) (kk : ∀ z : Int32, z = nI 6 → V p l e R s m args below meth c E AD Q ws (F0 m (pc + 1) ls (.int z :: st))) : V p l e R s m args below meth c E AD Q ws (F0 m pc ls (.ref t :: st)) := by
  intro H locs a b d f
  obtain ⟨cell, h1, h2, h3, h4, h5, h6, h7⟩ := hZ.2
  exact W.alen F.1 F.2.1 (by rw [d t h7]; exact h1) h2 h5 rfl rfl hd (kk _ rfl H locs a b d f)
theorem CE.at {A : Nat → Prop} (hE : CE E (fun q => q ∈ AD) s s.heap) {H : Heap} (ho : ∀ q : Nat, q ∉ AD → H[q]? = s.heap[q]?) (hA : ∀ q, A q → q ∈ AD) {U : State} (hU : U.heap = H) (hW : s.WarmedH U.vm) : CE E A U U.heap := by
  rw [hU]
  exact hE.tr hW (fun a _ h => ho a h) hA
theorem V.rdV (F : CallFix p m c cc nL s args LW own) (hE : CE E (fun q => q ∈ AD) s s.heap) {C : String} {b q0 ci : Nat} {T : u_T} {N0 : Nat} {fs : List Value} {index : Nat} {y : MethodName} {bytes : ByteArray} {maxL n fr lo : Nat} {ret : Option FieldType} {v : Value} {As rest st0 : List Value} {wc : va_W} (hM : Rd l E y bytes maxL ret fr lo (.ref b :: As) wc (some v)) (cw : CallW R s args own C index y bytes maxL ret (Cond.code y bytes maxL ret :: LW) (rmk fr 0 0 lo) 0 0 n) (hob : ws[q0]? = some (b, .inr (ci, fs))) (hcl : vwCl[ci]? = some (C, T, N0)) (is : List Nat) (hC : is.map (fun i => ws[i]?) = wc.map some) (hn : As.length = n) (hsz : ls.size = nL) (hroom : (rest.map fun v => v.category).sum ≤ 8) (hd : decode cc pc = .ok (.invokevirtual index, 3)) (hst : st0 = As.reverse ++ .ref b :: rest) (k : V p l e R s m args below meth c E AD Q ws (F0 m (pc + 3) ls (v :: rest))) : V p l e R s m args below meth c E AD Q ws (F0 m pc ls st0) := by
  intro H locs hP hz ho hl
  subst hst
  have hr : va_Run p l e R s m args below meth c H locs 0 0 0 0 (F0 m pc ls (As.reverse ++ .ref b :: rest)) rest (RQ (some v) ((Value.ref b :: As)).toArray) (fun _ => False) := va_runV (As := As) (rest := rest) F hM cw ⟨PB.blind, va_recv hE.1 hP hcl hob, fun U hU hW => ⟨rfl, by rw [hU]; exact P_sub hP is hC, hE.at ho (fun _ h => h.elim) hU hW⟩⟩ rfl hn hsz rfl (lv_room hroom) hd ⟨Nat.zero_le _, Nat.zero_le _⟩
  intro T hT X
  obtain ⟨v', st₀, t, T', L, h0, X', hL, e1, e2, ⟨hv, hh⟩, stp⟩ := hr T hT X
  cases hv
  have hLn : L = [] := by
    cases L with
    | nil => rfl
    | cons a _ => exact (hL a List.mem_cons_self).elim
  subst hLn
  rw [List.append_nil] at X'
  obtain ⟨t2, a1, b1⟩ := k H locs hP hz ho hl T' (by rw [e1, hh, h0]) X'
  exact ⟨t2, stp t2 a1, b1⟩
theorem V.wrV (F : CallFix p m c cc nL s args LW own) (hE : CE E (fun q => q ∈ AD) s s.heap) (hN : AD.Nodup) (hA : ads ws = AD) {C : String} {b q0 ci : Nat} {T : u_T} {N0 : Nat} {fs : List Value} {index : Nat} {y : MethodName} {bytes : ByteArray} {maxL n fr lo : Nat} {ret : Option FieldType} {v : Value} {As rest st0 : List Value} {wc wc' ws' : va_W} (hM : Wr l E y bytes maxL ret fr lo (.ref b :: As) wc wc' (some v)) (cw : CallW R s args own C index y bytes maxL ret (Cond.code y bytes maxL ret :: LW) (rmk fr 0 0 lo) 0 0 n) (hob : ws[q0]? = some (b, .inr (ci, fs))) (hcl : vwCl[ci]? = some (C, T, N0)) (is : List Nat) (hC : is.map (fun i => ws[i]?) = wc.map some) (hnd : va_nd is = true) (hlen : wc'.length = wc.length) (hw : mrg is ws wc' = ws') (hn : As.length = n) (hsz : ls.size = nL) (hroom : (rest.map fun v => v.category).sum ≤ 8) (hd : decode cc pc = .ok (.invokevirtual index, 3)) (hst : st0 = As.reverse ++ .ref b :: rest) (k : V p l e R s m args below meth c E AD Q ws' (F0 m (pc + 3) ls (v :: rest))) : V p l e R s m args below meth c E AD Q ws (F0 m pc ls st0) := by
  intro H locs hP hz ho hl
  subst hst
  subst hw
  have hcA : ∀ q, q ∈ ads wc → q ∈ AD := fun q h => hA ▸ sub_ads hC q h
  have hr : va_Run p l e R s m args below meth c H locs 0 0 0 0 (F0 m pc ls (As.reverse ++ .ref b :: rest)) rest (WQ E wc wc' (some v) ((Value.ref b :: As)).toArray) (fun q => q ∈ ads wc) := va_runV (As := As) (rest := rest) F hM cw ⟨PW.blind, va_recv hE.1 hP hcl hob, fun U hU hW => ⟨rfl, by rw [hU]; exact P_sub hP is hC, nodup_of (hA ▸ hN) is hC hnd, hE.at ho hcA hU hW⟩⟩ rfl hn hsz rfl (lv_room hroom) hd ⟨Nat.zero_le _, Nat.zero_le _⟩
  intro T hT X
  obtain ⟨v', st₀, t, T', L, h0, X', hL, e1, e2, ⟨hv, hp', hz', ho'⟩, stp⟩ := hr T hT X
  cases hv
  rw [h0] at hz' ho'
  obtain ⟨t2, a1, b1⟩ := k T'.heap (locs ++ L) (P_mrg hP (hA ▸ hN) is hC hlen (fun q hq => by rw [e1]; exact ho' q hq) (by rw [e1]; exact hp')) (by rw [e1, hz', hz]) (fun q hq => by rw [e1, ho' q (fun h => hq (hcA q h))]; exact ho q hq) (fun z hz => (List.mem_append.mp hz).elim (hl z) (fun h => hcA _ (hL z h))) T' rfl X'
  exact ⟨t2, stp t2 a1, b1⟩
theorem V.rdVn (F : CallFix p m c cc nL s args LW own) (hE : CE E (fun q => q ∈ AD) s s.heap) {C : String} {b q0 ci : Nat} {T : u_T} {N0 : Nat} {fs : List Value} {index : Nat} {y : MethodName} {bytes : ByteArray} {maxL n fr lo : Nat} {ret : Option FieldType} {As rest st0 : List Value} {wc : va_W} (hM : Rd l E y bytes maxL ret fr lo (.ref b :: As) wc none) (cw : CallW R s args own C index y bytes maxL ret (Cond.code y bytes maxL ret :: LW) (rmk fr 0 0 lo) 0 0 n) (hob : ws[q0]? = some (b, .inr (ci, fs))) (hcl : vwCl[ci]? = some (C, T, N0)) (is : List Nat) (hC : is.map (fun i => ws[i]?) = wc.map some) (hn : As.length = n) (hsz : ls.size = nL) (hroom : (rest.map fun v => v.category).sum ≤ 8) (hd : decode cc pc = .ok (.invokevirtual index, 3)) (hst : st0 = As.reverse ++ .ref b :: rest) (k : V p l e R s m args below meth c E AD Q ws (F0 m (pc + 3) ls rest)) : V p l e R s m args below meth c E AD Q ws (F0 m pc ls st0) := by
  intro H locs hP hz ho hl
  subst hst
  have hr : va_Run p l e R s m args below meth c H locs 0 0 0 0 (F0 m pc ls (As.reverse ++ .ref b :: rest)) rest (RQ none ((Value.ref b :: As)).toArray) (fun _ => False) := va_runV (As := As) (rest := rest) F hM cw ⟨PB.blind, va_recv hE.1 hP hcl hob, fun U hU hW => ⟨rfl, by rw [hU]; exact P_sub hP is hC, hE.at ho (fun _ h => h.elim) hU hW⟩⟩ rfl hn hsz rfl (lv_room hroom) hd ⟨Nat.zero_le _, Nat.zero_le _⟩
  intro T hT X
  obtain ⟨v', st₀, t, T', L, h0, X', hL, e1, e2, ⟨hv, hh⟩, stp⟩ := hr T hT X
  cases hv
  have hLn : L = [] := by
    cases L with
    | nil => rfl
    | cons a _ => exact (hL a List.mem_cons_self).elim
  subst hLn
  rw [List.append_nil] at X'
  obtain ⟨t2, a1, b1⟩ := k H locs hP hz ho hl T' (by rw [e1, hh, h0]) X'
  exact ⟨t2, stp t2 a1, b1⟩
theorem V.wrVn (F : CallFix p m c cc nL s args LW own) (hE : CE E (fun q => q ∈ AD) s s.heap) (hN : AD.Nodup) (hA : ads ws = AD) {C : String} {b q0 ci : Nat} {T : u_T} {N0 : Nat} {fs : List Value} {index : Nat} {y : MethodName} {bytes : ByteArray} {maxL n fr lo : Nat} {ret : Option FieldType} {As rest st0 : List Value} {wc wc' ws' : va_W} (hM : Wr l E y bytes maxL ret fr lo (.ref b :: As) wc wc' none) (cw : CallW R s args own C index y bytes maxL ret (Cond.code y bytes maxL ret :: LW) (rmk fr 0 0 lo) 0 0 n) (hob : ws[q0]? = some (b, .inr (ci, fs))) (hcl : vwCl[ci]? = some (C, T, N0)) (is : List Nat) (hC : is.map (fun i => ws[i]?) = wc.map some) (hnd : va_nd is = true) (hlen : wc'.length = wc.length) (hw : mrg is ws wc' = ws') (hn : As.length = n) (hsz : ls.size = nL) (hroom : (rest.map fun v => v.category).sum ≤ 8) (hd : decode cc pc = .ok (.invokevirtual index, 3)) (hst : st0 = As.reverse ++ .ref b :: rest) (k : V p l e R s m args below meth c E AD Q ws' (F0 m (pc + 3) ls rest)) : V p l e R s m args below meth c E AD Q ws (F0 m pc ls st0) := by
  intro H locs hP hz ho hl
  subst hst
  subst hw
  have hcA : ∀ q, q ∈ ads wc → q ∈ AD := fun q h => hA ▸ sub_ads hC q h
  have hr : va_Run p l e R s m args below meth c H locs 0 0 0 0 (F0 m pc ls (As.reverse ++ .ref b :: rest)) rest (WQ E wc wc' none ((Value.ref b :: As)).toArray) (fun q => q ∈ ads wc) := va_runV (As := As) (rest := rest) F hM cw ⟨PW.blind, va_recv hE.1 hP hcl hob, fun U hU hW => ⟨rfl, by rw [hU]; exact P_sub hP is hC, nodup_of (hA ▸ hN) is hC hnd, hE.at ho hcA hU hW⟩⟩ rfl hn hsz rfl (lv_room hroom) hd ⟨Nat.zero_le _, Nat.zero_le _⟩
  intro T hT X
  obtain ⟨v', st₀, t, T', L, h0, X', hL, e1, e2, ⟨hv, hp', hz', ho'⟩, stp⟩ := hr T hT X
  cases hv
  rw [h0] at hz' ho'
  obtain ⟨t2, a1, b1⟩ := k T'.heap (locs ++ L) (P_mrg hP (hA ▸ hN) is hC hlen (fun q hq => by rw [e1]; exact ho' q hq) (by rw [e1]; exact hp')) (by rw [e1, hz', hz]) (fun q hq => by rw [e1, ho' q (fun h => hq (hcA q h))]; exact ho q hq) (fun z hz => (List.mem_append.mp hz).elim (hl z) (fun h => hcA _ (hL z h))) T' rfl X'
  exact ⟨t2, stp t2 a1, b1⟩
theorem V.rdS (F : CallFix p m c cc nL s args LW own) (hE : CE E (fun q => q ∈ AD) s s.heap) {index : Nat} {y : MethodName} {bytes : ByteArray} {maxL n fr lo : Nat} {ret : Option FieldType} {v : Value} {As rest st0 : List Value} {wc : va_W} (hM : Rd l E y bytes maxL ret fr lo As wc (some v)) (cw : CallB R s args own index y bytes maxL ret (Cond.code y bytes maxL ret :: LW) (rmk fr 0 0 lo) 0 0 n ∧ (Cond.static y).before args s = true) (is : List Nat) (hC : is.map (fun i => ws[i]?) = wc.map some) (hn : As.length = n) (hsz : ls.size = nL) (hroom : (rest.map fun v => v.category).sum ≤ 8) (hd : decode cc pc = .ok (.invokestatic index, 3)) (hst : st0 = As.reverse ++ rest) (k : V p l e R s m args below meth c E AD Q ws (F0 m (pc + 3) ls (v :: rest))) : V p l e R s m args below meth c E AD Q ws (F0 m pc ls st0) := by
  intro H locs hP hz ho hl
  subst hst
  have hr : va_Run p l e R s m args below meth c H locs 0 0 0 0 (F0 m pc ls (As.reverse ++ rest)) rest (RQ (some v) (As).toArray) (fun _ => False) := va_runS (As := As) (rest := rest) F hM cw ⟨PB.blind, fun U hU hW => ⟨rfl, by rw [hU]; exact P_sub hP is hC, hE.at ho (fun _ h => h.elim) hU hW⟩⟩ rfl hn hsz rfl (lv_room hroom) hd ⟨Nat.zero_le _, Nat.zero_le _⟩
  intro T hT X
  obtain ⟨v', st₀, t, T', L, h0, X', hL, e1, e2, ⟨hv, hh⟩, stp⟩ := hr T hT X
  cases hv
  have hLn : L = [] := by
    cases L with
    | nil => rfl
    | cons a _ => exact (hL a List.mem_cons_self).elim
  subst hLn
  rw [List.append_nil] at X'
  obtain ⟨t2, a1, b1⟩ := k H locs hP hz ho hl T' (by rw [e1, hh, h0]) X'
  exact ⟨t2, stp t2 a1, b1⟩
theorem V.wrS (F : CallFix p m c cc nL s args LW own) (hE : CE E (fun q => q ∈ AD) s s.heap) (hN : AD.Nodup) (hA : ads ws = AD) {index : Nat} {y : MethodName} {bytes : ByteArray} {maxL n fr lo : Nat} {ret : Option FieldType} {v : Value} {As rest st0 : List Value} {wc wc' ws' : va_W} (hM : Wr l E y bytes maxL ret fr lo As wc wc' (some v)) (cw : CallB R s args own index y bytes maxL ret (Cond.code y bytes maxL ret :: LW) (rmk fr 0 0 lo) 0 0 n ∧ (Cond.static y).before args s = true) (is : List Nat) (hC : is.map (fun i => ws[i]?) = wc.map some) (hnd : va_nd is = true) (hlen : wc'.length = wc.length) (hw : mrg is ws wc' = ws') (hn : As.length = n) (hsz : ls.size = nL) (hroom : (rest.map fun v => v.category).sum ≤ 8) (hd : decode cc pc = .ok (.invokestatic index, 3)) (hst : st0 = As.reverse ++ rest) (k : V p l e R s m args below meth c E AD Q ws' (F0 m (pc + 3) ls (v :: rest))) : V p l e R s m args below meth c E AD Q ws (F0 m pc ls st0) := by
  intro H locs hP hz ho hl
  subst hst
  subst hw
  have hcA : ∀ q, q ∈ ads wc → q ∈ AD := fun q h => hA ▸ sub_ads hC q h
  have hr : va_Run p l e R s m args below meth c H locs 0 0 0 0 (F0 m pc ls (As.reverse ++ rest)) rest (WQ E wc wc' (some v) (As).toArray) (fun q => q ∈ ads wc) := va_runS (As := As) (rest := rest) F hM cw ⟨PW.blind, fun U hU hW => ⟨rfl, by rw [hU]; exact P_sub hP is hC, nodup_of (hA ▸ hN) is hC hnd, hE.at ho hcA hU hW⟩⟩ rfl hn hsz rfl (lv_room hroom) hd ⟨Nat.zero_le _, Nat.zero_le _⟩
  intro T hT X
  obtain ⟨v', st₀, t, T', L, h0, X', hL, e1, e2, ⟨hv, hp', hz', ho'⟩, stp⟩ := hr T hT X
  cases hv
  rw [h0] at hz' ho'
  obtain ⟨t2, a1, b1⟩ := k T'.heap (locs ++ L) (P_mrg hP (hA ▸ hN) is hC hlen (fun q hq => by rw [e1]; exact ho' q hq) (by rw [e1]; exact hp')) (by rw [e1, hz', hz]) (fun q hq => by rw [e1, ho' q (fun h => hq (hcA q h))]; exact ho q hq) (fun z hz => (List.mem_append.mp hz).elim (hl z) (fun h => hcA _ (hL z h))) T' rfl X'
  exact ⟨t2, stp t2 a1, b1⟩
theorem V.rdSn (F : CallFix p m c cc nL s args LW own) (hE : CE E (fun q => q ∈ AD) s s.heap) {index : Nat} {y : MethodName} {bytes : ByteArray} {maxL n fr lo : Nat} {ret : Option FieldType} {As rest st0 : List Value} {wc : va_W} (hM : Rd l E y bytes maxL ret fr lo As wc none) (cw : CallB R s args own index y bytes maxL ret (Cond.code y bytes maxL ret :: LW) (rmk fr 0 0 lo) 0 0 n ∧ (Cond.static y).before args s = true) (is : List Nat) (hC : is.map (fun i => ws[i]?) = wc.map some) (hn : As.length = n) (hsz : ls.size = nL) (hroom : (rest.map fun v => v.category).sum ≤ 8) (hd : decode cc pc = .ok (.invokestatic index, 3)) (hst : st0 = As.reverse ++ rest) (k : V p l e R s m args below meth c E AD Q ws (F0 m (pc + 3) ls rest)) : V p l e R s m args below meth c E AD Q ws (F0 m pc ls st0) := by
  intro H locs hP hz ho hl
  subst hst
  have hr : va_Run p l e R s m args below meth c H locs 0 0 0 0 (F0 m pc ls (As.reverse ++ rest)) rest (RQ none (As).toArray) (fun _ => False) := va_runS (As := As) (rest := rest) F hM cw ⟨PB.blind, fun U hU hW => ⟨rfl, by rw [hU]; exact P_sub hP is hC, hE.at ho (fun _ h => h.elim) hU hW⟩⟩ rfl hn hsz rfl (lv_room hroom) hd ⟨Nat.zero_le _, Nat.zero_le _⟩
  intro T hT X
  obtain ⟨v', st₀, t, T', L, h0, X', hL, e1, e2, ⟨hv, hh⟩, stp⟩ := hr T hT X
  cases hv
  have hLn : L = [] := by
    cases L with
    | nil => rfl
    | cons a _ => exact (hL a List.mem_cons_self).elim
  subst hLn
  rw [List.append_nil] at X'
  obtain ⟨t2, a1, b1⟩ := k H locs hP hz ho hl T' (by rw [e1, hh, h0]) X'
  exact ⟨t2, stp t2 a1, b1⟩
theorem V.wrSn (F : CallFix p m c cc nL s args LW own) (hE : CE E (fun q => q ∈ AD) s s.heap) (hN : AD.Nodup) (hA : ads ws = AD) {index : Nat} {y : MethodName} {bytes : ByteArray} {maxL n fr lo : Nat} {ret : Option FieldType} {As rest st0 : List Value} {wc wc' ws' : va_W} (hM : Wr l E y bytes maxL ret fr lo As wc wc' none) (cw : CallB R s args own index y bytes maxL ret (Cond.code y bytes maxL ret :: LW) (rmk fr 0 0 lo) 0 0 n ∧ (Cond.static y).before args s = true) (is : List Nat) (hC : is.map (fun i => ws[i]?) = wc.map some) (hnd : va_nd is = true) (hlen : wc'.length = wc.length) (hw : mrg is ws wc' = ws') (hn : As.length = n) (hsz : ls.size = nL) (hroom : (rest.map fun v => v.category).sum ≤ 8) (hd : decode cc pc = .ok (.invokestatic index, 3)) (hst : st0 = As.reverse ++ rest) (k : V p l e R s m args below meth c E AD Q ws' (F0 m (pc + 3) ls rest)) : V p l e R s m args below meth c E AD Q ws (F0 m pc ls st0) := by
  intro H locs hP hz ho hl
  subst hst
  subst hw
  have hcA : ∀ q, q ∈ ads wc → q ∈ AD := fun q h => hA ▸ sub_ads hC q h
  have hr : va_Run p l e R s m args below meth c H locs 0 0 0 0 (F0 m pc ls (As.reverse ++ rest)) rest (WQ E wc wc' none (As).toArray) (fun q => q ∈ ads wc) := va_runS (As := As) (rest := rest) F hM cw ⟨PW.blind, fun U hU hW => ⟨rfl, by rw [hU]; exact P_sub hP is hC, nodup_of (hA ▸ hN) is hC hnd, hE.at ho hcA hU hW⟩⟩ rfl hn hsz rfl (lv_room hroom) hd ⟨Nat.zero_le _, Nat.zero_le _⟩
  intro T hT X
  obtain ⟨v', st₀, t, T', L, h0, X', hL, e1, e2, ⟨hv, hp', hz', ho'⟩, stp⟩ := hr T hT X
  cases hv
  rw [h0] at hz' ho'
  obtain ⟨t2, a1, b1⟩ := k T'.heap (locs ++ L) (P_mrg hP (hA ▸ hN) is hC hlen (fun q hq => by rw [e1]; exact ho' q hq) (by rw [e1]; exact hp')) (by rw [e1, hz', hz]) (fun q hq => by rw [e1, ho' q (fun h => hq (hcA q h))]; exact ho q hq) (fun z hz => (List.mem_append.mp hz).elim (hl z) (fun h => hcA _ (hL z h))) T' rfl X'
  exact ⟨t2, stp t2 a1, b1⟩
theorem V.rdVN (F : CallFix p m c cc nL s args LW own) (hE : CE E (fun q => q ∈ AD) s s.heap) {C : String} {b q0 ci : Nat} {T : u_T} {N0 : Nat} {fs : List Value} {host : String} {index : Nat} {y : MethodName} {bytes : ByteArray} {maxL n fr lo : Nat} {ret : Option FieldType} {v : Value} {As rest st0 : List Value} {wc : va_W} (hM : Rd l E y bytes maxL ret fr lo (.ref b :: As) wc (some v)) (cw : va_CN R s args own index y host bytes maxL ret (Cond.code y bytes maxL ret :: LW) (rmk fr 0 0 lo) 0 0 n ∧ (Cond.instanceMethod y).before args s = true ∧ (Cond.selects C y y).before args s = true) (hob : ws[q0]? = some (b, .inr (ci, fs))) (hcl : vwCl[ci]? = some (C, T, N0)) (is : List Nat) (hC : is.map (fun i => ws[i]?) = wc.map some) (hn : As.length = n) (hsz : ls.size = nL) (hroom : (rest.map fun v => v.category).sum ≤ 8) (hd : decode cc pc = .ok (.invokevirtual index, 3)) (hst : st0 = As.reverse ++ .ref b :: rest) (k : V p l e R s m args below meth c E AD Q ws (F0 m (pc + 3) ls (v :: rest))) : V p l e R s m args below meth c E AD Q ws (F0 m pc ls st0) := by
  intro H locs hP hz ho hl
  subst hst
  have hr : va_Run p l e R s m args below meth c H locs 0 0 0 0 (F0 m pc ls (As.reverse ++ .ref b :: rest)) rest (RQ (some v) ((Value.ref b :: As)).toArray) (fun _ => False) := va_runVN (As := As) (rest := rest) F hM cw ⟨PB.blind, va_recv hE.1 hP hcl hob, fun U hU hW => ⟨rfl, by rw [hU]; exact P_sub hP is hC, hE.at ho (fun _ h => h.elim) hU hW⟩⟩ rfl hn hsz rfl (lv_room hroom) hd ⟨Nat.zero_le _, Nat.zero_le _⟩
  intro T hT X
  obtain ⟨v', st₀, t, T', L, h0, X', hL, e1, e2, ⟨hv, hh⟩, stp⟩ := hr T hT X
  cases hv
  have hLn : L = [] := by
    cases L with
    | nil => rfl
    | cons a _ => exact (hL a List.mem_cons_self).elim
  subst hLn
  rw [List.append_nil] at X'
  obtain ⟨t2, a1, b1⟩ := k H locs hP hz ho hl T' (by rw [e1, hh, h0]) X'
  exact ⟨t2, stp t2 a1, b1⟩
theorem V.wrVN (F : CallFix p m c cc nL s args LW own) (hE : CE E (fun q => q ∈ AD) s s.heap) (hN : AD.Nodup) (hA : ads ws = AD) {C : String} {b q0 ci : Nat} {T : u_T} {N0 : Nat} {fs : List Value} {host : String} {index : Nat} {y : MethodName} {bytes : ByteArray} {maxL n fr lo : Nat} {ret : Option FieldType} {v : Value} {As rest st0 : List Value} {wc wc' ws' : va_W} (hM : Wr l E y bytes maxL ret fr lo (.ref b :: As) wc wc' (some v)) (cw : va_CN R s args own index y host bytes maxL ret (Cond.code y bytes maxL ret :: LW) (rmk fr 0 0 lo) 0 0 n ∧ (Cond.instanceMethod y).before args s = true ∧ (Cond.selects C y y).before args s = true) (hob : ws[q0]? = some (b, .inr (ci, fs))) (hcl : vwCl[ci]? = some (C, T, N0)) (is : List Nat) (hC : is.map (fun i => ws[i]?) = wc.map some) (hnd : va_nd is = true) (hlen : wc'.length = wc.length) (hw : mrg is ws wc' = ws') (hn : As.length = n) (hsz : ls.size = nL) (hroom : (rest.map fun v => v.category).sum ≤ 8) (hd : decode cc pc = .ok (.invokevirtual index, 3)) (hst : st0 = As.reverse ++ .ref b :: rest) (k : V p l e R s m args below meth c E AD Q ws' (F0 m (pc + 3) ls (v :: rest))) : V p l e R s m args below meth c E AD Q ws (F0 m pc ls st0) := by
  intro H locs hP hz ho hl
  subst hst
  subst hw
  have hcA : ∀ q, q ∈ ads wc → q ∈ AD := fun q h => hA ▸ sub_ads hC q h
  have hr : va_Run p l e R s m args below meth c H locs 0 0 0 0 (F0 m pc ls (As.reverse ++ .ref b :: rest)) rest (WQ E wc wc' (some v) ((Value.ref b :: As)).toArray) (fun q => q ∈ ads wc) := va_runVN (As := As) (rest := rest) F hM cw ⟨PW.blind, va_recv hE.1 hP hcl hob, fun U hU hW => ⟨rfl, by rw [hU]; exact P_sub hP is hC, nodup_of (hA ▸ hN) is hC hnd, hE.at ho hcA hU hW⟩⟩ rfl hn hsz rfl (lv_room hroom) hd ⟨Nat.zero_le _, Nat.zero_le _⟩
  intro T hT X
  obtain ⟨v', st₀, t, T', L, h0, X', hL, e1, e2, ⟨hv, hp', hz', ho'⟩, stp⟩ := hr T hT X
  cases hv
  rw [h0] at hz' ho'
  obtain ⟨t2, a1, b1⟩ := k T'.heap (locs ++ L) (P_mrg hP (hA ▸ hN) is hC hlen (fun q hq => by rw [e1]; exact ho' q hq) (by rw [e1]; exact hp')) (by rw [e1, hz', hz]) (fun q hq => by rw [e1, ho' q (fun h => hq (hcA q h))]; exact ho q hq) (fun z hz => (List.mem_append.mp hz).elim (hl z) (fun h => hcA _ (hL z h))) T' rfl X'
  exact ⟨t2, stp t2 a1, b1⟩
theorem V.rdVNn (F : CallFix p m c cc nL s args LW own) (hE : CE E (fun q => q ∈ AD) s s.heap) {C : String} {b q0 ci : Nat} {T : u_T} {N0 : Nat} {fs : List Value} {host : String} {index : Nat} {y : MethodName} {bytes : ByteArray} {maxL n fr lo : Nat} {ret : Option FieldType} {As rest st0 : List Value} {wc : va_W} (hM : Rd l E y bytes maxL ret fr lo (.ref b :: As) wc none) (cw : va_CN R s args own index y host bytes maxL ret (Cond.code y bytes maxL ret :: LW) (rmk fr 0 0 lo) 0 0 n ∧ (Cond.instanceMethod y).before args s = true ∧ (Cond.selects C y y).before args s = true) (hob : ws[q0]? = some (b, .inr (ci, fs))) (hcl : vwCl[ci]? = some (C, T, N0)) (is : List Nat) (hC : is.map (fun i => ws[i]?) = wc.map some) (hn : As.length = n) (hsz : ls.size = nL) (hroom : (rest.map fun v => v.category).sum ≤ 8) (hd : decode cc pc = .ok (.invokevirtual index, 3)) (hst : st0 = As.reverse ++ .ref b :: rest) (k : V p l e R s m args below meth c E AD Q ws (F0 m (pc + 3) ls rest)) : V p l e R s m args below meth c E AD Q ws (F0 m pc ls st0) := by
  intro H locs hP hz ho hl
  subst hst
  have hr : va_Run p l e R s m args below meth c H locs 0 0 0 0 (F0 m pc ls (As.reverse ++ .ref b :: rest)) rest (RQ none ((Value.ref b :: As)).toArray) (fun _ => False) := va_runVN (As := As) (rest := rest) F hM cw ⟨PB.blind, va_recv hE.1 hP hcl hob, fun U hU hW => ⟨rfl, by rw [hU]; exact P_sub hP is hC, hE.at ho (fun _ h => h.elim) hU hW⟩⟩ rfl hn hsz rfl (lv_room hroom) hd ⟨Nat.zero_le _, Nat.zero_le _⟩
  intro T hT X
  obtain ⟨v', st₀, t, T', L, h0, X', hL, e1, e2, ⟨hv, hh⟩, stp⟩ := hr T hT X
  cases hv
  have hLn : L = [] := by
    cases L with
    | nil => rfl
    | cons a _ => exact (hL a List.mem_cons_self).elim
  subst hLn
  rw [List.append_nil] at X'
  obtain ⟨t2, a1, b1⟩ := k H locs hP hz ho hl T' (by rw [e1, hh, h0]) X'
  exact ⟨t2, stp t2 a1, b1⟩
theorem V.wrVNn (F : CallFix p m c cc nL s args LW own) (hE : CE E (fun q => q ∈ AD) s s.heap) (hN : AD.Nodup) (hA : ads ws = AD) {C : String} {b q0 ci : Nat} {T : u_T} {N0 : Nat} {fs : List Value} {host : String} {index : Nat} {y : MethodName} {bytes : ByteArray} {maxL n fr lo : Nat} {ret : Option FieldType} {As rest st0 : List Value} {wc wc' ws' : va_W} (hM : Wr l E y bytes maxL ret fr lo (.ref b :: As) wc wc' none) (cw : va_CN R s args own index y host bytes maxL ret (Cond.code y bytes maxL ret :: LW) (rmk fr 0 0 lo) 0 0 n ∧ (Cond.instanceMethod y).before args s = true ∧ (Cond.selects C y y).before args s = true) (hob : ws[q0]? = some (b, .inr (ci, fs))) (hcl : vwCl[ci]? = some (C, T, N0)) (is : List Nat) (hC : is.map (fun i => ws[i]?) = wc.map some) (hnd : va_nd is = true) (hlen : wc'.length = wc.length) (hw : mrg is ws wc' = ws') (hn : As.length = n) (hsz : ls.size = nL) (hroom : (rest.map fun v => v.category).sum ≤ 8) (hd : decode cc pc = .ok (.invokevirtual index, 3)) (hst : st0 = As.reverse ++ .ref b :: rest) (k : V p l e R s m args below meth c E AD Q ws' (F0 m (pc + 3) ls rest)) : V p l e R s m args below meth c E AD Q ws (F0 m pc ls st0) := by
  intro H locs hP hz ho hl
  subst hst
  subst hw
  have hcA : ∀ q, q ∈ ads wc → q ∈ AD := fun q h => hA ▸ sub_ads hC q h
  have hr : va_Run p l e R s m args below meth c H locs 0 0 0 0 (F0 m pc ls (As.reverse ++ .ref b :: rest)) rest (WQ E wc wc' none ((Value.ref b :: As)).toArray) (fun q => q ∈ ads wc) := va_runVN (As := As) (rest := rest) F hM cw ⟨PW.blind, va_recv hE.1 hP hcl hob, fun U hU hW => ⟨rfl, by rw [hU]; exact P_sub hP is hC, nodup_of (hA ▸ hN) is hC hnd, hE.at ho hcA hU hW⟩⟩ rfl hn hsz rfl (lv_room hroom) hd ⟨Nat.zero_le _, Nat.zero_le _⟩
  intro T hT X
  obtain ⟨v', st₀, t, T', L, h0, X', hL, e1, e2, ⟨hv, hp', hz', ho'⟩, stp⟩ := hr T hT X
  cases hv
  rw [h0] at hz' ho'
  obtain ⟨t2, a1, b1⟩ := k T'.heap (locs ++ L) (P_mrg hP (hA ▸ hN) is hC hlen (fun q hq => by rw [e1]; exact ho' q hq) (by rw [e1]; exact hp')) (by rw [e1, hz', hz]) (fun q hq => by rw [e1, ho' q (fun h => hq (hcA q h))]; exact ho q hq) (fun z hz => (List.mem_append.mp hz).elim (hl z) (fun h => hcA _ (hL z h))) T' rfl X'
  exact ⟨t2, stp t2 a1, b1⟩
theorem V.rdSN (F : CallFix p m c cc nL s args LW own) (hE : CE E (fun q => q ∈ AD) s s.heap) {host : String} {index : Nat} {y : MethodName} {bytes : ByteArray} {maxL n fr lo : Nat} {ret : Option FieldType} {v : Value} {As rest st0 : List Value} {wc : va_W} (hM : Rd l E y bytes maxL ret fr lo As wc (some v)) (cw : va_CN R s args own index y host bytes maxL ret (Cond.code y bytes maxL ret :: LW) (rmk fr 0 0 lo) 0 0 n ∧ (Cond.static y).before args s = true ∧ True) (is : List Nat) (hC : is.map (fun i => ws[i]?) = wc.map some) (hn : As.length = n) (hsz : ls.size = nL) (hroom : (rest.map fun v => v.category).sum ≤ 8) (hd : decode cc pc = .ok (.invokestatic index, 3)) (hst : st0 = As.reverse ++ rest) (k : V p l e R s m args below meth c E AD Q ws (F0 m (pc + 3) ls (v :: rest))) : V p l e R s m args below meth c E AD Q ws (F0 m pc ls st0) := by
  intro H locs hP hz ho hl
  subst hst
  have hr : va_Run p l e R s m args below meth c H locs 0 0 0 0 (F0 m pc ls (As.reverse ++ rest)) rest (RQ (some v) (As).toArray) (fun _ => False) := va_runSN (As := As) (rest := rest) F hM cw ⟨PB.blind, fun U hU hW => ⟨rfl, by rw [hU]; exact P_sub hP is hC, hE.at ho (fun _ h => h.elim) hU hW⟩⟩ rfl hn hsz rfl (lv_room hroom) hd ⟨Nat.zero_le _, Nat.zero_le _⟩
  intro T hT X
  obtain ⟨v', st₀, t, T', L, h0, X', hL, e1, e2, ⟨hv, hh⟩, stp⟩ := hr T hT X
  cases hv
  have hLn : L = [] := by
    cases L with
    | nil => rfl
    | cons a _ => exact (hL a List.mem_cons_self).elim
  subst hLn
  rw [List.append_nil] at X'
  obtain ⟨t2, a1, b1⟩ := k H locs hP hz ho hl T' (by rw [e1, hh, h0]) X'
  exact ⟨t2, stp t2 a1, b1⟩
theorem V.wrSN (F : CallFix p m c cc nL s args LW own) (hE : CE E (fun q => q ∈ AD) s s.heap) (hN : AD.Nodup) (hA : ads ws = AD) {host : String} {index : Nat} {y : MethodName} {bytes : ByteArray} {maxL n fr lo : Nat} {ret : Option FieldType} {v : Value} {As rest st0 : List Value} {wc wc' ws' : va_W} (hM : Wr l E y bytes maxL ret fr lo As wc wc' (some v)) (cw : va_CN R s args own index y host bytes maxL ret (Cond.code y bytes maxL ret :: LW) (rmk fr 0 0 lo) 0 0 n ∧ (Cond.static y).before args s = true ∧ True) (is : List Nat) (hC : is.map (fun i => ws[i]?) = wc.map some) (hnd : va_nd is = true) (hlen : wc'.length = wc.length) (hw : mrg is ws wc' = ws') (hn : As.length = n) (hsz : ls.size = nL) (hroom : (rest.map fun v => v.category).sum ≤ 8) (hd : decode cc pc = .ok (.invokestatic index, 3)) (hst : st0 = As.reverse ++ rest) (k : V p l e R s m args below meth c E AD Q ws' (F0 m (pc + 3) ls (v :: rest))) : V p l e R s m args below meth c E AD Q ws (F0 m pc ls st0) := by
  intro H locs hP hz ho hl
  subst hst
  subst hw
  have hcA : ∀ q, q ∈ ads wc → q ∈ AD := fun q h => hA ▸ sub_ads hC q h
  have hr : va_Run p l e R s m args below meth c H locs 0 0 0 0 (F0 m pc ls (As.reverse ++ rest)) rest (WQ E wc wc' (some v) (As).toArray) (fun q => q ∈ ads wc) := va_runSN (As := As) (rest := rest) F hM cw ⟨PW.blind, fun U hU hW => ⟨rfl, by rw [hU]; exact P_sub hP is hC, nodup_of (hA ▸ hN) is hC hnd, hE.at ho hcA hU hW⟩⟩ rfl hn hsz rfl (lv_room hroom) hd ⟨Nat.zero_le _, Nat.zero_le _⟩
  intro T hT X
  obtain ⟨v', st₀, t, T', L, h0, X', hL, e1, e2, ⟨hv, hp', hz', ho'⟩, stp⟩ := hr T hT X
  cases hv
  rw [h0] at hz' ho'
  obtain ⟨t2, a1, b1⟩ := k T'.heap (locs ++ L) (P_mrg hP (hA ▸ hN) is hC hlen (fun q hq => by rw [e1]; exact ho' q hq) (by rw [e1]; exact hp')) (by rw [e1, hz', hz]) (fun q hq => by rw [e1, ho' q (fun h => hq (hcA q h))]; exact ho q hq) (fun z hz => (List.mem_append.mp hz).elim (hl z) (fun h => hcA _ (hL z h))) T' rfl X'
  exact ⟨t2, stp t2 a1, b1⟩
theorem V.rdSNn (F : CallFix p m c cc nL s args LW own) (hE : CE E (fun q => q ∈ AD) s s.heap) {host : String} {index : Nat} {y : MethodName} {bytes : ByteArray} {maxL n fr lo : Nat} {ret : Option FieldType} {As rest st0 : List Value} {wc : va_W} (hM : Rd l E y bytes maxL ret fr lo As wc none) (cw : va_CN R s args own index y host bytes maxL ret (Cond.code y bytes maxL ret :: LW) (rmk fr 0 0 lo) 0 0 n ∧ (Cond.static y).before args s = true ∧ True) (is : List Nat) (hC : is.map (fun i => ws[i]?) = wc.map some) (hn : As.length = n) (hsz : ls.size = nL) (hroom : (rest.map fun v => v.category).sum ≤ 8) (hd : decode cc pc = .ok (.invokestatic index, 3)) (hst : st0 = As.reverse ++ rest) (k : V p l e R s m args below meth c E AD Q ws (F0 m (pc + 3) ls rest)) : V p l e R s m args below meth c E AD Q ws (F0 m pc ls st0) := by
  intro H locs hP hz ho hl
  subst hst
  have hr : va_Run p l e R s m args below meth c H locs 0 0 0 0 (F0 m pc ls (As.reverse ++ rest)) rest (RQ none (As).toArray) (fun _ => False) := va_runSN (As := As) (rest := rest) F hM cw ⟨PB.blind, fun U hU hW => ⟨rfl, by rw [hU]; exact P_sub hP is hC, hE.at ho (fun _ h => h.elim) hU hW⟩⟩ rfl hn hsz rfl (lv_room hroom) hd ⟨Nat.zero_le _, Nat.zero_le _⟩
  intro T hT X
  obtain ⟨v', st₀, t, T', L, h0, X', hL, e1, e2, ⟨hv, hh⟩, stp⟩ := hr T hT X
  cases hv
  have hLn : L = [] := by
    cases L with
    | nil => rfl
    | cons a _ => exact (hL a List.mem_cons_self).elim
  subst hLn
  rw [List.append_nil] at X'
  obtain ⟨t2, a1, b1⟩ := k H locs hP hz ho hl T' (by rw [e1, hh, h0]) X'
  exact ⟨t2, stp t2 a1, b1⟩
theorem V.wrSNn (F : CallFix p m c cc nL s args LW own) (hE : CE E (fun q => q ∈ AD) s s.heap) (hN : AD.Nodup) (hA : ads ws = AD) {host : String} {index : Nat} {y : MethodName} {bytes : ByteArray} {maxL n fr lo : Nat} {ret : Option FieldType} {As rest st0 : List Value} {wc wc' ws' : va_W} (hM : Wr l E y bytes maxL ret fr lo As wc wc' none) (cw : va_CN R s args own index y host bytes maxL ret (Cond.code y bytes maxL ret :: LW) (rmk fr 0 0 lo) 0 0 n ∧ (Cond.static y).before args s = true ∧ True) (is : List Nat) (hC : is.map (fun i => ws[i]?) = wc.map some) (hnd : va_nd is = true) (hlen : wc'.length = wc.length) (hw : mrg is ws wc' = ws') (hn : As.length = n) (hsz : ls.size = nL) (hroom : (rest.map fun v => v.category).sum ≤ 8) (hd : decode cc pc = .ok (.invokestatic index, 3)) (hst : st0 = As.reverse ++ rest) (k : V p l e R s m args below meth c E AD Q ws' (F0 m (pc + 3) ls rest)) : V p l e R s m args below meth c E AD Q ws (F0 m pc ls st0) := by
  intro H locs hP hz ho hl
  subst hst
  subst hw
  have hcA : ∀ q, q ∈ ads wc → q ∈ AD := fun q h => hA ▸ sub_ads hC q h
  have hr : va_Run p l e R s m args below meth c H locs 0 0 0 0 (F0 m pc ls (As.reverse ++ rest)) rest (WQ E wc wc' none (As).toArray) (fun q => q ∈ ads wc) := va_runSN (As := As) (rest := rest) F hM cw ⟨PW.blind, fun U hU hW => ⟨rfl, by rw [hU]; exact P_sub hP is hC, nodup_of (hA ▸ hN) is hC hnd, hE.at ho hcA hU hW⟩⟩ rfl hn hsz rfl (lv_room hroom) hd ⟨Nat.zero_le _, Nat.zero_le _⟩
  intro T hT X
  obtain ⟨v', st₀, t, T', L, h0, X', hL, e1, e2, ⟨hv, hp', hz', ho'⟩, stp⟩ := hr T hT X
  cases hv
  rw [h0] at hz' ho'
  obtain ⟨t2, a1, b1⟩ := k T'.heap (locs ++ L) (P_mrg hP (hA ▸ hN) is hC hlen (fun q hq => by rw [e1]; exact ho' q hq) (by rw [e1]; exact hp')) (by rw [e1, hz', hz]) (fun q hq => by rw [e1, ho' q (fun h => hq (hcA q h))]; exact ho q hq) (fun z hz => (List.mem_append.mp hz).elim (hl z) (fun h => hcA _ (hL z h))) T' rfl X'
  exact ⟨t2, stp t2 a1, b1⟩
theorem V.iretR (F : CallFix p m c cc nL s args LW own) (hr : meth.sig.returnType = some .int) (hk : meth.locks = false) {v v' : Int32} (hd : decode cc pc = .ok (.ireturn, 1)) (h : v' = v) : V p l e R s m args below meth c E [] (MQ below (RQ (some (.int v))) args s 0 0 (fun _ => False)) ws (F0 m pc ls [.int v']) := by
  intro H locs hP hz ho hl
  subst h
  have hH : H = s.heap := Array.ext_getElem? (fun q => ho q List.not_mem_nil)
  subst hH
  exact W.iret F.1 F.2.1 hr (fun t ht _ => ⟨rfl, ht⟩) (fun q hq => absurd (hl q hq) List.not_mem_nil) hd hk
theorem V.iretW (F : CallFix p m c cc nL s args LW own) (hr : meth.sig.returnType = some .int) (hk : meth.locks = false) {w0 w1 : va_W} {v v' : Int32} (hd : decode cc pc = .ok (.ireturn, 1)) (h : v' = v) (hw : ws = w1) : V p l e R s m args below meth c E (ads w0) (MQ below (WQ E w0 w1 (some (.int v))) args s 0 0 (fun q => q ∈ ads w0)) ws (F0 m pc ls [.int v']) := by
  intro H locs hP hz ho hl
  subst h
  subst hw
  exact W.iret F.1 F.2.1 hr (fun t ht _ => ⟨rfl, by rw [ht]; exact hP, by rw [ht]; exact hz, fun q hq => by rw [ht]; exact ho q hq⟩) hl hd hk
theorem V.lretR (F : CallFix p m c cc nL s args LW own) (hr : meth.sig.returnType = some .long) (hk : meth.locks = false) {v v' : Int64} (hd : decode cc pc = .ok (.lreturn, 1)) (h : v' = v) : V p l e R s m args below meth c E [] (MQ below (RQ (some (.long v))) args s 0 0 (fun _ => False)) ws (F0 m pc ls [.long v']) := by
  intro H locs hP hz ho hl
  subst h
  have hH : H = s.heap := Array.ext_getElem? (fun q => ho q List.not_mem_nil)
  subst hH
  exact W.lret F.1 F.2.1 hr (fun t ht _ => ⟨rfl, ht⟩) (fun q hq => absurd (hl q hq) List.not_mem_nil) hd hk
theorem V.lretW (F : CallFix p m c cc nL s args LW own) (hr : meth.sig.returnType = some .long) (hk : meth.locks = false) {w0 w1 : va_W} {v v' : Int64} (hd : decode cc pc = .ok (.lreturn, 1)) (h : v' = v) (hw : ws = w1) : V p l e R s m args below meth c E (ads w0) (MQ below (WQ E w0 w1 (some (.long v))) args s 0 0 (fun q => q ∈ ads w0)) ws (F0 m pc ls [.long v']) := by
  intro H locs hP hz ho hl
  subst h
  subst hw
  exact W.lret F.1 F.2.1 hr (fun t ht _ => ⟨rfl, by rw [ht]; exact hP, by rw [ht]; exact hz, fun q hq => by rw [ht]; exact ho q hq⟩) hl hd hk
theorem V.dretR (F : CallFix p m c cc nL s args LW own) (hr : meth.sig.returnType = some .double) (hk : meth.locks = false) {v v' : UInt64} (hd : decode cc pc = .ok (.dreturn, 1)) (h : v' = v) : V p l e R s m args below meth c E [] (MQ below (RQ (some (.double v))) args s 0 0 (fun _ => False)) ws (F0 m pc ls [.double v']) := by
  intro H locs hP hz ho hl
  subst h
  have hH : H = s.heap := Array.ext_getElem? (fun q => ho q List.not_mem_nil)
  subst hH
  exact W.dret F.1 F.2.1 hr (fun t ht _ => ⟨rfl, ht⟩) (fun q hq => absurd (hl q hq) List.not_mem_nil) hd hk
theorem V.dretW (F : CallFix p m c cc nL s args LW own) (hr : meth.sig.returnType = some .double) (hk : meth.locks = false) {w0 w1 : va_W} {v v' : UInt64} (hd : decode cc pc = .ok (.dreturn, 1)) (h : v' = v) (hw : ws = w1) : V p l e R s m args below meth c E (ads w0) (MQ below (WQ E w0 w1 (some (.double v))) args s 0 0 (fun q => q ∈ ads w0)) ws (F0 m pc ls [.double v']) := by
  intro H locs hP hz ho hl
  subst h
  subst hw
  exact W.dret F.1 F.2.1 hr (fun t ht _ => ⟨rfl, by rw [ht]; exact hP, by rw [ht]; exact hz, fun q hq => by rw [ht]; exact ho q hq⟩) hl hd hk
theorem V.zretR (F : CallFix p m c cc nL s args LW own) (hr : meth.sig.returnType = some .boolean) (hk : meth.locks = false) {v v' : Int32} (hd : decode cc pc = .ok (.ireturn, 1)) (hn : narrow .boolean (.int v) = .int v) (h : v' = v) : V p l e R s m args below meth c E [] (MQ below (RQ (some (.int v))) args s 0 0 (fun _ => False)) ws (F0 m pc ls [.int v']) := by
  intro H locs hP hz ho hl
  subst h
  have hH : H = s.heap := Array.ext_getElem? (fun q => ho q List.not_mem_nil)
  subst hH
  exact W.zret F.1 F.2.1 hr hn (fun t ht _ => ⟨rfl, ht⟩) (fun q hq => absurd (hl q hq) List.not_mem_nil) hd hk
theorem V.zretW (F : CallFix p m c cc nL s args LW own) (hr : meth.sig.returnType = some .boolean) (hk : meth.locks = false) {w0 w1 : va_W} {v v' : Int32} (hd : decode cc pc = .ok (.ireturn, 1)) (hn : narrow .boolean (.int v) = .int v) (h : v' = v) (hw : ws = w1) : V p l e R s m args below meth c E (ads w0) (MQ below (WQ E w0 w1 (some (.int v))) args s 0 0 (fun q => q ∈ ads w0)) ws (F0 m pc ls [.int v']) := by
  intro H locs hP hz ho hl
  subst h
  subst hw
  exact W.zret F.1 F.2.1 hr hn (fun t ht _ => ⟨rfl, by rw [ht]; exact hP, by rw [ht]; exact hz, fun q hq => by rw [ht]; exact ho q hq⟩) hl hd hk
theorem V.vretR (F : CallFix p m c cc nL s args LW own) (hr : meth.sig.returnType = none) (hk : meth.locks = false) (hd : decode cc pc = .ok (.return_, 1)) : V p l e R s m args below meth c E [] (MQ below (RQ none) args s 0 0 (fun _ => False)) ws (F0 m pc ls []) := by
  intro H locs hP hz ho hl
  have hH : H = s.heap := Array.ext_getElem? (fun q => ho q List.not_mem_nil)
  subst hH
  exact W.vret F.1 F.2.1 hr (fun t ht _ => ⟨rfl, ht⟩) (fun q hq => absurd (hl q hq) List.not_mem_nil) hd hk
theorem V.vretW (F : CallFix p m c cc nL s args LW own) (hr : meth.sig.returnType = none) (hk : meth.locks = false) {w0 w1 : va_W} (hd : decode cc pc = .ok (.return_, 1)) (hw : ws = w1) : V p l e R s m args below meth c E (ads w0) (MQ below (WQ E w0 w1 none) args s 0 0 (fun q => q ∈ ads w0)) ws (F0 m pc ls []) := by
  intro H locs hP hz ho hl
  subst hw
  exact W.vret F.1 F.2.1 hr (fun t ht _ => ⟨rfl, by rw [ht]; exact hP, by rw [ht]; exact hz, fun q hq => by rw [ht]; exact ho q hq⟩) hl hd hk
end VV
theorem Rd.mk0 {l : Launch} {E : EV} {y : MethodName} {cc : ByteArray} {maxL fr lo : Nat} {ret : Option FieldType} {av : List Value} {ws : va_W} {v : Option Value} (hy : plainName y.cls = true) (hlen : (lg_sl av).length ≤ maxL)
    (body : ∀ (p : Program) (e : Env) (s : State) (m : MethodId) (args : Array Value) (below : List Frame) (meth : Method) (c : Code), CallFix p m c cc maxL s args LW y.cls → meth.sig.returnType = ret → meth.locks = false → CE E (fun q => q ∈ ([] : List Nat)) s s.heap → ∀ ls, lv_has ls maxL (lv_args 0 av) → V p l e (rmk fr 0 0 lo) s m args below meth c E [] (MQ below (RQ v) args s 0 0 (fun _ => False)) ws (F0 m 0 ls [])) : Rd l E y cc maxL ret fr lo av ws v := by
  refine Met.ofW (cc := cc) (maxL := maxL) (ret := ret) hy rfl ?_
  intro p e s m args below meth c s₁ B hml hv
  obtain ⟨rfl, hP, hE⟩ := hv
  have hts := atoms_spec (ws := Cond.code y cc maxL ret :: LW) B.pre
  rw [lg_entry_eq]
  exact body p e s m _ below meth c ⟨B.exec, B.bytes, hml, findClass_of_methodNamed B.named, fun w h => hts w (List.mem_cons_of_mem _ h)⟩ B.returns B.notSynchronized (hE.tr (State.WarmedH.refl s) (fun _ _ _ => rfl) (fun q h => absurd h List.not_mem_nil)) _ (lv_entry av hlen) s.heap [] hP rfl (fun _ _ => rfl) (fun _ h => absurd h List.not_mem_nil)
theorem Wr.mk0 {l : Launch} {E : EV} {y : MethodName} {cc : ByteArray} {maxL fr lo : Nat} {ret : Option FieldType} {av : List Value} {w0 w1 : va_W} {v : Option Value} (hy : plainName y.cls = true) (hlen : (lg_sl av).length ≤ maxL)
    (body : ∀ (p : Program) (e : Env) (s : State) (m : MethodId) (args : Array Value) (below : List Frame) (meth : Method) (c : Code), CallFix p m c cc maxL s args LW y.cls → meth.sig.returnType = ret → meth.locks = false → CE E (fun q => q ∈ ads w0) s s.heap → (ads w0).Nodup → ∀ ls, lv_has ls maxL (lv_args 0 av) → V p l e (rmk fr 0 0 lo) s m args below meth c E (ads w0) (MQ below (WQ E w0 w1 v) args s 0 0 (fun q => q ∈ ads w0)) w0 (F0 m 0 ls [])) : Wr l E y cc maxL ret fr lo av w0 w1 v := by
  refine Met.ofW (cc := cc) (maxL := maxL) (ret := ret) hy rfl ?_
  intro p e s m args below meth c s₁ B hml hv
  obtain ⟨rfl, hP, hN, hE⟩ := hv
  have hts := atoms_spec (ws := Cond.code y cc maxL ret :: LW) B.pre
  rw [lg_entry_eq]
  exact body p e s m _ below meth c ⟨B.exec, B.bytes, hml, findClass_of_methodNamed B.named, fun w h => hts w (List.mem_cons_of_mem _ h)⟩ B.returns B.notSynchronized hE hN _ (lv_entry av hlen) s.heap [] hP rfl (fun _ _ => rfl) (fun _ h => absurd h List.not_mem_nil)
