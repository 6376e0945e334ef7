/-! more rows of V: a row's cell by its places in range; the double constants -/
section V2
variable {p : Program} {l : Launch} {e : Env} {R : Room} {s : State} {m : MethodId} {args : Array Value} {below : List Frame} {meth : Method} {c : Code} {E : EV} {AD : List Nat} {Q : State → Prop} {ws : va_W}
variable {cc : ByteArray} {nL : Nat} {own : String} {pc : Nat} {ls : Array Slot} {st : List Value} {g : JFrame}
theorem row_same {k : ClassId} {N : Nat} {f f' : Nat → Int32} (h : ∀ j, j < N → f j = f' j) : vp_cell k (N, .inl f) = vp_cell k (N, .inl f') := by
  rw [vp_cell_i, vp_cell_i]
  unfold arrV
  congr 1
  apply Array.ext
  · simp
  · intro i h1 h2
    simp only [Array.size_ofFn] at h1
    simp [h i h1]
theorem P_row {D : va_G} {ws : va_W} {H : Heap} {q0 a N : Nat} {k : ClassId} {f f' : Nat → Int32} (hP : va_P D vwCl ws H) (he : ws[q0]? = some (a, .inl (k, N, .inl f))) (h : ∀ j, j < N → f j = f' j) : va_P D vwCl (ws.set q0 (a, .inl (k, N, .inl f'))) H := by
  intro j x hx
  by_cases e : j = q0
  · subst e
    have hl := (List.getElem?_eq_some_iff.mp he).1
    rw [List.getElem?_set_self hl] at hx
    cases hx
    have h1 := hP j _ he
    show H[a]? = some (vp_cell _ _)
    rw [← row_same h]
    exact h1
  · rw [List.getElem?_set_ne (fun q => e q.symm)] at hx
    exact hP j x hx
theorem V.cell {a N : Nat} {k : ClassId} {f f' : Nat → Int32} (q0 : Nat) (he : ws[q0]? = some (a, .inl (k, N, .inl f))) (h : ∀ j, j < N → f j = f' j) {ws' : va_W} (hw : ws.set q0 (a, .inl (k, N, .inl f')) = ws') (kk : V p l e R s m args below meth c E AD Q ws' g) : V p l e R s m args below meth c E AD Q ws g := by
  subst hw
  exact V.world (fun H hP => P_row hP he h) kk
theorem V.dconst0 (F : CallFix p m c cc nL s args LW own) (hd : decode cc pc = .ok (.dconst 0, 1)) (k : V p l e R s m args below meth c E AD Q ws (F0 m (pc + 1) ls (.double FP.dconst0 :: st))) : V p l e R s m args below meth c E AD Q ws (F0 m pc ls st) := V.go (fun _ _ k => lv_dconst0 F.1 F.2.1 hd k) k
theorem V.dconst1 (F : CallFix p m c cc nL s args LW own) (hd : decode cc pc = .ok (.dconst 1, 1)) (k : V p l e R s m args below meth c E AD Q ws (F0 m (pc + 1) ls (.double FP.dconst1 :: st))) : V p l e R s m args below meth c E AD Q ws (F0 m pc ls st) := V.go (fun _ _ k => lv_dconst1 F.1 F.2.1 hd k) k
end V2
theorem lpD {x : Int32} {N j : Nat} (hN : N < 2 ^ 31) (hj : j ≤ N - 1) (hx : x = nI j + 1) : (nI N ≤ x → j = N - 1) ∧ (¬ nI N ≤ x → j < N - 1) := by
  subst hx
  rw [nI_1]
  by_cases h0 : N = 0
  · subst h0
    have : j = 0 := by omega
    subst this
    refine ⟨fun _ => rfl, fun h => absurd ?_ h⟩
    rw [nI_leI (by omega) (by omega)]
    omega
  · rw [nI_leI hN (by omega)]
    omega
def drK (f : Nat → Int32) (k : Nat) : Nat → Int32 := fun j => if j < k then f (j + 1) else f j
def drF (N : Nat) (f : Nat → Int32) : Nat → Int32 := drK f (N - 1)
theorem drK_in {f : Nat → Int32} {j N : Nat} (h : j < N - 1) (hN : N < 2 ^ 31) : vp_in (nI j + 1) N := by rw [nI_1]; exact vp_in_nI (by omega) hN
theorem drK_s {f : Nat → Int32} {j N : Nat} (h : j < N - 1) (hN : N < 2 ^ 31) : upd (drK f j) (nI j).toNatClampNeg (drK f j (nI j + 1).toNatClampNeg) = drK f (j + 1) := by
  rw [nI_1, nI_clamp (by omega), nI_clamp (by omega)]
  funext t
  unfold upd drK
  by_cases h1 : t = j
  · subst h1
    simp only [if_true, if_neg (show ¬ t + 1 < t by omega), if_pos (show t < t + 1 by omega)]
  · by_cases h2 : t < j
    · simp [h1, h2, show t < j + 1 by omega]
    · simp [h1, h2, show ¬ t < j + 1 by omega]
theorem cpF_s {f g : Nat → Int32} {j N : Nat} (h : j < N) (hN : N < 2 ^ 31) : upd (cpF f g j) (nI j).toNatClampNeg (f (nI j).toNatClampNeg) = cpF f g (j + 1) := by
  rw [nI_clamp (by omega)]
  funext t
  unfold upd cpF
  by_cases h1 : t = j
  · subst h1
    simp
  · by_cases h2 : t < j
    · simp [h1, h2, show t < j + 1 by omega]
    · simp [h1, h2, show ¬ t < j + 1 by omega]
def kpI (n : Int32) (M : Int32) : Int32 := if n < M then n else n - 1
def kpR (n : Int32) (M : Int32) (N : Nat) (f : Nat → Int32) : Nat → Int32 := if n < M then f else drF N f
