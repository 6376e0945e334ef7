/-! rows of V for arrays of States, and calls of writers whose world stands in another order -/
section V3
variable {p : Program} {l : Launch} {e : Env} {R : Room} {s : State} {m : MethodId} {args : Array Value} {below : List Frame} {meth : Method} {c : Code} {E : EV} {AD : List Nat} {Q : State → Prop} {ws : va_W}
variable {cc : ByteArray} {nL : Nat} {own : String} {pc : Nat} {ls : Array Slot} {st : List Value} {g : JFrame}
abbrev rq_ (E : EV) (a N : Nat) (f : Nat → Option Nat) : Nat × va_E := (a, .inl (eKs E, N, .inr (.inr (.inr (.inr f)))))
theorem V.aald (F : CallFix p m c cc nL s args LW own) (hE : CE E (fun q => q ∈ AD) s s.heap) {a n x : Nat} {f : Nat → Option Nat} {i : Int32} (q0 : Nat) (he : ws[q0]? = some (rq_ E a n f)) (hin : vp_in i n) (hv : f i.toNatClampNeg = some x) (hd : decode cc pc = .ok (.aaload, 1)) (kk : V p l e R s m args below meth c E AD Q ws (F0 m (pc + 1) ls (.ref x :: st))) : V p l e R s m args below meth c E AD Q ws (F0 m pc ls (.int i :: .ref a :: st)) :=
  fun H locs a b d f => va_aldq F.1 F.2.1 hE.1 a q0 1 he rfl hin hd (by rw [hv]; exact kk H locs a b d f)
theorem V.alenq (F : CallFix p m c cc nL s args LW own) (hE : CE E (fun q => q ∈ AD) s s.heap) {a n : Nat} {f : Nat → Option Nat} (q0 : Nat) (he : ws[q0]? = some (rq_ E a n f)) (hd : decode cc pc = .ok (.arraylength, 1)) (kk : ∀ z : Int32, z = nI n → V p l e R s m args below meth c E AD Q ws (F0 m (pc + 1) ls (.int z :: st))) : V p l e R s m args below meth c E AD Q ws (F0 m pc ls (.ref a :: st)) :=
  fun H locs a b d f => va_alen F.1 F.2.1 hE.1 a q0 1 he (ty := .object RX5) rfl rfl hd (kk _ rfl H locs a b d f)
theorem V.aast (F : CallFix p m c cc nL s args LW own) (hE : CE E (fun q => q ∈ AD) s s.heap) (hN : AD.Nodup) (hA : ads ws = AD) {a n v : Nat} {vs : List Value} {f : Nat → Option Nat} {i : Int32} (q0 qk : Nat) (he : ws[q0]? = some (rq_ E a n f)) (hv : ws[qk]? = some (v, .inr (5, vs))) (hin : vp_in i n) (hd : decode cc pc = .ok (.aastore, 1)) {ws' : va_W} (hw : ws.set q0 (rq_ E a n (va_up f i.toNatClampNeg (some v))) = ws') (kk : V p l e R s m args below meth c E AD Q ws' (F0 m (pc + 1) ls st)) : V p l e R s m args below meth c E AD Q ws (F0 m pc ls (.ref v :: .int i :: .ref a :: st)) := by
  intro H locs hP hz ho hlo
  subst hw
  have haA : a ∈ AD := by rw [← hA]; exact List.mem_map.mpr ⟨_, List.mem_of_getElem? he, rfl⟩
  have hlt : i.toNatClampNeg < n := Nat.not_le.mp fun q => hin (Or.inr q)
  have h0 : ¬ i < 0 := fun q => hin (Or.inl q)
  obtain ⟨r', hr', cellV, g1, g2, g3, -⟩ := hP qk _ hv
  have hcls := (hE.1.1 5 _ rfl).2
  obtain ⟨kA, comp, k1, k2, k3, -⟩ := (hE.1.2 1 _ rfl).2
  have hcomp : comp = E.1.1 5 := Option.some.inj (k3.symm.trans hcls.1)
  subst hcomp
  obtain ⟨kC, hkC, -⟩ := hcls.2
  refine W.aast F.1 F.2.1 (hP q0 _ he) (fun q h => by cases h) (fun h => by cases h) k1 k2 rfl hkC ⟨h0, by show _ < (arrV _ _ _).slots.size; rw [arrV_size]; exact hlt⟩ g1 (fun q h => by rw [g3] at h; cases h) (by rw [g2]; exact hkC) (by rw [g2]; exact va_assign hcls) rfl rfl hd fun H1 e z oq => ?_
  refine kk H1 _ (P_set hP (hA ▸ hN) he ?_ oq) (z.trans hz) (fun q hq => (oq q (fun h => hq (h ▸ haA))).trans (ho q hq)) (fun z hz => ?_)
  · show H1[a]? = some (vp_cell _ _)
    rw [e]
    rw [vp_cell_q, vp_cell_q, arrV_store]
    congr 2
    funext q
    by_cases hq : q = i.toNatClampNeg
    · subst hq
      simp [updV, va_up, va_rf]
    · simp [updV, va_up, hq]
  · rcases List.mem_append.mp hz with h | h
    · exact hlo z h
    · rw [List.mem_singleton.mp h]; exact haA
theorem rowq_same {k : ClassId} {N : Nat} {f f' : Nat → Option Nat} (h : ∀ j, j < N → f j = f' j) : vp_cell k (N, .inr (.inr (.inr (.inr f)))) = vp_cell k (N, .inr (.inr (.inr (.inr f')))) := by
  rw [vp_cell_q, vp_cell_q]
  unfold arrV
  congr 1
  apply Array.ext
  · simp
  · intro i h1 h2
    simp only [Array.size_ofFn] at h1
    simp [h i h1]
theorem V.cellq {a N : Nat} {f f' : Nat → Option Nat} (q0 : Nat) (he : ws[q0]? = some (rq_ E a N f)) (h : ∀ j, j < N → f j = f' j) {ws' : va_W} (hw : ws.set q0 (rq_ E a N f') = ws') (kk : V p l e R s m args below meth c E AD Q ws' g) : V p l e R s m args below meth c E AD Q ws g := by
  subst hw
  refine V.world (fun H hP j x hx => ?_) kk
  by_cases e : j = q0
  · subst e
    have hl := (List.getElem?_eq_some_iff.mp he).1
    rw [List.getElem?_set_self hl] at hx
    cases hx
    have h1 := hP j _ he
    show H[a]? = some (vp_cell _ _)
    rw [← rowq_same h]
    exact h1
  · rw [List.getElem?_set_ne (fun q => e q.symm)] at hx
    exact hP j x hx
theorem V.aretR (F : CallFix p m c cc nL s args LW own) {n : String} (hr : meth.sig.returnType = some (.object n)) (hk : meth.locks = false) {v : Nat} (hd : decode cc pc = .ok (.areturn, 1)) : V p l e R s m args below meth c E [] (MQ below (RQ (some (.ref v))) args s 0 0 (fun _ => False)) ws (F0 m pc ls [.ref v]) := by
  intro H locs hP hz ho hl
  have hH : H = s.heap := Array.ext_getElem? (fun q => ho q List.not_mem_nil)
  subst hH
  exact W.aret F.1 F.2.1 hr (Or.inl ⟨n, rfl⟩) (Or.inr ⟨v, rfl⟩) (fun t ht _ => ⟨rfl, ht⟩) (fun q hq => absurd (hl q hq) List.not_mem_nil) hd hk
end V3
theorem nI_lt6 {i : Nat} (h : i < 6) : ¬ nI 6 ≤ nI i := by rw [nI_leI (by omega) (by omega)]; omega
theorem oi1n : Int32.ofInt 1 = nI 1 := rfl
def rot6 {α : Type} (f : Nat → α) : Nat → α := fun i => if i < 5 then f (i + 1) else f 0
theorem cl0 : (nI 0).toNatClampNeg = 0 := by decide
theorem cl1 : (nI 1).toNatClampNeg = 1 := by decide
theorem cl2 : (nI 2).toNatClampNeg = 2 := by decide
theorem cl3 : (nI 3).toNatClampNeg = 3 := by decide
theorem cl4 : (nI 4).toNatClampNeg = 4 := by decide
theorem cl5 : (nI 5).toNatClampNeg = 5 := by decide
theorem nI_m1 (n : Nat) : nI (n + 1) - nI 1 = nI n := by rw [show nI 1 = 1 from rfl]; exact nI_pred n
