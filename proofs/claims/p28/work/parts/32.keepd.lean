section V5
variable {p : Program} {l : Launch} {e : Env} {R : Room} {s : State} {m : MethodId} {args : Array Value} {below : List Frame} {meth : Method} {c : Code} {E : EV} {AD : List Nat} {Q : State → Prop}
variable {cc : ByteArray} {nL : Nat} {pc : Nat} {ls : Array Slot}
abbrev stF (a : Nat → Nat) (g : Nat → Int32) : List Value := [.int (g 0), .int (g 1), .int (g 2), .int (g 3), .int (g 4), .int (g 5), .ref (a 1), .ref (a 2), .ref (a 3), .ref (a 4), .ref (a 5)]
abbrev koC (v0 v1 n : Nat) : Nat × va_E := (v0, .inr (3, [.int (nI n), .ref v1]))
abbrev fnC (B : Nat → Nat → Nat) : Nat → Option Nat := fun i => some (B i 0)
abbrev dkD (E : EV) (d v0 t u : Nat) (m_ : Int32) (r : Nat → Int32) (a : Nat → Nat) : va_W := [(d, .inr (6, [.ref (a 0), .ref v0, .ref t])), (t, .inr (1, [.int m_, .ref u])), rw_ E u 60 r]
theorem V.keepD (F : CallFix p m c cc nL s args LW RX6) (hE : CE E (fun q => q ∈ AD) s s.heap) (hN : AD.Nodup) {d v0 v1 t u n : Nat} {m_ : Int32} {r : Nat → Int32} {a : Nat → Nat} {g : Nat → Int32} {f : Nat → Nat → Int32} {B : Nat → Nat → Nat} {G : Nat → Nat → Int32} {K : Nat → Nat → Nat → Int32} (hn : n ≤ 6) (hA : ads (dW E d v0 v1 t u (nI n) m_ r a g f ++ tlW E v1 B G K) = AD) {rest : List Value} (hsz : ls.size = nL) (hroom : (rest.map fun v => v.category).sum ≤ 8) (hR : 3 + 1 ≤ R.frames ∧ 8 + (3 + 11) + 64 ≤ R.locals) (hd : decode cc pc = .ok (.invokevirtual 42, 3))
    (k : V p l e R s m args below meth c E AD Q (dW E d v0 v1 t u (nI (kN n)) m_ r a g f ++ tlW E v1 (kB n B) (kG n G g) (kG n K f)) (F0 m (pc + 3) ls rest)) : V p l e R s m args below meth c E AD Q (dW E d v0 v1 t u (nI n) m_ r a g f ++ tlW E v1 B G K) (F0 m pc ls (.ref (a 0) :: .ref v0 :: rest)) := by
  by_cases h : n < 6
  · rw [kN, kB, kG, kG, if_pos h, if_pos h, if_pos h, if_pos h] at k
    have hp : (dW E d v0 v1 t u (nI n) m_ r a g f ++ tlW E v1 B G K).Perm (([koC v0 v1 n] ++ ([rq_ E v1 6 (fnC B)] ++ (stW E (B n) (G n) (K n) ++ stW E a g f))) ++ (dkD E d v0 t u m_ r a ++ svO (svS E B G K) n)) := pmA (dkD E d v0 t u m_ r a) [koC v0 v1 n] (stW E a g f) [rq_ E v1 6 (fnC B)] (stW E (B n) (G n) (K n)) (svO (svS E B G K) n) _ (svL_at (svS E B G K) h)
    have eO : svO (svS E B (va_up G n g) (va_up K n f)) n = svO (svS E B G K) n := svO_congr fun i hi => by simp only [svS, va_up, if_neg hi]
    have eN : svS E B (va_up G n g) (va_up K n f) n = stW E (B n) g f := by simp only [svS, va_up, if_true]
    have hp' : (dW E d v0 v1 t u (nI (n + 1)) m_ r a g f ++ tlW E v1 B (va_up G n g) (va_up K n f)).Perm (([koC v0 v1 (n + 1)] ++ ([rq_ E v1 6 (fnC B)] ++ (stW E (B n) g f ++ stW E a g f))) ++ (dkD E d v0 t u m_ r a ++ svO (svS E B G K) n)) := pmA (dkD E d v0 t u m_ r a) [koC v0 v1 (n + 1)] (stW E a g f) [rq_ E v1 6 (fnC B)] (stW E (B n) g f) (svO (svS E B G K) n) _ (by have q := svL_at (svS E B (va_up G n g) (va_up K n f)) h; rw [eO, eN] at q; exact q)
    refine V.perm hp ?_
    refine V.wsVn (q0 := 0) (ws' := ([koC v0 v1 (n + 1)] ++ ([rq_ E v1 6 (fnC B)] ++ (stW E (B n) g f ++ stW E a g f))) ++ (dkD E d v0 t u m_ r a ++ svO (svS E B G K) n)) F hE hN ((hp.symm.map Prod.fst).trans (pm_eq hA)) (c_X3_keep l E (v := vv v0 v1) (fn := fnC B) (n := n) (b := B n) (h := G n) (k := K n) (a := a) (g := g) (f := f) h rfl) (kX6_42 F.2.2.2.2 hR) rfl rfl 0 38 (by rfl) (by rfl) rfl hsz hroom hd rfl ?_
    exact V.perm hp'.symm k
  · have e6 : n = 6 := by omega
    subst e6
    rw [kN, kB, kG, kG, if_neg h, if_neg h, if_neg h, if_neg h] at k
    have hH : ([(B 1 0, .inr (5, stF (B 1) (G 1)))] ++ ([(B 2 0, .inr (5, stF (B 2) (G 2)))] ++ ([(B 3 0, .inr (5, stF (B 3) (G 3)))] ++ ([(B 4 0, .inr (5, stF (B 4) (G 4)))] ++ [(B 5 0, .inr (5, stF (B 5) (G 5)))]))) : va_W) = [(B 1 0, .inr (5, stF (B 1) (G 1))), (B 2 0, .inr (5, stF (B 2) (G 2))), (B 3 0, .inr (5, stF (B 3) (G 3))), (B 4 0, .inr (5, stF (B 4) (G 4))), (B 5 0, .inr (5, stF (B 5) (G 5)))] := rfl
    have q1 : (svL (svS E B G K)).Perm (stW E (B 0) (G 0) (K 0) ++ ([(B 1 0, .inr (5, stF (B 1) (G 1))), (B 2 0, .inr (5, stF (B 2) (G 2))), (B 3 0, .inr (5, stF (B 3) (G 3))), (B 4 0, .inr (5, stF (B 4) (G 4))), (B 5 0, .inr (5, stF (B 5) (G 5)))] ++ ((stW E (B 1) (G 1) (K 1)).tail ++ ((stW E (B 2) (G 2) (K 2)).tail ++ ((stW E (B 3) (G 3) (K 3)).tail ++ ((stW E (B 4) (G 4) (K 4)).tail ++ (stW E (B 5) (G 5) (K 5)).tail)))))) := pmD (stW E (B 0) (G 0) (K 0)) [(B 1 0, .inr (5, stF (B 1) (G 1)))] (stW E (B 1) (G 1) (K 1)).tail [(B 2 0, .inr (5, stF (B 2) (G 2)))] (stW E (B 2) (G 2) (K 2)).tail [(B 3 0, .inr (5, stF (B 3) (G 3)))] (stW E (B 3) (G 3) (K 3)).tail [(B 4 0, .inr (5, stF (B 4) (G 4)))] (stW E (B 4) (G 4) (K 4)).tail [(B 5 0, .inr (5, stF (B 5) (G 5)))] (stW E (B 5) (G 5) (K 5)).tail
    have q2 : (svL (svS E (rot6 B) (va_up (rot6 G) 5 g) (va_up (rot6 K) 5 f))).Perm (stW E (B 0) g f ++ ([(B 1 0, .inr (5, stF (B 1) (G 1))), (B 2 0, .inr (5, stF (B 2) (G 2))), (B 3 0, .inr (5, stF (B 3) (G 3))), (B 4 0, .inr (5, stF (B 4) (G 4))), (B 5 0, .inr (5, stF (B 5) (G 5)))] ++ ((stW E (B 1) (G 1) (K 1)).tail ++ ((stW E (B 2) (G 2) (K 2)).tail ++ ((stW E (B 3) (G 3) (K 3)).tail ++ ((stW E (B 4) (G 4) (K 4)).tail ++ (stW E (B 5) (G 5) (K 5)).tail)))))) := pmE (stW E (B 0) g f) [(B 1 0, .inr (5, stF (B 1) (G 1)))] (stW E (B 1) (G 1) (K 1)).tail [(B 2 0, .inr (5, stF (B 2) (G 2)))] (stW E (B 2) (G 2) (K 2)).tail [(B 3 0, .inr (5, stF (B 3) (G 3)))] (stW E (B 3) (G 3) (K 3)).tail [(B 4 0, .inr (5, stF (B 4) (G 4)))] (stW E (B 4) (G 4) (K 4)).tail [(B 5 0, .inr (5, stF (B 5) (G 5)))] (stW E (B 5) (G 5) (K 5)).tail
    have hp := pmC (dkD E d v0 t u m_ r a) [koC v0 v1 6] (stW E a g f) [rq_ E v1 6 (fnC B)] _ _ _ _ q1
    have hp' := pmC (dkD E d v0 t u m_ r a) [koC v0 v1 6] (stW E a g f) [rq_ E v1 6 (rot6 (fnC B))] _ _ _ _ q2
    have eq : rot6 (fnC B) = fnC (rot6 B) := by
      funext i
      simp only [rot6, fnC]
      split <;> rfl
    refine V.perm hp ?_
    refine V.wsVn (q0 := 0) F hE hN ((hp.symm.map Prod.fst).trans (pm_eq hA)) (c_X3_keep_6 l E (v := vv v0 v1) (fn := fnC B) (b := B 0) (h := G 0) (k := K 0) (a := a) (g := g) (f := f) (q1 := B 1 0) (q2 := B 2 0) (q3 := B 3 0) (q4 := B 4 0) (q5 := B 5 0) (F1_ := stF (B 1) (G 1)) (F2_ := stF (B 2) (G 2)) (F3_ := stF (B 3) (G 3)) (F4_ := stF (B 4) (G 4)) (F5_ := stF (B 5) (G 5)) rfl rfl rfl rfl rfl rfl) (kX6_42 F.2.2.2.2 hR) rfl rfl 0 43 (by rfl) rfl rfl hsz hroom hd rfl ?_
    refine V.perm hp'.symm ?_
    rw [eq]
    exact k
theorem V.undoD (F : CallFix p m c cc nL s args LW RX6) (hE : CE E (fun q => q ∈ AD) s s.heap) (hN : AD.Nodup) {d v0 v1 t u n : Nat} {m_ : Int32} {r : Nat → Int32} {a : Nat → Nat} {g : Nat → Int32} {f : Nat → Nat → Int32} {B : Nat → Nat → Nat} {G : Nat → Nat → Int32} {K : Nat → Nat → Nat → Int32} (hn : n < 6) (hA : ads (dW E d v0 v1 t u (nI (n + 1)) m_ r a g f ++ tlW E v1 B G K) = AD) {rest : List Value} (hsz : ls.size = nL) (hroom : (rest.map fun v => v.category).sum ≤ 8) (hR : 3 + 1 ≤ R.frames ∧ 8 + (3 + 11) + 64 ≤ R.locals) (hd : decode cc pc = .ok (.invokevirtual 149, 3))
    (k : V p l e R s m args below meth c E AD Q (dW E d v0 v1 t u (nI n) m_ r a (G n) (K n) ++ tlW E v1 B G K) (F0 m (pc + 3) ls rest)) : V p l e R s m args below meth c E AD Q (dW E d v0 v1 t u (nI (n + 1)) m_ r a g f ++ tlW E v1 B G K) (F0 m pc ls (.ref (a 0) :: .ref v0 :: rest)) := by
  have hp := pmB (dkD E d v0 t u m_ r a) [koC v0 v1 (n + 1)] (stW E a g f) [rq_ E v1 6 (fnC B)] _ _ _ (svL_at (svS E B G K) hn)
  have hp' := pmB (dkD E d v0 t u m_ r a) [koC v0 v1 n] (stW E a (G n) (K n)) [rq_ E v1 6 (fnC B)] _ _ _ (svL_at (svS E B G K) hn)
  refine V.perm hp ?_
  refine V.wsVn (q0 := 0) (ws' := ([koC v0 v1 n] ++ ([rq_ E v1 6 (fnC B)] ++ (stW E a (G n) (K n) ++ stW E (B n) (G n) (K n)))) ++ (dkD E d v0 t u m_ r a ++ svO (svS E B G K) n)) F hE hN ((hp.symm.map Prod.fst).trans (pm_eq hA)) (c_X3_restoreLatest l E (v := vv v0 v1) (fn := fnC B) (n := n) (b := B n) (h := G n) (k := K n) (a := a) (g := g) (f := f) hn rfl) (kX6_149 F.2.2.2.2 hR) rfl rfl 0 38 (by rfl) (by rfl) rfl hsz hroom hd rfl ?_
  exact V.perm hp'.symm k
end V5
