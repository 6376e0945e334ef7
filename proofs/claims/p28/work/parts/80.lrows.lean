/-! rows for the law: shifts, remainders, constants; calls of methods that have a table of exceptions (Rx: they only read) -/
theorem upd_eq {f : Nat → Int32} {k : Nat} {x : Int32} : upd f k x k = x := by unfold upd; exact if_pos rfl
theorem upd_ne {f : Nat → Int32} {k j : Nat} {x : Int32} (h : j ≠ k) : upd f k x j = f j := by unfold upd; exact if_neg h
theorem upd_upd {f : Nat → Int32} {k : Nat} {x y : Int32} : upd (upd f k x) k y = upd f k y := by
  funext j
  unfold upd
  by_cases h : j = k
  · rw [if_pos h, if_pos h]
  · rw [if_neg h, if_neg h, if_neg h]
theorem nI_sub {a b : Nat} (h : b ≤ a) : nI a - nI b = nI (a - b) := pk_sub h
section VLw
variable {p : Program} {l : Launch} {e : Env} {R : Room} {s : State} {m : MethodId} {args : Array Value} {below : List Frame} {meth : Method} {c : Code} {E : EV} {AD : List Nat} {Q : State → Prop} {ws : va_W}
variable {cc : ByteArray} {nL : Nat} {own : String} {pc : Nat} {ls : Array Slot} {st : List Value} {g : JFrame}
theorem V.ishr (F : CallFix p m c cc nL s args LW own) {x y : Int32} (hd : decode cc pc = .ok (.ishr, 1)) (k : ∀ z : Int32, z = x >>> (y &&& 31) → V p l e R s m args below meth c E AD Q ws (F0 m (pc + 1) ls (.int z :: st))) : V p l e R s m args below meth c E AD Q ws (F0 m pc ls (.int y :: .int x :: st)) := V.go (fun _ _ k => lv_ishr F.1 F.2.1 hd k) (k _ rfl)
theorem V.irem (F : CallFix p m c cc nL s args LW own) {x y : Int32} (hd : decode cc pc = .ok (.irem, 1)) (hne : ¬ y = 0) (k : ∀ z : Int32, z = x - x / y * y → V p l e R s m args below meth c E AD Q ws (F0 m (pc + 1) ls (.int z :: st))) : V p l e R s m args below meth c E AD Q ws (F0 m pc ls (.int y :: .int x :: st)) := V.go (fun _ _ k => lv_irem F.1 F.2.1 hd hne k) (k _ rfl)
theorem V.ldc (F : CallFix p m c cc nL s args LW own) {i : Nat} {v : Int32} (hc : Cond.constant own i v ∈ LW) (hd : decode cc pc = .ok (.ldc i, 2)) (k : V p l e R s m args below meth c E AD Q ws (F0 m (pc + 2) ls (.int v :: st))) : V p l e R s m args below meth c E AD Q ws (F0 m pc ls st) := V.go (fun _ _ k => lv_ldc F.1 F.2.1 F.2.2.2.1 (F.2.2.2.2 _ hc) hd k) k
theorem V.iadn (F : CallFix p m c cc nL s args LW own) (hE : CE E (fun q => q ∈ AD) s s.heap) {a n i : Nat} {f : Nat → Int32} (q0 : Nat) (he : ws[q0]? = some (rw_ E a n f)) (hi : i < n) (hn : n < 2 ^ 31) (hd : decode cc pc = .ok (.iaload, 1)) (kk : ∀ z : Int32, z = f i → V p l e R s m args below meth c E AD Q ws (F0 m (pc + 1) ls (.int z :: st))) : V p l e R s m args below meth c E AD Q ws (F0 m pc ls (.int (nI i) :: .ref a :: st)) :=
  V.iald F hE q0 he (vp_in_nI hi hn) hd fun z hz => kk z (by rw [hz, nI_clamp (by omega)])
theorem V.isn (F : CallFix p m c cc nL s args LW own) (hE : CE E (fun q => q ∈ AD) s s.heap) (hN : AD.Nodup) (hA : ads ws = AD) {a n i : Nat} {f : Nat → Int32} {x : Int32} (q0 : Nat) (he : ws[q0]? = some (rw_ E a n f)) (hi : i < n) (hn : n < 2 ^ 31) (hd : decode cc pc = .ok (.iastore, 1)) {ws' : va_W} (hw : ws.set q0 (rw_ E a n (upd f i x)) = ws') (k : V p l e R s m args below meth c E AD Q ws' (F0 m (pc + 1) ls st)) : V p l e R s m args below meth c E AD Q ws (F0 m pc ls (.int x :: .int (nI i) :: .ref a :: st)) :=
  V.iast F hE hN hA q0 he (vp_in_nI hi hn) hd (by rw [nI_clamp (by omega)]; exact hw) k
def Rx (l : Launch) (E : EV) (y : MethodName) (cc : ByteArray) (maxL : Nat) (hh : List (Nat × Nat × Nat × Nat)) (fr lo : Nat) (av : List Value) (ws : va_W) (v : Int32) : Prop :=
  Met l y (Cond.codeWith y cc maxL (some .int) hh :: LW) (rmk fr 0 0 lo) (va_Pc av (PB E ws)) (RQ (some (.int v))) 0 0 (fun _ => False)
theorem Rx.mk0 {y : MethodName} {cc : ByteArray} {maxL fr lo : Nat} {hh : List (Nat × Nat × Nat × Nat)} {av : List Value} {v : Int32} (hy : plainName y.cls = true) (hlen : (lg_sl av).length ≤ maxL)
    (body : ∀ (p : Program) (e : Env) (s : State) (m : MethodId) (args : Array Value) (below : List Frame) (meth : Method) (c : Code), CallFix p m c cc maxL s args LW y.cls → meth.sig.returnType = some .int → meth.locks = false → CE E (fun q => q ∈ ([] : List Nat)) s s.heap → ∀ ls, lv_has ls maxL (lv_args 0 av) → V p l e (rmk fr 0 0 lo) s m args below meth c E [] (MQ below (RQ (some (.int v))) args s 0 0 (fun _ => False)) ws (F0 m 0 ls [])) : Rx l E y cc maxL hh fr lo av ws v := by
  refine va_MetW (cc := cc) (maxL := maxL) (ret := some .int) (hh := hh) hy rfl ?_
  intro p e s m args below meth c s₁ B hml hv
  obtain ⟨rfl, hP, hE⟩ := hv
  have hts := atoms_spec (ws := Cond.codeWith y cc maxL (some .int) hh :: LW) B.pre
  rw [lg_entry_eq]
  exact body p e s m _ below meth c ⟨B.exec, B.bytes, hml, findClass_of_methodNamed B.named, fun w h => hts w (List.mem_cons_of_mem _ h)⟩ B.returns B.notSynchronized (hE.tr (State.WarmedH.refl s) (fun _ _ _ => rfl) (fun q h => absurd h List.not_mem_nil)) _ (lv_entry av hlen) s.heap [] hP rfl (fun _ _ => rfl) (fun _ h => absurd h List.not_mem_nil)
theorem V.rdX (F : CallFix p m c cc nL s args LW own) (hE : CE E (fun q => q ∈ AD) s s.heap) {index : Nat} {y : MethodName} {bytes : ByteArray} {maxL n fr lo : Nat} {hh : List (Nat × Nat × Nat × Nat)} {v : Int32} {As rest st0 : List Value} {wc : va_W} (hM : Rx l E y bytes maxL hh fr lo As wc v) (cw : vx_CSW R s args own index y bytes maxL (some .int) hh (Cond.codeWith y bytes maxL (some .int) hh :: LW) (rmk fr 0 0 lo) 0 0 n) (i0 k0 : Nat) (hC : (ws.drop i0).take k0 = wc) (hn : As.length = n) (hsz : ls.size = nL) (hroom : (rest.map fun v => v.category).sum ≤ 8) (hd : decode cc pc = .ok (.invokestatic index, 3)) (hst : st0 = As.reverse ++ rest) (k : V p l e R s m args below meth c E AD Q ws (F0 m (pc + 3) ls (.int v :: rest))) : V p l e R s m args below meth c E AD Q ws (F0 m pc ls st0) := by
  intro H locs hP hz ho hl
  subst hst
  have hr : va_Run p l e R s m args below meth c H locs 0 0 0 0 (F0 m pc ls (As.reverse ++ rest)) rest (RQ (some (.int v)) As.toArray) (fun _ => False) := vx_runSW (As := As) (rest := rest) F hM cw ⟨PB.blind, fun U hU hW => ⟨rfl, by rw [hU, ← hC]; exact P_sg hP, hE.at ho (fun _ h => h.elim) hU hW⟩⟩ rfl hn hsz rfl (lv_room hroom) hd ⟨Nat.zero_le _, Nat.zero_le _⟩
  intro T hT X
  obtain ⟨v', st₀, t, T', L, h0, X', hL, e1, e2, ⟨hv, hh⟩, stp⟩ := hr T hT X
  cases hv
  have hLn : L = [] := by
    cases L with
    | nil => rfl
    | cons a _ => exact (hL a List.mem_cons_self).elim
  subst hLn
  rw [List.append_nil] at X'
  obtain ⟨t2, a1, b1⟩ := k H locs hP hz ho hl T' (by rw [e1, hh, h0]) X'
  exact ⟨t2, stp t2 a1, b1⟩
end VLw
/-! what the law's methods work out of its own rows: qs numbers, zs sizes, fo last shots, ts today's rehearsals, rs rehearsals, hs injuries, cs scenes -/
abbrev shx (x : Int32) (s : Nat) : Int32 := x >>> (nI s &&& 31)
def lowN (x : Int32) (n : Nat) : Nat := x.toBitVec.toNat % 2 ^ 31 % n
def cdM (k : Int32) : Int32 := if k = 0 then nI 20 else if k = nI 1 then nI 15 else if k = nI 2 then nI 10 else if k = nI 3 then nI 12 else if k = nI 4 then nI 30 else nI 25
def bpM (k : Int32) : Int32 := if k = 0 then nI 3 else if k = nI 1 then nI 28 else if k = nI 2 then nI 63 else if k = nI 3 then nI 48 else if k = nI 4 then nI 32 else nI 35
def ndM (k r : Int32) : Int32 := if k = nI 1 then r + nI 1 else if k = nI 2 then nI 2 * r else if k = nI 3 then r + nI 2 else if k = nI 4 then r / nI 2 + nI 1 else r
def hpL (hs : Nat → Int32) (d p : Int32) : Nat → Int32
  | 0 => nI 0
  | n + 1 => if hs n &&& nI 7 = p ∧ (shx (hs n) 9 &&& nI 1023 ≤ d ∧ d ≤ shx (hs n) 19) then hpL hs d p n ||| (shx (hs n) 3 &&& nI 63) else hpL hs d p n ||| nI 0
def cnL (rs : Nat → Int32) (d p k w : Int32) : Nat → Int32
  | 0 => nI 0
  | n + 1 => if rs n &&& nI 63 = p + nI 8 * k ∧ (w - nI 1 ≤ shx (rs n) 6 &&& nI 7 ∧ d - shx (rs n) 9 < cdM k) then cnL rs d p k w n + nI 1 else cnL rs d p k w n + nI 0
def rsL (qs zs fo rs hs cs : Nat → Int32) (H R x p sn : Nat) : Int32 :=
  if 0 < shx (cs x) 9 &&& nI 1023 then nI 1 else if nI 5 < zs p - zs sn then nI 2 else if zs p - zs sn < -5 then nI 2 else
  if (if qs 0 ≤ qs 3 then qs 2 else nI 0) < shx (cs x) 3 &&& nI 7 then nI 3 else if ¬ hpL hs (qs 0) (nI p) H &&& bpM (cs x &&& nI 7) = 0 then nI 4 else
  if ¬ fo p < 0 ∧ qs 0 - fo p < nI 2 then nI 5 else if cnL rs (qs 0) (nI p) (cs x &&& nI 7) (shx (cs x) 3 &&& nI 7) R < ndM (cs x &&& nI 7) (shx (cs x) 3 &&& nI 7) then nI 6 else nI 0
abbrev ijV (qs : Nat → Int32) (p u x : Int32) : Int32 := p + nI 8 * u + nI 512 * qs 0 + nI 524288 * (qs 0 + x - nI 1)
abbrev ijQ (qs : Nat → Int32) (H : Nat) : Nat → Int32 := upd (upd qs 9 (nI H)) 6 (qs 6 + nI 1)
def ijN (H : Nat) : Nat := if H < 12 then H + 1 else 12
def ijH (hs : Nat → Int32) (H : Nat) (v : Int32) : Nat → Int32 := if H < 12 then upd hs H v else upd (drF 12 hs) 11 v
abbrev rhQ (qs : Nat → Int32) : Nat → Int32 := upd qs 7 (qs 7 + nI 1)
abbrev rhV (qs : Nat → Int32) (p k : Nat) (w : Int32) : Int32 := nI (p + 8 * k) + nI 64 * w + nI 512 * qs 0
def rhN (R : Nat) : Nat := if R < 40 then R + 1 else 40
def rhR (rs : Nat → Int32) (R : Nat) (v : Int32) : Nat → Int32 := if R < 40 then upd rs R v else upd (drF 40 rs) 39 v
def prL (k : Nat) : Int32 := if nI (k % 5) = 0 then nI 1 else if nI k = nI 1 then nI 4 else if nI k = nI 4 then nI 4 else nI 16
theorem drK_u {f : Nat → Int32} {j : Nat} : upd (drK f j) j (drK f j (j + 1)) = drK f (j + 1) := by
  funext t
  unfold upd drK
  by_cases h1 : t = j
  · subst h1
    simp only [if_true, if_neg (show ¬ t + 1 < t by omega), if_pos (show t < t + 1 by omega)]
  · by_cases h2 : t < j
    · simp [h1, h2, show t < j + 1 by omega]
    · simp [h1, h2, show ¬ t < j + 1 by omega]
theorem drK_z {f : Nat → Int32} : drK f 0 = f := by
  funext t
  exact if_neg (Nat.not_lt_zero _)
def ztF (ts : Nat → Int32) (k : Nat) : Nat → Int32 := fun j => if j < k then nI 0 else ts j
theorem ztF_u {f : Nat → Int32} {j : Nat} : upd (ztF f j) j (nI 0) = ztF f (j + 1) := by
  funext t
  unfold upd ztF
  by_cases h1 : t = j
  · rw [if_pos h1, if_pos (by omega)]
  · by_cases h2 : t < j
    · rw [if_neg h1, if_pos h2, if_pos (by omega)]
    · rw [if_neg h1, if_neg h2, if_neg (by omega)]
theorem ztF_z {f : Nat → Int32} : ztF f 0 = f := by
  funext t
  exact if_neg (Nat.not_lt_zero _)
def hbL (cs : Nat → Int32) (B : Int32) : Nat → Int32
  | 0 => nI 0
  | n + 1 => if shx (cs n) 9 &&& nI 1023 = 0 ∧ ¬ B &&& bpM (cs n &&& nI 7) = 0 then hbL cs B n + nI 1 else hbL cs B n + nI 0
abbrev coL (qs : Nat → Int32) (v w : Int32) : Int32 := v * w * w + v * w * w * qs 6 / nI 10
abbrev isQ (qs : Nat → Int32) (v w : Int32) : Nat → Int32 := upd (upd (upd qs 1 (qs 1 - coL qs v w)) 2 w) 3 (qs 0 + v - nI 1)
def dbL (sn p : Nat) : Int32 := if nI sn = nI p then nI 0 else nI 1
