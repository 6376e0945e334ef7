/-! the model: a its addresses, th thrown, sm saved many, ln length, pl place, hs hash, s its state, S its saved ones, b its buffer, w its numbers -/
abbrev mdW (E : EV) (a : Nat → Nat) (th sm ln pl : Int32) (hs : Int64) (s S b w : Nat → Int32) : va_W :=
  [(a 0, .inr (7, [.int th, .ref (a 1), .ref (a 2), .int sm, .ref (a 3), .int ln, .int pl, .ref (a 4), .long hs])), rw_ E (a 1) 300 s, rw_ E (a 2) 1800 S, rw_ E (a 3) 60 b, rw_ E (a 4) 3 w]
section VM
variable {p : Program} {l : Launch} {e : Env} {R : Room} {s : State} {m : MethodId} {args : Array Value} {below : List Frame} {meth : Method} {c : Code} {E : EV} {AD : List Nat} {Q : State → Prop} {ws : va_W}
variable {cc : ByteArray} {nL : Nat} {own : String} {pc : Nat} {ls : Array Slot} {st : List Value}
theorem V.iadn (F : CallFix p m c cc nL s args LW own) (hE : CE E (fun q => q ∈ AD) s s.heap) {a n i : Nat} {f : Nat → Int32} (q0 : Nat) (he : ws[q0]? = some (rw_ E a n f)) (hi : i < n) (hn : n < 2 ^ 31) (hd : decode cc pc = .ok (.iaload, 1)) (kk : ∀ z : Int32, z = f i → V p l e R s m args below meth c E AD Q ws (F0 m (pc + 1) ls (.int z :: st))) : V p l e R s m args below meth c E AD Q ws (F0 m pc ls (.int (nI i) :: .ref a :: st)) :=
  V.iald F hE q0 he (vp_in_nI hi hn) hd fun z hz => kk z (by rw [hz, nI_clamp (by omega)])
theorem V.isn (F : CallFix p m c cc nL s args LW own) (hE : CE E (fun q => q ∈ AD) s s.heap) (hN : AD.Nodup) (hA : ads ws = AD) {a n i : Nat} {f : Nat → Int32} {x : Int32} (q0 : Nat) (he : ws[q0]? = some (rw_ E a n f)) (hi : i < n) (hn : n < 2 ^ 31) (hd : decode cc pc = .ok (.iastore, 1)) {ws' : va_W} (hw : ws.set q0 (rw_ E a n (upd f i x)) = ws') (k : V p l e R s m args below meth c E AD Q ws' (F0 m (pc + 1) ls st)) : V p l e R s m args below meth c E AD Q ws (F0 m pc ls (.int x :: .int (nI i) :: .ref a :: st)) :=
  V.iast F hE hN hA q0 he (vp_in_nI hi hn) hd (by rw [nI_clamp (by omega)]; exact hw) k
end VM
/-! what the model works out of its state: H injuries kept, R rehearsals kept, C scenes, sn the person seen in a scene -/
def MI (s : Nat → Int32) (R H C D : Nat) (sn : Nat → Nat) : Prop := s 0 = nI D ∧ D ≤ 999 ∧ s 8 = nI R ∧ R ≤ 40 ∧ s 9 = nI H ∧ H ≤ 12 ∧ s 4 = nI C ∧ C ≤ 10 ∧ ∀ x, x < 10 → s (250 + 5 * x + 2) = nI (sn x) ∧ sn x < 8
def cdM (k : Int32) : Int32 := if k = nI 0 then nI 20 else if k = nI 1 then nI 15 else if k = nI 2 then nI 10 else if k = nI 3 then nI 12 else if k = nI 4 then nI 30 else nI 25
def bpM (k : Int32) : Int32 := if k = nI 0 then nI 3 else if k = nI 1 then nI 28 else if k = nI 2 then nI 63 else if k = nI 3 then nI 48 else if k = nI 4 then nI 32 else nI 35
def ndM (k r : Int32) : Int32 := if k = nI 1 then r + nI 1 else if k = nI 2 then nI 2 * r else if k = nI 3 then r + nI 2 else if k = nI 4 then r / nI 2 + nI 1 else r
def prM (k : Int32) : Int32 := if k = nI 0 ∨ k = nI 5 then nI 1 else if k = nI 1 ∨ k = nI 4 then nI 4 else nI 16
def paM (s : Nat → Int32) (p d : Int32) : Nat → Int32
  | 0 => nI 0
  | n + 1 => if s (202 + 4 * n + 0) = p ∧ (s (202 + 4 * n + 2) ≤ d ∧ d ≤ s (202 + 4 * n + 3)) then paM s p d n ||| s (202 + 4 * n + 1) else paM s p d n ||| nI 0
def laM (s : Nat → Int32) (p : Int32) : Nat → Int32
  | 0 => -1
  | n + 1 => if (s (202 + 4 * n + 0) = p ∧ (s (202 + 4 * n + 2) ≤ s 0 ∧ s 0 ≤ s (202 + 4 * n + 3))) ∧ laM s p n < s (202 + 4 * n + 3) then s (202 + 4 * n + 3) else laM s p n
def brM (s : Nat → Int32) (H : Nat) (p k d : Int32) : Prop := ¬ paM s p d H &&& bpM k = nI 0
def cnM (s : Nat → Int32) (p k r d : Int32) : Nat → Int32
  | 0 => nI 0
  | n + 1 => if (s (42 + 4 * n + 0) = p ∧ s (42 + 4 * n + 1) = k ∧ r - nI 1 ≤ s (42 + 4 * n + 2)) ∧ (s (42 + 4 * n + 3) ≤ d ∧ d ≤ s (42 + 4 * n + 3) + cdM k - nI 1) then cnM s p k r d n + nI 1 else cnM s p k r d n + nI 0
def bkM (s : Nat → Int32) (H : Nat) (p : Int32) : Nat → Int32
  | 0 => nI 0
  | n + 1 => if ¬ paM s p (s 0) H &&& bpM (nI n) = nI 0 then bkM s H p n ||| (nI 1 <<< (nI n &&& 31)) else bkM s H p n ||| nI 0
