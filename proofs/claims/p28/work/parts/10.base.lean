/-! loops over V; small facts -/
section VL
variable {p : Program} {l : Launch} {e : Env} {R : Room} {s : State} {m : MethodId} {args : Array Value} {below : List Frame} {meth : Method} {c : Code} {E : EV} {AD : List Nat} {Q : State → Prop}
theorem V.weq {ws ws' : va_W} {g : JFrame} (h : ws = ws') (k : V p l e R s m args below meth c E AD Q ws' g) : V p l e R s m args below meth c E AD Q ws g := h ▸ k
theorem V.loopW {I : Nat → List (Nat × Value)} {Wd : Nat → va_W} {J : Nat → Prop} {N k0 head nL : Nat} {ls : Array Slot} (h0 : k0 ≤ N) (hJ : J k0) (hl : lv_has ls nL (I k0))
    (step : ∀ k, k ≤ N → J k → (k < N → J (k + 1) → ∀ ls, lv_has ls nL (I (k + 1)) → V p l e R s m args below meth c E AD Q (Wd (k + 1)) (F0 m head ls [])) → ∀ ls, lv_has ls nL (I k) → V p l e R s m args below meth c E AD Q (Wd k) (F0 m head ls [])) : V p l e R s m args below meth c E AD Q (Wd k0) (F0 m head ls []) := by
  suffices K : ∀ n k, N - k < n → k ≤ N → J k → ∀ ls, lv_has ls nL (I k) → V p l e R s m args below meth c E AD Q (Wd k) (F0 m head ls []) from K (N - k0 + 1) k0 (Nat.lt_succ_self _) h0 hJ ls hl
  intro n
  induction n with
  | zero => intro k h; exact absurd h (Nat.not_lt_zero _)
  | succ n ih =>
    intro k hn hk hj ls hl
    exact step k hk hj (fun hlt hj ls hl => ih (k + 1) (by omega) hlt hj ls hl) ls hl
theorem V.loop {I : Nat → List (Nat × Value)} {ws : va_W} {J : Nat → Prop} {N k0 head nL : Nat} {ls : Array Slot} (h0 : k0 ≤ N) (hJ : J k0) (hl : lv_has ls nL (I k0))
    (step : ∀ k, k ≤ N → J k → (k < N → J (k + 1) → ∀ ls, lv_has ls nL (I (k + 1)) → V p l e R s m args below meth c E AD Q ws (F0 m head ls [])) → ∀ ls, lv_has ls nL (I k) → V p l e R s m args below meth c E AD Q ws (F0 m head ls [])) : V p l e R s m args below meth c E AD Q ws (F0 m head ls []) := V.loopW (Wd := fun _ => ws) h0 hJ hl step
end VL
theorem toN_lt31 (x : Int32) : x.toNatClampNeg < 2 ^ 31 := by
  have h := Int32.toInt_lt x
  unfold Int32.toNatClampNeg
  omega
theorem nI_toN {x : Int32} (h : ¬ x < 0) : nI x.toNatClampNeg = x := by
  obtain ⟨j, hj, rfl⟩ := nI_of h
  rw [nI_clamp hj]
theorem toN_neg {x : Int32} (h : x < 0) : x.toNatClampNeg = 0 := by
  have h1 : x.toInt < 0 := by simpa [Int32.lt_iff_toInt_lt] using h
  unfold Int32.toNatClampNeg
  omega
theorem lpT {x : Int32} {k : Nat} (hk : k ≤ x.toNatClampNeg) : (x ≤ nI k → k = x.toNatClampNeg) ∧ (¬ x ≤ nI k → k < x.toNatClampNeg) := by
  have h31 := toN_lt31 x
  by_cases h : x < 0
  · have h0 := toN_neg h
    have hk0 : k = 0 := by omega
    subst hk0
    refine ⟨fun _ => h0.symm, fun hc => absurd ?_ hc⟩
    rw [nI_0]
    exact Int32.le_of_lt h
  · have e := nI_toN h
    refine ⟨fun hc => ?_, fun hc => ?_⟩
    · rw [← e, nI_leI h31 (by omega)] at hc
      omega
    · rw [← e, nI_leI h31 (by omega)] at hc
      omega
theorem lpL {x : Int32} {N k : Nat} (hx : x = nI N) (hN : N < 2 ^ 31) (hk : k ≤ N) : (x ≤ nI k → k = N) ∧ (¬ x ≤ nI k → k < N) := by
  subst hx
  rw [nI_leI hN (by omega)]
  omega
theorem lpG {x : Int32} {M k : Nat} (hx : x = nI M) (hM : M < 2 ^ 30) (hk : k ≤ M + 1) : (x < nI k → k = M + 1) ∧ (¬ x < nI k → k < M + 1) := by
  subst hx
  rw [nI_ltI (by omega) (by omega)]
  omega
theorem nI_inc (k : Nat) : nI (k + 1) = nI k + Int32.ofInt 1 := by rw [nI_succ]; rfl
theorem vpc {i : Int32} {N : Nat} (h1 : ¬ i < 0) (h2 : ¬ nI N ≤ i) (hN : N < 2 ^ 31) : vp_in i N := by
  obtain ⟨j, hj, rfl⟩ := nI_of h1
  rw [nI_leI hN hj] at h2
  exact vp_in_nI (by omega) hN
theorem sw_out {x : Int32} {lo hi : Int} (h : ∀ i : Int, lo ≤ i → i ≤ hi → x ≠ Int32.ofInt i) : x.toInt < lo ∨ hi < x.toInt := by
  by_cases a : x.toInt < lo
  · exact Or.inl a
  · by_cases b : hi < x.toInt
    · exact Or.inr b
    · exact absurd (Int32.ofInt_toInt x).symm (h x.toInt (by omega) (by omega))
