/-! the six states kept, as a tail behind the desk; calls of keep and restoreLatest over the desk with its tail -/
def svL (s : Nat → va_W) : va_W := s 0 ++ (s 1 ++ (s 2 ++ (s 3 ++ (s 4 ++ s 5))))
def svS (E : EV) (B : Nat → Nat → Nat) (G : Nat → Nat → Int32) (K : Nat → Nat → Nat → Int32) : Nat → va_W := fun i => stW E (B i) (G i) (K i)
def tlW (E : EV) (v1 : Nat) (B : Nat → Nat → Nat) (G : Nat → Nat → Int32) (K : Nat → Nat → Nat → Int32) : va_W := rq_ E v1 6 (fun i => some (B i 0)) :: svL (svS E B G K)
abbrev vv (x y : Nat) : Nat → Nat := fun i => match i with
  | 0 => x
  | _ => y
section PERM
variable {α : Type}
theorem pmA (D K S R B O FL : List α) (h : FL.Perm (B ++ O)) : (D ++ (K ++ (S ++ (R ++ FL)))).Perm ((K ++ (R ++ (B ++ S))) ++ (D ++ O)) := by
  classical
  rw [List.perm_iff_count] at h ⊢
  intro x
  have := h x
  simp only [List.count_append] at this ⊢
  omega
theorem pmB (D K S R B O FL : List α) (h : FL.Perm (B ++ O)) : (D ++ (K ++ (S ++ (R ++ FL)))).Perm ((K ++ (R ++ (S ++ B))) ++ (D ++ O)) := by
  classical
  rw [List.perm_iff_count] at h ⊢
  intro x
  have := h x
  simp only [List.count_append] at this ⊢
  omega
theorem pmC (D K S R B H O FL : List α) (h : FL.Perm (B ++ (H ++ O))) : (D ++ (K ++ (S ++ (R ++ FL)))).Perm ((K ++ (R ++ ((B ++ S) ++ H))) ++ (D ++ O)) := by
  classical
  rw [List.perm_iff_count] at h ⊢
  intro x
  have := h x
  simp only [List.count_append] at this ⊢
  omega
theorem pmD (b h1 t1 h2 t2 h3 t3 h4 t4 h5 t5 : List α) : (b ++ ((h1 ++ t1) ++ ((h2 ++ t2) ++ ((h3 ++ t3) ++ ((h4 ++ t4) ++ (h5 ++ t5)))))).Perm (b ++ ((h1 ++ (h2 ++ (h3 ++ (h4 ++ h5)))) ++ (t1 ++ (t2 ++ (t3 ++ (t4 ++ t5)))))) := by
  classical
  rw [List.perm_iff_count]
  intro x
  simp only [List.count_append]
  omega
theorem pmE (b h1 t1 h2 t2 h3 t3 h4 t4 h5 t5 : List α) : ((h1 ++ t1) ++ ((h2 ++ t2) ++ ((h3 ++ t3) ++ ((h4 ++ t4) ++ ((h5 ++ t5) ++ b))))).Perm (b ++ ((h1 ++ (h2 ++ (h3 ++ (h4 ++ h5)))) ++ (t1 ++ (t2 ++ (t3 ++ (t4 ++ t5)))))) := by
  classical
  rw [List.perm_iff_count]
  intro x
  simp only [List.count_append]
  omega
theorem pmF0 (s0 s1 s2 s3 s4 s5 : List α) : (s0 ++ (s1 ++ (s2 ++ (s3 ++ (s4 ++ s5))))).Perm (s0 ++ ([] ++ (s1 ++ (s2 ++ (s3 ++ (s4 ++ s5)))))) := by
  classical
  rw [List.perm_iff_count]
  intro x
  simp only [List.count_append, List.count_nil]
  omega
theorem pmF1 (s0 s1 s2 s3 s4 s5 : List α) : (s0 ++ (s1 ++ (s2 ++ (s3 ++ (s4 ++ s5))))).Perm (s1 ++ (s0 ++ ([] ++ (s2 ++ (s3 ++ (s4 ++ s5)))))) := by
  classical
  rw [List.perm_iff_count]
  intro x
  simp only [List.count_append, List.count_nil]
  omega
theorem pmF2 (s0 s1 s2 s3 s4 s5 : List α) : (s0 ++ (s1 ++ (s2 ++ (s3 ++ (s4 ++ s5))))).Perm (s2 ++ (s0 ++ (s1 ++ ([] ++ (s3 ++ (s4 ++ s5)))))) := by
  classical
  rw [List.perm_iff_count]
  intro x
  simp only [List.count_append, List.count_nil]
  omega
theorem pmF3 (s0 s1 s2 s3 s4 s5 : List α) : (s0 ++ (s1 ++ (s2 ++ (s3 ++ (s4 ++ s5))))).Perm (s3 ++ (s0 ++ (s1 ++ (s2 ++ ([] ++ (s4 ++ s5)))))) := by
  classical
  rw [List.perm_iff_count]
  intro x
  simp only [List.count_append, List.count_nil]
  omega
theorem pmF4 (s0 s1 s2 s3 s4 s5 : List α) : (s0 ++ (s1 ++ (s2 ++ (s3 ++ (s4 ++ s5))))).Perm (s4 ++ (s0 ++ (s1 ++ (s2 ++ (s3 ++ ([] ++ s5)))))) := by
  classical
  rw [List.perm_iff_count]
  intro x
  simp only [List.count_append, List.count_nil]
  omega
theorem pmF5 (s0 s1 s2 s3 s4 s5 : List α) : (s0 ++ (s1 ++ (s2 ++ (s3 ++ (s4 ++ s5))))).Perm (s5 ++ (s0 ++ (s1 ++ (s2 ++ (s3 ++ (s4 ++ [])))))) := by
  classical
  rw [List.perm_iff_count]
  intro x
  simp only [List.count_append, List.count_nil]
  omega
end PERM
def svO (s : Nat → va_W) (n : Nat) : va_W := svL (fun i => if i = n then [] else s i)
theorem svL_at (s : Nat → va_W) {n : Nat} (h : n < 6) : (svL s).Perm (s n ++ svO s n) := by
  rcases (show n = 0 ∨ n = 1 ∨ n = 2 ∨ n = 3 ∨ n = 4 ∨ n = 5 by omega) with rfl | rfl | rfl | rfl | rfl | rfl
  · exact pmF0 _ _ _ _ _ _
  · exact pmF1 _ _ _ _ _ _
  · exact pmF2 _ _ _ _ _ _
  · exact pmF3 _ _ _ _ _ _
  · exact pmF4 _ _ _ _ _ _
  · exact pmF5 _ _ _ _ _ _
theorem svO_congr {s s' : Nat → va_W} {n : Nat} (h : ∀ i, i ≠ n → s i = s' i) : svO s n = svO s' n := by
  unfold svO
  congr 1
  funext i
  by_cases e : i = n
  · rw [if_pos e, if_pos e]
  · rw [if_neg e, if_neg e, h i e]
def kN (n : Nat) : Nat := if n < 6 then n + 1 else 6
def kB (n : Nat) (B : Nat → Nat → Nat) : Nat → Nat → Nat := if n < 6 then B else rot6 B
def kG {β : Type} (n : Nat) (G : Nat → β) (g : β) : Nat → β := if n < 6 then va_up G n g else va_up (rot6 G) 5 g
section V4
variable {p : Program} {l : Launch} {e : Env} {R : Room} {s : State} {m : MethodId} {args : Array Value} {below : List Frame} {meth : Method} {c : Code} {E : EV} {AD : List Nat} {Q : State → Prop} {ws : va_W}
variable {cc : ByteArray} {nL : Nat} {pc : Nat} {ls : Array Slot} {st : List Value} {g : JFrame}
theorem V.perm {us : va_W} (h : ws.Perm us) (k : V p l e R s m args below meth c E AD Q us g) : V p l e R s m args below meth c E AD Q ws g := V.world (fun _ hP => P_mem.mpr fun x hx => P_mem.mp hP x (h.mem_iff.mpr hx)) k
end V4
