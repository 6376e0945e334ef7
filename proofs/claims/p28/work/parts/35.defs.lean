theorem svS_ads (E : EV) (B : Nat → Nat → Nat) (G G' : Nat → Nat → Int32) (K K' : Nat → Nat → Nat → Int32) : ads (svL (svS E B G K)) = ads (svL (svS E B G' K')) := by
  simp only [svL, svS, ads, List.map_append]
  rfl
theorem pmG {α : Type} (s0 s1 s2 s3 s4 s5 : List α) : (s1 ++ (s2 ++ (s3 ++ (s4 ++ (s5 ++ s0))))).Perm (s0 ++ (s1 ++ (s2 ++ (s3 ++ (s4 ++ s5))))) := by
  classical
  rw [List.perm_iff_count]
  intro x
  simp only [List.count_append]
  omega
theorem tl_pm {E : EV} {v1 n : Nat} {B : Nat → Nat → Nat} {G G' : Nat → Nat → Int32} {K K' : Nat → Nat → Nat → Int32} : (ads (tlW E v1 (kB n B) G K)).Perm (ads (tlW E v1 B G' K')) := by
  refine List.Perm.cons _ ?_
  show (ads (svL (svS E (kB n B) G K))).Perm (ads (svL (svS E B G' K')))
  unfold kB
  split
  · exact pm_eq (svS_ads E B G G' K K')
  · rw [svS_ads E (rot6 B) G (rot6 G') K (rot6 K')]
    exact (pmG (stW E (B 0) (G' 0) (K' 0)) (stW E (B 1) (G' 1) (K' 1)) (stW E (B 2) (G' 2) (K' 2)) (stW E (B 3) (G' 3) (K' 3)) (stW E (B 4) (G' 4) (K' 4)) (stW E (B 5) (G' 5) (K' 5))).map Prod.fst
theorem keep_pm {E : EV} {d v0 v1 t u n : Nat} {a : Nat → Nat} {n1 n2 m1 m2 : Int32} {r1 r2 : Nat → Int32} {g1 g2 : Nat → Int32} {f1 f2 : Nat → Nat → Int32} {B : Nat → Nat → Nat} {G G' : Nat → Nat → Int32} {K K' : Nat → Nat → Nat → Int32} :
    (ads (dW E d v0 v1 t u n1 m1 r1 a g1 f1 ++ tlW E v1 (kB n B) G K)).Perm (ads (dW E d v0 v1 t u n2 m2 r2 a g2 f2 ++ tlW E v1 B G' K')) := by
  have h := tl_pm (E := E) (v1 := v1) (n := n) (B := B) (G := G) (G' := G') (K := K) (K' := K')
  show (ads (dW E d v0 v1 t u n1 m1 r1 a g1 f1 ++ tlW E v1 (kB n B) G K)).Perm _
  rw [show ads (dW E d v0 v1 t u n1 m1 r1 a g1 f1 ++ tlW E v1 (kB n B) G K) = ads (dW E d v0 v1 t u n1 m1 r1 a g1 f1) ++ ads (tlW E v1 (kB n B) G K) from List.map_append, show ads (dW E d v0 v1 t u n2 m2 r2 a g2 f2 ++ tlW E v1 B G' K') = ads (dW E d v0 v1 t u n2 m2 r2 a g2 f2) ++ ads (tlW E v1 B G' K') from List.map_append]
  exact List.Perm.append_left (ads (dW E d v0 v1 t u n2 m2 r2 a g2 f2)) h
