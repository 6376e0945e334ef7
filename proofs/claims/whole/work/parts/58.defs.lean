/-! doesRehearse and save as one -/
def drR (s : Nat → Int32) (p : Nat) : Int32 := if nI 3 < rh2 s p (34 + p) then nI 0 else nI 1
def drS (s : Nat → Int32) (R H p : Nat) (k r : Int32) : Nat → Int32 := if nI 3 < rh2 s p (34 + p) then ijA (rh2 s p) H (nI p) (prM k) (nI 2 * r) else if R < 40 then kpS (rh2 s p) R (nI p) k r else kpS (rj0 (rh2 s p)) 39 (nI p) k r
def svA (S s : Nat → Int32) (M : Nat) : Nat → Int32 := if M < 6 then svM S s M 300 else svM (sfM S 1500) s 5 300
theorem c_X7_doesRehearseA (l : Launch) (E : EV) {a : Nat → Nat} {th sm ln pl : Int32} {hs : Int64} {s S b w : Nat → Int32} {k r : Int32} {p : Nat} {R H : Nat} (h8 : s 8 = nI R) (h9 : s 9 = nI H) (hH : H ≤ 12) (hp0 : p < 8) (hR : R ≤ 40) : Wr l E yX7_doesRehearse cX7_doesRehearse 5 (some .int) 1 24 [.ref (a 0), .int (nI p), .int k, .int r] (mdW E a th sm ln pl hs s S b w) (mdW E a th sm ln pl hs (drS s R H p k r) S b w) (some (.int (drR s p))) := by
  unfold drR drS
  by_cases h : nI 3 < rh2 s p (34 + p)
  · rw [if_pos h, if_pos h]; exact c_X7_doesRehearse_h l E h8 h9 hH hp0 h
  · rw [if_neg h, if_neg h]
    by_cases hR' : R < 40
    · rw [if_pos hR']; exact c_X7_doesRehearse_k l E h8 h9 hH hp0 hR' h
    · rw [if_neg hR']; exact c_X7_doesRehearse_m l E (by rw [h8, show R = 40 by omega]) h9 hH hp0 h
theorem c_X7_saveA (l : Launch) (E : EV) {a : Nat → Nat} {th ln pl : Int32} {hs : Int64} {s S b w : Nat → Int32} {M : Nat} (hm : M ≤ 6) : Wr l E yX7_save cX7_save 2 none 0 0 [.ref (a 0)] (mdW E a th (nI M) ln pl hs s S b w) (mdW E a th (nI (kN M)) ln pl hs s (svA S s M) b w) none := by
  unfold svA kN
  by_cases h : M < 6
  · rw [if_pos h, if_pos h]; exact c_X7_save (sm := 0) l E h
  · obtain rfl : M = 6 := by omega
    rw [if_neg h, if_neg h]; exact c_X7_save_6 (sm := 0) l E
/-! the plan's reader -/
def nxM (b : Nat → Int32) (L P : Nat) : Int32 := if P < L then b P else nI 0
def tkP (b : Nat → Int32) (L P : Nat) (c : Int32) : Nat := if nxM b L P = c then P + 1 else P
def dtM (b : Nat → Int32) (L P : Nat) : Int32 := nxM b L P - nI 48
def rgP (b : Nat → Int32) (L P : Nat) (lo hi : Int32) : Nat := if lo ≤ dtM b L P ∧ dtM b L P ≤ hi then P + 1 else P
theorem tkP_le (b : Nat → Int32) (L P : Nat) (c : Int32) : tkP b L P c ≤ P + 1 := by
  unfold tkP
  split <;> omega
theorem rgP_le (b : Nat → Int32) (L P : Nat) (lo hi : Int32) : rgP b L P lo hi ≤ P + 1 := by
  unfold rgP
  split <;> omega
def daP (b : Nat → Int32) (L P : Nat) : Nat := if (nI 1 ≤ dtM b L (P) ∧ dtM b L (P) ≤ nI 9) then (if nI 48 ≤ nxM b L (rgP b L (P) (nI 1) (nI 9)) ∧ nxM b L (rgP b L (P) (nI 1) (nI 9)) ≤ nI 57 then rgP b L (P) (nI 1) (nI 9) + 1 else rgP b L (P) (nI 1) (nI 9)) else rgP b L (P) (nI 1) (nI 9)
def daW (b : Nat → Int32) (L P : Nat) (w : Nat → Int32) : Nat → Int32 := if (nI 1 ≤ dtM b L (P) ∧ dtM b L (P) ≤ nI 9) then (if nI 48 ≤ nxM b L (rgP b L (P) (nI 1) (nI 9)) ∧ nxM b L (rgP b L (P) (nI 1) (nI 9)) ≤ nI 57 then upd ((upd (w) 0 (dtM b L (P)))) 0 (nI 10 * (upd (w) 0 (dtM b L (P))) 0 + nxM b L (rgP b L (P) (nI 1) (nI 9)) - nI 48) else (upd (w) 0 (dtM b L (P)))) else (upd (w) 0 (dtM b L (P)))
theorem daP_le (b : Nat → Int32) (L P : Nat) : daP b L P ≤ P + 2 := by
  have h := rgP_le b L P (nI 1) (nI 9)
  unfold daP
  split
  · split <;> omega
  · omega
def rpR (b : Nat → Int32) (L P : Nat) : Int32 := if nxM b L P = nI 43 then bI (nI 1 ≤ dtM b L (tkP b L P (nI 43)) ∧ dtM b L (tkP b L P (nI 43)) ≤ nI 9) else if nxM b L (tkP b L P (nI 43)) = nI 33 then (if (nI 0 ≤ dtM b L (tkP b L (tkP b L P (nI 43)) (nI 33)) ∧ dtM b L (tkP b L (tkP b L P (nI 43)) (nI 33)) ≤ nI 9) then (if (nI 0 ≤ dtM b L (rgP b L (tkP b L (tkP b L P (nI 43)) (nI 33)) (nI 0) (nI 9)) ∧ dtM b L (rgP b L (tkP b L (tkP b L P (nI 43)) (nI 33)) (nI 0) (nI 9)) ≤ nI 7) then nI 1 else nI 0) else nI 0) else (if (nI 0 ≤ dtM b L (tkP b L (tkP b L P (nI 43)) (nI 33)) ∧ dtM b L (tkP b L (tkP b L P (nI 43)) (nI 33)) ≤ nI 7) then (if nxM b L (rgP b L (tkP b L (tkP b L P (nI 43)) (nI 33)) (nI 0) (nI 7)) = nI 114 then (if (nI 0 ≤ dtM b L (tkP b L (rgP b L (tkP b L (tkP b L P (nI 43)) (nI 33)) (nI 0) (nI 7)) (nI 114)) ∧ dtM b L (tkP b L (rgP b L (tkP b L (tkP b L P (nI 43)) (nI 33)) (nI 0) (nI 7)) (nI 114)) ≤ nI 5) then (if (nI 1 ≤ dtM b L (rgP b L (tkP b L (rgP b L (tkP b L (tkP b L P (nI 43)) (nI 33)) (nI 0) (nI 7)) (nI 114)) (nI 0) (nI 5)) ∧ dtM b L (rgP b L (tkP b L (rgP b L (tkP b L (tkP b L P (nI 43)) (nI 33)) (nI 0) (nI 7)) (nI 114)) (nI 0) (nI 5)) ≤ nI 5) then nI 1 else nI 0) else nI 0) else nI 0) else nI 0)
def rpP (b : Nat → Int32) (L P : Nat) : Nat := if nxM b L P = nI 43 then daP b L (tkP b L P (nI 43)) else if nxM b L (tkP b L P (nI 43)) = nI 33 then (if (nI 0 ≤ dtM b L (tkP b L (tkP b L P (nI 43)) (nI 33)) ∧ dtM b L (tkP b L (tkP b L P (nI 43)) (nI 33)) ≤ nI 9) then (if (nI 0 ≤ dtM b L (rgP b L (tkP b L (tkP b L P (nI 43)) (nI 33)) (nI 0) (nI 9)) ∧ dtM b L (rgP b L (tkP b L (tkP b L P (nI 43)) (nI 33)) (nI 0) (nI 9)) ≤ nI 7) then rgP b L (rgP b L (tkP b L (tkP b L P (nI 43)) (nI 33)) (nI 0) (nI 9)) (nI 0) (nI 7) else rgP b L (rgP b L (tkP b L (tkP b L P (nI 43)) (nI 33)) (nI 0) (nI 9)) (nI 0) (nI 7)) else rgP b L (tkP b L (tkP b L P (nI 43)) (nI 33)) (nI 0) (nI 9)) else (if (nI 0 ≤ dtM b L (tkP b L (tkP b L P (nI 43)) (nI 33)) ∧ dtM b L (tkP b L (tkP b L P (nI 43)) (nI 33)) ≤ nI 7) then (if nxM b L (rgP b L (tkP b L (tkP b L P (nI 43)) (nI 33)) (nI 0) (nI 7)) = nI 114 then (if (nI 0 ≤ dtM b L (tkP b L (rgP b L (tkP b L (tkP b L P (nI 43)) (nI 33)) (nI 0) (nI 7)) (nI 114)) ∧ dtM b L (tkP b L (rgP b L (tkP b L (tkP b L P (nI 43)) (nI 33)) (nI 0) (nI 7)) (nI 114)) ≤ nI 5) then (if (nI 1 ≤ dtM b L (rgP b L (tkP b L (rgP b L (tkP b L (tkP b L P (nI 43)) (nI 33)) (nI 0) (nI 7)) (nI 114)) (nI 0) (nI 5)) ∧ dtM b L (rgP b L (tkP b L (rgP b L (tkP b L (tkP b L P (nI 43)) (nI 33)) (nI 0) (nI 7)) (nI 114)) (nI 0) (nI 5)) ≤ nI 5) then rgP b L (rgP b L (tkP b L (rgP b L (tkP b L (tkP b L P (nI 43)) (nI 33)) (nI 0) (nI 7)) (nI 114)) (nI 0) (nI 5)) (nI 1) (nI 5) else rgP b L (rgP b L (tkP b L (rgP b L (tkP b L (tkP b L P (nI 43)) (nI 33)) (nI 0) (nI 7)) (nI 114)) (nI 0) (nI 5)) (nI 1) (nI 5)) else rgP b L (tkP b L (rgP b L (tkP b L (tkP b L P (nI 43)) (nI 33)) (nI 0) (nI 7)) (nI 114)) (nI 0) (nI 5)) else tkP b L (rgP b L (tkP b L (tkP b L P (nI 43)) (nI 33)) (nI 0) (nI 7)) (nI 114)) else rgP b L (tkP b L (tkP b L P (nI 43)) (nI 33)) (nI 0) (nI 7))
def rpW (b : Nat → Int32) (L P : Nat) (w : Nat → Int32) : Nat → Int32 := if nxM b L P = nI 43 then daW b L (tkP b L P (nI 43)) w else if nxM b L (tkP b L P (nI 43)) = nI 33 then (if (nI 0 ≤ dtM b L (tkP b L (tkP b L P (nI 43)) (nI 33)) ∧ dtM b L (tkP b L (tkP b L P (nI 43)) (nI 33)) ≤ nI 9) then (if (nI 0 ≤ dtM b L (rgP b L (tkP b L (tkP b L P (nI 43)) (nI 33)) (nI 0) (nI 9)) ∧ dtM b L (rgP b L (tkP b L (tkP b L P (nI 43)) (nI 33)) (nI 0) (nI 9)) ≤ nI 7) then upd (upd (w) 0 (dtM b L (tkP b L (tkP b L P (nI 43)) (nI 33)))) 1 (dtM b L (rgP b L (tkP b L (tkP b L P (nI 43)) (nI 33)) (nI 0) (nI 9))) else upd (upd (w) 0 (dtM b L (tkP b L (tkP b L P (nI 43)) (nI 33)))) 1 (dtM b L (rgP b L (tkP b L (tkP b L P (nI 43)) (nI 33)) (nI 0) (nI 9)))) else upd (w) 0 (dtM b L (tkP b L (tkP b L P (nI 43)) (nI 33)))) else (if (nI 0 ≤ dtM b L (tkP b L (tkP b L P (nI 43)) (nI 33)) ∧ dtM b L (tkP b L (tkP b L P (nI 43)) (nI 33)) ≤ nI 7) then (if nxM b L (rgP b L (tkP b L (tkP b L P (nI 43)) (nI 33)) (nI 0) (nI 7)) = nI 114 then (if (nI 0 ≤ dtM b L (tkP b L (rgP b L (tkP b L (tkP b L P (nI 43)) (nI 33)) (nI 0) (nI 7)) (nI 114)) ∧ dtM b L (tkP b L (rgP b L (tkP b L (tkP b L P (nI 43)) (nI 33)) (nI 0) (nI 7)) (nI 114)) ≤ nI 5) then (if (nI 1 ≤ dtM b L (rgP b L (tkP b L (rgP b L (tkP b L (tkP b L P (nI 43)) (nI 33)) (nI 0) (nI 7)) (nI 114)) (nI 0) (nI 5)) ∧ dtM b L (rgP b L (tkP b L (rgP b L (tkP b L (tkP b L P (nI 43)) (nI 33)) (nI 0) (nI 7)) (nI 114)) (nI 0) (nI 5)) ≤ nI 5) then upd (upd (upd (w) 0 (dtM b L (tkP b L (tkP b L P (nI 43)) (nI 33)))) 1 (dtM b L (tkP b L (rgP b L (tkP b L (tkP b L P (nI 43)) (nI 33)) (nI 0) (nI 7)) (nI 114)))) 2 (dtM b L (rgP b L (tkP b L (rgP b L (tkP b L (tkP b L P (nI 43)) (nI 33)) (nI 0) (nI 7)) (nI 114)) (nI 0) (nI 5))) else upd (upd (upd (w) 0 (dtM b L (tkP b L (tkP b L P (nI 43)) (nI 33)))) 1 (dtM b L (tkP b L (rgP b L (tkP b L (tkP b L P (nI 43)) (nI 33)) (nI 0) (nI 7)) (nI 114)))) 2 (dtM b L (rgP b L (tkP b L (rgP b L (tkP b L (tkP b L P (nI 43)) (nI 33)) (nI 0) (nI 7)) (nI 114)) (nI 0) (nI 5)))) else upd (upd (w) 0 (dtM b L (tkP b L (tkP b L P (nI 43)) (nI 33)))) 1 (dtM b L (tkP b L (rgP b L (tkP b L (tkP b L P (nI 43)) (nI 33)) (nI 0) (nI 7)) (nI 114)))) else upd (w) 0 (dtM b L (tkP b L (tkP b L P (nI 43)) (nI 33)))) else upd (w) 0 (dtM b L (tkP b L (tkP b L P (nI 43)) (nI 33))))
theorem rpR_nb (b : Nat → Int32) (L P : Nat) : narrow .boolean (.int (rpR b L P)) = .int (rpR b L P) := by
  unfold rpR
  repeat' split
  all_goals first | exact nb_bI _ | rfl
theorem rpP_le (b : Nat → Int32) (L P : Nat) : rpP b L P ≤ P + 6 := by
  have h1 := tkP_le b L P (nI 43)
  have h2 := tkP_le b L (tkP b L P (nI 43)) (nI 33)
  have h3 := daP_le b L (tkP b L P (nI 43))
  have h4 := rgP_le b L (tkP b L (tkP b L P (nI 43)) (nI 33)) (nI 0) (nI 9)
  have h5 := rgP_le b L (rgP b L (tkP b L (tkP b L P (nI 43)) (nI 33)) (nI 0) (nI 9)) (nI 0) (nI 7)
  have h6 := rgP_le b L (tkP b L (tkP b L P (nI 43)) (nI 33)) (nI 0) (nI 7)
  have h7 := tkP_le b L (rgP b L (tkP b L (tkP b L P (nI 43)) (nI 33)) (nI 0) (nI 7)) (nI 114)
  have h8 := rgP_le b L (tkP b L (rgP b L (tkP b L (tkP b L P (nI 43)) (nI 33)) (nI 0) (nI 7)) (nI 114)) (nI 0) (nI 5)
  have h9 := rgP_le b L (rgP b L (tkP b L (rgP b L (tkP b L (tkP b L P (nI 43)) (nI 33)) (nI 0) (nI 7)) (nI 114)) (nI 0) (nI 5)) (nI 1) (nI 5)
  unfold rpP
  repeat' split
  all_goals omega
