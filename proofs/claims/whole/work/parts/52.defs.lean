def ijA (s : Nat → Int32) (H : Nat) (p q x : Int32) : Nat → Int32 := if H < 12 then ijS s H p q x else ijS (ij0 s) 11 p q x
theorem c_X7_injureA (l : Launch) (E : EV) {a : Nat → Nat} {th sm ln pl : Int32} {hs : Int64} {s S b w : Nat → Int32} {p q x : Int32} {H : Nat} (h9 : s 9 = nI H) (hH : H ≤ 12) : Wr l E yX7_injure cX7_injure 5 none 0 0 [.ref (a 0), .int p, .int q, .int x] (mdW E a th sm ln pl hs s S b w) (mdW E a th sm ln pl hs (ijA s H p q x) S b w) none := by
  unfold ijA
  by_cases h : H < 12
  · rw [if_pos h]; exact c_X7_injure l E h9 h
  · rw [if_neg h]; exact c_X7_injure_12 l E (by rw [h9, show H = 12 by omega])
def rh1 (s : Nat → Int32) : Nat → Int32 := upd s 7 (s 7 + nI 1)
def rh2 (s : Nat → Int32) (p : Nat) : Nat → Int32 := upd (rh1 s) (34 + p) (rh1 s (34 + p) + nI 1)
theorem rh_9 {s : Nat → Int32} {p H : Nat} (hp : p < 8) (h : s 9 = nI H) : rh2 s p 9 = nI H := by
  rw [rh2, upd_ne (by omega), rh1, upd_ne (by omega), h]
theorem rh_8 {s : Nat → Int32} {p R : Nat} (hp : p < 8) (h : s 8 = nI R) : rh2 s p 8 = nI R := by
  rw [rh2, upd_ne (by omega), rh1, upd_ne (by omega), h]
def kp1 (s : Nat → Int32) (R : Nat) (p : Int32) : Nat → Int32 := upd s (42 + 4 * R + 0) p
def kp2 (s : Nat → Int32) (R : Nat) (p k : Int32) : Nat → Int32 := upd (kp1 s R p) (42 + 4 * R + 1) k
def kp3 (s : Nat → Int32) (R : Nat) (p k r : Int32) : Nat → Int32 := upd (kp2 s R p k) (42 + 4 * R + 2) r
def kp4 (s : Nat → Int32) (R : Nat) (p k r : Int32) : Nat → Int32 := upd (kp3 s R p k r) (42 + 4 * R + 3) (kp3 s R p k r 0)
def kpS (s : Nat → Int32) (R : Nat) (p k r : Int32) : Nat → Int32 := upd (kp4 s R p k r) 8 (kp4 s R p k r 8 + nI 1)
def rjM (s : Nat → Int32) : Nat → Nat → Int32
  | 0 => s
  | n + 1 => upd (rjM s n) (42 + n) (rjM s n (42 + n + 4))
theorem rjM_0 {s : Nat → Int32} : rjM s (42 - 42) = s := rfl
theorem rjM_s {s : Nat → Int32} {k : Nat} (h : 42 ≤ k) : rjM s (k + 1 - 42) = upd (rjM s (k - 42)) k (rjM s (k - 42) (k + 4)) := by
  rw [show k + 1 - 42 = (k - 42) + 1 by omega, rjM, show 42 + (k - 42) = k by omega]
theorem rjM_lo {s : Nat → Int32} {j : Nat} (h : j < 42) (n : Nat) : rjM s n j = s j := by
  induction n with
  | zero => rfl
  | succ n ih => rw [rjM, upd_ne (by omega), ih]
def rj0 (s : Nat → Int32) : Nat → Int32 := upd (rjM s (198 - 42)) 8 (rjM s (198 - 42) 8 - nI 1)
theorem rj_39 {s : Nat → Int32} (h : s 8 = nI 40) : upd (rjM s (198 - 42)) 8 (rjM s (198 - 42) 8 - nI 1) 8 = nI 39 := by
  rw [upd_eq, rjM_lo (by omega), h]
  exact nI_m1 39
