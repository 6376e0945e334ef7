theorem rh_9x {s : Nat → Int32} {p H : Nat} {x y : Int32} (hp : p < 8) (h : s 9 = nI H) : upd (upd s 7 x) (34 + p) y 9 = nI H := by
  rw [upd_ne (by omega), upd_ne (by omega), h]
theorem rh_8x {s : Nat → Int32} {p R : Nat} {x y : Int32} (hp : p < 8) (h : s 8 = nI R) : upd (upd s 7 x) (34 + p) y 8 = nI R := by
  rw [upd_ne (by omega), upd_ne (by omega), h]
