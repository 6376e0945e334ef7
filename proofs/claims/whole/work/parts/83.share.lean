/-! the share of scenes shot: no step gives NaN, and its bits are its bits -/
def n64b (r : UInt64) : Bool := decide (r &&& 0x7fffffffffffffff ≤ 0x7ff0000000000000)
theorem n64b_ok {r : UInt64} (h : n64b r = true) : vf_n64 r := by
  unfold n64b at h
  unfold vf_n64
  exact of_decide_eq_true h
def shb (x : UInt64) : Bool := n64b x && ((List.range (bsE x 64 0)).all (fun k => n64b (FP.dmul (bfr x k) 4611686018427387904)) && (n64b (FP.dsub (bfr x (bsE x 64 0)) FP.dconst1) && (n64b (FP.dmul (FP.dsub (bfr x (bsE x 64 0)) FP.dconst1) 4841369599423283200) && (decide (bsC x = x.toInt64) && decide (Op.cmpValue (FP.dcmp x x) .l = 0)))))
def shK (x : UInt64) : Prop := vf_n64 x ∧ bsOK x ∧ bsC x = x.toInt64 ∧ Op.cmpValue (FP.dcmp x x) .l = 0
theorem shb_ok {x : UInt64} (h : shb x = true) : shK x := by
  unfold shb at h
  simp only [Bool.and_eq_true] at h
  obtain ⟨h1, h2, h3, h4, h5, h6⟩ := h
  exact ⟨n64b_ok h1, ⟨fun k hk => n64b_ok (List.all_eq_true.mp h2 k (List.mem_range.mpr hk)), n64b_ok h3, n64b_ok h4⟩, of_decide_eq_true h5, of_decide_eq_true h6⟩
theorem sh_1 : shb FP.dconst1 = true := by decide +kernel
theorem sh_all : ∀ C : Fin 11, ∀ c : Fin 11, 1 ≤ C.val → c.val ≤ C.val → shb (FP.ddiv (FP.i2d (nI c.val)) (FP.i2d (nI C.val))) = true := by decide +kernel
theorem sh_ok {C c : Nat} (h1 : 1 ≤ C) (h2 : C ≤ 10) (h3 : c ≤ C) : shK (FP.ddiv (FP.i2d (nI c)) (FP.i2d (nI C))) := shb_ok (sh_all ⟨C, by omega⟩ ⟨c, by omega⟩ h1 h3)
section RL4
variable {g : Nat → Int32} {f : Nat → Nat → Int32} {s : Nat → Int32} {R H C D d : Nat} {sn : Nat → Nat}
theorem sr_cases (hB : RB s R H C D sn) : shK (srM s C) ∧ (s 4 = nI 0 ∨ vf_n64 (FP.ddiv (FP.i2d (shM s C)) (FP.i2d (s 4)))) := by
  have hC10 : C ≤ 10 := hB.1.2.2.2.2.2.2.2.1
  have h4 : s 4 = nI C := hB.1.2.2.2.2.2.2.1
  unfold srM
  rw [h4]
  by_cases e : C = 0
  · subst e
    rw [if_pos rfl]
    exact ⟨shb_ok sh_1, Or.inl rfl⟩
  · have k : ¬ nI C = nI 0 := fun w => e ((nI_eq (by omega) (by omega)).mp w)
    obtain ⟨c, ec, hc⟩ := shM_val s C
    rw [if_neg k, ec]
    have w := sh_ok (C := C) (c := c) (by omega) hC10 hc
    exact ⟨w, Or.inr w.1⟩
theorem sr_class (hA : RA g f s) (hB : RB s R H C D sn) : g 8 = 0 ∨ vf_n64 (FP.ddiv (FP.i2d (shoC (f 12) (g 8).toNatClampNeg)) (FP.i2d (g 8))) := by
  rw [hA.cC hB, sho_eq hA hB (Nat.le_refl _), hA.g8]
  exact (sr_cases hB).2.imp (fun h => h.trans nI_0) id
end RL4
