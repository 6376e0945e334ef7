/-! the law's own body: what it reads off its script, and the stretches that make up a call -/
def ceV (L : Nat) (xs : Nat → Int32) (k : Nat) : Int32 := if k < L then xs k else nI 39119 * (nI k + nI 3) + nI 2483121
def Ce (l : Launch) (b L : Nat) (xs : Nat → Int32) (k : Nat) : Prop :=
  Met l yL_cell (Cond.code yL_cell cL_cell 2 (some .int) :: LW) (rmk 0 0 0 0) (va_Pc [.ref b, .int (nI k)] (fun U => va_X b L xs U U.heap)) (va_Qi (fun r (_ : Unit) => r = ceV L xs k) (fun _ _ => True) (fun _ => False)) 0 0 (fun _ => False)
section GVc
variable {p : Program} {l : Launch} {e : Env} {R : Room} {s : State} {m : MethodId} {args : Array Value} {below : List Frame} {meth : Method} {c : Code} {E : EV} {A : Nat → Prop} {Q : State → Prop} {ws : va_W} {k n : Nat}
variable {cc : ByteArray} {nL : Nat} {own : String} {pc : Nat} {ls : Array Slot} {st : List Value} {g g2 : JFrame}
theorem GV.iretC (F : CallFix p m c cc nL s args LW own) (hr : meth.sig.returnType = some .int) (hk : meth.locks = false) {v r : Int32} (hp : r = v) (hd : decode cc pc = .ok (.ireturn, 1)) : GV p l e R s m args below meth c E A (MQ below (va_Qi (fun r (_ : Unit) => r = v) (fun _ _ => True) A) args s 0 0 A) ws 0 0 (F0 m pc ls [.int r]) :=
  fun H locs hP hD hS => W.iret F.1 F.2.1 hr (fun t ht _ => ⟨⟨r, (), rfl, hp, trivial⟩, hS.F ht⟩) hS.2.2 hd hk
end GVc
set_option maxHeartbeats 4000000 in
theorem c_L_cell (l : Launch) (E : EV) {b L k : Nat} {xs : Nat → Int32} (hL : L < 2 ^ 31) (hk31 : k < 2 ^ 31) : Ce l b L xs k := by
  refine Met.ofW (cc := cL_cell) (maxL := 2) (ret := some .int) (by decide) rfl ?_
  intro p e s m args below meth c s₁ B hml hv
  obtain ⟨rfl, hX⟩ := hv
  have hts := atoms_spec (ws := Cond.code yL_cell cL_cell 2 (some .int) :: LW) B.pre
  have hbl : b < s.heap.size := by
    obtain ⟨scr, h1, -⟩ := hX
    exact (Array.getElem?_eq_some_iff.mp h1).1
  have hbA : ¬ (fun _ : Nat => False) b := fun h => h
  rw [lg_entry_eq]
  have hl := lv_entry ([.ref b, .int (nI k)]) (n := 2) (Nat.le_of_ble_eq_true rfl)
  have F : CallFix p m c cL_cell 2 s _ LW yL_cell.cls := ⟨B.exec, B.bytes, hml, findClass_of_methodNamed B.named, fun w h => hts w (List.mem_cons_of_mem _ h)⟩
  have hr := B.returns
  have hlk := B.notSynchronized
  generalize (lg_sl ([.ref b, .int (nI k)]) ++ List.replicate (2 - (lg_sl ([.ref b, .int (nI k)])).length) Slot.unset).toArray = ls at hl ⊢
  have hl : lv_has ls 2 [(0, .ref b), (1, .int (nI k))] := hl
  have main : GV p l e (rmk 0 0 0 0) s m #[Value.ref b, Value.int (nI k)] below meth c E (fun _ : Nat => False) (MQ below (va_Qi (fun r (_ : Unit) => r = ceV L xs k) (fun _ _ => True) (fun _ => False)) #[Value.ref b, Value.int (nI k)] s 0 0 (fun _ => False)) [] 0 0 (F0 m 0 ls []) := by
    refine GW.iload_n F dL_cell_0 rfl (lv_at hl 1 rfl) ?_
    refine GW.aload_n F dL_cell_1 rfl (lv_at hl 0 rfl) ?_
    refine GV.slen F hX hbl hbA dL_cell_2 ?_
    refine GW.icmp_ge (tgt := 12) F dL_cell_3 (by decide) (fun c1 _ => ?_) (fun c1 _ => ?_)
    · have hk : ¬ k < L := by have := (nI_leI hL hk31).mp c1; omega
      refine GW.ldc F cL_7 dL_cell_12 ?_
      refine GW.iload_n F dL_cell_14 rfl (lv_at hl 1 rfl) ?_
      refine GW.iconst (v := nI 3) F dL_cell_15 (by decide) ?_
      refine GW.iadd F dL_cell_16 (fun z1 e1 => ?_)
      refine GW.imul F dL_cell_17 (fun z2 e2 => ?_)
      refine GW.ldc F cL_8 dL_cell_18 ?_
      refine GW.iadd F dL_cell_20 (fun z3 e3 => ?_)
      exact GV.iretC F hr hlk (by rw [e3, e2, e1]; exact (if_neg hk).symm) dL_cell_21
    · have hk : k < L := Nat.not_le.mp fun h => c1 ((nI_leI hL hk31).mpr h)
      refine GW.aload_n F dL_cell_6 rfl (lv_at hl 0 rfl) ?_
      refine GW.iload_n F dL_cell_7 rfl (lv_at hl 1 rfl) ?_
      refine GV.sld F hX hbl hbA hk hL dL_cell_8 ?_
      refine GW.goto (tgt := 21) F dL_cell_9 (by decide) ?_
      exact GV.iretC F hr hlk (if_pos hk).symm dL_cell_21
  exact main s.heap [] (fun k q h => by simp at h) ⟨fun i j p q h => by simp at h, fun k q h => by simp at h⟩ va_S.rf
section GVd
variable {p : Program} {l : Launch} {e : Env} {R : Room} {s : State} {m : MethodId} {args : Array Value} {below : List Frame} {meth : Method} {c : Code} {E : EV} {A : Nat → Prop} {Q : State → Prop} {ws : va_W} {k n : Nat}
variable {cc : ByteArray} {nL : Nat} {own : String} {pc : Nat} {ls : Array Slot} {st : List Value} {g g2 : JFrame}
theorem GV.cell (F : CallFix p m c cc nL s args LW own) {b L i : Nat} {xs : Nat → Int32} (hX : va_X b L xs s s.heap) (hbl : b < s.heap.size) (hbA : ¬ A b) {index : Nat} {rest : List Value} (hM : Ce l b L xs i) (cw : CallB R s args own index yL_cell cL_cell 2 (some .int) (Cond.code yL_cell cL_cell 2 (some .int) :: LW) (rmk 0 0 0 0) 0 0 2 ∧ (Cond.static yL_cell).before args s = true) (hsz : ls.size = nL) (hroom : (rest.map fun v => v.category).sum ≤ 8) (hkn : k ≤ R.cells ∧ n ≤ R.slots) (hd : decode cc pc = .ok (.invokestatic index, 3)) (kk : GV p l e R s m args below meth c E A Q ws k n (F0 m (pc + 3) ls (.int (ceV L xs i) :: rest))) : GV p l e R s m args below meth c E A Q ws k n (F0 m pc ls (.int (nI i) :: .ref b :: rest)) := by
  intro H locs hP hD hS
  refine va_calli (va_runS (As := [.ref b, .int (nI i)]) (rest := rest) F hM cw ⟨fun a U g mk q => ⟨q.1, q.2.moved (Vm.Alike.refl U.vm)⟩, fun U hU hW => ⟨rfl, by show va_X b L xs U U.heap; rw [hU]; exact (hX.kept (hS.2.1 b hbl hbA)).moved hW.alike⟩⟩ rfl rfl hsz rfl (lv_room hroom) hd ⟨by omega, by omega⟩) hS (fun q _ h => h.elim) (fun q h => h.elim) (fun r u t H1 locs1 ht hvm hp hB hz1 hk1 hS1 => ?_)
  subst hp
  have hH : ∀ q : Nat, q < H.size → H1[q]? = H[q]? := fun q hq => hk1 q hq (fun h => h)
  exact kk H1 locs1 (P_mem.mpr fun z hz => (P_mem.mp hP z hz).kept (hH _ (P_lt hP z hz))) hD hS1
end GVd
set_option maxHeartbeats 4000000 in
set_option maxRecDepth 100000 in
theorem sg_kind {p : Program} {l : Launch} {e : Env} {s : State} {m : MethodId} {args : Array Value} {below : List Frame} {meth : Method} {c : Code} {E : EV} {A : Nat → Prop} {Q : State → Prop} (F : CallFix p m c cL_law 19 s args LW RL) (hE : CE E A s s.heap) {b d u0 u1 u2 u3 u4 u5 u6 u7 i : Nat} {X Y : Int32} {ws : va_W} (hi31 : i < 2 ^ 31) {kc nc : Nat} (hkn : kc ≤ room_1.cells ∧ nc ≤ room_1.slots) {ls : Array Slot} (hl : lv_has ls 19 [(0, .ref b), (1, .ref d), (2, .ref u1), (3, .ref u2), (4, .ref u3), (5, .ref u4), (6, .ref u5), (7, .ref u6), (8, .ref u7), (9, .ref u0), (10, .int (nI i)), (11, .int X), (12, .int Y)]) (kk : ∀ (κ : Nat), κ < 16 → ∀ ls : Array Slot, lv_has ls 19 [(0, .ref b), (1, .ref d), (2, .ref u1), (3, .ref u2), (4, .ref u3), (5, .ref u4), (6, .ref u5), (7, .ref u6), (8, .ref u7), (9, .ref u0), (10, .int (nI i)), (11, .int X), (12, .int Y), (13, .int (nI κ))] → GV p l e room_1 s m args below meth c E A Q ws kc nc (F0 m 154 ls [])) : GV p l e room_1 s m args below meth c E A Q (ws) kc nc (F0 m 124 ls []) := by
  refine GW.iload F dL_law_124 (lv_at hl 10 rfl) ?_
  refine GW.if_ne (tgt := 134) F dL_law_126 (by decide) (fun c1 => ?_) (fun c1 => ?_)
  · skip
    refine GW.iload F dL_law_134 (lv_at hl 10 rfl) ?_
    refine GW.iconst (v := nI 1) F dL_law_136 (by decide) ?_
    refine GW.icmp_ne (tgt := 145) F dL_law_137 (by decide) (fun c2 => ?_) (fun c2 => ?_)
    · skip
      refine GW.iload F dL_law_145 (lv_at hl 11 rfl) ?_
      refine GW.bipush (v := nI 16) F dL_law_147 (by decide) ?_
      refine GV.rdS (wa := []) (wb := _) F hE (c_L_low l E (x := X) (n := 16) (by decide) (by decide)) (kL_122 F.2.2.2.2 ⟨Nat.le_of_ble_eq_true rfl, Nat.le_of_ble_eq_true rfl⟩) rfl rfl hl.1 (Nat.le_of_ble_eq_true rfl) hkn dL_law_149 rfl ?_
      refine GW.istore (lv' := [(13, .int (nI (lowN X 16))), (0, .ref b), (1, .ref d), (2, .ref u1), (3, .ref u2), (4, .ref u3), (5, .ref u4), (6, .ref u5), (7, .ref u6), (8, .ref u7), (9, .ref u0), (10, .int (nI i)), (11, .int X), (12, .int Y)]) F dL_law_152 hl (by decide) rfl (fun ls hl => ?_)
      exact kk (lowN X 16) (by first | decide | exact lowN_lt (by decide)) ls (lv_sub hl [1, 2, 3, 4, 5, 6, 7, 8, 9, 10, 11, 12, 13, 0] rfl)
    · skip
      refine GW.bipush (v := nI 7) F dL_law_140 (by decide) ?_
      refine GW.goto (tgt := 152) F dL_law_142 (by decide) ?_
      refine GW.istore (lv' := [(13, .int (nI 7)), (0, .ref b), (1, .ref d), (2, .ref u1), (3, .ref u2), (4, .ref u3), (5, .ref u4), (6, .ref u5), (7, .ref u6), (8, .ref u7), (9, .ref u0), (10, .int (nI i)), (11, .int X), (12, .int Y)]) F dL_law_152 hl (by decide) rfl (fun ls hl => ?_)
      exact kk 7 (by first | decide | exact lowN_lt (by decide)) ls (lv_sub hl [1, 2, 3, 4, 5, 6, 7, 8, 9, 10, 11, 12, 13, 0] rfl)
  · skip
    refine GW.bipush (v := nI 8) F dL_law_129 (by decide) ?_
    refine GW.goto (tgt := 152) F dL_law_131 (by decide) ?_
    refine GW.istore (lv' := [(13, .int (nI 8)), (0, .ref b), (1, .ref d), (2, .ref u1), (3, .ref u2), (4, .ref u3), (5, .ref u4), (6, .ref u5), (7, .ref u6), (8, .ref u7), (9, .ref u0), (10, .int (nI i)), (11, .int X), (12, .int Y)]) F dL_law_152 hl (by decide) rfl (fun ls hl => ?_)
    exact kk 8 (by first | decide | exact lowN_lt (by decide)) ls (lv_sub hl [1, 2, 3, 4, 5, 6, 7, 8, 9, 10, 11, 12, 13, 0] rfl)
set_option maxHeartbeats 4000000 in
set_option maxRecDepth 100000 in
theorem sg_c0 {p : Program} {l : Launch} {e : Env} {s : State} {m : MethodId} {args : Array Value} {below : List Frame} {meth : Method} {c : Code} {E : EV} {A : Nat → Prop} {Q : State → Prop} (F : CallFix p m c cL_law 19 s args LW RL) (hE : CE E A s s.heap) {b d u0 u1 u2 u3 u4 u5 u6 u7 i : Nat} {X Y : Int32} {κ : Nat} {ca : Nat → Int32} {wr : va_W} {kc nc : Nat} (hkn : kc ≤ room_1.cells ∧ nc ≤ room_1.slots) {ls : Array Slot} (hl : lv_has ls 19 [(0, .ref b), (1, .ref d), (2, .ref u1), (3, .ref u2), (4, .ref u3), (5, .ref u4), (6, .ref u5), (7, .ref u6), (8, .ref u7), (9, .ref u0), (10, .int (nI i)), (11, .int X), (12, .int Y), (13, .int (nI κ))]) (kk : ∀ (K : Nat), K < 7 → ∀ ls : Array Slot, lv_has ls 19 [(0, .ref b), (1, .ref d), (2, .ref u1), (3, .ref u2), (4, .ref u3), (5, .ref u4), (6, .ref u5), (7, .ref u6), (8, .ref u7), (9, .ref u0), (10, .int (nI i)), (11, .int X), (12, .int Y)] → GV p l e room_1 s m args below meth c E A Q (rw_ E u0 4 (upd ca 0 (nI K)) :: wr) kc nc (F0 m 234 ls [])) : GV p l e room_1 s m args below meth c E A Q (rw_ E u0 4 ca :: wr) kc nc (F0 m 154 ls []) := by
  refine GW.aload F dL_law_154 (lv_at hl 9 rfl) ?_
  refine GW.iconst (v := nI 0) F dL_law_156 (by decide) ?_
  refine GW.iload F dL_law_157 (lv_at hl 13 rfl) ?_
  refine GW.if_ne (tgt := 166) F dL_law_159 (by decide) (fun c1 => ?_) (fun c1 => ?_)
  · skip
    refine GW.iload F dL_law_166 (lv_at hl 13 rfl) ?_
    refine GW.iconst (v := nI 3) F dL_law_168 (by decide) ?_
    refine GW.icmp_ge (tgt := 176) F dL_law_169 (by decide) (fun c2 c2' => ?_) (fun c2 c2' => ?_)
    · skip
      refine GW.iload F dL_law_176 (lv_at hl 13 rfl) ?_
      refine GW.bipush (v := nI 6) F dL_law_178 (by decide) ?_
      refine GW.icmp_ge (tgt := 187) F dL_law_180 (by decide) (fun c3 c3' => ?_) (fun c3 c3' => ?_)
      · skip
        refine GW.iload F dL_law_187 (lv_at hl 13 rfl) ?_
        refine GW.bipush (v := nI 6) F dL_law_189 (by decide) ?_
        refine GW.icmp_ne (tgt := 198) F dL_law_191 (by decide) (fun c4 => ?_) (fun c4 => ?_)
        · skip
          refine GW.iload F dL_law_198 (lv_at hl 13 rfl) ?_
          refine GW.bipush (v := nI 7) F dL_law_200 (by decide) ?_
          refine GW.icmp_ne (tgt := 209) F dL_law_202 (by decide) (fun c5 => ?_) (fun c5 => ?_)
          · skip
            refine GW.iload F dL_law_209 (lv_at hl 13 rfl) ?_
            refine GW.bipush (v := nI 10) F dL_law_211 (by decide) ?_
            refine GW.icmp_ge (tgt := 220) F dL_law_213 (by decide) (fun c6 c6' => ?_) (fun c6 c6' => ?_)
            · skip
              refine GW.iload F dL_law_220 (lv_at hl 13 rfl) ?_
              refine GW.bipush (v := nI 13) F dL_law_222 (by decide) ?_
              refine GW.icmp_ge (tgt := 232) F dL_law_224 (by decide) (fun c7 c7' => ?_) (fun c7 c7' => ?_)
              · skip
                refine GW.iconst (v := nI 2) F dL_law_232 (by decide) ?_
                refine GW.isn (i := 0) F hE 0 rfl (by omega) (by omega) dL_law_233 rfl ?_
                exact kk 2 (by decide) ls (lv_sub hl [0, 1, 2, 3, 4, 5, 6, 7, 8, 9, 10, 11, 12] rfl)
              · skip
                refine GW.bipush (v := nI 6) F dL_law_227 (by decide) ?_
                refine GW.goto (tgt := 233) F dL_law_229 (by decide) ?_
                refine GW.isn (i := 0) F hE 0 rfl (by omega) (by omega) dL_law_233 rfl ?_
                exact kk 6 (by decide) ls (lv_sub hl [0, 1, 2, 3, 4, 5, 6, 7, 8, 9, 10, 11, 12] rfl)
            · skip
              refine GW.iconst (v := nI 5) F dL_law_216 (by decide) ?_
              refine GW.goto (tgt := 233) F dL_law_217 (by decide) ?_
              refine GW.isn (i := 0) F hE 0 rfl (by omega) (by omega) dL_law_233 rfl ?_
              exact kk 5 (by decide) ls (lv_sub hl [0, 1, 2, 3, 4, 5, 6, 7, 8, 9, 10, 11, 12] rfl)
          · skip
            refine GW.iconst (v := nI 4) F dL_law_205 (by decide) ?_
            refine GW.goto (tgt := 233) F dL_law_206 (by decide) ?_
            refine GW.isn (i := 0) F hE 0 rfl (by omega) (by omega) dL_law_233 rfl ?_
            exact kk 4 (by decide) ls (lv_sub hl [0, 1, 2, 3, 4, 5, 6, 7, 8, 9, 10, 11, 12] rfl)
        · skip
          refine GW.iconst (v := nI 3) F dL_law_194 (by decide) ?_
          refine GW.goto (tgt := 233) F dL_law_195 (by decide) ?_
          refine GW.isn (i := 0) F hE 0 rfl (by omega) (by omega) dL_law_233 rfl ?_
          exact kk 3 (by decide) ls (lv_sub hl [0, 1, 2, 3, 4, 5, 6, 7, 8, 9, 10, 11, 12] rfl)
      · skip
        refine GW.iconst (v := nI 2) F dL_law_183 (by decide) ?_
        refine GW.goto (tgt := 233) F dL_law_184 (by decide) ?_
        refine GW.isn (i := 0) F hE 0 rfl (by omega) (by omega) dL_law_233 rfl ?_
        exact kk 2 (by decide) ls (lv_sub hl [0, 1, 2, 3, 4, 5, 6, 7, 8, 9, 10, 11, 12] rfl)
    · skip
      refine GW.iconst (v := nI 1) F dL_law_172 (by decide) ?_
      refine GW.goto (tgt := 233) F dL_law_173 (by decide) ?_
      refine GW.isn (i := 0) F hE 0 rfl (by omega) (by omega) dL_law_233 rfl ?_
      exact kk 1 (by decide) ls (lv_sub hl [0, 1, 2, 3, 4, 5, 6, 7, 8, 9, 10, 11, 12] rfl)
  · skip
    refine GW.iconst (v := nI 0) F dL_law_162 (by decide) ?_
    refine GW.goto (tgt := 233) F dL_law_163 (by decide) ?_
    refine GW.isn (i := 0) F hE 0 rfl (by omega) (by omega) dL_law_233 rfl ?_
    exact kk 0 (by decide) ls (lv_sub hl [0, 1, 2, 3, 4, 5, 6, 7, 8, 9, 10, 11, 12] rfl)
set_option maxHeartbeats 4000000 in
set_option maxRecDepth 100000 in
theorem sg_c1 {p : Program} {l : Launch} {e : Env} {s : State} {m : MethodId} {args : Array Value} {below : List Frame} {meth : Method} {c : Code} {E : EV} {A : Nat → Prop} {Q : State → Prop} (F : CallFix p m c cL_law 19 s args LW RL) (hE : CE E A s s.heap) {b d u0 u1 u2 u3 u4 u5 u6 u7 i : Nat} {X Y : Int32} {ca : Nat → Int32} {wr : va_W} {kc nc : Nat} (hkn : kc ≤ room_1.cells ∧ nc ≤ room_1.slots) {ls : Array Slot} (hl : lv_has ls 19 [(0, .ref b), (1, .ref d), (2, .ref u1), (3, .ref u2), (4, .ref u3), (5, .ref u4), (6, .ref u5), (7, .ref u6), (8, .ref u7), (9, .ref u0), (10, .int (nI i)), (11, .int X), (12, .int Y)]) (kk : ∀ (q : Nat), q < 8 → ∀ ls : Array Slot, lv_has ls 19 [(0, .ref b), (1, .ref d), (2, .ref u1), (3, .ref u2), (4, .ref u3), (5, .ref u4), (6, .ref u5), (7, .ref u6), (8, .ref u7), (9, .ref u0), (10, .int (nI i)), (11, .int X), (12, .int Y)] → GV p l e room_1 s m args below meth c E A Q (rw_ E u0 4 (upd ca 1 (nI q)) :: wr) kc nc (F0 m 261 ls [])) : GV p l e room_1 s m args below meth c E A Q (rw_ E u0 4 ca :: wr) kc nc (F0 m 234 ls []) := by
  refine GW.aload F dL_law_234 (lv_at hl 9 rfl) ?_
  refine GW.iconst (v := nI 1) F dL_law_236 (by decide) ?_
  refine GW.iload F dL_law_237 (lv_at hl 12 rfl) ?_
  refine GW.iload F dL_law_239 (lv_at hl 12 rfl) ?_
  refine GW.bipush (v := nI 20) F dL_law_241 (by decide) ?_
  refine GW.ishr F dL_law_243 (fun z1 e1 => ?_)
  refine GW.iconst (v := nI 3) F dL_law_244 (by decide) ?_
  refine GV.rdS (wa := []) (wb := _) F hE (c_L_low l E (x := z1) (n := 3) (by decide) (by decide)) (kL_122 F.2.2.2.2 ⟨Nat.le_of_ble_eq_true rfl, Nat.le_of_ble_eq_true rfl⟩) rfl rfl hl.1 (Nat.le_of_ble_eq_true rfl) hkn dL_law_245 rfl ?_
  refine GW.if_ne (tgt := 256) F dL_law_248 (by decide) (fun c2 => ?_) (fun c2 => ?_)
  · skip
    refine GW.iconst (v := nI 3) F dL_law_256 (by decide) ?_
    refine GV.rdS (wa := []) (wb := _) F hE (c_L_low l E (x := Y) (n := 3) (by decide) (by decide)) (kL_122 F.2.2.2.2 ⟨Nat.le_of_ble_eq_true rfl, Nat.le_of_ble_eq_true rfl⟩) rfl rfl hl.1 (Nat.le_of_ble_eq_true rfl) hkn dL_law_257 rfl ?_
    refine GW.isn (i := 1) F hE 0 rfl (by omega) (by omega) dL_law_260 rfl ?_
    exact kk (lowN Y 3) (Nat.lt_of_lt_of_le (lowN_lt (by decide)) (by decide)) ls (lv_sub hl [0, 1, 2, 3, 4, 5, 6, 7, 8, 9, 10, 11, 12] rfl)
  · skip
    refine GW.bipush (v := nI 8) F dL_law_251 (by decide) ?_
    refine GW.goto (tgt := 257) F dL_law_253 (by decide) ?_
    refine GV.rdS (wa := []) (wb := _) F hE (c_L_low l E (x := Y) (n := 8) (by decide) (by decide)) (kL_122 F.2.2.2.2 ⟨Nat.le_of_ble_eq_true rfl, Nat.le_of_ble_eq_true rfl⟩) rfl rfl hl.1 (Nat.le_of_ble_eq_true rfl) hkn dL_law_257 rfl ?_
    refine GW.isn (i := 1) F hE 0 rfl (by omega) (by omega) dL_law_260 rfl ?_
    exact kk (lowN Y 8) (Nat.lt_of_lt_of_le (lowN_lt (by decide)) (by decide)) ls (lv_sub hl [0, 1, 2, 3, 4, 5, 6, 7, 8, 9, 10, 11, 12] rfl)
set_option maxHeartbeats 4000000 in
set_option maxRecDepth 100000 in
theorem sg_ab {p : Program} {l : Launch} {e : Env} {s : State} {m : MethodId} {args : Array Value} {below : List Frame} {meth : Method} {c : Code} {E : EV} {A : Nat → Prop} {Q : State → Prop} (F : CallFix p m c cL_law 19 s args LW RL) (hE : CE E A s s.heap) {b d u0 u1 u2 u3 u4 u5 u6 u7 i : Nat} {X Y : Int32} {ws : va_W} {kc nc : Nat} (hkn : kc ≤ room_1.cells ∧ nc ≤ room_1.slots) {ls : Array Slot} (hl : lv_has ls 19 [(0, .ref b), (1, .ref d), (2, .ref u1), (3, .ref u2), (4, .ref u3), (5, .ref u4), (6, .ref u5), (7, .ref u6), (8, .ref u7), (9, .ref u0), (10, .int (nI i)), (11, .int X), (12, .int Y)]) (kk : ∀ (α β : Nat), α < 100 → β < 100 → ∀ ls : Array Slot, lv_has ls 19 [(0, .ref b), (1, .ref d), (2, .ref u1), (3, .ref u2), (4, .ref u3), (5, .ref u4), (6, .ref u5), (7, .ref u6), (8, .ref u7), (9, .ref u0), (10, .int (nI i)), (11, .int X), (12, .int Y), (14, .int (nI α)), (15, .int (nI β))] → GV p l e room_1 s m args below meth c E A Q ws kc nc (F0 m 284 ls [])) : GV p l e room_1 s m args below meth c E A Q (ws) kc nc (F0 m 261 ls []) := by
  refine GW.iload F dL_law_261 (lv_at hl 12 rfl) ?_
  refine GW.iconst (v := nI 3) F dL_law_263 (by decide) ?_
  refine GW.ishr F dL_law_264 (fun z1 e1 => ?_)
  refine GW.bipush (v := nI 100) F dL_law_265 (by decide) ?_
  refine GV.rdS (wa := []) (wb := _) F hE (c_L_low l E (x := z1) (n := 100) (by decide) (by decide)) (kL_122 F.2.2.2.2 ⟨Nat.le_of_ble_eq_true rfl, Nat.le_of_ble_eq_true rfl⟩) rfl rfl hl.1 (Nat.le_of_ble_eq_true rfl) hkn dL_law_267 rfl ?_
  refine GW.istore (lv' := [(14, .int (nI (lowN z1 100))), (0, .ref b), (1, .ref d), (2, .ref u1), (3, .ref u2), (4, .ref u3), (5, .ref u4), (6, .ref u5), (7, .ref u6), (8, .ref u7), (9, .ref u0), (10, .int (nI i)), (11, .int X), (12, .int Y)]) F dL_law_270 hl (by decide) rfl (fun ls hl => ?_)
  refine GW.iload F dL_law_272 (lv_at hl 13 rfl) ?_
  refine GW.bipush (v := nI 10) F dL_law_274 (by decide) ?_
  refine GW.ishr F dL_law_276 (fun z2 e2 => ?_)
  refine GW.bipush (v := nI 100) F dL_law_277 (by decide) ?_
  refine GV.rdS (wa := []) (wb := _) F hE (c_L_low l E (x := z2) (n := 100) (by decide) (by decide)) (kL_122 F.2.2.2.2 ⟨Nat.le_of_ble_eq_true rfl, Nat.le_of_ble_eq_true rfl⟩) rfl rfl hl.1 (Nat.le_of_ble_eq_true rfl) hkn dL_law_279 rfl ?_
  refine GW.istore (lv' := [(15, .int (nI (lowN z2 100))), (14, .int (nI (lowN z1 100))), (0, .ref b), (1, .ref d), (2, .ref u1), (3, .ref u2), (4, .ref u3), (5, .ref u4), (6, .ref u5), (7, .ref u6), (8, .ref u7), (9, .ref u0), (10, .int (nI i)), (11, .int X), (12, .int Y)]) F dL_law_282 hl (by decide) rfl (fun ls hl => ?_)
  exact kk (lowN z1 100) (lowN z2 100) (lowN_lt (by decide)) (lowN_lt (by decide)) ls (lv_sub hl [2, 3, 4, 5, 6, 7, 8, 9, 10, 11, 12, 13, 14, 1, 0] rfl)
theorem shl6 : ∀ j : Fin 6, ∃ v : Fin 33, nI 1 <<< (nI j.val &&& 31) = nI v.val ∧ (v.val = 1 ∨ v.val = 2 ∨ v.val = 4 ∨ v.val = 8 ∨ v.val = 16 ∨ v.val = 32) := by decide +kernel
set_option maxHeartbeats 4000000 in
set_option maxRecDepth 100000 in
theorem sg_w0 {p : Program} {l : Launch} {e : Env} {s : State} {m : MethodId} {args : Array Value} {below : List Frame} {meth : Method} {c : Code} {E : EV} {A : Nat → Prop} {Q : State → Prop} (F : CallFix p m c cL_law 19 s args LW RL) (hE : CE E A s s.heap) {b d u0 u1 u2 u3 u4 u5 u6 u7 i : Nat} {X Y : Int32} {α β : Nat} (hα : α < 100) (hβ : β < 100) {ca : Nat → Int32} {wr : va_W} (hc0 : ca 0 = nI 0) {kc nc : Nat} (hkn : kc ≤ room_1.cells ∧ nc ≤ room_1.slots) {ls : Array Slot} (hl : lv_has ls 19 [(0, .ref b), (1, .ref d), (2, .ref u1), (3, .ref u2), (4, .ref u3), (5, .ref u4), (6, .ref u5), (7, .ref u6), (8, .ref u7), (9, .ref u0), (10, .int (nI i)), (11, .int X), (12, .int Y), (14, .int (nI α)), (15, .int (nI β))]) (kk : ∀ (w v : Nat), (150 ≤ w ∧ w ≤ 200) → (1 ≤ v ∧ v ≤ 5) → ∀ ls : Array Slot, lv_has ls 19 [(0, .ref b), (1, .ref d), (2, .ref u1), (3, .ref u2), (4, .ref u3), (5, .ref u4), (6, .ref u5), (7, .ref u6), (8, .ref u7), (9, .ref u0), (10, .int (nI i)), (11, .int X), (12, .int Y)] → GV p l e room_1 s m args below meth c E A Q (rw_ E u0 4 (upd (upd ca 2 (nI w)) 3 (nI v)) :: wr) kc nc (F0 m 475 ls [])) : GV p l e room_1 s m args below meth c E A Q (rw_ E u0 4 ca :: wr) kc nc (F0 m 284 ls []) := by
  refine GW.aload F dL_law_284 (lv_at hl 9 rfl) ?_
  refine GW.iconst (v := nI 2) F dL_law_286 (by decide) ?_
  refine GW.aload F dL_law_287 (lv_at hl 9 rfl) ?_
  refine GW.iconst (v := nI 0) F dL_law_289 (by decide) ?_
  refine GW.iadn (i := 0) F hE 0 rfl (by omega) (by omega) dL_law_290 (fun z1 e1 => ?_)
  obtain rfl : nI 0 = z1 := (e1.trans hc0).symm
  refine GW.if_ne (tgt := 325) F dL_law_291 (by decide) (fun h => absurd h (by decide)) (fun _ => ?_)
  refine GW.iload F dL_law_294 (lv_at hl 13 rfl) ?_
  refine GW.bipush (v := nI 20) F dL_law_296 (by decide) ?_
  refine GW.icmp_ge (tgt := 313) F dL_law_298 (by decide) (fun c3 c3' => ?_) (fun c3 c3' => ?_)
  · skip
    refine GW.sipush (v := nI 166) F dL_law_313 (by decide) ?_
    refine GW.iload F dL_law_316 (lv_at hl 14 rfl) ?_
    refine GW.bipush (v := nI 9) F dL_law_318 (by decide) ?_
    refine GW.irem F dL_law_320 (by decide) (fun z4 e4 => ?_)
    obtain rfl : (nI (β % 9)) = z4 := (e4.trans (pk_rem (by omega) (by decide) (by decide))).symm
    refine GW.iadd F dL_law_321 (fun z5 e5 => ?_)
    obtain rfl : z5 = nI (166 + (β % 9)) := e5.trans (nI_add _ _)
    refine GW.goto (tgt := 414) F dL_law_322 (by decide) ?_
    refine GW.isn (i := 2) F hE 0 rfl (by omega) (by omega) dL_law_414 rfl ?_
    refine GW.aload F dL_law_415 (lv_at hl 9 rfl) ?_
    refine GW.iconst (v := nI 3) F dL_law_417 (by decide) ?_
    refine GW.aload F dL_law_418 (lv_at hl 9 rfl) ?_
    refine GW.iconst (v := nI 0) F dL_law_420 (by decide) ?_
    refine GW.iadn (i := 0) F hE 0 rfl (by omega) (by omega) dL_law_421 (fun z6 e6 => ?_)
    obtain rfl : nI 0 = z6 := (e6.trans ((upd_ne (by decide)).trans hc0)).symm
    refine GW.iconst (v := nI 4) F dL_law_422 (by decide) ?_
    refine GW.icmp_ne (tgt := 436) F dL_law_423 (by decide) (fun _ => ?_) (fun h => absurd h (by decide))
    refine GW.aload F dL_law_436 (lv_at hl 9 rfl) ?_
    refine GW.iconst (v := nI 0) F dL_law_438 (by decide) ?_
    refine GW.iadn (i := 0) F hE 0 rfl (by omega) (by omega) dL_law_439 (fun z8 e8 => ?_)
    obtain rfl : nI 0 = z8 := (e8.trans ((upd_ne (by decide)).trans hc0)).symm
    refine GW.iconst (v := nI 3) F dL_law_440 (by decide) ?_
    refine GW.icmp_ne (tgt := 454) F dL_law_441 (by decide) (fun _ => ?_) (fun h => absurd h (by decide))
    refine GW.iconst (v := nI 1) F dL_law_454 (by decide) ?_
    refine GW.iload F dL_law_455 (lv_at hl 14 rfl) ?_
    refine GW.bipush (v := nI 40) F dL_law_457 (by decide) ?_
    refine GW.icmp_ge (tgt := 469) F dL_law_459 (by decide) (fun c10 c10' => ?_) (fun c10 c10' => ?_)
    · skip
      refine GW.iload F dL_law_469 (lv_at hl 14 rfl) ?_
      refine GW.iconst (v := nI 2) F dL_law_471 (by decide) ?_
      refine GW.irem F dL_law_472 (by decide) (fun z11 e11 => ?_)
      obtain rfl : (nI (β % 2)) = z11 := (e11.trans (pk_rem (by omega) (by decide) (by decide))).symm
      refine GW.iadd F dL_law_473 (fun z12 e12 => ?_)
      obtain rfl : z12 = nI (1 + (β % 2)) := e12.trans (nI_add _ _)
      refine GW.isn (i := 3) F hE 0 rfl (by omega) (by omega) dL_law_474 rfl ?_
      exact kk (166 + (β % 9)) (1 + (β % 2)) (by omega) (by omega) ls (lv_sub hl [0, 1, 2, 3, 4, 5, 6, 7, 8, 9, 10, 11, 12] rfl)
    · skip
      refine GW.iload F dL_law_462 (lv_at hl 14 rfl) ?_
      refine GW.iconst (v := nI 5) F dL_law_464 (by decide) ?_
      refine GW.irem F dL_law_465 (by decide) (fun z13 e13 => ?_)
      obtain rfl : (nI (β % 5)) = z13 := (e13.trans (pk_rem (by omega) (by decide) (by decide))).symm
      refine GW.goto (tgt := 473) F dL_law_466 (by decide) ?_
      refine GW.iadd F dL_law_473 (fun z14 e14 => ?_)
      obtain rfl : z14 = nI (1 + (β % 5)) := e14.trans (nI_add _ _)
      refine GW.isn (i := 3) F hE 0 rfl (by omega) (by omega) dL_law_474 rfl ?_
      exact kk (166 + (β % 9)) (1 + (β % 5)) (by omega) (by omega) ls (lv_sub hl [0, 1, 2, 3, 4, 5, 6, 7, 8, 9, 10, 11, 12] rfl)
  · skip
    refine GW.sipush (v := nI 150) F dL_law_301 (by decide) ?_
    refine GW.iload F dL_law_304 (lv_at hl 14 rfl) ?_
    refine GW.bipush (v := nI 51) F dL_law_306 (by decide) ?_
    refine GW.irem F dL_law_308 (by decide) (fun z15 e15 => ?_)
    obtain rfl : (nI (β % 51)) = z15 := (e15.trans (pk_rem (by omega) (by decide) (by decide))).symm
    refine GW.iadd F dL_law_309 (fun z16 e16 => ?_)
    obtain rfl : z16 = nI (150 + (β % 51)) := e16.trans (nI_add _ _)
    refine GW.goto (tgt := 414) F dL_law_310 (by decide) ?_
    refine GW.isn (i := 2) F hE 0 rfl (by omega) (by omega) dL_law_414 rfl ?_
    refine GW.aload F dL_law_415 (lv_at hl 9 rfl) ?_
    refine GW.iconst (v := nI 3) F dL_law_417 (by decide) ?_
    refine GW.aload F dL_law_418 (lv_at hl 9 rfl) ?_
    refine GW.iconst (v := nI 0) F dL_law_420 (by decide) ?_
    refine GW.iadn (i := 0) F hE 0 rfl (by omega) (by omega) dL_law_421 (fun z17 e17 => ?_)
    obtain rfl : nI 0 = z17 := (e17.trans ((upd_ne (by decide)).trans hc0)).symm
    refine GW.iconst (v := nI 4) F dL_law_422 (by decide) ?_
    refine GW.icmp_ne (tgt := 436) F dL_law_423 (by decide) (fun _ => ?_) (fun h => absurd h (by decide))
    refine GW.aload F dL_law_436 (lv_at hl 9 rfl) ?_
    refine GW.iconst (v := nI 0) F dL_law_438 (by decide) ?_
    refine GW.iadn (i := 0) F hE 0 rfl (by omega) (by omega) dL_law_439 (fun z19 e19 => ?_)
    obtain rfl : nI 0 = z19 := (e19.trans ((upd_ne (by decide)).trans hc0)).symm
    refine GW.iconst (v := nI 3) F dL_law_440 (by decide) ?_
    refine GW.icmp_ne (tgt := 454) F dL_law_441 (by decide) (fun _ => ?_) (fun h => absurd h (by decide))
    refine GW.iconst (v := nI 1) F dL_law_454 (by decide) ?_
    refine GW.iload F dL_law_455 (lv_at hl 14 rfl) ?_
    refine GW.bipush (v := nI 40) F dL_law_457 (by decide) ?_
    refine GW.icmp_ge (tgt := 469) F dL_law_459 (by decide) (fun c21 c21' => ?_) (fun c21 c21' => ?_)
    · skip
      refine GW.iload F dL_law_469 (lv_at hl 14 rfl) ?_
      refine GW.iconst (v := nI 2) F dL_law_471 (by decide) ?_
      refine GW.irem F dL_law_472 (by decide) (fun z22 e22 => ?_)
      obtain rfl : (nI (β % 2)) = z22 := (e22.trans (pk_rem (by omega) (by decide) (by decide))).symm
      refine GW.iadd F dL_law_473 (fun z23 e23 => ?_)
      obtain rfl : z23 = nI (1 + (β % 2)) := e23.trans (nI_add _ _)
      refine GW.isn (i := 3) F hE 0 rfl (by omega) (by omega) dL_law_474 rfl ?_
      exact kk (150 + (β % 51)) (1 + (β % 2)) (by omega) (by omega) ls (lv_sub hl [0, 1, 2, 3, 4, 5, 6, 7, 8, 9, 10, 11, 12] rfl)
    · skip
      refine GW.iload F dL_law_462 (lv_at hl 14 rfl) ?_
      refine GW.iconst (v := nI 5) F dL_law_464 (by decide) ?_
      refine GW.irem F dL_law_465 (by decide) (fun z24 e24 => ?_)
      obtain rfl : (nI (β % 5)) = z24 := (e24.trans (pk_rem (by omega) (by decide) (by decide))).symm
      refine GW.goto (tgt := 473) F dL_law_466 (by decide) ?_
      refine GW.iadd F dL_law_473 (fun z25 e25 => ?_)
      obtain rfl : z25 = nI (1 + (β % 5)) := e25.trans (nI_add _ _)
      refine GW.isn (i := 3) F hE 0 rfl (by omega) (by omega) dL_law_474 rfl ?_
      exact kk (150 + (β % 51)) (1 + (β % 5)) (by omega) (by omega) ls (lv_sub hl [0, 1, 2, 3, 4, 5, 6, 7, 8, 9, 10, 11, 12] rfl)
set_option maxHeartbeats 4000000 in
set_option maxRecDepth 100000 in
theorem sg_w1 {p : Program} {l : Launch} {e : Env} {s : State} {m : MethodId} {args : Array Value} {below : List Frame} {meth : Method} {c : Code} {E : EV} {A : Nat → Prop} {Q : State → Prop} (F : CallFix p m c cL_law 19 s args LW RL) (hE : CE E A s s.heap) {b d u0 u1 u2 u3 u4 u5 u6 u7 i : Nat} {X Y : Int32} {α β : Nat} (hα : α < 100) (hβ : β < 100) {ca : Nat → Int32} {wr : va_W} (hc0 : ca 0 = nI 1) {kc nc : Nat} (hkn : kc ≤ room_1.cells ∧ nc ≤ room_1.slots) {ls : Array Slot} (hl : lv_has ls 19 [(0, .ref b), (1, .ref d), (2, .ref u1), (3, .ref u2), (4, .ref u3), (5, .ref u4), (6, .ref u5), (7, .ref u6), (8, .ref u7), (9, .ref u0), (10, .int (nI i)), (11, .int X), (12, .int Y), (14, .int (nI α)), (15, .int (nI β))]) (kk : ∀ (w v : Nat), (1 ≤ w ∧ w ≤ 99) → (1 ≤ v ∧ v ≤ 5) → ∀ ls : Array Slot, lv_has ls 19 [(0, .ref b), (1, .ref d), (2, .ref u1), (3, .ref u2), (4, .ref u3), (5, .ref u4), (6, .ref u5), (7, .ref u6), (8, .ref u7), (9, .ref u0), (10, .int (nI i)), (11, .int X), (12, .int Y)] → GV p l e room_1 s m args below meth c E A Q (rw_ E u0 4 (upd (upd ca 2 (nI w)) 3 (nI v)) :: wr) kc nc (F0 m 475 ls [])) : GV p l e room_1 s m args below meth c E A Q (rw_ E u0 4 ca :: wr) kc nc (F0 m 284 ls []) := by
  refine GW.aload F dL_law_284 (lv_at hl 9 rfl) ?_
  refine GW.iconst (v := nI 2) F dL_law_286 (by decide) ?_
  refine GW.aload F dL_law_287 (lv_at hl 9 rfl) ?_
  refine GW.iconst (v := nI 0) F dL_law_289 (by decide) ?_
  refine GW.iadn (i := 0) F hE 0 rfl (by omega) (by omega) dL_law_290 (fun z1 e1 => ?_)
  obtain rfl : nI 1 = z1 := (e1.trans hc0).symm
  refine GW.if_ne (tgt := 325) F dL_law_291 (by decide) (fun _ => ?_) (fun h => absurd h (by decide))
  refine GW.aload F dL_law_325 (lv_at hl 9 rfl) ?_
  refine GW.iconst (v := nI 0) F dL_law_327 (by decide) ?_
  refine GW.iadn (i := 0) F hE 0 rfl (by omega) (by omega) dL_law_328 (fun z3 e3 => ?_)
  obtain rfl : nI 1 = z3 := (e3.trans hc0).symm
  refine GW.iconst (v := nI 1) F dL_law_329 (by decide) ?_
  refine GW.icmp_ne (tgt := 357) F dL_law_330 (by decide) (fun h => absurd h (by decide)) (fun _ => ?_)
  refine GW.iconst (v := nI 1) F dL_law_333 (by decide) ?_
  refine GW.iload F dL_law_334 (lv_at hl 13 rfl) ?_
  refine GW.bipush (v := nI 10) F dL_law_336 (by decide) ?_
  refine GW.icmp_ge (tgt := 349) F dL_law_338 (by decide) (fun c5 c5' => ?_) (fun c5 c5' => ?_)
  · skip
    refine GW.iload F dL_law_349 (lv_at hl 14 rfl) ?_
    refine GW.iconst (v := nI 4) F dL_law_351 (by decide) ?_
    refine GW.irem F dL_law_352 (by decide) (fun z6 e6 => ?_)
    obtain rfl : (nI (β % 4)) = z6 := (e6.trans (pk_rem (by omega) (by decide) (by decide))).symm
    refine GW.iadd F dL_law_353 (fun z7 e7 => ?_)
    obtain rfl : z7 = nI (1 + (β % 4)) := e7.trans (nI_add _ _)
    refine GW.goto (tgt := 414) F dL_law_354 (by decide) ?_
    refine GW.isn (i := 2) F hE 0 rfl (by omega) (by omega) dL_law_414 rfl ?_
    refine GW.aload F dL_law_415 (lv_at hl 9 rfl) ?_
    refine GW.iconst (v := nI 3) F dL_law_417 (by decide) ?_
    refine GW.aload F dL_law_418 (lv_at hl 9 rfl) ?_
    refine GW.iconst (v := nI 0) F dL_law_420 (by decide) ?_
    refine GW.iadn (i := 0) F hE 0 rfl (by omega) (by omega) dL_law_421 (fun z8 e8 => ?_)
    obtain rfl : nI 1 = z8 := (e8.trans ((upd_ne (by decide)).trans hc0)).symm
    refine GW.iconst (v := nI 4) F dL_law_422 (by decide) ?_
    refine GW.icmp_ne (tgt := 436) F dL_law_423 (by decide) (fun _ => ?_) (fun h => absurd h (by decide))
    refine GW.aload F dL_law_436 (lv_at hl 9 rfl) ?_
    refine GW.iconst (v := nI 0) F dL_law_438 (by decide) ?_
    refine GW.iadn (i := 0) F hE 0 rfl (by omega) (by omega) dL_law_439 (fun z10 e10 => ?_)
    obtain rfl : nI 1 = z10 := (e10.trans ((upd_ne (by decide)).trans hc0)).symm
    refine GW.iconst (v := nI 3) F dL_law_440 (by decide) ?_
    refine GW.icmp_ne (tgt := 454) F dL_law_441 (by decide) (fun _ => ?_) (fun h => absurd h (by decide))
    refine GW.iconst (v := nI 1) F dL_law_454 (by decide) ?_
    refine GW.iload F dL_law_455 (lv_at hl 14 rfl) ?_
    refine GW.bipush (v := nI 40) F dL_law_457 (by decide) ?_
    refine GW.icmp_ge (tgt := 469) F dL_law_459 (by decide) (fun c12 c12' => ?_) (fun c12 c12' => ?_)
    · skip
      refine GW.iload F dL_law_469 (lv_at hl 14 rfl) ?_
      refine GW.iconst (v := nI 2) F dL_law_471 (by decide) ?_
      refine GW.irem F dL_law_472 (by decide) (fun z13 e13 => ?_)
      obtain rfl : (nI (β % 2)) = z13 := (e13.trans (pk_rem (by omega) (by decide) (by decide))).symm
      refine GW.iadd F dL_law_473 (fun z14 e14 => ?_)
      obtain rfl : z14 = nI (1 + (β % 2)) := e14.trans (nI_add _ _)
      refine GW.isn (i := 3) F hE 0 rfl (by omega) (by omega) dL_law_474 rfl ?_
      exact kk (1 + (β % 4)) (1 + (β % 2)) (by omega) (by omega) ls (lv_sub hl [0, 1, 2, 3, 4, 5, 6, 7, 8, 9, 10, 11, 12] rfl)
    · skip
      refine GW.iload F dL_law_462 (lv_at hl 14 rfl) ?_
      refine GW.iconst (v := nI 5) F dL_law_464 (by decide) ?_
      refine GW.irem F dL_law_465 (by decide) (fun z15 e15 => ?_)
      obtain rfl : (nI (β % 5)) = z15 := (e15.trans (pk_rem (by omega) (by decide) (by decide))).symm
      refine GW.goto (tgt := 473) F dL_law_466 (by decide) ?_
      refine GW.iadd F dL_law_473 (fun z16 e16 => ?_)
      obtain rfl : z16 = nI (1 + (β % 5)) := e16.trans (nI_add _ _)
      refine GW.isn (i := 3) F hE 0 rfl (by omega) (by omega) dL_law_474 rfl ?_
      exact kk (1 + (β % 4)) (1 + (β % 5)) (by omega) (by omega) ls (lv_sub hl [0, 1, 2, 3, 4, 5, 6, 7, 8, 9, 10, 11, 12] rfl)
  · skip
    refine GW.iload F dL_law_341 (lv_at hl 14 rfl) ?_
    refine GW.bipush (v := nI 99) F dL_law_343 (by decide) ?_
    refine GW.irem F dL_law_345 (by decide) (fun z17 e17 => ?_)
    obtain rfl : (nI (β % 99)) = z17 := (e17.trans (pk_rem (by omega) (by decide) (by decide))).symm
    refine GW.goto (tgt := 353) F dL_law_346 (by decide) ?_
    refine GW.iadd F dL_law_353 (fun z18 e18 => ?_)
    obtain rfl : z18 = nI (1 + (β % 99)) := e18.trans (nI_add _ _)
    refine GW.goto (tgt := 414) F dL_law_354 (by decide) ?_
    refine GW.isn (i := 2) F hE 0 rfl (by omega) (by omega) dL_law_414 rfl ?_
    refine GW.aload F dL_law_415 (lv_at hl 9 rfl) ?_
    refine GW.iconst (v := nI 3) F dL_law_417 (by decide) ?_
    refine GW.aload F dL_law_418 (lv_at hl 9 rfl) ?_
    refine GW.iconst (v := nI 0) F dL_law_420 (by decide) ?_
    refine GW.iadn (i := 0) F hE 0 rfl (by omega) (by omega) dL_law_421 (fun z19 e19 => ?_)
    obtain rfl : nI 1 = z19 := (e19.trans ((upd_ne (by decide)).trans hc0)).symm
    refine GW.iconst (v := nI 4) F dL_law_422 (by decide) ?_
    refine GW.icmp_ne (tgt := 436) F dL_law_423 (by decide) (fun _ => ?_) (fun h => absurd h (by decide))
    refine GW.aload F dL_law_436 (lv_at hl 9 rfl) ?_
    refine GW.iconst (v := nI 0) F dL_law_438 (by decide) ?_
    refine GW.iadn (i := 0) F hE 0 rfl (by omega) (by omega) dL_law_439 (fun z21 e21 => ?_)
    obtain rfl : nI 1 = z21 := (e21.trans ((upd_ne (by decide)).trans hc0)).symm
    refine GW.iconst (v := nI 3) F dL_law_440 (by decide) ?_
    refine GW.icmp_ne (tgt := 454) F dL_law_441 (by decide) (fun _ => ?_) (fun h => absurd h (by decide))
    refine GW.iconst (v := nI 1) F dL_law_454 (by decide) ?_
    refine GW.iload F dL_law_455 (lv_at hl 14 rfl) ?_
    refine GW.bipush (v := nI 40) F dL_law_457 (by decide) ?_
    refine GW.icmp_ge (tgt := 469) F dL_law_459 (by decide) (fun c23 c23' => ?_) (fun c23 c23' => ?_)
    · skip
      refine GW.iload F dL_law_469 (lv_at hl 14 rfl) ?_
      refine GW.iconst (v := nI 2) F dL_law_471 (by decide) ?_
      refine GW.irem F dL_law_472 (by decide) (fun z24 e24 => ?_)
      obtain rfl : (nI (β % 2)) = z24 := (e24.trans (pk_rem (by omega) (by decide) (by decide))).symm
      refine GW.iadd F dL_law_473 (fun z25 e25 => ?_)
      obtain rfl : z25 = nI (1 + (β % 2)) := e25.trans (nI_add _ _)
      refine GW.isn (i := 3) F hE 0 rfl (by omega) (by omega) dL_law_474 rfl ?_
      exact kk (1 + (β % 99)) (1 + (β % 2)) (by omega) (by omega) ls (lv_sub hl [0, 1, 2, 3, 4, 5, 6, 7, 8, 9, 10, 11, 12] rfl)
    · skip
      refine GW.iload F dL_law_462 (lv_at hl 14 rfl) ?_
      refine GW.iconst (v := nI 5) F dL_law_464 (by decide) ?_
      refine GW.irem F dL_law_465 (by decide) (fun z26 e26 => ?_)
      obtain rfl : (nI (β % 5)) = z26 := (e26.trans (pk_rem (by omega) (by decide) (by decide))).symm
      refine GW.goto (tgt := 473) F dL_law_466 (by decide) ?_
      refine GW.iadd F dL_law_473 (fun z27 e27 => ?_)
      obtain rfl : z27 = nI (1 + (β % 5)) := e27.trans (nI_add _ _)
      refine GW.isn (i := 3) F hE 0 rfl (by omega) (by omega) dL_law_474 rfl ?_
      exact kk (1 + (β % 99)) (1 + (β % 5)) (by omega) (by omega) ls (lv_sub hl [0, 1, 2, 3, 4, 5, 6, 7, 8, 9, 10, 11, 12] rfl)
set_option maxHeartbeats 4000000 in
set_option maxRecDepth 100000 in
theorem sg_w2 {p : Program} {l : Launch} {e : Env} {s : State} {m : MethodId} {args : Array Value} {below : List Frame} {meth : Method} {c : Code} {E : EV} {A : Nat → Prop} {Q : State → Prop} (F : CallFix p m c cL_law 19 s args LW RL) (hE : CE E A s s.heap) {b d u0 u1 u2 u3 u4 u5 u6 u7 i : Nat} {X Y : Int32} {α β : Nat} (hα : α < 100) (hβ : β < 100) {ca : Nat → Int32} {wr : va_W} (hc0 : ca 0 = nI 2) {kc nc : Nat} (hkn : kc ≤ room_1.cells ∧ nc ≤ room_1.slots) {ls : Array Slot} (hl : lv_has ls 19 [(0, .ref b), (1, .ref d), (2, .ref u1), (3, .ref u2), (4, .ref u3), (5, .ref u4), (6, .ref u5), (7, .ref u6), (8, .ref u7), (9, .ref u0), (10, .int (nI i)), (11, .int X), (12, .int Y), (14, .int (nI α)), (15, .int (nI β))]) (kk : ∀ (w v : Nat), (w < 6) → (1 ≤ v ∧ v ≤ 5) → ∀ ls : Array Slot, lv_has ls 19 [(0, .ref b), (1, .ref d), (2, .ref u1), (3, .ref u2), (4, .ref u3), (5, .ref u4), (6, .ref u5), (7, .ref u6), (8, .ref u7), (9, .ref u0), (10, .int (nI i)), (11, .int X), (12, .int Y)] → GV p l e room_1 s m args below meth c E A Q (rw_ E u0 4 (upd (upd ca 2 (nI w)) 3 (nI v)) :: wr) kc nc (F0 m 475 ls [])) : GV p l e room_1 s m args below meth c E A Q (rw_ E u0 4 ca :: wr) kc nc (F0 m 284 ls []) := by
  refine GW.aload F dL_law_284 (lv_at hl 9 rfl) ?_
  refine GW.iconst (v := nI 2) F dL_law_286 (by decide) ?_
  refine GW.aload F dL_law_287 (lv_at hl 9 rfl) ?_
  refine GW.iconst (v := nI 0) F dL_law_289 (by decide) ?_
  refine GW.iadn (i := 0) F hE 0 rfl (by omega) (by omega) dL_law_290 (fun z1 e1 => ?_)
  obtain rfl : nI 2 = z1 := (e1.trans hc0).symm
  refine GW.if_ne (tgt := 325) F dL_law_291 (by decide) (fun _ => ?_) (fun h => absurd h (by decide))
  refine GW.aload F dL_law_325 (lv_at hl 9 rfl) ?_
  refine GW.iconst (v := nI 0) F dL_law_327 (by decide) ?_
  refine GW.iadn (i := 0) F hE 0 rfl (by omega) (by omega) dL_law_328 (fun z3 e3 => ?_)
  obtain rfl : nI 2 = z3 := (e3.trans hc0).symm
  refine GW.iconst (v := nI 1) F dL_law_329 (by decide) ?_
  refine GW.icmp_ne (tgt := 357) F dL_law_330 (by decide) (fun _ => ?_) (fun h => absurd h (by decide))
  refine GW.aload F dL_law_357 (lv_at hl 9 rfl) ?_
  refine GW.iconst (v := nI 0) F dL_law_359 (by decide) ?_
  refine GW.iadn (i := 0) F hE 0 rfl (by omega) (by omega) dL_law_360 (fun z5 e5 => ?_)
  obtain rfl : nI 2 = z5 := (e5.trans hc0).symm
  refine GW.iconst (v := nI 3) F dL_law_361 (by decide) ?_
  refine GW.icmp_ne (tgt := 375) F dL_law_362 (by decide) (fun _ => ?_) (fun h => absurd h (by decide))
  refine GW.aload F dL_law_375 (lv_at hl 9 rfl) ?_
  refine GW.iconst (v := nI 0) F dL_law_377 (by decide) ?_
  refine GW.iadn (i := 0) F hE 0 rfl (by omega) (by omega) dL_law_378 (fun z7 e7 => ?_)
  obtain rfl : nI 2 = z7 := (e7.trans hc0).symm
  refine GW.iconst (v := nI 4) F dL_law_379 (by decide) ?_
  refine GW.icmp_ne (tgt := 392) F dL_law_380 (by decide) (fun _ => ?_) (fun h => absurd h (by decide))
  refine GW.aload F dL_law_392 (lv_at hl 9 rfl) ?_
  refine GW.iconst (v := nI 0) F dL_law_394 (by decide) ?_
  refine GW.iadn (i := 0) F hE 0 rfl (by omega) (by omega) dL_law_395 (fun z9 e9 => ?_)
  obtain rfl : nI 2 = z9 := (e9.trans hc0).symm
  refine GW.bipush (v := nI 6) F dL_law_396 (by decide) ?_
  refine GW.icmp_ne (tgt := 409) F dL_law_398 (by decide) (fun _ => ?_) (fun h => absurd h (by decide))
  refine GW.iload F dL_law_409 (lv_at hl 13 rfl) ?_
  refine GW.bipush (v := nI 6) F dL_law_411 (by decide) ?_
  refine GW.irem F dL_law_413 (by decide) (fun z11 e11 => ?_)
  obtain rfl : (nI (α % 6)) = z11 := (e11.trans (pk_rem (by omega) (by decide) (by decide))).symm
  refine GW.isn (i := 2) F hE 0 rfl (by omega) (by omega) dL_law_414 rfl ?_
  refine GW.aload F dL_law_415 (lv_at hl 9 rfl) ?_
  refine GW.iconst (v := nI 3) F dL_law_417 (by decide) ?_
  refine GW.aload F dL_law_418 (lv_at hl 9 rfl) ?_
  refine GW.iconst (v := nI 0) F dL_law_420 (by decide) ?_
  refine GW.iadn (i := 0) F hE 0 rfl (by omega) (by omega) dL_law_421 (fun z12 e12 => ?_)
  obtain rfl : nI 2 = z12 := (e12.trans ((upd_ne (by decide)).trans hc0)).symm
  refine GW.iconst (v := nI 4) F dL_law_422 (by decide) ?_
  refine GW.icmp_ne (tgt := 436) F dL_law_423 (by decide) (fun _ => ?_) (fun h => absurd h (by decide))
  refine GW.aload F dL_law_436 (lv_at hl 9 rfl) ?_
  refine GW.iconst (v := nI 0) F dL_law_438 (by decide) ?_
  refine GW.iadn (i := 0) F hE 0 rfl (by omega) (by omega) dL_law_439 (fun z14 e14 => ?_)
  obtain rfl : nI 2 = z14 := (e14.trans ((upd_ne (by decide)).trans hc0)).symm
  refine GW.iconst (v := nI 3) F dL_law_440 (by decide) ?_
  refine GW.icmp_ne (tgt := 454) F dL_law_441 (by decide) (fun _ => ?_) (fun h => absurd h (by decide))
  refine GW.iconst (v := nI 1) F dL_law_454 (by decide) ?_
  refine GW.iload F dL_law_455 (lv_at hl 14 rfl) ?_
  refine GW.bipush (v := nI 40) F dL_law_457 (by decide) ?_
  refine GW.icmp_ge (tgt := 469) F dL_law_459 (by decide) (fun c16 c16' => ?_) (fun c16 c16' => ?_)
  · skip
    refine GW.iload F dL_law_469 (lv_at hl 14 rfl) ?_
    refine GW.iconst (v := nI 2) F dL_law_471 (by decide) ?_
    refine GW.irem F dL_law_472 (by decide) (fun z17 e17 => ?_)
    obtain rfl : (nI (β % 2)) = z17 := (e17.trans (pk_rem (by omega) (by decide) (by decide))).symm
    refine GW.iadd F dL_law_473 (fun z18 e18 => ?_)
    obtain rfl : z18 = nI (1 + (β % 2)) := e18.trans (nI_add _ _)
    refine GW.isn (i := 3) F hE 0 rfl (by omega) (by omega) dL_law_474 rfl ?_
    exact kk (α % 6) (1 + (β % 2)) (by omega) (by omega) ls (lv_sub hl [0, 1, 2, 3, 4, 5, 6, 7, 8, 9, 10, 11, 12] rfl)
  · skip
    refine GW.iload F dL_law_462 (lv_at hl 14 rfl) ?_
    refine GW.iconst (v := nI 5) F dL_law_464 (by decide) ?_
    refine GW.irem F dL_law_465 (by decide) (fun z19 e19 => ?_)
    obtain rfl : (nI (β % 5)) = z19 := (e19.trans (pk_rem (by omega) (by decide) (by decide))).symm
    refine GW.goto (tgt := 473) F dL_law_466 (by decide) ?_
    refine GW.iadd F dL_law_473 (fun z20 e20 => ?_)
    obtain rfl : z20 = nI (1 + (β % 5)) := e20.trans (nI_add _ _)
    refine GW.isn (i := 3) F hE 0 rfl (by omega) (by omega) dL_law_474 rfl ?_
    exact kk (α % 6) (1 + (β % 5)) (by omega) (by omega) ls (lv_sub hl [0, 1, 2, 3, 4, 5, 6, 7, 8, 9, 10, 11, 12] rfl)
set_option maxHeartbeats 4000000 in
set_option maxRecDepth 100000 in
theorem sg_w3 {p : Program} {l : Launch} {e : Env} {s : State} {m : MethodId} {args : Array Value} {below : List Frame} {meth : Method} {c : Code} {E : EV} {A : Nat → Prop} {Q : State → Prop} (F : CallFix p m c cL_law 19 s args LW RL) (hE : CE E A s s.heap) {b d u0 u1 u2 u3 u4 u5 u6 u7 i : Nat} {X Y : Int32} {α β : Nat} (hα : α < 100) (hβ : β < 100) {ca : Nat → Int32} {wr : va_W} (hc0 : ca 0 = nI 3) {kc nc : Nat} (hkn : kc ≤ room_1.cells ∧ nc ≤ room_1.slots) {ls : Array Slot} (hl : lv_has ls 19 [(0, .ref b), (1, .ref d), (2, .ref u1), (3, .ref u2), (4, .ref u3), (5, .ref u4), (6, .ref u5), (7, .ref u6), (8, .ref u7), (9, .ref u0), (10, .int (nI i)), (11, .int X), (12, .int Y), (14, .int (nI α)), (15, .int (nI β))]) (kk : ∀ (w v : Nat), (w = 1 ∨ w = 2 ∨ w = 4 ∨ w = 8 ∨ w = 16 ∨ w = 32) → (1 ≤ v ∧ v ≤ 60) → ∀ ls : Array Slot, lv_has ls 19 [(0, .ref b), (1, .ref d), (2, .ref u1), (3, .ref u2), (4, .ref u3), (5, .ref u4), (6, .ref u5), (7, .ref u6), (8, .ref u7), (9, .ref u0), (10, .int (nI i)), (11, .int X), (12, .int Y)] → GV p l e room_1 s m args below meth c E A Q (rw_ E u0 4 (upd (upd ca 2 (nI w)) 3 (nI v)) :: wr) kc nc (F0 m 475 ls [])) : GV p l e room_1 s m args below meth c E A Q (rw_ E u0 4 ca :: wr) kc nc (F0 m 284 ls []) := by
  obtain ⟨⟨w9, hw33⟩, ew, hw9⟩ := shl6 ⟨α % 6, Nat.mod_lt _ (by decide)⟩
  have ew : nI 1 <<< (nI (α % 6) &&& 31) = nI w9 := ew
  have hw9 : w9 = 1 ∨ w9 = 2 ∨ w9 = 4 ∨ w9 = 8 ∨ w9 = 16 ∨ w9 = 32 := hw9
  refine GW.aload F dL_law_284 (lv_at hl 9 rfl) ?_
  refine GW.iconst (v := nI 2) F dL_law_286 (by decide) ?_
  refine GW.aload F dL_law_287 (lv_at hl 9 rfl) ?_
  refine GW.iconst (v := nI 0) F dL_law_289 (by decide) ?_
  refine GW.iadn (i := 0) F hE 0 rfl (by omega) (by omega) dL_law_290 (fun z1 e1 => ?_)
  obtain rfl : nI 3 = z1 := (e1.trans hc0).symm
  refine GW.if_ne (tgt := 325) F dL_law_291 (by decide) (fun _ => ?_) (fun h => absurd h (by decide))
  refine GW.aload F dL_law_325 (lv_at hl 9 rfl) ?_
  refine GW.iconst (v := nI 0) F dL_law_327 (by decide) ?_
  refine GW.iadn (i := 0) F hE 0 rfl (by omega) (by omega) dL_law_328 (fun z3 e3 => ?_)
  obtain rfl : nI 3 = z3 := (e3.trans hc0).symm
  refine GW.iconst (v := nI 1) F dL_law_329 (by decide) ?_
  refine GW.icmp_ne (tgt := 357) F dL_law_330 (by decide) (fun _ => ?_) (fun h => absurd h (by decide))
  refine GW.aload F dL_law_357 (lv_at hl 9 rfl) ?_
  refine GW.iconst (v := nI 0) F dL_law_359 (by decide) ?_
  refine GW.iadn (i := 0) F hE 0 rfl (by omega) (by omega) dL_law_360 (fun z5 e5 => ?_)
  obtain rfl : nI 3 = z5 := (e5.trans hc0).symm
  refine GW.iconst (v := nI 3) F dL_law_361 (by decide) ?_
  refine GW.icmp_ne (tgt := 375) F dL_law_362 (by decide) (fun h => absurd h (by decide)) (fun _ => ?_)
  refine GW.iconst (v := nI 1) F dL_law_365 (by decide) ?_
  refine GW.iload F dL_law_366 (lv_at hl 13 rfl) ?_
  refine GW.bipush (v := nI 6) F dL_law_368 (by decide) ?_
  refine GW.irem F dL_law_370 (by decide) (fun z7 e7 => ?_)
  obtain rfl : (nI (α % 6)) = z7 := (e7.trans (pk_rem (by omega) (by decide) (by decide))).symm
  refine GW.ishl F dL_law_371 (fun z8 e8 => ?_)
  obtain rfl : (nI w9) = z8 := (e8.trans ew).symm
  refine GW.goto (tgt := 414) F dL_law_372 (by decide) ?_
  refine GW.isn (i := 2) F hE 0 rfl (by omega) (by omega) dL_law_414 rfl ?_
  refine GW.aload F dL_law_415 (lv_at hl 9 rfl) ?_
  refine GW.iconst (v := nI 3) F dL_law_417 (by decide) ?_
  refine GW.aload F dL_law_418 (lv_at hl 9 rfl) ?_
  refine GW.iconst (v := nI 0) F dL_law_420 (by decide) ?_
  refine GW.iadn (i := 0) F hE 0 rfl (by omega) (by omega) dL_law_421 (fun z9 e9 => ?_)
  obtain rfl : nI 3 = z9 := (e9.trans ((upd_ne (by decide)).trans hc0)).symm
  refine GW.iconst (v := nI 4) F dL_law_422 (by decide) ?_
  refine GW.icmp_ne (tgt := 436) F dL_law_423 (by decide) (fun _ => ?_) (fun h => absurd h (by decide))
  refine GW.aload F dL_law_436 (lv_at hl 9 rfl) ?_
  refine GW.iconst (v := nI 0) F dL_law_438 (by decide) ?_
  refine GW.iadn (i := 0) F hE 0 rfl (by omega) (by omega) dL_law_439 (fun z11 e11 => ?_)
  obtain rfl : nI 3 = z11 := (e11.trans ((upd_ne (by decide)).trans hc0)).symm
  refine GW.iconst (v := nI 3) F dL_law_440 (by decide) ?_
  refine GW.icmp_ne (tgt := 454) F dL_law_441 (by decide) (fun h => absurd h (by decide)) (fun _ => ?_)
  refine GW.iconst (v := nI 1) F dL_law_444 (by decide) ?_
  refine GW.iload F dL_law_445 (lv_at hl 14 rfl) ?_
  refine GW.bipush (v := nI 60) F dL_law_447 (by decide) ?_
  refine GW.irem F dL_law_449 (by decide) (fun z13 e13 => ?_)
  obtain rfl : (nI (β % 60)) = z13 := (e13.trans (pk_rem (by omega) (by decide) (by decide))).symm
  refine GW.iadd F dL_law_450 (fun z14 e14 => ?_)
  obtain rfl : z14 = nI (1 + (β % 60)) := e14.trans (nI_add _ _)
  refine GW.goto (tgt := 474) F dL_law_451 (by decide) ?_
  refine GW.isn (i := 3) F hE 0 rfl (by omega) (by omega) dL_law_474 rfl ?_
  exact kk w9 (1 + (β % 60)) hw9 (by omega) ls (lv_sub hl [0, 1, 2, 3, 4, 5, 6, 7, 8, 9, 10, 11, 12] rfl)
set_option maxHeartbeats 4000000 in
set_option maxRecDepth 100000 in
theorem sg_w4 {p : Program} {l : Launch} {e : Env} {s : State} {m : MethodId} {args : Array Value} {below : List Frame} {meth : Method} {c : Code} {E : EV} {A : Nat → Prop} {Q : State → Prop} (F : CallFix p m c cL_law 19 s args LW RL) (hE : CE E A s s.heap) {b d u0 u1 u2 u3 u4 u5 u6 u7 i : Nat} {X Y : Int32} {α β : Nat} (hα : α < 100) (hβ : β < 100) {ca : Nat → Int32} {wr : va_W} (hc0 : ca 0 = nI 4) {kc nc : Nat} (hkn : kc ≤ room_1.cells ∧ nc ≤ room_1.slots) {ls : Array Slot} (hl : lv_has ls 19 [(0, .ref b), (1, .ref d), (2, .ref u1), (3, .ref u2), (4, .ref u3), (5, .ref u4), (6, .ref u5), (7, .ref u6), (8, .ref u7), (9, .ref u0), (10, .int (nI i)), (11, .int X), (12, .int Y), (14, .int (nI α)), (15, .int (nI β))]) (kk : ∀ (w v : Nat), (1 ≤ w ∧ w ≤ 5) → (1 ≤ v ∧ v ≤ 30) → ∀ ls : Array Slot, lv_has ls 19 [(0, .ref b), (1, .ref d), (2, .ref u1), (3, .ref u2), (4, .ref u3), (5, .ref u4), (6, .ref u5), (7, .ref u6), (8, .ref u7), (9, .ref u0), (10, .int (nI i)), (11, .int X), (12, .int Y)] → GV p l e room_1 s m args below meth c E A Q (rw_ E u0 4 (upd (upd ca 2 (nI w)) 3 (nI v)) :: wr) kc nc (F0 m 475 ls [])) : GV p l e room_1 s m args below meth c E A Q (rw_ E u0 4 ca :: wr) kc nc (F0 m 284 ls []) := by
  refine GW.aload F dL_law_284 (lv_at hl 9 rfl) ?_
  refine GW.iconst (v := nI 2) F dL_law_286 (by decide) ?_
  refine GW.aload F dL_law_287 (lv_at hl 9 rfl) ?_
  refine GW.iconst (v := nI 0) F dL_law_289 (by decide) ?_
  refine GW.iadn (i := 0) F hE 0 rfl (by omega) (by omega) dL_law_290 (fun z1 e1 => ?_)
  obtain rfl : nI 4 = z1 := (e1.trans hc0).symm
  refine GW.if_ne (tgt := 325) F dL_law_291 (by decide) (fun _ => ?_) (fun h => absurd h (by decide))
  refine GW.aload F dL_law_325 (lv_at hl 9 rfl) ?_
  refine GW.iconst (v := nI 0) F dL_law_327 (by decide) ?_
  refine GW.iadn (i := 0) F hE 0 rfl (by omega) (by omega) dL_law_328 (fun z3 e3 => ?_)
  obtain rfl : nI 4 = z3 := (e3.trans hc0).symm
  refine GW.iconst (v := nI 1) F dL_law_329 (by decide) ?_
  refine GW.icmp_ne (tgt := 357) F dL_law_330 (by decide) (fun _ => ?_) (fun h => absurd h (by decide))
  refine GW.aload F dL_law_357 (lv_at hl 9 rfl) ?_
  refine GW.iconst (v := nI 0) F dL_law_359 (by decide) ?_
  refine GW.iadn (i := 0) F hE 0 rfl (by omega) (by omega) dL_law_360 (fun z5 e5 => ?_)
  obtain rfl : nI 4 = z5 := (e5.trans hc0).symm
  refine GW.iconst (v := nI 3) F dL_law_361 (by decide) ?_
  refine GW.icmp_ne (tgt := 375) F dL_law_362 (by decide) (fun _ => ?_) (fun h => absurd h (by decide))
  refine GW.aload F dL_law_375 (lv_at hl 9 rfl) ?_
  refine GW.iconst (v := nI 0) F dL_law_377 (by decide) ?_
  refine GW.iadn (i := 0) F hE 0 rfl (by omega) (by omega) dL_law_378 (fun z7 e7 => ?_)
  obtain rfl : nI 4 = z7 := (e7.trans hc0).symm
  refine GW.iconst (v := nI 4) F dL_law_379 (by decide) ?_
  refine GW.icmp_ne (tgt := 392) F dL_law_380 (by decide) (fun h => absurd h (by decide)) (fun _ => ?_)
  refine GW.iconst (v := nI 1) F dL_law_383 (by decide) ?_
  refine GW.iload F dL_law_384 (lv_at hl 13 rfl) ?_
  refine GW.iconst (v := nI 5) F dL_law_386 (by decide) ?_
  refine GW.irem F dL_law_387 (by decide) (fun z9 e9 => ?_)
  obtain rfl : (nI (α % 5)) = z9 := (e9.trans (pk_rem (by omega) (by decide) (by decide))).symm
  refine GW.iadd F dL_law_388 (fun z10 e10 => ?_)
  obtain rfl : z10 = nI (1 + (α % 5)) := e10.trans (nI_add _ _)
  refine GW.goto (tgt := 414) F dL_law_389 (by decide) ?_
  refine GW.isn (i := 2) F hE 0 rfl (by omega) (by omega) dL_law_414 rfl ?_
  refine GW.aload F dL_law_415 (lv_at hl 9 rfl) ?_
  refine GW.iconst (v := nI 3) F dL_law_417 (by decide) ?_
  refine GW.aload F dL_law_418 (lv_at hl 9 rfl) ?_
  refine GW.iconst (v := nI 0) F dL_law_420 (by decide) ?_
  refine GW.iadn (i := 0) F hE 0 rfl (by omega) (by omega) dL_law_421 (fun z11 e11 => ?_)
  obtain rfl : nI 4 = z11 := (e11.trans ((upd_ne (by decide)).trans hc0)).symm
  refine GW.iconst (v := nI 4) F dL_law_422 (by decide) ?_
  refine GW.icmp_ne (tgt := 436) F dL_law_423 (by decide) (fun h => absurd h (by decide)) (fun _ => ?_)
  refine GW.iconst (v := nI 1) F dL_law_426 (by decide) ?_
  refine GW.iload F dL_law_427 (lv_at hl 14 rfl) ?_
  refine GW.bipush (v := nI 30) F dL_law_429 (by decide) ?_
  refine GW.irem F dL_law_431 (by decide) (fun z13 e13 => ?_)
  obtain rfl : (nI (β % 30)) = z13 := (e13.trans (pk_rem (by omega) (by decide) (by decide))).symm
  refine GW.iadd F dL_law_432 (fun z14 e14 => ?_)
  obtain rfl : z14 = nI (1 + (β % 30)) := e14.trans (nI_add _ _)
  refine GW.goto (tgt := 474) F dL_law_433 (by decide) ?_
  refine GW.isn (i := 3) F hE 0 rfl (by omega) (by omega) dL_law_474 rfl ?_
  exact kk (1 + (α % 5)) (1 + (β % 30)) (by omega) (by omega) ls (lv_sub hl [0, 1, 2, 3, 4, 5, 6, 7, 8, 9, 10, 11, 12] rfl)
set_option maxHeartbeats 4000000 in
set_option maxRecDepth 100000 in
theorem sg_w5 {p : Program} {l : Launch} {e : Env} {s : State} {m : MethodId} {args : Array Value} {below : List Frame} {meth : Method} {c : Code} {E : EV} {A : Nat → Prop} {Q : State → Prop} (F : CallFix p m c cL_law 19 s args LW RL) (hE : CE E A s s.heap) {b d u0 u1 u2 u3 u4 u5 u6 u7 i : Nat} {X Y : Int32} {α β : Nat} (hα : α < 100) (hβ : β < 100) {ca : Nat → Int32} {wr : va_W} (hc0 : ca 0 = nI 5) {kc nc : Nat} (hkn : kc ≤ room_1.cells ∧ nc ≤ room_1.slots) {ls : Array Slot} (hl : lv_has ls 19 [(0, .ref b), (1, .ref d), (2, .ref u1), (3, .ref u2), (4, .ref u3), (5, .ref u4), (6, .ref u5), (7, .ref u6), (8, .ref u7), (9, .ref u0), (10, .int (nI i)), (11, .int X), (12, .int Y), (14, .int (nI α)), (15, .int (nI β))]) (kk : ∀ (w v : Nat), (w < 6) → (1 ≤ v ∧ v ≤ 5) → ∀ ls : Array Slot, lv_has ls 19 [(0, .ref b), (1, .ref d), (2, .ref u1), (3, .ref u2), (4, .ref u3), (5, .ref u4), (6, .ref u5), (7, .ref u6), (8, .ref u7), (9, .ref u0), (10, .int (nI i)), (11, .int X), (12, .int Y)] → GV p l e room_1 s m args below meth c E A Q (rw_ E u0 4 (upd (upd ca 2 (nI w)) 3 (nI v)) :: wr) kc nc (F0 m 475 ls [])) : GV p l e room_1 s m args below meth c E A Q (rw_ E u0 4 ca :: wr) kc nc (F0 m 284 ls []) := by
  refine GW.aload F dL_law_284 (lv_at hl 9 rfl) ?_
  refine GW.iconst (v := nI 2) F dL_law_286 (by decide) ?_
  refine GW.aload F dL_law_287 (lv_at hl 9 rfl) ?_
  refine GW.iconst (v := nI 0) F dL_law_289 (by decide) ?_
  refine GW.iadn (i := 0) F hE 0 rfl (by omega) (by omega) dL_law_290 (fun z1 e1 => ?_)
  obtain rfl : nI 5 = z1 := (e1.trans hc0).symm
  refine GW.if_ne (tgt := 325) F dL_law_291 (by decide) (fun _ => ?_) (fun h => absurd h (by decide))
  refine GW.aload F dL_law_325 (lv_at hl 9 rfl) ?_
  refine GW.iconst (v := nI 0) F dL_law_327 (by decide) ?_
  refine GW.iadn (i := 0) F hE 0 rfl (by omega) (by omega) dL_law_328 (fun z3 e3 => ?_)
  obtain rfl : nI 5 = z3 := (e3.trans hc0).symm
  refine GW.iconst (v := nI 1) F dL_law_329 (by decide) ?_
  refine GW.icmp_ne (tgt := 357) F dL_law_330 (by decide) (fun _ => ?_) (fun h => absurd h (by decide))
  refine GW.aload F dL_law_357 (lv_at hl 9 rfl) ?_
  refine GW.iconst (v := nI 0) F dL_law_359 (by decide) ?_
  refine GW.iadn (i := 0) F hE 0 rfl (by omega) (by omega) dL_law_360 (fun z5 e5 => ?_)
  obtain rfl : nI 5 = z5 := (e5.trans hc0).symm
  refine GW.iconst (v := nI 3) F dL_law_361 (by decide) ?_
  refine GW.icmp_ne (tgt := 375) F dL_law_362 (by decide) (fun _ => ?_) (fun h => absurd h (by decide))
  refine GW.aload F dL_law_375 (lv_at hl 9 rfl) ?_
  refine GW.iconst (v := nI 0) F dL_law_377 (by decide) ?_
  refine GW.iadn (i := 0) F hE 0 rfl (by omega) (by omega) dL_law_378 (fun z7 e7 => ?_)
  obtain rfl : nI 5 = z7 := (e7.trans hc0).symm
  refine GW.iconst (v := nI 4) F dL_law_379 (by decide) ?_
  refine GW.icmp_ne (tgt := 392) F dL_law_380 (by decide) (fun _ => ?_) (fun h => absurd h (by decide))
  refine GW.aload F dL_law_392 (lv_at hl 9 rfl) ?_
  refine GW.iconst (v := nI 0) F dL_law_394 (by decide) ?_
  refine GW.iadn (i := 0) F hE 0 rfl (by omega) (by omega) dL_law_395 (fun z9 e9 => ?_)
  obtain rfl : nI 5 = z9 := (e9.trans hc0).symm
  refine GW.bipush (v := nI 6) F dL_law_396 (by decide) ?_
  refine GW.icmp_ne (tgt := 409) F dL_law_398 (by decide) (fun _ => ?_) (fun h => absurd h (by decide))
  refine GW.iload F dL_law_409 (lv_at hl 13 rfl) ?_
  refine GW.bipush (v := nI 6) F dL_law_411 (by decide) ?_
  refine GW.irem F dL_law_413 (by decide) (fun z11 e11 => ?_)
  obtain rfl : (nI (α % 6)) = z11 := (e11.trans (pk_rem (by omega) (by decide) (by decide))).symm
  refine GW.isn (i := 2) F hE 0 rfl (by omega) (by omega) dL_law_414 rfl ?_
  refine GW.aload F dL_law_415 (lv_at hl 9 rfl) ?_
  refine GW.iconst (v := nI 3) F dL_law_417 (by decide) ?_
  refine GW.aload F dL_law_418 (lv_at hl 9 rfl) ?_
  refine GW.iconst (v := nI 0) F dL_law_420 (by decide) ?_
  refine GW.iadn (i := 0) F hE 0 rfl (by omega) (by omega) dL_law_421 (fun z12 e12 => ?_)
  obtain rfl : nI 5 = z12 := (e12.trans ((upd_ne (by decide)).trans hc0)).symm
  refine GW.iconst (v := nI 4) F dL_law_422 (by decide) ?_
  refine GW.icmp_ne (tgt := 436) F dL_law_423 (by decide) (fun _ => ?_) (fun h => absurd h (by decide))
  refine GW.aload F dL_law_436 (lv_at hl 9 rfl) ?_
  refine GW.iconst (v := nI 0) F dL_law_438 (by decide) ?_
  refine GW.iadn (i := 0) F hE 0 rfl (by omega) (by omega) dL_law_439 (fun z14 e14 => ?_)
  obtain rfl : nI 5 = z14 := (e14.trans ((upd_ne (by decide)).trans hc0)).symm
  refine GW.iconst (v := nI 3) F dL_law_440 (by decide) ?_
  refine GW.icmp_ne (tgt := 454) F dL_law_441 (by decide) (fun _ => ?_) (fun h => absurd h (by decide))
  refine GW.iconst (v := nI 1) F dL_law_454 (by decide) ?_
  refine GW.iload F dL_law_455 (lv_at hl 14 rfl) ?_
  refine GW.bipush (v := nI 40) F dL_law_457 (by decide) ?_
  refine GW.icmp_ge (tgt := 469) F dL_law_459 (by decide) (fun c16 c16' => ?_) (fun c16 c16' => ?_)
  · skip
    refine GW.iload F dL_law_469 (lv_at hl 14 rfl) ?_
    refine GW.iconst (v := nI 2) F dL_law_471 (by decide) ?_
    refine GW.irem F dL_law_472 (by decide) (fun z17 e17 => ?_)
    obtain rfl : (nI (β % 2)) = z17 := (e17.trans (pk_rem (by omega) (by decide) (by decide))).symm
    refine GW.iadd F dL_law_473 (fun z18 e18 => ?_)
    obtain rfl : z18 = nI (1 + (β % 2)) := e18.trans (nI_add _ _)
    refine GW.isn (i := 3) F hE 0 rfl (by omega) (by omega) dL_law_474 rfl ?_
    exact kk (α % 6) (1 + (β % 2)) (by omega) (by omega) ls (lv_sub hl [0, 1, 2, 3, 4, 5, 6, 7, 8, 9, 10, 11, 12] rfl)
  · skip
    refine GW.iload F dL_law_462 (lv_at hl 14 rfl) ?_
    refine GW.iconst (v := nI 5) F dL_law_464 (by decide) ?_
    refine GW.irem F dL_law_465 (by decide) (fun z19 e19 => ?_)
    obtain rfl : (nI (β % 5)) = z19 := (e19.trans (pk_rem (by omega) (by decide) (by decide))).symm
    refine GW.goto (tgt := 473) F dL_law_466 (by decide) ?_
    refine GW.iadd F dL_law_473 (fun z20 e20 => ?_)
    obtain rfl : z20 = nI (1 + (β % 5)) := e20.trans (nI_add _ _)
    refine GW.isn (i := 3) F hE 0 rfl (by omega) (by omega) dL_law_474 rfl ?_
    exact kk (α % 6) (1 + (β % 5)) (by omega) (by omega) ls (lv_sub hl [0, 1, 2, 3, 4, 5, 6, 7, 8, 9, 10, 11, 12] rfl)
set_option maxHeartbeats 4000000 in
set_option maxRecDepth 100000 in
theorem sg_w6 {p : Program} {l : Launch} {e : Env} {s : State} {m : MethodId} {args : Array Value} {below : List Frame} {meth : Method} {c : Code} {E : EV} {A : Nat → Prop} {Q : State → Prop} (F : CallFix p m c cL_law 19 s args LW RL) (hE : CE E A s s.heap) {b d u0 u1 u2 u3 u4 u5 u6 u7 i : Nat} {X Y : Int32} {α β : Nat} (hα : α < 100) (hβ : β < 100) {ca : Nat → Int32} {wr : va_W} (hc0 : ca 0 = nI 6) {kc nc : Nat} (hkn : kc ≤ room_1.cells ∧ nc ≤ room_1.slots) {ls : Array Slot} (hl : lv_has ls 19 [(0, .ref b), (1, .ref d), (2, .ref u1), (3, .ref u2), (4, .ref u3), (5, .ref u4), (6, .ref u5), (7, .ref u6), (8, .ref u7), (9, .ref u0), (10, .int (nI i)), (11, .int X), (12, .int Y), (14, .int (nI α)), (15, .int (nI β))]) (kk : ∀ (w v : Nat), (w < 11) → (1 ≤ v ∧ v ≤ 5) → ∀ ls : Array Slot, lv_has ls 19 [(0, .ref b), (1, .ref d), (2, .ref u1), (3, .ref u2), (4, .ref u3), (5, .ref u4), (6, .ref u5), (7, .ref u6), (8, .ref u7), (9, .ref u0), (10, .int (nI i)), (11, .int X), (12, .int Y)] → GV p l e room_1 s m args below meth c E A Q (rw_ E u0 4 (upd (upd ca 2 (nI w)) 3 (nI v)) :: wr) kc nc (F0 m 475 ls [])) : GV p l e room_1 s m args below meth c E A Q (rw_ E u0 4 ca :: wr) kc nc (F0 m 284 ls []) := by
  refine GW.aload F dL_law_284 (lv_at hl 9 rfl) ?_
  refine GW.iconst (v := nI 2) F dL_law_286 (by decide) ?_
  refine GW.aload F dL_law_287 (lv_at hl 9 rfl) ?_
  refine GW.iconst (v := nI 0) F dL_law_289 (by decide) ?_
  refine GW.iadn (i := 0) F hE 0 rfl (by omega) (by omega) dL_law_290 (fun z1 e1 => ?_)
  obtain rfl : nI 6 = z1 := (e1.trans hc0).symm
  refine GW.if_ne (tgt := 325) F dL_law_291 (by decide) (fun _ => ?_) (fun h => absurd h (by decide))
  refine GW.aload F dL_law_325 (lv_at hl 9 rfl) ?_
  refine GW.iconst (v := nI 0) F dL_law_327 (by decide) ?_
  refine GW.iadn (i := 0) F hE 0 rfl (by omega) (by omega) dL_law_328 (fun z3 e3 => ?_)
  obtain rfl : nI 6 = z3 := (e3.trans hc0).symm
  refine GW.iconst (v := nI 1) F dL_law_329 (by decide) ?_
  refine GW.icmp_ne (tgt := 357) F dL_law_330 (by decide) (fun _ => ?_) (fun h => absurd h (by decide))
  refine GW.aload F dL_law_357 (lv_at hl 9 rfl) ?_
  refine GW.iconst (v := nI 0) F dL_law_359 (by decide) ?_
  refine GW.iadn (i := 0) F hE 0 rfl (by omega) (by omega) dL_law_360 (fun z5 e5 => ?_)
  obtain rfl : nI 6 = z5 := (e5.trans hc0).symm
  refine GW.iconst (v := nI 3) F dL_law_361 (by decide) ?_
  refine GW.icmp_ne (tgt := 375) F dL_law_362 (by decide) (fun _ => ?_) (fun h => absurd h (by decide))
  refine GW.aload F dL_law_375 (lv_at hl 9 rfl) ?_
  refine GW.iconst (v := nI 0) F dL_law_377 (by decide) ?_
  refine GW.iadn (i := 0) F hE 0 rfl (by omega) (by omega) dL_law_378 (fun z7 e7 => ?_)
  obtain rfl : nI 6 = z7 := (e7.trans hc0).symm
  refine GW.iconst (v := nI 4) F dL_law_379 (by decide) ?_
  refine GW.icmp_ne (tgt := 392) F dL_law_380 (by decide) (fun _ => ?_) (fun h => absurd h (by decide))
  refine GW.aload F dL_law_392 (lv_at hl 9 rfl) ?_
  refine GW.iconst (v := nI 0) F dL_law_394 (by decide) ?_
  refine GW.iadn (i := 0) F hE 0 rfl (by omega) (by omega) dL_law_395 (fun z9 e9 => ?_)
  obtain rfl : nI 6 = z9 := (e9.trans hc0).symm
  refine GW.bipush (v := nI 6) F dL_law_396 (by decide) ?_
  refine GW.icmp_ne (tgt := 409) F dL_law_398 (by decide) (fun h => absurd h (by decide)) (fun _ => ?_)
  refine GW.iload F dL_law_401 (lv_at hl 13 rfl) ?_
  refine GW.bipush (v := nI 11) F dL_law_403 (by decide) ?_
  refine GW.irem F dL_law_405 (by decide) (fun z11 e11 => ?_)
  obtain rfl : (nI (α % 11)) = z11 := (e11.trans (pk_rem (by omega) (by decide) (by decide))).symm
  refine GW.goto (tgt := 414) F dL_law_406 (by decide) ?_
  refine GW.isn (i := 2) F hE 0 rfl (by omega) (by omega) dL_law_414 rfl ?_
  refine GW.aload F dL_law_415 (lv_at hl 9 rfl) ?_
  refine GW.iconst (v := nI 3) F dL_law_417 (by decide) ?_
  refine GW.aload F dL_law_418 (lv_at hl 9 rfl) ?_
  refine GW.iconst (v := nI 0) F dL_law_420 (by decide) ?_
  refine GW.iadn (i := 0) F hE 0 rfl (by omega) (by omega) dL_law_421 (fun z12 e12 => ?_)
  obtain rfl : nI 6 = z12 := (e12.trans ((upd_ne (by decide)).trans hc0)).symm
  refine GW.iconst (v := nI 4) F dL_law_422 (by decide) ?_
  refine GW.icmp_ne (tgt := 436) F dL_law_423 (by decide) (fun _ => ?_) (fun h => absurd h (by decide))
  refine GW.aload F dL_law_436 (lv_at hl 9 rfl) ?_
  refine GW.iconst (v := nI 0) F dL_law_438 (by decide) ?_
  refine GW.iadn (i := 0) F hE 0 rfl (by omega) (by omega) dL_law_439 (fun z14 e14 => ?_)
  obtain rfl : nI 6 = z14 := (e14.trans ((upd_ne (by decide)).trans hc0)).symm
  refine GW.iconst (v := nI 3) F dL_law_440 (by decide) ?_
  refine GW.icmp_ne (tgt := 454) F dL_law_441 (by decide) (fun _ => ?_) (fun h => absurd h (by decide))
  refine GW.iconst (v := nI 1) F dL_law_454 (by decide) ?_
  refine GW.iload F dL_law_455 (lv_at hl 14 rfl) ?_
  refine GW.bipush (v := nI 40) F dL_law_457 (by decide) ?_
  refine GW.icmp_ge (tgt := 469) F dL_law_459 (by decide) (fun c16 c16' => ?_) (fun c16 c16' => ?_)
  · skip
    refine GW.iload F dL_law_469 (lv_at hl 14 rfl) ?_
    refine GW.iconst (v := nI 2) F dL_law_471 (by decide) ?_
    refine GW.irem F dL_law_472 (by decide) (fun z17 e17 => ?_)
    obtain rfl : (nI (β % 2)) = z17 := (e17.trans (pk_rem (by omega) (by decide) (by decide))).symm
    refine GW.iadd F dL_law_473 (fun z18 e18 => ?_)
    obtain rfl : z18 = nI (1 + (β % 2)) := e18.trans (nI_add _ _)
    refine GW.isn (i := 3) F hE 0 rfl (by omega) (by omega) dL_law_474 rfl ?_
    exact kk (α % 11) (1 + (β % 2)) (by omega) (by omega) ls (lv_sub hl [0, 1, 2, 3, 4, 5, 6, 7, 8, 9, 10, 11, 12] rfl)
  · skip
    refine GW.iload F dL_law_462 (lv_at hl 14 rfl) ?_
    refine GW.iconst (v := nI 5) F dL_law_464 (by decide) ?_
    refine GW.irem F dL_law_465 (by decide) (fun z19 e19 => ?_)
    obtain rfl : (nI (β % 5)) = z19 := (e19.trans (pk_rem (by omega) (by decide) (by decide))).symm
    refine GW.goto (tgt := 473) F dL_law_466 (by decide) ?_
    refine GW.iadd F dL_law_473 (fun z20 e20 => ?_)
    obtain rfl : z20 = nI (1 + (β % 5)) := e20.trans (nI_add _ _)
    refine GW.isn (i := 3) F hE 0 rfl (by omega) (by omega) dL_law_474 rfl ?_
    exact kk (α % 11) (1 + (β % 5)) (by omega) (by omega) ls (lv_sub hl [0, 1, 2, 3, 4, 5, 6, 7, 8, 9, 10, 11, 12] rfl)
