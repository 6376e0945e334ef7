/-! the start of the law -/
section GVz
variable {p : Program} {l : Launch} {e : Env} {R : Room} {s : State} {m : MethodId} {args : Array Value} {below : List Frame} {meth : Method} {c : Code} {E : EV} {A : Nat → Prop} {Q : State → Prop} {ws : va_W} {k n : Nat}
variable {cc : ByteArray} {nL : Nat} {own : String} {pc : Nat} {ls : Array Slot} {st : List Value}
theorem GV.callM (F : CallFix p m c cc nL s args LW own) (hE : CE E A s s.heap) (hA : ∀ q, s.heap.size ≤ q → A q) (hO : va_AO RX5 s) {idx o : Nat} {y : MethodName} {bytes : ByteArray} {maxL fr lo mc ms : Nat} {wa wc wb : va_W} {S : Type} {post : S → Prop} {Wn : S → va_W} (hM : Cn l E y bytes maxL fr lo mc ms o wc post Wn)
    (cw : CallB R s args own idx y bytes maxL none (Cond.code y bytes maxL none :: LW) (rmk fr mc ms lo) mc ms 0 ∧ y.name = "<init>" ∧ (Cond.instanceMethod y).before args s = true) (hw : ws = wa ++ (wc ++ wb)) (hsz : ls.size = nL) (hroom : (st.map fun v => v.category).sum ≤ 8) (hf : k + mc ≤ R.cells ∧ n + ms ≤ R.slots) (hd : decode cc pc = .ok (.invokespecial idx, 3))
    (kk : ∀ u, post u → GV p l e R s m args below meth c E A Q (wa ++ (Wn u ++ wb)) (k + mc) (n + ms) (F0 m (pc + 3) ls st)) : GV p l e R s m args below meth c E A Q ws k n (F0 m pc ls (.ref o :: st)) := by
  intro H locs hP hD hS
  subst hw
  have hPc := P_mid hP
  have hDc := D_mid hD
  have hF : ∀ q, va_A wc H.size q → A q := fun q h => by
    rcases h with ⟨j, e, h⟩ | h
    · exact D_in hDc _ (List.mem_of_getElem? h)
    · exact hA q (Nat.le_trans hS.1 h)
  refine va_callv (va_runI (As := []) (rest := st) F (hM H.size) cw ⟨fun a U g mk q => ⟨q.1, q.2.1, q.2.2.1, q.2.2.2.1.same rfl, q.2.2.2.2.1, va_AO.moved (Vm.Alike.refl U.vm) q.2.2.2.2.2⟩, fun U hU hW => ⟨rfl, by rw [hU], by rw [hU]; exact hPc, by rw [hU]; exact hE.tr hW (fun q h1 h2 => hS.2.1 q h1 h2) hF, hDc.weaken (fun _ _ _ _ => trivial), va_AO.moved hW.alike hO⟩⟩ rfl rfl hsz rfl (lv_room hroom) hd hf) hS (fun q _ h => hF q h) hF (fun u t H1 locs1 ht hvm hp hB hz1 hk1 hS1 => ?_)
  obtain ⟨hP1, hD1⟩ := hB
  rw [ht] at hP1
  obtain ⟨P1, D1⟩ := join3 hP hD hk1 hF hP1 hD1
  exact kk u hp H1 locs1 P1 D1 hS1
end GVz
def qs0 : Nat → Int32 := (upd (upd (fun _ => 0) 1 (nI 2000)) 3 (-1))
def zs0 : Nat → Int32 := (upd (upd (upd (upd (upd (upd (upd (upd (fun _ => 0) 0 (nI 170)) 1 (nI 170)) 2 (nI 170)) 3 (nI 170)) 4 (nI 170)) 5 (nI 170)) 6 (nI 170)) 7 (nI 170))
def fo0 : Nat → Int32 := (upd (upd (upd (upd (upd (upd (upd (upd (fun _ => 0) 0 (-1)) 1 (-1)) 2 (-1)) 3 (-1)) 4 (-1)) 5 (-1)) 6 (-1)) 7 (-1))
theorem sx0 : sg0 0 = nI 0 ∧ sg0 1 = nI 2000 ∧ sg0 4 = nI 0 ∧ sg0 6 = nI 0 ∧ sg0 7 = nI 0 ∧ sg0 8 = nI 0 := by decide +kernel
theorem sy0 : qs0 0 = nI 0 ∧ qs0 1 = nI 2000 ∧ qs0 2 = sg0 2 ∧ qs0 3 = sg0 3 ∧ qs0 4 = nI 0 ∧ qs0 5 = 0 ∧ qs0 6 = nI 0 ∧ qs0 7 = sg0 5 ∧ qs0 8 = nI 0 ∧ qs0 9 = nI 0 := by decide +kernel
theorem sz1 : (∀ p, p < 8 → sf0 0 p = zs0 p) ∧ (∀ p, p < 8 → sf0 1 p = 0) ∧ (∀ p, p < 8 → fo0 p = -1) ∧ (∀ p, p < 8 → zs0 p = nI 170) := by decide +kernel
theorem LI_0 : LI sg0 sf0 qs0 zs0 fo0 (fun _ => 0) (fun _ => 0) (fun _ => 0) (fun _ => 0) 0 :=
  ⟨0, 0, 0, 0, 0, 2000, ⟨⟨by omega, by omega, by omega, by omega, by omega, by omega⟩, sx0, ⟨sy0.1, sy0.2.1, sy0.2.2.1, sy0.2.2.2.1, sy0.2.2.2.2.1, sy0.2.2.2.2.2.1, sy0.2.2.2.2.2.2⟩, sz1.1, sz1.2.1, fun p hp => sz1.2.2.1 p hp, fun i h => absurd h (by omega), fun i h => absurd h (by omega), fun i h => absurd h (by omega)⟩, by omega, fun p hp => by rw [sz1.2.2.2 p hp]; exact nI_b (by decide)⟩
theorem pmS {α : Type} (D x0 x1 x2 x3 x4 x5 x6 x7 : List α) : ((((((((D ++ x1) ++ x2) ++ x3) ++ x4) ++ x5) ++ x6) ++ x7) ++ x0).Perm (x0 ++ (x1 ++ (x2 ++ (x3 ++ (x4 ++ (x5 ++ (x6 ++ (x7 ++ D)))))))) := by
  classical
  rw [List.perm_iff_count]
  intro x
  simp only [List.count_append]
  omega
theorem clL_11 : Cond.classLink RL 11 RX6 ∈ LW := LW_mk 17 (by decide +kernel) rfl
set_option maxHeartbeats 4000000 in
set_option maxRecDepth 100000 in
theorem whole_start {p : Program} {e : Env} {s : State} {m : MethodId} {below : List Frame} {meth : Method} {c : Code} (l : Launch) (hflags : l.flags = flags0) {b L : Nat} {xs : Nat → Int32} (hL : L ≤ 260) (C0 : lw_At p s m meth c b L xs) : W p l e room_1 s m #[Value.ref b] below meth c s.heap [] 0 0 (lw_Z below #[Value.ref b] s) (entryFrame m ([Value.ref b] : List Value).toArray 19) := by
  obtain ⟨E, hE, hO⟩ := env_at C0
  obtain ⟨hx, hb, hr, hml, hown, hts, hX, hbl, hlocks, hgv⟩ := C0
  have hst : l.stackTraces = false := by
    unfold Launch.stackTraces
    rw [hflags]
    decide +kernel
  have hA : ∀ q : Nat, s.heap.size ≤ q → (fun q : Nat => s.heap.size ≤ q) q := fun _ h => h
  have hbA : ¬ (fun q : Nat => s.heap.size ≤ q) b := Nat.not_le.mpr hbl
  have F : CallFix p m c cL_law 19 s #[Value.ref b] LW RL := ⟨hx, hb, hml, hown, fun w h => hts w (List.mem_filter.mp h).1⟩
  have hl := lv_entry ([.ref b]) (n := 19) (Nat.le_of_ble_eq_true rfl)
  rw [lg_entry_eq]
  generalize (lg_sl ([.ref b]) ++ List.replicate (19 - (lg_sl ([.ref b])).length) Slot.unset).toArray = ls at hl ⊢
  have hl : lv_has ls 19 [(0, .ref b)] := hl
  have main : GV p l e room_1 s m #[Value.ref b] below meth c E (fun q : Nat => s.heap.size ≤ q) (lw_Z below #[Value.ref b] s) [] 0 0 (F0 m 0 ls []) := by
    refine GV.new F hE hA (T := TX6) (N := 3) (ci := 6) (fs := [.null, .null, .null]) uX6 tyX6 tyX6_ok clL_11 inX6 iniX6 rfl (fun j hj => by rcases (show j = 0 ∨ j = 1 ∨ j = 2 by omega) with rfl | rfl | rfl <;> rfl) (by exact Nat.le_of_ble_eq_true rfl) (by exact Nat.le_of_ble_eq_true rfl) dL_law_0 (fun d => ?_)
    refine GV.dup F dL_law_3 ?_
    refine GV.callM (wa := []) (wb := []) F hE hA hO (c_X6_init l E d) (kL_131 F.2.2.2.2 ⟨Nat.le_of_ble_eq_true rfl, Nat.le_of_ble_eq_true rfl⟩) rfl hl.1 (Nat.le_of_ble_eq_true rfl) ⟨by exact Nat.le_of_ble_eq_true rfl, by exact Nat.le_of_ble_eq_true rfl⟩ dL_law_4 (fun u hu => ?_)
    obtain ⟨ua, v0, v1, t, u9, uB⟩ := u
    refine GV.weq (ws' := (dW E d v0 v1 t u9 (nI 0) (nI 0) (fun _ => 0) ua sg0 sf0 ++ tlW E v1 uB (fun _ => sg0) (fun _ => sf0))) (by rw [List.nil_append, List.append_nil]) ?_
    refine GV.astore_n (lv' := [(1, .ref d), (0, .ref b)]) F dL_law_7 rfl hl (by decide) rfl (fun ls hl => ?_)
    refine GW.bipush (v := nI 10) F dL_law_8 (by decide) ?_
    refine GV.newa F hE hA arInt (N := 10) (by decide) (by exact Nat.le_of_ble_eq_true rfl) (by exact Nat.le_of_ble_eq_true rfl) dL_law_10 (fun u1 => ?_)
    refine GV.astore_n (lv' := [(2, .ref u1), (1, .ref d), (0, .ref b)]) F dL_law_12 rfl hl (by decide) rfl (fun ls hl => ?_)
    refine GW.bipush (v := nI 8) F dL_law_13 (by decide) ?_
    refine GV.newa F hE hA arInt (N := 8) (by decide) (by exact Nat.le_of_ble_eq_true rfl) (by exact Nat.le_of_ble_eq_true rfl) dL_law_15 (fun u2 => ?_)
    refine GV.astore_n (lv' := [(3, .ref u2), (2, .ref u1), (1, .ref d), (0, .ref b)]) F dL_law_17 rfl hl (by decide) rfl (fun ls hl => ?_)
    refine GW.bipush (v := nI 8) F dL_law_18 (by decide) ?_
    refine GV.newa F hE hA arInt (N := 8) (by decide) (by exact Nat.le_of_ble_eq_true rfl) (by exact Nat.le_of_ble_eq_true rfl) dL_law_20 (fun u3 => ?_)
    refine GV.astore (lv' := [(4, .ref u3), (3, .ref u2), (2, .ref u1), (1, .ref d), (0, .ref b)]) F dL_law_22 hl (by decide) rfl (fun ls hl => ?_)
    refine GW.bipush (v := nI 8) F dL_law_24 (by decide) ?_
    refine GV.newa F hE hA arInt (N := 8) (by decide) (by exact Nat.le_of_ble_eq_true rfl) (by exact Nat.le_of_ble_eq_true rfl) dL_law_26 (fun u4 => ?_)
    refine GV.astore (lv' := [(5, .ref u4), (4, .ref u3), (3, .ref u2), (2, .ref u1), (1, .ref d), (0, .ref b)]) F dL_law_28 hl (by decide) rfl (fun ls hl => ?_)
    refine GW.bipush (v := nI 40) F dL_law_30 (by decide) ?_
    refine GV.newa F hE hA arInt (N := 40) (by decide) (by exact Nat.le_of_ble_eq_true rfl) (by exact Nat.le_of_ble_eq_true rfl) dL_law_32 (fun u5 => ?_)
    refine GV.astore (lv' := [(6, .ref u5), (5, .ref u4), (4, .ref u3), (3, .ref u2), (2, .ref u1), (1, .ref d), (0, .ref b)]) F dL_law_34 hl (by decide) rfl (fun ls hl => ?_)
    refine GW.bipush (v := nI 12) F dL_law_36 (by decide) ?_
    refine GV.newa F hE hA arInt (N := 12) (by decide) (by exact Nat.le_of_ble_eq_true rfl) (by exact Nat.le_of_ble_eq_true rfl) dL_law_38 (fun u6 => ?_)
    refine GV.astore (lv' := [(7, .ref u6), (6, .ref u5), (5, .ref u4), (4, .ref u3), (3, .ref u2), (2, .ref u1), (1, .ref d), (0, .ref b)]) F dL_law_40 hl (by decide) rfl (fun ls hl => ?_)
    refine GW.bipush (v := nI 10) F dL_law_42 (by decide) ?_
    refine GV.newa F hE hA arInt (N := 10) (by decide) (by exact Nat.le_of_ble_eq_true rfl) (by exact Nat.le_of_ble_eq_true rfl) dL_law_44 (fun u7 => ?_)
    refine GV.astore (lv' := [(8, .ref u7), (7, .ref u6), (6, .ref u5), (5, .ref u4), (4, .ref u3), (3, .ref u2), (2, .ref u1), (1, .ref d), (0, .ref b)]) F dL_law_46 hl (by decide) rfl (fun ls hl => ?_)
    refine GW.iconst (v := nI 4) F dL_law_48 (by decide) ?_
    refine GV.newa F hE hA arInt (N := 4) (by decide) (by exact Nat.le_of_ble_eq_true rfl) (by exact Nat.le_of_ble_eq_true rfl) dL_law_49 (fun u0 => ?_)
    refine GV.astore (lv' := [(9, .ref u0), (8, .ref u7), (7, .ref u6), (6, .ref u5), (5, .ref u4), (4, .ref u3), (3, .ref u2), (2, .ref u1), (1, .ref d), (0, .ref b)]) F dL_law_51 hl (by decide) rfl (fun ls hl => ?_)
    refine GV.perm (us := W8 E u0 u1 u2 u3 u4 u5 u6 u7 (fun _ => 0) (fun _ => 0) (fun _ => 0) (fun _ => 0) (fun _ => 0) (fun _ => 0) (fun _ => 0) (fun _ => 0) ++ (dW E d v0 v1 t u9 (nI 0) (nI 0) (fun _ => 0) ua sg0 sf0 ++ tlW E v1 uB (fun _ => sg0) (fun _ => sf0))) (pmS (dW E d v0 v1 t u9 (nI 0) (nI 0) (fun _ => 0) ua sg0 sf0 ++ tlW E v1 uB (fun _ => sg0) (fun _ => sf0)) [rw_ E u0 4 (fun _ => 0)] [rw_ E u1 10 (fun _ => 0)] [rw_ E u2 8 (fun _ => 0)] [rw_ E u3 8 (fun _ => 0)] [rw_ E u4 8 (fun _ => 0)] [rw_ E u5 40 (fun _ => 0)] [rw_ E u6 12 (fun _ => 0)] [rw_ E u7 10 (fun _ => 0)]) ?_
    refine GW.aload_n F dL_law_53 rfl (lv_at hl 7 rfl) ?_
    refine GW.iconst (v := nI 1) F dL_law_54 (by decide) ?_
    refine GW.sipush (v := nI 2000) F dL_law_55 (by decide) ?_
    refine GW.isn (i := 1) (ws' := W8 E u0 u1 u2 u3 u4 u5 u6 u7 (fun _ => 0) (upd (fun _ => 0) 1 (nI 2000)) (fun _ => 0) (fun _ => 0) (fun _ => 0) (fun _ => 0) (fun _ => 0) (fun _ => 0) ++ (dW E d v0 v1 t u9 (nI 0) (nI 0) (fun _ => 0) ua sg0 sf0 ++ tlW E v1 uB (fun _ => sg0) (fun _ => sf0))) F hE 1 rfl (by decide) (by decide) dL_law_58 rfl ?_
    refine GW.aload_n F dL_law_59 rfl (lv_at hl 7 rfl) ?_
    refine GW.iconst (v := nI 3) F dL_law_60 (by decide) ?_
    refine GW.iconst (v := (-1)) F dL_law_61 (by decide) ?_
    refine GW.isn (i := 3) (ws' := W8 E u0 u1 u2 u3 u4 u5 u6 u7 (fun _ => 0) (upd (upd (fun _ => 0) 1 (nI 2000)) 3 (-1)) (fun _ => 0) (fun _ => 0) (fun _ => 0) (fun _ => 0) (fun _ => 0) (fun _ => 0) ++ (dW E d v0 v1 t u9 (nI 0) (nI 0) (fun _ => 0) ua sg0 sf0 ++ tlW E v1 uB (fun _ => sg0) (fun _ => sf0))) F hE 1 rfl (by decide) (by decide) dL_law_62 rfl ?_
    refine GW.iconst (v := nI 0) F dL_law_63 (by decide) ?_
    refine GW.istore (lv' := [(10, .int (nI 0)), (9, .ref u0), (8, .ref u7), (7, .ref u6), (6, .ref u5), (5, .ref u4), (4, .ref u3), (3, .ref u2), (2, .ref u1), (1, .ref d), (0, .ref b)]) F dL_law_64 hl (by decide) rfl (fun ls hl => ?_)
    refine GW.iload F dL_law_66 (lv_at hl 0 rfl) ?_
    refine GW.bipush (v := nI 8) F dL_law_68 (by decide) ?_
    refine GW.icmp_ge (tgt := 92) F dL_law_70 (by decide) (fun h _ => absurd h (by decide)) (fun _ _ => ?_)
    refine GW.aload_n F dL_law_73 rfl (lv_at hl 7 rfl) ?_
    refine GW.iload F dL_law_74 (lv_at hl 0 rfl) ?_
    refine GW.sipush (v := nI 170) F dL_law_76 (by decide) ?_
    refine GW.isn (i := 0) (ws' := W8 E u0 u1 u2 u3 u4 u5 u6 u7 (fun _ => 0) (upd (upd (fun _ => 0) 1 (nI 2000)) 3 (-1)) (upd (fun _ => 0) 0 (nI 170)) (fun _ => 0) (fun _ => 0) (fun _ => 0) (fun _ => 0) (fun _ => 0) ++ (dW E d v0 v1 t u9 (nI 0) (nI 0) (fun _ => 0) ua sg0 sf0 ++ tlW E v1 uB (fun _ => sg0) (fun _ => sf0))) F hE 2 rfl (by decide) (by decide) dL_law_79 rfl ?_
    refine GW.aload F dL_law_80 (lv_at hl 6 rfl) ?_
    refine GW.iload F dL_law_82 (lv_at hl 0 rfl) ?_
    refine GW.iconst (v := (-1)) F dL_law_84 (by decide) ?_
    refine GW.isn (i := 0) (ws' := W8 E u0 u1 u2 u3 u4 u5 u6 u7 (fun _ => 0) (upd (upd (fun _ => 0) 1 (nI 2000)) 3 (-1)) (upd (fun _ => 0) 0 (nI 170)) (upd (fun _ => 0) 0 (-1)) (fun _ => 0) (fun _ => 0) (fun _ => 0) (fun _ => 0) ++ (dW E d v0 v1 t u9 (nI 0) (nI 0) (fun _ => 0) ua sg0 sf0 ++ tlW E v1 uB (fun _ => sg0) (fun _ => sf0))) F hE 3 rfl (by decide) (by decide) dL_law_85 rfl ?_
    refine GV.iinc (j := 0) (y := nI 1) (lv' := [(10, .int (nI 1)), (9, .ref u0), (8, .ref u7), (7, .ref u6), (6, .ref u5), (5, .ref u4), (4, .ref u3), (3, .ref u2), (2, .ref u1), (1, .ref d), (0, .ref b)]) F dL_law_86 hl rfl (by decide) (by decide) rfl (fun ls hl => ?_)
    refine GW.goto (tgt := 66) F dL_law_89 (by decide) ?_
    refine GW.iload F dL_law_66 (lv_at hl 0 rfl) ?_
    refine GW.bipush (v := nI 8) F dL_law_68 (by decide) ?_
    refine GW.icmp_ge (tgt := 92) F dL_law_70 (by decide) (fun h _ => absurd h (by decide)) (fun _ _ => ?_)
    refine GW.aload_n F dL_law_73 rfl (lv_at hl 7 rfl) ?_
    refine GW.iload F dL_law_74 (lv_at hl 0 rfl) ?_
    refine GW.sipush (v := nI 170) F dL_law_76 (by decide) ?_
    refine GW.isn (i := 1) (ws' := W8 E u0 u1 u2 u3 u4 u5 u6 u7 (fun _ => 0) (upd (upd (fun _ => 0) 1 (nI 2000)) 3 (-1)) (upd (upd (fun _ => 0) 0 (nI 170)) 1 (nI 170)) (upd (fun _ => 0) 0 (-1)) (fun _ => 0) (fun _ => 0) (fun _ => 0) (fun _ => 0) ++ (dW E d v0 v1 t u9 (nI 0) (nI 0) (fun _ => 0) ua sg0 sf0 ++ tlW E v1 uB (fun _ => sg0) (fun _ => sf0))) F hE 2 rfl (by decide) (by decide) dL_law_79 rfl ?_
    refine GW.aload F dL_law_80 (lv_at hl 6 rfl) ?_
    refine GW.iload F dL_law_82 (lv_at hl 0 rfl) ?_
    refine GW.iconst (v := (-1)) F dL_law_84 (by decide) ?_
    refine GW.isn (i := 1) (ws' := W8 E u0 u1 u2 u3 u4 u5 u6 u7 (fun _ => 0) (upd (upd (fun _ => 0) 1 (nI 2000)) 3 (-1)) (upd (upd (fun _ => 0) 0 (nI 170)) 1 (nI 170)) (upd (upd (fun _ => 0) 0 (-1)) 1 (-1)) (fun _ => 0) (fun _ => 0) (fun _ => 0) (fun _ => 0) ++ (dW E d v0 v1 t u9 (nI 0) (nI 0) (fun _ => 0) ua sg0 sf0 ++ tlW E v1 uB (fun _ => sg0) (fun _ => sf0))) F hE 3 rfl (by decide) (by decide) dL_law_85 rfl ?_
    refine GV.iinc (j := 0) (y := nI 2) (lv' := [(10, .int (nI 2)), (9, .ref u0), (8, .ref u7), (7, .ref u6), (6, .ref u5), (5, .ref u4), (4, .ref u3), (3, .ref u2), (2, .ref u1), (1, .ref d), (0, .ref b)]) F dL_law_86 hl rfl (by decide) (by decide) rfl (fun ls hl => ?_)
    refine GW.goto (tgt := 66) F dL_law_89 (by decide) ?_
    refine GW.iload F dL_law_66 (lv_at hl 0 rfl) ?_
    refine GW.bipush (v := nI 8) F dL_law_68 (by decide) ?_
    refine GW.icmp_ge (tgt := 92) F dL_law_70 (by decide) (fun h _ => absurd h (by decide)) (fun _ _ => ?_)
    refine GW.aload_n F dL_law_73 rfl (lv_at hl 7 rfl) ?_
    refine GW.iload F dL_law_74 (lv_at hl 0 rfl) ?_
    refine GW.sipush (v := nI 170) F dL_law_76 (by decide) ?_
    refine GW.isn (i := 2) (ws' := W8 E u0 u1 u2 u3 u4 u5 u6 u7 (fun _ => 0) (upd (upd (fun _ => 0) 1 (nI 2000)) 3 (-1)) (upd (upd (upd (fun _ => 0) 0 (nI 170)) 1 (nI 170)) 2 (nI 170)) (upd (upd (fun _ => 0) 0 (-1)) 1 (-1)) (fun _ => 0) (fun _ => 0) (fun _ => 0) (fun _ => 0) ++ (dW E d v0 v1 t u9 (nI 0) (nI 0) (fun _ => 0) ua sg0 sf0 ++ tlW E v1 uB (fun _ => sg0) (fun _ => sf0))) F hE 2 rfl (by decide) (by decide) dL_law_79 rfl ?_
    refine GW.aload F dL_law_80 (lv_at hl 6 rfl) ?_
    refine GW.iload F dL_law_82 (lv_at hl 0 rfl) ?_
    refine GW.iconst (v := (-1)) F dL_law_84 (by decide) ?_
    refine GW.isn (i := 2) (ws' := W8 E u0 u1 u2 u3 u4 u5 u6 u7 (fun _ => 0) (upd (upd (fun _ => 0) 1 (nI 2000)) 3 (-1)) (upd (upd (upd (fun _ => 0) 0 (nI 170)) 1 (nI 170)) 2 (nI 170)) (upd (upd (upd (fun _ => 0) 0 (-1)) 1 (-1)) 2 (-1)) (fun _ => 0) (fun _ => 0) (fun _ => 0) (fun _ => 0) ++ (dW E d v0 v1 t u9 (nI 0) (nI 0) (fun _ => 0) ua sg0 sf0 ++ tlW E v1 uB (fun _ => sg0) (fun _ => sf0))) F hE 3 rfl (by decide) (by decide) dL_law_85 rfl ?_
    refine GV.iinc (j := 0) (y := nI 3) (lv' := [(10, .int (nI 3)), (9, .ref u0), (8, .ref u7), (7, .ref u6), (6, .ref u5), (5, .ref u4), (4, .ref u3), (3, .ref u2), (2, .ref u1), (1, .ref d), (0, .ref b)]) F dL_law_86 hl rfl (by decide) (by decide) rfl (fun ls hl => ?_)
    refine GW.goto (tgt := 66) F dL_law_89 (by decide) ?_
    refine GW.iload F dL_law_66 (lv_at hl 0 rfl) ?_
    refine GW.bipush (v := nI 8) F dL_law_68 (by decide) ?_
    refine GW.icmp_ge (tgt := 92) F dL_law_70 (by decide) (fun h _ => absurd h (by decide)) (fun _ _ => ?_)
    refine GW.aload_n F dL_law_73 rfl (lv_at hl 7 rfl) ?_
    refine GW.iload F dL_law_74 (lv_at hl 0 rfl) ?_
    refine GW.sipush (v := nI 170) F dL_law_76 (by decide) ?_
    refine GW.isn (i := 3) (ws' := W8 E u0 u1 u2 u3 u4 u5 u6 u7 (fun _ => 0) (upd (upd (fun _ => 0) 1 (nI 2000)) 3 (-1)) (upd (upd (upd (upd (fun _ => 0) 0 (nI 170)) 1 (nI 170)) 2 (nI 170)) 3 (nI 170)) (upd (upd (upd (fun _ => 0) 0 (-1)) 1 (-1)) 2 (-1)) (fun _ => 0) (fun _ => 0) (fun _ => 0) (fun _ => 0) ++ (dW E d v0 v1 t u9 (nI 0) (nI 0) (fun _ => 0) ua sg0 sf0 ++ tlW E v1 uB (fun _ => sg0) (fun _ => sf0))) F hE 2 rfl (by decide) (by decide) dL_law_79 rfl ?_
    refine GW.aload F dL_law_80 (lv_at hl 6 rfl) ?_
    refine GW.iload F dL_law_82 (lv_at hl 0 rfl) ?_
    refine GW.iconst (v := (-1)) F dL_law_84 (by decide) ?_
    refine GW.isn (i := 3) (ws' := W8 E u0 u1 u2 u3 u4 u5 u6 u7 (fun _ => 0) (upd (upd (fun _ => 0) 1 (nI 2000)) 3 (-1)) (upd (upd (upd (upd (fun _ => 0) 0 (nI 170)) 1 (nI 170)) 2 (nI 170)) 3 (nI 170)) (upd (upd (upd (upd (fun _ => 0) 0 (-1)) 1 (-1)) 2 (-1)) 3 (-1)) (fun _ => 0) (fun _ => 0) (fun _ => 0) (fun _ => 0) ++ (dW E d v0 v1 t u9 (nI 0) (nI 0) (fun _ => 0) ua sg0 sf0 ++ tlW E v1 uB (fun _ => sg0) (fun _ => sf0))) F hE 3 rfl (by decide) (by decide) dL_law_85 rfl ?_
    refine GV.iinc (j := 0) (y := nI 4) (lv' := [(10, .int (nI 4)), (9, .ref u0), (8, .ref u7), (7, .ref u6), (6, .ref u5), (5, .ref u4), (4, .ref u3), (3, .ref u2), (2, .ref u1), (1, .ref d), (0, .ref b)]) F dL_law_86 hl rfl (by decide) (by decide) rfl (fun ls hl => ?_)
    refine GW.goto (tgt := 66) F dL_law_89 (by decide) ?_
    refine GW.iload F dL_law_66 (lv_at hl 0 rfl) ?_
    refine GW.bipush (v := nI 8) F dL_law_68 (by decide) ?_
    refine GW.icmp_ge (tgt := 92) F dL_law_70 (by decide) (fun h _ => absurd h (by decide)) (fun _ _ => ?_)
    refine GW.aload_n F dL_law_73 rfl (lv_at hl 7 rfl) ?_
    refine GW.iload F dL_law_74 (lv_at hl 0 rfl) ?_
    refine GW.sipush (v := nI 170) F dL_law_76 (by decide) ?_
    refine GW.isn (i := 4) (ws' := W8 E u0 u1 u2 u3 u4 u5 u6 u7 (fun _ => 0) (upd (upd (fun _ => 0) 1 (nI 2000)) 3 (-1)) (upd (upd (upd (upd (upd (fun _ => 0) 0 (nI 170)) 1 (nI 170)) 2 (nI 170)) 3 (nI 170)) 4 (nI 170)) (upd (upd (upd (upd (fun _ => 0) 0 (-1)) 1 (-1)) 2 (-1)) 3 (-1)) (fun _ => 0) (fun _ => 0) (fun _ => 0) (fun _ => 0) ++ (dW E d v0 v1 t u9 (nI 0) (nI 0) (fun _ => 0) ua sg0 sf0 ++ tlW E v1 uB (fun _ => sg0) (fun _ => sf0))) F hE 2 rfl (by decide) (by decide) dL_law_79 rfl ?_
    refine GW.aload F dL_law_80 (lv_at hl 6 rfl) ?_
    refine GW.iload F dL_law_82 (lv_at hl 0 rfl) ?_
    refine GW.iconst (v := (-1)) F dL_law_84 (by decide) ?_
    refine GW.isn (i := 4) (ws' := W8 E u0 u1 u2 u3 u4 u5 u6 u7 (fun _ => 0) (upd (upd (fun _ => 0) 1 (nI 2000)) 3 (-1)) (upd (upd (upd (upd (upd (fun _ => 0) 0 (nI 170)) 1 (nI 170)) 2 (nI 170)) 3 (nI 170)) 4 (nI 170)) (upd (upd (upd (upd (upd (fun _ => 0) 0 (-1)) 1 (-1)) 2 (-1)) 3 (-1)) 4 (-1)) (fun _ => 0) (fun _ => 0) (fun _ => 0) (fun _ => 0) ++ (dW E d v0 v1 t u9 (nI 0) (nI 0) (fun _ => 0) ua sg0 sf0 ++ tlW E v1 uB (fun _ => sg0) (fun _ => sf0))) F hE 3 rfl (by decide) (by decide) dL_law_85 rfl ?_
    refine GV.iinc (j := 0) (y := nI 5) (lv' := [(10, .int (nI 5)), (9, .ref u0), (8, .ref u7), (7, .ref u6), (6, .ref u5), (5, .ref u4), (4, .ref u3), (3, .ref u2), (2, .ref u1), (1, .ref d), (0, .ref b)]) F dL_law_86 hl rfl (by decide) (by decide) rfl (fun ls hl => ?_)
    refine GW.goto (tgt := 66) F dL_law_89 (by decide) ?_
    refine GW.iload F dL_law_66 (lv_at hl 0 rfl) ?_
    refine GW.bipush (v := nI 8) F dL_law_68 (by decide) ?_
    refine GW.icmp_ge (tgt := 92) F dL_law_70 (by decide) (fun h _ => absurd h (by decide)) (fun _ _ => ?_)
    refine GW.aload_n F dL_law_73 rfl (lv_at hl 7 rfl) ?_
    refine GW.iload F dL_law_74 (lv_at hl 0 rfl) ?_
    refine GW.sipush (v := nI 170) F dL_law_76 (by decide) ?_
    refine GW.isn (i := 5) (ws' := W8 E u0 u1 u2 u3 u4 u5 u6 u7 (fun _ => 0) (upd (upd (fun _ => 0) 1 (nI 2000)) 3 (-1)) (upd (upd (upd (upd (upd (upd (fun _ => 0) 0 (nI 170)) 1 (nI 170)) 2 (nI 170)) 3 (nI 170)) 4 (nI 170)) 5 (nI 170)) (upd (upd (upd (upd (upd (fun _ => 0) 0 (-1)) 1 (-1)) 2 (-1)) 3 (-1)) 4 (-1)) (fun _ => 0) (fun _ => 0) (fun _ => 0) (fun _ => 0) ++ (dW E d v0 v1 t u9 (nI 0) (nI 0) (fun _ => 0) ua sg0 sf0 ++ tlW E v1 uB (fun _ => sg0) (fun _ => sf0))) F hE 2 rfl (by decide) (by decide) dL_law_79 rfl ?_
    refine GW.aload F dL_law_80 (lv_at hl 6 rfl) ?_
    refine GW.iload F dL_law_82 (lv_at hl 0 rfl) ?_
    refine GW.iconst (v := (-1)) F dL_law_84 (by decide) ?_
    refine GW.isn (i := 5) (ws' := W8 E u0 u1 u2 u3 u4 u5 u6 u7 (fun _ => 0) (upd (upd (fun _ => 0) 1 (nI 2000)) 3 (-1)) (upd (upd (upd (upd (upd (upd (fun _ => 0) 0 (nI 170)) 1 (nI 170)) 2 (nI 170)) 3 (nI 170)) 4 (nI 170)) 5 (nI 170)) (upd (upd (upd (upd (upd (upd (fun _ => 0) 0 (-1)) 1 (-1)) 2 (-1)) 3 (-1)) 4 (-1)) 5 (-1)) (fun _ => 0) (fun _ => 0) (fun _ => 0) (fun _ => 0) ++ (dW E d v0 v1 t u9 (nI 0) (nI 0) (fun _ => 0) ua sg0 sf0 ++ tlW E v1 uB (fun _ => sg0) (fun _ => sf0))) F hE 3 rfl (by decide) (by decide) dL_law_85 rfl ?_
    refine GV.iinc (j := 0) (y := nI 6) (lv' := [(10, .int (nI 6)), (9, .ref u0), (8, .ref u7), (7, .ref u6), (6, .ref u5), (5, .ref u4), (4, .ref u3), (3, .ref u2), (2, .ref u1), (1, .ref d), (0, .ref b)]) F dL_law_86 hl rfl (by decide) (by decide) rfl (fun ls hl => ?_)
    refine GW.goto (tgt := 66) F dL_law_89 (by decide) ?_
    refine GW.iload F dL_law_66 (lv_at hl 0 rfl) ?_
    refine GW.bipush (v := nI 8) F dL_law_68 (by decide) ?_
    refine GW.icmp_ge (tgt := 92) F dL_law_70 (by decide) (fun h _ => absurd h (by decide)) (fun _ _ => ?_)
    refine GW.aload_n F dL_law_73 rfl (lv_at hl 7 rfl) ?_
    refine GW.iload F dL_law_74 (lv_at hl 0 rfl) ?_
    refine GW.sipush (v := nI 170) F dL_law_76 (by decide) ?_
    refine GW.isn (i := 6) (ws' := W8 E u0 u1 u2 u3 u4 u5 u6 u7 (fun _ => 0) (upd (upd (fun _ => 0) 1 (nI 2000)) 3 (-1)) (upd (upd (upd (upd (upd (upd (upd (fun _ => 0) 0 (nI 170)) 1 (nI 170)) 2 (nI 170)) 3 (nI 170)) 4 (nI 170)) 5 (nI 170)) 6 (nI 170)) (upd (upd (upd (upd (upd (upd (fun _ => 0) 0 (-1)) 1 (-1)) 2 (-1)) 3 (-1)) 4 (-1)) 5 (-1)) (fun _ => 0) (fun _ => 0) (fun _ => 0) (fun _ => 0) ++ (dW E d v0 v1 t u9 (nI 0) (nI 0) (fun _ => 0) ua sg0 sf0 ++ tlW E v1 uB (fun _ => sg0) (fun _ => sf0))) F hE 2 rfl (by decide) (by decide) dL_law_79 rfl ?_
    refine GW.aload F dL_law_80 (lv_at hl 6 rfl) ?_
    refine GW.iload F dL_law_82 (lv_at hl 0 rfl) ?_
    refine GW.iconst (v := (-1)) F dL_law_84 (by decide) ?_
    refine GW.isn (i := 6) (ws' := W8 E u0 u1 u2 u3 u4 u5 u6 u7 (fun _ => 0) (upd (upd (fun _ => 0) 1 (nI 2000)) 3 (-1)) (upd (upd (upd (upd (upd (upd (upd (fun _ => 0) 0 (nI 170)) 1 (nI 170)) 2 (nI 170)) 3 (nI 170)) 4 (nI 170)) 5 (nI 170)) 6 (nI 170)) (upd (upd (upd (upd (upd (upd (upd (fun _ => 0) 0 (-1)) 1 (-1)) 2 (-1)) 3 (-1)) 4 (-1)) 5 (-1)) 6 (-1)) (fun _ => 0) (fun _ => 0) (fun _ => 0) (fun _ => 0) ++ (dW E d v0 v1 t u9 (nI 0) (nI 0) (fun _ => 0) ua sg0 sf0 ++ tlW E v1 uB (fun _ => sg0) (fun _ => sf0))) F hE 3 rfl (by decide) (by decide) dL_law_85 rfl ?_
    refine GV.iinc (j := 0) (y := nI 7) (lv' := [(10, .int (nI 7)), (9, .ref u0), (8, .ref u7), (7, .ref u6), (6, .ref u5), (5, .ref u4), (4, .ref u3), (3, .ref u2), (2, .ref u1), (1, .ref d), (0, .ref b)]) F dL_law_86 hl rfl (by decide) (by decide) rfl (fun ls hl => ?_)
    refine GW.goto (tgt := 66) F dL_law_89 (by decide) ?_
    refine GW.iload F dL_law_66 (lv_at hl 0 rfl) ?_
    refine GW.bipush (v := nI 8) F dL_law_68 (by decide) ?_
    refine GW.icmp_ge (tgt := 92) F dL_law_70 (by decide) (fun h _ => absurd h (by decide)) (fun _ _ => ?_)
    refine GW.aload_n F dL_law_73 rfl (lv_at hl 7 rfl) ?_
    refine GW.iload F dL_law_74 (lv_at hl 0 rfl) ?_
    refine GW.sipush (v := nI 170) F dL_law_76 (by decide) ?_
    refine GW.isn (i := 7) (ws' := W8 E u0 u1 u2 u3 u4 u5 u6 u7 (fun _ => 0) (upd (upd (fun _ => 0) 1 (nI 2000)) 3 (-1)) (upd (upd (upd (upd (upd (upd (upd (upd (fun _ => 0) 0 (nI 170)) 1 (nI 170)) 2 (nI 170)) 3 (nI 170)) 4 (nI 170)) 5 (nI 170)) 6 (nI 170)) 7 (nI 170)) (upd (upd (upd (upd (upd (upd (upd (fun _ => 0) 0 (-1)) 1 (-1)) 2 (-1)) 3 (-1)) 4 (-1)) 5 (-1)) 6 (-1)) (fun _ => 0) (fun _ => 0) (fun _ => 0) (fun _ => 0) ++ (dW E d v0 v1 t u9 (nI 0) (nI 0) (fun _ => 0) ua sg0 sf0 ++ tlW E v1 uB (fun _ => sg0) (fun _ => sf0))) F hE 2 rfl (by decide) (by decide) dL_law_79 rfl ?_
    refine GW.aload F dL_law_80 (lv_at hl 6 rfl) ?_
    refine GW.iload F dL_law_82 (lv_at hl 0 rfl) ?_
    refine GW.iconst (v := (-1)) F dL_law_84 (by decide) ?_
    refine GW.isn (i := 7) (ws' := W8 E u0 u1 u2 u3 u4 u5 u6 u7 (fun _ => 0) (upd (upd (fun _ => 0) 1 (nI 2000)) 3 (-1)) (upd (upd (upd (upd (upd (upd (upd (upd (fun _ => 0) 0 (nI 170)) 1 (nI 170)) 2 (nI 170)) 3 (nI 170)) 4 (nI 170)) 5 (nI 170)) 6 (nI 170)) 7 (nI 170)) (upd (upd (upd (upd (upd (upd (upd (upd (fun _ => 0) 0 (-1)) 1 (-1)) 2 (-1)) 3 (-1)) 4 (-1)) 5 (-1)) 6 (-1)) 7 (-1)) (fun _ => 0) (fun _ => 0) (fun _ => 0) (fun _ => 0) ++ (dW E d v0 v1 t u9 (nI 0) (nI 0) (fun _ => 0) ua sg0 sf0 ++ tlW E v1 uB (fun _ => sg0) (fun _ => sf0))) F hE 3 rfl (by decide) (by decide) dL_law_85 rfl ?_
    refine GV.iinc (j := 0) (y := nI 8) (lv' := [(10, .int (nI 8)), (9, .ref u0), (8, .ref u7), (7, .ref u6), (6, .ref u5), (5, .ref u4), (4, .ref u3), (3, .ref u2), (2, .ref u1), (1, .ref d), (0, .ref b)]) F dL_law_86 hl rfl (by decide) (by decide) rfl (fun ls hl => ?_)
    refine GW.goto (tgt := 66) F dL_law_89 (by decide) ?_
    refine GW.iload F dL_law_66 (lv_at hl 0 rfl) ?_
    refine GW.bipush (v := nI 8) F dL_law_68 (by decide) ?_
    refine GW.icmp_ge (tgt := 92) F dL_law_70 (by decide) (fun _ _ => ?_) (fun h => absurd (by decide) h)
    refine GW.iconst (v := nI 0) F dL_law_92 (by decide) ?_
    refine GW.istore (lv' := [(10, .int (nI 0)), (9, .ref u0), (8, .ref u7), (7, .ref u6), (6, .ref u5), (5, .ref u4), (4, .ref u3), (3, .ref u2), (2, .ref u1), (1, .ref d), (0, .ref b)]) F dL_law_93 hl (by decide) rfl (fun ls hl => ?_)
    refine law_loop F hE hA hX hbl hbA (by omega) hst (K1 := 600130) (N1 := 7301080) (Nat.le_refl _) (Nat.le_refl _) (fun ws k n ls hk hn => ?_) 40 0 rfl (fun _ => 0) qs0 zs0 fo0 (fun _ => 0) (fun _ => 0) (fun _ => 0) (fun _ => 0) sg0 sf0 0 uB (fun _ => sg0) (fun _ => sf0) _ _ ls LI_0 (by decide) (by exact Nat.le_of_ble_eq_true rfl) (by exact Nat.le_of_ble_eq_true rfl) (lv_sub hl [10, 9, 8, 7, 6, 5, 4, 3, 2, 1, 0] rfl)
    refine GV.iconst (v := nI 1) F dL_law_630 (by decide) ?_
    exact fun H locs hP hD hS => W.widen hk hn (va_forget hS.2.2 (W.base (lw_ret (d0 := s.drawn) (Drawn.sameBut.refl s.drawn lw_cs) hx hb hr hlocks dL_law_631)))
  exact main s.heap [] (fun k q h => by simp at h) ⟨fun i j p q h => by simp at h, fun k q h => by simp at h⟩ va_S.rf
