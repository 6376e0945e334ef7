/-! the start of the law -/
section GVz
variable {p : Program} {l : Launch} {e : Env} {R : Room} {s : State} {m : MethodId} {args : Array Value} {below : List Frame} {meth : Method} {c : Code} {E : EV} {A : Nat → Prop} {Q : State → Prop} {ws : va_W} {k n : Nat}
variable {cc : ByteArray} {nL : Nat} {own : String} {pc : Nat} {ls : Array Slot} {st : List Value}
theorem GV.callM (F : CallFix p m c cc nL s args LW own) (hE : CE E A s s.heap) (hA : ∀ q, s.heap.size ≤ q → A q) (hO : va_AO RX5 s) {idx o : Nat} {y : MethodName} {bytes : ByteArray} {maxL fr lo mc ms : Nat} {wa wc wb : va_W} {S : Type} {post : S → Prop} {Wn : S → va_W} (hM : Cn l E y bytes maxL fr lo mc ms o wc post Wn)
    (cw : CallB R s args own idx y bytes maxL none (Cond.code y bytes maxL none :: LW) (rmk fr mc ms lo) mc ms 0 ∧ y.name = "<init>" ∧ (Cond.instanceMethod y).before args s = true) (hw : ws = wa ++ (wc ++ wb)) (hsz : ls.size = nL) (hroom : (st.map fun v => v.category).sum ≤ 8) (hf : k + mc ≤ R.cells ∧ n + ms ≤ R.slots) (hd : decode cc pc = .ok (.invokespecial idx, 3))
    (kk : ∀ u, post u → GV p l e R s m args below meth c E A Q (wa ++ (Wn u ++ wb)) (k + mc) (n + ms) (F0 m (pc + 3) ls st)) : GV p l e R s m args below meth c E A Q ws k n (F0 m pc ls (.ref o :: st)) := by
  intro H locs hP hD hS
  subst hw
  have hPc := P_mid hP
  have hDc := D_mid hD
  have hF : ∀ q, va_A wc H.size q → A q := fun q h => by
    rcases h with ⟨j, e, h⟩ | h
    · exact D_in hDc _ (List.mem_of_getElem? h)
    · exact hA q (Nat.le_trans hS.1 h)
  refine va_callv (va_runI (As := []) (rest := st) F (hM H.size) cw ⟨fun a U g mk q => ⟨q.1, q.2.1, q.2.2.1, q.2.2.2.1.same rfl, q.2.2.2.2.1, va_AO.moved (Vm.Alike.refl U.vm) q.2.2.2.2.2⟩, fun U hU hW => ⟨rfl, by rw [hU], by rw [hU]; exact hPc, by rw [hU]; exact hE.tr hW (fun q h1 h2 => hS.2.1 q h1 h2) hF, hDc.weaken (fun _ _ _ _ => trivial), va_AO.moved hW.alike hO⟩⟩ rfl rfl hsz rfl (lv_room hroom) hd hf) hS (fun q _ h => hF q h) hF (fun u t H1 locs1 ht hvm hp hB hz1 hk1 hS1 => ?_)
  obtain ⟨hP1, hD1⟩ := hB
  rw [ht] at hP1
  obtain ⟨P1, D1⟩ := join3 hP hD hk1 hF hP1 hD1
  exact kk u hp H1 locs1 P1 D1 hS1
end GVz
theorem ra0 : RA sg0 sf0 ms0 := by unfold RA; decide +kernel
theorem rz0 : ∀ p, p < 8 → ms0 (10 + p) = nI 170 := by decide +kernel
theorem ry0 : (∀ p, p < 8 → ms0 (18 + p) = latC (sf0 12) (sf0 13) (nI p) 0) ∧ (∀ p, p < 8 → ms0 (26 + p) = sbyC (sf0 12) (sf0 13) (nI p) 0) ∧ ms0 5 = dblC (sf0 11) (sf0 12) (sf0 13) 0 := by decide +kernel
theorem rx0 : ms0 0 = nI 0 ∧ ms0 8 = nI 0 ∧ ms0 9 = nI 0 ∧ ms0 4 = nI 0 ∧ ∀ x, x < 10 → ms0 (250 + 5 * x + 2) = nI 0 := by decide +kernel
theorem Rc_0 : Rc sg0 sf0 ms0 := ⟨0, 0, 0, 0, fun _ => 0, ra0, ⟨⟨rx0.1, by omega, rx0.2.1, by omega, rx0.2.2.1, by omega, rx0.2.2.2.1, by omega, fun x hx => ⟨rx0.2.2.2.2 x hx, by show 0 < 8; omega⟩⟩, fun p hp => ⟨170, rz0 p hp, by omega, by omega⟩, fun i h => absurd h (by omega), fun i h => absurd h (by omega), fun i h => absurd h (by omega), fun i h => absurd h (by omega)⟩, ry0⟩
theorem LI_0 {E : EV} {d v0 v1 t u : Nat} {a : Nat → Nat} {B : Nat → Nat → Nat} {am : Nat → Nat} : LI E d (am 0) (dW E d v0 v1 t u (nI 0) (nI 0) (fun _ => 0) a sg0 sf0 ++ tlW E v1 B (fun _ => sg0) (fun _ => sf0)) (mdW E am 0 0 0 0 0 ms0 (fun _ => 0) (fun _ => 0) (fun _ => 0)) :=
  LI_same (n := 0) (L := 0) (by omega) (by omega) (fun j h => absurd h (by omega)) Rc_0 (fun i h => absurd h (by omega))
theorem clL_8 : Cond.classLink RL 8 RX6 ∈ LW := LW_mk 67 (by decide +kernel) rfl
theorem clL_83 : Cond.classLink RL 83 RX7 ∈ LW := LW_mk 882 (by decide +kernel) rfl
set_option maxHeartbeats 4000000 in
set_option maxRecDepth 100000 in
theorem whole_start {p : Program} {e : Env} {s : State} {m : MethodId} {below : List Frame} {meth : Method} {c : Code} (l : Launch) (hflags : l.flags = flags0) {b L : Nat} {xs : Nat → Int32} (hL : L ≤ 2048) (C0 : lw_At p s m meth c b L xs) : W p l e room_1 s m #[Value.ref b] below meth c s.heap [] 0 0 (lw_Z below #[Value.ref b] s) (entryFrame m ([Value.ref b] : List Value).toArray 9) := by
  obtain ⟨E, hE, hO⟩ := env_at C0
  obtain ⟨hx, hb, hr, hml, hown, hts, hX, hbl, hlocks, hgv⟩ := C0
  have hst : l.stackTraces = false := by
    unfold Launch.stackTraces
    rw [hflags]
    decide +kernel
  have hA : ∀ q : Nat, s.heap.size ≤ q → (fun q : Nat => s.heap.size ≤ q) q := fun _ h => h
  have hbA : ¬ (fun q : Nat => s.heap.size ≤ q) b := Nat.not_le.mpr hbl
  have F : CallFix p m c cL_law 9 s #[Value.ref b] LW RL := ⟨hx, hb, hml, hown, fun w h => hts w (List.mem_filter.mp h).1⟩
  have hl := lv_entry ([.ref b]) (n := 9) (Nat.le_of_ble_eq_true rfl)
  rw [lg_entry_eq]
  generalize (lg_sl ([.ref b]) ++ List.replicate (9 - (lg_sl ([.ref b])).length) Slot.unset).toArray = ls at hl ⊢
  have hl : lv_has ls 9 [(0, .ref b)] := hl
  have main : GV p l e room_1 s m #[Value.ref b] below meth c E (fun q : Nat => s.heap.size ≤ q) (lw_Z below #[Value.ref b] s) [] 0 0 (F0 m 0 ls []) := by
    refine GV.new F hE hA (T := TX6) (N := 3) (ci := 6) (fs := [.null, .null, .null]) uX6 tyX6 tyX6_ok clL_8 inX6 iniX6 rfl (fun j hj => by rcases (show j = 0 ∨ j = 1 ∨ j = 2 by omega) with rfl | rfl | rfl <;> rfl) (by exact Nat.le_of_ble_eq_true rfl) (by exact Nat.le_of_ble_eq_true rfl) dL_law_0 (fun d => ?_)
    refine GV.dup F dL_law_3 ?_
    refine GV.callM (wa := []) (wb := []) F hE hA hO (c_X6_init l E d) (kL_82 F.2.2.2.2 ⟨Nat.le_of_ble_eq_true rfl, Nat.le_of_ble_eq_true rfl⟩) rfl hl.1 (Nat.le_of_ble_eq_true rfl) ⟨by exact Nat.le_of_ble_eq_true rfl, by exact Nat.le_of_ble_eq_true rfl⟩ dL_law_4 (fun u hu => ?_)
    obtain ⟨ua, v0, v1, t, u0, uB⟩ := u
    refine GV.weq (ws' := dW E d v0 v1 t u0 (nI 0) (nI 0) (fun _ => 0) ua sg0 sf0 ++ tlW E v1 uB (fun _ => sg0) (fun _ => sf0)) (by rw [List.nil_append, List.append_nil]) ?_
    refine GV.astore_n (lv' := [(1, .ref d), (0, .ref b)]) F dL_law_7 rfl hl (by decide) rfl (fun ls hl => ?_)
    refine GV.new F hE hA (T := TX7) (N := 9) (ci := 7) (fs := [.int 0, .null, .null, .int 0, .null, .int 0, .int 0, .null, .long 0]) uX7 tyX7 tyX7_ok clL_83 inX7 iniX7 rfl (fun j hj => by rcases (show j = 0 ∨ j = 1 ∨ j = 2 ∨ j = 3 ∨ j = 4 ∨ j = 5 ∨ j = 6 ∨ j = 7 ∨ j = 8 by omega) with rfl | rfl | rfl | rfl | rfl | rfl | rfl | rfl | rfl <;> rfl) (by exact Nat.le_of_ble_eq_true rfl) (by exact Nat.le_of_ble_eq_true rfl) dL_law_8 (fun a0 => ?_)
    refine GV.dup F dL_law_11 ?_
    refine GV.callM (wb := []) F hE hA hO (c_X7_init l E a0) (kL_85 F.2.2.2.2 ⟨Nat.le_of_ble_eq_true rfl, Nat.le_of_ble_eq_true rfl⟩) rfl hl.1 (Nat.le_of_ble_eq_true rfl) ⟨by exact Nat.le_of_ble_eq_true rfl, by exact Nat.le_of_ble_eq_true rfl⟩ dL_law_12 (fun w hw => ?_)
    subst hw
    refine GV.astore_n (lv' := [(2, .ref (w 0)), (1, .ref d), (0, .ref b)]) F dL_law_15 rfl hl (by decide) rfl (fun ls hl => ?_)
    refine GV.iconst (v := nI 1) F dL_law_16 (by decide) ?_
    refine GV.newl F hE hA arLong (N := 1) (by decide) (by exact Nat.le_of_ble_eq_true rfl) (by exact Nat.le_of_ble_eq_true rfl) dL_law_17 (fun o => ?_)
    refine GV.astore_n (lv' := [(3, .ref o), (2, .ref (w 0)), (1, .ref d), (0, .ref b)]) F dL_law_19 rfl hl (by decide) rfl (fun ls hl => ?_)
    refine GV.iconst (v := nI 0) F dL_law_20 (by decide) ?_
    refine GV.istore (lv' := [(4, .int (nI 0)), (3, .ref o), (2, .ref (w 0)), (1, .ref d), (0, .ref b)]) F dL_law_21 hl (by decide) rfl (fun ls hl => ?_)
    refine GV.perm (us := rl_ E o 1 (fun _ => 0) :: ((dW E d v0 v1 t u0 (nI 0) (nI 0) (fun _ => 0) ua sg0 sf0 ++ tlW E v1 uB (fun _ => sg0) (fun _ => sf0)) ++ mdW E w 0 0 0 0 0 ms0 (fun _ => 0) (fun _ => 0) (fun _ => 0))) (by rw [List.append_nil]; exact List.perm_append_comm) ?_
    refine law_loop F hE hA hX hbl hbA hL hst (K1 := 601024) (N1 := 7293034) (Nat.le_refl _) (Nat.le_refl _) (fun f wx wm k n ls hk hn => ?_) 512 0 _ _ _ _ _ ls (Nat.zero_le L) (by omega) LI_0 (lv_sub hl [4, 3, 2, 1, 0] rfl) (by exact Nat.le_of_ble_eq_true rfl) (by exact Nat.le_of_ble_eq_true rfl)
    refine GV.iconst (v := nI 1) F dL_law_1631 (by decide) ?_
    exact fun H locs hP hD hS => W.widen hk hn (va_forget hS.2.2 (W.base (lw_ret (d0 := s.drawn) (Drawn.sameBut.refl s.drawn lw_cs) hx hb hr hlocks dL_law_1632)))
  exact main s.heap [] (fun k q h => by simp at h) ⟨fun i j p q h => by simp at h, fun k q h => by simp at h⟩ va_S.rf
