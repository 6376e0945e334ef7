section GVx
variable {p : Program} {l : Launch} {e : Env} {R : Room} {s : State} {m : MethodId} {args : Array Value} {below : List Frame} {meth : Method} {c : Code} {E : EV} {A : Nat → Prop} {Q : State → Prop} {ws : va_W} {k n : Nat}
variable {cc : ByteArray} {nL : Nat} {own : String} {pc : Nat} {ls : Array Slot} {st : List Value} {g g2 : JFrame}
theorem GV.aload (F : CallFix p m c cc nL s args LW own) {i : Nat} {x : Nat} (hd : decode cc pc = .ok (.aload i, 2)) (hl : ls[i]? = some (.val (.ref x))) (kk : GV p l e R s m args below meth c E A Q ws k n (F0 m (pc + 2) ls (.ref x :: st))) : GV p l e R s m args below meth c E A Q ws k n (F0 m pc ls st) := GV.go (fun _ _ kk => lv_aload F.1 F.2.1 hd hl kk) kk
theorem GV.astore (F : CallFix p m c cc nL s args LW own) {i : Nat} {x : Nat} {lv lv' : List (Nat × Value)} (hd : decode cc pc = .ok (.astore i, 2)) (h : lv_has ls nL lv) (hn : i < nL) (hl : (i, Value.ref x) :: lv.filter (fun q => !(q.1 == i) && !(q.1 + 1 == i && q.2.category == 2)) = lv') (kk : ∀ ls' : Array Slot, lv_has ls' nL lv' → GV p l e R s m args below meth c E A Q ws k n (F0 m (pc + 2) ls' st)) : GV p l e R s m args below meth c E A Q ws k n (F0 m pc ls (.ref x :: st)) := fun H locs a b d => lv_astore F.1 F.2.1 hd h hn hl (fun ls' h' => kk ls' h' H locs a b d)
theorem GV.astore_n (F : CallFix p m c cc nL s args LW own) {k0 : Fin 4} {i : Nat} {x : Nat} {lv lv' : List (Nat × Value)} (hd : decode cc pc = .ok (.astore_n k0, 1)) (hi : (k0 : Nat) = i) (h : lv_has ls nL lv) (hn : i < nL) (hl : (i, Value.ref x) :: lv.filter (fun q => !(q.1 == i) && !(q.1 + 1 == i && q.2.category == 2)) = lv') (kk : ∀ ls' : Array Slot, lv_has ls' nL lv' → GV p l e R s m args below meth c E A Q ws k n (F0 m (pc + 1) ls' st)) : GV p l e R s m args below meth c E A Q ws k n (F0 m pc ls (.ref x :: st)) := fun H locs a b d => lv_astore_n F.1 F.2.1 hd hi h hn hl (fun ls' h' => kk ls' h' H locs a b d)
theorem GV.iload (F : CallFix p m c cc nL s args LW own) {i : Nat} {x : Int32} (hd : decode cc pc = .ok (.iload i, 2)) (hl : ls[i]? = some (.val (.int x))) (kk : GV p l e R s m args below meth c E A Q ws k n (F0 m (pc + 2) ls (.int x :: st))) : GV p l e R s m args below meth c E A Q ws k n (F0 m pc ls st) := GV.go (fun _ _ kk => lv_iload F.1 F.2.1 hd hl kk) kk
theorem GV.sld (F : CallFix p m c cc nL s args LW own) {b L i : Nat} {xs : Nat → Int32} (hX : va_X b L xs s s.heap) (hbl : b < s.heap.size) (hbA : ¬ A b) (hi : i < L) (hL : L < 2 ^ 31) (hd : decode cc pc = .ok (.iaload, 1)) (kk : GV p l e R s m args below meth c E A Q ws k n (F0 m (pc + 1) ls (.int (xs i) :: st))) : GV p l e R s m args below meth c E A Q ws k n (F0 m pc ls (.int (nI i) :: .ref b :: st)) := fun H locs hP hD hS => va_sld F.1 F.2.1 hX hbl hbA hS (vp_in_nI hi hL) hd (by rw [nI_clamp (by omega)]; exact kk H locs hP hD hS)
theorem GV.slen (F : CallFix p m c cc nL s args LW own) {b L : Nat} {xs : Nat → Int32} (hX : va_X b L xs s s.heap) (hbl : b < s.heap.size) (hbA : ¬ A b) (hd : decode cc pc = .ok (.arraylength, 1)) (kk : GV p l e R s m args below meth c E A Q ws k n (F0 m (pc + 1) ls (.int (nI L) :: st))) : GV p l e R s m args below meth c E A Q ws k n (F0 m pc ls (.ref b :: st)) := fun H locs hP hD hS => va_slen F.1 F.2.1 hX hbl hbA hS hd (kk H locs hP hD hS)
theorem GV.tableIn (F : CallFix p m c cc nL s args LW own) {dflt lo hi : Int} {offs : Array Int} {len : Nat} {x : Int32} {off : Int} {tgt : Nat} (hd : decode cc pc = .ok (.tableswitch dflt lo hi offs, len)) (h1 : ¬ x.toInt < lo) (h2 : ¬ hi < x.toInt) (ho : offs[(x.toInt - lo).toNat]? = some off) (ht : (pc : Int) + off = (tgt : Int)) (kk : GV p l e R s m args below meth c E A Q ws k n (F0 m tgt ls st)) : GV p l e R s m args below meth c E A Q ws k n (F0 m pc ls (.int x :: st)) := GV.go (fun _ _ kk => lv_tableIn F.1 F.2.1 hd h1 h2 ho ht kk) kk
theorem GV.tableOut (F : CallFix p m c cc nL s args LW own) {dflt lo hi : Int} {offs : Array Int} {len : Nat} {x : Int32} {tgt : Nat} (hd : decode cc pc = .ok (.tableswitch dflt lo hi offs, len)) (h : x.toInt < lo ∨ hi < x.toInt) (ht : (pc : Int) + dflt = (tgt : Int)) (kk : GV p l e R s m args below meth c E A Q ws k n (F0 m tgt ls st)) : GV p l e R s m args below meth c E A Q ws k n (F0 m pc ls (.int x :: st)) := GV.go (fun _ _ kk => lv_tableOut F.1 F.2.1 hd h ht kk) kk
end GVx
theorem lg_self (x : Int64) : lg_cmp x x = 0 := by
  unfold lg_cmp
  rw [if_neg (by intro h; exact absurd h Int64.lt_irrefl), if_pos rfl]
theorem casI : Cond.castable xI xI ∈ NWL := NWL_mk 438 (by decide +kernel) rfl
theorem clL_16 : Cond.classLink RL 16 xI ∈ LW := LW_mk 428 (by decide +kernel) rfl
theorem casA : Cond.castable xA xA ∈ NWL := NWL_mk 319 (by decide +kernel) rfl
theorem clL_18 : Cond.classLink RL 18 xA ∈ LW := LW_mk 306 (by decide +kernel) rfl
theorem casS : Cond.castable xS xS ∈ NWL := NWL_mk 202 (by decide +kernel) rfl
theorem clL_24 : Cond.classLink RL 24 xS ∈ LW := LW_mk 192 (by decide +kernel) rfl
theorem wd_L_size : Cond.codeWith yL_size cL_size 4 (some .int) [(0, 6, 7, 16), (0, 6, 11, 18)] ∈ LW := LW_mk 498 (by decide +kernel) rfl
theorem lwL_size : Cond.methodLink RL 97 yL_size ∈ LW := LW_mk 496 (by decide +kernel) rfl
theorem stL_size : Cond.static yL_size ∈ LW := LW_mk 497 (by decide +kernel) rfl
theorem kx_size {R : Room} {s : State} {args : Array Value} {fr mc ms lo : Nat} (hts : ∀ w ∈ LW, w.before args s = true) (hR : fr + 1 ≤ R.frames ∧ 8 + (4 + 11) + lo ≤ R.locals) : vx_CSW R s args RL 97 yL_size cL_size 4 (some .int) [(0, 6, 7, 16), (0, 6, 11, 18)] (Cond.codeWith yL_size cL_size 4 (some .int) [(0, 6, 7, 16), (0, 6, 11, 18)] :: LW) (rmk fr mc ms lo) mc ms 3 := vx_cwSW 3 hts (LW_GIl (l := [.methodLink RL 97 yL_size, .static yL_size, .initialized RL]) (List.forall_mem_cons.mpr ⟨lwL_size, List.forall_mem_cons.mpr ⟨stL_size, List.forall_mem_cons.mpr ⟨iniL, fun _ h => absurd h List.not_mem_nil⟩⟩⟩) wd_L_size) rfl rfl rfl ⟨by decide, by decide, by decide +kernel⟩ hR
theorem wd_L_pass : Cond.codeWith yL_pass cL_pass 3 (some .int) [(0, 5, 6, 18), (0, 5, 10, 24)] ∈ LW := LW_mk 520 (by decide +kernel) rfl
theorem lwL_pass : Cond.methodLink RL 99 yL_pass ∈ LW := LW_mk 518 (by decide +kernel) rfl
theorem stL_pass : Cond.static yL_pass ∈ LW := LW_mk 519 (by decide +kernel) rfl
theorem kx_pass {R : Room} {s : State} {args : Array Value} {fr mc ms lo : Nat} (hts : ∀ w ∈ LW, w.before args s = true) (hR : fr + 1 ≤ R.frames ∧ 8 + (3 + 11) + lo ≤ R.locals) : vx_CSW R s args RL 99 yL_pass cL_pass 3 (some .int) [(0, 5, 6, 18), (0, 5, 10, 24)] (Cond.codeWith yL_pass cL_pass 3 (some .int) [(0, 5, 6, 18), (0, 5, 10, 24)] :: LW) (rmk fr mc ms lo) mc ms 2 := vx_cwSW 2 hts (LW_GIl (l := [.methodLink RL 99 yL_pass, .static yL_pass, .initialized RL]) (List.forall_mem_cons.mpr ⟨lwL_pass, List.forall_mem_cons.mpr ⟨stL_pass, List.forall_mem_cons.mpr ⟨iniL, fun _ h => absurd h List.not_mem_nil⟩⟩⟩) wd_L_pass) rfl rfl rfl ⟨by decide, by decide, by decide +kernel⟩ hR
theorem wd_L_rehearse : Cond.codeWith yL_rehearse cL_rehearse 5 (some .int) [(0, 7, 8, 16), (0, 7, 13, 18), (0, 7, 18, 24)] ∈ LW := LW_mk 535 (by decide +kernel) rfl
theorem lwL_rehearse : Cond.methodLink RL 101 yL_rehearse ∈ LW := LW_mk 533 (by decide +kernel) rfl
theorem stL_rehearse : Cond.static yL_rehearse ∈ LW := LW_mk 534 (by decide +kernel) rfl
theorem kx_rehearse {R : Room} {s : State} {args : Array Value} {fr mc ms lo : Nat} (hts : ∀ w ∈ LW, w.before args s = true) (hR : fr + 1 ≤ R.frames ∧ 8 + (5 + 11) + lo ≤ R.locals) : vx_CSW R s args RL 101 yL_rehearse cL_rehearse 5 (some .int) [(0, 7, 8, 16), (0, 7, 13, 18), (0, 7, 18, 24)] (Cond.codeWith yL_rehearse cL_rehearse 5 (some .int) [(0, 7, 8, 16), (0, 7, 13, 18), (0, 7, 18, 24)] :: LW) (rmk fr mc ms lo) mc ms 4 := vx_cwSW 4 hts (LW_GIl (l := [.methodLink RL 101 yL_rehearse, .static yL_rehearse, .initialized RL]) (List.forall_mem_cons.mpr ⟨lwL_rehearse, List.forall_mem_cons.mpr ⟨stL_rehearse, List.forall_mem_cons.mpr ⟨iniL, fun _ h => absurd h List.not_mem_nil⟩⟩⟩) wd_L_rehearse) rfl rfl rfl ⟨by decide, by decide, by decide +kernel⟩ hR
theorem wd_L_hurt : Cond.codeWith yL_hurt cL_hurt 5 (some .int) [(0, 7, 8, 16), (0, 7, 13, 18)] ∈ LW := LW_mk 574 (by decide +kernel) rfl
theorem lwL_hurt : Cond.methodLink RL 104 yL_hurt ∈ LW := LW_mk 572 (by decide +kernel) rfl
theorem stL_hurt : Cond.static yL_hurt ∈ LW := LW_mk 573 (by decide +kernel) rfl
theorem kx_hurt {R : Room} {s : State} {args : Array Value} {fr mc ms lo : Nat} (hts : ∀ w ∈ LW, w.before args s = true) (hR : fr + 1 ≤ R.frames ∧ 8 + (5 + 11) + lo ≤ R.locals) : vx_CSW R s args RL 104 yL_hurt cL_hurt 5 (some .int) [(0, 7, 8, 16), (0, 7, 13, 18)] (Cond.codeWith yL_hurt cL_hurt 5 (some .int) [(0, 7, 8, 16), (0, 7, 13, 18)] :: LW) (rmk fr mc ms lo) mc ms 4 := vx_cwSW 4 hts (LW_GIl (l := [.methodLink RL 104 yL_hurt, .static yL_hurt, .initialized RL]) (List.forall_mem_cons.mpr ⟨lwL_hurt, List.forall_mem_cons.mpr ⟨stL_hurt, List.forall_mem_cons.mpr ⟨iniL, fun _ h => absurd h List.not_mem_nil⟩⟩⟩) wd_L_hurt) rfl rfl rfl ⟨by decide, by decide, by decide +kernel⟩ hR
theorem wd_L_insure : Cond.codeWith yL_insure cL_insure 4 (some .int) [(0, 6, 7, 18), (0, 6, 11, 24)] ∈ LW := LW_mk 589 (by decide +kernel) rfl
theorem lwL_insure : Cond.methodLink RL 106 yL_insure ∈ LW := LW_mk 587 (by decide +kernel) rfl
theorem stL_insure : Cond.static yL_insure ∈ LW := LW_mk 588 (by decide +kernel) rfl
theorem kx_insure {R : Room} {s : State} {args : Array Value} {fr mc ms lo : Nat} (hts : ∀ w ∈ LW, w.before args s = true) (hR : fr + 1 ≤ R.frames ∧ 8 + (4 + 11) + lo ≤ R.locals) : vx_CSW R s args RL 106 yL_insure cL_insure 4 (some .int) [(0, 6, 7, 18), (0, 6, 11, 24)] (Cond.codeWith yL_insure cL_insure 4 (some .int) [(0, 6, 7, 18), (0, 6, 11, 24)] :: LW) (rmk fr mc ms lo) mc ms 3 := vx_cwSW 3 hts (LW_GIl (l := [.methodLink RL 106 yL_insure, .static yL_insure, .initialized RL]) (List.forall_mem_cons.mpr ⟨lwL_insure, List.forall_mem_cons.mpr ⟨stL_insure, List.forall_mem_cons.mpr ⟨iniL, fun _ h => absurd h List.not_mem_nil⟩⟩⟩) wd_L_insure) rfl rfl rfl ⟨by decide, by decide, by decide +kernel⟩ hR
theorem wd_L_scene : Cond.codeWith yL_scene cL_scene 5 (some .int) [(0, 7, 8, 16), (0, 7, 13, 18), (0, 7, 18, 24)] ∈ LW := LW_mk 608 (by decide +kernel) rfl
theorem lwL_scene : Cond.methodLink RL 108 yL_scene ∈ LW := LW_mk 606 (by decide +kernel) rfl
theorem stL_scene : Cond.static yL_scene ∈ LW := LW_mk 607 (by decide +kernel) rfl
theorem kx_scene {R : Room} {s : State} {args : Array Value} {fr mc ms lo : Nat} (hts : ∀ w ∈ LW, w.before args s = true) (hR : fr + 1 ≤ R.frames ∧ 8 + (5 + 11) + lo ≤ R.locals) : vx_CSW R s args RL 108 yL_scene cL_scene 5 (some .int) [(0, 7, 8, 16), (0, 7, 13, 18), (0, 7, 18, 24)] (Cond.codeWith yL_scene cL_scene 5 (some .int) [(0, 7, 8, 16), (0, 7, 13, 18), (0, 7, 18, 24)] :: LW) (rmk fr mc ms lo) mc ms 4 := vx_cwSW 4 hts (LW_GIl (l := [.methodLink RL 108 yL_scene, .static yL_scene, .initialized RL]) (List.forall_mem_cons.mpr ⟨lwL_scene, List.forall_mem_cons.mpr ⟨stL_scene, List.forall_mem_cons.mpr ⟨iniL, fun _ h => absurd h List.not_mem_nil⟩⟩⟩) wd_L_scene) rfl rfl rfl ⟨by decide, by decide, by decide +kernel⟩ hR
theorem wd_L_shoot : Cond.codeWith yL_shoot cL_shoot 4 (some .int) [(0, 6, 7, 16), (0, 6, 11, 24)] ∈ LW := LW_mk 620 (by decide +kernel) rfl
theorem lwL_shoot : Cond.methodLink RL 110 yL_shoot ∈ LW := LW_mk 618 (by decide +kernel) rfl
theorem stL_shoot : Cond.static yL_shoot ∈ LW := LW_mk 619 (by decide +kernel) rfl
theorem kx_shoot {R : Room} {s : State} {args : Array Value} {fr mc ms lo : Nat} (hts : ∀ w ∈ LW, w.before args s = true) (hR : fr + 1 ≤ R.frames ∧ 8 + (4 + 11) + lo ≤ R.locals) : vx_CSW R s args RL 110 yL_shoot cL_shoot 4 (some .int) [(0, 6, 7, 16), (0, 6, 11, 24)] (Cond.codeWith yL_shoot cL_shoot 4 (some .int) [(0, 6, 7, 16), (0, 6, 11, 24)] :: LW) (rmk fr mc ms lo) mc ms 3 := vx_cwSW 3 hts (LW_GIl (l := [.methodLink RL 110 yL_shoot, .static yL_shoot, .initialized RL]) (List.forall_mem_cons.mpr ⟨lwL_shoot, List.forall_mem_cons.mpr ⟨stL_shoot, List.forall_mem_cons.mpr ⟨iniL, fun _ h => absurd h List.not_mem_nil⟩⟩⟩) wd_L_shoot) rfl rfl rfl ⟨by decide, by decide, by decide +kernel⟩ hR
theorem wd_L_undo : Cond.codeWith yL_undo cL_undo 2 (some .int) [(0, 4, 5, 24)] ∈ LW := LW_mk 191 (by decide +kernel) rfl
theorem lwL_undo : Cond.methodLink RL 144 yL_undo ∈ LW := LW_mk 189 (by decide +kernel) rfl
theorem stL_undo : Cond.static yL_undo ∈ LW := LW_mk 190 (by decide +kernel) rfl
theorem kx_undo {R : Room} {s : State} {args : Array Value} {fr mc ms lo : Nat} (hts : ∀ w ∈ LW, w.before args s = true) (hR : fr + 1 ≤ R.frames ∧ 8 + (2 + 11) + lo ≤ R.locals) : vx_CSW R s args RL 144 yL_undo cL_undo 2 (some .int) [(0, 4, 5, 24)] (Cond.codeWith yL_undo cL_undo 2 (some .int) [(0, 4, 5, 24)] :: LW) (rmk fr mc ms lo) mc ms 1 := vx_cwSW 1 hts (LW_GIl (l := [.methodLink RL 144 yL_undo, .static yL_undo, .initialized RL]) (List.forall_mem_cons.mpr ⟨lwL_undo, List.forall_mem_cons.mpr ⟨stL_undo, List.forall_mem_cons.mpr ⟨iniL, fun _ h => absurd h List.not_mem_nil⟩⟩⟩) wd_L_undo) rfl rfl rfl ⟨by decide, by decide, by decide +kernel⟩ hR
theorem wd_L_person : Cond.codeWith yL_person cL_person 4 (some .int) [(0, 6, 7, 16), (0, 6, 11, 18)] ∈ LW := LW_mk 427 (by decide +kernel) rfl
theorem lwL_person : Cond.methodLink RL 92 yL_person ∈ LW := LW_mk 425 (by decide +kernel) rfl
theorem stL_person : Cond.static yL_person ∈ LW := LW_mk 426 (by decide +kernel) rfl
theorem kx_person {R : Room} {s : State} {args : Array Value} {fr mc ms lo : Nat} (hts : ∀ w ∈ LW, w.before args s = true) (hR : fr + 1 ≤ R.frames ∧ 8 + (4 + 11) + lo ≤ R.locals) : vx_CSW R s args RL 92 yL_person cL_person 4 (some .int) [(0, 6, 7, 16), (0, 6, 11, 18)] (Cond.codeWith yL_person cL_person 4 (some .int) [(0, 6, 7, 16), (0, 6, 11, 18)] :: LW) (rmk fr mc ms lo) mc ms 3 := vx_cwSW 3 hts (LW_GIl (l := [.methodLink RL 92 yL_person, .static yL_person, .initialized RL]) (List.forall_mem_cons.mpr ⟨lwL_person, List.forall_mem_cons.mpr ⟨stL_person, List.forall_mem_cons.mpr ⟨iniL, fun _ h => absurd h List.not_mem_nil⟩⟩⟩) wd_L_person) rfl rfl rfl ⟨by decide, by decide, by decide +kernel⟩ hR
theorem wd_L_rehearsed : Cond.codeWith yL_rehearsed cL_rehearsed 5 (some .int) [(0, 7, 8, 16), (0, 7, 13, 18)] ∈ LW := LW_mk 679 (by decide +kernel) rfl
theorem lwL_rehearsed : Cond.methodLink RL 125 yL_rehearsed ∈ LW := LW_mk 677 (by decide +kernel) rfl
theorem stL_rehearsed : Cond.static yL_rehearsed ∈ LW := LW_mk 678 (by decide +kernel) rfl
theorem kx_rehearsed {R : Room} {s : State} {args : Array Value} {fr mc ms lo : Nat} (hts : ∀ w ∈ LW, w.before args s = true) (hR : fr + 1 ≤ R.frames ∧ 8 + (5 + 11) + lo ≤ R.locals) : vx_CSW R s args RL 125 yL_rehearsed cL_rehearsed 5 (some .int) [(0, 7, 8, 16), (0, 7, 13, 18)] (Cond.codeWith yL_rehearsed cL_rehearsed 5 (some .int) [(0, 7, 8, 16), (0, 7, 13, 18)] :: LW) (rmk fr mc ms lo) mc ms 4 := vx_cwSW 4 hts (LW_GIl (l := [.methodLink RL 125 yL_rehearsed, .static yL_rehearsed, .initialized RL]) (List.forall_mem_cons.mpr ⟨lwL_rehearsed, List.forall_mem_cons.mpr ⟨stL_rehearsed, List.forall_mem_cons.mpr ⟨iniL, fun _ h => absurd h List.not_mem_nil⟩⟩⟩) wd_L_rehearsed) rfl rfl rfl ⟨by decide, by decide, by decide +kernel⟩ hR
theorem wd_L_sceneOf : Cond.codeWith yL_sceneOf cL_sceneOf 4 (some .int) [(0, 6, 7, 16), (0, 6, 11, 18)] ∈ LW := LW_mk 470 (by decide +kernel) rfl
theorem lwL_sceneOf : Cond.methodLink RL 95 yL_sceneOf ∈ LW := LW_mk 468 (by decide +kernel) rfl
theorem stL_sceneOf : Cond.static yL_sceneOf ∈ LW := LW_mk 469 (by decide +kernel) rfl
theorem kx_sceneOf {R : Room} {s : State} {args : Array Value} {fr mc ms lo : Nat} (hts : ∀ w ∈ LW, w.before args s = true) (hR : fr + 1 ≤ R.frames ∧ 8 + (4 + 11) + lo ≤ R.locals) : vx_CSW R s args RL 95 yL_sceneOf cL_sceneOf 4 (some .int) [(0, 6, 7, 16), (0, 6, 11, 18)] (Cond.codeWith yL_sceneOf cL_sceneOf 4 (some .int) [(0, 6, 7, 16), (0, 6, 11, 18)] :: LW) (rmk fr mc ms lo) mc ms 3 := vx_cwSW 3 hts (LW_GIl (l := [.methodLink RL 95 yL_sceneOf, .static yL_sceneOf, .initialized RL]) (List.forall_mem_cons.mpr ⟨lwL_sceneOf, List.forall_mem_cons.mpr ⟨stL_sceneOf, List.forall_mem_cons.mpr ⟨iniL, fun _ h => absurd h List.not_mem_nil⟩⟩⟩) wd_L_sceneOf) rfl rfl rfl ⟨by decide, by decide, by decide +kernel⟩ hR
theorem wd_L_count : Cond.codeWith yL_count cL_count 3 (some .int) [(0, 5, 6, 18)] ∈ LW := LW_mk 305 (by decide +kernel) rfl
theorem lwL_count : Cond.methodLink RL 89 yL_count ∈ LW := LW_mk 303 (by decide +kernel) rfl
theorem stL_count : Cond.static yL_count ∈ LW := LW_mk 304 (by decide +kernel) rfl
theorem kx_count {R : Room} {s : State} {args : Array Value} {fr mc ms lo : Nat} (hts : ∀ w ∈ LW, w.before args s = true) (hR : fr + 1 ≤ R.frames ∧ 8 + (3 + 11) + lo ≤ R.locals) : vx_CSW R s args RL 89 yL_count cL_count 3 (some .int) [(0, 5, 6, 18)] (Cond.codeWith yL_count cL_count 3 (some .int) [(0, 5, 6, 18)] :: LW) (rmk fr mc ms lo) mc ms 2 := vx_cwSW 2 hts (LW_GIl (l := [.methodLink RL 89 yL_count, .static yL_count, .initialized RL]) (List.forall_mem_cons.mpr ⟨lwL_count, List.forall_mem_cons.mpr ⟨stL_count, List.forall_mem_cons.mpr ⟨iniL, fun _ h => absurd h List.not_mem_nil⟩⟩⟩) wd_L_count) rfl rfl rfl ⟨by decide, by decide, by decide +kernel⟩ hR
theorem wd_L_refusal : Cond.codeWith yL_refusal cL_refusal 4 (some .int) [(0, 6, 7, 16)] ∈ LW := LW_mk 671 (by decide +kernel) rfl
theorem lwL_refusal : Cond.methodLink RL 120 yL_refusal ∈ LW := LW_mk 669 (by decide +kernel) rfl
theorem stL_refusal : Cond.static yL_refusal ∈ LW := LW_mk 670 (by decide +kernel) rfl
theorem kx_refusal {R : Room} {s : State} {args : Array Value} {fr mc ms lo : Nat} (hts : ∀ w ∈ LW, w.before args s = true) (hR : fr + 1 ≤ R.frames ∧ 8 + (4 + 11) + lo ≤ R.locals) : vx_CSW R s args RL 120 yL_refusal cL_refusal 4 (some .int) [(0, 6, 7, 16)] (Cond.codeWith yL_refusal cL_refusal 4 (some .int) [(0, 6, 7, 16)] :: LW) (rmk fr mc ms lo) mc ms 3 := vx_cwSW 3 hts (LW_GIl (l := [.methodLink RL 120 yL_refusal, .static yL_refusal, .initialized RL]) (List.forall_mem_cons.mpr ⟨lwL_refusal, List.forall_mem_cons.mpr ⟨stL_refusal, List.forall_mem_cons.mpr ⟨iniL, fun _ h => absurd h List.not_mem_nil⟩⟩⟩) wd_L_refusal) rfl rfl rfl ⟨by decide, by decide, by decide +kernel⟩ hR
set_option maxHeartbeats 4000000 in
set_option maxRecDepth 100000 in
theorem c_L_person (l : Launch) (E : EV) {d v0 v1 t u : Nat} {a : Nat → Nat} {g : Nat → Int32} {f : Nat → Nat → Int32} {n m : Int32} {r : Nat → Int32} {p w : Int32} (h1 : 0 ≤ p ∧ p ≤ 7) (h2 : 0 ≤ w ∧ w ≤ 6) : Rx l E yL_person cL_person 4 [(0, 6, 7, 16), (0, 6, 11, 18)] 8 126 [.ref d, .int p, .int w] (dW E d v0 v1 t u n m r a g f) (perC g f p w) := by
  refine Rx.mk0 (by decide) (Nat.le_of_ble_eq_true rfl) ?_
  intro pP eE sS mM aA bB mt cC F hr hk hE ls hl
  have hl : lv_has ls 4 [(0, .ref d), (1, .int p), (2, .int w)] := hl
  refine V.aload_n F dL_person_0 rfl (lv_at hl 0 rfl) ?_
  refine V.iload_n F dL_person_1 rfl (lv_at hl 1 rfl) ?_
  refine V.iload_n F dL_person_2 rfl (lv_at hl 2 rfl) ?_
  refine V.rsV (q0 := 0) F hE (c_X6_person l E h1 h2) (kL_46 F.2.2.2.2 ⟨Nat.le_of_ble_eq_true rfl, Nat.le_of_ble_eq_true rfl⟩) rfl rfl 0 22 (by rfl) rfl hl.1 (Nat.le_of_ble_eq_true rfl) dL_person_3 rfl ?_
  exact V.iretR F hr hk dL_person_6 rfl
set_option maxHeartbeats 4000000 in
set_option maxRecDepth 100000 in
theorem c_L_rehearsed (l : Launch) (E : EV) {d v0 v1 t u : Nat} {a : Nat → Nat} {g : Nat → Int32} {f : Nat → Nat → Int32} {n m : Int32} {r : Nat → Int32} {p k q : Int32} (h1 : 0 ≤ p ∧ p ≤ 7) (h2 : 0 ≤ k ∧ k ≤ 5) (h3 : 1 ≤ q ∧ q ≤ 5) : Rx l E yL_rehearsed cL_rehearsed 5 [(0, 7, 8, 16), (0, 7, 13, 18)] 8 127 [.ref d, .int p, .int k, .int q] (dW E d v0 v1 t u n m r a g f) (cntS g f (g 0) p k q) := by
  refine Rx.mk0 (by decide) (Nat.le_of_ble_eq_true rfl) ?_
  intro pP eE sS mM aA bB mt cC F hr hk hE ls hl
  have hl : lv_has ls 5 [(0, .ref d), (1, .int p), (2, .int k), (3, .int q)] := hl
  refine V.aload_n F dL_rehearsed_0 rfl (lv_at hl 0 rfl) ?_
  refine V.iload_n F dL_rehearsed_1 rfl (lv_at hl 1 rfl) ?_
  refine V.iload_n F dL_rehearsed_2 rfl (lv_at hl 2 rfl) ?_
  refine V.iload_n F dL_rehearsed_3 rfl (lv_at hl 3 rfl) ?_
  refine V.rsV (q0 := 0) F hE (c_X6_rehearsed l E h1 h2 h3) (kL_49 F.2.2.2.2 ⟨Nat.le_of_ble_eq_true rfl, Nat.le_of_ble_eq_true rfl⟩) rfl rfl 0 22 (by rfl) rfl hl.1 (Nat.le_of_ble_eq_true rfl) dL_rehearsed_4 rfl ?_
  exact V.iretR F hr hk dL_rehearsed_7 rfl
set_option maxHeartbeats 4000000 in
set_option maxRecDepth 100000 in
theorem c_L_sceneOf (l : Launch) (E : EV) {d v0 v1 t u : Nat} {a : Nat → Nat} {g : Nat → Int32} {f : Nat → Nat → Int32} {n m : Int32} {r : Nat → Int32} {x w : Int32} (h1 : 0 ≤ x ∧ x < g 8) (h2 : 0 ≤ w ∧ w ≤ 5) : Rx l E yL_sceneOf cL_sceneOf 4 [(0, 6, 7, 16), (0, 6, 11, 18)] 8 141 [.ref d, .int x, .int w] (dW E d v0 v1 t u n m r a g f) (scnC g f x w) := by
  refine Rx.mk0 (by decide) (Nat.le_of_ble_eq_true rfl) ?_
  intro pP eE sS mM aA bB mt cC F hr hk hE ls hl
  have hl : lv_has ls 4 [(0, .ref d), (1, .int x), (2, .int w)] := hl
  refine V.aload_n F dL_sceneOf_0 rfl (lv_at hl 0 rfl) ?_
  refine V.iload_n F dL_sceneOf_1 rfl (lv_at hl 1 rfl) ?_
  refine V.iload_n F dL_sceneOf_2 rfl (lv_at hl 2 rfl) ?_
  refine V.rsV (q0 := 0) F hE (c_X6_sceneOf l E h1 h2) (kL_52 F.2.2.2.2 ⟨Nat.le_of_ble_eq_true rfl, Nat.le_of_ble_eq_true rfl⟩) rfl rfl 0 22 (by rfl) rfl hl.1 (Nat.le_of_ble_eq_true rfl) dL_sceneOf_3 rfl ?_
  exact V.iretR F hr hk dL_sceneOf_6 rfl
set_option maxHeartbeats 4000000 in
set_option maxRecDepth 100000 in
theorem c_L_count (l : Launch) (E : EV) {d v0 v1 t u : Nat} {a : Nat → Nat} {g : Nat → Int32} {f : Nat → Nat → Int32} {n m : Int32} {r : Nat → Int32} {w : Int32} (h1 : 0 ≤ w ∧ w ≤ 10) : Rx l E yL_count cL_count 3 [(0, 5, 6, 18)] 8 161 [.ref d, .int w] (dW E d v0 v1 t u n m r a g f) (cnuC g f n w) := by
  refine Rx.mk0 (by decide) (Nat.le_of_ble_eq_true rfl) ?_
  intro pP eE sS mM aA bB mt cC F hr hk hE ls hl
  have hl : lv_has ls 3 [(0, .ref d), (1, .int w)] := hl
  refine V.aload_n F dL_count_0 rfl (lv_at hl 0 rfl) ?_
  refine V.iload_n F dL_count_1 rfl (lv_at hl 1 rfl) ?_
  refine V.rsV (q0 := 0) F hE (c_X6_count l E h1) (kL_55 F.2.2.2.2 ⟨Nat.le_of_ble_eq_true rfl, Nat.le_of_ble_eq_true rfl⟩) rfl rfl 0 22 (by rfl) rfl hl.1 (Nat.le_of_ble_eq_true rfl) dL_count_2 rfl ?_
  exact V.iretR F hr hk dL_count_5 rfl
set_option maxHeartbeats 4000000 in
set_option maxRecDepth 100000 in
theorem c_L_refusal (l : Launch) (E : EV) {d v0 v1 t u : Nat} {a : Nat → Nat} {g : Nat → Int32} {f : Nat → Nat → Int32} {n m : Int32} {r : Nat → Int32} {x p : Int32} (h1 : 0 ≤ x ∧ x < g 8) (h2 : 0 ≤ p ∧ p ≤ 7) : Rx l E yL_refusal cL_refusal 4 [(0, 6, 7, 16)] 8 127 [.ref d, .int x, .int p] (dW E d v0 v1 t u n m r a g f) (reaC g f (g 0) x p) := by
  refine Rx.mk0 (by decide) (Nat.le_of_ble_eq_true rfl) ?_
  intro pP eE sS mM aA bB mt cC F hr hk hE ls hl
  have hl : lv_has ls 4 [(0, .ref d), (1, .int x), (2, .int p)] := hl
  refine V.aload_n F dL_refusal_0 rfl (lv_at hl 0 rfl) ?_
  refine V.iload_n F dL_refusal_1 rfl (lv_at hl 1 rfl) ?_
  refine V.iload_n F dL_refusal_2 rfl (lv_at hl 2 rfl) ?_
  refine V.rsV (q0 := 0) F hE (c_X6_refusal l E h1 h2) (kL_58 F.2.2.2.2 ⟨Nat.le_of_ble_eq_true rfl, Nat.le_of_ble_eq_true rfl⟩) rfl rfl 0 22 (by rfl) rfl hl.1 (Nat.le_of_ble_eq_true rfl) dL_refusal_3 rfl ?_
  exact V.iretR F hr hk dL_refusal_6 rfl
theorem nI_r {j M : Nat} {y : Int32} (hy : y = nI M) (hM : M < 2 ^ 31) (h : j ≤ M) : 0 ≤ nI j ∧ nI j ≤ y := by
  subst hy
  exact ⟨nI_pos' (by omega), (nI_leI (by omega) hM).mpr h⟩
theorem nI_x {j C : Nat} {y : Int32} (hy : y = nI C) (hC : C < 2 ^ 31) (h : j < C) : 0 ≤ nI j ∧ nI j < y := by
  subst hy
  exact ⟨nI_pos' (by omega), (nI_ltI (by omega) hC).mpr h⟩
def tdA (g : Nat → Int32) (f : Nat → Nat → Int32) (n : Int32) : Nat → Int64
  | 0 => 19
  | k + 1 => 31 * tdA g f n k + (cnuC g f n (nI k)).toInt64
def tdP (g : Nat → Int32) (f : Nat → Nat → Int32) (h : Int64) (p : Nat) : Nat → Int64
  | 0 => h
  | k + 1 => 31 * tdP g f h p k + (perC g f (nI p) (nI k)).toInt64
def tdB (g : Nat → Int32) (f : Nat → Nat → Int32) (h : Int64) : Nat → Int64
  | 0 => h
  | p + 1 => tdP g f (tdB g f h p) p 7
def tdS (g : Nat → Int32) (f : Nat → Nat → Int32) (h : Int64) (x : Nat) : Nat → Int64
  | 0 => h
  | k + 1 => 31 * tdS g f h x k + (scnC g f (nI x) (nI k)).toInt64
def tdC (g : Nat → Int32) (f : Nat → Nat → Int32) (h : Int64) : Nat → Int64
  | 0 => h
  | x + 1 => tdS g f (tdC g f h x) x 6
def tdL (g : Nat → Int32) (f : Nat → Nat → Int32) (n : Int32) (C : Nat) : Int64 := tdC g f (tdB g f (tdA g f n 10) 8) C
set_option maxHeartbeats 4000000 in
set_option maxRecDepth 100000 in
theorem c_L_told (l : Launch) (E : EV) {d v0 v1 t u : Nat} {a : Nat → Nat} {g : Nat → Int32} {f : Nat → Nat → Int32} {n m : Int32} {r : Nat → Int32} {C : Nat} (hC : g 8 = nI C) (hC10 : C ≤ 10) : Rd l E yL_told cL_told 5 (some .long) 9 183 [.ref d] (dW E d v0 v1 t u n m r a g f) (some (.long (tdL g f n C))) := by
  refine Rd.mk0 (by decide) (Nat.le_of_ble_eq_true rfl) ?_
  intro pP eE sS mM aA bB mt cC F hr hk hE ls hl
  have hl : lv_has ls 5 [(0, .ref d)] := hl
  refine V.ldc2 F lL_85 dL_told_0 ?_
  refine V.lstore_n (lv' := [(1, .long 19), (0, .ref d)]) F dL_told_3 rfl hl (by decide) rfl (fun ls hl => ?_)
  refine V.iconst (v := nI 0) F dL_told_4 (by decide) ?_
  refine V.istore_n (lv' := [(3, .int (nI 0)), (1, .long 19), (0, .ref d)]) F dL_told_5 rfl hl (by decide) rfl (fun ls hl => ?_)
  have h3 : nI 0 = nI 0 := (by first | with_reducible rfl | (simp only [tdL, tdA, tdP, tdB, tdS, tdC, oi1n, nI_add, pk_mul, bI, and_true, true_and, and_false, false_and, and_self, or_true, true_or, or_false, false_or, or_self, not_true_eq_false, not_false_eq_true, if_true, if_false, ↓reduceIte] <;> rfl) | rfl | (simp [tdL, tdA, tdP, tdB, tdS, tdC, bI, oi1, nI_succ]; done))
  have h4 : tdA g f n 0 = 19 := (by first | with_reducible rfl | (simp only [tdL, tdA, tdP, tdB, tdS, tdC, oi1n, nI_add, pk_mul, bI, and_true, true_and, and_false, false_and, and_self, or_true, true_or, or_false, false_or, or_self, not_true_eq_false, not_false_eq_true, if_true, if_false, ↓reduceIte] <;> rfl) | rfl | (simp [tdL, tdA, tdP, tdB, tdS, tdC, bI, oi1, nI_succ]; done))
  refine V.loop (N := 10) (k0 := 0) (I := (fun j2 : Nat => [(3, .int (nI j2)), (1, .long (tdA g f n j2)), (0, .ref d)])) (J := fun _ => True) (Nat.zero_le _) trivial (lv_sub hl [0, 1, 2] (by rw [h3, h4]; rfl)) ?_
  intro j2 j2_N j2_J ihj2 ls hl
  have hl : lv_has ls 5 [(3, .int (nI j2)), (1, .long (tdA g f n j2)), (0, .ref d)] := hl
  refine V.iload_n F dL_told_6 rfl (lv_at hl 0 rfl) ?_
  refine V.bipush (v := nI 10) F dL_told_7 (by decide) ?_
  refine V.icmp_ge (tgt := 31) F dL_told_9 (by decide) (fun c5 c5' => ?_) (fun c5 c5' => ?_)
  · skip
    have j2_eq := ((lpL rfl (by omega) j2_N).1 c5).symm
    subst j2_eq
    refine V.iconst (v := nI 0) F dL_told_31 (by decide) ?_
    refine V.istore_n (lv' := [(3, .int (nI 0)), (1, .long (tdA g f n 10)), (0, .ref d)]) F dL_told_32 rfl hl (by decide) rfl (fun ls hl => ?_)
    have h7 : nI 0 = nI 0 := (by first | with_reducible rfl | (simp only [tdL, tdA, tdP, tdB, tdS, tdC, c5, c5', oi1n, nI_add, pk_mul, bI, and_true, true_and, and_false, false_and, and_self, or_true, true_or, or_false, false_or, or_self, not_true_eq_false, not_false_eq_true, if_true, if_false, ↓reduceIte] <;> rfl) | rfl | (simp [tdL, tdA, tdP, tdB, tdS, tdC, c5, c5', bI, oi1, nI_succ]; done))
    have h8 : tdB g f (tdA g f n 10) 0 = tdA g f n 10 := (by first | with_reducible rfl | (simp only [tdL, tdA, tdP, tdB, tdS, tdC, c5, c5', oi1n, nI_add, pk_mul, bI, and_true, true_and, and_false, false_and, and_self, or_true, true_or, or_false, false_or, or_self, not_true_eq_false, not_false_eq_true, if_true, if_false, ↓reduceIte] <;> rfl) | rfl | (simp [tdL, tdA, tdP, tdB, tdS, tdC, c5, c5', bI, oi1, nI_succ]; done))
    refine V.loop (N := 8) (k0 := 0) (I := (fun p6 : Nat => [(3, .int (nI p6)), (1, .long (tdB g f (tdA g f n 10) p6)), (0, .ref d)])) (J := fun _ => True) (Nat.zero_le _) trivial (lv_sub hl [0, 1, 2] (by rw [h7, h8]; rfl)) ?_
    intro p6 p6_N p6_J ihp6 ls hl
    have hl : lv_has ls 5 [(3, .int (nI p6)), (1, .long (tdB g f (tdA g f n 10) p6)), (0, .ref d)] := hl
    refine V.iload_n F dL_told_33 rfl (lv_at hl 0 rfl) ?_
    refine V.bipush (v := nI 8) F dL_told_34 (by decide) ?_
    refine V.icmp_ge (tgt := 76) F dL_told_36 (by decide) (fun c9 c9' => ?_) (fun c9 c9' => ?_)
    · skip
      have p6_eq := ((lpL rfl (by omega) p6_N).1 c9).symm
      subst p6_eq
      refine V.iconst (v := nI 0) F dL_told_76 (by decide) ?_
      refine V.istore_n (lv' := [(3, .int (nI 0)), (1, .long (tdB g f (tdA g f n 10) 8)), (0, .ref d)]) F dL_told_77 rfl hl (by decide) rfl (fun ls hl => ?_)
      have h11 : nI 0 = nI 0 := (by first | with_reducible rfl | (simp only [tdL, tdA, tdP, tdB, tdS, tdC, c5, c5', c9, c9', oi1n, nI_add, pk_mul, bI, and_true, true_and, and_false, false_and, and_self, or_true, true_or, or_false, false_or, or_self, not_true_eq_false, not_false_eq_true, if_true, if_false, ↓reduceIte] <;> rfl) | rfl | (simp [tdL, tdA, tdP, tdB, tdS, tdC, c5, c5', c9, c9', bI, oi1, nI_succ]; done))
      have h12 : tdC g f (tdB g f (tdA g f n 10) 8) 0 = tdB g f (tdA g f n 10) 8 := (by first | with_reducible rfl | (simp only [tdL, tdA, tdP, tdB, tdS, tdC, c5, c5', c9, c9', oi1n, nI_add, pk_mul, bI, and_true, true_and, and_false, false_and, and_self, or_true, true_or, or_false, false_or, or_self, not_true_eq_false, not_false_eq_true, if_true, if_false, ↓reduceIte] <;> rfl) | rfl | (simp [tdL, tdA, tdP, tdB, tdS, tdC, c5, c5', c9, c9', bI, oi1, nI_succ]; done))
      refine V.loop (N := C) (k0 := 0) (I := (fun x10 : Nat => [(3, .int (nI x10)), (1, .long (tdC g f (tdB g f (tdA g f n 10) 8) x10)), (0, .ref d)])) (J := fun _ => True) (Nat.zero_le _) trivial (lv_sub hl [0, 1, 2] (by rw [h11, h12]; rfl)) ?_
      intro x10 x10_N x10_J ihx10 ls hl
      have hl : lv_has ls 5 [(3, .int (nI x10)), (1, .long (tdC g f (tdB g f (tdA g f n 10) 8) x10)), (0, .ref d)] := hl
      refine V.iload_n F dL_told_78 rfl (lv_at hl 0 rfl) ?_
      refine V.aload_n F dL_told_79 rfl (lv_at hl 2 rfl) ?_
      refine V.iconst (v := nI 4) F dL_told_80 (by decide) ?_
      refine V.rdX F hE (c_L_count l E (nI_r (M := 10) rfl (by decide) (by decide))) (kx_count F.2.2.2.2 ⟨Nat.le_of_ble_eq_true rfl, Nat.le_of_ble_eq_true rfl⟩) 0 22 (by rfl) rfl hl.1 (Nat.le_of_ble_eq_true rfl) dL_told_81 rfl ?_
      refine V.topi (fun z13 e13 => ?_)
      obtain rfl : nI C = z13 := (e13.trans hC).symm
      refine V.icmp_ge (tgt := 124) F dL_told_84 (by decide) (fun c14 c14' => ?_) (fun c14 c14' => ?_)
      · skip
        have x10_eq := ((lpL rfl (by omega) x10_N).1 c14).symm
        subst x10_eq
        refine V.lload_n F dL_told_124 rfl (lv_at hl 1 rfl) ?_
        exact V.lretR F hr hk dL_told_125 (by first | with_reducible rfl | (simp only [tdL, tdA, tdP, tdB, tdS, tdC, c5, c5', c9, c9', c14, c14', oi1n, nI_add, pk_mul, bI, and_true, true_and, and_false, false_and, and_self, or_true, true_or, or_false, false_or, or_self, not_true_eq_false, not_false_eq_true, if_true, if_false, ↓reduceIte] <;> rfl) | rfl | (simp [tdL, tdA, tdP, tdB, tdS, tdC, c5, c5', c9, c9', c14, c14', bI, oi1, nI_succ]; done))
      · skip
        have x10_lt := (lpL rfl (by omega) x10_N).2 c14
        refine V.iconst (v := nI 0) F dL_told_87 (by decide) ?_
        refine V.istore (lv' := [(4, .int (nI 0)), (3, .int (nI x10)), (1, .long (tdC g f (tdB g f (tdA g f n 10) 8) x10)), (0, .ref d)]) F dL_told_88 hl (by decide) rfl (fun ls hl => ?_)
        have h16 : nI 0 = nI 0 := (by first | with_reducible rfl | (simp only [tdL, tdA, tdP, tdB, tdS, tdC, c5, c5', c9, c9', c14, c14', oi1n, nI_add, pk_mul, bI, and_true, true_and, and_false, false_and, and_self, or_true, true_or, or_false, false_or, or_self, not_true_eq_false, not_false_eq_true, if_true, if_false, ↓reduceIte] <;> rfl) | rfl | (simp [tdL, tdA, tdP, tdB, tdS, tdC, c5, c5', c9, c9', c14, c14', bI, oi1, nI_succ]; done))
        have h17 : tdS g f (tdC g f (tdB g f (tdA g f n 10) 8) x10) x10 0 = tdC g f (tdB g f (tdA g f n 10) 8) x10 := (by first | with_reducible rfl | (simp only [tdL, tdA, tdP, tdB, tdS, tdC, c5, c5', c9, c9', c14, c14', oi1n, nI_add, pk_mul, bI, and_true, true_and, and_false, false_and, and_self, or_true, true_or, or_false, false_or, or_self, not_true_eq_false, not_false_eq_true, if_true, if_false, ↓reduceIte] <;> rfl) | rfl | (simp [tdL, tdA, tdP, tdB, tdS, tdC, c5, c5', c9, c9', c14, c14', bI, oi1, nI_succ]; done))
        refine V.loop (N := 6) (k0 := 0) (I := (fun v15 : Nat => [(4, .int (nI v15)), (3, .int (nI x10)), (1, .long (tdS g f (tdC g f (tdB g f (tdA g f n 10) 8) x10) x10 v15)), (0, .ref d)])) (J := fun _ => True) (Nat.zero_le _) trivial (lv_sub hl [0, 1, 2, 3] (by rw [h16, h17]; rfl)) ?_
        intro v15 v15_N v15_J ihv15 ls hl
        have hl : lv_has ls 5 [(4, .int (nI v15)), (3, .int (nI x10)), (1, .long (tdS g f (tdC g f (tdB g f (tdA g f n 10) 8) x10) x10 v15)), (0, .ref d)] := hl
        refine V.iload F dL_told_90 (lv_at hl 0 rfl) ?_
        refine V.bipush (v := nI 6) F dL_told_92 (by decide) ?_
        refine V.icmp_ge (tgt := 118) F dL_told_94 (by decide) (fun c18 c18' => ?_) (fun c18 c18' => ?_)
        · skip
          have v15_eq := ((lpL rfl (by omega) v15_N).1 c18).symm
          subst v15_eq
          refine V.iinc (j := 1) (lv' := fun z19 => [(3, .int z19), (4, .int (nI 6)), (1, .long (tdS g f (tdC g f (tdB g f (tdA g f n 10) 8) x10) x10 6)), (0, .ref d)]) F dL_told_118 hl rfl (by decide) (fun _ => rfl) (fun z19 e19 ls hl => ?_)
          refine V.goto (tgt := 78) F dL_told_121 (by decide) ?_
          have h20 : nI (x10 + 1) = z19 := (by subst e19; first | with_reducible rfl | (simp only [tdL, tdA, tdP, tdB, tdS, tdC, c5, c5', c9, c9', c14, c14', c18, c18', oi1n, nI_add, pk_mul, bI, and_true, true_and, and_false, false_and, and_self, or_true, true_or, or_false, false_or, or_self, not_true_eq_false, not_false_eq_true, if_true, if_false, ↓reduceIte] <;> rfl) | rfl | (simp [tdL, tdA, tdP, tdB, tdS, tdC, c5, c5', c9, c9', c14, c14', c18, c18', bI, oi1, nI_succ]; done))
          have h21 : tdC g f (tdB g f (tdA g f n 10) 8) (x10 + 1) = tdS g f (tdC g f (tdB g f (tdA g f n 10) 8) x10) x10 6 := (by subst e19; first | with_reducible rfl | (simp only [tdL, tdA, tdP, tdB, tdS, tdC, c5, c5', c9, c9', c14, c14', c18, c18', oi1n, nI_add, pk_mul, bI, and_true, true_and, and_false, false_and, and_self, or_true, true_or, or_false, false_or, or_self, not_true_eq_false, not_false_eq_true, if_true, if_false, ↓reduceIte] <;> rfl) | rfl | (simp [tdL, tdA, tdP, tdB, tdS, tdC, c5, c5', c9, c9', c14, c14', c18, c18', bI, oi1, nI_succ]; done))
          exact ihx10 x10_lt trivial _ (lv_sub hl [0, 2, 3] (by rw [h20, h21]; rfl))
        · skip
          have v15_lt := (lpL rfl (by omega) v15_N).2 c18
          refine V.ldc2 F lL_87 dL_told_97 ?_
          refine V.lload_n F dL_told_100 rfl (lv_at hl 2 rfl) ?_
          refine V.lmul F dL_told_101 (fun z23 e23 => ?_)
          refine V.aload_n F dL_told_102 rfl (lv_at hl 3 rfl) ?_
          refine V.iload_n F dL_told_103 rfl (lv_at hl 1 rfl) ?_
          refine V.iload F dL_told_104 (lv_at hl 0 rfl) ?_
          refine V.rdX F hE (c_L_sceneOf l E (nI_x hC (by omega) (by omega)) (nI_r (M := 5) rfl (by decide) (by omega))) (kx_sceneOf F.2.2.2.2 ⟨Nat.le_of_ble_eq_true rfl, Nat.le_of_ble_eq_true rfl⟩) 0 22 (by rfl) rfl hl.1 (Nat.le_of_ble_eq_true rfl) dL_told_106 rfl ?_
          refine V.topi (fun z24 e24 => ?_)
          refine V.i2l F dL_told_109 (fun z25 e25 => ?_)
          refine V.ladd F dL_told_110 (fun z26 e26 => ?_)
          refine V.lstore_n (lv' := [(1, .long z26), (4, .int (nI v15)), (3, .int (nI x10)), (0, .ref d)]) F dL_told_111 rfl hl (by decide) rfl (fun ls hl => ?_)
          refine V.iinc (j := 1) (lv' := fun z27 => [(4, .int z27), (1, .long z26), (3, .int (nI x10)), (0, .ref d)]) F dL_told_112 hl rfl (by decide) (fun _ => rfl) (fun z27 e27 ls hl => ?_)
          refine V.goto (tgt := 90) F dL_told_115 (by decide) ?_
          have h28 : nI (v15 + 1) = z27 := (by subst e23 e24 e25 e26 e27; first | with_reducible rfl | (simp only [tdL, tdA, tdP, tdB, tdS, tdC, c5, c5', c9, c9', c14, c14', c18, c18', oi1n, nI_add, pk_mul, bI, and_true, true_and, and_false, false_and, and_self, or_true, true_or, or_false, false_or, or_self, not_true_eq_false, not_false_eq_true, if_true, if_false, ↓reduceIte] <;> rfl) | rfl | (simp [tdL, tdA, tdP, tdB, tdS, tdC, c5, c5', c9, c9', c14, c14', c18, c18', bI, oi1, nI_succ]; done))
          have h29 : tdS g f (tdC g f (tdB g f (tdA g f n 10) 8) x10) x10 (v15 + 1) = z26 := (by subst e23 e24 e25 e26 e27; first | with_reducible rfl | (simp only [tdL, tdA, tdP, tdB, tdS, tdC, c5, c5', c9, c9', c14, c14', c18, c18', oi1n, nI_add, pk_mul, bI, and_true, true_and, and_false, false_and, and_self, or_true, true_or, or_false, false_or, or_self, not_true_eq_false, not_false_eq_true, if_true, if_false, ↓reduceIte] <;> rfl) | rfl | (simp [tdL, tdA, tdP, tdB, tdS, tdC, c5, c5', c9, c9', c14, c14', c18, c18', bI, oi1, nI_succ]; done))
          exact ihv15 v15_lt trivial _ (lv_sub hl [0, 2, 1, 3] (by rw [h28, h29]; rfl))
    · skip
      have p6_lt := (lpL rfl (by omega) p6_N).2 c9
      refine V.iconst (v := nI 0) F dL_told_39 (by decide) ?_
      refine V.istore (lv' := [(4, .int (nI 0)), (3, .int (nI p6)), (1, .long (tdB g f (tdA g f n 10) p6)), (0, .ref d)]) F dL_told_40 hl (by decide) rfl (fun ls hl => ?_)
      have h31 : nI 0 = nI 0 := (by first | with_reducible rfl | (simp only [tdL, tdA, tdP, tdB, tdS, tdC, c5, c5', c9, c9', oi1n, nI_add, pk_mul, bI, and_true, true_and, and_false, false_and, and_self, or_true, true_or, or_false, false_or, or_self, not_true_eq_false, not_false_eq_true, if_true, if_false, ↓reduceIte] <;> rfl) | rfl | (simp [tdL, tdA, tdP, tdB, tdS, tdC, c5, c5', c9, c9', bI, oi1, nI_succ]; done))
      have h32 : tdP g f (tdB g f (tdA g f n 10) p6) p6 0 = tdB g f (tdA g f n 10) p6 := (by first | with_reducible rfl | (simp only [tdL, tdA, tdP, tdB, tdS, tdC, c5, c5', c9, c9', oi1n, nI_add, pk_mul, bI, and_true, true_and, and_false, false_and, and_self, or_true, true_or, or_false, false_or, or_self, not_true_eq_false, not_false_eq_true, if_true, if_false, ↓reduceIte] <;> rfl) | rfl | (simp [tdL, tdA, tdP, tdB, tdS, tdC, c5, c5', c9, c9', bI, oi1, nI_succ]; done))
      refine V.loop (N := 7) (k0 := 0) (I := (fun w30 : Nat => [(4, .int (nI w30)), (3, .int (nI p6)), (1, .long (tdP g f (tdB g f (tdA g f n 10) p6) p6 w30)), (0, .ref d)])) (J := fun _ => True) (Nat.zero_le _) trivial (lv_sub hl [0, 1, 2, 3] (by rw [h31, h32]; rfl)) ?_
      intro w30 w30_N w30_J ihw30 ls hl
      have hl : lv_has ls 5 [(4, .int (nI w30)), (3, .int (nI p6)), (1, .long (tdP g f (tdB g f (tdA g f n 10) p6) p6 w30)), (0, .ref d)] := hl
      refine V.iload F dL_told_42 (lv_at hl 0 rfl) ?_
      refine V.bipush (v := nI 7) F dL_told_44 (by decide) ?_
      refine V.icmp_ge (tgt := 70) F dL_told_46 (by decide) (fun c33 c33' => ?_) (fun c33 c33' => ?_)
      · skip
        have w30_eq := ((lpL rfl (by omega) w30_N).1 c33).symm
        subst w30_eq
        refine V.iinc (j := 1) (lv' := fun z34 => [(3, .int z34), (4, .int (nI 7)), (1, .long (tdP g f (tdB g f (tdA g f n 10) p6) p6 7)), (0, .ref d)]) F dL_told_70 hl rfl (by decide) (fun _ => rfl) (fun z34 e34 ls hl => ?_)
        refine V.goto (tgt := 33) F dL_told_73 (by decide) ?_
        have h35 : nI (p6 + 1) = z34 := (by subst e34; first | with_reducible rfl | (simp only [tdL, tdA, tdP, tdB, tdS, tdC, c5, c5', c9, c9', c33, c33', oi1n, nI_add, pk_mul, bI, and_true, true_and, and_false, false_and, and_self, or_true, true_or, or_false, false_or, or_self, not_true_eq_false, not_false_eq_true, if_true, if_false, ↓reduceIte] <;> rfl) | rfl | (simp [tdL, tdA, tdP, tdB, tdS, tdC, c5, c5', c9, c9', c33, c33', bI, oi1, nI_succ]; done))
        have h36 : tdB g f (tdA g f n 10) (p6 + 1) = tdP g f (tdB g f (tdA g f n 10) p6) p6 7 := (by subst e34; first | with_reducible rfl | (simp only [tdL, tdA, tdP, tdB, tdS, tdC, c5, c5', c9, c9', c33, c33', oi1n, nI_add, pk_mul, bI, and_true, true_and, and_false, false_and, and_self, or_true, true_or, or_false, false_or, or_self, not_true_eq_false, not_false_eq_true, if_true, if_false, ↓reduceIte] <;> rfl) | rfl | (simp [tdL, tdA, tdP, tdB, tdS, tdC, c5, c5', c9, c9', c33, c33', bI, oi1, nI_succ]; done))
        exact ihp6 p6_lt trivial _ (lv_sub hl [0, 2, 3] (by rw [h35, h36]; rfl))
      · skip
        have w30_lt := (lpL rfl (by omega) w30_N).2 c33
        refine V.ldc2 F lL_87 dL_told_49 ?_
        refine V.lload_n F dL_told_52 rfl (lv_at hl 2 rfl) ?_
        refine V.lmul F dL_told_53 (fun z38 e38 => ?_)
        refine V.aload_n F dL_told_54 rfl (lv_at hl 3 rfl) ?_
        refine V.iload_n F dL_told_55 rfl (lv_at hl 1 rfl) ?_
        refine V.iload F dL_told_56 (lv_at hl 0 rfl) ?_
        refine V.rdX F hE (c_L_person l E (nI_r (M := 7) rfl (by decide) (by omega)) (nI_r (M := 6) rfl (by decide) (by omega))) (kx_person F.2.2.2.2 ⟨Nat.le_of_ble_eq_true rfl, Nat.le_of_ble_eq_true rfl⟩) 0 22 (by rfl) rfl hl.1 (Nat.le_of_ble_eq_true rfl) dL_told_58 rfl ?_
        refine V.topi (fun z39 e39 => ?_)
        refine V.i2l F dL_told_61 (fun z40 e40 => ?_)
        refine V.ladd F dL_told_62 (fun z41 e41 => ?_)
        refine V.lstore_n (lv' := [(1, .long z41), (4, .int (nI w30)), (3, .int (nI p6)), (0, .ref d)]) F dL_told_63 rfl hl (by decide) rfl (fun ls hl => ?_)
        refine V.iinc (j := 1) (lv' := fun z42 => [(4, .int z42), (1, .long z41), (3, .int (nI p6)), (0, .ref d)]) F dL_told_64 hl rfl (by decide) (fun _ => rfl) (fun z42 e42 ls hl => ?_)
        refine V.goto (tgt := 42) F dL_told_67 (by decide) ?_
        have h43 : nI (w30 + 1) = z42 := (by subst e38 e39 e40 e41 e42; first | with_reducible rfl | (simp only [tdL, tdA, tdP, tdB, tdS, tdC, c5, c5', c9, c9', c33, c33', oi1n, nI_add, pk_mul, bI, and_true, true_and, and_false, false_and, and_self, or_true, true_or, or_false, false_or, or_self, not_true_eq_false, not_false_eq_true, if_true, if_false, ↓reduceIte] <;> rfl) | rfl | (simp [tdL, tdA, tdP, tdB, tdS, tdC, c5, c5', c9, c9', c33, c33', bI, oi1, nI_succ]; done))
        have h44 : tdP g f (tdB g f (tdA g f n 10) p6) p6 (w30 + 1) = z41 := (by subst e38 e39 e40 e41 e42; first | with_reducible rfl | (simp only [tdL, tdA, tdP, tdB, tdS, tdC, c5, c5', c9, c9', c33, c33', oi1n, nI_add, pk_mul, bI, and_true, true_and, and_false, false_and, and_self, or_true, true_or, or_false, false_or, or_self, not_true_eq_false, not_false_eq_true, if_true, if_false, ↓reduceIte] <;> rfl) | rfl | (simp [tdL, tdA, tdP, tdB, tdS, tdC, c5, c5', c9, c9', c33, c33', bI, oi1, nI_succ]; done))
        exact ihw30 w30_lt trivial _ (lv_sub hl [0, 2, 1, 3] (by rw [h43, h44]; rfl))
  · skip
    have j2_lt := (lpL rfl (by omega) j2_N).2 c5
    refine V.ldc2 F lL_87 dL_told_12 ?_
    refine V.lload_n F dL_told_15 rfl (lv_at hl 1 rfl) ?_
    refine V.lmul F dL_told_16 (fun z46 e46 => ?_)
    refine V.aload_n F dL_told_17 rfl (lv_at hl 2 rfl) ?_
    refine V.iload_n F dL_told_18 rfl (lv_at hl 0 rfl) ?_
    refine V.rdX F hE (c_L_count l E (nI_r (M := 10) rfl (by decide) (by omega))) (kx_count F.2.2.2.2 ⟨Nat.le_of_ble_eq_true rfl, Nat.le_of_ble_eq_true rfl⟩) 0 22 (by rfl) rfl hl.1 (Nat.le_of_ble_eq_true rfl) dL_told_19 rfl ?_
    refine V.topi (fun z47 e47 => ?_)
    refine V.i2l F dL_told_22 (fun z48 e48 => ?_)
    refine V.ladd F dL_told_23 (fun z49 e49 => ?_)
    refine V.lstore_n (lv' := [(1, .long z49), (3, .int (nI j2)), (0, .ref d)]) F dL_told_24 rfl hl (by decide) rfl (fun ls hl => ?_)
    refine V.iinc (j := 1) (lv' := fun z50 => [(3, .int z50), (1, .long z49), (0, .ref d)]) F dL_told_25 hl rfl (by decide) (fun _ => rfl) (fun z50 e50 ls hl => ?_)
    refine V.goto (tgt := 6) F dL_told_28 (by decide) ?_
    have h51 : nI (j2 + 1) = z50 := (by subst e46 e47 e48 e49 e50; first | with_reducible rfl | (simp only [tdL, tdA, tdP, tdB, tdS, tdC, c5, c5', oi1n, nI_add, pk_mul, bI, and_true, true_and, and_false, false_and, and_self, or_true, true_or, or_false, false_or, or_self, not_true_eq_false, not_false_eq_true, if_true, if_false, ↓reduceIte] <;> rfl) | rfl | (simp [tdL, tdA, tdP, tdB, tdS, tdC, c5, c5', bI, oi1, nI_succ]; done))
    have h52 : tdA g f n (j2 + 1) = z49 := (by subst e46 e47 e48 e49 e50; first | with_reducible rfl | (simp only [tdL, tdA, tdP, tdB, tdS, tdC, c5, c5', oi1n, nI_add, pk_mul, bI, and_true, true_and, and_false, false_and, and_self, or_true, true_or, or_false, false_or, or_self, not_true_eq_false, not_false_eq_true, if_true, if_false, ↓reduceIte] <;> rfl) | rfl | (simp [tdL, tdA, tdP, tdB, tdS, tdC, c5, c5', bI, oi1, nI_succ]; done))
    exact ihj2 j2_lt trivial _ (lv_sub hl [0, 1, 2] (by rw [h51, h52]; rfl))
