/-! Double.doubleToLongBits of what is no NaN: its bits as they stand -/
def yRaw : MethodName := ⟨"java/lang/Double", "doubleToRawLongBits", "(D)J"⟩
theorem iniJ : Cond.initialized RJxe99ae ∈ LW := LW_mk 66 (by decide +kernel) rfl
theorem lkJ_134 : Cond.methodLink RJxe99ae 134 yRaw ∈ LW := LW_mk 1223 (by decide +kernel) rfl
theorem stRaw : Cond.static yRaw ∈ LW := LW_mk 1224 (by decide +kernel) rfl
theorem naRaw : Cond.native yRaw ∈ LW := LW_mk 1225 (by decide +kernel) rfl
theorem lkJ_122 : Cond.methodLink RJxe99ae 122 yJxe99ae_isNaN_b9ae7 ∈ LW := LW_mk 1220 (by decide +kernel) rfl
theorem stNaN : Cond.static yJxe99ae_isNaN_b9ae7 ∈ LW := LW_mk 1221 (by decide +kernel) rfl
theorem w_NaN : Cond.code yJxe99ae_isNaN_b9ae7 cJxe99ae_isNaN_b9ae7 2 (some .boolean) ∈ LW := LW_mk 1222 (by decide +kernel) rfl
theorem lkX7_209 : Cond.methodLink RX7 209 yJxe99ae_doubleToLongBits_ccdee ∈ LW := LW_mk 1217 (by decide +kernel) rfl
theorem stDTL : Cond.static yJxe99ae_doubleToLongBits_ccdee ∈ LW := LW_mk 1218 (by decide +kernel) rfl
theorem w_DTL : Cond.code yJxe99ae_doubleToLongBits_ccdee cJxe99ae_doubleToLongBits_ccdee 2 (some .long) ∈ LW := LW_mk 1219 (by decide +kernel) rfl
theorem kJ_122 {R : Room} {s : State} {args : Array Value} {fr mc ms lo : Nat} (hts : ∀ w ∈ LW, w.before args s = true) (hR : fr + 1 ≤ R.frames ∧ 8 + (2 + 11) + lo ≤ R.locals) : CallB R s args RJxe99ae 122 yJxe99ae_isNaN_b9ae7 cJxe99ae_isNaN_b9ae7 2 (some .boolean) (Cond.code yJxe99ae_isNaN_b9ae7 cJxe99ae_isNaN_b9ae7 2 (some .boolean) :: LW) (rmk fr mc ms lo) mc ms 1 ∧ (Cond.static yJxe99ae_isNaN_b9ae7).before args s = true := va_cwS 1 hts (LW_GIl (l := [.methodLink RJxe99ae 122 yJxe99ae_isNaN_b9ae7, .static yJxe99ae_isNaN_b9ae7, .initialized RJxe99ae]) (List.forall_mem_cons.mpr ⟨lkJ_122, List.forall_mem_cons.mpr ⟨stNaN, List.forall_mem_cons.mpr ⟨iniJ, fun _ h => absurd h List.not_mem_nil⟩⟩⟩) w_NaN) rfl rfl rfl ⟨by decide, by decide, by decide +kernel⟩ hR
theorem kX7_209 {R : Room} {s : State} {args : Array Value} {fr mc ms lo : Nat} (hts : ∀ w ∈ LW, w.before args s = true) (hR : fr + 1 ≤ R.frames ∧ 8 + (2 + 11) + lo ≤ R.locals) : CallB R s args RX7 209 yJxe99ae_doubleToLongBits_ccdee cJxe99ae_doubleToLongBits_ccdee 2 (some .long) (Cond.code yJxe99ae_doubleToLongBits_ccdee cJxe99ae_doubleToLongBits_ccdee 2 (some .long) :: LW) (rmk fr mc ms lo) mc ms 1 ∧ (Cond.static yJxe99ae_doubleToLongBits_ccdee).before args s = true := va_cwS 1 hts (LW_GIl (l := [.methodLink RX7 209 yJxe99ae_doubleToLongBits_ccdee, .static yJxe99ae_doubleToLongBits_ccdee, .initialized RJxe99ae]) (List.forall_mem_cons.mpr ⟨lkX7_209, List.forall_mem_cons.mpr ⟨stDTL, List.forall_mem_cons.mpr ⟨iniJ, fun _ h => absurd h List.not_mem_nil⟩⟩⟩) w_DTL) rfl rfl rfl ⟨by decide, by decide, by decide +kernel⟩ hR
section VD
variable {p : Program} {l : Launch} {e : Env} {R : Room} {s : State} {m : MethodId} {args : Array Value} {below : List Frame} {meth : Method} {c : Code} {E : EV} {AD : List Nat} {Q : State → Prop} {ws : va_W}
variable {cc : ByteArray} {nL : Nat} {own : String} {pc : Nat} {ls : Array Slot}
theorem V.dtrb (F : CallFix p m c cc nL s args LW own) {index : Nat} {x : UInt64} {rest : List Value} (hlink : Cond.methodLink own index yRaw ∈ LW) (hsz : ls.size = nL) (hroom : (rest.map fun v => v.category).sum ≤ 8) (hR : 1 ≤ R.frames ∧ 8 + (nativeFrameWords "java/lang/Double" "doubleToRawLongBits" 2 + 11) ≤ R.locals) (hd : decode cc pc = .ok (.invokestatic index, 3))
    (k : V p l e R s m args below meth c E AD Q ws (F0 m (pc + 3) ls (.long x.toInt64 :: rest))) : V p l e R s m args below meth c E AD Q ws (F0 m pc ls (.double x :: rest)) := by
  intro H locs hP hz ho hl T hT X
  obtain ⟨r, kS, methS, hnS, hmS, hkS, N⟩ := NativeOf.of_static (F.2.2.2.2 _ naRaw) (F.2.2.2.2 _ stRaw) (ps := [.double]) (ret := some .long) (by decide +kernel)
  have hinit : kS.init = .initialized := Cond.initialized_spec (findClass_of_methodNamed hnS) hkS (F.2.2.2.2 _ iniJ)
  have hd' : decode c.code (F0 m pc ls (.double x :: rest)).pc = .ok (.invokestatic index, 3) := by rw [F.2.1]; exact hd
  obtain ⟨vm', X', stp⟩ := X.invokestatic F.1 F.2.2.2.1 (F.2.2.2.2 _ hlink) hnS hmS N.static hkS hinit (by decide) (g := F0 m pc ls (.double x :: rest)) rfl (argsL := [.double x]) (rest := rest) (by rw [N.sig]; rfl) rfl hd'
  obtain ⟨t2, a1, b1⟩ := k H locs hP hz ho hl (T.setVm vm') hT X'
  refine ⟨t2, stp t2 fun acts => ?_, b1⟩
  obtain ⟨kS', N'⟩ := N.alike X'.warmed.alike
  exact Steps.doubleToRawLongBitsOf (g := F0 m pc ls rest) (ig := .invokestatic index) (len := 3) p X'.here acts N' x (X'.notFull (g := F0 m pc ls rest) (by rw [F.2.2.1]; exact hsz) (vars := nativeFrameWords "java/lang/Double" "doubleToRawLongBits" 2) hR.1 (by simpa using Nat.le_trans (Nat.add_le_add_right hroom _) hR.2)) hd' a1
end VD
theorem c_NaN (l : Launch) (E : EV) {x : UInt64} (hx : Op.cmpValue (FP.dcmp x x) .l = 0) : Rd l E yJxe99ae_isNaN_b9ae7 cJxe99ae_isNaN_b9ae7 2 (some .boolean) 0 0 [.double x] [] (some (.int 0)) := by
  refine Rd.mk0 (by decide) (Nat.le_of_ble_eq_true rfl) ?_
  intro pP eE sS mM aA bB mt cC F hr hk hE ls hl
  have hl : lv_has ls 2 [(0, .double x)] := hl
  refine V.dload_n F dJxe99ae_isNaN_b9ae7_0 rfl (lv_at hl 0 rfl) ?_
  refine V.dload_n F dJxe99ae_isNaN_b9ae7_1 rfl (lv_at hl 0 rfl) ?_
  refine V.dcmp F dJxe99ae_isNaN_b9ae7_2 (fun z e => ?_)
  obtain rfl : z = 0 := e.trans hx
  refine V.if_eq (tgt := 10) F dJxe99ae_isNaN_b9ae7_3 (by decide) (fun _ => ?_) (fun h => absurd rfl h)
  refine V.iconst (v := 0) F dJxe99ae_isNaN_b9ae7_10 (by decide) ?_
  exact V.zretR F hr hk dJxe99ae_isNaN_b9ae7_11 (by decide) rfl
theorem c_DTL (l : Launch) (E : EV) {x : UInt64} (hx : Op.cmpValue (FP.dcmp x x) .l = 0) : Rd l E yJxe99ae_doubleToLongBits_ccdee cJxe99ae_doubleToLongBits_ccdee 2 (some .long) 1 23 [.double x] [] (some (.long x.toInt64)) := by
  refine Rd.mk0 (by decide) (Nat.le_of_ble_eq_true rfl) ?_
  intro pP eE sS mM aA bB mt cC F hr hk hE ls hl
  have hl : lv_has ls 2 [(0, .double x)] := hl
  refine V.dload_n F dJxe99ae_doubleToLongBits_ccdee_0 rfl (lv_at hl 0 rfl) ?_
  refine V.rdS F hE (c_NaN l E hx) (kJ_122 F.2.2.2.2 ⟨Nat.le_of_ble_eq_true rfl, Nat.le_of_ble_eq_true rfl⟩) [] rfl rfl hl.1 (Nat.le_of_ble_eq_true rfl) dJxe99ae_doubleToLongBits_ccdee_1 rfl ?_
  refine V.if_ne (tgt := 12) F dJxe99ae_doubleToLongBits_ccdee_4 (by decide) (fun h => absurd rfl h) (fun _ => ?_)
  refine V.dload_n F dJxe99ae_doubleToLongBits_ccdee_7 rfl (lv_at hl 0 rfl) ?_
  refine V.dtrb F lkJ_134 hl.1 (Nat.le_of_ble_eq_true rfl) ⟨Nat.le_of_ble_eq_true rfl, by decide⟩ dJxe99ae_doubleToLongBits_ccdee_8 ?_
  exact V.lretR F hr hk dJxe99ae_doubleToLongBits_ccdee_11 rfl
