set_option maxHeartbeats 4000000 in
set_option maxRecDepth 100000 in
theorem lc_size {p : Program} {l : Launch} {e : Env} {s : State} {m : MethodId} {args : Array Value} {below : List Frame} {meth : Method} {c : Code} {E : EV} {A : Nat → Prop} {Q : State → Prop} (F : CallFix p m c cL_law 9 s args LW RL) (hE : CE E A s s.heap) (hA : ∀ q, s.heap.size ≤ q → A q) {b L : Nat} {xs : Nat → Int32} (hX : va_X b L xs s s.heap) (hbl : b < s.heap.size) (hbA : ¬ A b) {i : Nat} (hi : i + 4 ≤ L) (hL : L ≤ 2048) {d o a0 : Nat} {wx wx' wm wm' : va_W} {fm fm' : List Value} {f f' : Nat → Int64} {kd : Nat} {rv : Int32} {k n : Nat} (hC : Gx l E yL_size cL_size 5 [(0, 10, 13, 13), (0, 10, 17, 15)] 8 126 [.ref d, .int (xs (i + 1)), .int (xs (i + 2)), .ref o] (rl_ E o 1 f :: wx) (rl_ E o 1 f' :: wx') (nI kd)) (hM : Wr l E yX7_size cX7_size 4 (some .int) 2 42 [.ref a0, .int (xs (i + 1)), .int (xs (i + 2))] wm wm' (some (.int rv))) (hp : (ads wm').Perm (ads wm)) (hm : wm[0]? = some (a0, .inr (7, fm))) (hm' : wm'[0]? = some (a0, .inr (7, fm'))) (hT : Rd l E yX7_thrown cX7_thrown 1 (some .int) 0 0 [.ref a0] wm' (some (.int (nI kd)))) (hkd : kd < 4) (hr : kd = 0 → f' 0 = rv.toInt64) (hkn : k + 1 ≤ room_1.cells ∧ n + 6 ≤ room_1.slots) {ls : Array Slot} (hl : lv_has ls 9 [(0, .ref b), (1, .ref d), (2, .ref a0), (3, .ref o), (4, .int (nI i))]) (kk : ∀ ls : Array Slot, lv_has ls 9 [(0, .ref b), (1, .ref d), (2, .ref a0), (3, .ref o), (4, .int (nI i))] → GV p l e room_1 s m args below meth c E A Q (rl_ E o 1 f' :: (wx' ++ wm')) (k + 1) (n + 6) (F0 m 1625 ls [])) : GV p l e room_1 s m args below meth c E A Q (rl_ E o 1 f :: (wx ++ wm)) k n (F0 m 152 ls []) := by
  have hkn' := hkn
  refine GV.aload_n F dL_law_152 rfl (lv_at hl 1 rfl) ?_
  refine GV.aload_n F dL_law_153 rfl (lv_at hl 0 rfl) ?_
  refine GV.iload F dL_law_154 (lv_at hl 4 rfl) ?_
  refine GV.iconst (v := nI 1) F dL_law_156 (by decide) ?_
  refine GV.iadd (z := nI (i + 1)) F dL_law_157 (nI_add i 1) ?_
  refine GV.sld F hX hbl hbA (by omega) (by omega) dL_law_158 ?_
  refine GV.aload_n F dL_law_159 rfl (lv_at hl 0 rfl) ?_
  refine GV.iload F dL_law_160 (lv_at hl 4 rfl) ?_
  refine GV.iconst (v := nI 2) F dL_law_162 (by decide) ?_
  refine GV.iadd (z := nI (i + 2)) F dL_law_163 (nI_add i 2) ?_
  refine GV.sld F hX hbl hbA (by omega) (by omega) dL_law_164 ?_
  refine GV.aload_n F dL_law_165 rfl (lv_at hl 3 rfl) ?_
  refine GV.gx (wa := []) (wb := wm) F hE hA hC (kx_size F.2.2.2.2 ⟨Nat.le_of_ble_eq_true rfl, Nat.le_of_ble_eq_true rfl⟩) rfl rfl hl.1 (Nat.le_of_ble_eq_true rfl) hkn dL_law_166 rfl ?_
  refine GV.weq (ws' := rl_ E o 1 f' :: (wx' ++ wm)) rfl ?_
  refine GV.istore (lv' := [(5, .int (nI kd)), (0, .ref b), (1, .ref d), (2, .ref a0), (3, .ref o), (4, .int (nI i))]) F dL_law_169 hl (by decide) rfl (fun ls hl => ?_)
  refine GV.aload_n F dL_law_171 rfl (lv_at hl 3 rfl) ?_
  refine GV.aload_n F dL_law_172 rfl (lv_at hl 1 rfl) ?_
  refine GV.iload F dL_law_173 (lv_at hl 5 rfl) ?_
  refine GV.iconst (v := nI 1) F dL_law_175 (by decide) ?_
  refine GV.iadd (z := nI (i + 1)) F dL_law_176 (nI_add i 1) ?_
  refine GV.sld F hX hbl hbA (by omega) (by omega) dL_law_177 ?_
  refine GV.aload_n F dL_law_178 rfl (lv_at hl 1 rfl) ?_
  refine GV.iload F dL_law_179 (lv_at hl 5 rfl) ?_
  refine GV.iconst (v := nI 2) F dL_law_181 (by decide) ?_
  refine GV.iadd (z := nI (i + 2)) F dL_law_182 (nI_add i 2) ?_
  refine GV.sld F hX hbl hbA (by omega) (by omega) dL_law_183 ?_
  refine GV.wrV (q0 := wx'.length + 1) (wa := rl_ E o 1 f' :: wx') (wb := []) F hE hM hp (kL_91 F.2.2.2.2 ⟨Nat.le_of_ble_eq_true rfl, Nat.le_of_ble_eq_true rfl⟩) (by rw [ob_at]; exact hm) rfl (by rw [List.append_nil]; rfl) rfl hl.1 (Nat.le_of_ble_eq_true rfl) hkn' dL_law_184 rfl ?_
  refine GV.weq (ws' := rl_ E o 1 f' :: (wx' ++ wm')) (by rw [List.append_nil]; rfl) ?_
  refine GV.istore (lv' := [(6, .int rv), (5, .int (nI kd)), (0, .ref b), (1, .ref d), (2, .ref a0), (3, .ref o), (4, .int (nI i))]) F dL_law_187 hl (by decide) rfl (fun ls hl => ?_)
  refine GV.aload_n F dL_law_189 rfl (lv_at hl 4 rfl) ?_
  refine GV.rdV (q0 := wx'.length + 1) (wa := rl_ E o 1 f' :: wx') (wb := []) F hE hT (kL_92 F.2.2.2.2 ⟨Nat.le_of_ble_eq_true rfl, Nat.le_of_ble_eq_true rfl⟩) (by rw [ob_at]; exact hm') rfl (by rw [List.append_nil]; rfl) rfl hl.1 (Nat.le_of_ble_eq_true rfl) hkn' dL_law_190 rfl ?_
  refine GV.iload F dL_law_193 (lv_at hl 1 rfl) ?_
  refine GV.ieq_t (tgt := 200) F dL_law_195 (by decide) rfl ?_
  refine GV.iload F dL_law_200 (lv_at hl 1 rfl) ?_
  by_cases h0 : kd = 0
  · skip
    refine GV.ne_f (tgt := 217) F dL_law_202 (by decide) (by rw [h0]; exact nI_0) ?_
    refine GV.aload_n F dL_law_205 rfl (lv_at hl 5 rfl) ?_
    refine GV.iconst (v := nI 0) F dL_law_206 (by decide) ?_
    refine GV.lald F hE 0 rfl (by decide) (by decide) dL_law_207 ?_
    refine GV.iload F dL_law_208 (lv_at hl 0 rfl) ?_
    refine GV.i2l F dL_law_210 ?_
    refine GV.lcmp F dL_law_211 ?_
    refine GV.eq_t (tgt := 217) F dL_law_212 (by decide) (by rw [hr h0]; exact lg_self _) ?_
    refine GV.goto (tgt := 1625) F dL_law_217 (by decide) ?_
    exact kk ls (lv_sub hl [2, 3, 4, 5, 6] rfl)
  · skip
    refine GV.ne_t (tgt := 217) F dL_law_202 (by decide) (nI_ne0 (by omega) (by omega)) ?_
    refine GV.goto (tgt := 1625) F dL_law_217 (by decide) ?_
    exact kk ls (lv_sub hl [2, 3, 4, 5, 6] rfl)
set_option maxHeartbeats 4000000 in
set_option maxRecDepth 100000 in
theorem lc_pass {p : Program} {l : Launch} {e : Env} {s : State} {m : MethodId} {args : Array Value} {below : List Frame} {meth : Method} {c : Code} {E : EV} {A : Nat → Prop} {Q : State → Prop} (F : CallFix p m c cL_law 9 s args LW RL) (hE : CE E A s s.heap) (hA : ∀ q, s.heap.size ≤ q → A q) {b L : Nat} {xs : Nat → Int32} (hX : va_X b L xs s s.heap) (hbl : b < s.heap.size) (hbA : ¬ A b) {i : Nat} (hi : i + 4 ≤ L) (hL : L ≤ 2048) {d o a0 : Nat} {wx wx' wm wm' : va_W} {fm fm' : List Value} {f f' : Nat → Int64} {kd : Nat} {rv : Int32} {k n : Nat} (hC : Gx l E yL_pass cL_pass 4 [(0, 9, 12, 15), (0, 9, 15, 21)] 8 125 [.ref d, .int (xs (i + 1)), .ref o] (rl_ E o 1 f :: wx) (rl_ E o 1 f' :: wx') (nI kd)) (hM : Wr l E yX7_pass cX7_pass 2 (some .int) 1 22 [.ref a0, .int (xs (i + 1))] wm wm' (some (.int rv))) (hp : (ads wm').Perm (ads wm)) (hm : wm[0]? = some (a0, .inr (7, fm))) (hm' : wm'[0]? = some (a0, .inr (7, fm'))) (hT : Rd l E yX7_thrown cX7_thrown 1 (some .int) 0 0 [.ref a0] wm' (some (.int (nI kd)))) (hkd : kd < 4) (hr : kd = 0 → f' 0 = rv.toInt64) (hkn : k + 1 ≤ room_1.cells ∧ n + 6 ≤ room_1.slots) {ls : Array Slot} (hl : lv_has ls 9 [(0, .ref b), (1, .ref d), (2, .ref a0), (3, .ref o), (4, .int (nI i))]) (kk : ∀ ls : Array Slot, lv_has ls 9 [(0, .ref b), (1, .ref d), (2, .ref a0), (3, .ref o), (4, .int (nI i))] → GV p l e room_1 s m args below meth c E A Q (rl_ E o 1 f' :: (wx' ++ wm')) (k + 1) (n + 6) (F0 m 1625 ls [])) : GV p l e room_1 s m args below meth c E A Q (rl_ E o 1 f :: (wx ++ wm)) k n (F0 m 220 ls []) := by
  have hkn' := hkn
  refine GV.aload_n F dL_law_220 rfl (lv_at hl 1 rfl) ?_
  refine GV.aload_n F dL_law_221 rfl (lv_at hl 0 rfl) ?_
  refine GV.iload F dL_law_222 (lv_at hl 4 rfl) ?_
  refine GV.iconst (v := nI 1) F dL_law_224 (by decide) ?_
  refine GV.iadd (z := nI (i + 1)) F dL_law_225 (nI_add i 1) ?_
  refine GV.sld F hX hbl hbA (by omega) (by omega) dL_law_226 ?_
  refine GV.aload_n F dL_law_227 rfl (lv_at hl 3 rfl) ?_
  refine GV.gx (wa := []) (wb := wm) F hE hA hC (kx_pass F.2.2.2.2 ⟨Nat.le_of_ble_eq_true rfl, Nat.le_of_ble_eq_true rfl⟩) rfl rfl hl.1 (Nat.le_of_ble_eq_true rfl) hkn dL_law_228 rfl ?_
  refine GV.weq (ws' := rl_ E o 1 f' :: (wx' ++ wm)) rfl ?_
  refine GV.istore (lv' := [(5, .int (nI kd)), (0, .ref b), (1, .ref d), (2, .ref a0), (3, .ref o), (4, .int (nI i))]) F dL_law_231 hl (by decide) rfl (fun ls hl => ?_)
  refine GV.aload_n F dL_law_233 rfl (lv_at hl 3 rfl) ?_
  refine GV.aload_n F dL_law_234 rfl (lv_at hl 1 rfl) ?_
  refine GV.iload F dL_law_235 (lv_at hl 5 rfl) ?_
  refine GV.iconst (v := nI 1) F dL_law_237 (by decide) ?_
  refine GV.iadd (z := nI (i + 1)) F dL_law_238 (nI_add i 1) ?_
  refine GV.sld F hX hbl hbA (by omega) (by omega) dL_law_239 ?_
  refine GV.wrV (q0 := wx'.length + 1) (wa := rl_ E o 1 f' :: wx') (wb := []) F hE hM hp (kL_98 F.2.2.2.2 ⟨Nat.le_of_ble_eq_true rfl, Nat.le_of_ble_eq_true rfl⟩) (by rw [ob_at]; exact hm) rfl (by rw [List.append_nil]; rfl) rfl hl.1 (Nat.le_of_ble_eq_true rfl) hkn' dL_law_240 rfl ?_
  refine GV.weq (ws' := rl_ E o 1 f' :: (wx' ++ wm')) (by rw [List.append_nil]; rfl) ?_
  refine GV.istore (lv' := [(6, .int rv), (5, .int (nI kd)), (0, .ref b), (1, .ref d), (2, .ref a0), (3, .ref o), (4, .int (nI i))]) F dL_law_243 hl (by decide) rfl (fun ls hl => ?_)
  refine GV.aload_n F dL_law_245 rfl (lv_at hl 4 rfl) ?_
  refine GV.rdV (q0 := wx'.length + 1) (wa := rl_ E o 1 f' :: wx') (wb := []) F hE hT (kL_92 F.2.2.2.2 ⟨Nat.le_of_ble_eq_true rfl, Nat.le_of_ble_eq_true rfl⟩) (by rw [ob_at]; exact hm') rfl (by rw [List.append_nil]; rfl) rfl hl.1 (Nat.le_of_ble_eq_true rfl) hkn' dL_law_246 rfl ?_
  refine GV.iload F dL_law_249 (lv_at hl 1 rfl) ?_
  refine GV.ieq_t (tgt := 256) F dL_law_251 (by decide) rfl ?_
  refine GV.iload F dL_law_256 (lv_at hl 1 rfl) ?_
  by_cases h0 : kd = 0
  · skip
    refine GV.ne_f (tgt := 273) F dL_law_258 (by decide) (by rw [h0]; exact nI_0) ?_
    refine GV.aload_n F dL_law_261 rfl (lv_at hl 5 rfl) ?_
    refine GV.iconst (v := nI 0) F dL_law_262 (by decide) ?_
    refine GV.lald F hE 0 rfl (by decide) (by decide) dL_law_263 ?_
    refine GV.iload F dL_law_264 (lv_at hl 0 rfl) ?_
    refine GV.i2l F dL_law_266 ?_
    refine GV.lcmp F dL_law_267 ?_
    refine GV.eq_t (tgt := 273) F dL_law_268 (by decide) (by rw [hr h0]; exact lg_self _) ?_
    refine GV.goto (tgt := 1625) F dL_law_273 (by decide) ?_
    exact kk ls (lv_sub hl [2, 3, 4, 5, 6] rfl)
  · skip
    refine GV.ne_t (tgt := 273) F dL_law_258 (by decide) (nI_ne0 (by omega) (by omega)) ?_
    refine GV.goto (tgt := 1625) F dL_law_273 (by decide) ?_
    exact kk ls (lv_sub hl [2, 3, 4, 5, 6] rfl)
set_option maxHeartbeats 4000000 in
set_option maxRecDepth 100000 in
theorem lc_rehearse {p : Program} {l : Launch} {e : Env} {s : State} {m : MethodId} {args : Array Value} {below : List Frame} {meth : Method} {c : Code} {E : EV} {A : Nat → Prop} {Q : State → Prop} (F : CallFix p m c cL_law 9 s args LW RL) (hE : CE E A s s.heap) (hA : ∀ q, s.heap.size ≤ q → A q) {b L : Nat} {xs : Nat → Int32} (hX : va_X b L xs s s.heap) (hbl : b < s.heap.size) (hbA : ¬ A b) {i : Nat} (hi : i + 4 ≤ L) (hL : L ≤ 2048) {d o a0 : Nat} {wx wx' wm wm' : va_W} {fm fm' : List Value} {f f' : Nat → Int64} {kd : Nat} {rv : Int32} {k n : Nat} (hC : Gx l E yL_rehearse cL_rehearse 6 [(0, 12, 15, 13), (0, 12, 19, 15), (0, 12, 23, 21)] 8 127 [.ref d, .int (xs (i + 1)), .int (xs (i + 2)), .int (xs (i + 3)), .ref o] (rl_ E o 1 f :: wx) (rl_ E o 1 f' :: wx') (nI kd)) (hM : Wr l E yX7_rehearse cX7_rehearse 4 (some .int) 3 70 [.ref a0, .int (xs (i + 1)), .int (xs (i + 2)), .int (xs (i + 3))] wm wm' (some (.int rv))) (hp : (ads wm').Perm (ads wm)) (hm : wm[0]? = some (a0, .inr (7, fm))) (hm' : wm'[0]? = some (a0, .inr (7, fm'))) (hT : Rd l E yX7_thrown cX7_thrown 1 (some .int) 0 0 [.ref a0] wm' (some (.int (nI kd)))) (hkd : kd < 4) (hr : kd = 0 → f' 0 = rv.toInt64) (hkn : k + 1 ≤ room_1.cells ∧ n + 6 ≤ room_1.slots) {ls : Array Slot} (hl : lv_has ls 9 [(0, .ref b), (1, .ref d), (2, .ref a0), (3, .ref o), (4, .int (nI i))]) (kk : ∀ ls : Array Slot, lv_has ls 9 [(0, .ref b), (1, .ref d), (2, .ref a0), (3, .ref o), (4, .int (nI i))] → GV p l e room_1 s m args below meth c E A Q (rl_ E o 1 f' :: (wx' ++ wm')) (k + 1) (n + 6) (F0 m 1625 ls [])) : GV p l e room_1 s m args below meth c E A Q (rl_ E o 1 f :: (wx ++ wm)) k n (F0 m 276 ls []) := by
  have hkn' := hkn
  refine GV.aload_n F dL_law_276 rfl (lv_at hl 1 rfl) ?_
  refine GV.aload_n F dL_law_277 rfl (lv_at hl 0 rfl) ?_
  refine GV.iload F dL_law_278 (lv_at hl 4 rfl) ?_
  refine GV.iconst (v := nI 1) F dL_law_280 (by decide) ?_
  refine GV.iadd (z := nI (i + 1)) F dL_law_281 (nI_add i 1) ?_
  refine GV.sld F hX hbl hbA (by omega) (by omega) dL_law_282 ?_
  refine GV.aload_n F dL_law_283 rfl (lv_at hl 0 rfl) ?_
  refine GV.iload F dL_law_284 (lv_at hl 4 rfl) ?_
  refine GV.iconst (v := nI 2) F dL_law_286 (by decide) ?_
  refine GV.iadd (z := nI (i + 2)) F dL_law_287 (nI_add i 2) ?_
  refine GV.sld F hX hbl hbA (by omega) (by omega) dL_law_288 ?_
  refine GV.aload_n F dL_law_289 rfl (lv_at hl 0 rfl) ?_
  refine GV.iload F dL_law_290 (lv_at hl 4 rfl) ?_
  refine GV.iconst (v := nI 3) F dL_law_292 (by decide) ?_
  refine GV.iadd (z := nI (i + 3)) F dL_law_293 (nI_add i 3) ?_
  refine GV.sld F hX hbl hbA (by omega) (by omega) dL_law_294 ?_
  refine GV.aload_n F dL_law_295 rfl (lv_at hl 3 rfl) ?_
  refine GV.gx (wa := []) (wb := wm) F hE hA hC (kx_rehearse F.2.2.2.2 ⟨Nat.le_of_ble_eq_true rfl, Nat.le_of_ble_eq_true rfl⟩) rfl rfl hl.1 (Nat.le_of_ble_eq_true rfl) hkn dL_law_296 rfl ?_
  refine GV.weq (ws' := rl_ E o 1 f' :: (wx' ++ wm)) rfl ?_
  refine GV.istore (lv' := [(5, .int (nI kd)), (0, .ref b), (1, .ref d), (2, .ref a0), (3, .ref o), (4, .int (nI i))]) F dL_law_299 hl (by decide) rfl (fun ls hl => ?_)
  refine GV.aload_n F dL_law_301 rfl (lv_at hl 3 rfl) ?_
  refine GV.aload_n F dL_law_302 rfl (lv_at hl 1 rfl) ?_
  refine GV.iload F dL_law_303 (lv_at hl 5 rfl) ?_
  refine GV.iconst (v := nI 1) F dL_law_305 (by decide) ?_
  refine GV.iadd (z := nI (i + 1)) F dL_law_306 (nI_add i 1) ?_
  refine GV.sld F hX hbl hbA (by omega) (by omega) dL_law_307 ?_
  refine GV.aload_n F dL_law_308 rfl (lv_at hl 1 rfl) ?_
  refine GV.iload F dL_law_309 (lv_at hl 5 rfl) ?_
  refine GV.iconst (v := nI 2) F dL_law_311 (by decide) ?_
  refine GV.iadd (z := nI (i + 2)) F dL_law_312 (nI_add i 2) ?_
  refine GV.sld F hX hbl hbA (by omega) (by omega) dL_law_313 ?_
  refine GV.aload_n F dL_law_314 rfl (lv_at hl 1 rfl) ?_
  refine GV.iload F dL_law_315 (lv_at hl 5 rfl) ?_
  refine GV.iconst (v := nI 3) F dL_law_317 (by decide) ?_
  refine GV.iadd (z := nI (i + 3)) F dL_law_318 (nI_add i 3) ?_
  refine GV.sld F hX hbl hbA (by omega) (by omega) dL_law_319 ?_
  refine GV.wrV (q0 := wx'.length + 1) (wa := rl_ E o 1 f' :: wx') (wb := []) F hE hM hp (kL_102 F.2.2.2.2 ⟨Nat.le_of_ble_eq_true rfl, Nat.le_of_ble_eq_true rfl⟩) (by rw [ob_at]; exact hm) rfl (by rw [List.append_nil]; rfl) rfl hl.1 (Nat.le_of_ble_eq_true rfl) hkn' dL_law_320 rfl ?_
  refine GV.weq (ws' := rl_ E o 1 f' :: (wx' ++ wm')) (by rw [List.append_nil]; rfl) ?_
  refine GV.istore (lv' := [(6, .int rv), (5, .int (nI kd)), (0, .ref b), (1, .ref d), (2, .ref a0), (3, .ref o), (4, .int (nI i))]) F dL_law_323 hl (by decide) rfl (fun ls hl => ?_)
  refine GV.aload_n F dL_law_325 rfl (lv_at hl 4 rfl) ?_
  refine GV.rdV (q0 := wx'.length + 1) (wa := rl_ E o 1 f' :: wx') (wb := []) F hE hT (kL_92 F.2.2.2.2 ⟨Nat.le_of_ble_eq_true rfl, Nat.le_of_ble_eq_true rfl⟩) (by rw [ob_at]; exact hm') rfl (by rw [List.append_nil]; rfl) rfl hl.1 (Nat.le_of_ble_eq_true rfl) hkn' dL_law_326 rfl ?_
  refine GV.iload F dL_law_329 (lv_at hl 1 rfl) ?_
  refine GV.ieq_t (tgt := 336) F dL_law_331 (by decide) rfl ?_
  refine GV.iload F dL_law_336 (lv_at hl 1 rfl) ?_
  by_cases h0 : kd = 0
  · skip
    refine GV.ne_f (tgt := 353) F dL_law_338 (by decide) (by rw [h0]; exact nI_0) ?_
    refine GV.aload_n F dL_law_341 rfl (lv_at hl 5 rfl) ?_
    refine GV.iconst (v := nI 0) F dL_law_342 (by decide) ?_
    refine GV.lald F hE 0 rfl (by decide) (by decide) dL_law_343 ?_
    refine GV.iload F dL_law_344 (lv_at hl 0 rfl) ?_
    refine GV.i2l F dL_law_346 ?_
    refine GV.lcmp F dL_law_347 ?_
    refine GV.eq_t (tgt := 353) F dL_law_348 (by decide) (by rw [hr h0]; exact lg_self _) ?_
    refine GV.goto (tgt := 1625) F dL_law_353 (by decide) ?_
    exact kk ls (lv_sub hl [2, 3, 4, 5, 6] rfl)
  · skip
    refine GV.ne_t (tgt := 353) F dL_law_338 (by decide) (nI_ne0 (by omega) (by omega)) ?_
    refine GV.goto (tgt := 1625) F dL_law_353 (by decide) ?_
    exact kk ls (lv_sub hl [2, 3, 4, 5, 6] rfl)
set_option maxHeartbeats 4000000 in
set_option maxRecDepth 100000 in
theorem lc_hurt {p : Program} {l : Launch} {e : Env} {s : State} {m : MethodId} {args : Array Value} {below : List Frame} {meth : Method} {c : Code} {E : EV} {A : Nat → Prop} {Q : State → Prop} (F : CallFix p m c cL_law 9 s args LW RL) (hE : CE E A s s.heap) (hA : ∀ q, s.heap.size ≤ q → A q) {b L : Nat} {xs : Nat → Int32} (hX : va_X b L xs s s.heap) (hbl : b < s.heap.size) (hbA : ¬ A b) {i : Nat} (hi : i + 4 ≤ L) (hL : L ≤ 2048) {d o a0 : Nat} {wx wx' wm wm' : va_W} {fm fm' : List Value} {f f' : Nat → Int64} {kd : Nat} {rv : Int32} {k n : Nat} (hC : Gx l E yL_hurt cL_hurt 6 [(0, 12, 15, 13), (0, 12, 19, 15)] 8 127 [.ref d, .int (xs (i + 1)), .int (xs (i + 2)), .int (xs (i + 3)), .ref o] (rl_ E o 1 f :: wx) (rl_ E o 1 f' :: wx') (nI kd)) (hM : Wr l E yX7_hurt cX7_hurt 7 (some .int) 3 70 [.ref a0, .int (xs (i + 1)), .int (xs (i + 2)), .int (xs (i + 3))] wm wm' (some (.int rv))) (hp : (ads wm').Perm (ads wm)) (hm : wm[0]? = some (a0, .inr (7, fm))) (hm' : wm'[0]? = some (a0, .inr (7, fm'))) (hT : Rd l E yX7_thrown cX7_thrown 1 (some .int) 0 0 [.ref a0] wm' (some (.int (nI kd)))) (hkd : kd < 4) (hr : kd = 0 → f' 0 = rv.toInt64) (hkn : k + 1 ≤ room_1.cells ∧ n + 6 ≤ room_1.slots) {ls : Array Slot} (hl : lv_has ls 9 [(0, .ref b), (1, .ref d), (2, .ref a0), (3, .ref o), (4, .int (nI i))]) (kk : ∀ ls : Array Slot, lv_has ls 9 [(0, .ref b), (1, .ref d), (2, .ref a0), (3, .ref o), (4, .int (nI i))] → GV p l e room_1 s m args below meth c E A Q (rl_ E o 1 f' :: (wx' ++ wm')) (k + 1) (n + 6) (F0 m 1625 ls [])) : GV p l e room_1 s m args below meth c E A Q (rl_ E o 1 f :: (wx ++ wm)) k n (F0 m 356 ls []) := by
  have hkn' := hkn
  refine GV.aload_n F dL_law_356 rfl (lv_at hl 1 rfl) ?_
  refine GV.aload_n F dL_law_357 rfl (lv_at hl 0 rfl) ?_
  refine GV.iload F dL_law_358 (lv_at hl 4 rfl) ?_
  refine GV.iconst (v := nI 1) F dL_law_360 (by decide) ?_
  refine GV.iadd (z := nI (i + 1)) F dL_law_361 (nI_add i 1) ?_
  refine GV.sld F hX hbl hbA (by omega) (by omega) dL_law_362 ?_
  refine GV.aload_n F dL_law_363 rfl (lv_at hl 0 rfl) ?_
  refine GV.iload F dL_law_364 (lv_at hl 4 rfl) ?_
  refine GV.iconst (v := nI 2) F dL_law_366 (by decide) ?_
  refine GV.iadd (z := nI (i + 2)) F dL_law_367 (nI_add i 2) ?_
  refine GV.sld F hX hbl hbA (by omega) (by omega) dL_law_368 ?_
  refine GV.aload_n F dL_law_369 rfl (lv_at hl 0 rfl) ?_
  refine GV.iload F dL_law_370 (lv_at hl 4 rfl) ?_
  refine GV.iconst (v := nI 3) F dL_law_372 (by decide) ?_
  refine GV.iadd (z := nI (i + 3)) F dL_law_373 (nI_add i 3) ?_
  refine GV.sld F hX hbl hbA (by omega) (by omega) dL_law_374 ?_
  refine GV.aload_n F dL_law_375 rfl (lv_at hl 3 rfl) ?_
  refine GV.gx (wa := []) (wb := wm) F hE hA hC (kx_hurt F.2.2.2.2 ⟨Nat.le_of_ble_eq_true rfl, Nat.le_of_ble_eq_true rfl⟩) rfl rfl hl.1 (Nat.le_of_ble_eq_true rfl) hkn dL_law_376 rfl ?_
  refine GV.weq (ws' := rl_ E o 1 f' :: (wx' ++ wm)) rfl ?_
  refine GV.istore (lv' := [(5, .int (nI kd)), (0, .ref b), (1, .ref d), (2, .ref a0), (3, .ref o), (4, .int (nI i))]) F dL_law_379 hl (by decide) rfl (fun ls hl => ?_)
  refine GV.aload_n F dL_law_381 rfl (lv_at hl 3 rfl) ?_
  refine GV.aload_n F dL_law_382 rfl (lv_at hl 1 rfl) ?_
  refine GV.iload F dL_law_383 (lv_at hl 5 rfl) ?_
  refine GV.iconst (v := nI 1) F dL_law_385 (by decide) ?_
  refine GV.iadd (z := nI (i + 1)) F dL_law_386 (nI_add i 1) ?_
  refine GV.sld F hX hbl hbA (by omega) (by omega) dL_law_387 ?_
  refine GV.aload_n F dL_law_388 rfl (lv_at hl 1 rfl) ?_
  refine GV.iload F dL_law_389 (lv_at hl 5 rfl) ?_
  refine GV.iconst (v := nI 2) F dL_law_391 (by decide) ?_
  refine GV.iadd (z := nI (i + 2)) F dL_law_392 (nI_add i 2) ?_
  refine GV.sld F hX hbl hbA (by omega) (by omega) dL_law_393 ?_
  refine GV.aload_n F dL_law_394 rfl (lv_at hl 1 rfl) ?_
  refine GV.iload F dL_law_395 (lv_at hl 5 rfl) ?_
  refine GV.iconst (v := nI 3) F dL_law_397 (by decide) ?_
  refine GV.iadd (z := nI (i + 3)) F dL_law_398 (nI_add i 3) ?_
  refine GV.sld F hX hbl hbA (by omega) (by omega) dL_law_399 ?_
  refine GV.wrV (q0 := wx'.length + 1) (wa := rl_ E o 1 f' :: wx') (wb := []) F hE hM hp (kL_105 F.2.2.2.2 ⟨Nat.le_of_ble_eq_true rfl, Nat.le_of_ble_eq_true rfl⟩) (by rw [ob_at]; exact hm) rfl (by rw [List.append_nil]; rfl) rfl hl.1 (Nat.le_of_ble_eq_true rfl) hkn' dL_law_400 rfl ?_
  refine GV.weq (ws' := rl_ E o 1 f' :: (wx' ++ wm')) (by rw [List.append_nil]; rfl) ?_
  refine GV.istore (lv' := [(6, .int rv), (5, .int (nI kd)), (0, .ref b), (1, .ref d), (2, .ref a0), (3, .ref o), (4, .int (nI i))]) F dL_law_403 hl (by decide) rfl (fun ls hl => ?_)
  refine GV.aload_n F dL_law_405 rfl (lv_at hl 4 rfl) ?_
  refine GV.rdV (q0 := wx'.length + 1) (wa := rl_ E o 1 f' :: wx') (wb := []) F hE hT (kL_92 F.2.2.2.2 ⟨Nat.le_of_ble_eq_true rfl, Nat.le_of_ble_eq_true rfl⟩) (by rw [ob_at]; exact hm') rfl (by rw [List.append_nil]; rfl) rfl hl.1 (Nat.le_of_ble_eq_true rfl) hkn' dL_law_406 rfl ?_
  refine GV.iload F dL_law_409 (lv_at hl 1 rfl) ?_
  refine GV.ieq_t (tgt := 416) F dL_law_411 (by decide) rfl ?_
  refine GV.iload F dL_law_416 (lv_at hl 1 rfl) ?_
  by_cases h0 : kd = 0
  · skip
    refine GV.ne_f (tgt := 433) F dL_law_418 (by decide) (by rw [h0]; exact nI_0) ?_
    refine GV.aload_n F dL_law_421 rfl (lv_at hl 5 rfl) ?_
    refine GV.iconst (v := nI 0) F dL_law_422 (by decide) ?_
    refine GV.lald F hE 0 rfl (by decide) (by decide) dL_law_423 ?_
    refine GV.iload F dL_law_424 (lv_at hl 0 rfl) ?_
    refine GV.i2l F dL_law_426 ?_
    refine GV.lcmp F dL_law_427 ?_
    refine GV.eq_t (tgt := 433) F dL_law_428 (by decide) (by rw [hr h0]; exact lg_self _) ?_
    refine GV.goto (tgt := 1625) F dL_law_433 (by decide) ?_
    exact kk ls (lv_sub hl [2, 3, 4, 5, 6] rfl)
  · skip
    refine GV.ne_t (tgt := 433) F dL_law_418 (by decide) (nI_ne0 (by omega) (by omega)) ?_
    refine GV.goto (tgt := 1625) F dL_law_433 (by decide) ?_
    exact kk ls (lv_sub hl [2, 3, 4, 5, 6] rfl)
set_option maxHeartbeats 4000000 in
set_option maxRecDepth 100000 in
theorem lc_insure {p : Program} {l : Launch} {e : Env} {s : State} {m : MethodId} {args : Array Value} {below : List Frame} {meth : Method} {c : Code} {E : EV} {A : Nat → Prop} {Q : State → Prop} (F : CallFix p m c cL_law 9 s args LW RL) (hE : CE E A s s.heap) (hA : ∀ q, s.heap.size ≤ q → A q) {b L : Nat} {xs : Nat → Int32} (hX : va_X b L xs s s.heap) (hbl : b < s.heap.size) (hbA : ¬ A b) {i : Nat} (hi : i + 4 ≤ L) (hL : L ≤ 2048) {d o a0 : Nat} {wx wx' wm wm' : va_W} {fm fm' : List Value} {f f' : Nat → Int64} {kd : Nat} {rv : Int32} {k n : Nat} (hC : Gx l E yL_insure cL_insure 5 [(0, 10, 13, 15), (0, 10, 17, 21)] 8 126 [.ref d, .int (xs (i + 1)), .int (xs (i + 2)), .ref o] (rl_ E o 1 f :: wx) (rl_ E o 1 f' :: wx') (nI kd)) (hM : Wr l E yX7_insure cX7_insure 4 (some .int) 1 23 [.ref a0, .int (xs (i + 1)), .int (xs (i + 2))] wm wm' (some (.int rv))) (hp : (ads wm').Perm (ads wm)) (hm : wm[0]? = some (a0, .inr (7, fm))) (hm' : wm'[0]? = some (a0, .inr (7, fm'))) (hT : Rd l E yX7_thrown cX7_thrown 1 (some .int) 0 0 [.ref a0] wm' (some (.int (nI kd)))) (hkd : kd < 4) (hr : kd = 0 → f' 0 = rv.toInt64) (hkn : k + 1 ≤ room_1.cells ∧ n + 6 ≤ room_1.slots) {ls : Array Slot} (hl : lv_has ls 9 [(0, .ref b), (1, .ref d), (2, .ref a0), (3, .ref o), (4, .int (nI i))]) (kk : ∀ ls : Array Slot, lv_has ls 9 [(0, .ref b), (1, .ref d), (2, .ref a0), (3, .ref o), (4, .int (nI i))] → GV p l e room_1 s m args below meth c E A Q (rl_ E o 1 f' :: (wx' ++ wm')) (k + 1) (n + 6) (F0 m 1625 ls [])) : GV p l e room_1 s m args below meth c E A Q (rl_ E o 1 f :: (wx ++ wm)) k n (F0 m 436 ls []) := by
  have hkn' := hkn
  refine GV.aload_n F dL_law_436 rfl (lv_at hl 1 rfl) ?_
  refine GV.aload_n F dL_law_437 rfl (lv_at hl 0 rfl) ?_
  refine GV.iload F dL_law_438 (lv_at hl 4 rfl) ?_
  refine GV.iconst (v := nI 1) F dL_law_440 (by decide) ?_
  refine GV.iadd (z := nI (i + 1)) F dL_law_441 (nI_add i 1) ?_
  refine GV.sld F hX hbl hbA (by omega) (by omega) dL_law_442 ?_
  refine GV.aload_n F dL_law_443 rfl (lv_at hl 0 rfl) ?_
  refine GV.iload F dL_law_444 (lv_at hl 4 rfl) ?_
  refine GV.iconst (v := nI 2) F dL_law_446 (by decide) ?_
  refine GV.iadd (z := nI (i + 2)) F dL_law_447 (nI_add i 2) ?_
  refine GV.sld F hX hbl hbA (by omega) (by omega) dL_law_448 ?_
  refine GV.aload_n F dL_law_449 rfl (lv_at hl 3 rfl) ?_
  refine GV.gx (wa := []) (wb := wm) F hE hA hC (kx_insure F.2.2.2.2 ⟨Nat.le_of_ble_eq_true rfl, Nat.le_of_ble_eq_true rfl⟩) rfl rfl hl.1 (Nat.le_of_ble_eq_true rfl) hkn dL_law_450 rfl ?_
  refine GV.weq (ws' := rl_ E o 1 f' :: (wx' ++ wm)) rfl ?_
  refine GV.istore (lv' := [(5, .int (nI kd)), (0, .ref b), (1, .ref d), (2, .ref a0), (3, .ref o), (4, .int (nI i))]) F dL_law_453 hl (by decide) rfl (fun ls hl => ?_)
  refine GV.aload_n F dL_law_455 rfl (lv_at hl 3 rfl) ?_
  refine GV.aload_n F dL_law_456 rfl (lv_at hl 1 rfl) ?_
  refine GV.iload F dL_law_457 (lv_at hl 5 rfl) ?_
  refine GV.iconst (v := nI 1) F dL_law_459 (by decide) ?_
  refine GV.iadd (z := nI (i + 1)) F dL_law_460 (nI_add i 1) ?_
  refine GV.sld F hX hbl hbA (by omega) (by omega) dL_law_461 ?_
  refine GV.aload_n F dL_law_462 rfl (lv_at hl 1 rfl) ?_
  refine GV.iload F dL_law_463 (lv_at hl 5 rfl) ?_
  refine GV.iconst (v := nI 2) F dL_law_465 (by decide) ?_
  refine GV.iadd (z := nI (i + 2)) F dL_law_466 (nI_add i 2) ?_
  refine GV.sld F hX hbl hbA (by omega) (by omega) dL_law_467 ?_
  refine GV.wrV (q0 := wx'.length + 1) (wa := rl_ E o 1 f' :: wx') (wb := []) F hE hM hp (kL_108 F.2.2.2.2 ⟨Nat.le_of_ble_eq_true rfl, Nat.le_of_ble_eq_true rfl⟩) (by rw [ob_at]; exact hm) rfl (by rw [List.append_nil]; rfl) rfl hl.1 (Nat.le_of_ble_eq_true rfl) hkn' dL_law_468 rfl ?_
  refine GV.weq (ws' := rl_ E o 1 f' :: (wx' ++ wm')) (by rw [List.append_nil]; rfl) ?_
  refine GV.istore (lv' := [(6, .int rv), (5, .int (nI kd)), (0, .ref b), (1, .ref d), (2, .ref a0), (3, .ref o), (4, .int (nI i))]) F dL_law_471 hl (by decide) rfl (fun ls hl => ?_)
  refine GV.aload_n F dL_law_473 rfl (lv_at hl 4 rfl) ?_
  refine GV.rdV (q0 := wx'.length + 1) (wa := rl_ E o 1 f' :: wx') (wb := []) F hE hT (kL_92 F.2.2.2.2 ⟨Nat.le_of_ble_eq_true rfl, Nat.le_of_ble_eq_true rfl⟩) (by rw [ob_at]; exact hm') rfl (by rw [List.append_nil]; rfl) rfl hl.1 (Nat.le_of_ble_eq_true rfl) hkn' dL_law_474 rfl ?_
  refine GV.iload F dL_law_477 (lv_at hl 1 rfl) ?_
  refine GV.ieq_t (tgt := 484) F dL_law_479 (by decide) rfl ?_
  refine GV.iload F dL_law_484 (lv_at hl 1 rfl) ?_
  by_cases h0 : kd = 0
  · skip
    refine GV.ne_f (tgt := 501) F dL_law_486 (by decide) (by rw [h0]; exact nI_0) ?_
    refine GV.aload_n F dL_law_489 rfl (lv_at hl 5 rfl) ?_
    refine GV.iconst (v := nI 0) F dL_law_490 (by decide) ?_
    refine GV.lald F hE 0 rfl (by decide) (by decide) dL_law_491 ?_
    refine GV.iload F dL_law_492 (lv_at hl 0 rfl) ?_
    refine GV.i2l F dL_law_494 ?_
    refine GV.lcmp F dL_law_495 ?_
    refine GV.eq_t (tgt := 501) F dL_law_496 (by decide) (by rw [hr h0]; exact lg_self _) ?_
    refine GV.goto (tgt := 1625) F dL_law_501 (by decide) ?_
    exact kk ls (lv_sub hl [2, 3, 4, 5, 6] rfl)
  · skip
    refine GV.ne_t (tgt := 501) F dL_law_486 (by decide) (nI_ne0 (by omega) (by omega)) ?_
    refine GV.goto (tgt := 1625) F dL_law_501 (by decide) ?_
    exact kk ls (lv_sub hl [2, 3, 4, 5, 6] rfl)
set_option maxHeartbeats 4000000 in
set_option maxRecDepth 100000 in
theorem lc_scene {p : Program} {l : Launch} {e : Env} {s : State} {m : MethodId} {args : Array Value} {below : List Frame} {meth : Method} {c : Code} {E : EV} {A : Nat → Prop} {Q : State → Prop} (F : CallFix p m c cL_law 9 s args LW RL) (hE : CE E A s s.heap) (hA : ∀ q, s.heap.size ≤ q → A q) {b L : Nat} {xs : Nat → Int32} (hX : va_X b L xs s s.heap) (hbl : b < s.heap.size) (hbA : ¬ A b) {i : Nat} (hi : i + 4 ≤ L) (hL : L ≤ 2048) {d o a0 : Nat} {wx wx' wm wm' : va_W} {fm fm' : List Value} {f f' : Nat → Int64} {kd : Nat} {rv : Int32} {k n : Nat} (hC : Gx l E yL_scene cL_scene 6 [(0, 12, 15, 13), (0, 12, 19, 15), (0, 12, 23, 21)] 8 127 [.ref d, .int (xs (i + 1)), .int (xs (i + 2)), .int (xs (i + 3)), .ref o] (rl_ E o 1 f :: wx) (rl_ E o 1 f' :: wx') (nI kd)) (hM : Wr l E yX7_scene cX7_scene 5 (some .int) 2 42 [.ref a0, .int (xs (i + 1)), .int (xs (i + 2)), .int (xs (i + 3))] wm wm' (some (.int rv))) (hp : (ads wm').Perm (ads wm)) (hm : wm[0]? = some (a0, .inr (7, fm))) (hm' : wm'[0]? = some (a0, .inr (7, fm'))) (hT : Rd l E yX7_thrown cX7_thrown 1 (some .int) 0 0 [.ref a0] wm' (some (.int (nI kd)))) (hkd : kd < 4) (hr : kd = 0 → f' 0 = rv.toInt64) (hkn : k + 1 ≤ room_1.cells ∧ n + 6 ≤ room_1.slots) {ls : Array Slot} (hl : lv_has ls 9 [(0, .ref b), (1, .ref d), (2, .ref a0), (3, .ref o), (4, .int (nI i))]) (kk : ∀ ls : Array Slot, lv_has ls 9 [(0, .ref b), (1, .ref d), (2, .ref a0), (3, .ref o), (4, .int (nI i))] → GV p l e room_1 s m args below meth c E A Q (rl_ E o 1 f' :: (wx' ++ wm')) (k + 1) (n + 6) (F0 m 1625 ls [])) : GV p l e room_1 s m args below meth c E A Q (rl_ E o 1 f :: (wx ++ wm)) k n (F0 m 504 ls []) := by
  have hkn' := hkn
  refine GV.aload_n F dL_law_504 rfl (lv_at hl 1 rfl) ?_
  refine GV.aload_n F dL_law_505 rfl (lv_at hl 0 rfl) ?_
  refine GV.iload F dL_law_506 (lv_at hl 4 rfl) ?_
  refine GV.iconst (v := nI 1) F dL_law_508 (by decide) ?_
  refine GV.iadd (z := nI (i + 1)) F dL_law_509 (nI_add i 1) ?_
  refine GV.sld F hX hbl hbA (by omega) (by omega) dL_law_510 ?_
  refine GV.aload_n F dL_law_511 rfl (lv_at hl 0 rfl) ?_
  refine GV.iload F dL_law_512 (lv_at hl 4 rfl) ?_
  refine GV.iconst (v := nI 2) F dL_law_514 (by decide) ?_
  refine GV.iadd (z := nI (i + 2)) F dL_law_515 (nI_add i 2) ?_
  refine GV.sld F hX hbl hbA (by omega) (by omega) dL_law_516 ?_
  refine GV.aload_n F dL_law_517 rfl (lv_at hl 0 rfl) ?_
  refine GV.iload F dL_law_518 (lv_at hl 4 rfl) ?_
  refine GV.iconst (v := nI 3) F dL_law_520 (by decide) ?_
  refine GV.iadd (z := nI (i + 3)) F dL_law_521 (nI_add i 3) ?_
  refine GV.sld F hX hbl hbA (by omega) (by omega) dL_law_522 ?_
  refine GV.aload_n F dL_law_523 rfl (lv_at hl 3 rfl) ?_
  refine GV.gx (wa := []) (wb := wm) F hE hA hC (kx_scene F.2.2.2.2 ⟨Nat.le_of_ble_eq_true rfl, Nat.le_of_ble_eq_true rfl⟩) rfl rfl hl.1 (Nat.le_of_ble_eq_true rfl) hkn dL_law_524 rfl ?_
  refine GV.weq (ws' := rl_ E o 1 f' :: (wx' ++ wm)) rfl ?_
  refine GV.istore (lv' := [(5, .int (nI kd)), (0, .ref b), (1, .ref d), (2, .ref a0), (3, .ref o), (4, .int (nI i))]) F dL_law_527 hl (by decide) rfl (fun ls hl => ?_)
  refine GV.aload_n F dL_law_529 rfl (lv_at hl 3 rfl) ?_
  refine GV.aload_n F dL_law_530 rfl (lv_at hl 1 rfl) ?_
  refine GV.iload F dL_law_531 (lv_at hl 5 rfl) ?_
  refine GV.iconst (v := nI 1) F dL_law_533 (by decide) ?_
  refine GV.iadd (z := nI (i + 1)) F dL_law_534 (nI_add i 1) ?_
  refine GV.sld F hX hbl hbA (by omega) (by omega) dL_law_535 ?_
  refine GV.aload_n F dL_law_536 rfl (lv_at hl 1 rfl) ?_
  refine GV.iload F dL_law_537 (lv_at hl 5 rfl) ?_
  refine GV.iconst (v := nI 2) F dL_law_539 (by decide) ?_
  refine GV.iadd (z := nI (i + 2)) F dL_law_540 (nI_add i 2) ?_
  refine GV.sld F hX hbl hbA (by omega) (by omega) dL_law_541 ?_
  refine GV.aload_n F dL_law_542 rfl (lv_at hl 1 rfl) ?_
  refine GV.iload F dL_law_543 (lv_at hl 5 rfl) ?_
  refine GV.iconst (v := nI 3) F dL_law_545 (by decide) ?_
  refine GV.iadd (z := nI (i + 3)) F dL_law_546 (nI_add i 3) ?_
  refine GV.sld F hX hbl hbA (by omega) (by omega) dL_law_547 ?_
  refine GV.wrV (q0 := wx'.length + 1) (wa := rl_ E o 1 f' :: wx') (wb := []) F hE hM hp (kL_111 F.2.2.2.2 ⟨Nat.le_of_ble_eq_true rfl, Nat.le_of_ble_eq_true rfl⟩) (by rw [ob_at]; exact hm) rfl (by rw [List.append_nil]; rfl) rfl hl.1 (Nat.le_of_ble_eq_true rfl) hkn' dL_law_548 rfl ?_
  refine GV.weq (ws' := rl_ E o 1 f' :: (wx' ++ wm')) (by rw [List.append_nil]; rfl) ?_
  refine GV.istore (lv' := [(6, .int rv), (5, .int (nI kd)), (0, .ref b), (1, .ref d), (2, .ref a0), (3, .ref o), (4, .int (nI i))]) F dL_law_551 hl (by decide) rfl (fun ls hl => ?_)
  refine GV.aload_n F dL_law_553 rfl (lv_at hl 4 rfl) ?_
  refine GV.rdV (q0 := wx'.length + 1) (wa := rl_ E o 1 f' :: wx') (wb := []) F hE hT (kL_92 F.2.2.2.2 ⟨Nat.le_of_ble_eq_true rfl, Nat.le_of_ble_eq_true rfl⟩) (by rw [ob_at]; exact hm') rfl (by rw [List.append_nil]; rfl) rfl hl.1 (Nat.le_of_ble_eq_true rfl) hkn' dL_law_554 rfl ?_
  refine GV.iload F dL_law_557 (lv_at hl 1 rfl) ?_
  refine GV.ieq_t (tgt := 564) F dL_law_559 (by decide) rfl ?_
  refine GV.iload F dL_law_564 (lv_at hl 1 rfl) ?_
  by_cases h0 : kd = 0
  · skip
    refine GV.ne_f (tgt := 581) F dL_law_566 (by decide) (by rw [h0]; exact nI_0) ?_
    refine GV.aload_n F dL_law_569 rfl (lv_at hl 5 rfl) ?_
    refine GV.iconst (v := nI 0) F dL_law_570 (by decide) ?_
    refine GV.lald F hE 0 rfl (by decide) (by decide) dL_law_571 ?_
    refine GV.iload F dL_law_572 (lv_at hl 0 rfl) ?_
    refine GV.i2l F dL_law_574 ?_
    refine GV.lcmp F dL_law_575 ?_
    refine GV.eq_t (tgt := 581) F dL_law_576 (by decide) (by rw [hr h0]; exact lg_self _) ?_
    refine GV.goto (tgt := 1625) F dL_law_581 (by decide) ?_
    exact kk ls (lv_sub hl [2, 3, 4, 5, 6] rfl)
  · skip
    refine GV.ne_t (tgt := 581) F dL_law_566 (by decide) (nI_ne0 (by omega) (by omega)) ?_
    refine GV.goto (tgt := 1625) F dL_law_581 (by decide) ?_
    exact kk ls (lv_sub hl [2, 3, 4, 5, 6] rfl)
set_option maxHeartbeats 4000000 in
set_option maxRecDepth 100000 in
theorem lc_shoot {p : Program} {l : Launch} {e : Env} {s : State} {m : MethodId} {args : Array Value} {below : List Frame} {meth : Method} {c : Code} {E : EV} {A : Nat → Prop} {Q : State → Prop} (F : CallFix p m c cL_law 9 s args LW RL) (hE : CE E A s s.heap) (hA : ∀ q, s.heap.size ≤ q → A q) {b L : Nat} {xs : Nat → Int32} (hX : va_X b L xs s s.heap) (hbl : b < s.heap.size) (hbA : ¬ A b) {i : Nat} (hi : i + 4 ≤ L) (hL : L ≤ 2048) {d o a0 : Nat} {wx wx' wm wm' : va_W} {fm fm' : List Value} {f f' : Nat → Int64} {kd : Nat} {rv : Int32} {k n : Nat} (hC : Gx l E yL_shoot cL_shoot 5 [(0, 10, 13, 13), (0, 10, 17, 21)] 8 127 [.ref d, .int (xs (i + 1)), .int (xs (i + 2)), .ref o] (rl_ E o 1 f :: wx) (rl_ E o 1 f' :: wx') (nI kd)) (hM : Wr l E yX7_shoot cX7_shoot 3 (some .int) 4 99 [.ref a0, .int (xs (i + 1)), .int (xs (i + 2))] wm wm' (some (.int rv))) (hp : (ads wm').Perm (ads wm)) (hm : wm[0]? = some (a0, .inr (7, fm))) (hm' : wm'[0]? = some (a0, .inr (7, fm'))) (hT : Rd l E yX7_thrown cX7_thrown 1 (some .int) 0 0 [.ref a0] wm' (some (.int (nI kd)))) (hkd : kd < 4) (hr : kd = 0 → f' 0 = rv.toInt64) (hkn : k + 1 ≤ room_1.cells ∧ n + 6 ≤ room_1.slots) {ls : Array Slot} (hl : lv_has ls 9 [(0, .ref b), (1, .ref d), (2, .ref a0), (3, .ref o), (4, .int (nI i))]) (kk : ∀ ls : Array Slot, lv_has ls 9 [(0, .ref b), (1, .ref d), (2, .ref a0), (3, .ref o), (4, .int (nI i))] → GV p l e room_1 s m args below meth c E A Q (rl_ E o 1 f' :: (wx' ++ wm')) (k + 1) (n + 6) (F0 m 1625 ls [])) : GV p l e room_1 s m args below meth c E A Q (rl_ E o 1 f :: (wx ++ wm)) k n (F0 m 584 ls []) := by
  have hkn' := hkn
  refine GV.aload_n F dL_law_584 rfl (lv_at hl 1 rfl) ?_
  refine GV.aload_n F dL_law_585 rfl (lv_at hl 0 rfl) ?_
  refine GV.iload F dL_law_586 (lv_at hl 4 rfl) ?_
  refine GV.iconst (v := nI 1) F dL_law_588 (by decide) ?_
  refine GV.iadd (z := nI (i + 1)) F dL_law_589 (nI_add i 1) ?_
  refine GV.sld F hX hbl hbA (by omega) (by omega) dL_law_590 ?_
  refine GV.aload_n F dL_law_591 rfl (lv_at hl 0 rfl) ?_
  refine GV.iload F dL_law_592 (lv_at hl 4 rfl) ?_
  refine GV.iconst (v := nI 2) F dL_law_594 (by decide) ?_
  refine GV.iadd (z := nI (i + 2)) F dL_law_595 (nI_add i 2) ?_
  refine GV.sld F hX hbl hbA (by omega) (by omega) dL_law_596 ?_
  refine GV.aload_n F dL_law_597 rfl (lv_at hl 3 rfl) ?_
  refine GV.gx (wa := []) (wb := wm) F hE hA hC (kx_shoot F.2.2.2.2 ⟨Nat.le_of_ble_eq_true rfl, Nat.le_of_ble_eq_true rfl⟩) rfl rfl hl.1 (Nat.le_of_ble_eq_true rfl) hkn dL_law_598 rfl ?_
  refine GV.weq (ws' := rl_ E o 1 f' :: (wx' ++ wm)) rfl ?_
  refine GV.istore (lv' := [(5, .int (nI kd)), (0, .ref b), (1, .ref d), (2, .ref a0), (3, .ref o), (4, .int (nI i))]) F dL_law_601 hl (by decide) rfl (fun ls hl => ?_)
  refine GV.aload_n F dL_law_603 rfl (lv_at hl 3 rfl) ?_
  refine GV.aload_n F dL_law_604 rfl (lv_at hl 1 rfl) ?_
  refine GV.iload F dL_law_605 (lv_at hl 5 rfl) ?_
  refine GV.iconst (v := nI 1) F dL_law_607 (by decide) ?_
  refine GV.iadd (z := nI (i + 1)) F dL_law_608 (nI_add i 1) ?_
  refine GV.sld F hX hbl hbA (by omega) (by omega) dL_law_609 ?_
  refine GV.aload_n F dL_law_610 rfl (lv_at hl 1 rfl) ?_
  refine GV.iload F dL_law_611 (lv_at hl 5 rfl) ?_
  refine GV.iconst (v := nI 2) F dL_law_613 (by decide) ?_
  refine GV.iadd (z := nI (i + 2)) F dL_law_614 (nI_add i 2) ?_
  refine GV.sld F hX hbl hbA (by omega) (by omega) dL_law_615 ?_
  refine GV.wrV (q0 := wx'.length + 1) (wa := rl_ E o 1 f' :: wx') (wb := []) F hE hM hp (kL_114 F.2.2.2.2 ⟨Nat.le_of_ble_eq_true rfl, Nat.le_of_ble_eq_true rfl⟩) (by rw [ob_at]; exact hm) rfl (by rw [List.append_nil]; rfl) rfl hl.1 (Nat.le_of_ble_eq_true rfl) hkn' dL_law_616 rfl ?_
  refine GV.weq (ws' := rl_ E o 1 f' :: (wx' ++ wm')) (by rw [List.append_nil]; rfl) ?_
  refine GV.istore (lv' := [(6, .int rv), (5, .int (nI kd)), (0, .ref b), (1, .ref d), (2, .ref a0), (3, .ref o), (4, .int (nI i))]) F dL_law_619 hl (by decide) rfl (fun ls hl => ?_)
  refine GV.aload_n F dL_law_621 rfl (lv_at hl 4 rfl) ?_
  refine GV.rdV (q0 := wx'.length + 1) (wa := rl_ E o 1 f' :: wx') (wb := []) F hE hT (kL_92 F.2.2.2.2 ⟨Nat.le_of_ble_eq_true rfl, Nat.le_of_ble_eq_true rfl⟩) (by rw [ob_at]; exact hm') rfl (by rw [List.append_nil]; rfl) rfl hl.1 (Nat.le_of_ble_eq_true rfl) hkn' dL_law_622 rfl ?_
  refine GV.iload F dL_law_625 (lv_at hl 1 rfl) ?_
  refine GV.ieq_t (tgt := 632) F dL_law_627 (by decide) rfl ?_
  refine GV.iload F dL_law_632 (lv_at hl 1 rfl) ?_
  by_cases h0 : kd = 0
  · skip
    refine GV.ne_f (tgt := 649) F dL_law_634 (by decide) (by rw [h0]; exact nI_0) ?_
    refine GV.aload_n F dL_law_637 rfl (lv_at hl 5 rfl) ?_
    refine GV.iconst (v := nI 0) F dL_law_638 (by decide) ?_
    refine GV.lald F hE 0 rfl (by decide) (by decide) dL_law_639 ?_
    refine GV.iload F dL_law_640 (lv_at hl 0 rfl) ?_
    refine GV.i2l F dL_law_642 ?_
    refine GV.lcmp F dL_law_643 ?_
    refine GV.eq_t (tgt := 649) F dL_law_644 (by decide) (by rw [hr h0]; exact lg_self _) ?_
    refine GV.goto (tgt := 1625) F dL_law_649 (by decide) ?_
    exact kk ls (lv_sub hl [2, 3, 4, 5, 6] rfl)
  · skip
    refine GV.ne_t (tgt := 649) F dL_law_634 (by decide) (nI_ne0 (by omega) (by omega)) ?_
    refine GV.goto (tgt := 1625) F dL_law_649 (by decide) ?_
    exact kk ls (lv_sub hl [2, 3, 4, 5, 6] rfl)
set_option maxHeartbeats 4000000 in
set_option maxRecDepth 100000 in
theorem lc_append {p : Program} {l : Launch} {e : Env} {s : State} {m : MethodId} {args : Array Value} {below : List Frame} {meth : Method} {c : Code} {E : EV} {A : Nat → Prop} {Q : State → Prop} (F : CallFix p m c cL_law 9 s args LW RL) (hE : CE E A s s.heap) (hA : ∀ q, s.heap.size ≤ q → A q) {b L : Nat} {xs : Nat → Int32} (hX : va_X b L xs s s.heap) (hbl : b < s.heap.size) (hbA : ¬ A b) {i : Nat} (hi : i + 4 ≤ L) (hL : L ≤ 2048) {d o a0 : Nat} {wx wx' wm wm' : va_W} {fm fm' : List Value} {f f' : Nat → Int64} {kd : Nat} {rv : Int32} {k n : Nat} (hC : Gx l E yL_append cL_append 4 [(0, 9, 12, 15), (0, 9, 15, 21)] 8 125 [.ref d, .int (xs (i + 1)), .ref o] (rl_ E o 1 f :: wx) (rl_ E o 1 f' :: wx') (nI kd)) (hM : Wr l E yX7_append cX7_append 2 (some .int) 1 22 [.ref a0, .int (xs (i + 1))] wm wm' (some (.int rv))) (hp : (ads wm').Perm (ads wm)) (hm : wm[0]? = some (a0, .inr (7, fm))) (hm' : wm'[0]? = some (a0, .inr (7, fm'))) (hT : Rd l E yX7_thrown cX7_thrown 1 (some .int) 0 0 [.ref a0] wm' (some (.int (nI kd)))) (hkd : kd < 4) (hr : kd = 0 → f' 0 = rv.toInt64) (hkn : k + 1 ≤ room_1.cells ∧ n + 6 ≤ room_1.slots) {ls : Array Slot} (hl : lv_has ls 9 [(0, .ref b), (1, .ref d), (2, .ref a0), (3, .ref o), (4, .int (nI i))]) (kk : ∀ ls : Array Slot, lv_has ls 9 [(0, .ref b), (1, .ref d), (2, .ref a0), (3, .ref o), (4, .int (nI i))] → GV p l e room_1 s m args below meth c E A Q (rl_ E o 1 f' :: (wx' ++ wm')) (k + 1) (n + 6) (F0 m 1625 ls [])) : GV p l e room_1 s m args below meth c E A Q (rl_ E o 1 f :: (wx ++ wm)) k n (F0 m 652 ls []) := by
  have hkn' := hkn
  refine GV.aload_n F dL_law_652 rfl (lv_at hl 1 rfl) ?_
  refine GV.aload_n F dL_law_653 rfl (lv_at hl 0 rfl) ?_
  refine GV.iload F dL_law_654 (lv_at hl 4 rfl) ?_
  refine GV.iconst (v := nI 1) F dL_law_656 (by decide) ?_
  refine GV.iadd (z := nI (i + 1)) F dL_law_657 (nI_add i 1) ?_
  refine GV.sld F hX hbl hbA (by omega) (by omega) dL_law_658 ?_
  refine GV.aload_n F dL_law_659 rfl (lv_at hl 3 rfl) ?_
  refine GV.gx (wa := []) (wb := wm) F hE hA hC (kx_append F.2.2.2.2 ⟨Nat.le_of_ble_eq_true rfl, Nat.le_of_ble_eq_true rfl⟩) rfl rfl hl.1 (Nat.le_of_ble_eq_true rfl) hkn dL_law_660 rfl ?_
  refine GV.weq (ws' := rl_ E o 1 f' :: (wx' ++ wm)) rfl ?_
  refine GV.istore (lv' := [(5, .int (nI kd)), (0, .ref b), (1, .ref d), (2, .ref a0), (3, .ref o), (4, .int (nI i))]) F dL_law_663 hl (by decide) rfl (fun ls hl => ?_)
  refine GV.aload_n F dL_law_665 rfl (lv_at hl 3 rfl) ?_
  refine GV.aload_n F dL_law_666 rfl (lv_at hl 1 rfl) ?_
  refine GV.iload F dL_law_667 (lv_at hl 5 rfl) ?_
  refine GV.iconst (v := nI 1) F dL_law_669 (by decide) ?_
  refine GV.iadd (z := nI (i + 1)) F dL_law_670 (nI_add i 1) ?_
  refine GV.sld F hX hbl hbA (by omega) (by omega) dL_law_671 ?_
  refine GV.wrV (q0 := wx'.length + 1) (wa := rl_ E o 1 f' :: wx') (wb := []) F hE hM hp (kL_117 F.2.2.2.2 ⟨Nat.le_of_ble_eq_true rfl, Nat.le_of_ble_eq_true rfl⟩) (by rw [ob_at]; exact hm) rfl (by rw [List.append_nil]; rfl) rfl hl.1 (Nat.le_of_ble_eq_true rfl) hkn' dL_law_672 rfl ?_
  refine GV.weq (ws' := rl_ E o 1 f' :: (wx' ++ wm')) (by rw [List.append_nil]; rfl) ?_
  refine GV.istore (lv' := [(6, .int rv), (5, .int (nI kd)), (0, .ref b), (1, .ref d), (2, .ref a0), (3, .ref o), (4, .int (nI i))]) F dL_law_675 hl (by decide) rfl (fun ls hl => ?_)
  refine GV.aload_n F dL_law_677 rfl (lv_at hl 4 rfl) ?_
  refine GV.rdV (q0 := wx'.length + 1) (wa := rl_ E o 1 f' :: wx') (wb := []) F hE hT (kL_92 F.2.2.2.2 ⟨Nat.le_of_ble_eq_true rfl, Nat.le_of_ble_eq_true rfl⟩) (by rw [ob_at]; exact hm') rfl (by rw [List.append_nil]; rfl) rfl hl.1 (Nat.le_of_ble_eq_true rfl) hkn' dL_law_678 rfl ?_
  refine GV.iload F dL_law_681 (lv_at hl 1 rfl) ?_
  refine GV.ieq_t (tgt := 688) F dL_law_683 (by decide) rfl ?_
  refine GV.iload F dL_law_688 (lv_at hl 1 rfl) ?_
  by_cases h0 : kd = 0
  · skip
    refine GV.ne_f (tgt := 705) F dL_law_690 (by decide) (by rw [h0]; exact nI_0) ?_
    refine GV.aload_n F dL_law_693 rfl (lv_at hl 5 rfl) ?_
    refine GV.iconst (v := nI 0) F dL_law_694 (by decide) ?_
    refine GV.lald F hE 0 rfl (by decide) (by decide) dL_law_695 ?_
    refine GV.iload F dL_law_696 (lv_at hl 0 rfl) ?_
    refine GV.i2l F dL_law_698 ?_
    refine GV.lcmp F dL_law_699 ?_
    refine GV.eq_t (tgt := 705) F dL_law_700 (by decide) (by rw [hr h0]; exact lg_self _) ?_
    refine GV.goto (tgt := 1625) F dL_law_705 (by decide) ?_
    exact kk ls (lv_sub hl [2, 3, 4, 5, 6] rfl)
  · skip
    refine GV.ne_t (tgt := 705) F dL_law_690 (by decide) (nI_ne0 (by omega) (by omega)) ?_
    refine GV.goto (tgt := 1625) F dL_law_705 (by decide) ?_
    exact kk ls (lv_sub hl [2, 3, 4, 5, 6] rfl)
set_option maxHeartbeats 4000000 in
set_option maxRecDepth 100000 in
theorem lc_clearBuffer {p : Program} {l : Launch} {e : Env} {s : State} {m : MethodId} {args : Array Value} {below : List Frame} {meth : Method} {c : Code} {E : EV} {A : Nat → Prop} {Q : State → Prop} (F : CallFix p m c cL_law 9 s args LW RL) (hE : CE E A s s.heap) (hA : ∀ q, s.heap.size ≤ q → A q) {b L : Nat} {xs : Nat → Int32} (hX : va_X b L xs s s.heap) (hbl : b < s.heap.size) (hbA : ¬ A b) {i : Nat} (hi : i + 4 ≤ L) (hL : L ≤ 2048) {d o a0 : Nat} {wc wc' wb wm wm' : va_W} {fs fm fm' : List Value} {f : Nat → Int64} {rv : Int32} {k n : Nat} (hC : Wr l E yX6_clearBuffer cX6_clearBuffer 2 (some .int) 1 20 [.ref d] ((d, .inr (6, fs)) :: wc) ((d, .inr (6, fs)) :: wc') (some (.int rv))) (hpc : (ads ((d, .inr (6, fs)) :: wc')).Perm (ads ((d, .inr (6, fs)) :: wc))) (hM : Wr l E yX7_clearBuffer cX7_clearBuffer 2 (some .int) 0 0 [.ref a0] wm wm' (some (.int rv))) (hp : (ads wm').Perm (ads wm)) (hm : wm[0]? = some (a0, .inr (7, fm))) (hm' : wm'[0]? = some (a0, .inr (7, fm'))) (hkn : k + 1 ≤ room_1.cells ∧ n + 6 ≤ room_1.slots) {ls : Array Slot} (hl : lv_has ls 9 [(0, .ref b), (1, .ref d), (2, .ref a0), (3, .ref o), (4, .int (nI i))]) (kk : ∀ ls : Array Slot, lv_has ls 9 [(0, .ref b), (1, .ref d), (2, .ref a0), (3, .ref o), (4, .int (nI i))] → GV p l e room_1 s m args below meth c E A Q (rl_ E o 1 f :: ((((d, .inr (6, fs)) :: wc') ++ wb) ++ wm')) k n (F0 m 1625 ls [])) : GV p l e room_1 s m args below meth c E A Q (rl_ E o 1 f :: ((((d, .inr (6, fs)) :: wc) ++ wb) ++ wm)) k n (F0 m 708 ls []) := by
  have hkn' : k ≤ room_1.cells ∧ n ≤ room_1.slots := ⟨by omega, by omega⟩
  refine GV.aload_n F dL_law_708 rfl (lv_at hl 1 rfl) ?_
  refine GV.wrV (q0 := 1) (wa := [rl_ E o 1 f]) (wb := wb ++ wm) F hE hC hpc (kL_118 F.2.2.2.2 ⟨Nat.le_of_ble_eq_true rfl, Nat.le_of_ble_eq_true rfl⟩) rfl rfl (by rw [List.append_assoc]; rfl) rfl hl.1 (Nat.le_of_ble_eq_true rfl) hkn' dL_law_709 rfl ?_
  refine GV.weq (ws' := rl_ E o 1 f :: ((((d, .inr (6, fs)) :: wc') ++ wb) ++ wm)) (by rw [List.append_assoc]; rfl) ?_
  refine GV.aload_n F dL_law_712 rfl (lv_at hl 2 rfl) ?_
  refine GV.wrV (q0 := (((d, .inr (6, fs)) :: wc') ++ wb).length + 1) (wa := rl_ E o 1 f :: (((d, .inr (6, fs)) :: wc') ++ wb)) (wb := []) F hE hM hp (kL_121 F.2.2.2.2 ⟨Nat.le_of_ble_eq_true rfl, Nat.le_of_ble_eq_true rfl⟩) (by rw [ob_at]; exact hm) rfl (by rw [List.append_nil]; rfl) rfl hl.1 (Nat.le_of_ble_eq_true rfl) hkn' dL_law_713 rfl ?_
  refine GV.weq (ws' := rl_ E o 1 f :: ((((d, .inr (6, fs)) :: wc') ++ wb) ++ wm')) (by rw [List.append_nil]; rfl) ?_
  refine GV.ieq_t (tgt := 1625) F dL_law_716 (by decide) rfl ?_
  exact kk ls (lv_sub hl [0, 1, 2, 3, 4] rfl)
set_option maxHeartbeats 4000000 in
set_option maxRecDepth 100000 in
theorem lc_firstError {p : Program} {l : Launch} {e : Env} {s : State} {m : MethodId} {args : Array Value} {below : List Frame} {meth : Method} {c : Code} {E : EV} {A : Nat → Prop} {Q : State → Prop} (F : CallFix p m c cL_law 9 s args LW RL) (hE : CE E A s s.heap) (hA : ∀ q, s.heap.size ≤ q → A q) {b L : Nat} {xs : Nat → Int32} (hX : va_X b L xs s s.heap) (hbl : b < s.heap.size) (hbA : ¬ A b) {i : Nat} (hi : i + 4 ≤ L) (hL : L ≤ 2048) {d o a0 : Nat} {wc wb wm wm' : va_W} {fs fm fm' : List Value} {f : Nat → Int64} {rv : Int32} {k n : Nat} (hC : Rd l E yX6_firstError cX6_firstError 1 (some .int) 4 85 [.ref d] ((d, .inr (6, fs)) :: wc) (some (.int rv))) (hM : Wr l E yX7_firstError cX7_firstError 2 (some .int) 5 107 [.ref a0] wm wm' (some (.int rv))) (hp : (ads wm').Perm (ads wm)) (hm : wm[0]? = some (a0, .inr (7, fm))) (hm' : wm'[0]? = some (a0, .inr (7, fm'))) (hkn : k + 1 ≤ room_1.cells ∧ n + 6 ≤ room_1.slots) {ls : Array Slot} (hl : lv_has ls 9 [(0, .ref b), (1, .ref d), (2, .ref a0), (3, .ref o), (4, .int (nI i))]) (kk : ∀ ls : Array Slot, lv_has ls 9 [(0, .ref b), (1, .ref d), (2, .ref a0), (3, .ref o), (4, .int (nI i))] → GV p l e room_1 s m args below meth c E A Q (rl_ E o 1 f :: ((((d, .inr (6, fs)) :: wc) ++ wb) ++ wm')) k n (F0 m 1625 ls [])) : GV p l e room_1 s m args below meth c E A Q (rl_ E o 1 f :: ((((d, .inr (6, fs)) :: wc) ++ wb) ++ wm)) k n (F0 m 721 ls []) := by
  have hkn' : k ≤ room_1.cells ∧ n ≤ room_1.slots := ⟨by omega, by omega⟩
  refine GV.aload_n F dL_law_721 rfl (lv_at hl 1 rfl) ?_
  refine GV.rdV (q0 := 1) (wa := [rl_ E o 1 f]) (wb := wb ++ wm) F hE hC (kL_122 F.2.2.2.2 ⟨Nat.le_of_ble_eq_true rfl, Nat.le_of_ble_eq_true rfl⟩) rfl rfl (by rw [List.append_assoc]; rfl) rfl hl.1 (Nat.le_of_ble_eq_true rfl) hkn' dL_law_722 rfl ?_
  refine GV.aload_n F dL_law_725 rfl (lv_at hl 2 rfl) ?_
  refine GV.wrV (q0 := (((d, .inr (6, fs)) :: wc) ++ wb).length + 1) (wa := rl_ E o 1 f :: (((d, .inr (6, fs)) :: wc) ++ wb)) (wb := []) F hE hM hp (kL_125 F.2.2.2.2 ⟨Nat.le_of_ble_eq_true rfl, Nat.le_of_ble_eq_true rfl⟩) (by rw [ob_at]; exact hm) rfl (by rw [List.append_nil]; rfl) rfl hl.1 (Nat.le_of_ble_eq_true rfl) hkn' dL_law_726 rfl ?_
  refine GV.weq (ws' := rl_ E o 1 f :: ((((d, .inr (6, fs)) :: wc) ++ wb) ++ wm')) (by rw [List.append_nil]; rfl) ?_
  refine GV.ieq_t (tgt := 1625) F dL_law_729 (by decide) rfl ?_
  exact kk ls (lv_sub hl [0, 1, 2, 3, 4] rfl)
set_option maxHeartbeats 4000000 in
set_option maxRecDepth 100000 in
theorem lc_play {p : Program} {l : Launch} {e : Env} {s : State} {m : MethodId} {args : Array Value} {below : List Frame} {meth : Method} {c : Code} {E : EV} {A : Nat → Prop} {Q : State → Prop} (F : CallFix p m c cL_law 9 s args LW RL) (hE : CE E A s s.heap) (hA : ∀ q, s.heap.size ≤ q → A q) {b L : Nat} {xs : Nat → Int32} (hX : va_X b L xs s s.heap) (hbl : b < s.heap.size) (hbA : ¬ A b) {i : Nat} (hi : i + 4 ≤ L) (hL : L ≤ 2048) {d o a0 : Nat} {wx wx' wm wm' : va_W} {fm fm' : List Value} {f f' : Nat → Int64} {kd : Nat} {rv : Int32} {k n : Nat} (hC : Gx l E yL_play cL_play 3 [(0, 8, 11, 15)] 8 163 [.ref d, .ref o] (rl_ E o 1 f :: wx) (rl_ E o 1 f' :: wx') (nI kd)) (hM : Wr l E yX7_play cX7_play 4 (some .int) 5 121 [.ref a0] wm wm' (some (.int rv))) (hp : (ads wm').Perm (ads wm)) (hm : wm[0]? = some (a0, .inr (7, fm))) (hm' : wm'[0]? = some (a0, .inr (7, fm'))) (hT : Rd l E yX7_thrown cX7_thrown 1 (some .int) 0 0 [.ref a0] wm' (some (.int (nI kd)))) (hkd : kd < 4) (hr : kd = 0 → f' 0 = rv.toInt64) (hkn : k + 1 ≤ room_1.cells ∧ n + 6 ≤ room_1.slots) {ls : Array Slot} (hl : lv_has ls 9 [(0, .ref b), (1, .ref d), (2, .ref a0), (3, .ref o), (4, .int (nI i))]) (kk : ∀ ls : Array Slot, lv_has ls 9 [(0, .ref b), (1, .ref d), (2, .ref a0), (3, .ref o), (4, .int (nI i))] → GV p l e room_1 s m args below meth c E A Q (rl_ E o 1 f' :: (wx' ++ wm')) (k + 1) (n + 6) (F0 m 1625 ls [])) : GV p l e room_1 s m args below meth c E A Q (rl_ E o 1 f :: (wx ++ wm)) k n (F0 m 734 ls []) := by
  have hkn' := hkn
  refine GV.aload_n F dL_law_734 rfl (lv_at hl 1 rfl) ?_
  refine GV.aload_n F dL_law_735 rfl (lv_at hl 3 rfl) ?_
  refine GV.gx (wa := []) (wb := wm) F hE hA hC (kx_play F.2.2.2.2 ⟨Nat.le_of_ble_eq_true rfl, Nat.le_of_ble_eq_true rfl⟩) rfl rfl hl.1 (Nat.le_of_ble_eq_true rfl) hkn dL_law_736 rfl ?_
  refine GV.weq (ws' := rl_ E o 1 f' :: (wx' ++ wm)) rfl ?_
  refine GV.istore (lv' := [(5, .int (nI kd)), (0, .ref b), (1, .ref d), (2, .ref a0), (3, .ref o), (4, .int (nI i))]) F dL_law_739 hl (by decide) rfl (fun ls hl => ?_)
  refine GV.aload_n F dL_law_741 rfl (lv_at hl 3 rfl) ?_
  refine GV.wrV (q0 := wx'.length + 1) (wa := rl_ E o 1 f' :: wx') (wb := []) F hE hM hp (kL_129 F.2.2.2.2 ⟨Nat.le_of_ble_eq_true rfl, Nat.le_of_ble_eq_true rfl⟩) (by rw [ob_at]; exact hm) rfl (by rw [List.append_nil]; rfl) rfl hl.1 (Nat.le_of_ble_eq_true rfl) hkn' dL_law_742 rfl ?_
  refine GV.weq (ws' := rl_ E o 1 f' :: (wx' ++ wm')) (by rw [List.append_nil]; rfl) ?_
  refine GV.istore (lv' := [(6, .int rv), (5, .int (nI kd)), (0, .ref b), (1, .ref d), (2, .ref a0), (3, .ref o), (4, .int (nI i))]) F dL_law_745 hl (by decide) rfl (fun ls hl => ?_)
  refine GV.aload_n F dL_law_747 rfl (lv_at hl 4 rfl) ?_
  refine GV.rdV (q0 := wx'.length + 1) (wa := rl_ E o 1 f' :: wx') (wb := []) F hE hT (kL_92 F.2.2.2.2 ⟨Nat.le_of_ble_eq_true rfl, Nat.le_of_ble_eq_true rfl⟩) (by rw [ob_at]; exact hm') rfl (by rw [List.append_nil]; rfl) rfl hl.1 (Nat.le_of_ble_eq_true rfl) hkn' dL_law_748 rfl ?_
  refine GV.iload F dL_law_751 (lv_at hl 1 rfl) ?_
  refine GV.ieq_t (tgt := 758) F dL_law_753 (by decide) rfl ?_
  refine GV.iload F dL_law_758 (lv_at hl 1 rfl) ?_
  by_cases h0 : kd = 0
  · skip
    refine GV.ne_f (tgt := 775) F dL_law_760 (by decide) (by rw [h0]; exact nI_0) ?_
    refine GV.aload_n F dL_law_763 rfl (lv_at hl 5 rfl) ?_
    refine GV.iconst (v := nI 0) F dL_law_764 (by decide) ?_
    refine GV.lald F hE 0 rfl (by decide) (by decide) dL_law_765 ?_
    refine GV.iload F dL_law_766 (lv_at hl 0 rfl) ?_
    refine GV.i2l F dL_law_768 ?_
    refine GV.lcmp F dL_law_769 ?_
    refine GV.eq_t (tgt := 775) F dL_law_770 (by decide) (by rw [hr h0]; exact lg_self _) ?_
    refine GV.goto (tgt := 1625) F dL_law_775 (by decide) ?_
    exact kk ls (lv_sub hl [2, 3, 4, 5, 6] rfl)
  · skip
    refine GV.ne_t (tgt := 775) F dL_law_760 (by decide) (nI_ne0 (by omega) (by omega)) ?_
    refine GV.goto (tgt := 1625) F dL_law_775 (by decide) ?_
    exact kk ls (lv_sub hl [2, 3, 4, 5, 6] rfl)
set_option maxHeartbeats 4000000 in
set_option maxRecDepth 100000 in
theorem lc_undo {p : Program} {l : Launch} {e : Env} {s : State} {m : MethodId} {args : Array Value} {below : List Frame} {meth : Method} {c : Code} {E : EV} {A : Nat → Prop} {Q : State → Prop} (F : CallFix p m c cL_law 9 s args LW RL) (hE : CE E A s s.heap) (hA : ∀ q, s.heap.size ≤ q → A q) {b L : Nat} {xs : Nat → Int32} (hX : va_X b L xs s s.heap) (hbl : b < s.heap.size) (hbA : ¬ A b) {i : Nat} (hi : i + 4 ≤ L) (hL : L ≤ 2048) {d o a0 : Nat} {wx wx' wm wm' : va_W} {fm fm' : List Value} {f f' : Nat → Int64} {kd : Nat} {rv : Int32} {k n : Nat} (hC : Gx l E yL_undo cL_undo 3 [(0, 8, 11, 21)] 8 124 [.ref d, .ref o] (rl_ E o 1 f :: wx) (rl_ E o 1 f' :: wx') (nI kd)) (hM : Wr l E yX7_undo cX7_undo 2 (some .int) 1 21 [.ref a0] wm wm' (some (.int rv))) (hp : (ads wm').Perm (ads wm)) (hm : wm[0]? = some (a0, .inr (7, fm))) (hm' : wm'[0]? = some (a0, .inr (7, fm'))) (hT : Rd l E yX7_thrown cX7_thrown 1 (some .int) 0 0 [.ref a0] wm' (some (.int (nI kd)))) (hkd : kd < 4) (hr : kd = 0 → f' 0 = rv.toInt64) (hkn : k + 1 ≤ room_1.cells ∧ n + 6 ≤ room_1.slots) {ls : Array Slot} (hl : lv_has ls 9 [(0, .ref b), (1, .ref d), (2, .ref a0), (3, .ref o), (4, .int (nI i))]) (kk : ∀ ls : Array Slot, lv_has ls 9 [(0, .ref b), (1, .ref d), (2, .ref a0), (3, .ref o), (4, .int (nI i))] → GV p l e room_1 s m args below meth c E A Q (rl_ E o 1 f' :: (wx' ++ wm')) (k + 1) (n + 6) (F0 m 1625 ls [])) : GV p l e room_1 s m args below meth c E A Q (rl_ E o 1 f :: (wx ++ wm)) k n (F0 m 778 ls []) := by
  have hkn' := hkn
  refine GV.aload_n F dL_law_778 rfl (lv_at hl 1 rfl) ?_
  refine GV.aload_n F dL_law_779 rfl (lv_at hl 3 rfl) ?_
  refine GV.gx (wa := []) (wb := wm) F hE hA hC (kx_undo F.2.2.2.2 ⟨Nat.le_of_ble_eq_true rfl, Nat.le_of_ble_eq_true rfl⟩) rfl rfl hl.1 (Nat.le_of_ble_eq_true rfl) hkn dL_law_780 rfl ?_
  refine GV.weq (ws' := rl_ E o 1 f' :: (wx' ++ wm)) rfl ?_
  refine GV.istore (lv' := [(5, .int (nI kd)), (0, .ref b), (1, .ref d), (2, .ref a0), (3, .ref o), (4, .int (nI i))]) F dL_law_783 hl (by decide) rfl (fun ls hl => ?_)
  refine GV.aload_n F dL_law_785 rfl (lv_at hl 3 rfl) ?_
  refine GV.wrV (q0 := wx'.length + 1) (wa := rl_ E o 1 f' :: wx') (wb := []) F hE hM hp (kL_132 F.2.2.2.2 ⟨Nat.le_of_ble_eq_true rfl, Nat.le_of_ble_eq_true rfl⟩) (by rw [ob_at]; exact hm) rfl (by rw [List.append_nil]; rfl) rfl hl.1 (Nat.le_of_ble_eq_true rfl) hkn' dL_law_786 rfl ?_
  refine GV.weq (ws' := rl_ E o 1 f' :: (wx' ++ wm')) (by rw [List.append_nil]; rfl) ?_
  refine GV.istore (lv' := [(6, .int rv), (5, .int (nI kd)), (0, .ref b), (1, .ref d), (2, .ref a0), (3, .ref o), (4, .int (nI i))]) F dL_law_789 hl (by decide) rfl (fun ls hl => ?_)
  refine GV.aload_n F dL_law_791 rfl (lv_at hl 4 rfl) ?_
  refine GV.rdV (q0 := wx'.length + 1) (wa := rl_ E o 1 f' :: wx') (wb := []) F hE hT (kL_92 F.2.2.2.2 ⟨Nat.le_of_ble_eq_true rfl, Nat.le_of_ble_eq_true rfl⟩) (by rw [ob_at]; exact hm') rfl (by rw [List.append_nil]; rfl) rfl hl.1 (Nat.le_of_ble_eq_true rfl) hkn' dL_law_792 rfl ?_
  refine GV.iload F dL_law_795 (lv_at hl 1 rfl) ?_
  refine GV.ieq_t (tgt := 802) F dL_law_797 (by decide) rfl ?_
  refine GV.iload F dL_law_802 (lv_at hl 1 rfl) ?_
  by_cases h0 : kd = 0
  · skip
    refine GV.ne_f (tgt := 819) F dL_law_804 (by decide) (by rw [h0]; exact nI_0) ?_
    refine GV.aload_n F dL_law_807 rfl (lv_at hl 5 rfl) ?_
    refine GV.iconst (v := nI 0) F dL_law_808 (by decide) ?_
    refine GV.lald F hE 0 rfl (by decide) (by decide) dL_law_809 ?_
    refine GV.iload F dL_law_810 (lv_at hl 0 rfl) ?_
    refine GV.i2l F dL_law_812 ?_
    refine GV.lcmp F dL_law_813 ?_
    refine GV.eq_t (tgt := 819) F dL_law_814 (by decide) (by rw [hr h0]; exact lg_self _) ?_
    refine GV.goto (tgt := 1625) F dL_law_819 (by decide) ?_
    exact kk ls (lv_sub hl [2, 3, 4, 5, 6] rfl)
  · skip
    refine GV.ne_t (tgt := 819) F dL_law_804 (by decide) (nI_ne0 (by omega) (by omega)) ?_
    refine GV.goto (tgt := 1625) F dL_law_819 (by decide) ?_
    exact kk ls (lv_sub hl [2, 3, 4, 5, 6] rfl)
set_option maxHeartbeats 4000000 in
set_option maxRecDepth 100000 in
theorem lc_person {p : Program} {l : Launch} {e : Env} {s : State} {m : MethodId} {args : Array Value} {below : List Frame} {meth : Method} {c : Code} {E : EV} {A : Nat → Prop} {Q : State → Prop} (F : CallFix p m c cL_law 9 s args LW RL) (hE : CE E A s s.heap) (hA : ∀ q, s.heap.size ≤ q → A q) {b L : Nat} {xs : Nat → Int32} (hX : va_X b L xs s s.heap) (hbl : b < s.heap.size) (hbA : ¬ A b) {i : Nat} (hi : i + 4 ≤ L) (hL : L ≤ 2048) {d o a0 : Nat} {wx wx' wm wm' : va_W} {fm fm' : List Value} {f f' : Nat → Int64} {kd : Nat} {rv : Int32} {k n : Nat} (hC : Gx l E yL_person cL_person 5 [(0, 10, 13, 13), (0, 10, 17, 15)] 8 126 [.ref d, .int (xs (i + 1)), .int (xs (i + 2)), .ref o] (rl_ E o 1 f :: wx) (rl_ E o 1 f' :: wx') (nI kd)) (hM : Wr l E yX7_person cX7_person 3 (some .int) 5 115 [.ref a0, .int (xs (i + 1)), .int (xs (i + 2))] wm wm' (some (.int rv))) (hp : (ads wm').Perm (ads wm)) (hm : wm[0]? = some (a0, .inr (7, fm))) (hm' : wm'[0]? = some (a0, .inr (7, fm'))) (hT : Rd l E yX7_thrown cX7_thrown 1 (some .int) 0 0 [.ref a0] wm' (some (.int (nI kd)))) (hkd : kd < 4) (hr : kd = 0 → f' 0 = rv.toInt64) (hkn : k + 1 ≤ room_1.cells ∧ n + 6 ≤ room_1.slots) {ls : Array Slot} (hl : lv_has ls 9 [(0, .ref b), (1, .ref d), (2, .ref a0), (3, .ref o), (4, .int (nI i))]) (kk : ∀ ls : Array Slot, lv_has ls 9 [(0, .ref b), (1, .ref d), (2, .ref a0), (3, .ref o), (4, .int (nI i))] → GV p l e room_1 s m args below meth c E A Q (rl_ E o 1 f' :: (wx' ++ wm')) (k + 1) (n + 6) (F0 m 1625 ls [])) : GV p l e room_1 s m args below meth c E A Q (rl_ E o 1 f :: (wx ++ wm)) k n (F0 m 822 ls []) := by
  have hkn' := hkn
  refine GV.aload_n F dL_law_822 rfl (lv_at hl 1 rfl) ?_
  refine GV.aload_n F dL_law_823 rfl (lv_at hl 0 rfl) ?_
  refine GV.iload F dL_law_824 (lv_at hl 4 rfl) ?_
  refine GV.iconst (v := nI 1) F dL_law_826 (by decide) ?_
  refine GV.iadd (z := nI (i + 1)) F dL_law_827 (nI_add i 1) ?_
  refine GV.sld F hX hbl hbA (by omega) (by omega) dL_law_828 ?_
  refine GV.aload_n F dL_law_829 rfl (lv_at hl 0 rfl) ?_
  refine GV.iload F dL_law_830 (lv_at hl 4 rfl) ?_
  refine GV.iconst (v := nI 2) F dL_law_832 (by decide) ?_
  refine GV.iadd (z := nI (i + 2)) F dL_law_833 (nI_add i 2) ?_
  refine GV.sld F hX hbl hbA (by omega) (by omega) dL_law_834 ?_
  refine GV.aload_n F dL_law_835 rfl (lv_at hl 3 rfl) ?_
  refine GV.gx (wa := []) (wb := wm) F hE hA hC (kx_person F.2.2.2.2 ⟨Nat.le_of_ble_eq_true rfl, Nat.le_of_ble_eq_true rfl⟩) rfl rfl hl.1 (Nat.le_of_ble_eq_true rfl) hkn dL_law_836 rfl ?_
  refine GV.weq (ws' := rl_ E o 1 f' :: (wx' ++ wm)) rfl ?_
  refine GV.istore (lv' := [(5, .int (nI kd)), (0, .ref b), (1, .ref d), (2, .ref a0), (3, .ref o), (4, .int (nI i))]) F dL_law_839 hl (by decide) rfl (fun ls hl => ?_)
  refine GV.aload_n F dL_law_841 rfl (lv_at hl 3 rfl) ?_
  refine GV.aload_n F dL_law_842 rfl (lv_at hl 1 rfl) ?_
  refine GV.iload F dL_law_843 (lv_at hl 5 rfl) ?_
  refine GV.iconst (v := nI 1) F dL_law_845 (by decide) ?_
  refine GV.iadd (z := nI (i + 1)) F dL_law_846 (nI_add i 1) ?_
  refine GV.sld F hX hbl hbA (by omega) (by omega) dL_law_847 ?_
  refine GV.aload_n F dL_law_848 rfl (lv_at hl 1 rfl) ?_
  refine GV.iload F dL_law_849 (lv_at hl 5 rfl) ?_
  refine GV.iconst (v := nI 2) F dL_law_851 (by decide) ?_
  refine GV.iadd (z := nI (i + 2)) F dL_law_852 (nI_add i 2) ?_
  refine GV.sld F hX hbl hbA (by omega) (by omega) dL_law_853 ?_
  refine GV.wrV (q0 := wx'.length + 1) (wa := rl_ E o 1 f' :: wx') (wb := []) F hE hM hp (kL_135 F.2.2.2.2 ⟨Nat.le_of_ble_eq_true rfl, Nat.le_of_ble_eq_true rfl⟩) (by rw [ob_at]; exact hm) rfl (by rw [List.append_nil]; rfl) rfl hl.1 (Nat.le_of_ble_eq_true rfl) hkn' dL_law_854 rfl ?_
  refine GV.weq (ws' := rl_ E o 1 f' :: (wx' ++ wm')) (by rw [List.append_nil]; rfl) ?_
  refine GV.istore (lv' := [(6, .int rv), (5, .int (nI kd)), (0, .ref b), (1, .ref d), (2, .ref a0), (3, .ref o), (4, .int (nI i))]) F dL_law_857 hl (by decide) rfl (fun ls hl => ?_)
  refine GV.aload_n F dL_law_859 rfl (lv_at hl 4 rfl) ?_
  refine GV.rdV (q0 := wx'.length + 1) (wa := rl_ E o 1 f' :: wx') (wb := []) F hE hT (kL_92 F.2.2.2.2 ⟨Nat.le_of_ble_eq_true rfl, Nat.le_of_ble_eq_true rfl⟩) (by rw [ob_at]; exact hm') rfl (by rw [List.append_nil]; rfl) rfl hl.1 (Nat.le_of_ble_eq_true rfl) hkn' dL_law_860 rfl ?_
  refine GV.iload F dL_law_863 (lv_at hl 1 rfl) ?_
  refine GV.ieq_t (tgt := 870) F dL_law_865 (by decide) rfl ?_
  refine GV.iload F dL_law_870 (lv_at hl 1 rfl) ?_
  by_cases h0 : kd = 0
  · skip
    refine GV.ne_f (tgt := 887) F dL_law_872 (by decide) (by rw [h0]; exact nI_0) ?_
    refine GV.aload_n F dL_law_875 rfl (lv_at hl 5 rfl) ?_
    refine GV.iconst (v := nI 0) F dL_law_876 (by decide) ?_
    refine GV.lald F hE 0 rfl (by decide) (by decide) dL_law_877 ?_
    refine GV.iload F dL_law_878 (lv_at hl 0 rfl) ?_
    refine GV.i2l F dL_law_880 ?_
    refine GV.lcmp F dL_law_881 ?_
    refine GV.eq_t (tgt := 887) F dL_law_882 (by decide) (by rw [hr h0]; exact lg_self _) ?_
    refine GV.goto (tgt := 1625) F dL_law_887 (by decide) ?_
    exact kk ls (lv_sub hl [2, 3, 4, 5, 6] rfl)
  · skip
    refine GV.ne_t (tgt := 887) F dL_law_872 (by decide) (nI_ne0 (by omega) (by omega)) ?_
    refine GV.goto (tgt := 1625) F dL_law_887 (by decide) ?_
    exact kk ls (lv_sub hl [2, 3, 4, 5, 6] rfl)
set_option maxHeartbeats 4000000 in
set_option maxRecDepth 100000 in
theorem lc_rehearsed {p : Program} {l : Launch} {e : Env} {s : State} {m : MethodId} {args : Array Value} {below : List Frame} {meth : Method} {c : Code} {E : EV} {A : Nat → Prop} {Q : State → Prop} (F : CallFix p m c cL_law 9 s args LW RL) (hE : CE E A s s.heap) (hA : ∀ q, s.heap.size ≤ q → A q) {b L : Nat} {xs : Nat → Int32} (hX : va_X b L xs s s.heap) (hbl : b < s.heap.size) (hbA : ¬ A b) {i : Nat} (hi : i + 4 ≤ L) (hL : L ≤ 2048) {d o a0 : Nat} {wx wx' wm wm' : va_W} {fm fm' : List Value} {f f' : Nat → Int64} {kd : Nat} {rv : Int32} {k n : Nat} (hC : Gx l E yL_rehearsed cL_rehearsed 6 [(0, 12, 15, 13), (0, 12, 19, 15)] 8 127 [.ref d, .int (xs (i + 1)), .int (xs (i + 2)), .int (xs (i + 3)), .ref o] (rl_ E o 1 f :: wx) (rl_ E o 1 f' :: wx') (nI kd)) (hM : Wr l E yX7_rehearsed cX7_rehearsed 4 (some .int) 2 50 [.ref a0, .int (xs (i + 1)), .int (xs (i + 2)), .int (xs (i + 3))] wm wm' (some (.int rv))) (hp : (ads wm').Perm (ads wm)) (hm : wm[0]? = some (a0, .inr (7, fm))) (hm' : wm'[0]? = some (a0, .inr (7, fm'))) (hT : Rd l E yX7_thrown cX7_thrown 1 (some .int) 0 0 [.ref a0] wm' (some (.int (nI kd)))) (hkd : kd < 4) (hr : kd = 0 → f' 0 = rv.toInt64) (hkn : k + 1 ≤ room_1.cells ∧ n + 6 ≤ room_1.slots) {ls : Array Slot} (hl : lv_has ls 9 [(0, .ref b), (1, .ref d), (2, .ref a0), (3, .ref o), (4, .int (nI i))]) (kk : ∀ ls : Array Slot, lv_has ls 9 [(0, .ref b), (1, .ref d), (2, .ref a0), (3, .ref o), (4, .int (nI i))] → GV p l e room_1 s m args below meth c E A Q (rl_ E o 1 f' :: (wx' ++ wm')) (k + 1) (n + 6) (F0 m 1625 ls [])) : GV p l e room_1 s m args below meth c E A Q (rl_ E o 1 f :: (wx ++ wm)) k n (F0 m 890 ls []) := by
  have hkn' := hkn
  refine GV.aload_n F dL_law_890 rfl (lv_at hl 1 rfl) ?_
  refine GV.aload_n F dL_law_891 rfl (lv_at hl 0 rfl) ?_
  refine GV.iload F dL_law_892 (lv_at hl 4 rfl) ?_
  refine GV.iconst (v := nI 1) F dL_law_894 (by decide) ?_
  refine GV.iadd (z := nI (i + 1)) F dL_law_895 (nI_add i 1) ?_
  refine GV.sld F hX hbl hbA (by omega) (by omega) dL_law_896 ?_
  refine GV.aload_n F dL_law_897 rfl (lv_at hl 0 rfl) ?_
  refine GV.iload F dL_law_898 (lv_at hl 4 rfl) ?_
  refine GV.iconst (v := nI 2) F dL_law_900 (by decide) ?_
  refine GV.iadd (z := nI (i + 2)) F dL_law_901 (nI_add i 2) ?_
  refine GV.sld F hX hbl hbA (by omega) (by omega) dL_law_902 ?_
  refine GV.aload_n F dL_law_903 rfl (lv_at hl 0 rfl) ?_
  refine GV.iload F dL_law_904 (lv_at hl 4 rfl) ?_
  refine GV.iconst (v := nI 3) F dL_law_906 (by decide) ?_
  refine GV.iadd (z := nI (i + 3)) F dL_law_907 (nI_add i 3) ?_
  refine GV.sld F hX hbl hbA (by omega) (by omega) dL_law_908 ?_
  refine GV.aload_n F dL_law_909 rfl (lv_at hl 3 rfl) ?_
  refine GV.gx (wa := []) (wb := wm) F hE hA hC (kx_rehearsed F.2.2.2.2 ⟨Nat.le_of_ble_eq_true rfl, Nat.le_of_ble_eq_true rfl⟩) rfl rfl hl.1 (Nat.le_of_ble_eq_true rfl) hkn dL_law_910 rfl ?_
  refine GV.weq (ws' := rl_ E o 1 f' :: (wx' ++ wm)) rfl ?_
  refine GV.istore (lv' := [(5, .int (nI kd)), (0, .ref b), (1, .ref d), (2, .ref a0), (3, .ref o), (4, .int (nI i))]) F dL_law_913 hl (by decide) rfl (fun ls hl => ?_)
  refine GV.aload_n F dL_law_915 rfl (lv_at hl 3 rfl) ?_
  refine GV.aload_n F dL_law_916 rfl (lv_at hl 1 rfl) ?_
  refine GV.iload F dL_law_917 (lv_at hl 5 rfl) ?_
  refine GV.iconst (v := nI 1) F dL_law_919 (by decide) ?_
  refine GV.iadd (z := nI (i + 1)) F dL_law_920 (nI_add i 1) ?_
  refine GV.sld F hX hbl hbA (by omega) (by omega) dL_law_921 ?_
  refine GV.aload_n F dL_law_922 rfl (lv_at hl 1 rfl) ?_
  refine GV.iload F dL_law_923 (lv_at hl 5 rfl) ?_
  refine GV.iconst (v := nI 2) F dL_law_925 (by decide) ?_
  refine GV.iadd (z := nI (i + 2)) F dL_law_926 (nI_add i 2) ?_
  refine GV.sld F hX hbl hbA (by omega) (by omega) dL_law_927 ?_
  refine GV.aload_n F dL_law_928 rfl (lv_at hl 1 rfl) ?_
  refine GV.iload F dL_law_929 (lv_at hl 5 rfl) ?_
  refine GV.iconst (v := nI 3) F dL_law_931 (by decide) ?_
  refine GV.iadd (z := nI (i + 3)) F dL_law_932 (nI_add i 3) ?_
  refine GV.sld F hX hbl hbA (by omega) (by omega) dL_law_933 ?_
  refine GV.wrV (q0 := wx'.length + 1) (wa := rl_ E o 1 f' :: wx') (wb := []) F hE hM hp (kL_138 F.2.2.2.2 ⟨Nat.le_of_ble_eq_true rfl, Nat.le_of_ble_eq_true rfl⟩) (by rw [ob_at]; exact hm) rfl (by rw [List.append_nil]; rfl) rfl hl.1 (Nat.le_of_ble_eq_true rfl) hkn' dL_law_934 rfl ?_
  refine GV.weq (ws' := rl_ E o 1 f' :: (wx' ++ wm')) (by rw [List.append_nil]; rfl) ?_
  refine GV.istore (lv' := [(6, .int rv), (5, .int (nI kd)), (0, .ref b), (1, .ref d), (2, .ref a0), (3, .ref o), (4, .int (nI i))]) F dL_law_937 hl (by decide) rfl (fun ls hl => ?_)
  refine GV.aload_n F dL_law_939 rfl (lv_at hl 4 rfl) ?_
  refine GV.rdV (q0 := wx'.length + 1) (wa := rl_ E o 1 f' :: wx') (wb := []) F hE hT (kL_92 F.2.2.2.2 ⟨Nat.le_of_ble_eq_true rfl, Nat.le_of_ble_eq_true rfl⟩) (by rw [ob_at]; exact hm') rfl (by rw [List.append_nil]; rfl) rfl hl.1 (Nat.le_of_ble_eq_true rfl) hkn' dL_law_940 rfl ?_
  refine GV.iload F dL_law_943 (lv_at hl 1 rfl) ?_
  refine GV.ieq_t (tgt := 950) F dL_law_945 (by decide) rfl ?_
  refine GV.iload F dL_law_950 (lv_at hl 1 rfl) ?_
  by_cases h0 : kd = 0
  · skip
    refine GV.ne_f (tgt := 967) F dL_law_952 (by decide) (by rw [h0]; exact nI_0) ?_
    refine GV.aload_n F dL_law_955 rfl (lv_at hl 5 rfl) ?_
    refine GV.iconst (v := nI 0) F dL_law_956 (by decide) ?_
    refine GV.lald F hE 0 rfl (by decide) (by decide) dL_law_957 ?_
    refine GV.iload F dL_law_958 (lv_at hl 0 rfl) ?_
    refine GV.i2l F dL_law_960 ?_
    refine GV.lcmp F dL_law_961 ?_
    refine GV.eq_t (tgt := 967) F dL_law_962 (by decide) (by rw [hr h0]; exact lg_self _) ?_
    refine GV.goto (tgt := 1625) F dL_law_967 (by decide) ?_
    exact kk ls (lv_sub hl [2, 3, 4, 5, 6] rfl)
  · skip
    refine GV.ne_t (tgt := 967) F dL_law_952 (by decide) (nI_ne0 (by omega) (by omega)) ?_
    refine GV.goto (tgt := 1625) F dL_law_967 (by decide) ?_
    exact kk ls (lv_sub hl [2, 3, 4, 5, 6] rfl)
set_option maxHeartbeats 4000000 in
set_option maxRecDepth 100000 in
theorem lc_kind {p : Program} {l : Launch} {e : Env} {s : State} {m : MethodId} {args : Array Value} {below : List Frame} {meth : Method} {c : Code} {E : EV} {A : Nat → Prop} {Q : State → Prop} (F : CallFix p m c cL_law 9 s args LW RL) (hE : CE E A s s.heap) (hA : ∀ q, s.heap.size ≤ q → A q) {b L : Nat} {xs : Nat → Int32} (hX : va_X b L xs s s.heap) (hbl : b < s.heap.size) (hbA : ¬ A b) {i : Nat} (hi : i + 4 ≤ L) (hL : L ≤ 2048) {d o a0 : Nat} {wx wx' wm wm' : va_W} {fm fm' : List Value} {f f' : Nat → Int64} {kd : Nat} {rv : Int32} {k n : Nat} (hC : Gx l E yL_kind cL_kind 6 [(0, 12, 15, 13), (0, 12, 19, 15)] 8 127 [.ref d, .int (xs (i + 1)), .int (xs (i + 2)), .int (xs (i + 3)), .ref o] (rl_ E o 1 f :: wx) (rl_ E o 1 f' :: wx') (nI kd)) (hM : Wr l E yX7_kind cX7_kind 4 (some .int) 2 42 [.ref a0, .int (xs (i + 1)), .int (xs (i + 2)), .int (xs (i + 3))] wm wm' (some (.int rv))) (hp : (ads wm').Perm (ads wm)) (hm : wm[0]? = some (a0, .inr (7, fm))) (hm' : wm'[0]? = some (a0, .inr (7, fm'))) (hT : Rd l E yX7_thrown cX7_thrown 1 (some .int) 0 0 [.ref a0] wm' (some (.int (nI kd)))) (hkd : kd < 4) (hr : kd = 0 → f' 0 = rv.toInt64) (hkn : k + 1 ≤ room_1.cells ∧ n + 6 ≤ room_1.slots) {ls : Array Slot} (hl : lv_has ls 9 [(0, .ref b), (1, .ref d), (2, .ref a0), (3, .ref o), (4, .int (nI i))]) (kk : ∀ ls : Array Slot, lv_has ls 9 [(0, .ref b), (1, .ref d), (2, .ref a0), (3, .ref o), (4, .int (nI i))] → GV p l e room_1 s m args below meth c E A Q (rl_ E o 1 f' :: (wx' ++ wm')) (k + 1) (n + 6) (F0 m 1625 ls [])) : GV p l e room_1 s m args below meth c E A Q (rl_ E o 1 f :: (wx ++ wm)) k n (F0 m 970 ls []) := by
  have hkn' := hkn
  refine GV.aload_n F dL_law_970 rfl (lv_at hl 1 rfl) ?_
  refine GV.aload_n F dL_law_971 rfl (lv_at hl 0 rfl) ?_
  refine GV.iload F dL_law_972 (lv_at hl 4 rfl) ?_
  refine GV.iconst (v := nI 1) F dL_law_974 (by decide) ?_
  refine GV.iadd (z := nI (i + 1)) F dL_law_975 (nI_add i 1) ?_
  refine GV.sld F hX hbl hbA (by omega) (by omega) dL_law_976 ?_
  refine GV.aload_n F dL_law_977 rfl (lv_at hl 0 rfl) ?_
  refine GV.iload F dL_law_978 (lv_at hl 4 rfl) ?_
  refine GV.iconst (v := nI 2) F dL_law_980 (by decide) ?_
  refine GV.iadd (z := nI (i + 2)) F dL_law_981 (nI_add i 2) ?_
  refine GV.sld F hX hbl hbA (by omega) (by omega) dL_law_982 ?_
  refine GV.aload_n F dL_law_983 rfl (lv_at hl 0 rfl) ?_
  refine GV.iload F dL_law_984 (lv_at hl 4 rfl) ?_
  refine GV.iconst (v := nI 3) F dL_law_986 (by decide) ?_
  refine GV.iadd (z := nI (i + 3)) F dL_law_987 (nI_add i 3) ?_
  refine GV.sld F hX hbl hbA (by omega) (by omega) dL_law_988 ?_
  refine GV.aload_n F dL_law_989 rfl (lv_at hl 3 rfl) ?_
  refine GV.gx (wa := []) (wb := wm) F hE hA hC (kx_kind F.2.2.2.2 ⟨Nat.le_of_ble_eq_true rfl, Nat.le_of_ble_eq_true rfl⟩) rfl rfl hl.1 (Nat.le_of_ble_eq_true rfl) hkn dL_law_990 rfl ?_
  refine GV.weq (ws' := rl_ E o 1 f' :: (wx' ++ wm)) rfl ?_
  refine GV.istore (lv' := [(5, .int (nI kd)), (0, .ref b), (1, .ref d), (2, .ref a0), (3, .ref o), (4, .int (nI i))]) F dL_law_993 hl (by decide) rfl (fun ls hl => ?_)
  refine GV.aload_n F dL_law_995 rfl (lv_at hl 3 rfl) ?_
  refine GV.aload_n F dL_law_996 rfl (lv_at hl 1 rfl) ?_
  refine GV.iload F dL_law_997 (lv_at hl 5 rfl) ?_
  refine GV.iconst (v := nI 1) F dL_law_999 (by decide) ?_
  refine GV.iadd (z := nI (i + 1)) F dL_law_1000 (nI_add i 1) ?_
  refine GV.sld F hX hbl hbA (by omega) (by omega) dL_law_1001 ?_
  refine GV.aload_n F dL_law_1002 rfl (lv_at hl 1 rfl) ?_
  refine GV.iload F dL_law_1003 (lv_at hl 5 rfl) ?_
  refine GV.iconst (v := nI 2) F dL_law_1005 (by decide) ?_
  refine GV.iadd (z := nI (i + 2)) F dL_law_1006 (nI_add i 2) ?_
  refine GV.sld F hX hbl hbA (by omega) (by omega) dL_law_1007 ?_
  refine GV.aload_n F dL_law_1008 rfl (lv_at hl 1 rfl) ?_
  refine GV.iload F dL_law_1009 (lv_at hl 5 rfl) ?_
  refine GV.iconst (v := nI 3) F dL_law_1011 (by decide) ?_
  refine GV.iadd (z := nI (i + 3)) F dL_law_1012 (nI_add i 3) ?_
  refine GV.sld F hX hbl hbA (by omega) (by omega) dL_law_1013 ?_
  refine GV.wrV (q0 := wx'.length + 1) (wa := rl_ E o 1 f' :: wx') (wb := []) F hE hM hp (kL_141 F.2.2.2.2 ⟨Nat.le_of_ble_eq_true rfl, Nat.le_of_ble_eq_true rfl⟩) (by rw [ob_at]; exact hm) rfl (by rw [List.append_nil]; rfl) rfl hl.1 (Nat.le_of_ble_eq_true rfl) hkn' dL_law_1014 rfl ?_
  refine GV.weq (ws' := rl_ E o 1 f' :: (wx' ++ wm')) (by rw [List.append_nil]; rfl) ?_
  refine GV.istore (lv' := [(6, .int rv), (5, .int (nI kd)), (0, .ref b), (1, .ref d), (2, .ref a0), (3, .ref o), (4, .int (nI i))]) F dL_law_1017 hl (by decide) rfl (fun ls hl => ?_)
  refine GV.aload_n F dL_law_1019 rfl (lv_at hl 4 rfl) ?_
  refine GV.rdV (q0 := wx'.length + 1) (wa := rl_ E o 1 f' :: wx') (wb := []) F hE hT (kL_92 F.2.2.2.2 ⟨Nat.le_of_ble_eq_true rfl, Nat.le_of_ble_eq_true rfl⟩) (by rw [ob_at]; exact hm') rfl (by rw [List.append_nil]; rfl) rfl hl.1 (Nat.le_of_ble_eq_true rfl) hkn' dL_law_1020 rfl ?_
  refine GV.iload F dL_law_1023 (lv_at hl 1 rfl) ?_
  refine GV.ieq_t (tgt := 1030) F dL_law_1025 (by decide) rfl ?_
  refine GV.iload F dL_law_1030 (lv_at hl 1 rfl) ?_
  by_cases h0 : kd = 0
  · skip
    refine GV.ne_f (tgt := 1047) F dL_law_1032 (by decide) (by rw [h0]; exact nI_0) ?_
    refine GV.aload_n F dL_law_1035 rfl (lv_at hl 5 rfl) ?_
    refine GV.iconst (v := nI 0) F dL_law_1036 (by decide) ?_
    refine GV.lald F hE 0 rfl (by decide) (by decide) dL_law_1037 ?_
    refine GV.iload F dL_law_1038 (lv_at hl 0 rfl) ?_
    refine GV.i2l F dL_law_1040 ?_
    refine GV.lcmp F dL_law_1041 ?_
    refine GV.eq_t (tgt := 1047) F dL_law_1042 (by decide) (by rw [hr h0]; exact lg_self _) ?_
    refine GV.goto (tgt := 1625) F dL_law_1047 (by decide) ?_
    exact kk ls (lv_sub hl [2, 3, 4, 5, 6] rfl)
  · skip
    refine GV.ne_t (tgt := 1047) F dL_law_1032 (by decide) (nI_ne0 (by omega) (by omega)) ?_
    refine GV.goto (tgt := 1625) F dL_law_1047 (by decide) ?_
    exact kk ls (lv_sub hl [2, 3, 4, 5, 6] rfl)
set_option maxHeartbeats 4000000 in
set_option maxRecDepth 100000 in
theorem lc_sceneOf {p : Program} {l : Launch} {e : Env} {s : State} {m : MethodId} {args : Array Value} {below : List Frame} {meth : Method} {c : Code} {E : EV} {A : Nat → Prop} {Q : State → Prop} (F : CallFix p m c cL_law 9 s args LW RL) (hE : CE E A s s.heap) (hA : ∀ q, s.heap.size ≤ q → A q) {b L : Nat} {xs : Nat → Int32} (hX : va_X b L xs s s.heap) (hbl : b < s.heap.size) (hbA : ¬ A b) {i : Nat} (hi : i + 4 ≤ L) (hL : L ≤ 2048) {d o a0 : Nat} {wx wx' wm wm' : va_W} {fm fm' : List Value} {f f' : Nat → Int64} {kd : Nat} {rv : Int32} {k n : Nat} (hC : Gx l E yL_sceneOf cL_sceneOf 5 [(0, 10, 13, 13), (0, 10, 17, 15)] 8 141 [.ref d, .int (xs (i + 1)), .int (xs (i + 2)), .ref o] (rl_ E o 1 f :: wx) (rl_ E o 1 f' :: wx') (nI kd)) (hM : Wr l E yX7_sceneOf cX7_sceneOf 3 (some .int) 6 144 [.ref a0, .int (xs (i + 1)), .int (xs (i + 2))] wm wm' (some (.int rv))) (hp : (ads wm').Perm (ads wm)) (hm : wm[0]? = some (a0, .inr (7, fm))) (hm' : wm'[0]? = some (a0, .inr (7, fm'))) (hT : Rd l E yX7_thrown cX7_thrown 1 (some .int) 0 0 [.ref a0] wm' (some (.int (nI kd)))) (hkd : kd < 4) (hr : kd = 0 → f' 0 = rv.toInt64) (hkn : k + 1 ≤ room_1.cells ∧ n + 6 ≤ room_1.slots) {ls : Array Slot} (hl : lv_has ls 9 [(0, .ref b), (1, .ref d), (2, .ref a0), (3, .ref o), (4, .int (nI i))]) (kk : ∀ ls : Array Slot, lv_has ls 9 [(0, .ref b), (1, .ref d), (2, .ref a0), (3, .ref o), (4, .int (nI i))] → GV p l e room_1 s m args below meth c E A Q (rl_ E o 1 f' :: (wx' ++ wm')) (k + 1) (n + 6) (F0 m 1625 ls [])) : GV p l e room_1 s m args below meth c E A Q (rl_ E o 1 f :: (wx ++ wm)) k n (F0 m 1050 ls []) := by
  have hkn' := hkn
  refine GV.aload_n F dL_law_1050 rfl (lv_at hl 1 rfl) ?_
  refine GV.aload_n F dL_law_1051 rfl (lv_at hl 0 rfl) ?_
  refine GV.iload F dL_law_1052 (lv_at hl 4 rfl) ?_
  refine GV.iconst (v := nI 1) F dL_law_1054 (by decide) ?_
  refine GV.iadd (z := nI (i + 1)) F dL_law_1055 (nI_add i 1) ?_
  refine GV.sld F hX hbl hbA (by omega) (by omega) dL_law_1056 ?_
  refine GV.aload_n F dL_law_1057 rfl (lv_at hl 0 rfl) ?_
  refine GV.iload F dL_law_1058 (lv_at hl 4 rfl) ?_
  refine GV.iconst (v := nI 2) F dL_law_1060 (by decide) ?_
  refine GV.iadd (z := nI (i + 2)) F dL_law_1061 (nI_add i 2) ?_
  refine GV.sld F hX hbl hbA (by omega) (by omega) dL_law_1062 ?_
  refine GV.aload_n F dL_law_1063 rfl (lv_at hl 3 rfl) ?_
  refine GV.gx (wa := []) (wb := wm) F hE hA hC (kx_sceneOf F.2.2.2.2 ⟨Nat.le_of_ble_eq_true rfl, Nat.le_of_ble_eq_true rfl⟩) rfl rfl hl.1 (Nat.le_of_ble_eq_true rfl) hkn dL_law_1064 rfl ?_
  refine GV.weq (ws' := rl_ E o 1 f' :: (wx' ++ wm)) rfl ?_
  refine GV.istore (lv' := [(5, .int (nI kd)), (0, .ref b), (1, .ref d), (2, .ref a0), (3, .ref o), (4, .int (nI i))]) F dL_law_1067 hl (by decide) rfl (fun ls hl => ?_)
  refine GV.aload_n F dL_law_1069 rfl (lv_at hl 3 rfl) ?_
  refine GV.aload_n F dL_law_1070 rfl (lv_at hl 1 rfl) ?_
  refine GV.iload F dL_law_1071 (lv_at hl 5 rfl) ?_
  refine GV.iconst (v := nI 1) F dL_law_1073 (by decide) ?_
  refine GV.iadd (z := nI (i + 1)) F dL_law_1074 (nI_add i 1) ?_
  refine GV.sld F hX hbl hbA (by omega) (by omega) dL_law_1075 ?_
  refine GV.aload_n F dL_law_1076 rfl (lv_at hl 1 rfl) ?_
  refine GV.iload F dL_law_1077 (lv_at hl 5 rfl) ?_
  refine GV.iconst (v := nI 2) F dL_law_1079 (by decide) ?_
  refine GV.iadd (z := nI (i + 2)) F dL_law_1080 (nI_add i 2) ?_
  refine GV.sld F hX hbl hbA (by omega) (by omega) dL_law_1081 ?_
  refine GV.wrV (q0 := wx'.length + 1) (wa := rl_ E o 1 f' :: wx') (wb := []) F hE hM hp (kL_144 F.2.2.2.2 ⟨Nat.le_of_ble_eq_true rfl, Nat.le_of_ble_eq_true rfl⟩) (by rw [ob_at]; exact hm) rfl (by rw [List.append_nil]; rfl) rfl hl.1 (Nat.le_of_ble_eq_true rfl) hkn' dL_law_1082 rfl ?_
  refine GV.weq (ws' := rl_ E o 1 f' :: (wx' ++ wm')) (by rw [List.append_nil]; rfl) ?_
  refine GV.istore (lv' := [(6, .int rv), (5, .int (nI kd)), (0, .ref b), (1, .ref d), (2, .ref a0), (3, .ref o), (4, .int (nI i))]) F dL_law_1085 hl (by decide) rfl (fun ls hl => ?_)
  refine GV.aload_n F dL_law_1087 rfl (lv_at hl 4 rfl) ?_
  refine GV.rdV (q0 := wx'.length + 1) (wa := rl_ E o 1 f' :: wx') (wb := []) F hE hT (kL_92 F.2.2.2.2 ⟨Nat.le_of_ble_eq_true rfl, Nat.le_of_ble_eq_true rfl⟩) (by rw [ob_at]; exact hm') rfl (by rw [List.append_nil]; rfl) rfl hl.1 (Nat.le_of_ble_eq_true rfl) hkn' dL_law_1088 rfl ?_
  refine GV.iload F dL_law_1091 (lv_at hl 1 rfl) ?_
  refine GV.ieq_t (tgt := 1098) F dL_law_1093 (by decide) rfl ?_
  refine GV.iload F dL_law_1098 (lv_at hl 1 rfl) ?_
  by_cases h0 : kd = 0
  · skip
    refine GV.ne_f (tgt := 1115) F dL_law_1100 (by decide) (by rw [h0]; exact nI_0) ?_
    refine GV.aload_n F dL_law_1103 rfl (lv_at hl 5 rfl) ?_
    refine GV.iconst (v := nI 0) F dL_law_1104 (by decide) ?_
    refine GV.lald F hE 0 rfl (by decide) (by decide) dL_law_1105 ?_
    refine GV.iload F dL_law_1106 (lv_at hl 0 rfl) ?_
    refine GV.i2l F dL_law_1108 ?_
    refine GV.lcmp F dL_law_1109 ?_
    refine GV.eq_t (tgt := 1115) F dL_law_1110 (by decide) (by rw [hr h0]; exact lg_self _) ?_
    refine GV.goto (tgt := 1625) F dL_law_1115 (by decide) ?_
    exact kk ls (lv_sub hl [2, 3, 4, 5, 6] rfl)
  · skip
    refine GV.ne_t (tgt := 1115) F dL_law_1100 (by decide) (nI_ne0 (by omega) (by omega)) ?_
    refine GV.goto (tgt := 1625) F dL_law_1115 (by decide) ?_
    exact kk ls (lv_sub hl [2, 3, 4, 5, 6] rfl)
set_option maxHeartbeats 4000000 in
set_option maxRecDepth 100000 in
theorem lc_count {p : Program} {l : Launch} {e : Env} {s : State} {m : MethodId} {args : Array Value} {below : List Frame} {meth : Method} {c : Code} {E : EV} {A : Nat → Prop} {Q : State → Prop} (F : CallFix p m c cL_law 9 s args LW RL) (hE : CE E A s s.heap) (hA : ∀ q, s.heap.size ≤ q → A q) {b L : Nat} {xs : Nat → Int32} (hX : va_X b L xs s s.heap) (hbl : b < s.heap.size) (hbA : ¬ A b) {i : Nat} (hi : i + 4 ≤ L) (hL : L ≤ 2048) {d o a0 : Nat} {wx wx' wm wm' : va_W} {fm fm' : List Value} {f f' : Nat → Int64} {kd : Nat} {rv : Int32} {k n : Nat} (hC : Gx l E yL_count cL_count 4 [(0, 9, 12, 15)] 8 161 [.ref d, .int (xs (i + 1)), .ref o] (rl_ E o 1 f :: wx) (rl_ E o 1 f' :: wx') (nI kd)) (hM : Wr l E yX7_count cX7_count 2 (some .int) 7 165 [.ref a0, .int (xs (i + 1))] wm wm' (some (.int rv))) (hp : (ads wm').Perm (ads wm)) (hm : wm[0]? = some (a0, .inr (7, fm))) (hm' : wm'[0]? = some (a0, .inr (7, fm'))) (hT : Rd l E yX7_thrown cX7_thrown 1 (some .int) 0 0 [.ref a0] wm' (some (.int (nI kd)))) (hkd : kd < 4) (hr : kd = 0 → f' 0 = rv.toInt64) (hkn : k + 1 ≤ room_1.cells ∧ n + 6 ≤ room_1.slots) {ls : Array Slot} (hl : lv_has ls 9 [(0, .ref b), (1, .ref d), (2, .ref a0), (3, .ref o), (4, .int (nI i))]) (kk : ∀ ls : Array Slot, lv_has ls 9 [(0, .ref b), (1, .ref d), (2, .ref a0), (3, .ref o), (4, .int (nI i))] → GV p l e room_1 s m args below meth c E A Q (rl_ E o 1 f' :: (wx' ++ wm')) (k + 1) (n + 6) (F0 m 1625 ls [])) : GV p l e room_1 s m args below meth c E A Q (rl_ E o 1 f :: (wx ++ wm)) k n (F0 m 1118 ls []) := by
  have hkn' := hkn
  refine GV.aload_n F dL_law_1118 rfl (lv_at hl 1 rfl) ?_
  refine GV.aload_n F dL_law_1119 rfl (lv_at hl 0 rfl) ?_
  refine GV.iload F dL_law_1120 (lv_at hl 4 rfl) ?_
  refine GV.iconst (v := nI 1) F dL_law_1122 (by decide) ?_
  refine GV.iadd (z := nI (i + 1)) F dL_law_1123 (nI_add i 1) ?_
  refine GV.sld F hX hbl hbA (by omega) (by omega) dL_law_1124 ?_
  refine GV.aload_n F dL_law_1125 rfl (lv_at hl 3 rfl) ?_
  refine GV.gx (wa := []) (wb := wm) F hE hA hC (kx_count F.2.2.2.2 ⟨Nat.le_of_ble_eq_true rfl, Nat.le_of_ble_eq_true rfl⟩) rfl rfl hl.1 (Nat.le_of_ble_eq_true rfl) hkn dL_law_1126 rfl ?_
  refine GV.weq (ws' := rl_ E o 1 f' :: (wx' ++ wm)) rfl ?_
  refine GV.istore (lv' := [(5, .int (nI kd)), (0, .ref b), (1, .ref d), (2, .ref a0), (3, .ref o), (4, .int (nI i))]) F dL_law_1129 hl (by decide) rfl (fun ls hl => ?_)
  refine GV.aload_n F dL_law_1131 rfl (lv_at hl 3 rfl) ?_
  refine GV.aload_n F dL_law_1132 rfl (lv_at hl 1 rfl) ?_
  refine GV.iload F dL_law_1133 (lv_at hl 5 rfl) ?_
  refine GV.iconst (v := nI 1) F dL_law_1135 (by decide) ?_
  refine GV.iadd (z := nI (i + 1)) F dL_law_1136 (nI_add i 1) ?_
  refine GV.sld F hX hbl hbA (by omega) (by omega) dL_law_1137 ?_
  refine GV.wrV (q0 := wx'.length + 1) (wa := rl_ E o 1 f' :: wx') (wb := []) F hE hM hp (kL_147 F.2.2.2.2 ⟨Nat.le_of_ble_eq_true rfl, Nat.le_of_ble_eq_true rfl⟩) (by rw [ob_at]; exact hm) rfl (by rw [List.append_nil]; rfl) rfl hl.1 (Nat.le_of_ble_eq_true rfl) hkn' dL_law_1138 rfl ?_
  refine GV.weq (ws' := rl_ E o 1 f' :: (wx' ++ wm')) (by rw [List.append_nil]; rfl) ?_
  refine GV.istore (lv' := [(6, .int rv), (5, .int (nI kd)), (0, .ref b), (1, .ref d), (2, .ref a0), (3, .ref o), (4, .int (nI i))]) F dL_law_1141 hl (by decide) rfl (fun ls hl => ?_)
  refine GV.aload_n F dL_law_1143 rfl (lv_at hl 4 rfl) ?_
  refine GV.rdV (q0 := wx'.length + 1) (wa := rl_ E o 1 f' :: wx') (wb := []) F hE hT (kL_92 F.2.2.2.2 ⟨Nat.le_of_ble_eq_true rfl, Nat.le_of_ble_eq_true rfl⟩) (by rw [ob_at]; exact hm') rfl (by rw [List.append_nil]; rfl) rfl hl.1 (Nat.le_of_ble_eq_true rfl) hkn' dL_law_1144 rfl ?_
  refine GV.iload F dL_law_1147 (lv_at hl 1 rfl) ?_
  refine GV.ieq_t (tgt := 1154) F dL_law_1149 (by decide) rfl ?_
  refine GV.iload F dL_law_1154 (lv_at hl 1 rfl) ?_
  by_cases h0 : kd = 0
  · skip
    refine GV.ne_f (tgt := 1171) F dL_law_1156 (by decide) (by rw [h0]; exact nI_0) ?_
    refine GV.aload_n F dL_law_1159 rfl (lv_at hl 5 rfl) ?_
    refine GV.iconst (v := nI 0) F dL_law_1160 (by decide) ?_
    refine GV.lald F hE 0 rfl (by decide) (by decide) dL_law_1161 ?_
    refine GV.iload F dL_law_1162 (lv_at hl 0 rfl) ?_
    refine GV.i2l F dL_law_1164 ?_
    refine GV.lcmp F dL_law_1165 ?_
    refine GV.eq_t (tgt := 1171) F dL_law_1166 (by decide) (by rw [hr h0]; exact lg_self _) ?_
    refine GV.goto (tgt := 1625) F dL_law_1171 (by decide) ?_
    exact kk ls (lv_sub hl [2, 3, 4, 5, 6] rfl)
  · skip
    refine GV.ne_t (tgt := 1171) F dL_law_1156 (by decide) (nI_ne0 (by omega) (by omega)) ?_
    refine GV.goto (tgt := 1625) F dL_law_1171 (by decide) ?_
    exact kk ls (lv_sub hl [2, 3, 4, 5, 6] rfl)
set_option maxHeartbeats 4000000 in
set_option maxRecDepth 100000 in
theorem lc_refusal {p : Program} {l : Launch} {e : Env} {s : State} {m : MethodId} {args : Array Value} {below : List Frame} {meth : Method} {c : Code} {E : EV} {A : Nat → Prop} {Q : State → Prop} (F : CallFix p m c cL_law 9 s args LW RL) (hE : CE E A s s.heap) (hA : ∀ q, s.heap.size ≤ q → A q) {b L : Nat} {xs : Nat → Int32} (hX : va_X b L xs s s.heap) (hbl : b < s.heap.size) (hbA : ¬ A b) {i : Nat} (hi : i + 4 ≤ L) (hL : L ≤ 2048) {d o a0 : Nat} {wx wx' wm wm' : va_W} {fm fm' : List Value} {f f' : Nat → Int64} {kd : Nat} {rv : Int32} {k n : Nat} (hC : Gx l E yL_refusal cL_refusal 5 [(0, 10, 13, 13)] 8 127 [.ref d, .int (xs (i + 1)), .int (xs (i + 2)), .ref o] (rl_ E o 1 f :: wx) (rl_ E o 1 f' :: wx') (nI kd)) (hM : Wr l E yX7_refusal cX7_refusal 3 (some .int) 4 99 [.ref a0, .int (xs (i + 1)), .int (xs (i + 2))] wm wm' (some (.int rv))) (hp : (ads wm').Perm (ads wm)) (hm : wm[0]? = some (a0, .inr (7, fm))) (hm' : wm'[0]? = some (a0, .inr (7, fm'))) (hT : Rd l E yX7_thrown cX7_thrown 1 (some .int) 0 0 [.ref a0] wm' (some (.int (nI kd)))) (hkd : kd < 4) (hr : kd = 0 → f' 0 = rv.toInt64) (hkn : k + 1 ≤ room_1.cells ∧ n + 6 ≤ room_1.slots) {ls : Array Slot} (hl : lv_has ls 9 [(0, .ref b), (1, .ref d), (2, .ref a0), (3, .ref o), (4, .int (nI i))]) (kk : ∀ ls : Array Slot, lv_has ls 9 [(0, .ref b), (1, .ref d), (2, .ref a0), (3, .ref o), (4, .int (nI i))] → GV p l e room_1 s m args below meth c E A Q (rl_ E o 1 f' :: (wx' ++ wm')) (k + 1) (n + 6) (F0 m 1625 ls [])) : GV p l e room_1 s m args below meth c E A Q (rl_ E o 1 f :: (wx ++ wm)) k n (F0 m 1174 ls []) := by
  have hkn' := hkn
  refine GV.aload_n F dL_law_1174 rfl (lv_at hl 1 rfl) ?_
  refine GV.aload_n F dL_law_1175 rfl (lv_at hl 0 rfl) ?_
  refine GV.iload F dL_law_1176 (lv_at hl 4 rfl) ?_
  refine GV.iconst (v := nI 1) F dL_law_1178 (by decide) ?_
  refine GV.iadd (z := nI (i + 1)) F dL_law_1179 (nI_add i 1) ?_
  refine GV.sld F hX hbl hbA (by omega) (by omega) dL_law_1180 ?_
  refine GV.aload_n F dL_law_1181 rfl (lv_at hl 0 rfl) ?_
  refine GV.iload F dL_law_1182 (lv_at hl 4 rfl) ?_
  refine GV.iconst (v := nI 2) F dL_law_1184 (by decide) ?_
  refine GV.iadd (z := nI (i + 2)) F dL_law_1185 (nI_add i 2) ?_
  refine GV.sld F hX hbl hbA (by omega) (by omega) dL_law_1186 ?_
  refine GV.aload_n F dL_law_1187 rfl (lv_at hl 3 rfl) ?_
  refine GV.gx (wa := []) (wb := wm) F hE hA hC (kx_refusal F.2.2.2.2 ⟨Nat.le_of_ble_eq_true rfl, Nat.le_of_ble_eq_true rfl⟩) rfl rfl hl.1 (Nat.le_of_ble_eq_true rfl) hkn dL_law_1188 rfl ?_
  refine GV.weq (ws' := rl_ E o 1 f' :: (wx' ++ wm)) rfl ?_
  refine GV.istore (lv' := [(5, .int (nI kd)), (0, .ref b), (1, .ref d), (2, .ref a0), (3, .ref o), (4, .int (nI i))]) F dL_law_1191 hl (by decide) rfl (fun ls hl => ?_)
  refine GV.aload_n F dL_law_1193 rfl (lv_at hl 3 rfl) ?_
  refine GV.aload_n F dL_law_1194 rfl (lv_at hl 1 rfl) ?_
  refine GV.iload F dL_law_1195 (lv_at hl 5 rfl) ?_
  refine GV.iconst (v := nI 1) F dL_law_1197 (by decide) ?_
  refine GV.iadd (z := nI (i + 1)) F dL_law_1198 (nI_add i 1) ?_
  refine GV.sld F hX hbl hbA (by omega) (by omega) dL_law_1199 ?_
  refine GV.aload_n F dL_law_1200 rfl (lv_at hl 1 rfl) ?_
  refine GV.iload F dL_law_1201 (lv_at hl 5 rfl) ?_
  refine GV.iconst (v := nI 2) F dL_law_1203 (by decide) ?_
  refine GV.iadd (z := nI (i + 2)) F dL_law_1204 (nI_add i 2) ?_
  refine GV.sld F hX hbl hbA (by omega) (by omega) dL_law_1205 ?_
  refine GV.wrV (q0 := wx'.length + 1) (wa := rl_ E o 1 f' :: wx') (wb := []) F hE hM hp (kL_150 F.2.2.2.2 ⟨Nat.le_of_ble_eq_true rfl, Nat.le_of_ble_eq_true rfl⟩) (by rw [ob_at]; exact hm) rfl (by rw [List.append_nil]; rfl) rfl hl.1 (Nat.le_of_ble_eq_true rfl) hkn' dL_law_1206 rfl ?_
  refine GV.weq (ws' := rl_ E o 1 f' :: (wx' ++ wm')) (by rw [List.append_nil]; rfl) ?_
  refine GV.istore (lv' := [(6, .int rv), (5, .int (nI kd)), (0, .ref b), (1, .ref d), (2, .ref a0), (3, .ref o), (4, .int (nI i))]) F dL_law_1209 hl (by decide) rfl (fun ls hl => ?_)
  refine GV.aload_n F dL_law_1211 rfl (lv_at hl 4 rfl) ?_
  refine GV.rdV (q0 := wx'.length + 1) (wa := rl_ E o 1 f' :: wx') (wb := []) F hE hT (kL_92 F.2.2.2.2 ⟨Nat.le_of_ble_eq_true rfl, Nat.le_of_ble_eq_true rfl⟩) (by rw [ob_at]; exact hm') rfl (by rw [List.append_nil]; rfl) rfl hl.1 (Nat.le_of_ble_eq_true rfl) hkn' dL_law_1212 rfl ?_
  refine GV.iload F dL_law_1215 (lv_at hl 1 rfl) ?_
  refine GV.ieq_t (tgt := 1222) F dL_law_1217 (by decide) rfl ?_
  refine GV.iload F dL_law_1222 (lv_at hl 1 rfl) ?_
  by_cases h0 : kd = 0
  · skip
    refine GV.ne_f (tgt := 1239) F dL_law_1224 (by decide) (by rw [h0]; exact nI_0) ?_
    refine GV.aload_n F dL_law_1227 rfl (lv_at hl 5 rfl) ?_
    refine GV.iconst (v := nI 0) F dL_law_1228 (by decide) ?_
    refine GV.lald F hE 0 rfl (by decide) (by decide) dL_law_1229 ?_
    refine GV.iload F dL_law_1230 (lv_at hl 0 rfl) ?_
    refine GV.i2l F dL_law_1232 ?_
    refine GV.lcmp F dL_law_1233 ?_
    refine GV.eq_t (tgt := 1239) F dL_law_1234 (by decide) (by rw [hr h0]; exact lg_self _) ?_
    refine GV.goto (tgt := 1625) F dL_law_1239 (by decide) ?_
    exact kk ls (lv_sub hl [2, 3, 4, 5, 6] rfl)
  · skip
    refine GV.ne_t (tgt := 1239) F dL_law_1224 (by decide) (nI_ne0 (by omega) (by omega)) ?_
    refine GV.goto (tgt := 1625) F dL_law_1239 (by decide) ?_
    exact kk ls (lv_sub hl [2, 3, 4, 5, 6] rfl)
set_option maxHeartbeats 4000000 in
set_option maxRecDepth 100000 in
theorem lc_soonest {p : Program} {l : Launch} {e : Env} {s : State} {m : MethodId} {args : Array Value} {below : List Frame} {meth : Method} {c : Code} {E : EV} {A : Nat → Prop} {Q : State → Prop} (F : CallFix p m c cL_law 9 s args LW RL) (hE : CE E A s s.heap) (hA : ∀ q, s.heap.size ≤ q → A q) {b L : Nat} {xs : Nat → Int32} (hX : va_X b L xs s s.heap) (hbl : b < s.heap.size) (hbA : ¬ A b) {i : Nat} (hi : i + 4 ≤ L) (hL : L ≤ 2048) {d o a0 : Nat} {wx wx' wm wm' : va_W} {fm fm' : List Value} {f f' : Nat → Int64} {kd : Nat} {rv : Int32} {k n : Nat} (hC : Gx l E yL_soonest cL_soonest 5 [(0, 10, 13, 13)] 8 127 [.ref d, .int (xs (i + 1)), .int (xs (i + 2)), .ref o] (rl_ E o 1 f :: wx) (rl_ E o 1 f' :: wx') (nI kd)) (hM : Wr l E yX7_soonest cX7_soonest 3 (some .int) 5 122 [.ref a0, .int (xs (i + 1)), .int (xs (i + 2))] wm wm' (some (.int rv))) (hp : (ads wm').Perm (ads wm)) (hm : wm[0]? = some (a0, .inr (7, fm))) (hm' : wm'[0]? = some (a0, .inr (7, fm'))) (hT : Rd l E yX7_thrown cX7_thrown 1 (some .int) 0 0 [.ref a0] wm' (some (.int (nI kd)))) (hkd : kd < 4) (hr : kd = 0 → f' 0 = rv.toInt64) (hkn : k + 1 ≤ room_1.cells ∧ n + 6 ≤ room_1.slots) {ls : Array Slot} (hl : lv_has ls 9 [(0, .ref b), (1, .ref d), (2, .ref a0), (3, .ref o), (4, .int (nI i))]) (kk : ∀ ls : Array Slot, lv_has ls 9 [(0, .ref b), (1, .ref d), (2, .ref a0), (3, .ref o), (4, .int (nI i))] → GV p l e room_1 s m args below meth c E A Q (rl_ E o 1 f' :: (wx' ++ wm')) (k + 1) (n + 6) (F0 m 1625 ls [])) : GV p l e room_1 s m args below meth c E A Q (rl_ E o 1 f :: (wx ++ wm)) k n (F0 m 1242 ls []) := by
  have hkn' := hkn
  refine GV.aload_n F dL_law_1242 rfl (lv_at hl 1 rfl) ?_
  refine GV.aload_n F dL_law_1243 rfl (lv_at hl 0 rfl) ?_
  refine GV.iload F dL_law_1244 (lv_at hl 4 rfl) ?_
  refine GV.iconst (v := nI 1) F dL_law_1246 (by decide) ?_
  refine GV.iadd (z := nI (i + 1)) F dL_law_1247 (nI_add i 1) ?_
  refine GV.sld F hX hbl hbA (by omega) (by omega) dL_law_1248 ?_
  refine GV.aload_n F dL_law_1249 rfl (lv_at hl 0 rfl) ?_
  refine GV.iload F dL_law_1250 (lv_at hl 4 rfl) ?_
  refine GV.iconst (v := nI 2) F dL_law_1252 (by decide) ?_
  refine GV.iadd (z := nI (i + 2)) F dL_law_1253 (nI_add i 2) ?_
  refine GV.sld F hX hbl hbA (by omega) (by omega) dL_law_1254 ?_
  refine GV.aload_n F dL_law_1255 rfl (lv_at hl 3 rfl) ?_
  refine GV.gx (wa := []) (wb := wm) F hE hA hC (kx_soonest F.2.2.2.2 ⟨Nat.le_of_ble_eq_true rfl, Nat.le_of_ble_eq_true rfl⟩) rfl rfl hl.1 (Nat.le_of_ble_eq_true rfl) hkn dL_law_1256 rfl ?_
  refine GV.weq (ws' := rl_ E o 1 f' :: (wx' ++ wm)) rfl ?_
  refine GV.istore (lv' := [(5, .int (nI kd)), (0, .ref b), (1, .ref d), (2, .ref a0), (3, .ref o), (4, .int (nI i))]) F dL_law_1259 hl (by decide) rfl (fun ls hl => ?_)
  refine GV.aload_n F dL_law_1261 rfl (lv_at hl 3 rfl) ?_
  refine GV.aload_n F dL_law_1262 rfl (lv_at hl 1 rfl) ?_
  refine GV.iload F dL_law_1263 (lv_at hl 5 rfl) ?_
  refine GV.iconst (v := nI 1) F dL_law_1265 (by decide) ?_
  refine GV.iadd (z := nI (i + 1)) F dL_law_1266 (nI_add i 1) ?_
  refine GV.sld F hX hbl hbA (by omega) (by omega) dL_law_1267 ?_
  refine GV.aload_n F dL_law_1268 rfl (lv_at hl 1 rfl) ?_
  refine GV.iload F dL_law_1269 (lv_at hl 5 rfl) ?_
  refine GV.iconst (v := nI 2) F dL_law_1271 (by decide) ?_
  refine GV.iadd (z := nI (i + 2)) F dL_law_1272 (nI_add i 2) ?_
  refine GV.sld F hX hbl hbA (by omega) (by omega) dL_law_1273 ?_
  refine GV.wrV (q0 := wx'.length + 1) (wa := rl_ E o 1 f' :: wx') (wb := []) F hE hM hp (kL_153 F.2.2.2.2 ⟨Nat.le_of_ble_eq_true rfl, Nat.le_of_ble_eq_true rfl⟩) (by rw [ob_at]; exact hm) rfl (by rw [List.append_nil]; rfl) rfl hl.1 (Nat.le_of_ble_eq_true rfl) hkn' dL_law_1274 rfl ?_
  refine GV.weq (ws' := rl_ E o 1 f' :: (wx' ++ wm')) (by rw [List.append_nil]; rfl) ?_
  refine GV.istore (lv' := [(6, .int rv), (5, .int (nI kd)), (0, .ref b), (1, .ref d), (2, .ref a0), (3, .ref o), (4, .int (nI i))]) F dL_law_1277 hl (by decide) rfl (fun ls hl => ?_)
  refine GV.aload_n F dL_law_1279 rfl (lv_at hl 4 rfl) ?_
  refine GV.rdV (q0 := wx'.length + 1) (wa := rl_ E o 1 f' :: wx') (wb := []) F hE hT (kL_92 F.2.2.2.2 ⟨Nat.le_of_ble_eq_true rfl, Nat.le_of_ble_eq_true rfl⟩) (by rw [ob_at]; exact hm') rfl (by rw [List.append_nil]; rfl) rfl hl.1 (Nat.le_of_ble_eq_true rfl) hkn' dL_law_1280 rfl ?_
  refine GV.iload F dL_law_1283 (lv_at hl 1 rfl) ?_
  refine GV.ieq_t (tgt := 1290) F dL_law_1285 (by decide) rfl ?_
  refine GV.iload F dL_law_1290 (lv_at hl 1 rfl) ?_
  by_cases h0 : kd = 0
  · skip
    refine GV.ne_f (tgt := 1307) F dL_law_1292 (by decide) (by rw [h0]; exact nI_0) ?_
    refine GV.aload_n F dL_law_1295 rfl (lv_at hl 5 rfl) ?_
    refine GV.iconst (v := nI 0) F dL_law_1296 (by decide) ?_
    refine GV.lald F hE 0 rfl (by decide) (by decide) dL_law_1297 ?_
    refine GV.iload F dL_law_1298 (lv_at hl 0 rfl) ?_
    refine GV.i2l F dL_law_1300 ?_
    refine GV.lcmp F dL_law_1301 ?_
    refine GV.eq_t (tgt := 1307) F dL_law_1302 (by decide) (by rw [hr h0]; exact lg_self _) ?_
    refine GV.goto (tgt := 1625) F dL_law_1307 (by decide) ?_
    exact kk ls (lv_sub hl [2, 3, 4, 5, 6] rfl)
  · skip
    refine GV.ne_t (tgt := 1307) F dL_law_1292 (by decide) (nI_ne0 (by omega) (by omega)) ?_
    refine GV.goto (tgt := 1625) F dL_law_1307 (by decide) ?_
    exact kk ls (lv_sub hl [2, 3, 4, 5, 6] rfl)
set_option maxHeartbeats 4000000 in
set_option maxRecDepth 100000 in
theorem lc_lacking {p : Program} {l : Launch} {e : Env} {s : State} {m : MethodId} {args : Array Value} {below : List Frame} {meth : Method} {c : Code} {E : EV} {A : Nat → Prop} {Q : State → Prop} (F : CallFix p m c cL_law 9 s args LW RL) (hE : CE E A s s.heap) (hA : ∀ q, s.heap.size ≤ q → A q) {b L : Nat} {xs : Nat → Int32} (hX : va_X b L xs s s.heap) (hbl : b < s.heap.size) (hbA : ¬ A b) {i : Nat} (hi : i + 4 ≤ L) (hL : L ≤ 2048) {d o a0 : Nat} {wx wx' wm wm' : va_W} {fm fm' : List Value} {f f' : Nat → Int64} {kd : Nat} {rv : Int32} {k n : Nat} (hC : Gx l E yL_lacking cL_lacking 5 [(0, 10, 13, 13)] 8 127 [.ref d, .int (xs (i + 1)), .int (xs (i + 2)), .ref o] (rl_ E o 1 f :: wx) (rl_ E o 1 f' :: wx') (nI kd)) (hM : Wr l E yX7_lacking cX7_lacking 3 (some .int) 3 76 [.ref a0, .int (xs (i + 1)), .int (xs (i + 2))] wm wm' (some (.int rv))) (hp : (ads wm').Perm (ads wm)) (hm : wm[0]? = some (a0, .inr (7, fm))) (hm' : wm'[0]? = some (a0, .inr (7, fm'))) (hT : Rd l E yX7_thrown cX7_thrown 1 (some .int) 0 0 [.ref a0] wm' (some (.int (nI kd)))) (hkd : kd < 4) (hr : kd = 0 → f' 0 = rv.toInt64) (hkn : k + 1 ≤ room_1.cells ∧ n + 6 ≤ room_1.slots) {ls : Array Slot} (hl : lv_has ls 9 [(0, .ref b), (1, .ref d), (2, .ref a0), (3, .ref o), (4, .int (nI i))]) (kk : ∀ ls : Array Slot, lv_has ls 9 [(0, .ref b), (1, .ref d), (2, .ref a0), (3, .ref o), (4, .int (nI i))] → GV p l e room_1 s m args below meth c E A Q (rl_ E o 1 f' :: (wx' ++ wm')) (k + 1) (n + 6) (F0 m 1625 ls [])) : GV p l e room_1 s m args below meth c E A Q (rl_ E o 1 f :: (wx ++ wm)) k n (F0 m 1310 ls []) := by
  have hkn' := hkn
  refine GV.aload_n F dL_law_1310 rfl (lv_at hl 1 rfl) ?_
  refine GV.aload_n F dL_law_1311 rfl (lv_at hl 0 rfl) ?_
  refine GV.iload F dL_law_1312 (lv_at hl 4 rfl) ?_
  refine GV.iconst (v := nI 1) F dL_law_1314 (by decide) ?_
  refine GV.iadd (z := nI (i + 1)) F dL_law_1315 (nI_add i 1) ?_
  refine GV.sld F hX hbl hbA (by omega) (by omega) dL_law_1316 ?_
  refine GV.aload_n F dL_law_1317 rfl (lv_at hl 0 rfl) ?_
  refine GV.iload F dL_law_1318 (lv_at hl 4 rfl) ?_
  refine GV.iconst (v := nI 2) F dL_law_1320 (by decide) ?_
  refine GV.iadd (z := nI (i + 2)) F dL_law_1321 (nI_add i 2) ?_
  refine GV.sld F hX hbl hbA (by omega) (by omega) dL_law_1322 ?_
  refine GV.aload_n F dL_law_1323 rfl (lv_at hl 3 rfl) ?_
  refine GV.gx (wa := []) (wb := wm) F hE hA hC (kx_lacking F.2.2.2.2 ⟨Nat.le_of_ble_eq_true rfl, Nat.le_of_ble_eq_true rfl⟩) rfl rfl hl.1 (Nat.le_of_ble_eq_true rfl) hkn dL_law_1324 rfl ?_
  refine GV.weq (ws' := rl_ E o 1 f' :: (wx' ++ wm)) rfl ?_
  refine GV.istore (lv' := [(5, .int (nI kd)), (0, .ref b), (1, .ref d), (2, .ref a0), (3, .ref o), (4, .int (nI i))]) F dL_law_1327 hl (by decide) rfl (fun ls hl => ?_)
  refine GV.aload_n F dL_law_1329 rfl (lv_at hl 3 rfl) ?_
  refine GV.aload_n F dL_law_1330 rfl (lv_at hl 1 rfl) ?_
  refine GV.iload F dL_law_1331 (lv_at hl 5 rfl) ?_
  refine GV.iconst (v := nI 1) F dL_law_1333 (by decide) ?_
  refine GV.iadd (z := nI (i + 1)) F dL_law_1334 (nI_add i 1) ?_
  refine GV.sld F hX hbl hbA (by omega) (by omega) dL_law_1335 ?_
  refine GV.aload_n F dL_law_1336 rfl (lv_at hl 1 rfl) ?_
  refine GV.iload F dL_law_1337 (lv_at hl 5 rfl) ?_
  refine GV.iconst (v := nI 2) F dL_law_1339 (by decide) ?_
  refine GV.iadd (z := nI (i + 2)) F dL_law_1340 (nI_add i 2) ?_
  refine GV.sld F hX hbl hbA (by omega) (by omega) dL_law_1341 ?_
  refine GV.wrV (q0 := wx'.length + 1) (wa := rl_ E o 1 f' :: wx') (wb := []) F hE hM hp (kL_156 F.2.2.2.2 ⟨Nat.le_of_ble_eq_true rfl, Nat.le_of_ble_eq_true rfl⟩) (by rw [ob_at]; exact hm) rfl (by rw [List.append_nil]; rfl) rfl hl.1 (Nat.le_of_ble_eq_true rfl) hkn' dL_law_1342 rfl ?_
  refine GV.weq (ws' := rl_ E o 1 f' :: (wx' ++ wm')) (by rw [List.append_nil]; rfl) ?_
  refine GV.istore (lv' := [(6, .int rv), (5, .int (nI kd)), (0, .ref b), (1, .ref d), (2, .ref a0), (3, .ref o), (4, .int (nI i))]) F dL_law_1345 hl (by decide) rfl (fun ls hl => ?_)
  refine GV.aload_n F dL_law_1347 rfl (lv_at hl 4 rfl) ?_
  refine GV.rdV (q0 := wx'.length + 1) (wa := rl_ E o 1 f' :: wx') (wb := []) F hE hT (kL_92 F.2.2.2.2 ⟨Nat.le_of_ble_eq_true rfl, Nat.le_of_ble_eq_true rfl⟩) (by rw [ob_at]; exact hm') rfl (by rw [List.append_nil]; rfl) rfl hl.1 (Nat.le_of_ble_eq_true rfl) hkn' dL_law_1348 rfl ?_
  refine GV.iload F dL_law_1351 (lv_at hl 1 rfl) ?_
  refine GV.ieq_t (tgt := 1358) F dL_law_1353 (by decide) rfl ?_
  refine GV.iload F dL_law_1358 (lv_at hl 1 rfl) ?_
  by_cases h0 : kd = 0
  · skip
    refine GV.ne_f (tgt := 1375) F dL_law_1360 (by decide) (by rw [h0]; exact nI_0) ?_
    refine GV.aload_n F dL_law_1363 rfl (lv_at hl 5 rfl) ?_
    refine GV.iconst (v := nI 0) F dL_law_1364 (by decide) ?_
    refine GV.lald F hE 0 rfl (by decide) (by decide) dL_law_1365 ?_
    refine GV.iload F dL_law_1366 (lv_at hl 0 rfl) ?_
    refine GV.i2l F dL_law_1368 ?_
    refine GV.lcmp F dL_law_1369 ?_
    refine GV.eq_t (tgt := 1375) F dL_law_1370 (by decide) (by rw [hr h0]; exact lg_self _) ?_
    refine GV.goto (tgt := 1625) F dL_law_1375 (by decide) ?_
    exact kk ls (lv_sub hl [2, 3, 4, 5, 6] rfl)
  · skip
    refine GV.ne_t (tgt := 1375) F dL_law_1360 (by decide) (nI_ne0 (by omega) (by omega)) ?_
    refine GV.goto (tgt := 1625) F dL_law_1375 (by decide) ?_
    exact kk ls (lv_sub hl [2, 3, 4, 5, 6] rfl)
set_option maxHeartbeats 4000000 in
set_option maxRecDepth 100000 in
theorem lc_best {p : Program} {l : Launch} {e : Env} {s : State} {m : MethodId} {args : Array Value} {below : List Frame} {meth : Method} {c : Code} {E : EV} {A : Nat → Prop} {Q : State → Prop} (F : CallFix p m c cL_law 9 s args LW RL) (hE : CE E A s s.heap) (hA : ∀ q, s.heap.size ≤ q → A q) {b L : Nat} {xs : Nat → Int32} (hX : va_X b L xs s s.heap) (hbl : b < s.heap.size) (hbA : ¬ A b) {i : Nat} (hi : i + 4 ≤ L) (hL : L ≤ 2048) {d o a0 : Nat} {wx wx' wm wm' : va_W} {fm fm' : List Value} {f f' : Nat → Int64} {kd : Nat} {rv : Int32} {k n : Nat} (hC : Gx l E yL_best cL_best 4 [(0, 9, 12, 13)] 8 141 [.ref d, .int (xs (i + 1)), .ref o] (rl_ E o 1 f :: wx) (rl_ E o 1 f' :: wx') (nI kd)) (hM : Wr l E yX7_best cX7_best 2 (some .int) 5 124 [.ref a0, .int (xs (i + 1))] wm wm' (some (.int rv))) (hp : (ads wm').Perm (ads wm)) (hm : wm[0]? = some (a0, .inr (7, fm))) (hm' : wm'[0]? = some (a0, .inr (7, fm'))) (hT : Rd l E yX7_thrown cX7_thrown 1 (some .int) 0 0 [.ref a0] wm' (some (.int (nI kd)))) (hkd : kd < 4) (hr : kd = 0 → f' 0 = rv.toInt64) (hkn : k + 1 ≤ room_1.cells ∧ n + 6 ≤ room_1.slots) {ls : Array Slot} (hl : lv_has ls 9 [(0, .ref b), (1, .ref d), (2, .ref a0), (3, .ref o), (4, .int (nI i))]) (kk : ∀ ls : Array Slot, lv_has ls 9 [(0, .ref b), (1, .ref d), (2, .ref a0), (3, .ref o), (4, .int (nI i))] → GV p l e room_1 s m args below meth c E A Q (rl_ E o 1 f' :: (wx' ++ wm')) (k + 1) (n + 6) (F0 m 1625 ls [])) : GV p l e room_1 s m args below meth c E A Q (rl_ E o 1 f :: (wx ++ wm)) k n (F0 m 1378 ls []) := by
  have hkn' := hkn
  refine GV.aload_n F dL_law_1378 rfl (lv_at hl 1 rfl) ?_
  refine GV.aload_n F dL_law_1379 rfl (lv_at hl 0 rfl) ?_
  refine GV.iload F dL_law_1380 (lv_at hl 4 rfl) ?_
  refine GV.iconst (v := nI 1) F dL_law_1382 (by decide) ?_
  refine GV.iadd (z := nI (i + 1)) F dL_law_1383 (nI_add i 1) ?_
  refine GV.sld F hX hbl hbA (by omega) (by omega) dL_law_1384 ?_
  refine GV.aload_n F dL_law_1385 rfl (lv_at hl 3 rfl) ?_
  refine GV.gx (wa := []) (wb := wm) F hE hA hC (kx_best F.2.2.2.2 ⟨Nat.le_of_ble_eq_true rfl, Nat.le_of_ble_eq_true rfl⟩) rfl rfl hl.1 (Nat.le_of_ble_eq_true rfl) hkn dL_law_1386 rfl ?_
  refine GV.weq (ws' := rl_ E o 1 f' :: (wx' ++ wm)) rfl ?_
  refine GV.istore (lv' := [(5, .int (nI kd)), (0, .ref b), (1, .ref d), (2, .ref a0), (3, .ref o), (4, .int (nI i))]) F dL_law_1389 hl (by decide) rfl (fun ls hl => ?_)
  refine GV.aload_n F dL_law_1391 rfl (lv_at hl 3 rfl) ?_
  refine GV.aload_n F dL_law_1392 rfl (lv_at hl 1 rfl) ?_
  refine GV.iload F dL_law_1393 (lv_at hl 5 rfl) ?_
  refine GV.iconst (v := nI 1) F dL_law_1395 (by decide) ?_
  refine GV.iadd (z := nI (i + 1)) F dL_law_1396 (nI_add i 1) ?_
  refine GV.sld F hX hbl hbA (by omega) (by omega) dL_law_1397 ?_
  refine GV.wrV (q0 := wx'.length + 1) (wa := rl_ E o 1 f' :: wx') (wb := []) F hE hM hp (kL_159 F.2.2.2.2 ⟨Nat.le_of_ble_eq_true rfl, Nat.le_of_ble_eq_true rfl⟩) (by rw [ob_at]; exact hm) rfl (by rw [List.append_nil]; rfl) rfl hl.1 (Nat.le_of_ble_eq_true rfl) hkn' dL_law_1398 rfl ?_
  refine GV.weq (ws' := rl_ E o 1 f' :: (wx' ++ wm')) (by rw [List.append_nil]; rfl) ?_
  refine GV.istore (lv' := [(6, .int rv), (5, .int (nI kd)), (0, .ref b), (1, .ref d), (2, .ref a0), (3, .ref o), (4, .int (nI i))]) F dL_law_1401 hl (by decide) rfl (fun ls hl => ?_)
  refine GV.aload_n F dL_law_1403 rfl (lv_at hl 4 rfl) ?_
  refine GV.rdV (q0 := wx'.length + 1) (wa := rl_ E o 1 f' :: wx') (wb := []) F hE hT (kL_92 F.2.2.2.2 ⟨Nat.le_of_ble_eq_true rfl, Nat.le_of_ble_eq_true rfl⟩) (by rw [ob_at]; exact hm') rfl (by rw [List.append_nil]; rfl) rfl hl.1 (Nat.le_of_ble_eq_true rfl) hkn' dL_law_1404 rfl ?_
  refine GV.iload F dL_law_1407 (lv_at hl 1 rfl) ?_
  refine GV.ieq_t (tgt := 1414) F dL_law_1409 (by decide) rfl ?_
  refine GV.iload F dL_law_1414 (lv_at hl 1 rfl) ?_
  by_cases h0 : kd = 0
  · skip
    refine GV.ne_f (tgt := 1431) F dL_law_1416 (by decide) (by rw [h0]; exact nI_0) ?_
    refine GV.aload_n F dL_law_1419 rfl (lv_at hl 5 rfl) ?_
    refine GV.iconst (v := nI 0) F dL_law_1420 (by decide) ?_
    refine GV.lald F hE 0 rfl (by decide) (by decide) dL_law_1421 ?_
    refine GV.iload F dL_law_1422 (lv_at hl 0 rfl) ?_
    refine GV.i2l F dL_law_1424 ?_
    refine GV.lcmp F dL_law_1425 ?_
    refine GV.eq_t (tgt := 1431) F dL_law_1426 (by decide) (by rw [hr h0]; exact lg_self _) ?_
    refine GV.goto (tgt := 1625) F dL_law_1431 (by decide) ?_
    exact kk ls (lv_sub hl [2, 3, 4, 5, 6] rfl)
  · skip
    refine GV.ne_t (tgt := 1431) F dL_law_1416 (by decide) (nI_ne0 (by omega) (by omega)) ?_
    refine GV.goto (tgt := 1625) F dL_law_1431 (by decide) ?_
    exact kk ls (lv_sub hl [2, 3, 4, 5, 6] rfl)
set_option maxHeartbeats 4000000 in
set_option maxRecDepth 100000 in
theorem lc_cost {p : Program} {l : Launch} {e : Env} {s : State} {m : MethodId} {args : Array Value} {below : List Frame} {meth : Method} {c : Code} {E : EV} {A : Nat → Prop} {Q : State → Prop} (F : CallFix p m c cL_law 9 s args LW RL) (hE : CE E A s s.heap) (hA : ∀ q, s.heap.size ≤ q → A q) {b L : Nat} {xs : Nat → Int32} (hX : va_X b L xs s s.heap) (hbl : b < s.heap.size) (hbA : ¬ A b) {i : Nat} (hi : i + 4 ≤ L) (hL : L ≤ 2048) {d o a0 : Nat} {wx wx' wm wm' : va_W} {fm fm' : List Value} {f f' : Nat → Int64} {kd : Nat} {rv : Int32} {k n : Nat} (hC : Gx l E yL_cost cL_cost 5 [(0, 10, 13, 15)] 8 126 [.ref d, .int (xs (i + 1)), .int (xs (i + 2)), .ref o] (rl_ E o 1 f :: wx) (rl_ E o 1 f' :: wx') (nI kd)) (hM : Wr l E yX7_cost cX7_cost 3 (some .int) 1 23 [.ref a0, .int (xs (i + 1)), .int (xs (i + 2))] wm wm' (some (.int rv))) (hp : (ads wm').Perm (ads wm)) (hm : wm[0]? = some (a0, .inr (7, fm))) (hm' : wm'[0]? = some (a0, .inr (7, fm'))) (hT : Rd l E yX7_thrown cX7_thrown 1 (some .int) 0 0 [.ref a0] wm' (some (.int (nI kd)))) (hkd : kd < 4) (hr : kd = 0 → f' 0 = rv.toInt64) (hkn : k + 1 ≤ room_1.cells ∧ n + 6 ≤ room_1.slots) {ls : Array Slot} (hl : lv_has ls 9 [(0, .ref b), (1, .ref d), (2, .ref a0), (3, .ref o), (4, .int (nI i))]) (kk : ∀ ls : Array Slot, lv_has ls 9 [(0, .ref b), (1, .ref d), (2, .ref a0), (3, .ref o), (4, .int (nI i))] → GV p l e room_1 s m args below meth c E A Q (rl_ E o 1 f' :: (wx' ++ wm')) (k + 1) (n + 6) (F0 m 1625 ls [])) : GV p l e room_1 s m args below meth c E A Q (rl_ E o 1 f :: (wx ++ wm)) k n (F0 m 1434 ls []) := by
  have hkn' := hkn
  refine GV.aload_n F dL_law_1434 rfl (lv_at hl 1 rfl) ?_
  refine GV.aload_n F dL_law_1435 rfl (lv_at hl 0 rfl) ?_
  refine GV.iload F dL_law_1436 (lv_at hl 4 rfl) ?_
  refine GV.iconst (v := nI 1) F dL_law_1438 (by decide) ?_
  refine GV.iadd (z := nI (i + 1)) F dL_law_1439 (nI_add i 1) ?_
  refine GV.sld F hX hbl hbA (by omega) (by omega) dL_law_1440 ?_
  refine GV.aload_n F dL_law_1441 rfl (lv_at hl 0 rfl) ?_
  refine GV.iload F dL_law_1442 (lv_at hl 4 rfl) ?_
  refine GV.iconst (v := nI 2) F dL_law_1444 (by decide) ?_
  refine GV.iadd (z := nI (i + 2)) F dL_law_1445 (nI_add i 2) ?_
  refine GV.sld F hX hbl hbA (by omega) (by omega) dL_law_1446 ?_
  refine GV.aload_n F dL_law_1447 rfl (lv_at hl 3 rfl) ?_
  refine GV.gx (wa := []) (wb := wm) F hE hA hC (kx_cost F.2.2.2.2 ⟨Nat.le_of_ble_eq_true rfl, Nat.le_of_ble_eq_true rfl⟩) rfl rfl hl.1 (Nat.le_of_ble_eq_true rfl) hkn dL_law_1448 rfl ?_
  refine GV.weq (ws' := rl_ E o 1 f' :: (wx' ++ wm)) rfl ?_
  refine GV.istore (lv' := [(5, .int (nI kd)), (0, .ref b), (1, .ref d), (2, .ref a0), (3, .ref o), (4, .int (nI i))]) F dL_law_1451 hl (by decide) rfl (fun ls hl => ?_)
  refine GV.aload_n F dL_law_1453 rfl (lv_at hl 3 rfl) ?_
  refine GV.aload_n F dL_law_1454 rfl (lv_at hl 1 rfl) ?_
  refine GV.iload F dL_law_1455 (lv_at hl 5 rfl) ?_
  refine GV.iconst (v := nI 1) F dL_law_1457 (by decide) ?_
  refine GV.iadd (z := nI (i + 1)) F dL_law_1458 (nI_add i 1) ?_
  refine GV.sld F hX hbl hbA (by omega) (by omega) dL_law_1459 ?_
  refine GV.aload_n F dL_law_1460 rfl (lv_at hl 1 rfl) ?_
  refine GV.iload F dL_law_1461 (lv_at hl 5 rfl) ?_
  refine GV.iconst (v := nI 2) F dL_law_1463 (by decide) ?_
  refine GV.iadd (z := nI (i + 2)) F dL_law_1464 (nI_add i 2) ?_
  refine GV.sld F hX hbl hbA (by omega) (by omega) dL_law_1465 ?_
  refine GV.wrV (q0 := wx'.length + 1) (wa := rl_ E o 1 f' :: wx') (wb := []) F hE hM hp (kL_162 F.2.2.2.2 ⟨Nat.le_of_ble_eq_true rfl, Nat.le_of_ble_eq_true rfl⟩) (by rw [ob_at]; exact hm) rfl (by rw [List.append_nil]; rfl) rfl hl.1 (Nat.le_of_ble_eq_true rfl) hkn' dL_law_1466 rfl ?_
  refine GV.weq (ws' := rl_ E o 1 f' :: (wx' ++ wm')) (by rw [List.append_nil]; rfl) ?_
  refine GV.istore (lv' := [(6, .int rv), (5, .int (nI kd)), (0, .ref b), (1, .ref d), (2, .ref a0), (3, .ref o), (4, .int (nI i))]) F dL_law_1469 hl (by decide) rfl (fun ls hl => ?_)
  refine GV.aload_n F dL_law_1471 rfl (lv_at hl 4 rfl) ?_
  refine GV.rdV (q0 := wx'.length + 1) (wa := rl_ E o 1 f' :: wx') (wb := []) F hE hT (kL_92 F.2.2.2.2 ⟨Nat.le_of_ble_eq_true rfl, Nat.le_of_ble_eq_true rfl⟩) (by rw [ob_at]; exact hm') rfl (by rw [List.append_nil]; rfl) rfl hl.1 (Nat.le_of_ble_eq_true rfl) hkn' dL_law_1472 rfl ?_
  refine GV.iload F dL_law_1475 (lv_at hl 1 rfl) ?_
  refine GV.ieq_t (tgt := 1482) F dL_law_1477 (by decide) rfl ?_
  refine GV.iload F dL_law_1482 (lv_at hl 1 rfl) ?_
  by_cases h0 : kd = 0
  · skip
    refine GV.ne_f (tgt := 1499) F dL_law_1484 (by decide) (by rw [h0]; exact nI_0) ?_
    refine GV.aload_n F dL_law_1487 rfl (lv_at hl 5 rfl) ?_
    refine GV.iconst (v := nI 0) F dL_law_1488 (by decide) ?_
    refine GV.lald F hE 0 rfl (by decide) (by decide) dL_law_1489 ?_
    refine GV.iload F dL_law_1490 (lv_at hl 0 rfl) ?_
    refine GV.i2l F dL_law_1492 ?_
    refine GV.lcmp F dL_law_1493 ?_
    refine GV.eq_t (tgt := 1499) F dL_law_1494 (by decide) (by rw [hr h0]; exact lg_self _) ?_
    refine GV.goto (tgt := 1625) F dL_law_1499 (by decide) ?_
    exact kk ls (lv_sub hl [2, 3, 4, 5, 6] rfl)
  · skip
    refine GV.ne_t (tgt := 1499) F dL_law_1484 (by decide) (nI_ne0 (by omega) (by omega)) ?_
    refine GV.goto (tgt := 1625) F dL_law_1499 (by decide) ?_
    exact kk ls (lv_sub hl [2, 3, 4, 5, 6] rfl)
set_option maxHeartbeats 4000000 in
set_option maxRecDepth 100000 in
theorem lc_ifHurt {p : Program} {l : Launch} {e : Env} {s : State} {m : MethodId} {args : Array Value} {below : List Frame} {meth : Method} {c : Code} {E : EV} {A : Nat → Prop} {Q : State → Prop} (F : CallFix p m c cL_law 9 s args LW RL) (hE : CE E A s s.heap) (hA : ∀ q, s.heap.size ≤ q → A q) {b L : Nat} {xs : Nat → Int32} (hX : va_X b L xs s s.heap) (hbl : b < s.heap.size) (hbA : ¬ A b) {i : Nat} (hi : i + 4 ≤ L) (hL : L ≤ 2048) {d o a0 : Nat} {wx wx' wm wm' : va_W} {fm fm' : List Value} {f f' : Nat → Int64} {kd : Nat} {rv : Int32} {k n : Nat} (hC : Gx l E yL_ifHurt cL_ifHurt 5 [(0, 10, 13, 13), (0, 10, 17, 15)] 8 143 [.ref d, .int (xs (i + 1)), .int (xs (i + 2)), .ref o] (rl_ E o 1 f :: wx) (rl_ E o 1 f' :: wx') (nI kd)) (hM : Wr l E yX7_ifHurt cX7_ifHurt 3 (some .int) 6 147 [.ref a0, .int (xs (i + 1)), .int (xs (i + 2))] wm wm' (some (.int rv))) (hp : (ads wm').Perm (ads wm)) (hm : wm[0]? = some (a0, .inr (7, fm))) (hm' : wm'[0]? = some (a0, .inr (7, fm'))) (hT : Rd l E yX7_thrown cX7_thrown 1 (some .int) 0 0 [.ref a0] wm' (some (.int (nI kd)))) (hkd : kd < 4) (hr : kd = 0 → f' 0 = rv.toInt64) (hkn : k + 1 ≤ room_1.cells ∧ n + 6 ≤ room_1.slots) {ls : Array Slot} (hl : lv_has ls 9 [(0, .ref b), (1, .ref d), (2, .ref a0), (3, .ref o), (4, .int (nI i))]) (kk : ∀ ls : Array Slot, lv_has ls 9 [(0, .ref b), (1, .ref d), (2, .ref a0), (3, .ref o), (4, .int (nI i))] → GV p l e room_1 s m args below meth c E A Q (rl_ E o 1 f' :: (wx' ++ wm')) (k + 1) (n + 6) (F0 m 1625 ls [])) : GV p l e room_1 s m args below meth c E A Q (rl_ E o 1 f :: (wx ++ wm)) k n (F0 m 1502 ls []) := by
  have hkn' := hkn
  refine GV.aload_n F dL_law_1502 rfl (lv_at hl 1 rfl) ?_
  refine GV.aload_n F dL_law_1503 rfl (lv_at hl 0 rfl) ?_
  refine GV.iload F dL_law_1504 (lv_at hl 4 rfl) ?_
  refine GV.iconst (v := nI 1) F dL_law_1506 (by decide) ?_
  refine GV.iadd (z := nI (i + 1)) F dL_law_1507 (nI_add i 1) ?_
  refine GV.sld F hX hbl hbA (by omega) (by omega) dL_law_1508 ?_
  refine GV.aload_n F dL_law_1509 rfl (lv_at hl 0 rfl) ?_
  refine GV.iload F dL_law_1510 (lv_at hl 4 rfl) ?_
  refine GV.iconst (v := nI 2) F dL_law_1512 (by decide) ?_
  refine GV.iadd (z := nI (i + 2)) F dL_law_1513 (nI_add i 2) ?_
  refine GV.sld F hX hbl hbA (by omega) (by omega) dL_law_1514 ?_
  refine GV.aload_n F dL_law_1515 rfl (lv_at hl 3 rfl) ?_
  refine GV.gx (wa := []) (wb := wm) F hE hA hC (kx_ifHurt F.2.2.2.2 ⟨Nat.le_of_ble_eq_true rfl, Nat.le_of_ble_eq_true rfl⟩) rfl rfl hl.1 (Nat.le_of_ble_eq_true rfl) hkn dL_law_1516 rfl ?_
  refine GV.weq (ws' := rl_ E o 1 f' :: (wx' ++ wm)) rfl ?_
  refine GV.istore (lv' := [(5, .int (nI kd)), (0, .ref b), (1, .ref d), (2, .ref a0), (3, .ref o), (4, .int (nI i))]) F dL_law_1519 hl (by decide) rfl (fun ls hl => ?_)
  refine GV.aload_n F dL_law_1521 rfl (lv_at hl 3 rfl) ?_
  refine GV.aload_n F dL_law_1522 rfl (lv_at hl 1 rfl) ?_
  refine GV.iload F dL_law_1523 (lv_at hl 5 rfl) ?_
  refine GV.iconst (v := nI 1) F dL_law_1525 (by decide) ?_
  refine GV.iadd (z := nI (i + 1)) F dL_law_1526 (nI_add i 1) ?_
  refine GV.sld F hX hbl hbA (by omega) (by omega) dL_law_1527 ?_
  refine GV.aload_n F dL_law_1528 rfl (lv_at hl 1 rfl) ?_
  refine GV.iload F dL_law_1529 (lv_at hl 5 rfl) ?_
  refine GV.iconst (v := nI 2) F dL_law_1531 (by decide) ?_
  refine GV.iadd (z := nI (i + 2)) F dL_law_1532 (nI_add i 2) ?_
  refine GV.sld F hX hbl hbA (by omega) (by omega) dL_law_1533 ?_
  refine GV.wrV (q0 := wx'.length + 1) (wa := rl_ E o 1 f' :: wx') (wb := []) F hE hM hp (kL_165 F.2.2.2.2 ⟨Nat.le_of_ble_eq_true rfl, Nat.le_of_ble_eq_true rfl⟩) (by rw [ob_at]; exact hm) rfl (by rw [List.append_nil]; rfl) rfl hl.1 (Nat.le_of_ble_eq_true rfl) hkn' dL_law_1534 rfl ?_
  refine GV.weq (ws' := rl_ E o 1 f' :: (wx' ++ wm')) (by rw [List.append_nil]; rfl) ?_
  refine GV.istore (lv' := [(6, .int rv), (5, .int (nI kd)), (0, .ref b), (1, .ref d), (2, .ref a0), (3, .ref o), (4, .int (nI i))]) F dL_law_1537 hl (by decide) rfl (fun ls hl => ?_)
  refine GV.aload_n F dL_law_1539 rfl (lv_at hl 4 rfl) ?_
  refine GV.rdV (q0 := wx'.length + 1) (wa := rl_ E o 1 f' :: wx') (wb := []) F hE hT (kL_92 F.2.2.2.2 ⟨Nat.le_of_ble_eq_true rfl, Nat.le_of_ble_eq_true rfl⟩) (by rw [ob_at]; exact hm') rfl (by rw [List.append_nil]; rfl) rfl hl.1 (Nat.le_of_ble_eq_true rfl) hkn' dL_law_1540 rfl ?_
  refine GV.iload F dL_law_1543 (lv_at hl 1 rfl) ?_
  refine GV.ieq_t (tgt := 1550) F dL_law_1545 (by decide) rfl ?_
  refine GV.iload F dL_law_1550 (lv_at hl 1 rfl) ?_
  by_cases h0 : kd = 0
  · skip
    refine GV.ne_f (tgt := 1567) F dL_law_1552 (by decide) (by rw [h0]; exact nI_0) ?_
    refine GV.aload_n F dL_law_1555 rfl (lv_at hl 5 rfl) ?_
    refine GV.iconst (v := nI 0) F dL_law_1556 (by decide) ?_
    refine GV.lald F hE 0 rfl (by decide) (by decide) dL_law_1557 ?_
    refine GV.iload F dL_law_1558 (lv_at hl 0 rfl) ?_
    refine GV.i2l F dL_law_1560 ?_
    refine GV.lcmp F dL_law_1561 ?_
    refine GV.eq_t (tgt := 1567) F dL_law_1562 (by decide) (by rw [hr h0]; exact lg_self _) ?_
    refine GV.goto (tgt := 1625) F dL_law_1567 (by decide) ?_
    exact kk ls (lv_sub hl [2, 3, 4, 5, 6] rfl)
  · skip
    refine GV.ne_t (tgt := 1567) F dL_law_1552 (by decide) (nI_ne0 (by omega) (by omega)) ?_
    refine GV.goto (tgt := 1625) F dL_law_1567 (by decide) ?_
    exact kk ls (lv_sub hl [2, 3, 4, 5, 6] rfl)
set_option maxHeartbeats 4000000 in
set_option maxRecDepth 100000 in
theorem lc_shotShare {p : Program} {l : Launch} {e : Env} {s : State} {m : MethodId} {args : Array Value} {below : List Frame} {meth : Method} {c : Code} {E : EV} {A : Nat → Prop} {Q : State → Prop} (F : CallFix p m c cL_law 9 s args LW RL) (hE : CE E A s s.heap) (hA : ∀ q, s.heap.size ≤ q → A q) {b L : Nat} {xs : Nat → Int32} (hX : va_X b L xs s s.heap) (hbl : b < s.heap.size) (hbA : ¬ A b) {i : Nat} (hi : i + 4 ≤ L) (hL : L ≤ 2048) {d o a0 : Nat} {wc wb wm wm' : va_W} {fs fm fm' : List Value} {f : Nat → Int64} {rv : UInt64} {k n : Nat} (hC : Rd l E yX6_shotShare cX6_shotShare 1 (some .double) 4 84 [.ref d] ((d, .inr (6, fs)) :: wc) (some (.double rv))) (hM : Wr l E yX7_shotShare cX7_shotShare 1 (some .double) 3 64 [.ref a0] wm wm' (some (.double rv))) (hp : (ads wm').Perm (ads wm)) (hm : wm[0]? = some (a0, .inr (7, fm))) (hm' : wm'[0]? = some (a0, .inr (7, fm'))) (hdc : Op.cmpValue (FP.dcmp rv rv) .l = 0) (hkn : k + 1 ≤ room_1.cells ∧ n + 6 ≤ room_1.slots) {ls : Array Slot} (hl : lv_has ls 9 [(0, .ref b), (1, .ref d), (2, .ref a0), (3, .ref o), (4, .int (nI i))]) (kk : ∀ ls : Array Slot, lv_has ls 9 [(0, .ref b), (1, .ref d), (2, .ref a0), (3, .ref o), (4, .int (nI i))] → GV p l e room_1 s m args below meth c E A Q (rl_ E o 1 f :: ((((d, .inr (6, fs)) :: wc) ++ wb) ++ wm')) k n (F0 m 1625 ls [])) : GV p l e room_1 s m args below meth c E A Q (rl_ E o 1 f :: ((((d, .inr (6, fs)) :: wc) ++ wb) ++ wm)) k n (F0 m 1570 ls []) := by
  have hkn' : k ≤ room_1.cells ∧ n ≤ room_1.slots := ⟨by omega, by omega⟩
  refine GV.aload_n F dL_law_1570 rfl (lv_at hl 1 rfl) ?_
  refine GV.rdV (q0 := 1) (wa := [rl_ E o 1 f]) (wb := wb ++ wm) F hE hC (kL_166 F.2.2.2.2 ⟨Nat.le_of_ble_eq_true rfl, Nat.le_of_ble_eq_true rfl⟩) rfl rfl (by rw [List.append_assoc]; rfl) rfl hl.1 (Nat.le_of_ble_eq_true rfl) hkn' dL_law_1571 rfl ?_
  refine GV.dstore (lv' := [(5, .double rv), (0, .ref b), (1, .ref d), (2, .ref a0), (3, .ref o), (4, .int (nI i))]) F dL_law_1574 hl (by decide) rfl (fun ls hl => ?_)
  refine GV.aload_n F dL_law_1576 rfl (lv_at hl 3 rfl) ?_
  refine GV.wrV (q0 := (((d, .inr (6, fs)) :: wc) ++ wb).length + 1) (wa := rl_ E o 1 f :: (((d, .inr (6, fs)) :: wc) ++ wb)) (wb := []) F hE hM hp (kL_170 F.2.2.2.2 ⟨Nat.le_of_ble_eq_true rfl, Nat.le_of_ble_eq_true rfl⟩) (by rw [ob_at]; exact hm) rfl (by rw [List.append_nil]; rfl) rfl hl.1 (Nat.le_of_ble_eq_true rfl) hkn' dL_law_1577 rfl ?_
  refine GV.weq (ws' := rl_ E o 1 f :: ((((d, .inr (6, fs)) :: wc) ++ wb) ++ wm')) (by rw [List.append_nil]; rfl) ?_
  refine GV.dstore (lv' := [(7, .double rv), (5, .double rv), (0, .ref b), (1, .ref d), (2, .ref a0), (3, .ref o), (4, .int (nI i))]) F dL_law_1580 hl (by decide) rfl (fun ls hl => ?_)
  refine GV.dload F dL_law_1582 (lv_at hl 1 rfl) ?_
  refine GV.dload F dL_law_1584 (lv_at hl 0 rfl) ?_
  refine GV.dcmp F dL_law_1586 ?_
  refine GV.eq_t (tgt := 1608) F dL_law_1587 (by decide) hdc ?_
  refine GV.goto (tgt := 1625) F dL_law_1608 (by decide) ?_
  exact kk ls (lv_sub hl [2, 3, 4, 5, 6] rfl)
set_option maxHeartbeats 4000000 in
set_option maxRecDepth 100000 in
theorem lc_digest {p : Program} {l : Launch} {e : Env} {s : State} {m : MethodId} {args : Array Value} {below : List Frame} {meth : Method} {c : Code} {E : EV} {A : Nat → Prop} {Q : State → Prop} (F : CallFix p m c cL_law 9 s args LW RL) (hE : CE E A s s.heap) (hA : ∀ q, s.heap.size ≤ q → A q) {b L : Nat} {xs : Nat → Int32} (hX : va_X b L xs s s.heap) (hbl : b < s.heap.size) (hbA : ¬ A b) {i : Nat} (hi : i + 4 ≤ L) (hL : L ≤ 2048) {d o a0 : Nat} {wc wb wm wm' : va_W} {fs fm fm' : List Value} {f : Nat → Int64} {rv : Int64} {k n : Nat} (hC : Rd l E yX6_digest cX6_digest 4 (some .long) 6 147 [.ref d] ((d, .inr (6, fs)) :: wc) (some (.long rv))) (hM : Wr l E yX7_digest cX7_digest 2 (some .long) 7 169 [.ref a0] wm wm' (some (.long rv))) (hp : (ads wm').Perm (ads wm)) (hm : wm[0]? = some (a0, .inr (7, fm))) (hm' : wm'[0]? = some (a0, .inr (7, fm'))) (hkn : k + 1 ≤ room_1.cells ∧ n + 6 ≤ room_1.slots) {ls : Array Slot} (hl : lv_has ls 9 [(0, .ref b), (1, .ref d), (2, .ref a0), (3, .ref o), (4, .int (nI i))]) (kk : ∀ ls : Array Slot, lv_has ls 9 [(0, .ref b), (1, .ref d), (2, .ref a0), (3, .ref o), (4, .int (nI i))] → GV p l e room_1 s m args below meth c E A Q (rl_ E o 1 f :: ((((d, .inr (6, fs)) :: wc) ++ wb) ++ wm')) k n (F0 m 1625 ls [])) : GV p l e room_1 s m args below meth c E A Q (rl_ E o 1 f :: ((((d, .inr (6, fs)) :: wc) ++ wb) ++ wm)) k n (F0 m 1611 ls []) := by
  have hkn' : k ≤ room_1.cells ∧ n ≤ room_1.slots := ⟨by omega, by omega⟩
  refine GV.aload_n F dL_law_1611 rfl (lv_at hl 1 rfl) ?_
  refine GV.rdV (q0 := 1) (wa := [rl_ E o 1 f]) (wb := wb ++ wm) F hE hC (kL_171 F.2.2.2.2 ⟨Nat.le_of_ble_eq_true rfl, Nat.le_of_ble_eq_true rfl⟩) rfl rfl (by rw [List.append_assoc]; rfl) rfl hl.1 (Nat.le_of_ble_eq_true rfl) hkn' dL_law_1612 rfl ?_
  refine GV.aload_n F dL_law_1615 rfl (lv_at hl 2 rfl) ?_
  refine GV.wrV (q0 := (((d, .inr (6, fs)) :: wc) ++ wb).length + 1) (wa := rl_ E o 1 f :: (((d, .inr (6, fs)) :: wc) ++ wb)) (wb := []) F hE hM hp (kL_175 F.2.2.2.2 ⟨Nat.le_of_ble_eq_true rfl, Nat.le_of_ble_eq_true rfl⟩) (by rw [ob_at]; exact hm) rfl (by rw [List.append_nil]; rfl) rfl hl.1 (Nat.le_of_ble_eq_true rfl) hkn' dL_law_1616 rfl ?_
  refine GV.weq (ws' := rl_ E o 1 f :: ((((d, .inr (6, fs)) :: wc) ++ wb) ++ wm')) (by rw [List.append_nil]; rfl) ?_
  refine GV.lcmp F dL_law_1619 ?_
  refine GV.eq_t (tgt := 1625) F dL_law_1620 (by decide) (lg_self _) ?_
  exact kk ls (lv_sub hl [0, 1, 2, 3, 4] rfl)
