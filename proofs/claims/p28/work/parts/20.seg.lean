theorem mem_take_at {α : Type} {l : List α} {n : Nat} {x : α} (h : x ∈ l.take n) : ∃ i, i < n ∧ l[i]? = some x := by
  obtain ⟨i, hi⟩ := List.getElem?_of_mem h
  rw [List.getElem?_take] at hi
  by_cases q : i < n
  · rw [if_pos q] at hi; exact ⟨i, q, hi⟩
  · rw [if_neg q] at hi; cases hi
theorem mem_drop_at {α : Type} {l : List α} {n : Nat} {x : α} (h : x ∈ l.drop n) : ∃ i, n ≤ i ∧ l[i]? = some x := by
  obtain ⟨i, hi⟩ := List.getElem?_of_mem h
  rw [List.getElem?_drop] at hi
  exact ⟨n + i, Nat.le_add_right _ _, hi⟩
theorem mem_seg_at {α : Type} {l : List α} {n k : Nat} {x : α} (h : x ∈ (l.drop n).take k) : ∃ i, n ≤ i ∧ i < n + k ∧ l[i]? = some x := by
  obtain ⟨i, hi, hx⟩ := mem_take_at h
  rw [List.getElem?_drop] at hx
  exact ⟨n + i, Nat.le_add_right _ _, by omega, hx⟩
theorem P_mem {D : va_G} {ws : va_W} {H : Heap} : va_P D vwCl ws H ↔ ∀ x ∈ ws, va_at D vwCl x H := by
  refine ⟨fun h x hx => ?_, fun h k x hx => h x (List.mem_of_getElem? hx)⟩
  obtain ⟨i, hi⟩ := List.getElem?_of_mem hx
  exact h i x hi
theorem P_seg {D : va_G} {ws wc' : va_W} {n k : Nat} {H H1 : Heap} (hP : va_P D vwCl ws H) (hN : (ads ws).Nodup) (ho : ∀ q : Nat, q ∉ ads ((ws.drop n).take k) → H1[q]? = H[q]?) (hP1 : va_P D vwCl wc' H1) : va_P D vwCl (ws.take n ++ (wc' ++ ws.drop (n + k))) H1 := by
  have keep : ∀ (i : Nat) (x : Nat × va_E), ws[i]? = some x → (i < n ∨ n + k ≤ i) → va_at D vwCl x H1 := by
    intro i x hi hik
    refine (hP i x hi).kept (ho _ fun hm => ?_)
    obtain ⟨z, hz, e⟩ := List.mem_map.mp hm
    obtain ⟨j, h1, h2, hj⟩ := mem_seg_at hz
    have := ads_inj hN hi hj e.symm
    omega
  refine P_mem.mpr fun x hx => ?_
  rcases List.mem_append.mp hx with h | h
  · obtain ⟨i, hi, hx⟩ := mem_take_at h
    exact keep i x hx (Or.inl hi)
  · rcases List.mem_append.mp h with h | h
    · exact P_mem.mp hP1 x h
    · obtain ⟨i, hi, hx⟩ := mem_drop_at h
      exact keep i x hx (Or.inr hi)
theorem P_sg {D : va_G} {ws : va_W} {n k : Nat} {H : Heap} (hP : va_P D vwCl ws H) : va_P D vwCl ((ws.drop n).take k) H := by
  refine P_mem.mpr fun x hx => ?_
  obtain ⟨i, -, -, hi⟩ := mem_seg_at hx
  exact hP i x hi
theorem nodup_sg {ws : va_W} (n k : Nat) (h : (ads ws).Nodup) : (ads ((ws.drop n).take k)).Nodup := by
  have hs : List.Sublist ((ws.drop n).take k) ws := (List.take_sublist _ _).trans (List.drop_sublist _ _)
  exact (hs.map Prod.fst).nodup h
theorem sg_ads {ws : va_W} {n k : Nat} : ∀ q, q ∈ ads ((ws.drop n).take k) → q ∈ ads ws := by
  intro q hq
  obtain ⟨z, hz, rfl⟩ := List.mem_map.mp hq
  obtain ⟨i, -, -, hi⟩ := mem_seg_at hz
  exact List.mem_map.mpr ⟨z, List.mem_of_getElem? hi, rfl⟩
theorem pm_eq {a b : List Nat} (h : a = b) : a.Perm b := h ▸ List.Perm.refl _
section VS
variable {p : Program} {l : Launch} {e : Env} {R : Room} {s : State} {m : MethodId} {args : Array Value} {below : List Frame} {meth : Method} {c : Code} {E : EV} {AD : List Nat} {Q : State → Prop} {ws : va_W}
variable {cc : ByteArray} {nL : Nat} {own : String} {pc : Nat} {ls : Array Slot} {st : List Value} {g : JFrame}
theorem V.rsV (F : CallFix p m c cc nL s args LW own) (hE : CE E (fun q => q ∈ AD) s s.heap) {C : String} {b q0 ci : Nat} {T : u_T} {N0 : Nat} {fs : List Value} {index : Nat} {y : MethodName} {bytes : ByteArray} {maxL n fr lo : Nat} {ret : Option FieldType} {v : Value} {As rest st0 : List Value} {wc : va_W} (hM : Rd l E y bytes maxL ret fr lo (.ref b :: As) wc (some v)) (cw : CallW R s args own C index y bytes maxL ret (Cond.code y bytes maxL ret :: LW) (rmk fr 0 0 lo) 0 0 n) (hob : ws[q0]? = some (b, .inr (ci, fs))) (hcl : vwCl[ci]? = some (C, T, N0)) (i0 k0 : Nat) (hC : (ws.drop i0).take k0 = wc) (hn : As.length = n) (hsz : ls.size = nL) (hroom : (rest.map fun v => v.category).sum ≤ 8) (hd : decode cc pc = .ok (.invokevirtual index, 3)) (hst : st0 = As.reverse ++ .ref b :: rest) (k : V p l e R s m args below meth c E AD Q ws (F0 m (pc + 3) ls (v :: rest))) : V p l e R s m args below meth c E AD Q ws (F0 m pc ls st0) := by
  intro H locs hP hz ho hl
  subst hst
  have hr : va_Run p l e R s m args below meth c H locs 0 0 0 0 (F0 m pc ls (As.reverse ++ .ref b :: rest)) rest (RQ (some v) ((Value.ref b :: As)).toArray) (fun _ => False) := va_runV (As := As) (rest := rest) F hM cw ⟨PB.blind, va_recv hE.1 hP hcl hob, fun U hU hW => ⟨rfl, by rw [hU, ← hC]; exact P_sg hP, hE.at ho (fun _ h => h.elim) hU hW⟩⟩ rfl hn hsz rfl (lv_room hroom) hd ⟨Nat.zero_le _, Nat.zero_le _⟩
  intro T hT X
  obtain ⟨v', st₀, t, T', L, h0, X', hL, e1, e2, ⟨hv, hh⟩, stp⟩ := hr T hT X
  cases hv
  have hLn : L = [] := by
    cases L with
    | nil => rfl
    | cons a _ => exact (hL a List.mem_cons_self).elim
  subst hLn
  rw [List.append_nil] at X'
  obtain ⟨t2, a1, b1⟩ := k H locs hP hz ho hl T' (by rw [e1, hh, h0]) X'
  exact ⟨t2, stp t2 a1, b1⟩
theorem V.wsV (F : CallFix p m c cc nL s args LW own) (hE : CE E (fun q => q ∈ AD) s s.heap) (hN : AD.Nodup) (hA : (ads ws).Perm AD) {C : String} {b q0 ci : Nat} {T : u_T} {N0 : Nat} {fs : List Value} {index : Nat} {y : MethodName} {bytes : ByteArray} {maxL n fr lo : Nat} {ret : Option FieldType} {v : Value} {As rest st0 : List Value} {wc wc' ws' : va_W} (hM : Wr l E y bytes maxL ret fr lo (.ref b :: As) wc wc' (some v)) (cw : CallW R s args own C index y bytes maxL ret (Cond.code y bytes maxL ret :: LW) (rmk fr 0 0 lo) 0 0 n) (hob : ws[q0]? = some (b, .inr (ci, fs))) (hcl : vwCl[ci]? = some (C, T, N0)) (i0 k0 : Nat) (hC : (ws.drop i0).take k0 = wc) (hw : ws.take i0 ++ (wc' ++ ws.drop (i0 + k0)) = ws') (hn : As.length = n) (hsz : ls.size = nL) (hroom : (rest.map fun v => v.category).sum ≤ 8) (hd : decode cc pc = .ok (.invokevirtual index, 3)) (hst : st0 = As.reverse ++ .ref b :: rest) (k : V p l e R s m args below meth c E AD Q ws' (F0 m (pc + 3) ls (v :: rest))) : V p l e R s m args below meth c E AD Q ws (F0 m pc ls st0) := by
  intro H locs hP hz ho hl
  subst hst
  subst hw
  subst hC
  have hN' : (ads ws).Nodup := hA.nodup_iff.mpr hN
  have hcA : ∀ q, q ∈ ads ((ws.drop i0).take k0) → q ∈ AD := fun q h => hA.subset (sg_ads q h)
  have hr : va_Run p l e R s m args below meth c H locs 0 0 0 0 (F0 m pc ls (As.reverse ++ .ref b :: rest)) rest (WQ E ((ws.drop i0).take k0) wc' (some v) ((Value.ref b :: As)).toArray) (fun q => q ∈ ads ((ws.drop i0).take k0)) := va_runV (As := As) (rest := rest) F hM cw ⟨PW.blind, va_recv hE.1 hP hcl hob, fun U hU hW => ⟨rfl, by rw [hU]; exact P_sg hP, nodup_sg _ _ hN', hE.at ho hcA hU hW⟩⟩ rfl hn hsz rfl (lv_room hroom) hd ⟨Nat.zero_le _, Nat.zero_le _⟩
  intro T hT X
  obtain ⟨v', st₀, t, T', L, h0, X', hL, e1, e2, ⟨hv, hp', hz', ho'⟩, stp⟩ := hr T hT X
  cases hv
  rw [h0] at hz' ho'
  obtain ⟨t2, a1, b1⟩ := k T'.heap (locs ++ L) (P_seg hP hN' (fun q hq => by rw [e1]; exact ho' q hq) (by rw [e1]; exact hp')) (by rw [e1, hz', hz]) (fun q hq => by rw [e1, ho' q (fun h => hq (hcA q h))]; exact ho q hq) (fun z hz => (List.mem_append.mp hz).elim (hl z) (fun h => hcA _ (hL z h))) T' rfl X'
  exact ⟨t2, stp t2 a1, b1⟩
theorem V.rsVn (F : CallFix p m c cc nL s args LW own) (hE : CE E (fun q => q ∈ AD) s s.heap) {C : String} {b q0 ci : Nat} {T : u_T} {N0 : Nat} {fs : List Value} {index : Nat} {y : MethodName} {bytes : ByteArray} {maxL n fr lo : Nat} {ret : Option FieldType} {As rest st0 : List Value} {wc : va_W} (hM : Rd l E y bytes maxL ret fr lo (.ref b :: As) wc none) (cw : CallW R s args own C index y bytes maxL ret (Cond.code y bytes maxL ret :: LW) (rmk fr 0 0 lo) 0 0 n) (hob : ws[q0]? = some (b, .inr (ci, fs))) (hcl : vwCl[ci]? = some (C, T, N0)) (i0 k0 : Nat) (hC : (ws.drop i0).take k0 = wc) (hn : As.length = n) (hsz : ls.size = nL) (hroom : (rest.map fun v => v.category).sum ≤ 8) (hd : decode cc pc = .ok (.invokevirtual index, 3)) (hst : st0 = As.reverse ++ .ref b :: rest) (k : V p l e R s m args below meth c E AD Q ws (F0 m (pc + 3) ls rest)) : V p l e R s m args below meth c E AD Q ws (F0 m pc ls st0) := by
  intro H locs hP hz ho hl
  subst hst
  have hr : va_Run p l e R s m args below meth c H locs 0 0 0 0 (F0 m pc ls (As.reverse ++ .ref b :: rest)) rest (RQ none ((Value.ref b :: As)).toArray) (fun _ => False) := va_runV (As := As) (rest := rest) F hM cw ⟨PB.blind, va_recv hE.1 hP hcl hob, fun U hU hW => ⟨rfl, by rw [hU, ← hC]; exact P_sg hP, hE.at ho (fun _ h => h.elim) hU hW⟩⟩ rfl hn hsz rfl (lv_room hroom) hd ⟨Nat.zero_le _, Nat.zero_le _⟩
  intro T hT X
  obtain ⟨v', st₀, t, T', L, h0, X', hL, e1, e2, ⟨hv, hh⟩, stp⟩ := hr T hT X
  cases hv
  have hLn : L = [] := by
    cases L with
    | nil => rfl
    | cons a _ => exact (hL a List.mem_cons_self).elim
  subst hLn
  rw [List.append_nil] at X'
  obtain ⟨t2, a1, b1⟩ := k H locs hP hz ho hl T' (by rw [e1, hh, h0]) X'
  exact ⟨t2, stp t2 a1, b1⟩
theorem V.wsVn (F : CallFix p m c cc nL s args LW own) (hE : CE E (fun q => q ∈ AD) s s.heap) (hN : AD.Nodup) (hA : (ads ws).Perm AD) {C : String} {b q0 ci : Nat} {T : u_T} {N0 : Nat} {fs : List Value} {index : Nat} {y : MethodName} {bytes : ByteArray} {maxL n fr lo : Nat} {ret : Option FieldType} {As rest st0 : List Value} {wc wc' ws' : va_W} (hM : Wr l E y bytes maxL ret fr lo (.ref b :: As) wc wc' none) (cw : CallW R s args own C index y bytes maxL ret (Cond.code y bytes maxL ret :: LW) (rmk fr 0 0 lo) 0 0 n) (hob : ws[q0]? = some (b, .inr (ci, fs))) (hcl : vwCl[ci]? = some (C, T, N0)) (i0 k0 : Nat) (hC : (ws.drop i0).take k0 = wc) (hw : ws.take i0 ++ (wc' ++ ws.drop (i0 + k0)) = ws') (hn : As.length = n) (hsz : ls.size = nL) (hroom : (rest.map fun v => v.category).sum ≤ 8) (hd : decode cc pc = .ok (.invokevirtual index, 3)) (hst : st0 = As.reverse ++ .ref b :: rest) (k : V p l e R s m args below meth c E AD Q ws' (F0 m (pc + 3) ls rest)) : V p l e R s m args below meth c E AD Q ws (F0 m pc ls st0) := by
  intro H locs hP hz ho hl
  subst hst
  subst hw
  subst hC
  have hN' : (ads ws).Nodup := hA.nodup_iff.mpr hN
  have hcA : ∀ q, q ∈ ads ((ws.drop i0).take k0) → q ∈ AD := fun q h => hA.subset (sg_ads q h)
  have hr : va_Run p l e R s m args below meth c H locs 0 0 0 0 (F0 m pc ls (As.reverse ++ .ref b :: rest)) rest (WQ E ((ws.drop i0).take k0) wc' none ((Value.ref b :: As)).toArray) (fun q => q ∈ ads ((ws.drop i0).take k0)) := va_runV (As := As) (rest := rest) F hM cw ⟨PW.blind, va_recv hE.1 hP hcl hob, fun U hU hW => ⟨rfl, by rw [hU]; exact P_sg hP, nodup_sg _ _ hN', hE.at ho hcA hU hW⟩⟩ rfl hn hsz rfl (lv_room hroom) hd ⟨Nat.zero_le _, Nat.zero_le _⟩
  intro T hT X
  obtain ⟨v', st₀, t, T', L, h0, X', hL, e1, e2, ⟨hv, hp', hz', ho'⟩, stp⟩ := hr T hT X
  cases hv
  rw [h0] at hz' ho'
  obtain ⟨t2, a1, b1⟩ := k T'.heap (locs ++ L) (P_seg hP hN' (fun q hq => by rw [e1]; exact ho' q hq) (by rw [e1]; exact hp')) (by rw [e1, hz', hz]) (fun q hq => by rw [e1, ho' q (fun h => hq (hcA q h))]; exact ho q hq) (fun z hz => (List.mem_append.mp hz).elim (hl z) (fun h => hcA _ (hL z h))) T' rfl X'
  exact ⟨t2, stp t2 a1, b1⟩
end VS
