/-! THE LAYER OF THIS CLAIM: one list of words, one environment, contracts of readers (Rd) and writers (Wr), and the judgement V: W over any heap that holds a world -/
def LW : List Cond := lw_tbl.filter goodWord
theorem LW_mk {w : Cond} (i : Nat) (h : lw_tbl[i]? = some w) (hg : goodWord w = true) : w ∈ LW := List.mem_filter.mpr ⟨List.mem_of_getElem? h, hg⟩
theorem LW_good {w : Cond} (h : w ∈ LW) : goodWord w = true := (List.mem_filter.mp h).2
theorem LW_GI : GoodIn LW LW := fun _ h => ⟨h, good_of_word (LW_good h)⟩
theorem LW_GIc {w : Cond} (h : w ∈ LW) : GoodIn LW (w :: LW) := fun x hx => (List.mem_cons.mp hx).elim (fun e => by rw [e]; exact LW_GI w h) (LW_GI x)
theorem LW_GIl {l : List Cond} {w : Cond} (hl : ∀ x ∈ l, x ∈ LW) (h : w ∈ LW) : GoodIn LW (l ++ w :: LW) := fun x hx => (List.mem_append.mp hx).elim (fun e => LW_GI x (hl x e)) (LW_GIc h x)
def nwOk : Cond → Bool
  | .fieldLinkNest .. => true
  | .methodLinkNest .. => true
  | .castable .. => true
  | .declares .. => true
  | _ => false
def NWL : List Cond := lw_tbl.filter (fun w => !goodWord w && nwOk w)
theorem NWL_mk {w : Cond} (i : Nat) (h : lw_tbl[i]? = some w) (hg : (!goodWord w && nwOk w) = true) : w ∈ NWL := List.mem_filter.mpr ⟨List.mem_of_getElem? h, hg⟩
theorem NWL_ok {w : Cond} (h : w ∈ NWL) : nwOk w = true := (Bool.and_eq_true _ _ ▸ (List.mem_filter.mp h).2 : _ ∧ _).2
theorem nw_warm {w : Cond} (h : nwOk w = true) {s U : State} (hW : s.WarmedH U.vm) (hZ : va_Nw w s) : va_Nw w U := by
  cases w <;> first | (exact va_Nw.warmF hW hZ) | (exact va_Nw.warmM hW hZ) | (exact va_Nw.warmC hW hZ) | (exact va_Nw.warmD hW hZ) | (simp [nwOk] at h)
abbrev EV : Type := va_G × (ClassId × ClassId × ClassId) × (Nat → Nat) × (Nat → Nat)
abbrev eK (E : EV) : ClassId := E.2.1.1
abbrev eKs (E : EV) : ClassId := E.2.1.2.1
abbrev eKl (E : EV) : ClassId := E.2.1.2.2
abbrev eTab (E : EV) : Nat → Nat := E.2.2.1
abbrev eStr (E : EV) : Nat → Nat := E.2.2.2
abbrev eT (E : EV) : List (ClassId × FieldType) := [(eK E, .int), (eKs E, .object RX5)]
def tCnt : Nat → Int32 := fun j => match j with
  | 0 => 20 | 1 => 15 | 2 => 10 | 3 => 12 | 4 => 30 | 5 => 25 | _ => 0
def tBar : Nat → Int32 := fun j => match j with
  | 0 => 3 | 1 => 28 | 2 => 63 | 3 => 48 | 4 => 32 | 5 => 35 | _ => 0
def tHur : Nat → Int32 := fun j => match j with
  | 0 => 1 | 1 => 4 | 2 => 16 | 3 => 16 | 4 => 4 | 5 => 1 | _ => 0
def Tb (n : String) (t : Nat) (f : Nat → Int32) (A : Nat → Prop) (U : State) (H : Heap) : Prop := va_Z "StuntDesk" n "[I" (.ref t) A U H ∧ va_T .int t 6 (fun j => .int (f j)) A U H
def SZ (E : EV) (A : Nat → Prop) (U : State) (H : Heap) : Prop := Tb "COUNTING_DAYS" (eTab E 0) tCnt A U H ∧ Tb "BARRING_PARTS" (eTab E 1) tBar A U H ∧ Tb "PARTS_HURT_WHEN_TIRED" (eTab E 2) tHur A U H
def NW (U : State) : Prop := ∀ w ∈ NWL, va_Nw w U
def XS (E : EV) (U : State) : Prop := vk_R RX6 273 "no such person" (eStr E 0) U ∧ vk_R RX6 278 "no such kind" (eStr E 1) U ∧ vk_R RX6 280 "no such scene" (eStr E 2) U ∧ vk_R RX6 284 "an argument is not one of those that are allowed" (eStr E 3) U ∧ vk_R RX6 289 "this is not possible now" (eStr E 4) U
abbrev xI : String := "java/lang/IndexOutOfBoundsException"
abbrev xA : String := "java/lang/IllegalArgumentException"
abbrev xS : String := "java/lang/IllegalStateException"
def XN (U : State) : Prop := va_Nc xI xA U ∧ va_Nc xI xS U ∧ va_Nc xA xI U ∧ va_Nc xA xS U ∧ va_Nc xS xI U ∧ va_Nc xS xA U
def XZ (A : Nat → Prop) (U : State) (H : Heap) : Prop := vx_Zq Bundle.tN "UNASSIGNED_STACK" Bundle.steD A U H ∧ vx_Zq Bundle.tN "SUPPRESSED_SENTINEL" Bundle.listD A U H
def CE (E : EV) (A : Nat → Prop) (U : State) (H : Heap) : Prop := va_K E.1 vwCl (eT E) U ∧ NW U ∧ SZ E A U H ∧ XS E U ∧ XN U ∧ XZ A U H
theorem Tb.tr {n : String} {t : Nat} {f : Nat → Int32} {A B : Nat → Prop} {u U : State} {H H1 : Heap} (h : Tb n t f A u H) (hvm : u.vm.Alike U.vm) (hq : ∀ a : Nat, a < H.size → ¬ A a → H1[a]? = H[a]?) (hAB : ∀ q, B q → A q) : Tb n t f B U H1 :=
  ⟨((h.1.kept hq).narrow hAB).moved hvm, ((h.2.kept hq).narrow hAB).moved hvm⟩
theorem CE.tr {E : EV} {A B : Nat → Prop} {u U : State} {H H1 : Heap} (h : CE E A u H) (hW : u.WarmedH U.vm) (hq : ∀ a : Nat, a < H.size → ¬ A a → H1[a]? = H[a]?) (hAB : ∀ q, B q → A q) : CE E B U H1 := by
  have hvm : u.vm.Alike U.vm := hW.alike
  obtain ⟨h1, h2, ⟨a1, a2, a3⟩, ⟨s1, s2, s3, s4, s5⟩, ⟨n1, n2, n3, n4, n5, n6⟩, z1, z2⟩ := h
  exact ⟨h1.moved hvm, fun w hw => nw_warm (NWL_ok hw) hW (h2 w hw), ⟨a1.tr hvm hq hAB, a2.tr hvm hq hAB, a3.tr hvm hq hAB⟩, ⟨s1.warm hW, s2.warm hW, s3.warm hW, s4.warm hW, s5.warm hW⟩,
    ⟨n1.moved hvm, n2.moved hvm, n3.moved hvm, n4.moved hvm, n5.moved hvm, n6.moved hvm⟩, ((z1.kept hq).narrow hAB).moved hvm, ((z2.kept hq).narrow hAB).moved hvm⟩
theorem CE.same {E : EV} {A : Nat → Prop} {u U : State} {H : Heap} (h : CE E A u H) (hvm : U.vm = u.vm) : CE E A U H := by
  obtain ⟨h1, h2, ⟨a1, a2, a3⟩, ⟨s1, s2, s3, s4, s5⟩, ⟨n1, n2, n3, n4, n5, n6⟩, z1, z2⟩ := h
  have ha : u.vm.Alike U.vm := by rw [hvm]; exact Vm.Alike.refl _
  exact ⟨h1.moved ha, fun w hw => va_Nw.same (by have := NWL_ok hw; cases w <;> first | rfl | (simp [nwOk] at this)) hvm.symm (h2 w hw), ⟨a1.tr ha (fun _ _ _ => rfl) (fun _ x => x), a2.tr ha (fun _ _ _ => rfl) (fun _ x => x), a3.tr ha (fun _ _ _ => rfl) (fun _ x => x)⟩, ⟨vk_R.same hvm s1, vk_R.same hvm s2, vk_R.same hvm s3, vk_R.same hvm s4, vk_R.same hvm s5⟩,
    ⟨n1.moved ha, n2.moved ha, n3.moved ha, n4.moved ha, n5.moved ha, n6.moved ha⟩, z1.moved ha, z2.moved ha⟩
/-! contracts -/
def PB (E : EV) (ws : va_W) : State → Prop := fun U => va_P E.1 vwCl ws U.heap ∧ CE E (fun _ => False) U U.heap
def RQ (v : Option Value) : Array Value → State → Outcome → State → Prop := fun _ st o t => o = .returned v ∧ t.heap = st.heap
abbrev ads (ws : va_W) : List Nat := ws.map Prod.fst
def PW (E : EV) (ws : va_W) : State → Prop := fun U => va_P E.1 vwCl ws U.heap ∧ (ads ws).Nodup ∧ CE E (fun q => q ∈ ads ws) U U.heap
def WQ (E : EV) (ws ws' : va_W) (v : Option Value) : Array Value → State → Outcome → State → Prop := fun _ st o t => o = .returned v ∧ va_P E.1 vwCl ws' t.heap ∧ t.heap.size = st.heap.size ∧ ∀ q : Nat, q ∉ ads ws → t.heap[q]? = st.heap[q]?
abbrev rmk (fr mc ms lo : Nat) : Room := { frames := fr, cells := mc, slots := ms, locals := lo }
def Rd (l : Launch) (E : EV) (y : MethodName) (cc : ByteArray) (maxL : Nat) (ret : Option FieldType) (fr lo : Nat) (av : List Value) (ws : va_W) (v : Option Value) : Prop :=
  Met l y (Cond.code y cc maxL ret :: LW) (rmk fr 0 0 lo) (va_Pc av (PB E ws)) (RQ v) 0 0 (fun _ => False)
def Wr (l : Launch) (E : EV) (y : MethodName) (cc : ByteArray) (maxL : Nat) (ret : Option FieldType) (fr lo : Nat) (av : List Value) (ws ws' : va_W) (v : Option Value) : Prop :=
  Met l y (Cond.code y cc maxL ret :: LW) (rmk fr 0 0 lo) (va_Pc av (PW E ws)) (WQ E ws ws' v) 0 0 (fun q => q ∈ ads ws)
theorem PB.blind {E : EV} {ws : va_W} {av : List Value} : FrameBlind (va_Pc av (PB E ws)) := fun a U g mk q => ⟨q.1, q.2.1, q.2.2.same rfl⟩
theorem PW.blind {E : EV} {ws : va_W} {av : List Value} : FrameBlind (va_Pc av (PW E ws)) := fun a U g mk q => ⟨q.1, q.2.1, q.2.2.1, q.2.2.2.same rfl⟩
/-! worlds as lists: parts and changes -/
def mrg : List Nat → va_W → va_W → va_W
  | [], ws, _ => ws
  | _ :: _, ws, [] => ws
  | i :: is, ws, c :: cs => mrg is (ws.set i c) cs
theorem mrg_get : ∀ (is : List Nat) (ws cs : va_W) (k : Nat) (x : Nat × va_E), (mrg is ws cs)[k]? = some x → x ∈ cs ∨ (ws[k]? = some x ∧ (k ∉ is ∨ cs.length < is.length))
  | [], ws, cs, k, x, h => Or.inr ⟨h, Or.inl List.not_mem_nil⟩
  | i :: is, ws, [], k, x, h => Or.inr ⟨h, Or.inr (by simp)⟩
  | i :: is, ws, c :: cs, k, x, h => by
    rcases mrg_get is (ws.set i c) cs k x h with h1 | ⟨h1, h2⟩
    · exact Or.inl (List.mem_cons_of_mem _ h1)
    · by_cases e : k = i
      · subst e
        rcases Nat.lt_or_ge k ws.length with hk | hk
        · rw [List.getElem?_set_self hk] at h1
          cases h1
          exact Or.inl List.mem_cons_self
        · rw [List.getElem?_eq_none (by simpa using hk)] at h1
          cases h1
      · rw [List.getElem?_set_ne (fun q => e q.symm)] at h1
        refine Or.inr ⟨h1, ?_⟩
        rcases h2 with h2 | h2
        · exact Or.inl (fun q => by rcases List.mem_cons.mp q with q | q; exact e q; exact h2 q)
        · exact Or.inr (by simpa using h2)
theorem ads_inj {ws : va_W} (h : (ads ws).Nodup) {i j : Nat} {x y : Nat × va_E} (hi : ws[i]? = some x) (hj : ws[j]? = some y) (e : x.1 = y.1) : i = j := by
  have hi' : (ads ws)[i]? = some x.1 := by simp [ads, hi]
  have hj' : (ads ws)[j]? = some x.1 := by simp [ads, hj, e]
  obtain ⟨li, ei⟩ := List.getElem?_eq_some_iff.mp hi'
  obtain ⟨lj, ej⟩ := List.getElem?_eq_some_iff.mp hj'
  exact (List.getElem_inj h).mp (ei.trans ej.symm)
theorem va_Dof {ws : va_W} (h : (ads ws).Nodup) : va_D (fun _ => True) ws := ⟨fun _ _ _ _ hi hj e => ads_inj h hi hj e, fun _ _ _ => trivial⟩
theorem nodup_of {ws wc : va_W} (hN : (ads ws).Nodup) (is : List Nat) (hC : is.map (fun i => ws[i]?) = wc.map some) (hn : va_nd is = true) : (ads wc).Nodup := by
  have hD := (va_Dof hN).sub is hn hC
  refine List.pairwise_iff_getElem.mpr fun i j hi hj hlt e => ?_
  have hi' : i < wc.length := by simpa [ads] using hi
  have hj' : j < wc.length := by simpa [ads] using hj
  have := hD.1 i j wc[i] wc[j] (List.getElem?_eq_getElem hi') (List.getElem?_eq_getElem hj') (by simpa [ads] using e)
  omega
theorem at_place {ws wc : va_W} {is : List Nat} (hC : is.map (fun i => ws[i]?) = wc.map some) {k : Nat} {x : Nat × va_E} (h : wc[k]? = some x) : ∃ i, is[k]? = some i ∧ ws[i]? = some x := by
  have h1 : (is.map (fun i => ws[i]?))[k]? = some (some x) := by rw [hC, List.getElem?_map, h]; rfl
  rw [List.getElem?_map] at h1
  cases hi : is[k]? with
  | none => rw [hi] at h1; cases h1
  | some i => rw [hi] at h1; exact ⟨i, rfl, Option.some.inj h1⟩
theorem len_place {ws wc : va_W} {is : List Nat} (hC : is.map (fun i => ws[i]?) = wc.map some) : is.length = wc.length := by simpa using congrArg List.length hC
theorem P_sub {D : va_G} {ws wc : va_W} {H : Heap} (hP : va_P D vwCl ws H) (is : List Nat) (hC : is.map (fun i => ws[i]?) = wc.map some) : va_P D vwCl wc H := fun k x h => by
  obtain ⟨i, -, hi⟩ := at_place hC h
  exact hP i x hi
theorem P_mrg {D : va_G} {ws wc wc' : va_W} {H H1 : Heap} (hP : va_P D vwCl ws H) (hN : (ads ws).Nodup) (is : List Nat) (hC : is.map (fun i => ws[i]?) = wc.map some) (hl : wc'.length = wc.length)
    (ho : ∀ q : Nat, q ∉ ads wc → H1[q]? = H[q]?) (hP1 : va_P D vwCl wc' H1) : va_P D vwCl (mrg is ws wc') H1 := by
  intro k x h
  rcases mrg_get is ws wc' k x h with h1 | ⟨h1, h2⟩
  · obtain ⟨j, hj⟩ := List.getElem?_of_mem h1
    exact hP1 j x hj
  · have h2 : k ∉ is := by
      rcases h2 with h2 | h2
      · exact h2
      · have := len_place hC; omega
    refine (hP k x h1).kept (ho _ fun hm => h2 ?_)
    obtain ⟨z, hz, e⟩ := List.mem_map.mp hm
    obtain ⟨j, hj⟩ := List.getElem?_of_mem hz
    obtain ⟨i, hi, hw⟩ := at_place hC hj
    have := ads_inj hN h1 hw e.symm
    rw [this]
    exact List.mem_of_getElem? hi
theorem sub_ads {ws wc : va_W} {is : List Nat} (hC : is.map (fun i => ws[i]?) = wc.map some) : ∀ q, q ∈ ads wc → q ∈ ads ws := by
  intro q hq
  obtain ⟨z, hz, rfl⟩ := List.mem_map.mp hq
  obtain ⟨j, hj⟩ := List.getElem?_of_mem hz
  obtain ⟨i, -, hw⟩ := at_place hC hj
  exact List.mem_map.mpr ⟨z, List.mem_of_getElem? hw, rfl⟩
theorem P_set {D : va_G} {ws : va_W} {H H1 : Heap} {q0 a : Nat} {e0 e1 : va_E} (hP : va_P D vwCl ws H) (hN : (ads ws).Nodup) (he : ws[q0]? = some (a, e0)) (h1 : va_at D vwCl (a, e1) H1) (ho : ∀ q : Nat, q ≠ a → H1[q]? = H[q]?) : va_P D vwCl (ws.set q0 (a, e1)) H1 := hP.set (va_Dof hN) he h1 ho
