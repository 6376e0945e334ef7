/-! what holds at the entry of the law -/
theorem tb_at0 {p : Program} {s : State} {m : MethodId} {meth : Method} {c : Code} {b L : Nat} {xs : Nat → Int32} (C0 : lw_At p s m meth c b L xs) : ∃ t, Tb "COUNTING_DAYS" t tCnt (fun q => s.heap.size ≤ q) s s.heap := by
  obtain ⟨hx, hb, hr, hml, hown, hts, hX, hbl, hlocks, hgv⟩ := C0
  have hq := flat_of_before _ hgv
  have hA : ∀ a : Nat, a < s.heap.size → ¬ (fun q : Nat => s.heap.size ≤ q) a := fun a h => Nat.not_le.mpr h
  obtain ⟨t, ht, hT⟩ := va_Tof (args := #[Value.ref b]) (s := s) (tm := .static "StuntDesk" "COUNTING_DAYS" "[I") (ty := .int) (N := 6) (f := fun j => .int (tCnt j)) (A := fun q => s.heap.size ≤ q) (by decide) (hq (Cond.arrayOf (.static "StuntDesk" "COUNTING_DAYS" "[I") .int) (by decide +kernel)) (va_eqt (hq (Cond.eq (.length (.static "StuntDesk" "COUNTING_DAYS" "[I")) (.int 6)) (by decide +kernel))) (fun j hj => by
    match j, hj with
    | 0, _ => exact va_eqt (hq (Cond.eq (.elem (.static "StuntDesk" "COUNTING_DAYS" "[I") (.int 0)) (.int 20)) (by decide +kernel))
    | 1, _ => exact va_eqt (hq (Cond.eq (.elem (.static "StuntDesk" "COUNTING_DAYS" "[I") (.int 1)) (.int 15)) (by decide +kernel))
    | 2, _ => exact va_eqt (hq (Cond.eq (.elem (.static "StuntDesk" "COUNTING_DAYS" "[I") (.int 2)) (.int 10)) (by decide +kernel))
    | 3, _ => exact va_eqt (hq (Cond.eq (.elem (.static "StuntDesk" "COUNTING_DAYS" "[I") (.int 3)) (.int 12)) (by decide +kernel))
    | 4, _ => exact va_eqt (hq (Cond.eq (.elem (.static "StuntDesk" "COUNTING_DAYS" "[I") (.int 4)) (.int 30)) (by decide +kernel))
    | 5, _ => exact va_eqt (hq (Cond.eq (.elem (.static "StuntDesk" "COUNTING_DAYS" "[I") (.int 5)) (.int 25)) (by decide +kernel))
    | j + 6, h => exact absurd h (by omega)) hA
  exact ⟨t, va_Zof (hts (.laysStatic "StuntDesk" "COUNTING_DAYS" "[I") (List.mem_of_getElem? (i := 421) (by decide +kernel))) (hts (.initialized "StuntDesk") (List.mem_of_getElem? (i := 4) (by decide +kernel))) ht hA, hT⟩
theorem tb_at1 {p : Program} {s : State} {m : MethodId} {meth : Method} {c : Code} {b L : Nat} {xs : Nat → Int32} (C0 : lw_At p s m meth c b L xs) : ∃ t, Tb "BARRING_PARTS" t tBar (fun q => s.heap.size ≤ q) s s.heap := by
  obtain ⟨hx, hb, hr, hml, hown, hts, hX, hbl, hlocks, hgv⟩ := C0
  have hq := flat_of_before _ hgv
  have hA : ∀ a : Nat, a < s.heap.size → ¬ (fun q : Nat => s.heap.size ≤ q) a := fun a h => Nat.not_le.mpr h
  obtain ⟨t, ht, hT⟩ := va_Tof (args := #[Value.ref b]) (s := s) (tm := .static "StuntDesk" "BARRING_PARTS" "[I") (ty := .int) (N := 6) (f := fun j => .int (tBar j)) (A := fun q => s.heap.size ≤ q) (by decide) (hq (Cond.arrayOf (.static "StuntDesk" "BARRING_PARTS" "[I") .int) (by decide +kernel)) (va_eqt (hq (Cond.eq (.length (.static "StuntDesk" "BARRING_PARTS" "[I")) (.int 6)) (by decide +kernel))) (fun j hj => by
    match j, hj with
    | 0, _ => exact va_eqt (hq (Cond.eq (.elem (.static "StuntDesk" "BARRING_PARTS" "[I") (.int 0)) (.int 3)) (by decide +kernel))
    | 1, _ => exact va_eqt (hq (Cond.eq (.elem (.static "StuntDesk" "BARRING_PARTS" "[I") (.int 1)) (.int 28)) (by decide +kernel))
    | 2, _ => exact va_eqt (hq (Cond.eq (.elem (.static "StuntDesk" "BARRING_PARTS" "[I") (.int 2)) (.int 63)) (by decide +kernel))
    | 3, _ => exact va_eqt (hq (Cond.eq (.elem (.static "StuntDesk" "BARRING_PARTS" "[I") (.int 3)) (.int 48)) (by decide +kernel))
    | 4, _ => exact va_eqt (hq (Cond.eq (.elem (.static "StuntDesk" "BARRING_PARTS" "[I") (.int 4)) (.int 32)) (by decide +kernel))
    | 5, _ => exact va_eqt (hq (Cond.eq (.elem (.static "StuntDesk" "BARRING_PARTS" "[I") (.int 5)) (.int 35)) (by decide +kernel))
    | j + 6, h => exact absurd h (by omega)) hA
  exact ⟨t, va_Zof (hts (.laysStatic "StuntDesk" "BARRING_PARTS" "[I") (List.mem_of_getElem? (i := 409) (by decide +kernel))) (hts (.initialized "StuntDesk") (List.mem_of_getElem? (i := 4) (by decide +kernel))) ht hA, hT⟩
theorem tb_at2 {p : Program} {s : State} {m : MethodId} {meth : Method} {c : Code} {b L : Nat} {xs : Nat → Int32} (C0 : lw_At p s m meth c b L xs) : ∃ t, Tb "PARTS_HURT_WHEN_TIRED" t tHur (fun q => s.heap.size ≤ q) s s.heap := by
  obtain ⟨hx, hb, hr, hml, hown, hts, hX, hbl, hlocks, hgv⟩ := C0
  have hq := flat_of_before _ hgv
  have hA : ∀ a : Nat, a < s.heap.size → ¬ (fun q : Nat => s.heap.size ≤ q) a := fun a h => Nat.not_le.mpr h
  obtain ⟨t, ht, hT⟩ := va_Tof (args := #[Value.ref b]) (s := s) (tm := .static "StuntDesk" "PARTS_HURT_WHEN_TIRED" "[I") (ty := .int) (N := 6) (f := fun j => .int (tHur j)) (A := fun q => s.heap.size ≤ q) (by decide) (hq (Cond.arrayOf (.static "StuntDesk" "PARTS_HURT_WHEN_TIRED" "[I") .int) (by decide +kernel)) (va_eqt (hq (Cond.eq (.length (.static "StuntDesk" "PARTS_HURT_WHEN_TIRED" "[I")) (.int 6)) (by decide +kernel))) (fun j hj => by
    match j, hj with
    | 0, _ => exact va_eqt (hq (Cond.eq (.elem (.static "StuntDesk" "PARTS_HURT_WHEN_TIRED" "[I") (.int 0)) (.int 1)) (by decide +kernel))
    | 1, _ => exact va_eqt (hq (Cond.eq (.elem (.static "StuntDesk" "PARTS_HURT_WHEN_TIRED" "[I") (.int 1)) (.int 4)) (by decide +kernel))
    | 2, _ => exact va_eqt (hq (Cond.eq (.elem (.static "StuntDesk" "PARTS_HURT_WHEN_TIRED" "[I") (.int 2)) (.int 16)) (by decide +kernel))
    | 3, _ => exact va_eqt (hq (Cond.eq (.elem (.static "StuntDesk" "PARTS_HURT_WHEN_TIRED" "[I") (.int 3)) (.int 16)) (by decide +kernel))
    | 4, _ => exact va_eqt (hq (Cond.eq (.elem (.static "StuntDesk" "PARTS_HURT_WHEN_TIRED" "[I") (.int 4)) (.int 4)) (by decide +kernel))
    | 5, _ => exact va_eqt (hq (Cond.eq (.elem (.static "StuntDesk" "PARTS_HURT_WHEN_TIRED" "[I") (.int 5)) (.int 1)) (by decide +kernel))
    | j + 6, h => exact absurd h (by omega)) hA
  exact ⟨t, va_Zof (hts (.laysStatic "StuntDesk" "PARTS_HURT_WHEN_TIRED" "[I") (List.mem_of_getElem? (i := 553) (by decide +kernel))) (hts (.initialized "StuntDesk") (List.mem_of_getElem? (i := 4) (by decide +kernel))) ht hA, hT⟩
theorem str_at0 {p : Program} {s : State} {m : MethodId} {meth : Method} {c : Code} {b L : Nat} {xs : Nat → Int32} (C0 : lw_At p s m meth c b L xs) : ∃ q, vk_R RX6 273 "no such person" q s := by
  obtain ⟨hx, hb, hr, hml, hown, hts, hX, hbl, hlocks, hgv⟩ := C0
  have hq := flat_of_before _ hgv
  obtain ⟨q, c1, c2, c3, h1, h2⟩ := Cond.exactly_spec (hq (Cond.exactly (.string "StuntDesk" 273) "java/lang/String") (by decide +kernel))
  exact ⟨q, vk_R.of (A := #[Value.ref b]) (hts (.stringRef "StuntDesk" 273 "no such person") (List.mem_of_getElem? (i := 445) (by decide +kernel))) h1⟩
theorem str_at1 {p : Program} {s : State} {m : MethodId} {meth : Method} {c : Code} {b L : Nat} {xs : Nat → Int32} (C0 : lw_At p s m meth c b L xs) : ∃ q, vk_R RX6 278 "no such kind" q s := by
  obtain ⟨hx, hb, hr, hml, hown, hts, hX, hbl, hlocks, hgv⟩ := C0
  have hq := flat_of_before _ hgv
  obtain ⟨q, c1, c2, c3, h1, h2⟩ := Cond.exactly_spec (hq (Cond.exactly (.string "StuntDesk" 278) "java/lang/String") (by decide +kernel))
  exact ⟨q, vk_R.of (A := #[Value.ref b]) (hts (.stringRef "StuntDesk" 278 "no such kind") (List.mem_of_getElem? (i := 543) (by decide +kernel))) h1⟩
theorem str_at2 {p : Program} {s : State} {m : MethodId} {meth : Method} {c : Code} {b L : Nat} {xs : Nat → Int32} (C0 : lw_At p s m meth c b L xs) : ∃ q, vk_R RX6 280 "no such scene" q s := by
  obtain ⟨hx, hb, hr, hml, hown, hts, hX, hbl, hlocks, hgv⟩ := C0
  have hq := flat_of_before _ hgv
  obtain ⟨q, c1, c2, c3, h1, h2⟩ := Cond.exactly_spec (hq (Cond.exactly (.string "StuntDesk" 280) "java/lang/String") (by decide +kernel))
  exact ⟨q, vk_R.of (A := #[Value.ref b]) (hts (.stringRef "StuntDesk" 280 "no such scene") (List.mem_of_getElem? (i := 483) (by decide +kernel))) h1⟩
theorem str_at3 {p : Program} {s : State} {m : MethodId} {meth : Method} {c : Code} {b L : Nat} {xs : Nat → Int32} (C0 : lw_At p s m meth c b L xs) : ∃ q, vk_R RX6 284 "an argument is not one of those that are allowed" q s := by
  obtain ⟨hx, hb, hr, hml, hown, hts, hX, hbl, hlocks, hgv⟩ := C0
  have hq := flat_of_before _ hgv
  obtain ⟨q, c1, c2, c3, h1, h2⟩ := Cond.exactly_spec (hq (Cond.exactly (.string "StuntDesk" 284) "java/lang/String") (by decide +kernel))
  exact ⟨q, vk_R.of (A := #[Value.ref b]) (hts (.stringRef "StuntDesk" 284 "an argument is not one of those that are allowed") (List.mem_of_getElem? (i := 326) (by decide +kernel))) h1⟩
theorem str_at4 {p : Program} {s : State} {m : MethodId} {meth : Method} {c : Code} {b L : Nat} {xs : Nat → Int32} (C0 : lw_At p s m meth c b L xs) : ∃ q, vk_R RX6 289 "this is not possible now" q s := by
  obtain ⟨hx, hb, hr, hml, hown, hts, hX, hbl, hlocks, hgv⟩ := C0
  have hq := flat_of_before _ hgv
  obtain ⟨q, c1, c2, c3, h1, h2⟩ := Cond.exactly_spec (hq (Cond.exactly (.string "StuntDesk" 289) "java/lang/String") (by decide +kernel))
  exact ⟨q, vk_R.of (A := #[Value.ref b]) (hts (.stringRef "StuntDesk" 289 "this is not possible now") (List.mem_of_getElem? (i := 241) (by decide +kernel))) h1⟩
theorem arr_at {s : State} {args : Array Value} {ty : FieldType} (h : (Cond.arrayClass ty).before args s = true) : ∃ c : ClassId, ArrOfT s c ty ∧ s.vm.findClass ("[" ++ ty.toString) = some c := by
  obtain ⟨c, k, comp, h1, h2, h3⟩ := Cond.arrayClass_spec h
  exact ⟨c, fun n z => ⟨(fun k h => by cases h), k, h2, comp, h3⟩, h1⟩
theorem arq_at {s : State} {args : Array Value} {C : String} (h : (Cond.arrayOver (.object C)).before args s = true) : ∃ c : ClassId, ArrOfT s c (.object C) ∧ va_RA s c (.object C) := by
  obtain ⟨comp, c, k, h1, h2, h3, h4, h5⟩ := Cond.arrayOver_spec h
  exact ⟨c, fun n z => ⟨(fun k h => by cases h), k, h3, comp, h4⟩, k, comp, h3, h4, h1, h5⟩
def fn8 {α : Type} (a0 a1 a2 a3 a4 a5 a6 a7 : α) : Nat → α := fun j => match j with
  | 0 => a0 | 1 => a1 | 2 => a2 | 3 => a3 | 4 => a4 | 5 => a5 | 6 => a6 | _ => a7
theorem env_at {p : Program} {s : State} {m : MethodId} {meth : Method} {c : Code} {b L : Nat} {xs : Nat → Int32} (C0 : lw_At p s m meth c b L xs) : ∃ E : EV, CE E (fun q => s.heap.size ≤ q) s s.heap ∧ va_AO RX5 s := by
  obtain ⟨t0, T0⟩ := tb_at0 C0
  obtain ⟨t1, T1⟩ := tb_at1 C0
  obtain ⟨t2, T2⟩ := tb_at2 C0
  obtain ⟨s0, S0⟩ := str_at0 C0
  obtain ⟨s1, S1⟩ := str_at1 C0
  obtain ⟨s2, S2⟩ := str_at2 C0
  obtain ⟨s3, S3⟩ := str_at3 C0
  obtain ⟨s4, S4⟩ := str_at4 C0
  obtain ⟨hx, hb, hr, hml, hown, hts, hX, hbl, hlocks, hgv⟩ := C0
  have hq := flat_of_before _ hgv
  have hA : ∀ a : Nat, a < s.heap.size → ¬ (fun q : Nat => s.heap.size ≤ q) a := fun a h => Nat.not_le.mpr h
  have htl : ∀ w ∈ LW, w.before #[Value.ref b] s = true := fun w h => hts w (List.mem_filter.mp h).1
  obtain ⟨c0, i0, K0⟩ := u_known (C := RX0) (T := TX0) (N := 4) (n := 4) htl uX0 (htl _ inX0)
  obtain ⟨c1, i1, K1⟩ := u_known (C := RX1) (T := TX1) (N := 2) (n := 2) htl uX1 (htl _ inX1)
  obtain ⟨c2, i2, K2⟩ := u_known (C := RX2) (T := TX2) (N := 5) (n := 5) htl uX2 (htl _ inX2)
  obtain ⟨c3, i3, K3⟩ := u_known (C := RX3) (T := TX3) (N := 2) (n := 2) htl uX3 (htl _ inX3)
  obtain ⟨c4, i4, K4⟩ := u_known (C := RX4) (T := TX4) (N := 6) (n := 6) htl uX4 (htl _ inX4)
  obtain ⟨c5, i5, K5⟩ := u_known (C := RX5) (T := TX5) (N := 11) (n := 11) htl uX5 (htl _ inX5)
  obtain ⟨c6, i6, K6⟩ := u_known (C := RX6) (T := TX6) (N := 3) (n := 3) htl uX6 (htl _ inX6)
  obtain ⟨k0, A0, F0⟩ := arr_at (ty := .int) (hts (.arrayClass .int) (List.mem_of_getElem? (i := 53) (by decide +kernel)))
  have hO := hts (.arrayOver (.object RX5)) (List.mem_of_getElem? (i := 147) (by decide +kernel))
  obtain ⟨k1, A1, F1⟩ := arq_at hO
  refine ⟨((fn8 c0 c1 c2 c3 c4 c5 c6 c6, fn8 i0 i1 i2 i3 i4 i5 i6 i6), (k0, k1, k1), fn8 t0 t1 t2 t2 t2 t2 t2 t2, fn8 s0 s1 s2 s3 s4 s4 s4 s4), ⟨⟨?_, ?_⟩, ?_, ⟨T0, T1, T2⟩, ⟨S0, S1, S2, S3, S4⟩, ⟨va_Nc.of (args := #[Value.ref b]) (hq (Cond.not (.castable "java/lang/IndexOutOfBoundsException" "java/lang/IllegalArgumentException")) (by decide +kernel)), va_Nc.of (args := #[Value.ref b]) (hq (Cond.not (.castable "java/lang/IndexOutOfBoundsException" "java/lang/IllegalStateException")) (by decide +kernel)), va_Nc.of (args := #[Value.ref b]) (hq (Cond.not (.castable "java/lang/IllegalArgumentException" "java/lang/IndexOutOfBoundsException")) (by decide +kernel)), va_Nc.of (args := #[Value.ref b]) (hq (Cond.not (.castable "java/lang/IllegalArgumentException" "java/lang/IllegalStateException")) (by decide +kernel)), va_Nc.of (args := #[Value.ref b]) (hq (Cond.not (.castable "java/lang/IllegalStateException" "java/lang/IndexOutOfBoundsException")) (by decide +kernel)), va_Nc.of (args := #[Value.ref b]) (hq (Cond.not (.castable "java/lang/IllegalStateException" "java/lang/IllegalArgumentException")) (by decide +kernel))⟩, ?_, ?_⟩, va_AO.of hO⟩
  · intro k q h
    match k, h with
    | 0, h => cases h; exact K0
    | 1, h => cases h; exact K1
    | 2, h => cases h; exact K2
    | 3, h => cases h; exact K3
    | 4, h => cases h; exact K4
    | 5, h => cases h; exact K5
    | 6, h => cases h; exact K6
    | k + 7, h => exact absurd h (by simp)
  · intro k q h
    match k, h with
    | 0, h => cases h; exact ⟨A0, F0⟩
    | 1, h => cases h; exact ⟨A1, F1⟩
    | k + 2, h => exact absurd h (by simp)
  · exact fun w hw => va_Nw.of (by have := NWL_ok hw; cases w <;> first | rfl | (simp [nwOk] at this)) (hts w (List.mem_filter.mp hw).1)
  · exact vx_Zqof (hts (.laysStatic "java/lang/Throwable" "UNASSIGNED_STACK" "[Ljava/lang/StackTraceElement;") (List.mem_of_getElem? (i := 227) (by decide +kernel))) (hts (.initialized "java/lang/Throwable") (List.mem_of_getElem? (i := 11) (by decide +kernel))) (hq (Cond.isRef (.static "java/lang/Throwable" "UNASSIGNED_STACK" "[Ljava/lang/StackTraceElement;")) (by decide +kernel)) hA
  · exact vx_Zqof (hts (.laysStatic "java/lang/Throwable" "SUPPRESSED_SENTINEL" "Ljava/util/List;") (List.mem_of_getElem? (i := 229) (by decide +kernel))) (hts (.initialized "java/lang/Throwable") (List.mem_of_getElem? (i := 11) (by decide +kernel))) (hq (Cond.isRef (.static "java/lang/Throwable" "SUPPRESSED_SENTINEL" "Ljava/util/List;")) (by decide +kernel)) hA
