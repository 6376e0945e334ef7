/-! each call: refused on both sides alike, or done on both sides alike -/
def LI (g : Nat → Int32) (f : Nat → Nat → Int32) (qs zs fo ts rs hs cs : Nat → Int32) (tm : Nat) : Prop := ∃ D R H C I P, LJ g f qs zs fo ts rs hs cs D R H C I P ∧ I ≤ tm ∧ ∀ p, p < 8 → ¬ zs p < -100
theorem kN_le {n : Nat} (hn : n ≤ 6) : kN n ≤ 6 := by unfold kN; split <;> omega
theorem nI_b {n : Nat} (h : n < 2 ^ 31) : ¬ nI n < -100 := fun q => absurd (Int32.lt_trans q (show (-100 : Int32) < 0 by decide)) (nI_pos h)
abbrev W8 (E : EV) (u0 u1 u2 u3 u4 u5 u6 u7 : Nat) (ca qs zs fo ts rs hs cs : Nat → Int32) : va_W := [rw_ E u0 4 ca, rw_ E u1 10 qs, rw_ E u2 8 zs, rw_ E u3 8 fo, rw_ E u4 8 ts, rw_ E u5 40 rs, rw_ E u6 12 hs, rw_ E u7 10 cs]
set_option maxHeartbeats 4000000 in
set_option maxRecDepth 100000 in
theorem w_L_pass_f2 (l : Launch) (E : EV) {d : Nat} {p0 : Int32} {fs : List Value} {wc wb : va_W} (hM : Th l E yX6_pass cX6_pass 2 (some .int) 7 104 [.ref d, .int p0] ((d, .inr (6, fs)) :: wc) xS) : Gx l E yL_pass cL_pass 3 [(0, 5, 6, 18), (0, 5, 10, 24)] 8 125 [.ref d, .int p0] (((d, .inr (6, fs)) :: wc) ++ wb) (((d, .inr (6, fs)) :: wc) ++ wb) (-103) := by
  refine Gx.mk0 (by decide) (Nat.le_of_ble_eq_true rfl) ?_
  intro pP eE sS mM aA bB mt cC A F hr hk hT hE ls hl
  have hl : lv_has ls 3 [(0, .ref d), (1, .int p0)] := hl
  refine GV.aload_n F dL_pass_0 rfl (lv_at hl 0 rfl) ?_
  refine GV.iload_n F dL_pass_1 rfl (lv_at hl 1 rfl) ?_
  refine GV.thr (q0 := 0) (wa := []) (wb := wb) (name := xS) F hE hM (kL_20 F.2.2.2.2 ⟨Nat.le_of_ble_eq_true rfl, Nat.le_of_ble_eq_true rfl⟩) rfl rfl rfl rfl hl.1 (Nat.le_of_ble_eq_true rfl) ⟨Nat.le_of_ble_eq_true rfl, Nat.le_of_ble_eq_true rfl⟩ dL_pass_2 rfl [⟨0, 5, 6, 18⟩] ⟨0, 5, 10, 24⟩ [] hT (List.forall_mem_cons.mpr ⟨⟨by decide, xA, clL_18, hE.2.2.2.2.1.2.2.2.2.2⟩, fun _ h => absurd h List.not_mem_nil⟩) rfl (by decide) clL_24 (nw_use casS hE.2.1) (fun q => ?_)
  refine GV.astore_n (lv' := [(2, .ref q), (0, .ref d), (1, .int p0)]) F dL_pass_10 rfl hl (by decide) rfl (fun ls hl => ?_)
  refine GV.bipush (v := (-103)) F dL_pass_11 (by decide) ?_
  exact GV.iret F hr hk rfl rfl (Nat.le_of_ble_eq_true rfl) (Nat.le_of_ble_eq_true rfl) dL_pass_13
set_option maxHeartbeats 4000000 in
set_option maxRecDepth 100000 in
theorem w_L_rehearse_f3 (l : Launch) (E : EV) {d : Nat} {p0 p1 p2 : Int32} {fs : List Value} {wc wb : va_W} (hM : Th l E yX6_rehearse cX6_rehearse 4 (some .int) 7 104 [.ref d, .int p0, .int p1, .int p2] ((d, .inr (6, fs)) :: wc) xS) : Gx l E yL_rehearse cL_rehearse 5 [(0, 7, 8, 16), (0, 7, 13, 18), (0, 7, 18, 24)] 8 127 [.ref d, .int p0, .int p1, .int p2] (((d, .inr (6, fs)) :: wc) ++ wb) (((d, .inr (6, fs)) :: wc) ++ wb) (-103) := by
  refine Gx.mk0 (by decide) (Nat.le_of_ble_eq_true rfl) ?_
  intro pP eE sS mM aA bB mt cC A F hr hk hT hE ls hl
  have hl : lv_has ls 5 [(0, .ref d), (1, .int p0), (2, .int p1), (3, .int p2)] := hl
  refine GV.aload_n F dL_rehearse_0 rfl (lv_at hl 0 rfl) ?_
  refine GV.iload_n F dL_rehearse_1 rfl (lv_at hl 1 rfl) ?_
  refine GV.iload_n F dL_rehearse_2 rfl (lv_at hl 2 rfl) ?_
  refine GV.iload_n F dL_rehearse_3 rfl (lv_at hl 3 rfl) ?_
  refine GV.thr (q0 := 0) (wa := []) (wb := wb) (name := xS) F hE hM (kL_26 F.2.2.2.2 ⟨Nat.le_of_ble_eq_true rfl, Nat.le_of_ble_eq_true rfl⟩) rfl rfl rfl rfl hl.1 (Nat.le_of_ble_eq_true rfl) ⟨Nat.le_of_ble_eq_true rfl, Nat.le_of_ble_eq_true rfl⟩ dL_rehearse_4 rfl [⟨0, 7, 8, 16⟩, ⟨0, 7, 13, 18⟩] ⟨0, 7, 18, 24⟩ [] hT (List.forall_mem_cons.mpr ⟨⟨by decide, xI, clL_16, hE.2.2.2.2.1.2.2.2.2.1⟩, List.forall_mem_cons.mpr ⟨⟨by decide, xA, clL_18, hE.2.2.2.2.1.2.2.2.2.2⟩, fun _ h => absurd h List.not_mem_nil⟩⟩) rfl (by decide) clL_24 (nw_use casS hE.2.1) (fun q => ?_)
  refine GV.astore (lv' := [(4, .ref q), (0, .ref d), (1, .int p0), (2, .int p1), (3, .int p2)]) F dL_rehearse_18 hl (by decide) rfl (fun ls hl => ?_)
  refine GV.bipush (v := (-103)) F dL_rehearse_20 (by decide) ?_
  exact GV.iret F hr hk rfl rfl (Nat.le_of_ble_eq_true rfl) (Nat.le_of_ble_eq_true rfl) dL_rehearse_22
set_option maxHeartbeats 4000000 in
set_option maxRecDepth 100000 in
theorem w_L_insure_f2 (l : Launch) (E : EV) {d : Nat} {p0 p1 : Int32} {fs : List Value} {wc wb : va_W} (hM : Th l E yX6_insure cX6_insure 3 (some .int) 7 104 [.ref d, .int p0, .int p1] ((d, .inr (6, fs)) :: wc) xS) : Gx l E yL_insure cL_insure 4 [(0, 6, 7, 18), (0, 6, 11, 24)] 8 126 [.ref d, .int p0, .int p1] (((d, .inr (6, fs)) :: wc) ++ wb) (((d, .inr (6, fs)) :: wc) ++ wb) (-103) := by
  refine Gx.mk0 (by decide) (Nat.le_of_ble_eq_true rfl) ?_
  intro pP eE sS mM aA bB mt cC A F hr hk hT hE ls hl
  have hl : lv_has ls 4 [(0, .ref d), (1, .int p0), (2, .int p1)] := hl
  refine GV.aload_n F dL_insure_0 rfl (lv_at hl 0 rfl) ?_
  refine GV.iload_n F dL_insure_1 rfl (lv_at hl 1 rfl) ?_
  refine GV.iload_n F dL_insure_2 rfl (lv_at hl 2 rfl) ?_
  refine GV.thr (q0 := 0) (wa := []) (wb := wb) (name := xS) F hE hM (kL_33 F.2.2.2.2 ⟨Nat.le_of_ble_eq_true rfl, Nat.le_of_ble_eq_true rfl⟩) rfl rfl rfl rfl hl.1 (Nat.le_of_ble_eq_true rfl) ⟨Nat.le_of_ble_eq_true rfl, Nat.le_of_ble_eq_true rfl⟩ dL_insure_3 rfl [⟨0, 6, 7, 18⟩] ⟨0, 6, 11, 24⟩ [] hT (List.forall_mem_cons.mpr ⟨⟨by decide, xA, clL_18, hE.2.2.2.2.1.2.2.2.2.2⟩, fun _ h => absurd h List.not_mem_nil⟩) rfl (by decide) clL_24 (nw_use casS hE.2.1) (fun q => ?_)
  refine GV.astore_n (lv' := [(3, .ref q), (0, .ref d), (1, .int p0), (2, .int p1)]) F dL_insure_11 rfl hl (by decide) rfl (fun ls hl => ?_)
  refine GV.bipush (v := (-103)) F dL_insure_12 (by decide) ?_
  exact GV.iret F hr hk rfl rfl (Nat.le_of_ble_eq_true rfl) (Nat.le_of_ble_eq_true rfl) dL_insure_14
set_option maxHeartbeats 4000000 in
set_option maxRecDepth 100000 in
theorem w_L_scene_f3 (l : Launch) (E : EV) {d : Nat} {p0 p1 p2 : Int32} {fs : List Value} {wc wb : va_W} (hM : Th l E yX6_scene cX6_scene 4 (some .int) 7 104 [.ref d, .int p0, .int p1, .int p2] ((d, .inr (6, fs)) :: wc) xS) : Gx l E yL_scene cL_scene 5 [(0, 7, 8, 16), (0, 7, 13, 18), (0, 7, 18, 24)] 8 127 [.ref d, .int p0, .int p1, .int p2] (((d, .inr (6, fs)) :: wc) ++ wb) (((d, .inr (6, fs)) :: wc) ++ wb) (-103) := by
  refine Gx.mk0 (by decide) (Nat.le_of_ble_eq_true rfl) ?_
  intro pP eE sS mM aA bB mt cC A F hr hk hT hE ls hl
  have hl : lv_has ls 5 [(0, .ref d), (1, .int p0), (2, .int p1), (3, .int p2)] := hl
  refine GV.aload_n F dL_scene_0 rfl (lv_at hl 0 rfl) ?_
  refine GV.iload_n F dL_scene_1 rfl (lv_at hl 1 rfl) ?_
  refine GV.iload_n F dL_scene_2 rfl (lv_at hl 2 rfl) ?_
  refine GV.iload_n F dL_scene_3 rfl (lv_at hl 3 rfl) ?_
  refine GV.thr (q0 := 0) (wa := []) (wb := wb) (name := xS) F hE hM (kL_36 F.2.2.2.2 ⟨Nat.le_of_ble_eq_true rfl, Nat.le_of_ble_eq_true rfl⟩) rfl rfl rfl rfl hl.1 (Nat.le_of_ble_eq_true rfl) ⟨Nat.le_of_ble_eq_true rfl, Nat.le_of_ble_eq_true rfl⟩ dL_scene_4 rfl [⟨0, 7, 8, 16⟩, ⟨0, 7, 13, 18⟩] ⟨0, 7, 18, 24⟩ [] hT (List.forall_mem_cons.mpr ⟨⟨by decide, xI, clL_16, hE.2.2.2.2.1.2.2.2.2.1⟩, List.forall_mem_cons.mpr ⟨⟨by decide, xA, clL_18, hE.2.2.2.2.1.2.2.2.2.2⟩, fun _ h => absurd h List.not_mem_nil⟩⟩) rfl (by decide) clL_24 (nw_use casS hE.2.1) (fun q => ?_)
  refine GV.astore (lv' := [(4, .ref q), (0, .ref d), (1, .int p0), (2, .int p1), (3, .int p2)]) F dL_scene_18 hl (by decide) rfl (fun ls hl => ?_)
  refine GV.bipush (v := (-103)) F dL_scene_20 (by decide) ?_
  exact GV.iret F hr hk rfl rfl (Nat.le_of_ble_eq_true rfl) (Nat.le_of_ble_eq_true rfl) dL_scene_22
set_option maxHeartbeats 4000000 in
set_option maxRecDepth 100000 in
theorem w_L_shoot_f1 (l : Launch) (E : EV) {d : Nat} {p0 p1 : Int32} {fs : List Value} {wc wb : va_W} (hM : Th l E yX6_shoot cX6_shoot 3 (some .int) 7 105 [.ref d, .int p0, .int p1] ((d, .inr (6, fs)) :: wc) xI) : Gx l E yL_shoot cL_shoot 4 [(0, 6, 7, 16), (0, 6, 11, 24)] 8 127 [.ref d, .int p0, .int p1] (((d, .inr (6, fs)) :: wc) ++ wb) (((d, .inr (6, fs)) :: wc) ++ wb) (-101) := by
  refine Gx.mk0 (by decide) (Nat.le_of_ble_eq_true rfl) ?_
  intro pP eE sS mM aA bB mt cC A F hr hk hT hE ls hl
  have hl : lv_has ls 4 [(0, .ref d), (1, .int p0), (2, .int p1)] := hl
  refine GV.aload_n F dL_shoot_0 rfl (lv_at hl 0 rfl) ?_
  refine GV.iload_n F dL_shoot_1 rfl (lv_at hl 1 rfl) ?_
  refine GV.iload_n F dL_shoot_2 rfl (lv_at hl 2 rfl) ?_
  refine GV.thr (q0 := 0) (wa := []) (wb := wb) (name := xI) F hE hM (kL_39 F.2.2.2.2 ⟨Nat.le_of_ble_eq_true rfl, Nat.le_of_ble_eq_true rfl⟩) rfl rfl rfl rfl hl.1 (Nat.le_of_ble_eq_true rfl) ⟨Nat.le_of_ble_eq_true rfl, Nat.le_of_ble_eq_true rfl⟩ dL_shoot_3 rfl [] ⟨0, 6, 7, 16⟩ [⟨0, 6, 11, 24⟩] hT (fun z hz => absurd hz List.not_mem_nil) rfl (by decide) clL_16 (nw_use casI hE.2.1) (fun q => ?_)
  refine GV.astore_n (lv' := [(3, .ref q), (0, .ref d), (1, .int p0), (2, .int p1)]) F dL_shoot_7 rfl hl (by decide) rfl (fun ls hl => ?_)
  refine GV.bipush (v := (-101)) F dL_shoot_8 (by decide) ?_
  exact GV.iret F hr hk rfl rfl (Nat.le_of_ble_eq_true rfl) (Nat.le_of_ble_eq_true rfl) dL_shoot_10
set_option maxHeartbeats 4000000 in
set_option maxRecDepth 100000 in
theorem w_L_shoot_f2 (l : Launch) (E : EV) {d : Nat} {p0 p1 : Int32} {fs : List Value} {wc wb : va_W} (hM : Th l E yX6_shoot cX6_shoot 3 (some .int) 7 105 [.ref d, .int p0, .int p1] ((d, .inr (6, fs)) :: wc) xS) : Gx l E yL_shoot cL_shoot 4 [(0, 6, 7, 16), (0, 6, 11, 24)] 8 127 [.ref d, .int p0, .int p1] (((d, .inr (6, fs)) :: wc) ++ wb) (((d, .inr (6, fs)) :: wc) ++ wb) (-103) := by
  refine Gx.mk0 (by decide) (Nat.le_of_ble_eq_true rfl) ?_
  intro pP eE sS mM aA bB mt cC A F hr hk hT hE ls hl
  have hl : lv_has ls 4 [(0, .ref d), (1, .int p0), (2, .int p1)] := hl
  refine GV.aload_n F dL_shoot_0 rfl (lv_at hl 0 rfl) ?_
  refine GV.iload_n F dL_shoot_1 rfl (lv_at hl 1 rfl) ?_
  refine GV.iload_n F dL_shoot_2 rfl (lv_at hl 2 rfl) ?_
  refine GV.thr (q0 := 0) (wa := []) (wb := wb) (name := xS) F hE hM (kL_39 F.2.2.2.2 ⟨Nat.le_of_ble_eq_true rfl, Nat.le_of_ble_eq_true rfl⟩) rfl rfl rfl rfl hl.1 (Nat.le_of_ble_eq_true rfl) ⟨Nat.le_of_ble_eq_true rfl, Nat.le_of_ble_eq_true rfl⟩ dL_shoot_3 rfl [⟨0, 6, 7, 16⟩] ⟨0, 6, 11, 24⟩ [] hT (List.forall_mem_cons.mpr ⟨⟨by decide, xI, clL_16, hE.2.2.2.2.1.2.2.2.2.1⟩, fun _ h => absurd h List.not_mem_nil⟩) rfl (by decide) clL_24 (nw_use casS hE.2.1) (fun q => ?_)
  refine GV.astore_n (lv' := [(3, .ref q), (0, .ref d), (1, .int p0), (2, .int p1)]) F dL_shoot_11 rfl hl (by decide) rfl (fun ls hl => ?_)
  refine GV.bipush (v := (-103)) F dL_shoot_12 (by decide) ?_
  exact GV.iret F hr hk rfl rfl (Nat.le_of_ble_eq_true rfl) (Nat.le_of_ble_eq_true rfl) dL_shoot_14
def OpN (l : Launch) (E : EV) (d v0 v1 t u : Nat) (m : Int32) (r : Nat → Int32) (a : Nat → Nat) (u0 u1 u2 u3 u4 u5 u6 u7 K : Nat) (x y z : Int32) (ca : Nat → Int32) (g : Nat → Int32) (f : Nat → Nat → Int32) (qs zs fo ts rs hs cs : Nat → Int32) : Prop :=
  ∃ ans : Int32, ans < -100 ∧ (∀ (n : Nat) (B : Nat → Nat → Nat) (G : Nat → Nat → Int32) (Q : Nat → Nat → Nat → Int32), n ≤ 6 → Gy l E yL_call cL_call 5 (some .int) 9 151 [.ref d, .int (nI K), .int x, .int y, .int z] (dW E d v0 v1 t u (nI n) m r a g f ++ tlW E v1 B G Q) (dW E d v0 v1 t u (nI n) m r a g f ++ tlW E v1 B G Q) ans) ∧
    Wr l E yL_due cL_due 13 (some .int) 3 77 [.ref u0, .ref u1, .ref u2, .ref u3, .ref u4, .ref u5, .ref u6, .ref u7] (W8 E u0 u1 u2 u3 u4 u5 u6 u7 ca qs zs fo ts rs hs cs) (W8 E u0 u1 u2 u3 u4 u5 u6 u7 ca qs zs fo ts rs hs cs) (some (.int ans))
def OpY (l : Launch) (E : EV) (d v0 v1 t u : Nat) (m : Int32) (r : Nat → Int32) (a : Nat → Nat) (u0 u1 u2 u3 u4 u5 u6 u7 K : Nat) (x y z : Int32) (ca : Nat → Int32) (g : Nat → Int32) (f : Nat → Nat → Int32) (qs zs fo ts rs hs cs : Nat → Int32) (tm : Nat) : Prop :=
  ∃ (ans : Int32) (g' : Nat → Int32) (f' : Nat → Nat → Int32) (qs' zs' fo' ts' rs' hs' cs' : Nat → Int32), ¬ ans < -100 ∧ (∀ (n : Nat) (B : Nat → Nat → Nat) (G : Nat → Nat → Int32) (Q : Nat → Nat → Nat → Int32), n ≤ 6 → Gy l E yL_call cL_call 5 (some .int) 9 151 [.ref d, .int (nI K), .int x, .int y, .int z] (dW E d v0 v1 t u (nI n) m r a g f ++ tlW E v1 B G Q) (dW E d v0 v1 t u (nI (kN n)) m r a g' f' ++ tlW E v1 (kB n B) (kG n G g) (kG n Q f)) ans) ∧
    Wr l E yL_due cL_due 13 (some .int) 3 77 [.ref u0, .ref u1, .ref u2, .ref u3, .ref u4, .ref u5, .ref u6, .ref u7] (W8 E u0 u1 u2 u3 u4 u5 u6 u7 ca qs zs fo ts rs hs cs) (W8 E u0 u1 u2 u3 u4 u5 u6 u7 ca qs' zs' fo' ts' rs' hs' cs') (some (.int ans)) ∧ LI g' f' qs' zs' fo' ts' rs' hs' cs' (tm + 1)
section OPS
variable {l : Launch} {E : EV} {d v0 v1 t u u0 u1 u2 u3 u4 u5 u6 u7 : Nat} {m : Int32} {r : Nat → Int32} {a : Nat → Nat} {ca : Nat → Int32} {g : Nat → Int32} {f : Nat → Nat → Int32} {qs zs fo ts rs hs cs : Nat → Int32} {tm : Nat}
set_option maxHeartbeats 4000000 in
set_option maxRecDepth 100000 in
theorem op_0 (hst : l.stackTraces = false) (hI : LI g f qs zs fo ts rs hs cs tm) (htm : tm < 40) (hc0 : ca 0 = nI 0) {p : Nat} (hc1 : ca 1 = nI p) (hp8 : p < 8) {w : Nat} {z : Int32} (hc2 : ca 2 = nI w) (h1 : 150 ≤ w) (h2 : w ≤ 200) : OpN l E d v0 v1 t u m r a u0 u1 u2 u3 u4 u5 u6 u7 0 (nI p) (nI w) z ca g f qs zs fo ts rs hs cs ∨ OpY l E d v0 v1 t u m r a u0 u1 u2 u3 u4 u5 u6 u7 0 (nI p) (nI w) z ca g f qs zs fo ts rs hs cs tm := by
  obtain ⟨D, R, H, C, I, P, hJ, hIt, hZ⟩ := hI
  have hb := hJ.bd
  have hP7 : 0 ≤ nI p ∧ nI p ≤ 7 := nI_r (M := 7) rfl (by decide) (by omega)
  have hW : 150 ≤ nI w ∧ nI w ≤ 200 := ⟨(nI_leI (a := 150) (by omega) (by omega)).mpr h1, (nI_leI (b := 200) (by omega) (by omega)).mpr h2⟩
  refine Or.inr ⟨zs p, g, _, qs, _, fo, ts, rs, hs, cs, hZ p hp8, fun n B G Q hn => ?_, c_L_due_0 l E hc0 hc1 hp8 hc2, D, R, H, C, I, P, up_size hJ hp8, by omega, fun q hq => ?_⟩
  · have h := c_X6_size l E (d := d) (v0 := v0) (v1 := v1) (t := t) (u := u) (a := a) (g := g) (f := f) (m := m) (r := r) (B := B) (G := G) (K := Q) hP7 hW hn
    rw [hJ.z hp8] at h
    exact call_0 l E (w_L_size l E h keep_pm)
  · by_cases e : q = p
    · subst e; rw [upd_eq]; exact nI_b (by omega)
    · rw [upd_ne e]; exact hZ q hq
set_option maxHeartbeats 4000000 in
set_option maxRecDepth 100000 in
theorem op_1 (hst : l.stackTraces = false) (hI : LI g f qs zs fo ts rs hs cs tm) (htm : tm < 40) (hc0 : ca 0 = nI 1) {p : Nat} (hc1 : ca 1 = nI p) (hp8 : p < 8) {w : Nat} {z : Int32} (hc2 : ca 2 = nI w) (h1 : 1 ≤ w) (h2 : w ≤ 99) : OpN l E d v0 v1 t u m r a u0 u1 u2 u3 u4 u5 u6 u7 1 (nI p) (nI w) z ca g f qs zs fo ts rs hs cs ∨ OpY l E d v0 v1 t u m r a u0 u1 u2 u3 u4 u5 u6 u7 1 (nI p) (nI w) z ca g f qs zs fo ts rs hs cs tm := by
  obtain ⟨D, R, H, C, I, P, hJ, hIt, hZ⟩ := hI
  have hb := hJ.bd
  have hP7 : 0 ≤ nI p ∧ nI p ≤ 7 := nI_r (M := 7) rfl (by decide) (by omega)
  have hW : 1 ≤ nI w ∧ nI w ≤ 99 := ⟨(nI_leI (a := 1) (by omega) (by omega)).mpr h1, (nI_leI (b := 99) (by omega) (by omega)).mpr h2⟩
  by_cases c : nI 999 < qs 0 + nI w
  · have c' : ¬ g 0 + nI w ≤ 999 := by rw [hJ.g0, ← hJ.q0]; exact Int32.not_le.mpr c
    exact Or.inl ⟨-103, by decide, fun n B G Q hn => call_1 l E (w_L_pass_f2 l E (c_X6_pass_t2 l E hW c' hst)), c_L_due_1r l E hc0 hc1 hp8 hc2 c⟩
  · have c' : g 0 + nI w ≤ 999 := by rw [hJ.g0, ← hJ.q0]; exact Int32.not_lt.mp c
    have e : g 0 + nI w = qs 0 + nI w := by rw [hJ.g0, hJ.q0]
    have e2 : qs 0 + nI w = nI (D + w) := by rw [hJ.q0, nI_add]
    have hd : D + w ≤ 999 := by rw [e2] at c; have := mt (nI_ltI (a := 999) (b := D + w) (by omega) (by omega)).mpr c; omega
    refine Or.inr ⟨qs 0 + nI w, _, _, _, zs, fo, _, rs, hs, cs, by rw [e2]; exact nI_b (by omega), fun n B G Q hn => ?_, c_L_due_1 l E hc0 hc1 hp8 hc2 c, D + w, R, H, C, I, P, up_pass hJ hd, by omega, hZ⟩
    have h := c_X6_pass l E (d := d) (v0 := v0) (v1 := v1) (t := t) (u := u) (a := a) (g := g) (f := f) (m := m) (r := r) (B := B) (G := G) (K := Q) hW c' hn
    rw [← e]
    exact call_1 l E (w_L_pass l E h keep_pm)
theorem pr_val {k : Nat} (h : k < 6) : ∃ u, prL k = nI u ∧ 1 ≤ u ∧ u < 64 := by
  rcases (show k = 0 ∨ k = 1 ∨ k = 2 ∨ k = 3 ∨ k = 4 ∨ k = 5 by omega) with rfl | rfl | rfl | rfl | rfl | rfl
  · exact ⟨1, by decide, by decide, by decide⟩
  · exact ⟨4, by decide, by decide, by decide⟩
  · exact ⟨16, by decide, by decide, by decide⟩
  · exact ⟨16, by decide, by decide, by decide⟩
  · exact ⟨4, by decide, by decide, by decide⟩
  · exact ⟨1, by decide, by decide, by decide⟩
set_option maxHeartbeats 4000000 in
set_option maxRecDepth 100000 in
theorem op_2 (hst : l.stackTraces = false) (hI : LI g f qs zs fo ts rs hs cs tm) (htm : tm < 40) (hc0 : ca 0 = nI 2) {p : Nat} (hc1 : ca 1 = nI p) (hp8 : p < 8) {k v : Nat} (hc2 : ca 2 = nI k) (hk6 : k < 6) (hc3 : ca 3 = nI v) (h1 : 1 ≤ v) (h2 : v ≤ 5) : OpN l E d v0 v1 t u m r a u0 u1 u2 u3 u4 u5 u6 u7 2 (nI p) (nI k) (nI v) ca g f qs zs fo ts rs hs cs ∨ OpY l E d v0 v1 t u m r a u0 u1 u2 u3 u4 u5 u6 u7 2 (nI p) (nI k) (nI v) ca g f qs zs fo ts rs hs cs tm := by
  obtain ⟨D, R, H, C, I, P, hJ, hIt, hZ⟩ := hI
  have hb := hJ.bd
  have hP7 : 0 ≤ nI p ∧ nI p ≤ 7 := nI_r (M := 7) rfl (by decide) (by omega)
  have hK : 0 ≤ nI k ∧ nI k ≤ 5 := nI_r (M := 5) rfl (by decide) (by omega)
  have hV : 1 ≤ nI v ∧ nI v ≤ 5 := nI_r1 (M := 5) rfl (by decide) h1 h2
  have eb : (parS g f (g 0) (nI p) &&& gt tBar 6 (nI k)) = (hpL hs (qs 0) (nI p) H &&& bpM (nI k)) := by rw [parS_eq hJ, tb_eq hk6]
  by_cases c : hpL hs (qs 0) (nI p) H &&& bpM (nI k) = 0
  · have c' : parS g f (g 0) (nI p) &&& gt tBar 6 (nI k) = 0 := by rw [eb]; exact c
    have hX := fun (n : Nat) (B : Nat → Nat → Nat) (G : Nat → Nat → Int32) (Q : Nat → Nat → Nat → Int32) (hn : n ≤ 6) => c_X6_rehearse l E (d := d) (v0 := v0) (v1 := v1) (t := t) (u := u) (a := a) (g := g) (f := f) (m := m) (r := r) (B := B) (G := G) (K := Q) hP7 hK hV c' hn
    by_cases ct : nI 3 < ts p + nI 1
    · have ct' : 3 < gt (f 1) 8 (nI p) + 1 := by rw [hJ.t hp8]; exact ct
      obtain ⟨u9, eu, g1, g2⟩ := pr_val hk6
      have eG : rehG g f (nI p) = injG (rehG0 g) := if_pos ct'
      have eF : rehF g f (nI p) (nI k) (nI v) = injF (rehG0 g) (rehF0 f (nI p)) (nI p) (nI u9) (nI (2 * v)) := by
        rw [← eu, ← th_eq hk6]
        exact (if_pos ct').trans (congrArg (injF (rehG0 g) (rehF0 f (nI p)) (nI p) (gt tHur 6 (nI k))) (pk_mul 2 v))
      have hd := c_L_due_2a l E (u0 := u0) (u1 := u1) (u2 := u2) (u3 := u3) (u4 := u4) (u5 := u5) (u6 := u6) (u7 := u7) (zs := zs) (fo := fo) (rs := rs) (cs := cs) hc0 hc1 hp8 hc2 hc3 hk6 ct hJ.q9 hb.2.2.1 c
      rw [pk_mul, eu] at hd
      refine Or.inr ⟨nI 0, _, _, _, zs, fo, _, rs, _, cs, nI_b (by decide), fun n B G Q hn => ?_, hd, D, R, _, C, _, P, up_ij (u := u9) (x := 2 * v) (up_rh0 hJ hp8) hp8 g1 g2 (by omega) (by omega) (by omega), by omega, hZ⟩
      have h := hX n B G Q hn
      rw [eG, eF, bI_f (fun w => w ct')] at h
      exact call_2 l E (w_L_rehearse l E h keep_pm)
    · have ct' : ¬ 3 < gt (f 1) 8 (nI p) + 1 := by rw [hJ.t hp8]; exact ct
      have eG : rehG g f (nI p) = rehG1 (rehG0 g) := if_neg ct'
      have eF : rehF g f (nI p) (nI k) (nI v) = rehF1 (rehG0 g) (rehF0 f (nI p)) (nI p) (nI k) (nI v) := if_neg ct'
      have hd := c_L_due_2k l E (u0 := u0) (u1 := u1) (u2 := u2) (u3 := u3) (u4 := u4) (u5 := u5) (u6 := u6) (u7 := u7) (zs := zs) (fo := fo) (rs := rs) (cs := cs) hc0 hc1 hp8 hc2 hc3 hk6 ct hJ.q9 hb.2.2.1 hJ.q8 hb.2.1 c
      refine Or.inr ⟨nI 1, _, _, _, zs, fo, _, _, hs, cs, nI_b (by decide), fun n B G Q hn => ?_, hd, D, _, H, C, I, P, up_kp (up_rh0 hJ hp8) hp8 hk6 (by omega), by omega, hZ⟩
      have h := hX n B G Q hn
      rw [eG, eF, bI_t ct'] at h
      exact call_2 l E (w_L_rehearse l E h keep_pm)
  · have c' : ¬ parS g f (g 0) (nI p) &&& gt tBar 6 (nI k) = 0 := by rw [eb]; exact c
    exact Or.inl ⟨-103, by decide, fun n B G Q hn => call_2 l E (w_L_rehearse_f3 l E (c_X6_rehearse_t4 l E hP7 hK hV c' hst)), c_L_due_2r l E hc0 hc1 hp8 hc2 hJ.q9 hb.2.2.1 c⟩
set_option maxHeartbeats 4000000 in
set_option maxRecDepth 100000 in
theorem op_3 (hst : l.stackTraces = false) (hI : LI g f qs zs fo ts rs hs cs tm) (htm : tm < 40) (hc0 : ca 0 = nI 3) {p : Nat} (hc1 : ca 1 = nI p) (hp8 : p < 8) {w v : Nat} (hc2 : ca 2 = nI w) (hw : w = 1 ∨ w = 2 ∨ w = 4 ∨ w = 8 ∨ w = 16 ∨ w = 32) (hc3 : ca 3 = nI v) (h1 : 1 ≤ v) (h2 : v ≤ 60) : OpN l E d v0 v1 t u m r a u0 u1 u2 u3 u4 u5 u6 u7 3 (nI p) (nI w) (nI v) ca g f qs zs fo ts rs hs cs ∨ OpY l E d v0 v1 t u m r a u0 u1 u2 u3 u4 u5 u6 u7 3 (nI p) (nI w) (nI v) ca g f qs zs fo ts rs hs cs tm := by
  obtain ⟨D, R, H, C, I, P, hJ, hIt, hZ⟩ := hI
  have hb := hJ.bd
  have hP7 : 0 ≤ nI p ∧ nI p ≤ 7 := nI_r (M := 7) rfl (by decide) (by omega)
  have hW : (1 ≤ nI w ∧ nI w ≤ 32) ∧ nI w &&& (nI w - 1) = 0 := by
    rcases hw with rfl | rfl | rfl | rfl | rfl | rfl <;> decide
  have hV : 1 ≤ nI v ∧ nI v ≤ 60 := nI_r1 (M := 60) rfl (by decide) h1 h2
  have hN := up_ij (u := w) (x := v) hJ hp8 (by omega) (by omega) h1 h2 (by omega)
  obtain ⟨c9, ec, hc9⟩ := hbL_val cs (hpL (ijH hs H (ijV qs (nI p) (nI w) (nI v))) (ijQ qs (ijN H) 0) (nI p) (ijN H)) C
  have hd := c_L_due_3 l E (u0 := u0) (u1 := u1) (u2 := u2) (u3 := u3) (u4 := u4) (u5 := u5) (u6 := u6) (u7 := u7) (zs := zs) (fo := fo) (ts := ts) (rs := rs) (hs := hs) hc0 hc1 hp8 hc2 hc3 hJ.q9 hb.2.2.1 (cs := cs) hJ.q4 hb.2.2.2.1
  rw [ec] at hd
  refine Or.inr ⟨nI c9, _, _, _, zs, fo, ts, rs, _, cs, nI_b (by omega), fun n B G Q hn => ?_, hd, D, R, _, C, _, P, hN, by omega, hZ⟩
  have h := c_X6_hurt l E (d := d) (v0 := v0) (v1 := v1) (t := t) (u := u) (a := a) (g := g) (f := f) (m := m) (r := r) (B := B) (G := G) (K := Q) hP7 ⟨hW, hV⟩ hn
  rw [hN.cC, sbf_eq hN (Nat.le_refl _), ec] at h
  exact call_3 l E (w_L_hurt l E h keep_pm)
set_option maxHeartbeats 4000000 in
set_option maxRecDepth 100000 in
theorem op_4 (hst : l.stackTraces = false) (hI : LI g f qs zs fo ts rs hs cs tm) (htm : tm < 40) (hc0 : ca 0 = nI 4) {p : Nat} (hc1 : ca 1 = nI p) (hp8 : p < 8) {w v : Nat} (hc2 : ca 2 = nI w) (h1 : 1 ≤ w) (h2 : w ≤ 5) (hc3 : ca 3 = nI v) (h3 : 1 ≤ v) (h4 : v ≤ 30) : OpN l E d v0 v1 t u m r a u0 u1 u2 u3 u4 u5 u6 u7 4 (nI p) (nI w) (nI v) ca g f qs zs fo ts rs hs cs ∨ OpY l E d v0 v1 t u m r a u0 u1 u2 u3 u4 u5 u6 u7 4 (nI p) (nI w) (nI v) ca g f qs zs fo ts rs hs cs tm := by
  obtain ⟨D, R, H, C, I, P, hJ, hIt, hZ⟩ := hI
  have hb := hJ.bd
  have hP7 : 0 ≤ nI p ∧ nI p ≤ 7 := nI_r (M := 7) rfl (by decide) (by omega)
  have hW : (1 ≤ nI w ∧ nI w ≤ 5) ∧ (1 ≤ nI v ∧ nI v ≤ 60) := ⟨nI_r1 (M := 5) rfl (by decide) h1 h2, nI_r1 (M := 60) rfl (by decide) h3 (by omega)⟩
  have k1 : v * w ≤ 30 * 5 := Nat.mul_le_mul h4 h2
  have k2 : v * w * w ≤ 150 * 5 := Nat.mul_le_mul k1 h2
  have k3 : v * w * w * I ≤ 750 * 40 := Nat.mul_le_mul k2 hb.2.2.2.2.1
  have ek : coL qs (nI v) (nI w) = nI (v * w * w + v * w * w * I / 10) := by
    show nI v * nI w * nI w + nI v * nI w * nI w * qs 6 / nI 10 = _
    rw [hJ.q6, pk_mul, pk_mul, pk_mul, pk_div (by omega) (by decide) (by decide), nI_add]
  have e1 : cosC g (nI w) (nI v) = coL qs (nI v) (nI w) := (co_eq hJ).symm
  by_cases c : qs 1 < coL qs (nI v) (nI w)
  · have c' : ¬ cosC g (nI w) (nI v) ≤ g 1 := by rw [e1, hJ.g1, ← hJ.q1]; exact Int32.not_le.mpr c
    exact Or.inl ⟨-103, by decide, fun n B G Q hn => call_4 l E (w_L_insure_f2 l E (c_X6_insure_t2 l E hW c' hst)), c_L_due_4r l E hc0 hc1 hp8 hc2 hc3 c⟩
  · have c' : cosC g (nI w) (nI v) ≤ g 1 := by rw [e1, hJ.g1, ← hJ.q1]; exact Int32.not_lt.mp c
    have hK : v * w * w + v * w * w * I / 10 ≤ P := by
      rw [e1, ek, hJ.g1] at c'
      exact (nI_leI (by omega) (by omega)).mp c'
    have e2 : g 1 - cosC g (nI w) (nI v) = nI (P - (v * w * w + v * w * w * I / 10)) := by rw [e1, ek, hJ.g1, nI_sub hK]
    have e3 : qs 1 - coL qs (nI v) (nI w) = nI (P - (v * w * w + v * w * w * I / 10)) := by rw [ek, hJ.q1, nI_sub hK]
    have hd := c_L_due_4 l E (u0 := u0) (u1 := u1) (u2 := u2) (u3 := u3) (u4 := u4) (u5 := u5) (u6 := u6) (u7 := u7) (zs := zs) (fo := fo) (ts := ts) (rs := rs) (hs := hs) (cs := cs) hc0 hc1 hp8 hc2 hc3 c
    rw [show (some (Value.int (qs 1 - coL qs (nI v) (nI w)))) = some (Value.int (nI (P - (v * w * w + v * w * w * I / 10)))) from congrArg (fun z => some (Value.int z)) e3] at hd
    refine Or.inr ⟨_, _, f, _, zs, fo, ts, rs, hs, cs, nI_b (by omega), fun n B G Q hn => ?_, hd, D, R, H, C, I, _, up_ins hJ ek hK, by omega, hZ⟩
    have h := c_X6_insure l E (d := d) (v0 := v0) (v1 := v1) (t := t) (u := u) (a := a) (g := g) (f := f) (m := m) (r := r) (B := B) (G := G) (K := Q) hW c' hn
    rw [e2] at h
    exact call_4 l E (w_L_insure l E h keep_pm)
set_option maxHeartbeats 4000000 in
set_option maxRecDepth 100000 in
theorem op_5 (hst : l.stackTraces = false) (hI : LI g f qs zs fo ts rs hs cs tm) (htm : tm < 40) (hc0 : ca 0 = nI 5) {p : Nat} (hc1 : ca 1 = nI p) (hp8 : p < 8) {k v : Nat} (hc2 : ca 2 = nI k) (hk6 : k < 6) (hc3 : ca 3 = nI v) (h1 : 1 ≤ v) (h2 : v ≤ 5) : OpN l E d v0 v1 t u m r a u0 u1 u2 u3 u4 u5 u6 u7 5 (nI p) (nI k) (nI v) ca g f qs zs fo ts rs hs cs ∨ OpY l E d v0 v1 t u m r a u0 u1 u2 u3 u4 u5 u6 u7 5 (nI p) (nI k) (nI v) ca g f qs zs fo ts rs hs cs tm := by
  obtain ⟨D, R, H, C, I, P, hJ, hIt, hZ⟩ := hI
  have hb := hJ.bd
  have hP7 : 0 ≤ nI p ∧ nI p ≤ 7 := nI_r (M := 7) rfl (by decide) (by omega)
  have hK : 0 ≤ nI k ∧ nI k ≤ 5 := nI_r (M := 5) rfl (by decide) (by omega)
  have hV : 1 ≤ nI v ∧ nI v ≤ 5 := nI_r1 (M := 5) rfl (by decide) h1 h2
  by_cases c : C < 10
  · have c' : g 8 < 10 := by rw [hJ.g8]; exact (nI_ltI (b := 10) (by omega) (by omega)).mpr c
    refine Or.inr ⟨nI C, _, _, _, zs, fo, ts, rs, hs, _, nI_b (by omega), fun n B G Q hn => ?_, c_L_due_5 l E hc0 hc1 hp8 hc2 hc3 hJ.q4 c, D, R, H, _, I, P, up_scene hJ c hk6 (show v < 8 by omega) hp8, by omega, hZ⟩
    have h := c_X6_scene l E (d := d) (v0 := v0) (v1 := v1) (t := t) (u := u) (a := a) (g := g) (f := f) (m := m) (r := r) (B := B) (G := G) (K := Q) hK hP7 hV c' hn
    rw [show (some (Value.int (g 8))) = some (Value.int (nI C)) from congrArg (fun z => some (Value.int z)) hJ.g8] at h
    exact call_5 l E (w_L_scene l E h keep_pm)
  · have h10 : C = 10 := by omega
    have c' : ¬ g 8 < 10 := by rw [hJ.g8, h10]; decide
    exact Or.inl ⟨-103, by decide, fun n B G Q hn => call_5 l E (w_L_scene_f3 l E (c_X6_scene_t4 l E hK hP7 hV c' hst)), c_L_due_5r l E hc0 hc1 hp8 hc2 (by rw [hJ.q4, h10])⟩
set_option maxHeartbeats 4000000 in
set_option maxRecDepth 100000 in
theorem op_6 (hst : l.stackTraces = false) (hI : LI g f qs zs fo ts rs hs cs tm) (htm : tm < 40) (hc0 : ca 0 = nI 6) {p : Nat} (hc1 : ca 1 = nI p) (hp8 : p < 8) {x : Nat} {z : Int32} (hc2 : ca 2 = nI x) (hx11 : x < 11) : OpN l E d v0 v1 t u m r a u0 u1 u2 u3 u4 u5 u6 u7 6 (nI p) (nI x) z ca g f qs zs fo ts rs hs cs ∨ OpY l E d v0 v1 t u m r a u0 u1 u2 u3 u4 u5 u6 u7 6 (nI p) (nI x) z ca g f qs zs fo ts rs hs cs tm := by
  obtain ⟨D, R, H, C, I, P, hJ, hIt, hZ⟩ := hI
  have hb := hJ.bd
  have hP7 : 0 ≤ nI p ∧ nI p ≤ 7 := nI_r (M := 7) rfl (by decide) (by omega)
  by_cases c : x < C
  · have hX : 0 ≤ nI x ∧ nI x < g 8 := nI_x hJ.g8 (by omega) c
    obtain ⟨q1, q2, -⟩ := sn_eq hJ c
    have er := rea_eq hJ c hp8
    by_cases c2 : rsL qs zs fo rs hs cs H R x p (snL cs x) = 0
    · have c3 : reaC g f (g 0) (nI x) (nI p) = 0 := er.trans c2
      have h12 : f 12 x = -1 := by
        by_cases w : f 12 x = -1
        · exact w
        · have w2 := (shot_iff hJ c).mp w
          unfold rsL at c2
          rw [if_pos w2] at c2
          exact absurd c2 (by decide)
      obtain ⟨hN, ea⟩ := up_shoot hJ c hp8 h12
      have hd := c_L_due_6 l E (u0 := u0) (u1 := u1) (u2 := u2) (u3 := u3) (u4 := u4) (u5 := u5) (u6 := u6) (u7 := u7) (ts := ts) hc0 hc1 hp8 hc2 hJ.q4 hb.2.2.2.1 c q1 q2 hJ.q9 hb.2.2.1 hJ.q8 hb.2.1 c2
      refine Or.inr ⟨dbL (snL cs x) p, g, _, _, zs, _, ts, rs, hs, _, ?_, fun n B G Q hn => ?_, hd, D, R, H, C, I, P, hN, by omega, hZ⟩
      · unfold dbL; split <;> decide
      · have h := c_X6_shoot l E (d := d) (v0 := v0) (v1 := v1) (t := t) (u := u) (a := a) (g := g) (f := f) (m := m) (r := r) (B := B) (G := G) (K := Q) hX hP7 c3 hn
        rw [ea] at h
        exact call_6 l E (w_L_shoot l E h keep_pm)
    · have c3 : ¬ reaC g f (g 0) (nI x) (nI p) = 0 := by rw [er]; exact c2
      exact Or.inl ⟨-103, by decide, fun n B G Q hn => call_6 l E (w_L_shoot_f2 l E (c_X6_shoot_t3 l E hX hP7 c3 hst)), c_L_due_6r l E hc0 hc1 hp8 hc2 hJ.q4 hb.2.2.2.1 c q1 q2 hJ.q9 hb.2.2.1 hJ.q8 hb.2.1 c2⟩
  · have hX : ¬ (0 ≤ nI x ∧ nI x < g 8) := fun w => by rw [hJ.g8] at w; exact c ((nI_ltI (by omega) (by omega)).mp w.2)
    exact Or.inl ⟨-101, by decide, fun n B G Q hn => call_6 l E (w_L_shoot_f1 l E (c_X6_shoot_t1 l E hX hst)), c_L_due_6a l E hc0 hc1 hp8 hc2 hJ.q4 hb.2.2.2.1 (by omega) (by omega)⟩
end OPS
