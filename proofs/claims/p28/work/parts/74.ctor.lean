set_option maxHeartbeats 4000000 in
set_option maxRecDepth 100000 in
theorem c_X0_init (l : Launch) (E : EV) (o : Nat) : Cn l E yX0_init cX0_init 1 1 12 3 36 o [(o, .inr (0, [.int 0, .null, .null, .null]))] (S := Nat × Nat × Nat) (fun _ => True) (fun u : Nat × Nat × Nat => inO E o u.1 u.2.1 u.2.2 (nI 0) (fun _ => 0) (fun _ => 0) (fun _ => 0)) := by
  refine Cn.mk0 (by decide) rfl (Nat.le_of_ble_eq_true rfl) ?_
  intro pP eE sS mM aA bB mt cC A F hr hk hi hE hA hO ls hl
  refine GV.aload_n F dX0_init_0 rfl (lv_at hl 0 rfl) ?_
  refine GV.obj F obX0 obIm obCo hl.1 dX0_init_1 ⟨Nat.le_of_ble_eq_true rfl, Nat.le_of_ble_eq_true rfl⟩ ?_
  refine GV.aload_n F dX0_init_4 rfl (lv_at hl 0 rfl) ?_
  refine GV.iconst (v := nI 0) F dX0_init_5 (by decide) ?_
  refine GV.putf (ws' := [(o, .inr (0, [.int (nI 0), .null, .null, .null]))]) F hE pX0_9 (by first | rfl | decide) (by first | rfl | decide) 0 rfl (Nat.le_of_ble_eq_true rfl) dX0_init_6 rfl ?_
  refine GV.aload_n F dX0_init_9 rfl (lv_at hl 0 rfl) ?_
  refine GV.bipush (v := nI 12) F dX0_init_10 (by decide) ?_
  refine GV.newa F hE hA arInt (N := 12) (by decide) (by exact Nat.le_of_ble_eq_true rfl) (by exact Nat.le_of_ble_eq_true rfl) dX0_init_12 (fun q1 => ?_)
  refine GV.weq (ws' := [(o, .inr (0, [.int (nI 0), .null, .null, .null])), rw_ E q1 12 (fun _ => 0)]) rfl ?_
  refine GV.putF (ws' := [(o, .inr (0, [.int (nI 0), .ref q1, .null, .null])), rw_ E q1 12 (fun _ => 0)]) F hE hi fX0_15 (by first | rfl | decide) (by first | rfl | decide) 0 rfl (Nat.le_of_ble_eq_true rfl) dX0_init_14 rfl ?_
  refine GV.aload_n F dX0_init_17 rfl (lv_at hl 0 rfl) ?_
  refine GV.bipush (v := nI 12) F dX0_init_18 (by decide) ?_
  refine GV.newa F hE hA arInt (N := 12) (by decide) (by exact Nat.le_of_ble_eq_true rfl) (by exact Nat.le_of_ble_eq_true rfl) dX0_init_20 (fun q2 => ?_)
  refine GV.weq (ws' := [(o, .inr (0, [.int (nI 0), .ref q1, .null, .null])), rw_ E q1 12 (fun _ => 0), rw_ E q2 12 (fun _ => 0)]) rfl ?_
  refine GV.putF (ws' := [(o, .inr (0, [.int (nI 0), .ref q1, .ref q2, .null])), rw_ E q1 12 (fun _ => 0), rw_ E q2 12 (fun _ => 0)]) F hE hi fX0_19 (by first | rfl | decide) (by first | rfl | decide) 0 rfl (Nat.le_of_ble_eq_true rfl) dX0_init_22 rfl ?_
  refine GV.aload_n F dX0_init_25 rfl (lv_at hl 0 rfl) ?_
  refine GV.bipush (v := nI 12) F dX0_init_26 (by decide) ?_
  refine GV.newa F hE hA arInt (N := 12) (by decide) (by exact Nat.le_of_ble_eq_true rfl) (by exact Nat.le_of_ble_eq_true rfl) dX0_init_28 (fun q3 => ?_)
  refine GV.weq (ws' := [(o, .inr (0, [.int (nI 0), .ref q1, .ref q2, .null])), rw_ E q1 12 (fun _ => 0), rw_ E q2 12 (fun _ => 0), rw_ E q3 12 (fun _ => 0)]) rfl ?_
  refine GV.putF (ws' := [(o, .inr (0, [.int (nI 0), .ref q1, .ref q2, .ref q3])), rw_ E q1 12 (fun _ => 0), rw_ E q2 12 (fun _ => 0), rw_ E q3 12 (fun _ => 0)]) F hE hi fX0_22 (by first | rfl | decide) (by first | rfl | decide) 0 rfl (Nat.le_of_ble_eq_true rfl) dX0_init_30 rfl ?_
  exact GV.ret (Wn := fun u : Nat × Nat × Nat => inO E o u.1 u.2.1 u.2.2 (nI 0) (fun _ => 0) (fun _ => 0) (fun _ => 0)) F hr hk ((q1, q2, q3)) (trivial) rfl (Nat.le_of_ble_eq_true rfl) (Nat.le_of_ble_eq_true rfl) dX0_init_33
set_option maxHeartbeats 4000000 in
set_option maxRecDepth 100000 in
theorem c_X2_init (l : Launch) (E : EV) (o : Nat) : Cn l E yX2_init cX2_init 1 1 12 4 160 o [(o, .inr (2, [.int 0, .null, .null, .null, .null]))] (S := Nat × Nat × Nat × Nat) (fun _ => True) (fun u : Nat × Nat × Nat × Nat => reO E o u.1 u.2.1 u.2.2.1 u.2.2.2 (nI 0) (fun _ => 0) (fun _ => 0) (fun _ => 0) (fun _ => 0)) := by
  refine Cn.mk0 (by decide) rfl (Nat.le_of_ble_eq_true rfl) ?_
  intro pP eE sS mM aA bB mt cC A F hr hk hi hE hA hO ls hl
  refine GV.aload_n F dX2_init_0 rfl (lv_at hl 0 rfl) ?_
  refine GV.obj F obX2 obIm obCo hl.1 dX2_init_1 ⟨Nat.le_of_ble_eq_true rfl, Nat.le_of_ble_eq_true rfl⟩ ?_
  refine GV.aload_n F dX2_init_4 rfl (lv_at hl 0 rfl) ?_
  refine GV.iconst (v := nI 0) F dX2_init_5 (by decide) ?_
  refine GV.putf (ws' := [(o, .inr (2, [.int (nI 0), .null, .null, .null, .null]))]) F hE pX2_9 (by first | rfl | decide) (by first | rfl | decide) 0 rfl (Nat.le_of_ble_eq_true rfl) dX2_init_6 rfl ?_
  refine GV.aload_n F dX2_init_9 rfl (lv_at hl 0 rfl) ?_
  refine GV.bipush (v := nI 40) F dX2_init_10 (by decide) ?_
  refine GV.newa F hE hA arInt (N := 40) (by decide) (by exact Nat.le_of_ble_eq_true rfl) (by exact Nat.le_of_ble_eq_true rfl) dX2_init_12 (fun q1 => ?_)
  refine GV.weq (ws' := [(o, .inr (2, [.int (nI 0), .null, .null, .null, .null])), rw_ E q1 40 (fun _ => 0)]) rfl ?_
  refine GV.putF (ws' := [(o, .inr (2, [.int (nI 0), .ref q1, .null, .null, .null])), rw_ E q1 40 (fun _ => 0)]) F hE hi fX2_15 (by first | rfl | decide) (by first | rfl | decide) 0 rfl (Nat.le_of_ble_eq_true rfl) dX2_init_14 rfl ?_
  refine GV.aload_n F dX2_init_17 rfl (lv_at hl 0 rfl) ?_
  refine GV.bipush (v := nI 40) F dX2_init_18 (by decide) ?_
  refine GV.newa F hE hA arInt (N := 40) (by decide) (by exact Nat.le_of_ble_eq_true rfl) (by exact Nat.le_of_ble_eq_true rfl) dX2_init_20 (fun q2 => ?_)
  refine GV.weq (ws' := [(o, .inr (2, [.int (nI 0), .ref q1, .null, .null, .null])), rw_ E q1 40 (fun _ => 0), rw_ E q2 40 (fun _ => 0)]) rfl ?_
  refine GV.putF (ws' := [(o, .inr (2, [.int (nI 0), .ref q1, .ref q2, .null, .null])), rw_ E q1 40 (fun _ => 0), rw_ E q2 40 (fun _ => 0)]) F hE hi fX2_19 (by first | rfl | decide) (by first | rfl | decide) 0 rfl (Nat.le_of_ble_eq_true rfl) dX2_init_22 rfl ?_
  refine GV.aload_n F dX2_init_25 rfl (lv_at hl 0 rfl) ?_
  refine GV.bipush (v := nI 40) F dX2_init_26 (by decide) ?_
  refine GV.newa F hE hA arInt (N := 40) (by decide) (by exact Nat.le_of_ble_eq_true rfl) (by exact Nat.le_of_ble_eq_true rfl) dX2_init_28 (fun q3 => ?_)
  refine GV.weq (ws' := [(o, .inr (2, [.int (nI 0), .ref q1, .ref q2, .null, .null])), rw_ E q1 40 (fun _ => 0), rw_ E q2 40 (fun _ => 0), rw_ E q3 40 (fun _ => 0)]) rfl ?_
  refine GV.putF (ws' := [(o, .inr (2, [.int (nI 0), .ref q1, .ref q2, .ref q3, .null])), rw_ E q1 40 (fun _ => 0), rw_ E q2 40 (fun _ => 0), rw_ E q3 40 (fun _ => 0)]) F hE hi fX2_22 (by first | rfl | decide) (by first | rfl | decide) 0 rfl (Nat.le_of_ble_eq_true rfl) dX2_init_30 rfl ?_
  refine GV.aload_n F dX2_init_33 rfl (lv_at hl 0 rfl) ?_
  refine GV.bipush (v := nI 40) F dX2_init_34 (by decide) ?_
  refine GV.newa F hE hA arInt (N := 40) (by decide) (by exact Nat.le_of_ble_eq_true rfl) (by exact Nat.le_of_ble_eq_true rfl) dX2_init_36 (fun q4 => ?_)
  refine GV.weq (ws' := [(o, .inr (2, [.int (nI 0), .ref q1, .ref q2, .ref q3, .null])), rw_ E q1 40 (fun _ => 0), rw_ E q2 40 (fun _ => 0), rw_ E q3 40 (fun _ => 0), rw_ E q4 40 (fun _ => 0)]) rfl ?_
  refine GV.putF (ws' := [(o, .inr (2, [.int (nI 0), .ref q1, .ref q2, .ref q3, .ref q4])), rw_ E q1 40 (fun _ => 0), rw_ E q2 40 (fun _ => 0), rw_ E q3 40 (fun _ => 0), rw_ E q4 40 (fun _ => 0)]) F hE hi fX2_25 (by first | rfl | decide) (by first | rfl | decide) 0 rfl (Nat.le_of_ble_eq_true rfl) dX2_init_38 rfl ?_
  exact GV.ret (Wn := fun u : Nat × Nat × Nat × Nat => reO E o u.1 u.2.1 u.2.2.1 u.2.2.2 (nI 0) (fun _ => 0) (fun _ => 0) (fun _ => 0) (fun _ => 0)) F hr hk ((q1, q2, q3, q4)) (trivial) rfl (Nat.le_of_ble_eq_true rfl) (Nat.le_of_ble_eq_true rfl) dX2_init_41
set_option maxHeartbeats 4000000 in
set_option maxRecDepth 100000 in
theorem c_X4_init (l : Launch) (E : EV) (o : Nat) : Cn l E yX4_init cX4_init 1 1 12 5 50 o [(o, .inr (4, [.int 0, .null, .null, .null, .null, .null]))] (S := Nat × Nat × Nat × Nat × Nat) (fun _ => True) (fun u : Nat × Nat × Nat × Nat × Nat => scO E o u.1 u.2.1 u.2.2.1 u.2.2.2.1 u.2.2.2.2 (nI 0) (fun _ => 0) (fun _ => 0) (fun _ => 0) (fun _ => 0) (fun _ => 0)) := by
  refine Cn.mk0 (by decide) rfl (Nat.le_of_ble_eq_true rfl) ?_
  intro pP eE sS mM aA bB mt cC A F hr hk hi hE hA hO ls hl
  refine GV.aload_n F dX4_init_0 rfl (lv_at hl 0 rfl) ?_
  refine GV.obj F obX4 obIm obCo hl.1 dX4_init_1 ⟨Nat.le_of_ble_eq_true rfl, Nat.le_of_ble_eq_true rfl⟩ ?_
  refine GV.aload_n F dX4_init_4 rfl (lv_at hl 0 rfl) ?_
  refine GV.iconst (v := nI 0) F dX4_init_5 (by decide) ?_
  refine GV.putf (ws' := [(o, .inr (4, [.int (nI 0), .null, .null, .null, .null, .null]))]) F hE pX4_9 (by first | rfl | decide) (by first | rfl | decide) 0 rfl (Nat.le_of_ble_eq_true rfl) dX4_init_6 rfl ?_
  refine GV.aload_n F dX4_init_9 rfl (lv_at hl 0 rfl) ?_
  refine GV.bipush (v := nI 10) F dX4_init_10 (by decide) ?_
  refine GV.newa F hE hA arInt (N := 10) (by decide) (by exact Nat.le_of_ble_eq_true rfl) (by exact Nat.le_of_ble_eq_true rfl) dX4_init_12 (fun q1 => ?_)
  refine GV.weq (ws' := [(o, .inr (4, [.int (nI 0), .null, .null, .null, .null, .null])), rw_ E q1 10 (fun _ => 0)]) rfl ?_
  refine GV.putF (ws' := [(o, .inr (4, [.int (nI 0), .ref q1, .null, .null, .null, .null])), rw_ E q1 10 (fun _ => 0)]) F hE hi fX4_15 (by first | rfl | decide) (by first | rfl | decide) 0 rfl (Nat.le_of_ble_eq_true rfl) dX4_init_14 rfl ?_
  refine GV.aload_n F dX4_init_17 rfl (lv_at hl 0 rfl) ?_
  refine GV.bipush (v := nI 10) F dX4_init_18 (by decide) ?_
  refine GV.newa F hE hA arInt (N := 10) (by decide) (by exact Nat.le_of_ble_eq_true rfl) (by exact Nat.le_of_ble_eq_true rfl) dX4_init_20 (fun q2 => ?_)
  refine GV.weq (ws' := [(o, .inr (4, [.int (nI 0), .ref q1, .null, .null, .null, .null])), rw_ E q1 10 (fun _ => 0), rw_ E q2 10 (fun _ => 0)]) rfl ?_
  refine GV.putF (ws' := [(o, .inr (4, [.int (nI 0), .ref q1, .ref q2, .null, .null, .null])), rw_ E q1 10 (fun _ => 0), rw_ E q2 10 (fun _ => 0)]) F hE hi fX4_19 (by first | rfl | decide) (by first | rfl | decide) 0 rfl (Nat.le_of_ble_eq_true rfl) dX4_init_22 rfl ?_
  refine GV.aload_n F dX4_init_25 rfl (lv_at hl 0 rfl) ?_
  refine GV.bipush (v := nI 10) F dX4_init_26 (by decide) ?_
  refine GV.newa F hE hA arInt (N := 10) (by decide) (by exact Nat.le_of_ble_eq_true rfl) (by exact Nat.le_of_ble_eq_true rfl) dX4_init_28 (fun q3 => ?_)
  refine GV.weq (ws' := [(o, .inr (4, [.int (nI 0), .ref q1, .ref q2, .null, .null, .null])), rw_ E q1 10 (fun _ => 0), rw_ E q2 10 (fun _ => 0), rw_ E q3 10 (fun _ => 0)]) rfl ?_
  refine GV.putF (ws' := [(o, .inr (4, [.int (nI 0), .ref q1, .ref q2, .ref q3, .null, .null])), rw_ E q1 10 (fun _ => 0), rw_ E q2 10 (fun _ => 0), rw_ E q3 10 (fun _ => 0)]) F hE hi fX4_22 (by first | rfl | decide) (by first | rfl | decide) 0 rfl (Nat.le_of_ble_eq_true rfl) dX4_init_30 rfl ?_
  refine GV.aload_n F dX4_init_33 rfl (lv_at hl 0 rfl) ?_
  refine GV.bipush (v := nI 10) F dX4_init_34 (by decide) ?_
  refine GV.newa F hE hA arInt (N := 10) (by decide) (by exact Nat.le_of_ble_eq_true rfl) (by exact Nat.le_of_ble_eq_true rfl) dX4_init_36 (fun q4 => ?_)
  refine GV.weq (ws' := [(o, .inr (4, [.int (nI 0), .ref q1, .ref q2, .ref q3, .null, .null])), rw_ E q1 10 (fun _ => 0), rw_ E q2 10 (fun _ => 0), rw_ E q3 10 (fun _ => 0), rw_ E q4 10 (fun _ => 0)]) rfl ?_
  refine GV.putF (ws' := [(o, .inr (4, [.int (nI 0), .ref q1, .ref q2, .ref q3, .ref q4, .null])), rw_ E q1 10 (fun _ => 0), rw_ E q2 10 (fun _ => 0), rw_ E q3 10 (fun _ => 0), rw_ E q4 10 (fun _ => 0)]) F hE hi fX4_25 (by first | rfl | decide) (by first | rfl | decide) 0 rfl (Nat.le_of_ble_eq_true rfl) dX4_init_38 rfl ?_
  refine GV.aload_n F dX4_init_41 rfl (lv_at hl 0 rfl) ?_
  refine GV.bipush (v := nI 10) F dX4_init_42 (by decide) ?_
  refine GV.newa F hE hA arInt (N := 10) (by decide) (by exact Nat.le_of_ble_eq_true rfl) (by exact Nat.le_of_ble_eq_true rfl) dX4_init_44 (fun q5 => ?_)
  refine GV.weq (ws' := [(o, .inr (4, [.int (nI 0), .ref q1, .ref q2, .ref q3, .ref q4, .null])), rw_ E q1 10 (fun _ => 0), rw_ E q2 10 (fun _ => 0), rw_ E q3 10 (fun _ => 0), rw_ E q4 10 (fun _ => 0), rw_ E q5 10 (fun _ => 0)]) rfl ?_
  refine GV.putF (ws' := [(o, .inr (4, [.int (nI 0), .ref q1, .ref q2, .ref q3, .ref q4, .ref q5])), rw_ E q1 10 (fun _ => 0), rw_ E q2 10 (fun _ => 0), rw_ E q3 10 (fun _ => 0), rw_ E q4 10 (fun _ => 0), rw_ E q5 10 (fun _ => 0)]) F hE hi fX4_28 (by first | rfl | decide) (by first | rfl | decide) 0 rfl (Nat.le_of_ble_eq_true rfl) dX4_init_46 rfl ?_
  exact GV.ret (Wn := fun u : Nat × Nat × Nat × Nat × Nat => scO E o u.1 u.2.1 u.2.2.1 u.2.2.2.1 u.2.2.2.2 (nI 0) (fun _ => 0) (fun _ => 0) (fun _ => 0) (fun _ => 0) (fun _ => 0)) F hr hk ((q1, q2, q3, q4, q5)) (trivial) rfl (Nat.le_of_ble_eq_true rfl) (Nat.le_of_ble_eq_true rfl) dX4_init_49
set_option maxHeartbeats 4000000 in
set_option maxRecDepth 100000 in
theorem c_X1_init (l : Launch) (E : EV) (o : Nat) : Cn l E yX1_init cX1_init 1 1 12 1 60 o [(o, .inr (1, [.int 0, .null]))] (S := Nat) (fun _ => True) (fun u : Nat => ptO E o u (nI 0) (fun _ => 0)) := by
  refine Cn.mk0 (by decide) rfl (Nat.le_of_ble_eq_true rfl) ?_
  intro pP eE sS mM aA bB mt cC A F hr hk hi hE hA hO ls hl
  refine GV.aload_n F dX1_init_0 rfl (lv_at hl 0 rfl) ?_
  refine GV.obj F obX1 obIm obCo hl.1 dX1_init_1 ⟨Nat.le_of_ble_eq_true rfl, Nat.le_of_ble_eq_true rfl⟩ ?_
  refine GV.aload_n F dX1_init_4 rfl (lv_at hl 0 rfl) ?_
  refine GV.iconst (v := nI 0) F dX1_init_5 (by decide) ?_
  refine GV.putf (ws' := [(o, .inr (1, [.int (nI 0), .null]))]) F hE pX1_9 (by first | rfl | decide) (by first | rfl | decide) 0 rfl (Nat.le_of_ble_eq_true rfl) dX1_init_6 rfl ?_
  refine GV.aload_n F dX1_init_9 rfl (lv_at hl 0 rfl) ?_
  refine GV.bipush (v := nI 60) F dX1_init_10 (by decide) ?_
  refine GV.newa F hE hA arInt (N := 60) (by decide) (by exact Nat.le_of_ble_eq_true rfl) (by exact Nat.le_of_ble_eq_true rfl) dX1_init_12 (fun q1 => ?_)
  refine GV.weq (ws' := [(o, .inr (1, [.int (nI 0), .null])), rw_ E q1 60 (fun _ => 0)]) rfl ?_
  refine GV.putF (ws' := [(o, .inr (1, [.int (nI 0), .ref q1])), rw_ E q1 60 (fun _ => 0)]) F hE hi fX1_15 (by first | rfl | decide) (by first | rfl | decide) 0 rfl (Nat.le_of_ble_eq_true rfl) dX1_init_14 rfl ?_
  exact GV.ret (Wn := fun u : Nat => ptO E o u (nI 0) (fun _ => 0)) F hr hk (q1) (trivial) rfl (Nat.le_of_ble_eq_true rfl) (Nat.le_of_ble_eq_true rfl) dX1_init_17
set_option maxHeartbeats 4000000 in
set_option maxRecDepth 100000 in
theorem c_X5_init (l : Launch) (E : EV) (o : Nat) : Cn l E yX5_init cX5_init 2 2 32 17 277 o [(o, .inr (5, [.int 0, .int 0, .int 0, .int 0, .int 0, .int 0, .null, .null, .null, .null, .null]))] (S := Nat → Nat) (fun u => u 0 = o) (fun u : Nat → Nat => stW E u sg0 sf0) := by
  refine Cn.mk0 (by decide) rfl (Nat.le_of_ble_eq_true rfl) ?_
  intro pP eE sS mM aA bB mt cC A F hr hk hi hE hA hO ls hl
  refine GV.aload_n F dX5_init_0 rfl (lv_at hl 0 rfl) ?_
  refine GV.obj F obX5 obIm obCo hl.1 dX5_init_1 ⟨Nat.le_of_ble_eq_true rfl, Nat.le_of_ble_eq_true rfl⟩ ?_
  refine GV.aload_n F dX5_init_4 rfl (lv_at hl 0 rfl) ?_
  refine GV.iconst (v := nI 0) F dX5_init_5 (by decide) ?_
  refine GV.putf (ws' := [(o, .inr (5, [.int (nI 0), .int 0, .int 0, .int 0, .int 0, .int 0, .null, .null, .null, .null, .null]))]) F hE pX5_9 (by first | rfl | decide) (by first | rfl | decide) 0 rfl (Nat.le_of_ble_eq_true rfl) dX5_init_6 rfl ?_
  refine GV.aload_n F dX5_init_9 rfl (lv_at hl 0 rfl) ?_
  refine GV.sipush (v := nI 2000) F dX5_init_10 (by decide) ?_
  refine GV.putf (ws' := [(o, .inr (5, [.int (nI 0), .int (nI 2000), .int 0, .int 0, .int 0, .int 0, .null, .null, .null, .null, .null]))]) F hE pX5_15 (by first | rfl | decide) (by first | rfl | decide) 0 rfl (Nat.le_of_ble_eq_true rfl) dX5_init_13 rfl ?_
  refine GV.aload_n F dX5_init_16 rfl (lv_at hl 0 rfl) ?_
  refine GV.iconst (v := nI 0) F dX5_init_17 (by decide) ?_
  refine GV.putf (ws' := [(o, .inr (5, [.int (nI 0), .int (nI 2000), .int (nI 0), .int 0, .int 0, .int 0, .null, .null, .null, .null, .null]))]) F hE pX5_18 (by first | rfl | decide) (by first | rfl | decide) 0 rfl (Nat.le_of_ble_eq_true rfl) dX5_init_18 rfl ?_
  refine GV.aload_n F dX5_init_21 rfl (lv_at hl 0 rfl) ?_
  refine GV.iconst (v := (-1)) F dX5_init_22 (by decide) ?_
  refine GV.putf (ws' := [(o, .inr (5, [.int (nI 0), .int (nI 2000), .int (nI 0), .int (-1), .int 0, .int 0, .null, .null, .null, .null, .null]))]) F hE pX5_21 (by first | rfl | decide) (by first | rfl | decide) 0 rfl (Nat.le_of_ble_eq_true rfl) dX5_init_23 rfl ?_
  refine GV.aload_n F dX5_init_26 rfl (lv_at hl 0 rfl) ?_
  refine GV.iconst (v := nI 0) F dX5_init_27 (by decide) ?_
  refine GV.putf (ws' := [(o, .inr (5, [.int (nI 0), .int (nI 2000), .int (nI 0), .int (-1), .int (nI 0), .int 0, .null, .null, .null, .null, .null]))]) F hE pX5_24 (by first | rfl | decide) (by first | rfl | decide) 0 rfl (Nat.le_of_ble_eq_true rfl) dX5_init_28 rfl ?_
  refine GV.aload_n F dX5_init_31 rfl (lv_at hl 0 rfl) ?_
  refine GV.iconst (v := nI 0) F dX5_init_32 (by decide) ?_
  refine GV.putf (ws' := [(o, .inr (5, [.int (nI 0), .int (nI 2000), .int (nI 0), .int (-1), .int (nI 0), .int (nI 0), .null, .null, .null, .null, .null]))]) F hE pX5_27 (by first | rfl | decide) (by first | rfl | decide) 0 rfl (Nat.le_of_ble_eq_true rfl) dX5_init_33 rfl ?_
  refine GV.aload_n F dX5_init_36 rfl (lv_at hl 0 rfl) ?_
  refine GV.bipush (v := nI 8) F dX5_init_37 (by decide) ?_
  refine GV.newa F hE hA arInt (N := 8) (by decide) (by exact Nat.le_of_ble_eq_true rfl) (by exact Nat.le_of_ble_eq_true rfl) dX5_init_39 (fun q1 => ?_)
  refine GV.weq (ws' := [(o, .inr (5, [.int (nI 0), .int (nI 2000), .int (nI 0), .int (-1), .int (nI 0), .int (nI 0), .null, .null, .null, .null, .null])), rw_ E q1 8 (fun _ => 0)]) rfl ?_
  refine GV.putF (ws' := [(o, .inr (5, [.int (nI 0), .int (nI 2000), .int (nI 0), .int (-1), .int (nI 0), .int (nI 0), .ref q1, .null, .null, .null, .null])), rw_ E q1 8 (fun _ => 0)]) F hE hi fX5_30 (by first | rfl | decide) (by first | rfl | decide) 0 rfl (Nat.le_of_ble_eq_true rfl) dX5_init_41 rfl ?_
  refine GV.aload_n F dX5_init_44 rfl (lv_at hl 0 rfl) ?_
  refine GV.bipush (v := nI 8) F dX5_init_45 (by decide) ?_
  refine GV.newa F hE hA arInt (N := 8) (by decide) (by exact Nat.le_of_ble_eq_true rfl) (by exact Nat.le_of_ble_eq_true rfl) dX5_init_47 (fun q2 => ?_)
  refine GV.weq (ws' := [(o, .inr (5, [.int (nI 0), .int (nI 2000), .int (nI 0), .int (-1), .int (nI 0), .int (nI 0), .ref q1, .null, .null, .null, .null])), rw_ E q1 8 (fun _ => 0), rw_ E q2 8 (fun _ => 0)]) rfl ?_
  refine GV.putF (ws' := [(o, .inr (5, [.int (nI 0), .int (nI 2000), .int (nI 0), .int (-1), .int (nI 0), .int (nI 0), .ref q1, .ref q2, .null, .null, .null])), rw_ E q1 8 (fun _ => 0), rw_ E q2 8 (fun _ => 0)]) F hE hi fX5_34 (by first | rfl | decide) (by first | rfl | decide) 0 rfl (Nat.le_of_ble_eq_true rfl) dX5_init_49 rfl ?_
  refine GV.aload_n F dX5_init_52 rfl (lv_at hl 0 rfl) ?_
  refine GV.new F hE hA (T := TX2) (N := 5) (ci := 2) (fs := [.int 0, .null, .null, .null, .null]) uX2 tyX2 tyX2_ok clX5_37 inX2 iniX2 rfl (fun j hj => by rcases (show j = 0 ∨ j = 1 ∨ j = 2 ∨ j = 3 ∨ j = 4 by omega) with rfl | rfl | rfl | rfl | rfl <;> rfl) (by exact Nat.le_of_ble_eq_true rfl) (by exact Nat.le_of_ble_eq_true rfl) dX5_init_53 (fun q3 => ?_)
  refine GV.weq (ws' := [(o, .inr (5, [.int (nI 0), .int (nI 2000), .int (nI 0), .int (-1), .int (nI 0), .int (nI 0), .ref q1, .ref q2, .null, .null, .null])), rw_ E q1 8 (fun _ => 0), rw_ E q2 8 (fun _ => 0), (q3, .inr (2, [.int 0, .null, .null, .null, .null]))]) rfl ?_
  refine GV.dup F dX5_init_56 ?_
  refine GV.callN F hE hA hO (wr := [(o, .inr (5, [.int (nI 0), .int (nI 2000), .int (nI 0), .int (-1), .int (nI 0), .int (nI 0), .ref q1, .ref q2, .null, .null, .null])), rw_ E q1 8 (fun _ => 0), rw_ E q2 8 (fun _ => 0)]) (c_X2_init l E q3) (kX5_39 F.2.2.2.2 hE.2.1 ⟨Nat.le_of_ble_eq_true rfl, Nat.le_of_ble_eq_true rfl⟩) [3] [0, 1, 2] rfl rfl (by decide) (by decide) (by decide) hl.1 (Nat.le_of_ble_eq_true rfl) (by exact ⟨Nat.le_of_ble_eq_true rfl, Nat.le_of_ble_eq_true rfl⟩) dX5_init_57 (fun u4 hu4 => ?_)
  obtain ⟨u4_0, u4_1, u4_2, u4_3⟩ := u4
  refine GV.weq (ws' := [(o, .inr (5, [.int (nI 0), .int (nI 2000), .int (nI 0), .int (-1), .int (nI 0), .int (nI 0), .ref q1, .ref q2, .null, .null, .null])), rw_ E q1 8 (fun _ => 0), rw_ E q2 8 (fun _ => 0), (q3, .inr (2, [.int (nI 0), .ref u4_0, .ref u4_1, .ref u4_2, .ref u4_3])), rw_ E u4_0 40 (fun _ => 0), rw_ E u4_1 40 (fun _ => 0), rw_ E u4_2 40 (fun _ => 0), rw_ E u4_3 40 (fun _ => 0)]) rfl ?_
  refine GV.putF (ws' := [(o, .inr (5, [.int (nI 0), .int (nI 2000), .int (nI 0), .int (-1), .int (nI 0), .int (nI 0), .ref q1, .ref q2, .ref q3, .null, .null])), rw_ E q1 8 (fun _ => 0), rw_ E q2 8 (fun _ => 0), (q3, .inr (2, [.int (nI 0), .ref u4_0, .ref u4_1, .ref u4_2, .ref u4_3])), rw_ E u4_0 40 (fun _ => 0), rw_ E u4_1 40 (fun _ => 0), rw_ E u4_2 40 (fun _ => 0), rw_ E u4_3 40 (fun _ => 0)]) F hE hi fX5_40 (by first | rfl | decide) (by first | rfl | decide) 0 rfl (Nat.le_of_ble_eq_true rfl) dX5_init_60 rfl ?_
  refine GV.aload_n F dX5_init_63 rfl (lv_at hl 0 rfl) ?_
  refine GV.new F hE hA (T := TX0) (N := 4) (ci := 0) (fs := [.int 0, .null, .null, .null]) uX0 tyX0 tyX0_ok clX5_44 inX0 iniX0 rfl (fun j hj => by rcases (show j = 0 ∨ j = 1 ∨ j = 2 ∨ j = 3 by omega) with rfl | rfl | rfl | rfl <;> rfl) (by exact Nat.le_of_ble_eq_true rfl) (by exact Nat.le_of_ble_eq_true rfl) dX5_init_64 (fun q5 => ?_)
  refine GV.weq (ws' := [(o, .inr (5, [.int (nI 0), .int (nI 2000), .int (nI 0), .int (-1), .int (nI 0), .int (nI 0), .ref q1, .ref q2, .ref q3, .null, .null])), rw_ E q1 8 (fun _ => 0), rw_ E q2 8 (fun _ => 0), (q3, .inr (2, [.int (nI 0), .ref u4_0, .ref u4_1, .ref u4_2, .ref u4_3])), rw_ E u4_0 40 (fun _ => 0), rw_ E u4_1 40 (fun _ => 0), rw_ E u4_2 40 (fun _ => 0), rw_ E u4_3 40 (fun _ => 0), (q5, .inr (0, [.int 0, .null, .null, .null]))]) rfl ?_
  refine GV.dup F dX5_init_67 ?_
  refine GV.callN F hE hA hO (wr := [(o, .inr (5, [.int (nI 0), .int (nI 2000), .int (nI 0), .int (-1), .int (nI 0), .int (nI 0), .ref q1, .ref q2, .ref q3, .null, .null])), rw_ E q1 8 (fun _ => 0), rw_ E q2 8 (fun _ => 0), (q3, .inr (2, [.int (nI 0), .ref u4_0, .ref u4_1, .ref u4_2, .ref u4_3])), rw_ E u4_0 40 (fun _ => 0), rw_ E u4_1 40 (fun _ => 0), rw_ E u4_2 40 (fun _ => 0), rw_ E u4_3 40 (fun _ => 0)]) (c_X0_init l E q5) (kX5_46 F.2.2.2.2 hE.2.1 ⟨Nat.le_of_ble_eq_true rfl, Nat.le_of_ble_eq_true rfl⟩) [8] [0, 1, 2, 3, 4, 5, 6, 7] rfl rfl (by decide) (by decide) (by decide) hl.1 (Nat.le_of_ble_eq_true rfl) (by exact ⟨Nat.le_of_ble_eq_true rfl, Nat.le_of_ble_eq_true rfl⟩) dX5_init_68 (fun u6 hu6 => ?_)
  obtain ⟨u6_0, u6_1, u6_2⟩ := u6
  refine GV.weq (ws' := [(o, .inr (5, [.int (nI 0), .int (nI 2000), .int (nI 0), .int (-1), .int (nI 0), .int (nI 0), .ref q1, .ref q2, .ref q3, .null, .null])), rw_ E q1 8 (fun _ => 0), rw_ E q2 8 (fun _ => 0), (q3, .inr (2, [.int (nI 0), .ref u4_0, .ref u4_1, .ref u4_2, .ref u4_3])), rw_ E u4_0 40 (fun _ => 0), rw_ E u4_1 40 (fun _ => 0), rw_ E u4_2 40 (fun _ => 0), rw_ E u4_3 40 (fun _ => 0), (q5, .inr (0, [.int (nI 0), .ref u6_0, .ref u6_1, .ref u6_2])), rw_ E u6_0 12 (fun _ => 0), rw_ E u6_1 12 (fun _ => 0), rw_ E u6_2 12 (fun _ => 0)]) rfl ?_
  refine GV.putF (ws' := [(o, .inr (5, [.int (nI 0), .int (nI 2000), .int (nI 0), .int (-1), .int (nI 0), .int (nI 0), .ref q1, .ref q2, .ref q3, .ref q5, .null])), rw_ E q1 8 (fun _ => 0), rw_ E q2 8 (fun _ => 0), (q3, .inr (2, [.int (nI 0), .ref u4_0, .ref u4_1, .ref u4_2, .ref u4_3])), rw_ E u4_0 40 (fun _ => 0), rw_ E u4_1 40 (fun _ => 0), rw_ E u4_2 40 (fun _ => 0), rw_ E u4_3 40 (fun _ => 0), (q5, .inr (0, [.int (nI 0), .ref u6_0, .ref u6_1, .ref u6_2])), rw_ E u6_0 12 (fun _ => 0), rw_ E u6_1 12 (fun _ => 0), rw_ E u6_2 12 (fun _ => 0)]) F hE hi fX5_47 (by first | rfl | decide) (by first | rfl | decide) 0 rfl (Nat.le_of_ble_eq_true rfl) dX5_init_71 rfl ?_
  refine GV.aload_n F dX5_init_74 rfl (lv_at hl 0 rfl) ?_
  refine GV.new F hE hA (T := TX4) (N := 6) (ci := 4) (fs := [.int 0, .null, .null, .null, .null, .null]) uX4 tyX4 tyX4_ok clX5_51 inX4 iniX4 rfl (fun j hj => by rcases (show j = 0 ∨ j = 1 ∨ j = 2 ∨ j = 3 ∨ j = 4 ∨ j = 5 by omega) with rfl | rfl | rfl | rfl | rfl | rfl <;> rfl) (by exact Nat.le_of_ble_eq_true rfl) (by exact Nat.le_of_ble_eq_true rfl) dX5_init_75 (fun q7 => ?_)
  refine GV.weq (ws' := [(o, .inr (5, [.int (nI 0), .int (nI 2000), .int (nI 0), .int (-1), .int (nI 0), .int (nI 0), .ref q1, .ref q2, .ref q3, .ref q5, .null])), rw_ E q1 8 (fun _ => 0), rw_ E q2 8 (fun _ => 0), (q3, .inr (2, [.int (nI 0), .ref u4_0, .ref u4_1, .ref u4_2, .ref u4_3])), rw_ E u4_0 40 (fun _ => 0), rw_ E u4_1 40 (fun _ => 0), rw_ E u4_2 40 (fun _ => 0), rw_ E u4_3 40 (fun _ => 0), (q5, .inr (0, [.int (nI 0), .ref u6_0, .ref u6_1, .ref u6_2])), rw_ E u6_0 12 (fun _ => 0), rw_ E u6_1 12 (fun _ => 0), rw_ E u6_2 12 (fun _ => 0), (q7, .inr (4, [.int 0, .null, .null, .null, .null, .null]))]) rfl ?_
  refine GV.dup F dX5_init_78 ?_
  refine GV.callN F hE hA hO (wr := [(o, .inr (5, [.int (nI 0), .int (nI 2000), .int (nI 0), .int (-1), .int (nI 0), .int (nI 0), .ref q1, .ref q2, .ref q3, .ref q5, .null])), rw_ E q1 8 (fun _ => 0), rw_ E q2 8 (fun _ => 0), (q3, .inr (2, [.int (nI 0), .ref u4_0, .ref u4_1, .ref u4_2, .ref u4_3])), rw_ E u4_0 40 (fun _ => 0), rw_ E u4_1 40 (fun _ => 0), rw_ E u4_2 40 (fun _ => 0), rw_ E u4_3 40 (fun _ => 0), (q5, .inr (0, [.int (nI 0), .ref u6_0, .ref u6_1, .ref u6_2])), rw_ E u6_0 12 (fun _ => 0), rw_ E u6_1 12 (fun _ => 0), rw_ E u6_2 12 (fun _ => 0)]) (c_X4_init l E q7) (kX5_53 F.2.2.2.2 hE.2.1 ⟨Nat.le_of_ble_eq_true rfl, Nat.le_of_ble_eq_true rfl⟩) [12] [0, 1, 2, 3, 4, 5, 6, 7, 8, 9, 10, 11] rfl rfl (by decide) (by decide) (by decide) hl.1 (Nat.le_of_ble_eq_true rfl) (by exact ⟨Nat.le_of_ble_eq_true rfl, Nat.le_of_ble_eq_true rfl⟩) dX5_init_79 (fun u8 hu8 => ?_)
  obtain ⟨u8_0, u8_1, u8_2, u8_3, u8_4⟩ := u8
  refine GV.weq (ws' := [(o, .inr (5, [.int (nI 0), .int (nI 2000), .int (nI 0), .int (-1), .int (nI 0), .int (nI 0), .ref q1, .ref q2, .ref q3, .ref q5, .null])), rw_ E q1 8 (fun _ => 0), rw_ E q2 8 (fun _ => 0), (q3, .inr (2, [.int (nI 0), .ref u4_0, .ref u4_1, .ref u4_2, .ref u4_3])), rw_ E u4_0 40 (fun _ => 0), rw_ E u4_1 40 (fun _ => 0), rw_ E u4_2 40 (fun _ => 0), rw_ E u4_3 40 (fun _ => 0), (q5, .inr (0, [.int (nI 0), .ref u6_0, .ref u6_1, .ref u6_2])), rw_ E u6_0 12 (fun _ => 0), rw_ E u6_1 12 (fun _ => 0), rw_ E u6_2 12 (fun _ => 0), (q7, .inr (4, [.int (nI 0), .ref u8_0, .ref u8_1, .ref u8_2, .ref u8_3, .ref u8_4])), rw_ E u8_0 10 (fun _ => 0), rw_ E u8_1 10 (fun _ => 0), rw_ E u8_2 10 (fun _ => 0), rw_ E u8_3 10 (fun _ => 0), rw_ E u8_4 10 (fun _ => 0)]) rfl ?_
  refine GV.putF (ws' := [(o, .inr (5, [.int (nI 0), .int (nI 2000), .int (nI 0), .int (-1), .int (nI 0), .int (nI 0), .ref q1, .ref q2, .ref q3, .ref q5, .ref q7])), rw_ E q1 8 (fun _ => 0), rw_ E q2 8 (fun _ => 0), (q3, .inr (2, [.int (nI 0), .ref u4_0, .ref u4_1, .ref u4_2, .ref u4_3])), rw_ E u4_0 40 (fun _ => 0), rw_ E u4_1 40 (fun _ => 0), rw_ E u4_2 40 (fun _ => 0), rw_ E u4_3 40 (fun _ => 0), (q5, .inr (0, [.int (nI 0), .ref u6_0, .ref u6_1, .ref u6_2])), rw_ E u6_0 12 (fun _ => 0), rw_ E u6_1 12 (fun _ => 0), rw_ E u6_2 12 (fun _ => 0), (q7, .inr (4, [.int (nI 0), .ref u8_0, .ref u8_1, .ref u8_2, .ref u8_3, .ref u8_4])), rw_ E u8_0 10 (fun _ => 0), rw_ E u8_1 10 (fun _ => 0), rw_ E u8_2 10 (fun _ => 0), rw_ E u8_3 10 (fun _ => 0), rw_ E u8_4 10 (fun _ => 0)]) F hE hi fX5_54 (by first | rfl | decide) (by first | rfl | decide) 0 rfl (Nat.le_of_ble_eq_true rfl) dX5_init_82 rfl ?_
  refine GV.iconst (v := nI 0) F dX5_init_85 (by decide) ?_
  refine GV.istore_n (lv' := [(1, .int (nI 0)), (0, .ref o)]) F dX5_init_86 rfl hl (by decide) rfl (fun ls hl => ?_)
  refine GV.iload_n F dX5_init_87 rfl (lv_at hl 0 rfl) ?_
  refine GV.aload_n F dX5_init_88 rfl (lv_at hl 1 rfl) ?_
  refine GV.getf F hE gX5_30 0 rfl rfl dX5_init_89 ?_
  refine GV.alen F hE 1 rfl dX5_init_92 ?_
  refine GV.ge_f (tgt := 111) F dX5_init_93 (by decide) (by decide) ?_
  refine GV.aload_n F dX5_init_96 rfl (lv_at hl 1 rfl) ?_
  refine GV.getf F hE gX5_30 0 rfl rfl dX5_init_97 ?_
  refine GV.iload_n F dX5_init_100 rfl (lv_at hl 0 rfl) ?_
  refine GV.sipush (v := nI 170) F dX5_init_101 (by decide) ?_
  refine GV.iast (ws' := [(o, .inr (5, [.int (nI 0), .int (nI 2000), .int (nI 0), .int (-1), .int (nI 0), .int (nI 0), .ref q1, .ref q2, .ref q3, .ref q5, .ref q7])), rw_ E q1 8 (upd (fun _ => 0) 0 (nI 170)), rw_ E q2 8 (fun _ => 0), (q3, .inr (2, [.int (nI 0), .ref u4_0, .ref u4_1, .ref u4_2, .ref u4_3])), rw_ E u4_0 40 (fun _ => 0), rw_ E u4_1 40 (fun _ => 0), rw_ E u4_2 40 (fun _ => 0), rw_ E u4_3 40 (fun _ => 0), (q5, .inr (0, [.int (nI 0), .ref u6_0, .ref u6_1, .ref u6_2])), rw_ E u6_0 12 (fun _ => 0), rw_ E u6_1 12 (fun _ => 0), rw_ E u6_2 12 (fun _ => 0), (q7, .inr (4, [.int (nI 0), .ref u8_0, .ref u8_1, .ref u8_2, .ref u8_3, .ref u8_4])), rw_ E u8_0 10 (fun _ => 0), rw_ E u8_1 10 (fun _ => 0), rw_ E u8_2 10 (fun _ => 0), rw_ E u8_3 10 (fun _ => 0), rw_ E u8_4 10 (fun _ => 0)]) F hE 1 rfl (by decide) (by decide) dX5_init_104 rfl ?_
  refine GV.iinc (y := nI 1) (j := 0) (lv' := [(1, .int (nI 1)), (0, .ref o)]) F dX5_init_105 hl rfl (by decide) (by decide) rfl (fun ls hl => ?_)
  refine GV.goto (tgt := 87) F dX5_init_108 (by decide) ?_
  refine GV.iload_n F dX5_init_87 rfl (lv_at hl 0 rfl) ?_
  refine GV.aload_n F dX5_init_88 rfl (lv_at hl 1 rfl) ?_
  refine GV.getf F hE gX5_30 0 rfl rfl dX5_init_89 ?_
  refine GV.alen F hE 1 rfl dX5_init_92 ?_
  refine GV.ge_f (tgt := 111) F dX5_init_93 (by decide) (by decide) ?_
  refine GV.aload_n F dX5_init_96 rfl (lv_at hl 1 rfl) ?_
  refine GV.getf F hE gX5_30 0 rfl rfl dX5_init_97 ?_
  refine GV.iload_n F dX5_init_100 rfl (lv_at hl 0 rfl) ?_
  refine GV.sipush (v := nI 170) F dX5_init_101 (by decide) ?_
  refine GV.iast (ws' := [(o, .inr (5, [.int (nI 0), .int (nI 2000), .int (nI 0), .int (-1), .int (nI 0), .int (nI 0), .ref q1, .ref q2, .ref q3, .ref q5, .ref q7])), rw_ E q1 8 (upd (upd (fun _ => 0) 0 (nI 170)) 1 (nI 170)), rw_ E q2 8 (fun _ => 0), (q3, .inr (2, [.int (nI 0), .ref u4_0, .ref u4_1, .ref u4_2, .ref u4_3])), rw_ E u4_0 40 (fun _ => 0), rw_ E u4_1 40 (fun _ => 0), rw_ E u4_2 40 (fun _ => 0), rw_ E u4_3 40 (fun _ => 0), (q5, .inr (0, [.int (nI 0), .ref u6_0, .ref u6_1, .ref u6_2])), rw_ E u6_0 12 (fun _ => 0), rw_ E u6_1 12 (fun _ => 0), rw_ E u6_2 12 (fun _ => 0), (q7, .inr (4, [.int (nI 0), .ref u8_0, .ref u8_1, .ref u8_2, .ref u8_3, .ref u8_4])), rw_ E u8_0 10 (fun _ => 0), rw_ E u8_1 10 (fun _ => 0), rw_ E u8_2 10 (fun _ => 0), rw_ E u8_3 10 (fun _ => 0), rw_ E u8_4 10 (fun _ => 0)]) F hE 1 rfl (by decide) (by decide) dX5_init_104 rfl ?_
  refine GV.iinc (y := nI 2) (j := 0) (lv' := [(1, .int (nI 2)), (0, .ref o)]) F dX5_init_105 hl rfl (by decide) (by decide) rfl (fun ls hl => ?_)
  refine GV.goto (tgt := 87) F dX5_init_108 (by decide) ?_
  refine GV.iload_n F dX5_init_87 rfl (lv_at hl 0 rfl) ?_
  refine GV.aload_n F dX5_init_88 rfl (lv_at hl 1 rfl) ?_
  refine GV.getf F hE gX5_30 0 rfl rfl dX5_init_89 ?_
  refine GV.alen F hE 1 rfl dX5_init_92 ?_
  refine GV.ge_f (tgt := 111) F dX5_init_93 (by decide) (by decide) ?_
  refine GV.aload_n F dX5_init_96 rfl (lv_at hl 1 rfl) ?_
  refine GV.getf F hE gX5_30 0 rfl rfl dX5_init_97 ?_
  refine GV.iload_n F dX5_init_100 rfl (lv_at hl 0 rfl) ?_
  refine GV.sipush (v := nI 170) F dX5_init_101 (by decide) ?_
  refine GV.iast (ws' := [(o, .inr (5, [.int (nI 0), .int (nI 2000), .int (nI 0), .int (-1), .int (nI 0), .int (nI 0), .ref q1, .ref q2, .ref q3, .ref q5, .ref q7])), rw_ E q1 8 (upd (upd (upd (fun _ => 0) 0 (nI 170)) 1 (nI 170)) 2 (nI 170)), rw_ E q2 8 (fun _ => 0), (q3, .inr (2, [.int (nI 0), .ref u4_0, .ref u4_1, .ref u4_2, .ref u4_3])), rw_ E u4_0 40 (fun _ => 0), rw_ E u4_1 40 (fun _ => 0), rw_ E u4_2 40 (fun _ => 0), rw_ E u4_3 40 (fun _ => 0), (q5, .inr (0, [.int (nI 0), .ref u6_0, .ref u6_1, .ref u6_2])), rw_ E u6_0 12 (fun _ => 0), rw_ E u6_1 12 (fun _ => 0), rw_ E u6_2 12 (fun _ => 0), (q7, .inr (4, [.int (nI 0), .ref u8_0, .ref u8_1, .ref u8_2, .ref u8_3, .ref u8_4])), rw_ E u8_0 10 (fun _ => 0), rw_ E u8_1 10 (fun _ => 0), rw_ E u8_2 10 (fun _ => 0), rw_ E u8_3 10 (fun _ => 0), rw_ E u8_4 10 (fun _ => 0)]) F hE 1 rfl (by decide) (by decide) dX5_init_104 rfl ?_
  refine GV.iinc (y := nI 3) (j := 0) (lv' := [(1, .int (nI 3)), (0, .ref o)]) F dX5_init_105 hl rfl (by decide) (by decide) rfl (fun ls hl => ?_)
  refine GV.goto (tgt := 87) F dX5_init_108 (by decide) ?_
  refine GV.iload_n F dX5_init_87 rfl (lv_at hl 0 rfl) ?_
  refine GV.aload_n F dX5_init_88 rfl (lv_at hl 1 rfl) ?_
  refine GV.getf F hE gX5_30 0 rfl rfl dX5_init_89 ?_
  refine GV.alen F hE 1 rfl dX5_init_92 ?_
  refine GV.ge_f (tgt := 111) F dX5_init_93 (by decide) (by decide) ?_
  refine GV.aload_n F dX5_init_96 rfl (lv_at hl 1 rfl) ?_
  refine GV.getf F hE gX5_30 0 rfl rfl dX5_init_97 ?_
  refine GV.iload_n F dX5_init_100 rfl (lv_at hl 0 rfl) ?_
  refine GV.sipush (v := nI 170) F dX5_init_101 (by decide) ?_
  refine GV.iast (ws' := [(o, .inr (5, [.int (nI 0), .int (nI 2000), .int (nI 0), .int (-1), .int (nI 0), .int (nI 0), .ref q1, .ref q2, .ref q3, .ref q5, .ref q7])), rw_ E q1 8 (upd (upd (upd (upd (fun _ => 0) 0 (nI 170)) 1 (nI 170)) 2 (nI 170)) 3 (nI 170)), rw_ E q2 8 (fun _ => 0), (q3, .inr (2, [.int (nI 0), .ref u4_0, .ref u4_1, .ref u4_2, .ref u4_3])), rw_ E u4_0 40 (fun _ => 0), rw_ E u4_1 40 (fun _ => 0), rw_ E u4_2 40 (fun _ => 0), rw_ E u4_3 40 (fun _ => 0), (q5, .inr (0, [.int (nI 0), .ref u6_0, .ref u6_1, .ref u6_2])), rw_ E u6_0 12 (fun _ => 0), rw_ E u6_1 12 (fun _ => 0), rw_ E u6_2 12 (fun _ => 0), (q7, .inr (4, [.int (nI 0), .ref u8_0, .ref u8_1, .ref u8_2, .ref u8_3, .ref u8_4])), rw_ E u8_0 10 (fun _ => 0), rw_ E u8_1 10 (fun _ => 0), rw_ E u8_2 10 (fun _ => 0), rw_ E u8_3 10 (fun _ => 0), rw_ E u8_4 10 (fun _ => 0)]) F hE 1 rfl (by decide) (by decide) dX5_init_104 rfl ?_
  refine GV.iinc (y := nI 4) (j := 0) (lv' := [(1, .int (nI 4)), (0, .ref o)]) F dX5_init_105 hl rfl (by decide) (by decide) rfl (fun ls hl => ?_)
  refine GV.goto (tgt := 87) F dX5_init_108 (by decide) ?_
  refine GV.iload_n F dX5_init_87 rfl (lv_at hl 0 rfl) ?_
  refine GV.aload_n F dX5_init_88 rfl (lv_at hl 1 rfl) ?_
  refine GV.getf F hE gX5_30 0 rfl rfl dX5_init_89 ?_
  refine GV.alen F hE 1 rfl dX5_init_92 ?_
  refine GV.ge_f (tgt := 111) F dX5_init_93 (by decide) (by decide) ?_
  refine GV.aload_n F dX5_init_96 rfl (lv_at hl 1 rfl) ?_
  refine GV.getf F hE gX5_30 0 rfl rfl dX5_init_97 ?_
  refine GV.iload_n F dX5_init_100 rfl (lv_at hl 0 rfl) ?_
  refine GV.sipush (v := nI 170) F dX5_init_101 (by decide) ?_
  refine GV.iast (ws' := [(o, .inr (5, [.int (nI 0), .int (nI 2000), .int (nI 0), .int (-1), .int (nI 0), .int (nI 0), .ref q1, .ref q2, .ref q3, .ref q5, .ref q7])), rw_ E q1 8 (upd (upd (upd (upd (upd (fun _ => 0) 0 (nI 170)) 1 (nI 170)) 2 (nI 170)) 3 (nI 170)) 4 (nI 170)), rw_ E q2 8 (fun _ => 0), (q3, .inr (2, [.int (nI 0), .ref u4_0, .ref u4_1, .ref u4_2, .ref u4_3])), rw_ E u4_0 40 (fun _ => 0), rw_ E u4_1 40 (fun _ => 0), rw_ E u4_2 40 (fun _ => 0), rw_ E u4_3 40 (fun _ => 0), (q5, .inr (0, [.int (nI 0), .ref u6_0, .ref u6_1, .ref u6_2])), rw_ E u6_0 12 (fun _ => 0), rw_ E u6_1 12 (fun _ => 0), rw_ E u6_2 12 (fun _ => 0), (q7, .inr (4, [.int (nI 0), .ref u8_0, .ref u8_1, .ref u8_2, .ref u8_3, .ref u8_4])), rw_ E u8_0 10 (fun _ => 0), rw_ E u8_1 10 (fun _ => 0), rw_ E u8_2 10 (fun _ => 0), rw_ E u8_3 10 (fun _ => 0), rw_ E u8_4 10 (fun _ => 0)]) F hE 1 rfl (by decide) (by decide) dX5_init_104 rfl ?_
  refine GV.iinc (y := nI 5) (j := 0) (lv' := [(1, .int (nI 5)), (0, .ref o)]) F dX5_init_105 hl rfl (by decide) (by decide) rfl (fun ls hl => ?_)
  refine GV.goto (tgt := 87) F dX5_init_108 (by decide) ?_
  refine GV.iload_n F dX5_init_87 rfl (lv_at hl 0 rfl) ?_
  refine GV.aload_n F dX5_init_88 rfl (lv_at hl 1 rfl) ?_
  refine GV.getf F hE gX5_30 0 rfl rfl dX5_init_89 ?_
  refine GV.alen F hE 1 rfl dX5_init_92 ?_
  refine GV.ge_f (tgt := 111) F dX5_init_93 (by decide) (by decide) ?_
  refine GV.aload_n F dX5_init_96 rfl (lv_at hl 1 rfl) ?_
  refine GV.getf F hE gX5_30 0 rfl rfl dX5_init_97 ?_
  refine GV.iload_n F dX5_init_100 rfl (lv_at hl 0 rfl) ?_
  refine GV.sipush (v := nI 170) F dX5_init_101 (by decide) ?_
  refine GV.iast (ws' := [(o, .inr (5, [.int (nI 0), .int (nI 2000), .int (nI 0), .int (-1), .int (nI 0), .int (nI 0), .ref q1, .ref q2, .ref q3, .ref q5, .ref q7])), rw_ E q1 8 (upd (upd (upd (upd (upd (upd (fun _ => 0) 0 (nI 170)) 1 (nI 170)) 2 (nI 170)) 3 (nI 170)) 4 (nI 170)) 5 (nI 170)), rw_ E q2 8 (fun _ => 0), (q3, .inr (2, [.int (nI 0), .ref u4_0, .ref u4_1, .ref u4_2, .ref u4_3])), rw_ E u4_0 40 (fun _ => 0), rw_ E u4_1 40 (fun _ => 0), rw_ E u4_2 40 (fun _ => 0), rw_ E u4_3 40 (fun _ => 0), (q5, .inr (0, [.int (nI 0), .ref u6_0, .ref u6_1, .ref u6_2])), rw_ E u6_0 12 (fun _ => 0), rw_ E u6_1 12 (fun _ => 0), rw_ E u6_2 12 (fun _ => 0), (q7, .inr (4, [.int (nI 0), .ref u8_0, .ref u8_1, .ref u8_2, .ref u8_3, .ref u8_4])), rw_ E u8_0 10 (fun _ => 0), rw_ E u8_1 10 (fun _ => 0), rw_ E u8_2 10 (fun _ => 0), rw_ E u8_3 10 (fun _ => 0), rw_ E u8_4 10 (fun _ => 0)]) F hE 1 rfl (by decide) (by decide) dX5_init_104 rfl ?_
  refine GV.iinc (y := nI 6) (j := 0) (lv' := [(1, .int (nI 6)), (0, .ref o)]) F dX5_init_105 hl rfl (by decide) (by decide) rfl (fun ls hl => ?_)
  refine GV.goto (tgt := 87) F dX5_init_108 (by decide) ?_
  refine GV.iload_n F dX5_init_87 rfl (lv_at hl 0 rfl) ?_
  refine GV.aload_n F dX5_init_88 rfl (lv_at hl 1 rfl) ?_
  refine GV.getf F hE gX5_30 0 rfl rfl dX5_init_89 ?_
  refine GV.alen F hE 1 rfl dX5_init_92 ?_
  refine GV.ge_f (tgt := 111) F dX5_init_93 (by decide) (by decide) ?_
  refine GV.aload_n F dX5_init_96 rfl (lv_at hl 1 rfl) ?_
  refine GV.getf F hE gX5_30 0 rfl rfl dX5_init_97 ?_
  refine GV.iload_n F dX5_init_100 rfl (lv_at hl 0 rfl) ?_
  refine GV.sipush (v := nI 170) F dX5_init_101 (by decide) ?_
  refine GV.iast (ws' := [(o, .inr (5, [.int (nI 0), .int (nI 2000), .int (nI 0), .int (-1), .int (nI 0), .int (nI 0), .ref q1, .ref q2, .ref q3, .ref q5, .ref q7])), rw_ E q1 8 (upd (upd (upd (upd (upd (upd (upd (fun _ => 0) 0 (nI 170)) 1 (nI 170)) 2 (nI 170)) 3 (nI 170)) 4 (nI 170)) 5 (nI 170)) 6 (nI 170)), rw_ E q2 8 (fun _ => 0), (q3, .inr (2, [.int (nI 0), .ref u4_0, .ref u4_1, .ref u4_2, .ref u4_3])), rw_ E u4_0 40 (fun _ => 0), rw_ E u4_1 40 (fun _ => 0), rw_ E u4_2 40 (fun _ => 0), rw_ E u4_3 40 (fun _ => 0), (q5, .inr (0, [.int (nI 0), .ref u6_0, .ref u6_1, .ref u6_2])), rw_ E u6_0 12 (fun _ => 0), rw_ E u6_1 12 (fun _ => 0), rw_ E u6_2 12 (fun _ => 0), (q7, .inr (4, [.int (nI 0), .ref u8_0, .ref u8_1, .ref u8_2, .ref u8_3, .ref u8_4])), rw_ E u8_0 10 (fun _ => 0), rw_ E u8_1 10 (fun _ => 0), rw_ E u8_2 10 (fun _ => 0), rw_ E u8_3 10 (fun _ => 0), rw_ E u8_4 10 (fun _ => 0)]) F hE 1 rfl (by decide) (by decide) dX5_init_104 rfl ?_
  refine GV.iinc (y := nI 7) (j := 0) (lv' := [(1, .int (nI 7)), (0, .ref o)]) F dX5_init_105 hl rfl (by decide) (by decide) rfl (fun ls hl => ?_)
  refine GV.goto (tgt := 87) F dX5_init_108 (by decide) ?_
  refine GV.iload_n F dX5_init_87 rfl (lv_at hl 0 rfl) ?_
  refine GV.aload_n F dX5_init_88 rfl (lv_at hl 1 rfl) ?_
  refine GV.getf F hE gX5_30 0 rfl rfl dX5_init_89 ?_
  refine GV.alen F hE 1 rfl dX5_init_92 ?_
  refine GV.ge_f (tgt := 111) F dX5_init_93 (by decide) (by decide) ?_
  refine GV.aload_n F dX5_init_96 rfl (lv_at hl 1 rfl) ?_
  refine GV.getf F hE gX5_30 0 rfl rfl dX5_init_97 ?_
  refine GV.iload_n F dX5_init_100 rfl (lv_at hl 0 rfl) ?_
  refine GV.sipush (v := nI 170) F dX5_init_101 (by decide) ?_
  refine GV.iast (ws' := [(o, .inr (5, [.int (nI 0), .int (nI 2000), .int (nI 0), .int (-1), .int (nI 0), .int (nI 0), .ref q1, .ref q2, .ref q3, .ref q5, .ref q7])), rw_ E q1 8 (upd (upd (upd (upd (upd (upd (upd (upd (fun _ => 0) 0 (nI 170)) 1 (nI 170)) 2 (nI 170)) 3 (nI 170)) 4 (nI 170)) 5 (nI 170)) 6 (nI 170)) 7 (nI 170)), rw_ E q2 8 (fun _ => 0), (q3, .inr (2, [.int (nI 0), .ref u4_0, .ref u4_1, .ref u4_2, .ref u4_3])), rw_ E u4_0 40 (fun _ => 0), rw_ E u4_1 40 (fun _ => 0), rw_ E u4_2 40 (fun _ => 0), rw_ E u4_3 40 (fun _ => 0), (q5, .inr (0, [.int (nI 0), .ref u6_0, .ref u6_1, .ref u6_2])), rw_ E u6_0 12 (fun _ => 0), rw_ E u6_1 12 (fun _ => 0), rw_ E u6_2 12 (fun _ => 0), (q7, .inr (4, [.int (nI 0), .ref u8_0, .ref u8_1, .ref u8_2, .ref u8_3, .ref u8_4])), rw_ E u8_0 10 (fun _ => 0), rw_ E u8_1 10 (fun _ => 0), rw_ E u8_2 10 (fun _ => 0), rw_ E u8_3 10 (fun _ => 0), rw_ E u8_4 10 (fun _ => 0)]) F hE 1 rfl (by decide) (by decide) dX5_init_104 rfl ?_
  refine GV.iinc (y := nI 8) (j := 0) (lv' := [(1, .int (nI 8)), (0, .ref o)]) F dX5_init_105 hl rfl (by decide) (by decide) rfl (fun ls hl => ?_)
  refine GV.goto (tgt := 87) F dX5_init_108 (by decide) ?_
  refine GV.iload_n F dX5_init_87 rfl (lv_at hl 0 rfl) ?_
  refine GV.aload_n F dX5_init_88 rfl (lv_at hl 1 rfl) ?_
  refine GV.getf F hE gX5_30 0 rfl rfl dX5_init_89 ?_
  refine GV.alen F hE 1 rfl dX5_init_92 ?_
  refine GV.ge_t (tgt := 111) F dX5_init_93 (by decide) (by decide) ?_
  exact GV.ret (Wn := fun u : Nat → Nat => stW E u sg0 sf0) F hr hk ((fun j => match j with | 0 => o | 1 => q1 | 2 => q2 | 3 => q3 | 4 => q5 | 5 => q7 | 6 => u4_0 | 7 => u4_1 | 8 => u4_2 | 9 => u4_3 | 10 => u6_0 | 11 => u6_1 | 12 => u6_2 | 13 => u8_0 | 14 => u8_1 | 15 => u8_2 | 16 => u8_3 | _ => u8_4)) (rfl) rfl (Nat.le_of_ble_eq_true rfl) (Nat.le_of_ble_eq_true rfl) dX5_init_111
