/-! the constructors of the leaves -/
theorem in_X8_init_X8 : ∀ w ∈ wsX80, w ∈ wsX8_init := by decide +kernel
theorem ff_X8_init_7 : FF wsX8_init RX8 7 8 0 false .int := ⟨RX8, TX8, 3, tyX8, rfl, by decide, in_X8_init_X8, by decide +kernel, tyX8_ok, nmX8, rfl, by decide +kernel, rfl⟩
theorem ff_X8_init_13 : FF wsX8_init RX8 13 8 1 false .int := ⟨RX8, TX8, 3, tyX8, rfl, by decide, in_X8_init_X8, by decide +kernel, tyX8_ok, nmX8, rfl, by decide +kernel, rfl⟩
theorem ff_X8_init_16 : FF wsX8_init RX8 16 8 2 false .int := ⟨RX8, TX8, 3, tyX8, rfl, by decide, in_X8_init_X8, by decide +kernel, tyX8_ok, nmX8, rfl, by decide +kernel, rfl⟩
set_option maxHeartbeats 4000000 in
set_option maxRecDepth 100000 in
/-- Whole() -/
theorem cm_X8 (l : Launch) (G : Geo) (h : Nat) : CM l G yX8_init wsX8_init 1 0 0 [.ref h] [(h, .inr (8, [.int 0, .int 0, .int 0]))] (fun Lm => Lm = [(h, .inr (8, [.int 1, .int 1, .int 0]))]) := by
  refine CM.of (cc := cX8_init) (maxL := 1) (by decide) rfl rfl (Nat.le_of_ble_eq_true rfl) ?_
  intro A X o hi rt
  refine k_aload_n o dX8_init_0 rfl ?_
  refine k_obj o (by decide +kernel) (by decide +kernel) (by decide +kernel) (by decide) dX8_init_1 ?_
  refine k_aload_n o dX8_init_4 rfl ?_
  refine k_iconst o dX8_init_5 (x := 1) (by decide) ?_
  refine k_put o ff_X8_init_7 (q0 := 0) rfl (Nat.le_of_ble_eq_true rfl) dX8_init_6 (L' := [(h, .inr (8, [.int 1, .int 0, .int 0]))]) rfl ?_
  refine k_aload_n o dX8_init_9 rfl ?_
  refine k_iconst o dX8_init_10 (x := 1) (by decide) ?_
  refine k_put o ff_X8_init_13 (q0 := 0) rfl (Nat.le_of_ble_eq_true rfl) dX8_init_11 (L' := [(h, .inr (8, [.int 1, .int 1, .int 0]))]) rfl ?_
  refine k_aload_n o dX8_init_14 rfl ?_
  refine k_iconst o dX8_init_15 (x := 0) (by decide) ?_
  refine k_put o ff_X8_init_16 (q0 := 0) rfl (Nat.le_of_ble_eq_true rfl) dX8_init_16 (L' := [(h, .inr (8, [.int 1, .int 1, .int 0]))]) rfl ?_
  exact k_ret o rt (Nat.le_of_ble_eq_true rfl) (Nat.le_of_ble_eq_true rfl) dX8_init_19 rfl

theorem in_X0_init_X0 : ∀ w ∈ wsX00, w ∈ wsX0_init := by decide +kernel
theorem ff_X0_init_7 : FF wsX0_init RX0 7 0 0 true (.object "PieceSwarm$Crowd") := ⟨RX0, TX0, 1, tyX0, rfl, by decide, in_X0_init_X0, by decide +kernel, tyX0_ok, nmX0, rfl, by decide +kernel, rfl⟩
set_option maxHeartbeats 4000000 in
set_option maxRecDepth 100000 in
/-- Arrival -/
theorem cm_X0 (l : Launch) (G : Geo) (h : Nat) (c0 : Nat) : CM l G yX0_init wsX0_init 1 0 0 [.ref h, .ref c0] [(h, .inr (0, [.null]))] (fun Lm => Lm = [(h, .inr (0, [.ref c0]))]) := by
  refine CM.of (cc := cX0_init) (maxL := 2) (by decide) rfl rfl (Nat.le_of_ble_eq_true rfl) ?_
  intro A X o hi rt
  refine k_aload_n o dX0_init_0 rfl ?_
  refine k_obj o (by decide +kernel) (by decide +kernel) (by decide +kernel) (by decide) dX0_init_1 ?_
  refine k_aload_n o dX0_init_4 rfl ?_
  refine k_aload_n o dX0_init_5 rfl ?_
  refine k_putF o hi ff_X0_init_7 rfl rfl (q0 := 0) rfl (Nat.le_of_ble_eq_true rfl) dX0_init_6 (L' := [(h, .inr (0, [.ref c0]))]) rfl ?_
  exact k_ret o rt (Nat.le_of_ble_eq_true rfl) (Nat.le_of_ble_eq_true rfl) dX0_init_9 rfl

theorem in_X4_init_X4 : ∀ w ∈ wsX40, w ∈ wsX4_init := by decide +kernel
theorem ff_X4_init_9 : FF wsX4_init RX4 9 4 0 true (.object "PieceSwarm$Crowd") := ⟨RX4, TX4, 1, tyX4, rfl, by decide, in_X4_init_X4, by decide +kernel, tyX4_ok, nmX4, rfl, by decide +kernel, rfl⟩
set_option maxHeartbeats 4000000 in
set_option maxRecDepth 100000 in
/-- Opening -/
theorem cm_X4 (l : Launch) (G : Geo) (h : Nat) (c0 : Nat) : CM l G yX4_init wsX4_init 1 0 0 [.ref h, .ref c0] [(h, .inr (4, [.null]))] (fun Lm => Lm = [(h, .inr (4, [.ref c0]))]) := by
  refine CM.of (cc := cX4_init) (maxL := 2) (by decide) rfl rfl (Nat.le_of_ble_eq_true rfl) ?_
  intro A X o hi rt
  refine k_aload_n o dX4_init_0 rfl ?_
  refine k_obj o (by decide +kernel) (by decide +kernel) (by decide +kernel) (by decide) dX4_init_1 ?_
  refine k_aload_n o dX4_init_4 rfl ?_
  refine k_aload_n o dX4_init_5 rfl ?_
  refine k_putF o hi ff_X4_init_9 rfl rfl (q0 := 0) rfl (Nat.le_of_ble_eq_true rfl) dX4_init_6 (L' := [(h, .inr (4, [.ref c0]))]) rfl ?_
  exact k_ret o rt (Nat.le_of_ble_eq_true rfl) (Nat.le_of_ble_eq_true rfl) dX4_init_9 rfl

theorem in_X1_init_X1 : ∀ w ∈ wsX10, w ∈ wsX1_init := by decide +kernel
theorem ff_X1_init_9 : FF wsX1_init RX1 9 1 0 true (.object "PieceSwarm$Crowd") := ⟨RX1, TX1, 1, tyX1, rfl, by decide, in_X1_init_X1, by decide +kernel, tyX1_ok, nmX1, rfl, by decide +kernel, rfl⟩
set_option maxHeartbeats 4000000 in
set_option maxRecDepth 100000 in
/-- Asking -/
theorem cm_X1 (l : Launch) (G : Geo) (h : Nat) (c0 : Nat) : CM l G yX1_init wsX1_init 1 0 0 [.ref h, .ref c0] [(h, .inr (1, [.null]))] (fun Lm => Lm = [(h, .inr (1, [.ref c0]))]) := by
  refine CM.of (cc := cX1_init) (maxL := 2) (by decide) rfl rfl (Nat.le_of_ble_eq_true rfl) ?_
  intro A X o hi rt
  refine k_aload_n o dX1_init_0 rfl ?_
  refine k_obj o (by decide +kernel) (by decide +kernel) (by decide +kernel) (by decide) dX1_init_1 ?_
  refine k_aload_n o dX1_init_4 rfl ?_
  refine k_aload_n o dX1_init_5 rfl ?_
  refine k_putF o hi ff_X1_init_9 rfl rfl (q0 := 0) rfl (Nat.le_of_ble_eq_true rfl) dX1_init_6 (L' := [(h, .inr (1, [.ref c0]))]) rfl ?_
  exact k_ret o rt (Nat.le_of_ble_eq_true rfl) (Nat.le_of_ble_eq_true rfl) dX1_init_9 rfl

theorem in_X5_init_X5 : ∀ w ∈ wsX50, w ∈ wsX5_init := by decide +kernel
theorem ar_X5_init_I : Cond.arrayClass .int ∈ wsX5_init := by decide +kernel
theorem ff_X5_init_11 : FF wsX5_init RX5 11 5 0 true (.array .int) := ⟨RX5, TX5, 7, tyX5, rfl, by decide, in_X5_init_X5, by decide +kernel, tyX5_ok, nmX5, rfl, by decide +kernel, rfl⟩
theorem ff_X5_init_15 : FF wsX5_init RX5 15 5 1 true (.array .int) := ⟨RX5, TX5, 7, tyX5, rfl, by decide, in_X5_init_X5, by decide +kernel, tyX5_ok, nmX5, rfl, by decide +kernel, rfl⟩
theorem ff_X5_init_18 : FF wsX5_init RX5 18 5 2 true (.array .int) := ⟨RX5, TX5, 7, tyX5, rfl, by decide, in_X5_init_X5, by decide +kernel, tyX5_ok, nmX5, rfl, by decide +kernel, rfl⟩
theorem ff_X5_init_21 : FF wsX5_init RX5 21 5 3 true (.array .int) := ⟨RX5, TX5, 7, tyX5, rfl, by decide, in_X5_init_X5, by decide +kernel, tyX5_ok, nmX5, rfl, by decide +kernel, rfl⟩
theorem ff_X5_init_24 : FF wsX5_init RX5 24 5 4 true (.array .int) := ⟨RX5, TX5, 7, tyX5, rfl, by decide, in_X5_init_X5, by decide +kernel, tyX5_ok, nmX5, rfl, by decide +kernel, rfl⟩
theorem ff_X5_init_27 : FF wsX5_init RX5 27 5 5 true (.array .int) := ⟨RX5, TX5, 7, tyX5, rfl, by decide, in_X5_init_X5, by decide +kernel, tyX5_ok, nmX5, rfl, by decide +kernel, rfl⟩
set_option maxHeartbeats 4000000 in
set_option maxRecDepth 100000 in
/-- Road() -/
theorem cm_X5 (l : Launch) (G : Geo) (h : Nat) : CM l G yX5_init wsX5_init 1 6 1152 [.ref h] [(h, .inr (5, [.null, .null, .null, .null, .null, .null, .int 0]))] (fun Lm => ∃ q1 q2 q3 q4 q5 q6 : Nat, Lm = [(h, .inr (5, [.ref q1, .ref q2, .ref q3, .ref q4, .ref q5, .ref q6, .int 0])), (q1, zI G 192), (q2, zI G 192), (q3, zI G 192), (q4, zI G 192), (q5, zI G 192), (q6, zI G 192)]) := by
  refine CM.of (cc := cX5_init) (maxL := 1) (by decide) rfl rfl (Nat.le_of_ble_eq_true rfl) ?_
  intro A X o hi rt
  refine k_aload_n o dX5_init_0 rfl ?_
  refine k_obj o (by decide +kernel) (by decide +kernel) (by decide +kernel) (by decide) dX5_init_1 ?_
  refine k_aload_n o dX5_init_4 rfl ?_
  refine k_sipush o dX5_init_5 (x := nI 192) (by decide) ?_
  refine k_newI o 192 ar_X5_init_I rfl (by decide) (Nat.le_of_ble_eq_true rfl) (Nat.le_of_ble_eq_true rfl) dX5_init_8 (fun q1 => ?_)
  refine k_putF o hi ff_X5_init_11 rfl rfl (q0 := 0) rfl (Nat.le_of_ble_eq_true rfl) dX5_init_10 (L' := [(h, .inr (5, [.ref q1, .null, .null, .null, .null, .null, .int 0])), (q1, zI G 192)]) rfl ?_
  refine k_aload_n o dX5_init_13 rfl ?_
  refine k_sipush o dX5_init_14 (x := nI 192) (by decide) ?_
  refine k_newI o 192 ar_X5_init_I rfl (by decide) (Nat.le_of_ble_eq_true rfl) (Nat.le_of_ble_eq_true rfl) dX5_init_17 (fun q2 => ?_)
  refine k_putF o hi ff_X5_init_15 rfl rfl (q0 := 0) rfl (Nat.le_of_ble_eq_true rfl) dX5_init_19 (L' := [(h, .inr (5, [.ref q1, .ref q2, .null, .null, .null, .null, .int 0])), (q1, zI G 192), (q2, zI G 192)]) rfl ?_
  refine k_aload_n o dX5_init_22 rfl ?_
  refine k_sipush o dX5_init_23 (x := nI 192) (by decide) ?_
  refine k_newI o 192 ar_X5_init_I rfl (by decide) (Nat.le_of_ble_eq_true rfl) (Nat.le_of_ble_eq_true rfl) dX5_init_26 (fun q3 => ?_)
  refine k_putF o hi ff_X5_init_18 rfl rfl (q0 := 0) rfl (Nat.le_of_ble_eq_true rfl) dX5_init_28 (L' := [(h, .inr (5, [.ref q1, .ref q2, .ref q3, .null, .null, .null, .int 0])), (q1, zI G 192), (q2, zI G 192), (q3, zI G 192)]) rfl ?_
  refine k_aload_n o dX5_init_31 rfl ?_
  refine k_sipush o dX5_init_32 (x := nI 192) (by decide) ?_
  refine k_newI o 192 ar_X5_init_I rfl (by decide) (Nat.le_of_ble_eq_true rfl) (Nat.le_of_ble_eq_true rfl) dX5_init_35 (fun q4 => ?_)
  refine k_putF o hi ff_X5_init_21 rfl rfl (q0 := 0) rfl (Nat.le_of_ble_eq_true rfl) dX5_init_37 (L' := [(h, .inr (5, [.ref q1, .ref q2, .ref q3, .ref q4, .null, .null, .int 0])), (q1, zI G 192), (q2, zI G 192), (q3, zI G 192), (q4, zI G 192)]) rfl ?_
  refine k_aload_n o dX5_init_40 rfl ?_
  refine k_sipush o dX5_init_41 (x := nI 192) (by decide) ?_
  refine k_newI o 192 ar_X5_init_I rfl (by decide) (Nat.le_of_ble_eq_true rfl) (Nat.le_of_ble_eq_true rfl) dX5_init_44 (fun q5 => ?_)
  refine k_putF o hi ff_X5_init_24 rfl rfl (q0 := 0) rfl (Nat.le_of_ble_eq_true rfl) dX5_init_46 (L' := [(h, .inr (5, [.ref q1, .ref q2, .ref q3, .ref q4, .ref q5, .null, .int 0])), (q1, zI G 192), (q2, zI G 192), (q3, zI G 192), (q4, zI G 192), (q5, zI G 192)]) rfl ?_
  refine k_aload_n o dX5_init_49 rfl ?_
  refine k_sipush o dX5_init_50 (x := nI 192) (by decide) ?_
  refine k_newI o 192 ar_X5_init_I rfl (by decide) (Nat.le_of_ble_eq_true rfl) (Nat.le_of_ble_eq_true rfl) dX5_init_53 (fun q6 => ?_)
  refine k_putF o hi ff_X5_init_27 rfl rfl (q0 := 0) rfl (Nat.le_of_ble_eq_true rfl) dX5_init_55 (L' := [(h, .inr (5, [.ref q1, .ref q2, .ref q3, .ref q4, .ref q5, .ref q6, .int 0])), (q1, zI G 192), (q2, zI G 192), (q3, zI G 192), (q4, zI G 192), (q5, zI G 192), (q6, zI G 192)]) rfl ?_
  exact k_ret o rt (Nat.le_of_ble_eq_true rfl) (Nat.le_of_ble_eq_true rfl) dX5_init_58 ⟨q1, q2, q3, q4, q5, q6, rfl⟩

theorem in_X7_init_X7 : ∀ w ∈ wsX70, w ∈ wsX7_init := by decide +kernel
theorem ar_X7_init_I : Cond.arrayClass .int ∈ wsX7_init := by decide +kernel
theorem ff_X7_init_9 : FF wsX7_init RX7 9 7 0 true (.array .int) := ⟨RX7, TX7, 10, tyX7, rfl, by decide, in_X7_init_X7, by decide +kernel, tyX7_ok, nmX7, rfl, by decide +kernel, rfl⟩
theorem ff_X7_init_15 : FF wsX7_init RX7 15 7 1 true (.array .int) := ⟨RX7, TX7, 10, tyX7, rfl, by decide, in_X7_init_X7, by decide +kernel, tyX7_ok, nmX7, rfl, by decide +kernel, rfl⟩
theorem ff_X7_init_18 : FF wsX7_init RX7 18 7 2 true (.array .int) := ⟨RX7, TX7, 10, tyX7, rfl, by decide, in_X7_init_X7, by decide +kernel, tyX7_ok, nmX7, rfl, by decide +kernel, rfl⟩
theorem ff_X7_init_21 : FF wsX7_init RX7 21 7 3 true (.array .int) := ⟨RX7, TX7, 10, tyX7, rfl, by decide, in_X7_init_X7, by decide +kernel, tyX7_ok, nmX7, rfl, by decide +kernel, rfl⟩
theorem ff_X7_init_24 : FF wsX7_init RX7 24 7 8 false .int := ⟨RX7, TX7, 10, tyX7, rfl, by decide, in_X7_init_X7, by decide +kernel, tyX7_ok, nmX7, rfl, by decide +kernel, rfl⟩
theorem ff_X7_init_28 : FF wsX7_init RX7 28 7 9 false .int := ⟨RX7, TX7, 10, tyX7, rfl, by decide, in_X7_init_X7, by decide +kernel, tyX7_ok, nmX7, rfl, by decide +kernel, rfl⟩
set_option maxHeartbeats 4000000 in
set_option maxRecDepth 100000 in
/-- Ties() -/
theorem cm_X7 (l : Launch) (G : Geo) (h : Nat) : CM l G yX7_init wsX7_init 1 4 48 [.ref h] [(h, .inr (7, [.null, .null, .null, .null, .int 0, .int 0, .int 0, .int 0, .int 0, .int 0]))] (fun Lm => ∃ q1 q2 q3 q4 : Nat, Lm = [(h, .inr (7, [.ref q1, .ref q2, .ref q3, .ref q4, .int 0, .int 0, .int 0, .int 0, .int (-1), .int (-1)])), (q1, zI G 12), (q2, zI G 12), (q3, zI G 12), (q4, zI G 12)]) := by
  refine CM.of (cc := cX7_init) (maxL := 1) (by decide) rfl rfl (Nat.le_of_ble_eq_true rfl) ?_
  intro A X o hi rt
  refine k_aload_n o dX7_init_0 rfl ?_
  refine k_obj o (by decide +kernel) (by decide +kernel) (by decide +kernel) (by decide) dX7_init_1 ?_
  refine k_aload_n o dX7_init_4 rfl ?_
  refine k_bipush o dX7_init_5 (x := nI 12) (by decide) ?_
  refine k_newI o 12 ar_X7_init_I rfl (by decide) (Nat.le_of_ble_eq_true rfl) (Nat.le_of_ble_eq_true rfl) dX7_init_7 (fun q1 => ?_)
  refine k_putF o hi ff_X7_init_9 rfl rfl (q0 := 0) rfl (Nat.le_of_ble_eq_true rfl) dX7_init_9 (L' := [(h, .inr (7, [.ref q1, .null, .null, .null, .int 0, .int 0, .int 0, .int 0, .int 0, .int 0])), (q1, zI G 12)]) rfl ?_
  refine k_aload_n o dX7_init_12 rfl ?_
  refine k_bipush o dX7_init_13 (x := nI 12) (by decide) ?_
  refine k_newI o 12 ar_X7_init_I rfl (by decide) (Nat.le_of_ble_eq_true rfl) (Nat.le_of_ble_eq_true rfl) dX7_init_15 (fun q2 => ?_)
  refine k_putF o hi ff_X7_init_15 rfl rfl (q0 := 0) rfl (Nat.le_of_ble_eq_true rfl) dX7_init_17 (L' := [(h, .inr (7, [.ref q1, .ref q2, .null, .null, .int 0, .int 0, .int 0, .int 0, .int 0, .int 0])), (q1, zI G 12), (q2, zI G 12)]) rfl ?_
  refine k_aload_n o dX7_init_20 rfl ?_
  refine k_bipush o dX7_init_21 (x := nI 12) (by decide) ?_
  refine k_newI o 12 ar_X7_init_I rfl (by decide) (Nat.le_of_ble_eq_true rfl) (Nat.le_of_ble_eq_true rfl) dX7_init_23 (fun q3 => ?_)
  refine k_putF o hi ff_X7_init_18 rfl rfl (q0 := 0) rfl (Nat.le_of_ble_eq_true rfl) dX7_init_25 (L' := [(h, .inr (7, [.ref q1, .ref q2, .ref q3, .null, .int 0, .int 0, .int 0, .int 0, .int 0, .int 0])), (q1, zI G 12), (q2, zI G 12), (q3, zI G 12)]) rfl ?_
  refine k_aload_n o dX7_init_28 rfl ?_
  refine k_bipush o dX7_init_29 (x := nI 12) (by decide) ?_
  refine k_newI o 12 ar_X7_init_I rfl (by decide) (Nat.le_of_ble_eq_true rfl) (Nat.le_of_ble_eq_true rfl) dX7_init_31 (fun q4 => ?_)
  refine k_putF o hi ff_X7_init_21 rfl rfl (q0 := 0) rfl (Nat.le_of_ble_eq_true rfl) dX7_init_33 (L' := [(h, .inr (7, [.ref q1, .ref q2, .ref q3, .ref q4, .int 0, .int 0, .int 0, .int 0, .int 0, .int 0])), (q1, zI G 12), (q2, zI G 12), (q3, zI G 12), (q4, zI G 12)]) rfl ?_
  refine k_aload_n o dX7_init_36 rfl ?_
  refine k_iconst o dX7_init_37 (x := (-1)) (by decide) ?_
  refine k_put o ff_X7_init_24 (q0 := 0) rfl (Nat.le_of_ble_eq_true rfl) dX7_init_38 (L' := [(h, .inr (7, [.ref q1, .ref q2, .ref q3, .ref q4, .int 0, .int 0, .int 0, .int 0, .int (-1), .int 0])), (q1, zI G 12), (q2, zI G 12), (q3, zI G 12), (q4, zI G 12)]) rfl ?_
  refine k_aload_n o dX7_init_41 rfl ?_
  refine k_iconst o dX7_init_42 (x := (-1)) (by decide) ?_
  refine k_put o ff_X7_init_28 (q0 := 0) rfl (Nat.le_of_ble_eq_true rfl) dX7_init_43 (L' := [(h, .inr (7, [.ref q1, .ref q2, .ref q3, .ref q4, .int 0, .int 0, .int 0, .int 0, .int (-1), .int (-1)])), (q1, zI G 12), (q2, zI G 12), (q3, zI G 12), (q4, zI G 12)]) rfl ?_
  exact k_ret o rt (Nat.le_of_ble_eq_true rfl) (Nat.le_of_ble_eq_true rfl) dX7_init_46 ⟨q1, q2, q3, q4, rfl⟩

/-! Store(): three rows, the givers all NONE -/
abbrev mI (G : Geo) (n : Nat) : va_E := .inl (G.2.2.1, n, .inl (fun _ => -1))
theorem cell_cong {cA : ClassId} {n : Nat} {f g : Nat → Int32} (h : ∀ j, j < n → f j = g j) : vp_cell cA (n, .inl f) = vp_cell cA (n, .inl g) := by
  rw [vp_cell_i, vp_cell_i]
  unfold arrV
  congr 1
  apply Array.ext
  · simp
  · intro i h1 h2
    simp only [Array.getElem_ofFn]
    rw [h i (by simpa using h1)]
theorem cell_congQ {cA : ClassId} {n : Nat} {f g : Nat → Option Nat} (h : ∀ j, j < n → f j = g j) : vp_cell cA (n, .inr (.inr (.inr (.inr f)))) = vp_cell cA (n, .inr (.inr (.inr (.inr g)))) := by
  rw [vp_cell_q, vp_cell_q]
  unfold arrV
  congr 1
  apply Array.ext
  · simp
  · intro i h1 h2
    simp only [Array.getElem_ofFn]
    rw [h i (by simpa using h1)]
theorem in_X6_init_X6 : ∀ w ∈ wsX60, w ∈ wsX6_init := by decide +kernel
theorem ar_X6_init_I : Cond.arrayClass .int ∈ wsX6_init := by decide +kernel
theorem ff_X6_init_9 : FF wsX6_init RX6 9 6 0 true (.array .int) := ⟨RX6, TX6, 6, tyX6, rfl, by decide, in_X6_init_X6, by decide +kernel, tyX6_ok, nmX6, rfl, by decide +kernel, rfl⟩
theorem ff_X6_init_15 : FF wsX6_init RX6 15 6 1 true (.array .int) := ⟨RX6, TX6, 6, tyX6, rfl, by decide, in_X6_init_X6, by decide +kernel, tyX6_ok, nmX6, rfl, by decide +kernel, rfl⟩
theorem ff_X6_init_18 : FF wsX6_init RX6 18 6 2 true (.array .int) := ⟨RX6, TX6, 6, tyX6, rfl, by decide, in_X6_init_X6, by decide +kernel, tyX6_ok, nmX6, rfl, by decide +kernel, rfl⟩
set_option maxHeartbeats 4000000 in
set_option maxRecDepth 100000 in
theorem cm_X6_loop {l : Launch} {A : Nat → Prop} {G : Geo} {X : CT} {h q1 q2 q3 : Nat} (o : OKC A G X cX6_init wsX6_init RX6 1 2 3 288) (rt : RC A G X 3 288 (fun Lm => ∃ q1 q2 q3 : Nat, Lm = [(h, .inr (6, [.ref q1, .ref q2, .ref q3, .int 0, .int 0, .int 0])), (q1, mI G 96), (q2, zI G 96), (q3, zI G 96)])) : ∀ (n i : Nat) (f : Nat → Int32), i + n = 96 → (∀ j, j < i → f j = -1) → JC l A G X 3 288 30 [(1, .int (nI i)), (0, .ref h)] [] [(h, .inr (6, [.ref q1, .ref q2, .ref q3, .int 0, .int 0, .int 0])), (q1, .inl (G.2.2.1, 96, .inl f)), (q2, zI G 96), (q3, zI G 96)]
  | n, i, f, e, hf => by
    refine k_iload_n o dX6_init_30 rfl ?_
    refine k_aload_n o dX6_init_31 rfl ?_
    refine k_get o ff_X6_init_9 (q0 := 0) rfl (v := .ref q1) rfl dX6_init_32 ?_
    refine k_alenI o (q0 := 1) rfl dX6_init_35 ?_
    refine k_ic_ge o 52 dX6_init_36 (by decide) (fun c => ?_) (fun c => ?_)
    · have hi : i = 96 := by
        rw [nI_leI (by omega) (by omega)] at c
        omega
      subst hi
      refine k_same 1 rfl (cell_cong (g := fun _ => -1) hf) (L' := [(h, .inr (6, [.ref q1, .ref q2, .ref q3, .int 0, .int 0, .int 0])), (q1, mI G 96), (q2, zI G 96), (q3, zI G 96)]) rfl ?_
      exact k_ret o rt (Nat.le_refl _) (Nat.le_refl _) dX6_init_52 ⟨q1, q2, q3, rfl⟩
    · have hi : i < 96 := by
        rw [nI_leI (by omega) (by omega)] at c
        omega
      refine k_aload_n o dX6_init_39 rfl ?_
      refine k_get o ff_X6_init_9 (q0 := 0) rfl (v := .ref q1) rfl dX6_init_40 ?_
      refine k_iload_n o dX6_init_43 rfl ?_
      refine k_iconst o dX6_init_44 (x := -1) (by decide) ?_
      refine k_iast o (q0 := 1) (i := i) rfl hi (by decide) rfl dX6_init_45 (L' := [(h, .inr (6, [.ref q1, .ref q2, .ref q3, .int 0, .int 0, .int 0])), (q1, .inl (G.2.2.1, 96, .inl (upd f i (-1)))), (q2, zI G 96), (q3, zI G 96)]) rfl ?_
      refine k_iinc o (y := nI (i + 1)) dX6_init_46 rfl (nI_1 i) (by decide) (lv' := [(1, .int (nI (i + 1))), (0, .ref h)]) rfl ?_
      refine k_goto o 30 dX6_init_49 (by decide) ?_
      refine cm_X6_loop o rt (n - 1) (i + 1) (upd f i (-1)) (by omega) (fun j hj => ?_)
      unfold upd
      by_cases q : j = i
      · rw [if_pos q]
      · rw [if_neg q]; exact hf j (by omega)
termination_by n => n
decreasing_by omega

set_option maxHeartbeats 4000000 in
set_option maxRecDepth 100000 in
/-- Store() -/
theorem cm_X6 (l : Launch) (G : Geo) (h : Nat) : CM l G yX6_init wsX6_init 1 3 288 [.ref h] [(h, .inr (6, [.null, .null, .null, .int 0, .int 0, .int 0]))] (fun Lm => ∃ q1 q2 q3 : Nat, Lm = [(h, .inr (6, [.ref q1, .ref q2, .ref q3, .int 0, .int 0, .int 0])), (q1, mI G 96), (q2, zI G 96), (q3, zI G 96)]) := by
  refine CM.of (cc := cX6_init) (maxL := 2) (by decide) rfl rfl (Nat.le_of_ble_eq_true rfl) ?_
  intro A X o hi rt
  refine k_aload_n o dX6_init_0 rfl ?_
  refine k_obj o (by decide +kernel) (by decide +kernel) (by decide +kernel) (by decide) dX6_init_1 ?_
  refine k_aload_n o dX6_init_4 rfl ?_
  refine k_bipush o dX6_init_5 (x := nI 96) (by decide) ?_
  refine k_newI o 96 ar_X6_init_I rfl (by decide) (Nat.le_of_ble_eq_true rfl) (Nat.le_of_ble_eq_true rfl) dX6_init_7 (fun q1 => ?_)
  refine k_putF o hi ff_X6_init_9 rfl rfl (q0 := 0) rfl (Nat.le_of_ble_eq_true rfl) dX6_init_9 (L' := [(h, .inr (6, [.ref q1, .null, .null, .int 0, .int 0, .int 0])), (q1, zI G 96)]) rfl ?_
  refine k_aload_n o dX6_init_12 rfl ?_
  refine k_bipush o dX6_init_13 (x := nI 96) (by decide) ?_
  refine k_newI o 96 ar_X6_init_I rfl (by decide) (Nat.le_of_ble_eq_true rfl) (Nat.le_of_ble_eq_true rfl) dX6_init_15 (fun q2 => ?_)
  refine k_putF o hi ff_X6_init_15 rfl rfl (q0 := 0) rfl (Nat.le_of_ble_eq_true rfl) dX6_init_17 (L' := [(h, .inr (6, [.ref q1, .ref q2, .null, .int 0, .int 0, .int 0])), (q1, zI G 96), (q2, zI G 96)]) rfl ?_
  refine k_aload_n o dX6_init_20 rfl ?_
  refine k_bipush o dX6_init_21 (x := nI 96) (by decide) ?_
  refine k_newI o 96 ar_X6_init_I rfl (by decide) (Nat.le_of_ble_eq_true rfl) (Nat.le_of_ble_eq_true rfl) dX6_init_23 (fun q3 => ?_)
  refine k_putF o hi ff_X6_init_18 rfl rfl (q0 := 0) rfl (Nat.le_of_ble_eq_true rfl) dX6_init_25 (L' := [(h, .inr (6, [.ref q1, .ref q2, .ref q3, .int 0, .int 0, .int 0])), (q1, zI G 96), (q2, zI G 96), (q3, zI G 96)]) rfl ?_
  refine k_iconst o dX6_init_28 (x := 0) (by decide) ?_
  refine k_istore_n o dX6_init_29 (by decide) (lv' := [(1, .int (nI 0)), (0, .ref h)]) rfl ?_
  exact cm_X6_loop o rt 96 0 _ rfl (fun j hj => absurd hj (Nat.not_lt_zero _))

