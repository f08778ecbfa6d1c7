-- PieceSwarmModel.value(II)I
theorem inn_X10_value_X10 : ∀ w ∈ wsX100, w ∈ wsX10_value := by decide +kernel
theorem sp_X10_value_120 : SP wsX10_value RX10 120 24 0 := ⟨RX10, TX10, 45, tyX10, rfl, rfl, rfl, rfl, by decide, inn_X10_value_X10, by decide +kernel, tyX10_ok, nmX10, rfl, by decide +kernel⟩
def wp_X10_value (a1 : Int32) (a2 : Int32) (v : St3) (post : (Int32 → St3 → Prop)) : Prop := ∀ v1, v1 = up3 v 24 0 0 (0 : Int32) → wp_X10_isBlock a1 a2 v1 (fun r4 v3 => ((r4 = 0 → post (0 : Int32) v3) ∧ (¬ r4 = 0 → wp_X10_valueOf a1 a2 v3 (fun r6 v5 => post r6 v5))))
set_option maxRecDepth 20000 in
set_option maxHeartbeats 4000000 in
theorem ad_X10_value (l : Launch) (G : Geo) (a1 : Int32) (a2 : Int32) (v : St3) {post : (Int32 → St3 → Prop)} (h : wp_X10_value a1 a2 v post) : CI l G yX10_value wsX10_value 2 [.ref (gA G 24 0), .int a1, .int a2] v post := by
  refine CI.of (ty := .int) (cc := cX10_value) (maxL := 3) (by decide) rfl (Nat.le_of_ble_eq_true rfl) (fun X o rt => ?_)
  unfold wp_X10_value at h
  show J l G X 0 [(0, .ref (gA G 24 0)), (1, .int a1), (2, .int a2)] [] v
  refine q_aload_n o dX10_value_0 rfl ?_
  refine q_iconst o dX10_value_1 (x := (0 : Int32)) (by decide) ?_
  refine q_putI o sp_X10_value_120 (by decide) dX10_value_2 (fun v1 e2 => ?_)
  have h := h v1 e2
  refine q_aload_n o dX10_value_5 rfl ?_
  refine q_iload_n o dX10_value_6 rfl ?_
  refine q_iload_n o dX10_value_7 rfl ?_
  refine q_callV o [.int a1, .int a2] (ad_X10_isBlock l G a1 a2 v1 h) gX10_value_X10_isBlock rfl rfl rfl rfl (by decide) ⟨rfl, by decide, by decide, pd_X10_isBlock⟩ (by decide) (by decide) rfl (Nat.le_of_ble_eq_true rfl) dX10_value_8 (fun r4 v3 h => ?_)
  refine q_if_eq o 23 dX10_value_11 (by decide) (fun c7 => ?_) (fun c7 => ?_)
  · have h := h.1 c7
    refine q_iconst o dX10_value_23 (x := (0 : Int32)) (by decide) ?_
    exact q_iret o rt dX10_value_24 h
  · have h := h.2 c7
    refine q_aload_n o dX10_value_14 rfl ?_
    refine q_iload_n o dX10_value_15 rfl ?_
    refine q_iload_n o dX10_value_16 rfl ?_
    refine q_callV o [.int a1, .int a2] (ad_X10_valueOf l G a1 a2 v3 h) gX10_value_X10_valueOf rfl rfl rfl rfl (by decide) ⟨rfl, by decide, by decide, pd_X10_valueOf⟩ (by decide) (by decide) rfl (Nat.le_of_ble_eq_true rfl) dX10_value_17 (fun r6 v5 h => ?_)
    refine q_goto o 24 dX10_value_20 (by decide) ?_
    exact q_iret o rt dX10_value_24 h
theorem pd_X10_value : (parseMethodDescriptor yX10_value.desc).map (fun d => d.parameters.length) = some 2 := by decide +kernel
-- PieceSwarmModel.sum(I)I
theorem inn_X10_sum_X10 : ∀ w ∈ wsX100, w ∈ wsX10_sum := by decide +kernel
theorem sp_X10_sum_120 : SP wsX10_sum RX10 120 24 0 := ⟨RX10, TX10, 45, tyX10, rfl, rfl, rfl, rfl, by decide, inn_X10_sum_X10, by decide +kernel, tyX10_ok, nmX10, rfl, by decide +kernel⟩
def wp_X10_sum (a1 : Int32) (v : St3) (post : (Int32 → St3 → Prop)) : Prop := ∀ v1, v1 = up3 v 24 0 0 (0 : Int32) → wp_X10_isBlock a1 (0 : Int32) v1 (fun r4 v3 => ((r4 = 0 → post (0 : Int32) v3) ∧ (¬ r4 = 0 → wp_X10_sumOf a1 v3 (fun r6 v5 => post r6 v5))))
set_option maxRecDepth 20000 in
set_option maxHeartbeats 4000000 in
theorem ad_X10_sum (l : Launch) (G : Geo) (a1 : Int32) (v : St3) {post : (Int32 → St3 → Prop)} (h : wp_X10_sum a1 v post) : CI l G yX10_sum wsX10_sum 2 [.ref (gA G 24 0), .int a1] v post := by
  refine CI.of (ty := .int) (cc := cX10_sum) (maxL := 2) (by decide) rfl (Nat.le_of_ble_eq_true rfl) (fun X o rt => ?_)
  unfold wp_X10_sum at h
  show J l G X 0 [(0, .ref (gA G 24 0)), (1, .int a1)] [] v
  refine q_aload_n o dX10_sum_0 rfl ?_
  refine q_iconst o dX10_sum_1 (x := (0 : Int32)) (by decide) ?_
  refine q_putI o sp_X10_sum_120 (by decide) dX10_sum_2 (fun v1 e2 => ?_)
  have h := h v1 e2
  refine q_aload_n o dX10_sum_5 rfl ?_
  refine q_iload_n o dX10_sum_6 rfl ?_
  refine q_iconst o dX10_sum_7 (x := (0 : Int32)) (by decide) ?_
  refine q_callV o [.int a1, .int (0 : Int32)] (ad_X10_isBlock l G a1 (0 : Int32) v1 h) gX10_sum_X10_isBlock rfl rfl rfl rfl (by decide) ⟨rfl, by decide, by decide, pd_X10_isBlock⟩ (by decide) (by decide) rfl (Nat.le_of_ble_eq_true rfl) dX10_sum_8 (fun r4 v3 h => ?_)
  refine q_if_eq o 22 dX10_sum_11 (by decide) (fun c7 => ?_) (fun c7 => ?_)
  · have h := h.1 c7
    refine q_iconst o dX10_sum_22 (x := (0 : Int32)) (by decide) ?_
    exact q_iret o rt dX10_sum_23 h
  · have h := h.2 c7
    refine q_aload_n o dX10_sum_14 rfl ?_
    refine q_iload_n o dX10_sum_15 rfl ?_
    refine q_callV o [.int a1] (ad_X10_sumOf l G a1 v3 h) gX10_sum_X10_sumOf rfl rfl rfl rfl (by decide) ⟨rfl, by decide, by decide, pd_X10_sumOf⟩ (by decide) (by decide) rfl (Nat.le_of_ble_eq_true rfl) dX10_sum_16 (fun r6 v5 h => ?_)
    refine q_goto o 23 dX10_sum_19 (by decide) ?_
    exact q_iret o rt dX10_sum_23 h
theorem pd_X10_sum : (parseMethodDescriptor yX10_sum.desc).map (fun d => d.parameters.length) = some 1 := by decide +kernel
-- PieceSwarmModel.isTwo(II)Z
def wp_X10_isTwo (a1 : Int32) (a2 : Int32) (v : St3) (post : (Int32 → St3 → Prop)) : Prop := wp_X10_isPeer a1 v (fun r2 v1 => ((r2 = 0 → post (0 : Int32) v1) ∧ (¬ r2 = 0 → wp_X10_isPeer a2 v1 (fun r4 v3 => ((r4 = 0 → post (0 : Int32) v3) ∧ (¬ r4 = 0 → ((a1 = a2 → post (0 : Int32) v3) ∧ (¬ a1 = a2 → post (1 : Int32) v3))))))))
set_option maxRecDepth 20000 in
set_option maxHeartbeats 4000000 in
theorem ad_X10_isTwo (l : Launch) (G : Geo) (a1 : Int32) (a2 : Int32) (v : St3) {post : (Int32 → St3 → Prop)} (h : wp_X10_isTwo a1 a2 v post) : CI l G yX10_isTwo wsX10_isTwo 2 [.ref (gA G 24 0), .int a1, .int a2] v post := by
  refine CI.of (ty := .boolean) (cc := cX10_isTwo) (maxL := 3) (by decide) rfl (Nat.le_of_ble_eq_true rfl) (fun X o rt => ?_)
  unfold wp_X10_isTwo at h
  show J l G X 0 [(0, .ref (gA G 24 0)), (1, .int a1), (2, .int a2)] [] v
  refine q_aload_n o dX10_isTwo_0 rfl ?_
  refine q_iload_n o dX10_isTwo_1 rfl ?_
  refine q_callV o [.int a1] (ad_X10_isPeer l G a1 v h) gX10_isTwo_X10_isPeer rfl rfl rfl rfl (by decide) ⟨rfl, by decide, by decide, pd_X10_isPeer⟩ (by decide) (by decide) rfl (Nat.le_of_ble_eq_true rfl) dX10_isTwo_2 (fun r2 v1 h => ?_)
  refine q_if_eq o 25 dX10_isTwo_5 (by decide) (fun c7 => ?_) (fun c7 => ?_)
  · have h := h.1 c7
    refine q_iconst o dX10_isTwo_25 (x := (0 : Int32)) (by decide) ?_
    exact q_zret o rt dX10_isTwo_26 (by decide) h
  · have h := h.2 c7
    refine q_aload_n o dX10_isTwo_8 rfl ?_
    refine q_iload_n o dX10_isTwo_9 rfl ?_
    refine q_callV o [.int a2] (ad_X10_isPeer l G a2 v1 h) gX10_isTwo_X10_isPeer rfl rfl rfl rfl (by decide) ⟨rfl, by decide, by decide, pd_X10_isPeer⟩ (by decide) (by decide) rfl (Nat.le_of_ble_eq_true rfl) dX10_isTwo_10 (fun r4 v3 h => ?_)
    refine q_if_eq o 25 dX10_isTwo_13 (by decide) (fun c6 => ?_) (fun c6 => ?_)
    · have h := h.1 c6
      refine q_iconst o dX10_isTwo_25 (x := (0 : Int32)) (by decide) ?_
      exact q_zret o rt dX10_isTwo_26 (by decide) h
    · have h := h.2 c6
      refine q_iload_n o dX10_isTwo_16 rfl ?_
      refine q_iload_n o dX10_isTwo_17 rfl ?_
      refine q_ic_eq o 25 dX10_isTwo_18 (by decide) (fun c5 => ?_) (fun c5 => ?_)
      · have h := h.1 c5
        refine q_iconst o dX10_isTwo_25 (x := (0 : Int32)) (by decide) ?_
        exact q_zret o rt dX10_isTwo_26 (by decide) h
      · have h := h.2 c5
        refine q_iconst o dX10_isTwo_21 (x := (1 : Int32)) (by decide) ?_
        refine q_goto o 26 dX10_isTwo_22 (by decide) ?_
        exact q_zret o rt dX10_isTwo_26 (by decide) h
theorem pd_X10_isTwo : (parseMethodDescriptor yX10_isTwo.desc).map (fun d => d.parameters.length) = some 2 := by decide +kernel
-- PieceSwarmModel.wants(II)Z
theorem inn_X10_wants_X10 : ∀ w ∈ wsX100, w ∈ wsX10_wants := by decide +kernel
theorem sf_X10_wants_7 : SF wsX10_wants RX10 7 24 1 0 := ⟨RX10, TX10, 45, rfl, rfl, rfl, rfl, by decide, inn_X10_wants_X10, by decide +kernel⟩
theorem sf_X10_wants_48 : SF wsX10_wants RX10 48 24 20 50 := ⟨RX10, TX10, 45, rfl, rfl, rfl, rfl, by decide, inn_X10_wants_X10, by decide +kernel⟩
def wB_X10_wants_13 (post : (Int32 → St3 → Prop)) (K13 : Int32 → Int32 → Int32 → St3 → Prop) (a1 : Int32) (a2 : Int32) (a3 : Int32) (v : St3) : Prop := (((v 24 0 1) ≤ a3 → post (0 : Int32) v) ∧ (¬ (v 24 0 1) ≤ a3 → wp_X10_tells a2 a3 v (fun r4 v3 => ((r4 = 0 → K13 a1 a2 (a3 + (1 : Int32)) v3) ∧ (¬ r4 = 0 → ∃ n5, n5 < 288 ∧ (((24 : Int32) * a1) + a3) = nI n5 ∧ ((¬ (v3 50 0 n5) = 0 → K13 a1 a2 (a3 + (1 : Int32)) v3) ∧ ((v3 50 0 n5) = 0 → post (1 : Int32) v3)))))))
def wL_X10_wants_13 (post : (Int32 → St3 → Prop)) : Nat → Int32 → Int32 → Int32 → St3 → Prop
  | 0, _, _, _, _ => False
  | f + 1, a1, a2, a3, v => wB_X10_wants_13 post (wL_X10_wants_13 post f) a1 a2 a3 v
set_option maxRecDepth 20000 in
set_option maxHeartbeats 4000000 in
theorem aL_X10_wants_13 {l : Launch} {G : Geo} {X : CT} (o : OK G X cX10_wants wsX10_wants RX10 2 4) {post : (Int32 → St3 → Prop)} (rt : RI G X .boolean post) : ∀ (f : Nat) (a1 : Int32) (a2 : Int32) (a3 : Int32) (v : St3), wL_X10_wants_13 post f a1 a2 a3 v → J l G X 13 [(0, .ref (gA G 24 0)), (1, .int a1), (2, .int a2), (3, .int a3)] [] v := by
  intro f
  induction f with
  | zero => intro _ _ _ _ h; exact False.elim h
  | succ f hK13 =>
  intro a1 a2 a3 v h
  have h : wB_X10_wants_13 post (wL_X10_wants_13 post f) a1 a2 a3 v := h
  unfold wB_X10_wants_13 at h
  refine q_iload_n o dX10_wants_13 rfl ?_
  refine q_aload_n o dX10_wants_14 rfl ?_
  refine q_getI o sf_X10_wants_7 (by decide) dX10_wants_15 ?_
  refine q_ic_ge o 52 dX10_wants_18 (by decide) (fun c10 => ?_) (fun c10 => ?_)
  · have h := h.1 c10
    refine q_iconst o dX10_wants_52 (x := (0 : Int32)) (by decide) ?_
    exact q_zret o rt dX10_wants_53 (by decide) h
  · have h := h.2 c10
    refine q_aload_n o dX10_wants_21 rfl ?_
    refine q_iload_n o dX10_wants_22 rfl ?_
    refine q_iload_n o dX10_wants_23 rfl ?_
    refine q_callV o [.int a2, .int a3] (ad_X10_tells l G a2 a3 v h) gX10_wants_X10_tells rfl rfl rfl rfl (by decide) ⟨rfl, by decide, by decide, pd_X10_tells⟩ (by decide) (by decide) rfl (Nat.le_of_ble_eq_true rfl) dX10_wants_24 (fun r4 v3 h => ?_)
    refine q_if_eq o 46 dX10_wants_27 (by decide) (fun c9 => ?_) (fun c9 => ?_)
    · have h := h.1 c9
      refine q_iinc o (y := (a3 + (1 : Int32))) (lv' := [(3, .int (a3 + (1 : Int32))), (0, .ref (gA G 24 0)), (1, .int a1), (2, .int a2)]) dX10_wants_46 rfl rfl (by decide) rfl ?_
      refine q_goto o 13 dX10_wants_49 (by decide) ?_
      refine q_lv [1, 2, 3, 0] rfl ?_
      exact hK13 a1 a2 (a3 + (1 : Int32)) v3 h
    · have h := h.2 c9
      refine q_aload_n o dX10_wants_30 rfl ?_
      refine q_getR (q := 49) o sf_X10_wants_48 (by decide) dX10_wants_31 ?_
      refine q_bipush o dX10_wants_34 (x := (24 : Int32)) (by decide) ?_
      refine q_iload_n o dX10_wants_36 rfl ?_
      refine q_imul o dX10_wants_37 ?_
      refine q_iload_n o dX10_wants_38 rfl ?_
      refine q_iadd o dX10_wants_39 ?_
      obtain ⟨n5, hn6, hx7, h⟩ := h
      refine q_zald (m := 287) o rfl rfl (by decide) hn6 hx7 dX10_wants_40 ?_
      refine q_if_ne o 46 dX10_wants_41 (by decide) (fun c8 => ?_) (fun c8 => ?_)
      · have h := h.1 c8
        refine q_iinc o (y := (a3 + (1 : Int32))) (lv' := [(3, .int (a3 + (1 : Int32))), (0, .ref (gA G 24 0)), (1, .int a1), (2, .int a2)]) dX10_wants_46 rfl rfl (by decide) rfl ?_
        refine q_goto o 13 dX10_wants_49 (by decide) ?_
        refine q_lv [1, 2, 3, 0] rfl ?_
        exact hK13 a1 a2 (a3 + (1 : Int32)) v3 h
      · have h := h.2 c8
        refine q_iconst o dX10_wants_44 (x := (1 : Int32)) (by decide) ?_
        exact q_zret o rt dX10_wants_45 (by decide) h
def wp_X10_wants (a1 : Int32) (a2 : Int32) (v : St3) (post : (Int32 → St3 → Prop)) : Prop := wp_X10_isNear a2 a1 v (fun r2 v1 => ((¬ r2 = 0 → wL_X10_wants_13 post FU a1 a2 (0 : Int32) v1) ∧ (r2 = 0 → post (0 : Int32) v1)))
set_option maxRecDepth 20000 in
set_option maxHeartbeats 4000000 in
theorem ad_X10_wants (l : Launch) (G : Geo) (a1 : Int32) (a2 : Int32) (v : St3) {post : (Int32 → St3 → Prop)} (h : wp_X10_wants a1 a2 v post) : CI l G yX10_wants wsX10_wants 2 [.ref (gA G 24 0), .int a1, .int a2] v post := by
  refine CI.of (ty := .boolean) (cc := cX10_wants) (maxL := 4) (by decide) rfl (Nat.le_of_ble_eq_true rfl) (fun X o rt => ?_)
  unfold wp_X10_wants at h
  show J l G X 0 [(0, .ref (gA G 24 0)), (1, .int a1), (2, .int a2)] [] v
  refine q_aload_n o dX10_wants_0 rfl ?_
  refine q_iload_n o dX10_wants_1 rfl ?_
  refine q_iload_n o dX10_wants_2 rfl ?_
  refine q_callV o [.int a2, .int a1] (ad_X10_isNear l G a2 a1 v h) gX10_wants_X10_isNear rfl rfl rfl rfl (by decide) ⟨rfl, by decide, by decide, pd_X10_isNear⟩ (by decide) (by decide) rfl (Nat.le_of_ble_eq_true rfl) dX10_wants_3 (fun r2 v1 h => ?_)
  refine q_if_ne o 11 dX10_wants_6 (by decide) (fun c11 => ?_) (fun c11 => ?_)
  · have h := h.1 c11
    refine q_iconst o dX10_wants_11 (x := (0 : Int32)) (by decide) ?_
    refine q_istore_n o (lv' := [(3, .int (0 : Int32)), (0, .ref (gA G 24 0)), (1, .int a1), (2, .int a2)]) dX10_wants_12 (by decide) rfl ?_
    refine q_lv [1, 2, 3, 0] rfl ?_
    exact aL_X10_wants_13 o rt FU a1 a2 (0 : Int32) v1 h
  · have h := h.2 c11
    refine q_iconst o dX10_wants_9 (x := (0 : Int32)) (by decide) ?_
    exact q_zret o rt dX10_wants_10 (by decide) h
theorem pd_X10_wants : (parseMethodDescriptor yX10_wants.desc).map (fun d => d.parameters.length) = some 2 := by decide +kernel
-- PieceSwarmModel.often(II)Z
theorem inn_X10_often_X10 : ∀ w ∈ wsX100, w ∈ wsX10_often := by decide +kernel
theorem sp_X10_often_120 : SP wsX10_often RX10 120 24 0 := ⟨RX10, TX10, 45, tyX10, rfl, rfl, rfl, rfl, by decide, inn_X10_often_X10, by decide +kernel, tyX10_ok, nmX10, rfl, by decide +kernel⟩
theorem sf_X10_often_16 : SF wsX10_often RX10 16 24 10 40 := ⟨RX10, TX10, 45, rfl, rfl, rfl, rfl, by decide, inn_X10_often_X10, by decide +kernel⟩
theorem sf_X10_often_30 : SF wsX10_often RX10 30 24 14 44 := ⟨RX10, TX10, 45, rfl, rfl, rfl, rfl, by decide, inn_X10_often_X10, by decide +kernel⟩
def wp_X10_often (a1 : Int32) (a2 : Int32) (v : St3) (post : (Int32 → St3 → Prop)) : Prop := ∀ v1, v1 = up3 v 24 0 0 (0 : Int32) → wp_X10_isPeer a1 v1 (fun r4 v3 => ((r4 = 0 → post (0 : Int32) v3) ∧ (¬ r4 = 0 → ∃ n5, n5 < 12 ∧ a1 = nI n5 ∧ ((¬ (v3 40 0 n5) = (3 : Int32) → post (0 : Int32) v3) ∧ ((v3 40 0 n5) = (3 : Int32) → wp_X10_in a2 (1 : Int32) (100 : Int32) v3 (fun r9 v8 => ((¬ r9 = 0 → ∀ v10, v10 = up3 v8 44 0 n5 a2 → post (1 : Int32) v10) ∧ (r9 = 0 → post (0 : Int32) v8))))))))
set_option maxRecDepth 20000 in
set_option maxHeartbeats 4000000 in
theorem ad_X10_often (l : Launch) (G : Geo) (a1 : Int32) (a2 : Int32) (v : St3) {post : (Int32 → St3 → Prop)} (h : wp_X10_often a1 a2 v post) : CI l G yX10_often wsX10_often 2 [.ref (gA G 24 0), .int a1, .int a2] v post := by
  refine CI.of (ty := .boolean) (cc := cX10_often) (maxL := 3) (by decide) rfl (Nat.le_of_ble_eq_true rfl) (fun X o rt => ?_)
  unfold wp_X10_often at h
  show J l G X 0 [(0, .ref (gA G 24 0)), (1, .int a1), (2, .int a2)] [] v
  refine q_aload_n o dX10_often_0 rfl ?_
  refine q_iconst o dX10_often_1 (x := (0 : Int32)) (by decide) ?_
  refine q_putI o sp_X10_often_120 (by decide) dX10_often_2 (fun v1 e2 => ?_)
  have h := h v1 e2
  refine q_aload_n o dX10_often_5 rfl ?_
  refine q_iload_n o dX10_often_6 rfl ?_
  refine q_callV o [.int a1] (ad_X10_isPeer l G a1 v1 h) gX10_often_X10_isPeer rfl rfl rfl rfl (by decide) ⟨rfl, by decide, by decide, pd_X10_isPeer⟩ (by decide) (by decide) rfl (Nat.le_of_ble_eq_true rfl) dX10_often_7 (fun r4 v3 h => ?_)
  refine q_if_eq o 33 dX10_often_10 (by decide) (fun c14 => ?_) (fun c14 => ?_)
  · have h := h.1 c14
    refine q_iconst o dX10_often_33 (x := (0 : Int32)) (by decide) ?_
    exact q_zret o rt dX10_often_34 (by decide) h
  · have h := h.2 c14
    refine q_aload_n o dX10_often_13 rfl ?_
    refine q_getR (q := 39) o sf_X10_often_16 (by decide) dX10_often_14 ?_
    refine q_iload_n o dX10_often_17 rfl ?_
    obtain ⟨n5, hn6, hx7, h⟩ := h
    refine q_iald (m := 11) o rfl rfl (by decide) hn6 hx7 dX10_often_18 ?_
    refine q_iconst o dX10_often_19 (x := (3 : Int32)) (by decide) ?_
    refine q_ic_ne o 33 dX10_often_20 (by decide) (fun c13 => ?_) (fun c13 => ?_)
    · have h := h.1 c13
      refine q_iconst o dX10_often_33 (x := (0 : Int32)) (by decide) ?_
      exact q_zret o rt dX10_often_34 (by decide) h
    · have h := h.2 c13
      refine q_iload_n o dX10_often_23 rfl ?_
      refine q_iconst o dX10_often_24 (x := (1 : Int32)) (by decide) ?_
      refine q_bipush o dX10_often_25 (x := (100 : Int32)) (by decide) ?_
      refine q_callS o [.int a2, .int (1 : Int32), .int (100 : Int32)] (ad_X10_in l G a2 (1 : Int32) (100 : Int32) v3 h) gX10_often_X10_in rfl ⟨by decide, by decide, pd_X10_in⟩ (by decide) (by decide) rfl (Nat.le_of_ble_eq_true rfl) dX10_often_27 (fun r9 v8 h => ?_)
      refine q_if_ne o 35 dX10_often_30 (by decide) (fun c12 => ?_) (fun c12 => ?_)
      · have h := h.1 c12
        refine q_aload_n o dX10_often_35 rfl ?_
        refine q_getR (q := 43) o sf_X10_often_30 (by decide) dX10_often_36 ?_
        refine q_iload_n o dX10_often_39 rfl ?_
        refine q_iload_n o dX10_often_40 rfl ?_
        refine q_iast (m := 11) o rfl rfl (by decide) hn6 hx7 dX10_often_41 (fun v10 e11 => ?_)
        have h := h v10 e11
        refine q_iconst o dX10_often_42 (x := (1 : Int32)) (by decide) ?_
        exact q_zret o rt dX10_often_43 (by decide) h
      · have h := h.2 c12
        refine q_iconst o dX10_often_33 (x := (0 : Int32)) (by decide) ?_
        exact q_zret o rt dX10_often_34 (by decide) h
theorem pd_X10_often : (parseMethodDescriptor yX10_often.desc).map (fun d => d.parameters.length) = some 2 := by decide +kernel
-- PieceSwarmModel.meet(II)Z
theorem inn_X10_meet_X10 : ∀ w ∈ wsX100, w ∈ wsX10_meet := by decide +kernel
theorem sp_X10_meet_120 : SP wsX10_meet RX10 120 24 0 := ⟨RX10, TX10, 45, tyX10, rfl, rfl, rfl, rfl, by decide, inn_X10_meet_X10, by decide +kernel, tyX10_ok, nmX10, rfl, by decide +kernel⟩
theorem sf_X10_meet_63 : SF wsX10_meet RX10 63 24 25 55 := ⟨RX10, TX10, 45, rfl, rfl, rfl, rfl, by decide, inn_X10_meet_X10, by decide +kernel⟩
def wp_X10_meet (a1 : Int32) (a2 : Int32) (v : St3) (post : (Int32 → St3 → Prop)) : Prop := ∀ v1, v1 = up3 v 24 0 0 (0 : Int32) → wp_X10_isTwo a1 a2 v1 (fun r4 v3 => ((r4 = 0 → post (0 : Int32) v3) ∧ (¬ r4 = 0 → wp_X10_two a1 a2 v3 (fun r6 v5 => ∃ n7, n7 < 144 ∧ r6 = nI n7 ∧ (((v5 55 0 n7) = 0 → wp_X10_two a1 a2 v5 (fun r11 v10 => ∃ n12, n12 < 144 ∧ r11 = nI n12 ∧ ∀ v15, v15 = up3 v10 55 0 n12 (1 : Int32) → wp_X10_two a2 a1 v15 (fun r18 v17 => ∃ n19, n19 < 144 ∧ r18 = nI n19 ∧ ∀ v22, v22 = up3 v17 55 0 n19 (1 : Int32) → post (1 : Int32) v22))) ∧ (¬ (v5 55 0 n7) = 0 → post (0 : Int32) v5))))))
set_option maxRecDepth 20000 in
set_option maxHeartbeats 4000000 in
theorem ad_X10_meet (l : Launch) (G : Geo) (a1 : Int32) (a2 : Int32) (v : St3) {post : (Int32 → St3 → Prop)} (h : wp_X10_meet a1 a2 v post) : CI l G yX10_meet wsX10_meet 3 [.ref (gA G 24 0), .int a1, .int a2] v post := by
  refine CI.of (ty := .boolean) (cc := cX10_meet) (maxL := 3) (by decide) rfl (Nat.le_of_ble_eq_true rfl) (fun X o rt => ?_)
  unfold wp_X10_meet at h
  show J l G X 0 [(0, .ref (gA G 24 0)), (1, .int a1), (2, .int a2)] [] v
  refine q_aload_n o dX10_meet_0 rfl ?_
  refine q_iconst o dX10_meet_1 (x := (0 : Int32)) (by decide) ?_
  refine q_putI o sp_X10_meet_120 (by decide) dX10_meet_2 (fun v1 e2 => ?_)
  have h := h v1 e2
  refine q_aload_n o dX10_meet_5 rfl ?_
  refine q_iload_n o dX10_meet_6 rfl ?_
  refine q_iload_n o dX10_meet_7 rfl ?_
  refine q_callV o [.int a1, .int a2] (ad_X10_isTwo l G a1 a2 v1 h) gX10_meet_X10_isTwo rfl rfl rfl rfl (by decide) ⟨rfl, by decide, by decide, pd_X10_isTwo⟩ (by decide) (by decide) rfl (Nat.le_of_ble_eq_true rfl) dX10_meet_8 (fun r4 v3 h => ?_)
  refine q_if_eq o 27 dX10_meet_11 (by decide) (fun c25 => ?_) (fun c25 => ?_)
  · have h := h.1 c25
    refine q_iconst o dX10_meet_27 (x := (0 : Int32)) (by decide) ?_
    exact q_zret o rt dX10_meet_28 (by decide) h
  · have h := h.2 c25
    refine q_aload_n o dX10_meet_14 rfl ?_
    refine q_getR (q := 54) o sf_X10_meet_63 (by decide) dX10_meet_15 ?_
    refine q_iload_n o dX10_meet_18 rfl ?_
    refine q_iload_n o dX10_meet_19 rfl ?_
    refine q_callS o [.int a1, .int a2] (ad_X10_two l G a1 a2 v3 h) gX10_meet_X10_two rfl ⟨by decide, by decide, pd_X10_two⟩ (by decide) (by decide) rfl (Nat.le_of_ble_eq_true rfl) dX10_meet_20 (fun r6 v5 h => ?_)
    obtain ⟨n7, hn8, hx9, h⟩ := h
    refine q_zald (m := 143) o rfl rfl (by decide) hn8 hx9 dX10_meet_23 ?_
    refine q_if_eq o 29 dX10_meet_24 (by decide) (fun c24 => ?_) (fun c24 => ?_)
    · have h := h.1 c24
      refine q_aload_n o dX10_meet_29 rfl ?_
      refine q_getR (q := 54) o sf_X10_meet_63 (by decide) dX10_meet_30 ?_
      refine q_iload_n o dX10_meet_33 rfl ?_
      refine q_iload_n o dX10_meet_34 rfl ?_
      refine q_callS o [.int a1, .int a2] (ad_X10_two l G a1 a2 v5 h) gX10_meet_X10_two rfl ⟨by decide, by decide, pd_X10_two⟩ (by decide) (by decide) rfl (Nat.le_of_ble_eq_true rfl) dX10_meet_35 (fun r11 v10 h => ?_)
      refine q_iconst o dX10_meet_38 (x := (1 : Int32)) (by decide) ?_
      obtain ⟨n12, hn13, hx14, h⟩ := h
      refine q_zast (m := 143) o rfl rfl (by decide) hn13 hx14 (by decide) dX10_meet_39 (fun v15 e16 => ?_)
      have h := h v15 e16
      refine q_aload_n o dX10_meet_40 rfl ?_
      refine q_getR (q := 54) o sf_X10_meet_63 (by decide) dX10_meet_41 ?_
      refine q_iload_n o dX10_meet_44 rfl ?_
      refine q_iload_n o dX10_meet_45 rfl ?_
      refine q_callS o [.int a2, .int a1] (ad_X10_two l G a2 a1 v15 h) gX10_meet_X10_two rfl ⟨by decide, by decide, pd_X10_two⟩ (by decide) (by decide) rfl (Nat.le_of_ble_eq_true rfl) dX10_meet_46 (fun r18 v17 h => ?_)
      refine q_iconst o dX10_meet_49 (x := (1 : Int32)) (by decide) ?_
      obtain ⟨n19, hn20, hx21, h⟩ := h
      refine q_zast (m := 143) o rfl rfl (by decide) hn20 hx21 (by decide) dX10_meet_50 (fun v22 e23 => ?_)
      have h := h v22 e23
      refine q_iconst o dX10_meet_51 (x := (1 : Int32)) (by decide) ?_
      exact q_zret o rt dX10_meet_52 (by decide) h
    · have h := h.2 c24
      refine q_iconst o dX10_meet_27 (x := (0 : Int32)) (by decide) ?_
      exact q_zret o rt dX10_meet_28 (by decide) h
theorem pd_X10_meet : (parseMethodDescriptor yX10_meet.desc).map (fun d => d.parameters.length) = some 2 := by decide +kernel
-- PieceSwarmModel.leave(I)Z
theorem inn_X10_leave_X10 : ∀ w ∈ wsX100, w ∈ wsX10_leave := by decide +kernel
theorem sp_X10_leave_120 : SP wsX10_leave RX10 120 24 0 := ⟨RX10, TX10, 45, tyX10, rfl, rfl, rfl, rfl, by decide, inn_X10_leave_X10, by decide +kernel, tyX10_ok, nmX10, rfl, by decide +kernel⟩
theorem sf_X10_leave_26 : SF wsX10_leave RX10 26 24 13 43 := ⟨RX10, TX10, 45, rfl, rfl, rfl, rfl, by decide, inn_X10_leave_X10, by decide +kernel⟩
theorem sf_X10_leave_170 : SF wsX10_leave RX10 170 24 34 0 := ⟨RX10, TX10, 45, rfl, rfl, rfl, rfl, by decide, inn_X10_leave_X10, by decide +kernel⟩
theorem sf_X10_leave_177 : SF wsX10_leave RX10 177 24 7 0 := ⟨RX10, TX10, 45, rfl, rfl, rfl, rfl, by decide, inn_X10_leave_X10, by decide +kernel⟩
theorem sp_X10_leave_177 : SP wsX10_leave RX10 177 24 7 := ⟨RX10, TX10, 45, tyX10, rfl, rfl, rfl, rfl, by decide, inn_X10_leave_X10, by decide +kernel, tyX10_ok, nmX10, rfl, by decide +kernel⟩
theorem sp_X10_leave_170 : SP wsX10_leave RX10 170 24 34 := ⟨RX10, TX10, 45, tyX10, rfl, rfl, rfl, rfl, by decide, inn_X10_leave_X10, by decide +kernel, tyX10_ok, nmX10, rfl, by decide +kernel⟩
theorem sf_X10_leave_136 : SF wsX10_leave RX10 136 24 4 0 := ⟨RX10, TX10, 45, rfl, rfl, rfl, rfl, by decide, inn_X10_leave_X10, by decide +kernel⟩
theorem sf_X10_leave_66 : SF wsX10_leave RX10 66 24 26 56 := ⟨RX10, TX10, 45, rfl, rfl, rfl, rfl, by decide, inn_X10_leave_X10, by decide +kernel⟩
theorem sf_X10_leave_90 : SF wsX10_leave RX10 90 24 35 65 := ⟨RX10, TX10, 45, rfl, rfl, rfl, rfl, by decide, inn_X10_leave_X10, by decide +kernel⟩
theorem sf_X10_leave_93 : SF wsX10_leave RX10 93 24 36 66 := ⟨RX10, TX10, 45, rfl, rfl, rfl, rfl, by decide, inn_X10_leave_X10, by decide +kernel⟩
def wB_X10_leave_103 (post : (Int32 → St3 → Prop)) (K103 : Int32 → Int32 → St3 → Prop) (a1 : Int32) (a3 : Int32) (v : St3) : Prop := (((v 24 0 4) ≤ a3 → post (1 : Int32) v) ∧ (¬ (v 24 0 4) ≤ a3 → wp_X10_two a1 a3 v (fun r15 v14 => ∃ n16, n16 < 144 ∧ r15 = nI n16 ∧ ∀ v19, v19 = up3 v14 56 0 n16 (0 : Int32) → wp_X10_two a3 a1 v19 (fun r22 v21 => ∃ n23, n23 < 144 ∧ r22 = nI n23 ∧ ∀ v26, v26 = up3 v21 56 0 n23 (0 : Int32) → K103 a1 (a3 + (1 : Int32)) v26))))
def wL_X10_leave_103 (post : (Int32 → St3 → Prop)) : Nat → Int32 → Int32 → St3 → Prop
  | 0, _, _, _ => False
  | f + 1, a1, a3, v => wB_X10_leave_103 post (wL_X10_leave_103 post f) a1 a3 v
set_option maxRecDepth 20000 in
set_option maxHeartbeats 4000000 in
theorem aL_X10_leave_103 {l : Launch} {G : Geo} {X : CT} (o : OK G X cX10_leave wsX10_leave RX10 2 4) {post : (Int32 → St3 → Prop)} (rt : RI G X .boolean post) : ∀ (f : Nat) (a1 : Int32) (a3 : Int32) (v : St3), wL_X10_leave_103 post f a1 a3 v → J l G X 103 [(0, .ref (gA G 24 0)), (1, .int a1), (3, .int a3)] [] v := by
  intro f
  induction f with
  | zero => intro _ _ _ h; exact False.elim h
  | succ f hK103 =>
  intro a1 a3 v h
  have h : wB_X10_leave_103 post (wL_X10_leave_103 post f) a1 a3 v := h
  unfold wB_X10_leave_103 at h
  refine q_iload_n o dX10_leave_103 rfl ?_
  refine q_aload_n o dX10_leave_104 rfl ?_
  refine q_getI o sf_X10_leave_136 (by decide) dX10_leave_105 ?_
  refine q_ic_ge o 139 dX10_leave_108 (by decide) (fun c28 => ?_) (fun c28 => ?_)
  · have h := h.1 c28
    refine q_iconst o dX10_leave_139 (x := (1 : Int32)) (by decide) ?_
    exact q_zret o rt dX10_leave_140 (by decide) h
  · have h := h.2 c28
    refine q_aload_n o dX10_leave_111 rfl ?_
    refine q_getR (q := 55) o sf_X10_leave_66 (by decide) dX10_leave_112 ?_
    refine q_iload_n o dX10_leave_115 rfl ?_
    refine q_iload_n o dX10_leave_116 rfl ?_
    refine q_callS o [.int a1, .int a3] (ad_X10_two l G a1 a3 v h) gX10_leave_X10_two rfl ⟨by decide, by decide, pd_X10_two⟩ (by decide) (by decide) rfl (Nat.le_of_ble_eq_true rfl) dX10_leave_117 (fun r15 v14 h => ?_)
    refine q_iconst o dX10_leave_120 (x := (0 : Int32)) (by decide) ?_
    obtain ⟨n16, hn17, hx18, h⟩ := h
    refine q_zast (m := 143) o rfl rfl (by decide) hn17 hx18 (by decide) dX10_leave_121 (fun v19 e20 => ?_)
    have h := h v19 e20
    refine q_aload_n o dX10_leave_122 rfl ?_
    refine q_getR (q := 55) o sf_X10_leave_66 (by decide) dX10_leave_123 ?_
    refine q_iload_n o dX10_leave_126 rfl ?_
    refine q_iload_n o dX10_leave_127 rfl ?_
    refine q_callS o [.int a3, .int a1] (ad_X10_two l G a3 a1 v19 h) gX10_leave_X10_two rfl ⟨by decide, by decide, pd_X10_two⟩ (by decide) (by decide) rfl (Nat.le_of_ble_eq_true rfl) dX10_leave_128 (fun r22 v21 h => ?_)
    refine q_iconst o dX10_leave_131 (x := (0 : Int32)) (by decide) ?_
    obtain ⟨n23, hn24, hx25, h⟩ := h
    refine q_zast (m := 143) o rfl rfl (by decide) hn24 hx25 (by decide) dX10_leave_132 (fun v26 e27 => ?_)
    have h := h v26 e27
    refine q_iinc o (y := (a3 + (1 : Int32))) (lv' := [(3, .int (a3 + (1 : Int32))), (0, .ref (gA G 24 0)), (1, .int a1)]) dX10_leave_133 rfl rfl (by decide) rfl ?_
    refine q_goto o 103 dX10_leave_136 (by decide) ?_
    refine q_lv [1, 2, 0] rfl ?_
    exact hK103 a1 (a3 + (1 : Int32)) v26 h
def wB_X10_leave_35 (post : (Int32 → St3 → Prop)) (K35 : Int32 → Int32 → Int32 → St3 → Prop) (a1 : Int32) (a2 : Int32) (a3 : Int32) (v : St3) : Prop := (((v 24 0 34) ≤ a3 → ∀ v10, v10 = up3 v 24 0 7 ((v 24 0 7) + ((v 24 0 34) - a2)) → ∀ v12, v12 = up3 v10 24 0 34 a2 → wL_X10_leave_103 post FU a1 (0 : Int32) v12) ∧ (¬ (v 24 0 34) ≤ a3 → ∃ n29, n29 < 400 ∧ a3 = nI n29 ∧ (((v 65 0 n29) = a1 → K35 a1 a2 (a3 + (1 : Int32)) v) ∧ (¬ (v 65 0 n29) = a1 → ((¬ (v 66 0 n29) = a1 → wp_X10_keep a2 a3 v (fun v32 => K35 a1 (a2 + (1 : Int32)) (a3 + (1 : Int32)) v32)) ∧ ((v 66 0 n29) = a1 → K35 a1 a2 (a3 + (1 : Int32)) v))))))
def wL_X10_leave_35 (post : (Int32 → St3 → Prop)) : Nat → Int32 → Int32 → Int32 → St3 → Prop
  | 0, _, _, _, _ => False
  | f + 1, a1, a2, a3, v => wB_X10_leave_35 post (wL_X10_leave_35 post f) a1 a2 a3 v
set_option maxRecDepth 20000 in
set_option maxHeartbeats 4000000 in
theorem aL_X10_leave_35 {l : Launch} {G : Geo} {X : CT} (o : OK G X cX10_leave wsX10_leave RX10 2 4) {post : (Int32 → St3 → Prop)} (rt : RI G X .boolean post) : ∀ (f : Nat) (a1 : Int32) (a2 : Int32) (a3 : Int32) (v : St3), wL_X10_leave_35 post f a1 a2 a3 v → J l G X 35 [(0, .ref (gA G 24 0)), (1, .int a1), (2, .int a2), (3, .int a3)] [] v := by
  intro f
  induction f with
  | zero => intro _ _ _ _ h; exact False.elim h
  | succ f hK35 =>
  intro a1 a2 a3 v h
  have h : wB_X10_leave_35 post (wL_X10_leave_35 post f) a1 a2 a3 v := h
  unfold wB_X10_leave_35 at h
  refine q_iload_n o dX10_leave_35 rfl ?_
  refine q_aload_n o dX10_leave_36 rfl ?_
  refine q_getI o sf_X10_leave_170 (by decide) dX10_leave_37 ?_
  refine q_ic_ge o 81 dX10_leave_40 (by decide) (fun c36 => ?_) (fun c36 => ?_)
  · have h := h.1 c36
    refine q_aload_n o dX10_leave_81 rfl ?_
    refine q_dup o dX10_leave_82 rfl ?_
    refine q_getI o sf_X10_leave_177 (by decide) dX10_leave_83 ?_
    refine q_aload_n o dX10_leave_86 rfl ?_
    refine q_getI o sf_X10_leave_170 (by decide) dX10_leave_87 ?_
    refine q_iload_n o dX10_leave_90 rfl ?_
    refine q_isub o dX10_leave_91 ?_
    refine q_iadd o dX10_leave_92 ?_
    refine q_putI o sp_X10_leave_177 (by decide) dX10_leave_93 (fun v10 e11 => ?_)
    have h := h v10 e11
    refine q_aload_n o dX10_leave_96 rfl ?_
    refine q_iload_n o dX10_leave_97 rfl ?_
    refine q_putI o sp_X10_leave_170 (by decide) dX10_leave_98 (fun v12 e13 => ?_)
    have h := h v12 e13
    refine q_iconst o dX10_leave_101 (x := (0 : Int32)) (by decide) ?_
    refine q_istore_n o (lv' := [(3, .int (0 : Int32)), (0, .ref (gA G 24 0)), (1, .int a1), (2, .int a2)]) dX10_leave_102 (by decide) rfl ?_
    refine q_lv [1, 2, 0] rfl ?_
    exact aL_X10_leave_103 o rt FU a1 (0 : Int32) v12 h
  · have h := h.2 c36
    refine q_aload_n o dX10_leave_43 rfl ?_
    refine q_getR (q := 64) o sf_X10_leave_90 (by decide) dX10_leave_44 ?_
    refine q_iload_n o dX10_leave_47 rfl ?_
    obtain ⟨n29, hn30, hx31, h⟩ := h
    refine q_iald (m := 399) o rfl rfl (by decide) hn30 hx31 dX10_leave_48 ?_
    refine q_iload_n o dX10_leave_49 rfl ?_
    refine q_ic_eq o 75 dX10_leave_50 (by decide) (fun c35 => ?_) (fun c35 => ?_)
    · have h := h.1 c35
      refine q_iinc o (y := (a3 + (1 : Int32))) (lv' := [(3, .int (a3 + (1 : Int32))), (0, .ref (gA G 24 0)), (1, .int a1), (2, .int a2)]) dX10_leave_75 rfl rfl (by decide) rfl ?_
      refine q_goto o 35 dX10_leave_78 (by decide) ?_
      refine q_lv [1, 2, 3, 0] rfl ?_
      exact hK35 a1 a2 (a3 + (1 : Int32)) v h
    · have h := h.2 c35
      refine q_aload_n o dX10_leave_53 rfl ?_
      refine q_getR (q := 65) o sf_X10_leave_93 (by decide) dX10_leave_54 ?_
      refine q_iload_n o dX10_leave_57 rfl ?_
      refine q_iald (m := 399) o rfl rfl (by decide) hn30 hx31 dX10_leave_58 ?_
      refine q_iload_n o dX10_leave_59 rfl ?_
      refine q_ic_ne o 66 dX10_leave_60 (by decide) (fun c34 => ?_) (fun c34 => ?_)
      · have h := h.1 c34
        refine q_aload_n o dX10_leave_66 rfl ?_
        refine q_iload_n o dX10_leave_67 rfl ?_
        refine q_iload_n o dX10_leave_68 rfl ?_
        refine q_callVv o [.int a2, .int a3] (ad_X10_keep l G a2 a3 v h) gX10_leave_X10_keep rfl rfl rfl rfl (by decide) ⟨rfl, by decide, by decide, pd_X10_keep⟩ (by decide) (by decide) rfl (Nat.le_of_ble_eq_true rfl) dX10_leave_69 (fun v32 h => ?_)
        refine q_iinc o (y := (a2 + (1 : Int32))) (lv' := [(2, .int (a2 + (1 : Int32))), (0, .ref (gA G 24 0)), (1, .int a1), (3, .int a3)]) dX10_leave_72 rfl rfl (by decide) rfl ?_
        refine q_iinc o (y := (a3 + (1 : Int32))) (lv' := [(3, .int (a3 + (1 : Int32))), (2, .int (a2 + (1 : Int32))), (0, .ref (gA G 24 0)), (1, .int a1)]) dX10_leave_75 rfl rfl (by decide) rfl ?_
        refine q_goto o 35 dX10_leave_78 (by decide) ?_
        refine q_lv [2, 3, 1, 0] rfl ?_
        exact hK35 a1 (a2 + (1 : Int32)) (a3 + (1 : Int32)) v32 h
      · have h := h.2 c34
        refine q_goto o 75 dX10_leave_63 (by decide) ?_
        refine q_iinc o (y := (a3 + (1 : Int32))) (lv' := [(3, .int (a3 + (1 : Int32))), (0, .ref (gA G 24 0)), (1, .int a1), (2, .int a2)]) dX10_leave_75 rfl rfl (by decide) rfl ?_
        refine q_goto o 35 dX10_leave_78 (by decide) ?_
        refine q_lv [1, 2, 3, 0] rfl ?_
        exact hK35 a1 a2 (a3 + (1 : Int32)) v h
def wp_X10_leave (a1 : Int32) (v : St3) (post : (Int32 → St3 → Prop)) : Prop := ∀ v1, v1 = up3 v 24 0 0 (0 : Int32) → wp_X10_isPeer a1 v1 (fun r4 v3 => ((r4 = 0 → post (0 : Int32) v3) ∧ (¬ r4 = 0 → ∃ n5, n5 < 12 ∧ a1 = nI n5 ∧ ((¬ (v3 43 0 n5) = 0 → ∀ v8, v8 = up3 v3 43 0 n5 (0 : Int32) → wL_X10_leave_35 post FU a1 (0 : Int32) (0 : Int32) v8) ∧ ((v3 43 0 n5) = 0 → post (0 : Int32) v3)))))
set_option maxRecDepth 20000 in
set_option maxHeartbeats 4000000 in
theorem ad_X10_leave (l : Launch) (G : Geo) (a1 : Int32) (v : St3) {post : (Int32 → St3 → Prop)} (h : wp_X10_leave a1 v post) : CI l G yX10_leave wsX10_leave 2 [.ref (gA G 24 0), .int a1] v post := by
  refine CI.of (ty := .boolean) (cc := cX10_leave) (maxL := 4) (by decide) rfl (Nat.le_of_ble_eq_true rfl) (fun X o rt => ?_)
  unfold wp_X10_leave at h
  show J l G X 0 [(0, .ref (gA G 24 0)), (1, .int a1)] [] v
  refine q_aload_n o dX10_leave_0 rfl ?_
  refine q_iconst o dX10_leave_1 (x := (0 : Int32)) (by decide) ?_
  refine q_putI o sp_X10_leave_120 (by decide) dX10_leave_2 (fun v1 e2 => ?_)
  have h := h v1 e2
  refine q_aload_n o dX10_leave_5 rfl ?_
  refine q_iload_n o dX10_leave_6 rfl ?_
  refine q_callV o [.int a1] (ad_X10_isPeer l G a1 v1 h) gX10_leave_X10_isPeer rfl rfl rfl rfl (by decide) ⟨rfl, by decide, by decide, pd_X10_isPeer⟩ (by decide) (by decide) rfl (Nat.le_of_ble_eq_true rfl) dX10_leave_7 (fun r4 v3 h => ?_)
  refine q_if_eq o 22 dX10_leave_10 (by decide) (fun c38 => ?_) (fun c38 => ?_)
  · have h := h.1 c38
    refine q_iconst o dX10_leave_22 (x := (0 : Int32)) (by decide) ?_
    exact q_zret o rt dX10_leave_23 (by decide) h
  · have h := h.2 c38
    refine q_aload_n o dX10_leave_13 rfl ?_
    refine q_getR (q := 42) o sf_X10_leave_26 (by decide) dX10_leave_14 ?_
    refine q_iload_n o dX10_leave_17 rfl ?_
    obtain ⟨n5, hn6, hx7, h⟩ := h
    refine q_zald (m := 11) o rfl rfl (by decide) hn6 hx7 dX10_leave_18 ?_
    refine q_if_ne o 24 dX10_leave_19 (by decide) (fun c37 => ?_) (fun c37 => ?_)
    · have h := h.1 c37
      refine q_aload_n o dX10_leave_24 rfl ?_
      refine q_getR (q := 42) o sf_X10_leave_26 (by decide) dX10_leave_25 ?_
      refine q_iload_n o dX10_leave_28 rfl ?_
      refine q_iconst o dX10_leave_29 (x := (0 : Int32)) (by decide) ?_
      refine q_zast (m := 11) o rfl rfl (by decide) hn6 hx7 (by decide) dX10_leave_30 (fun v8 e9 => ?_)
      have h := h v8 e9
      refine q_iconst o dX10_leave_31 (x := (0 : Int32)) (by decide) ?_
      refine q_istore_n o (lv' := [(2, .int (0 : Int32)), (0, .ref (gA G 24 0)), (1, .int a1)]) dX10_leave_32 (by decide) rfl ?_
      refine q_iconst o dX10_leave_33 (x := (0 : Int32)) (by decide) ?_
      refine q_istore_n o (lv' := [(3, .int (0 : Int32)), (2, .int (0 : Int32)), (0, .ref (gA G 24 0)), (1, .int a1)]) dX10_leave_34 (by decide) rfl ?_
      refine q_lv [2, 3, 1, 0] rfl ?_
      exact aL_X10_leave_35 o rt FU a1 (0 : Int32) (0 : Int32) v8 h
    · have h := h.2 c37
      refine q_iconst o dX10_leave_22 (x := (0 : Int32)) (by decide) ?_
      exact q_zret o rt dX10_leave_23 (by decide) h
theorem pd_X10_leave : (parseMethodDescriptor yX10_leave.desc).map (fun d => d.parameters.length) = some 1 := by decide +kernel
-- PieceSwarmModel.join(I)Z
theorem inn_X10_join_X10 : ∀ w ∈ wsX100, w ∈ wsX10_join := by decide +kernel
theorem sp_X10_join_120 : SP wsX10_join RX10 120 24 0 := ⟨RX10, TX10, 45, tyX10, rfl, rfl, rfl, rfl, by decide, inn_X10_join_X10, by decide +kernel, tyX10_ok, nmX10, rfl, by decide +kernel⟩
theorem sf_X10_join_26 : SF wsX10_join RX10 26 24 13 43 := ⟨RX10, TX10, 45, rfl, rfl, rfl, rfl, by decide, inn_X10_join_X10, by decide +kernel⟩
def wp_X10_join (a1 : Int32) (v : St3) (post : (Int32 → St3 → Prop)) : Prop := ∀ v1, v1 = up3 v 24 0 0 (0 : Int32) → wp_X10_isPeer a1 v1 (fun r4 v3 => ((r4 = 0 → post (0 : Int32) v3) ∧ (¬ r4 = 0 → ∃ n5, n5 < 12 ∧ a1 = nI n5 ∧ (((v3 43 0 n5) = 0 → ∀ v8, v8 = up3 v3 43 0 n5 (1 : Int32) → post (1 : Int32) v8) ∧ (¬ (v3 43 0 n5) = 0 → post (0 : Int32) v3)))))
set_option maxRecDepth 20000 in
set_option maxHeartbeats 4000000 in
theorem ad_X10_join (l : Launch) (G : Geo) (a1 : Int32) (v : St3) {post : (Int32 → St3 → Prop)} (h : wp_X10_join a1 v post) : CI l G yX10_join wsX10_join 2 [.ref (gA G 24 0), .int a1] v post := by
  refine CI.of (ty := .boolean) (cc := cX10_join) (maxL := 2) (by decide) rfl (Nat.le_of_ble_eq_true rfl) (fun X o rt => ?_)
  unfold wp_X10_join at h
  show J l G X 0 [(0, .ref (gA G 24 0)), (1, .int a1)] [] v
  refine q_aload_n o dX10_join_0 rfl ?_
  refine q_iconst o dX10_join_1 (x := (0 : Int32)) (by decide) ?_
  refine q_putI o sp_X10_join_120 (by decide) dX10_join_2 (fun v1 e2 => ?_)
  have h := h v1 e2
  refine q_aload_n o dX10_join_5 rfl ?_
  refine q_iload_n o dX10_join_6 rfl ?_
  refine q_callV o [.int a1] (ad_X10_isPeer l G a1 v1 h) gX10_join_X10_isPeer rfl rfl rfl rfl (by decide) ⟨rfl, by decide, by decide, pd_X10_isPeer⟩ (by decide) (by decide) rfl (Nat.le_of_ble_eq_true rfl) dX10_join_7 (fun r4 v3 h => ?_)
  refine q_if_eq o 22 dX10_join_10 (by decide) (fun c11 => ?_) (fun c11 => ?_)
  · have h := h.1 c11
    refine q_iconst o dX10_join_22 (x := (0 : Int32)) (by decide) ?_
    exact q_zret o rt dX10_join_23 (by decide) h
  · have h := h.2 c11
    refine q_aload_n o dX10_join_13 rfl ?_
    refine q_getR (q := 42) o sf_X10_join_26 (by decide) dX10_join_14 ?_
    refine q_iload_n o dX10_join_17 rfl ?_
    obtain ⟨n5, hn6, hx7, h⟩ := h
    refine q_zald (m := 11) o rfl rfl (by decide) hn6 hx7 dX10_join_18 ?_
    refine q_if_eq o 24 dX10_join_19 (by decide) (fun c10 => ?_) (fun c10 => ?_)
    · have h := h.1 c10
      refine q_aload_n o dX10_join_24 rfl ?_
      refine q_getR (q := 42) o sf_X10_join_26 (by decide) dX10_join_25 ?_
      refine q_iload_n o dX10_join_28 rfl ?_
      refine q_iconst o dX10_join_29 (x := (1 : Int32)) (by decide) ?_
      refine q_zast (m := 11) o rfl rfl (by decide) hn6 hx7 (by decide) dX10_join_30 (fun v8 e9 => ?_)
      have h := h v8 e9
      refine q_iconst o dX10_join_31 (x := (1 : Int32)) (by decide) ?_
      exact q_zret o rt dX10_join_32 (by decide) h
    · have h := h.2 c10
      refine q_iconst o dX10_join_22 (x := (0 : Int32)) (by decide) ?_
      exact q_zret o rt dX10_join_23 (by decide) h
theorem pd_X10_join : (parseMethodDescriptor yX10_join.desc).map (fun d => d.parameters.length) = some 1 := by decide +kernel
-- PieceSwarmModel.fails(II)V
theorem inn_X10_fails_X10 : ∀ w ∈ wsX100, w ∈ wsX10_fails := by decide +kernel
theorem sf_X10_fails_42 : SF wsX10_fails RX10 42 24 18 48 := ⟨RX10, TX10, 45, rfl, rfl, rfl, rfl, by decide, inn_X10_fails_X10, by decide +kernel⟩
theorem sf_X10_fails_180 : SF wsX10_fails RX10 180 24 8 0 := ⟨RX10, TX10, 45, rfl, rfl, rfl, rfl, by decide, inn_X10_fails_X10, by decide +kernel⟩
theorem sp_X10_fails_180 : SP wsX10_fails RX10 180 24 8 := ⟨RX10, TX10, 45, tyX10, rfl, rfl, rfl, rfl, by decide, inn_X10_fails_X10, by decide +kernel, tyX10_ok, nmX10, rfl, by decide +kernel⟩
theorem sf_X10_fails_13 : SF wsX10_fails RX10 13 24 2 0 := ⟨RX10, TX10, 45, rfl, rfl, rfl, rfl, by decide, inn_X10_fails_X10, by decide +kernel⟩
theorem sf_X10_fails_136 : SF wsX10_fails RX10 136 24 4 0 := ⟨RX10, TX10, 45, rfl, rfl, rfl, rfl, by decide, inn_X10_fails_X10, by decide +kernel⟩
theorem sf_X10_fails_51 : SF wsX10_fails RX10 51 24 21 51 := ⟨RX10, TX10, 45, rfl, rfl, rfl, rfl, by decide, inn_X10_fails_X10, by decide +kernel⟩
theorem sf_X10_fails_69 : SF wsX10_fails RX10 69 24 27 57 := ⟨RX10, TX10, 45, rfl, rfl, rfl, rfl, by decide, inn_X10_fails_X10, by decide +kernel⟩
theorem sf_X10_fails_72 : SF wsX10_fails RX10 72 24 28 58 := ⟨RX10, TX10, 45, rfl, rfl, rfl, rfl, by decide, inn_X10_fails_X10, by decide +kernel⟩
theorem sf_X10_fails_60 : SF wsX10_fails RX10 60 24 24 54 := ⟨RX10, TX10, 45, rfl, rfl, rfl, rfl, by decide, inn_X10_fails_X10, by decide +kernel⟩
def wB_X10_fails_158 (post : (St3 → Prop)) (K79 : Int32 → Int32 → Int32 → Int32 → St3 → Prop) (a1 : Int32) (a2 : Int32) (a3 : Int32) (a4 : Int32) (a5 : Int32) (v : St3) : Prop := ((a5 = 0 → K79 a1 a2 a3 (a4 + (1 : Int32)) v) ∧ (¬ a5 = 0 → ((a3 = 0 → K79 a1 a2 a3 (a4 + (1 : Int32)) v) ∧ (¬ a3 = 0 → wp_X10_two a1 a4 v (fun r16 v15 => ∃ n17, n17 < 144 ∧ r16 = nI n17 ∧ ∀ v20, v20 = up3 v15 57 0 n17 (1 : Int32) → K79 a1 a2 a3 (a4 + (1 : Int32)) v20)))))
set_option maxRecDepth 20000 in
set_option maxHeartbeats 4000000 in
theorem aJ_X10_fails_158 {l : Launch} {G : Geo} {X : CT} (o : OK G X cX10_fails wsX10_fails RX10 2 7) {post : (St3 → Prop)} (rt : RV G X post) {K79 : Int32 → Int32 → Int32 → Int32 → St3 → Prop} (hK79 : ∀ (a1 : Int32) (a2 : Int32) (a3 : Int32) (a4 : Int32) (v : St3), K79 a1 a2 a3 a4 v → J l G X 79 [(0, .ref (gA G 24 0)), (1, .int a1), (2, .int a2), (3, .int a3), (4, .int a4)] [] v) (a1 : Int32) (a2 : Int32) (a3 : Int32) (a4 : Int32) (a5 : Int32) (v : St3) (h : wB_X10_fails_158 post K79 a1 a2 a3 a4 a5 v) : J l G X 158 [(0, .ref (gA G 24 0)), (1, .int a1), (2, .int a2), (3, .int a3), (4, .int a4), (5, .int a5)] [] v := by
  unfold wB_X10_fails_158 at h
  refine q_iload o dX10_fails_158 rfl ?_
  refine q_if_eq o 179 dX10_fails_160 (by decide) (fun c23 => ?_) (fun c23 => ?_)
  · have h := h.1 c23
    refine q_iinc o (y := (a4 + (1 : Int32))) (lv' := [(4, .int (a4 + (1 : Int32))), (0, .ref (gA G 24 0)), (1, .int a1), (2, .int a2), (3, .int a3), (5, .int a5)]) dX10_fails_179 rfl rfl (by decide) rfl ?_
    refine q_goto o 79 dX10_fails_182 (by decide) ?_
    refine q_lv [1, 2, 3, 4, 0] rfl ?_
    exact hK79 a1 a2 a3 (a4 + (1 : Int32)) v h
  · have h := h.2 c23
    refine q_iload_n o dX10_fails_163 rfl ?_
    refine q_if_eq o 179 dX10_fails_164 (by decide) (fun c22 => ?_) (fun c22 => ?_)
    · have h := h.1 c22
      refine q_iinc o (y := (a4 + (1 : Int32))) (lv' := [(4, .int (a4 + (1 : Int32))), (0, .ref (gA G 24 0)), (1, .int a1), (2, .int a2), (3, .int a3), (5, .int a5)]) dX10_fails_179 rfl rfl (by decide) rfl ?_
      refine q_goto o 79 dX10_fails_182 (by decide) ?_
      refine q_lv [1, 2, 3, 4, 0] rfl ?_
      exact hK79 a1 a2 a3 (a4 + (1 : Int32)) v h
    · have h := h.2 c22
      refine q_aload_n o dX10_fails_167 rfl ?_
      refine q_getR (q := 56) o sf_X10_fails_69 (by decide) dX10_fails_168 ?_
      refine q_iload_n o dX10_fails_171 rfl ?_
      refine q_iload o dX10_fails_172 rfl ?_
      refine q_callS o [.int a1, .int a4] (ad_X10_two l G a1 a4 v h) gX10_fails_X10_two rfl ⟨by decide, by decide, pd_X10_two⟩ (by decide) (by decide) rfl (Nat.le_of_ble_eq_true rfl) dX10_fails_174 (fun r16 v15 h => ?_)
      refine q_iconst o dX10_fails_177 (x := (1 : Int32)) (by decide) ?_
      obtain ⟨n17, hn18, hx19, h⟩ := h
      refine q_zast (m := 143) o rfl rfl (by decide) hn18 hx19 (by decide) dX10_fails_178 (fun v20 e21 => ?_)
      have h := h v20 e21
      refine q_iinc o (y := (a4 + (1 : Int32))) (lv' := [(4, .int (a4 + (1 : Int32))), (0, .ref (gA G 24 0)), (1, .int a1), (2, .int a2), (3, .int a3), (5, .int a5)]) dX10_fails_179 rfl rfl (by decide) rfl ?_
      refine q_goto o 79 dX10_fails_182 (by decide) ?_
      refine q_lv [1, 2, 3, 4, 0] rfl ?_
      exact hK79 a1 a2 a3 (a4 + (1 : Int32)) v20 h
def wB_X10_fails_94 (post : (St3 → Prop)) (K79 : Int32 → Int32 → Int32 → Int32 → St3 → Prop) (K94 : Int32 → Int32 → Int32 → Int32 → Int32 → Int32 → St3 → Prop) (a1 : Int32) (a2 : Int32) (a3 : Int32) (a4 : Int32) (a5 : Int32) (a6 : Int32) (v : St3) : Prop := (((v 24 0 2) ≤ a6 → ((a5 = 0 → wB_X10_fails_158 post K79 a1 a2 a3 a4 a5 v) ∧ (¬ a5 = 0 → wp_X10_two a1 a4 v (fun r25 v24 => ∃ n26, n26 < 144 ∧ r25 = nI n26 ∧ ∀ v29, v29 = up3 v24 58 0 n26 ((v24 58 0 n26) + (1 : Int32)) → wB_X10_fails_158 post K79 a1 a2 a3 a4 a5 v29)))) ∧ (¬ (v 24 0 2) ≤ a6 → ((¬ a5 = 0 → K94 a1 a2 a3 a4 (1 : Int32) (a6 + (1 : Int32)) v) ∧ (a5 = 0 → wp_X10_cell a1 a2 a6 v (fun r33 v32 => ∃ n34, n34 < 1152 ∧ r33 = nI n34 ∧ ((¬ (v32 54 0 n34) = a4 → K94 a1 a2 a3 a4 (0 : Int32) (a6 + (1 : Int32)) v32) ∧ ((v32 54 0 n34) = a4 → K94 a1 a2 a3 a4 (1 : Int32) (a6 + (1 : Int32)) v32)))))))
def wL_X10_fails_94 (post : (St3 → Prop)) (K79 : Int32 → Int32 → Int32 → Int32 → St3 → Prop) : Nat → Int32 → Int32 → Int32 → Int32 → Int32 → Int32 → St3 → Prop
  | 0, _, _, _, _, _, _, _ => False
  | f + 1, a1, a2, a3, a4, a5, a6, v => wB_X10_fails_94 post K79 (wL_X10_fails_94 post K79 f) a1 a2 a3 a4 a5 a6 v
set_option maxRecDepth 20000 in
set_option maxHeartbeats 4000000 in
theorem aL_X10_fails_94 {l : Launch} {G : Geo} {X : CT} (o : OK G X cX10_fails wsX10_fails RX10 2 7) {post : (St3 → Prop)} (rt : RV G X post) {K79 : Int32 → Int32 → Int32 → Int32 → St3 → Prop} (hK79 : ∀ (a1 : Int32) (a2 : Int32) (a3 : Int32) (a4 : Int32) (v : St3), K79 a1 a2 a3 a4 v → J l G X 79 [(0, .ref (gA G 24 0)), (1, .int a1), (2, .int a2), (3, .int a3), (4, .int a4)] [] v) : ∀ (f : Nat) (a1 : Int32) (a2 : Int32) (a3 : Int32) (a4 : Int32) (a5 : Int32) (a6 : Int32) (v : St3), wL_X10_fails_94 post K79 f a1 a2 a3 a4 a5 a6 v → J l G X 94 [(0, .ref (gA G 24 0)), (1, .int a1), (2, .int a2), (3, .int a3), (4, .int a4), (5, .int a5), (6, .int a6)] [] v := by
  intro f
  induction f with
  | zero => intro _ _ _ _ _ _ _ h; exact False.elim h
  | succ f hK94 =>
  intro a1 a2 a3 a4 a5 a6 v h
  have h : wB_X10_fails_94 post K79 (wL_X10_fails_94 post K79 f) a1 a2 a3 a4 a5 a6 v := h
  unfold wB_X10_fails_94 at h
  refine q_iload o dX10_fails_94 rfl ?_
  refine q_aload_n o dX10_fails_96 rfl ?_
  refine q_getI o sf_X10_fails_13 (by decide) dX10_fails_97 ?_
  refine q_ic_ge o 138 dX10_fails_100 (by decide) (fun c39 => ?_) (fun c39 => ?_)
  · have h := h.1 c39
    refine q_iload o dX10_fails_138 rfl ?_
    refine q_if_eq o 158 dX10_fails_140 (by decide) (fun c31 => ?_) (fun c31 => ?_)
    · have h := h.1 c31
      refine q_lv [0, 1, 2, 3, 4, 5] rfl ?_
      exact aJ_X10_fails_158 o rt hK79 a1 a2 a3 a4 a5 v h
    · have h := h.2 c31
      refine q_aload_n o dX10_fails_143 rfl ?_
      refine q_getR (q := 57) o sf_X10_fails_72 (by decide) dX10_fails_144 ?_
      refine q_iload_n o dX10_fails_147 rfl ?_
      refine q_iload o dX10_fails_148 rfl ?_
      refine q_callS o [.int a1, .int a4] (ad_X10_two l G a1 a4 v h) gX10_fails_X10_two rfl ⟨by decide, by decide, pd_X10_two⟩ (by decide) (by decide) rfl (Nat.le_of_ble_eq_true rfl) dX10_fails_150 (fun r25 v24 h => ?_)
      refine q_dup2 o dX10_fails_153 rfl rfl ?_
      obtain ⟨n26, hn27, hx28, h⟩ := h
      refine q_iald (m := 143) o rfl rfl (by decide) hn27 hx28 dX10_fails_154 ?_
      refine q_iconst o dX10_fails_155 (x := (1 : Int32)) (by decide) ?_
      refine q_iadd o dX10_fails_156 ?_
      refine q_iast (m := 143) o rfl rfl (by decide) hn27 hx28 dX10_fails_157 (fun v29 e30 => ?_)
      have h := h v29 e30
      refine q_lv [0, 1, 2, 3, 4, 5] rfl ?_
      exact aJ_X10_fails_158 o rt hK79 a1 a2 a3 a4 a5 v29 h
  · have h := h.2 c39
    refine q_iload o dX10_fails_103 rfl ?_
    refine q_if_ne o 125 dX10_fails_105 (by decide) (fun c38 => ?_) (fun c38 => ?_)
    · have h := h.1 c38
      refine q_iconst o dX10_fails_125 (x := (1 : Int32)) (by decide) ?_
      refine q_goto o 130 dX10_fails_126 (by decide) ?_
      refine q_istore o (lv' := [(5, .int (1 : Int32)), (0, .ref (gA G 24 0)), (1, .int a1), (2, .int a2), (3, .int a3), (4, .int a4), (6, .int a6)]) dX10_fails_130 (by decide) rfl ?_
      refine q_iinc o (y := (a6 + (1 : Int32))) (lv' := [(6, .int (a6 + (1 : Int32))), (5, .int (1 : Int32)), (0, .ref (gA G 24 0)), (1, .int a1), (2, .int a2), (3, .int a3), (4, .int a4)]) dX10_fails_132 rfl rfl (by decide) rfl ?_
      refine q_goto o 94 dX10_fails_135 (by decide) ?_
      refine q_lv [2, 3, 4, 5, 6, 1, 0] rfl ?_
      exact hK94 a1 a2 a3 a4 (1 : Int32) (a6 + (1 : Int32)) v h
    · have h := h.2 c38
      refine q_aload_n o dX10_fails_108 rfl ?_
      refine q_getR (q := 53) o sf_X10_fails_60 (by decide) dX10_fails_109 ?_
      refine q_iload_n o dX10_fails_112 rfl ?_
      refine q_iload_n o dX10_fails_113 rfl ?_
      refine q_iload o dX10_fails_114 rfl ?_
      refine q_callS o [.int a1, .int a2, .int a6] (ad_X10_cell l G a1 a2 a6 v h) gX10_fails_X10_cell rfl ⟨by decide, by decide, pd_X10_cell⟩ (by decide) (by decide) rfl (Nat.le_of_ble_eq_true rfl) dX10_fails_116 (fun r33 v32 h => ?_)
      obtain ⟨n34, hn35, hx36, h⟩ := h
      refine q_iald (m := 1151) o rfl rfl (by decide) hn35 hx36 dX10_fails_119 ?_
      refine q_iload o dX10_fails_120 rfl ?_
      refine q_ic_ne o 129 dX10_fails_122 (by decide) (fun c37 => ?_) (fun c37 => ?_)
      · have h := h.1 c37
        refine q_iconst o dX10_fails_129 (x := (0 : Int32)) (by decide) ?_
        refine q_istore o (lv' := [(5, .int (0 : Int32)), (0, .ref (gA G 24 0)), (1, .int a1), (2, .int a2), (3, .int a3), (4, .int a4), (6, .int a6)]) dX10_fails_130 (by decide) rfl ?_
        refine q_iinc o (y := (a6 + (1 : Int32))) (lv' := [(6, .int (a6 + (1 : Int32))), (5, .int (0 : Int32)), (0, .ref (gA G 24 0)), (1, .int a1), (2, .int a2), (3, .int a3), (4, .int a4)]) dX10_fails_132 rfl rfl (by decide) rfl ?_
        refine q_goto o 94 dX10_fails_135 (by decide) ?_
        refine q_lv [2, 3, 4, 5, 6, 1, 0] rfl ?_
        exact hK94 a1 a2 a3 a4 (0 : Int32) (a6 + (1 : Int32)) v32 h
      · have h := h.2 c37
        refine q_iconst o dX10_fails_125 (x := (1 : Int32)) (by decide) ?_
        refine q_goto o 130 dX10_fails_126 (by decide) ?_
        refine q_istore o (lv' := [(5, .int (1 : Int32)), (0, .ref (gA G 24 0)), (1, .int a1), (2, .int a2), (3, .int a3), (4, .int a4), (6, .int a6)]) dX10_fails_130 (by decide) rfl ?_
        refine q_iinc o (y := (a6 + (1 : Int32))) (lv' := [(6, .int (a6 + (1 : Int32))), (5, .int (1 : Int32)), (0, .ref (gA G 24 0)), (1, .int a1), (2, .int a2), (3, .int a3), (4, .int a4)]) dX10_fails_132 rfl rfl (by decide) rfl ?_
        refine q_goto o 94 dX10_fails_135 (by decide) ?_
        refine q_lv [2, 3, 4, 5, 6, 1, 0] rfl ?_
        exact hK94 a1 a2 a3 a4 (1 : Int32) (a6 + (1 : Int32)) v32 h
def wB_X10_fails_79 (post : (St3 → Prop)) (K79 : Int32 → Int32 → Int32 → Int32 → St3 → Prop) (a1 : Int32) (a2 : Int32) (a3 : Int32) (a4 : Int32) (v : St3) : Prop := (((v 24 0 4) ≤ a4 → wp_X10_dropPiece a1 a2 v (fun v8 => ∃ n10, n10 < 288 ∧ (((24 : Int32) * a1) + a2) = nI n10 ∧ ∀ v13, v13 = up3 v8 51 0 n10 (1 : Int32) → post v13)) ∧ (¬ (v 24 0 4) ≤ a4 → wL_X10_fails_94 post K79 FU a1 a2 a3 a4 (0 : Int32) (0 : Int32) v))
def wL_X10_fails_79 (post : (St3 → Prop)) : Nat → Int32 → Int32 → Int32 → Int32 → St3 → Prop
  | 0, _, _, _, _, _ => False
  | f + 1, a1, a2, a3, a4, v => wB_X10_fails_79 post (wL_X10_fails_79 post f) a1 a2 a3 a4 v
set_option maxRecDepth 20000 in
set_option maxHeartbeats 4000000 in
theorem aL_X10_fails_79 {l : Launch} {G : Geo} {X : CT} (o : OK G X cX10_fails wsX10_fails RX10 2 7) {post : (St3 → Prop)} (rt : RV G X post) : ∀ (f : Nat) (a1 : Int32) (a2 : Int32) (a3 : Int32) (a4 : Int32) (v : St3), wL_X10_fails_79 post f a1 a2 a3 a4 v → J l G X 79 [(0, .ref (gA G 24 0)), (1, .int a1), (2, .int a2), (3, .int a3), (4, .int a4)] [] v := by
  intro f
  induction f with
  | zero => intro _ _ _ _ _ h; exact False.elim h
  | succ f hK79 =>
  intro a1 a2 a3 a4 v h
  have h : wB_X10_fails_79 post (wL_X10_fails_79 post f) a1 a2 a3 a4 v := h
  unfold wB_X10_fails_79 at h
  refine q_iload o dX10_fails_79 rfl ?_
  refine q_aload_n o dX10_fails_81 rfl ?_
  refine q_getI o sf_X10_fails_136 (by decide) dX10_fails_82 ?_
  refine q_ic_ge o 185 dX10_fails_85 (by decide) (fun c40 => ?_) (fun c40 => ?_)
  · have h := h.1 c40
    refine q_aload_n o dX10_fails_185 rfl ?_
    refine q_iload_n o dX10_fails_186 rfl ?_
    refine q_iload_n o dX10_fails_187 rfl ?_
    refine q_callVv o [.int a1, .int a2] (ad_X10_dropPiece l G a1 a2 v h) gX10_fails_X10_dropPiece rfl rfl rfl rfl (by decide) ⟨rfl, by decide, by decide, pd_X10_dropPiece⟩ (by decide) (by decide) rfl (Nat.le_of_ble_eq_true rfl) dX10_fails_188 (fun v8 h => ?_)
    refine q_aload_n o dX10_fails_191 rfl ?_
    refine q_getR (q := 50) o sf_X10_fails_51 (by decide) dX10_fails_192 ?_
    refine q_bipush o dX10_fails_195 (x := (24 : Int32)) (by decide) ?_
    refine q_iload_n o dX10_fails_197 rfl ?_
    refine q_imul o dX10_fails_198 ?_
    refine q_iload_n o dX10_fails_199 rfl ?_
    refine q_iadd o dX10_fails_200 ?_
    refine q_iconst o dX10_fails_201 (x := (1 : Int32)) (by decide) ?_
    obtain ⟨n10, hn11, hx12, h⟩ := h
    refine q_zast (m := 287) o rfl rfl (by decide) hn11 hx12 (by decide) dX10_fails_202 (fun v13 e14 => ?_)
    have h := h v13 e14
    exact q_vret o rt dX10_fails_203 h
  · have h := h.2 c40
    refine q_iconst o dX10_fails_88 (x := (0 : Int32)) (by decide) ?_
    refine q_istore o (lv' := [(5, .int (0 : Int32)), (0, .ref (gA G 24 0)), (1, .int a1), (2, .int a2), (3, .int a3), (4, .int a4)]) dX10_fails_89 (by decide) rfl ?_
    refine q_iconst o dX10_fails_91 (x := (0 : Int32)) (by decide) ?_
    refine q_istore o (lv' := [(6, .int (0 : Int32)), (5, .int (0 : Int32)), (0, .ref (gA G 24 0)), (1, .int a1), (2, .int a2), (3, .int a3), (4, .int a4)]) dX10_fails_92 (by decide) rfl ?_
    refine q_lv [2, 3, 4, 5, 6, 1, 0] rfl ?_
    exact aL_X10_fails_94 o rt hK79 FU a1 a2 a3 a4 (0 : Int32) (0 : Int32) v h
def wB_X10_fails_25 (post : (St3 → Prop)) (K25 : Int32 → Int32 → Int32 → Int32 → St3 → Prop) (a1 : Int32) (a2 : Int32) (a3 : Int32) (a4 : Int32) (v : St3) : Prop := (((v 24 0 2) ≤ a4 → wL_X10_fails_79 post FU a1 a2 a3 (0 : Int32) v) ∧ (¬ (v 24 0 2) ≤ a4 → ((a3 = 0 → K25 a1 a2 (0 : Int32) (a4 + (1 : Int32)) v) ∧ (¬ a3 = 0 → wp_X10_cell a1 a2 a4 v (fun r42 v41 => ∃ n43, n43 < 1152 ∧ r42 = nI n43 ∧ wp_X10_cell a1 a2 (0 : Int32) v41 (fun r47 v46 => ∃ n48, n48 < 1152 ∧ r47 = nI n48 ∧ ((¬ (v41 54 0 n43) = (v46 54 0 n48) → K25 a1 a2 (0 : Int32) (a4 + (1 : Int32)) v46) ∧ ((v41 54 0 n43) = (v46 54 0 n48) → K25 a1 a2 (1 : Int32) (a4 + (1 : Int32)) v46))))))))
def wL_X10_fails_25 (post : (St3 → Prop)) : Nat → Int32 → Int32 → Int32 → Int32 → St3 → Prop
  | 0, _, _, _, _, _ => False
  | f + 1, a1, a2, a3, a4, v => wB_X10_fails_25 post (wL_X10_fails_25 post f) a1 a2 a3 a4 v
set_option maxRecDepth 20000 in
set_option maxHeartbeats 4000000 in
theorem aL_X10_fails_25 {l : Launch} {G : Geo} {X : CT} (o : OK G X cX10_fails wsX10_fails RX10 2 7) {post : (St3 → Prop)} (rt : RV G X post) : ∀ (f : Nat) (a1 : Int32) (a2 : Int32) (a3 : Int32) (a4 : Int32) (v : St3), wL_X10_fails_25 post f a1 a2 a3 a4 v → J l G X 25 [(0, .ref (gA G 24 0)), (1, .int a1), (2, .int a2), (3, .int a3), (4, .int a4)] [] v := by
  intro f
  induction f with
  | zero => intro _ _ _ _ _ h; exact False.elim h
  | succ f hK25 =>
  intro a1 a2 a3 a4 v h
  have h : wB_X10_fails_25 post (wL_X10_fails_25 post f) a1 a2 a3 a4 v := h
  unfold wB_X10_fails_25 at h
  refine q_iload o dX10_fails_25 rfl ?_
  refine q_aload_n o dX10_fails_27 rfl ?_
  refine q_getI o sf_X10_fails_13 (by decide) dX10_fails_28 ?_
  refine q_ic_ge o 76 dX10_fails_31 (by decide) (fun c53 => ?_) (fun c53 => ?_)
  · have h := h.1 c53
    refine q_iconst o dX10_fails_76 (x := (0 : Int32)) (by decide) ?_
    refine q_istore o (lv' := [(4, .int (0 : Int32)), (0, .ref (gA G 24 0)), (1, .int a1), (2, .int a2), (3, .int a3)]) dX10_fails_77 (by decide) rfl ?_
    refine q_lv [1, 2, 3, 4, 0] rfl ?_
    exact aL_X10_fails_79 o rt FU a1 a2 a3 (0 : Int32) v h
  · have h := h.2 c53
    refine q_iload_n o dX10_fails_34 rfl ?_
    refine q_if_eq o 68 dX10_fails_35 (by decide) (fun c52 => ?_) (fun c52 => ?_)
    · have h := h.1 c52
      refine q_iconst o dX10_fails_68 (x := (0 : Int32)) (by decide) ?_
      refine q_istore_n o (lv' := [(3, .int (0 : Int32)), (0, .ref (gA G 24 0)), (1, .int a1), (2, .int a2), (4, .int a4)]) dX10_fails_69 (by decide) rfl ?_
      refine q_iinc o (y := (a4 + (1 : Int32))) (lv' := [(4, .int (a4 + (1 : Int32))), (3, .int (0 : Int32)), (0, .ref (gA G 24 0)), (1, .int a1), (2, .int a2)]) dX10_fails_70 rfl rfl (by decide) rfl ?_
      refine q_goto o 25 dX10_fails_73 (by decide) ?_
      refine q_lv [2, 3, 4, 1, 0] rfl ?_
      exact hK25 a1 a2 (0 : Int32) (a4 + (1 : Int32)) v h
    · have h := h.2 c52
      refine q_aload_n o dX10_fails_38 rfl ?_
      refine q_getR (q := 53) o sf_X10_fails_60 (by decide) dX10_fails_39 ?_
      refine q_iload_n o dX10_fails_42 rfl ?_
      refine q_iload_n o dX10_fails_43 rfl ?_
      refine q_iload o dX10_fails_44 rfl ?_
      refine q_callS o [.int a1, .int a2, .int a4] (ad_X10_cell l G a1 a2 a4 v h) gX10_fails_X10_cell rfl ⟨by decide, by decide, pd_X10_cell⟩ (by decide) (by decide) rfl (Nat.le_of_ble_eq_true rfl) dX10_fails_46 (fun r42 v41 h => ?_)
      obtain ⟨n43, hn44, hx45, h⟩ := h
      refine q_iald (m := 1151) o rfl rfl (by decide) hn44 hx45 dX10_fails_49 ?_
      refine q_aload_n o dX10_fails_50 rfl ?_
      refine q_getR (q := 53) o sf_X10_fails_60 (by decide) dX10_fails_51 ?_
      refine q_iload_n o dX10_fails_54 rfl ?_
      refine q_iload_n o dX10_fails_55 rfl ?_
      refine q_iconst o dX10_fails_56 (x := (0 : Int32)) (by decide) ?_
      refine q_callS o [.int a1, .int a2, .int (0 : Int32)] (ad_X10_cell l G a1 a2 (0 : Int32) v41 h) gX10_fails_X10_cell rfl ⟨by decide, by decide, pd_X10_cell⟩ (by decide) (by decide) rfl (Nat.le_of_ble_eq_true rfl) dX10_fails_57 (fun r47 v46 h => ?_)
      obtain ⟨n48, hn49, hx50, h⟩ := h
      refine q_iald (m := 1151) o rfl rfl (by decide) hn49 hx50 dX10_fails_60 ?_
      refine q_ic_ne o 68 dX10_fails_61 (by decide) (fun c51 => ?_) (fun c51 => ?_)
      · have h := h.1 c51
        refine q_iconst o dX10_fails_68 (x := (0 : Int32)) (by decide) ?_
        refine q_istore_n o (lv' := [(3, .int (0 : Int32)), (0, .ref (gA G 24 0)), (1, .int a1), (2, .int a2), (4, .int a4)]) dX10_fails_69 (by decide) rfl ?_
        refine q_iinc o (y := (a4 + (1 : Int32))) (lv' := [(4, .int (a4 + (1 : Int32))), (3, .int (0 : Int32)), (0, .ref (gA G 24 0)), (1, .int a1), (2, .int a2)]) dX10_fails_70 rfl rfl (by decide) rfl ?_
        refine q_goto o 25 dX10_fails_73 (by decide) ?_
        refine q_lv [2, 3, 4, 1, 0] rfl ?_
        exact hK25 a1 a2 (0 : Int32) (a4 + (1 : Int32)) v46 h
      · have h := h.2 c51
        refine q_iconst o dX10_fails_64 (x := (1 : Int32)) (by decide) ?_
        refine q_goto o 69 dX10_fails_65 (by decide) ?_
        refine q_istore_n o (lv' := [(3, .int (1 : Int32)), (0, .ref (gA G 24 0)), (1, .int a1), (2, .int a2), (4, .int a4)]) dX10_fails_69 (by decide) rfl ?_
        refine q_iinc o (y := (a4 + (1 : Int32))) (lv' := [(4, .int (a4 + (1 : Int32))), (3, .int (1 : Int32)), (0, .ref (gA G 24 0)), (1, .int a1), (2, .int a2)]) dX10_fails_70 rfl rfl (by decide) rfl ?_
        refine q_goto o 25 dX10_fails_73 (by decide) ?_
        refine q_lv [2, 3, 4, 1, 0] rfl ?_
        exact hK25 a1 a2 (1 : Int32) (a4 + (1 : Int32)) v46 h
def wp_X10_fails (a1 : Int32) (a2 : Int32) (v : St3) (post : (St3 → Prop)) : Prop := ∃ n1, n1 < 12 ∧ a1 = nI n1 ∧ ∀ v4, v4 = up3 v 48 0 n1 ((v 48 0 n1) + (1 : Int32)) → ∀ v6, v6 = up3 v4 24 0 8 ((v4 24 0 8) + (1 : Int32)) → wL_X10_fails_25 post FU a1 a2 (1 : Int32) (1 : Int32) v6
set_option maxRecDepth 20000 in
set_option maxHeartbeats 4000000 in
theorem ad_X10_fails (l : Launch) (G : Geo) (a1 : Int32) (a2 : Int32) (v : St3) {post : (St3 → Prop)} (h : wp_X10_fails a1 a2 v post) : CV l G yX10_fails wsX10_fails 2 [.ref (gA G 24 0), .int a1, .int a2] v post := by
  refine CV.of (cc := cX10_fails) (maxL := 7) (by decide) rfl (Nat.le_of_ble_eq_true rfl) (fun X o rt => ?_)
  unfold wp_X10_fails at h
  show J l G X 0 [(0, .ref (gA G 24 0)), (1, .int a1), (2, .int a2)] [] v
  refine q_aload_n o dX10_fails_0 rfl ?_
  refine q_getR (q := 47) o sf_X10_fails_42 (by decide) dX10_fails_1 ?_
  refine q_iload_n o dX10_fails_4 rfl ?_
  refine q_dup2 o dX10_fails_5 rfl rfl ?_
  obtain ⟨n1, hn2, hx3, h⟩ := h
  refine q_iald (m := 11) o rfl rfl (by decide) hn2 hx3 dX10_fails_6 ?_
  refine q_iconst o dX10_fails_7 (x := (1 : Int32)) (by decide) ?_
  refine q_iadd o dX10_fails_8 ?_
  refine q_iast (m := 11) o rfl rfl (by decide) hn2 hx3 dX10_fails_9 (fun v4 e5 => ?_)
  have h := h v4 e5
  refine q_aload_n o dX10_fails_10 rfl ?_
  refine q_dup o dX10_fails_11 rfl ?_
  refine q_getI o sf_X10_fails_180 (by decide) dX10_fails_12 ?_
  refine q_iconst o dX10_fails_15 (x := (1 : Int32)) (by decide) ?_
  refine q_iadd o dX10_fails_16 ?_
  refine q_putI o sp_X10_fails_180 (by decide) dX10_fails_17 (fun v6 e7 => ?_)
  have h := h v6 e7
  refine q_iconst o dX10_fails_20 (x := (1 : Int32)) (by decide) ?_
  refine q_istore_n o (lv' := [(3, .int (1 : Int32)), (0, .ref (gA G 24 0)), (1, .int a1), (2, .int a2)]) dX10_fails_21 (by decide) rfl ?_
  refine q_iconst o dX10_fails_22 (x := (1 : Int32)) (by decide) ?_
  refine q_istore o (lv' := [(4, .int (1 : Int32)), (3, .int (1 : Int32)), (0, .ref (gA G 24 0)), (1, .int a1), (2, .int a2)]) dX10_fails_23 (by decide) rfl ?_
  refine q_lv [2, 3, 4, 1, 0] rfl ?_
  exact aL_X10_fails_25 o rt FU a1 a2 (1 : Int32) (1 : Int32) v6 h
theorem pd_X10_fails : (parseMethodDescriptor yX10_fails.desc).map (fun d => d.parameters.length) = some 2 := by decide +kernel
-- PieceSwarmModel.comes(I)V
theorem inn_X10_comes_X10 : ∀ w ∈ wsX100, w ∈ wsX10_comes := by decide +kernel
theorem sf_X10_comes_90 : SF wsX10_comes RX10 90 24 35 65 := ⟨RX10, TX10, 45, rfl, rfl, rfl, rfl, by decide, inn_X10_comes_X10, by decide +kernel⟩
theorem sf_X10_comes_93 : SF wsX10_comes RX10 93 24 36 66 := ⟨RX10, TX10, 45, rfl, rfl, rfl, rfl, by decide, inn_X10_comes_X10, by decide +kernel⟩
theorem sf_X10_comes_96 : SF wsX10_comes RX10 96 24 37 67 := ⟨RX10, TX10, 45, rfl, rfl, rfl, rfl, by decide, inn_X10_comes_X10, by decide +kernel⟩
theorem sf_X10_comes_99 : SF wsX10_comes RX10 99 24 38 68 := ⟨RX10, TX10, 45, rfl, rfl, rfl, rfl, by decide, inn_X10_comes_X10, by decide +kernel⟩
theorem sf_X10_comes_33 : SF wsX10_comes RX10 33 24 15 45 := ⟨RX10, TX10, 45, rfl, rfl, rfl, rfl, by decide, inn_X10_comes_X10, by decide +kernel⟩
theorem sf_X10_comes_81 : SF wsX10_comes RX10 81 24 31 61 := ⟨RX10, TX10, 45, rfl, rfl, rfl, rfl, by decide, inn_X10_comes_X10, by decide +kernel⟩
theorem sf_X10_comes_54 : SF wsX10_comes RX10 54 24 22 52 := ⟨RX10, TX10, 45, rfl, rfl, rfl, rfl, by decide, inn_X10_comes_X10, by decide +kernel⟩
theorem sf_X10_comes_57 : SF wsX10_comes RX10 57 24 23 53 := ⟨RX10, TX10, 45, rfl, rfl, rfl, rfl, by decide, inn_X10_comes_X10, by decide +kernel⟩
theorem sf_X10_comes_102 : SF wsX10_comes RX10 102 24 39 69 := ⟨RX10, TX10, 45, rfl, rfl, rfl, rfl, by decide, inn_X10_comes_X10, by decide +kernel⟩
theorem sf_X10_comes_60 : SF wsX10_comes RX10 60 24 24 54 := ⟨RX10, TX10, 45, rfl, rfl, rfl, rfl, by decide, inn_X10_comes_X10, by decide +kernel⟩
theorem sf_X10_comes_13 : SF wsX10_comes RX10 13 24 2 0 := ⟨RX10, TX10, 45, rfl, rfl, rfl, rfl, by decide, inn_X10_comes_X10, by decide +kernel⟩
theorem sf_X10_comes_48 : SF wsX10_comes RX10 48 24 20 50 := ⟨RX10, TX10, 45, rfl, rfl, rfl, rfl, by decide, inn_X10_comes_X10, by decide +kernel⟩
theorem sf_X10_comes_45 : SF wsX10_comes RX10 45 24 19 49 := ⟨RX10, TX10, 45, rfl, rfl, rfl, rfl, by decide, inn_X10_comes_X10, by decide +kernel⟩
theorem sf_X10_comes_202 : SF wsX10_comes RX10 202 24 5 0 := ⟨RX10, TX10, 45, rfl, rfl, rfl, rfl, by decide, inn_X10_comes_X10, by decide +kernel⟩
theorem kc_X10_comes_127 : Cond.constant RX10 127 (69069 : Int32) ∈ wsX10_comes := by decide +kernel
theorem sf_X10_comes_39 : SF wsX10_comes RX10 39 24 17 47 := ⟨RX10, TX10, 45, rfl, rfl, rfl, rfl, by decide, inn_X10_comes_X10, by decide +kernel⟩
theorem sf_X10_comes_190 : SF wsX10_comes RX10 190 24 9 0 := ⟨RX10, TX10, 45, rfl, rfl, rfl, rfl, by decide, inn_X10_comes_X10, by decide +kernel⟩
theorem sp_X10_comes_190 : SP wsX10_comes RX10 190 24 9 := ⟨RX10, TX10, 45, tyX10, rfl, rfl, rfl, rfl, by decide, inn_X10_comes_X10, by decide +kernel, tyX10_ok, nmX10, rfl, by decide +kernel⟩
def wB_X10_comes_156 (post : (St3 → Prop)) (K156 : Int32 → Int32 → Int32 → Int32 → St3 → Prop) (a2 : Int32) (a4 : Int32) (a6 : Int32) (a7 : Int32) (v : St3) : Prop := (((v 24 0 2) ≤ a7 → wp_X10_sumOf a4 v (fun r42 v41 => ((a6 = r42 → ∃ n43, n43 < 288 ∧ (((24 : Int32) * a2) + a4) = nI n43 ∧ ∀ v46, v46 = up3 v41 50 0 n43 (1 : Int32) → wp_X10_isDone a2 v46 (fun r49 v48 => ((r49 = 0 → post v48) ∧ (¬ r49 = 0 → ∃ n50, n50 < 12 ∧ a2 = nI n50 ∧ ∀ v53, v53 = up3 v48 49 0 n50 (v48 24 0 5) → post v53)))) ∧ (¬ a6 = r42 → wp_X10_fails a2 a4 v41 (fun v56 => post v56))))) ∧ (¬ (v 24 0 2) ≤ a7 → wp_X10_cell a2 a4 a7 v (fun r60 v59 => ∃ n61, n61 < 1152 ∧ r60 = nI n61 ∧ K156 a2 a4 ((a6 * (69069 : Int32)) + (v59 53 0 n61)) (a7 + (1 : Int32)) v59)))
def wL_X10_comes_156 (post : (St3 → Prop)) : Nat → Int32 → Int32 → Int32 → Int32 → St3 → Prop
  | 0, _, _, _, _, _ => False
  | f + 1, a2, a4, a6, a7, v => wB_X10_comes_156 post (wL_X10_comes_156 post f) a2 a4 a6 a7 v
set_option maxRecDepth 20000 in
set_option maxHeartbeats 4000000 in
theorem aL_X10_comes_156 {l : Launch} {G : Geo} {X : CT} (o : OK G X cX10_comes wsX10_comes RX10 3 8) {post : (St3 → Prop)} (rt : RV G X post) : ∀ (f : Nat) (a2 : Int32) (a4 : Int32) (a6 : Int32) (a7 : Int32) (v : St3), wL_X10_comes_156 post f a2 a4 a6 a7 v → J l G X 156 [(0, .ref (gA G 24 0)), (2, .int a2), (4, .int a4), (6, .int a6), (7, .int a7)] [] v := by
  intro f
  induction f with
  | zero => intro _ _ _ _ _ h; exact False.elim h
  | succ f hK156 =>
  intro a2 a4 a6 a7 v h
  have h : wB_X10_comes_156 post (wL_X10_comes_156 post f) a2 a4 a6 a7 v := h
  unfold wB_X10_comes_156 at h
  refine q_iload o dX10_comes_156 rfl ?_
  refine q_aload_n o dX10_comes_158 rfl ?_
  refine q_getI o sf_X10_comes_13 (by decide) dX10_comes_159 ?_
  refine q_ic_ge o 192 dX10_comes_162 (by decide) (fun c64 => ?_) (fun c64 => ?_)
  · have h := h.1 c64
    refine q_iload o dX10_comes_192 rfl ?_
    refine q_aload_n o dX10_comes_194 rfl ?_
    refine q_iload o dX10_comes_195 rfl ?_
    refine q_callV o [.int a4] (ad_X10_sumOf l G a4 v h) gX10_comes_X10_sumOf rfl rfl rfl rfl (by decide) ⟨rfl, by decide, by decide, pd_X10_sumOf⟩ (by decide) (by decide) rfl (Nat.le_of_ble_eq_true rfl) dX10_comes_197 (fun r42 v41 h => ?_)
    refine q_ic_eq o 211 dX10_comes_200 (by decide) (fun c58 => ?_) (fun c58 => ?_)
    · have h := h.1 c58
      refine q_aload_n o dX10_comes_211 rfl ?_
      refine q_getR (q := 49) o sf_X10_comes_48 (by decide) dX10_comes_212 ?_
      refine q_bipush o dX10_comes_215 (x := (24 : Int32)) (by decide) ?_
      refine q_iload_n o dX10_comes_217 rfl ?_
      refine q_imul o dX10_comes_218 ?_
      refine q_iload o dX10_comes_219 rfl ?_
      refine q_iadd o dX10_comes_221 ?_
      refine q_iconst o dX10_comes_222 (x := (1 : Int32)) (by decide) ?_
      obtain ⟨n43, hn44, hx45, h⟩ := h
      refine q_zast (m := 287) o rfl rfl (by decide) hn44 hx45 (by decide) dX10_comes_223 (fun v46 e47 => ?_)
      have h := h v46 e47
      refine q_aload_n o dX10_comes_224 rfl ?_
      refine q_iload_n o dX10_comes_225 rfl ?_
      refine q_callV o [.int a2] (ad_X10_isDone l G a2 v46 h) gX10_comes_X10_isDone rfl rfl rfl rfl (by decide) ⟨rfl, by decide, by decide, pd_X10_isDone⟩ (by decide) (by decide) rfl (Nat.le_of_ble_eq_true rfl) dX10_comes_226 (fun r49 v48 h => ?_)
      refine q_if_eq o 242 dX10_comes_229 (by decide) (fun c55 => ?_) (fun c55 => ?_)
      · have h := h.1 c55
        exact q_vret o rt dX10_comes_242 h
      · have h := h.2 c55
        refine q_aload_n o dX10_comes_232 rfl ?_
        refine q_getR (q := 48) o sf_X10_comes_45 (by decide) dX10_comes_233 ?_
        refine q_iload_n o dX10_comes_236 rfl ?_
        refine q_aload_n o dX10_comes_237 rfl ?_
        refine q_getI o sf_X10_comes_202 (by decide) dX10_comes_238 ?_
        obtain ⟨n50, hn51, hx52, h⟩ := h
        refine q_iast (m := 11) o rfl rfl (by decide) hn51 hx52 dX10_comes_241 (fun v53 e54 => ?_)
        have h := h v53 e54
        exact q_vret o rt dX10_comes_242 h
    · have h := h.2 c58
      refine q_aload_n o dX10_comes_203 rfl ?_
      refine q_iload_n o dX10_comes_204 rfl ?_
      refine q_iload o dX10_comes_205 rfl ?_
      refine q_callVv o [.int a2, .int a4] (ad_X10_fails l G a2 a4 v41 h) gX10_comes_X10_fails rfl rfl rfl rfl (by decide) ⟨rfl, by decide, by decide, pd_X10_fails⟩ (by decide) (by decide) rfl (Nat.le_of_ble_eq_true rfl) dX10_comes_207 (fun v56 h => ?_)
      exact q_vret o rt dX10_comes_210 h
  · have h := h.2 c64
    refine q_iload o dX10_comes_165 rfl ?_
    refine q_ldc o kc_X10_comes_127 dX10_comes_167 ?_
    refine q_imul o dX10_comes_169 ?_
    refine q_aload_n o dX10_comes_170 rfl ?_
    refine q_getR (q := 52) o sf_X10_comes_57 (by decide) dX10_comes_171 ?_
    refine q_iload_n o dX10_comes_174 rfl ?_
    refine q_iload o dX10_comes_175 rfl ?_
    refine q_iload o dX10_comes_177 rfl ?_
    refine q_callS o [.int a2, .int a4, .int a7] (ad_X10_cell l G a2 a4 a7 v h) gX10_comes_X10_cell rfl ⟨by decide, by decide, pd_X10_cell⟩ (by decide) (by decide) rfl (Nat.le_of_ble_eq_true rfl) dX10_comes_179 (fun r60 v59 h => ?_)
    obtain ⟨n61, hn62, hx63, h⟩ := h
    refine q_iald (m := 1151) o rfl rfl (by decide) hn62 hx63 dX10_comes_182 ?_
    refine q_iadd o dX10_comes_183 ?_
    refine q_istore o (lv' := [(6, .int ((a6 * (69069 : Int32)) + (v59 53 0 n61))), (0, .ref (gA G 24 0)), (2, .int a2), (4, .int a4), (7, .int a7)]) dX10_comes_184 (by decide) rfl ?_
    refine q_iinc o (y := (a7 + (1 : Int32))) (lv' := [(7, .int (a7 + (1 : Int32))), (6, .int ((a6 * (69069 : Int32)) + (v59 53 0 n61))), (0, .ref (gA G 24 0)), (2, .int a2), (4, .int a4)]) dX10_comes_186 rfl rfl (by decide) rfl ?_
    refine q_goto o 156 dX10_comes_189 (by decide) ?_
    refine q_lv [2, 3, 4, 1, 0] rfl ?_
    exact hK156 a2 a4 ((a6 * (69069 : Int32)) + (v59 53 0 n61)) (a7 + (1 : Int32)) v59 h
def wp_X10_comes (a1 : Int32) (v : St3) (post : (St3 → Prop)) : Prop := ∃ n1, n1 < 400 ∧ a1 = nI n1 ∧ ∃ n4, n4 < 12 ∧ (v 65 0 n1) = nI n4 ∧ ∀ v7, v7 = up3 v 45 0 n4 ((v 45 0 n4) + (1 : Int32)) → wp_X10_two (v 65 0 n1) (v 66 0 n1) v7 (fun r10 v9 => ∃ n11, n11 < 144 ∧ r10 = nI n11 ∧ ∀ v14, v14 = up3 v9 61 0 n11 ((v9 61 0 n11) + (1 : Int32)) → wp_X10_isSpare (v 65 0 n1) (v 66 0 n1) (v 67 0 n1) (v 68 0 n1) v14 (fun r17 v16 => ((r17 = 0 → wp_X10_cell (v 65 0 n1) (v 67 0 n1) (v 68 0 n1) v16 (fun r19 v18 => ∃ n20, n20 < 1152 ∧ r19 = nI n20 ∧ ∀ v23, v23 = up3 v18 52 0 n20 (1 : Int32) → wp_X10_cell (v 65 0 n1) (v 67 0 n1) (v 68 0 n1) v23 (fun r26 v25 => ∃ n27, n27 < 1152 ∧ r26 = nI n27 ∧ ∀ v30, v30 = up3 v25 53 0 n27 (v25 69 0 n1) → wp_X10_cell (v 65 0 n1) (v 67 0 n1) (v 68 0 n1) v30 (fun r33 v32 => ∃ n34, n34 < 1152 ∧ r33 = nI n34 ∧ ∀ v37, v37 = up3 v32 54 0 n34 (v 66 0 n1) → wp_X10_heldMany (v 65 0 n1) (v 67 0 n1) v37 (fun r40 v39 => (((v39 24 0 2) ≤ r40 → wL_X10_comes_156 post FU (v 65 0 n1) (v 67 0 n1) (0 : Int32) (0 : Int32) v39) ∧ (¬ (v39 24 0 2) ≤ r40 → post v39))))))) ∧ (¬ r17 = 0 → ∀ v66, v66 = up3 v16 47 0 n4 ((v16 47 0 n4) + (1 : Int32)) → ∀ v68, v68 = up3 v66 24 0 9 ((v66 24 0 9) + (1 : Int32)) → post v68))))
set_option maxRecDepth 20000 in
set_option maxHeartbeats 4000000 in
theorem ad_X10_comes (l : Launch) (G : Geo) (a1 : Int32) (v : St3) {post : (St3 → Prop)} (h : wp_X10_comes a1 v post) : CV l G yX10_comes wsX10_comes 3 [.ref (gA G 24 0), .int a1] v post := by
  refine CV.of (cc := cX10_comes) (maxL := 8) (by decide) rfl (Nat.le_of_ble_eq_true rfl) (fun X o rt => ?_)
  unfold wp_X10_comes at h
  show J l G X 0 [(0, .ref (gA G 24 0)), (1, .int a1)] [] v
  refine q_aload_n o dX10_comes_0 rfl ?_
  refine q_getR (q := 64) o sf_X10_comes_90 (by decide) dX10_comes_1 ?_
  refine q_iload_n o dX10_comes_4 rfl ?_
  obtain ⟨n1, hn2, hx3, h⟩ := h
  refine q_iald (m := 399) o rfl rfl (by decide) hn2 hx3 dX10_comes_5 ?_
  refine q_istore_n o (lv' := [(2, .int (v 65 0 n1)), (0, .ref (gA G 24 0)), (1, .int a1)]) dX10_comes_6 (by decide) rfl ?_
  refine q_aload_n o dX10_comes_7 rfl ?_
  refine q_getR (q := 65) o sf_X10_comes_93 (by decide) dX10_comes_8 ?_
  refine q_iload_n o dX10_comes_11 rfl ?_
  refine q_iald (m := 399) o rfl rfl (by decide) hn2 hx3 dX10_comes_12 ?_
  refine q_istore_n o (lv' := [(3, .int (v 66 0 n1)), (2, .int (v 65 0 n1)), (0, .ref (gA G 24 0)), (1, .int a1)]) dX10_comes_13 (by decide) rfl ?_
  refine q_aload_n o dX10_comes_14 rfl ?_
  refine q_getR (q := 66) o sf_X10_comes_96 (by decide) dX10_comes_15 ?_
  refine q_iload_n o dX10_comes_18 rfl ?_
  refine q_iald (m := 399) o rfl rfl (by decide) hn2 hx3 dX10_comes_19 ?_
  refine q_istore o (lv' := [(4, .int (v 67 0 n1)), (3, .int (v 66 0 n1)), (2, .int (v 65 0 n1)), (0, .ref (gA G 24 0)), (1, .int a1)]) dX10_comes_20 (by decide) rfl ?_
  refine q_aload_n o dX10_comes_22 rfl ?_
  refine q_getR (q := 67) o sf_X10_comes_99 (by decide) dX10_comes_23 ?_
  refine q_iload_n o dX10_comes_26 rfl ?_
  refine q_iald (m := 399) o rfl rfl (by decide) hn2 hx3 dX10_comes_27 ?_
  refine q_istore o (lv' := [(5, .int (v 68 0 n1)), (4, .int (v 67 0 n1)), (3, .int (v 66 0 n1)), (2, .int (v 65 0 n1)), (0, .ref (gA G 24 0)), (1, .int a1)]) dX10_comes_28 (by decide) rfl ?_
  refine q_aload_n o dX10_comes_30 rfl ?_
  refine q_getR (q := 44) o sf_X10_comes_33 (by decide) dX10_comes_31 ?_
  refine q_iload_n o dX10_comes_34 rfl ?_
  refine q_dup2 o dX10_comes_35 rfl rfl ?_
  obtain ⟨n4, hn5, hx6, h⟩ := h
  refine q_iald (m := 11) o rfl rfl (by decide) hn5 hx6 dX10_comes_36 ?_
  refine q_iconst o dX10_comes_37 (x := (1 : Int32)) (by decide) ?_
  refine q_iadd o dX10_comes_38 ?_
  refine q_iast (m := 11) o rfl rfl (by decide) hn5 hx6 dX10_comes_39 (fun v7 e8 => ?_)
  have h := h v7 e8
  refine q_aload_n o dX10_comes_40 rfl ?_
  refine q_getR (q := 60) o sf_X10_comes_81 (by decide) dX10_comes_41 ?_
  refine q_iload_n o dX10_comes_44 rfl ?_
  refine q_iload_n o dX10_comes_45 rfl ?_
  refine q_callS o [.int (v 65 0 n1), .int (v 66 0 n1)] (ad_X10_two l G (v 65 0 n1) (v 66 0 n1) v7 h) gX10_comes_X10_two rfl ⟨by decide, by decide, pd_X10_two⟩ (by decide) (by decide) rfl (Nat.le_of_ble_eq_true rfl) dX10_comes_46 (fun r10 v9 h => ?_)
  refine q_dup2 o dX10_comes_49 rfl rfl ?_
  obtain ⟨n11, hn12, hx13, h⟩ := h
  refine q_iald (m := 143) o rfl rfl (by decide) hn12 hx13 dX10_comes_50 ?_
  refine q_iconst o dX10_comes_51 (x := (1 : Int32)) (by decide) ?_
  refine q_iadd o dX10_comes_52 ?_
  refine q_iast (m := 143) o rfl rfl (by decide) hn12 hx13 dX10_comes_53 (fun v14 e15 => ?_)
  have h := h v14 e15
  refine q_aload_n o dX10_comes_54 rfl ?_
  refine q_iload_n o dX10_comes_55 rfl ?_
  refine q_iload_n o dX10_comes_56 rfl ?_
  refine q_iload o dX10_comes_57 rfl ?_
  refine q_iload o dX10_comes_59 rfl ?_
  refine q_callV o [.int (v 65 0 n1), .int (v 66 0 n1), .int (v 67 0 n1), .int (v 68 0 n1)] (ad_X10_isSpare l G (v 65 0 n1) (v 66 0 n1) (v 67 0 n1) (v 68 0 n1) v14 h) gX10_comes_X10_isSpare rfl rfl rfl rfl (by decide) ⟨rfl, by decide, by decide, pd_X10_isSpare⟩ (by decide) (by decide) rfl (Nat.le_of_ble_eq_true rfl) dX10_comes_61 (fun r17 v16 h => ?_)
  refine q_if_eq o 88 dX10_comes_64 (by decide) (fun c70 => ?_) (fun c70 => ?_)
  · have h := h.1 c70
    refine q_aload_n o dX10_comes_88 rfl ?_
    refine q_getR (q := 51) o sf_X10_comes_54 (by decide) dX10_comes_89 ?_
    refine q_iload_n o dX10_comes_92 rfl ?_
    refine q_iload o dX10_comes_93 rfl ?_
    refine q_iload o dX10_comes_95 rfl ?_
    refine q_callS o [.int (v 65 0 n1), .int (v 67 0 n1), .int (v 68 0 n1)] (ad_X10_cell l G (v 65 0 n1) (v 67 0 n1) (v 68 0 n1) v16 h) gX10_comes_X10_cell rfl ⟨by decide, by decide, pd_X10_cell⟩ (by decide) (by decide) rfl (Nat.le_of_ble_eq_true rfl) dX10_comes_97 (fun r19 v18 h => ?_)
    refine q_iconst o dX10_comes_100 (x := (1 : Int32)) (by decide) ?_
    obtain ⟨n20, hn21, hx22, h⟩ := h
    refine q_zast (m := 1151) o rfl rfl (by decide) hn21 hx22 (by decide) dX10_comes_101 (fun v23 e24 => ?_)
    have h := h v23 e24
    refine q_aload_n o dX10_comes_102 rfl ?_
    refine q_getR (q := 52) o sf_X10_comes_57 (by decide) dX10_comes_103 ?_
    refine q_iload_n o dX10_comes_106 rfl ?_
    refine q_iload o dX10_comes_107 rfl ?_
    refine q_iload o dX10_comes_109 rfl ?_
    refine q_callS o [.int (v 65 0 n1), .int (v 67 0 n1), .int (v 68 0 n1)] (ad_X10_cell l G (v 65 0 n1) (v 67 0 n1) (v 68 0 n1) v23 h) gX10_comes_X10_cell rfl ⟨by decide, by decide, pd_X10_cell⟩ (by decide) (by decide) rfl (Nat.le_of_ble_eq_true rfl) dX10_comes_111 (fun r26 v25 h => ?_)
    refine q_aload_n o dX10_comes_114 rfl ?_
    refine q_getR (q := 68) o sf_X10_comes_102 (by decide) dX10_comes_115 ?_
    refine q_iload_n o dX10_comes_118 rfl ?_
    refine q_iald (m := 399) o rfl rfl (by decide) hn2 hx3 dX10_comes_119 ?_
    obtain ⟨n27, hn28, hx29, h⟩ := h
    refine q_iast (m := 1151) o rfl rfl (by decide) hn28 hx29 dX10_comes_120 (fun v30 e31 => ?_)
    have h := h v30 e31
    refine q_aload_n o dX10_comes_121 rfl ?_
    refine q_getR (q := 53) o sf_X10_comes_60 (by decide) dX10_comes_122 ?_
    refine q_iload_n o dX10_comes_125 rfl ?_
    refine q_iload o dX10_comes_126 rfl ?_
    refine q_iload o dX10_comes_128 rfl ?_
    refine q_callS o [.int (v 65 0 n1), .int (v 67 0 n1), .int (v 68 0 n1)] (ad_X10_cell l G (v 65 0 n1) (v 67 0 n1) (v 68 0 n1) v30 h) gX10_comes_X10_cell rfl ⟨by decide, by decide, pd_X10_cell⟩ (by decide) (by decide) rfl (Nat.le_of_ble_eq_true rfl) dX10_comes_130 (fun r33 v32 h => ?_)
    refine q_iload_n o dX10_comes_133 rfl ?_
    obtain ⟨n34, hn35, hx36, h⟩ := h
    refine q_iast (m := 1151) o rfl rfl (by decide) hn35 hx36 dX10_comes_134 (fun v37 e38 => ?_)
    have h := h v37 e38
    refine q_aload_n o dX10_comes_135 rfl ?_
    refine q_iload_n o dX10_comes_136 rfl ?_
    refine q_iload o dX10_comes_137 rfl ?_
    refine q_callV o [.int (v 65 0 n1), .int (v 67 0 n1)] (ad_X10_heldMany l G (v 65 0 n1) (v 67 0 n1) v37 h) gX10_comes_X10_heldMany rfl rfl rfl rfl (by decide) ⟨rfl, by decide, by decide, pd_X10_heldMany⟩ (by decide) (by decide) rfl (Nat.le_of_ble_eq_true rfl) dX10_comes_139 (fun r40 v39 h => ?_)
    refine q_aload_n o dX10_comes_142 rfl ?_
    refine q_getI o sf_X10_comes_13 (by decide) dX10_comes_143 ?_
    refine q_ic_ge o 150 dX10_comes_146 (by decide) (fun c65 => ?_) (fun c65 => ?_)
    · have h := h.1 c65
      refine q_iconst o dX10_comes_150 (x := (0 : Int32)) (by decide) ?_
      refine q_istore o (lv' := [(6, .int (0 : Int32)), (5, .int (v 68 0 n1)), (4, .int (v 67 0 n1)), (3, .int (v 66 0 n1)), (2, .int (v 65 0 n1)), (0, .ref (gA G 24 0)), (1, .int a1)]) dX10_comes_151 (by decide) rfl ?_
      refine q_iconst o dX10_comes_153 (x := (0 : Int32)) (by decide) ?_
      refine q_istore o (lv' := [(7, .int (0 : Int32)), (6, .int (0 : Int32)), (5, .int (v 68 0 n1)), (4, .int (v 67 0 n1)), (3, .int (v 66 0 n1)), (2, .int (v 65 0 n1)), (0, .ref (gA G 24 0)), (1, .int a1)]) dX10_comes_154 (by decide) rfl ?_
      refine q_lv [6, 5, 3, 1, 0] rfl ?_
      exact aL_X10_comes_156 o rt FU (v 65 0 n1) (v 67 0 n1) (0 : Int32) (0 : Int32) v39 h
    · have h := h.2 c65
      exact q_vret o rt dX10_comes_149 h
  · have h := h.2 c70
    refine q_aload_n o dX10_comes_67 rfl ?_
    refine q_getR (q := 46) o sf_X10_comes_39 (by decide) dX10_comes_68 ?_
    refine q_iload_n o dX10_comes_71 rfl ?_
    refine q_dup2 o dX10_comes_72 rfl rfl ?_
    refine q_iald (m := 11) o rfl rfl (by decide) hn5 hx6 dX10_comes_73 ?_
    refine q_iconst o dX10_comes_74 (x := (1 : Int32)) (by decide) ?_
    refine q_iadd o dX10_comes_75 ?_
    refine q_iast (m := 11) o rfl rfl (by decide) hn5 hx6 dX10_comes_76 (fun v66 e67 => ?_)
    have h := h v66 e67
    refine q_aload_n o dX10_comes_77 rfl ?_
    refine q_dup o dX10_comes_78 rfl ?_
    refine q_getI o sf_X10_comes_190 (by decide) dX10_comes_79 ?_
    refine q_iconst o dX10_comes_82 (x := (1 : Int32)) (by decide) ?_
    refine q_iadd o dX10_comes_83 ?_
    refine q_putI o sp_X10_comes_190 (by decide) dX10_comes_84 (fun v68 e69 => ?_)
    have h := h v68 e69
    exact q_vret o rt dX10_comes_87 h
theorem pd_X10_comes : (parseMethodDescriptor yX10_comes.desc).map (fun d => d.parameters.length) = some 1 := by decide +kernel
-- PieceSwarmModel.late(II)I
theorem inn_X10_late_X10 : ∀ w ∈ wsX100, w ∈ wsX10_late := by decide +kernel
theorem sf_X10_late_81 : SF wsX10_late RX10 81 24 31 61 := ⟨RX10, TX10, 45, rfl, rfl, rfl, rfl, by decide, inn_X10_late_X10, by decide +kernel⟩
theorem sf_X10_late_78 : SF wsX10_late RX10 78 24 30 60 := ⟨RX10, TX10, 45, rfl, rfl, rfl, rfl, by decide, inn_X10_late_X10, by decide +kernel⟩
def wp_X10_late (a1 : Int32) (a2 : Int32) (v : St3) (post : (Int32 → St3 → Prop)) : Prop := wp_X10_isDone a1 v (fun r2 v1 => ((r2 = 0 → wp_X10_two a1 a2 v1 (fun r4 v3 => ∃ n5, n5 < 144 ∧ r4 = nI n5 ∧ post (v3 61 0 n5) v3)) ∧ (¬ r2 = 0 → wp_X10_two a1 a2 v1 (fun r9 v8 => ∃ n10, n10 < 144 ∧ r9 = nI n10 ∧ post (v8 60 0 n10) v8))))
set_option maxRecDepth 20000 in
set_option maxHeartbeats 4000000 in
theorem ad_X10_late (l : Launch) (G : Geo) (a1 : Int32) (a2 : Int32) (v : St3) {post : (Int32 → St3 → Prop)} (h : wp_X10_late a1 a2 v post) : CI l G yX10_late wsX10_late 2 [.ref (gA G 24 0), .int a1, .int a2] v post := by
  refine CI.of (ty := .int) (cc := cX10_late) (maxL := 3) (by decide) rfl (Nat.le_of_ble_eq_true rfl) (fun X o rt => ?_)
  unfold wp_X10_late at h
  show J l G X 0 [(0, .ref (gA G 24 0)), (1, .int a1), (2, .int a2)] [] v
  refine q_aload_n o dX10_late_0 rfl ?_
  refine q_iload_n o dX10_late_1 rfl ?_
  refine q_callV o [.int a1] (ad_X10_isDone l G a1 v h) gX10_late_X10_isDone rfl rfl rfl rfl (by decide) ⟨rfl, by decide, by decide, pd_X10_isDone⟩ (by decide) (by decide) rfl (Nat.le_of_ble_eq_true rfl) dX10_late_2 (fun r2 v1 h => ?_)
  refine q_if_eq o 21 dX10_late_5 (by decide) (fun c13 => ?_) (fun c13 => ?_)
  · have h := h.1 c13
    refine q_aload_n o dX10_late_21 rfl ?_
    refine q_getR (q := 60) o sf_X10_late_81 (by decide) dX10_late_22 ?_
    refine q_iload_n o dX10_late_25 rfl ?_
    refine q_iload_n o dX10_late_26 rfl ?_
    refine q_callS o [.int a1, .int a2] (ad_X10_two l G a1 a2 v1 h) gX10_late_X10_two rfl ⟨by decide, by decide, pd_X10_two⟩ (by decide) (by decide) rfl (Nat.le_of_ble_eq_true rfl) dX10_late_27 (fun r4 v3 h => ?_)
    obtain ⟨n5, hn6, hx7, h⟩ := h
    refine q_iald (m := 143) o rfl rfl (by decide) hn6 hx7 dX10_late_30 ?_
    exact q_iret o rt dX10_late_31 h
  · have h := h.2 c13
    refine q_aload_n o dX10_late_8 rfl ?_
    refine q_getR (q := 59) o sf_X10_late_78 (by decide) dX10_late_9 ?_
    refine q_iload_n o dX10_late_12 rfl ?_
    refine q_iload_n o dX10_late_13 rfl ?_
    refine q_callS o [.int a1, .int a2] (ad_X10_two l G a1 a2 v1 h) gX10_late_X10_two rfl ⟨by decide, by decide, pd_X10_two⟩ (by decide) (by decide) rfl (Nat.le_of_ble_eq_true rfl) dX10_late_14 (fun r9 v8 h => ?_)
    obtain ⟨n10, hn11, hx12, h⟩ := h
    refine q_iald (m := 143) o rfl rfl (by decide) hn11 hx12 dX10_late_17 ?_
    refine q_goto o 31 dX10_late_18 (by decide) ?_
    exact q_iret o rt dX10_late_31 h
theorem pd_X10_late : (parseMethodDescriptor yX10_late.desc).map (fun d => d.parameters.length) = some 2 := by decide +kernel
-- PieceSwarmModel.opens(I)V
theorem inn_X10_opens_X10 : ∀ w ∈ wsX100, w ∈ wsX10_opens := by decide +kernel
theorem sf_X10_opens_111 : SF wsX10_opens RX10 111 24 42 72 := ⟨RX10, TX10, 45, rfl, rfl, rfl, rfl, by decide, inn_X10_opens_X10, by decide +kernel⟩
theorem sf_X10_opens_136 : SF wsX10_opens RX10 136 24 4 0 := ⟨RX10, TX10, 45, rfl, rfl, rfl, rfl, by decide, inn_X10_opens_X10, by decide +kernel⟩
theorem sf_X10_opens_84 : SF wsX10_opens RX10 84 24 32 62 := ⟨RX10, TX10, 45, rfl, rfl, rfl, rfl, by decide, inn_X10_opens_X10, by decide +kernel⟩
theorem sf_X10_opens_78 : SF wsX10_opens RX10 78 24 30 60 := ⟨RX10, TX10, 45, rfl, rfl, rfl, rfl, by decide, inn_X10_opens_X10, by decide +kernel⟩
theorem sf_X10_opens_81 : SF wsX10_opens RX10 81 24 31 61 := ⟨RX10, TX10, 45, rfl, rfl, rfl, rfl, by decide, inn_X10_opens_X10, by decide +kernel⟩
theorem sf_X10_opens_66 : SF wsX10_opens RX10 66 24 26 56 := ⟨RX10, TX10, 45, rfl, rfl, rfl, rfl, by decide, inn_X10_opens_X10, by decide +kernel⟩
theorem sf_X10_opens_87 : SF wsX10_opens RX10 87 24 33 63 := ⟨RX10, TX10, 45, rfl, rfl, rfl, rfl, by decide, inn_X10_opens_X10, by decide +kernel⟩
theorem sf_X10_opens_16 : SF wsX10_opens RX10 16 24 10 40 := ⟨RX10, TX10, 45, rfl, rfl, rfl, rfl, by decide, inn_X10_opens_X10, by decide +kernel⟩
def wB_X10_opens_282 (post : (St3 → Prop)) (K282 : Int32 → Int32 → St3 → Prop) (a1 : Int32) (a4 : Int32) (v : St3) : Prop := (((v 24 0 4) ≤ a4 → post v) ∧ (¬ (v 24 0 4) ≤ a4 → wp_X10_two a1 a4 v (fun r10 v9 => ∃ n11, n11 < 144 ∧ r10 = nI n11 ∧ ∀ v14, v14 = up3 v9 60 0 n11 (0 : Int32) → wp_X10_two a1 a4 v14 (fun r17 v16 => ∃ n18, n18 < 144 ∧ r17 = nI n18 ∧ ∀ v21, v21 = up3 v16 61 0 n18 (0 : Int32) → K282 a1 (a4 + (1 : Int32)) v21))))
def wL_X10_opens_282 (post : (St3 → Prop)) : Nat → Int32 → Int32 → St3 → Prop
  | 0, _, _, _ => False
  | f + 1, a1, a4, v => wB_X10_opens_282 post (wL_X10_opens_282 post f) a1 a4 v
set_option maxRecDepth 20000 in
set_option maxHeartbeats 4000000 in
theorem aL_X10_opens_282 {l : Launch} {G : Geo} {X : CT} (o : OK G X cX10_opens wsX10_opens RX10 3 6) {post : (St3 → Prop)} (rt : RV G X post) : ∀ (f : Nat) (a1 : Int32) (a4 : Int32) (v : St3), wL_X10_opens_282 post f a1 a4 v → J l G X 282 [(0, .ref (gA G 24 0)), (1, .int a1), (4, .int a4)] [] v := by
  intro f
  induction f with
  | zero => intro _ _ _ h; exact False.elim h
  | succ f hK282 =>
  intro a1 a4 v h
  have h : wB_X10_opens_282 post (wL_X10_opens_282 post f) a1 a4 v := h
  unfold wB_X10_opens_282 at h
  refine q_iload o dX10_opens_282 rfl ?_
  refine q_aload_n o dX10_opens_284 rfl ?_
  refine q_getI o sf_X10_opens_136 (by decide) dX10_opens_285 ?_
  refine q_ic_ge o 321 dX10_opens_288 (by decide) (fun c23 => ?_) (fun c23 => ?_)
  · have h := h.1 c23
    exact q_vret o rt dX10_opens_321 h
  · have h := h.2 c23
    refine q_aload_n o dX10_opens_291 rfl ?_
    refine q_getR (q := 59) o sf_X10_opens_78 (by decide) dX10_opens_292 ?_
    refine q_iload_n o dX10_opens_295 rfl ?_
    refine q_iload o dX10_opens_296 rfl ?_
    refine q_callS o [.int a1, .int a4] (ad_X10_two l G a1 a4 v h) gX10_opens_X10_two rfl ⟨by decide, by decide, pd_X10_two⟩ (by decide) (by decide) rfl (Nat.le_of_ble_eq_true rfl) dX10_opens_298 (fun r10 v9 h => ?_)
    refine q_iconst o dX10_opens_301 (x := (0 : Int32)) (by decide) ?_
    obtain ⟨n11, hn12, hx13, h⟩ := h
    refine q_iast (m := 143) o rfl rfl (by decide) hn12 hx13 dX10_opens_302 (fun v14 e15 => ?_)
    have h := h v14 e15
    refine q_aload_n o dX10_opens_303 rfl ?_
    refine q_getR (q := 60) o sf_X10_opens_81 (by decide) dX10_opens_304 ?_
    refine q_iload_n o dX10_opens_307 rfl ?_
    refine q_iload o dX10_opens_308 rfl ?_
    refine q_callS o [.int a1, .int a4] (ad_X10_two l G a1 a4 v14 h) gX10_opens_X10_two rfl ⟨by decide, by decide, pd_X10_two⟩ (by decide) (by decide) rfl (Nat.le_of_ble_eq_true rfl) dX10_opens_310 (fun r17 v16 h => ?_)
    refine q_iconst o dX10_opens_313 (x := (0 : Int32)) (by decide) ?_
    obtain ⟨n18, hn19, hx20, h⟩ := h
    refine q_iast (m := 143) o rfl rfl (by decide) hn19 hx20 dX10_opens_314 (fun v21 e22 => ?_)
    have h := h v21 e22
    refine q_iinc o (y := (a4 + (1 : Int32))) (lv' := [(4, .int (a4 + (1 : Int32))), (0, .ref (gA G 24 0)), (1, .int a1)]) dX10_opens_315 rfl rfl (by decide) rfl ?_
    refine q_goto o 282 dX10_opens_318 (by decide) ?_
    refine q_lv [1, 2, 0] rfl ?_
    exact hK282 a1 (a4 + (1 : Int32)) v21 h
def wB_X10_opens_241 (post : (St3 → Prop)) (a1 : Int32) (v : St3) : Prop := ∃ n6, n6 < 12 ∧ a1 = nI n6 ∧ (((v 62 0 n6) = (-1 : Int32) → wL_X10_opens_282 post FU a1 (0 : Int32) v) ∧ (¬ (v 62 0 n6) = (-1 : Int32) → wp_X10_two a1 (v 62 0 n6) v (fun r25 v24 => ∃ n26, n26 < 144 ∧ r25 = nI n26 ∧ ∀ v29, v29 = up3 v24 56 0 n26 (1 : Int32) → ∀ v31, v31 = up3 v29 63 0 n6 (v29 62 0 n6) → wL_X10_opens_282 post FU a1 (0 : Int32) v31)))
set_option maxRecDepth 20000 in
set_option maxHeartbeats 4000000 in
theorem aJ_X10_opens_241 {l : Launch} {G : Geo} {X : CT} (o : OK G X cX10_opens wsX10_opens RX10 3 6) {post : (St3 → Prop)} (rt : RV G X post) (a1 : Int32) (v : St3) (h : wB_X10_opens_241 post a1 v) : J l G X 241 [(0, .ref (gA G 24 0)), (1, .int a1)] [] v := by
  unfold wB_X10_opens_241 at h
  refine q_aload_n o dX10_opens_241 rfl ?_
  refine q_getR (q := 61) o sf_X10_opens_84 (by decide) dX10_opens_242 ?_
  refine q_iload_n o dX10_opens_245 rfl ?_
  obtain ⟨n6, hn7, hx8, h⟩ := h
  refine q_iald (m := 11) o rfl rfl (by decide) hn7 hx8 dX10_opens_246 ?_
  refine q_iconst o dX10_opens_247 (x := (-1 : Int32)) (by decide) ?_
  refine q_ic_eq o 279 dX10_opens_248 (by decide) (fun c33 => ?_) (fun c33 => ?_)
  · have h := h.1 c33
    refine q_iconst o dX10_opens_279 (x := (0 : Int32)) (by decide) ?_
    refine q_istore o (lv' := [(4, .int (0 : Int32)), (0, .ref (gA G 24 0)), (1, .int a1)]) dX10_opens_280 (by decide) rfl ?_
    refine q_lv [1, 2, 0] rfl ?_
    exact aL_X10_opens_282 o rt FU a1 (0 : Int32) v h
  · have h := h.2 c33
    refine q_aload_n o dX10_opens_251 rfl ?_
    refine q_getR (q := 55) o sf_X10_opens_66 (by decide) dX10_opens_252 ?_
    refine q_iload_n o dX10_opens_255 rfl ?_
    refine q_aload_n o dX10_opens_256 rfl ?_
    refine q_getR (q := 61) o sf_X10_opens_84 (by decide) dX10_opens_257 ?_
    refine q_iload_n o dX10_opens_260 rfl ?_
    refine q_iald (m := 11) o rfl rfl (by decide) hn7 hx8 dX10_opens_261 ?_
    refine q_callS o [.int a1, .int (v 62 0 n6)] (ad_X10_two l G a1 (v 62 0 n6) v h) gX10_opens_X10_two rfl ⟨by decide, by decide, pd_X10_two⟩ (by decide) (by decide) rfl (Nat.le_of_ble_eq_true rfl) dX10_opens_262 (fun r25 v24 h => ?_)
    refine q_iconst o dX10_opens_265 (x := (1 : Int32)) (by decide) ?_
    obtain ⟨n26, hn27, hx28, h⟩ := h
    refine q_zast (m := 143) o rfl rfl (by decide) hn27 hx28 (by decide) dX10_opens_266 (fun v29 e30 => ?_)
    have h := h v29 e30
    refine q_aload_n o dX10_opens_267 rfl ?_
    refine q_getR (q := 62) o sf_X10_opens_87 (by decide) dX10_opens_268 ?_
    refine q_iload_n o dX10_opens_271 rfl ?_
    refine q_aload_n o dX10_opens_272 rfl ?_
    refine q_getR (q := 61) o sf_X10_opens_84 (by decide) dX10_opens_273 ?_
    refine q_iload_n o dX10_opens_276 rfl ?_
    refine q_iald (m := 11) o rfl rfl (by decide) hn7 hx8 dX10_opens_277 ?_
    refine q_iast (m := 11) o rfl rfl (by decide) hn7 hx8 dX10_opens_278 (fun v31 e32 => ?_)
    have h := h v31 e32
    refine q_iconst o dX10_opens_279 (x := (0 : Int32)) (by decide) ?_
    refine q_istore o (lv' := [(4, .int (0 : Int32)), (0, .ref (gA G 24 0)), (1, .int a1)]) dX10_opens_280 (by decide) rfl ?_
    refine q_lv [1, 2, 0] rfl ?_
    exact aL_X10_opens_282 o rt FU a1 (0 : Int32) v31 h
def wB_X10_opens_183 (post : (St3 → Prop)) (K183 : Int32 → Int32 → St3 → Prop) (a1 : Int32) (a4 : Int32) (v : St3) : Prop := (((v 24 0 4) ≤ a4 → wB_X10_opens_241 post a1 v) ∧ (¬ (v 24 0 4) ≤ a4 → ∃ n34, n34 < 12 ∧ a1 = nI n34 ∧ ((¬ (v 62 0 n34) = (-1 : Int32) → wB_X10_opens_241 post a1 v) ∧ ((v 62 0 n34) = (-1 : Int32) → ¬ (v 24 0 4) = 0 ∧ ∀ x38 : Int32, x38 = ((((v 63 0 n34) + (1 : Int32)) + a4) - (((v 63 0 n34) + (1 : Int32)) + a4) / (v 24 0 4) * (v 24 0 4)) → ∃ n40, n40 < 12 ∧ x38 = nI n40 ∧ (((v 72 0 n40) = 0 → K183 a1 (a4 + (1 : Int32)) v) ∧ (¬ (v 72 0 n40) = 0 → ∀ v43, v43 = up3 v 62 0 n34 x38 → K183 a1 (a4 + (1 : Int32)) v43))))))
def wL_X10_opens_183 (post : (St3 → Prop)) : Nat → Int32 → Int32 → St3 → Prop
  | 0, _, _, _ => False
  | f + 1, a1, a4, v => wB_X10_opens_183 post (wL_X10_opens_183 post f) a1 a4 v
set_option maxRecDepth 20000 in
set_option maxHeartbeats 4000000 in
theorem aL_X10_opens_183 {l : Launch} {G : Geo} {X : CT} (o : OK G X cX10_opens wsX10_opens RX10 3 6) {post : (St3 → Prop)} (rt : RV G X post) : ∀ (f : Nat) (a1 : Int32) (a4 : Int32) (v : St3), wL_X10_opens_183 post f a1 a4 v → J l G X 183 [(0, .ref (gA G 24 0)), (1, .int a1), (2, .ref (gA G 72 0)), (4, .int a4)] [] v := by
  intro f
  induction f with
  | zero => intro _ _ _ h; exact False.elim h
  | succ f hK183 =>
  intro a1 a4 v h
  have h : wB_X10_opens_183 post (wL_X10_opens_183 post f) a1 a4 v := h
  unfold wB_X10_opens_183 at h
  refine q_iload o dX10_opens_183 rfl ?_
  refine q_aload_n o dX10_opens_185 rfl ?_
  refine q_getI o sf_X10_opens_136 (by decide) dX10_opens_186 ?_
  refine q_ic_ge o 241 dX10_opens_189 (by decide) (fun c47 => ?_) (fun c47 => ?_)
  · have h := h.1 c47
    refine q_lv [0, 1] rfl ?_
    exact aJ_X10_opens_241 o rt a1 v h
  · have h := h.2 c47
    refine q_aload_n o dX10_opens_192 rfl ?_
    refine q_getR (q := 61) o sf_X10_opens_84 (by decide) dX10_opens_193 ?_
    refine q_iload_n o dX10_opens_196 rfl ?_
    obtain ⟨n34, hn35, hx36, h⟩ := h
    refine q_iald (m := 11) o rfl rfl (by decide) hn35 hx36 dX10_opens_197 ?_
    refine q_iconst o dX10_opens_198 (x := (-1 : Int32)) (by decide) ?_
    refine q_ic_ne o 241 dX10_opens_199 (by decide) (fun c46 => ?_) (fun c46 => ?_)
    · have h := h.1 c46
      refine q_lv [0, 1] rfl ?_
      exact aJ_X10_opens_241 o rt a1 v h
    · have h := h.2 c46
      refine q_aload_n o dX10_opens_202 rfl ?_
      refine q_getR (q := 62) o sf_X10_opens_87 (by decide) dX10_opens_203 ?_
      refine q_iload_n o dX10_opens_206 rfl ?_
      refine q_iald (m := 11) o rfl rfl (by decide) hn35 hx36 dX10_opens_207 ?_
      refine q_iconst o dX10_opens_208 (x := (1 : Int32)) (by decide) ?_
      refine q_iadd o dX10_opens_209 ?_
      refine q_iload o dX10_opens_210 rfl ?_
      refine q_iadd o dX10_opens_212 ?_
      refine q_aload_n o dX10_opens_213 rfl ?_
      refine q_getI o sf_X10_opens_136 (by decide) dX10_opens_214 ?_
      obtain ⟨hz37, h⟩ := h
      refine q_irem o dX10_opens_217 hz37 ?_
      refine q_top (fun x38 e39 => ?_)
      have h := h x38 e39
      refine q_istore o (lv' := [(5, .int x38), (0, .ref (gA G 24 0)), (1, .int a1), (2, .ref (gA G 72 0)), (4, .int a4)]) dX10_opens_218 (by decide) rfl ?_
      refine q_aload_n o dX10_opens_220 rfl ?_
      refine q_iload o dX10_opens_221 rfl ?_
      obtain ⟨n40, hn41, hx42, h⟩ := h
      refine q_zald (m := 11) o rfl rfl (by decide) hn41 hx42 dX10_opens_223 ?_
      refine q_if_eq o 235 dX10_opens_224 (by decide) (fun c45 => ?_) (fun c45 => ?_)
      · have h := h.1 c45
        refine q_iinc o (y := (a4 + (1 : Int32))) (lv' := [(4, .int (a4 + (1 : Int32))), (5, .int x38), (0, .ref (gA G 24 0)), (1, .int a1), (2, .ref (gA G 72 0))]) dX10_opens_235 rfl rfl (by decide) rfl ?_
        refine q_goto o 183 dX10_opens_238 (by decide) ?_
        refine q_lv [2, 3, 4, 0] rfl ?_
        exact hK183 a1 (a4 + (1 : Int32)) v h
      · have h := h.2 c45
        refine q_aload_n o dX10_opens_227 rfl ?_
        refine q_getR (q := 61) o sf_X10_opens_84 (by decide) dX10_opens_228 ?_
        refine q_iload_n o dX10_opens_231 rfl ?_
        refine q_iload o dX10_opens_232 rfl ?_
        refine q_iast (m := 11) o rfl rfl (by decide) hn35 hx36 dX10_opens_234 (fun v43 e44 => ?_)
        have h := h v43 e44
        refine q_iinc o (y := (a4 + (1 : Int32))) (lv' := [(4, .int (a4 + (1 : Int32))), (5, .int x38), (0, .ref (gA G 24 0)), (1, .int a1), (2, .ref (gA G 72 0))]) dX10_opens_235 rfl rfl (by decide) rfl ?_
        refine q_goto o 183 dX10_opens_238 (by decide) ?_
        refine q_lv [2, 3, 4, 0] rfl ?_
        exact hK183 a1 (a4 + (1 : Int32)) v43 h
def wB_X10_opens_92 (post : (St3 → Prop)) (K82 : Int32 → Int32 → St3 → Prop) (K92 : Int32 → Int32 → Int32 → Int32 → St3 → Prop) (a1 : Int32) (a3 : Int32) (a4 : Int32) (a5 : Int32) (v : St3) : Prop := (((v 24 0 4) ≤ a5 → ((¬ a4 = (-1 : Int32) → wp_X10_two a1 a4 v (fun r49 v48 => ∃ n50, n50 < 144 ∧ r49 = nI n50 ∧ ∀ v53, v53 = up3 v48 56 0 n50 (1 : Int32) → ∃ n55, n55 < 12 ∧ a4 = nI n55 ∧ ∀ v58, v58 = up3 v53 72 0 n55 (0 : Int32) → K82 a1 (a3 + (-1 : Int32)) v58)) ∧ (a4 = (-1 : Int32) → ∃ n60, n60 < 12 ∧ a1 = nI n60 ∧ ∀ v63, v63 = up3 v 62 0 n60 (-1 : Int32) → wL_X10_opens_183 post FU a1 (0 : Int32) v63))) ∧ (¬ (v 24 0 4) ≤ a5 → ∃ n66, n66 < 12 ∧ a5 = nI n66 ∧ (((v 72 0 n66) = 0 → K92 a1 a3 a4 (a5 + (1 : Int32)) v) ∧ (¬ (v 72 0 n66) = 0 → ((a4 = (-1 : Int32) → K92 a1 a3 a5 (a5 + (1 : Int32)) v) ∧ (¬ a4 = (-1 : Int32) → wp_X10_late a1 a5 v (fun r70 v69 => wp_X10_late a1 a4 v69 (fun r72 v71 => ((r70 ≤ r72 → K92 a1 a3 a4 (a5 + (1 : Int32)) v71) ∧ (¬ r70 ≤ r72 → K92 a1 a3 a5 (a5 + (1 : Int32)) v71))))))))))
def wL_X10_opens_92 (post : (St3 → Prop)) (K82 : Int32 → Int32 → St3 → Prop) : Nat → Int32 → Int32 → Int32 → Int32 → St3 → Prop
  | 0, _, _, _, _, _ => False
  | f + 1, a1, a3, a4, a5, v => wB_X10_opens_92 post K82 (wL_X10_opens_92 post K82 f) a1 a3 a4 a5 v
set_option maxRecDepth 20000 in
set_option maxHeartbeats 4000000 in
theorem aL_X10_opens_92 {l : Launch} {G : Geo} {X : CT} (o : OK G X cX10_opens wsX10_opens RX10 3 6) {post : (St3 → Prop)} (rt : RV G X post) {K82 : Int32 → Int32 → St3 → Prop} (hK82 : ∀ (a1 : Int32) (a3 : Int32) (v : St3), K82 a1 a3 v → J l G X 82 [(0, .ref (gA G 24 0)), (1, .int a1), (2, .ref (gA G 72 0)), (3, .int a3)] [] v) : ∀ (f : Nat) (a1 : Int32) (a3 : Int32) (a4 : Int32) (a5 : Int32) (v : St3), wL_X10_opens_92 post K82 f a1 a3 a4 a5 v → J l G X 92 [(0, .ref (gA G 24 0)), (1, .int a1), (2, .ref (gA G 72 0)), (3, .int a3), (4, .int a4), (5, .int a5)] [] v := by
  intro f
  induction f with
  | zero => intro _ _ _ _ _ h; exact False.elim h
  | succ f hK92 =>
  intro a1 a3 a4 a5 v h
  have h : wB_X10_opens_92 post K82 (wL_X10_opens_92 post K82 f) a1 a3 a4 a5 v := h
  unfold wB_X10_opens_92 at h
  refine q_iload o dX10_opens_92 rfl ?_
  refine q_aload_n o dX10_opens_94 rfl ?_
  refine q_getI o sf_X10_opens_136 (by decide) dX10_opens_95 ?_
  refine q_ic_ge o 141 dX10_opens_98 (by decide) (fun c76 => ?_) (fun c76 => ?_)
  · have h := h.1 c76
    refine q_iload o dX10_opens_141 rfl ?_
    refine q_iconst o dX10_opens_143 (x := (-1 : Int32)) (by decide) ?_
    refine q_ic_ne o 150 dX10_opens_144 (by decide) (fun c65 => ?_) (fun c65 => ?_)
    · have h := h.1 c65
      refine q_aload_n o dX10_opens_150 rfl ?_
      refine q_getR (q := 55) o sf_X10_opens_66 (by decide) dX10_opens_151 ?_
      refine q_iload_n o dX10_opens_154 rfl ?_
      refine q_iload o dX10_opens_155 rfl ?_
      refine q_callS o [.int a1, .int a4] (ad_X10_two l G a1 a4 v h) gX10_opens_X10_two rfl ⟨by decide, by decide, pd_X10_two⟩ (by decide) (by decide) rfl (Nat.le_of_ble_eq_true rfl) dX10_opens_157 (fun r49 v48 h => ?_)
      refine q_iconst o dX10_opens_160 (x := (1 : Int32)) (by decide) ?_
      obtain ⟨n50, hn51, hx52, h⟩ := h
      refine q_zast (m := 143) o rfl rfl (by decide) hn51 hx52 (by decide) dX10_opens_161 (fun v53 e54 => ?_)
      have h := h v53 e54
      refine q_aload_n o dX10_opens_162 rfl ?_
      refine q_iload o dX10_opens_163 rfl ?_
      refine q_iconst o dX10_opens_165 (x := (0 : Int32)) (by decide) ?_
      obtain ⟨n55, hn56, hx57, h⟩ := h
      refine q_zast (m := 11) o rfl rfl (by decide) hn56 hx57 (by decide) dX10_opens_166 (fun v58 e59 => ?_)
      have h := h v58 e59
      refine q_iinc o (y := (a3 + (-1 : Int32))) (lv' := [(3, .int (a3 + (-1 : Int32))), (0, .ref (gA G 24 0)), (1, .int a1), (2, .ref (gA G 72 0)), (4, .int a4), (5, .int a5)]) dX10_opens_167 rfl rfl (by decide) rfl ?_
      refine q_goto o 82 dX10_opens_170 (by decide) ?_
      refine q_lv [1, 2, 3, 0] rfl ?_
      exact hK82 a1 (a3 + (-1 : Int32)) v58 h
    · have h := h.2 c65
      refine q_goto o 173 dX10_opens_147 (by decide) ?_
      refine q_aload_n o dX10_opens_173 rfl ?_
      refine q_getR (q := 61) o sf_X10_opens_84 (by decide) dX10_opens_174 ?_
      refine q_iload_n o dX10_opens_177 rfl ?_
      refine q_iconst o dX10_opens_178 (x := (-1 : Int32)) (by decide) ?_
      obtain ⟨n60, hn61, hx62, h⟩ := h
      refine q_iast (m := 11) o rfl rfl (by decide) hn61 hx62 dX10_opens_179 (fun v63 e64 => ?_)
      have h := h v63 e64
      refine q_iconst o dX10_opens_180 (x := (0 : Int32)) (by decide) ?_
      refine q_istore o (lv' := [(4, .int (0 : Int32)), (0, .ref (gA G 24 0)), (1, .int a1), (2, .ref (gA G 72 0)), (3, .int a3), (5, .int a5)]) dX10_opens_181 (by decide) rfl ?_
      refine q_lv [1, 2, 3, 0] rfl ?_
      exact aL_X10_opens_183 o rt FU a1 (0 : Int32) v63 h
  · have h := h.2 c76
    refine q_aload_n o dX10_opens_101 rfl ?_
    refine q_iload o dX10_opens_102 rfl ?_
    obtain ⟨n66, hn67, hx68, h⟩ := h
    refine q_zald (m := 11) o rfl rfl (by decide) hn67 hx68 dX10_opens_104 ?_
    refine q_if_eq o 135 dX10_opens_105 (by decide) (fun c75 => ?_) (fun c75 => ?_)
    · have h := h.1 c75
      refine q_iinc o (y := (a5 + (1 : Int32))) (lv' := [(5, .int (a5 + (1 : Int32))), (0, .ref (gA G 24 0)), (1, .int a1), (2, .ref (gA G 72 0)), (3, .int a3), (4, .int a4)]) dX10_opens_135 rfl rfl (by decide) rfl ?_
      refine q_goto o 92 dX10_opens_138 (by decide) ?_
      refine q_lv [1, 2, 3, 4, 5, 0] rfl ?_
      exact hK92 a1 a3 a4 (a5 + (1 : Int32)) v h
    · have h := h.2 c75
      refine q_iload o dX10_opens_108 rfl ?_
      refine q_iconst o dX10_opens_110 (x := (-1 : Int32)) (by decide) ?_
      refine q_ic_eq o 131 dX10_opens_111 (by decide) (fun c74 => ?_) (fun c74 => ?_)
      · have h := h.1 c74
        refine q_iload o dX10_opens_131 rfl ?_
        refine q_istore o (lv' := [(4, .int a5), (0, .ref (gA G 24 0)), (1, .int a1), (2, .ref (gA G 72 0)), (3, .int a3), (5, .int a5)]) dX10_opens_133 (by decide) rfl ?_
        refine q_iinc o (y := (a5 + (1 : Int32))) (lv' := [(5, .int (a5 + (1 : Int32))), (4, .int a5), (0, .ref (gA G 24 0)), (1, .int a1), (2, .ref (gA G 72 0)), (3, .int a3)]) dX10_opens_135 rfl rfl (by decide) rfl ?_
        refine q_goto o 92 dX10_opens_138 (by decide) ?_
        refine q_lv [2, 3, 4, 5, 1, 0] rfl ?_
        exact hK92 a1 a3 a5 (a5 + (1 : Int32)) v h
      · have h := h.2 c74
        refine q_aload_n o dX10_opens_114 rfl ?_
        refine q_iload_n o dX10_opens_115 rfl ?_
        refine q_iload o dX10_opens_116 rfl ?_
        refine q_callV o [.int a1, .int a5] (ad_X10_late l G a1 a5 v h) gX10_opens_X10_late rfl rfl rfl rfl (by decide) ⟨rfl, by decide, by decide, pd_X10_late⟩ (by decide) (by decide) rfl (Nat.le_of_ble_eq_true rfl) dX10_opens_118 (fun r70 v69 h => ?_)
        refine q_aload_n o dX10_opens_121 rfl ?_
        refine q_iload_n o dX10_opens_122 rfl ?_
        refine q_iload o dX10_opens_123 rfl ?_
        refine q_callV o [.int a1, .int a4] (ad_X10_late l G a1 a4 v69 h) gX10_opens_X10_late rfl rfl rfl rfl (by decide) ⟨rfl, by decide, by decide, pd_X10_late⟩ (by decide) (by decide) rfl (Nat.le_of_ble_eq_true rfl) dX10_opens_125 (fun r72 v71 h => ?_)
        refine q_ic_le o 135 dX10_opens_128 (by decide) (fun c73 => ?_) (fun c73 => ?_)
        · have h := h.1 c73
          refine q_iinc o (y := (a5 + (1 : Int32))) (lv' := [(5, .int (a5 + (1 : Int32))), (0, .ref (gA G 24 0)), (1, .int a1), (2, .ref (gA G 72 0)), (3, .int a3), (4, .int a4)]) dX10_opens_135 rfl rfl (by decide) rfl ?_
          refine q_goto o 92 dX10_opens_138 (by decide) ?_
          refine q_lv [1, 2, 3, 4, 5, 0] rfl ?_
          exact hK92 a1 a3 a4 (a5 + (1 : Int32)) v71 h
        · have h := h.2 c73
          refine q_iload o dX10_opens_131 rfl ?_
          refine q_istore o (lv' := [(4, .int a5), (0, .ref (gA G 24 0)), (1, .int a1), (2, .ref (gA G 72 0)), (3, .int a3), (5, .int a5)]) dX10_opens_133 (by decide) rfl ?_
          refine q_iinc o (y := (a5 + (1 : Int32))) (lv' := [(5, .int (a5 + (1 : Int32))), (4, .int a5), (0, .ref (gA G 24 0)), (1, .int a1), (2, .ref (gA G 72 0)), (3, .int a3)]) dX10_opens_135 rfl rfl (by decide) rfl ?_
          refine q_goto o 92 dX10_opens_138 (by decide) ?_
          refine q_lv [2, 3, 4, 5, 1, 0] rfl ?_
          exact hK92 a1 a3 a5 (a5 + (1 : Int32)) v71 h
def wB_X10_opens_82 (post : (St3 → Prop)) (K82 : Int32 → Int32 → St3 → Prop) (a1 : Int32) (a3 : Int32) (v : St3) : Prop := ((a3 ≤ 0 → ∃ n1, n1 < 12 ∧ a1 = nI n1 ∧ ∀ v4, v4 = up3 v 62 0 n1 (-1 : Int32) → wL_X10_opens_183 post FU a1 (0 : Int32) v4) ∧ (¬ a3 ≤ 0 → wL_X10_opens_92 post K82 FU a1 a3 (-1 : Int32) (0 : Int32) v))
def wL_X10_opens_82 (post : (St3 → Prop)) : Nat → Int32 → Int32 → St3 → Prop
  | 0, _, _, _ => False
  | f + 1, a1, a3, v => wB_X10_opens_82 post (wL_X10_opens_82 post f) a1 a3 v
set_option maxRecDepth 20000 in
set_option maxHeartbeats 4000000 in
theorem aL_X10_opens_82 {l : Launch} {G : Geo} {X : CT} (o : OK G X cX10_opens wsX10_opens RX10 3 6) {post : (St3 → Prop)} (rt : RV G X post) : ∀ (f : Nat) (a1 : Int32) (a3 : Int32) (v : St3), wL_X10_opens_82 post f a1 a3 v → J l G X 82 [(0, .ref (gA G 24 0)), (1, .int a1), (2, .ref (gA G 72 0)), (3, .int a3)] [] v := by
  intro f
  induction f with
  | zero => intro _ _ _ h; exact False.elim h
  | succ f hK82 =>
  intro a1 a3 v h
  have h : wB_X10_opens_82 post (wL_X10_opens_82 post f) a1 a3 v := h
  unfold wB_X10_opens_82 at h
  refine q_iload_n o dX10_opens_82 rfl ?_
  refine q_if_le o 173 dX10_opens_83 (by decide) (fun c77 => ?_) (fun c77 => ?_)
  · have h := h.1 c77
    refine q_aload_n o dX10_opens_173 rfl ?_
    refine q_getR (q := 61) o sf_X10_opens_84 (by decide) dX10_opens_174 ?_
    refine q_iload_n o dX10_opens_177 rfl ?_
    refine q_iconst o dX10_opens_178 (x := (-1 : Int32)) (by decide) ?_
    obtain ⟨n1, hn2, hx3, h⟩ := h
    refine q_iast (m := 11) o rfl rfl (by decide) hn2 hx3 dX10_opens_179 (fun v4 e5 => ?_)
    have h := h v4 e5
    refine q_iconst o dX10_opens_180 (x := (0 : Int32)) (by decide) ?_
    refine q_istore o (lv' := [(4, .int (0 : Int32)), (0, .ref (gA G 24 0)), (1, .int a1), (2, .ref (gA G 72 0)), (3, .int a3)]) dX10_opens_181 (by decide) rfl ?_
    refine q_lv [1, 2, 3, 0] rfl ?_
    exact aL_X10_opens_183 o rt FU a1 (0 : Int32) v4 h
  · have h := h.2 c77
    refine q_iconst o dX10_opens_86 (x := (-1 : Int32)) (by decide) ?_
    refine q_istore o (lv' := [(4, .int (-1 : Int32)), (0, .ref (gA G 24 0)), (1, .int a1), (2, .ref (gA G 72 0)), (3, .int a3)]) dX10_opens_87 (by decide) rfl ?_
    refine q_iconst o dX10_opens_89 (x := (0 : Int32)) (by decide) ?_
    refine q_istore o (lv' := [(5, .int (0 : Int32)), (4, .int (-1 : Int32)), (0, .ref (gA G 24 0)), (1, .int a1), (2, .ref (gA G 72 0)), (3, .int a3)]) dX10_opens_90 (by decide) rfl ?_
    refine q_lv [2, 3, 4, 5, 1, 0] rfl ?_
    exact aL_X10_opens_92 o rt hK82 FU a1 a3 (-1 : Int32) (0 : Int32) v h
def wB_X10_opens_10 (post : (St3 → Prop)) (K10 : Int32 → Int32 → Int32 → St3 → Prop) (a1 : Int32) (a3 : Int32) (a4 : Int32) (v : St3) : Prop := (((v 24 0 4) ≤ a4 → wL_X10_opens_82 post FU a1 a3 v) ∧ (¬ (v 24 0 4) ≤ a4 → wp_X10_two a1 a4 v (fun r79 v78 => ∃ n80, n80 < 144 ∧ r79 = nI n80 ∧ ∀ v83, v83 = up3 v78 56 0 n80 (0 : Int32) → ((a1 = a4 → ∃ n85, n85 < 12 ∧ a4 = nI n85 ∧ ∀ v88, v88 = up3 v83 72 0 n85 (0 : Int32) → K10 a1 a3 (a4 + (1 : Int32)) v88) ∧ (¬ a1 = a4 → wp_X10_wants a4 a1 v83 (fun r91 v90 => ((r91 = 0 → ∃ n92, n92 < 12 ∧ a4 = nI n92 ∧ ∀ v95, v95 = up3 v90 72 0 n92 (0 : Int32) → K10 a1 a3 (a4 + (1 : Int32)) v95) ∧ (¬ r91 = 0 → ∃ n97, n97 < 12 ∧ a1 = nI n97 ∧ (((v90 40 0 n97) = (2 : Int32) → ∃ n100, n100 < 12 ∧ a4 = nI n100 ∧ ∀ v103, v103 = up3 v90 72 0 n100 (0 : Int32) → K10 a1 a3 (a4 + (1 : Int32)) v103) ∧ (¬ (v90 40 0 n97) = (2 : Int32) → (((v90 40 0 n97) = (5 : Int32) → ∃ n105, n105 < 12 ∧ a4 = nI n105 ∧ ∀ v108, v108 = up3 v90 72 0 n105 (0 : Int32) → K10 a1 a3 (a4 + (1 : Int32)) v108) ∧ (¬ (v90 40 0 n97) = (5 : Int32) → ∃ n110, n110 < 12 ∧ a4 = nI n110 ∧ ∀ v113, v113 = up3 v90 72 0 n110 (1 : Int32) → K10 a1 a3 (a4 + (1 : Int32)) v113))))))))))))
def wL_X10_opens_10 (post : (St3 → Prop)) : Nat → Int32 → Int32 → Int32 → St3 → Prop
  | 0, _, _, _, _ => False
  | f + 1, a1, a3, a4, v => wB_X10_opens_10 post (wL_X10_opens_10 post f) a1 a3 a4 v
set_option maxRecDepth 20000 in
set_option maxHeartbeats 4000000 in
theorem aL_X10_opens_10 {l : Launch} {G : Geo} {X : CT} (o : OK G X cX10_opens wsX10_opens RX10 3 6) {post : (St3 → Prop)} (rt : RV G X post) : ∀ (f : Nat) (a1 : Int32) (a3 : Int32) (a4 : Int32) (v : St3), wL_X10_opens_10 post f a1 a3 a4 v → J l G X 10 [(0, .ref (gA G 24 0)), (1, .int a1), (2, .ref (gA G 72 0)), (3, .int a3), (4, .int a4)] [] v := by
  intro f
  induction f with
  | zero => intro _ _ _ _ h; exact False.elim h
  | succ f hK10 =>
  intro a1 a3 a4 v h
  have h : wB_X10_opens_10 post (wL_X10_opens_10 post f) a1 a3 a4 v := h
  unfold wB_X10_opens_10 at h
  refine q_iload o dX10_opens_10 rfl ?_
  refine q_aload_n o dX10_opens_12 rfl ?_
  refine q_getI o sf_X10_opens_136 (by decide) dX10_opens_13 ?_
  refine q_ic_ge o 82 dX10_opens_16 (by decide) (fun c119 => ?_) (fun c119 => ?_)
  · have h := h.1 c119
    refine q_lv [0, 1, 2, 3] rfl ?_
    exact aL_X10_opens_82 o rt FU a1 a3 v h
  · have h := h.2 c119
    refine q_aload_n o dX10_opens_19 rfl ?_
    refine q_getR (q := 55) o sf_X10_opens_66 (by decide) dX10_opens_20 ?_
    refine q_iload_n o dX10_opens_23 rfl ?_
    refine q_iload o dX10_opens_24 rfl ?_
    refine q_callS o [.int a1, .int a4] (ad_X10_two l G a1 a4 v h) gX10_opens_X10_two rfl ⟨by decide, by decide, pd_X10_two⟩ (by decide) (by decide) rfl (Nat.le_of_ble_eq_true rfl) dX10_opens_26 (fun r79 v78 h => ?_)
    refine q_iconst o dX10_opens_29 (x := (0 : Int32)) (by decide) ?_
    obtain ⟨n80, hn81, hx82, h⟩ := h
    refine q_zast (m := 143) o rfl rfl (by decide) hn81 hx82 (by decide) dX10_opens_30 (fun v83 e84 => ?_)
    have h := h v83 e84
    refine q_aload_n o dX10_opens_31 rfl ?_
    refine q_iload o dX10_opens_32 rfl ?_
    refine q_iload_n o dX10_opens_34 rfl ?_
    refine q_iload o dX10_opens_35 rfl ?_
    refine q_ic_eq o 74 dX10_opens_37 (by decide) (fun c118 => ?_) (fun c118 => ?_)
    · have h := h.1 c118
      refine q_iconst o dX10_opens_74 (x := (0 : Int32)) (by decide) ?_
      obtain ⟨n85, hn86, hx87, h⟩ := h
      refine q_zast (m := 11) o rfl rfl (by decide) hn86 hx87 (by decide) dX10_opens_75 (fun v88 e89 => ?_)
      have h := h v88 e89
      refine q_iinc o (y := (a4 + (1 : Int32))) (lv' := [(4, .int (a4 + (1 : Int32))), (0, .ref (gA G 24 0)), (1, .int a1), (2, .ref (gA G 72 0)), (3, .int a3)]) dX10_opens_76 rfl rfl (by decide) rfl ?_
      refine q_goto o 10 dX10_opens_79 (by decide) ?_
      refine q_lv [1, 2, 3, 4, 0] rfl ?_
      exact hK10 a1 a3 (a4 + (1 : Int32)) v88 h
    · have h := h.2 c118
      refine q_aload_n o dX10_opens_40 rfl ?_
      refine q_iload o dX10_opens_41 rfl ?_
      refine q_iload_n o dX10_opens_43 rfl ?_
      refine q_callV o [.int a4, .int a1] (ad_X10_wants l G a4 a1 v83 h) gX10_opens_X10_wants rfl rfl rfl rfl (by decide) ⟨rfl, by decide, by decide, pd_X10_wants⟩ (by decide) (by decide) rfl (Nat.le_of_ble_eq_true rfl) dX10_opens_44 (fun r91 v90 h => ?_)
      refine q_if_eq o 74 dX10_opens_47 (by decide) (fun c117 => ?_) (fun c117 => ?_)
      · have h := h.1 c117
        refine q_iconst o dX10_opens_74 (x := (0 : Int32)) (by decide) ?_
        obtain ⟨n92, hn93, hx94, h⟩ := h
        refine q_zast (m := 11) o rfl rfl (by decide) hn93 hx94 (by decide) dX10_opens_75 (fun v95 e96 => ?_)
        have h := h v95 e96
        refine q_iinc o (y := (a4 + (1 : Int32))) (lv' := [(4, .int (a4 + (1 : Int32))), (0, .ref (gA G 24 0)), (1, .int a1), (2, .ref (gA G 72 0)), (3, .int a3)]) dX10_opens_76 rfl rfl (by decide) rfl ?_
        refine q_goto o 10 dX10_opens_79 (by decide) ?_
        refine q_lv [1, 2, 3, 4, 0] rfl ?_
        exact hK10 a1 a3 (a4 + (1 : Int32)) v95 h
      · have h := h.2 c117
        refine q_aload_n o dX10_opens_50 rfl ?_
        refine q_getR (q := 39) o sf_X10_opens_16 (by decide) dX10_opens_51 ?_
        refine q_iload_n o dX10_opens_54 rfl ?_
        obtain ⟨n97, hn98, hx99, h⟩ := h
        refine q_iald (m := 11) o rfl rfl (by decide) hn98 hx99 dX10_opens_55 ?_
        refine q_iconst o dX10_opens_56 (x := (2 : Int32)) (by decide) ?_
        refine q_ic_eq o 74 dX10_opens_57 (by decide) (fun c116 => ?_) (fun c116 => ?_)
        · have h := h.1 c116
          refine q_iconst o dX10_opens_74 (x := (0 : Int32)) (by decide) ?_
          obtain ⟨n100, hn101, hx102, h⟩ := h
          refine q_zast (m := 11) o rfl rfl (by decide) hn101 hx102 (by decide) dX10_opens_75 (fun v103 e104 => ?_)
          have h := h v103 e104
          refine q_iinc o (y := (a4 + (1 : Int32))) (lv' := [(4, .int (a4 + (1 : Int32))), (0, .ref (gA G 24 0)), (1, .int a1), (2, .ref (gA G 72 0)), (3, .int a3)]) dX10_opens_76 rfl rfl (by decide) rfl ?_
          refine q_goto o 10 dX10_opens_79 (by decide) ?_
          refine q_lv [1, 2, 3, 4, 0] rfl ?_
          exact hK10 a1 a3 (a4 + (1 : Int32)) v103 h
        · have h := h.2 c116
          refine q_aload_n o dX10_opens_60 rfl ?_
          refine q_getR (q := 39) o sf_X10_opens_16 (by decide) dX10_opens_61 ?_
          refine q_iload_n o dX10_opens_64 rfl ?_
          refine q_iald (m := 11) o rfl rfl (by decide) hn98 hx99 dX10_opens_65 ?_
          refine q_iconst o dX10_opens_66 (x := (5 : Int32)) (by decide) ?_
          refine q_ic_eq o 74 dX10_opens_67 (by decide) (fun c115 => ?_) (fun c115 => ?_)
          · have h := h.1 c115
            refine q_iconst o dX10_opens_74 (x := (0 : Int32)) (by decide) ?_
            obtain ⟨n105, hn106, hx107, h⟩ := h
            refine q_zast (m := 11) o rfl rfl (by decide) hn106 hx107 (by decide) dX10_opens_75 (fun v108 e109 => ?_)
            have h := h v108 e109
            refine q_iinc o (y := (a4 + (1 : Int32))) (lv' := [(4, .int (a4 + (1 : Int32))), (0, .ref (gA G 24 0)), (1, .int a1), (2, .ref (gA G 72 0)), (3, .int a3)]) dX10_opens_76 rfl rfl (by decide) rfl ?_
            refine q_goto o 10 dX10_opens_79 (by decide) ?_
            refine q_lv [1, 2, 3, 4, 0] rfl ?_
            exact hK10 a1 a3 (a4 + (1 : Int32)) v108 h
          · have h := h.2 c115
            refine q_iconst o dX10_opens_70 (x := (1 : Int32)) (by decide) ?_
            refine q_goto o 75 dX10_opens_71 (by decide) ?_
            obtain ⟨n110, hn111, hx112, h⟩ := h
            refine q_zast (m := 11) o rfl rfl (by decide) hn111 hx112 (by decide) dX10_opens_75 (fun v113 e114 => ?_)
            have h := h v113 e114
            refine q_iinc o (y := (a4 + (1 : Int32))) (lv' := [(4, .int (a4 + (1 : Int32))), (0, .ref (gA G 24 0)), (1, .int a1), (2, .ref (gA G 72 0)), (3, .int a3)]) dX10_opens_76 rfl rfl (by decide) rfl ?_
            refine q_goto o 10 dX10_opens_79 (by decide) ?_
            refine q_lv [1, 2, 3, 4, 0] rfl ?_
            exact hK10 a1 a3 (a4 + (1 : Int32)) v113 h
def wp_X10_opens (a1 : Int32) (v : St3) (post : (St3 → Prop)) : Prop := wL_X10_opens_10 post FU a1 (3 : Int32) (0 : Int32) v
set_option maxRecDepth 20000 in
set_option maxHeartbeats 4000000 in
theorem ad_X10_opens (l : Launch) (G : Geo) (a1 : Int32) (v : St3) {post : (St3 → Prop)} (h : wp_X10_opens a1 v post) : CV l G yX10_opens wsX10_opens 3 [.ref (gA G 24 0), .int a1] v post := by
  refine CV.of (cc := cX10_opens) (maxL := 6) (by decide) rfl (Nat.le_of_ble_eq_true rfl) (fun X o rt => ?_)
  unfold wp_X10_opens at h
  show J l G X 0 [(0, .ref (gA G 24 0)), (1, .int a1)] [] v
  refine q_aload_n o dX10_opens_0 rfl ?_
  refine q_getR (q := 71) o sf_X10_opens_111 (by decide) dX10_opens_1 ?_
  refine q_astore_n o (lv' := [(2, .ref (gA G 72 0)), (0, .ref (gA G 24 0)), (1, .int a1)]) dX10_opens_4 (by decide) rfl ?_
  refine q_iconst o dX10_opens_5 (x := (3 : Int32)) (by decide) ?_
  refine q_istore_n o (lv' := [(3, .int (3 : Int32)), (2, .ref (gA G 72 0)), (0, .ref (gA G 24 0)), (1, .int a1)]) dX10_opens_6 (by decide) rfl ?_
  refine q_iconst o dX10_opens_7 (x := (0 : Int32)) (by decide) ?_
  refine q_istore o (lv' := [(4, .int (0 : Int32)), (3, .int (3 : Int32)), (2, .ref (gA G 72 0)), (0, .ref (gA G 24 0)), (1, .int a1)]) dX10_opens_8 (by decide) rfl ?_
  refine q_lv [3, 4, 2, 1, 0] rfl ?_
  exact aL_X10_opens_10 o rt FU a1 (3 : Int32) (0 : Int32) v h
theorem pd_X10_opens : (parseMethodDescriptor yX10_opens.desc).map (fun d => d.parameters.length) = some 1 := by decide +kernel
-- PieceSwarmModel.isGiver(II)Z
theorem inn_X10_isGiver_X10 : ∀ w ∈ wsX100, w ∈ wsX10_isGiver := by decide +kernel
theorem sf_X10_isGiver_66 : SF wsX10_isGiver RX10 66 24 26 56 := ⟨RX10, TX10, 45, rfl, rfl, rfl, rfl, by decide, inn_X10_isGiver_X10, by decide +kernel⟩
theorem sf_X10_isGiver_114 : SF wsX10_isGiver RX10 114 24 43 73 := ⟨RX10, TX10, 45, rfl, rfl, rfl, rfl, by decide, inn_X10_isGiver_X10, by decide +kernel⟩
def wp_X10_isGiver (a1 : Int32) (a2 : Int32) (v : St3) (post : (Int32 → St3 → Prop)) : Prop := ((a1 = a2 → post (0 : Int32) v) ∧ (¬ a1 = a2 → wp_X10_isNear a1 a2 v (fun r2 v1 => ((r2 = 0 → post (0 : Int32) v1) ∧ (¬ r2 = 0 → wp_X10_two a1 a2 v1 (fun r4 v3 => ∃ n5, n5 < 144 ∧ r4 = nI n5 ∧ (((v3 56 0 n5) = 0 → post (0 : Int32) v3) ∧ (¬ (v3 56 0 n5) = 0 → ∃ n8, n8 < 12 ∧ a1 = nI n8 ∧ (((v3 73 0 n8) ≤ 0 → post (0 : Int32) v3) ∧ (¬ (v3 73 0 n8) ≤ 0 → post (1 : Int32) v3))))))))))
set_option maxRecDepth 20000 in
set_option maxHeartbeats 4000000 in
theorem ad_X10_isGiver (l : Launch) (G : Geo) (a1 : Int32) (a2 : Int32) (v : St3) {post : (Int32 → St3 → Prop)} (h : wp_X10_isGiver a1 a2 v post) : CI l G yX10_isGiver wsX10_isGiver 2 [.ref (gA G 24 0), .int a1, .int a2] v post := by
  refine CI.of (ty := .boolean) (cc := cX10_isGiver) (maxL := 3) (by decide) rfl (Nat.le_of_ble_eq_true rfl) (fun X o rt => ?_)
  unfold wp_X10_isGiver at h
  show J l G X 0 [(0, .ref (gA G 24 0)), (1, .int a1), (2, .int a2)] [] v
  refine q_iload_n o dX10_isGiver_0 rfl ?_
  refine q_iload_n o dX10_isGiver_1 rfl ?_
  refine q_ic_eq o 40 dX10_isGiver_2 (by decide) (fun c14 => ?_) (fun c14 => ?_)
  · have h := h.1 c14
    refine q_iconst o dX10_isGiver_40 (x := (0 : Int32)) (by decide) ?_
    exact q_zret o rt dX10_isGiver_41 (by decide) h
  · have h := h.2 c14
    refine q_aload_n o dX10_isGiver_5 rfl ?_
    refine q_iload_n o dX10_isGiver_6 rfl ?_
    refine q_iload_n o dX10_isGiver_7 rfl ?_
    refine q_callV o [.int a1, .int a2] (ad_X10_isNear l G a1 a2 v h) gX10_isGiver_X10_isNear rfl rfl rfl rfl (by decide) ⟨rfl, by decide, by decide, pd_X10_isNear⟩ (by decide) (by decide) rfl (Nat.le_of_ble_eq_true rfl) dX10_isGiver_8 (fun r2 v1 h => ?_)
    refine q_if_eq o 40 dX10_isGiver_11 (by decide) (fun c13 => ?_) (fun c13 => ?_)
    · have h := h.1 c13
      refine q_iconst o dX10_isGiver_40 (x := (0 : Int32)) (by decide) ?_
      exact q_zret o rt dX10_isGiver_41 (by decide) h
    · have h := h.2 c13
      refine q_aload_n o dX10_isGiver_14 rfl ?_
      refine q_getR (q := 55) o sf_X10_isGiver_66 (by decide) dX10_isGiver_15 ?_
      refine q_iload_n o dX10_isGiver_18 rfl ?_
      refine q_iload_n o dX10_isGiver_19 rfl ?_
      refine q_callS o [.int a1, .int a2] (ad_X10_two l G a1 a2 v1 h) gX10_isGiver_X10_two rfl ⟨by decide, by decide, pd_X10_two⟩ (by decide) (by decide) rfl (Nat.le_of_ble_eq_true rfl) dX10_isGiver_20 (fun r4 v3 h => ?_)
      obtain ⟨n5, hn6, hx7, h⟩ := h
      refine q_zald (m := 143) o rfl rfl (by decide) hn6 hx7 dX10_isGiver_23 ?_
      refine q_if_eq o 40 dX10_isGiver_24 (by decide) (fun c12 => ?_) (fun c12 => ?_)
      · have h := h.1 c12
        refine q_iconst o dX10_isGiver_40 (x := (0 : Int32)) (by decide) ?_
        exact q_zret o rt dX10_isGiver_41 (by decide) h
      · have h := h.2 c12
        refine q_aload_n o dX10_isGiver_27 rfl ?_
        refine q_getR (q := 72) o sf_X10_isGiver_114 (by decide) dX10_isGiver_28 ?_
        refine q_iload_n o dX10_isGiver_31 rfl ?_
        obtain ⟨n8, hn9, hx10, h⟩ := h
        refine q_iald (m := 11) o rfl rfl (by decide) hn9 hx10 dX10_isGiver_32 ?_
        refine q_if_le o 40 dX10_isGiver_33 (by decide) (fun c11 => ?_) (fun c11 => ?_)
        · have h := h.1 c11
          refine q_iconst o dX10_isGiver_40 (x := (0 : Int32)) (by decide) ?_
          exact q_zret o rt dX10_isGiver_41 (by decide) h
        · have h := h.2 c11
          refine q_iconst o dX10_isGiver_36 (x := (1 : Int32)) (by decide) ?_
          refine q_goto o 41 dX10_isGiver_37 (by decide) ?_
          exact q_zret o rt dX10_isGiver_41 (by decide) h
theorem pd_X10_isGiver : (parseMethodDescriptor yX10_isGiver.desc).map (fun d => d.parameters.length) = some 2 := by decide +kernel
-- PieceSwarmModel.giver(IIII)I
theorem inn_X10_giver_X10 : ∀ w ∈ wsX100, w ∈ wsX10_giver := by decide +kernel
theorem sf_X10_giver_136 : SF wsX10_giver RX10 136 24 4 0 := ⟨RX10, TX10, 45, rfl, rfl, rfl, rfl, by decide, inn_X10_giver_X10, by decide +kernel⟩
theorem sf_X10_giver_114 : SF wsX10_giver RX10 114 24 43 73 := ⟨RX10, TX10, 45, rfl, rfl, rfl, rfl, by decide, inn_X10_giver_X10, by decide +kernel⟩
def wB_X10_giver_46 (post : (Int32 → St3 → Prop)) (K6 : Int32 → Int32 → Int32 → Int32 → Int32 → Int32 → St3 → Prop) (a1 : Int32) (a2 : Int32) (a3 : Int32) (a4 : Int32) (a5 : Int32) (a6 : Int32) (v : St3) : Prop := ((¬ a6 = a4 → ((a5 = (-1 : Int32) → K6 a1 a2 a3 a4 a6 (a6 + (1 : Int32)) v) ∧ (¬ a5 = (-1 : Int32) → ∃ n5, n5 < 12 ∧ a6 = nI n5 ∧ ∃ n8, n8 < 12 ∧ a5 = nI n8 ∧ (((v 73 0 n5) ≤ (v 73 0 n8) → K6 a1 a2 a3 a4 a5 (a6 + (1 : Int32)) v) ∧ (¬ (v 73 0 n5) ≤ (v 73 0 n8) → K6 a1 a2 a3 a4 a6 (a6 + (1 : Int32)) v))))) ∧ (a6 = a4 → K6 a1 a2 a3 a4 a5 (a6 + (1 : Int32)) v))
set_option maxRecDepth 20000 in
set_option maxHeartbeats 4000000 in
theorem aJ_X10_giver_46 {l : Launch} {G : Geo} {X : CT} (o : OK G X cX10_giver wsX10_giver RX10 3 7) {post : (Int32 → St3 → Prop)} (rt : RI G X .int post) {K6 : Int32 → Int32 → Int32 → Int32 → Int32 → Int32 → St3 → Prop} (hK6 : ∀ (a1 : Int32) (a2 : Int32) (a3 : Int32) (a4 : Int32) (a5 : Int32) (a6 : Int32) (v : St3), K6 a1 a2 a3 a4 a5 a6 v → J l G X 6 [(0, .ref (gA G 24 0)), (1, .int a1), (2, .int a2), (3, .int a3), (4, .int a4), (5, .int a5), (6, .int a6)] [] v) (a1 : Int32) (a2 : Int32) (a3 : Int32) (a4 : Int32) (a5 : Int32) (a6 : Int32) (v : St3) (h : wB_X10_giver_46 post K6 a1 a2 a3 a4 a5 a6 v) : J l G X 46 [(0, .ref (gA G 24 0)), (1, .int a1), (2, .int a2), (3, .int a3), (4, .int a4), (5, .int a5), (6, .int a6)] [] v := by
  unfold wB_X10_giver_46 at h
  refine q_iload o dX10_giver_46 rfl ?_
  refine q_iload o dX10_giver_48 rfl ?_
  refine q_ic_ne o 56 dX10_giver_50 (by decide) (fun c13 => ?_) (fun c13 => ?_)
  · have h := h.1 c13
    refine q_iload o dX10_giver_56 rfl ?_
    refine q_iconst o dX10_giver_58 (x := (-1 : Int32)) (by decide) ?_
    refine q_ic_eq o 79 dX10_giver_59 (by decide) (fun c12 => ?_) (fun c12 => ?_)
    · have h := h.1 c12
      refine q_iload o dX10_giver_79 rfl ?_
      refine q_istore o (lv' := [(5, .int a6), (0, .ref (gA G 24 0)), (1, .int a1), (2, .int a2), (3, .int a3), (4, .int a4), (6, .int a6)]) dX10_giver_81 (by decide) rfl ?_
      refine q_iinc o (y := (a6 + (1 : Int32))) (lv' := [(6, .int (a6 + (1 : Int32))), (5, .int a6), (0, .ref (gA G 24 0)), (1, .int a1), (2, .int a2), (3, .int a3), (4, .int a4)]) dX10_giver_83 rfl rfl (by decide) rfl ?_
      refine q_goto o 6 dX10_giver_86 (by decide) ?_
      refine q_lv [2, 3, 4, 5, 6, 1, 0] rfl ?_
      exact hK6 a1 a2 a3 a4 a6 (a6 + (1 : Int32)) v h
    · have h := h.2 c12
      refine q_aload_n o dX10_giver_62 rfl ?_
      refine q_getR (q := 72) o sf_X10_giver_114 (by decide) dX10_giver_63 ?_
      refine q_iload o dX10_giver_66 rfl ?_
      obtain ⟨n5, hn6, hx7, h⟩ := h
      refine q_iald (m := 11) o rfl rfl (by decide) hn6 hx7 dX10_giver_68 ?_
      refine q_aload_n o dX10_giver_69 rfl ?_
      refine q_getR (q := 72) o sf_X10_giver_114 (by decide) dX10_giver_70 ?_
      refine q_iload o dX10_giver_73 rfl ?_
      obtain ⟨n8, hn9, hx10, h⟩ := h
      refine q_iald (m := 11) o rfl rfl (by decide) hn9 hx10 dX10_giver_75 ?_
      refine q_ic_le o 83 dX10_giver_76 (by decide) (fun c11 => ?_) (fun c11 => ?_)
      · have h := h.1 c11
        refine q_iinc o (y := (a6 + (1 : Int32))) (lv' := [(6, .int (a6 + (1 : Int32))), (0, .ref (gA G 24 0)), (1, .int a1), (2, .int a2), (3, .int a3), (4, .int a4), (5, .int a5)]) dX10_giver_83 rfl rfl (by decide) rfl ?_
        refine q_goto o 6 dX10_giver_86 (by decide) ?_
        refine q_lv [1, 2, 3, 4, 5, 6, 0] rfl ?_
        exact hK6 a1 a2 a3 a4 a5 (a6 + (1 : Int32)) v h
      · have h := h.2 c11
        refine q_iload o dX10_giver_79 rfl ?_
        refine q_istore o (lv' := [(5, .int a6), (0, .ref (gA G 24 0)), (1, .int a1), (2, .int a2), (3, .int a3), (4, .int a4), (6, .int a6)]) dX10_giver_81 (by decide) rfl ?_
        refine q_iinc o (y := (a6 + (1 : Int32))) (lv' := [(6, .int (a6 + (1 : Int32))), (5, .int a6), (0, .ref (gA G 24 0)), (1, .int a1), (2, .int a2), (3, .int a3), (4, .int a4)]) dX10_giver_83 rfl rfl (by decide) rfl ?_
        refine q_goto o 6 dX10_giver_86 (by decide) ?_
        refine q_lv [2, 3, 4, 5, 6, 1, 0] rfl ?_
        exact hK6 a1 a2 a3 a4 a6 (a6 + (1 : Int32)) v h
  · have h := h.2 c13
    refine q_goto o 83 dX10_giver_53 (by decide) ?_
    refine q_iinc o (y := (a6 + (1 : Int32))) (lv' := [(6, .int (a6 + (1 : Int32))), (0, .ref (gA G 24 0)), (1, .int a1), (2, .int a2), (3, .int a3), (4, .int a4), (5, .int a5)]) dX10_giver_83 rfl rfl (by decide) rfl ?_
    refine q_goto o 6 dX10_giver_86 (by decide) ?_
    refine q_lv [1, 2, 3, 4, 5, 6, 0] rfl ?_
    exact hK6 a1 a2 a3 a4 a5 (a6 + (1 : Int32)) v h
def wB_X10_giver_6 (post : (Int32 → St3 → Prop)) (K6 : Int32 → Int32 → Int32 → Int32 → Int32 → Int32 → St3 → Prop) (a1 : Int32) (a2 : Int32) (a3 : Int32) (a4 : Int32) (a5 : Int32) (a6 : Int32) (v : St3) : Prop := (((v 24 0 4) ≤ a6 → post a5 v) ∧ (¬ (v 24 0 4) ≤ a6 → wp_X10_isGiver a6 a1 v (fun r2 v1 => ((r2 = 0 → K6 a1 a2 a3 a4 a5 (a6 + (1 : Int32)) v1) ∧ (¬ r2 = 0 → wp_X10_tells a6 a2 v1 (fun r4 v3 => ((r4 = 0 → K6 a1 a2 a3 a4 a5 (a6 + (1 : Int32)) v3) ∧ (¬ r4 = 0 → ((a3 = (-1 : Int32) → wB_X10_giver_46 post K6 a1 a2 a3 a4 a5 a6 v3) ∧ (¬ a3 = (-1 : Int32) → ((¬ a6 = a3 → K6 a1 a2 a3 a4 a5 (a6 + (1 : Int32)) v3) ∧ (a6 = a3 → wB_X10_giver_46 post K6 a1 a2 a3 a4 a5 a6 v3))))))))))))
def wL_X10_giver_6 (post : (Int32 → St3 → Prop)) : Nat → Int32 → Int32 → Int32 → Int32 → Int32 → Int32 → St3 → Prop
  | 0, _, _, _, _, _, _, _ => False
  | f + 1, a1, a2, a3, a4, a5, a6, v => wB_X10_giver_6 post (wL_X10_giver_6 post f) a1 a2 a3 a4 a5 a6 v
set_option maxRecDepth 20000 in
set_option maxHeartbeats 4000000 in
theorem aL_X10_giver_6 {l : Launch} {G : Geo} {X : CT} (o : OK G X cX10_giver wsX10_giver RX10 3 7) {post : (Int32 → St3 → Prop)} (rt : RI G X .int post) : ∀ (f : Nat) (a1 : Int32) (a2 : Int32) (a3 : Int32) (a4 : Int32) (a5 : Int32) (a6 : Int32) (v : St3), wL_X10_giver_6 post f a1 a2 a3 a4 a5 a6 v → J l G X 6 [(0, .ref (gA G 24 0)), (1, .int a1), (2, .int a2), (3, .int a3), (4, .int a4), (5, .int a5), (6, .int a6)] [] v := by
  intro f
  induction f with
  | zero => intro _ _ _ _ _ _ _ h; exact False.elim h
  | succ f hK6 =>
  intro a1 a2 a3 a4 a5 a6 v h
  have h : wB_X10_giver_6 post (wL_X10_giver_6 post f) a1 a2 a3 a4 a5 a6 v := h
  unfold wB_X10_giver_6 at h
  refine q_iload o dX10_giver_6 rfl ?_
  refine q_aload_n o dX10_giver_8 rfl ?_
  refine q_getI o sf_X10_giver_136 (by decide) dX10_giver_9 ?_
  refine q_ic_ge o 89 dX10_giver_12 (by decide) (fun c18 => ?_) (fun c18 => ?_)
  · have h := h.1 c18
    refine q_iload o dX10_giver_89 rfl ?_
    exact q_iret o rt dX10_giver_91 h
  · have h := h.2 c18
    refine q_aload_n o dX10_giver_15 rfl ?_
    refine q_iload o dX10_giver_16 rfl ?_
    refine q_iload_n o dX10_giver_18 rfl ?_
    refine q_callV o [.int a6, .int a1] (ad_X10_isGiver l G a6 a1 v h) gX10_giver_X10_isGiver rfl rfl rfl rfl (by decide) ⟨rfl, by decide, by decide, pd_X10_isGiver⟩ (by decide) (by decide) rfl (Nat.le_of_ble_eq_true rfl) dX10_giver_19 (fun r2 v1 h => ?_)
    refine q_if_eq o 83 dX10_giver_22 (by decide) (fun c17 => ?_) (fun c17 => ?_)
    · have h := h.1 c17
      refine q_iinc o (y := (a6 + (1 : Int32))) (lv' := [(6, .int (a6 + (1 : Int32))), (0, .ref (gA G 24 0)), (1, .int a1), (2, .int a2), (3, .int a3), (4, .int a4), (5, .int a5)]) dX10_giver_83 rfl rfl (by decide) rfl ?_
      refine q_goto o 6 dX10_giver_86 (by decide) ?_
      refine q_lv [1, 2, 3, 4, 5, 6, 0] rfl ?_
      exact hK6 a1 a2 a3 a4 a5 (a6 + (1 : Int32)) v1 h
    · have h := h.2 c17
      refine q_aload_n o dX10_giver_25 rfl ?_
      refine q_iload o dX10_giver_26 rfl ?_
      refine q_iload_n o dX10_giver_28 rfl ?_
      refine q_callV o [.int a6, .int a2] (ad_X10_tells l G a6 a2 v1 h) gX10_giver_X10_tells rfl rfl rfl rfl (by decide) ⟨rfl, by decide, by decide, pd_X10_tells⟩ (by decide) (by decide) rfl (Nat.le_of_ble_eq_true rfl) dX10_giver_29 (fun r4 v3 h => ?_)
      refine q_if_eq o 83 dX10_giver_32 (by decide) (fun c16 => ?_) (fun c16 => ?_)
      · have h := h.1 c16
        refine q_iinc o (y := (a6 + (1 : Int32))) (lv' := [(6, .int (a6 + (1 : Int32))), (0, .ref (gA G 24 0)), (1, .int a1), (2, .int a2), (3, .int a3), (4, .int a4), (5, .int a5)]) dX10_giver_83 rfl rfl (by decide) rfl ?_
        refine q_goto o 6 dX10_giver_86 (by decide) ?_
        refine q_lv [1, 2, 3, 4, 5, 6, 0] rfl ?_
        exact hK6 a1 a2 a3 a4 a5 (a6 + (1 : Int32)) v3 h
      · have h := h.2 c16
        refine q_iload_n o dX10_giver_35 rfl ?_
        refine q_iconst o dX10_giver_36 (x := (-1 : Int32)) (by decide) ?_
        refine q_ic_eq o 46 dX10_giver_37 (by decide) (fun c15 => ?_) (fun c15 => ?_)
        · have h := h.1 c15
          exact aJ_X10_giver_46 o rt hK6 a1 a2 a3 a4 a5 a6 v3 h
        · have h := h.2 c15
          refine q_iload o dX10_giver_40 rfl ?_
          refine q_iload_n o dX10_giver_42 rfl ?_
          refine q_ic_ne o 83 dX10_giver_43 (by decide) (fun c14 => ?_) (fun c14 => ?_)
          · have h := h.1 c14
            refine q_iinc o (y := (a6 + (1 : Int32))) (lv' := [(6, .int (a6 + (1 : Int32))), (0, .ref (gA G 24 0)), (1, .int a1), (2, .int a2), (3, .int a3), (4, .int a4), (5, .int a5)]) dX10_giver_83 rfl rfl (by decide) rfl ?_
            refine q_goto o 6 dX10_giver_86 (by decide) ?_
            refine q_lv [1, 2, 3, 4, 5, 6, 0] rfl ?_
            exact hK6 a1 a2 a3 a4 a5 (a6 + (1 : Int32)) v3 h
          · have h := h.2 c14
            exact aJ_X10_giver_46 o rt hK6 a1 a2 a3 a4 a5 a6 v3 h
def wp_X10_giver (a1 : Int32) (a2 : Int32) (a3 : Int32) (a4 : Int32) (v : St3) (post : (Int32 → St3 → Prop)) : Prop := wL_X10_giver_6 post FU a1 a2 a3 a4 (-1 : Int32) (0 : Int32) v
set_option maxRecDepth 20000 in
set_option maxHeartbeats 4000000 in
theorem ad_X10_giver (l : Launch) (G : Geo) (a1 : Int32) (a2 : Int32) (a3 : Int32) (a4 : Int32) (v : St3) {post : (Int32 → St3 → Prop)} (h : wp_X10_giver a1 a2 a3 a4 v post) : CI l G yX10_giver wsX10_giver 3 [.ref (gA G 24 0), .int a1, .int a2, .int a3, .int a4] v post := by
  refine CI.of (ty := .int) (cc := cX10_giver) (maxL := 7) (by decide) rfl (Nat.le_of_ble_eq_true rfl) (fun X o rt => ?_)
  unfold wp_X10_giver at h
  show J l G X 0 [(0, .ref (gA G 24 0)), (1, .int a1), (2, .int a2), (3, .int a3), (4, .int a4)] [] v
  refine q_iconst o dX10_giver_0 (x := (-1 : Int32)) (by decide) ?_
  refine q_istore o (lv' := [(5, .int (-1 : Int32)), (0, .ref (gA G 24 0)), (1, .int a1), (2, .int a2), (3, .int a3), (4, .int a4)]) dX10_giver_1 (by decide) rfl ?_
  refine q_iconst o dX10_giver_3 (x := (0 : Int32)) (by decide) ?_
  refine q_istore o (lv' := [(6, .int (0 : Int32)), (5, .int (-1 : Int32)), (0, .ref (gA G 24 0)), (1, .int a1), (2, .int a2), (3, .int a3), (4, .int a4)]) dX10_giver_4 (by decide) rfl ?_
  refine q_lv [2, 3, 4, 5, 6, 1, 0] rfl ?_
  exact aL_X10_giver_6 o rt FU a1 a2 a3 a4 (-1 : Int32) (0 : Int32) v h
theorem pd_X10_giver : (parseMethodDescriptor yX10_giver.desc).map (fun d => d.parameters.length) = some 4 := by decide +kernel
-- PieceSwarmModel.isBegun(II)Z
theorem inn_X10_isBegun_X10 : ∀ w ∈ wsX100, w ∈ wsX10_isBegun := by decide +kernel
theorem sf_X10_isBegun_13 : SF wsX10_isBegun RX10 13 24 2 0 := ⟨RX10, TX10, 45, rfl, rfl, rfl, rfl, by decide, inn_X10_isBegun_X10, by decide +kernel⟩
def wB_X10_isBegun_18 (post : (Int32 → St3 → Prop)) (K18 : Int32 → Int32 → Int32 → Int32 → St3 → Prop) (a1 : Int32) (a2 : Int32) (a3 : Int32) (a4 : Int32) (v : St3) : Prop := (((v 24 0 2) ≤ a4 → ((a3 = 0 ∨ a3 = 1) ∧ post a3 v)) ∧ (¬ (v 24 0 2) ≤ a4 → ((¬ a3 = 0 → K18 a1 a2 (1 : Int32) (a4 + (1 : Int32)) v) ∧ (a3 = 0 → wp_X10_coming a1 a2 a4 v (fun r5 v4 => ((r5 ≤ 0 → K18 a1 a2 (0 : Int32) (a4 + (1 : Int32)) v4) ∧ (¬ r5 ≤ 0 → K18 a1 a2 (1 : Int32) (a4 + (1 : Int32)) v4)))))))
def wL_X10_isBegun_18 (post : (Int32 → St3 → Prop)) : Nat → Int32 → Int32 → Int32 → Int32 → St3 → Prop
  | 0, _, _, _, _, _ => False
  | f + 1, a1, a2, a3, a4, v => wB_X10_isBegun_18 post (wL_X10_isBegun_18 post f) a1 a2 a3 a4 v
set_option maxRecDepth 20000 in
set_option maxHeartbeats 4000000 in
theorem aL_X10_isBegun_18 {l : Launch} {G : Geo} {X : CT} (o : OK G X cX10_isBegun wsX10_isBegun RX10 2 5) {post : (Int32 → St3 → Prop)} (rt : RI G X .boolean post) : ∀ (f : Nat) (a1 : Int32) (a2 : Int32) (a3 : Int32) (a4 : Int32) (v : St3), wL_X10_isBegun_18 post f a1 a2 a3 a4 v → J l G X 18 [(0, .ref (gA G 24 0)), (1, .int a1), (2, .int a2), (3, .int a3), (4, .int a4)] [] v := by
  intro f
  induction f with
  | zero => intro _ _ _ _ _ h; exact False.elim h
  | succ f hK18 =>
  intro a1 a2 a3 a4 v h
  have h : wB_X10_isBegun_18 post (wL_X10_isBegun_18 post f) a1 a2 a3 a4 v := h
  unfold wB_X10_isBegun_18 at h
  refine q_iload o dX10_isBegun_18 rfl ?_
  refine q_aload_n o dX10_isBegun_20 rfl ?_
  refine q_getI o sf_X10_isBegun_13 (by decide) dX10_isBegun_21 ?_
  refine q_ic_ge o 54 dX10_isBegun_24 (by decide) (fun c8 => ?_) (fun c8 => ?_)
  · have h := h.1 c8
    refine q_iload_n o dX10_isBegun_54 rfl ?_
    obtain ⟨hz3, h⟩ := h
    exact q_zret o rt dX10_isBegun_55 hz3 h
  · have h := h.2 c8
    refine q_iload_n o dX10_isBegun_27 rfl ?_
    refine q_if_ne o 42 dX10_isBegun_28 (by decide) (fun c7 => ?_) (fun c7 => ?_)
    · have h := h.1 c7
      refine q_iconst o dX10_isBegun_42 (x := (1 : Int32)) (by decide) ?_
      refine q_goto o 47 dX10_isBegun_43 (by decide) ?_
      refine q_istore_n o (lv' := [(3, .int (1 : Int32)), (0, .ref (gA G 24 0)), (1, .int a1), (2, .int a2), (4, .int a4)]) dX10_isBegun_47 (by decide) rfl ?_
      refine q_iinc o (y := (a4 + (1 : Int32))) (lv' := [(4, .int (a4 + (1 : Int32))), (3, .int (1 : Int32)), (0, .ref (gA G 24 0)), (1, .int a1), (2, .int a2)]) dX10_isBegun_48 rfl rfl (by decide) rfl ?_
      refine q_goto o 18 dX10_isBegun_51 (by decide) ?_
      refine q_lv [2, 3, 4, 1, 0] rfl ?_
      exact hK18 a1 a2 (1 : Int32) (a4 + (1 : Int32)) v h
    · have h := h.2 c7
      refine q_aload_n o dX10_isBegun_31 rfl ?_
      refine q_iload_n o dX10_isBegun_32 rfl ?_
      refine q_iload_n o dX10_isBegun_33 rfl ?_
      refine q_iload o dX10_isBegun_34 rfl ?_
      refine q_callV o [.int a1, .int a2, .int a4] (ad_X10_coming l G a1 a2 a4 v h) gX10_isBegun_X10_coming rfl rfl rfl rfl (by decide) ⟨rfl, by decide, by decide, pd_X10_coming⟩ (by decide) (by decide) rfl (Nat.le_of_ble_eq_true rfl) dX10_isBegun_36 (fun r5 v4 h => ?_)
      refine q_if_le o 46 dX10_isBegun_39 (by decide) (fun c6 => ?_) (fun c6 => ?_)
      · have h := h.1 c6
        refine q_iconst o dX10_isBegun_46 (x := (0 : Int32)) (by decide) ?_
        refine q_istore_n o (lv' := [(3, .int (0 : Int32)), (0, .ref (gA G 24 0)), (1, .int a1), (2, .int a2), (4, .int a4)]) dX10_isBegun_47 (by decide) rfl ?_
        refine q_iinc o (y := (a4 + (1 : Int32))) (lv' := [(4, .int (a4 + (1 : Int32))), (3, .int (0 : Int32)), (0, .ref (gA G 24 0)), (1, .int a1), (2, .int a2)]) dX10_isBegun_48 rfl rfl (by decide) rfl ?_
        refine q_goto o 18 dX10_isBegun_51 (by decide) ?_
        refine q_lv [2, 3, 4, 1, 0] rfl ?_
        exact hK18 a1 a2 (0 : Int32) (a4 + (1 : Int32)) v4 h
      · have h := h.2 c6
        refine q_iconst o dX10_isBegun_42 (x := (1 : Int32)) (by decide) ?_
        refine q_goto o 47 dX10_isBegun_43 (by decide) ?_
        refine q_istore_n o (lv' := [(3, .int (1 : Int32)), (0, .ref (gA G 24 0)), (1, .int a1), (2, .int a2), (4, .int a4)]) dX10_isBegun_47 (by decide) rfl ?_
        refine q_iinc o (y := (a4 + (1 : Int32))) (lv' := [(4, .int (a4 + (1 : Int32))), (3, .int (1 : Int32)), (0, .ref (gA G 24 0)), (1, .int a1), (2, .int a2)]) dX10_isBegun_48 rfl rfl (by decide) rfl ?_
        refine q_goto o 18 dX10_isBegun_51 (by decide) ?_
        refine q_lv [2, 3, 4, 1, 0] rfl ?_
        exact hK18 a1 a2 (1 : Int32) (a4 + (1 : Int32)) v4 h
def wp_X10_isBegun (a1 : Int32) (a2 : Int32) (v : St3) (post : (Int32 → St3 → Prop)) : Prop := wp_X10_heldMany a1 a2 v (fun r2 v1 => ((r2 ≤ 0 → wL_X10_isBegun_18 post FU a1 a2 (0 : Int32) (0 : Int32) v1) ∧ (¬ r2 ≤ 0 → wL_X10_isBegun_18 post FU a1 a2 (1 : Int32) (0 : Int32) v1)))
set_option maxRecDepth 20000 in
set_option maxHeartbeats 4000000 in
theorem ad_X10_isBegun (l : Launch) (G : Geo) (a1 : Int32) (a2 : Int32) (v : St3) {post : (Int32 → St3 → Prop)} (h : wp_X10_isBegun a1 a2 v post) : CI l G yX10_isBegun wsX10_isBegun 2 [.ref (gA G 24 0), .int a1, .int a2] v post := by
  refine CI.of (ty := .boolean) (cc := cX10_isBegun) (maxL := 5) (by decide) rfl (Nat.le_of_ble_eq_true rfl) (fun X o rt => ?_)
  unfold wp_X10_isBegun at h
  show J l G X 0 [(0, .ref (gA G 24 0)), (1, .int a1), (2, .int a2)] [] v
  refine q_aload_n o dX10_isBegun_0 rfl ?_
  refine q_iload_n o dX10_isBegun_1 rfl ?_
  refine q_iload_n o dX10_isBegun_2 rfl ?_
  refine q_callV o [.int a1, .int a2] (ad_X10_heldMany l G a1 a2 v h) gX10_isBegun_X10_heldMany rfl rfl rfl rfl (by decide) ⟨rfl, by decide, by decide, pd_X10_heldMany⟩ (by decide) (by decide) rfl (Nat.le_of_ble_eq_true rfl) dX10_isBegun_3 (fun r2 v1 h => ?_)
  refine q_if_le o 13 dX10_isBegun_6 (by decide) (fun c9 => ?_) (fun c9 => ?_)
  · have h := h.1 c9
    refine q_iconst o dX10_isBegun_13 (x := (0 : Int32)) (by decide) ?_
    refine q_istore_n o (lv' := [(3, .int (0 : Int32)), (0, .ref (gA G 24 0)), (1, .int a1), (2, .int a2)]) dX10_isBegun_14 (by decide) rfl ?_
    refine q_iconst o dX10_isBegun_15 (x := (0 : Int32)) (by decide) ?_
    refine q_istore o (lv' := [(4, .int (0 : Int32)), (3, .int (0 : Int32)), (0, .ref (gA G 24 0)), (1, .int a1), (2, .int a2)]) dX10_isBegun_16 (by decide) rfl ?_
    refine q_lv [2, 3, 4, 1, 0] rfl ?_
    exact aL_X10_isBegun_18 o rt FU a1 a2 (0 : Int32) (0 : Int32) v1 h
  · have h := h.2 c9
    refine q_iconst o dX10_isBegun_9 (x := (1 : Int32)) (by decide) ?_
    refine q_goto o 14 dX10_isBegun_10 (by decide) ?_
    refine q_istore_n o (lv' := [(3, .int (1 : Int32)), (0, .ref (gA G 24 0)), (1, .int a1), (2, .int a2)]) dX10_isBegun_14 (by decide) rfl ?_
    refine q_iconst o dX10_isBegun_15 (x := (0 : Int32)) (by decide) ?_
    refine q_istore o (lv' := [(4, .int (0 : Int32)), (3, .int (1 : Int32)), (0, .ref (gA G 24 0)), (1, .int a1), (2, .int a2)]) dX10_isBegun_16 (by decide) rfl ?_
    refine q_lv [2, 3, 4, 1, 0] rfl ?_
    exact aL_X10_isBegun_18 o rt FU a1 a2 (1 : Int32) (0 : Int32) v1 h
theorem pd_X10_isBegun : (parseMethodDescriptor yX10_isBegun.desc).map (fun d => d.parameters.length) = some 2 := by decide +kernel
-- PieceSwarmModel.tellers(II)I
theorem inn_X10_tellers_X10 : ∀ w ∈ wsX100, w ∈ wsX10_tellers := by decide +kernel
theorem sf_X10_tellers_136 : SF wsX10_tellers RX10 136 24 4 0 := ⟨RX10, TX10, 45, rfl, rfl, rfl, rfl, by decide, inn_X10_tellers_X10, by decide +kernel⟩
def wB_X10_tellers_5 (post : (Int32 → St3 → Prop)) (K5 : Int32 → Int32 → Int32 → Int32 → St3 → Prop) (a1 : Int32) (a2 : Int32) (a3 : Int32) (a4 : Int32) (v : St3) : Prop := (((v 24 0 4) ≤ a4 → post a3 v) ∧ (¬ (v 24 0 4) ≤ a4 → ((a4 = a1 → K5 a1 a2 (a3 + (0 : Int32)) (a4 + (1 : Int32)) v) ∧ (¬ a4 = a1 → wp_X10_isNear a4 a1 v (fun r2 v1 => ((r2 = 0 → K5 a1 a2 (a3 + (0 : Int32)) (a4 + (1 : Int32)) v1) ∧ (¬ r2 = 0 → wp_X10_tells a4 a2 v1 (fun r4 v3 => ((r4 = 0 → K5 a1 a2 (a3 + (0 : Int32)) (a4 + (1 : Int32)) v3) ∧ (¬ r4 = 0 → K5 a1 a2 (a3 + (1 : Int32)) (a4 + (1 : Int32)) v3))))))))))
def wL_X10_tellers_5 (post : (Int32 → St3 → Prop)) : Nat → Int32 → Int32 → Int32 → Int32 → St3 → Prop
  | 0, _, _, _, _, _ => False
  | f + 1, a1, a2, a3, a4, v => wB_X10_tellers_5 post (wL_X10_tellers_5 post f) a1 a2 a3 a4 v
set_option maxRecDepth 20000 in
set_option maxHeartbeats 4000000 in
theorem aL_X10_tellers_5 {l : Launch} {G : Geo} {X : CT} (o : OK G X cX10_tellers wsX10_tellers RX10 2 5) {post : (Int32 → St3 → Prop)} (rt : RI G X .int post) : ∀ (f : Nat) (a1 : Int32) (a2 : Int32) (a3 : Int32) (a4 : Int32) (v : St3), wL_X10_tellers_5 post f a1 a2 a3 a4 v → J l G X 5 [(0, .ref (gA G 24 0)), (1, .int a1), (2, .int a2), (3, .int a3), (4, .int a4)] [] v := by
  intro f
  induction f with
  | zero => intro _ _ _ _ _ h; exact False.elim h
  | succ f hK5 =>
  intro a1 a2 a3 a4 v h
  have h : wB_X10_tellers_5 post (wL_X10_tellers_5 post f) a1 a2 a3 a4 v := h
  unfold wB_X10_tellers_5 at h
  refine q_iload o dX10_tellers_5 rfl ?_
  refine q_aload_n o dX10_tellers_7 rfl ?_
  refine q_getI o sf_X10_tellers_136 (by decide) dX10_tellers_8 ?_
  refine q_ic_ge o 54 dX10_tellers_11 (by decide) (fun c8 => ?_) (fun c8 => ?_)
  · have h := h.1 c8
    refine q_iload_n o dX10_tellers_54 rfl ?_
    exact q_iret o rt dX10_tellers_55 h
  · have h := h.2 c8
    refine q_iload_n o dX10_tellers_14 rfl ?_
    refine q_iload o dX10_tellers_15 rfl ?_
    refine q_iload_n o dX10_tellers_17 rfl ?_
    refine q_ic_eq o 45 dX10_tellers_18 (by decide) (fun c7 => ?_) (fun c7 => ?_)
    · have h := h.1 c7
      refine q_iconst o dX10_tellers_45 (x := (0 : Int32)) (by decide) ?_
      refine q_iadd o dX10_tellers_46 ?_
      refine q_istore_n o (lv' := [(3, .int (a3 + (0 : Int32))), (0, .ref (gA G 24 0)), (1, .int a1), (2, .int a2), (4, .int a4)]) dX10_tellers_47 (by decide) rfl ?_
      refine q_iinc o (y := (a4 + (1 : Int32))) (lv' := [(4, .int (a4 + (1 : Int32))), (3, .int (a3 + (0 : Int32))), (0, .ref (gA G 24 0)), (1, .int a1), (2, .int a2)]) dX10_tellers_48 rfl rfl (by decide) rfl ?_
      refine q_goto o 5 dX10_tellers_51 (by decide) ?_
      refine q_lv [2, 3, 4, 1, 0] rfl ?_
      exact hK5 a1 a2 (a3 + (0 : Int32)) (a4 + (1 : Int32)) v h
    · have h := h.2 c7
      refine q_aload_n o dX10_tellers_21 rfl ?_
      refine q_iload o dX10_tellers_22 rfl ?_
      refine q_iload_n o dX10_tellers_24 rfl ?_
      refine q_callV o [.int a4, .int a1] (ad_X10_isNear l G a4 a1 v h) gX10_tellers_X10_isNear rfl rfl rfl rfl (by decide) ⟨rfl, by decide, by decide, pd_X10_isNear⟩ (by decide) (by decide) rfl (Nat.le_of_ble_eq_true rfl) dX10_tellers_25 (fun r2 v1 h => ?_)
      refine q_if_eq o 45 dX10_tellers_28 (by decide) (fun c6 => ?_) (fun c6 => ?_)
      · have h := h.1 c6
        refine q_iconst o dX10_tellers_45 (x := (0 : Int32)) (by decide) ?_
        refine q_iadd o dX10_tellers_46 ?_
        refine q_istore_n o (lv' := [(3, .int (a3 + (0 : Int32))), (0, .ref (gA G 24 0)), (1, .int a1), (2, .int a2), (4, .int a4)]) dX10_tellers_47 (by decide) rfl ?_
        refine q_iinc o (y := (a4 + (1 : Int32))) (lv' := [(4, .int (a4 + (1 : Int32))), (3, .int (a3 + (0 : Int32))), (0, .ref (gA G 24 0)), (1, .int a1), (2, .int a2)]) dX10_tellers_48 rfl rfl (by decide) rfl ?_
        refine q_goto o 5 dX10_tellers_51 (by decide) ?_
        refine q_lv [2, 3, 4, 1, 0] rfl ?_
        exact hK5 a1 a2 (a3 + (0 : Int32)) (a4 + (1 : Int32)) v1 h
      · have h := h.2 c6
        refine q_aload_n o dX10_tellers_31 rfl ?_
        refine q_iload o dX10_tellers_32 rfl ?_
        refine q_iload_n o dX10_tellers_34 rfl ?_
        refine q_callV o [.int a4, .int a2] (ad_X10_tells l G a4 a2 v1 h) gX10_tellers_X10_tells rfl rfl rfl rfl (by decide) ⟨rfl, by decide, by decide, pd_X10_tells⟩ (by decide) (by decide) rfl (Nat.le_of_ble_eq_true rfl) dX10_tellers_35 (fun r4 v3 h => ?_)
        refine q_if_eq o 45 dX10_tellers_38 (by decide) (fun c5 => ?_) (fun c5 => ?_)
        · have h := h.1 c5
          refine q_iconst o dX10_tellers_45 (x := (0 : Int32)) (by decide) ?_
          refine q_iadd o dX10_tellers_46 ?_
          refine q_istore_n o (lv' := [(3, .int (a3 + (0 : Int32))), (0, .ref (gA G 24 0)), (1, .int a1), (2, .int a2), (4, .int a4)]) dX10_tellers_47 (by decide) rfl ?_
          refine q_iinc o (y := (a4 + (1 : Int32))) (lv' := [(4, .int (a4 + (1 : Int32))), (3, .int (a3 + (0 : Int32))), (0, .ref (gA G 24 0)), (1, .int a1), (2, .int a2)]) dX10_tellers_48 rfl rfl (by decide) rfl ?_
          refine q_goto o 5 dX10_tellers_51 (by decide) ?_
          refine q_lv [2, 3, 4, 1, 0] rfl ?_
          exact hK5 a1 a2 (a3 + (0 : Int32)) (a4 + (1 : Int32)) v3 h
        · have h := h.2 c5
          refine q_iconst o dX10_tellers_41 (x := (1 : Int32)) (by decide) ?_
          refine q_goto o 46 dX10_tellers_42 (by decide) ?_
          refine q_iadd o dX10_tellers_46 ?_
          refine q_istore_n o (lv' := [(3, .int (a3 + (1 : Int32))), (0, .ref (gA G 24 0)), (1, .int a1), (2, .int a2), (4, .int a4)]) dX10_tellers_47 (by decide) rfl ?_
          refine q_iinc o (y := (a4 + (1 : Int32))) (lv' := [(4, .int (a4 + (1 : Int32))), (3, .int (a3 + (1 : Int32))), (0, .ref (gA G 24 0)), (1, .int a1), (2, .int a2)]) dX10_tellers_48 rfl rfl (by decide) rfl ?_
          refine q_goto o 5 dX10_tellers_51 (by decide) ?_
          refine q_lv [2, 3, 4, 1, 0] rfl ?_
          exact hK5 a1 a2 (a3 + (1 : Int32)) (a4 + (1 : Int32)) v3 h
def wp_X10_tellers (a1 : Int32) (a2 : Int32) (v : St3) (post : (Int32 → St3 → Prop)) : Prop := wL_X10_tellers_5 post FU a1 a2 (0 : Int32) (0 : Int32) v
set_option maxRecDepth 20000 in
set_option maxHeartbeats 4000000 in
theorem ad_X10_tellers (l : Launch) (G : Geo) (a1 : Int32) (a2 : Int32) (v : St3) {post : (Int32 → St3 → Prop)} (h : wp_X10_tellers a1 a2 v post) : CI l G yX10_tellers wsX10_tellers 2 [.ref (gA G 24 0), .int a1, .int a2] v post := by
  refine CI.of (ty := .int) (cc := cX10_tellers) (maxL := 5) (by decide) rfl (Nat.le_of_ble_eq_true rfl) (fun X o rt => ?_)
  unfold wp_X10_tellers at h
  show J l G X 0 [(0, .ref (gA G 24 0)), (1, .int a1), (2, .int a2)] [] v
  refine q_iconst o dX10_tellers_0 (x := (0 : Int32)) (by decide) ?_
  refine q_istore_n o (lv' := [(3, .int (0 : Int32)), (0, .ref (gA G 24 0)), (1, .int a1), (2, .int a2)]) dX10_tellers_1 (by decide) rfl ?_
  refine q_iconst o dX10_tellers_2 (x := (0 : Int32)) (by decide) ?_
  refine q_istore o (lv' := [(4, .int (0 : Int32)), (3, .int (0 : Int32)), (0, .ref (gA G 24 0)), (1, .int a1), (2, .int a2)]) dX10_tellers_3 (by decide) rfl ?_
  refine q_lv [2, 3, 4, 1, 0] rfl ?_
  exact aL_X10_tellers_5 o rt FU a1 a2 (0 : Int32) (0 : Int32) v h
theorem pd_X10_tellers : (parseMethodDescriptor yX10_tellers.desc).map (fun d => d.parameters.length) = some 2 := by decide +kernel
-- PieceSwarmModel.forgets(I)V
theorem inn_X10_forgets_X10 : ∀ w ∈ wsX100, w ∈ wsX10_forgets := by decide +kernel
theorem sf_X10_forgets_7 : SF wsX10_forgets RX10 7 24 1 0 := ⟨RX10, TX10, 45, rfl, rfl, rfl, rfl, by decide, inn_X10_forgets_X10, by decide +kernel⟩
theorem sf_X10_forgets_48 : SF wsX10_forgets RX10 48 24 20 50 := ⟨RX10, TX10, 45, rfl, rfl, rfl, rfl, by decide, inn_X10_forgets_X10, by decide +kernel⟩
theorem sf_X10_forgets_51 : SF wsX10_forgets RX10 51 24 21 51 := ⟨RX10, TX10, 45, rfl, rfl, rfl, rfl, by decide, inn_X10_forgets_X10, by decide +kernel⟩
theorem sf_X10_forgets_13 : SF wsX10_forgets RX10 13 24 2 0 := ⟨RX10, TX10, 45, rfl, rfl, rfl, rfl, by decide, inn_X10_forgets_X10, by decide +kernel⟩
theorem sf_X10_forgets_54 : SF wsX10_forgets RX10 54 24 22 52 := ⟨RX10, TX10, 45, rfl, rfl, rfl, rfl, by decide, inn_X10_forgets_X10, by decide +kernel⟩
theorem sf_X10_forgets_60 : SF wsX10_forgets RX10 60 24 24 54 := ⟨RX10, TX10, 45, rfl, rfl, rfl, rfl, by decide, inn_X10_forgets_X10, by decide +kernel⟩
def wB_X10_forgets_46 (post : (St3 → Prop)) (K2 : Int32 → Int32 → St3 → Prop) (K46 : Int32 → Int32 → Int32 → Int32 → St3 → Prop) (a1 : Int32) (a2 : Int32) (a3 : Int32) (a4 : Int32) (v : St3) : Prop := (((v 24 0 2) ≤ a4 → ((a3 = 0 → K2 a1 (a2 + (1 : Int32)) v) ∧ (¬ a3 = 0 → wp_X10_dropPiece a1 a2 v (fun v4 => K2 a1 (a2 + (1 : Int32)) v4)))) ∧ (¬ (v 24 0 2) ≤ a4 → ((¬ a3 = 0 → K46 a1 a2 (1 : Int32) (a4 + (1 : Int32)) v) ∧ (a3 = 0 → wp_X10_cell a1 a2 a4 v (fun r8 v7 => ∃ n9, n9 < 1152 ∧ r8 = nI n9 ∧ (((v7 52 0 n9) = 0 → K46 a1 a2 (0 : Int32) (a4 + (1 : Int32)) v7) ∧ (¬ (v7 52 0 n9) = 0 → wp_X10_cell a1 a2 a4 v7 (fun r13 v12 => ∃ n14, n14 < 1152 ∧ r13 = nI n14 ∧ wp_X10_isNear a1 (v12 54 0 n14) v12 (fun r18 v17 => ((¬ r18 = 0 → K46 a1 a2 (0 : Int32) (a4 + (1 : Int32)) v17) ∧ (r18 = 0 → K46 a1 a2 (1 : Int32) (a4 + (1 : Int32)) v17)))))))))))
def wL_X10_forgets_46 (post : (St3 → Prop)) (K2 : Int32 → Int32 → St3 → Prop) : Nat → Int32 → Int32 → Int32 → Int32 → St3 → Prop
  | 0, _, _, _, _, _ => False
  | f + 1, a1, a2, a3, a4, v => wB_X10_forgets_46 post K2 (wL_X10_forgets_46 post K2 f) a1 a2 a3 a4 v
set_option maxRecDepth 20000 in
set_option maxHeartbeats 4000000 in
theorem aL_X10_forgets_46 {l : Launch} {G : Geo} {X : CT} (o : OK G X cX10_forgets wsX10_forgets RX10 2 5) {post : (St3 → Prop)} (rt : RV G X post) {K2 : Int32 → Int32 → St3 → Prop} (hK2 : ∀ (a1 : Int32) (a2 : Int32) (v : St3), K2 a1 a2 v → J l G X 2 [(0, .ref (gA G 24 0)), (1, .int a1), (2, .int a2)] [] v) : ∀ (f : Nat) (a1 : Int32) (a2 : Int32) (a3 : Int32) (a4 : Int32) (v : St3), wL_X10_forgets_46 post K2 f a1 a2 a3 a4 v → J l G X 46 [(0, .ref (gA G 24 0)), (1, .int a1), (2, .int a2), (3, .int a3), (4, .int a4)] [] v := by
  intro f
  induction f with
  | zero => intro _ _ _ _ _ h; exact False.elim h
  | succ f hK46 =>
  intro a1 a2 a3 a4 v h
  have h : wB_X10_forgets_46 post K2 (wL_X10_forgets_46 post K2 f) a1 a2 a3 a4 v := h
  unfold wB_X10_forgets_46 at h
  refine q_iload o dX10_forgets_46 rfl ?_
  refine q_aload_n o dX10_forgets_48 rfl ?_
  refine q_getI o sf_X10_forgets_13 (by decide) dX10_forgets_49 ?_
  refine q_ic_ge o 106 dX10_forgets_52 (by decide) (fun c22 => ?_) (fun c22 => ?_)
  · have h := h.1 c22
    refine q_iload_n o dX10_forgets_106 rfl ?_
    refine q_if_eq o 116 dX10_forgets_107 (by decide) (fun c6 => ?_) (fun c6 => ?_)
    · have h := h.1 c6
      refine q_iinc o (y := (a2 + (1 : Int32))) (lv' := [(2, .int (a2 + (1 : Int32))), (0, .ref (gA G 24 0)), (1, .int a1), (3, .int a3), (4, .int a4)]) dX10_forgets_116 rfl rfl (by decide) rfl ?_
      refine q_goto o 2 dX10_forgets_119 (by decide) ?_
      refine q_lv [1, 2, 0] rfl ?_
      exact hK2 a1 (a2 + (1 : Int32)) v h
    · have h := h.2 c6
      refine q_aload_n o dX10_forgets_110 rfl ?_
      refine q_iload_n o dX10_forgets_111 rfl ?_
      refine q_iload_n o dX10_forgets_112 rfl ?_
      refine q_callVv o [.int a1, .int a2] (ad_X10_dropPiece l G a1 a2 v h) gX10_forgets_X10_dropPiece rfl rfl rfl rfl (by decide) ⟨rfl, by decide, by decide, pd_X10_dropPiece⟩ (by decide) (by decide) rfl (Nat.le_of_ble_eq_true rfl) dX10_forgets_113 (fun v4 h => ?_)
      refine q_iinc o (y := (a2 + (1 : Int32))) (lv' := [(2, .int (a2 + (1 : Int32))), (0, .ref (gA G 24 0)), (1, .int a1), (3, .int a3), (4, .int a4)]) dX10_forgets_116 rfl rfl (by decide) rfl ?_
      refine q_goto o 2 dX10_forgets_119 (by decide) ?_
      refine q_lv [1, 2, 0] rfl ?_
      exact hK2 a1 (a2 + (1 : Int32)) v4 h
  · have h := h.2 c22
    refine q_iload_n o dX10_forgets_55 rfl ?_
    refine q_if_ne o 94 dX10_forgets_56 (by decide) (fun c21 => ?_) (fun c21 => ?_)
    · have h := h.1 c21
      refine q_iconst o dX10_forgets_94 (x := (1 : Int32)) (by decide) ?_
      refine q_goto o 99 dX10_forgets_95 (by decide) ?_
      refine q_istore_n o (lv' := [(3, .int (1 : Int32)), (0, .ref (gA G 24 0)), (1, .int a1), (2, .int a2), (4, .int a4)]) dX10_forgets_99 (by decide) rfl ?_
      refine q_iinc o (y := (a4 + (1 : Int32))) (lv' := [(4, .int (a4 + (1 : Int32))), (3, .int (1 : Int32)), (0, .ref (gA G 24 0)), (1, .int a1), (2, .int a2)]) dX10_forgets_100 rfl rfl (by decide) rfl ?_
      refine q_goto o 46 dX10_forgets_103 (by decide) ?_
      refine q_lv [2, 3, 4, 1, 0] rfl ?_
      exact hK46 a1 a2 (1 : Int32) (a4 + (1 : Int32)) v h
    · have h := h.2 c21
      refine q_aload_n o dX10_forgets_59 rfl ?_
      refine q_getR (q := 51) o sf_X10_forgets_54 (by decide) dX10_forgets_60 ?_
      refine q_iload_n o dX10_forgets_63 rfl ?_
      refine q_iload_n o dX10_forgets_64 rfl ?_
      refine q_iload o dX10_forgets_65 rfl ?_
      refine q_callS o [.int a1, .int a2, .int a4] (ad_X10_cell l G a1 a2 a4 v h) gX10_forgets_X10_cell rfl ⟨by decide, by decide, pd_X10_cell⟩ (by decide) (by decide) rfl (Nat.le_of_ble_eq_true rfl) dX10_forgets_67 (fun r8 v7 h => ?_)
      obtain ⟨n9, hn10, hx11, h⟩ := h
      refine q_zald (m := 1151) o rfl rfl (by decide) hn10 hx11 dX10_forgets_70 ?_
      refine q_if_eq o 98 dX10_forgets_71 (by decide) (fun c20 => ?_) (fun c20 => ?_)
      · have h := h.1 c20
        refine q_iconst o dX10_forgets_98 (x := (0 : Int32)) (by decide) ?_
        refine q_istore_n o (lv' := [(3, .int (0 : Int32)), (0, .ref (gA G 24 0)), (1, .int a1), (2, .int a2), (4, .int a4)]) dX10_forgets_99 (by decide) rfl ?_
        refine q_iinc o (y := (a4 + (1 : Int32))) (lv' := [(4, .int (a4 + (1 : Int32))), (3, .int (0 : Int32)), (0, .ref (gA G 24 0)), (1, .int a1), (2, .int a2)]) dX10_forgets_100 rfl rfl (by decide) rfl ?_
        refine q_goto o 46 dX10_forgets_103 (by decide) ?_
        refine q_lv [2, 3, 4, 1, 0] rfl ?_
        exact hK46 a1 a2 (0 : Int32) (a4 + (1 : Int32)) v7 h
      · have h := h.2 c20
        refine q_aload_n o dX10_forgets_74 rfl ?_
        refine q_iload_n o dX10_forgets_75 rfl ?_
        refine q_aload_n o dX10_forgets_76 rfl ?_
        refine q_getR (q := 53) o sf_X10_forgets_60 (by decide) dX10_forgets_77 ?_
        refine q_iload_n o dX10_forgets_80 rfl ?_
        refine q_iload_n o dX10_forgets_81 rfl ?_
        refine q_iload o dX10_forgets_82 rfl ?_
        refine q_callS o [.int a1, .int a2, .int a4] (ad_X10_cell l G a1 a2 a4 v7 h) gX10_forgets_X10_cell rfl ⟨by decide, by decide, pd_X10_cell⟩ (by decide) (by decide) rfl (Nat.le_of_ble_eq_true rfl) dX10_forgets_84 (fun r13 v12 h => ?_)
        obtain ⟨n14, hn15, hx16, h⟩ := h
        refine q_iald (m := 1151) o rfl rfl (by decide) hn15 hx16 dX10_forgets_87 ?_
        refine q_callV o [.int a1, .int (v12 54 0 n14)] (ad_X10_isNear l G a1 (v12 54 0 n14) v12 h) gX10_forgets_X10_isNear rfl rfl rfl rfl (by decide) ⟨rfl, by decide, by decide, pd_X10_isNear⟩ (by decide) (by decide) rfl (Nat.le_of_ble_eq_true rfl) dX10_forgets_88 (fun r18 v17 h => ?_)
        refine q_if_ne o 98 dX10_forgets_91 (by decide) (fun c19 => ?_) (fun c19 => ?_)
        · have h := h.1 c19
          refine q_iconst o dX10_forgets_98 (x := (0 : Int32)) (by decide) ?_
          refine q_istore_n o (lv' := [(3, .int (0 : Int32)), (0, .ref (gA G 24 0)), (1, .int a1), (2, .int a2), (4, .int a4)]) dX10_forgets_99 (by decide) rfl ?_
          refine q_iinc o (y := (a4 + (1 : Int32))) (lv' := [(4, .int (a4 + (1 : Int32))), (3, .int (0 : Int32)), (0, .ref (gA G 24 0)), (1, .int a1), (2, .int a2)]) dX10_forgets_100 rfl rfl (by decide) rfl ?_
          refine q_goto o 46 dX10_forgets_103 (by decide) ?_
          refine q_lv [2, 3, 4, 1, 0] rfl ?_
          exact hK46 a1 a2 (0 : Int32) (a4 + (1 : Int32)) v17 h
        · have h := h.2 c19
          refine q_iconst o dX10_forgets_94 (x := (1 : Int32)) (by decide) ?_
          refine q_goto o 99 dX10_forgets_95 (by decide) ?_
          refine q_istore_n o (lv' := [(3, .int (1 : Int32)), (0, .ref (gA G 24 0)), (1, .int a1), (2, .int a2), (4, .int a4)]) dX10_forgets_99 (by decide) rfl ?_
          refine q_iinc o (y := (a4 + (1 : Int32))) (lv' := [(4, .int (a4 + (1 : Int32))), (3, .int (1 : Int32)), (0, .ref (gA G 24 0)), (1, .int a1), (2, .int a2)]) dX10_forgets_100 rfl rfl (by decide) rfl ?_
          refine q_goto o 46 dX10_forgets_103 (by decide) ?_
          refine q_lv [2, 3, 4, 1, 0] rfl ?_
          exact hK46 a1 a2 (1 : Int32) (a4 + (1 : Int32)) v17 h
def wB_X10_forgets_2 (post : (St3 → Prop)) (K2 : Int32 → Int32 → St3 → Prop) (a1 : Int32) (a2 : Int32) (v : St3) : Prop := (((v 24 0 1) ≤ a2 → post v) ∧ (¬ (v 24 0 1) ≤ a2 → ∃ n1, n1 < 288 ∧ (((24 : Int32) * a1) + a2) = nI n1 ∧ ((¬ (v 50 0 n1) = 0 → K2 a1 (a2 + (1 : Int32)) v) ∧ ((v 50 0 n1) = 0 → ((¬ (v 51 0 n1) = 0 → wL_X10_forgets_46 post K2 FU a1 a2 (0 : Int32) (0 : Int32) v) ∧ ((v 51 0 n1) = 0 → K2 a1 (a2 + (1 : Int32)) v))))))
def wL_X10_forgets_2 (post : (St3 → Prop)) : Nat → Int32 → Int32 → St3 → Prop
  | 0, _, _, _ => False
  | f + 1, a1, a2, v => wB_X10_forgets_2 post (wL_X10_forgets_2 post f) a1 a2 v
set_option maxRecDepth 20000 in
set_option maxHeartbeats 4000000 in
theorem aL_X10_forgets_2 {l : Launch} {G : Geo} {X : CT} (o : OK G X cX10_forgets wsX10_forgets RX10 2 5) {post : (St3 → Prop)} (rt : RV G X post) : ∀ (f : Nat) (a1 : Int32) (a2 : Int32) (v : St3), wL_X10_forgets_2 post f a1 a2 v → J l G X 2 [(0, .ref (gA G 24 0)), (1, .int a1), (2, .int a2)] [] v := by
  intro f
  induction f with
  | zero => intro _ _ _ h; exact False.elim h
  | succ f hK2 =>
  intro a1 a2 v h
  have h : wB_X10_forgets_2 post (wL_X10_forgets_2 post f) a1 a2 v := h
  unfold wB_X10_forgets_2 at h
  refine q_iload_n o dX10_forgets_2 rfl ?_
  refine q_aload_n o dX10_forgets_3 rfl ?_
  refine q_getI o sf_X10_forgets_7 (by decide) dX10_forgets_4 ?_
  refine q_ic_ge o 122 dX10_forgets_7 (by decide) (fun c25 => ?_) (fun c25 => ?_)
  · have h := h.1 c25
    exact q_vret o rt dX10_forgets_122 h
  · have h := h.2 c25
    refine q_aload_n o dX10_forgets_10 rfl ?_
    refine q_getR (q := 49) o sf_X10_forgets_48 (by decide) dX10_forgets_11 ?_
    refine q_bipush o dX10_forgets_14 (x := (24 : Int32)) (by decide) ?_
    refine q_iload_n o dX10_forgets_16 rfl ?_
    refine q_imul o dX10_forgets_17 ?_
    refine q_iload_n o dX10_forgets_18 rfl ?_
    refine q_iadd o dX10_forgets_19 ?_
    obtain ⟨n1, hn2, hx3, h⟩ := h
    refine q_zald (m := 287) o rfl rfl (by decide) hn2 hx3 dX10_forgets_20 ?_
    refine q_if_ne o 116 dX10_forgets_21 (by decide) (fun c24 => ?_) (fun c24 => ?_)
    · have h := h.1 c24
      refine q_iinc o (y := (a2 + (1 : Int32))) (lv' := [(2, .int (a2 + (1 : Int32))), (0, .ref (gA G 24 0)), (1, .int a1)]) dX10_forgets_116 rfl rfl (by decide) rfl ?_
      refine q_goto o 2 dX10_forgets_119 (by decide) ?_
      refine q_lv [1, 2, 0] rfl ?_
      exact hK2 a1 (a2 + (1 : Int32)) v h
    · have h := h.2 c24
      refine q_aload_n o dX10_forgets_24 rfl ?_
      refine q_getR (q := 50) o sf_X10_forgets_51 (by decide) dX10_forgets_25 ?_
      refine q_bipush o dX10_forgets_28 (x := (24 : Int32)) (by decide) ?_
      refine q_iload_n o dX10_forgets_30 rfl ?_
      refine q_imul o dX10_forgets_31 ?_
      refine q_iload_n o dX10_forgets_32 rfl ?_
      refine q_iadd o dX10_forgets_33 ?_
      refine q_zald (m := 287) o rfl rfl (by decide) hn2 hx3 dX10_forgets_34 ?_
      refine q_if_ne o 41 dX10_forgets_35 (by decide) (fun c23 => ?_) (fun c23 => ?_)
      · have h := h.1 c23
        refine q_iconst o dX10_forgets_41 (x := (0 : Int32)) (by decide) ?_
        refine q_istore_n o (lv' := [(3, .int (0 : Int32)), (0, .ref (gA G 24 0)), (1, .int a1), (2, .int a2)]) dX10_forgets_42 (by decide) rfl ?_
        refine q_iconst o dX10_forgets_43 (x := (0 : Int32)) (by decide) ?_
        refine q_istore o (lv' := [(4, .int (0 : Int32)), (3, .int (0 : Int32)), (0, .ref (gA G 24 0)), (1, .int a1), (2, .int a2)]) dX10_forgets_44 (by decide) rfl ?_
        refine q_lv [2, 3, 4, 1, 0] rfl ?_
        exact aL_X10_forgets_46 o rt hK2 FU a1 a2 (0 : Int32) (0 : Int32) v h
      · have h := h.2 c23
        refine q_goto o 116 dX10_forgets_38 (by decide) ?_
        refine q_iinc o (y := (a2 + (1 : Int32))) (lv' := [(2, .int (a2 + (1 : Int32))), (0, .ref (gA G 24 0)), (1, .int a1)]) dX10_forgets_116 rfl rfl (by decide) rfl ?_
        refine q_goto o 2 dX10_forgets_119 (by decide) ?_
        refine q_lv [1, 2, 0] rfl ?_
        exact hK2 a1 (a2 + (1 : Int32)) v h
def wp_X10_forgets (a1 : Int32) (v : St3) (post : (St3 → Prop)) : Prop := wL_X10_forgets_2 post FU a1 (0 : Int32) v
set_option maxRecDepth 20000 in
set_option maxHeartbeats 4000000 in
theorem ad_X10_forgets (l : Launch) (G : Geo) (a1 : Int32) (v : St3) {post : (St3 → Prop)} (h : wp_X10_forgets a1 v post) : CV l G yX10_forgets wsX10_forgets 2 [.ref (gA G 24 0), .int a1] v post := by
  refine CV.of (cc := cX10_forgets) (maxL := 5) (by decide) rfl (Nat.le_of_ble_eq_true rfl) (fun X o rt => ?_)
  unfold wp_X10_forgets at h
  show J l G X 0 [(0, .ref (gA G 24 0)), (1, .int a1)] [] v
  refine q_iconst o dX10_forgets_0 (x := (0 : Int32)) (by decide) ?_
  refine q_istore_n o (lv' := [(2, .int (0 : Int32)), (0, .ref (gA G 24 0)), (1, .int a1)]) dX10_forgets_1 (by decide) rfl ?_
  refine q_lv [1, 2, 0] rfl ?_
  exact aL_X10_forgets_2 o rt FU a1 (0 : Int32) v h
theorem pd_X10_forgets : (parseMethodDescriptor yX10_forgets.desc).map (fun d => d.parameters.length) = some 1 := by decide +kernel
-- PieceSwarmModel.holdsMany(I)I
theorem inn_X10_holdsMany_X10 : ∀ w ∈ wsX100, w ∈ wsX10_holdsMany := by decide +kernel
theorem sf_X10_holdsMany_7 : SF wsX10_holdsMany RX10 7 24 1 0 := ⟨RX10, TX10, 45, rfl, rfl, rfl, rfl, by decide, inn_X10_holdsMany_X10, by decide +kernel⟩
theorem sf_X10_holdsMany_48 : SF wsX10_holdsMany RX10 48 24 20 50 := ⟨RX10, TX10, 45, rfl, rfl, rfl, rfl, by decide, inn_X10_holdsMany_X10, by decide +kernel⟩
def wB_X10_holdsMany_4 (post : (Int32 → St3 → Prop)) (K4 : Int32 → Int32 → Int32 → St3 → Prop) (a1 : Int32) (a2 : Int32) (a3 : Int32) (v : St3) : Prop := (((v 24 0 1) ≤ a3 → post a2 v) ∧ (¬ (v 24 0 1) ≤ a3 → ∃ n1, n1 < 288 ∧ (((24 : Int32) * a1) + a3) = nI n1 ∧ (((v 50 0 n1) = 0 → wp_X10_heldMany a1 a3 v (fun r5 v4 => K4 a1 (a2 + r5) (a3 + (1 : Int32)) v4)) ∧ (¬ (v 50 0 n1) = 0 → K4 a1 (a2 + (0 : Int32)) (a3 + (1 : Int32)) v))))
def wL_X10_holdsMany_4 (post : (Int32 → St3 → Prop)) : Nat → Int32 → Int32 → Int32 → St3 → Prop
  | 0, _, _, _, _ => False
  | f + 1, a1, a2, a3, v => wB_X10_holdsMany_4 post (wL_X10_holdsMany_4 post f) a1 a2 a3 v
set_option maxRecDepth 20000 in
set_option maxHeartbeats 4000000 in
theorem aL_X10_holdsMany_4 {l : Launch} {G : Geo} {X : CT} (o : OK G X cX10_holdsMany wsX10_holdsMany RX10 2 4) {post : (Int32 → St3 → Prop)} (rt : RI G X .int post) : ∀ (f : Nat) (a1 : Int32) (a2 : Int32) (a3 : Int32) (v : St3), wL_X10_holdsMany_4 post f a1 a2 a3 v → J l G X 4 [(0, .ref (gA G 24 0)), (1, .int a1), (2, .int a2), (3, .int a3)] [] v := by
  intro f
  induction f with
  | zero => intro _ _ _ _ h; exact False.elim h
  | succ f hK4 =>
  intro a1 a2 a3 v h
  have h : wB_X10_holdsMany_4 post (wL_X10_holdsMany_4 post f) a1 a2 a3 v := h
  unfold wB_X10_holdsMany_4 at h
  refine q_iload_n o dX10_holdsMany_4 rfl ?_
  refine q_aload_n o dX10_holdsMany_5 rfl ?_
  refine q_getI o sf_X10_holdsMany_7 (by decide) dX10_holdsMany_6 ?_
  refine q_ic_ge o 45 dX10_holdsMany_9 (by decide) (fun c7 => ?_) (fun c7 => ?_)
  · have h := h.1 c7
    refine q_iload_n o dX10_holdsMany_45 rfl ?_
    exact q_iret o rt dX10_holdsMany_46 h
  · have h := h.2 c7
    refine q_iload_n o dX10_holdsMany_12 rfl ?_
    refine q_aload_n o dX10_holdsMany_13 rfl ?_
    refine q_getR (q := 49) o sf_X10_holdsMany_48 (by decide) dX10_holdsMany_14 ?_
    refine q_bipush o dX10_holdsMany_17 (x := (24 : Int32)) (by decide) ?_
    refine q_iload_n o dX10_holdsMany_19 rfl ?_
    refine q_imul o dX10_holdsMany_20 ?_
    refine q_iload_n o dX10_holdsMany_21 rfl ?_
    refine q_iadd o dX10_holdsMany_22 ?_
    obtain ⟨n1, hn2, hx3, h⟩ := h
    refine q_zald (m := 287) o rfl rfl (by decide) hn2 hx3 dX10_holdsMany_23 ?_
    refine q_if_eq o 31 dX10_holdsMany_24 (by decide) (fun c6 => ?_) (fun c6 => ?_)
    · have h := h.1 c6
      refine q_aload_n o dX10_holdsMany_31 rfl ?_
      refine q_iload_n o dX10_holdsMany_32 rfl ?_
      refine q_iload_n o dX10_holdsMany_33 rfl ?_
      refine q_callV o [.int a1, .int a3] (ad_X10_heldMany l G a1 a3 v h) gX10_holdsMany_X10_heldMany rfl rfl rfl rfl (by decide) ⟨rfl, by decide, by decide, pd_X10_heldMany⟩ (by decide) (by decide) rfl (Nat.le_of_ble_eq_true rfl) dX10_holdsMany_34 (fun r5 v4 h => ?_)
      refine q_iadd o dX10_holdsMany_37 ?_
      refine q_istore_n o (lv' := [(2, .int (a2 + r5)), (0, .ref (gA G 24 0)), (1, .int a1), (3, .int a3)]) dX10_holdsMany_38 (by decide) rfl ?_
      refine q_iinc o (y := (a3 + (1 : Int32))) (lv' := [(3, .int (a3 + (1 : Int32))), (2, .int (a2 + r5)), (0, .ref (gA G 24 0)), (1, .int a1)]) dX10_holdsMany_39 rfl rfl (by decide) rfl ?_
      refine q_goto o 4 dX10_holdsMany_42 (by decide) ?_
      refine q_lv [2, 3, 1, 0] rfl ?_
      exact hK4 a1 (a2 + r5) (a3 + (1 : Int32)) v4 h
    · have h := h.2 c6
      refine q_iconst o dX10_holdsMany_27 (x := (0 : Int32)) (by decide) ?_
      refine q_goto o 37 dX10_holdsMany_28 (by decide) ?_
      refine q_iadd o dX10_holdsMany_37 ?_
      refine q_istore_n o (lv' := [(2, .int (a2 + (0 : Int32))), (0, .ref (gA G 24 0)), (1, .int a1), (3, .int a3)]) dX10_holdsMany_38 (by decide) rfl ?_
      refine q_iinc o (y := (a3 + (1 : Int32))) (lv' := [(3, .int (a3 + (1 : Int32))), (2, .int (a2 + (0 : Int32))), (0, .ref (gA G 24 0)), (1, .int a1)]) dX10_holdsMany_39 rfl rfl (by decide) rfl ?_
      refine q_goto o 4 dX10_holdsMany_42 (by decide) ?_
      refine q_lv [2, 3, 1, 0] rfl ?_
      exact hK4 a1 (a2 + (0 : Int32)) (a3 + (1 : Int32)) v h
def wp_X10_holdsMany (a1 : Int32) (v : St3) (post : (Int32 → St3 → Prop)) : Prop := wL_X10_holdsMany_4 post FU a1 (0 : Int32) (0 : Int32) v
set_option maxRecDepth 20000 in
set_option maxHeartbeats 4000000 in
theorem ad_X10_holdsMany (l : Launch) (G : Geo) (a1 : Int32) (v : St3) {post : (Int32 → St3 → Prop)} (h : wp_X10_holdsMany a1 v post) : CI l G yX10_holdsMany wsX10_holdsMany 2 [.ref (gA G 24 0), .int a1] v post := by
  refine CI.of (ty := .int) (cc := cX10_holdsMany) (maxL := 4) (by decide) rfl (Nat.le_of_ble_eq_true rfl) (fun X o rt => ?_)
  unfold wp_X10_holdsMany at h
  show J l G X 0 [(0, .ref (gA G 24 0)), (1, .int a1)] [] v
  refine q_iconst o dX10_holdsMany_0 (x := (0 : Int32)) (by decide) ?_
  refine q_istore_n o (lv' := [(2, .int (0 : Int32)), (0, .ref (gA G 24 0)), (1, .int a1)]) dX10_holdsMany_1 (by decide) rfl ?_
  refine q_iconst o dX10_holdsMany_2 (x := (0 : Int32)) (by decide) ?_
  refine q_istore_n o (lv' := [(3, .int (0 : Int32)), (2, .int (0 : Int32)), (0, .ref (gA G 24 0)), (1, .int a1)]) dX10_holdsMany_3 (by decide) rfl ?_
  refine q_lv [2, 3, 1, 0] rfl ?_
  exact aL_X10_holdsMany_4 o rt FU a1 (0 : Int32) (0 : Int32) v h
theorem pd_X10_holdsMany : (parseMethodDescriptor yX10_holdsMany.desc).map (fun d => d.parameters.length) = some 1 := by decide +kernel
-- PieceSwarmModel.isOpenTo(II)Z
theorem inn_X10_isOpenTo_X10 : ∀ w ∈ wsX100, w ∈ wsX10_isOpenTo := by decide +kernel
theorem sf_X10_isOpenTo_66 : SF wsX10_isOpenTo RX10 66 24 26 56 := ⟨RX10, TX10, 45, rfl, rfl, rfl, rfl, by decide, inn_X10_isOpenTo_X10, by decide +kernel⟩
def wp_X10_isOpenTo (a1 : Int32) (a2 : Int32) (v : St3) (post : (Int32 → St3 → Prop)) : Prop := ((a1 = a2 → post (0 : Int32) v) ∧ (¬ a1 = a2 → wp_X10_two a1 a2 v (fun r2 v1 => ∃ n3, n3 < 144 ∧ r2 = nI n3 ∧ (((v1 56 0 n3) = 0 → post (0 : Int32) v1) ∧ (¬ (v1 56 0 n3) = 0 → wp_X10_isNear a1 a2 v1 (fun r7 v6 => ((r7 = 0 → post (0 : Int32) v6) ∧ (¬ r7 = 0 → post (1 : Int32) v6))))))))
set_option maxRecDepth 20000 in
set_option maxHeartbeats 4000000 in
theorem ad_X10_isOpenTo (l : Launch) (G : Geo) (a1 : Int32) (a2 : Int32) (v : St3) {post : (Int32 → St3 → Prop)} (h : wp_X10_isOpenTo a1 a2 v post) : CI l G yX10_isOpenTo wsX10_isOpenTo 2 [.ref (gA G 24 0), .int a1, .int a2] v post := by
  refine CI.of (ty := .boolean) (cc := cX10_isOpenTo) (maxL := 3) (by decide) rfl (Nat.le_of_ble_eq_true rfl) (fun X o rt => ?_)
  unfold wp_X10_isOpenTo at h
  show J l G X 0 [(0, .ref (gA G 24 0)), (1, .int a1), (2, .int a2)] [] v
  refine q_iload_n o dX10_isOpenTo_0 rfl ?_
  refine q_iload_n o dX10_isOpenTo_1 rfl ?_
  refine q_ic_eq o 31 dX10_isOpenTo_2 (by decide) (fun c10 => ?_) (fun c10 => ?_)
  · have h := h.1 c10
    refine q_iconst o dX10_isOpenTo_31 (x := (0 : Int32)) (by decide) ?_
    exact q_zret o rt dX10_isOpenTo_32 (by decide) h
  · have h := h.2 c10
    refine q_aload_n o dX10_isOpenTo_5 rfl ?_
    refine q_getR (q := 55) o sf_X10_isOpenTo_66 (by decide) dX10_isOpenTo_6 ?_
    refine q_iload_n o dX10_isOpenTo_9 rfl ?_
    refine q_iload_n o dX10_isOpenTo_10 rfl ?_
    refine q_callS o [.int a1, .int a2] (ad_X10_two l G a1 a2 v h) gX10_isOpenTo_X10_two rfl ⟨by decide, by decide, pd_X10_two⟩ (by decide) (by decide) rfl (Nat.le_of_ble_eq_true rfl) dX10_isOpenTo_11 (fun r2 v1 h => ?_)
    obtain ⟨n3, hn4, hx5, h⟩ := h
    refine q_zald (m := 143) o rfl rfl (by decide) hn4 hx5 dX10_isOpenTo_14 ?_
    refine q_if_eq o 31 dX10_isOpenTo_15 (by decide) (fun c9 => ?_) (fun c9 => ?_)
    · have h := h.1 c9
      refine q_iconst o dX10_isOpenTo_31 (x := (0 : Int32)) (by decide) ?_
      exact q_zret o rt dX10_isOpenTo_32 (by decide) h
    · have h := h.2 c9
      refine q_aload_n o dX10_isOpenTo_18 rfl ?_
      refine q_iload_n o dX10_isOpenTo_19 rfl ?_
      refine q_iload_n o dX10_isOpenTo_20 rfl ?_
      refine q_callV o [.int a1, .int a2] (ad_X10_isNear l G a1 a2 v1 h) gX10_isOpenTo_X10_isNear rfl rfl rfl rfl (by decide) ⟨rfl, by decide, by decide, pd_X10_isNear⟩ (by decide) (by decide) rfl (Nat.le_of_ble_eq_true rfl) dX10_isOpenTo_21 (fun r7 v6 h => ?_)
      refine q_if_eq o 31 dX10_isOpenTo_24 (by decide) (fun c8 => ?_) (fun c8 => ?_)
      · have h := h.1 c8
        refine q_iconst o dX10_isOpenTo_31 (x := (0 : Int32)) (by decide) ?_
        exact q_zret o rt dX10_isOpenTo_32 (by decide) h
      · have h := h.2 c8
        refine q_iconst o dX10_isOpenTo_27 (x := (1 : Int32)) (by decide) ?_
        refine q_goto o 32 dX10_isOpenTo_28 (by decide) ?_
        exact q_zret o rt dX10_isOpenTo_32 (by decide) h
theorem pd_X10_isOpenTo : (parseMethodDescriptor yX10_isOpenTo.desc).map (fun d => d.parameters.length) = some 2 := by decide +kernel
-- PieceSwarmModel.openTo(I)I
theorem inn_X10_openTo_X10 : ∀ w ∈ wsX100, w ∈ wsX10_openTo := by decide +kernel
theorem sf_X10_openTo_136 : SF wsX10_openTo RX10 136 24 4 0 := ⟨RX10, TX10, 45, rfl, rfl, rfl, rfl, by decide, inn_X10_openTo_X10, by decide +kernel⟩
def wB_X10_openTo_4 (post : (Int32 → St3 → Prop)) (K4 : Int32 → Int32 → Int32 → St3 → Prop) (a1 : Int32) (a2 : Int32) (a3 : Int32) (v : St3) : Prop := (((v 24 0 4) ≤ a3 → post a2 v) ∧ (¬ (v 24 0 4) ≤ a3 → wp_X10_isOpenTo a1 a3 v (fun r2 v1 => ((r2 = 0 → K4 a1 (a2 + (0 : Int32)) (a3 + (1 : Int32)) v1) ∧ (¬ r2 = 0 → K4 a1 (a2 + (1 : Int32)) (a3 + (1 : Int32)) v1)))))
def wL_X10_openTo_4 (post : (Int32 → St3 → Prop)) : Nat → Int32 → Int32 → Int32 → St3 → Prop
  | 0, _, _, _, _ => False
  | f + 1, a1, a2, a3, v => wB_X10_openTo_4 post (wL_X10_openTo_4 post f) a1 a2 a3 v
set_option maxRecDepth 20000 in
set_option maxHeartbeats 4000000 in
theorem aL_X10_openTo_4 {l : Launch} {G : Geo} {X : CT} (o : OK G X cX10_openTo wsX10_openTo RX10 3 4) {post : (Int32 → St3 → Prop)} (rt : RI G X .int post) : ∀ (f : Nat) (a1 : Int32) (a2 : Int32) (a3 : Int32) (v : St3), wL_X10_openTo_4 post f a1 a2 a3 v → J l G X 4 [(0, .ref (gA G 24 0)), (1, .int a1), (2, .int a2), (3, .int a3)] [] v := by
  intro f
  induction f with
  | zero => intro _ _ _ _ h; exact False.elim h
  | succ f hK4 =>
  intro a1 a2 a3 v h
  have h : wB_X10_openTo_4 post (wL_X10_openTo_4 post f) a1 a2 a3 v := h
  unfold wB_X10_openTo_4 at h
  refine q_iload_n o dX10_openTo_4 rfl ?_
  refine q_aload_n o dX10_openTo_5 rfl ?_
  refine q_getI o sf_X10_openTo_136 (by decide) dX10_openTo_6 ?_
  refine q_ic_ge o 35 dX10_openTo_9 (by decide) (fun c4 => ?_) (fun c4 => ?_)
  · have h := h.1 c4
    refine q_iload_n o dX10_openTo_35 rfl ?_
    exact q_iret o rt dX10_openTo_36 h
  · have h := h.2 c4
    refine q_iload_n o dX10_openTo_12 rfl ?_
    refine q_aload_n o dX10_openTo_13 rfl ?_
    refine q_iload_n o dX10_openTo_14 rfl ?_
    refine q_iload_n o dX10_openTo_15 rfl ?_
    refine q_callV o [.int a1, .int a3] (ad_X10_isOpenTo l G a1 a3 v h) gX10_openTo_X10_isOpenTo rfl rfl rfl rfl (by decide) ⟨rfl, by decide, by decide, pd_X10_isOpenTo⟩ (by decide) (by decide) rfl (Nat.le_of_ble_eq_true rfl) dX10_openTo_16 (fun r2 v1 h => ?_)
    refine q_if_eq o 26 dX10_openTo_19 (by decide) (fun c3 => ?_) (fun c3 => ?_)
    · have h := h.1 c3
      refine q_iconst o dX10_openTo_26 (x := (0 : Int32)) (by decide) ?_
      refine q_iadd o dX10_openTo_27 ?_
      refine q_istore_n o (lv' := [(2, .int (a2 + (0 : Int32))), (0, .ref (gA G 24 0)), (1, .int a1), (3, .int a3)]) dX10_openTo_28 (by decide) rfl ?_
      refine q_iinc o (y := (a3 + (1 : Int32))) (lv' := [(3, .int (a3 + (1 : Int32))), (2, .int (a2 + (0 : Int32))), (0, .ref (gA G 24 0)), (1, .int a1)]) dX10_openTo_29 rfl rfl (by decide) rfl ?_
      refine q_goto o 4 dX10_openTo_32 (by decide) ?_
      refine q_lv [2, 3, 1, 0] rfl ?_
      exact hK4 a1 (a2 + (0 : Int32)) (a3 + (1 : Int32)) v1 h
    · have h := h.2 c3
      refine q_iconst o dX10_openTo_22 (x := (1 : Int32)) (by decide) ?_
      refine q_goto o 27 dX10_openTo_23 (by decide) ?_
      refine q_iadd o dX10_openTo_27 ?_
      refine q_istore_n o (lv' := [(2, .int (a2 + (1 : Int32))), (0, .ref (gA G 24 0)), (1, .int a1), (3, .int a3)]) dX10_openTo_28 (by decide) rfl ?_
      refine q_iinc o (y := (a3 + (1 : Int32))) (lv' := [(3, .int (a3 + (1 : Int32))), (2, .int (a2 + (1 : Int32))), (0, .ref (gA G 24 0)), (1, .int a1)]) dX10_openTo_29 rfl rfl (by decide) rfl ?_
      refine q_goto o 4 dX10_openTo_32 (by decide) ?_
      refine q_lv [2, 3, 1, 0] rfl ?_
      exact hK4 a1 (a2 + (1 : Int32)) (a3 + (1 : Int32)) v1 h
def wp_X10_openTo (a1 : Int32) (v : St3) (post : (Int32 → St3 → Prop)) : Prop := wL_X10_openTo_4 post FU a1 (0 : Int32) (0 : Int32) v
set_option maxRecDepth 20000 in
set_option maxHeartbeats 4000000 in
theorem ad_X10_openTo (l : Launch) (G : Geo) (a1 : Int32) (v : St3) {post : (Int32 → St3 → Prop)} (h : wp_X10_openTo a1 v post) : CI l G yX10_openTo wsX10_openTo 3 [.ref (gA G 24 0), .int a1] v post := by
  refine CI.of (ty := .int) (cc := cX10_openTo) (maxL := 4) (by decide) rfl (Nat.le_of_ble_eq_true rfl) (fun X o rt => ?_)
  unfold wp_X10_openTo at h
  show J l G X 0 [(0, .ref (gA G 24 0)), (1, .int a1)] [] v
  refine q_iconst o dX10_openTo_0 (x := (0 : Int32)) (by decide) ?_
  refine q_istore_n o (lv' := [(2, .int (0 : Int32)), (0, .ref (gA G 24 0)), (1, .int a1)]) dX10_openTo_1 (by decide) rfl ?_
  refine q_iconst o dX10_openTo_2 (x := (0 : Int32)) (by decide) ?_
  refine q_istore_n o (lv' := [(3, .int (0 : Int32)), (2, .int (0 : Int32)), (0, .ref (gA G 24 0)), (1, .int a1)]) dX10_openTo_3 (by decide) rfl ?_
  refine q_lv [2, 3, 1, 0] rfl ?_
  exact aL_X10_openTo_4 o rt FU a1 (0 : Int32) (0 : Int32) v h
theorem pd_X10_openTo : (parseMethodDescriptor yX10_openTo.desc).map (fun d => d.parameters.length) = some 1 := by decide +kernel
-- PieceSwarmModel.held(II)I
theorem inn_X10_held_X10 : ∀ w ∈ wsX100, w ∈ wsX10_held := by decide +kernel
theorem sp_X10_held_120 : SP wsX10_held RX10 120 24 0 := ⟨RX10, TX10, 45, tyX10, rfl, rfl, rfl, rfl, by decide, inn_X10_held_X10, by decide +kernel, tyX10_ok, nmX10, rfl, by decide +kernel⟩
def wp_X10_held (a1 : Int32) (a2 : Int32) (v : St3) (post : (Int32 → St3 → Prop)) : Prop := ∀ v1, v1 = up3 v 24 0 0 (0 : Int32) → wp_X10_isPeer a1 v1 (fun r4 v3 => ((r4 = 0 → post (-1 : Int32) v3) ∧ (¬ r4 = 0 → wp_X10_isBlock a2 (0 : Int32) v3 (fun r6 v5 => ((r6 = 0 → post (-1 : Int32) v5) ∧ (¬ r6 = 0 → wp_X10_heldMany a1 a2 v5 (fun r8 v7 => post r8 v7)))))))
set_option maxRecDepth 20000 in
set_option maxHeartbeats 4000000 in
theorem ad_X10_held (l : Launch) (G : Geo) (a1 : Int32) (a2 : Int32) (v : St3) {post : (Int32 → St3 → Prop)} (h : wp_X10_held a1 a2 v post) : CI l G yX10_held wsX10_held 2 [.ref (gA G 24 0), .int a1, .int a2] v post := by
  refine CI.of (ty := .int) (cc := cX10_held) (maxL := 3) (by decide) rfl (Nat.le_of_ble_eq_true rfl) (fun X o rt => ?_)
  unfold wp_X10_held at h
  show J l G X 0 [(0, .ref (gA G 24 0)), (1, .int a1), (2, .int a2)] [] v
  refine q_aload_n o dX10_held_0 rfl ?_
  refine q_iconst o dX10_held_1 (x := (0 : Int32)) (by decide) ?_
  refine q_putI o sp_X10_held_120 (by decide) dX10_held_2 (fun v1 e2 => ?_)
  have h := h v1 e2
  refine q_aload_n o dX10_held_5 rfl ?_
  refine q_iload_n o dX10_held_6 rfl ?_
  refine q_callV o [.int a1] (ad_X10_isPeer l G a1 v1 h) gX10_held_X10_isPeer rfl rfl rfl rfl (by decide) ⟨rfl, by decide, by decide, pd_X10_isPeer⟩ (by decide) (by decide) rfl (Nat.le_of_ble_eq_true rfl) dX10_held_7 (fun r4 v3 h => ?_)
  refine q_if_eq o 31 dX10_held_10 (by decide) (fun c10 => ?_) (fun c10 => ?_)
  · have h := h.1 c10
    refine q_iconst o dX10_held_31 (x := (-1 : Int32)) (by decide) ?_
    exact q_iret o rt dX10_held_32 h
  · have h := h.2 c10
    refine q_aload_n o dX10_held_13 rfl ?_
    refine q_iload_n o dX10_held_14 rfl ?_
    refine q_iconst o dX10_held_15 (x := (0 : Int32)) (by decide) ?_
    refine q_callV o [.int a2, .int (0 : Int32)] (ad_X10_isBlock l G a2 (0 : Int32) v3 h) gX10_held_X10_isBlock rfl rfl rfl rfl (by decide) ⟨rfl, by decide, by decide, pd_X10_isBlock⟩ (by decide) (by decide) rfl (Nat.le_of_ble_eq_true rfl) dX10_held_16 (fun r6 v5 h => ?_)
    refine q_if_eq o 31 dX10_held_19 (by decide) (fun c9 => ?_) (fun c9 => ?_)
    · have h := h.1 c9
      refine q_iconst o dX10_held_31 (x := (-1 : Int32)) (by decide) ?_
      exact q_iret o rt dX10_held_32 h
    · have h := h.2 c9
      refine q_aload_n o dX10_held_22 rfl ?_
      refine q_iload_n o dX10_held_23 rfl ?_
      refine q_iload_n o dX10_held_24 rfl ?_
      refine q_callV o [.int a1, .int a2] (ad_X10_heldMany l G a1 a2 v5 h) gX10_held_X10_heldMany rfl rfl rfl rfl (by decide) ⟨rfl, by decide, by decide, pd_X10_heldMany⟩ (by decide) (by decide) rfl (Nat.le_of_ble_eq_true rfl) dX10_held_25 (fun r8 v7 h => ?_)
      refine q_goto o 32 dX10_held_28 (by decide) ?_
      exact q_iret o rt dX10_held_32 h
theorem pd_X10_held : (parseMethodDescriptor yX10_held.desc).map (fun d => d.parameters.length) = some 2 := by decide +kernel
-- PieceSwarmModel.from(III)I
theorem inn_X10_from_X10 : ∀ w ∈ wsX100, w ∈ wsX10_from := by decide +kernel
theorem sp_X10_from_120 : SP wsX10_from RX10 120 24 0 := ⟨RX10, TX10, 45, tyX10, rfl, rfl, rfl, rfl, by decide, inn_X10_from_X10, by decide +kernel, tyX10_ok, nmX10, rfl, by decide +kernel⟩
theorem sf_X10_from_54 : SF wsX10_from RX10 54 24 22 52 := ⟨RX10, TX10, 45, rfl, rfl, rfl, rfl, by decide, inn_X10_from_X10, by decide +kernel⟩
theorem sf_X10_from_60 : SF wsX10_from RX10 60 24 24 54 := ⟨RX10, TX10, 45, rfl, rfl, rfl, rfl, by decide, inn_X10_from_X10, by decide +kernel⟩
def wp_X10_from (a1 : Int32) (a2 : Int32) (a3 : Int32) (v : St3) (post : (Int32 → St3 → Prop)) : Prop := ∀ v1, v1 = up3 v 24 0 0 (0 : Int32) → wp_X10_isPeer a1 v1 (fun r4 v3 => ((r4 = 0 → post (-1 : Int32) v3) ∧ (¬ r4 = 0 → wp_X10_isBlock a2 a3 v3 (fun r6 v5 => ((r6 = 0 → post (-1 : Int32) v5) ∧ (¬ r6 = 0 → wp_X10_cell a1 a2 a3 v5 (fun r8 v7 => ∃ n9, n9 < 1152 ∧ r8 = nI n9 ∧ (((v7 52 0 n9) = 0 → post (-1 : Int32) v7) ∧ (¬ (v7 52 0 n9) = 0 → wp_X10_cell a1 a2 a3 v7 (fun r13 v12 => ∃ n14, n14 < 1152 ∧ r13 = nI n14 ∧ post (v12 54 0 n14) v12))))))))))
set_option maxRecDepth 20000 in
set_option maxHeartbeats 4000000 in
theorem ad_X10_from (l : Launch) (G : Geo) (a1 : Int32) (a2 : Int32) (a3 : Int32) (v : St3) {post : (Int32 → St3 → Prop)} (h : wp_X10_from a1 a2 a3 v post) : CI l G yX10_from wsX10_from 2 [.ref (gA G 24 0), .int a1, .int a2, .int a3] v post := by
  refine CI.of (ty := .int) (cc := cX10_from) (maxL := 4) (by decide) rfl (Nat.le_of_ble_eq_true rfl) (fun X o rt => ?_)
  unfold wp_X10_from at h
  show J l G X 0 [(0, .ref (gA G 24 0)), (1, .int a1), (2, .int a2), (3, .int a3)] [] v
  refine q_aload_n o dX10_from_0 rfl ?_
  refine q_iconst o dX10_from_1 (x := (0 : Int32)) (by decide) ?_
  refine q_putI o sp_X10_from_120 (by decide) dX10_from_2 (fun v1 e2 => ?_)
  have h := h v1 e2
  refine q_aload_n o dX10_from_5 rfl ?_
  refine q_iload_n o dX10_from_6 rfl ?_
  refine q_callV o [.int a1] (ad_X10_isPeer l G a1 v1 h) gX10_from_X10_isPeer rfl rfl rfl rfl (by decide) ⟨rfl, by decide, by decide, pd_X10_isPeer⟩ (by decide) (by decide) rfl (Nat.le_of_ble_eq_true rfl) dX10_from_7 (fun r4 v3 h => ?_)
  refine q_if_eq o 50 dX10_from_10 (by decide) (fun c19 => ?_) (fun c19 => ?_)
  · have h := h.1 c19
    refine q_iconst o dX10_from_50 (x := (-1 : Int32)) (by decide) ?_
    exact q_iret o rt dX10_from_51 h
  · have h := h.2 c19
    refine q_aload_n o dX10_from_13 rfl ?_
    refine q_iload_n o dX10_from_14 rfl ?_
    refine q_iload_n o dX10_from_15 rfl ?_
    refine q_callV o [.int a2, .int a3] (ad_X10_isBlock l G a2 a3 v3 h) gX10_from_X10_isBlock rfl rfl rfl rfl (by decide) ⟨rfl, by decide, by decide, pd_X10_isBlock⟩ (by decide) (by decide) rfl (Nat.le_of_ble_eq_true rfl) dX10_from_16 (fun r6 v5 h => ?_)
    refine q_if_eq o 50 dX10_from_19 (by decide) (fun c18 => ?_) (fun c18 => ?_)
    · have h := h.1 c18
      refine q_iconst o dX10_from_50 (x := (-1 : Int32)) (by decide) ?_
      exact q_iret o rt dX10_from_51 h
    · have h := h.2 c18
      refine q_aload_n o dX10_from_22 rfl ?_
      refine q_getR (q := 51) o sf_X10_from_54 (by decide) dX10_from_23 ?_
      refine q_iload_n o dX10_from_26 rfl ?_
      refine q_iload_n o dX10_from_27 rfl ?_
      refine q_iload_n o dX10_from_28 rfl ?_
      refine q_callS o [.int a1, .int a2, .int a3] (ad_X10_cell l G a1 a2 a3 v5 h) gX10_from_X10_cell rfl ⟨by decide, by decide, pd_X10_cell⟩ (by decide) (by decide) rfl (Nat.le_of_ble_eq_true rfl) dX10_from_29 (fun r8 v7 h => ?_)
      obtain ⟨n9, hn10, hx11, h⟩ := h
      refine q_zald (m := 1151) o rfl rfl (by decide) hn10 hx11 dX10_from_32 ?_
      refine q_if_eq o 50 dX10_from_33 (by decide) (fun c17 => ?_) (fun c17 => ?_)
      · have h := h.1 c17
        refine q_iconst o dX10_from_50 (x := (-1 : Int32)) (by decide) ?_
        exact q_iret o rt dX10_from_51 h
      · have h := h.2 c17
        refine q_aload_n o dX10_from_36 rfl ?_
        refine q_getR (q := 53) o sf_X10_from_60 (by decide) dX10_from_37 ?_
        refine q_iload_n o dX10_from_40 rfl ?_
        refine q_iload_n o dX10_from_41 rfl ?_
        refine q_iload_n o dX10_from_42 rfl ?_
        refine q_callS o [.int a1, .int a2, .int a3] (ad_X10_cell l G a1 a2 a3 v7 h) gX10_from_X10_cell rfl ⟨by decide, by decide, pd_X10_cell⟩ (by decide) (by decide) rfl (Nat.le_of_ble_eq_true rfl) dX10_from_43 (fun r13 v12 h => ?_)
        obtain ⟨n14, hn15, hx16, h⟩ := h
        refine q_iald (m := 1151) o rfl rfl (by decide) hn15 hx16 dX10_from_46 ?_
        refine q_goto o 51 dX10_from_47 (by decide) ?_
        exact q_iret o rt dX10_from_51 h
theorem pd_X10_from : (parseMethodDescriptor yX10_from.desc).map (fun d => d.parameters.length) = some 3 := by decide +kernel
-- PieceSwarmModel.got(III)I
theorem inn_X10_got_X10 : ∀ w ∈ wsX100, w ∈ wsX10_got := by decide +kernel
theorem sp_X10_got_120 : SP wsX10_got RX10 120 24 0 := ⟨RX10, TX10, 45, tyX10, rfl, rfl, rfl, rfl, by decide, inn_X10_got_X10, by decide +kernel, tyX10_ok, nmX10, rfl, by decide +kernel⟩
theorem sf_X10_got_54 : SF wsX10_got RX10 54 24 22 52 := ⟨RX10, TX10, 45, rfl, rfl, rfl, rfl, by decide, inn_X10_got_X10, by decide +kernel⟩
theorem sf_X10_got_57 : SF wsX10_got RX10 57 24 23 53 := ⟨RX10, TX10, 45, rfl, rfl, rfl, rfl, by decide, inn_X10_got_X10, by decide +kernel⟩
def wp_X10_got (a1 : Int32) (a2 : Int32) (a3 : Int32) (v : St3) (post : (Int32 → St3 → Prop)) : Prop := ∀ v1, v1 = up3 v 24 0 0 (0 : Int32) → wp_X10_isPeer a1 v1 (fun r4 v3 => ((r4 = 0 → post (0 : Int32) v3) ∧ (¬ r4 = 0 → wp_X10_isBlock a2 a3 v3 (fun r6 v5 => ((r6 = 0 → post (0 : Int32) v5) ∧ (¬ r6 = 0 → wp_X10_cell a1 a2 a3 v5 (fun r8 v7 => ∃ n9, n9 < 1152 ∧ r8 = nI n9 ∧ (((v7 52 0 n9) = 0 → post (0 : Int32) v7) ∧ (¬ (v7 52 0 n9) = 0 → wp_X10_cell a1 a2 a3 v7 (fun r13 v12 => ∃ n14, n14 < 1152 ∧ r13 = nI n14 ∧ post (v12 53 0 n14) v12))))))))))
set_option maxRecDepth 20000 in
set_option maxHeartbeats 4000000 in
theorem ad_X10_got (l : Launch) (G : Geo) (a1 : Int32) (a2 : Int32) (a3 : Int32) (v : St3) {post : (Int32 → St3 → Prop)} (h : wp_X10_got a1 a2 a3 v post) : CI l G yX10_got wsX10_got 2 [.ref (gA G 24 0), .int a1, .int a2, .int a3] v post := by
  refine CI.of (ty := .int) (cc := cX10_got) (maxL := 4) (by decide) rfl (Nat.le_of_ble_eq_true rfl) (fun X o rt => ?_)
  unfold wp_X10_got at h
  show J l G X 0 [(0, .ref (gA G 24 0)), (1, .int a1), (2, .int a2), (3, .int a3)] [] v
  refine q_aload_n o dX10_got_0 rfl ?_
  refine q_iconst o dX10_got_1 (x := (0 : Int32)) (by decide) ?_
  refine q_putI o sp_X10_got_120 (by decide) dX10_got_2 (fun v1 e2 => ?_)
  have h := h v1 e2
  refine q_aload_n o dX10_got_5 rfl ?_
  refine q_iload_n o dX10_got_6 rfl ?_
  refine q_callV o [.int a1] (ad_X10_isPeer l G a1 v1 h) gX10_got_X10_isPeer rfl rfl rfl rfl (by decide) ⟨rfl, by decide, by decide, pd_X10_isPeer⟩ (by decide) (by decide) rfl (Nat.le_of_ble_eq_true rfl) dX10_got_7 (fun r4 v3 h => ?_)
  refine q_if_eq o 50 dX10_got_10 (by decide) (fun c19 => ?_) (fun c19 => ?_)
  · have h := h.1 c19
    refine q_iconst o dX10_got_50 (x := (0 : Int32)) (by decide) ?_
    exact q_iret o rt dX10_got_51 h
  · have h := h.2 c19
    refine q_aload_n o dX10_got_13 rfl ?_
    refine q_iload_n o dX10_got_14 rfl ?_
    refine q_iload_n o dX10_got_15 rfl ?_
    refine q_callV o [.int a2, .int a3] (ad_X10_isBlock l G a2 a3 v3 h) gX10_got_X10_isBlock rfl rfl rfl rfl (by decide) ⟨rfl, by decide, by decide, pd_X10_isBlock⟩ (by decide) (by decide) rfl (Nat.le_of_ble_eq_true rfl) dX10_got_16 (fun r6 v5 h => ?_)
    refine q_if_eq o 50 dX10_got_19 (by decide) (fun c18 => ?_) (fun c18 => ?_)
    · have h := h.1 c18
      refine q_iconst o dX10_got_50 (x := (0 : Int32)) (by decide) ?_
      exact q_iret o rt dX10_got_51 h
    · have h := h.2 c18
      refine q_aload_n o dX10_got_22 rfl ?_
      refine q_getR (q := 51) o sf_X10_got_54 (by decide) dX10_got_23 ?_
      refine q_iload_n o dX10_got_26 rfl ?_
      refine q_iload_n o dX10_got_27 rfl ?_
      refine q_iload_n o dX10_got_28 rfl ?_
      refine q_callS o [.int a1, .int a2, .int a3] (ad_X10_cell l G a1 a2 a3 v5 h) gX10_got_X10_cell rfl ⟨by decide, by decide, pd_X10_cell⟩ (by decide) (by decide) rfl (Nat.le_of_ble_eq_true rfl) dX10_got_29 (fun r8 v7 h => ?_)
      obtain ⟨n9, hn10, hx11, h⟩ := h
      refine q_zald (m := 1151) o rfl rfl (by decide) hn10 hx11 dX10_got_32 ?_
      refine q_if_eq o 50 dX10_got_33 (by decide) (fun c17 => ?_) (fun c17 => ?_)
      · have h := h.1 c17
        refine q_iconst o dX10_got_50 (x := (0 : Int32)) (by decide) ?_
        exact q_iret o rt dX10_got_51 h
      · have h := h.2 c17
        refine q_aload_n o dX10_got_36 rfl ?_
        refine q_getR (q := 52) o sf_X10_got_57 (by decide) dX10_got_37 ?_
        refine q_iload_n o dX10_got_40 rfl ?_
        refine q_iload_n o dX10_got_41 rfl ?_
        refine q_iload_n o dX10_got_42 rfl ?_
        refine q_callS o [.int a1, .int a2, .int a3] (ad_X10_cell l G a1 a2 a3 v7 h) gX10_got_X10_cell rfl ⟨by decide, by decide, pd_X10_cell⟩ (by decide) (by decide) rfl (Nat.le_of_ble_eq_true rfl) dX10_got_43 (fun r13 v12 h => ?_)
        obtain ⟨n14, hn15, hx16, h⟩ := h
        refine q_iald (m := 1151) o rfl rfl (by decide) hn15 hx16 dX10_got_46 ?_
        refine q_goto o 51 dX10_got_47 (by decide) ?_
        exact q_iret o rt dX10_got_51 h
theorem pd_X10_got : (parseMethodDescriptor yX10_got.desc).map (fun d => d.parameters.length) = some 3 := by decide +kernel
-- PieceSwarmModel.rare(II)I
theorem inn_X10_rare_X10 : ∀ w ∈ wsX100, w ∈ wsX10_rare := by decide +kernel
theorem sp_X10_rare_120 : SP wsX10_rare RX10 120 24 0 := ⟨RX10, TX10, 45, tyX10, rfl, rfl, rfl, rfl, by decide, inn_X10_rare_X10, by decide +kernel, tyX10_ok, nmX10, rfl, by decide +kernel⟩
def wp_X10_rare (a1 : Int32) (a2 : Int32) (v : St3) (post : (Int32 → St3 → Prop)) : Prop := ∀ v1, v1 = up3 v 24 0 0 (0 : Int32) → wp_X10_isPeer a1 v1 (fun r4 v3 => ((r4 = 0 → post (-1 : Int32) v3) ∧ (¬ r4 = 0 → wp_X10_isBlock a2 (0 : Int32) v3 (fun r6 v5 => ((r6 = 0 → post (-1 : Int32) v5) ∧ (¬ r6 = 0 → wp_X10_tellers a1 a2 v5 (fun r8 v7 => post r8 v7)))))))
set_option maxRecDepth 20000 in
set_option maxHeartbeats 4000000 in
theorem ad_X10_rare (l : Launch) (G : Geo) (a1 : Int32) (a2 : Int32) (v : St3) {post : (Int32 → St3 → Prop)} (h : wp_X10_rare a1 a2 v post) : CI l G yX10_rare wsX10_rare 3 [.ref (gA G 24 0), .int a1, .int a2] v post := by
  refine CI.of (ty := .int) (cc := cX10_rare) (maxL := 3) (by decide) rfl (Nat.le_of_ble_eq_true rfl) (fun X o rt => ?_)
  unfold wp_X10_rare at h
  show J l G X 0 [(0, .ref (gA G 24 0)), (1, .int a1), (2, .int a2)] [] v
  refine q_aload_n o dX10_rare_0 rfl ?_
  refine q_iconst o dX10_rare_1 (x := (0 : Int32)) (by decide) ?_
  refine q_putI o sp_X10_rare_120 (by decide) dX10_rare_2 (fun v1 e2 => ?_)
  have h := h v1 e2
  refine q_aload_n o dX10_rare_5 rfl ?_
  refine q_iload_n o dX10_rare_6 rfl ?_
  refine q_callV o [.int a1] (ad_X10_isPeer l G a1 v1 h) gX10_rare_X10_isPeer rfl rfl rfl rfl (by decide) ⟨rfl, by decide, by decide, pd_X10_isPeer⟩ (by decide) (by decide) rfl (Nat.le_of_ble_eq_true rfl) dX10_rare_7 (fun r4 v3 h => ?_)
  refine q_if_eq o 31 dX10_rare_10 (by decide) (fun c10 => ?_) (fun c10 => ?_)
  · have h := h.1 c10
    refine q_iconst o dX10_rare_31 (x := (-1 : Int32)) (by decide) ?_
    exact q_iret o rt dX10_rare_32 h
  · have h := h.2 c10
    refine q_aload_n o dX10_rare_13 rfl ?_
    refine q_iload_n o dX10_rare_14 rfl ?_
    refine q_iconst o dX10_rare_15 (x := (0 : Int32)) (by decide) ?_
    refine q_callV o [.int a2, .int (0 : Int32)] (ad_X10_isBlock l G a2 (0 : Int32) v3 h) gX10_rare_X10_isBlock rfl rfl rfl rfl (by decide) ⟨rfl, by decide, by decide, pd_X10_isBlock⟩ (by decide) (by decide) rfl (Nat.le_of_ble_eq_true rfl) dX10_rare_16 (fun r6 v5 h => ?_)
    refine q_if_eq o 31 dX10_rare_19 (by decide) (fun c9 => ?_) (fun c9 => ?_)
    · have h := h.1 c9
      refine q_iconst o dX10_rare_31 (x := (-1 : Int32)) (by decide) ?_
      exact q_iret o rt dX10_rare_32 h
    · have h := h.2 c9
      refine q_aload_n o dX10_rare_22 rfl ?_
      refine q_iload_n o dX10_rare_23 rfl ?_
      refine q_iload_n o dX10_rare_24 rfl ?_
      refine q_callV o [.int a1, .int a2] (ad_X10_tellers l G a1 a2 v5 h) gX10_rare_X10_tellers rfl rfl rfl rfl (by decide) ⟨rfl, by decide, by decide, pd_X10_tellers⟩ (by decide) (by decide) rfl (Nat.le_of_ble_eq_true rfl) dX10_rare_25 (fun r8 v7 h => ?_)
      refine q_goto o 32 dX10_rare_28 (by decide) ?_
      exact q_iret o rt dX10_rare_32 h
theorem pd_X10_rare : (parseMethodDescriptor yX10_rare.desc).map (fun d => d.parameters.length) = some 2 := by decide +kernel
-- PieceSwarmModel.pair(III)I
theorem inn_X10_pair_X10 : ∀ w ∈ wsX100, w ∈ wsX10_pair := by decide +kernel
theorem sp_X10_pair_120 : SP wsX10_pair RX10 120 24 0 := ⟨RX10, TX10, 45, tyX10, rfl, rfl, rfl, rfl, by decide, inn_X10_pair_X10, by decide +kernel, tyX10_ok, nmX10, rfl, by decide +kernel⟩
theorem sf_X10_pair_63 : SF wsX10_pair RX10 63 24 25 55 := ⟨RX10, TX10, 45, rfl, rfl, rfl, rfl, by decide, inn_X10_pair_X10, by decide +kernel⟩
theorem sf_X10_pair_75 : SF wsX10_pair RX10 75 24 29 59 := ⟨RX10, TX10, 45, rfl, rfl, rfl, rfl, by decide, inn_X10_pair_X10, by decide +kernel⟩
theorem sf_X10_pair_72 : SF wsX10_pair RX10 72 24 28 58 := ⟨RX10, TX10, 45, rfl, rfl, rfl, rfl, by decide, inn_X10_pair_X10, by decide +kernel⟩
theorem sf_X10_pair_69 : SF wsX10_pair RX10 69 24 27 57 := ⟨RX10, TX10, 45, rfl, rfl, rfl, rfl, by decide, inn_X10_pair_X10, by decide +kernel⟩
theorem sf_X10_pair_84 : SF wsX10_pair RX10 84 24 32 62 := ⟨RX10, TX10, 45, rfl, rfl, rfl, rfl, by decide, inn_X10_pair_X10, by decide +kernel⟩
def wp_X10_pair (a1 : Int32) (a2 : Int32) (a3 : Int32) (v : St3) (post : (Int32 → St3 → Prop)) : Prop := ∀ v1, v1 = up3 v 24 0 0 (0 : Int32) → wp_X10_isTwo a1 a2 v1 (fun r4 v3 => ((¬ r4 = 0 → ((a3 = nI 0 → wp_X10_two a1 a2 v3 (fun r7 v6 => ∃ n8, n8 < 144 ∧ r7 = nI n8 ∧ (((v6 55 0 n8) = 0 → post (0 : Int32) v6) ∧ (¬ (v6 55 0 n8) = 0 → post (1 : Int32) v6)))) ∧ (a3 = nI 1 → wp_X10_isNear a1 a2 v3 (fun r13 v12 => ((r13 = 0 → post (0 : Int32) v12) ∧ (¬ r13 = 0 → post (1 : Int32) v12)))) ∧ (a3 = nI 2 → wp_X10_wants a2 a1 v3 (fun r16 v15 => ((r16 = 0 → post (0 : Int32) v15) ∧ (¬ r16 = 0 → post (1 : Int32) v15)))) ∧ (a3 = nI 3 → wp_X10_isOpenTo a1 a2 v3 (fun r19 v18 => ((r19 = 0 → post (0 : Int32) v18) ∧ (¬ r19 = 0 → post (1 : Int32) v18)))) ∧ (a3 = nI 4 → wp_X10_late a1 a2 v3 (fun r22 v21 => post r22 v21)) ∧ (a3 = nI 5 → wp_X10_two a1 a2 v3 (fun r24 v23 => ∃ n25, n25 < 144 ∧ r24 = nI n25 ∧ post (v23 59 0 n25) v23)) ∧ (a3 = nI 6 → wp_X10_two a1 a2 v3 (fun r29 v28 => ∃ n30, n30 < 144 ∧ r29 = nI n30 ∧ post (v28 58 0 n30) v28)) ∧ (a3 = nI 7 → wp_X10_two a1 a2 v3 (fun r34 v33 => ∃ n35, n35 < 144 ∧ r34 = nI n35 ∧ (((v33 57 0 n35) = 0 → post (0 : Int32) v33) ∧ (¬ (v33 57 0 n35) = 0 → post (1 : Int32) v33)))) ∧ (a3 = nI 8 → ∃ n39, n39 < 12 ∧ a1 = nI n39 ∧ ((¬ (v3 62 0 n39) = a2 → post (0 : Int32) v3) ∧ ((v3 62 0 n39) = a2 → wp_X10_isOpenTo a1 a2 v3 (fun r43 v42 => ((r43 = 0 → post (0 : Int32) v42) ∧ (¬ r43 = 0 → post (1 : Int32) v42)))))) ∧ ((a3 < 0 ∨ nI 9 ≤ a3) → post (-1 : Int32) v3))) ∧ (r4 = 0 → post (-1 : Int32) v3)))
set_option maxRecDepth 20000 in
set_option maxHeartbeats 4000000 in
theorem ad_X10_pair (l : Launch) (G : Geo) (a1 : Int32) (a2 : Int32) (a3 : Int32) (v : St3) {post : (Int32 → St3 → Prop)} (h : wp_X10_pair a1 a2 a3 v post) : CI l G yX10_pair wsX10_pair 3 [.ref (gA G 24 0), .int a1, .int a2, .int a3] v post := by
  refine CI.of (ty := .int) (cc := cX10_pair) (maxL := 4) (by decide) rfl (Nat.le_of_ble_eq_true rfl) (fun X o rt => ?_)
  unfold wp_X10_pair at h
  show J l G X 0 [(0, .ref (gA G 24 0)), (1, .int a1), (2, .int a2), (3, .int a3)] [] v
  refine q_aload_n o dX10_pair_0 rfl ?_
  refine q_iconst o dX10_pair_1 (x := (0 : Int32)) (by decide) ?_
  refine q_putI o sp_X10_pair_120 (by decide) dX10_pair_2 (fun v1 e2 => ?_)
  have h := h v1 e2
  refine q_aload_n o dX10_pair_5 rfl ?_
  refine q_iload_n o dX10_pair_6 rfl ?_
  refine q_iload_n o dX10_pair_7 rfl ?_
  refine q_callV o [.int a1, .int a2] (ad_X10_isTwo l G a1 a2 v1 h) gX10_pair_X10_isTwo rfl rfl rfl rfl (by decide) ⟨rfl, by decide, by decide, pd_X10_isTwo⟩ (by decide) (by decide) rfl (Nat.le_of_ble_eq_true rfl) dX10_pair_8 (fun r4 v3 h => ?_)
  refine q_if_ne o 16 dX10_pair_11 (by decide) (fun c46 => ?_) (fun c46 => ?_)
  · have h := h.1 c46
    refine q_iload_n o dX10_pair_16 rfl ?_
    refine q_tab o [68, 87, 102, 117, 132, 139, 150, 161, 180] 205 dX10_pair_17 rfl rfl (by decide) (by decide +kernel) (by decide) (fun n0 hn0 c5 => ?_) (fun c5 => ?_)
    · match n0, hn0, c5 with
      | 0, _, c5 =>
        have h := h.1 c5
        change J l G X 68 [(0, .ref (gA G 24 0)), (1, .int a1), (2, .int a2), (3, .int a3)] [] v3
        refine q_aload_n o dX10_pair_68 rfl ?_
        refine q_getR (q := 54) o sf_X10_pair_63 (by decide) dX10_pair_69 ?_
        refine q_iload_n o dX10_pair_72 rfl ?_
        refine q_iload_n o dX10_pair_73 rfl ?_
        refine q_callS o [.int a1, .int a2] (ad_X10_two l G a1 a2 v3 h) gX10_pair_X10_two rfl ⟨by decide, by decide, pd_X10_two⟩ (by decide) (by decide) rfl (Nat.le_of_ble_eq_true rfl) dX10_pair_74 (fun r7 v6 h => ?_)
        obtain ⟨n8, hn9, hx10, h⟩ := h
        refine q_zald (m := 143) o rfl rfl (by decide) hn9 hx10 dX10_pair_77 ?_
        refine q_if_eq o 85 dX10_pair_78 (by decide) (fun c11 => ?_) (fun c11 => ?_)
        · have h := h.1 c11
          refine q_iconst o dX10_pair_85 (x := (0 : Int32)) (by decide) ?_
          exact q_iret o rt dX10_pair_86 h
        · have h := h.2 c11
          refine q_iconst o dX10_pair_81 (x := (1 : Int32)) (by decide) ?_
          refine q_goto o 86 dX10_pair_82 (by decide) ?_
          exact q_iret o rt dX10_pair_86 h
      | 1, _, c5 =>
        have h := h.2.1 c5
        change J l G X 87 [(0, .ref (gA G 24 0)), (1, .int a1), (2, .int a2), (3, .int a3)] [] v3
        refine q_aload_n o dX10_pair_87 rfl ?_
        refine q_iload_n o dX10_pair_88 rfl ?_
        refine q_iload_n o dX10_pair_89 rfl ?_
        refine q_callV o [.int a1, .int a2] (ad_X10_isNear l G a1 a2 v3 h) gX10_pair_X10_isNear rfl rfl rfl rfl (by decide) ⟨rfl, by decide, by decide, pd_X10_isNear⟩ (by decide) (by decide) rfl (Nat.le_of_ble_eq_true rfl) dX10_pair_90 (fun r13 v12 h => ?_)
        refine q_if_eq o 100 dX10_pair_93 (by decide) (fun c14 => ?_) (fun c14 => ?_)
        · have h := h.1 c14
          refine q_iconst o dX10_pair_100 (x := (0 : Int32)) (by decide) ?_
          exact q_iret o rt dX10_pair_101 h
        · have h := h.2 c14
          refine q_iconst o dX10_pair_96 (x := (1 : Int32)) (by decide) ?_
          refine q_goto o 101 dX10_pair_97 (by decide) ?_
          exact q_iret o rt dX10_pair_101 h
      | 2, _, c5 =>
        have h := h.2.2.1 c5
        change J l G X 102 [(0, .ref (gA G 24 0)), (1, .int a1), (2, .int a2), (3, .int a3)] [] v3
        refine q_aload_n o dX10_pair_102 rfl ?_
        refine q_iload_n o dX10_pair_103 rfl ?_
        refine q_iload_n o dX10_pair_104 rfl ?_
        refine q_callV o [.int a2, .int a1] (ad_X10_wants l G a2 a1 v3 h) gX10_pair_X10_wants rfl rfl rfl rfl (by decide) ⟨rfl, by decide, by decide, pd_X10_wants⟩ (by decide) (by decide) rfl (Nat.le_of_ble_eq_true rfl) dX10_pair_105 (fun r16 v15 h => ?_)
        refine q_if_eq o 115 dX10_pair_108 (by decide) (fun c17 => ?_) (fun c17 => ?_)
        · have h := h.1 c17
          refine q_iconst o dX10_pair_115 (x := (0 : Int32)) (by decide) ?_
          exact q_iret o rt dX10_pair_116 h
        · have h := h.2 c17
          refine q_iconst o dX10_pair_111 (x := (1 : Int32)) (by decide) ?_
          refine q_goto o 116 dX10_pair_112 (by decide) ?_
          exact q_iret o rt dX10_pair_116 h
      | 3, _, c5 =>
        have h := h.2.2.2.1 c5
        change J l G X 117 [(0, .ref (gA G 24 0)), (1, .int a1), (2, .int a2), (3, .int a3)] [] v3
        refine q_aload_n o dX10_pair_117 rfl ?_
        refine q_iload_n o dX10_pair_118 rfl ?_
        refine q_iload_n o dX10_pair_119 rfl ?_
        refine q_callV o [.int a1, .int a2] (ad_X10_isOpenTo l G a1 a2 v3 h) gX10_pair_X10_isOpenTo rfl rfl rfl rfl (by decide) ⟨rfl, by decide, by decide, pd_X10_isOpenTo⟩ (by decide) (by decide) rfl (Nat.le_of_ble_eq_true rfl) dX10_pair_120 (fun r19 v18 h => ?_)
        refine q_if_eq o 130 dX10_pair_123 (by decide) (fun c20 => ?_) (fun c20 => ?_)
        · have h := h.1 c20
          refine q_iconst o dX10_pair_130 (x := (0 : Int32)) (by decide) ?_
          exact q_iret o rt dX10_pair_131 h
        · have h := h.2 c20
          refine q_iconst o dX10_pair_126 (x := (1 : Int32)) (by decide) ?_
          refine q_goto o 131 dX10_pair_127 (by decide) ?_
          exact q_iret o rt dX10_pair_131 h
      | 4, _, c5 =>
        have h := h.2.2.2.2.1 c5
        change J l G X 132 [(0, .ref (gA G 24 0)), (1, .int a1), (2, .int a2), (3, .int a3)] [] v3
        refine q_aload_n o dX10_pair_132 rfl ?_
        refine q_iload_n o dX10_pair_133 rfl ?_
        refine q_iload_n o dX10_pair_134 rfl ?_
        refine q_callV o [.int a1, .int a2] (ad_X10_late l G a1 a2 v3 h) gX10_pair_X10_late rfl rfl rfl rfl (by decide) ⟨rfl, by decide, by decide, pd_X10_late⟩ (by decide) (by decide) rfl (Nat.le_of_ble_eq_true rfl) dX10_pair_135 (fun r22 v21 h => ?_)
        exact q_iret o rt dX10_pair_138 h
      | 5, _, c5 =>
        have h := h.2.2.2.2.2.1 c5
        change J l G X 139 [(0, .ref (gA G 24 0)), (1, .int a1), (2, .int a2), (3, .int a3)] [] v3
        refine q_aload_n o dX10_pair_139 rfl ?_
        refine q_getR (q := 58) o sf_X10_pair_75 (by decide) dX10_pair_140 ?_
        refine q_iload_n o dX10_pair_143 rfl ?_
        refine q_iload_n o dX10_pair_144 rfl ?_
        refine q_callS o [.int a1, .int a2] (ad_X10_two l G a1 a2 v3 h) gX10_pair_X10_two rfl ⟨by decide, by decide, pd_X10_two⟩ (by decide) (by decide) rfl (Nat.le_of_ble_eq_true rfl) dX10_pair_145 (fun r24 v23 h => ?_)
        obtain ⟨n25, hn26, hx27, h⟩ := h
        refine q_iald (m := 143) o rfl rfl (by decide) hn26 hx27 dX10_pair_148 ?_
        exact q_iret o rt dX10_pair_149 h
      | 6, _, c5 =>
        have h := h.2.2.2.2.2.2.1 c5
        change J l G X 150 [(0, .ref (gA G 24 0)), (1, .int a1), (2, .int a2), (3, .int a3)] [] v3
        refine q_aload_n o dX10_pair_150 rfl ?_
        refine q_getR (q := 57) o sf_X10_pair_72 (by decide) dX10_pair_151 ?_
        refine q_iload_n o dX10_pair_154 rfl ?_
        refine q_iload_n o dX10_pair_155 rfl ?_
        refine q_callS o [.int a1, .int a2] (ad_X10_two l G a1 a2 v3 h) gX10_pair_X10_two rfl ⟨by decide, by decide, pd_X10_two⟩ (by decide) (by decide) rfl (Nat.le_of_ble_eq_true rfl) dX10_pair_156 (fun r29 v28 h => ?_)
        obtain ⟨n30, hn31, hx32, h⟩ := h
        refine q_iald (m := 143) o rfl rfl (by decide) hn31 hx32 dX10_pair_159 ?_
        exact q_iret o rt dX10_pair_160 h
      | 7, _, c5 =>
        have h := h.2.2.2.2.2.2.2.1 c5
        change J l G X 161 [(0, .ref (gA G 24 0)), (1, .int a1), (2, .int a2), (3, .int a3)] [] v3
        refine q_aload_n o dX10_pair_161 rfl ?_
        refine q_getR (q := 56) o sf_X10_pair_69 (by decide) dX10_pair_162 ?_
        refine q_iload_n o dX10_pair_165 rfl ?_
        refine q_iload_n o dX10_pair_166 rfl ?_
        refine q_callS o [.int a1, .int a2] (ad_X10_two l G a1 a2 v3 h) gX10_pair_X10_two rfl ⟨by decide, by decide, pd_X10_two⟩ (by decide) (by decide) rfl (Nat.le_of_ble_eq_true rfl) dX10_pair_167 (fun r34 v33 h => ?_)
        obtain ⟨n35, hn36, hx37, h⟩ := h
        refine q_zald (m := 143) o rfl rfl (by decide) hn36 hx37 dX10_pair_170 ?_
        refine q_if_eq o 178 dX10_pair_171 (by decide) (fun c38 => ?_) (fun c38 => ?_)
        · have h := h.1 c38
          refine q_iconst o dX10_pair_178 (x := (0 : Int32)) (by decide) ?_
          exact q_iret o rt dX10_pair_179 h
        · have h := h.2 c38
          refine q_iconst o dX10_pair_174 (x := (1 : Int32)) (by decide) ?_
          refine q_goto o 179 dX10_pair_175 (by decide) ?_
          exact q_iret o rt dX10_pair_179 h
      | 8, _, c5 =>
        have h := h.2.2.2.2.2.2.2.2.1 c5
        change J l G X 180 [(0, .ref (gA G 24 0)), (1, .int a1), (2, .int a2), (3, .int a3)] [] v3
        refine q_aload_n o dX10_pair_180 rfl ?_
        refine q_getR (q := 61) o sf_X10_pair_84 (by decide) dX10_pair_181 ?_
        refine q_iload_n o dX10_pair_184 rfl ?_
        obtain ⟨n39, hn40, hx41, h⟩ := h
        refine q_iald (m := 11) o rfl rfl (by decide) hn40 hx41 dX10_pair_185 ?_
        refine q_iload_n o dX10_pair_186 rfl ?_
        refine q_ic_ne o 203 dX10_pair_187 (by decide) (fun c45 => ?_) (fun c45 => ?_)
        · have h := h.1 c45
          refine q_iconst o dX10_pair_203 (x := (0 : Int32)) (by decide) ?_
          exact q_iret o rt dX10_pair_204 h
        · have h := h.2 c45
          refine q_aload_n o dX10_pair_190 rfl ?_
          refine q_iload_n o dX10_pair_191 rfl ?_
          refine q_iload_n o dX10_pair_192 rfl ?_
          refine q_callV o [.int a1, .int a2] (ad_X10_isOpenTo l G a1 a2 v3 h) gX10_pair_X10_isOpenTo rfl rfl rfl rfl (by decide) ⟨rfl, by decide, by decide, pd_X10_isOpenTo⟩ (by decide) (by decide) rfl (Nat.le_of_ble_eq_true rfl) dX10_pair_193 (fun r43 v42 h => ?_)
          refine q_if_eq o 203 dX10_pair_196 (by decide) (fun c44 => ?_) (fun c44 => ?_)
          · have h := h.1 c44
            refine q_iconst o dX10_pair_203 (x := (0 : Int32)) (by decide) ?_
            exact q_iret o rt dX10_pair_204 h
          · have h := h.2 c44
            refine q_iconst o dX10_pair_199 (x := (1 : Int32)) (by decide) ?_
            refine q_goto o 204 dX10_pair_200 (by decide) ?_
            exact q_iret o rt dX10_pair_204 h
      | (n0 + 9), hn0, _ => exact absurd hn0 (by show ¬ (n0 + 9 < 9); omega)
    · have h := h.2.2.2.2.2.2.2.2.2 c5
      refine q_iconst o dX10_pair_205 (x := (-1 : Int32)) (by decide) ?_
      exact q_iret o rt dX10_pair_206 h
  · have h := h.2 c46
    refine q_iconst o dX10_pair_14 (x := (-1 : Int32)) (by decide) ?_
    exact q_iret o rt dX10_pair_15 h
theorem pd_X10_pair : (parseMethodDescriptor yX10_pair.desc).map (fun d => d.parameters.length) = some 3 := by decide +kernel
-- PieceSwarmModel.alone(I)I
theorem inn_X10_alone_X10 : ∀ w ∈ wsX100, w ∈ wsX10_alone := by decide +kernel
theorem sp_X10_alone_120 : SP wsX10_alone RX10 120 24 0 := ⟨RX10, TX10, 45, tyX10, rfl, rfl, rfl, rfl, by decide, inn_X10_alone_X10, by decide +kernel, tyX10_ok, nmX10, rfl, by decide +kernel⟩
theorem sf_X10_alone_7 : SF wsX10_alone RX10 7 24 1 0 := ⟨RX10, TX10, 45, rfl, rfl, rfl, rfl, by decide, inn_X10_alone_X10, by decide +kernel⟩
theorem sf_X10_alone_48 : SF wsX10_alone RX10 48 24 20 50 := ⟨RX10, TX10, 45, rfl, rfl, rfl, rfl, by decide, inn_X10_alone_X10, by decide +kernel⟩
def wB_X10_alone_52 (post : (Int32 → St3 → Prop)) (K24 : Int32 → Int32 → Int32 → St3 → Prop) (a1 : Int32) (a3 : Int32) (s0 : Int32) (v : St3) : Prop := wp_X10_owners a3 a1 v (fun r4 v3 => ((¬ r4 = 0 → K24 a1 (s0 + (0 : Int32)) (a3 + (1 : Int32)) v3) ∧ (r4 = 0 → K24 a1 (s0 + (1 : Int32)) (a3 + (1 : Int32)) v3)))
set_option maxRecDepth 20000 in
set_option maxHeartbeats 4000000 in
theorem aJ_X10_alone_52 {l : Launch} {G : Geo} {X : CT} (o : OK G X cX10_alone wsX10_alone RX10 2 4) {post : (Int32 → St3 → Prop)} (rt : RI G X .int post) {K24 : Int32 → Int32 → Int32 → St3 → Prop} (hK24 : ∀ (a1 : Int32) (a2 : Int32) (a3 : Int32) (v : St3), K24 a1 a2 a3 v → J l G X 24 [(0, .ref (gA G 24 0)), (1, .int a1), (2, .int a2), (3, .int a3)] [] v) (a1 : Int32) (a3 : Int32) (s0 : Int32) (v : St3) (h : wB_X10_alone_52 post K24 a1 a3 s0 v) : J l G X 52 [(0, .ref (gA G 24 0)), (1, .int a1), (3, .int a3)] [.int s0] v := by
  unfold wB_X10_alone_52 at h
  refine q_aload_n o dX10_alone_52 rfl ?_
  refine q_iload_n o dX10_alone_53 rfl ?_
  refine q_iload_n o dX10_alone_54 rfl ?_
  refine q_callV o [.int a3, .int a1] (ad_X10_owners l G a3 a1 v h) gX10_alone_X10_owners rfl rfl rfl rfl (by decide) ⟨rfl, by decide, by decide, pd_X10_owners⟩ (by decide) (by decide) rfl (Nat.le_of_ble_eq_true rfl) dX10_alone_55 (fun r4 v3 h => ?_)
  refine q_if_ne o 65 dX10_alone_58 (by decide) (fun c5 => ?_) (fun c5 => ?_)
  · have h := h.1 c5
    refine q_iconst o dX10_alone_65 (x := (0 : Int32)) (by decide) ?_
    refine q_iadd o dX10_alone_66 ?_
    refine q_istore_n o (lv' := [(2, .int (s0 + (0 : Int32))), (0, .ref (gA G 24 0)), (1, .int a1), (3, .int a3)]) dX10_alone_67 (by decide) rfl ?_
    refine q_iinc o (y := (a3 + (1 : Int32))) (lv' := [(3, .int (a3 + (1 : Int32))), (2, .int (s0 + (0 : Int32))), (0, .ref (gA G 24 0)), (1, .int a1)]) dX10_alone_68 rfl rfl (by decide) rfl ?_
    refine q_goto o 24 dX10_alone_71 (by decide) ?_
    refine q_lv [2, 3, 1, 0] rfl ?_
    exact hK24 a1 (s0 + (0 : Int32)) (a3 + (1 : Int32)) v3 h
  · have h := h.2 c5
    refine q_iconst o dX10_alone_61 (x := (1 : Int32)) (by decide) ?_
    refine q_goto o 66 dX10_alone_62 (by decide) ?_
    refine q_iadd o dX10_alone_66 ?_
    refine q_istore_n o (lv' := [(2, .int (s0 + (1 : Int32))), (0, .ref (gA G 24 0)), (1, .int a1), (3, .int a3)]) dX10_alone_67 (by decide) rfl ?_
    refine q_iinc o (y := (a3 + (1 : Int32))) (lv' := [(3, .int (a3 + (1 : Int32))), (2, .int (s0 + (1 : Int32))), (0, .ref (gA G 24 0)), (1, .int a1)]) dX10_alone_68 rfl rfl (by decide) rfl ?_
    refine q_goto o 24 dX10_alone_71 (by decide) ?_
    refine q_lv [2, 3, 1, 0] rfl ?_
    exact hK24 a1 (s0 + (1 : Int32)) (a3 + (1 : Int32)) v3 h
def wB_X10_alone_24 (post : (Int32 → St3 → Prop)) (K24 : Int32 → Int32 → Int32 → St3 → Prop) (a1 : Int32) (a2 : Int32) (a3 : Int32) (v : St3) : Prop := (((v 24 0 1) ≤ a3 → post a2 v) ∧ (¬ (v 24 0 1) ≤ a3 → ((a1 = (-1 : Int32) → wB_X10_alone_52 post K24 a1 a3 a2 v) ∧ (¬ a1 = (-1 : Int32) → ∃ n6, n6 < 288 ∧ (((24 : Int32) * a1) + a3) = nI n6 ∧ (((v 50 0 n6) = 0 → K24 a1 (a2 + (0 : Int32)) (a3 + (1 : Int32)) v) ∧ (¬ (v 50 0 n6) = 0 → wB_X10_alone_52 post K24 a1 a3 a2 v))))))
def wL_X10_alone_24 (post : (Int32 → St3 → Prop)) : Nat → Int32 → Int32 → Int32 → St3 → Prop
  | 0, _, _, _, _ => False
  | f + 1, a1, a2, a3, v => wB_X10_alone_24 post (wL_X10_alone_24 post f) a1 a2 a3 v
set_option maxRecDepth 20000 in
set_option maxHeartbeats 4000000 in
theorem aL_X10_alone_24 {l : Launch} {G : Geo} {X : CT} (o : OK G X cX10_alone wsX10_alone RX10 2 4) {post : (Int32 → St3 → Prop)} (rt : RI G X .int post) : ∀ (f : Nat) (a1 : Int32) (a2 : Int32) (a3 : Int32) (v : St3), wL_X10_alone_24 post f a1 a2 a3 v → J l G X 24 [(0, .ref (gA G 24 0)), (1, .int a1), (2, .int a2), (3, .int a3)] [] v := by
  intro f
  induction f with
  | zero => intro _ _ _ _ h; exact False.elim h
  | succ f hK24 =>
  intro a1 a2 a3 v h
  have h : wB_X10_alone_24 post (wL_X10_alone_24 post f) a1 a2 a3 v := h
  unfold wB_X10_alone_24 at h
  refine q_iload_n o dX10_alone_24 rfl ?_
  refine q_aload_n o dX10_alone_25 rfl ?_
  refine q_getI o sf_X10_alone_7 (by decide) dX10_alone_26 ?_
  refine q_ic_ge o 74 dX10_alone_29 (by decide) (fun c11 => ?_) (fun c11 => ?_)
  · have h := h.1 c11
    refine q_iload_n o dX10_alone_74 rfl ?_
    exact q_iret o rt dX10_alone_75 h
  · have h := h.2 c11
    refine q_iload_n o dX10_alone_32 rfl ?_
    refine q_iload_n o dX10_alone_33 rfl ?_
    refine q_iconst o dX10_alone_34 (x := (-1 : Int32)) (by decide) ?_
    refine q_ic_eq o 52 dX10_alone_35 (by decide) (fun c10 => ?_) (fun c10 => ?_)
    · have h := h.1 c10
      refine q_lv [0, 1, 3] rfl ?_
      exact aJ_X10_alone_52 o rt hK24 a1 a3 a2 v h
    · have h := h.2 c10
      refine q_aload_n o dX10_alone_38 rfl ?_
      refine q_getR (q := 49) o sf_X10_alone_48 (by decide) dX10_alone_39 ?_
      refine q_bipush o dX10_alone_42 (x := (24 : Int32)) (by decide) ?_
      refine q_iload_n o dX10_alone_44 rfl ?_
      refine q_imul o dX10_alone_45 ?_
      refine q_iload_n o dX10_alone_46 rfl ?_
      refine q_iadd o dX10_alone_47 ?_
      obtain ⟨n6, hn7, hx8, h⟩ := h
      refine q_zald (m := 287) o rfl rfl (by decide) hn7 hx8 dX10_alone_48 ?_
      refine q_if_eq o 65 dX10_alone_49 (by decide) (fun c9 => ?_) (fun c9 => ?_)
      · have h := h.1 c9
        refine q_iconst o dX10_alone_65 (x := (0 : Int32)) (by decide) ?_
        refine q_iadd o dX10_alone_66 ?_
        refine q_istore_n o (lv' := [(2, .int (a2 + (0 : Int32))), (0, .ref (gA G 24 0)), (1, .int a1), (3, .int a3)]) dX10_alone_67 (by decide) rfl ?_
        refine q_iinc o (y := (a3 + (1 : Int32))) (lv' := [(3, .int (a3 + (1 : Int32))), (2, .int (a2 + (0 : Int32))), (0, .ref (gA G 24 0)), (1, .int a1)]) dX10_alone_68 rfl rfl (by decide) rfl ?_
        refine q_goto o 24 dX10_alone_71 (by decide) ?_
        refine q_lv [2, 3, 1, 0] rfl ?_
        exact hK24 a1 (a2 + (0 : Int32)) (a3 + (1 : Int32)) v h
      · have h := h.2 c9
        refine q_lv [0, 1, 3] rfl ?_
        exact aJ_X10_alone_52 o rt hK24 a1 a3 a2 v h
def wp_X10_alone (a1 : Int32) (v : St3) (post : (Int32 → St3 → Prop)) : Prop := ∀ v1, v1 = up3 v 24 0 0 (0 : Int32) → ((a1 = (-1 : Int32) → wL_X10_alone_24 post FU a1 (0 : Int32) (0 : Int32) v1) ∧ (¬ a1 = (-1 : Int32) → wp_X10_isPeer a1 v1 (fun r13 v12 => ((¬ r13 = 0 → wL_X10_alone_24 post FU a1 (0 : Int32) (0 : Int32) v12) ∧ (r13 = 0 → post (-1 : Int32) v12)))))
set_option maxRecDepth 20000 in
set_option maxHeartbeats 4000000 in
theorem ad_X10_alone (l : Launch) (G : Geo) (a1 : Int32) (v : St3) {post : (Int32 → St3 → Prop)} (h : wp_X10_alone a1 v post) : CI l G yX10_alone wsX10_alone 2 [.ref (gA G 24 0), .int a1] v post := by
  refine CI.of (ty := .int) (cc := cX10_alone) (maxL := 4) (by decide) rfl (Nat.le_of_ble_eq_true rfl) (fun X o rt => ?_)
  unfold wp_X10_alone at h
  show J l G X 0 [(0, .ref (gA G 24 0)), (1, .int a1)] [] v
  refine q_aload_n o dX10_alone_0 rfl ?_
  refine q_iconst o dX10_alone_1 (x := (0 : Int32)) (by decide) ?_
  refine q_putI o sp_X10_alone_120 (by decide) dX10_alone_2 (fun v1 e2 => ?_)
  have h := h v1 e2
  refine q_iload_n o dX10_alone_5 rfl ?_
  refine q_iconst o dX10_alone_6 (x := (-1 : Int32)) (by decide) ?_
  refine q_ic_eq o 20 dX10_alone_7 (by decide) (fun c15 => ?_) (fun c15 => ?_)
  · have h := h.1 c15
    refine q_iconst o dX10_alone_20 (x := (0 : Int32)) (by decide) ?_
    refine q_istore_n o (lv' := [(2, .int (0 : Int32)), (0, .ref (gA G 24 0)), (1, .int a1)]) dX10_alone_21 (by decide) rfl ?_
    refine q_iconst o dX10_alone_22 (x := (0 : Int32)) (by decide) ?_
    refine q_istore_n o (lv' := [(3, .int (0 : Int32)), (2, .int (0 : Int32)), (0, .ref (gA G 24 0)), (1, .int a1)]) dX10_alone_23 (by decide) rfl ?_
    refine q_lv [2, 3, 1, 0] rfl ?_
    exact aL_X10_alone_24 o rt FU a1 (0 : Int32) (0 : Int32) v1 h
  · have h := h.2 c15
    refine q_aload_n o dX10_alone_10 rfl ?_
    refine q_iload_n o dX10_alone_11 rfl ?_
    refine q_callV o [.int a1] (ad_X10_isPeer l G a1 v1 h) gX10_alone_X10_isPeer rfl rfl rfl rfl (by decide) ⟨rfl, by decide, by decide, pd_X10_isPeer⟩ (by decide) (by decide) rfl (Nat.le_of_ble_eq_true rfl) dX10_alone_12 (fun r13 v12 h => ?_)
    refine q_if_ne o 20 dX10_alone_15 (by decide) (fun c14 => ?_) (fun c14 => ?_)
    · have h := h.1 c14
      refine q_iconst o dX10_alone_20 (x := (0 : Int32)) (by decide) ?_
      refine q_istore_n o (lv' := [(2, .int (0 : Int32)), (0, .ref (gA G 24 0)), (1, .int a1)]) dX10_alone_21 (by decide) rfl ?_
      refine q_iconst o dX10_alone_22 (x := (0 : Int32)) (by decide) ?_
      refine q_istore_n o (lv' := [(3, .int (0 : Int32)), (2, .int (0 : Int32)), (0, .ref (gA G 24 0)), (1, .int a1)]) dX10_alone_23 (by decide) rfl ?_
      refine q_lv [2, 3, 1, 0] rfl ?_
      exact aL_X10_alone_24 o rt FU a1 (0 : Int32) (0 : Int32) v12 h
    · have h := h.2 c14
      refine q_iconst o dX10_alone_18 (x := (-1 : Int32)) (by decide) ?_
      exact q_iret o rt dX10_alone_19 h
theorem pd_X10_alone : (parseMethodDescriptor yX10_alone.desc).map (fun d => d.parameters.length) = some 1 := by decide +kernel
-- PieceSwarmModel.bound(I)I
theorem inn_X10_bound__X10 : ∀ w ∈ wsX100, w ∈ wsX10_bound_ := by decide +kernel
theorem sp_X10_bound__120 : SP wsX10_bound_ RX10 120 24 0 := ⟨RX10, TX10, 45, tyX10, rfl, rfl, rfl, rfl, by decide, inn_X10_bound__X10, by decide +kernel, tyX10_ok, nmX10, rfl, by decide +kernel⟩
theorem sf_X10_bound__26 : SF wsX10_bound_ RX10 26 24 13 43 := ⟨RX10, TX10, 45, rfl, rfl, rfl, rfl, by decide, inn_X10_bound__X10, by decide +kernel⟩
theorem sf_X10_bound__7 : SF wsX10_bound_ RX10 7 24 1 0 := ⟨RX10, TX10, 45, rfl, rfl, rfl, rfl, by decide, inn_X10_bound__X10, by decide +kernel⟩
theorem sf_X10_bound__13 : SF wsX10_bound_ RX10 13 24 2 0 := ⟨RX10, TX10, 45, rfl, rfl, rfl, rfl, by decide, inn_X10_bound__X10, by decide +kernel⟩
theorem sf_X10_bound__20 : SF wsX10_bound_ RX10 20 24 11 41 := ⟨RX10, TX10, 45, rfl, rfl, rfl, rfl, by decide, inn_X10_bound__X10, by decide +kernel⟩
theorem sf_X10_bound__136 : SF wsX10_bound_ RX10 136 24 4 0 := ⟨RX10, TX10, 45, rfl, rfl, rfl, rfl, by decide, inn_X10_bound__X10, by decide +kernel⟩
theorem sf_X10_bound__23 : SF wsX10_bound_ RX10 23 24 12 42 := ⟨RX10, TX10, 45, rfl, rfl, rfl, rfl, by decide, inn_X10_bound__X10, by decide +kernel⟩
def wB_X10_bound__67 (post : (Int32 → St3 → Prop)) (K67 : Int32 → Int32 → Int32 → Int32 → Int32 → Int32 → St3 → Prop) (a1 : Int32) (a2 : Int32) (a3 : Int32) (a4 : Int32) (a5 : Int32) (a6 : Int32) (v : St3) : Prop := (((v 24 0 4) ≤ a6 → ((¬ a4 = 0 → wp_X10_share (a2 * a4) a5 v (fun r13 v12 => ((r13 ≤ a3 → post a3 v12) ∧ (¬ r13 ≤ a3 → wp_X10_share (a2 * a4) a5 v12 (fun r15 v14 => post r15 v14))))) ∧ (a4 = 0 → post (-1 : Int32) v))) ∧ (¬ (v 24 0 4) ≤ a6 → ((a6 = a1 → K67 a1 a2 a3 a4 a5 (a6 + (1 : Int32)) v) ∧ (¬ a6 = a1 → ∃ n18, n18 < 12 ∧ a6 = nI n18 ∧ ((¬ (v 43 0 n18) = 0 → wp_X10_hasMany a6 v (fun r22 v21 => ((0 < r22 → post (-1 : Int32) v21) ∧ (¬ 0 < r22 → wp_X10_holdsMany a6 v21 (fun r24 v23 => ((0 < r24 → post (-1 : Int32) v23) ∧ (¬ 0 < r24 → wp_X10_comingTo a6 v23 (fun r26 v25 => ((r26 ≤ 0 → wp_X10_share a2 (v25 42 0 n18) v25 (fun r28 v27 => ((r28 ≤ a3 → K67 a1 a2 a3 (a4 + (1 : Int32)) (a5 + (v25 41 0 n18)) (a6 + (1 : Int32)) v27) ∧ (¬ r28 ≤ a3 → wp_X10_share a2 (v27 42 0 n18) v27 (fun r30 v29 => K67 a1 a2 r30 (a4 + (1 : Int32)) (a5 + (v25 41 0 n18)) (a6 + (1 : Int32)) v29))))) ∧ (¬ r26 ≤ 0 → post (-1 : Int32) v25)))))))))) ∧ ((v 43 0 n18) = 0 → K67 a1 a2 a3 a4 a5 (a6 + (1 : Int32)) v))))))
def wL_X10_bound__67 (post : (Int32 → St3 → Prop)) : Nat → Int32 → Int32 → Int32 → Int32 → Int32 → Int32 → St3 → Prop
  | 0, _, _, _, _, _, _, _ => False
  | f + 1, a1, a2, a3, a4, a5, a6, v => wB_X10_bound__67 post (wL_X10_bound__67 post f) a1 a2 a3 a4 a5 a6 v
set_option maxRecDepth 20000 in
set_option maxHeartbeats 4000000 in
theorem aL_X10_bound__67 {l : Launch} {G : Geo} {X : CT} (o : OK G X cX10_bound_ wsX10_bound_ RX10 3 7) {post : (Int32 → St3 → Prop)} (rt : RI G X .int post) : ∀ (f : Nat) (a1 : Int32) (a2 : Int32) (a3 : Int32) (a4 : Int32) (a5 : Int32) (a6 : Int32) (v : St3), wL_X10_bound__67 post f a1 a2 a3 a4 a5 a6 v → J l G X 67 [(0, .ref (gA G 24 0)), (1, .int a1), (2, .int a2), (3, .int a3), (4, .int a4), (5, .int a5), (6, .int a6)] [] v := by
  intro f
  induction f with
  | zero => intro _ _ _ _ _ _ _ h; exact False.elim h
  | succ f hK67 =>
  intro a1 a2 a3 a4 a5 a6 v h
  have h : wB_X10_bound__67 post (wL_X10_bound__67 post f) a1 a2 a3 a4 a5 a6 v := h
  unfold wB_X10_bound__67 at h
  refine q_iload o dX10_bound__67 rfl ?_
  refine q_aload_n o dX10_bound__69 rfl ?_
  refine q_getI o sf_X10_bound__136 (by decide) dX10_bound__70 ?_
  refine q_ic_ge o 172 dX10_bound__73 (by decide) (fun c37 => ?_) (fun c37 => ?_)
  · have h := h.1 c37
    refine q_iload o dX10_bound__172 rfl ?_
    refine q_if_ne o 179 dX10_bound__174 (by decide) (fun c17 => ?_) (fun c17 => ?_)
    · have h := h.1 c17
      refine q_iload_n o dX10_bound__179 rfl ?_
      refine q_iload o dX10_bound__180 rfl ?_
      refine q_imul o dX10_bound__182 ?_
      refine q_iload o dX10_bound__183 rfl ?_
      refine q_callS o [.int (a2 * a4), .int a5] (ad_X10_share l G (a2 * a4) a5 v h) gX10_bound__X10_share rfl ⟨by decide, by decide, pd_X10_share⟩ (by decide) (by decide) rfl (Nat.le_of_ble_eq_true rfl) dX10_bound__185 (fun r13 v12 h => ?_)
      refine q_iload_n o dX10_bound__188 rfl ?_
      refine q_ic_le o 204 dX10_bound__189 (by decide) (fun c16 => ?_) (fun c16 => ?_)
      · have h := h.1 c16
        refine q_iload_n o dX10_bound__204 rfl ?_
        exact q_iret o rt dX10_bound__205 h
      · have h := h.2 c16
        refine q_iload_n o dX10_bound__192 rfl ?_
        refine q_iload o dX10_bound__193 rfl ?_
        refine q_imul o dX10_bound__195 ?_
        refine q_iload o dX10_bound__196 rfl ?_
        refine q_callS o [.int (a2 * a4), .int a5] (ad_X10_share l G (a2 * a4) a5 v12 h) gX10_bound__X10_share rfl ⟨by decide, by decide, pd_X10_share⟩ (by decide) (by decide) rfl (Nat.le_of_ble_eq_true rfl) dX10_bound__198 (fun r15 v14 h => ?_)
        refine q_goto o 205 dX10_bound__201 (by decide) ?_
        exact q_iret o rt dX10_bound__205 h
    · have h := h.2 c17
      refine q_iconst o dX10_bound__177 (x := (-1 : Int32)) (by decide) ?_
      exact q_iret o rt dX10_bound__178 h
  · have h := h.2 c37
    refine q_iload o dX10_bound__76 rfl ?_
    refine q_iload_n o dX10_bound__78 rfl ?_
    refine q_ic_eq o 166 dX10_bound__79 (by decide) (fun c36 => ?_) (fun c36 => ?_)
    · have h := h.1 c36
      refine q_iinc o (y := (a6 + (1 : Int32))) (lv' := [(6, .int (a6 + (1 : Int32))), (0, .ref (gA G 24 0)), (1, .int a1), (2, .int a2), (3, .int a3), (4, .int a4), (5, .int a5)]) dX10_bound__166 rfl rfl (by decide) rfl ?_
      refine q_goto o 67 dX10_bound__169 (by decide) ?_
      refine q_lv [1, 2, 3, 4, 5, 6, 0] rfl ?_
      exact hK67 a1 a2 a3 a4 a5 (a6 + (1 : Int32)) v h
    · have h := h.2 c36
      refine q_aload_n o dX10_bound__82 rfl ?_
      refine q_getR (q := 42) o sf_X10_bound__26 (by decide) dX10_bound__83 ?_
      refine q_iload o dX10_bound__86 rfl ?_
      obtain ⟨n18, hn19, hx20, h⟩ := h
      refine q_zald (m := 11) o rfl rfl (by decide) hn19 hx20 dX10_bound__88 ?_
      refine q_if_ne o 95 dX10_bound__89 (by decide) (fun c35 => ?_) (fun c35 => ?_)
      · have h := h.1 c35
        refine q_aload_n o dX10_bound__95 rfl ?_
        refine q_iload o dX10_bound__96 rfl ?_
        refine q_callV o [.int a6] (ad_X10_hasMany l G a6 v h) gX10_bound__X10_hasMany rfl rfl rfl rfl (by decide) ⟨rfl, by decide, by decide, pd_X10_hasMany⟩ (by decide) (by decide) rfl (Nat.le_of_ble_eq_true rfl) dX10_bound__98 (fun r22 v21 h => ?_)
        refine q_if_gt o 122 dX10_bound__101 (by decide) (fun c34 => ?_) (fun c34 => ?_)
        · have h := h.1 c34
          refine q_iconst o dX10_bound__122 (x := (-1 : Int32)) (by decide) ?_
          exact q_iret o rt dX10_bound__123 h
        · have h := h.2 c34
          refine q_aload_n o dX10_bound__104 rfl ?_
          refine q_iload o dX10_bound__105 rfl ?_
          refine q_callV o [.int a6] (ad_X10_holdsMany l G a6 v21 h) gX10_bound__X10_holdsMany rfl rfl rfl rfl (by decide) ⟨rfl, by decide, by decide, pd_X10_holdsMany⟩ (by decide) (by decide) rfl (Nat.le_of_ble_eq_true rfl) dX10_bound__107 (fun r24 v23 h => ?_)
          refine q_if_gt o 122 dX10_bound__110 (by decide) (fun c33 => ?_) (fun c33 => ?_)
          · have h := h.1 c33
            refine q_iconst o dX10_bound__122 (x := (-1 : Int32)) (by decide) ?_
            exact q_iret o rt dX10_bound__123 h
          · have h := h.2 c33
            refine q_aload_n o dX10_bound__113 rfl ?_
            refine q_iload o dX10_bound__114 rfl ?_
            refine q_callV o [.int a6] (ad_X10_comingTo l G a6 v23 h) gX10_bound__X10_comingTo rfl rfl rfl rfl (by decide) ⟨rfl, by decide, by decide, pd_X10_comingTo⟩ (by decide) (by decide) rfl (Nat.le_of_ble_eq_true rfl) dX10_bound__116 (fun r26 v25 h => ?_)
            refine q_if_le o 124 dX10_bound__119 (by decide) (fun c32 => ?_) (fun c32 => ?_)
            · have h := h.1 c32
              refine q_iinc o (y := (a4 + (1 : Int32))) (lv' := [(4, .int (a4 + (1 : Int32))), (0, .ref (gA G 24 0)), (1, .int a1), (2, .int a2), (3, .int a3), (5, .int a5), (6, .int a6)]) dX10_bound__124 rfl rfl (by decide) rfl ?_
              refine q_iload o dX10_bound__127 rfl ?_
              refine q_aload_n o dX10_bound__129 rfl ?_
              refine q_getR (q := 40) o sf_X10_bound__20 (by decide) dX10_bound__130 ?_
              refine q_iload o dX10_bound__133 rfl ?_
              refine q_iald (m := 11) o rfl rfl (by decide) hn19 hx20 dX10_bound__135 ?_
              refine q_iadd o dX10_bound__136 ?_
              refine q_istore o (lv' := [(5, .int (a5 + (v25 41 0 n18))), (4, .int (a4 + (1 : Int32))), (0, .ref (gA G 24 0)), (1, .int a1), (2, .int a2), (3, .int a3), (6, .int a6)]) dX10_bound__137 (by decide) rfl ?_
              refine q_iload_n o dX10_bound__139 rfl ?_
              refine q_aload_n o dX10_bound__140 rfl ?_
              refine q_getR (q := 41) o sf_X10_bound__23 (by decide) dX10_bound__141 ?_
              refine q_iload o dX10_bound__144 rfl ?_
              refine q_iald (m := 11) o rfl rfl (by decide) hn19 hx20 dX10_bound__146 ?_
              refine q_callS o [.int a2, .int (v25 42 0 n18)] (ad_X10_share l G a2 (v25 42 0 n18) v25 h) gX10_bound__X10_share rfl ⟨by decide, by decide, pd_X10_share⟩ (by decide) (by decide) rfl (Nat.le_of_ble_eq_true rfl) dX10_bound__147 (fun r28 v27 h => ?_)
              refine q_iload_n o dX10_bound__150 rfl ?_
              refine q_ic_le o 166 dX10_bound__151 (by decide) (fun c31 => ?_) (fun c31 => ?_)
              · have h := h.1 c31
                refine q_iinc o (y := (a6 + (1 : Int32))) (lv' := [(6, .int (a6 + (1 : Int32))), (5, .int (a5 + (v25 41 0 n18))), (4, .int (a4 + (1 : Int32))), (0, .ref (gA G 24 0)), (1, .int a1), (2, .int a2), (3, .int a3)]) dX10_bound__166 rfl rfl (by decide) rfl ?_
                refine q_goto o 67 dX10_bound__169 (by decide) ?_
                refine q_lv [3, 4, 5, 6, 2, 1, 0] rfl ?_
                exact hK67 a1 a2 a3 (a4 + (1 : Int32)) (a5 + (v25 41 0 n18)) (a6 + (1 : Int32)) v27 h
              · have h := h.2 c31
                refine q_iload_n o dX10_bound__154 rfl ?_
                refine q_aload_n o dX10_bound__155 rfl ?_
                refine q_getR (q := 41) o sf_X10_bound__23 (by decide) dX10_bound__156 ?_
                refine q_iload o dX10_bound__159 rfl ?_
                refine q_iald (m := 11) o rfl rfl (by decide) hn19 hx20 dX10_bound__161 ?_
                refine q_callS o [.int a2, .int (v27 42 0 n18)] (ad_X10_share l G a2 (v27 42 0 n18) v27 h) gX10_bound__X10_share rfl ⟨by decide, by decide, pd_X10_share⟩ (by decide) (by decide) rfl (Nat.le_of_ble_eq_true rfl) dX10_bound__162 (fun r30 v29 h => ?_)
                refine q_istore_n o (lv' := [(3, .int r30), (5, .int (a5 + (v25 41 0 n18))), (4, .int (a4 + (1 : Int32))), (0, .ref (gA G 24 0)), (1, .int a1), (2, .int a2), (6, .int a6)]) dX10_bound__165 (by decide) rfl ?_
                refine q_iinc o (y := (a6 + (1 : Int32))) (lv' := [(6, .int (a6 + (1 : Int32))), (3, .int r30), (5, .int (a5 + (v25 41 0 n18))), (4, .int (a4 + (1 : Int32))), (0, .ref (gA G 24 0)), (1, .int a1), (2, .int a2)]) dX10_bound__166 rfl rfl (by decide) rfl ?_
                refine q_goto o 67 dX10_bound__169 (by decide) ?_
                refine q_lv [4, 5, 6, 1, 3, 2, 0] rfl ?_
                exact hK67 a1 a2 r30 (a4 + (1 : Int32)) (a5 + (v25 41 0 n18)) (a6 + (1 : Int32)) v29 h
            · have h := h.2 c32
              refine q_iconst o dX10_bound__122 (x := (-1 : Int32)) (by decide) ?_
              exact q_iret o rt dX10_bound__123 h
      · have h := h.2 c35
        refine q_goto o 166 dX10_bound__92 (by decide) ?_
        refine q_iinc o (y := (a6 + (1 : Int32))) (lv' := [(6, .int (a6 + (1 : Int32))), (0, .ref (gA G 24 0)), (1, .int a1), (2, .int a2), (3, .int a3), (4, .int a4), (5, .int a5)]) dX10_bound__166 rfl rfl (by decide) rfl ?_
        refine q_goto o 67 dX10_bound__169 (by decide) ?_
        refine q_lv [1, 2, 3, 4, 5, 6, 0] rfl ?_
        exact hK67 a1 a2 a3 a4 a5 (a6 + (1 : Int32)) v h
def wp_X10_bound_ (a1 : Int32) (v : St3) (post : (Int32 → St3 → Prop)) : Prop := ∀ v1, v1 = up3 v 24 0 0 (0 : Int32) → wp_X10_isPeer a1 v1 (fun r4 v3 => ((r4 = 0 → post (-1 : Int32) v3) ∧ (¬ r4 = 0 → ∃ n5, n5 < 12 ∧ a1 = nI n5 ∧ (((v3 43 0 n5) = 0 → post (-1 : Int32) v3) ∧ (¬ (v3 43 0 n5) = 0 → wp_X10_isDone a1 v3 (fun r9 v8 => ((¬ r9 = 0 → wp_X10_share ((v8 24 0 1) * (v8 24 0 2)) (v8 41 0 n5) v8 (fun r11 v10 => wL_X10_bound__67 post FU a1 ((v8 24 0 1) * (v8 24 0 2)) r11 (0 : Int32) (v10 41 0 n5) (0 : Int32) v10)) ∧ (r9 = 0 → post (-1 : Int32) v8))))))))
set_option maxRecDepth 20000 in
set_option maxHeartbeats 4000000 in
theorem ad_X10_bound_ (l : Launch) (G : Geo) (a1 : Int32) (v : St3) {post : (Int32 → St3 → Prop)} (h : wp_X10_bound_ a1 v post) : CI l G yX10_bound_ wsX10_bound_ 3 [.ref (gA G 24 0), .int a1] v post := by
  refine CI.of (ty := .int) (cc := cX10_bound_) (maxL := 7) (by decide) rfl (Nat.le_of_ble_eq_true rfl) (fun X o rt => ?_)
  unfold wp_X10_bound_ at h
  show J l G X 0 [(0, .ref (gA G 24 0)), (1, .int a1)] [] v
  refine q_aload_n o dX10_bound__0 rfl ?_
  refine q_iconst o dX10_bound__1 (x := (0 : Int32)) (by decide) ?_
  refine q_putI o sp_X10_bound__120 (by decide) dX10_bound__2 (fun v1 e2 => ?_)
  have h := h v1 e2
  refine q_aload_n o dX10_bound__5 rfl ?_
  refine q_iload_n o dX10_bound__6 rfl ?_
  refine q_callV o [.int a1] (ad_X10_isPeer l G a1 v1 h) gX10_bound__X10_isPeer rfl rfl rfl rfl (by decide) ⟨rfl, by decide, by decide, pd_X10_isPeer⟩ (by decide) (by decide) rfl (Nat.le_of_ble_eq_true rfl) dX10_bound__7 (fun r4 v3 h => ?_)
  refine q_if_eq o 30 dX10_bound__10 (by decide) (fun c40 => ?_) (fun c40 => ?_)
  · have h := h.1 c40
    refine q_iconst o dX10_bound__30 (x := (-1 : Int32)) (by decide) ?_
    exact q_iret o rt dX10_bound__31 h
  · have h := h.2 c40
    refine q_aload_n o dX10_bound__13 rfl ?_
    refine q_getR (q := 42) o sf_X10_bound__26 (by decide) dX10_bound__14 ?_
    refine q_iload_n o dX10_bound__17 rfl ?_
    obtain ⟨n5, hn6, hx7, h⟩ := h
    refine q_zald (m := 11) o rfl rfl (by decide) hn6 hx7 dX10_bound__18 ?_
    refine q_if_eq o 30 dX10_bound__19 (by decide) (fun c39 => ?_) (fun c39 => ?_)
    · have h := h.1 c39
      refine q_iconst o dX10_bound__30 (x := (-1 : Int32)) (by decide) ?_
      exact q_iret o rt dX10_bound__31 h
    · have h := h.2 c39
      refine q_aload_n o dX10_bound__22 rfl ?_
      refine q_iload_n o dX10_bound__23 rfl ?_
      refine q_callV o [.int a1] (ad_X10_isDone l G a1 v3 h) gX10_bound__X10_isDone rfl rfl rfl rfl (by decide) ⟨rfl, by decide, by decide, pd_X10_isDone⟩ (by decide) (by decide) rfl (Nat.le_of_ble_eq_true rfl) dX10_bound__24 (fun r9 v8 h => ?_)
      refine q_if_ne o 32 dX10_bound__27 (by decide) (fun c38 => ?_) (fun c38 => ?_)
      · have h := h.1 c38
        refine q_aload_n o dX10_bound__32 rfl ?_
        refine q_getI o sf_X10_bound__7 (by decide) dX10_bound__33 ?_
        refine q_aload_n o dX10_bound__36 rfl ?_
        refine q_getI o sf_X10_bound__13 (by decide) dX10_bound__37 ?_
        refine q_imul o dX10_bound__40 ?_
        refine q_istore_n o (lv' := [(2, .int ((v8 24 0 1) * (v8 24 0 2))), (0, .ref (gA G 24 0)), (1, .int a1)]) dX10_bound__41 (by decide) rfl ?_
        refine q_iload_n o dX10_bound__42 rfl ?_
        refine q_aload_n o dX10_bound__43 rfl ?_
        refine q_getR (q := 40) o sf_X10_bound__20 (by decide) dX10_bound__44 ?_
        refine q_iload_n o dX10_bound__47 rfl ?_
        refine q_iald (m := 11) o rfl rfl (by decide) hn6 hx7 dX10_bound__48 ?_
        refine q_callS o [.int ((v8 24 0 1) * (v8 24 0 2)), .int (v8 41 0 n5)] (ad_X10_share l G ((v8 24 0 1) * (v8 24 0 2)) (v8 41 0 n5) v8 h) gX10_bound__X10_share rfl ⟨by decide, by decide, pd_X10_share⟩ (by decide) (by decide) rfl (Nat.le_of_ble_eq_true rfl) dX10_bound__49 (fun r11 v10 h => ?_)
        refine q_istore_n o (lv' := [(3, .int r11), (2, .int ((v8 24 0 1) * (v8 24 0 2))), (0, .ref (gA G 24 0)), (1, .int a1)]) dX10_bound__52 (by decide) rfl ?_
        refine q_iconst o dX10_bound__53 (x := (0 : Int32)) (by decide) ?_
        refine q_istore o (lv' := [(4, .int (0 : Int32)), (3, .int r11), (2, .int ((v8 24 0 1) * (v8 24 0 2))), (0, .ref (gA G 24 0)), (1, .int a1)]) dX10_bound__54 (by decide) rfl ?_
        refine q_aload_n o dX10_bound__56 rfl ?_
        refine q_getR (q := 40) o sf_X10_bound__20 (by decide) dX10_bound__57 ?_
        refine q_iload_n o dX10_bound__60 rfl ?_
        refine q_iald (m := 11) o rfl rfl (by decide) hn6 hx7 dX10_bound__61 ?_
        refine q_istore o (lv' := [(5, .int (v10 41 0 n5)), (4, .int (0 : Int32)), (3, .int r11), (2, .int ((v8 24 0 1) * (v8 24 0 2))), (0, .ref (gA G 24 0)), (1, .int a1)]) dX10_bound__62 (by decide) rfl ?_
        refine q_iconst o dX10_bound__64 (x := (0 : Int32)) (by decide) ?_
        refine q_istore o (lv' := [(6, .int (0 : Int32)), (5, .int (v10 41 0 n5)), (4, .int (0 : Int32)), (3, .int r11), (2, .int ((v8 24 0 1) * (v8 24 0 2))), (0, .ref (gA G 24 0)), (1, .int a1)]) dX10_bound__65 (by decide) rfl ?_
        refine q_lv [5, 6, 4, 3, 2, 1, 0] rfl ?_
        exact aL_X10_bound__67 o rt FU a1 ((v8 24 0 1) * (v8 24 0 2)) r11 (0 : Int32) (v10 41 0 n5) (0 : Int32) v10 h
      · have h := h.2 c38
        refine q_iconst o dX10_bound__30 (x := (-1 : Int32)) (by decide) ?_
        exact q_iret o rt dX10_bound__31 h
theorem pd_X10_bound_ : (parseMethodDescriptor yX10_bound_.desc).map (fun d => d.parameters.length) = some 1 := by decide +kernel
-- PieceSwarmModel.count(I)I
theorem inn_X10_count__X10 : ∀ w ∈ wsX100, w ∈ wsX10_count_ := by decide +kernel
theorem sp_X10_count__120 : SP wsX10_count_ RX10 120 24 0 := ⟨RX10, TX10, 45, tyX10, rfl, rfl, rfl, rfl, by decide, inn_X10_count__X10, by decide +kernel, tyX10_ok, nmX10, rfl, by decide +kernel⟩
theorem sf_X10_count__202 : SF wsX10_count_ RX10 202 24 5 0 := ⟨RX10, TX10, 45, rfl, rfl, rfl, rfl, by decide, inn_X10_count__X10, by decide +kernel⟩
theorem sf_X10_count__136 : SF wsX10_count_ RX10 136 24 4 0 := ⟨RX10, TX10, 45, rfl, rfl, rfl, rfl, by decide, inn_X10_count__X10, by decide +kernel⟩
theorem sf_X10_count__26 : SF wsX10_count_ RX10 26 24 13 43 := ⟨RX10, TX10, 45, rfl, rfl, rfl, rfl, by decide, inn_X10_count__X10, by decide +kernel⟩
theorem sf_X10_count__7 : SF wsX10_count_ RX10 7 24 1 0 := ⟨RX10, TX10, 45, rfl, rfl, rfl, rfl, by decide, inn_X10_count__X10, by decide +kernel⟩
theorem sf_X10_count__13 : SF wsX10_count_ RX10 13 24 2 0 := ⟨RX10, TX10, 45, rfl, rfl, rfl, rfl, by decide, inn_X10_count__X10, by decide +kernel⟩
theorem sf_X10_count__221 : SF wsX10_count_ RX10 221 24 6 0 := ⟨RX10, TX10, 45, rfl, rfl, rfl, rfl, by decide, inn_X10_count__X10, by decide +kernel⟩
theorem sf_X10_count__170 : SF wsX10_count_ RX10 170 24 34 0 := ⟨RX10, TX10, 45, rfl, rfl, rfl, rfl, by decide, inn_X10_count__X10, by decide +kernel⟩
theorem sf_X10_count__177 : SF wsX10_count_ RX10 177 24 7 0 := ⟨RX10, TX10, 45, rfl, rfl, rfl, rfl, by decide, inn_X10_count__X10, by decide +kernel⟩
theorem sf_X10_count__180 : SF wsX10_count_ RX10 180 24 8 0 := ⟨RX10, TX10, 45, rfl, rfl, rfl, rfl, by decide, inn_X10_count__X10, by decide +kernel⟩
theorem sf_X10_count__190 : SF wsX10_count_ RX10 190 24 9 0 := ⟨RX10, TX10, 45, rfl, rfl, rfl, rfl, by decide, inn_X10_count__X10, by decide +kernel⟩
def wB_X10_count__94 (post : (Int32 → St3 → Prop)) (K94 : Int32 → Int32 → St3 → Prop) (a2 : Int32) (a3 : Int32) (v : St3) : Prop := (((v 24 0 4) ≤ a3 → post a2 v) ∧ (¬ (v 24 0 4) ≤ a3 → ∃ n6, n6 < 12 ∧ a3 = nI n6 ∧ (((v 43 0 n6) = 0 → K94 (a2 + (0 : Int32)) (a3 + (1 : Int32)) v) ∧ (¬ (v 43 0 n6) = 0 → wp_X10_isDone a3 v (fun r10 v9 => ((r10 = 0 → K94 (a2 + (0 : Int32)) (a3 + (1 : Int32)) v9) ∧ (¬ r10 = 0 → K94 (a2 + (1 : Int32)) (a3 + (1 : Int32)) v9)))))))
def wL_X10_count__94 (post : (Int32 → St3 → Prop)) : Nat → Int32 → Int32 → St3 → Prop
  | 0, _, _, _ => False
  | f + 1, a2, a3, v => wB_X10_count__94 post (wL_X10_count__94 post f) a2 a3 v
set_option maxRecDepth 20000 in
set_option maxHeartbeats 4000000 in
theorem aL_X10_count__94 {l : Launch} {G : Geo} {X : CT} (o : OK G X cX10_count_ wsX10_count_ RX10 2 4) {post : (Int32 → St3 → Prop)} (rt : RI G X .int post) : ∀ (f : Nat) (a2 : Int32) (a3 : Int32) (v : St3), wL_X10_count__94 post f a2 a3 v → J l G X 94 [(0, .ref (gA G 24 0)), (2, .int a2), (3, .int a3)] [] v := by
  intro f
  induction f with
  | zero => intro _ _ _ h; exact False.elim h
  | succ f hK94 =>
  intro a2 a3 v h
  have h : wB_X10_count__94 post (wL_X10_count__94 post f) a2 a3 v := h
  unfold wB_X10_count__94 at h
  refine q_iload_n o dX10_count__94 rfl ?_
  refine q_aload_n o dX10_count__95 rfl ?_
  refine q_getI o sf_X10_count__136 (by decide) dX10_count__96 ?_
  refine q_ic_ge o 133 dX10_count__99 (by decide) (fun c13 => ?_) (fun c13 => ?_)
  · have h := h.1 c13
    refine q_iload_n o dX10_count__133 rfl ?_
    exact q_iret o rt dX10_count__134 h
  · have h := h.2 c13
    refine q_iload_n o dX10_count__102 rfl ?_
    refine q_aload_n o dX10_count__103 rfl ?_
    refine q_getR (q := 42) o sf_X10_count__26 (by decide) dX10_count__104 ?_
    refine q_iload_n o dX10_count__107 rfl ?_
    obtain ⟨n6, hn7, hx8, h⟩ := h
    refine q_zald (m := 11) o rfl rfl (by decide) hn7 hx8 dX10_count__108 ?_
    refine q_if_eq o 124 dX10_count__109 (by decide) (fun c12 => ?_) (fun c12 => ?_)
    · have h := h.1 c12
      refine q_iconst o dX10_count__124 (x := (0 : Int32)) (by decide) ?_
      refine q_iadd o dX10_count__125 ?_
      refine q_istore_n o (lv' := [(2, .int (a2 + (0 : Int32))), (0, .ref (gA G 24 0)), (3, .int a3)]) dX10_count__126 (by decide) rfl ?_
      refine q_iinc o (y := (a3 + (1 : Int32))) (lv' := [(3, .int (a3 + (1 : Int32))), (2, .int (a2 + (0 : Int32))), (0, .ref (gA G 24 0))]) dX10_count__127 rfl rfl (by decide) rfl ?_
      refine q_goto o 94 dX10_count__130 (by decide) ?_
      refine q_lv [2, 1, 0] rfl ?_
      exact hK94 (a2 + (0 : Int32)) (a3 + (1 : Int32)) v h
    · have h := h.2 c12
      refine q_aload_n o dX10_count__112 rfl ?_
      refine q_iload_n o dX10_count__113 rfl ?_
      refine q_callV o [.int a3] (ad_X10_isDone l G a3 v h) gX10_count__X10_isDone rfl rfl rfl rfl (by decide) ⟨rfl, by decide, by decide, pd_X10_isDone⟩ (by decide) (by decide) rfl (Nat.le_of_ble_eq_true rfl) dX10_count__114 (fun r10 v9 h => ?_)
      refine q_if_eq o 124 dX10_count__117 (by decide) (fun c11 => ?_) (fun c11 => ?_)
      · have h := h.1 c11
        refine q_iconst o dX10_count__124 (x := (0 : Int32)) (by decide) ?_
        refine q_iadd o dX10_count__125 ?_
        refine q_istore_n o (lv' := [(2, .int (a2 + (0 : Int32))), (0, .ref (gA G 24 0)), (3, .int a3)]) dX10_count__126 (by decide) rfl ?_
        refine q_iinc o (y := (a3 + (1 : Int32))) (lv' := [(3, .int (a3 + (1 : Int32))), (2, .int (a2 + (0 : Int32))), (0, .ref (gA G 24 0))]) dX10_count__127 rfl rfl (by decide) rfl ?_
        refine q_goto o 94 dX10_count__130 (by decide) ?_
        refine q_lv [2, 1, 0] rfl ?_
        exact hK94 (a2 + (0 : Int32)) (a3 + (1 : Int32)) v9 h
      · have h := h.2 c11
        refine q_iconst o dX10_count__120 (x := (1 : Int32)) (by decide) ?_
        refine q_goto o 125 dX10_count__121 (by decide) ?_
        refine q_iadd o dX10_count__125 ?_
        refine q_istore_n o (lv' := [(2, .int (a2 + (1 : Int32))), (0, .ref (gA G 24 0)), (3, .int a3)]) dX10_count__126 (by decide) rfl ?_
        refine q_iinc o (y := (a3 + (1 : Int32))) (lv' := [(3, .int (a3 + (1 : Int32))), (2, .int (a2 + (1 : Int32))), (0, .ref (gA G 24 0))]) dX10_count__127 rfl rfl (by decide) rfl ?_
        refine q_goto o 94 dX10_count__130 (by decide) ?_
        refine q_lv [2, 1, 0] rfl ?_
        exact hK94 (a2 + (1 : Int32)) (a3 + (1 : Int32)) v9 h
def wp_X10_count_ (a1 : Int32) (v : St3) (post : (Int32 → St3 → Prop)) : Prop := ∀ v1, v1 = up3 v 24 0 0 (0 : Int32) → ((a1 = nI 0 → post (v1 24 0 5) v1) ∧ (a1 = nI 1 → post (v1 24 0 4) v1) ∧ (a1 = nI 2 → wp_X10_count_43 (0 : Int32) (v1 24 0 4) v1 (fun r5 v4 => post r5 v4)) ∧ (a1 = nI 3 → wL_X10_count__94 post FU (0 : Int32) (0 : Int32) v1) ∧ (a1 = nI 4 → post (v1 24 0 1) v1) ∧ (a1 = nI 5 → post (v1 24 0 2) v1) ∧ (a1 = nI 6 → post (v1 24 0 6) v1) ∧ (a1 = nI 7 → post (v1 24 0 34) v1) ∧ (a1 = nI 8 → post (v1 24 0 7) v1) ∧ (a1 = nI 9 → post (v1 24 0 8) v1) ∧ (a1 = nI 10 → post (v1 24 0 9) v1) ∧ ((a1 < 0 ∨ nI 11 ≤ a1) → post (-1 : Int32) v1))
set_option maxRecDepth 20000 in
set_option maxHeartbeats 4000000 in
theorem ad_X10_count_ (l : Launch) (G : Geo) (a1 : Int32) (v : St3) {post : (Int32 → St3 → Prop)} (h : wp_X10_count_ a1 v post) : CI l G yX10_count_ wsX10_count_ 2 [.ref (gA G 24 0), .int a1] v post := by
  refine CI.of (ty := .int) (cc := cX10_count_) (maxL := 4) (by decide) rfl (Nat.le_of_ble_eq_true rfl) (fun X o rt => ?_)
  unfold wp_X10_count_ at h
  show J l G X 0 [(0, .ref (gA G 24 0)), (1, .int a1)] [] v
  refine q_aload_n o dX10_count__0 rfl ?_
  refine q_iconst o dX10_count__1 (x := (0 : Int32)) (by decide) ?_
  refine q_putI o sp_X10_count__120 (by decide) dX10_count__2 (fun v1 e2 => ?_)
  have h := h v1 e2
  refine q_iconst o dX10_count__5 (x := (0 : Int32)) (by decide) ?_
  refine q_istore_n o (lv' := [(2, .int (0 : Int32)), (0, .ref (gA G 24 0)), (1, .int a1)]) dX10_count__6 (by decide) rfl ?_
  refine q_iload_n o dX10_count__7 rfl ?_
  refine q_tab o [68, 73, 78, 92, 135, 140, 145, 150, 155, 160, 165] 170 dX10_count__8 rfl rfl (by decide) (by decide +kernel) (by decide) (fun n0 hn0 c3 => ?_) (fun c3 => ?_)
  · match n0, hn0, c3 with
    | 0, _, c3 =>
      have h := h.1 c3
      change J l G X 68 [(2, .int (0 : Int32)), (0, .ref (gA G 24 0)), (1, .int a1)] [] v1
      refine q_aload_n o dX10_count__68 rfl ?_
      refine q_getI o sf_X10_count__202 (by decide) dX10_count__69 ?_
      exact q_iret o rt dX10_count__72 h
    | 1, _, c3 =>
      have h := h.2.1 c3
      change J l G X 73 [(2, .int (0 : Int32)), (0, .ref (gA G 24 0)), (1, .int a1)] [] v1
      refine q_aload_n o dX10_count__73 rfl ?_
      refine q_getI o sf_X10_count__136 (by decide) dX10_count__74 ?_
      exact q_iret o rt dX10_count__77 h
    | 2, _, c3 =>
      have h := h.2.2.1 c3
      change J l G X 78 [(2, .int (0 : Int32)), (0, .ref (gA G 24 0)), (1, .int a1)] [] v1
      refine q_aload_n o dX10_count__78 rfl ?_
      refine q_aload_n o dX10_count__79 rfl ?_
      refine q_getR (q := 42) o sf_X10_count__26 (by decide) dX10_count__80 ?_
      refine q_iconst o dX10_count__83 (x := (0 : Int32)) (by decide) ?_
      refine q_aload_n o dX10_count__84 rfl ?_
      refine q_getI o sf_X10_count__136 (by decide) dX10_count__85 ?_
      refine q_callV o [.ref (gA G 43 0), .int (0 : Int32), .int (v1 24 0 4)] (ad_X10_count_43 l G (0 : Int32) (v1 24 0 4) v1 h) gX10_count__X10_count rfl rfl rfl rfl (by decide) ⟨rfl, by decide, by decide, pd_X10_count⟩ (by decide) (by decide) rfl (Nat.le_of_ble_eq_true rfl) dX10_count__88 (fun r5 v4 h => ?_)
      exact q_iret o rt dX10_count__91 h
    | 3, _, c3 =>
      have h := h.2.2.2.1 c3
      change J l G X 92 [(2, .int (0 : Int32)), (0, .ref (gA G 24 0)), (1, .int a1)] [] v1
      refine q_iconst o dX10_count__92 (x := (0 : Int32)) (by decide) ?_
      refine q_istore_n o (lv' := [(3, .int (0 : Int32)), (2, .int (0 : Int32)), (0, .ref (gA G 24 0)), (1, .int a1)]) dX10_count__93 (by decide) rfl ?_
      refine q_lv [2, 1, 0] rfl ?_
      exact aL_X10_count__94 o rt FU (0 : Int32) (0 : Int32) v1 h
    | 4, _, c3 =>
      have h := h.2.2.2.2.1 c3
      change J l G X 135 [(2, .int (0 : Int32)), (0, .ref (gA G 24 0)), (1, .int a1)] [] v1
      refine q_aload_n o dX10_count__135 rfl ?_
      refine q_getI o sf_X10_count__7 (by decide) dX10_count__136 ?_
      exact q_iret o rt dX10_count__139 h
    | 5, _, c3 =>
      have h := h.2.2.2.2.2.1 c3
      change J l G X 140 [(2, .int (0 : Int32)), (0, .ref (gA G 24 0)), (1, .int a1)] [] v1
      refine q_aload_n o dX10_count__140 rfl ?_
      refine q_getI o sf_X10_count__13 (by decide) dX10_count__141 ?_
      exact q_iret o rt dX10_count__144 h
    | 6, _, c3 =>
      have h := h.2.2.2.2.2.2.1 c3
      change J l G X 145 [(2, .int (0 : Int32)), (0, .ref (gA G 24 0)), (1, .int a1)] [] v1
      refine q_aload_n o dX10_count__145 rfl ?_
      refine q_getI o sf_X10_count__221 (by decide) dX10_count__146 ?_
      exact q_iret o rt dX10_count__149 h
    | 7, _, c3 =>
      have h := h.2.2.2.2.2.2.2.1 c3
      change J l G X 150 [(2, .int (0 : Int32)), (0, .ref (gA G 24 0)), (1, .int a1)] [] v1
      refine q_aload_n o dX10_count__150 rfl ?_
      refine q_getI o sf_X10_count__170 (by decide) dX10_count__151 ?_
      exact q_iret o rt dX10_count__154 h
    | 8, _, c3 =>
      have h := h.2.2.2.2.2.2.2.2.1 c3
      change J l G X 155 [(2, .int (0 : Int32)), (0, .ref (gA G 24 0)), (1, .int a1)] [] v1
      refine q_aload_n o dX10_count__155 rfl ?_
      refine q_getI o sf_X10_count__177 (by decide) dX10_count__156 ?_
      exact q_iret o rt dX10_count__159 h
    | 9, _, c3 =>
      have h := h.2.2.2.2.2.2.2.2.2.1 c3
      change J l G X 160 [(2, .int (0 : Int32)), (0, .ref (gA G 24 0)), (1, .int a1)] [] v1
      refine q_aload_n o dX10_count__160 rfl ?_
      refine q_getI o sf_X10_count__180 (by decide) dX10_count__161 ?_
      exact q_iret o rt dX10_count__164 h
    | 10, _, c3 =>
      have h := h.2.2.2.2.2.2.2.2.2.2.1 c3
      change J l G X 165 [(2, .int (0 : Int32)), (0, .ref (gA G 24 0)), (1, .int a1)] [] v1
      refine q_aload_n o dX10_count__165 rfl ?_
      refine q_getI o sf_X10_count__190 (by decide) dX10_count__166 ?_
      exact q_iret o rt dX10_count__169 h
    | (n0 + 11), hn0, _ => exact absurd hn0 (by show ¬ (n0 + 11 < 11); omega)
  · have h := h.2.2.2.2.2.2.2.2.2.2.2 c3
    refine q_iconst o dX10_count__170 (x := (-1 : Int32)) (by decide) ?_
    exact q_iret o rt dX10_count__171 h
theorem pd_X10_count_ : (parseMethodDescriptor yX10_count_.desc).map (fun d => d.parameters.length) = some 1 := by decide +kernel
