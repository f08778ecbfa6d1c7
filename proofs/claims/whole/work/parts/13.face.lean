-- PieceSwarm.file(III)Z
theorem inn_X9_file_X9 : ∀ w ∈ wsX90, w ∈ wsX9_file := by decide +kernel
theorem sf_X9_file_10 : SF wsX9_file RX9 10 0 0 1 := ⟨RX9, TX9, 4, rfl, rfl, rfl, rfl, by decide, inn_X9_file_X9, by decide +kernel⟩
theorem inn_X9_file_X2 : ∀ w ∈ wsX20, w ∈ wsX9_file := by decide +kernel
theorem sf_X9_file_39 : SF wsX9_file RX9 39 1 3 0 := ⟨RX2, TX2, 8, rfl, rfl, rfl, rfl, by decide, inn_X9_file_X2, by decide +kernel⟩
theorem sf_X9_file_47 : SF wsX9_file RX9 47 1 0 5 := ⟨RX2, TX2, 8, rfl, rfl, rfl, rfl, by decide, inn_X9_file_X2, by decide +kernel⟩
def wp_X9_file (a1 : Int32) (a2 : Int32) (a3 : Int32) (v : St3) (post : (Int32 → St3 → Prop)) : Prop := ((0 < (v 1 0 3) → post (0 : Int32) v) ∧ (¬ 0 < (v 1 0 3) → wp_X9_isWithin a1 (1 : Int32) (24 : Int32) v (fun r2 v1 => ((r2 = 0 → post (0 : Int32) v1) ∧ (¬ r2 = 0 → wp_X9_isWithin a2 (1 : Int32) (4 : Int32) v1 (fun r4 v3 => ((¬ r4 = 0 → wp_X8_become a1 a2 a3 v3 (fun v5 => post (1 : Int32) v5)) ∧ (r4 = 0 → post (0 : Int32) v3))))))))
set_option maxRecDepth 20000 in
set_option maxHeartbeats 4000000 in
theorem ad_X9_file (l : Launch) (G : Geo) (a1 : Int32) (a2 : Int32) (a3 : Int32) (v : St3) {post : (Int32 → St3 → Prop)} (h : wp_X9_file a1 a2 a3 v post) : CI l G yX9_file wsX9_file 1 [.ref (gA G 0 0), .int a1, .int a2, .int a3] v post := by
  refine CI.of (ty := .boolean) (cc := cX9_file) (maxL := 4) (by decide) rfl (Nat.le_of_ble_eq_true rfl) (fun X o rt => ?_)
  unfold wp_X9_file at h
  show J l G X 0 [(0, .ref (gA G 0 0)), (1, .int a1), (2, .int a2), (3, .int a3)] [] v
  refine q_aload_n o dX9_file_0 rfl ?_
  refine q_getR (q := 0) o sf_X9_file_10 (by decide) dX9_file_1 ?_
  refine q_getI o sf_X9_file_39 (by decide) dX9_file_4 ?_
  refine q_if_gt o 29 dX9_file_7 (by decide) (fun c9 => ?_) (fun c9 => ?_)
  · have h := h.1 c9
    refine q_iconst o dX9_file_29 (x := (0 : Int32)) (by decide) ?_
    exact q_zret o rt dX9_file_30 (by decide) h
  · have h := h.2 c9
    refine q_iload_n o dX9_file_10 rfl ?_
    refine q_iconst o dX9_file_11 (x := (1 : Int32)) (by decide) ?_
    refine q_bipush o dX9_file_12 (x := (24 : Int32)) (by decide) ?_
    refine q_callS o [.int a1, .int (1 : Int32), .int (24 : Int32)] (ad_X9_isWithin l G a1 (1 : Int32) (24 : Int32) v h) gX9_file_X9_isWithin rfl ⟨by decide, by decide, pd_X9_isWithin⟩ (by decide) (by decide) rfl (Nat.le_of_ble_eq_true rfl) dX9_file_14 (fun r2 v1 h => ?_)
    refine q_if_eq o 29 dX9_file_17 (by decide) (fun c8 => ?_) (fun c8 => ?_)
    · have h := h.1 c8
      refine q_iconst o dX9_file_29 (x := (0 : Int32)) (by decide) ?_
      exact q_zret o rt dX9_file_30 (by decide) h
    · have h := h.2 c8
      refine q_iload_n o dX9_file_20 rfl ?_
      refine q_iconst o dX9_file_21 (x := (1 : Int32)) (by decide) ?_
      refine q_iconst o dX9_file_22 (x := (4 : Int32)) (by decide) ?_
      refine q_callS o [.int a2, .int (1 : Int32), .int (4 : Int32)] (ad_X9_isWithin l G a2 (1 : Int32) (4 : Int32) v1 h) gX9_file_X9_isWithin rfl ⟨by decide, by decide, pd_X9_isWithin⟩ (by decide) (by decide) rfl (Nat.le_of_ble_eq_true rfl) dX9_file_23 (fun r4 v3 h => ?_)
      refine q_if_ne o 31 dX9_file_26 (by decide) (fun c7 => ?_) (fun c7 => ?_)
      · have h := h.1 c7
        refine q_aload_n o dX9_file_31 rfl ?_
        refine q_getR (q := 0) o sf_X9_file_10 (by decide) dX9_file_32 ?_
        refine q_getR (q := 4) o sf_X9_file_47 (by decide) dX9_file_35 ?_
        refine q_iload_n o dX9_file_38 rfl ?_
        refine q_iload_n o dX9_file_39 rfl ?_
        refine q_iload_n o dX9_file_40 rfl ?_
        refine q_callVv o [.int a1, .int a2, .int a3] (ad_X8_become l G a1 a2 a3 v3 h) gX9_file_X8_become rfl rfl rfl rfl (by decide) ⟨rfl, by decide, by decide, pd_X8_become⟩ (by decide) (by decide) rfl (Nat.le_of_ble_eq_true rfl) dX9_file_41 (fun v5 h => ?_)
        refine q_iconst o dX9_file_44 (x := (1 : Int32)) (by decide) ?_
        exact q_zret o rt dX9_file_45 (by decide) h
      · have h := h.2 c7
        refine q_iconst o dX9_file_29 (x := (0 : Int32)) (by decide) ?_
        exact q_zret o rt dX9_file_30 (by decide) h
theorem pd_X9_file : (parseMethodDescriptor yX9_file.desc).map (fun d => d.parameters.length) = some 3 := by decide +kernel
-- PieceSwarm.value(II)I
theorem inn_X9_value_X9 : ∀ w ∈ wsX90, w ∈ wsX9_value := by decide +kernel
theorem sf_X9_value_10 : SF wsX9_value RX9 10 0 0 1 := ⟨RX9, TX9, 4, rfl, rfl, rfl, rfl, by decide, inn_X9_value_X9, by decide +kernel⟩
theorem inn_X9_value_X2 : ∀ w ∈ wsX20, w ∈ wsX9_value := by decide +kernel
theorem sf_X9_value_47 : SF wsX9_value RX9 47 1 0 5 := ⟨RX2, TX2, 8, rfl, rfl, rfl, rfl, by decide, inn_X9_value_X2, by decide +kernel⟩
def wp_X9_value (a1 : Int32) (a2 : Int32) (v : St3) (post : (Int32 → St3 → Prop)) : Prop := wp_X8_isBlock a1 a2 v (fun r2 v1 => ((r2 = 0 → post (0 : Int32) v1) ∧ (¬ r2 = 0 → wp_X8_valueOf a1 a2 v1 (fun r4 v3 => post r4 v3))))
set_option maxRecDepth 20000 in
set_option maxHeartbeats 4000000 in
theorem ad_X9_value (l : Launch) (G : Geo) (a1 : Int32) (a2 : Int32) (v : St3) {post : (Int32 → St3 → Prop)} (h : wp_X9_value a1 a2 v post) : CI l G yX9_value wsX9_value 2 [.ref (gA G 0 0), .int a1, .int a2] v post := by
  refine CI.of (ty := .int) (cc := cX9_value) (maxL := 3) (by decide) rfl (Nat.le_of_ble_eq_true rfl) (fun X o rt => ?_)
  unfold wp_X9_value at h
  show J l G X 0 [(0, .ref (gA G 0 0)), (1, .int a1), (2, .int a2)] [] v
  refine q_aload_n o dX9_value_0 rfl ?_
  refine q_getR (q := 0) o sf_X9_value_10 (by decide) dX9_value_1 ?_
  refine q_getR (q := 4) o sf_X9_value_47 (by decide) dX9_value_4 ?_
  refine q_iload_n o dX9_value_7 rfl ?_
  refine q_iload_n o dX9_value_8 rfl ?_
  refine q_callV o [.int a1, .int a2] (ad_X8_isBlock l G a1 a2 v h) gX9_value_X8_isBlock rfl rfl rfl rfl (by decide) ⟨rfl, by decide, by decide, pd_X8_isBlock⟩ (by decide) (by decide) rfl (Nat.le_of_ble_eq_true rfl) dX9_value_9 (fun r2 v1 h => ?_)
  refine q_if_eq o 30 dX9_value_12 (by decide) (fun c5 => ?_) (fun c5 => ?_)
  · have h := h.1 c5
    refine q_iconst o dX9_value_30 (x := (0 : Int32)) (by decide) ?_
    exact q_iret o rt dX9_value_31 h
  · have h := h.2 c5
    refine q_aload_n o dX9_value_15 rfl ?_
    refine q_getR (q := 0) o sf_X9_value_10 (by decide) dX9_value_16 ?_
    refine q_getR (q := 4) o sf_X9_value_47 (by decide) dX9_value_19 ?_
    refine q_iload_n o dX9_value_22 rfl ?_
    refine q_iload_n o dX9_value_23 rfl ?_
    refine q_callV o [.int a1, .int a2] (ad_X8_valueOf l G a1 a2 v1 h) gX9_value_X8_valueOf rfl rfl rfl rfl (by decide) ⟨rfl, by decide, by decide, pd_X8_valueOf⟩ (by decide) (by decide) rfl (Nat.le_of_ble_eq_true rfl) dX9_value_24 (fun r4 v3 h => ?_)
    refine q_goto o 31 dX9_value_27 (by decide) ?_
    exact q_iret o rt dX9_value_31 h
theorem pd_X9_value : (parseMethodDescriptor yX9_value.desc).map (fun d => d.parameters.length) = some 2 := by decide +kernel
-- PieceSwarm.sum(I)I
theorem inn_X9_sum_X9 : ∀ w ∈ wsX90, w ∈ wsX9_sum := by decide +kernel
theorem sf_X9_sum_10 : SF wsX9_sum RX9 10 0 0 1 := ⟨RX9, TX9, 4, rfl, rfl, rfl, rfl, by decide, inn_X9_sum_X9, by decide +kernel⟩
theorem inn_X9_sum_X2 : ∀ w ∈ wsX20, w ∈ wsX9_sum := by decide +kernel
theorem sf_X9_sum_47 : SF wsX9_sum RX9 47 1 0 5 := ⟨RX2, TX2, 8, rfl, rfl, rfl, rfl, by decide, inn_X9_sum_X2, by decide +kernel⟩
def wp_X9_sum (a1 : Int32) (v : St3) (post : (Int32 → St3 → Prop)) : Prop := wp_X8_isPiece a1 v (fun r2 v1 => ((r2 = 0 → post (0 : Int32) v1) ∧ (¬ r2 = 0 → wp_X8_sumOf a1 v1 (fun r4 v3 => post r4 v3))))
set_option maxRecDepth 20000 in
set_option maxHeartbeats 4000000 in
theorem ad_X9_sum (l : Launch) (G : Geo) (a1 : Int32) (v : St3) {post : (Int32 → St3 → Prop)} (h : wp_X9_sum a1 v post) : CI l G yX9_sum wsX9_sum 2 [.ref (gA G 0 0), .int a1] v post := by
  refine CI.of (ty := .int) (cc := cX9_sum) (maxL := 2) (by decide) rfl (Nat.le_of_ble_eq_true rfl) (fun X o rt => ?_)
  unfold wp_X9_sum at h
  show J l G X 0 [(0, .ref (gA G 0 0)), (1, .int a1)] [] v
  refine q_aload_n o dX9_sum_0 rfl ?_
  refine q_getR (q := 0) o sf_X9_sum_10 (by decide) dX9_sum_1 ?_
  refine q_getR (q := 4) o sf_X9_sum_47 (by decide) dX9_sum_4 ?_
  refine q_iload_n o dX9_sum_7 rfl ?_
  refine q_callV o [.int a1] (ad_X8_isPiece l G a1 v h) gX9_sum_X8_isPiece rfl rfl rfl rfl (by decide) ⟨rfl, by decide, by decide, pd_X8_isPiece⟩ (by decide) (by decide) rfl (Nat.le_of_ble_eq_true rfl) dX9_sum_8 (fun r2 v1 h => ?_)
  refine q_if_eq o 28 dX9_sum_11 (by decide) (fun c5 => ?_) (fun c5 => ?_)
  · have h := h.1 c5
    refine q_iconst o dX9_sum_28 (x := (0 : Int32)) (by decide) ?_
    exact q_iret o rt dX9_sum_29 h
  · have h := h.2 c5
    refine q_aload_n o dX9_sum_14 rfl ?_
    refine q_getR (q := 0) o sf_X9_sum_10 (by decide) dX9_sum_15 ?_
    refine q_getR (q := 4) o sf_X9_sum_47 (by decide) dX9_sum_18 ?_
    refine q_iload_n o dX9_sum_21 rfl ?_
    refine q_callV o [.int a1] (ad_X8_sumOf l G a1 v1 h) gX9_sum_X8_sumOf rfl rfl rfl rfl (by decide) ⟨rfl, by decide, by decide, pd_X8_sumOf⟩ (by decide) (by decide) rfl (Nat.le_of_ble_eq_true rfl) dX9_sum_22 (fun r4 v3 h => ?_)
    refine q_goto o 29 dX9_sum_25 (by decide) ?_
    exact q_iret o rt dX9_sum_29 h
theorem pd_X9_sum : (parseMethodDescriptor yX9_sum.desc).map (fun d => d.parameters.length) = some 1 := by decide +kernel
-- PieceSwarm.peer(III)I
theorem inn_X9_peer_X9 : ∀ w ∈ wsX90, w ∈ wsX9_peer := by decide +kernel
theorem sf_X9_peer_10 : SF wsX9_peer RX9 10 0 0 1 := ⟨RX9, TX9, 4, rfl, rfl, rfl, rfl, by decide, inn_X9_peer_X9, by decide +kernel⟩
theorem inn_X9_peer_X2 : ∀ w ∈ wsX20, w ∈ wsX9_peer := by decide +kernel
theorem sf_X9_peer_39 : SF wsX9_peer RX9 39 1 3 0 := ⟨RX2, TX2, 8, rfl, rfl, rfl, rfl, by decide, inn_X9_peer_X2, by decide +kernel⟩
def wB_X9_peer_34 (post : (Int32 → St3 → Prop)) (a1 : Int32) (a2 : Int32) (a3 : Int32) (s0 : Int32) (v : St3) : Prop := ((s0 = 0 → post (-1 : Int32) v) ∧ (¬ s0 = 0 → (((v 1 0 3) < (12 : Int32) → wp_X2_takeIn a1 a2 a3 v (fun r4 v3 => post r4 v3)) ∧ (¬ (v 1 0 3) < (12 : Int32) → post (-1 : Int32) v))))
set_option maxRecDepth 20000 in
set_option maxHeartbeats 4000000 in
theorem aJ_X9_peer_34 {l : Launch} {G : Geo} {X : CT} (o : OK G X cX9_peer wsX9_peer RX9 3 5) {post : (Int32 → St3 → Prop)} (rt : RI G X .int post) (a1 : Int32) (a2 : Int32) (a3 : Int32) (s0 : Int32) (v : St3) (h : wB_X9_peer_34 post a1 a2 a3 s0 v) : J l G X 34 [(0, .ref (gA G 0 0)), (1, .int a1), (2, .int a2), (3, .int a3)] [.int s0] v := by
  unfold wB_X9_peer_34 at h
  refine q_istore o (lv' := [(4, .int s0), (0, .ref (gA G 0 0)), (1, .int a1), (2, .int a2), (3, .int a3)]) dX9_peer_34 (by decide) rfl ?_
  refine q_iload o dX9_peer_36 rfl ?_
  refine q_if_eq o 53 dX9_peer_38 (by decide) (fun c6 => ?_) (fun c6 => ?_)
  · have h := h.1 c6
    refine q_iconst o dX9_peer_53 (x := (-1 : Int32)) (by decide) ?_
    exact q_iret o rt dX9_peer_54 h
  · have h := h.2 c6
    refine q_aload_n o dX9_peer_41 rfl ?_
    refine q_getR (q := 0) o sf_X9_peer_10 (by decide) dX9_peer_42 ?_
    refine q_getI o sf_X9_peer_39 (by decide) dX9_peer_45 ?_
    refine q_bipush o dX9_peer_48 (x := (12 : Int32)) (by decide) ?_
    refine q_ic_lt o 55 dX9_peer_50 (by decide) (fun c5 => ?_) (fun c5 => ?_)
    · have h := h.1 c5
      refine q_aload_n o dX9_peer_55 rfl ?_
      refine q_getR (q := 0) o sf_X9_peer_10 (by decide) dX9_peer_56 ?_
      refine q_iload_n o dX9_peer_59 rfl ?_
      refine q_iload_n o dX9_peer_60 rfl ?_
      refine q_iload_n o dX9_peer_61 rfl ?_
      refine q_callV o [.int a1, .int a2, .int a3] (ad_X2_takeIn l G a1 a2 a3 v h) gX9_peer_X2_takeIn rfl rfl rfl rfl (by decide) ⟨rfl, by decide, by decide, pd_X2_takeIn⟩ (by decide) (by decide) rfl (Nat.le_of_ble_eq_true rfl) dX9_peer_62 (fun r4 v3 h => ?_)
      exact q_iret o rt dX9_peer_65 h
    · have h := h.2 c5
      refine q_iconst o dX9_peer_53 (x := (-1 : Int32)) (by decide) ?_
      exact q_iret o rt dX9_peer_54 h
def wp_X9_peer (a1 : Int32) (a2 : Int32) (a3 : Int32) (v : St3) (post : (Int32 → St3 → Prop)) : Prop := wp_X9_isWithin a1 (0 : Int32) (5 : Int32) v (fun r2 v1 => ((r2 = 0 → wB_X9_peer_34 post a1 a2 a3 (0 : Int32) v1) ∧ (¬ r2 = 0 → wp_X9_isWithin a2 (1 : Int32) (8 : Int32) v1 (fun r8 v7 => ((r8 = 0 → wB_X9_peer_34 post a1 a2 a3 (0 : Int32) v7) ∧ (¬ r8 = 0 → wp_X9_isWithin a3 (1 : Int32) (8 : Int32) v7 (fun r10 v9 => ((r10 = 0 → wB_X9_peer_34 post a1 a2 a3 (0 : Int32) v9) ∧ (¬ r10 = 0 → wB_X9_peer_34 post a1 a2 a3 (1 : Int32) v9)))))))))
set_option maxRecDepth 20000 in
set_option maxHeartbeats 4000000 in
theorem ad_X9_peer (l : Launch) (G : Geo) (a1 : Int32) (a2 : Int32) (a3 : Int32) (v : St3) {post : (Int32 → St3 → Prop)} (h : wp_X9_peer a1 a2 a3 v post) : CI l G yX9_peer wsX9_peer 3 [.ref (gA G 0 0), .int a1, .int a2, .int a3] v post := by
  refine CI.of (ty := .int) (cc := cX9_peer) (maxL := 5) (by decide) rfl (Nat.le_of_ble_eq_true rfl) (fun X o rt => ?_)
  unfold wp_X9_peer at h
  show J l G X 0 [(0, .ref (gA G 0 0)), (1, .int a1), (2, .int a2), (3, .int a3)] [] v
  refine q_iload_n o dX9_peer_0 rfl ?_
  refine q_iconst o dX9_peer_1 (x := (0 : Int32)) (by decide) ?_
  refine q_iconst o dX9_peer_2 (x := (5 : Int32)) (by decide) ?_
  refine q_callS o [.int a1, .int (0 : Int32), .int (5 : Int32)] (ad_X9_isWithin l G a1 (0 : Int32) (5 : Int32) v h) gX9_peer_X9_isWithin rfl ⟨by decide, by decide, pd_X9_isWithin⟩ (by decide) (by decide) rfl (Nat.le_of_ble_eq_true rfl) dX9_peer_3 (fun r2 v1 h => ?_)
  refine q_if_eq o 33 dX9_peer_6 (by decide) (fun c13 => ?_) (fun c13 => ?_)
  · have h := h.1 c13
    refine q_iconst o dX9_peer_33 (x := (0 : Int32)) (by decide) ?_
    exact aJ_X9_peer_34 o rt a1 a2 a3 (0 : Int32) v1 h
  · have h := h.2 c13
    refine q_iload_n o dX9_peer_9 rfl ?_
    refine q_iconst o dX9_peer_10 (x := (1 : Int32)) (by decide) ?_
    refine q_bipush o dX9_peer_11 (x := (8 : Int32)) (by decide) ?_
    refine q_callS o [.int a2, .int (1 : Int32), .int (8 : Int32)] (ad_X9_isWithin l G a2 (1 : Int32) (8 : Int32) v1 h) gX9_peer_X9_isWithin rfl ⟨by decide, by decide, pd_X9_isWithin⟩ (by decide) (by decide) rfl (Nat.le_of_ble_eq_true rfl) dX9_peer_13 (fun r8 v7 h => ?_)
    refine q_if_eq o 33 dX9_peer_16 (by decide) (fun c12 => ?_) (fun c12 => ?_)
    · have h := h.1 c12
      refine q_iconst o dX9_peer_33 (x := (0 : Int32)) (by decide) ?_
      exact aJ_X9_peer_34 o rt a1 a2 a3 (0 : Int32) v7 h
    · have h := h.2 c12
      refine q_iload_n o dX9_peer_19 rfl ?_
      refine q_iconst o dX9_peer_20 (x := (1 : Int32)) (by decide) ?_
      refine q_bipush o dX9_peer_21 (x := (8 : Int32)) (by decide) ?_
      refine q_callS o [.int a3, .int (1 : Int32), .int (8 : Int32)] (ad_X9_isWithin l G a3 (1 : Int32) (8 : Int32) v7 h) gX9_peer_X9_isWithin rfl ⟨by decide, by decide, pd_X9_isWithin⟩ (by decide) (by decide) rfl (Nat.le_of_ble_eq_true rfl) dX9_peer_23 (fun r10 v9 h => ?_)
      refine q_if_eq o 33 dX9_peer_26 (by decide) (fun c11 => ?_) (fun c11 => ?_)
      · have h := h.1 c11
        refine q_iconst o dX9_peer_33 (x := (0 : Int32)) (by decide) ?_
        exact aJ_X9_peer_34 o rt a1 a2 a3 (0 : Int32) v9 h
      · have h := h.2 c11
        refine q_iconst o dX9_peer_29 (x := (1 : Int32)) (by decide) ?_
        refine q_goto o 34 dX9_peer_30 (by decide) ?_
        exact aJ_X9_peer_34 o rt a1 a2 a3 (1 : Int32) v9 h
theorem pd_X9_peer : (parseMethodDescriptor yX9_peer.desc).map (fun d => d.parameters.length) = some 3 := by decide +kernel
-- PieceSwarm.often(II)Z
theorem inn_X9_often_X9 : ∀ w ∈ wsX90, w ∈ wsX9_often := by decide +kernel
theorem sf_X9_often_10 : SF wsX9_often RX9 10 0 0 1 := ⟨RX9, TX9, 4, rfl, rfl, rfl, rfl, by decide, inn_X9_often_X9, by decide +kernel⟩
theorem inn_X9_often_X2 : ∀ w ∈ wsX20, w ∈ wsX9_often := by decide +kernel
theorem sf_X9_often_80 : SF wsX9_often RX9 80 1 1 13 := ⟨RX2, TX2, 8, rfl, rfl, rfl, rfl, by decide, inn_X9_often_X2, by decide +kernel⟩
theorem inn_X9_often_X3 : ∀ w ∈ wsX30, w ∈ wsX9_often := by decide +kernel
theorem sf_X9_often_84 : SF wsX9_often RX9 84 14 2 0 := ⟨RX3, TX3, 13, rfl, rfl, rfl, rfl, by decide, inn_X9_often_X3, by decide +kernel⟩
theorem sp_X9_often_89 : SP wsX9_often RX9 89 14 5 := ⟨RX3, TX3, 13, tyX3, rfl, rfl, rfl, rfl, by decide, inn_X9_often_X3, by decide +kernel, tyX3_ok, nmX3, rfl, by decide +kernel⟩
def wp_X9_often (a1 : Int32) (a2 : Int32) (v : St3) (post : (Int32 → St3 → Prop)) : Prop := wp_X2_isMember a1 v (fun r2 v1 => ((r2 = 0 → post (0 : Int32) v1) ∧ (¬ r2 = 0 → wp_X9_isWithin a2 (1 : Int32) (100 : Int32) v1 (fun r4 v3 => ((r4 = 0 → post (0 : Int32) v3) ∧ (¬ r4 = 0 → ∃ n5, n5 < 12 ∧ a1 = nI n5 ∧ (((v3 14 n5 2) = (3 : Int32) → ∀ v8, v8 = up3 v3 14 n5 5 a2 → post (1 : Int32) v8) ∧ (¬ (v3 14 n5 2) = (3 : Int32) → post (0 : Int32) v3))))))))
set_option maxRecDepth 20000 in
set_option maxHeartbeats 4000000 in
theorem ad_X9_often (l : Launch) (G : Geo) (a1 : Int32) (a2 : Int32) (v : St3) {post : (Int32 → St3 → Prop)} (h : wp_X9_often a1 a2 v post) : CI l G yX9_often wsX9_often 1 [.ref (gA G 0 0), .int a1, .int a2] v post := by
  refine CI.of (ty := .boolean) (cc := cX9_often) (maxL := 3) (by decide) rfl (Nat.le_of_ble_eq_true rfl) (fun X o rt => ?_)
  unfold wp_X9_often at h
  show J l G X 0 [(0, .ref (gA G 0 0)), (1, .int a1), (2, .int a2)] [] v
  refine q_aload_n o dX9_often_0 rfl ?_
  refine q_getR (q := 0) o sf_X9_often_10 (by decide) dX9_often_1 ?_
  refine q_iload_n o dX9_often_4 rfl ?_
  refine q_callV o [.int a1] (ad_X2_isMember l G a1 v h) gX9_often_X2_isMember rfl rfl rfl rfl (by decide) ⟨rfl, by decide, by decide, pd_X2_isMember⟩ (by decide) (by decide) rfl (Nat.le_of_ble_eq_true rfl) dX9_often_5 (fun r2 v1 h => ?_)
  refine q_if_eq o 37 dX9_often_8 (by decide) (fun c12 => ?_) (fun c12 => ?_)
  · have h := h.1 c12
    refine q_iconst o dX9_often_37 (x := (0 : Int32)) (by decide) ?_
    exact q_zret o rt dX9_often_38 (by decide) h
  · have h := h.2 c12
    refine q_iload_n o dX9_often_11 rfl ?_
    refine q_iconst o dX9_often_12 (x := (1 : Int32)) (by decide) ?_
    refine q_bipush o dX9_often_13 (x := (100 : Int32)) (by decide) ?_
    refine q_callS o [.int a2, .int (1 : Int32), .int (100 : Int32)] (ad_X9_isWithin l G a2 (1 : Int32) (100 : Int32) v1 h) gX9_often_X9_isWithin rfl ⟨by decide, by decide, pd_X9_isWithin⟩ (by decide) (by decide) rfl (Nat.le_of_ble_eq_true rfl) dX9_often_15 (fun r4 v3 h => ?_)
    refine q_if_eq o 37 dX9_often_18 (by decide) (fun c11 => ?_) (fun c11 => ?_)
    · have h := h.1 c11
      refine q_iconst o dX9_often_37 (x := (0 : Int32)) (by decide) ?_
      exact q_zret o rt dX9_often_38 (by decide) h
    · have h := h.2 c11
      refine q_aload_n o dX9_often_21 rfl ?_
      refine q_getR (q := 0) o sf_X9_often_10 (by decide) dX9_often_22 ?_
      refine q_getR (q := 12) o sf_X9_often_80 (by decide) dX9_often_25 ?_
      refine q_iload_n o dX9_often_28 rfl ?_
      obtain ⟨n5, hn6, hx7, h⟩ := h
      refine q_mald o hn6 hx7 dX9_often_29 ?_
      refine q_getI o sf_X9_often_84 hn6 dX9_often_30 ?_
      refine q_iconst o dX9_often_33 (x := (3 : Int32)) (by decide) ?_
      refine q_ic_eq o 39 dX9_often_34 (by decide) (fun c10 => ?_) (fun c10 => ?_)
      · have h := h.1 c10
        refine q_aload_n o dX9_often_39 rfl ?_
        refine q_getR (q := 0) o sf_X9_often_10 (by decide) dX9_often_40 ?_
        refine q_getR (q := 12) o sf_X9_often_80 (by decide) dX9_often_43 ?_
        refine q_iload_n o dX9_often_46 rfl ?_
        refine q_mald o hn6 hx7 dX9_often_47 ?_
        refine q_iload_n o dX9_often_48 rfl ?_
        refine q_putI o sp_X9_often_89 hn6 dX9_often_49 (fun v8 e9 => ?_)
        have h := h v8 e9
        refine q_iconst o dX9_often_52 (x := (1 : Int32)) (by decide) ?_
        exact q_zret o rt dX9_often_53 (by decide) h
      · have h := h.2 c10
        refine q_iconst o dX9_often_37 (x := (0 : Int32)) (by decide) ?_
        exact q_zret o rt dX9_often_38 (by decide) h
theorem pd_X9_often : (parseMethodDescriptor yX9_often.desc).map (fun d => d.parameters.length) = some 2 := by decide +kernel
-- PieceSwarm.meet(II)Z
theorem inn_X9_meet_X9 : ∀ w ∈ wsX90, w ∈ wsX9_meet := by decide +kernel
theorem sf_X9_meet_10 : SF wsX9_meet RX9 10 0 0 1 := ⟨RX9, TX9, 4, rfl, rfl, rfl, rfl, by decide, inn_X9_meet_X9, by decide +kernel⟩
theorem inn_X9_meet_X2 : ∀ w ∈ wsX20, w ∈ wsX9_meet := by decide +kernel
theorem sf_X9_meet_80 : SF wsX9_meet RX9 80 1 1 13 := ⟨RX2, TX2, 8, rfl, rfl, rfl, rfl, by decide, inn_X9_meet_X2, by decide +kernel⟩
theorem inn_X9_meet_X3 : ∀ w ∈ wsX30, w ∈ wsX9_meet := by decide +kernel
theorem sf_X9_meet_95 : SF wsX9_meet RX9 95 14 1 16 := ⟨RX3, TX3, 13, rfl, rfl, rfl, rfl, by decide, inn_X9_meet_X3, by decide +kernel⟩
theorem inn_X9_meet_X7 : ∀ w ∈ wsX70, w ∈ wsX9_meet := by decide +kernel
theorem sf_X9_meet_99 : SF wsX9_meet RX9 99 16 4 0 := ⟨RX7, TX7, 10, rfl, rfl, rfl, rfl, by decide, inn_X9_meet_X7, by decide +kernel⟩
theorem sp_X9_meet_99 : SP wsX9_meet RX9 99 16 4 := ⟨RX7, TX7, 10, tyX7, rfl, rfl, rfl, rfl, by decide, inn_X9_meet_X7, by decide +kernel, tyX7_ok, nmX7, rfl, by decide +kernel⟩
def wp_X9_meet (a1 : Int32) (a2 : Int32) (v : St3) (post : (Int32 → St3 → Prop)) : Prop := wp_X2_areTwo a1 a2 v (fun r2 v1 => ((r2 = 0 → post (0 : Int32) v1) ∧ (¬ r2 = 0 → ∃ n3, n3 < 12 ∧ a1 = nI n3 ∧ wp_X9_isIn (v1 16 n3 4) a2 v1 (fun r7 v6 => ((r7 = 0 → ∀ v8, v8 = up3 v6 16 n3 4 ((v6 16 n3 4) ||| ((1 : Int32) <<< (a2 &&& 31))) → ∃ n10, n10 < 12 ∧ a2 = nI n10 ∧ ∀ v13, v13 = up3 v8 16 n10 4 ((v8 16 n10 4) ||| ((1 : Int32) <<< (a1 &&& 31))) → post (1 : Int32) v13) ∧ (¬ r7 = 0 → post (0 : Int32) v6))))))
set_option maxRecDepth 20000 in
set_option maxHeartbeats 4000000 in
theorem ad_X9_meet (l : Launch) (G : Geo) (a1 : Int32) (a2 : Int32) (v : St3) {post : (Int32 → St3 → Prop)} (h : wp_X9_meet a1 a2 v post) : CI l G yX9_meet wsX9_meet 2 [.ref (gA G 0 0), .int a1, .int a2] v post := by
  refine CI.of (ty := .boolean) (cc := cX9_meet) (maxL := 3) (by decide) rfl (Nat.le_of_ble_eq_true rfl) (fun X o rt => ?_)
  unfold wp_X9_meet at h
  show J l G X 0 [(0, .ref (gA G 0 0)), (1, .int a1), (2, .int a2)] [] v
  refine q_aload_n o dX9_meet_0 rfl ?_
  refine q_getR (q := 0) o sf_X9_meet_10 (by decide) dX9_meet_1 ?_
  refine q_iload_n o dX9_meet_4 rfl ?_
  refine q_iload_n o dX9_meet_5 rfl ?_
  refine q_callV o [.int a1, .int a2] (ad_X2_areTwo l G a1 a2 v h) gX9_meet_X2_areTwo rfl rfl rfl rfl (by decide) ⟨rfl, by decide, by decide, pd_X2_areTwo⟩ (by decide) (by decide) rfl (Nat.le_of_ble_eq_true rfl) dX9_meet_6 (fun r2 v1 h => ?_)
  refine q_if_eq o 34 dX9_meet_9 (by decide) (fun c16 => ?_) (fun c16 => ?_)
  · have h := h.1 c16
    refine q_iconst o dX9_meet_34 (x := (0 : Int32)) (by decide) ?_
    exact q_zret o rt dX9_meet_35 (by decide) h
  · have h := h.2 c16
    refine q_aload_n o dX9_meet_12 rfl ?_
    refine q_getR (q := 0) o sf_X9_meet_10 (by decide) dX9_meet_13 ?_
    refine q_getR (q := 12) o sf_X9_meet_80 (by decide) dX9_meet_16 ?_
    refine q_iload_n o dX9_meet_19 rfl ?_
    obtain ⟨n3, hn4, hx5, h⟩ := h
    refine q_mald o hn4 hx5 dX9_meet_20 ?_
    refine q_getR (q := 15) o sf_X9_meet_95 hn4 dX9_meet_21 ?_
    refine q_getI o sf_X9_meet_99 hn4 dX9_meet_24 ?_
    refine q_iload_n o dX9_meet_27 rfl ?_
    refine q_callS o [.int (v1 16 n3 4), .int a2] (ad_X9_isIn l G (v1 16 n3 4) a2 v1 h) gX9_meet_X9_isIn rfl ⟨by decide, by decide, pd_X9_isIn⟩ (by decide) (by decide) rfl (Nat.le_of_ble_eq_true rfl) dX9_meet_28 (fun r7 v6 h => ?_)
    refine q_if_eq o 36 dX9_meet_31 (by decide) (fun c15 => ?_) (fun c15 => ?_)
    · have h := h.1 c15
      refine q_aload_n o dX9_meet_36 rfl ?_
      refine q_getR (q := 0) o sf_X9_meet_10 (by decide) dX9_meet_37 ?_
      refine q_getR (q := 12) o sf_X9_meet_80 (by decide) dX9_meet_40 ?_
      refine q_iload_n o dX9_meet_43 rfl ?_
      refine q_mald o hn4 hx5 dX9_meet_44 ?_
      refine q_getR (q := 15) o sf_X9_meet_95 hn4 dX9_meet_45 ?_
      refine q_dup o dX9_meet_48 rfl ?_
      refine q_getI o sf_X9_meet_99 hn4 dX9_meet_49 ?_
      refine q_iconst o dX9_meet_52 (x := (1 : Int32)) (by decide) ?_
      refine q_iload_n o dX9_meet_53 rfl ?_
      refine q_ishl o dX9_meet_54 ?_
      refine q_ior o dX9_meet_55 ?_
      refine q_putI o sp_X9_meet_99 hn4 dX9_meet_56 (fun v8 e9 => ?_)
      have h := h v8 e9
      refine q_aload_n o dX9_meet_59 rfl ?_
      refine q_getR (q := 0) o sf_X9_meet_10 (by decide) dX9_meet_60 ?_
      refine q_getR (q := 12) o sf_X9_meet_80 (by decide) dX9_meet_63 ?_
      refine q_iload_n o dX9_meet_66 rfl ?_
      obtain ⟨n10, hn11, hx12, h⟩ := h
      refine q_mald o hn11 hx12 dX9_meet_67 ?_
      refine q_getR (q := 15) o sf_X9_meet_95 hn11 dX9_meet_68 ?_
      refine q_dup o dX9_meet_71 rfl ?_
      refine q_getI o sf_X9_meet_99 hn11 dX9_meet_72 ?_
      refine q_iconst o dX9_meet_75 (x := (1 : Int32)) (by decide) ?_
      refine q_iload_n o dX9_meet_76 rfl ?_
      refine q_ishl o dX9_meet_77 ?_
      refine q_ior o dX9_meet_78 ?_
      refine q_putI o sp_X9_meet_99 hn11 dX9_meet_79 (fun v13 e14 => ?_)
      have h := h v13 e14
      refine q_iconst o dX9_meet_82 (x := (1 : Int32)) (by decide) ?_
      exact q_zret o rt dX9_meet_83 (by decide) h
    · have h := h.2 c15
      refine q_iconst o dX9_meet_34 (x := (0 : Int32)) (by decide) ?_
      exact q_zret o rt dX9_meet_35 (by decide) h
theorem pd_X9_meet : (parseMethodDescriptor yX9_meet.desc).map (fun d => d.parameters.length) = some 2 := by decide +kernel
-- PieceSwarm.leave(I)Z
theorem inn_X9_leave_X9 : ∀ w ∈ wsX90, w ∈ wsX9_leave := by decide +kernel
theorem sf_X9_leave_10 : SF wsX9_leave RX9 10 0 0 1 := ⟨RX9, TX9, 4, rfl, rfl, rfl, rfl, by decide, inn_X9_leave_X9, by decide +kernel⟩
theorem inn_X9_leave_X2 : ∀ w ∈ wsX20, w ∈ wsX9_leave := by decide +kernel
theorem sf_X9_leave_107 : SF wsX9_leave RX9 107 1 4 0 := ⟨RX2, TX2, 8, rfl, rfl, rfl, rfl, by decide, inn_X9_leave_X2, by decide +kernel⟩
def wp_X9_leave (a1 : Int32) (v : St3) (post : (Int32 → St3 → Prop)) : Prop := wp_X2_isMember a1 v (fun r2 v1 => ((r2 = 0 → post (0 : Int32) v1) ∧ (¬ r2 = 0 → wp_X9_isIn (v1 1 0 4) a1 v1 (fun r4 v3 => ((¬ r4 = 0 → wp_X2_letGo a1 v3 (fun v5 => post (1 : Int32) v5)) ∧ (r4 = 0 → post (0 : Int32) v3))))))
set_option maxRecDepth 20000 in
set_option maxHeartbeats 4000000 in
theorem ad_X9_leave (l : Launch) (G : Geo) (a1 : Int32) (v : St3) {post : (Int32 → St3 → Prop)} (h : wp_X9_leave a1 v post) : CI l G yX9_leave wsX9_leave 4 [.ref (gA G 0 0), .int a1] v post := by
  refine CI.of (ty := .boolean) (cc := cX9_leave) (maxL := 2) (by decide) rfl (Nat.le_of_ble_eq_true rfl) (fun X o rt => ?_)
  unfold wp_X9_leave at h
  show J l G X 0 [(0, .ref (gA G 0 0)), (1, .int a1)] [] v
  refine q_aload_n o dX9_leave_0 rfl ?_
  refine q_getR (q := 0) o sf_X9_leave_10 (by decide) dX9_leave_1 ?_
  refine q_iload_n o dX9_leave_4 rfl ?_
  refine q_callV o [.int a1] (ad_X2_isMember l G a1 v h) gX9_leave_X2_isMember rfl rfl rfl rfl (by decide) ⟨rfl, by decide, by decide, pd_X2_isMember⟩ (by decide) (by decide) rfl (Nat.le_of_ble_eq_true rfl) dX9_leave_5 (fun r2 v1 h => ?_)
  refine q_if_eq o 25 dX9_leave_8 (by decide) (fun c8 => ?_) (fun c8 => ?_)
  · have h := h.1 c8
    refine q_iconst o dX9_leave_25 (x := (0 : Int32)) (by decide) ?_
    exact q_zret o rt dX9_leave_26 (by decide) h
  · have h := h.2 c8
    refine q_aload_n o dX9_leave_11 rfl ?_
    refine q_getR (q := 0) o sf_X9_leave_10 (by decide) dX9_leave_12 ?_
    refine q_getI o sf_X9_leave_107 (by decide) dX9_leave_15 ?_
    refine q_iload_n o dX9_leave_18 rfl ?_
    refine q_callS o [.int (v1 1 0 4), .int a1] (ad_X9_isIn l G (v1 1 0 4) a1 v1 h) gX9_leave_X9_isIn rfl ⟨by decide, by decide, pd_X9_isIn⟩ (by decide) (by decide) rfl (Nat.le_of_ble_eq_true rfl) dX9_leave_19 (fun r4 v3 h => ?_)
    refine q_if_ne o 27 dX9_leave_22 (by decide) (fun c7 => ?_) (fun c7 => ?_)
    · have h := h.1 c7
      refine q_aload_n o dX9_leave_27 rfl ?_
      refine q_getR (q := 0) o sf_X9_leave_10 (by decide) dX9_leave_28 ?_
      refine q_iload_n o dX9_leave_31 rfl ?_
      refine q_callVv o [.int a1] (ad_X2_letGo l G a1 v3 h) gX9_leave_X2_letGo rfl rfl rfl rfl (by decide) ⟨rfl, by decide, by decide, pd_X2_letGo⟩ (by decide) (by decide) rfl (Nat.le_of_ble_eq_true rfl) dX9_leave_32 (fun v5 h => ?_)
      refine q_iconst o dX9_leave_35 (x := (1 : Int32)) (by decide) ?_
      exact q_zret o rt dX9_leave_36 (by decide) h
    · have h := h.2 c7
      refine q_iconst o dX9_leave_25 (x := (0 : Int32)) (by decide) ?_
      exact q_zret o rt dX9_leave_26 (by decide) h
theorem pd_X9_leave : (parseMethodDescriptor yX9_leave.desc).map (fun d => d.parameters.length) = some 1 := by decide +kernel
-- PieceSwarm.join(I)Z
theorem inn_X9_join_X9 : ∀ w ∈ wsX90, w ∈ wsX9_join := by decide +kernel
theorem sf_X9_join_10 : SF wsX9_join RX9 10 0 0 1 := ⟨RX9, TX9, 4, rfl, rfl, rfl, rfl, by decide, inn_X9_join_X9, by decide +kernel⟩
theorem inn_X9_join_X2 : ∀ w ∈ wsX20, w ∈ wsX9_join := by decide +kernel
theorem sf_X9_join_107 : SF wsX9_join RX9 107 1 4 0 := ⟨RX2, TX2, 8, rfl, rfl, rfl, rfl, by decide, inn_X9_join_X2, by decide +kernel⟩
theorem sp_X9_join_107 : SP wsX9_join RX9 107 1 4 := ⟨RX2, TX2, 8, tyX2, rfl, rfl, rfl, rfl, by decide, inn_X9_join_X2, by decide +kernel, tyX2_ok, nmX2, rfl, by decide +kernel⟩
def wp_X9_join (a1 : Int32) (v : St3) (post : (Int32 → St3 → Prop)) : Prop := wp_X2_isMember a1 v (fun r2 v1 => ((r2 = 0 → post (0 : Int32) v1) ∧ (¬ r2 = 0 → wp_X9_isIn (v1 1 0 4) a1 v1 (fun r4 v3 => ((r4 = 0 → ∀ v5, v5 = up3 v3 1 0 4 ((v3 1 0 4) ||| ((1 : Int32) <<< (a1 &&& 31))) → post (1 : Int32) v5) ∧ (¬ r4 = 0 → post (0 : Int32) v3))))))
set_option maxRecDepth 20000 in
set_option maxHeartbeats 4000000 in
theorem ad_X9_join (l : Launch) (G : Geo) (a1 : Int32) (v : St3) {post : (Int32 → St3 → Prop)} (h : wp_X9_join a1 v post) : CI l G yX9_join wsX9_join 1 [.ref (gA G 0 0), .int a1] v post := by
  refine CI.of (ty := .boolean) (cc := cX9_join) (maxL := 2) (by decide) rfl (Nat.le_of_ble_eq_true rfl) (fun X o rt => ?_)
  unfold wp_X9_join at h
  show J l G X 0 [(0, .ref (gA G 0 0)), (1, .int a1)] [] v
  refine q_aload_n o dX9_join_0 rfl ?_
  refine q_getR (q := 0) o sf_X9_join_10 (by decide) dX9_join_1 ?_
  refine q_iload_n o dX9_join_4 rfl ?_
  refine q_callV o [.int a1] (ad_X2_isMember l G a1 v h) gX9_join_X2_isMember rfl rfl rfl rfl (by decide) ⟨rfl, by decide, by decide, pd_X2_isMember⟩ (by decide) (by decide) rfl (Nat.le_of_ble_eq_true rfl) dX9_join_5 (fun r2 v1 h => ?_)
  refine q_if_eq o 25 dX9_join_8 (by decide) (fun c8 => ?_) (fun c8 => ?_)
  · have h := h.1 c8
    refine q_iconst o dX9_join_25 (x := (0 : Int32)) (by decide) ?_
    exact q_zret o rt dX9_join_26 (by decide) h
  · have h := h.2 c8
    refine q_aload_n o dX9_join_11 rfl ?_
    refine q_getR (q := 0) o sf_X9_join_10 (by decide) dX9_join_12 ?_
    refine q_getI o sf_X9_join_107 (by decide) dX9_join_15 ?_
    refine q_iload_n o dX9_join_18 rfl ?_
    refine q_callS o [.int (v1 1 0 4), .int a1] (ad_X9_isIn l G (v1 1 0 4) a1 v1 h) gX9_join_X9_isIn rfl ⟨by decide, by decide, pd_X9_isIn⟩ (by decide) (by decide) rfl (Nat.le_of_ble_eq_true rfl) dX9_join_19 (fun r4 v3 h => ?_)
    refine q_if_eq o 27 dX9_join_22 (by decide) (fun c7 => ?_) (fun c7 => ?_)
    · have h := h.1 c7
      refine q_aload_n o dX9_join_27 rfl ?_
      refine q_getR (q := 0) o sf_X9_join_10 (by decide) dX9_join_28 ?_
      refine q_dup o dX9_join_31 rfl ?_
      refine q_getI o sf_X9_join_107 (by decide) dX9_join_32 ?_
      refine q_iconst o dX9_join_35 (x := (1 : Int32)) (by decide) ?_
      refine q_iload_n o dX9_join_36 rfl ?_
      refine q_ishl o dX9_join_37 ?_
      refine q_ior o dX9_join_38 ?_
      refine q_putI o sp_X9_join_107 (by decide) dX9_join_39 (fun v5 e6 => ?_)
      have h := h v5 e6
      refine q_iconst o dX9_join_42 (x := (1 : Int32)) (by decide) ?_
      exact q_zret o rt dX9_join_43 (by decide) h
    · have h := h.2 c7
      refine q_iconst o dX9_join_25 (x := (0 : Int32)) (by decide) ?_
      exact q_zret o rt dX9_join_26 (by decide) h
theorem pd_X9_join : (parseMethodDescriptor yX9_join.desc).map (fun d => d.parameters.length) = some 1 := by decide +kernel
-- PieceSwarm.tick(I)I
theorem inn_X9_tick_X9 : ∀ w ∈ wsX90, w ∈ wsX9_tick := by decide +kernel
theorem sf_X9_tick_10 : SF wsX9_tick RX9 10 0 0 1 := ⟨RX9, TX9, 4, rfl, rfl, rfl, rfl, by decide, inn_X9_tick_X9, by decide +kernel⟩
theorem inn_X9_tick_X2 : ∀ w ∈ wsX20, w ∈ wsX9_tick := by decide +kernel
theorem sf_X9_tick_114 : SF wsX9_tick RX9 114 1 6 0 := ⟨RX2, TX2, 8, rfl, rfl, rfl, rfl, by decide, inn_X9_tick_X2, by decide +kernel⟩
theorem sf_X9_tick_117 : SF wsX9_tick RX9 117 1 5 0 := ⟨RX2, TX2, 8, rfl, rfl, rfl, rfl, by decide, inn_X9_tick_X2, by decide +kernel⟩
theorem sp_X9_tick_117 : SP wsX9_tick RX9 117 1 5 := ⟨RX2, TX2, 8, tyX2, rfl, rfl, rfl, rfl, by decide, inn_X9_tick_X2, by decide +kernel, tyX2_ok, nmX2, rfl, by decide +kernel⟩
theorem sf_X9_tick_21 : SF wsX9_tick RX9 21 0 1 2 := ⟨RX9, TX9, 4, rfl, rfl, rfl, rfl, by decide, inn_X9_tick_X9, by decide +kernel⟩
theorem sf_X9_tick_35 : SF wsX9_tick RX9 35 0 3 4 := ⟨RX9, TX9, 4, rfl, rfl, rfl, rfl, by decide, inn_X9_tick_X9, by decide +kernel⟩
theorem sf_X9_tick_28 : SF wsX9_tick RX9 28 0 2 3 := ⟨RX9, TX9, 4, rfl, rfl, rfl, rfl, by decide, inn_X9_tick_X9, by decide +kernel⟩
def wB_X9_tick_22 (post : (Int32 → St3 → Prop)) (K22 : Int32 → Int32 → Int32 → St3 → Prop) (a1 : Int32) (a2 : Int32) (a3 : Int32) (v : St3) : Prop := ((a1 ≤ a3 → post ((v 1 0 6) - a2) v) ∧ (¬ a1 ≤ a3 → ∀ v3, v3 = up3 v 1 0 5 ((v 1 0 5) + (1 : Int32)) → wp_X0_takeDue v3 (fun v5 => ¬ (4 : Int32) = 0 ∧ ((¬ ((v5 1 0 5) - (v5 1 0 5) / (4 : Int32) * (4 : Int32)) = (1 : Int32) → wp_X1_dropStranded v5 (fun v8 => wp_X1_runRounds v8 (fun v10 => wp_X0_takeDue v10 (fun v12 => K22 a1 a2 (a3 + (1 : Int32)) v12)))) ∧ (((v5 1 0 5) - (v5 1 0 5) / (4 : Int32) * (4 : Int32)) = (1 : Int32) → wp_X4_openAll v5 (fun v14 => wp_X1_dropStranded v14 (fun v16 => wp_X1_runRounds v16 (fun v18 => wp_X0_takeDue v18 (fun v20 => K22 a1 a2 (a3 + (1 : Int32)) v20)))))))))
def wL_X9_tick_22 (post : (Int32 → St3 → Prop)) : Nat → Int32 → Int32 → Int32 → St3 → Prop
  | 0, _, _, _, _ => False
  | f + 1, a1, a2, a3, v => wB_X9_tick_22 post (wL_X9_tick_22 post f) a1 a2 a3 v
set_option maxRecDepth 20000 in
set_option maxHeartbeats 4000000 in
theorem aL_X9_tick_22 {l : Launch} {G : Geo} {X : CT} (o : OK G X cX9_tick wsX9_tick RX9 6 4) {post : (Int32 → St3 → Prop)} (rt : RI G X .int post) : ∀ (f : Nat) (a1 : Int32) (a2 : Int32) (a3 : Int32) (v : St3), wL_X9_tick_22 post f a1 a2 a3 v → J l G X 22 [(0, .ref (gA G 0 0)), (1, .int a1), (2, .int a2), (3, .int a3)] [] v := by
  intro f
  induction f with
  | zero => intro _ _ _ _ h; exact False.elim h
  | succ f hK22 =>
  intro a1 a2 a3 v h
  have h : wB_X9_tick_22 post (wL_X9_tick_22 post f) a1 a2 a3 v := h
  unfold wB_X9_tick_22 at h
  refine q_iload_n o dX9_tick_22 rfl ?_
  refine q_iload_n o dX9_tick_23 rfl ?_
  refine q_ic_ge o 94 dX9_tick_24 (by decide) (fun c23 => ?_) (fun c23 => ?_)
  · have h := h.1 c23
    refine q_aload_n o dX9_tick_94 rfl ?_
    refine q_getR (q := 0) o sf_X9_tick_10 (by decide) dX9_tick_95 ?_
    refine q_getI o sf_X9_tick_114 (by decide) dX9_tick_98 ?_
    refine q_iload_n o dX9_tick_101 rfl ?_
    refine q_isub o dX9_tick_102 ?_
    exact q_iret o rt dX9_tick_103 h
  · have h := h.2 c23
    refine q_aload_n o dX9_tick_27 rfl ?_
    refine q_getR (q := 0) o sf_X9_tick_10 (by decide) dX9_tick_28 ?_
    refine q_dup o dX9_tick_31 rfl ?_
    refine q_getI o sf_X9_tick_117 (by decide) dX9_tick_32 ?_
    refine q_iconst o dX9_tick_35 (x := (1 : Int32)) (by decide) ?_
    refine q_iadd o dX9_tick_36 ?_
    refine q_putI o sp_X9_tick_117 (by decide) dX9_tick_37 (fun v3 e4 => ?_)
    have h := h v3 e4
    refine q_aload_n o dX9_tick_40 rfl ?_
    refine q_getR (q := 1) o sf_X9_tick_21 (by decide) dX9_tick_41 ?_
    refine q_callVv o [] (ad_X0_takeDue l G v3 h) gX9_tick_X0_takeDue rfl rfl rfl rfl (by decide) ⟨rfl, by decide, by decide, pd_X0_takeDue⟩ (by decide) (by decide) rfl (Nat.le_of_ble_eq_true rfl) dX9_tick_44 (fun v5 h => ?_)
    refine q_aload_n o dX9_tick_47 rfl ?_
    refine q_getR (q := 0) o sf_X9_tick_10 (by decide) dX9_tick_48 ?_
    refine q_getI o sf_X9_tick_117 (by decide) dX9_tick_51 ?_
    refine q_iconst o dX9_tick_54 (x := (4 : Int32)) (by decide) ?_
    obtain ⟨hz7, h⟩ := h
    refine q_irem o dX9_tick_55 hz7 ?_
    refine q_iconst o dX9_tick_56 (x := (1 : Int32)) (by decide) ?_
    refine q_ic_ne o 67 dX9_tick_57 (by decide) (fun c22 => ?_) (fun c22 => ?_)
    · have h := h.1 c22
      refine q_aload_n o dX9_tick_67 rfl ?_
      refine q_getR (q := 3) o sf_X9_tick_35 (by decide) dX9_tick_68 ?_
      refine q_callVv o [] (ad_X1_dropStranded l G v5 h) gX9_tick_X1_dropStranded rfl rfl rfl rfl (by decide) ⟨rfl, by decide, by decide, pd_X1_dropStranded⟩ (by decide) (by decide) rfl (Nat.le_of_ble_eq_true rfl) dX9_tick_71 (fun v8 h => ?_)
      refine q_aload_n o dX9_tick_74 rfl ?_
      refine q_getR (q := 3) o sf_X9_tick_35 (by decide) dX9_tick_75 ?_
      refine q_callVv o [] (ad_X1_runRounds l G v8 h) gX9_tick_X1_runRounds rfl rfl rfl rfl (by decide) ⟨rfl, by decide, by decide, pd_X1_runRounds⟩ (by decide) (by decide) rfl (Nat.le_of_ble_eq_true rfl) dX9_tick_78 (fun v10 h => ?_)
      refine q_aload_n o dX9_tick_81 rfl ?_
      refine q_getR (q := 1) o sf_X9_tick_21 (by decide) dX9_tick_82 ?_
      refine q_callVv o [] (ad_X0_takeDue l G v10 h) gX9_tick_X0_takeDue rfl rfl rfl rfl (by decide) ⟨rfl, by decide, by decide, pd_X0_takeDue⟩ (by decide) (by decide) rfl (Nat.le_of_ble_eq_true rfl) dX9_tick_85 (fun v12 h => ?_)
      refine q_iinc o (y := (a3 + (1 : Int32))) (lv' := [(3, .int (a3 + (1 : Int32))), (0, .ref (gA G 0 0)), (1, .int a1), (2, .int a2)]) dX9_tick_88 rfl rfl (by decide) rfl ?_
      refine q_goto o 22 dX9_tick_91 (by decide) ?_
      refine q_lv [1, 2, 3, 0] rfl ?_
      exact hK22 a1 a2 (a3 + (1 : Int32)) v12 h
    · have h := h.2 c22
      refine q_aload_n o dX9_tick_60 rfl ?_
      refine q_getR (q := 2) o sf_X9_tick_28 (by decide) dX9_tick_61 ?_
      refine q_callVv o [] (ad_X4_openAll l G v5 h) gX9_tick_X4_openAll rfl rfl rfl rfl (by decide) ⟨rfl, by decide, by decide, pd_X4_openAll⟩ (by decide) (by decide) rfl (Nat.le_of_ble_eq_true rfl) dX9_tick_64 (fun v14 h => ?_)
      refine q_aload_n o dX9_tick_67 rfl ?_
      refine q_getR (q := 3) o sf_X9_tick_35 (by decide) dX9_tick_68 ?_
      refine q_callVv o [] (ad_X1_dropStranded l G v14 h) gX9_tick_X1_dropStranded rfl rfl rfl rfl (by decide) ⟨rfl, by decide, by decide, pd_X1_dropStranded⟩ (by decide) (by decide) rfl (Nat.le_of_ble_eq_true rfl) dX9_tick_71 (fun v16 h => ?_)
      refine q_aload_n o dX9_tick_74 rfl ?_
      refine q_getR (q := 3) o sf_X9_tick_35 (by decide) dX9_tick_75 ?_
      refine q_callVv o [] (ad_X1_runRounds l G v16 h) gX9_tick_X1_runRounds rfl rfl rfl rfl (by decide) ⟨rfl, by decide, by decide, pd_X1_runRounds⟩ (by decide) (by decide) rfl (Nat.le_of_ble_eq_true rfl) dX9_tick_78 (fun v18 h => ?_)
      refine q_aload_n o dX9_tick_81 rfl ?_
      refine q_getR (q := 1) o sf_X9_tick_21 (by decide) dX9_tick_82 ?_
      refine q_callVv o [] (ad_X0_takeDue l G v18 h) gX9_tick_X0_takeDue rfl rfl rfl rfl (by decide) ⟨rfl, by decide, by decide, pd_X0_takeDue⟩ (by decide) (by decide) rfl (Nat.le_of_ble_eq_true rfl) dX9_tick_85 (fun v20 h => ?_)
      refine q_iinc o (y := (a3 + (1 : Int32))) (lv' := [(3, .int (a3 + (1 : Int32))), (0, .ref (gA G 0 0)), (1, .int a1), (2, .int a2)]) dX9_tick_88 rfl rfl (by decide) rfl ?_
      refine q_goto o 22 dX9_tick_91 (by decide) ?_
      refine q_lv [1, 2, 3, 0] rfl ?_
      exact hK22 a1 a2 (a3 + (1 : Int32)) v20 h
def wp_X9_tick (a1 : Int32) (v : St3) (post : (Int32 → St3 → Prop)) : Prop := wp_X9_isWithin a1 (0 : Int32) (50 : Int32) v (fun r2 v1 => ((¬ r2 = 0 → wL_X9_tick_22 post FU a1 (v1 1 0 6) (0 : Int32) v1) ∧ (r2 = 0 → post (-1 : Int32) v1)))
set_option maxRecDepth 20000 in
set_option maxHeartbeats 4000000 in
theorem ad_X9_tick (l : Launch) (G : Geo) (a1 : Int32) (v : St3) {post : (Int32 → St3 → Prop)} (h : wp_X9_tick a1 v post) : CI l G yX9_tick wsX9_tick 6 [.ref (gA G 0 0), .int a1] v post := by
  refine CI.of (ty := .int) (cc := cX9_tick) (maxL := 4) (by decide) rfl (Nat.le_of_ble_eq_true rfl) (fun X o rt => ?_)
  unfold wp_X9_tick at h
  show J l G X 0 [(0, .ref (gA G 0 0)), (1, .int a1)] [] v
  refine q_iload_n o dX9_tick_0 rfl ?_
  refine q_iconst o dX9_tick_1 (x := (0 : Int32)) (by decide) ?_
  refine q_bipush o dX9_tick_2 (x := (50 : Int32)) (by decide) ?_
  refine q_callS o [.int a1, .int (0 : Int32), .int (50 : Int32)] (ad_X9_isWithin l G a1 (0 : Int32) (50 : Int32) v h) gX9_tick_X9_isWithin rfl ⟨by decide, by decide, pd_X9_isWithin⟩ (by decide) (by decide) rfl (Nat.le_of_ble_eq_true rfl) dX9_tick_4 (fun r2 v1 h => ?_)
  refine q_if_ne o 12 dX9_tick_7 (by decide) (fun c24 => ?_) (fun c24 => ?_)
  · have h := h.1 c24
    refine q_aload_n o dX9_tick_12 rfl ?_
    refine q_getR (q := 0) o sf_X9_tick_10 (by decide) dX9_tick_13 ?_
    refine q_getI o sf_X9_tick_114 (by decide) dX9_tick_16 ?_
    refine q_istore_n o (lv' := [(2, .int (v1 1 0 6)), (0, .ref (gA G 0 0)), (1, .int a1)]) dX9_tick_19 (by decide) rfl ?_
    refine q_iconst o dX9_tick_20 (x := (0 : Int32)) (by decide) ?_
    refine q_istore_n o (lv' := [(3, .int (0 : Int32)), (2, .int (v1 1 0 6)), (0, .ref (gA G 0 0)), (1, .int a1)]) dX9_tick_21 (by decide) rfl ?_
    refine q_lv [2, 3, 1, 0] rfl ?_
    exact aL_X9_tick_22 o rt FU a1 (v1 1 0 6) (0 : Int32) v1 h
  · have h := h.2 c24
    refine q_iconst o dX9_tick_10 (x := (-1 : Int32)) (by decide) ?_
    exact q_iret o rt dX9_tick_11 h
theorem pd_X9_tick : (parseMethodDescriptor yX9_tick.desc).map (fun d => d.parameters.length) = some 1 := by decide +kernel
-- PieceSwarm.about(II)I
theorem inn_X9_about_X9 : ∀ w ∈ wsX90, w ∈ wsX9_about := by decide +kernel
theorem sf_X9_about_10 : SF wsX9_about RX9 10 0 0 1 := ⟨RX9, TX9, 4, rfl, rfl, rfl, rfl, by decide, inn_X9_about_X9, by decide +kernel⟩
theorem inn_X9_about_X2 : ∀ w ∈ wsX20, w ∈ wsX9_about := by decide +kernel
theorem sf_X9_about_80 : SF wsX9_about RX9 80 1 1 13 := ⟨RX2, TX2, 8, rfl, rfl, rfl, rfl, by decide, inn_X9_about_X2, by decide +kernel⟩
theorem inn_X9_about_X3 : ∀ w ∈ wsX30, w ∈ wsX9_about := by decide +kernel
theorem sf_X9_about_84 : SF wsX9_about RX9 84 14 2 0 := ⟨RX3, TX3, 13, rfl, rfl, rfl, rfl, by decide, inn_X9_about_X3, by decide +kernel⟩
theorem sf_X9_about_107 : SF wsX9_about RX9 107 1 4 0 := ⟨RX2, TX2, 8, rfl, rfl, rfl, rfl, by decide, inn_X9_about_X2, by decide +kernel⟩
theorem sf_X9_about_136 : SF wsX9_about RX9 136 14 0 15 := ⟨RX3, TX3, 13, rfl, rfl, rfl, rfl, by decide, inn_X9_about_X3, by decide +kernel⟩
theorem inn_X9_about_X6 : ∀ w ∈ wsX60, w ∈ wsX9_about := by decide +kernel
theorem sf_X9_about_140 : SF wsX9_about RX9 140 15 3 0 := ⟨RX6, TX6, 6, rfl, rfl, rfl, rfl, by decide, inn_X9_about_X6, by decide +kernel⟩
theorem sf_X9_about_154 : SF wsX9_about RX9 154 14 7 0 := ⟨RX3, TX3, 13, rfl, rfl, rfl, rfl, by decide, inn_X9_about_X3, by decide +kernel⟩
theorem sf_X9_about_157 : SF wsX9_about RX9 157 14 8 0 := ⟨RX3, TX3, 13, rfl, rfl, rfl, rfl, by decide, inn_X9_about_X3, by decide +kernel⟩
theorem sf_X9_about_160 : SF wsX9_about RX9 160 14 9 0 := ⟨RX3, TX3, 13, rfl, rfl, rfl, rfl, by decide, inn_X9_about_X3, by decide +kernel⟩
theorem sf_X9_about_163 : SF wsX9_about RX9 163 14 10 0 := ⟨RX3, TX3, 13, rfl, rfl, rfl, rfl, by decide, inn_X9_about_X3, by decide +kernel⟩
theorem sf_X9_about_166 : SF wsX9_about RX9 166 15 4 0 := ⟨RX6, TX6, 6, rfl, rfl, rfl, rfl, by decide, inn_X9_about_X6, by decide +kernel⟩
theorem sf_X9_about_169 : SF wsX9_about RX9 169 14 6 0 := ⟨RX3, TX3, 13, rfl, rfl, rfl, rfl, by decide, inn_X9_about_X3, by decide +kernel⟩
theorem sf_X9_about_172 : SF wsX9_about RX9 172 15 5 0 := ⟨RX6, TX6, 6, rfl, rfl, rfl, rfl, by decide, inn_X9_about_X6, by decide +kernel⟩
theorem sf_X9_about_95 : SF wsX9_about RX9 95 14 1 16 := ⟨RX3, TX3, 13, rfl, rfl, rfl, rfl, by decide, inn_X9_about_X3, by decide +kernel⟩
theorem inn_X9_about_X7 : ∀ w ∈ wsX70, w ∈ wsX9_about := by decide +kernel
theorem sf_X9_about_175 : SF wsX9_about RX9 175 16 5 0 := ⟨RX7, TX7, 10, rfl, rfl, rfl, rfl, by decide, inn_X9_about_X7, by decide +kernel⟩
theorem sf_X9_about_178 : SF wsX9_about RX9 178 16 7 0 := ⟨RX7, TX7, 10, rfl, rfl, rfl, rfl, by decide, inn_X9_about_X7, by decide +kernel⟩
theorem sf_X9_about_99 : SF wsX9_about RX9 99 16 4 0 := ⟨RX7, TX7, 10, rfl, rfl, rfl, rfl, by decide, inn_X9_about_X7, by decide +kernel⟩
def wp_X9_about (a1 : Int32) (a2 : Int32) (v : St3) (post : (Int32 → St3 → Prop)) : Prop := wp_X2_isMember a1 v (fun r2 v1 => ((¬ r2 = 0 → ∃ n3, n3 < 12 ∧ a1 = nI n3 ∧ ((a2 = nI 0 → post (v1 14 n3 2) v1) ∧ (a2 = nI 1 → wp_X9_isIn (v1 1 0 4) a1 v1 (fun r8 v7 => wp_X9_oneIf r8 v7 (fun r10 v9 => post r10 v9))) ∧ (a2 = nI 2 → wp_J6_bitCount_0f7a4 (v1 15 n3 3) v1 (fun r12 v11 => post r12 v11)) ∧ (a2 = nI 3 → wp_X6_heldInAll n3 v1 (fun r14 v13 => post r14 v13)) ∧ (a2 = nI 4 → post (v1 14 n3 7) v1) ∧ (a2 = nI 5 → post (v1 14 n3 8) v1) ∧ (a2 = nI 6 → post (v1 14 n3 9) v1) ∧ (a2 = nI 7 → post (v1 14 n3 10) v1) ∧ (a2 = nI 8 → wp_J6_bitCount_0f7a4 (v1 15 n3 4) v1 (fun r16 v15 => post r16 v15)) ∧ (a2 = nI 9 → post (v1 14 n3 6) v1) ∧ (a2 = nI 10 → post (v1 15 n3 5) v1) ∧ (a2 = nI 11 → wp_J6_bitCount_0f7a4 (v1 16 n3 5) v1 (fun r18 v17 => post r18 v17)) ∧ (a2 = nI 12 → wp_J6_bitCount_0f7a4 (v1 16 n3 7) v1 (fun r20 v19 => post r20 v19)) ∧ (a2 = nI 13 → wp_J6_bitCount_0f7a4 (v1 16 n3 4) v1 (fun r22 v21 => post r22 v21)) ∧ ((a2 < 0 ∨ nI 14 ≤ a2) → post (-1 : Int32) v1))) ∧ (r2 = 0 → post (-1 : Int32) v1)))
set_option maxRecDepth 20000 in
set_option maxHeartbeats 4000000 in
theorem ad_X9_about (l : Launch) (G : Geo) (a1 : Int32) (a2 : Int32) (v : St3) {post : (Int32 → St3 → Prop)} (h : wp_X9_about a1 a2 v post) : CI l G yX9_about wsX9_about 4 [.ref (gA G 0 0), .int a1, .int a2] v post := by
  refine CI.of (ty := .int) (cc := cX9_about) (maxL := 4) (by decide) rfl (Nat.le_of_ble_eq_true rfl) (fun X o rt => ?_)
  unfold wp_X9_about at h
  show J l G X 0 [(0, .ref (gA G 0 0)), (1, .int a1), (2, .int a2)] [] v
  refine q_aload_n o dX9_about_0 rfl ?_
  refine q_getR (q := 0) o sf_X9_about_10 (by decide) dX9_about_1 ?_
  refine q_iload_n o dX9_about_4 rfl ?_
  refine q_callV o [.int a1] (ad_X2_isMember l G a1 v h) gX9_about_X2_isMember rfl rfl rfl rfl (by decide) ⟨rfl, by decide, by decide, pd_X2_isMember⟩ (by decide) (by decide) rfl (Nat.le_of_ble_eq_true rfl) dX9_about_5 (fun r2 v1 h => ?_)
  refine q_if_ne o 13 dX9_about_8 (by decide) (fun c23 => ?_) (fun c23 => ?_)
  · have h := h.1 c23
    refine q_aload_n o dX9_about_13 rfl ?_
    refine q_getR (q := 0) o sf_X9_about_10 (by decide) dX9_about_14 ?_
    refine q_getR (q := 12) o sf_X9_about_80 (by decide) dX9_about_17 ?_
    refine q_iload_n o dX9_about_20 rfl ?_
    obtain ⟨n3, hn4, hx5, h⟩ := h
    refine q_mald o hn4 hx5 dX9_about_21 ?_
    refine q_astore_n o (lv' := [(3, .ref (gA G 14 n3)), (0, .ref (gA G 0 0)), (1, .int a1), (2, .int a2)]) dX9_about_22 (by decide) rfl ?_
    refine q_iload_n o dX9_about_23 rfl ?_
    refine q_tab o [96, 101, 116, 127, 135, 140, 145, 150, 155, 166, 171, 179, 190, 201] 212 dX9_about_24 rfl rfl (by decide) (by decide +kernel) (by decide) (fun n0 hn0 c6 => ?_) (fun c6 => ?_)
    · match n0, hn0, c6 with
      | 0, _, c6 =>
        have h := h.1 c6
        change J l G X 96 [(3, .ref (gA G 14 n3)), (0, .ref (gA G 0 0)), (1, .int a1), (2, .int a2)] [] v1
        refine q_aload_n o dX9_about_96 rfl ?_
        refine q_getI o sf_X9_about_84 hn4 dX9_about_97 ?_
        exact q_iret o rt dX9_about_100 h
      | 1, _, c6 =>
        have h := h.2.1 c6
        change J l G X 101 [(3, .ref (gA G 14 n3)), (0, .ref (gA G 0 0)), (1, .int a1), (2, .int a2)] [] v1
        refine q_aload_n o dX9_about_101 rfl ?_
        refine q_getR (q := 0) o sf_X9_about_10 (by decide) dX9_about_102 ?_
        refine q_getI o sf_X9_about_107 (by decide) dX9_about_105 ?_
        refine q_iload_n o dX9_about_108 rfl ?_
        refine q_callS o [.int (v1 1 0 4), .int a1] (ad_X9_isIn l G (v1 1 0 4) a1 v1 h) gX9_about_X9_isIn rfl ⟨by decide, by decide, pd_X9_isIn⟩ (by decide) (by decide) rfl (Nat.le_of_ble_eq_true rfl) dX9_about_109 (fun r8 v7 h => ?_)
        refine q_callS o [.int r8] (ad_X9_oneIf l G r8 v7 h) gX9_about_X9_oneIf rfl ⟨by decide, by decide, pd_X9_oneIf⟩ (by decide) (by decide) rfl (Nat.le_of_ble_eq_true rfl) dX9_about_112 (fun r10 v9 h => ?_)
        exact q_iret o rt dX9_about_115 h
      | 2, _, c6 =>
        have h := h.2.2.1 c6
        change J l G X 116 [(3, .ref (gA G 14 n3)), (0, .ref (gA G 0 0)), (1, .int a1), (2, .int a2)] [] v1
        refine q_aload_n o dX9_about_116 rfl ?_
        refine q_getR (q := 14) o sf_X9_about_136 hn4 dX9_about_117 ?_
        refine q_getI o sf_X9_about_140 hn4 dX9_about_120 ?_
        refine q_callS o [.int (v1 15 n3 3)] (ad_J6_bitCount_0f7a4 l G (v1 15 n3 3) v1 h) gX9_about_J6_bitCount_0f7a4 rfl ⟨by decide, by decide, pd_J6_bitCount_0f7a4⟩ (by decide) (by decide) rfl (Nat.le_of_ble_eq_true rfl) dX9_about_123 (fun r12 v11 h => ?_)
        exact q_iret o rt dX9_about_126 h
      | 3, _, c6 =>
        have h := h.2.2.2.1 c6
        change J l G X 127 [(3, .ref (gA G 14 n3)), (0, .ref (gA G 0 0)), (1, .int a1), (2, .int a2)] [] v1
        refine q_aload_n o dX9_about_127 rfl ?_
        refine q_getR (q := 14) o sf_X9_about_136 hn4 dX9_about_128 ?_
        refine q_callV o [] (ad_X6_heldInAll l G n3 hn4 v1 h) gX9_about_X6_heldInAll rfl rfl rfl rfl hn4 ⟨rfl, by decide, by decide, pd_X6_heldInAll⟩ (by decide) (by decide) rfl (Nat.le_of_ble_eq_true rfl) dX9_about_131 (fun r14 v13 h => ?_)
        exact q_iret o rt dX9_about_134 h
      | 4, _, c6 =>
        have h := h.2.2.2.2.1 c6
        change J l G X 135 [(3, .ref (gA G 14 n3)), (0, .ref (gA G 0 0)), (1, .int a1), (2, .int a2)] [] v1
        refine q_aload_n o dX9_about_135 rfl ?_
        refine q_getI o sf_X9_about_154 hn4 dX9_about_136 ?_
        exact q_iret o rt dX9_about_139 h
      | 5, _, c6 =>
        have h := h.2.2.2.2.2.1 c6
        change J l G X 140 [(3, .ref (gA G 14 n3)), (0, .ref (gA G 0 0)), (1, .int a1), (2, .int a2)] [] v1
        refine q_aload_n o dX9_about_140 rfl ?_
        refine q_getI o sf_X9_about_157 hn4 dX9_about_141 ?_
        exact q_iret o rt dX9_about_144 h
      | 6, _, c6 =>
        have h := h.2.2.2.2.2.2.1 c6
        change J l G X 145 [(3, .ref (gA G 14 n3)), (0, .ref (gA G 0 0)), (1, .int a1), (2, .int a2)] [] v1
        refine q_aload_n o dX9_about_145 rfl ?_
        refine q_getI o sf_X9_about_160 hn4 dX9_about_146 ?_
        exact q_iret o rt dX9_about_149 h
      | 7, _, c6 =>
        have h := h.2.2.2.2.2.2.2.1 c6
        change J l G X 150 [(3, .ref (gA G 14 n3)), (0, .ref (gA G 0 0)), (1, .int a1), (2, .int a2)] [] v1
        refine q_aload_n o dX9_about_150 rfl ?_
        refine q_getI o sf_X9_about_163 hn4 dX9_about_151 ?_
        exact q_iret o rt dX9_about_154 h
      | 8, _, c6 =>
        have h := h.2.2.2.2.2.2.2.2.1 c6
        change J l G X 155 [(3, .ref (gA G 14 n3)), (0, .ref (gA G 0 0)), (1, .int a1), (2, .int a2)] [] v1
        refine q_aload_n o dX9_about_155 rfl ?_
        refine q_getR (q := 14) o sf_X9_about_136 hn4 dX9_about_156 ?_
        refine q_getI o sf_X9_about_166 hn4 dX9_about_159 ?_
        refine q_callS o [.int (v1 15 n3 4)] (ad_J6_bitCount_0f7a4 l G (v1 15 n3 4) v1 h) gX9_about_J6_bitCount_0f7a4 rfl ⟨by decide, by decide, pd_J6_bitCount_0f7a4⟩ (by decide) (by decide) rfl (Nat.le_of_ble_eq_true rfl) dX9_about_162 (fun r16 v15 h => ?_)
        exact q_iret o rt dX9_about_165 h
      | 9, _, c6 =>
        have h := h.2.2.2.2.2.2.2.2.2.1 c6
        change J l G X 166 [(3, .ref (gA G 14 n3)), (0, .ref (gA G 0 0)), (1, .int a1), (2, .int a2)] [] v1
        refine q_aload_n o dX9_about_166 rfl ?_
        refine q_getI o sf_X9_about_169 hn4 dX9_about_167 ?_
        exact q_iret o rt dX9_about_170 h
      | 10, _, c6 =>
        have h := h.2.2.2.2.2.2.2.2.2.2.1 c6
        change J l G X 171 [(3, .ref (gA G 14 n3)), (0, .ref (gA G 0 0)), (1, .int a1), (2, .int a2)] [] v1
        refine q_aload_n o dX9_about_171 rfl ?_
        refine q_getR (q := 14) o sf_X9_about_136 hn4 dX9_about_172 ?_
        refine q_getI o sf_X9_about_172 hn4 dX9_about_175 ?_
        exact q_iret o rt dX9_about_178 h
      | 11, _, c6 =>
        have h := h.2.2.2.2.2.2.2.2.2.2.2.1 c6
        change J l G X 179 [(3, .ref (gA G 14 n3)), (0, .ref (gA G 0 0)), (1, .int a1), (2, .int a2)] [] v1
        refine q_aload_n o dX9_about_179 rfl ?_
        refine q_getR (q := 15) o sf_X9_about_95 hn4 dX9_about_180 ?_
        refine q_getI o sf_X9_about_175 hn4 dX9_about_183 ?_
        refine q_callS o [.int (v1 16 n3 5)] (ad_J6_bitCount_0f7a4 l G (v1 16 n3 5) v1 h) gX9_about_J6_bitCount_0f7a4 rfl ⟨by decide, by decide, pd_J6_bitCount_0f7a4⟩ (by decide) (by decide) rfl (Nat.le_of_ble_eq_true rfl) dX9_about_186 (fun r18 v17 h => ?_)
        exact q_iret o rt dX9_about_189 h
      | 12, _, c6 =>
        have h := h.2.2.2.2.2.2.2.2.2.2.2.2.1 c6
        change J l G X 190 [(3, .ref (gA G 14 n3)), (0, .ref (gA G 0 0)), (1, .int a1), (2, .int a2)] [] v1
        refine q_aload_n o dX9_about_190 rfl ?_
        refine q_getR (q := 15) o sf_X9_about_95 hn4 dX9_about_191 ?_
        refine q_getI o sf_X9_about_178 hn4 dX9_about_194 ?_
        refine q_callS o [.int (v1 16 n3 7)] (ad_J6_bitCount_0f7a4 l G (v1 16 n3 7) v1 h) gX9_about_J6_bitCount_0f7a4 rfl ⟨by decide, by decide, pd_J6_bitCount_0f7a4⟩ (by decide) (by decide) rfl (Nat.le_of_ble_eq_true rfl) dX9_about_197 (fun r20 v19 h => ?_)
        exact q_iret o rt dX9_about_200 h
      | 13, _, c6 =>
        have h := h.2.2.2.2.2.2.2.2.2.2.2.2.2.1 c6
        change J l G X 201 [(3, .ref (gA G 14 n3)), (0, .ref (gA G 0 0)), (1, .int a1), (2, .int a2)] [] v1
        refine q_aload_n o dX9_about_201 rfl ?_
        refine q_getR (q := 15) o sf_X9_about_95 hn4 dX9_about_202 ?_
        refine q_getI o sf_X9_about_99 hn4 dX9_about_205 ?_
        refine q_callS o [.int (v1 16 n3 4)] (ad_J6_bitCount_0f7a4 l G (v1 16 n3 4) v1 h) gX9_about_J6_bitCount_0f7a4 rfl ⟨by decide, by decide, pd_J6_bitCount_0f7a4⟩ (by decide) (by decide) rfl (Nat.le_of_ble_eq_true rfl) dX9_about_208 (fun r22 v21 h => ?_)
        exact q_iret o rt dX9_about_211 h
      | (n0 + 14), hn0, _ => exact absurd hn0 (by show ¬ (n0 + 14 < 14); omega)
    · have h := h.2.2.2.2.2.2.2.2.2.2.2.2.2.2 c6
      refine q_iconst o dX9_about_212 (x := (-1 : Int32)) (by decide) ?_
      exact q_iret o rt dX9_about_213 h
  · have h := h.2 c23
    refine q_iconst o dX9_about_11 (x := (-1 : Int32)) (by decide) ?_
    exact q_iret o rt dX9_about_12 h
theorem pd_X9_about : (parseMethodDescriptor yX9_about.desc).map (fun d => d.parameters.length) = some 2 := by decide +kernel
-- PieceSwarm.held(II)I
theorem inn_X9_held_X9 : ∀ w ∈ wsX90, w ∈ wsX9_held := by decide +kernel
theorem sf_X9_held_10 : SF wsX9_held RX9 10 0 0 1 := ⟨RX9, TX9, 4, rfl, rfl, rfl, rfl, by decide, inn_X9_held_X9, by decide +kernel⟩
theorem inn_X9_held_X2 : ∀ w ∈ wsX20, w ∈ wsX9_held := by decide +kernel
theorem sf_X9_held_47 : SF wsX9_held RX9 47 1 0 5 := ⟨RX2, TX2, 8, rfl, rfl, rfl, rfl, by decide, inn_X9_held_X2, by decide +kernel⟩
theorem sf_X9_held_80 : SF wsX9_held RX9 80 1 1 13 := ⟨RX2, TX2, 8, rfl, rfl, rfl, rfl, by decide, inn_X9_held_X2, by decide +kernel⟩
theorem inn_X9_held_X3 : ∀ w ∈ wsX30, w ∈ wsX9_held := by decide +kernel
theorem sf_X9_held_136 : SF wsX9_held RX9 136 14 0 15 := ⟨RX3, TX3, 13, rfl, rfl, rfl, rfl, by decide, inn_X9_held_X3, by decide +kernel⟩
theorem inn_X9_held_X6 : ∀ w ∈ wsX60, w ∈ wsX9_held := by decide +kernel
theorem sf_X9_held_140 : SF wsX9_held RX9 140 15 3 0 := ⟨RX6, TX6, 6, rfl, rfl, rfl, rfl, by decide, inn_X9_held_X6, by decide +kernel⟩
theorem inn_X9_held_X8 : ∀ w ∈ wsX80, w ∈ wsX9_held := by decide +kernel
theorem sf_X9_held_181 : SF wsX9_held RX9 181 5 1 0 := ⟨RX8, TX8, 3, rfl, rfl, rfl, rfl, by decide, inn_X9_held_X8, by decide +kernel⟩
def wp_X9_held (a1 : Int32) (a2 : Int32) (v : St3) (post : (Int32 → St3 → Prop)) : Prop := wp_X2_isMember a1 v (fun r2 v1 => ((r2 = 0 → post (-1 : Int32) v1) ∧ (¬ r2 = 0 → wp_X8_isPiece a2 v1 (fun r4 v3 => ((¬ r4 = 0 → ∃ n5, n5 < 12 ∧ a1 = nI n5 ∧ wp_X9_isIn (v3 15 n5 3) a2 v3 (fun r9 v8 => ((r9 = 0 → wp_X6_heldOf n5 a2 v8 (fun r11 v10 => post r11 v10)) ∧ (¬ r9 = 0 → post (v8 5 0 1) v8)))) ∧ (r4 = 0 → post (-1 : Int32) v3))))))
set_option maxRecDepth 20000 in
set_option maxHeartbeats 4000000 in
theorem ad_X9_held (l : Launch) (G : Geo) (a1 : Int32) (a2 : Int32) (v : St3) {post : (Int32 → St3 → Prop)} (h : wp_X9_held a1 a2 v post) : CI l G yX9_held wsX9_held 3 [.ref (gA G 0 0), .int a1, .int a2] v post := by
  refine CI.of (ty := .int) (cc := cX9_held) (maxL := 4) (by decide) rfl (Nat.le_of_ble_eq_true rfl) (fun X o rt => ?_)
  unfold wp_X9_held at h
  show J l G X 0 [(0, .ref (gA G 0 0)), (1, .int a1), (2, .int a2)] [] v
  refine q_aload_n o dX9_held_0 rfl ?_
  refine q_getR (q := 0) o sf_X9_held_10 (by decide) dX9_held_1 ?_
  refine q_iload_n o dX9_held_4 rfl ?_
  refine q_callV o [.int a1] (ad_X2_isMember l G a1 v h) gX9_held_X2_isMember rfl rfl rfl rfl (by decide) ⟨rfl, by decide, by decide, pd_X2_isMember⟩ (by decide) (by decide) rfl (Nat.le_of_ble_eq_true rfl) dX9_held_5 (fun r2 v1 h => ?_)
  refine q_if_eq o 25 dX9_held_8 (by decide) (fun c14 => ?_) (fun c14 => ?_)
  · have h := h.1 c14
    refine q_iconst o dX9_held_25 (x := (-1 : Int32)) (by decide) ?_
    exact q_iret o rt dX9_held_26 h
  · have h := h.2 c14
    refine q_aload_n o dX9_held_11 rfl ?_
    refine q_getR (q := 0) o sf_X9_held_10 (by decide) dX9_held_12 ?_
    refine q_getR (q := 4) o sf_X9_held_47 (by decide) dX9_held_15 ?_
    refine q_iload_n o dX9_held_18 rfl ?_
    refine q_callV o [.int a2] (ad_X8_isPiece l G a2 v1 h) gX9_held_X8_isPiece rfl rfl rfl rfl (by decide) ⟨rfl, by decide, by decide, pd_X8_isPiece⟩ (by decide) (by decide) rfl (Nat.le_of_ble_eq_true rfl) dX9_held_19 (fun r4 v3 h => ?_)
    refine q_if_ne o 27 dX9_held_22 (by decide) (fun c13 => ?_) (fun c13 => ?_)
    · have h := h.1 c13
      refine q_aload_n o dX9_held_27 rfl ?_
      refine q_getR (q := 0) o sf_X9_held_10 (by decide) dX9_held_28 ?_
      refine q_getR (q := 12) o sf_X9_held_80 (by decide) dX9_held_31 ?_
      refine q_iload_n o dX9_held_34 rfl ?_
      obtain ⟨n5, hn6, hx7, h⟩ := h
      refine q_mald o hn6 hx7 dX9_held_35 ?_
      refine q_getR (q := 14) o sf_X9_held_136 hn6 dX9_held_36 ?_
      refine q_astore_n o (lv' := [(3, .ref (gA G 15 n5)), (0, .ref (gA G 0 0)), (1, .int a1), (2, .int a2)]) dX9_held_39 (by decide) rfl ?_
      refine q_aload_n o dX9_held_40 rfl ?_
      refine q_getI o sf_X9_held_140 hn6 dX9_held_41 ?_
      refine q_iload_n o dX9_held_44 rfl ?_
      refine q_callS o [.int (v3 15 n5 3), .int a2] (ad_X9_isIn l G (v3 15 n5 3) a2 v3 h) gX9_held_X9_isIn rfl ⟨by decide, by decide, pd_X9_isIn⟩ (by decide) (by decide) rfl (Nat.le_of_ble_eq_true rfl) dX9_held_45 (fun r9 v8 h => ?_)
      refine q_if_eq o 64 dX9_held_48 (by decide) (fun c12 => ?_) (fun c12 => ?_)
      · have h := h.1 c12
        refine q_aload_n o dX9_held_64 rfl ?_
        refine q_iload_n o dX9_held_65 rfl ?_
        refine q_callV o [.int a2] (ad_X6_heldOf l G n5 a2 hn6 v8 h) gX9_held_X6_heldOf rfl rfl rfl rfl hn6 ⟨rfl, by decide, by decide, pd_X6_heldOf⟩ (by decide) (by decide) rfl (Nat.le_of_ble_eq_true rfl) dX9_held_66 (fun r11 v10 h => ?_)
        exact q_iret o rt dX9_held_69 h
      · have h := h.2 c12
        refine q_aload_n o dX9_held_51 rfl ?_
        refine q_getR (q := 0) o sf_X9_held_10 (by decide) dX9_held_52 ?_
        refine q_getR (q := 4) o sf_X9_held_47 (by decide) dX9_held_55 ?_
        refine q_getI o sf_X9_held_181 (by decide) dX9_held_58 ?_
        refine q_goto o 69 dX9_held_61 (by decide) ?_
        exact q_iret o rt dX9_held_69 h
    · have h := h.2 c13
      refine q_iconst o dX9_held_25 (x := (-1 : Int32)) (by decide) ?_
      exact q_iret o rt dX9_held_26 h
theorem pd_X9_held : (parseMethodDescriptor yX9_held.desc).map (fun d => d.parameters.length) = some 2 := by decide +kernel
-- PieceSwarm.from(III)I
theorem inn_X9_from_X9 : ∀ w ∈ wsX90, w ∈ wsX9_from := by decide +kernel
theorem sf_X9_from_10 : SF wsX9_from RX9 10 0 0 1 := ⟨RX9, TX9, 4, rfl, rfl, rfl, rfl, by decide, inn_X9_from_X9, by decide +kernel⟩
theorem inn_X9_from_X2 : ∀ w ∈ wsX20, w ∈ wsX9_from := by decide +kernel
theorem sf_X9_from_47 : SF wsX9_from RX9 47 1 0 5 := ⟨RX2, TX2, 8, rfl, rfl, rfl, rfl, by decide, inn_X9_from_X2, by decide +kernel⟩
theorem sf_X9_from_80 : SF wsX9_from RX9 80 1 1 13 := ⟨RX2, TX2, 8, rfl, rfl, rfl, rfl, by decide, inn_X9_from_X2, by decide +kernel⟩
theorem inn_X9_from_X3 : ∀ w ∈ wsX30, w ∈ wsX9_from := by decide +kernel
theorem sf_X9_from_136 : SF wsX9_from RX9 136 14 0 15 := ⟨RX3, TX3, 13, rfl, rfl, rfl, rfl, by decide, inn_X9_from_X3, by decide +kernel⟩
theorem inn_X9_from_X6 : ∀ w ∈ wsX60, w ∈ wsX9_from := by decide +kernel
theorem sf_X9_from_187 : SF wsX9_from RX9 187 15 0 17 := ⟨RX6, TX6, 6, rfl, rfl, rfl, rfl, by decide, inn_X9_from_X6, by decide +kernel⟩
def wp_X9_from (a1 : Int32) (a2 : Int32) (a3 : Int32) (v : St3) (post : (Int32 → St3 → Prop)) : Prop := wp_X2_isMember a1 v (fun r2 v1 => ((r2 = 0 → post (-1 : Int32) v1) ∧ (¬ r2 = 0 → wp_X8_isBlock a2 a3 v1 (fun r4 v3 => ((¬ r4 = 0 → ∃ n5, n5 < 12 ∧ a1 = nI n5 ∧ wp_X9_place a2 a3 v3 (fun r9 v8 => ∃ n10, n10 < 96 ∧ r9 = nI n10 ∧ post (v8 17 n5 n10) v8)) ∧ (r4 = 0 → post (-1 : Int32) v3))))))
set_option maxRecDepth 20000 in
set_option maxHeartbeats 4000000 in
theorem ad_X9_from (l : Launch) (G : Geo) (a1 : Int32) (a2 : Int32) (a3 : Int32) (v : St3) {post : (Int32 → St3 → Prop)} (h : wp_X9_from a1 a2 a3 v post) : CI l G yX9_from wsX9_from 2 [.ref (gA G 0 0), .int a1, .int a2, .int a3] v post := by
  refine CI.of (ty := .int) (cc := cX9_from) (maxL := 4) (by decide) rfl (Nat.le_of_ble_eq_true rfl) (fun X o rt => ?_)
  unfold wp_X9_from at h
  show J l G X 0 [(0, .ref (gA G 0 0)), (1, .int a1), (2, .int a2), (3, .int a3)] [] v
  refine q_aload_n o dX9_from_0 rfl ?_
  refine q_getR (q := 0) o sf_X9_from_10 (by decide) dX9_from_1 ?_
  refine q_iload_n o dX9_from_4 rfl ?_
  refine q_callV o [.int a1] (ad_X2_isMember l G a1 v h) gX9_from_X2_isMember rfl rfl rfl rfl (by decide) ⟨rfl, by decide, by decide, pd_X2_isMember⟩ (by decide) (by decide) rfl (Nat.le_of_ble_eq_true rfl) dX9_from_5 (fun r2 v1 h => ?_)
  refine q_if_eq o 26 dX9_from_8 (by decide) (fun c14 => ?_) (fun c14 => ?_)
  · have h := h.1 c14
    refine q_iconst o dX9_from_26 (x := (-1 : Int32)) (by decide) ?_
    exact q_iret o rt dX9_from_27 h
  · have h := h.2 c14
    refine q_aload_n o dX9_from_11 rfl ?_
    refine q_getR (q := 0) o sf_X9_from_10 (by decide) dX9_from_12 ?_
    refine q_getR (q := 4) o sf_X9_from_47 (by decide) dX9_from_15 ?_
    refine q_iload_n o dX9_from_18 rfl ?_
    refine q_iload_n o dX9_from_19 rfl ?_
    refine q_callV o [.int a2, .int a3] (ad_X8_isBlock l G a2 a3 v1 h) gX9_from_X8_isBlock rfl rfl rfl rfl (by decide) ⟨rfl, by decide, by decide, pd_X8_isBlock⟩ (by decide) (by decide) rfl (Nat.le_of_ble_eq_true rfl) dX9_from_20 (fun r4 v3 h => ?_)
    refine q_if_ne o 28 dX9_from_23 (by decide) (fun c13 => ?_) (fun c13 => ?_)
    · have h := h.1 c13
      refine q_aload_n o dX9_from_28 rfl ?_
      refine q_getR (q := 0) o sf_X9_from_10 (by decide) dX9_from_29 ?_
      refine q_getR (q := 12) o sf_X9_from_80 (by decide) dX9_from_32 ?_
      refine q_iload_n o dX9_from_35 rfl ?_
      obtain ⟨n5, hn6, hx7, h⟩ := h
      refine q_mald o hn6 hx7 dX9_from_36 ?_
      refine q_getR (q := 14) o sf_X9_from_136 hn6 dX9_from_37 ?_
      refine q_getR (q := 16) o sf_X9_from_187 hn6 dX9_from_40 ?_
      refine q_iload_n o dX9_from_43 rfl ?_
      refine q_iload_n o dX9_from_44 rfl ?_
      refine q_callS o [.int a2, .int a3] (ad_X9_place l G a2 a3 v3 h) gX9_from_X9_place rfl ⟨by decide, by decide, pd_X9_place⟩ (by decide) (by decide) rfl (Nat.le_of_ble_eq_true rfl) dX9_from_45 (fun r9 v8 h => ?_)
      obtain ⟨n10, hn11, hx12, h⟩ := h
      refine q_iald (m := 95) o rfl rfl hn6 hn11 hx12 dX9_from_48 ?_
      exact q_iret o rt dX9_from_49 h
    · have h := h.2 c13
      refine q_iconst o dX9_from_26 (x := (-1 : Int32)) (by decide) ?_
      exact q_iret o rt dX9_from_27 h
theorem pd_X9_from : (parseMethodDescriptor yX9_from.desc).map (fun d => d.parameters.length) = some 3 := by decide +kernel
-- PieceSwarm.got(III)I
theorem inn_X9_got_X9 : ∀ w ∈ wsX90, w ∈ wsX9_got := by decide +kernel
theorem sf_X9_got_10 : SF wsX9_got RX9 10 0 0 1 := ⟨RX9, TX9, 4, rfl, rfl, rfl, rfl, by decide, inn_X9_got_X9, by decide +kernel⟩
theorem inn_X9_got_X2 : ∀ w ∈ wsX20, w ∈ wsX9_got := by decide +kernel
theorem sf_X9_got_47 : SF wsX9_got RX9 47 1 0 5 := ⟨RX2, TX2, 8, rfl, rfl, rfl, rfl, by decide, inn_X9_got_X2, by decide +kernel⟩
theorem sf_X9_got_80 : SF wsX9_got RX9 80 1 1 13 := ⟨RX2, TX2, 8, rfl, rfl, rfl, rfl, by decide, inn_X9_got_X2, by decide +kernel⟩
theorem inn_X9_got_X3 : ∀ w ∈ wsX30, w ∈ wsX9_got := by decide +kernel
theorem sf_X9_got_136 : SF wsX9_got RX9 136 14 0 15 := ⟨RX3, TX3, 13, rfl, rfl, rfl, rfl, by decide, inn_X9_got_X3, by decide +kernel⟩
theorem inn_X9_got_X6 : ∀ w ∈ wsX60, w ∈ wsX9_got := by decide +kernel
theorem sf_X9_got_140 : SF wsX9_got RX9 140 15 3 0 := ⟨RX6, TX6, 6, rfl, rfl, rfl, rfl, by decide, inn_X9_got_X6, by decide +kernel⟩
theorem sf_X9_got_197 : SF wsX9_got RX9 197 15 1 18 := ⟨RX6, TX6, 6, rfl, rfl, rfl, rfl, by decide, inn_X9_got_X6, by decide +kernel⟩
def wB_X9_got_64 (post : (Int32 → St3 → Prop)) (a2 : Int32) (a3 : Int32) (i4 : Nat) (v : St3) : Prop := (((1 : Int32) = 0 → post (0 : Int32) v) ∧ (¬ (1 : Int32) = 0 → wp_X9_place a2 a3 v (fun r11 v10 => ∃ n12, n12 < 96 ∧ r11 = nI n12 ∧ post (v10 18 i4 n12) v10)))
set_option maxRecDepth 20000 in
set_option maxHeartbeats 4000000 in
theorem aJ_X9_got_64 {l : Launch} {G : Geo} {X : CT} (o : OK G X cX9_got wsX9_got RX9 2 6) {post : (Int32 → St3 → Prop)} (rt : RI G X .int post) (a2 : Int32) (a3 : Int32) (i4 : Nat) (hi4 : i4 < 12) (v : St3) (h : wB_X9_got_64 post a2 a3 i4 v) : J l G X 64 [(2, .int a2), (3, .int a3), (4, .ref (gA G 15 i4))] [] v := by
  unfold wB_X9_got_64 at h
  refine q_iconst o dX9_got_64 (x := (1 : Int32)) (by decide) ?_
  refine q_goto o 69 dX9_got_65 (by decide) ?_
  refine q_istore o (lv' := [(5, .int (1 : Int32)), (2, .int a2), (3, .int a3), (4, .ref (gA G 15 i4))]) dX9_got_69 (by decide) rfl ?_
  refine q_iload o dX9_got_71 rfl ?_
  refine q_if_eq o 90 dX9_got_73 (by decide) (fun c15 => ?_) (fun c15 => ?_)
  · have h := h.1 c15
    refine q_iconst o dX9_got_90 (x := (0 : Int32)) (by decide) ?_
    exact q_iret o rt dX9_got_91 h
  · have h := h.2 c15
    refine q_aload o dX9_got_76 rfl ?_
    refine q_getR (q := 17) o sf_X9_got_197 hi4 dX9_got_78 ?_
    refine q_iload_n o dX9_got_81 rfl ?_
    refine q_iload_n o dX9_got_82 rfl ?_
    refine q_callS o [.int a2, .int a3] (ad_X9_place l G a2 a3 v h) gX9_got_X9_place rfl ⟨by decide, by decide, pd_X9_place⟩ (by decide) (by decide) rfl (Nat.le_of_ble_eq_true rfl) dX9_got_83 (fun r11 v10 h => ?_)
    obtain ⟨n12, hn13, hx14, h⟩ := h
    refine q_iald (m := 95) o rfl rfl hi4 hn13 hx14 dX9_got_86 ?_
    refine q_goto o 91 dX9_got_87 (by decide) ?_
    exact q_iret o rt dX9_got_91 h
def wp_X9_got (a1 : Int32) (a2 : Int32) (a3 : Int32) (v : St3) (post : (Int32 → St3 → Prop)) : Prop := wp_X2_isMember a1 v (fun r2 v1 => ((r2 = 0 → post (0 : Int32) v1) ∧ (¬ r2 = 0 → wp_X8_isBlock a2 a3 v1 (fun r4 v3 => ((¬ r4 = 0 → ∃ n5, n5 < 12 ∧ a1 = nI n5 ∧ wp_X9_isIn (v3 15 n5 3) a2 v3 (fun r9 v8 => ((¬ r9 = 0 → wB_X9_got_64 post a2 a3 n5 v8) ∧ (r9 = 0 → wp_X6_holds n5 a2 a3 v8 (fun r17 v16 => ((r17 = 0 → (((0 : Int32) = 0 → post (0 : Int32) v16) ∧ (¬ (0 : Int32) = 0 → wp_X9_place a2 a3 v16 (fun r19 v18 => ∃ n20, n20 < 96 ∧ r19 = nI n20 ∧ post (v18 18 n5 n20) v18)))) ∧ (¬ r17 = 0 → wB_X9_got_64 post a2 a3 n5 v16))))))) ∧ (r4 = 0 → post (0 : Int32) v3))))))
set_option maxRecDepth 20000 in
set_option maxHeartbeats 4000000 in
theorem ad_X9_got (l : Launch) (G : Geo) (a1 : Int32) (a2 : Int32) (a3 : Int32) (v : St3) {post : (Int32 → St3 → Prop)} (h : wp_X9_got a1 a2 a3 v post) : CI l G yX9_got wsX9_got 2 [.ref (gA G 0 0), .int a1, .int a2, .int a3] v post := by
  refine CI.of (ty := .int) (cc := cX9_got) (maxL := 6) (by decide) rfl (Nat.le_of_ble_eq_true rfl) (fun X o rt => ?_)
  unfold wp_X9_got at h
  show J l G X 0 [(0, .ref (gA G 0 0)), (1, .int a1), (2, .int a2), (3, .int a3)] [] v
  refine q_aload_n o dX9_got_0 rfl ?_
  refine q_getR (q := 0) o sf_X9_got_10 (by decide) dX9_got_1 ?_
  refine q_iload_n o dX9_got_4 rfl ?_
  refine q_callV o [.int a1] (ad_X2_isMember l G a1 v h) gX9_got_X2_isMember rfl rfl rfl rfl (by decide) ⟨rfl, by decide, by decide, pd_X2_isMember⟩ (by decide) (by decide) rfl (Nat.le_of_ble_eq_true rfl) dX9_got_5 (fun r2 v1 h => ?_)
  refine q_if_eq o 26 dX9_got_8 (by decide) (fun c27 => ?_) (fun c27 => ?_)
  · have h := h.1 c27
    refine q_iconst o dX9_got_26 (x := (0 : Int32)) (by decide) ?_
    exact q_iret o rt dX9_got_27 h
  · have h := h.2 c27
    refine q_aload_n o dX9_got_11 rfl ?_
    refine q_getR (q := 0) o sf_X9_got_10 (by decide) dX9_got_12 ?_
    refine q_getR (q := 4) o sf_X9_got_47 (by decide) dX9_got_15 ?_
    refine q_iload_n o dX9_got_18 rfl ?_
    refine q_iload_n o dX9_got_19 rfl ?_
    refine q_callV o [.int a2, .int a3] (ad_X8_isBlock l G a2 a3 v1 h) gX9_got_X8_isBlock rfl rfl rfl rfl (by decide) ⟨rfl, by decide, by decide, pd_X8_isBlock⟩ (by decide) (by decide) rfl (Nat.le_of_ble_eq_true rfl) dX9_got_20 (fun r4 v3 h => ?_)
    refine q_if_ne o 28 dX9_got_23 (by decide) (fun c26 => ?_) (fun c26 => ?_)
    · have h := h.1 c26
      refine q_aload_n o dX9_got_28 rfl ?_
      refine q_getR (q := 0) o sf_X9_got_10 (by decide) dX9_got_29 ?_
      refine q_getR (q := 12) o sf_X9_got_80 (by decide) dX9_got_32 ?_
      refine q_iload_n o dX9_got_35 rfl ?_
      obtain ⟨n5, hn6, hx7, h⟩ := h
      refine q_mald o hn6 hx7 dX9_got_36 ?_
      refine q_getR (q := 14) o sf_X9_got_136 hn6 dX9_got_37 ?_
      refine q_astore o (lv' := [(4, .ref (gA G 15 n5)), (0, .ref (gA G 0 0)), (1, .int a1), (2, .int a2), (3, .int a3)]) dX9_got_40 (by decide) rfl ?_
      refine q_aload o dX9_got_42 rfl ?_
      refine q_getI o sf_X9_got_140 hn6 dX9_got_44 ?_
      refine q_iload_n o dX9_got_47 rfl ?_
      refine q_callS o [.int (v3 15 n5 3), .int a2] (ad_X9_isIn l G (v3 15 n5 3) a2 v3 h) gX9_got_X9_isIn rfl ⟨by decide, by decide, pd_X9_isIn⟩ (by decide) (by decide) rfl (Nat.le_of_ble_eq_true rfl) dX9_got_48 (fun r9 v8 h => ?_)
      refine q_if_ne o 64 dX9_got_51 (by decide) (fun c25 => ?_) (fun c25 => ?_)
      · have h := h.1 c25
        refine q_lv [3, 4, 0] rfl ?_
        exact aJ_X9_got_64 o rt a2 a3 n5 hn6 v8 h
      · have h := h.2 c25
        refine q_aload o dX9_got_54 rfl ?_
        refine q_iload_n o dX9_got_56 rfl ?_
        refine q_iload_n o dX9_got_57 rfl ?_
        refine q_callV o [.int a2, .int a3] (ad_X6_holds l G n5 a2 a3 hn6 v8 h) gX9_got_X6_holds rfl rfl rfl rfl hn6 ⟨rfl, by decide, by decide, pd_X6_holds⟩ (by decide) (by decide) rfl (Nat.le_of_ble_eq_true rfl) dX9_got_58 (fun r17 v16 h => ?_)
        refine q_if_eq o 68 dX9_got_61 (by decide) (fun c24 => ?_) (fun c24 => ?_)
        · have h := h.1 c24
          refine q_iconst o dX9_got_68 (x := (0 : Int32)) (by decide) ?_
          refine q_istore o (lv' := [(5, .int (0 : Int32)), (4, .ref (gA G 15 n5)), (0, .ref (gA G 0 0)), (1, .int a1), (2, .int a2), (3, .int a3)]) dX9_got_69 (by decide) rfl ?_
          refine q_iload o dX9_got_71 rfl ?_
          refine q_if_eq o 90 dX9_got_73 (by decide) (fun c23 => ?_) (fun c23 => ?_)
          · have h := h.1 c23
            refine q_iconst o dX9_got_90 (x := (0 : Int32)) (by decide) ?_
            exact q_iret o rt dX9_got_91 h
          · have h := h.2 c23
            refine q_aload o dX9_got_76 rfl ?_
            refine q_getR (q := 17) o sf_X9_got_197 hn6 dX9_got_78 ?_
            refine q_iload_n o dX9_got_81 rfl ?_
            refine q_iload_n o dX9_got_82 rfl ?_
            refine q_callS o [.int a2, .int a3] (ad_X9_place l G a2 a3 v16 h) gX9_got_X9_place rfl ⟨by decide, by decide, pd_X9_place⟩ (by decide) (by decide) rfl (Nat.le_of_ble_eq_true rfl) dX9_got_83 (fun r19 v18 h => ?_)
            obtain ⟨n20, hn21, hx22, h⟩ := h
            refine q_iald (m := 95) o rfl rfl hn6 hn21 hx22 dX9_got_86 ?_
            refine q_goto o 91 dX9_got_87 (by decide) ?_
            exact q_iret o rt dX9_got_91 h
        · have h := h.2 c24
          refine q_lv [3, 4, 0] rfl ?_
          exact aJ_X9_got_64 o rt a2 a3 n5 hn6 v16 h
    · have h := h.2 c26
      refine q_iconst o dX9_got_26 (x := (0 : Int32)) (by decide) ?_
      exact q_iret o rt dX9_got_27 h
theorem pd_X9_got : (parseMethodDescriptor yX9_got.desc).map (fun d => d.parameters.length) = some 3 := by decide +kernel
-- PieceSwarm.rare(II)I
theorem inn_X9_rare_X9 : ∀ w ∈ wsX90, w ∈ wsX9_rare := by decide +kernel
theorem sf_X9_rare_10 : SF wsX9_rare RX9 10 0 0 1 := ⟨RX9, TX9, 4, rfl, rfl, rfl, rfl, by decide, inn_X9_rare_X9, by decide +kernel⟩
theorem inn_X9_rare_X2 : ∀ w ∈ wsX20, w ∈ wsX9_rare := by decide +kernel
theorem sf_X9_rare_47 : SF wsX9_rare RX9 47 1 0 5 := ⟨RX2, TX2, 8, rfl, rfl, rfl, rfl, by decide, inn_X9_rare_X2, by decide +kernel⟩
def wp_X9_rare (a1 : Int32) (a2 : Int32) (v : St3) (post : (Int32 → St3 → Prop)) : Prop := wp_X2_isMember a1 v (fun r2 v1 => ((r2 = 0 → post (-1 : Int32) v1) ∧ (¬ r2 = 0 → wp_X8_isPiece a2 v1 (fun r4 v3 => ((¬ r4 = 0 → wp_X2_nearTo a1 v3 (fun r6 v5 => wp_X2_tellersAmong r6 a2 v5 (fun r8 v7 => wp_J6_bitCount_0f7a4 r8 v7 (fun r10 v9 => post r10 v9)))) ∧ (r4 = 0 → post (-1 : Int32) v3))))))
set_option maxRecDepth 20000 in
set_option maxHeartbeats 4000000 in
theorem ad_X9_rare (l : Launch) (G : Geo) (a1 : Int32) (a2 : Int32) (v : St3) {post : (Int32 → St3 → Prop)} (h : wp_X9_rare a1 a2 v post) : CI l G yX9_rare wsX9_rare 2 [.ref (gA G 0 0), .int a1, .int a2] v post := by
  refine CI.of (ty := .int) (cc := cX9_rare) (maxL := 3) (by decide) rfl (Nat.le_of_ble_eq_true rfl) (fun X o rt => ?_)
  unfold wp_X9_rare at h
  show J l G X 0 [(0, .ref (gA G 0 0)), (1, .int a1), (2, .int a2)] [] v
  refine q_aload_n o dX9_rare_0 rfl ?_
  refine q_getR (q := 0) o sf_X9_rare_10 (by decide) dX9_rare_1 ?_
  refine q_iload_n o dX9_rare_4 rfl ?_
  refine q_callV o [.int a1] (ad_X2_isMember l G a1 v h) gX9_rare_X2_isMember rfl rfl rfl rfl (by decide) ⟨rfl, by decide, by decide, pd_X2_isMember⟩ (by decide) (by decide) rfl (Nat.le_of_ble_eq_true rfl) dX9_rare_5 (fun r2 v1 h => ?_)
  refine q_if_eq o 25 dX9_rare_8 (by decide) (fun c12 => ?_) (fun c12 => ?_)
  · have h := h.1 c12
    refine q_iconst o dX9_rare_25 (x := (-1 : Int32)) (by decide) ?_
    exact q_iret o rt dX9_rare_26 h
  · have h := h.2 c12
    refine q_aload_n o dX9_rare_11 rfl ?_
    refine q_getR (q := 0) o sf_X9_rare_10 (by decide) dX9_rare_12 ?_
    refine q_getR (q := 4) o sf_X9_rare_47 (by decide) dX9_rare_15 ?_
    refine q_iload_n o dX9_rare_18 rfl ?_
    refine q_callV o [.int a2] (ad_X8_isPiece l G a2 v1 h) gX9_rare_X8_isPiece rfl rfl rfl rfl (by decide) ⟨rfl, by decide, by decide, pd_X8_isPiece⟩ (by decide) (by decide) rfl (Nat.le_of_ble_eq_true rfl) dX9_rare_19 (fun r4 v3 h => ?_)
    refine q_if_ne o 27 dX9_rare_22 (by decide) (fun c11 => ?_) (fun c11 => ?_)
    · have h := h.1 c11
      refine q_aload_n o dX9_rare_27 rfl ?_
      refine q_getR (q := 0) o sf_X9_rare_10 (by decide) dX9_rare_28 ?_
      refine q_aload_n o dX9_rare_31 rfl ?_
      refine q_getR (q := 0) o sf_X9_rare_10 (by decide) dX9_rare_32 ?_
      refine q_iload_n o dX9_rare_35 rfl ?_
      refine q_callV o [.int a1] (ad_X2_nearTo l G a1 v3 h) gX9_rare_X2_nearTo rfl rfl rfl rfl (by decide) ⟨rfl, by decide, by decide, pd_X2_nearTo⟩ (by decide) (by decide) rfl (Nat.le_of_ble_eq_true rfl) dX9_rare_36 (fun r6 v5 h => ?_)
      refine q_iload_n o dX9_rare_39 rfl ?_
      refine q_callV o [.int r6, .int a2] (ad_X2_tellersAmong l G r6 a2 v5 h) gX9_rare_X2_tellersAmong rfl rfl rfl rfl (by decide) ⟨rfl, by decide, by decide, pd_X2_tellersAmong⟩ (by decide) (by decide) rfl (Nat.le_of_ble_eq_true rfl) dX9_rare_40 (fun r8 v7 h => ?_)
      refine q_callS o [.int r8] (ad_J6_bitCount_0f7a4 l G r8 v7 h) gX9_rare_J6_bitCount_0f7a4 rfl ⟨by decide, by decide, pd_J6_bitCount_0f7a4⟩ (by decide) (by decide) rfl (Nat.le_of_ble_eq_true rfl) dX9_rare_43 (fun r10 v9 h => ?_)
      exact q_iret o rt dX9_rare_46 h
    · have h := h.2 c11
      refine q_iconst o dX9_rare_25 (x := (-1 : Int32)) (by decide) ?_
      exact q_iret o rt dX9_rare_26 h
theorem pd_X9_rare : (parseMethodDescriptor yX9_rare.desc).map (fun d => d.parameters.length) = some 2 := by decide +kernel
-- PieceSwarm.pair(III)I
theorem inn_X9_pair_X9 : ∀ w ∈ wsX90, w ∈ wsX9_pair := by decide +kernel
theorem sf_X9_pair_10 : SF wsX9_pair RX9 10 0 0 1 := ⟨RX9, TX9, 4, rfl, rfl, rfl, rfl, by decide, inn_X9_pair_X9, by decide +kernel⟩
theorem inn_X9_pair_X2 : ∀ w ∈ wsX20, w ∈ wsX9_pair := by decide +kernel
theorem sf_X9_pair_80 : SF wsX9_pair RX9 80 1 1 13 := ⟨RX2, TX2, 8, rfl, rfl, rfl, rfl, by decide, inn_X9_pair_X2, by decide +kernel⟩
theorem inn_X9_pair_X3 : ∀ w ∈ wsX30, w ∈ wsX9_pair := by decide +kernel
theorem sf_X9_pair_95 : SF wsX9_pair RX9 95 14 1 16 := ⟨RX3, TX3, 13, rfl, rfl, rfl, rfl, by decide, inn_X9_pair_X3, by decide +kernel⟩
theorem inn_X9_pair_X7 : ∀ w ∈ wsX70, w ∈ wsX9_pair := by decide +kernel
theorem sf_X9_pair_99 : SF wsX9_pair RX9 99 16 4 0 := ⟨RX7, TX7, 10, rfl, rfl, rfl, rfl, by decide, inn_X9_pair_X7, by decide +kernel⟩
theorem sf_X9_pair_178 : SF wsX9_pair RX9 178 16 7 0 := ⟨RX7, TX7, 10, rfl, rfl, rfl, rfl, by decide, inn_X9_pair_X7, by decide +kernel⟩
theorem sf_X9_pair_212 : SF wsX9_pair RX9 212 16 2 22 := ⟨RX7, TX7, 10, rfl, rfl, rfl, rfl, by decide, inn_X9_pair_X7, by decide +kernel⟩
theorem sf_X9_pair_214 : SF wsX9_pair RX9 214 16 3 23 := ⟨RX7, TX7, 10, rfl, rfl, rfl, rfl, by decide, inn_X9_pair_X7, by decide +kernel⟩
theorem sf_X9_pair_175 : SF wsX9_pair RX9 175 16 5 0 := ⟨RX7, TX7, 10, rfl, rfl, rfl, rfl, by decide, inn_X9_pair_X7, by decide +kernel⟩
theorem sf_X9_pair_217 : SF wsX9_pair RX9 217 16 9 0 := ⟨RX7, TX7, 10, rfl, rfl, rfl, rfl, by decide, inn_X9_pair_X7, by decide +kernel⟩
def wp_X9_pair (a1 : Int32) (a2 : Int32) (a3 : Int32) (v : St3) (post : (Int32 → St3 → Prop)) : Prop := wp_X2_areTwo a1 a2 v (fun r2 v1 => ((¬ r2 = 0 → ∃ n3, n3 < 12 ∧ a1 = nI n3 ∧ ((a3 = nI 0 → wp_X9_isIn (v1 16 n3 4) a2 v1 (fun r8 v7 => wp_X9_oneIf r8 v7 (fun r10 v9 => post r10 v9))) ∧ (a3 = nI 1 → wp_X2_nearTo a1 v1 (fun r12 v11 => wp_X9_isIn r12 a2 v11 (fun r14 v13 => wp_X9_oneIf r14 v13 (fun r16 v15 => post r16 v15)))) ∧ (a3 = nI 2 → wp_X2_wantersOf a1 v1 (fun r18 v17 => wp_X9_isIn r18 a2 v17 (fun r20 v19 => wp_X9_oneIf r20 v19 (fun r22 v21 => post r22 v21)))) ∧ (a3 = nI 3 → wp_X9_isIn (v1 16 n3 7) a2 v1 (fun r24 v23 => wp_X9_oneIf r24 v23 (fun r26 v25 => post r26 v25))) ∧ (a3 = nI 4 → wp_X3_lateNumberOf n3 a2 v1 (fun r28 v27 => post r28 v27)) ∧ (a3 = nI 5 → ∃ n29, n29 < 12 ∧ a2 = nI n29 ∧ post (v1 22 n3 n29) v1) ∧ (a3 = nI 6 → ∃ n32, n32 < 12 ∧ a2 = nI n32 ∧ post (v1 23 n3 n32) v1) ∧ (a3 = nI 7 → wp_X9_isIn (v1 16 n3 5) a2 v1 (fun r36 v35 => wp_X9_oneIf r36 v35 (fun r38 v37 => post r38 v37))) ∧ (a3 = nI 8 → ((¬ (v1 16 n3 9) = a2 → wp_X9_oneIf (0 : Int32) v1 (fun r40 v39 => post r40 v39)) ∧ ((v1 16 n3 9) = a2 → wp_X9_isIn (v1 16 n3 7) a2 v1 (fun r42 v41 => ((r42 = 0 → wp_X9_oneIf (0 : Int32) v41 (fun r44 v43 => post r44 v43)) ∧ (¬ r42 = 0 → wp_X9_oneIf (1 : Int32) v41 (fun r46 v45 => post r46 v45))))))) ∧ ((a3 < 0 ∨ nI 9 ≤ a3) → post (-1 : Int32) v1))) ∧ (r2 = 0 → post (-1 : Int32) v1)))
set_option maxRecDepth 20000 in
set_option maxHeartbeats 4000000 in
theorem ad_X9_pair (l : Launch) (G : Geo) (a1 : Int32) (a2 : Int32) (a3 : Int32) (v : St3) {post : (Int32 → St3 → Prop)} (h : wp_X9_pair a1 a2 a3 v post) : CI l G yX9_pair wsX9_pair 3 [.ref (gA G 0 0), .int a1, .int a2, .int a3] v post := by
  refine CI.of (ty := .int) (cc := cX9_pair) (maxL := 5) (by decide) rfl (Nat.le_of_ble_eq_true rfl) (fun X o rt => ?_)
  unfold wp_X9_pair at h
  show J l G X 0 [(0, .ref (gA G 0 0)), (1, .int a1), (2, .int a2), (3, .int a3)] [] v
  refine q_aload_n o dX9_pair_0 rfl ?_
  refine q_getR (q := 0) o sf_X9_pair_10 (by decide) dX9_pair_1 ?_
  refine q_iload_n o dX9_pair_4 rfl ?_
  refine q_iload_n o dX9_pair_5 rfl ?_
  refine q_callV o [.int a1, .int a2] (ad_X2_areTwo l G a1 a2 v h) gX9_pair_X2_areTwo rfl rfl rfl rfl (by decide) ⟨rfl, by decide, by decide, pd_X2_areTwo⟩ (by decide) (by decide) rfl (Nat.le_of_ble_eq_true rfl) dX9_pair_6 (fun r2 v1 h => ?_)
  refine q_if_ne o 14 dX9_pair_9 (by decide) (fun c49 => ?_) (fun c49 => ?_)
  · have h := h.1 c49
    refine q_aload_n o dX9_pair_14 rfl ?_
    refine q_getR (q := 0) o sf_X9_pair_10 (by decide) dX9_pair_15 ?_
    refine q_getR (q := 12) o sf_X9_pair_80 (by decide) dX9_pair_18 ?_
    refine q_iload_n o dX9_pair_21 rfl ?_
    obtain ⟨n3, hn4, hx5, h⟩ := h
    refine q_mald o hn4 hx5 dX9_pair_22 ?_
    refine q_getR (q := 15) o sf_X9_pair_95 hn4 dX9_pair_23 ?_
    refine q_astore o (lv' := [(4, .ref (gA G 16 n3)), (0, .ref (gA G 0 0)), (1, .int a1), (2, .int a2), (3, .int a3)]) dX9_pair_26 (by decide) rfl ?_
    refine q_iload_n o dX9_pair_28 rfl ?_
    refine q_tab o [80, 93, 109, 125, 138, 152, 160, 168, 181] 211 dX9_pair_29 rfl rfl (by decide) (by decide +kernel) (by decide) (fun n0 hn0 c6 => ?_) (fun c6 => ?_)
    · match n0, hn0, c6 with
      | 0, _, c6 =>
        have h := h.1 c6
        change J l G X 80 [(4, .ref (gA G 16 n3)), (0, .ref (gA G 0 0)), (1, .int a1), (2, .int a2), (3, .int a3)] [] v1
        refine q_aload o dX9_pair_80 rfl ?_
        refine q_getI o sf_X9_pair_99 hn4 dX9_pair_82 ?_
        refine q_iload_n o dX9_pair_85 rfl ?_
        refine q_callS o [.int (v1 16 n3 4), .int a2] (ad_X9_isIn l G (v1 16 n3 4) a2 v1 h) gX9_pair_X9_isIn rfl ⟨by decide, by decide, pd_X9_isIn⟩ (by decide) (by decide) rfl (Nat.le_of_ble_eq_true rfl) dX9_pair_86 (fun r8 v7 h => ?_)
        refine q_callS o [.int r8] (ad_X9_oneIf l G r8 v7 h) gX9_pair_X9_oneIf rfl ⟨by decide, by decide, pd_X9_oneIf⟩ (by decide) (by decide) rfl (Nat.le_of_ble_eq_true rfl) dX9_pair_89 (fun r10 v9 h => ?_)
        exact q_iret o rt dX9_pair_92 h
      | 1, _, c6 =>
        have h := h.2.1 c6
        change J l G X 93 [(4, .ref (gA G 16 n3)), (0, .ref (gA G 0 0)), (1, .int a1), (2, .int a2), (3, .int a3)] [] v1
        refine q_aload_n o dX9_pair_93 rfl ?_
        refine q_getR (q := 0) o sf_X9_pair_10 (by decide) dX9_pair_94 ?_
        refine q_iload_n o dX9_pair_97 rfl ?_
        refine q_callV o [.int a1] (ad_X2_nearTo l G a1 v1 h) gX9_pair_X2_nearTo rfl rfl rfl rfl (by decide) ⟨rfl, by decide, by decide, pd_X2_nearTo⟩ (by decide) (by decide) rfl (Nat.le_of_ble_eq_true rfl) dX9_pair_98 (fun r12 v11 h => ?_)
        refine q_iload_n o dX9_pair_101 rfl ?_
        refine q_callS o [.int r12, .int a2] (ad_X9_isIn l G r12 a2 v11 h) gX9_pair_X9_isIn rfl ⟨by decide, by decide, pd_X9_isIn⟩ (by decide) (by decide) rfl (Nat.le_of_ble_eq_true rfl) dX9_pair_102 (fun r14 v13 h => ?_)
        refine q_callS o [.int r14] (ad_X9_oneIf l G r14 v13 h) gX9_pair_X9_oneIf rfl ⟨by decide, by decide, pd_X9_oneIf⟩ (by decide) (by decide) rfl (Nat.le_of_ble_eq_true rfl) dX9_pair_105 (fun r16 v15 h => ?_)
        exact q_iret o rt dX9_pair_108 h
      | 2, _, c6 =>
        have h := h.2.2.1 c6
        change J l G X 109 [(4, .ref (gA G 16 n3)), (0, .ref (gA G 0 0)), (1, .int a1), (2, .int a2), (3, .int a3)] [] v1
        refine q_aload_n o dX9_pair_109 rfl ?_
        refine q_getR (q := 0) o sf_X9_pair_10 (by decide) dX9_pair_110 ?_
        refine q_iload_n o dX9_pair_113 rfl ?_
        refine q_callV o [.int a1] (ad_X2_wantersOf l G a1 v1 h) gX9_pair_X2_wantersOf rfl rfl rfl rfl (by decide) ⟨rfl, by decide, by decide, pd_X2_wantersOf⟩ (by decide) (by decide) rfl (Nat.le_of_ble_eq_true rfl) dX9_pair_114 (fun r18 v17 h => ?_)
        refine q_iload_n o dX9_pair_117 rfl ?_
        refine q_callS o [.int r18, .int a2] (ad_X9_isIn l G r18 a2 v17 h) gX9_pair_X9_isIn rfl ⟨by decide, by decide, pd_X9_isIn⟩ (by decide) (by decide) rfl (Nat.le_of_ble_eq_true rfl) dX9_pair_118 (fun r20 v19 h => ?_)
        refine q_callS o [.int r20] (ad_X9_oneIf l G r20 v19 h) gX9_pair_X9_oneIf rfl ⟨by decide, by decide, pd_X9_oneIf⟩ (by decide) (by decide) rfl (Nat.le_of_ble_eq_true rfl) dX9_pair_121 (fun r22 v21 h => ?_)
        exact q_iret o rt dX9_pair_124 h
      | 3, _, c6 =>
        have h := h.2.2.2.1 c6
        change J l G X 125 [(4, .ref (gA G 16 n3)), (0, .ref (gA G 0 0)), (1, .int a1), (2, .int a2), (3, .int a3)] [] v1
        refine q_aload o dX9_pair_125 rfl ?_
        refine q_getI o sf_X9_pair_178 hn4 dX9_pair_127 ?_
        refine q_iload_n o dX9_pair_130 rfl ?_
        refine q_callS o [.int (v1 16 n3 7), .int a2] (ad_X9_isIn l G (v1 16 n3 7) a2 v1 h) gX9_pair_X9_isIn rfl ⟨by decide, by decide, pd_X9_isIn⟩ (by decide) (by decide) rfl (Nat.le_of_ble_eq_true rfl) dX9_pair_131 (fun r24 v23 h => ?_)
        refine q_callS o [.int r24] (ad_X9_oneIf l G r24 v23 h) gX9_pair_X9_oneIf rfl ⟨by decide, by decide, pd_X9_oneIf⟩ (by decide) (by decide) rfl (Nat.le_of_ble_eq_true rfl) dX9_pair_134 (fun r26 v25 h => ?_)
        exact q_iret o rt dX9_pair_137 h
      | 4, _, c6 =>
        have h := h.2.2.2.2.1 c6
        change J l G X 138 [(4, .ref (gA G 16 n3)), (0, .ref (gA G 0 0)), (1, .int a1), (2, .int a2), (3, .int a3)] [] v1
        refine q_aload_n o dX9_pair_138 rfl ?_
        refine q_getR (q := 0) o sf_X9_pair_10 (by decide) dX9_pair_139 ?_
        refine q_getR (q := 12) o sf_X9_pair_80 (by decide) dX9_pair_142 ?_
        refine q_iload_n o dX9_pair_145 rfl ?_
        refine q_mald o hn4 hx5 dX9_pair_146 ?_
        refine q_iload_n o dX9_pair_147 rfl ?_
        refine q_callV o [.int a2] (ad_X3_lateNumberOf l G n3 a2 hn4 v1 h) gX9_pair_X3_lateNumberOf rfl rfl rfl rfl hn4 ⟨rfl, by decide, by decide, pd_X3_lateNumberOf⟩ (by decide) (by decide) rfl (Nat.le_of_ble_eq_true rfl) dX9_pair_148 (fun r28 v27 h => ?_)
        exact q_iret o rt dX9_pair_151 h
      | 5, _, c6 =>
        have h := h.2.2.2.2.2.1 c6
        change J l G X 152 [(4, .ref (gA G 16 n3)), (0, .ref (gA G 0 0)), (1, .int a1), (2, .int a2), (3, .int a3)] [] v1
        refine q_aload o dX9_pair_152 rfl ?_
        refine q_getR (q := 21) o sf_X9_pair_212 hn4 dX9_pair_154 ?_
        refine q_iload_n o dX9_pair_157 rfl ?_
        obtain ⟨n29, hn30, hx31, h⟩ := h
        refine q_iald (m := 11) o rfl rfl hn4 hn30 hx31 dX9_pair_158 ?_
        exact q_iret o rt dX9_pair_159 h
      | 6, _, c6 =>
        have h := h.2.2.2.2.2.2.1 c6
        change J l G X 160 [(4, .ref (gA G 16 n3)), (0, .ref (gA G 0 0)), (1, .int a1), (2, .int a2), (3, .int a3)] [] v1
        refine q_aload o dX9_pair_160 rfl ?_
        refine q_getR (q := 22) o sf_X9_pair_214 hn4 dX9_pair_162 ?_
        refine q_iload_n o dX9_pair_165 rfl ?_
        obtain ⟨n32, hn33, hx34, h⟩ := h
        refine q_iald (m := 11) o rfl rfl hn4 hn33 hx34 dX9_pair_166 ?_
        exact q_iret o rt dX9_pair_167 h
      | 7, _, c6 =>
        have h := h.2.2.2.2.2.2.2.1 c6
        change J l G X 168 [(4, .ref (gA G 16 n3)), (0, .ref (gA G 0 0)), (1, .int a1), (2, .int a2), (3, .int a3)] [] v1
        refine q_aload o dX9_pair_168 rfl ?_
        refine q_getI o sf_X9_pair_175 hn4 dX9_pair_170 ?_
        refine q_iload_n o dX9_pair_173 rfl ?_
        refine q_callS o [.int (v1 16 n3 5), .int a2] (ad_X9_isIn l G (v1 16 n3 5) a2 v1 h) gX9_pair_X9_isIn rfl ⟨by decide, by decide, pd_X9_isIn⟩ (by decide) (by decide) rfl (Nat.le_of_ble_eq_true rfl) dX9_pair_174 (fun r36 v35 h => ?_)
        refine q_callS o [.int r36] (ad_X9_oneIf l G r36 v35 h) gX9_pair_X9_oneIf rfl ⟨by decide, by decide, pd_X9_oneIf⟩ (by decide) (by decide) rfl (Nat.le_of_ble_eq_true rfl) dX9_pair_177 (fun r38 v37 h => ?_)
        exact q_iret o rt dX9_pair_180 h
      | 8, _, c6 =>
        have h := h.2.2.2.2.2.2.2.2.1 c6
        change J l G X 181 [(4, .ref (gA G 16 n3)), (0, .ref (gA G 0 0)), (1, .int a1), (2, .int a2), (3, .int a3)] [] v1
        refine q_aload o dX9_pair_181 rfl ?_
        refine q_getI o sf_X9_pair_217 hn4 dX9_pair_183 ?_
        refine q_iload_n o dX9_pair_186 rfl ?_
        refine q_ic_ne o 206 dX9_pair_187 (by decide) (fun c48 => ?_) (fun c48 => ?_)
        · have h := h.1 c48
          refine q_iconst o dX9_pair_206 (x := (0 : Int32)) (by decide) ?_
          refine q_callS o [.int (0 : Int32)] (ad_X9_oneIf l G (0 : Int32) v1 h) gX9_pair_X9_oneIf rfl ⟨by decide, by decide, pd_X9_oneIf⟩ (by decide) (by decide) rfl (Nat.le_of_ble_eq_true rfl) dX9_pair_207 (fun r40 v39 h => ?_)
          exact q_iret o rt dX9_pair_210 h
        · have h := h.2 c48
          refine q_aload o dX9_pair_190 rfl ?_
          refine q_getI o sf_X9_pair_178 hn4 dX9_pair_192 ?_
          refine q_iload_n o dX9_pair_195 rfl ?_
          refine q_callS o [.int (v1 16 n3 7), .int a2] (ad_X9_isIn l G (v1 16 n3 7) a2 v1 h) gX9_pair_X9_isIn rfl ⟨by decide, by decide, pd_X9_isIn⟩ (by decide) (by decide) rfl (Nat.le_of_ble_eq_true rfl) dX9_pair_196 (fun r42 v41 h => ?_)
          refine q_if_eq o 206 dX9_pair_199 (by decide) (fun c47 => ?_) (fun c47 => ?_)
          · have h := h.1 c47
            refine q_iconst o dX9_pair_206 (x := (0 : Int32)) (by decide) ?_
            refine q_callS o [.int (0 : Int32)] (ad_X9_oneIf l G (0 : Int32) v41 h) gX9_pair_X9_oneIf rfl ⟨by decide, by decide, pd_X9_oneIf⟩ (by decide) (by decide) rfl (Nat.le_of_ble_eq_true rfl) dX9_pair_207 (fun r44 v43 h => ?_)
            exact q_iret o rt dX9_pair_210 h
          · have h := h.2 c47
            refine q_iconst o dX9_pair_202 (x := (1 : Int32)) (by decide) ?_
            refine q_goto o 207 dX9_pair_203 (by decide) ?_
            refine q_callS o [.int (1 : Int32)] (ad_X9_oneIf l G (1 : Int32) v41 h) gX9_pair_X9_oneIf rfl ⟨by decide, by decide, pd_X9_oneIf⟩ (by decide) (by decide) rfl (Nat.le_of_ble_eq_true rfl) dX9_pair_207 (fun r46 v45 h => ?_)
            exact q_iret o rt dX9_pair_210 h
      | (n0 + 9), hn0, _ => exact absurd hn0 (by show ¬ (n0 + 9 < 9); omega)
    · have h := h.2.2.2.2.2.2.2.2.2 c6
      refine q_iconst o dX9_pair_211 (x := (-1 : Int32)) (by decide) ?_
      exact q_iret o rt dX9_pair_212 h
  · have h := h.2 c49
    refine q_iconst o dX9_pair_12 (x := (-1 : Int32)) (by decide) ?_
    exact q_iret o rt dX9_pair_13 h
theorem pd_X9_pair : (parseMethodDescriptor yX9_pair.desc).map (fun d => d.parameters.length) = some 3 := by decide +kernel
-- PieceSwarm.alone(I)I
theorem inn_X9_alone_X9 : ∀ w ∈ wsX90, w ∈ wsX9_alone := by decide +kernel
theorem sf_X9_alone_10 : SF wsX9_alone RX9 10 0 0 1 := ⟨RX9, TX9, 4, rfl, rfl, rfl, rfl, by decide, inn_X9_alone_X9, by decide +kernel⟩
theorem inn_X9_alone_X2 : ∀ w ∈ wsX20, w ∈ wsX9_alone := by decide +kernel
theorem sf_X9_alone_80 : SF wsX9_alone RX9 80 1 1 13 := ⟨RX2, TX2, 8, rfl, rfl, rfl, rfl, by decide, inn_X9_alone_X2, by decide +kernel⟩
theorem inn_X9_alone_X3 : ∀ w ∈ wsX30, w ∈ wsX9_alone := by decide +kernel
theorem sf_X9_alone_136 : SF wsX9_alone RX9 136 14 0 15 := ⟨RX3, TX3, 13, rfl, rfl, rfl, rfl, by decide, inn_X9_alone_X3, by decide +kernel⟩
theorem inn_X9_alone_X6 : ∀ w ∈ wsX60, w ∈ wsX9_alone := by decide +kernel
theorem sf_X9_alone_140 : SF wsX9_alone RX9 140 15 3 0 := ⟨RX6, TX6, 6, rfl, rfl, rfl, rfl, by decide, inn_X9_alone_X6, by decide +kernel⟩
theorem sf_X9_alone_47 : SF wsX9_alone RX9 47 1 0 5 := ⟨RX2, TX2, 8, rfl, rfl, rfl, rfl, by decide, inn_X9_alone_X2, by decide +kernel⟩
def wp_X9_alone (a1 : Int32) (v : St3) (post : (Int32 → St3 → Prop)) : Prop := ((¬ a1 = (-1 : Int32) → wp_X2_isMember a1 v (fun r2 v1 => ((¬ r2 = 0 → ∃ n3, n3 < 12 ∧ a1 = nI n3 ∧ wp_X2_hadByOthersThan a1 v1 (fun r7 v6 => wp_J6_bitCount_0f7a4 ((v1 15 n3 3) &&& (r7 ^^^ (-1 : Int32))) v6 (fun r9 v8 => post r9 v8))) ∧ (r2 = 0 → post (-1 : Int32) v1)))) ∧ (a1 = (-1 : Int32) → wp_X8_allPieces v (fun r12 v11 => wp_X2_hadByOthersThan (-1 : Int32) v11 (fun r14 v13 => wp_J6_bitCount_0f7a4 (r12 &&& (r14 ^^^ (-1 : Int32))) v13 (fun r16 v15 => post r16 v15)))))
set_option maxRecDepth 20000 in
set_option maxHeartbeats 4000000 in
theorem ad_X9_alone (l : Launch) (G : Geo) (a1 : Int32) (v : St3) {post : (Int32 → St3 → Prop)} (h : wp_X9_alone a1 v post) : CI l G yX9_alone wsX9_alone 2 [.ref (gA G 0 0), .int a1] v post := by
  refine CI.of (ty := .int) (cc := cX9_alone) (maxL := 2) (by decide) rfl (Nat.le_of_ble_eq_true rfl) (fun X o rt => ?_)
  unfold wp_X9_alone at h
  show J l G X 0 [(0, .ref (gA G 0 0)), (1, .int a1)] [] v
  refine q_iload_n o dX9_alone_0 rfl ?_
  refine q_iconst o dX9_alone_1 (x := (-1 : Int32)) (by decide) ?_
  refine q_ic_ne o 30 dX9_alone_2 (by decide) (fun c17 => ?_) (fun c17 => ?_)
  · have h := h.1 c17
    refine q_aload_n o dX9_alone_30 rfl ?_
    refine q_getR (q := 0) o sf_X9_alone_10 (by decide) dX9_alone_31 ?_
    refine q_iload_n o dX9_alone_34 rfl ?_
    refine q_callV o [.int a1] (ad_X2_isMember l G a1 v h) gX9_alone_X2_isMember rfl rfl rfl rfl (by decide) ⟨rfl, by decide, by decide, pd_X2_isMember⟩ (by decide) (by decide) rfl (Nat.le_of_ble_eq_true rfl) dX9_alone_35 (fun r2 v1 h => ?_)
    refine q_if_ne o 43 dX9_alone_38 (by decide) (fun c10 => ?_) (fun c10 => ?_)
    · have h := h.1 c10
      refine q_aload_n o dX9_alone_43 rfl ?_
      refine q_getR (q := 0) o sf_X9_alone_10 (by decide) dX9_alone_44 ?_
      refine q_getR (q := 12) o sf_X9_alone_80 (by decide) dX9_alone_47 ?_
      refine q_iload_n o dX9_alone_50 rfl ?_
      obtain ⟨n3, hn4, hx5, h⟩ := h
      refine q_mald o hn4 hx5 dX9_alone_51 ?_
      refine q_getR (q := 14) o sf_X9_alone_136 hn4 dX9_alone_52 ?_
      refine q_getI o sf_X9_alone_140 hn4 dX9_alone_55 ?_
      refine q_aload_n o dX9_alone_58 rfl ?_
      refine q_getR (q := 0) o sf_X9_alone_10 (by decide) dX9_alone_59 ?_
      refine q_iload_n o dX9_alone_62 rfl ?_
      refine q_callV o [.int a1] (ad_X2_hadByOthersThan l G a1 v1 h) gX9_alone_X2_hadByOthersThan rfl rfl rfl rfl (by decide) ⟨rfl, by decide, by decide, pd_X2_hadByOthersThan⟩ (by decide) (by decide) rfl (Nat.le_of_ble_eq_true rfl) dX9_alone_63 (fun r7 v6 h => ?_)
      refine q_iconst o dX9_alone_66 (x := (-1 : Int32)) (by decide) ?_
      refine q_ixor o dX9_alone_67 ?_
      refine q_iand o dX9_alone_68 ?_
      refine q_callS o [.int ((v1 15 n3 3) &&& (r7 ^^^ (-1 : Int32)))] (ad_J6_bitCount_0f7a4 l G ((v1 15 n3 3) &&& (r7 ^^^ (-1 : Int32))) v6 h) gX9_alone_J6_bitCount_0f7a4 rfl ⟨by decide, by decide, pd_J6_bitCount_0f7a4⟩ (by decide) (by decide) rfl (Nat.le_of_ble_eq_true rfl) dX9_alone_69 (fun r9 v8 h => ?_)
      exact q_iret o rt dX9_alone_72 h
    · have h := h.2 c10
      refine q_iconst o dX9_alone_41 (x := (-1 : Int32)) (by decide) ?_
      exact q_iret o rt dX9_alone_42 h
  · have h := h.2 c17
    refine q_aload_n o dX9_alone_5 rfl ?_
    refine q_getR (q := 0) o sf_X9_alone_10 (by decide) dX9_alone_6 ?_
    refine q_getR (q := 4) o sf_X9_alone_47 (by decide) dX9_alone_9 ?_
    refine q_callV o [] (ad_X8_allPieces l G v h) gX9_alone_X8_allPieces rfl rfl rfl rfl (by decide) ⟨rfl, by decide, by decide, pd_X8_allPieces⟩ (by decide) (by decide) rfl (Nat.le_of_ble_eq_true rfl) dX9_alone_12 (fun r12 v11 h => ?_)
    refine q_aload_n o dX9_alone_15 rfl ?_
    refine q_getR (q := 0) o sf_X9_alone_10 (by decide) dX9_alone_16 ?_
    refine q_iconst o dX9_alone_19 (x := (-1 : Int32)) (by decide) ?_
    refine q_callV o [.int (-1 : Int32)] (ad_X2_hadByOthersThan l G (-1 : Int32) v11 h) gX9_alone_X2_hadByOthersThan rfl rfl rfl rfl (by decide) ⟨rfl, by decide, by decide, pd_X2_hadByOthersThan⟩ (by decide) (by decide) rfl (Nat.le_of_ble_eq_true rfl) dX9_alone_20 (fun r14 v13 h => ?_)
    refine q_iconst o dX9_alone_23 (x := (-1 : Int32)) (by decide) ?_
    refine q_ixor o dX9_alone_24 ?_
    refine q_iand o dX9_alone_25 ?_
    refine q_callS o [.int (r12 &&& (r14 ^^^ (-1 : Int32)))] (ad_J6_bitCount_0f7a4 l G (r12 &&& (r14 ^^^ (-1 : Int32))) v13 h) gX9_alone_J6_bitCount_0f7a4 rfl ⟨by decide, by decide, pd_J6_bitCount_0f7a4⟩ (by decide) (by decide) rfl (Nat.le_of_ble_eq_true rfl) dX9_alone_26 (fun r16 v15 h => ?_)
    exact q_iret o rt dX9_alone_29 h
theorem pd_X9_alone : (parseMethodDescriptor yX9_alone.desc).map (fun d => d.parameters.length) = some 1 := by decide +kernel
-- PieceSwarm.bound(I)I
theorem inn_X9_bound_X9 : ∀ w ∈ wsX90, w ∈ wsX9_bound := by decide +kernel
theorem sf_X9_bound_10 : SF wsX9_bound RX9 10 0 0 1 := ⟨RX9, TX9, 4, rfl, rfl, rfl, rfl, by decide, inn_X9_bound_X9, by decide +kernel⟩
theorem inn_X9_bound_X2 : ∀ w ∈ wsX20, w ∈ wsX9_bound := by decide +kernel
theorem sf_X9_bound_107 : SF wsX9_bound RX9 107 1 4 0 := ⟨RX2, TX2, 8, rfl, rfl, rfl, rfl, by decide, inn_X9_bound_X2, by decide +kernel⟩
theorem sf_X9_bound_80 : SF wsX9_bound RX9 80 1 1 13 := ⟨RX2, TX2, 8, rfl, rfl, rfl, rfl, by decide, inn_X9_bound_X2, by decide +kernel⟩
theorem sf_X9_bound_47 : SF wsX9_bound RX9 47 1 0 5 := ⟨RX2, TX2, 8, rfl, rfl, rfl, rfl, by decide, inn_X9_bound_X2, by decide +kernel⟩
theorem inn_X9_bound_X8 : ∀ w ∈ wsX80, w ∈ wsX9_bound := by decide +kernel
theorem sf_X9_bound_230 : SF wsX9_bound RX9 230 5 0 0 := ⟨RX8, TX8, 3, rfl, rfl, rfl, rfl, by decide, inn_X9_bound_X8, by decide +kernel⟩
theorem sf_X9_bound_181 : SF wsX9_bound RX9 181 5 1 0 := ⟨RX8, TX8, 3, rfl, rfl, rfl, rfl, by decide, inn_X9_bound_X8, by decide +kernel⟩
theorem inn_X9_bound_X3 : ∀ w ∈ wsX30, w ∈ wsX9_bound := by decide +kernel
theorem sf_X9_bound_233 : SF wsX9_bound RX9 233 14 3 0 := ⟨RX3, TX3, 13, rfl, rfl, rfl, rfl, by decide, inn_X9_bound_X3, by decide +kernel⟩
theorem sf_X9_bound_39 : SF wsX9_bound RX9 39 1 3 0 := ⟨RX2, TX2, 8, rfl, rfl, rfl, rfl, by decide, inn_X9_bound_X2, by decide +kernel⟩
theorem mx0_X9_bound : Cond.methodLink RX9 245 Lib.Math.max.name ∈ wsX9_bound := by decide +kernel
theorem mx1_X9_bound : Cond.static Lib.Math.max.name ∈ wsX9_bound := by decide +kernel
theorem mx2_X9_bound : Cond.initialized "java/lang/Math" ∈ wsX9_bound := by decide +kernel
theorem mx3_X9_bound : Cond.code Lib.Math.max.name Lib.Math.max.code 2 (some .int) ∈ wsX9_bound := by decide +kernel
theorem sf_X9_bound_136 : SF wsX9_bound RX9 136 14 0 15 := ⟨RX3, TX3, 13, rfl, rfl, rfl, rfl, by decide, inn_X9_bound_X3, by decide +kernel⟩
theorem sf_X9_bound_242 : SF wsX9_bound RX9 242 14 4 0 := ⟨RX3, TX3, 13, rfl, rfl, rfl, rfl, by decide, inn_X9_bound_X3, by decide +kernel⟩
def wB_X9_bound_101 (post : (Int32 → St3 → Prop)) (K101 : Int32 → Int32 → Int32 → Int32 → Int32 → Int32 → St3 → Prop) (a1 : Int32) (a2 : Int32) (a3 : Int32) (a4 : Int32) (a5 : Int32) (a6 : Int32) (v : St3) : Prop := (((v 1 0 3) ≤ a6 → ((¬ a3 = 0 → wp_X9_cutUp (a2 * a3) a4 v (fun r13 v12 => post (if a5 < r13 then r13 else a5) v12)) ∧ (a3 = 0 → post (-1 : Int32) v))) ∧ (¬ (v 1 0 3) ≤ a6 → ((a6 = a1 → K101 a1 a2 a3 a4 a5 (a6 + (1 : Int32)) v) ∧ (¬ a6 = a1 → wp_X9_isIn (v 1 0 4) a6 v (fun r16 v15 => ((¬ r16 = 0 → ∃ n17, n17 < 12 ∧ a6 = nI n17 ∧ wp_X6_isBare n17 v15 (fun r21 v20 => ((¬ r21 = 0 → wp_X9_cutUp a2 (v20 14 n17 4) v20 (fun r23 v22 => K101 a1 a2 (a3 + (1 : Int32)) (a4 + (v20 14 n17 3)) (if a5 < r23 then r23 else a5) (a6 + (1 : Int32)) v22)) ∧ (r21 = 0 → post (-1 : Int32) v20)))) ∧ (r16 = 0 → K101 a1 a2 a3 a4 a5 (a6 + (1 : Int32)) v15)))))))
def wL_X9_bound_101 (post : (Int32 → St3 → Prop)) : Nat → Int32 → Int32 → Int32 → Int32 → Int32 → Int32 → St3 → Prop
  | 0, _, _, _, _, _, _, _ => False
  | f + 1, a1, a2, a3, a4, a5, a6, v => wB_X9_bound_101 post (wL_X9_bound_101 post f) a1 a2 a3 a4 a5 a6 v
set_option maxRecDepth 20000 in
set_option maxHeartbeats 4000000 in
theorem aL_X9_bound_101 {l : Launch} {G : Geo} {X : CT} (o : OK G X cX9_bound wsX9_bound RX9 5 8) {post : (Int32 → St3 → Prop)} (rt : RI G X .int post) : ∀ (f : Nat) (a1 : Int32) (a2 : Int32) (a3 : Int32) (a4 : Int32) (a5 : Int32) (a6 : Int32) (v : St3), wL_X9_bound_101 post f a1 a2 a3 a4 a5 a6 v → J l G X 101 [(0, .ref (gA G 0 0)), (1, .int a1), (2, .int a2), (3, .int a3), (4, .int a4), (5, .int a5), (6, .int a6)] [] v := by
  intro f
  induction f with
  | zero => intro _ _ _ _ _ _ _ h; exact False.elim h
  | succ f hK101 =>
  intro a1 a2 a3 a4 a5 a6 v h
  have h : wB_X9_bound_101 post (wL_X9_bound_101 post f) a1 a2 a3 a4 a5 a6 v := h
  unfold wB_X9_bound_101 at h
  refine q_iload o dX9_bound_101 rfl ?_
  refine q_aload_n o dX9_bound_103 rfl ?_
  refine q_getR (q := 0) o sf_X9_bound_10 (by decide) dX9_bound_104 ?_
  refine q_getI o sf_X9_bound_39 (by decide) dX9_bound_107 ?_
  refine q_ic_ge o 197 dX9_bound_110 (by decide) (fun c27 => ?_) (fun c27 => ?_)
  · have h := h.1 c27
    refine q_iload_n o dX9_bound_197 rfl ?_
    refine q_if_ne o 205 dX9_bound_198 (by decide) (fun c14 => ?_) (fun c14 => ?_)
    · have h := h.1 c14
      refine q_iload o dX9_bound_205 rfl ?_
      refine q_iload_n o dX9_bound_207 rfl ?_
      refine q_iload_n o dX9_bound_208 rfl ?_
      refine q_imul o dX9_bound_209 ?_
      refine q_iload o dX9_bound_210 rfl ?_
      refine q_callS o [.int (a2 * a3), .int a4] (ad_X9_cutUp l G (a2 * a3) a4 v h) gX9_bound_X9_cutUp rfl ⟨by decide, by decide, pd_X9_cutUp⟩ (by decide) (by decide) rfl (Nat.le_of_ble_eq_true rfl) dX9_bound_212 (fun r13 v12 h => ?_)
      refine q_max o mx0_X9_bound mx1_X9_bound mx2_X9_bound mx3_X9_bound (by decide) (Nat.le_of_ble_eq_true rfl) dX9_bound_215 ?_
      exact q_iret o rt dX9_bound_218 h
    · have h := h.2 c14
      refine q_iconst o dX9_bound_201 (x := (-1 : Int32)) (by decide) ?_
      refine q_goto o 218 dX9_bound_202 (by decide) ?_
      exact q_iret o rt dX9_bound_218 h
  · have h := h.2 c27
    refine q_iload o dX9_bound_113 rfl ?_
    refine q_iload_n o dX9_bound_115 rfl ?_
    refine q_ic_eq o 191 dX9_bound_116 (by decide) (fun c26 => ?_) (fun c26 => ?_)
    · have h := h.1 c26
      refine q_iinc o (y := (a6 + (1 : Int32))) (lv' := [(6, .int (a6 + (1 : Int32))), (0, .ref (gA G 0 0)), (1, .int a1), (2, .int a2), (3, .int a3), (4, .int a4), (5, .int a5)]) dX9_bound_191 rfl rfl (by decide) rfl ?_
      refine q_goto o 101 dX9_bound_194 (by decide) ?_
      refine q_lv [1, 2, 3, 4, 5, 6, 0] rfl ?_
      exact hK101 a1 a2 a3 a4 a5 (a6 + (1 : Int32)) v h
    · have h := h.2 c26
      refine q_aload_n o dX9_bound_119 rfl ?_
      refine q_getR (q := 0) o sf_X9_bound_10 (by decide) dX9_bound_120 ?_
      refine q_getI o sf_X9_bound_107 (by decide) dX9_bound_123 ?_
      refine q_iload o dX9_bound_126 rfl ?_
      refine q_callS o [.int (v 1 0 4), .int a6] (ad_X9_isIn l G (v 1 0 4) a6 v h) gX9_bound_X9_isIn rfl ⟨by decide, by decide, pd_X9_isIn⟩ (by decide) (by decide) rfl (Nat.le_of_ble_eq_true rfl) dX9_bound_128 (fun r16 v15 h => ?_)
      refine q_if_ne o 137 dX9_bound_131 (by decide) (fun c25 => ?_) (fun c25 => ?_)
      · have h := h.1 c25
        refine q_aload_n o dX9_bound_137 rfl ?_
        refine q_getR (q := 0) o sf_X9_bound_10 (by decide) dX9_bound_138 ?_
        refine q_getR (q := 12) o sf_X9_bound_80 (by decide) dX9_bound_141 ?_
        refine q_iload o dX9_bound_144 rfl ?_
        obtain ⟨n17, hn18, hx19, h⟩ := h
        refine q_mald o hn18 hx19 dX9_bound_146 ?_
        refine q_astore o (lv' := [(7, .ref (gA G 14 n17)), (0, .ref (gA G 0 0)), (1, .int a1), (2, .int a2), (3, .int a3), (4, .int a4), (5, .int a5), (6, .int a6)]) dX9_bound_147 (by decide) rfl ?_
        refine q_aload o dX9_bound_149 rfl ?_
        refine q_getR (q := 14) o sf_X9_bound_136 hn18 dX9_bound_151 ?_
        refine q_callV o [] (ad_X6_isBare l G n17 hn18 v15 h) gX9_bound_X6_isBare rfl rfl rfl rfl hn18 ⟨rfl, by decide, by decide, pd_X6_isBare⟩ (by decide) (by decide) rfl (Nat.le_of_ble_eq_true rfl) dX9_bound_154 (fun r21 v20 h => ?_)
        refine q_if_ne o 162 dX9_bound_157 (by decide) (fun c24 => ?_) (fun c24 => ?_)
        · have h := h.1 c24
          refine q_iinc o (y := (a3 + (1 : Int32))) (lv' := [(3, .int (a3 + (1 : Int32))), (7, .ref (gA G 14 n17)), (0, .ref (gA G 0 0)), (1, .int a1), (2, .int a2), (4, .int a4), (5, .int a5), (6, .int a6)]) dX9_bound_162 rfl rfl (by decide) rfl ?_
          refine q_iload o dX9_bound_165 rfl ?_
          refine q_aload o dX9_bound_167 rfl ?_
          refine q_getI o sf_X9_bound_233 hn18 dX9_bound_169 ?_
          refine q_iadd o dX9_bound_172 ?_
          refine q_istore o (lv' := [(4, .int (a4 + (v20 14 n17 3))), (3, .int (a3 + (1 : Int32))), (7, .ref (gA G 14 n17)), (0, .ref (gA G 0 0)), (1, .int a1), (2, .int a2), (5, .int a5), (6, .int a6)]) dX9_bound_173 (by decide) rfl ?_
          refine q_iload o dX9_bound_175 rfl ?_
          refine q_iload_n o dX9_bound_177 rfl ?_
          refine q_aload o dX9_bound_178 rfl ?_
          refine q_getI o sf_X9_bound_242 hn18 dX9_bound_180 ?_
          refine q_callS o [.int a2, .int (v20 14 n17 4)] (ad_X9_cutUp l G a2 (v20 14 n17 4) v20 h) gX9_bound_X9_cutUp rfl ⟨by decide, by decide, pd_X9_cutUp⟩ (by decide) (by decide) rfl (Nat.le_of_ble_eq_true rfl) dX9_bound_183 (fun r23 v22 h => ?_)
          refine q_max o mx0_X9_bound mx1_X9_bound mx2_X9_bound mx3_X9_bound (by decide) (Nat.le_of_ble_eq_true rfl) dX9_bound_186 ?_
          refine q_istore o (lv' := [(5, .int (if a5 < r23 then r23 else a5)), (4, .int (a4 + (v20 14 n17 3))), (3, .int (a3 + (1 : Int32))), (7, .ref (gA G 14 n17)), (0, .ref (gA G 0 0)), (1, .int a1), (2, .int a2), (6, .int a6)]) dX9_bound_189 (by decide) rfl ?_
          refine q_iinc o (y := (a6 + (1 : Int32))) (lv' := [(6, .int (a6 + (1 : Int32))), (5, .int (if a5 < r23 then r23 else a5)), (4, .int (a4 + (v20 14 n17 3))), (3, .int (a3 + (1 : Int32))), (7, .ref (gA G 14 n17)), (0, .ref (gA G 0 0)), (1, .int a1), (2, .int a2)]) dX9_bound_191 rfl rfl (by decide) rfl ?_
          refine q_goto o 101 dX9_bound_194 (by decide) ?_
          refine q_lv [5, 6, 7, 3, 2, 1, 0] rfl ?_
          exact hK101 a1 a2 (a3 + (1 : Int32)) (a4 + (v20 14 n17 3)) (if a5 < r23 then r23 else a5) (a6 + (1 : Int32)) v22 h
        · have h := h.2 c24
          refine q_iconst o dX9_bound_160 (x := (-1 : Int32)) (by decide) ?_
          exact q_iret o rt dX9_bound_161 h
      · have h := h.2 c25
        refine q_goto o 191 dX9_bound_134 (by decide) ?_
        refine q_iinc o (y := (a6 + (1 : Int32))) (lv' := [(6, .int (a6 + (1 : Int32))), (0, .ref (gA G 0 0)), (1, .int a1), (2, .int a2), (3, .int a3), (4, .int a4), (5, .int a5)]) dX9_bound_191 rfl rfl (by decide) rfl ?_
        refine q_goto o 101 dX9_bound_194 (by decide) ?_
        refine q_lv [1, 2, 3, 4, 5, 6, 0] rfl ?_
        exact hK101 a1 a2 a3 a4 a5 (a6 + (1 : Int32)) v15 h
def wp_X9_bound (a1 : Int32) (v : St3) (post : (Int32 → St3 → Prop)) : Prop := wp_X2_isMember a1 v (fun r2 v1 => ((r2 = 0 → post (-1 : Int32) v1) ∧ (¬ r2 = 0 → wp_X9_isIn (v1 1 0 4) a1 v1 (fun r4 v3 => ((r4 = 0 → post (-1 : Int32) v3) ∧ (¬ r4 = 0 → ∃ n5, n5 < 12 ∧ a1 = nI n5 ∧ wp_X3_isDone n5 v3 (fun r9 v8 => ((¬ r9 = 0 → wp_X9_cutUp ((v8 5 0 0) * (v8 5 0 1)) (v8 14 n5 3) v8 (fun r11 v10 => wL_X9_bound_101 post FU a1 ((v8 5 0 0) * (v8 5 0 1)) (0 : Int32) (v8 14 n5 3) r11 (0 : Int32) v10)) ∧ (r9 = 0 → post (-1 : Int32) v8)))))))))
set_option maxRecDepth 20000 in
set_option maxHeartbeats 4000000 in
theorem ad_X9_bound (l : Launch) (G : Geo) (a1 : Int32) (v : St3) {post : (Int32 → St3 → Prop)} (h : wp_X9_bound a1 v post) : CI l G yX9_bound wsX9_bound 5 [.ref (gA G 0 0), .int a1] v post := by
  refine CI.of (ty := .int) (cc := cX9_bound) (maxL := 8) (by decide) rfl (Nat.le_of_ble_eq_true rfl) (fun X o rt => ?_)
  unfold wp_X9_bound at h
  show J l G X 0 [(0, .ref (gA G 0 0)), (1, .int a1)] [] v
  refine q_aload_n o dX9_bound_0 rfl ?_
  refine q_getR (q := 0) o sf_X9_bound_10 (by decide) dX9_bound_1 ?_
  refine q_iload_n o dX9_bound_4 rfl ?_
  refine q_callV o [.int a1] (ad_X2_isMember l G a1 v h) gX9_bound_X2_isMember rfl rfl rfl rfl (by decide) ⟨rfl, by decide, by decide, pd_X2_isMember⟩ (by decide) (by decide) rfl (Nat.le_of_ble_eq_true rfl) dX9_bound_5 (fun r2 v1 h => ?_)
  refine q_if_eq o 40 dX9_bound_8 (by decide) (fun c30 => ?_) (fun c30 => ?_)
  · have h := h.1 c30
    refine q_iconst o dX9_bound_40 (x := (-1 : Int32)) (by decide) ?_
    exact q_iret o rt dX9_bound_41 h
  · have h := h.2 c30
    refine q_aload_n o dX9_bound_11 rfl ?_
    refine q_getR (q := 0) o sf_X9_bound_10 (by decide) dX9_bound_12 ?_
    refine q_getI o sf_X9_bound_107 (by decide) dX9_bound_15 ?_
    refine q_iload_n o dX9_bound_18 rfl ?_
    refine q_callS o [.int (v1 1 0 4), .int a1] (ad_X9_isIn l G (v1 1 0 4) a1 v1 h) gX9_bound_X9_isIn rfl ⟨by decide, by decide, pd_X9_isIn⟩ (by decide) (by decide) rfl (Nat.le_of_ble_eq_true rfl) dX9_bound_19 (fun r4 v3 h => ?_)
    refine q_if_eq o 40 dX9_bound_22 (by decide) (fun c29 => ?_) (fun c29 => ?_)
    · have h := h.1 c29
      refine q_iconst o dX9_bound_40 (x := (-1 : Int32)) (by decide) ?_
      exact q_iret o rt dX9_bound_41 h
    · have h := h.2 c29
      refine q_aload_n o dX9_bound_25 rfl ?_
      refine q_getR (q := 0) o sf_X9_bound_10 (by decide) dX9_bound_26 ?_
      refine q_getR (q := 12) o sf_X9_bound_80 (by decide) dX9_bound_29 ?_
      refine q_iload_n o dX9_bound_32 rfl ?_
      obtain ⟨n5, hn6, hx7, h⟩ := h
      refine q_mald o hn6 hx7 dX9_bound_33 ?_
      refine q_callV o [] (ad_X3_isDone l G n5 hn6 v3 h) gX9_bound_X3_isDone rfl rfl rfl rfl hn6 ⟨rfl, by decide, by decide, pd_X3_isDone⟩ (by decide) (by decide) rfl (Nat.le_of_ble_eq_true rfl) dX9_bound_34 (fun r9 v8 h => ?_)
      refine q_if_ne o 42 dX9_bound_37 (by decide) (fun c28 => ?_) (fun c28 => ?_)
      · have h := h.1 c28
        refine q_aload_n o dX9_bound_42 rfl ?_
        refine q_getR (q := 0) o sf_X9_bound_10 (by decide) dX9_bound_43 ?_
        refine q_getR (q := 4) o sf_X9_bound_47 (by decide) dX9_bound_46 ?_
        refine q_getI o sf_X9_bound_230 (by decide) dX9_bound_49 ?_
        refine q_aload_n o dX9_bound_52 rfl ?_
        refine q_getR (q := 0) o sf_X9_bound_10 (by decide) dX9_bound_53 ?_
        refine q_getR (q := 4) o sf_X9_bound_47 (by decide) dX9_bound_56 ?_
        refine q_getI o sf_X9_bound_181 (by decide) dX9_bound_59 ?_
        refine q_imul o dX9_bound_62 ?_
        refine q_istore_n o (lv' := [(2, .int ((v8 5 0 0) * (v8 5 0 1))), (0, .ref (gA G 0 0)), (1, .int a1)]) dX9_bound_63 (by decide) rfl ?_
        refine q_iconst o dX9_bound_64 (x := (0 : Int32)) (by decide) ?_
        refine q_istore_n o (lv' := [(3, .int (0 : Int32)), (2, .int ((v8 5 0 0) * (v8 5 0 1))), (0, .ref (gA G 0 0)), (1, .int a1)]) dX9_bound_65 (by decide) rfl ?_
        refine q_aload_n o dX9_bound_66 rfl ?_
        refine q_getR (q := 0) o sf_X9_bound_10 (by decide) dX9_bound_67 ?_
        refine q_getR (q := 12) o sf_X9_bound_80 (by decide) dX9_bound_70 ?_
        refine q_iload_n o dX9_bound_73 rfl ?_
        refine q_mald o hn6 hx7 dX9_bound_74 ?_
        refine q_getI o sf_X9_bound_233 hn6 dX9_bound_75 ?_
        refine q_istore o (lv' := [(4, .int (v8 14 n5 3)), (3, .int (0 : Int32)), (2, .int ((v8 5 0 0) * (v8 5 0 1))), (0, .ref (gA G 0 0)), (1, .int a1)]) dX9_bound_78 (by decide) rfl ?_
        refine q_iload_n o dX9_bound_80 rfl ?_
        refine q_aload_n o dX9_bound_81 rfl ?_
        refine q_getR (q := 0) o sf_X9_bound_10 (by decide) dX9_bound_82 ?_
        refine q_getR (q := 12) o sf_X9_bound_80 (by decide) dX9_bound_85 ?_
        refine q_iload_n o dX9_bound_88 rfl ?_
        refine q_mald o hn6 hx7 dX9_bound_89 ?_
        refine q_getI o sf_X9_bound_233 hn6 dX9_bound_90 ?_
        refine q_callS o [.int ((v8 5 0 0) * (v8 5 0 1)), .int (v8 14 n5 3)] (ad_X9_cutUp l G ((v8 5 0 0) * (v8 5 0 1)) (v8 14 n5 3) v8 h) gX9_bound_X9_cutUp rfl ⟨by decide, by decide, pd_X9_cutUp⟩ (by decide) (by decide) rfl (Nat.le_of_ble_eq_true rfl) dX9_bound_93 (fun r11 v10 h => ?_)
        refine q_istore o (lv' := [(5, .int r11), (4, .int (v8 14 n5 3)), (3, .int (0 : Int32)), (2, .int ((v8 5 0 0) * (v8 5 0 1))), (0, .ref (gA G 0 0)), (1, .int a1)]) dX9_bound_96 (by decide) rfl ?_
        refine q_iconst o dX9_bound_98 (x := (0 : Int32)) (by decide) ?_
        refine q_istore o (lv' := [(6, .int (0 : Int32)), (5, .int r11), (4, .int (v8 14 n5 3)), (3, .int (0 : Int32)), (2, .int ((v8 5 0 0) * (v8 5 0 1))), (0, .ref (gA G 0 0)), (1, .int a1)]) dX9_bound_99 (by decide) rfl ?_
        refine q_lv [5, 6, 4, 3, 2, 1, 0] rfl ?_
        exact aL_X9_bound_101 o rt FU a1 ((v8 5 0 0) * (v8 5 0 1)) (0 : Int32) (v8 14 n5 3) r11 (0 : Int32) v10 h
      · have h := h.2 c28
        refine q_iconst o dX9_bound_40 (x := (-1 : Int32)) (by decide) ?_
        exact q_iret o rt dX9_bound_41 h
theorem pd_X9_bound : (parseMethodDescriptor yX9_bound.desc).map (fun d => d.parameters.length) = some 1 := by decide +kernel
-- PieceSwarm.count(I)I
theorem inn_X9_count_X9 : ∀ w ∈ wsX90, w ∈ wsX9_count := by decide +kernel
theorem sf_X9_count_10 : SF wsX9_count RX9 10 0 0 1 := ⟨RX9, TX9, 4, rfl, rfl, rfl, rfl, by decide, inn_X9_count_X9, by decide +kernel⟩
theorem inn_X9_count_X2 : ∀ w ∈ wsX20, w ∈ wsX9_count := by decide +kernel
theorem sf_X9_count_117 : SF wsX9_count RX9 117 1 5 0 := ⟨RX2, TX2, 8, rfl, rfl, rfl, rfl, by decide, inn_X9_count_X2, by decide +kernel⟩
theorem sf_X9_count_39 : SF wsX9_count RX9 39 1 3 0 := ⟨RX2, TX2, 8, rfl, rfl, rfl, rfl, by decide, inn_X9_count_X2, by decide +kernel⟩
theorem sf_X9_count_107 : SF wsX9_count RX9 107 1 4 0 := ⟨RX2, TX2, 8, rfl, rfl, rfl, rfl, by decide, inn_X9_count_X2, by decide +kernel⟩
theorem sf_X9_count_47 : SF wsX9_count RX9 47 1 0 5 := ⟨RX2, TX2, 8, rfl, rfl, rfl, rfl, by decide, inn_X9_count_X2, by decide +kernel⟩
theorem inn_X9_count_X8 : ∀ w ∈ wsX80, w ∈ wsX9_count := by decide +kernel
theorem sf_X9_count_230 : SF wsX9_count RX9 230 5 0 0 := ⟨RX8, TX8, 3, rfl, rfl, rfl, rfl, by decide, inn_X9_count_X8, by decide +kernel⟩
theorem sf_X9_count_181 : SF wsX9_count RX9 181 5 1 0 := ⟨RX8, TX8, 3, rfl, rfl, rfl, rfl, by decide, inn_X9_count_X8, by decide +kernel⟩
theorem sf_X9_count_114 : SF wsX9_count RX9 114 1 6 0 := ⟨RX2, TX2, 8, rfl, rfl, rfl, rfl, by decide, inn_X9_count_X2, by decide +kernel⟩
theorem sf_X9_count_253 : SF wsX9_count RX9 253 1 2 6 := ⟨RX2, TX2, 8, rfl, rfl, rfl, rfl, by decide, inn_X9_count_X2, by decide +kernel⟩
theorem inn_X9_count_X5 : ∀ w ∈ wsX50, w ∈ wsX9_count := by decide +kernel
theorem sf_X9_count_257 : SF wsX9_count RX9 257 6 6 0 := ⟨RX5, TX5, 7, rfl, rfl, rfl, rfl, by decide, inn_X9_count_X5, by decide +kernel⟩
theorem sf_X9_count_262 : SF wsX9_count RX9 262 1 7 0 := ⟨RX2, TX2, 8, rfl, rfl, rfl, rfl, by decide, inn_X9_count_X2, by decide +kernel⟩
def wp_X9_count (a1 : Int32) (v : St3) (post : (Int32 → St3 → Prop)) : Prop := ((a1 = nI 0 → post (v 1 0 5) v) ∧ (a1 = nI 1 → post (v 1 0 3) v) ∧ (a1 = nI 2 → wp_J6_bitCount_0f7a4 (v 1 0 4) v (fun r3 v2 => post r3 v2)) ∧ (a1 = nI 3 → wp_X2_doneAndHere v (fun r5 v4 => post r5 v4)) ∧ (a1 = nI 4 → post (v 5 0 0) v) ∧ (a1 = nI 5 → post (v 5 0 1) v) ∧ (a1 = nI 6 → post (v 1 0 6) v) ∧ (a1 = nI 7 → post (v 6 0 6) v) ∧ (a1 = nI 8 → post (v 1 0 7) v) ∧ (a1 = nI 9 → wp_X2_failedInAll v (fun r7 v6 => post r7 v6)) ∧ (a1 = nI 10 → wp_X2_spareInAll v (fun r9 v8 => post r9 v8)) ∧ ((a1 < 0 ∨ nI 11 ≤ a1) → post (-1 : Int32) v))
set_option maxRecDepth 20000 in
set_option maxHeartbeats 4000000 in
theorem ad_X9_count (l : Launch) (G : Geo) (a1 : Int32) (v : St3) {post : (Int32 → St3 → Prop)} (h : wp_X9_count a1 v post) : CI l G yX9_count wsX9_count 2 [.ref (gA G 0 0), .int a1] v post := by
  refine CI.of (ty := .int) (cc := cX9_count) (maxL := 2) (by decide) rfl (Nat.le_of_ble_eq_true rfl) (fun X o rt => ?_)
  unfold wp_X9_count at h
  show J l G X 0 [(0, .ref (gA G 0 0)), (1, .int a1)] [] v
  refine q_iload_n o dX9_count_0 rfl ?_
  refine q_tab o [60, 68, 76, 87, 95, 106, 117, 125, 136, 144, 152] 160 dX9_count_1 rfl rfl (by decide) (by decide +kernel) (by decide) (fun n0 hn0 c1 => ?_) (fun c1 => ?_)
  · match n0, hn0, c1 with
    | 0, _, c1 =>
      have h := h.1 c1
      change J l G X 60 [(0, .ref (gA G 0 0)), (1, .int a1)] [] v
      refine q_aload_n o dX9_count_60 rfl ?_
      refine q_getR (q := 0) o sf_X9_count_10 (by decide) dX9_count_61 ?_
      refine q_getI o sf_X9_count_117 (by decide) dX9_count_64 ?_
      exact q_iret o rt dX9_count_67 h
    | 1, _, c1 =>
      have h := h.2.1 c1
      change J l G X 68 [(0, .ref (gA G 0 0)), (1, .int a1)] [] v
      refine q_aload_n o dX9_count_68 rfl ?_
      refine q_getR (q := 0) o sf_X9_count_10 (by decide) dX9_count_69 ?_
      refine q_getI o sf_X9_count_39 (by decide) dX9_count_72 ?_
      exact q_iret o rt dX9_count_75 h
    | 2, _, c1 =>
      have h := h.2.2.1 c1
      change J l G X 76 [(0, .ref (gA G 0 0)), (1, .int a1)] [] v
      refine q_aload_n o dX9_count_76 rfl ?_
      refine q_getR (q := 0) o sf_X9_count_10 (by decide) dX9_count_77 ?_
      refine q_getI o sf_X9_count_107 (by decide) dX9_count_80 ?_
      refine q_callS o [.int (v 1 0 4)] (ad_J6_bitCount_0f7a4 l G (v 1 0 4) v h) gX9_count_J6_bitCount_0f7a4 rfl ⟨by decide, by decide, pd_J6_bitCount_0f7a4⟩ (by decide) (by decide) rfl (Nat.le_of_ble_eq_true rfl) dX9_count_83 (fun r3 v2 h => ?_)
      exact q_iret o rt dX9_count_86 h
    | 3, _, c1 =>
      have h := h.2.2.2.1 c1
      change J l G X 87 [(0, .ref (gA G 0 0)), (1, .int a1)] [] v
      refine q_aload_n o dX9_count_87 rfl ?_
      refine q_getR (q := 0) o sf_X9_count_10 (by decide) dX9_count_88 ?_
      refine q_callV o [] (ad_X2_doneAndHere l G v h) gX9_count_X2_doneAndHere rfl rfl rfl rfl (by decide) ⟨rfl, by decide, by decide, pd_X2_doneAndHere⟩ (by decide) (by decide) rfl (Nat.le_of_ble_eq_true rfl) dX9_count_91 (fun r5 v4 h => ?_)
      exact q_iret o rt dX9_count_94 h
    | 4, _, c1 =>
      have h := h.2.2.2.2.1 c1
      change J l G X 95 [(0, .ref (gA G 0 0)), (1, .int a1)] [] v
      refine q_aload_n o dX9_count_95 rfl ?_
      refine q_getR (q := 0) o sf_X9_count_10 (by decide) dX9_count_96 ?_
      refine q_getR (q := 4) o sf_X9_count_47 (by decide) dX9_count_99 ?_
      refine q_getI o sf_X9_count_230 (by decide) dX9_count_102 ?_
      exact q_iret o rt dX9_count_105 h
    | 5, _, c1 =>
      have h := h.2.2.2.2.2.1 c1
      change J l G X 106 [(0, .ref (gA G 0 0)), (1, .int a1)] [] v
      refine q_aload_n o dX9_count_106 rfl ?_
      refine q_getR (q := 0) o sf_X9_count_10 (by decide) dX9_count_107 ?_
      refine q_getR (q := 4) o sf_X9_count_47 (by decide) dX9_count_110 ?_
      refine q_getI o sf_X9_count_181 (by decide) dX9_count_113 ?_
      exact q_iret o rt dX9_count_116 h
    | 6, _, c1 =>
      have h := h.2.2.2.2.2.2.1 c1
      change J l G X 117 [(0, .ref (gA G 0 0)), (1, .int a1)] [] v
      refine q_aload_n o dX9_count_117 rfl ?_
      refine q_getR (q := 0) o sf_X9_count_10 (by decide) dX9_count_118 ?_
      refine q_getI o sf_X9_count_114 (by decide) dX9_count_121 ?_
      exact q_iret o rt dX9_count_124 h
    | 7, _, c1 =>
      have h := h.2.2.2.2.2.2.2.1 c1
      change J l G X 125 [(0, .ref (gA G 0 0)), (1, .int a1)] [] v
      refine q_aload_n o dX9_count_125 rfl ?_
      refine q_getR (q := 0) o sf_X9_count_10 (by decide) dX9_count_126 ?_
      refine q_getR (q := 5) o sf_X9_count_253 (by decide) dX9_count_129 ?_
      refine q_getI o sf_X9_count_257 (by decide) dX9_count_132 ?_
      exact q_iret o rt dX9_count_135 h
    | 8, _, c1 =>
      have h := h.2.2.2.2.2.2.2.2.1 c1
      change J l G X 136 [(0, .ref (gA G 0 0)), (1, .int a1)] [] v
      refine q_aload_n o dX9_count_136 rfl ?_
      refine q_getR (q := 0) o sf_X9_count_10 (by decide) dX9_count_137 ?_
      refine q_getI o sf_X9_count_262 (by decide) dX9_count_140 ?_
      exact q_iret o rt dX9_count_143 h
    | 9, _, c1 =>
      have h := h.2.2.2.2.2.2.2.2.2.1 c1
      change J l G X 144 [(0, .ref (gA G 0 0)), (1, .int a1)] [] v
      refine q_aload_n o dX9_count_144 rfl ?_
      refine q_getR (q := 0) o sf_X9_count_10 (by decide) dX9_count_145 ?_
      refine q_callV o [] (ad_X2_failedInAll l G v h) gX9_count_X2_failedInAll rfl rfl rfl rfl (by decide) ⟨rfl, by decide, by decide, pd_X2_failedInAll⟩ (by decide) (by decide) rfl (Nat.le_of_ble_eq_true rfl) dX9_count_148 (fun r7 v6 h => ?_)
      exact q_iret o rt dX9_count_151 h
    | 10, _, c1 =>
      have h := h.2.2.2.2.2.2.2.2.2.2.1 c1
      change J l G X 152 [(0, .ref (gA G 0 0)), (1, .int a1)] [] v
      refine q_aload_n o dX9_count_152 rfl ?_
      refine q_getR (q := 0) o sf_X9_count_10 (by decide) dX9_count_153 ?_
      refine q_callV o [] (ad_X2_spareInAll l G v h) gX9_count_X2_spareInAll rfl rfl rfl rfl (by decide) ⟨rfl, by decide, by decide, pd_X2_spareInAll⟩ (by decide) (by decide) rfl (Nat.le_of_ble_eq_true rfl) dX9_count_156 (fun r9 v8 h => ?_)
      exact q_iret o rt dX9_count_159 h
    | (n0 + 11), hn0, _ => exact absurd hn0 (by show ¬ (n0 + 11 < 11); omega)
  · have h := h.2.2.2.2.2.2.2.2.2.2.2 c1
    refine q_iconst o dX9_count_160 (x := (-1 : Int32)) (by decide) ?_
    exact q_iret o rt dX9_count_161 h
theorem pd_X9_count : (parseMethodDescriptor yX9_count.desc).map (fun d => d.parameters.length) = some 1 := by decide +kernel
