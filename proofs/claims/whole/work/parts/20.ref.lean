-- PieceSwarmModel.in(III)Z
def wp_X10_in (a0 : Int32) (a1 : Int32) (a2 : Int32) (v : St3) (post : (Int32 → St3 → Prop)) : Prop := ((a0 < a1 → post (0 : Int32) v) ∧ (¬ a0 < a1 → ((a2 < a0 → post (0 : Int32) v) ∧ (¬ a2 < a0 → post (1 : Int32) v))))
set_option maxRecDepth 20000 in
set_option maxHeartbeats 4000000 in
theorem ad_X10_in (l : Launch) (G : Geo) (a0 : Int32) (a1 : Int32) (a2 : Int32) (v : St3) {post : (Int32 → St3 → Prop)} (h : wp_X10_in a0 a1 a2 v post) : CI l G yX10_in wsX10_in 0 [.int a0, .int a1, .int a2] v post := by
  refine CI.of (ty := .boolean) (cc := cX10_in) (maxL := 3) (by decide) rfl (Nat.le_of_ble_eq_true rfl) (fun X o rt => ?_)
  unfold wp_X10_in at h
  show J l G X 0 [(0, .int a0), (1, .int a1), (2, .int a2)] [] v
  refine q_iload_n o dX10_in_0 rfl ?_
  refine q_iload_n o dX10_in_1 rfl ?_
  refine q_ic_lt o 14 dX10_in_2 (by decide) (fun c2 => ?_) (fun c2 => ?_)
  · have h := h.1 c2
    refine q_iconst o dX10_in_14 (x := (0 : Int32)) (by decide) ?_
    exact q_zret o rt dX10_in_15 (by decide) h
  · have h := h.2 c2
    refine q_iload_n o dX10_in_5 rfl ?_
    refine q_iload_n o dX10_in_6 rfl ?_
    refine q_ic_gt o 14 dX10_in_7 (by decide) (fun c1 => ?_) (fun c1 => ?_)
    · have h := h.1 c1
      refine q_iconst o dX10_in_14 (x := (0 : Int32)) (by decide) ?_
      exact q_zret o rt dX10_in_15 (by decide) h
    · have h := h.2 c1
      refine q_iconst o dX10_in_10 (x := (1 : Int32)) (by decide) ?_
      refine q_goto o 15 dX10_in_11 (by decide) ?_
      exact q_zret o rt dX10_in_15 (by decide) h
theorem pd_X10_in : (parseMethodDescriptor yX10_in.desc).map (fun d => d.parameters.length) = some 3 := by decide +kernel
-- PieceSwarmModel.valueOf(II)I
theorem inn_X10_valueOf_X10 : ∀ w ∈ wsX100, w ∈ wsX10_valueOf := by decide +kernel
theorem sf_X10_valueOf_123 : SF wsX10_valueOf RX10 123 24 3 0 := ⟨RX10, TX10, 45, rfl, rfl, rfl, rfl, by decide, inn_X10_valueOf_X10, by decide +kernel⟩
theorem kc_X10_valueOf_126 : Cond.constant RX10 126 (1103515245 : Int32) ∈ wsX10_valueOf := by decide +kernel
def wp_X10_valueOf (a1 : Int32) (a2 : Int32) (v : St3) (post : (Int32 → St3 → Prop)) : Prop := ∀ x1 : Int32, x1 = (((((v 24 0 3) + ((4 : Int32) * a1)) + a2) * (1103515245 : Int32)) + (12345 : Int32)) → post (x1 ^^^ (ushr x1 (15 : Int32))) v
set_option maxRecDepth 20000 in
set_option maxHeartbeats 4000000 in
theorem ad_X10_valueOf (l : Launch) (G : Geo) (a1 : Int32) (a2 : Int32) (v : St3) {post : (Int32 → St3 → Prop)} (h : wp_X10_valueOf a1 a2 v post) : CI l G yX10_valueOf wsX10_valueOf 0 [.ref (gA G 24 0), .int a1, .int a2] v post := by
  refine CI.of (ty := .int) (cc := cX10_valueOf) (maxL := 4) (by decide) rfl (Nat.le_of_ble_eq_true rfl) (fun X o rt => ?_)
  unfold wp_X10_valueOf at h
  show J l G X 0 [(0, .ref (gA G 24 0)), (1, .int a1), (2, .int a2)] [] v
  refine q_aload_n o dX10_valueOf_0 rfl ?_
  refine q_getI o sf_X10_valueOf_123 (by decide) dX10_valueOf_1 ?_
  refine q_iconst o dX10_valueOf_4 (x := (4 : Int32)) (by decide) ?_
  refine q_iload_n o dX10_valueOf_5 rfl ?_
  refine q_imul o dX10_valueOf_6 ?_
  refine q_iadd o dX10_valueOf_7 ?_
  refine q_iload_n o dX10_valueOf_8 rfl ?_
  refine q_iadd o dX10_valueOf_9 ?_
  refine q_ldc o kc_X10_valueOf_126 dX10_valueOf_10 ?_
  refine q_imul o dX10_valueOf_12 ?_
  refine q_sipush o dX10_valueOf_13 (x := (12345 : Int32)) (by decide) ?_
  refine q_iadd o dX10_valueOf_16 ?_
  refine q_top (fun x1 e2 => ?_)
  have h := h x1 e2
  refine q_istore_n o (lv' := [(3, .int x1), (0, .ref (gA G 24 0)), (1, .int a1), (2, .int a2)]) dX10_valueOf_17 (by decide) rfl ?_
  refine q_iload_n o dX10_valueOf_18 rfl ?_
  refine q_iload_n o dX10_valueOf_19 rfl ?_
  refine q_bipush o dX10_valueOf_20 (x := (15 : Int32)) (by decide) ?_
  refine q_iushr o dX10_valueOf_22 ?_
  refine q_ixor o dX10_valueOf_23 ?_
  exact q_iret o rt dX10_valueOf_24 h
theorem pd_X10_valueOf : (parseMethodDescriptor yX10_valueOf.desc).map (fun d => d.parameters.length) = some 2 := by decide +kernel
-- PieceSwarmModel.sumOf(I)I
theorem inn_X10_sumOf_X10 : ∀ w ∈ wsX100, w ∈ wsX10_sumOf := by decide +kernel
theorem sf_X10_sumOf_13 : SF wsX10_sumOf RX10 13 24 2 0 := ⟨RX10, TX10, 45, rfl, rfl, rfl, rfl, by decide, inn_X10_sumOf_X10, by decide +kernel⟩
theorem kc_X10_sumOf_127 : Cond.constant RX10 127 (69069 : Int32) ∈ wsX10_sumOf := by decide +kernel
def wB_X10_sumOf_4 (post : (Int32 → St3 → Prop)) (K4 : Int32 → Int32 → Int32 → St3 → Prop) (a1 : Int32) (a2 : Int32) (a3 : Int32) (v : St3) : Prop := (((v 24 0 2) ≤ a3 → post a2 v) ∧ (¬ (v 24 0 2) ≤ a3 → wp_X10_valueOf a1 a3 v (fun r2 v1 => K4 a1 ((a2 * (69069 : Int32)) + r2) (a3 + (1 : Int32)) v1)))
def wL_X10_sumOf_4 (post : (Int32 → St3 → Prop)) : Nat → Int32 → Int32 → Int32 → St3 → Prop
  | 0, _, _, _, _ => False
  | f + 1, a1, a2, a3, v => wB_X10_sumOf_4 post (wL_X10_sumOf_4 post f) a1 a2 a3 v
set_option maxRecDepth 20000 in
set_option maxHeartbeats 4000000 in
theorem aL_X10_sumOf_4 {l : Launch} {G : Geo} {X : CT} (o : OK G X cX10_sumOf wsX10_sumOf RX10 1 4) {post : (Int32 → St3 → Prop)} (rt : RI G X .int post) : ∀ (f : Nat) (a1 : Int32) (a2 : Int32) (a3 : Int32) (v : St3), wL_X10_sumOf_4 post f a1 a2 a3 v → J l G X 4 [(0, .ref (gA G 24 0)), (1, .int a1), (2, .int a2), (3, .int a3)] [] v := by
  intro f
  induction f with
  | zero => intro _ _ _ _ h; exact False.elim h
  | succ f hK4 =>
  intro a1 a2 a3 v h
  have h : wB_X10_sumOf_4 post (wL_X10_sumOf_4 post f) a1 a2 a3 v := h
  unfold wB_X10_sumOf_4 at h
  refine q_iload_n o dX10_sumOf_4 rfl ?_
  refine q_aload_n o dX10_sumOf_5 rfl ?_
  refine q_getI o sf_X10_sumOf_13 (by decide) dX10_sumOf_6 ?_
  refine q_ic_ge o 30 dX10_sumOf_9 (by decide) (fun c3 => ?_) (fun c3 => ?_)
  · have h := h.1 c3
    refine q_iload_n o dX10_sumOf_30 rfl ?_
    exact q_iret o rt dX10_sumOf_31 h
  · have h := h.2 c3
    refine q_iload_n o dX10_sumOf_12 rfl ?_
    refine q_ldc o kc_X10_sumOf_127 dX10_sumOf_13 ?_
    refine q_imul o dX10_sumOf_15 ?_
    refine q_aload_n o dX10_sumOf_16 rfl ?_
    refine q_iload_n o dX10_sumOf_17 rfl ?_
    refine q_iload_n o dX10_sumOf_18 rfl ?_
    refine q_callV o [.int a1, .int a3] (ad_X10_valueOf l G a1 a3 v h) gX10_sumOf_X10_valueOf rfl rfl rfl rfl (by decide) ⟨rfl, by decide, by decide, pd_X10_valueOf⟩ (by decide) (by decide) rfl (Nat.le_of_ble_eq_true rfl) dX10_sumOf_19 (fun r2 v1 h => ?_)
    refine q_iadd o dX10_sumOf_22 ?_
    refine q_istore_n o (lv' := [(2, .int ((a2 * (69069 : Int32)) + r2)), (0, .ref (gA G 24 0)), (1, .int a1), (3, .int a3)]) dX10_sumOf_23 (by decide) rfl ?_
    refine q_iinc o (y := (a3 + (1 : Int32))) (lv' := [(3, .int (a3 + (1 : Int32))), (2, .int ((a2 * (69069 : Int32)) + r2)), (0, .ref (gA G 24 0)), (1, .int a1)]) dX10_sumOf_24 rfl rfl (by decide) rfl ?_
    refine q_goto o 4 dX10_sumOf_27 (by decide) ?_
    refine q_lv [2, 3, 1, 0] rfl ?_
    exact hK4 a1 ((a2 * (69069 : Int32)) + r2) (a3 + (1 : Int32)) v1 h
def wp_X10_sumOf (a1 : Int32) (v : St3) (post : (Int32 → St3 → Prop)) : Prop := wL_X10_sumOf_4 post FU a1 (0 : Int32) (0 : Int32) v
set_option maxRecDepth 20000 in
set_option maxHeartbeats 4000000 in
theorem ad_X10_sumOf (l : Launch) (G : Geo) (a1 : Int32) (v : St3) {post : (Int32 → St3 → Prop)} (h : wp_X10_sumOf a1 v post) : CI l G yX10_sumOf wsX10_sumOf 1 [.ref (gA G 24 0), .int a1] v post := by
  refine CI.of (ty := .int) (cc := cX10_sumOf) (maxL := 4) (by decide) rfl (Nat.le_of_ble_eq_true rfl) (fun X o rt => ?_)
  unfold wp_X10_sumOf at h
  show J l G X 0 [(0, .ref (gA G 24 0)), (1, .int a1)] [] v
  refine q_iconst o dX10_sumOf_0 (x := (0 : Int32)) (by decide) ?_
  refine q_istore_n o (lv' := [(2, .int (0 : Int32)), (0, .ref (gA G 24 0)), (1, .int a1)]) dX10_sumOf_1 (by decide) rfl ?_
  refine q_iconst o dX10_sumOf_2 (x := (0 : Int32)) (by decide) ?_
  refine q_istore_n o (lv' := [(3, .int (0 : Int32)), (2, .int (0 : Int32)), (0, .ref (gA G 24 0)), (1, .int a1)]) dX10_sumOf_3 (by decide) rfl ?_
  refine q_lv [2, 3, 1, 0] rfl ?_
  exact aL_X10_sumOf_4 o rt FU a1 (0 : Int32) (0 : Int32) v h
theorem pd_X10_sumOf : (parseMethodDescriptor yX10_sumOf.desc).map (fun d => d.parameters.length) = some 1 := by decide +kernel
-- PieceSwarmModel.isBlock(II)Z
theorem inn_X10_isBlock_X10 : ∀ w ∈ wsX100, w ∈ wsX10_isBlock := by decide +kernel
theorem sf_X10_isBlock_7 : SF wsX10_isBlock RX10 7 24 1 0 := ⟨RX10, TX10, 45, rfl, rfl, rfl, rfl, by decide, inn_X10_isBlock_X10, by decide +kernel⟩
theorem sf_X10_isBlock_13 : SF wsX10_isBlock RX10 13 24 2 0 := ⟨RX10, TX10, 45, rfl, rfl, rfl, rfl, by decide, inn_X10_isBlock_X10, by decide +kernel⟩
def wp_X10_isBlock (a1 : Int32) (a2 : Int32) (v : St3) (post : (Int32 → St3 → Prop)) : Prop := wp_X10_in a1 (0 : Int32) ((v 24 0 1) - (1 : Int32)) v (fun r2 v1 => ((r2 = 0 → post (0 : Int32) v1) ∧ (¬ r2 = 0 → wp_X10_in a2 (0 : Int32) ((v1 24 0 2) - (1 : Int32)) v1 (fun r4 v3 => ((r4 = 0 → post (0 : Int32) v3) ∧ (¬ r4 = 0 → post (1 : Int32) v3))))))
set_option maxRecDepth 20000 in
set_option maxHeartbeats 4000000 in
theorem ad_X10_isBlock (l : Launch) (G : Geo) (a1 : Int32) (a2 : Int32) (v : St3) {post : (Int32 → St3 → Prop)} (h : wp_X10_isBlock a1 a2 v post) : CI l G yX10_isBlock wsX10_isBlock 1 [.ref (gA G 24 0), .int a1, .int a2] v post := by
  refine CI.of (ty := .boolean) (cc := cX10_isBlock) (maxL := 3) (by decide) rfl (Nat.le_of_ble_eq_true rfl) (fun X o rt => ?_)
  unfold wp_X10_isBlock at h
  show J l G X 0 [(0, .ref (gA G 24 0)), (1, .int a1), (2, .int a2)] [] v
  refine q_iload_n o dX10_isBlock_0 rfl ?_
  refine q_iconst o dX10_isBlock_1 (x := (0 : Int32)) (by decide) ?_
  refine q_aload_n o dX10_isBlock_2 rfl ?_
  refine q_getI o sf_X10_isBlock_7 (by decide) dX10_isBlock_3 ?_
  refine q_iconst o dX10_isBlock_6 (x := (1 : Int32)) (by decide) ?_
  refine q_isub o dX10_isBlock_7 ?_
  refine q_callS o [.int a1, .int (0 : Int32), .int ((v 24 0 1) - (1 : Int32))] (ad_X10_in l G a1 (0 : Int32) ((v 24 0 1) - (1 : Int32)) v h) gX10_isBlock_X10_in rfl ⟨by decide, by decide, pd_X10_in⟩ (by decide) (by decide) rfl (Nat.le_of_ble_eq_true rfl) dX10_isBlock_8 (fun r2 v1 h => ?_)
  refine q_if_eq o 32 dX10_isBlock_11 (by decide) (fun c6 => ?_) (fun c6 => ?_)
  · have h := h.1 c6
    refine q_iconst o dX10_isBlock_32 (x := (0 : Int32)) (by decide) ?_
    exact q_zret o rt dX10_isBlock_33 (by decide) h
  · have h := h.2 c6
    refine q_iload_n o dX10_isBlock_14 rfl ?_
    refine q_iconst o dX10_isBlock_15 (x := (0 : Int32)) (by decide) ?_
    refine q_aload_n o dX10_isBlock_16 rfl ?_
    refine q_getI o sf_X10_isBlock_13 (by decide) dX10_isBlock_17 ?_
    refine q_iconst o dX10_isBlock_20 (x := (1 : Int32)) (by decide) ?_
    refine q_isub o dX10_isBlock_21 ?_
    refine q_callS o [.int a2, .int (0 : Int32), .int ((v1 24 0 2) - (1 : Int32))] (ad_X10_in l G a2 (0 : Int32) ((v1 24 0 2) - (1 : Int32)) v1 h) gX10_isBlock_X10_in rfl ⟨by decide, by decide, pd_X10_in⟩ (by decide) (by decide) rfl (Nat.le_of_ble_eq_true rfl) dX10_isBlock_22 (fun r4 v3 h => ?_)
    refine q_if_eq o 32 dX10_isBlock_25 (by decide) (fun c5 => ?_) (fun c5 => ?_)
    · have h := h.1 c5
      refine q_iconst o dX10_isBlock_32 (x := (0 : Int32)) (by decide) ?_
      exact q_zret o rt dX10_isBlock_33 (by decide) h
    · have h := h.2 c5
      refine q_iconst o dX10_isBlock_28 (x := (1 : Int32)) (by decide) ?_
      refine q_goto o 33 dX10_isBlock_29 (by decide) ?_
      exact q_zret o rt dX10_isBlock_33 (by decide) h
theorem pd_X10_isBlock : (parseMethodDescriptor yX10_isBlock.desc).map (fun d => d.parameters.length) = some 2 := by decide +kernel
-- PieceSwarmModel.file(III)Z
theorem inn_X10_file_X10 : ∀ w ∈ wsX100, w ∈ wsX10_file := by decide +kernel
theorem sp_X10_file_120 : SP wsX10_file RX10 120 24 0 := ⟨RX10, TX10, 45, tyX10, rfl, rfl, rfl, rfl, by decide, inn_X10_file_X10, by decide +kernel, tyX10_ok, nmX10, rfl, by decide +kernel⟩
theorem sf_X10_file_136 : SF wsX10_file RX10 136 24 4 0 := ⟨RX10, TX10, 45, rfl, rfl, rfl, rfl, by decide, inn_X10_file_X10, by decide +kernel⟩
theorem sp_X10_file_7 : SP wsX10_file RX10 7 24 1 := ⟨RX10, TX10, 45, tyX10, rfl, rfl, rfl, rfl, by decide, inn_X10_file_X10, by decide +kernel, tyX10_ok, nmX10, rfl, by decide +kernel⟩
theorem sp_X10_file_13 : SP wsX10_file RX10 13 24 2 := ⟨RX10, TX10, 45, tyX10, rfl, rfl, rfl, rfl, by decide, inn_X10_file_X10, by decide +kernel, tyX10_ok, nmX10, rfl, by decide +kernel⟩
theorem sp_X10_file_123 : SP wsX10_file RX10 123 24 3 := ⟨RX10, TX10, 45, tyX10, rfl, rfl, rfl, rfl, by decide, inn_X10_file_X10, by decide +kernel, tyX10_ok, nmX10, rfl, by decide +kernel⟩
def wp_X10_file (a1 : Int32) (a2 : Int32) (a3 : Int32) (v : St3) (post : (Int32 → St3 → Prop)) : Prop := ∀ v1, v1 = up3 v 24 0 0 (0 : Int32) → wp_X10_in a1 (1 : Int32) (24 : Int32) v1 (fun r4 v3 => ((r4 = 0 → post (0 : Int32) v3) ∧ (¬ r4 = 0 → wp_X10_in a2 (1 : Int32) (4 : Int32) v3 (fun r6 v5 => ((r6 = 0 → post (0 : Int32) v5) ∧ (¬ r6 = 0 → (((v5 24 0 4) ≤ 0 → ∀ v7, v7 = up3 v5 24 0 1 a1 → ∀ v9, v9 = up3 v7 24 0 2 a2 → ∀ v11, v11 = up3 v9 24 0 3 a3 → post (1 : Int32) v11) ∧ (¬ (v5 24 0 4) ≤ 0 → post (0 : Int32) v5))))))))
set_option maxRecDepth 20000 in
set_option maxHeartbeats 4000000 in
theorem ad_X10_file (l : Launch) (G : Geo) (a1 : Int32) (a2 : Int32) (a3 : Int32) (v : St3) {post : (Int32 → St3 → Prop)} (h : wp_X10_file a1 a2 a3 v post) : CI l G yX10_file wsX10_file 1 [.ref (gA G 24 0), .int a1, .int a2, .int a3] v post := by
  refine CI.of (ty := .boolean) (cc := cX10_file) (maxL := 4) (by decide) rfl (Nat.le_of_ble_eq_true rfl) (fun X o rt => ?_)
  unfold wp_X10_file at h
  show J l G X 0 [(0, .ref (gA G 24 0)), (1, .int a1), (2, .int a2), (3, .int a3)] [] v
  refine q_aload_n o dX10_file_0 rfl ?_
  refine q_iconst o dX10_file_1 (x := (0 : Int32)) (by decide) ?_
  refine q_putI o sp_X10_file_120 (by decide) dX10_file_2 (fun v1 e2 => ?_)
  have h := h v1 e2
  refine q_iload_n o dX10_file_5 rfl ?_
  refine q_iconst o dX10_file_6 (x := (1 : Int32)) (by decide) ?_
  refine q_bipush o dX10_file_7 (x := (24 : Int32)) (by decide) ?_
  refine q_callS o [.int a1, .int (1 : Int32), .int (24 : Int32)] (ad_X10_in l G a1 (1 : Int32) (24 : Int32) v1 h) gX10_file_X10_in rfl ⟨by decide, by decide, pd_X10_in⟩ (by decide) (by decide) rfl (Nat.le_of_ble_eq_true rfl) dX10_file_9 (fun r4 v3 h => ?_)
  refine q_if_eq o 31 dX10_file_12 (by decide) (fun c15 => ?_) (fun c15 => ?_)
  · have h := h.1 c15
    refine q_iconst o dX10_file_31 (x := (0 : Int32)) (by decide) ?_
    exact q_zret o rt dX10_file_32 (by decide) h
  · have h := h.2 c15
    refine q_iload_n o dX10_file_15 rfl ?_
    refine q_iconst o dX10_file_16 (x := (1 : Int32)) (by decide) ?_
    refine q_iconst o dX10_file_17 (x := (4 : Int32)) (by decide) ?_
    refine q_callS o [.int a2, .int (1 : Int32), .int (4 : Int32)] (ad_X10_in l G a2 (1 : Int32) (4 : Int32) v3 h) gX10_file_X10_in rfl ⟨by decide, by decide, pd_X10_in⟩ (by decide) (by decide) rfl (Nat.le_of_ble_eq_true rfl) dX10_file_18 (fun r6 v5 h => ?_)
    refine q_if_eq o 31 dX10_file_21 (by decide) (fun c14 => ?_) (fun c14 => ?_)
    · have h := h.1 c14
      refine q_iconst o dX10_file_31 (x := (0 : Int32)) (by decide) ?_
      exact q_zret o rt dX10_file_32 (by decide) h
    · have h := h.2 c14
      refine q_aload_n o dX10_file_24 rfl ?_
      refine q_getI o sf_X10_file_136 (by decide) dX10_file_25 ?_
      refine q_if_le o 33 dX10_file_28 (by decide) (fun c13 => ?_) (fun c13 => ?_)
      · have h := h.1 c13
        refine q_aload_n o dX10_file_33 rfl ?_
        refine q_iload_n o dX10_file_34 rfl ?_
        refine q_putI o sp_X10_file_7 (by decide) dX10_file_35 (fun v7 e8 => ?_)
        have h := h v7 e8
        refine q_aload_n o dX10_file_38 rfl ?_
        refine q_iload_n o dX10_file_39 rfl ?_
        refine q_putI o sp_X10_file_13 (by decide) dX10_file_40 (fun v9 e10 => ?_)
        have h := h v9 e10
        refine q_aload_n o dX10_file_43 rfl ?_
        refine q_iload_n o dX10_file_44 rfl ?_
        refine q_putI o sp_X10_file_123 (by decide) dX10_file_45 (fun v11 e12 => ?_)
        have h := h v11 e12
        refine q_iconst o dX10_file_48 (x := (1 : Int32)) (by decide) ?_
        exact q_zret o rt dX10_file_49 (by decide) h
      · have h := h.2 c13
        refine q_iconst o dX10_file_31 (x := (0 : Int32)) (by decide) ?_
        exact q_zret o rt dX10_file_32 (by decide) h
theorem pd_X10_file : (parseMethodDescriptor yX10_file.desc).map (fun d => d.parameters.length) = some 3 := by decide +kernel
-- PieceSwarmModel.isPeer(I)Z
theorem inn_X10_isPeer_X10 : ∀ w ∈ wsX100, w ∈ wsX10_isPeer := by decide +kernel
theorem sf_X10_isPeer_136 : SF wsX10_isPeer RX10 136 24 4 0 := ⟨RX10, TX10, 45, rfl, rfl, rfl, rfl, by decide, inn_X10_isPeer_X10, by decide +kernel⟩
def wp_X10_isPeer (a1 : Int32) (v : St3) (post : (Int32 → St3 → Prop)) : Prop := wp_X10_in a1 (0 : Int32) ((v 24 0 4) - (1 : Int32)) v (fun r2 v1 => ((r2 = 0 ∨ r2 = 1) ∧ post r2 v1))
set_option maxRecDepth 20000 in
set_option maxHeartbeats 4000000 in
theorem ad_X10_isPeer (l : Launch) (G : Geo) (a1 : Int32) (v : St3) {post : (Int32 → St3 → Prop)} (h : wp_X10_isPeer a1 v post) : CI l G yX10_isPeer wsX10_isPeer 1 [.ref (gA G 24 0), .int a1] v post := by
  refine CI.of (ty := .boolean) (cc := cX10_isPeer) (maxL := 2) (by decide) rfl (Nat.le_of_ble_eq_true rfl) (fun X o rt => ?_)
  unfold wp_X10_isPeer at h
  show J l G X 0 [(0, .ref (gA G 24 0)), (1, .int a1)] [] v
  refine q_iload_n o dX10_isPeer_0 rfl ?_
  refine q_iconst o dX10_isPeer_1 (x := (0 : Int32)) (by decide) ?_
  refine q_aload_n o dX10_isPeer_2 rfl ?_
  refine q_getI o sf_X10_isPeer_136 (by decide) dX10_isPeer_3 ?_
  refine q_iconst o dX10_isPeer_6 (x := (1 : Int32)) (by decide) ?_
  refine q_isub o dX10_isPeer_7 ?_
  refine q_callS o [.int a1, .int (0 : Int32), .int ((v 24 0 4) - (1 : Int32))] (ad_X10_in l G a1 (0 : Int32) ((v 24 0 4) - (1 : Int32)) v h) gX10_isPeer_X10_in rfl ⟨by decide, by decide, pd_X10_in⟩ (by decide) (by decide) rfl (Nat.le_of_ble_eq_true rfl) dX10_isPeer_8 (fun r2 v1 h => ?_)
  obtain ⟨hz3, h⟩ := h
  exact q_zret o rt dX10_isPeer_11 hz3 h
theorem pd_X10_isPeer : (parseMethodDescriptor yX10_isPeer.desc).map (fun d => d.parameters.length) = some 1 := by decide +kernel
-- PieceSwarmModel.two(II)I
def wp_X10_two (a0 : Int32) (a1 : Int32) (v : St3) (post : (Int32 → St3 → Prop)) : Prop := post (((12 : Int32) * a0) + a1) v
set_option maxRecDepth 20000 in
set_option maxHeartbeats 4000000 in
theorem ad_X10_two (l : Launch) (G : Geo) (a0 : Int32) (a1 : Int32) (v : St3) {post : (Int32 → St3 → Prop)} (h : wp_X10_two a0 a1 v post) : CI l G yX10_two wsX10_two 0 [.int a0, .int a1] v post := by
  refine CI.of (ty := .int) (cc := cX10_two) (maxL := 2) (by decide) rfl (Nat.le_of_ble_eq_true rfl) (fun X o rt => ?_)
  unfold wp_X10_two at h
  show J l G X 0 [(0, .int a0), (1, .int a1)] [] v
  refine q_bipush o dX10_two_0 (x := (12 : Int32)) (by decide) ?_
  refine q_iload_n o dX10_two_2 rfl ?_
  refine q_imul o dX10_two_3 ?_
  refine q_iload_n o dX10_two_4 rfl ?_
  refine q_iadd o dX10_two_5 ?_
  exact q_iret o rt dX10_two_6 h
theorem pd_X10_two : (parseMethodDescriptor yX10_two.desc).map (fun d => d.parameters.length) = some 2 := by decide +kernel
-- PieceSwarmModel.cell(III)I
def wp_X10_cell (a0 : Int32) (a1 : Int32) (a2 : Int32) (v : St3) (post : (Int32 → St3 → Prop)) : Prop := post ((((96 : Int32) * a0) + ((4 : Int32) * a1)) + a2) v
set_option maxRecDepth 20000 in
set_option maxHeartbeats 4000000 in
theorem ad_X10_cell (l : Launch) (G : Geo) (a0 : Int32) (a1 : Int32) (a2 : Int32) (v : St3) {post : (Int32 → St3 → Prop)} (h : wp_X10_cell a0 a1 a2 v post) : CI l G yX10_cell wsX10_cell 0 [.int a0, .int a1, .int a2] v post := by
  refine CI.of (ty := .int) (cc := cX10_cell) (maxL := 3) (by decide) rfl (Nat.le_of_ble_eq_true rfl) (fun X o rt => ?_)
  unfold wp_X10_cell at h
  show J l G X 0 [(0, .int a0), (1, .int a1), (2, .int a2)] [] v
  refine q_bipush o dX10_cell_0 (x := (96 : Int32)) (by decide) ?_
  refine q_iload_n o dX10_cell_2 rfl ?_
  refine q_imul o dX10_cell_3 ?_
  refine q_iconst o dX10_cell_4 (x := (4 : Int32)) (by decide) ?_
  refine q_iload_n o dX10_cell_5 rfl ?_
  refine q_imul o dX10_cell_6 ?_
  refine q_iadd o dX10_cell_7 ?_
  refine q_iload_n o dX10_cell_8 rfl ?_
  refine q_iadd o dX10_cell_9 ?_
  exact q_iret o rt dX10_cell_10 h
theorem pd_X10_cell : (parseMethodDescriptor yX10_cell.desc).map (fun d => d.parameters.length) = some 3 := by decide +kernel
-- PieceSwarmModel.isNear(II)Z
theorem inn_X10_isNear_X10 : ∀ w ∈ wsX100, w ∈ wsX10_isNear := by decide +kernel
theorem sf_X10_isNear_63 : SF wsX10_isNear RX10 63 24 25 55 := ⟨RX10, TX10, 45, rfl, rfl, rfl, rfl, by decide, inn_X10_isNear_X10, by decide +kernel⟩
theorem sf_X10_isNear_26 : SF wsX10_isNear RX10 26 24 13 43 := ⟨RX10, TX10, 45, rfl, rfl, rfl, rfl, by decide, inn_X10_isNear_X10, by decide +kernel⟩
theorem sf_X10_isNear_69 : SF wsX10_isNear RX10 69 24 27 57 := ⟨RX10, TX10, 45, rfl, rfl, rfl, rfl, by decide, inn_X10_isNear_X10, by decide +kernel⟩
def wp_X10_isNear (a1 : Int32) (a2 : Int32) (v : St3) (post : (Int32 → St3 → Prop)) : Prop := wp_X10_two a1 a2 v (fun r2 v1 => ∃ n3, n3 < 144 ∧ r2 = nI n3 ∧ (((v1 55 0 n3) = 0 → post (0 : Int32) v1) ∧ (¬ (v1 55 0 n3) = 0 → ∃ n6, n6 < 12 ∧ a1 = nI n6 ∧ (((v1 43 0 n6) = 0 → post (0 : Int32) v1) ∧ (¬ (v1 43 0 n6) = 0 → ∃ n9, n9 < 12 ∧ a2 = nI n9 ∧ (((v1 43 0 n9) = 0 → post (0 : Int32) v1) ∧ (¬ (v1 43 0 n9) = 0 → wp_X10_two a1 a2 v1 (fun r13 v12 => ∃ n14, n14 < 144 ∧ r13 = nI n14 ∧ ((¬ (v12 57 0 n14) = 0 → post (0 : Int32) v12) ∧ ((v12 57 0 n14) = 0 → wp_X10_two a2 a1 v12 (fun r18 v17 => ∃ n19, n19 < 144 ∧ r18 = nI n19 ∧ ((¬ (v17 57 0 n19) = 0 → post (0 : Int32) v17) ∧ ((v17 57 0 n19) = 0 → post (1 : Int32) v17)))))))))))))
set_option maxRecDepth 20000 in
set_option maxHeartbeats 4000000 in
theorem ad_X10_isNear (l : Launch) (G : Geo) (a1 : Int32) (a2 : Int32) (v : St3) {post : (Int32 → St3 → Prop)} (h : wp_X10_isNear a1 a2 v post) : CI l G yX10_isNear wsX10_isNear 1 [.ref (gA G 24 0), .int a1, .int a2] v post := by
  refine CI.of (ty := .boolean) (cc := cX10_isNear) (maxL := 3) (by decide) rfl (Nat.le_of_ble_eq_true rfl) (fun X o rt => ?_)
  unfold wp_X10_isNear at h
  show J l G X 0 [(0, .ref (gA G 24 0)), (1, .int a1), (2, .int a2)] [] v
  refine q_aload_n o dX10_isNear_0 rfl ?_
  refine q_getR (q := 54) o sf_X10_isNear_63 (by decide) dX10_isNear_1 ?_
  refine q_iload_n o dX10_isNear_4 rfl ?_
  refine q_iload_n o dX10_isNear_5 rfl ?_
  refine q_callS o [.int a1, .int a2] (ad_X10_two l G a1 a2 v h) gX10_isNear_X10_two rfl ⟨by decide, by decide, pd_X10_two⟩ (by decide) (by decide) rfl (Nat.le_of_ble_eq_true rfl) dX10_isNear_6 (fun r2 v1 h => ?_)
  obtain ⟨n3, hn4, hx5, h⟩ := h
  refine q_zald (m := 143) o rfl rfl (by decide) hn4 hx5 dX10_isNear_9 ?_
  refine q_if_eq o 61 dX10_isNear_10 (by decide) (fun c26 => ?_) (fun c26 => ?_)
  · have h := h.1 c26
    refine q_iconst o dX10_isNear_61 (x := (0 : Int32)) (by decide) ?_
    exact q_zret o rt dX10_isNear_62 (by decide) h
  · have h := h.2 c26
    refine q_aload_n o dX10_isNear_13 rfl ?_
    refine q_getR (q := 42) o sf_X10_isNear_26 (by decide) dX10_isNear_14 ?_
    refine q_iload_n o dX10_isNear_17 rfl ?_
    obtain ⟨n6, hn7, hx8, h⟩ := h
    refine q_zald (m := 11) o rfl rfl (by decide) hn7 hx8 dX10_isNear_18 ?_
    refine q_if_eq o 61 dX10_isNear_19 (by decide) (fun c25 => ?_) (fun c25 => ?_)
    · have h := h.1 c25
      refine q_iconst o dX10_isNear_61 (x := (0 : Int32)) (by decide) ?_
      exact q_zret o rt dX10_isNear_62 (by decide) h
    · have h := h.2 c25
      refine q_aload_n o dX10_isNear_22 rfl ?_
      refine q_getR (q := 42) o sf_X10_isNear_26 (by decide) dX10_isNear_23 ?_
      refine q_iload_n o dX10_isNear_26 rfl ?_
      obtain ⟨n9, hn10, hx11, h⟩ := h
      refine q_zald (m := 11) o rfl rfl (by decide) hn10 hx11 dX10_isNear_27 ?_
      refine q_if_eq o 61 dX10_isNear_28 (by decide) (fun c24 => ?_) (fun c24 => ?_)
      · have h := h.1 c24
        refine q_iconst o dX10_isNear_61 (x := (0 : Int32)) (by decide) ?_
        exact q_zret o rt dX10_isNear_62 (by decide) h
      · have h := h.2 c24
        refine q_aload_n o dX10_isNear_31 rfl ?_
        refine q_getR (q := 56) o sf_X10_isNear_69 (by decide) dX10_isNear_32 ?_
        refine q_iload_n o dX10_isNear_35 rfl ?_
        refine q_iload_n o dX10_isNear_36 rfl ?_
        refine q_callS o [.int a1, .int a2] (ad_X10_two l G a1 a2 v1 h) gX10_isNear_X10_two rfl ⟨by decide, by decide, pd_X10_two⟩ (by decide) (by decide) rfl (Nat.le_of_ble_eq_true rfl) dX10_isNear_37 (fun r13 v12 h => ?_)
        obtain ⟨n14, hn15, hx16, h⟩ := h
        refine q_zald (m := 143) o rfl rfl (by decide) hn15 hx16 dX10_isNear_40 ?_
        refine q_if_ne o 61 dX10_isNear_41 (by decide) (fun c23 => ?_) (fun c23 => ?_)
        · have h := h.1 c23
          refine q_iconst o dX10_isNear_61 (x := (0 : Int32)) (by decide) ?_
          exact q_zret o rt dX10_isNear_62 (by decide) h
        · have h := h.2 c23
          refine q_aload_n o dX10_isNear_44 rfl ?_
          refine q_getR (q := 56) o sf_X10_isNear_69 (by decide) dX10_isNear_45 ?_
          refine q_iload_n o dX10_isNear_48 rfl ?_
          refine q_iload_n o dX10_isNear_49 rfl ?_
          refine q_callS o [.int a2, .int a1] (ad_X10_two l G a2 a1 v12 h) gX10_isNear_X10_two rfl ⟨by decide, by decide, pd_X10_two⟩ (by decide) (by decide) rfl (Nat.le_of_ble_eq_true rfl) dX10_isNear_50 (fun r18 v17 h => ?_)
          obtain ⟨n19, hn20, hx21, h⟩ := h
          refine q_zald (m := 143) o rfl rfl (by decide) hn20 hx21 dX10_isNear_53 ?_
          refine q_if_ne o 61 dX10_isNear_54 (by decide) (fun c22 => ?_) (fun c22 => ?_)
          · have h := h.1 c22
            refine q_iconst o dX10_isNear_61 (x := (0 : Int32)) (by decide) ?_
            exact q_zret o rt dX10_isNear_62 (by decide) h
          · have h := h.2 c22
            refine q_iconst o dX10_isNear_57 (x := (1 : Int32)) (by decide) ?_
            refine q_goto o 62 dX10_isNear_58 (by decide) ?_
            exact q_zret o rt dX10_isNear_62 (by decide) h
theorem pd_X10_isNear : (parseMethodDescriptor yX10_isNear.desc).map (fun d => d.parameters.length) = some 2 := by decide +kernel
-- PieceSwarmModel.tells(II)Z
theorem inn_X10_tells_X10 : ∀ w ∈ wsX100, w ∈ wsX10_tells := by decide +kernel
theorem sf_X10_tells_48 : SF wsX10_tells RX10 48 24 20 50 := ⟨RX10, TX10, 45, rfl, rfl, rfl, rfl, by decide, inn_X10_tells_X10, by decide +kernel⟩
theorem sf_X10_tells_16 : SF wsX10_tells RX10 16 24 10 40 := ⟨RX10, TX10, 45, rfl, rfl, rfl, rfl, by decide, inn_X10_tells_X10, by decide +kernel⟩
def wp_X10_tells (a1 : Int32) (a2 : Int32) (v : St3) (post : (Int32 → St3 → Prop)) : Prop := ∃ n1, n1 < 288 ∧ (((24 : Int32) * a1) + a2) = nI n1 ∧ (((v 50 0 n1) = 0 → post (0 : Int32) v) ∧ (¬ (v 50 0 n1) = 0 → ∃ n4, n4 < 12 ∧ a1 = nI n4 ∧ ((¬ (v 40 0 n4) = (5 : Int32) → post (1 : Int32) v) ∧ ((v 40 0 n4) = (5 : Int32) → ¬ (2 : Int32) = 0 ∧ ((¬ (a2 - a2 / (2 : Int32) * (2 : Int32)) = 0 → post (0 : Int32) v) ∧ ((a2 - a2 / (2 : Int32) * (2 : Int32)) = 0 → post (1 : Int32) v))))))
set_option maxRecDepth 20000 in
set_option maxHeartbeats 4000000 in
theorem ad_X10_tells (l : Launch) (G : Geo) (a1 : Int32) (a2 : Int32) (v : St3) {post : (Int32 → St3 → Prop)} (h : wp_X10_tells a1 a2 v post) : CI l G yX10_tells wsX10_tells 0 [.ref (gA G 24 0), .int a1, .int a2] v post := by
  refine CI.of (ty := .boolean) (cc := cX10_tells) (maxL := 3) (by decide) rfl (Nat.le_of_ble_eq_true rfl) (fun X o rt => ?_)
  unfold wp_X10_tells at h
  show J l G X 0 [(0, .ref (gA G 24 0)), (1, .int a1), (2, .int a2)] [] v
  refine q_aload_n o dX10_tells_0 rfl ?_
  refine q_getR (q := 49) o sf_X10_tells_48 (by decide) dX10_tells_1 ?_
  refine q_bipush o dX10_tells_4 (x := (24 : Int32)) (by decide) ?_
  refine q_iload_n o dX10_tells_6 rfl ?_
  refine q_imul o dX10_tells_7 ?_
  refine q_iload_n o dX10_tells_8 rfl ?_
  refine q_iadd o dX10_tells_9 ?_
  obtain ⟨n1, hn2, hx3, h⟩ := h
  refine q_zald (m := 287) o rfl rfl (by decide) hn2 hx3 dX10_tells_10 ?_
  refine q_if_eq o 34 dX10_tells_11 (by decide) (fun c10 => ?_) (fun c10 => ?_)
  · have h := h.1 c10
    refine q_iconst o dX10_tells_34 (x := (0 : Int32)) (by decide) ?_
    exact q_zret o rt dX10_tells_35 (by decide) h
  · have h := h.2 c10
    refine q_aload_n o dX10_tells_14 rfl ?_
    refine q_getR (q := 39) o sf_X10_tells_16 (by decide) dX10_tells_15 ?_
    refine q_iload_n o dX10_tells_18 rfl ?_
    obtain ⟨n4, hn5, hx6, h⟩ := h
    refine q_iald (m := 11) o rfl rfl (by decide) hn5 hx6 dX10_tells_19 ?_
    refine q_iconst o dX10_tells_20 (x := (5 : Int32)) (by decide) ?_
    refine q_ic_ne o 30 dX10_tells_21 (by decide) (fun c9 => ?_) (fun c9 => ?_)
    · have h := h.1 c9
      refine q_iconst o dX10_tells_30 (x := (1 : Int32)) (by decide) ?_
      refine q_goto o 35 dX10_tells_31 (by decide) ?_
      exact q_zret o rt dX10_tells_35 (by decide) h
    · have h := h.2 c9
      refine q_iload_n o dX10_tells_24 rfl ?_
      refine q_iconst o dX10_tells_25 (x := (2 : Int32)) (by decide) ?_
      obtain ⟨hz7, h⟩ := h
      refine q_irem o dX10_tells_26 hz7 ?_
      refine q_if_ne o 34 dX10_tells_27 (by decide) (fun c8 => ?_) (fun c8 => ?_)
      · have h := h.1 c8
        refine q_iconst o dX10_tells_34 (x := (0 : Int32)) (by decide) ?_
        exact q_zret o rt dX10_tells_35 (by decide) h
      · have h := h.2 c8
        refine q_iconst o dX10_tells_30 (x := (1 : Int32)) (by decide) ?_
        refine q_goto o 35 dX10_tells_31 (by decide) ?_
        exact q_zret o rt dX10_tells_35 (by decide) h
theorem pd_X10_tells : (parseMethodDescriptor yX10_tells.desc).map (fun d => d.parameters.length) = some 2 := by decide +kernel
-- PieceSwarmModel.hasMany(I)I
theorem inn_X10_hasMany_X10 : ∀ w ∈ wsX100, w ∈ wsX10_hasMany := by decide +kernel
theorem sf_X10_hasMany_7 : SF wsX10_hasMany RX10 7 24 1 0 := ⟨RX10, TX10, 45, rfl, rfl, rfl, rfl, by decide, inn_X10_hasMany_X10, by decide +kernel⟩
theorem sf_X10_hasMany_48 : SF wsX10_hasMany RX10 48 24 20 50 := ⟨RX10, TX10, 45, rfl, rfl, rfl, rfl, by decide, inn_X10_hasMany_X10, by decide +kernel⟩
def wB_X10_hasMany_4 (post : (Int32 → St3 → Prop)) (K4 : Int32 → Int32 → Int32 → St3 → Prop) (a1 : Int32) (a2 : Int32) (a3 : Int32) (v : St3) : Prop := (((v 24 0 1) ≤ a3 → post a2 v) ∧ (¬ (v 24 0 1) ≤ a3 → ∃ n1, n1 < 288 ∧ (((24 : Int32) * a1) + a3) = nI n1 ∧ (((v 50 0 n1) = 0 → K4 a1 (a2 + (0 : Int32)) (a3 + (1 : Int32)) v) ∧ (¬ (v 50 0 n1) = 0 → K4 a1 (a2 + (1 : Int32)) (a3 + (1 : Int32)) v))))
def wL_X10_hasMany_4 (post : (Int32 → St3 → Prop)) : Nat → Int32 → Int32 → Int32 → St3 → Prop
  | 0, _, _, _, _ => False
  | f + 1, a1, a2, a3, v => wB_X10_hasMany_4 post (wL_X10_hasMany_4 post f) a1 a2 a3 v
set_option maxRecDepth 20000 in
set_option maxHeartbeats 4000000 in
theorem aL_X10_hasMany_4 {l : Launch} {G : Geo} {X : CT} (o : OK G X cX10_hasMany wsX10_hasMany RX10 0 4) {post : (Int32 → St3 → Prop)} (rt : RI G X .int post) : ∀ (f : Nat) (a1 : Int32) (a2 : Int32) (a3 : Int32) (v : St3), wL_X10_hasMany_4 post f a1 a2 a3 v → J l G X 4 [(0, .ref (gA G 24 0)), (1, .int a1), (2, .int a2), (3, .int a3)] [] v := by
  intro f
  induction f with
  | zero => intro _ _ _ _ h; exact False.elim h
  | succ f hK4 =>
  intro a1 a2 a3 v h
  have h : wB_X10_hasMany_4 post (wL_X10_hasMany_4 post f) a1 a2 a3 v := h
  unfold wB_X10_hasMany_4 at h
  refine q_iload_n o dX10_hasMany_4 rfl ?_
  refine q_aload_n o dX10_hasMany_5 rfl ?_
  refine q_getI o sf_X10_hasMany_7 (by decide) dX10_hasMany_6 ?_
  refine q_ic_ge o 40 dX10_hasMany_9 (by decide) (fun c5 => ?_) (fun c5 => ?_)
  · have h := h.1 c5
    refine q_iload_n o dX10_hasMany_40 rfl ?_
    exact q_iret o rt dX10_hasMany_41 h
  · have h := h.2 c5
    refine q_iload_n o dX10_hasMany_12 rfl ?_
    refine q_aload_n o dX10_hasMany_13 rfl ?_
    refine q_getR (q := 49) o sf_X10_hasMany_48 (by decide) dX10_hasMany_14 ?_
    refine q_bipush o dX10_hasMany_17 (x := (24 : Int32)) (by decide) ?_
    refine q_iload_n o dX10_hasMany_19 rfl ?_
    refine q_imul o dX10_hasMany_20 ?_
    refine q_iload_n o dX10_hasMany_21 rfl ?_
    refine q_iadd o dX10_hasMany_22 ?_
    obtain ⟨n1, hn2, hx3, h⟩ := h
    refine q_zald (m := 287) o rfl rfl (by decide) hn2 hx3 dX10_hasMany_23 ?_
    refine q_if_eq o 31 dX10_hasMany_24 (by decide) (fun c4 => ?_) (fun c4 => ?_)
    · have h := h.1 c4
      refine q_iconst o dX10_hasMany_31 (x := (0 : Int32)) (by decide) ?_
      refine q_iadd o dX10_hasMany_32 ?_
      refine q_istore_n o (lv' := [(2, .int (a2 + (0 : Int32))), (0, .ref (gA G 24 0)), (1, .int a1), (3, .int a3)]) dX10_hasMany_33 (by decide) rfl ?_
      refine q_iinc o (y := (a3 + (1 : Int32))) (lv' := [(3, .int (a3 + (1 : Int32))), (2, .int (a2 + (0 : Int32))), (0, .ref (gA G 24 0)), (1, .int a1)]) dX10_hasMany_34 rfl rfl (by decide) rfl ?_
      refine q_goto o 4 dX10_hasMany_37 (by decide) ?_
      refine q_lv [2, 3, 1, 0] rfl ?_
      exact hK4 a1 (a2 + (0 : Int32)) (a3 + (1 : Int32)) v h
    · have h := h.2 c4
      refine q_iconst o dX10_hasMany_27 (x := (1 : Int32)) (by decide) ?_
      refine q_goto o 32 dX10_hasMany_28 (by decide) ?_
      refine q_iadd o dX10_hasMany_32 ?_
      refine q_istore_n o (lv' := [(2, .int (a2 + (1 : Int32))), (0, .ref (gA G 24 0)), (1, .int a1), (3, .int a3)]) dX10_hasMany_33 (by decide) rfl ?_
      refine q_iinc o (y := (a3 + (1 : Int32))) (lv' := [(3, .int (a3 + (1 : Int32))), (2, .int (a2 + (1 : Int32))), (0, .ref (gA G 24 0)), (1, .int a1)]) dX10_hasMany_34 rfl rfl (by decide) rfl ?_
      refine q_goto o 4 dX10_hasMany_37 (by decide) ?_
      refine q_lv [2, 3, 1, 0] rfl ?_
      exact hK4 a1 (a2 + (1 : Int32)) (a3 + (1 : Int32)) v h
def wp_X10_hasMany (a1 : Int32) (v : St3) (post : (Int32 → St3 → Prop)) : Prop := wL_X10_hasMany_4 post FU a1 (0 : Int32) (0 : Int32) v
set_option maxRecDepth 20000 in
set_option maxHeartbeats 4000000 in
theorem ad_X10_hasMany (l : Launch) (G : Geo) (a1 : Int32) (v : St3) {post : (Int32 → St3 → Prop)} (h : wp_X10_hasMany a1 v post) : CI l G yX10_hasMany wsX10_hasMany 0 [.ref (gA G 24 0), .int a1] v post := by
  refine CI.of (ty := .int) (cc := cX10_hasMany) (maxL := 4) (by decide) rfl (Nat.le_of_ble_eq_true rfl) (fun X o rt => ?_)
  unfold wp_X10_hasMany at h
  show J l G X 0 [(0, .ref (gA G 24 0)), (1, .int a1)] [] v
  refine q_iconst o dX10_hasMany_0 (x := (0 : Int32)) (by decide) ?_
  refine q_istore_n o (lv' := [(2, .int (0 : Int32)), (0, .ref (gA G 24 0)), (1, .int a1)]) dX10_hasMany_1 (by decide) rfl ?_
  refine q_iconst o dX10_hasMany_2 (x := (0 : Int32)) (by decide) ?_
  refine q_istore_n o (lv' := [(3, .int (0 : Int32)), (2, .int (0 : Int32)), (0, .ref (gA G 24 0)), (1, .int a1)]) dX10_hasMany_3 (by decide) rfl ?_
  refine q_lv [2, 3, 1, 0] rfl ?_
  exact aL_X10_hasMany_4 o rt FU a1 (0 : Int32) (0 : Int32) v h
theorem pd_X10_hasMany : (parseMethodDescriptor yX10_hasMany.desc).map (fun d => d.parameters.length) = some 1 := by decide +kernel
-- PieceSwarmModel.isDone(I)Z
theorem inn_X10_isDone_X10 : ∀ w ∈ wsX100, w ∈ wsX10_isDone := by decide +kernel
theorem sf_X10_isDone_7 : SF wsX10_isDone RX10 7 24 1 0 := ⟨RX10, TX10, 45, rfl, rfl, rfl, rfl, by decide, inn_X10_isDone_X10, by decide +kernel⟩
def wp_X10_isDone (a1 : Int32) (v : St3) (post : (Int32 → St3 → Prop)) : Prop := wp_X10_hasMany a1 v (fun r2 v1 => ((¬ r2 = (v1 24 0 1) → post (0 : Int32) v1) ∧ (r2 = (v1 24 0 1) → post (1 : Int32) v1)))
set_option maxRecDepth 20000 in
set_option maxHeartbeats 4000000 in
theorem ad_X10_isDone (l : Launch) (G : Geo) (a1 : Int32) (v : St3) {post : (Int32 → St3 → Prop)} (h : wp_X10_isDone a1 v post) : CI l G yX10_isDone wsX10_isDone 1 [.ref (gA G 24 0), .int a1] v post := by
  refine CI.of (ty := .boolean) (cc := cX10_isDone) (maxL := 2) (by decide) rfl (Nat.le_of_ble_eq_true rfl) (fun X o rt => ?_)
  unfold wp_X10_isDone at h
  show J l G X 0 [(0, .ref (gA G 24 0)), (1, .int a1)] [] v
  refine q_aload_n o dX10_isDone_0 rfl ?_
  refine q_iload_n o dX10_isDone_1 rfl ?_
  refine q_callV o [.int a1] (ad_X10_hasMany l G a1 v h) gX10_isDone_X10_hasMany rfl rfl rfl rfl (by decide) ⟨rfl, by decide, by decide, pd_X10_hasMany⟩ (by decide) (by decide) rfl (Nat.le_of_ble_eq_true rfl) dX10_isDone_2 (fun r2 v1 h => ?_)
  refine q_aload_n o dX10_isDone_5 rfl ?_
  refine q_getI o sf_X10_isDone_7 (by decide) dX10_isDone_6 ?_
  refine q_ic_ne o 16 dX10_isDone_9 (by decide) (fun c3 => ?_) (fun c3 => ?_)
  · have h := h.1 c3
    refine q_iconst o dX10_isDone_16 (x := (0 : Int32)) (by decide) ?_
    exact q_zret o rt dX10_isDone_17 (by decide) h
  · have h := h.2 c3
    refine q_iconst o dX10_isDone_12 (x := (1 : Int32)) (by decide) ?_
    refine q_goto o 17 dX10_isDone_13 (by decide) ?_
    exact q_zret o rt dX10_isDone_17 (by decide) h
theorem pd_X10_isDone : (parseMethodDescriptor yX10_isDone.desc).map (fun d => d.parameters.length) = some 1 := by decide +kernel
-- PieceSwarmModel.heldMany(II)I
theorem inn_X10_heldMany_X10 : ∀ w ∈ wsX100, w ∈ wsX10_heldMany := by decide +kernel
theorem sf_X10_heldMany_13 : SF wsX10_heldMany RX10 13 24 2 0 := ⟨RX10, TX10, 45, rfl, rfl, rfl, rfl, by decide, inn_X10_heldMany_X10, by decide +kernel⟩
theorem sf_X10_heldMany_54 : SF wsX10_heldMany RX10 54 24 22 52 := ⟨RX10, TX10, 45, rfl, rfl, rfl, rfl, by decide, inn_X10_heldMany_X10, by decide +kernel⟩
def wB_X10_heldMany_5 (post : (Int32 → St3 → Prop)) (K5 : Int32 → Int32 → Int32 → Int32 → St3 → Prop) (a1 : Int32) (a2 : Int32) (a3 : Int32) (a4 : Int32) (v : St3) : Prop := (((v 24 0 2) ≤ a4 → post a3 v) ∧ (¬ (v 24 0 2) ≤ a4 → wp_X10_cell a1 a2 a4 v (fun r2 v1 => ∃ n3, n3 < 1152 ∧ r2 = nI n3 ∧ (((v1 52 0 n3) = 0 → K5 a1 a2 (a3 + (0 : Int32)) (a4 + (1 : Int32)) v1) ∧ (¬ (v1 52 0 n3) = 0 → K5 a1 a2 (a3 + (1 : Int32)) (a4 + (1 : Int32)) v1)))))
def wL_X10_heldMany_5 (post : (Int32 → St3 → Prop)) : Nat → Int32 → Int32 → Int32 → Int32 → St3 → Prop
  | 0, _, _, _, _, _ => False
  | f + 1, a1, a2, a3, a4, v => wB_X10_heldMany_5 post (wL_X10_heldMany_5 post f) a1 a2 a3 a4 v
set_option maxRecDepth 20000 in
set_option maxHeartbeats 4000000 in
theorem aL_X10_heldMany_5 {l : Launch} {G : Geo} {X : CT} (o : OK G X cX10_heldMany wsX10_heldMany RX10 1 5) {post : (Int32 → St3 → Prop)} (rt : RI G X .int post) : ∀ (f : Nat) (a1 : Int32) (a2 : Int32) (a3 : Int32) (a4 : Int32) (v : St3), wL_X10_heldMany_5 post f a1 a2 a3 a4 v → J l G X 5 [(0, .ref (gA G 24 0)), (1, .int a1), (2, .int a2), (3, .int a3), (4, .int a4)] [] v := by
  intro f
  induction f with
  | zero => intro _ _ _ _ _ h; exact False.elim h
  | succ f hK5 =>
  intro a1 a2 a3 a4 v h
  have h : wB_X10_heldMany_5 post (wL_X10_heldMany_5 post f) a1 a2 a3 a4 v := h
  unfold wB_X10_heldMany_5 at h
  refine q_iload o dX10_heldMany_5 rfl ?_
  refine q_aload_n o dX10_heldMany_7 rfl ?_
  refine q_getI o sf_X10_heldMany_13 (by decide) dX10_heldMany_8 ?_
  refine q_ic_ge o 43 dX10_heldMany_11 (by decide) (fun c7 => ?_) (fun c7 => ?_)
  · have h := h.1 c7
    refine q_iload_n o dX10_heldMany_43 rfl ?_
    exact q_iret o rt dX10_heldMany_44 h
  · have h := h.2 c7
    refine q_iload_n o dX10_heldMany_14 rfl ?_
    refine q_aload_n o dX10_heldMany_15 rfl ?_
    refine q_getR (q := 51) o sf_X10_heldMany_54 (by decide) dX10_heldMany_16 ?_
    refine q_iload_n o dX10_heldMany_19 rfl ?_
    refine q_iload_n o dX10_heldMany_20 rfl ?_
    refine q_iload o dX10_heldMany_21 rfl ?_
    refine q_callS o [.int a1, .int a2, .int a4] (ad_X10_cell l G a1 a2 a4 v h) gX10_heldMany_X10_cell rfl ⟨by decide, by decide, pd_X10_cell⟩ (by decide) (by decide) rfl (Nat.le_of_ble_eq_true rfl) dX10_heldMany_23 (fun r2 v1 h => ?_)
    obtain ⟨n3, hn4, hx5, h⟩ := h
    refine q_zald (m := 1151) o rfl rfl (by decide) hn4 hx5 dX10_heldMany_26 ?_
    refine q_if_eq o 34 dX10_heldMany_27 (by decide) (fun c6 => ?_) (fun c6 => ?_)
    · have h := h.1 c6
      refine q_iconst o dX10_heldMany_34 (x := (0 : Int32)) (by decide) ?_
      refine q_iadd o dX10_heldMany_35 ?_
      refine q_istore_n o (lv' := [(3, .int (a3 + (0 : Int32))), (0, .ref (gA G 24 0)), (1, .int a1), (2, .int a2), (4, .int a4)]) dX10_heldMany_36 (by decide) rfl ?_
      refine q_iinc o (y := (a4 + (1 : Int32))) (lv' := [(4, .int (a4 + (1 : Int32))), (3, .int (a3 + (0 : Int32))), (0, .ref (gA G 24 0)), (1, .int a1), (2, .int a2)]) dX10_heldMany_37 rfl rfl (by decide) rfl ?_
      refine q_goto o 5 dX10_heldMany_40 (by decide) ?_
      refine q_lv [2, 3, 4, 1, 0] rfl ?_
      exact hK5 a1 a2 (a3 + (0 : Int32)) (a4 + (1 : Int32)) v1 h
    · have h := h.2 c6
      refine q_iconst o dX10_heldMany_30 (x := (1 : Int32)) (by decide) ?_
      refine q_goto o 35 dX10_heldMany_31 (by decide) ?_
      refine q_iadd o dX10_heldMany_35 ?_
      refine q_istore_n o (lv' := [(3, .int (a3 + (1 : Int32))), (0, .ref (gA G 24 0)), (1, .int a1), (2, .int a2), (4, .int a4)]) dX10_heldMany_36 (by decide) rfl ?_
      refine q_iinc o (y := (a4 + (1 : Int32))) (lv' := [(4, .int (a4 + (1 : Int32))), (3, .int (a3 + (1 : Int32))), (0, .ref (gA G 24 0)), (1, .int a1), (2, .int a2)]) dX10_heldMany_37 rfl rfl (by decide) rfl ?_
      refine q_goto o 5 dX10_heldMany_40 (by decide) ?_
      refine q_lv [2, 3, 4, 1, 0] rfl ?_
      exact hK5 a1 a2 (a3 + (1 : Int32)) (a4 + (1 : Int32)) v1 h
def wp_X10_heldMany (a1 : Int32) (a2 : Int32) (v : St3) (post : (Int32 → St3 → Prop)) : Prop := wL_X10_heldMany_5 post FU a1 a2 (0 : Int32) (0 : Int32) v
set_option maxRecDepth 20000 in
set_option maxHeartbeats 4000000 in
theorem ad_X10_heldMany (l : Launch) (G : Geo) (a1 : Int32) (a2 : Int32) (v : St3) {post : (Int32 → St3 → Prop)} (h : wp_X10_heldMany a1 a2 v post) : CI l G yX10_heldMany wsX10_heldMany 1 [.ref (gA G 24 0), .int a1, .int a2] v post := by
  refine CI.of (ty := .int) (cc := cX10_heldMany) (maxL := 5) (by decide) rfl (Nat.le_of_ble_eq_true rfl) (fun X o rt => ?_)
  unfold wp_X10_heldMany at h
  show J l G X 0 [(0, .ref (gA G 24 0)), (1, .int a1), (2, .int a2)] [] v
  refine q_iconst o dX10_heldMany_0 (x := (0 : Int32)) (by decide) ?_
  refine q_istore_n o (lv' := [(3, .int (0 : Int32)), (0, .ref (gA G 24 0)), (1, .int a1), (2, .int a2)]) dX10_heldMany_1 (by decide) rfl ?_
  refine q_iconst o dX10_heldMany_2 (x := (0 : Int32)) (by decide) ?_
  refine q_istore o (lv' := [(4, .int (0 : Int32)), (3, .int (0 : Int32)), (0, .ref (gA G 24 0)), (1, .int a1), (2, .int a2)]) dX10_heldMany_3 (by decide) rfl ?_
  refine q_lv [2, 3, 4, 1, 0] rfl ?_
  exact aL_X10_heldMany_5 o rt FU a1 a2 (0 : Int32) (0 : Int32) v h
theorem pd_X10_heldMany : (parseMethodDescriptor yX10_heldMany.desc).map (fun d => d.parameters.length) = some 2 := by decide +kernel
-- PieceSwarmModel.peer(III)I
theorem inn_X10_peer_X10 : ∀ w ∈ wsX100, w ∈ wsX10_peer := by decide +kernel
theorem sp_X10_peer_120 : SP wsX10_peer RX10 120 24 0 := ⟨RX10, TX10, 45, tyX10, rfl, rfl, rfl, rfl, by decide, inn_X10_peer_X10, by decide +kernel, tyX10_ok, nmX10, rfl, by decide +kernel⟩
theorem sf_X10_peer_136 : SF wsX10_peer RX10 136 24 4 0 := ⟨RX10, TX10, 45, rfl, rfl, rfl, rfl, by decide, inn_X10_peer_X10, by decide +kernel⟩
theorem sp_X10_peer_136 : SP wsX10_peer RX10 136 24 4 := ⟨RX10, TX10, 45, tyX10, rfl, rfl, rfl, rfl, by decide, inn_X10_peer_X10, by decide +kernel, tyX10_ok, nmX10, rfl, by decide +kernel⟩
theorem sf_X10_peer_16 : SF wsX10_peer RX10 16 24 10 40 := ⟨RX10, TX10, 45, rfl, rfl, rfl, rfl, by decide, inn_X10_peer_X10, by decide +kernel⟩
theorem sf_X10_peer_20 : SF wsX10_peer RX10 20 24 11 41 := ⟨RX10, TX10, 45, rfl, rfl, rfl, rfl, by decide, inn_X10_peer_X10, by decide +kernel⟩
theorem sf_X10_peer_23 : SF wsX10_peer RX10 23 24 12 42 := ⟨RX10, TX10, 45, rfl, rfl, rfl, rfl, by decide, inn_X10_peer_X10, by decide +kernel⟩
theorem sf_X10_peer_26 : SF wsX10_peer RX10 26 24 13 43 := ⟨RX10, TX10, 45, rfl, rfl, rfl, rfl, by decide, inn_X10_peer_X10, by decide +kernel⟩
theorem sf_X10_peer_30 : SF wsX10_peer RX10 30 24 14 44 := ⟨RX10, TX10, 45, rfl, rfl, rfl, rfl, by decide, inn_X10_peer_X10, by decide +kernel⟩
theorem sf_X10_peer_45 : SF wsX10_peer RX10 45 24 19 49 := ⟨RX10, TX10, 45, rfl, rfl, rfl, rfl, by decide, inn_X10_peer_X10, by decide +kernel⟩
theorem sf_X10_peer_84 : SF wsX10_peer RX10 84 24 32 62 := ⟨RX10, TX10, 45, rfl, rfl, rfl, rfl, by decide, inn_X10_peer_X10, by decide +kernel⟩
theorem sf_X10_peer_87 : SF wsX10_peer RX10 87 24 33 63 := ⟨RX10, TX10, 45, rfl, rfl, rfl, rfl, by decide, inn_X10_peer_X10, by decide +kernel⟩
theorem sf_X10_peer_7 : SF wsX10_peer RX10 7 24 1 0 := ⟨RX10, TX10, 45, rfl, rfl, rfl, rfl, by decide, inn_X10_peer_X10, by decide +kernel⟩
theorem sf_X10_peer_48 : SF wsX10_peer RX10 48 24 20 50 := ⟨RX10, TX10, 45, rfl, rfl, rfl, rfl, by decide, inn_X10_peer_X10, by decide +kernel⟩
theorem sf_X10_peer_13 : SF wsX10_peer RX10 13 24 2 0 := ⟨RX10, TX10, 45, rfl, rfl, rfl, rfl, by decide, inn_X10_peer_X10, by decide +kernel⟩
theorem sf_X10_peer_54 : SF wsX10_peer RX10 54 24 22 52 := ⟨RX10, TX10, 45, rfl, rfl, rfl, rfl, by decide, inn_X10_peer_X10, by decide +kernel⟩
theorem sf_X10_peer_57 : SF wsX10_peer RX10 57 24 23 53 := ⟨RX10, TX10, 45, rfl, rfl, rfl, rfl, by decide, inn_X10_peer_X10, by decide +kernel⟩
theorem sf_X10_peer_60 : SF wsX10_peer RX10 60 24 24 54 := ⟨RX10, TX10, 45, rfl, rfl, rfl, rfl, by decide, inn_X10_peer_X10, by decide +kernel⟩
def wB_X10_peer_168 (post : (Int32 → St3 → Prop)) (K137 : Int32 → Int32 → Int32 → St3 → Prop) (K168 : Int32 → Int32 → Int32 → Int32 → St3 → Prop) (a1 : Int32) (a4 : Int32) (a5 : Int32) (a6 : Int32) (v : St3) : Prop := (((v 24 0 2) ≤ a6 → K137 a1 a4 (a5 + (1 : Int32)) v) ∧ (¬ (v 24 0 2) ≤ a6 → wp_X10_cell a4 a5 a6 v (fun r36 v35 => ∃ n37, n37 < 1152 ∧ r36 = nI n37 ∧ ∀ v40, v40 = up3 v35 52 0 n37 (1 : Int32) → wp_X10_cell a4 a5 a6 v40 (fun r43 v42 => wp_X10_valueOf a5 a6 v42 (fun r45 v44 => ∃ n46, n46 < 1152 ∧ r43 = nI n46 ∧ ∀ v49, v49 = up3 v44 53 0 n46 r45 → wp_X10_cell a4 a5 a6 v49 (fun r52 v51 => ∃ n53, n53 < 1152 ∧ r52 = nI n53 ∧ ∀ v56, v56 = up3 v51 54 0 n53 (-1 : Int32) → K168 a1 a4 a5 (a6 + (1 : Int32)) v56))))))
def wL_X10_peer_168 (post : (Int32 → St3 → Prop)) (K137 : Int32 → Int32 → Int32 → St3 → Prop) : Nat → Int32 → Int32 → Int32 → Int32 → St3 → Prop
  | 0, _, _, _, _, _ => False
  | f + 1, a1, a4, a5, a6, v => wB_X10_peer_168 post K137 (wL_X10_peer_168 post K137 f) a1 a4 a5 a6 v
set_option maxRecDepth 20000 in
set_option maxHeartbeats 4000000 in
theorem aL_X10_peer_168 {l : Launch} {G : Geo} {X : CT} (o : OK G X cX10_peer wsX10_peer RX10 1 7) {post : (Int32 → St3 → Prop)} (rt : RI G X .int post) {K137 : Int32 → Int32 → Int32 → St3 → Prop} (hK137 : ∀ (a1 : Int32) (a4 : Int32) (a5 : Int32) (v : St3), K137 a1 a4 a5 v → J l G X 137 [(0, .ref (gA G 24 0)), (1, .int a1), (4, .int a4), (5, .int a5)] [] v) : ∀ (f : Nat) (a1 : Int32) (a4 : Int32) (a5 : Int32) (a6 : Int32) (v : St3), wL_X10_peer_168 post K137 f a1 a4 a5 a6 v → J l G X 168 [(0, .ref (gA G 24 0)), (1, .int a1), (4, .int a4), (5, .int a5), (6, .int a6)] [] v := by
  intro f
  induction f with
  | zero => intro _ _ _ _ _ h; exact False.elim h
  | succ f hK168 =>
  intro a1 a4 a5 a6 v h
  have h : wB_X10_peer_168 post K137 (wL_X10_peer_168 post K137 f) a1 a4 a5 a6 v := h
  unfold wB_X10_peer_168 at h
  refine q_iload o dX10_peer_168 rfl ?_
  refine q_aload_n o dX10_peer_170 rfl ?_
  refine q_getI o sf_X10_peer_13 (by decide) dX10_peer_171 ?_
  refine q_ic_ge o 235 dX10_peer_174 (by decide) (fun c58 => ?_) (fun c58 => ?_)
  · have h := h.1 c58
    refine q_iinc o (y := (a5 + (1 : Int32))) (lv' := [(5, .int (a5 + (1 : Int32))), (0, .ref (gA G 24 0)), (1, .int a1), (4, .int a4), (6, .int a6)]) dX10_peer_235 rfl rfl (by decide) rfl ?_
    refine q_goto o 137 dX10_peer_238 (by decide) ?_
    refine q_lv [1, 2, 3, 0] rfl ?_
    exact hK137 a1 a4 (a5 + (1 : Int32)) v h
  · have h := h.2 c58
    refine q_aload_n o dX10_peer_177 rfl ?_
    refine q_getR (q := 51) o sf_X10_peer_54 (by decide) dX10_peer_178 ?_
    refine q_iload o dX10_peer_181 rfl ?_
    refine q_iload o dX10_peer_183 rfl ?_
    refine q_iload o dX10_peer_185 rfl ?_
    refine q_callS o [.int a4, .int a5, .int a6] (ad_X10_cell l G a4 a5 a6 v h) gX10_peer_X10_cell rfl ⟨by decide, by decide, pd_X10_cell⟩ (by decide) (by decide) rfl (Nat.le_of_ble_eq_true rfl) dX10_peer_187 (fun r36 v35 h => ?_)
    refine q_iconst o dX10_peer_190 (x := (1 : Int32)) (by decide) ?_
    obtain ⟨n37, hn38, hx39, h⟩ := h
    refine q_zast (m := 1151) o rfl rfl (by decide) hn38 hx39 (by decide) dX10_peer_191 (fun v40 e41 => ?_)
    have h := h v40 e41
    refine q_aload_n o dX10_peer_192 rfl ?_
    refine q_getR (q := 52) o sf_X10_peer_57 (by decide) dX10_peer_193 ?_
    refine q_iload o dX10_peer_196 rfl ?_
    refine q_iload o dX10_peer_198 rfl ?_
    refine q_iload o dX10_peer_200 rfl ?_
    refine q_callS o [.int a4, .int a5, .int a6] (ad_X10_cell l G a4 a5 a6 v40 h) gX10_peer_X10_cell rfl ⟨by decide, by decide, pd_X10_cell⟩ (by decide) (by decide) rfl (Nat.le_of_ble_eq_true rfl) dX10_peer_202 (fun r43 v42 h => ?_)
    refine q_aload_n o dX10_peer_205 rfl ?_
    refine q_iload o dX10_peer_206 rfl ?_
    refine q_iload o dX10_peer_208 rfl ?_
    refine q_callV o [.int a5, .int a6] (ad_X10_valueOf l G a5 a6 v42 h) gX10_peer_X10_valueOf rfl rfl rfl rfl (by decide) ⟨rfl, by decide, by decide, pd_X10_valueOf⟩ (by decide) (by decide) rfl (Nat.le_of_ble_eq_true rfl) dX10_peer_210 (fun r45 v44 h => ?_)
    obtain ⟨n46, hn47, hx48, h⟩ := h
    refine q_iast (m := 1151) o rfl rfl (by decide) hn47 hx48 dX10_peer_213 (fun v49 e50 => ?_)
    have h := h v49 e50
    refine q_aload_n o dX10_peer_214 rfl ?_
    refine q_getR (q := 53) o sf_X10_peer_60 (by decide) dX10_peer_215 ?_
    refine q_iload o dX10_peer_218 rfl ?_
    refine q_iload o dX10_peer_220 rfl ?_
    refine q_iload o dX10_peer_222 rfl ?_
    refine q_callS o [.int a4, .int a5, .int a6] (ad_X10_cell l G a4 a5 a6 v49 h) gX10_peer_X10_cell rfl ⟨by decide, by decide, pd_X10_cell⟩ (by decide) (by decide) rfl (Nat.le_of_ble_eq_true rfl) dX10_peer_224 (fun r52 v51 h => ?_)
    refine q_iconst o dX10_peer_227 (x := (-1 : Int32)) (by decide) ?_
    obtain ⟨n53, hn54, hx55, h⟩ := h
    refine q_iast (m := 1151) o rfl rfl (by decide) hn54 hx55 dX10_peer_228 (fun v56 e57 => ?_)
    have h := h v56 e57
    refine q_iinc o (y := (a6 + (1 : Int32))) (lv' := [(6, .int (a6 + (1 : Int32))), (0, .ref (gA G 24 0)), (1, .int a1), (4, .int a4), (5, .int a5)]) dX10_peer_229 rfl rfl (by decide) rfl ?_
    refine q_goto o 168 dX10_peer_232 (by decide) ?_
    refine q_lv [1, 2, 3, 4, 0] rfl ?_
    exact hK168 a1 a4 a5 (a6 + (1 : Int32)) v56 h
def wB_X10_peer_137 (post : (Int32 → St3 → Prop)) (K137 : Int32 → Int32 → Int32 → St3 → Prop) (a1 : Int32) (a4 : Int32) (a5 : Int32) (v : St3) : Prop := (((v 24 0 1) ≤ a5 → post a4 v) ∧ (¬ (v 24 0 1) ≤ a5 → ((¬ a1 = (1 : Int32) → post a4 v) ∧ (a1 = (1 : Int32) → ∃ n30, n30 < 288 ∧ (((24 : Int32) * a4) + a5) = nI n30 ∧ ∀ v33, v33 = up3 v 50 0 n30 (1 : Int32) → wL_X10_peer_168 post K137 FU a1 a4 a5 (0 : Int32) v33))))
def wL_X10_peer_137 (post : (Int32 → St3 → Prop)) : Nat → Int32 → Int32 → Int32 → St3 → Prop
  | 0, _, _, _, _ => False
  | f + 1, a1, a4, a5, v => wB_X10_peer_137 post (wL_X10_peer_137 post f) a1 a4 a5 v
set_option maxRecDepth 20000 in
set_option maxHeartbeats 4000000 in
theorem aL_X10_peer_137 {l : Launch} {G : Geo} {X : CT} (o : OK G X cX10_peer wsX10_peer RX10 1 7) {post : (Int32 → St3 → Prop)} (rt : RI G X .int post) : ∀ (f : Nat) (a1 : Int32) (a4 : Int32) (a5 : Int32) (v : St3), wL_X10_peer_137 post f a1 a4 a5 v → J l G X 137 [(0, .ref (gA G 24 0)), (1, .int a1), (4, .int a4), (5, .int a5)] [] v := by
  intro f
  induction f with
  | zero => intro _ _ _ _ h; exact False.elim h
  | succ f hK137 =>
  intro a1 a4 a5 v h
  have h : wB_X10_peer_137 post (wL_X10_peer_137 post f) a1 a4 a5 v := h
  unfold wB_X10_peer_137 at h
  refine q_iload o dX10_peer_137 rfl ?_
  refine q_aload_n o dX10_peer_139 rfl ?_
  refine q_getI o sf_X10_peer_7 (by decide) dX10_peer_140 ?_
  refine q_ic_ge o 241 dX10_peer_143 (by decide) (fun c60 => ?_) (fun c60 => ?_)
  · have h := h.1 c60
    refine q_iload o dX10_peer_241 rfl ?_
    exact q_iret o rt dX10_peer_243 h
  · have h := h.2 c60
    refine q_iload_n o dX10_peer_146 rfl ?_
    refine q_iconst o dX10_peer_147 (x := (1 : Int32)) (by decide) ?_
    refine q_ic_ne o 241 dX10_peer_148 (by decide) (fun c59 => ?_) (fun c59 => ?_)
    · have h := h.1 c59
      refine q_iload o dX10_peer_241 rfl ?_
      exact q_iret o rt dX10_peer_243 h
    · have h := h.2 c59
      refine q_aload_n o dX10_peer_151 rfl ?_
      refine q_getR (q := 49) o sf_X10_peer_48 (by decide) dX10_peer_152 ?_
      refine q_bipush o dX10_peer_155 (x := (24 : Int32)) (by decide) ?_
      refine q_iload o dX10_peer_157 rfl ?_
      refine q_imul o dX10_peer_159 ?_
      refine q_iload o dX10_peer_160 rfl ?_
      refine q_iadd o dX10_peer_162 ?_
      refine q_iconst o dX10_peer_163 (x := (1 : Int32)) (by decide) ?_
      obtain ⟨n30, hn31, hx32, h⟩ := h
      refine q_zast (m := 287) o rfl rfl (by decide) hn31 hx32 (by decide) dX10_peer_164 (fun v33 e34 => ?_)
      have h := h v33 e34
      refine q_iconst o dX10_peer_165 (x := (0 : Int32)) (by decide) ?_
      refine q_istore o (lv' := [(6, .int (0 : Int32)), (0, .ref (gA G 24 0)), (1, .int a1), (4, .int a4), (5, .int a5)]) dX10_peer_166 (by decide) rfl ?_
      refine q_lv [1, 2, 3, 4, 0] rfl ?_
      exact aL_X10_peer_168 o rt hK137 FU a1 a4 a5 (0 : Int32) v33 h
def wp_X10_peer (a1 : Int32) (a2 : Int32) (a3 : Int32) (v : St3) (post : (Int32 → St3 → Prop)) : Prop := ∀ v1, v1 = up3 v 24 0 0 (0 : Int32) → (((v1 24 0 4) = (12 : Int32) → post (-1 : Int32) v1) ∧ (¬ (v1 24 0 4) = (12 : Int32) → wp_X10_in a1 (0 : Int32) (5 : Int32) v1 (fun r4 v3 => ((r4 = 0 → post (-1 : Int32) v3) ∧ (¬ r4 = 0 → wp_X10_in a2 (1 : Int32) (8 : Int32) v3 (fun r6 v5 => ((r6 = 0 → post (-1 : Int32) v5) ∧ (¬ r6 = 0 → wp_X10_in a3 (1 : Int32) (8 : Int32) v5 (fun r8 v7 => ((¬ r8 = 0 → ∀ v9, v9 = up3 v7 24 0 4 ((v7 24 0 4) + (1 : Int32)) → ∃ n11, n11 < 12 ∧ (v7 24 0 4) = nI n11 ∧ ∀ v14, v14 = up3 v9 40 0 n11 a1 → ∀ v16, v16 = up3 v14 41 0 n11 a2 → ∀ v18, v18 = up3 v16 42 0 n11 a3 → ∀ v20, v20 = up3 v18 43 0 n11 (1 : Int32) → ∀ v22, v22 = up3 v20 44 0 n11 (2 : Int32) → ((¬ a1 = (1 : Int32) → ∀ v24, v24 = up3 v22 49 0 n11 (-1 : Int32) → ∀ v26, v26 = up3 v24 62 0 n11 (-1 : Int32) → ∀ v28, v28 = up3 v26 63 0 n11 (-1 : Int32) → wL_X10_peer_137 post FU a1 (v7 24 0 4) (0 : Int32) v28) ∧ (a1 = (1 : Int32) → ∀ v61, v61 = up3 v22 49 0 n11 (0 : Int32) → ∀ v63, v63 = up3 v61 62 0 n11 (-1 : Int32) → ∀ v65, v65 = up3 v63 63 0 n11 (-1 : Int32) → wL_X10_peer_137 post FU a1 (v7 24 0 4) (0 : Int32) v65))) ∧ (r8 = 0 → post (-1 : Int32) v7)))))))))))
set_option maxRecDepth 20000 in
set_option maxHeartbeats 4000000 in
theorem ad_X10_peer (l : Launch) (G : Geo) (a1 : Int32) (a2 : Int32) (a3 : Int32) (v : St3) {post : (Int32 → St3 → Prop)} (h : wp_X10_peer a1 a2 a3 v post) : CI l G yX10_peer wsX10_peer 1 [.ref (gA G 24 0), .int a1, .int a2, .int a3] v post := by
  refine CI.of (ty := .int) (cc := cX10_peer) (maxL := 7) (by decide) rfl (Nat.le_of_ble_eq_true rfl) (fun X o rt => ?_)
  unfold wp_X10_peer at h
  show J l G X 0 [(0, .ref (gA G 24 0)), (1, .int a1), (2, .int a2), (3, .int a3)] [] v
  refine q_aload_n o dX10_peer_0 rfl ?_
  refine q_iconst o dX10_peer_1 (x := (0 : Int32)) (by decide) ?_
  refine q_putI o sp_X10_peer_120 (by decide) dX10_peer_2 (fun v1 e2 => ?_)
  have h := h v1 e2
  refine q_aload_n o dX10_peer_5 rfl ?_
  refine q_getI o sf_X10_peer_136 (by decide) dX10_peer_6 ?_
  refine q_bipush o dX10_peer_9 (x := (12 : Int32)) (by decide) ?_
  refine q_ic_eq o 43 dX10_peer_11 (by decide) (fun c71 => ?_) (fun c71 => ?_)
  · have h := h.1 c71
    refine q_iconst o dX10_peer_43 (x := (-1 : Int32)) (by decide) ?_
    exact q_iret o rt dX10_peer_44 h
  · have h := h.2 c71
    refine q_iload_n o dX10_peer_14 rfl ?_
    refine q_iconst o dX10_peer_15 (x := (0 : Int32)) (by decide) ?_
    refine q_iconst o dX10_peer_16 (x := (5 : Int32)) (by decide) ?_
    refine q_callS o [.int a1, .int (0 : Int32), .int (5 : Int32)] (ad_X10_in l G a1 (0 : Int32) (5 : Int32) v1 h) gX10_peer_X10_in rfl ⟨by decide, by decide, pd_X10_in⟩ (by decide) (by decide) rfl (Nat.le_of_ble_eq_true rfl) dX10_peer_17 (fun r4 v3 h => ?_)
    refine q_if_eq o 43 dX10_peer_20 (by decide) (fun c70 => ?_) (fun c70 => ?_)
    · have h := h.1 c70
      refine q_iconst o dX10_peer_43 (x := (-1 : Int32)) (by decide) ?_
      exact q_iret o rt dX10_peer_44 h
    · have h := h.2 c70
      refine q_iload_n o dX10_peer_23 rfl ?_
      refine q_iconst o dX10_peer_24 (x := (1 : Int32)) (by decide) ?_
      refine q_bipush o dX10_peer_25 (x := (8 : Int32)) (by decide) ?_
      refine q_callS o [.int a2, .int (1 : Int32), .int (8 : Int32)] (ad_X10_in l G a2 (1 : Int32) (8 : Int32) v3 h) gX10_peer_X10_in rfl ⟨by decide, by decide, pd_X10_in⟩ (by decide) (by decide) rfl (Nat.le_of_ble_eq_true rfl) dX10_peer_27 (fun r6 v5 h => ?_)
      refine q_if_eq o 43 dX10_peer_30 (by decide) (fun c69 => ?_) (fun c69 => ?_)
      · have h := h.1 c69
        refine q_iconst o dX10_peer_43 (x := (-1 : Int32)) (by decide) ?_
        exact q_iret o rt dX10_peer_44 h
      · have h := h.2 c69
        refine q_iload_n o dX10_peer_33 rfl ?_
        refine q_iconst o dX10_peer_34 (x := (1 : Int32)) (by decide) ?_
        refine q_bipush o dX10_peer_35 (x := (8 : Int32)) (by decide) ?_
        refine q_callS o [.int a3, .int (1 : Int32), .int (8 : Int32)] (ad_X10_in l G a3 (1 : Int32) (8 : Int32) v5 h) gX10_peer_X10_in rfl ⟨by decide, by decide, pd_X10_in⟩ (by decide) (by decide) rfl (Nat.le_of_ble_eq_true rfl) dX10_peer_37 (fun r8 v7 h => ?_)
        refine q_if_ne o 45 dX10_peer_40 (by decide) (fun c68 => ?_) (fun c68 => ?_)
        · have h := h.1 c68
          refine q_aload_n o dX10_peer_45 rfl ?_
          refine q_getI o sf_X10_peer_136 (by decide) dX10_peer_46 ?_
          refine q_istore o (lv' := [(4, .int (v7 24 0 4)), (0, .ref (gA G 24 0)), (1, .int a1), (2, .int a2), (3, .int a3)]) dX10_peer_49 (by decide) rfl ?_
          refine q_aload_n o dX10_peer_51 rfl ?_
          refine q_dup o dX10_peer_52 rfl ?_
          refine q_getI o sf_X10_peer_136 (by decide) dX10_peer_53 ?_
          refine q_iconst o dX10_peer_56 (x := (1 : Int32)) (by decide) ?_
          refine q_iadd o dX10_peer_57 ?_
          refine q_putI o sp_X10_peer_136 (by decide) dX10_peer_58 (fun v9 e10 => ?_)
          have h := h v9 e10
          refine q_aload_n o dX10_peer_61 rfl ?_
          refine q_getR (q := 39) o sf_X10_peer_16 (by decide) dX10_peer_62 ?_
          refine q_iload o dX10_peer_65 rfl ?_
          refine q_iload_n o dX10_peer_67 rfl ?_
          obtain ⟨n11, hn12, hx13, h⟩ := h
          refine q_iast (m := 11) o rfl rfl (by decide) hn12 hx13 dX10_peer_68 (fun v14 e15 => ?_)
          have h := h v14 e15
          refine q_aload_n o dX10_peer_69 rfl ?_
          refine q_getR (q := 40) o sf_X10_peer_20 (by decide) dX10_peer_70 ?_
          refine q_iload o dX10_peer_73 rfl ?_
          refine q_iload_n o dX10_peer_75 rfl ?_
          refine q_iast (m := 11) o rfl rfl (by decide) hn12 hx13 dX10_peer_76 (fun v16 e17 => ?_)
          have h := h v16 e17
          refine q_aload_n o dX10_peer_77 rfl ?_
          refine q_getR (q := 41) o sf_X10_peer_23 (by decide) dX10_peer_78 ?_
          refine q_iload o dX10_peer_81 rfl ?_
          refine q_iload_n o dX10_peer_83 rfl ?_
          refine q_iast (m := 11) o rfl rfl (by decide) hn12 hx13 dX10_peer_84 (fun v18 e19 => ?_)
          have h := h v18 e19
          refine q_aload_n o dX10_peer_85 rfl ?_
          refine q_getR (q := 42) o sf_X10_peer_26 (by decide) dX10_peer_86 ?_
          refine q_iload o dX10_peer_89 rfl ?_
          refine q_iconst o dX10_peer_91 (x := (1 : Int32)) (by decide) ?_
          refine q_zast (m := 11) o rfl rfl (by decide) hn12 hx13 (by decide) dX10_peer_92 (fun v20 e21 => ?_)
          have h := h v20 e21
          refine q_aload_n o dX10_peer_93 rfl ?_
          refine q_getR (q := 43) o sf_X10_peer_30 (by decide) dX10_peer_94 ?_
          refine q_iload o dX10_peer_97 rfl ?_
          refine q_iconst o dX10_peer_99 (x := (2 : Int32)) (by decide) ?_
          refine q_iast (m := 11) o rfl rfl (by decide) hn12 hx13 dX10_peer_100 (fun v22 e23 => ?_)
          have h := h v22 e23
          refine q_aload_n o dX10_peer_101 rfl ?_
          refine q_getR (q := 48) o sf_X10_peer_45 (by decide) dX10_peer_102 ?_
          refine q_iload o dX10_peer_105 rfl ?_
          refine q_iload_n o dX10_peer_107 rfl ?_
          refine q_iconst o dX10_peer_108 (x := (1 : Int32)) (by decide) ?_
          refine q_ic_ne o 116 dX10_peer_109 (by decide) (fun c67 => ?_) (fun c67 => ?_)
          · have h := h.1 c67
            refine q_iconst o dX10_peer_116 (x := (-1 : Int32)) (by decide) ?_
            refine q_iast (m := 11) o rfl rfl (by decide) hn12 hx13 dX10_peer_117 (fun v24 e25 => ?_)
            have h := h v24 e25
            refine q_aload_n o dX10_peer_118 rfl ?_
            refine q_getR (q := 61) o sf_X10_peer_84 (by decide) dX10_peer_119 ?_
            refine q_iload o dX10_peer_122 rfl ?_
            refine q_iconst o dX10_peer_124 (x := (-1 : Int32)) (by decide) ?_
            refine q_iast (m := 11) o rfl rfl (by decide) hn12 hx13 dX10_peer_125 (fun v26 e27 => ?_)
            have h := h v26 e27
            refine q_aload_n o dX10_peer_126 rfl ?_
            refine q_getR (q := 62) o sf_X10_peer_87 (by decide) dX10_peer_127 ?_
            refine q_iload o dX10_peer_130 rfl ?_
            refine q_iconst o dX10_peer_132 (x := (-1 : Int32)) (by decide) ?_
            refine q_iast (m := 11) o rfl rfl (by decide) hn12 hx13 dX10_peer_133 (fun v28 e29 => ?_)
            have h := h v28 e29
            refine q_iconst o dX10_peer_134 (x := (0 : Int32)) (by decide) ?_
            refine q_istore o (lv' := [(5, .int (0 : Int32)), (4, .int (v7 24 0 4)), (0, .ref (gA G 24 0)), (1, .int a1), (2, .int a2), (3, .int a3)]) dX10_peer_135 (by decide) rfl ?_
            refine q_lv [2, 3, 1, 0] rfl ?_
            exact aL_X10_peer_137 o rt FU a1 (v7 24 0 4) (0 : Int32) v28 h
          · have h := h.2 c67
            refine q_iconst o dX10_peer_112 (x := (0 : Int32)) (by decide) ?_
            refine q_goto o 117 dX10_peer_113 (by decide) ?_
            refine q_iast (m := 11) o rfl rfl (by decide) hn12 hx13 dX10_peer_117 (fun v61 e62 => ?_)
            have h := h v61 e62
            refine q_aload_n o dX10_peer_118 rfl ?_
            refine q_getR (q := 61) o sf_X10_peer_84 (by decide) dX10_peer_119 ?_
            refine q_iload o dX10_peer_122 rfl ?_
            refine q_iconst o dX10_peer_124 (x := (-1 : Int32)) (by decide) ?_
            refine q_iast (m := 11) o rfl rfl (by decide) hn12 hx13 dX10_peer_125 (fun v63 e64 => ?_)
            have h := h v63 e64
            refine q_aload_n o dX10_peer_126 rfl ?_
            refine q_getR (q := 62) o sf_X10_peer_87 (by decide) dX10_peer_127 ?_
            refine q_iload o dX10_peer_130 rfl ?_
            refine q_iconst o dX10_peer_132 (x := (-1 : Int32)) (by decide) ?_
            refine q_iast (m := 11) o rfl rfl (by decide) hn12 hx13 dX10_peer_133 (fun v65 e66 => ?_)
            have h := h v65 e66
            refine q_iconst o dX10_peer_134 (x := (0 : Int32)) (by decide) ?_
            refine q_istore o (lv' := [(5, .int (0 : Int32)), (4, .int (v7 24 0 4)), (0, .ref (gA G 24 0)), (1, .int a1), (2, .int a2), (3, .int a3)]) dX10_peer_135 (by decide) rfl ?_
            refine q_lv [2, 3, 1, 0] rfl ?_
            exact aL_X10_peer_137 o rt FU a1 (v7 24 0 4) (0 : Int32) v65 h
        · have h := h.2 c68
          refine q_iconst o dX10_peer_43 (x := (-1 : Int32)) (by decide) ?_
          exact q_iret o rt dX10_peer_44 h
theorem pd_X10_peer : (parseMethodDescriptor yX10_peer.desc).map (fun d => d.parameters.length) = some 3 := by decide +kernel
-- PieceSwarmModel.keep(II)V
theorem inn_X10_keep_X10 : ∀ w ∈ wsX100, w ∈ wsX10_keep := by decide +kernel
theorem sf_X10_keep_90 : SF wsX10_keep RX10 90 24 35 65 := ⟨RX10, TX10, 45, rfl, rfl, rfl, rfl, by decide, inn_X10_keep_X10, by decide +kernel⟩
theorem sf_X10_keep_93 : SF wsX10_keep RX10 93 24 36 66 := ⟨RX10, TX10, 45, rfl, rfl, rfl, rfl, by decide, inn_X10_keep_X10, by decide +kernel⟩
theorem sf_X10_keep_96 : SF wsX10_keep RX10 96 24 37 67 := ⟨RX10, TX10, 45, rfl, rfl, rfl, rfl, by decide, inn_X10_keep_X10, by decide +kernel⟩
theorem sf_X10_keep_99 : SF wsX10_keep RX10 99 24 38 68 := ⟨RX10, TX10, 45, rfl, rfl, rfl, rfl, by decide, inn_X10_keep_X10, by decide +kernel⟩
theorem sf_X10_keep_102 : SF wsX10_keep RX10 102 24 39 69 := ⟨RX10, TX10, 45, rfl, rfl, rfl, rfl, by decide, inn_X10_keep_X10, by decide +kernel⟩
theorem sf_X10_keep_105 : SF wsX10_keep RX10 105 24 40 70 := ⟨RX10, TX10, 45, rfl, rfl, rfl, rfl, by decide, inn_X10_keep_X10, by decide +kernel⟩
theorem sf_X10_keep_108 : SF wsX10_keep RX10 108 24 41 71 := ⟨RX10, TX10, 45, rfl, rfl, rfl, rfl, by decide, inn_X10_keep_X10, by decide +kernel⟩
def wp_X10_keep (a1 : Int32) (a2 : Int32) (v : St3) (post : (St3 → Prop)) : Prop := ∃ n1, n1 < 400 ∧ a2 = nI n1 ∧ ∃ n4, n4 < 400 ∧ a1 = nI n4 ∧ ∀ v7, v7 = up3 v 65 0 n4 (v 65 0 n1) → ∀ v9, v9 = up3 v7 66 0 n4 (v7 66 0 n1) → ∀ v11, v11 = up3 v9 67 0 n4 (v9 67 0 n1) → ∀ v13, v13 = up3 v11 68 0 n4 (v11 68 0 n1) → ∀ v15, v15 = up3 v13 69 0 n4 (v13 69 0 n1) → ∀ v17, v17 = up3 v15 70 0 n4 (v15 70 0 n1) → ((v17 71 0 n1) = 0 ∨ (v17 71 0 n1) = 1) ∧ ∀ v19, v19 = up3 v17 71 0 n4 (v17 71 0 n1) → post v19
set_option maxRecDepth 20000 in
set_option maxHeartbeats 4000000 in
theorem ad_X10_keep (l : Launch) (G : Geo) (a1 : Int32) (a2 : Int32) (v : St3) {post : (St3 → Prop)} (h : wp_X10_keep a1 a2 v post) : CV l G yX10_keep wsX10_keep 0 [.ref (gA G 24 0), .int a1, .int a2] v post := by
  refine CV.of (cc := cX10_keep) (maxL := 3) (by decide) rfl (Nat.le_of_ble_eq_true rfl) (fun X o rt => ?_)
  unfold wp_X10_keep at h
  show J l G X 0 [(0, .ref (gA G 24 0)), (1, .int a1), (2, .int a2)] [] v
  refine q_aload_n o dX10_keep_0 rfl ?_
  refine q_getR (q := 64) o sf_X10_keep_90 (by decide) dX10_keep_1 ?_
  refine q_iload_n o dX10_keep_4 rfl ?_
  refine q_aload_n o dX10_keep_5 rfl ?_
  refine q_getR (q := 64) o sf_X10_keep_90 (by decide) dX10_keep_6 ?_
  refine q_iload_n o dX10_keep_9 rfl ?_
  obtain ⟨n1, hn2, hx3, h⟩ := h
  refine q_iald (m := 399) o rfl rfl (by decide) hn2 hx3 dX10_keep_10 ?_
  obtain ⟨n4, hn5, hx6, h⟩ := h
  refine q_iast (m := 399) o rfl rfl (by decide) hn5 hx6 dX10_keep_11 (fun v7 e8 => ?_)
  have h := h v7 e8
  refine q_aload_n o dX10_keep_12 rfl ?_
  refine q_getR (q := 65) o sf_X10_keep_93 (by decide) dX10_keep_13 ?_
  refine q_iload_n o dX10_keep_16 rfl ?_
  refine q_aload_n o dX10_keep_17 rfl ?_
  refine q_getR (q := 65) o sf_X10_keep_93 (by decide) dX10_keep_18 ?_
  refine q_iload_n o dX10_keep_21 rfl ?_
  refine q_iald (m := 399) o rfl rfl (by decide) hn2 hx3 dX10_keep_22 ?_
  refine q_iast (m := 399) o rfl rfl (by decide) hn5 hx6 dX10_keep_23 (fun v9 e10 => ?_)
  have h := h v9 e10
  refine q_aload_n o dX10_keep_24 rfl ?_
  refine q_getR (q := 66) o sf_X10_keep_96 (by decide) dX10_keep_25 ?_
  refine q_iload_n o dX10_keep_28 rfl ?_
  refine q_aload_n o dX10_keep_29 rfl ?_
  refine q_getR (q := 66) o sf_X10_keep_96 (by decide) dX10_keep_30 ?_
  refine q_iload_n o dX10_keep_33 rfl ?_
  refine q_iald (m := 399) o rfl rfl (by decide) hn2 hx3 dX10_keep_34 ?_
  refine q_iast (m := 399) o rfl rfl (by decide) hn5 hx6 dX10_keep_35 (fun v11 e12 => ?_)
  have h := h v11 e12
  refine q_aload_n o dX10_keep_36 rfl ?_
  refine q_getR (q := 67) o sf_X10_keep_99 (by decide) dX10_keep_37 ?_
  refine q_iload_n o dX10_keep_40 rfl ?_
  refine q_aload_n o dX10_keep_41 rfl ?_
  refine q_getR (q := 67) o sf_X10_keep_99 (by decide) dX10_keep_42 ?_
  refine q_iload_n o dX10_keep_45 rfl ?_
  refine q_iald (m := 399) o rfl rfl (by decide) hn2 hx3 dX10_keep_46 ?_
  refine q_iast (m := 399) o rfl rfl (by decide) hn5 hx6 dX10_keep_47 (fun v13 e14 => ?_)
  have h := h v13 e14
  refine q_aload_n o dX10_keep_48 rfl ?_
  refine q_getR (q := 68) o sf_X10_keep_102 (by decide) dX10_keep_49 ?_
  refine q_iload_n o dX10_keep_52 rfl ?_
  refine q_aload_n o dX10_keep_53 rfl ?_
  refine q_getR (q := 68) o sf_X10_keep_102 (by decide) dX10_keep_54 ?_
  refine q_iload_n o dX10_keep_57 rfl ?_
  refine q_iald (m := 399) o rfl rfl (by decide) hn2 hx3 dX10_keep_58 ?_
  refine q_iast (m := 399) o rfl rfl (by decide) hn5 hx6 dX10_keep_59 (fun v15 e16 => ?_)
  have h := h v15 e16
  refine q_aload_n o dX10_keep_60 rfl ?_
  refine q_getR (q := 69) o sf_X10_keep_105 (by decide) dX10_keep_61 ?_
  refine q_iload_n o dX10_keep_64 rfl ?_
  refine q_aload_n o dX10_keep_65 rfl ?_
  refine q_getR (q := 69) o sf_X10_keep_105 (by decide) dX10_keep_66 ?_
  refine q_iload_n o dX10_keep_69 rfl ?_
  refine q_iald (m := 399) o rfl rfl (by decide) hn2 hx3 dX10_keep_70 ?_
  refine q_iast (m := 399) o rfl rfl (by decide) hn5 hx6 dX10_keep_71 (fun v17 e18 => ?_)
  have h := h v17 e18
  refine q_aload_n o dX10_keep_72 rfl ?_
  refine q_getR (q := 70) o sf_X10_keep_108 (by decide) dX10_keep_73 ?_
  refine q_iload_n o dX10_keep_76 rfl ?_
  refine q_aload_n o dX10_keep_77 rfl ?_
  refine q_getR (q := 70) o sf_X10_keep_108 (by decide) dX10_keep_78 ?_
  refine q_iload_n o dX10_keep_81 rfl ?_
  refine q_zald (m := 399) o rfl rfl (by decide) hn2 hx3 dX10_keep_82 ?_
  obtain ⟨hz21, h⟩ := h
  refine q_zast (m := 399) o rfl rfl (by decide) hn5 hx6 hz21 dX10_keep_83 (fun v19 e20 => ?_)
  have h := h v19 e20
  exact q_vret o rt dX10_keep_84 h
theorem pd_X10_keep : (parseMethodDescriptor yX10_keep.desc).map (fun d => d.parameters.length) = some 2 := by decide +kernel
-- PieceSwarmModel.dropPiece(II)V
theorem inn_X10_dropPiece_X10 : ∀ w ∈ wsX100, w ∈ wsX10_dropPiece := by decide +kernel
theorem sf_X10_dropPiece_13 : SF wsX10_dropPiece RX10 13 24 2 0 := ⟨RX10, TX10, 45, rfl, rfl, rfl, rfl, by decide, inn_X10_dropPiece_X10, by decide +kernel⟩
theorem sf_X10_dropPiece_54 : SF wsX10_dropPiece RX10 54 24 22 52 := ⟨RX10, TX10, 45, rfl, rfl, rfl, rfl, by decide, inn_X10_dropPiece_X10, by decide +kernel⟩
def wB_X10_dropPiece_2 (post : (St3 → Prop)) (K2 : Int32 → Int32 → Int32 → St3 → Prop) (a1 : Int32) (a2 : Int32) (a3 : Int32) (v : St3) : Prop := (((v 24 0 2) ≤ a3 → post v) ∧ (¬ (v 24 0 2) ≤ a3 → wp_X10_cell a1 a2 a3 v (fun r2 v1 => ∃ n3, n3 < 1152 ∧ r2 = nI n3 ∧ ∀ v6, v6 = up3 v1 52 0 n3 (0 : Int32) → K2 a1 a2 (a3 + (1 : Int32)) v6)))
def wL_X10_dropPiece_2 (post : (St3 → Prop)) : Nat → Int32 → Int32 → Int32 → St3 → Prop
  | 0, _, _, _, _ => False
  | f + 1, a1, a2, a3, v => wB_X10_dropPiece_2 post (wL_X10_dropPiece_2 post f) a1 a2 a3 v
set_option maxRecDepth 20000 in
set_option maxHeartbeats 4000000 in
theorem aL_X10_dropPiece_2 {l : Launch} {G : Geo} {X : CT} (o : OK G X cX10_dropPiece wsX10_dropPiece RX10 1 4) {post : (St3 → Prop)} (rt : RV G X post) : ∀ (f : Nat) (a1 : Int32) (a2 : Int32) (a3 : Int32) (v : St3), wL_X10_dropPiece_2 post f a1 a2 a3 v → J l G X 2 [(0, .ref (gA G 24 0)), (1, .int a1), (2, .int a2), (3, .int a3)] [] v := by
  intro f
  induction f with
  | zero => intro _ _ _ _ h; exact False.elim h
  | succ f hK2 =>
  intro a1 a2 a3 v h
  have h : wB_X10_dropPiece_2 post (wL_X10_dropPiece_2 post f) a1 a2 a3 v := h
  unfold wB_X10_dropPiece_2 at h
  refine q_iload_n o dX10_dropPiece_2 rfl ?_
  refine q_aload_n o dX10_dropPiece_3 rfl ?_
  refine q_getI o sf_X10_dropPiece_13 (by decide) dX10_dropPiece_4 ?_
  refine q_ic_ge o 28 dX10_dropPiece_7 (by decide) (fun c8 => ?_) (fun c8 => ?_)
  · have h := h.1 c8
    exact q_vret o rt dX10_dropPiece_28 h
  · have h := h.2 c8
    refine q_aload_n o dX10_dropPiece_10 rfl ?_
    refine q_getR (q := 51) o sf_X10_dropPiece_54 (by decide) dX10_dropPiece_11 ?_
    refine q_iload_n o dX10_dropPiece_14 rfl ?_
    refine q_iload_n o dX10_dropPiece_15 rfl ?_
    refine q_iload_n o dX10_dropPiece_16 rfl ?_
    refine q_callS o [.int a1, .int a2, .int a3] (ad_X10_cell l G a1 a2 a3 v h) gX10_dropPiece_X10_cell rfl ⟨by decide, by decide, pd_X10_cell⟩ (by decide) (by decide) rfl (Nat.le_of_ble_eq_true rfl) dX10_dropPiece_17 (fun r2 v1 h => ?_)
    refine q_iconst o dX10_dropPiece_20 (x := (0 : Int32)) (by decide) ?_
    obtain ⟨n3, hn4, hx5, h⟩ := h
    refine q_zast (m := 1151) o rfl rfl (by decide) hn4 hx5 (by decide) dX10_dropPiece_21 (fun v6 e7 => ?_)
    have h := h v6 e7
    refine q_iinc o (y := (a3 + (1 : Int32))) (lv' := [(3, .int (a3 + (1 : Int32))), (0, .ref (gA G 24 0)), (1, .int a1), (2, .int a2)]) dX10_dropPiece_22 rfl rfl (by decide) rfl ?_
    refine q_goto o 2 dX10_dropPiece_25 (by decide) ?_
    refine q_lv [1, 2, 3, 0] rfl ?_
    exact hK2 a1 a2 (a3 + (1 : Int32)) v6 h
def wp_X10_dropPiece (a1 : Int32) (a2 : Int32) (v : St3) (post : (St3 → Prop)) : Prop := wL_X10_dropPiece_2 post FU a1 a2 (0 : Int32) v
set_option maxRecDepth 20000 in
set_option maxHeartbeats 4000000 in
theorem ad_X10_dropPiece (l : Launch) (G : Geo) (a1 : Int32) (a2 : Int32) (v : St3) {post : (St3 → Prop)} (h : wp_X10_dropPiece a1 a2 v post) : CV l G yX10_dropPiece wsX10_dropPiece 1 [.ref (gA G 24 0), .int a1, .int a2] v post := by
  refine CV.of (cc := cX10_dropPiece) (maxL := 4) (by decide) rfl (Nat.le_of_ble_eq_true rfl) (fun X o rt => ?_)
  unfold wp_X10_dropPiece at h
  show J l G X 0 [(0, .ref (gA G 24 0)), (1, .int a1), (2, .int a2)] [] v
  refine q_iconst o dX10_dropPiece_0 (x := (0 : Int32)) (by decide) ?_
  refine q_istore_n o (lv' := [(3, .int (0 : Int32)), (0, .ref (gA G 24 0)), (1, .int a1), (2, .int a2)]) dX10_dropPiece_1 (by decide) rfl ?_
  refine q_lv [1, 2, 3, 0] rfl ?_
  exact aL_X10_dropPiece_2 o rt FU a1 a2 (0 : Int32) v h
theorem pd_X10_dropPiece : (parseMethodDescriptor yX10_dropPiece.desc).map (fun d => d.parameters.length) = some 2 := by decide +kernel
-- PieceSwarmModel.isSpare(IIII)Z
theorem inn_X10_isSpare_X10 : ∀ w ∈ wsX100, w ∈ wsX10_isSpare := by decide +kernel
theorem sf_X10_isSpare_48 : SF wsX10_isSpare RX10 48 24 20 50 := ⟨RX10, TX10, 45, rfl, rfl, rfl, rfl, by decide, inn_X10_isSpare_X10, by decide +kernel⟩
theorem sf_X10_isSpare_54 : SF wsX10_isSpare RX10 54 24 22 52 := ⟨RX10, TX10, 45, rfl, rfl, rfl, rfl, by decide, inn_X10_isSpare_X10, by decide +kernel⟩
theorem sf_X10_isSpare_13 : SF wsX10_isSpare RX10 13 24 2 0 := ⟨RX10, TX10, 45, rfl, rfl, rfl, rfl, by decide, inn_X10_isSpare_X10, by decide +kernel⟩
theorem sf_X10_isSpare_51 : SF wsX10_isSpare RX10 51 24 21 51 := ⟨RX10, TX10, 45, rfl, rfl, rfl, rfl, by decide, inn_X10_isSpare_X10, by decide +kernel⟩
theorem sf_X10_isSpare_60 : SF wsX10_isSpare RX10 60 24 24 54 := ⟨RX10, TX10, 45, rfl, rfl, rfl, rfl, by decide, inn_X10_isSpare_X10, by decide +kernel⟩
def wB_X10_isSpare_34 (post : (Int32 → St3 → Prop)) (K34 : Int32 → Int32 → Int32 → Int32 → St3 → Prop) (a1 : Int32) (a2 : Int32) (a3 : Int32) (a5 : Int32) (v : St3) : Prop := (((v 24 0 2) ≤ a5 → post (0 : Int32) v) ∧ (¬ (v 24 0 2) ≤ a5 → ∃ n9, n9 < 288 ∧ (((24 : Int32) * a1) + a3) = nI n9 ∧ (((v 51 0 n9) = 0 → post (0 : Int32) v) ∧ (¬ (v 51 0 n9) = 0 → wp_X10_cell a1 a3 a5 v (fun r13 v12 => ∃ n14, n14 < 1152 ∧ r13 = nI n14 ∧ (((v12 52 0 n14) = 0 → K34 a1 a2 a3 (a5 + (1 : Int32)) v12) ∧ (¬ (v12 52 0 n14) = 0 → wp_X10_cell a1 a3 a5 v12 (fun r18 v17 => ∃ n19, n19 < 1152 ∧ r18 = nI n19 ∧ (((v17 54 0 n19) = a2 → K34 a1 a2 a3 (a5 + (1 : Int32)) v17) ∧ (¬ (v17 54 0 n19) = a2 → post (1 : Int32) v17))))))))))
def wL_X10_isSpare_34 (post : (Int32 → St3 → Prop)) : Nat → Int32 → Int32 → Int32 → Int32 → St3 → Prop
  | 0, _, _, _, _, _ => False
  | f + 1, a1, a2, a3, a5, v => wB_X10_isSpare_34 post (wL_X10_isSpare_34 post f) a1 a2 a3 a5 v
set_option maxRecDepth 20000 in
set_option maxHeartbeats 4000000 in
theorem aL_X10_isSpare_34 {l : Launch} {G : Geo} {X : CT} (o : OK G X cX10_isSpare wsX10_isSpare RX10 1 6) {post : (Int32 → St3 → Prop)} (rt : RI G X .boolean post) : ∀ (f : Nat) (a1 : Int32) (a2 : Int32) (a3 : Int32) (a5 : Int32) (v : St3), wL_X10_isSpare_34 post f a1 a2 a3 a5 v → J l G X 34 [(0, .ref (gA G 24 0)), (1, .int a1), (2, .int a2), (3, .int a3), (5, .int a5)] [] v := by
  intro f
  induction f with
  | zero => intro _ _ _ _ _ h; exact False.elim h
  | succ f hK34 =>
  intro a1 a2 a3 a5 v h
  have h : wB_X10_isSpare_34 post (wL_X10_isSpare_34 post f) a1 a2 a3 a5 v := h
  unfold wB_X10_isSpare_34 at h
  refine q_iload o dX10_isSpare_34 rfl ?_
  refine q_aload_n o dX10_isSpare_36 rfl ?_
  refine q_getI o sf_X10_isSpare_13 (by decide) dX10_isSpare_37 ?_
  refine q_ic_ge o 96 dX10_isSpare_40 (by decide) (fun c25 => ?_) (fun c25 => ?_)
  · have h := h.1 c25
    refine q_iconst o dX10_isSpare_96 (x := (0 : Int32)) (by decide) ?_
    exact q_zret o rt dX10_isSpare_97 (by decide) h
  · have h := h.2 c25
    refine q_aload_n o dX10_isSpare_43 rfl ?_
    refine q_getR (q := 50) o sf_X10_isSpare_51 (by decide) dX10_isSpare_44 ?_
    refine q_bipush o dX10_isSpare_47 (x := (24 : Int32)) (by decide) ?_
    refine q_iload_n o dX10_isSpare_49 rfl ?_
    refine q_imul o dX10_isSpare_50 ?_
    refine q_iload_n o dX10_isSpare_51 rfl ?_
    refine q_iadd o dX10_isSpare_52 ?_
    obtain ⟨n9, hn10, hx11, h⟩ := h
    refine q_zald (m := 287) o rfl rfl (by decide) hn10 hx11 dX10_isSpare_53 ?_
    refine q_if_eq o 96 dX10_isSpare_54 (by decide) (fun c24 => ?_) (fun c24 => ?_)
    · have h := h.1 c24
      refine q_iconst o dX10_isSpare_96 (x := (0 : Int32)) (by decide) ?_
      exact q_zret o rt dX10_isSpare_97 (by decide) h
    · have h := h.2 c24
      refine q_aload_n o dX10_isSpare_57 rfl ?_
      refine q_getR (q := 51) o sf_X10_isSpare_54 (by decide) dX10_isSpare_58 ?_
      refine q_iload_n o dX10_isSpare_61 rfl ?_
      refine q_iload_n o dX10_isSpare_62 rfl ?_
      refine q_iload o dX10_isSpare_63 rfl ?_
      refine q_callS o [.int a1, .int a3, .int a5] (ad_X10_cell l G a1 a3 a5 v h) gX10_isSpare_X10_cell rfl ⟨by decide, by decide, pd_X10_cell⟩ (by decide) (by decide) rfl (Nat.le_of_ble_eq_true rfl) dX10_isSpare_65 (fun r13 v12 h => ?_)
      obtain ⟨n14, hn15, hx16, h⟩ := h
      refine q_zald (m := 1151) o rfl rfl (by decide) hn15 hx16 dX10_isSpare_68 ?_
      refine q_if_eq o 90 dX10_isSpare_69 (by decide) (fun c23 => ?_) (fun c23 => ?_)
      · have h := h.1 c23
        refine q_iinc o (y := (a5 + (1 : Int32))) (lv' := [(5, .int (a5 + (1 : Int32))), (0, .ref (gA G 24 0)), (1, .int a1), (2, .int a2), (3, .int a3)]) dX10_isSpare_90 rfl rfl (by decide) rfl ?_
        refine q_goto o 34 dX10_isSpare_93 (by decide) ?_
        refine q_lv [1, 2, 3, 4, 0] rfl ?_
        exact hK34 a1 a2 a3 (a5 + (1 : Int32)) v12 h
      · have h := h.2 c23
        refine q_aload_n o dX10_isSpare_72 rfl ?_
        refine q_getR (q := 53) o sf_X10_isSpare_60 (by decide) dX10_isSpare_73 ?_
        refine q_iload_n o dX10_isSpare_76 rfl ?_
        refine q_iload_n o dX10_isSpare_77 rfl ?_
        refine q_iload o dX10_isSpare_78 rfl ?_
        refine q_callS o [.int a1, .int a3, .int a5] (ad_X10_cell l G a1 a3 a5 v12 h) gX10_isSpare_X10_cell rfl ⟨by decide, by decide, pd_X10_cell⟩ (by decide) (by decide) rfl (Nat.le_of_ble_eq_true rfl) dX10_isSpare_80 (fun r18 v17 h => ?_)
        obtain ⟨n19, hn20, hx21, h⟩ := h
        refine q_iald (m := 1151) o rfl rfl (by decide) hn20 hx21 dX10_isSpare_83 ?_
        refine q_iload_n o dX10_isSpare_84 rfl ?_
        refine q_ic_eq o 90 dX10_isSpare_85 (by decide) (fun c22 => ?_) (fun c22 => ?_)
        · have h := h.1 c22
          refine q_iinc o (y := (a5 + (1 : Int32))) (lv' := [(5, .int (a5 + (1 : Int32))), (0, .ref (gA G 24 0)), (1, .int a1), (2, .int a2), (3, .int a3)]) dX10_isSpare_90 rfl rfl (by decide) rfl ?_
          refine q_goto o 34 dX10_isSpare_93 (by decide) ?_
          refine q_lv [1, 2, 3, 4, 0] rfl ?_
          exact hK34 a1 a2 a3 (a5 + (1 : Int32)) v17 h
        · have h := h.2 c22
          refine q_iconst o dX10_isSpare_88 (x := (1 : Int32)) (by decide) ?_
          exact q_zret o rt dX10_isSpare_89 (by decide) h
def wp_X10_isSpare (a1 : Int32) (a2 : Int32) (a3 : Int32) (a4 : Int32) (v : St3) (post : (Int32 → St3 → Prop)) : Prop := ∃ n1, n1 < 288 ∧ (((24 : Int32) * a1) + a3) = nI n1 ∧ ((¬ (v 50 0 n1) = 0 → post (1 : Int32) v) ∧ ((v 50 0 n1) = 0 → wp_X10_cell a1 a3 a4 v (fun r5 v4 => ∃ n6, n6 < 1152 ∧ r5 = nI n6 ∧ (((v4 52 0 n6) = 0 → wL_X10_isSpare_34 post FU a1 a2 a3 (0 : Int32) v4) ∧ (¬ (v4 52 0 n6) = 0 → post (1 : Int32) v4)))))
set_option maxRecDepth 20000 in
set_option maxHeartbeats 4000000 in
theorem ad_X10_isSpare (l : Launch) (G : Geo) (a1 : Int32) (a2 : Int32) (a3 : Int32) (a4 : Int32) (v : St3) {post : (Int32 → St3 → Prop)} (h : wp_X10_isSpare a1 a2 a3 a4 v post) : CI l G yX10_isSpare wsX10_isSpare 1 [.ref (gA G 24 0), .int a1, .int a2, .int a3, .int a4] v post := by
  refine CI.of (ty := .boolean) (cc := cX10_isSpare) (maxL := 6) (by decide) rfl (Nat.le_of_ble_eq_true rfl) (fun X o rt => ?_)
  unfold wp_X10_isSpare at h
  show J l G X 0 [(0, .ref (gA G 24 0)), (1, .int a1), (2, .int a2), (3, .int a3), (4, .int a4)] [] v
  refine q_aload_n o dX10_isSpare_0 rfl ?_
  refine q_getR (q := 49) o sf_X10_isSpare_48 (by decide) dX10_isSpare_1 ?_
  refine q_bipush o dX10_isSpare_4 (x := (24 : Int32)) (by decide) ?_
  refine q_iload_n o dX10_isSpare_6 rfl ?_
  refine q_imul o dX10_isSpare_7 ?_
  refine q_iload_n o dX10_isSpare_8 rfl ?_
  refine q_iadd o dX10_isSpare_9 ?_
  obtain ⟨n1, hn2, hx3, h⟩ := h
  refine q_zald (m := 287) o rfl rfl (by decide) hn2 hx3 dX10_isSpare_10 ?_
  refine q_if_ne o 29 dX10_isSpare_11 (by decide) (fun c27 => ?_) (fun c27 => ?_)
  · have h := h.1 c27
    refine q_iconst o dX10_isSpare_29 (x := (1 : Int32)) (by decide) ?_
    exact q_zret o rt dX10_isSpare_30 (by decide) h
  · have h := h.2 c27
    refine q_aload_n o dX10_isSpare_14 rfl ?_
    refine q_getR (q := 51) o sf_X10_isSpare_54 (by decide) dX10_isSpare_15 ?_
    refine q_iload_n o dX10_isSpare_18 rfl ?_
    refine q_iload_n o dX10_isSpare_19 rfl ?_
    refine q_iload o dX10_isSpare_20 rfl ?_
    refine q_callS o [.int a1, .int a3, .int a4] (ad_X10_cell l G a1 a3 a4 v h) gX10_isSpare_X10_cell rfl ⟨by decide, by decide, pd_X10_cell⟩ (by decide) (by decide) rfl (Nat.le_of_ble_eq_true rfl) dX10_isSpare_22 (fun r5 v4 h => ?_)
    obtain ⟨n6, hn7, hx8, h⟩ := h
    refine q_zald (m := 1151) o rfl rfl (by decide) hn7 hx8 dX10_isSpare_25 ?_
    refine q_if_eq o 31 dX10_isSpare_26 (by decide) (fun c26 => ?_) (fun c26 => ?_)
    · have h := h.1 c26
      refine q_iconst o dX10_isSpare_31 (x := (0 : Int32)) (by decide) ?_
      refine q_istore o (lv' := [(5, .int (0 : Int32)), (0, .ref (gA G 24 0)), (1, .int a1), (2, .int a2), (3, .int a3), (4, .int a4)]) dX10_isSpare_32 (by decide) rfl ?_
      refine q_lv [1, 2, 3, 4, 0] rfl ?_
      exact aL_X10_isSpare_34 o rt FU a1 a2 a3 (0 : Int32) v4 h
    · have h := h.2 c26
      refine q_iconst o dX10_isSpare_29 (x := (1 : Int32)) (by decide) ?_
      exact q_zret o rt dX10_isSpare_30 (by decide) h
theorem pd_X10_isSpare : (parseMethodDescriptor yX10_isSpare.desc).map (fun d => d.parameters.length) = some 4 := by decide +kernel
-- PieceSwarmModel.coming(III)I
theorem inn_X10_coming_X10 : ∀ w ∈ wsX100, w ∈ wsX10_coming := by decide +kernel
theorem sf_X10_coming_170 : SF wsX10_coming RX10 170 24 34 0 := ⟨RX10, TX10, 45, rfl, rfl, rfl, rfl, by decide, inn_X10_coming_X10, by decide +kernel⟩
theorem sf_X10_coming_90 : SF wsX10_coming RX10 90 24 35 65 := ⟨RX10, TX10, 45, rfl, rfl, rfl, rfl, by decide, inn_X10_coming_X10, by decide +kernel⟩
theorem sf_X10_coming_96 : SF wsX10_coming RX10 96 24 37 67 := ⟨RX10, TX10, 45, rfl, rfl, rfl, rfl, by decide, inn_X10_coming_X10, by decide +kernel⟩
theorem sf_X10_coming_99 : SF wsX10_coming RX10 99 24 38 68 := ⟨RX10, TX10, 45, rfl, rfl, rfl, rfl, by decide, inn_X10_coming_X10, by decide +kernel⟩
def wB_X10_coming_6 (post : (Int32 → St3 → Prop)) (K6 : Int32 → Int32 → Int32 → Int32 → Int32 → St3 → Prop) (a1 : Int32) (a2 : Int32) (a3 : Int32) (a4 : Int32) (a5 : Int32) (v : St3) : Prop := (((v 24 0 34) ≤ a5 → post a4 v) ∧ (¬ (v 24 0 34) ≤ a5 → ∃ n1, n1 < 400 ∧ a5 = nI n1 ∧ ((¬ (v 65 0 n1) = a1 → K6 a1 a2 a3 (a4 + (0 : Int32)) (a5 + (1 : Int32)) v) ∧ ((v 65 0 n1) = a1 → ((¬ (v 67 0 n1) = a2 → K6 a1 a2 a3 (a4 + (0 : Int32)) (a5 + (1 : Int32)) v) ∧ ((v 67 0 n1) = a2 → ((¬ (v 68 0 n1) = a3 → K6 a1 a2 a3 (a4 + (0 : Int32)) (a5 + (1 : Int32)) v) ∧ ((v 68 0 n1) = a3 → K6 a1 a2 a3 (a4 + (1 : Int32)) (a5 + (1 : Int32)) v))))))))
def wL_X10_coming_6 (post : (Int32 → St3 → Prop)) : Nat → Int32 → Int32 → Int32 → Int32 → Int32 → St3 → Prop
  | 0, _, _, _, _, _, _ => False
  | f + 1, a1, a2, a3, a4, a5, v => wB_X10_coming_6 post (wL_X10_coming_6 post f) a1 a2 a3 a4 a5 v
set_option maxRecDepth 20000 in
set_option maxHeartbeats 4000000 in
theorem aL_X10_coming_6 {l : Launch} {G : Geo} {X : CT} (o : OK G X cX10_coming wsX10_coming RX10 0 6) {post : (Int32 → St3 → Prop)} (rt : RI G X .int post) : ∀ (f : Nat) (a1 : Int32) (a2 : Int32) (a3 : Int32) (a4 : Int32) (a5 : Int32) (v : St3), wL_X10_coming_6 post f a1 a2 a3 a4 a5 v → J l G X 6 [(0, .ref (gA G 24 0)), (1, .int a1), (2, .int a2), (3, .int a3), (4, .int a4), (5, .int a5)] [] v := by
  intro f
  induction f with
  | zero => intro _ _ _ _ _ _ h; exact False.elim h
  | succ f hK6 =>
  intro a1 a2 a3 a4 a5 v h
  have h : wB_X10_coming_6 post (wL_X10_coming_6 post f) a1 a2 a3 a4 a5 v := h
  unfold wB_X10_coming_6 at h
  refine q_iload o dX10_coming_6 rfl ?_
  refine q_aload_n o dX10_coming_8 rfl ?_
  refine q_getI o sf_X10_coming_170 (by decide) dX10_coming_9 ?_
  refine q_ic_ge o 64 dX10_coming_12 (by decide) (fun c7 => ?_) (fun c7 => ?_)
  · have h := h.1 c7
    refine q_iload o dX10_coming_64 rfl ?_
    exact q_iret o rt dX10_coming_66 h
  · have h := h.2 c7
    refine q_iload o dX10_coming_15 rfl ?_
    refine q_aload_n o dX10_coming_17 rfl ?_
    refine q_getR (q := 64) o sf_X10_coming_90 (by decide) dX10_coming_18 ?_
    refine q_iload o dX10_coming_21 rfl ?_
    obtain ⟨n1, hn2, hx3, h⟩ := h
    refine q_iald (m := 399) o rfl rfl (by decide) hn2 hx3 dX10_coming_23 ?_
    refine q_iload_n o dX10_coming_24 rfl ?_
    refine q_ic_ne o 54 dX10_coming_25 (by decide) (fun c6 => ?_) (fun c6 => ?_)
    · have h := h.1 c6
      refine q_iconst o dX10_coming_54 (x := (0 : Int32)) (by decide) ?_
      refine q_iadd o dX10_coming_55 ?_
      refine q_istore o (lv' := [(4, .int (a4 + (0 : Int32))), (0, .ref (gA G 24 0)), (1, .int a1), (2, .int a2), (3, .int a3), (5, .int a5)]) dX10_coming_56 (by decide) rfl ?_
      refine q_iinc o (y := (a5 + (1 : Int32))) (lv' := [(5, .int (a5 + (1 : Int32))), (4, .int (a4 + (0 : Int32))), (0, .ref (gA G 24 0)), (1, .int a1), (2, .int a2), (3, .int a3)]) dX10_coming_58 rfl rfl (by decide) rfl ?_
      refine q_goto o 6 dX10_coming_61 (by decide) ?_
      refine q_lv [2, 3, 4, 5, 1, 0] rfl ?_
      exact hK6 a1 a2 a3 (a4 + (0 : Int32)) (a5 + (1 : Int32)) v h
    · have h := h.2 c6
      refine q_aload_n o dX10_coming_28 rfl ?_
      refine q_getR (q := 66) o sf_X10_coming_96 (by decide) dX10_coming_29 ?_
      refine q_iload o dX10_coming_32 rfl ?_
      refine q_iald (m := 399) o rfl rfl (by decide) hn2 hx3 dX10_coming_34 ?_
      refine q_iload_n o dX10_coming_35 rfl ?_
      refine q_ic_ne o 54 dX10_coming_36 (by decide) (fun c5 => ?_) (fun c5 => ?_)
      · have h := h.1 c5
        refine q_iconst o dX10_coming_54 (x := (0 : Int32)) (by decide) ?_
        refine q_iadd o dX10_coming_55 ?_
        refine q_istore o (lv' := [(4, .int (a4 + (0 : Int32))), (0, .ref (gA G 24 0)), (1, .int a1), (2, .int a2), (3, .int a3), (5, .int a5)]) dX10_coming_56 (by decide) rfl ?_
        refine q_iinc o (y := (a5 + (1 : Int32))) (lv' := [(5, .int (a5 + (1 : Int32))), (4, .int (a4 + (0 : Int32))), (0, .ref (gA G 24 0)), (1, .int a1), (2, .int a2), (3, .int a3)]) dX10_coming_58 rfl rfl (by decide) rfl ?_
        refine q_goto o 6 dX10_coming_61 (by decide) ?_
        refine q_lv [2, 3, 4, 5, 1, 0] rfl ?_
        exact hK6 a1 a2 a3 (a4 + (0 : Int32)) (a5 + (1 : Int32)) v h
      · have h := h.2 c5
        refine q_aload_n o dX10_coming_39 rfl ?_
        refine q_getR (q := 67) o sf_X10_coming_99 (by decide) dX10_coming_40 ?_
        refine q_iload o dX10_coming_43 rfl ?_
        refine q_iald (m := 399) o rfl rfl (by decide) hn2 hx3 dX10_coming_45 ?_
        refine q_iload_n o dX10_coming_46 rfl ?_
        refine q_ic_ne o 54 dX10_coming_47 (by decide) (fun c4 => ?_) (fun c4 => ?_)
        · have h := h.1 c4
          refine q_iconst o dX10_coming_54 (x := (0 : Int32)) (by decide) ?_
          refine q_iadd o dX10_coming_55 ?_
          refine q_istore o (lv' := [(4, .int (a4 + (0 : Int32))), (0, .ref (gA G 24 0)), (1, .int a1), (2, .int a2), (3, .int a3), (5, .int a5)]) dX10_coming_56 (by decide) rfl ?_
          refine q_iinc o (y := (a5 + (1 : Int32))) (lv' := [(5, .int (a5 + (1 : Int32))), (4, .int (a4 + (0 : Int32))), (0, .ref (gA G 24 0)), (1, .int a1), (2, .int a2), (3, .int a3)]) dX10_coming_58 rfl rfl (by decide) rfl ?_
          refine q_goto o 6 dX10_coming_61 (by decide) ?_
          refine q_lv [2, 3, 4, 5, 1, 0] rfl ?_
          exact hK6 a1 a2 a3 (a4 + (0 : Int32)) (a5 + (1 : Int32)) v h
        · have h := h.2 c4
          refine q_iconst o dX10_coming_50 (x := (1 : Int32)) (by decide) ?_
          refine q_goto o 55 dX10_coming_51 (by decide) ?_
          refine q_iadd o dX10_coming_55 ?_
          refine q_istore o (lv' := [(4, .int (a4 + (1 : Int32))), (0, .ref (gA G 24 0)), (1, .int a1), (2, .int a2), (3, .int a3), (5, .int a5)]) dX10_coming_56 (by decide) rfl ?_
          refine q_iinc o (y := (a5 + (1 : Int32))) (lv' := [(5, .int (a5 + (1 : Int32))), (4, .int (a4 + (1 : Int32))), (0, .ref (gA G 24 0)), (1, .int a1), (2, .int a2), (3, .int a3)]) dX10_coming_58 rfl rfl (by decide) rfl ?_
          refine q_goto o 6 dX10_coming_61 (by decide) ?_
          refine q_lv [2, 3, 4, 5, 1, 0] rfl ?_
          exact hK6 a1 a2 a3 (a4 + (1 : Int32)) (a5 + (1 : Int32)) v h
def wp_X10_coming (a1 : Int32) (a2 : Int32) (a3 : Int32) (v : St3) (post : (Int32 → St3 → Prop)) : Prop := wL_X10_coming_6 post FU a1 a2 a3 (0 : Int32) (0 : Int32) v
set_option maxRecDepth 20000 in
set_option maxHeartbeats 4000000 in
theorem ad_X10_coming (l : Launch) (G : Geo) (a1 : Int32) (a2 : Int32) (a3 : Int32) (v : St3) {post : (Int32 → St3 → Prop)} (h : wp_X10_coming a1 a2 a3 v post) : CI l G yX10_coming wsX10_coming 0 [.ref (gA G 24 0), .int a1, .int a2, .int a3] v post := by
  refine CI.of (ty := .int) (cc := cX10_coming) (maxL := 6) (by decide) rfl (Nat.le_of_ble_eq_true rfl) (fun X o rt => ?_)
  unfold wp_X10_coming at h
  show J l G X 0 [(0, .ref (gA G 24 0)), (1, .int a1), (2, .int a2), (3, .int a3)] [] v
  refine q_iconst o dX10_coming_0 (x := (0 : Int32)) (by decide) ?_
  refine q_istore o (lv' := [(4, .int (0 : Int32)), (0, .ref (gA G 24 0)), (1, .int a1), (2, .int a2), (3, .int a3)]) dX10_coming_1 (by decide) rfl ?_
  refine q_iconst o dX10_coming_3 (x := (0 : Int32)) (by decide) ?_
  refine q_istore o (lv' := [(5, .int (0 : Int32)), (4, .int (0 : Int32)), (0, .ref (gA G 24 0)), (1, .int a1), (2, .int a2), (3, .int a3)]) dX10_coming_4 (by decide) rfl ?_
  refine q_lv [2, 3, 4, 5, 1, 0] rfl ?_
  exact aL_X10_coming_6 o rt FU a1 a2 a3 (0 : Int32) (0 : Int32) v h
theorem pd_X10_coming : (parseMethodDescriptor yX10_coming.desc).map (fun d => d.parameters.length) = some 3 := by decide +kernel
-- PieceSwarmModel.bound(IIZ)I
theorem inn_X10_bound_X10 : ∀ w ∈ wsX100, w ∈ wsX10_bound := by decide +kernel
theorem sf_X10_bound_51 : SF wsX10_bound RX10 51 24 21 51 := ⟨RX10, TX10, 45, rfl, rfl, rfl, rfl, by decide, inn_X10_bound_X10, by decide +kernel⟩
theorem sf_X10_bound_13 : SF wsX10_bound RX10 13 24 2 0 := ⟨RX10, TX10, 45, rfl, rfl, rfl, rfl, by decide, inn_X10_bound_X10, by decide +kernel⟩
theorem sf_X10_bound_170 : SF wsX10_bound RX10 170 24 34 0 := ⟨RX10, TX10, 45, rfl, rfl, rfl, rfl, by decide, inn_X10_bound_X10, by decide +kernel⟩
theorem sf_X10_bound_90 : SF wsX10_bound RX10 90 24 35 65 := ⟨RX10, TX10, 45, rfl, rfl, rfl, rfl, by decide, inn_X10_bound_X10, by decide +kernel⟩
theorem sf_X10_bound_96 : SF wsX10_bound RX10 96 24 37 67 := ⟨RX10, TX10, 45, rfl, rfl, rfl, rfl, by decide, inn_X10_bound_X10, by decide +kernel⟩
theorem sf_X10_bound_93 : SF wsX10_bound RX10 93 24 36 66 := ⟨RX10, TX10, 45, rfl, rfl, rfl, rfl, by decide, inn_X10_bound_X10, by decide +kernel⟩
theorem sf_X10_bound_54 : SF wsX10_bound RX10 54 24 22 52 := ⟨RX10, TX10, 45, rfl, rfl, rfl, rfl, by decide, inn_X10_bound_X10, by decide +kernel⟩
theorem sf_X10_bound_60 : SF wsX10_bound RX10 60 24 24 54 := ⟨RX10, TX10, 45, rfl, rfl, rfl, rfl, by decide, inn_X10_bound_X10, by decide +kernel⟩
def wB_X10_bound_65 (post : (Int32 → St3 → Prop)) (K65 : Int32 → Int32 → Int32 → St3 → Prop) (a1 : Int32) (a2 : Int32) (a4 : Int32) (v : St3) : Prop := (((v 24 0 34) ≤ a4 → post (-1 : Int32) v) ∧ (¬ (v 24 0 34) ≤ a4 → ∃ n4, n4 < 400 ∧ a4 = nI n4 ∧ ((¬ (v 65 0 n4) = a1 → K65 a1 a2 (a4 + (1 : Int32)) v) ∧ ((v 65 0 n4) = a1 → ((¬ (v 67 0 n4) = a2 → K65 a1 a2 (a4 + (1 : Int32)) v) ∧ ((v 67 0 n4) = a2 → post (v 66 0 n4) v))))))
def wL_X10_bound_65 (post : (Int32 → St3 → Prop)) : Nat → Int32 → Int32 → Int32 → St3 → Prop
  | 0, _, _, _, _ => False
  | f + 1, a1, a2, a4, v => wB_X10_bound_65 post (wL_X10_bound_65 post f) a1 a2 a4 v
set_option maxRecDepth 20000 in
set_option maxHeartbeats 4000000 in
theorem aL_X10_bound_65 {l : Launch} {G : Geo} {X : CT} (o : OK G X cX10_bound wsX10_bound RX10 1 5) {post : (Int32 → St3 → Prop)} (rt : RI G X .int post) : ∀ (f : Nat) (a1 : Int32) (a2 : Int32) (a4 : Int32) (v : St3), wL_X10_bound_65 post f a1 a2 a4 v → J l G X 65 [(0, .ref (gA G 24 0)), (1, .int a1), (2, .int a2), (4, .int a4)] [] v := by
  intro f
  induction f with
  | zero => intro _ _ _ _ h; exact False.elim h
  | succ f hK65 =>
  intro a1 a2 a4 v h
  have h : wB_X10_bound_65 post (wL_X10_bound_65 post f) a1 a2 a4 v := h
  unfold wB_X10_bound_65 at h
  refine q_iload o dX10_bound_65 rfl ?_
  refine q_aload_n o dX10_bound_67 rfl ?_
  refine q_getI o sf_X10_bound_170 (by decide) dX10_bound_68 ?_
  refine q_ic_ge o 110 dX10_bound_71 (by decide) (fun c9 => ?_) (fun c9 => ?_)
  · have h := h.1 c9
    refine q_iconst o dX10_bound_110 (x := (-1 : Int32)) (by decide) ?_
    exact q_iret o rt dX10_bound_111 h
  · have h := h.2 c9
    refine q_aload_n o dX10_bound_74 rfl ?_
    refine q_getR (q := 64) o sf_X10_bound_90 (by decide) dX10_bound_75 ?_
    refine q_iload o dX10_bound_78 rfl ?_
    obtain ⟨n4, hn5, hx6, h⟩ := h
    refine q_iald (m := 399) o rfl rfl (by decide) hn5 hx6 dX10_bound_80 ?_
    refine q_iload_n o dX10_bound_81 rfl ?_
    refine q_ic_ne o 104 dX10_bound_82 (by decide) (fun c8 => ?_) (fun c8 => ?_)
    · have h := h.1 c8
      refine q_iinc o (y := (a4 + (1 : Int32))) (lv' := [(4, .int (a4 + (1 : Int32))), (0, .ref (gA G 24 0)), (1, .int a1), (2, .int a2)]) dX10_bound_104 rfl rfl (by decide) rfl ?_
      refine q_goto o 65 dX10_bound_107 (by decide) ?_
      refine q_lv [1, 2, 3, 0] rfl ?_
      exact hK65 a1 a2 (a4 + (1 : Int32)) v h
    · have h := h.2 c8
      refine q_aload_n o dX10_bound_85 rfl ?_
      refine q_getR (q := 66) o sf_X10_bound_96 (by decide) dX10_bound_86 ?_
      refine q_iload o dX10_bound_89 rfl ?_
      refine q_iald (m := 399) o rfl rfl (by decide) hn5 hx6 dX10_bound_91 ?_
      refine q_iload_n o dX10_bound_92 rfl ?_
      refine q_ic_ne o 104 dX10_bound_93 (by decide) (fun c7 => ?_) (fun c7 => ?_)
      · have h := h.1 c7
        refine q_iinc o (y := (a4 + (1 : Int32))) (lv' := [(4, .int (a4 + (1 : Int32))), (0, .ref (gA G 24 0)), (1, .int a1), (2, .int a2)]) dX10_bound_104 rfl rfl (by decide) rfl ?_
        refine q_goto o 65 dX10_bound_107 (by decide) ?_
        refine q_lv [1, 2, 3, 0] rfl ?_
        exact hK65 a1 a2 (a4 + (1 : Int32)) v h
      · have h := h.2 c7
        refine q_aload_n o dX10_bound_96 rfl ?_
        refine q_getR (q := 65) o sf_X10_bound_93 (by decide) dX10_bound_97 ?_
        refine q_iload o dX10_bound_100 rfl ?_
        refine q_iald (m := 399) o rfl rfl (by decide) hn5 hx6 dX10_bound_102 ?_
        exact q_iret o rt dX10_bound_103 h
def wB_X10_bound_19 (post : (Int32 → St3 → Prop)) (K19 : Int32 → Int32 → Int32 → St3 → Prop) (a1 : Int32) (a2 : Int32) (a4 : Int32) (v : St3) : Prop := (((v 24 0 2) ≤ a4 → wL_X10_bound_65 post FU a1 a2 (0 : Int32) v) ∧ (¬ (v 24 0 2) ≤ a4 → wp_X10_cell a1 a2 a4 v (fun r11 v10 => ∃ n12, n12 < 1152 ∧ r11 = nI n12 ∧ (((v10 52 0 n12) = 0 → K19 a1 a2 (a4 + (1 : Int32)) v10) ∧ (¬ (v10 52 0 n12) = 0 → wp_X10_cell a1 a2 a4 v10 (fun r16 v15 => ∃ n17, n17 < 1152 ∧ r16 = nI n17 ∧ post (v15 54 0 n17) v15))))))
def wL_X10_bound_19 (post : (Int32 → St3 → Prop)) : Nat → Int32 → Int32 → Int32 → St3 → Prop
  | 0, _, _, _, _ => False
  | f + 1, a1, a2, a4, v => wB_X10_bound_19 post (wL_X10_bound_19 post f) a1 a2 a4 v
set_option maxRecDepth 20000 in
set_option maxHeartbeats 4000000 in
theorem aL_X10_bound_19 {l : Launch} {G : Geo} {X : CT} (o : OK G X cX10_bound wsX10_bound RX10 1 5) {post : (Int32 → St3 → Prop)} (rt : RI G X .int post) : ∀ (f : Nat) (a1 : Int32) (a2 : Int32) (a4 : Int32) (v : St3), wL_X10_bound_19 post f a1 a2 a4 v → J l G X 19 [(0, .ref (gA G 24 0)), (1, .int a1), (2, .int a2), (4, .int a4)] [] v := by
  intro f
  induction f with
  | zero => intro _ _ _ _ h; exact False.elim h
  | succ f hK19 =>
  intro a1 a2 a4 v h
  have h : wB_X10_bound_19 post (wL_X10_bound_19 post f) a1 a2 a4 v := h
  unfold wB_X10_bound_19 at h
  refine q_iload o dX10_bound_19 rfl ?_
  refine q_aload_n o dX10_bound_21 rfl ?_
  refine q_getI o sf_X10_bound_13 (by decide) dX10_bound_22 ?_
  refine q_ic_ge o 62 dX10_bound_25 (by decide) (fun c21 => ?_) (fun c21 => ?_)
  · have h := h.1 c21
    refine q_iconst o dX10_bound_62 (x := (0 : Int32)) (by decide) ?_
    refine q_istore o (lv' := [(4, .int (0 : Int32)), (0, .ref (gA G 24 0)), (1, .int a1), (2, .int a2)]) dX10_bound_63 (by decide) rfl ?_
    refine q_lv [1, 2, 3, 0] rfl ?_
    exact aL_X10_bound_65 o rt FU a1 a2 (0 : Int32) v h
  · have h := h.2 c21
    refine q_aload_n o dX10_bound_28 rfl ?_
    refine q_getR (q := 51) o sf_X10_bound_54 (by decide) dX10_bound_29 ?_
    refine q_iload_n o dX10_bound_32 rfl ?_
    refine q_iload_n o dX10_bound_33 rfl ?_
    refine q_iload o dX10_bound_34 rfl ?_
    refine q_callS o [.int a1, .int a2, .int a4] (ad_X10_cell l G a1 a2 a4 v h) gX10_bound_X10_cell rfl ⟨by decide, by decide, pd_X10_cell⟩ (by decide) (by decide) rfl (Nat.le_of_ble_eq_true rfl) dX10_bound_36 (fun r11 v10 h => ?_)
    obtain ⟨n12, hn13, hx14, h⟩ := h
    refine q_zald (m := 1151) o rfl rfl (by decide) hn13 hx14 dX10_bound_39 ?_
    refine q_if_eq o 56 dX10_bound_40 (by decide) (fun c20 => ?_) (fun c20 => ?_)
    · have h := h.1 c20
      refine q_iinc o (y := (a4 + (1 : Int32))) (lv' := [(4, .int (a4 + (1 : Int32))), (0, .ref (gA G 24 0)), (1, .int a1), (2, .int a2)]) dX10_bound_56 rfl rfl (by decide) rfl ?_
      refine q_goto o 19 dX10_bound_59 (by decide) ?_
      refine q_lv [1, 2, 3, 0] rfl ?_
      exact hK19 a1 a2 (a4 + (1 : Int32)) v10 h
    · have h := h.2 c20
      refine q_aload_n o dX10_bound_43 rfl ?_
      refine q_getR (q := 53) o sf_X10_bound_60 (by decide) dX10_bound_44 ?_
      refine q_iload_n o dX10_bound_47 rfl ?_
      refine q_iload_n o dX10_bound_48 rfl ?_
      refine q_iload o dX10_bound_49 rfl ?_
      refine q_callS o [.int a1, .int a2, .int a4] (ad_X10_cell l G a1 a2 a4 v10 h) gX10_bound_X10_cell rfl ⟨by decide, by decide, pd_X10_cell⟩ (by decide) (by decide) rfl (Nat.le_of_ble_eq_true rfl) dX10_bound_51 (fun r16 v15 h => ?_)
      obtain ⟨n17, hn18, hx19, h⟩ := h
      refine q_iald (m := 1151) o rfl rfl (by decide) hn18 hx19 dX10_bound_54 ?_
      exact q_iret o rt dX10_bound_55 h
def wp_X10_bound (a1 : Int32) (a2 : Int32) (a3 : Int32) (v : St3) (post : (Int32 → St3 → Prop)) : Prop := ∃ n1, n1 < 288 ∧ (((24 : Int32) * a1) + a2) = nI n1 ∧ ((¬ (v 51 0 n1) = 0 → wL_X10_bound_19 post FU a1 a2 (0 : Int32) v) ∧ ((v 51 0 n1) = 0 → post (-1 : Int32) v))
set_option maxRecDepth 20000 in
set_option maxHeartbeats 4000000 in
theorem ad_X10_bound (l : Launch) (G : Geo) (a1 : Int32) (a2 : Int32) (a3 : Int32) (v : St3) {post : (Int32 → St3 → Prop)} (h : wp_X10_bound a1 a2 a3 v post) : CI l G yX10_bound wsX10_bound 1 [.ref (gA G 24 0), .int a1, .int a2, .int a3] v post := by
  refine CI.of (ty := .int) (cc := cX10_bound) (maxL := 5) (by decide) rfl (Nat.le_of_ble_eq_true rfl) (fun X o rt => ?_)
  unfold wp_X10_bound at h
  show J l G X 0 [(0, .ref (gA G 24 0)), (1, .int a1), (2, .int a2), (3, .int a3)] [] v
  refine q_aload_n o dX10_bound_0 rfl ?_
  refine q_getR (q := 50) o sf_X10_bound_51 (by decide) dX10_bound_1 ?_
  refine q_bipush o dX10_bound_4 (x := (24 : Int32)) (by decide) ?_
  refine q_iload_n o dX10_bound_6 rfl ?_
  refine q_imul o dX10_bound_7 ?_
  refine q_iload_n o dX10_bound_8 rfl ?_
  refine q_iadd o dX10_bound_9 ?_
  obtain ⟨n1, hn2, hx3, h⟩ := h
  refine q_zald (m := 287) o rfl rfl (by decide) hn2 hx3 dX10_bound_10 ?_
  refine q_if_ne o 16 dX10_bound_11 (by decide) (fun c22 => ?_) (fun c22 => ?_)
  · have h := h.1 c22
    refine q_iconst o dX10_bound_16 (x := (0 : Int32)) (by decide) ?_
    refine q_istore o (lv' := [(4, .int (0 : Int32)), (0, .ref (gA G 24 0)), (1, .int a1), (2, .int a2), (3, .int a3)]) dX10_bound_17 (by decide) rfl ?_
    refine q_lv [1, 2, 3, 0] rfl ?_
    exact aL_X10_bound_19 o rt FU a1 a2 (0 : Int32) v h
  · have h := h.2 c22
    refine q_iconst o dX10_bound_14 (x := (-1 : Int32)) (by decide) ?_
    exact q_iret o rt dX10_bound_15 h
theorem pd_X10_bound : (parseMethodDescriptor yX10_bound.desc).map (fun d => d.parameters.length) = some 3 := by decide +kernel
-- PieceSwarmModel.nextBlock(II)I
theorem inn_X10_nextBlock_X10 : ∀ w ∈ wsX100, w ∈ wsX10_nextBlock := by decide +kernel
theorem sf_X10_nextBlock_13 : SF wsX10_nextBlock RX10 13 24 2 0 := ⟨RX10, TX10, 45, rfl, rfl, rfl, rfl, by decide, inn_X10_nextBlock_X10, by decide +kernel⟩
theorem sf_X10_nextBlock_54 : SF wsX10_nextBlock RX10 54 24 22 52 := ⟨RX10, TX10, 45, rfl, rfl, rfl, rfl, by decide, inn_X10_nextBlock_X10, by decide +kernel⟩
def wB_X10_nextBlock_2 (post : (Int32 → St3 → Prop)) (K2 : Int32 → Int32 → Int32 → St3 → Prop) (a1 : Int32) (a2 : Int32) (a3 : Int32) (v : St3) : Prop := (((v 24 0 2) ≤ a3 → post (-1 : Int32) v) ∧ (¬ (v 24 0 2) ≤ a3 → wp_X10_cell a1 a2 a3 v (fun r2 v1 => ∃ n3, n3 < 1152 ∧ r2 = nI n3 ∧ ((¬ (v1 52 0 n3) = 0 → K2 a1 a2 (a3 + (1 : Int32)) v1) ∧ ((v1 52 0 n3) = 0 → wp_X10_coming a1 a2 a3 v1 (fun r7 v6 => ((¬ r7 = 0 → K2 a1 a2 (a3 + (1 : Int32)) v6) ∧ (r7 = 0 → post a3 v6))))))))
def wL_X10_nextBlock_2 (post : (Int32 → St3 → Prop)) : Nat → Int32 → Int32 → Int32 → St3 → Prop
  | 0, _, _, _, _ => False
  | f + 1, a1, a2, a3, v => wB_X10_nextBlock_2 post (wL_X10_nextBlock_2 post f) a1 a2 a3 v
set_option maxRecDepth 20000 in
set_option maxHeartbeats 4000000 in
theorem aL_X10_nextBlock_2 {l : Launch} {G : Geo} {X : CT} (o : OK G X cX10_nextBlock wsX10_nextBlock RX10 1 4) {post : (Int32 → St3 → Prop)} (rt : RI G X .int post) : ∀ (f : Nat) (a1 : Int32) (a2 : Int32) (a3 : Int32) (v : St3), wL_X10_nextBlock_2 post f a1 a2 a3 v → J l G X 2 [(0, .ref (gA G 24 0)), (1, .int a1), (2, .int a2), (3, .int a3)] [] v := by
  intro f
  induction f with
  | zero => intro _ _ _ _ h; exact False.elim h
  | succ f hK2 =>
  intro a1 a2 a3 v h
  have h : wB_X10_nextBlock_2 post (wL_X10_nextBlock_2 post f) a1 a2 a3 v := h
  unfold wB_X10_nextBlock_2 at h
  refine q_iload_n o dX10_nextBlock_2 rfl ?_
  refine q_aload_n o dX10_nextBlock_3 rfl ?_
  refine q_getI o sf_X10_nextBlock_13 (by decide) dX10_nextBlock_4 ?_
  refine q_ic_ge o 42 dX10_nextBlock_7 (by decide) (fun c10 => ?_) (fun c10 => ?_)
  · have h := h.1 c10
    refine q_iconst o dX10_nextBlock_42 (x := (-1 : Int32)) (by decide) ?_
    exact q_iret o rt dX10_nextBlock_43 h
  · have h := h.2 c10
    refine q_aload_n o dX10_nextBlock_10 rfl ?_
    refine q_getR (q := 51) o sf_X10_nextBlock_54 (by decide) dX10_nextBlock_11 ?_
    refine q_iload_n o dX10_nextBlock_14 rfl ?_
    refine q_iload_n o dX10_nextBlock_15 rfl ?_
    refine q_iload_n o dX10_nextBlock_16 rfl ?_
    refine q_callS o [.int a1, .int a2, .int a3] (ad_X10_cell l G a1 a2 a3 v h) gX10_nextBlock_X10_cell rfl ⟨by decide, by decide, pd_X10_cell⟩ (by decide) (by decide) rfl (Nat.le_of_ble_eq_true rfl) dX10_nextBlock_17 (fun r2 v1 h => ?_)
    obtain ⟨n3, hn4, hx5, h⟩ := h
    refine q_zald (m := 1151) o rfl rfl (by decide) hn4 hx5 dX10_nextBlock_20 ?_
    refine q_if_ne o 36 dX10_nextBlock_21 (by decide) (fun c9 => ?_) (fun c9 => ?_)
    · have h := h.1 c9
      refine q_iinc o (y := (a3 + (1 : Int32))) (lv' := [(3, .int (a3 + (1 : Int32))), (0, .ref (gA G 24 0)), (1, .int a1), (2, .int a2)]) dX10_nextBlock_36 rfl rfl (by decide) rfl ?_
      refine q_goto o 2 dX10_nextBlock_39 (by decide) ?_
      refine q_lv [1, 2, 3, 0] rfl ?_
      exact hK2 a1 a2 (a3 + (1 : Int32)) v1 h
    · have h := h.2 c9
      refine q_aload_n o dX10_nextBlock_24 rfl ?_
      refine q_iload_n o dX10_nextBlock_25 rfl ?_
      refine q_iload_n o dX10_nextBlock_26 rfl ?_
      refine q_iload_n o dX10_nextBlock_27 rfl ?_
      refine q_callV o [.int a1, .int a2, .int a3] (ad_X10_coming l G a1 a2 a3 v1 h) gX10_nextBlock_X10_coming rfl rfl rfl rfl (by decide) ⟨rfl, by decide, by decide, pd_X10_coming⟩ (by decide) (by decide) rfl (Nat.le_of_ble_eq_true rfl) dX10_nextBlock_28 (fun r7 v6 h => ?_)
      refine q_if_ne o 36 dX10_nextBlock_31 (by decide) (fun c8 => ?_) (fun c8 => ?_)
      · have h := h.1 c8
        refine q_iinc o (y := (a3 + (1 : Int32))) (lv' := [(3, .int (a3 + (1 : Int32))), (0, .ref (gA G 24 0)), (1, .int a1), (2, .int a2)]) dX10_nextBlock_36 rfl rfl (by decide) rfl ?_
        refine q_goto o 2 dX10_nextBlock_39 (by decide) ?_
        refine q_lv [1, 2, 3, 0] rfl ?_
        exact hK2 a1 a2 (a3 + (1 : Int32)) v6 h
      · have h := h.2 c8
        refine q_iload_n o dX10_nextBlock_34 rfl ?_
        exact q_iret o rt dX10_nextBlock_35 h
def wp_X10_nextBlock (a1 : Int32) (a2 : Int32) (v : St3) (post : (Int32 → St3 → Prop)) : Prop := wL_X10_nextBlock_2 post FU a1 a2 (0 : Int32) v
set_option maxRecDepth 20000 in
set_option maxHeartbeats 4000000 in
theorem ad_X10_nextBlock (l : Launch) (G : Geo) (a1 : Int32) (a2 : Int32) (v : St3) {post : (Int32 → St3 → Prop)} (h : wp_X10_nextBlock a1 a2 v post) : CI l G yX10_nextBlock wsX10_nextBlock 1 [.ref (gA G 24 0), .int a1, .int a2] v post := by
  refine CI.of (ty := .int) (cc := cX10_nextBlock) (maxL := 4) (by decide) rfl (Nat.le_of_ble_eq_true rfl) (fun X o rt => ?_)
  unfold wp_X10_nextBlock at h
  show J l G X 0 [(0, .ref (gA G 24 0)), (1, .int a1), (2, .int a2)] [] v
  refine q_iconst o dX10_nextBlock_0 (x := (0 : Int32)) (by decide) ?_
  refine q_istore_n o (lv' := [(3, .int (0 : Int32)), (0, .ref (gA G 24 0)), (1, .int a1), (2, .int a2)]) dX10_nextBlock_1 (by decide) rfl ?_
  refine q_lv [1, 2, 3, 0] rfl ?_
  exact aL_X10_nextBlock_2 o rt FU a1 a2 (0 : Int32) v h
theorem pd_X10_nextBlock : (parseMethodDescriptor yX10_nextBlock.desc).map (fun d => d.parameters.length) = some 2 := by decide +kernel
-- PieceSwarmModel.sends(IIII)V
theorem inn_X10_sends_X10 : ∀ w ∈ wsX100, w ∈ wsX10_sends := by decide +kernel
theorem sf_X10_sends_114 : SF wsX10_sends RX10 114 24 43 73 := ⟨RX10, TX10, 45, rfl, rfl, rfl, rfl, by decide, inn_X10_sends_X10, by decide +kernel⟩
theorem sf_X10_sends_117 : SF wsX10_sends RX10 117 24 44 74 := ⟨RX10, TX10, 45, rfl, rfl, rfl, rfl, by decide, inn_X10_sends_X10, by decide +kernel⟩
theorem sf_X10_sends_36 : SF wsX10_sends RX10 36 24 16 46 := ⟨RX10, TX10, 45, rfl, rfl, rfl, rfl, by decide, inn_X10_sends_X10, by decide +kernel⟩
theorem sf_X10_sends_221 : SF wsX10_sends RX10 221 24 6 0 := ⟨RX10, TX10, 45, rfl, rfl, rfl, rfl, by decide, inn_X10_sends_X10, by decide +kernel⟩
theorem sp_X10_sends_221 : SP wsX10_sends RX10 221 24 6 := ⟨RX10, TX10, 45, tyX10, rfl, rfl, rfl, rfl, by decide, inn_X10_sends_X10, by decide +kernel, tyX10_ok, nmX10, rfl, by decide +kernel⟩
theorem sf_X10_sends_75 : SF wsX10_sends RX10 75 24 29 59 := ⟨RX10, TX10, 45, rfl, rfl, rfl, rfl, by decide, inn_X10_sends_X10, by decide +kernel⟩
theorem sf_X10_sends_78 : SF wsX10_sends RX10 78 24 30 60 := ⟨RX10, TX10, 45, rfl, rfl, rfl, rfl, by decide, inn_X10_sends_X10, by decide +kernel⟩
theorem sf_X10_sends_90 : SF wsX10_sends RX10 90 24 35 65 := ⟨RX10, TX10, 45, rfl, rfl, rfl, rfl, by decide, inn_X10_sends_X10, by decide +kernel⟩
theorem sf_X10_sends_170 : SF wsX10_sends RX10 170 24 34 0 := ⟨RX10, TX10, 45, rfl, rfl, rfl, rfl, by decide, inn_X10_sends_X10, by decide +kernel⟩
theorem sf_X10_sends_93 : SF wsX10_sends RX10 93 24 36 66 := ⟨RX10, TX10, 45, rfl, rfl, rfl, rfl, by decide, inn_X10_sends_X10, by decide +kernel⟩
theorem sf_X10_sends_96 : SF wsX10_sends RX10 96 24 37 67 := ⟨RX10, TX10, 45, rfl, rfl, rfl, rfl, by decide, inn_X10_sends_X10, by decide +kernel⟩
theorem sf_X10_sends_99 : SF wsX10_sends RX10 99 24 38 68 := ⟨RX10, TX10, 45, rfl, rfl, rfl, rfl, by decide, inn_X10_sends_X10, by decide +kernel⟩
theorem sf_X10_sends_102 : SF wsX10_sends RX10 102 24 39 69 := ⟨RX10, TX10, 45, rfl, rfl, rfl, rfl, by decide, inn_X10_sends_X10, by decide +kernel⟩
theorem sf_X10_sends_16 : SF wsX10_sends RX10 16 24 10 40 := ⟨RX10, TX10, 45, rfl, rfl, rfl, rfl, by decide, inn_X10_sends_X10, by decide +kernel⟩
theorem sf_X10_sends_105 : SF wsX10_sends RX10 105 24 40 70 := ⟨RX10, TX10, 45, rfl, rfl, rfl, rfl, by decide, inn_X10_sends_X10, by decide +kernel⟩
theorem sf_X10_sends_202 : SF wsX10_sends RX10 202 24 5 0 := ⟨RX10, TX10, 45, rfl, rfl, rfl, rfl, by decide, inn_X10_sends_X10, by decide +kernel⟩
theorem sf_X10_sends_108 : SF wsX10_sends RX10 108 24 41 71 := ⟨RX10, TX10, 45, rfl, rfl, rfl, rfl, by decide, inn_X10_sends_X10, by decide +kernel⟩
theorem sp_X10_sends_170 : SP wsX10_sends RX10 170 24 34 := ⟨RX10, TX10, 45, tyX10, rfl, rfl, rfl, rfl, by decide, inn_X10_sends_X10, by decide +kernel, tyX10_ok, nmX10, rfl, by decide +kernel⟩
theorem sf_X10_sends_30 : SF wsX10_sends RX10 30 24 14 44 := ⟨RX10, TX10, 45, rfl, rfl, rfl, rfl, by decide, inn_X10_sends_X10, by decide +kernel⟩
def wB_X10_sends_188 (post : (St3 → Prop)) (a1 : Int32) (s0 : Int32) (s1 : Int32) (v : St3) : Prop := ∃ n59, n59 < 400 ∧ s1 = nI n59 ∧ ∀ v62, v62 = up3 v 70 0 n59 s0 → ∃ n64, n64 < 12 ∧ a1 = nI n64 ∧ (((v62 40 0 n64) = (4 : Int32) → ∃ n67, n67 < 400 ∧ (v62 24 0 34) = nI n67 ∧ ∀ v70, v70 = up3 v62 71 0 n67 (0 : Int32) → ∀ v72, v72 = up3 v70 24 0 34 ((v70 24 0 34) + (1 : Int32)) → post v72) ∧ (¬ (v62 40 0 n64) = (4 : Int32) → ∃ n74, n74 < 400 ∧ (v62 24 0 34) = nI n74 ∧ ∀ v77, v77 = up3 v62 71 0 n74 (1 : Int32) → ∀ v79, v79 = up3 v77 24 0 34 ((v77 24 0 34) + (1 : Int32)) → post v79))
set_option maxRecDepth 20000 in
set_option maxHeartbeats 4000000 in
theorem aJ_X10_sends_188 {l : Launch} {G : Geo} {X : CT} (o : OK G X cX10_sends wsX10_sends RX10 1 5) {post : (St3 → Prop)} (rt : RV G X post) (a1 : Int32) (s0 : Int32) (s1 : Int32) (v : St3) (h : wB_X10_sends_188 post a1 s0 s1 v) : J l G X 188 [(0, .ref (gA G 24 0)), (1, .int a1)] [.int s0, .int s1, .ref (gA G 70 0)] v := by
  unfold wB_X10_sends_188 at h
  obtain ⟨n59, hn60, hx61, h⟩ := h
  refine q_iast (m := 399) o rfl rfl (by decide) hn60 hx61 dX10_sends_188 (fun v62 e63 => ?_)
  have h := h v62 e63
  refine q_aload_n o dX10_sends_189 rfl ?_
  refine q_getR (q := 70) o sf_X10_sends_108 (by decide) dX10_sends_190 ?_
  refine q_aload_n o dX10_sends_193 rfl ?_
  refine q_getI o sf_X10_sends_170 (by decide) dX10_sends_194 ?_
  refine q_aload_n o dX10_sends_197 rfl ?_
  refine q_getR (q := 39) o sf_X10_sends_16 (by decide) dX10_sends_198 ?_
  refine q_iload_n o dX10_sends_201 rfl ?_
  obtain ⟨n64, hn65, hx66, h⟩ := h
  refine q_iald (m := 11) o rfl rfl (by decide) hn65 hx66 dX10_sends_202 ?_
  refine q_iconst o dX10_sends_203 (x := (4 : Int32)) (by decide) ?_
  refine q_ic_eq o 211 dX10_sends_204 (by decide) (fun c81 => ?_) (fun c81 => ?_)
  · have h := h.1 c81
    refine q_iconst o dX10_sends_211 (x := (0 : Int32)) (by decide) ?_
    obtain ⟨n67, hn68, hx69, h⟩ := h
    refine q_zast (m := 399) o rfl rfl (by decide) hn68 hx69 (by decide) dX10_sends_212 (fun v70 e71 => ?_)
    have h := h v70 e71
    refine q_aload_n o dX10_sends_213 rfl ?_
    refine q_dup o dX10_sends_214 rfl ?_
    refine q_getI o sf_X10_sends_170 (by decide) dX10_sends_215 ?_
    refine q_iconst o dX10_sends_218 (x := (1 : Int32)) (by decide) ?_
    refine q_iadd o dX10_sends_219 ?_
    refine q_putI o sp_X10_sends_170 (by decide) dX10_sends_220 (fun v72 e73 => ?_)
    have h := h v72 e73
    exact q_vret o rt dX10_sends_223 h
  · have h := h.2 c81
    refine q_iconst o dX10_sends_207 (x := (1 : Int32)) (by decide) ?_
    refine q_goto o 212 dX10_sends_208 (by decide) ?_
    obtain ⟨n74, hn75, hx76, h⟩ := h
    refine q_zast (m := 399) o rfl rfl (by decide) hn75 hx76 (by decide) dX10_sends_212 (fun v77 e78 => ?_)
    have h := h v77 e78
    refine q_aload_n o dX10_sends_213 rfl ?_
    refine q_dup o dX10_sends_214 rfl ?_
    refine q_getI o sf_X10_sends_170 (by decide) dX10_sends_215 ?_
    refine q_iconst o dX10_sends_218 (x := (1 : Int32)) (by decide) ?_
    refine q_iadd o dX10_sends_219 ?_
    refine q_putI o sp_X10_sends_170 (by decide) dX10_sends_220 (fun v79 e80 => ?_)
    have h := h v79 e80
    exact q_vret o rt dX10_sends_223 h
def wB_X10_sends_155 (post : (St3 → Prop)) (a1 : Int32) (s0 : Int32) (s1 : Int32) (s2 : Int32) (v : St3) : Prop := ∃ n51, n51 < 400 ∧ s2 = nI n51 ∧ ∀ v54, v54 = up3 v 69 0 n51 (s1 ^^^ s0) → ∃ n56, n56 < 12 ∧ a1 = nI n56 ∧ ((¬ (v54 40 0 n56) = (4 : Int32) → wB_X10_sends_188 post a1 (v54 24 0 5) (v54 24 0 34) v54) ∧ ((v54 40 0 n56) = (4 : Int32) → wB_X10_sends_188 post a1 ((v54 24 0 5) + (2 : Int32)) (v54 24 0 34) v54))
set_option maxRecDepth 20000 in
set_option maxHeartbeats 4000000 in
theorem aJ_X10_sends_155 {l : Launch} {G : Geo} {X : CT} (o : OK G X cX10_sends wsX10_sends RX10 1 5) {post : (St3 → Prop)} (rt : RV G X post) (a1 : Int32) (s0 : Int32) (s1 : Int32) (s2 : Int32) (v : St3) (h : wB_X10_sends_155 post a1 s0 s1 s2 v) : J l G X 155 [(0, .ref (gA G 24 0)), (1, .int a1)] [.int s0, .int s1, .int s2, .ref (gA G 69 0)] v := by
  unfold wB_X10_sends_155 at h
  refine q_ixor o dX10_sends_155 ?_
  obtain ⟨n51, hn52, hx53, h⟩ := h
  refine q_iast (m := 399) o rfl rfl (by decide) hn52 hx53 dX10_sends_156 (fun v54 e55 => ?_)
  have h := h v54 e55
  refine q_aload_n o dX10_sends_157 rfl ?_
  refine q_getR (q := 69) o sf_X10_sends_105 (by decide) dX10_sends_158 ?_
  refine q_aload_n o dX10_sends_161 rfl ?_
  refine q_getI o sf_X10_sends_170 (by decide) dX10_sends_162 ?_
  refine q_aload_n o dX10_sends_165 rfl ?_
  refine q_getR (q := 39) o sf_X10_sends_16 (by decide) dX10_sends_166 ?_
  refine q_iload_n o dX10_sends_169 rfl ?_
  obtain ⟨n56, hn57, hx58, h⟩ := h
  refine q_iald (m := 11) o rfl rfl (by decide) hn57 hx58 dX10_sends_170 ?_
  refine q_iconst o dX10_sends_171 (x := (4 : Int32)) (by decide) ?_
  refine q_ic_ne o 184 dX10_sends_172 (by decide) (fun c82 => ?_) (fun c82 => ?_)
  · have h := h.1 c82
    refine q_aload_n o dX10_sends_184 rfl ?_
    refine q_getI o sf_X10_sends_202 (by decide) dX10_sends_185 ?_
    exact aJ_X10_sends_188 o rt a1 (v54 24 0 5) (v54 24 0 34) v54 h
  · have h := h.2 c82
    refine q_aload_n o dX10_sends_175 rfl ?_
    refine q_getI o sf_X10_sends_202 (by decide) dX10_sends_176 ?_
    refine q_iconst o dX10_sends_179 (x := (2 : Int32)) (by decide) ?_
    refine q_iadd o dX10_sends_180 ?_
    refine q_goto o 188 dX10_sends_181 (by decide) ?_
    exact aJ_X10_sends_188 o rt a1 ((v54 24 0 5) + (2 : Int32)) (v54 24 0 34) v54 h
def wp_X10_sends (a1 : Int32) (a2 : Int32) (a3 : Int32) (a4 : Int32) (v : St3) (post : (St3 → Prop)) : Prop := ∃ n1, n1 < 12 ∧ a1 = nI n1 ∧ ∀ v4, v4 = up3 v 73 0 n1 ((v 73 0 n1) - (1 : Int32)) → ∃ n6, n6 < 12 ∧ a2 = nI n6 ∧ ∀ v9, v9 = up3 v4 74 0 n6 ((v4 74 0 n6) - (1 : Int32)) → ∀ v11, v11 = up3 v9 46 0 n1 ((v9 46 0 n1) + (1 : Int32)) → ∀ v13, v13 = up3 v11 24 0 6 ((v11 24 0 6) + (1 : Int32)) → wp_X10_two a1 a2 v13 (fun r16 v15 => ∃ n17, n17 < 144 ∧ r16 = nI n17 ∧ ∀ v20, v20 = up3 v15 59 0 n17 ((v15 59 0 n17) + (1 : Int32)) → wp_X10_two a1 a2 v20 (fun r23 v22 => ∃ n24, n24 < 144 ∧ r23 = nI n24 ∧ ∀ v27, v27 = up3 v22 60 0 n24 ((v22 60 0 n24) + (1 : Int32)) → ∃ n29, n29 < 400 ∧ (v27 24 0 34) = nI n29 ∧ ∀ v32, v32 = up3 v27 65 0 n29 a2 → ∃ n34, n34 < 400 ∧ (v32 24 0 34) = nI n34 ∧ ∀ v37, v37 = up3 v32 66 0 n34 a1 → ∃ n39, n39 < 400 ∧ (v37 24 0 34) = nI n39 ∧ ∀ v42, v42 = up3 v37 67 0 n39 a3 → ∃ n44, n44 < 400 ∧ (v42 24 0 34) = nI n44 ∧ ∀ v47, v47 = up3 v42 68 0 n44 a4 → wp_X10_valueOf a3 a4 v47 (fun r50 v49 => ((¬ (v49 40 0 n1) = (3 : Int32) → wB_X10_sends_155 post a1 (0 : Int32) r50 (v47 24 0 34) v49) ∧ ((v49 40 0 n1) = (3 : Int32) → ¬ (v49 44 0 n1) = 0 ∧ ((¬ ((v49 46 0 n1) - (v49 46 0 n1) / (v49 44 0 n1) * (v49 44 0 n1)) = 0 → wB_X10_sends_155 post a1 (0 : Int32) r50 (v47 24 0 34) v49) ∧ (((v49 46 0 n1) - (v49 46 0 n1) / (v49 44 0 n1) * (v49 44 0 n1)) = 0 → wB_X10_sends_155 post a1 (1 : Int32) r50 (v47 24 0 34) v49)))))))
set_option maxRecDepth 20000 in
set_option maxHeartbeats 4000000 in
theorem ad_X10_sends (l : Launch) (G : Geo) (a1 : Int32) (a2 : Int32) (a3 : Int32) (a4 : Int32) (v : St3) {post : (St3 → Prop)} (h : wp_X10_sends a1 a2 a3 a4 v post) : CV l G yX10_sends wsX10_sends 1 [.ref (gA G 24 0), .int a1, .int a2, .int a3, .int a4] v post := by
  refine CV.of (cc := cX10_sends) (maxL := 5) (by decide) rfl (Nat.le_of_ble_eq_true rfl) (fun X o rt => ?_)
  unfold wp_X10_sends at h
  show J l G X 0 [(0, .ref (gA G 24 0)), (1, .int a1), (2, .int a2), (3, .int a3), (4, .int a4)] [] v
  refine q_aload_n o dX10_sends_0 rfl ?_
  refine q_getR (q := 72) o sf_X10_sends_114 (by decide) dX10_sends_1 ?_
  refine q_iload_n o dX10_sends_4 rfl ?_
  refine q_dup2 o dX10_sends_5 rfl rfl ?_
  obtain ⟨n1, hn2, hx3, h⟩ := h
  refine q_iald (m := 11) o rfl rfl (by decide) hn2 hx3 dX10_sends_6 ?_
  refine q_iconst o dX10_sends_7 (x := (1 : Int32)) (by decide) ?_
  refine q_isub o dX10_sends_8 ?_
  refine q_iast (m := 11) o rfl rfl (by decide) hn2 hx3 dX10_sends_9 (fun v4 e5 => ?_)
  have h := h v4 e5
  refine q_aload_n o dX10_sends_10 rfl ?_
  refine q_getR (q := 73) o sf_X10_sends_117 (by decide) dX10_sends_11 ?_
  refine q_iload_n o dX10_sends_14 rfl ?_
  refine q_dup2 o dX10_sends_15 rfl rfl ?_
  obtain ⟨n6, hn7, hx8, h⟩ := h
  refine q_iald (m := 11) o rfl rfl (by decide) hn7 hx8 dX10_sends_16 ?_
  refine q_iconst o dX10_sends_17 (x := (1 : Int32)) (by decide) ?_
  refine q_isub o dX10_sends_18 ?_
  refine q_iast (m := 11) o rfl rfl (by decide) hn7 hx8 dX10_sends_19 (fun v9 e10 => ?_)
  have h := h v9 e10
  refine q_aload_n o dX10_sends_20 rfl ?_
  refine q_getR (q := 45) o sf_X10_sends_36 (by decide) dX10_sends_21 ?_
  refine q_iload_n o dX10_sends_24 rfl ?_
  refine q_dup2 o dX10_sends_25 rfl rfl ?_
  refine q_iald (m := 11) o rfl rfl (by decide) hn2 hx3 dX10_sends_26 ?_
  refine q_iconst o dX10_sends_27 (x := (1 : Int32)) (by decide) ?_
  refine q_iadd o dX10_sends_28 ?_
  refine q_iast (m := 11) o rfl rfl (by decide) hn2 hx3 dX10_sends_29 (fun v11 e12 => ?_)
  have h := h v11 e12
  refine q_aload_n o dX10_sends_30 rfl ?_
  refine q_dup o dX10_sends_31 rfl ?_
  refine q_getI o sf_X10_sends_221 (by decide) dX10_sends_32 ?_
  refine q_iconst o dX10_sends_35 (x := (1 : Int32)) (by decide) ?_
  refine q_iadd o dX10_sends_36 ?_
  refine q_putI o sp_X10_sends_221 (by decide) dX10_sends_37 (fun v13 e14 => ?_)
  have h := h v13 e14
  refine q_aload_n o dX10_sends_40 rfl ?_
  refine q_getR (q := 58) o sf_X10_sends_75 (by decide) dX10_sends_41 ?_
  refine q_iload_n o dX10_sends_44 rfl ?_
  refine q_iload_n o dX10_sends_45 rfl ?_
  refine q_callS o [.int a1, .int a2] (ad_X10_two l G a1 a2 v13 h) gX10_sends_X10_two rfl ⟨by decide, by decide, pd_X10_two⟩ (by decide) (by decide) rfl (Nat.le_of_ble_eq_true rfl) dX10_sends_46 (fun r16 v15 h => ?_)
  refine q_dup2 o dX10_sends_49 rfl rfl ?_
  obtain ⟨n17, hn18, hx19, h⟩ := h
  refine q_iald (m := 143) o rfl rfl (by decide) hn18 hx19 dX10_sends_50 ?_
  refine q_iconst o dX10_sends_51 (x := (1 : Int32)) (by decide) ?_
  refine q_iadd o dX10_sends_52 ?_
  refine q_iast (m := 143) o rfl rfl (by decide) hn18 hx19 dX10_sends_53 (fun v20 e21 => ?_)
  have h := h v20 e21
  refine q_aload_n o dX10_sends_54 rfl ?_
  refine q_getR (q := 59) o sf_X10_sends_78 (by decide) dX10_sends_55 ?_
  refine q_iload_n o dX10_sends_58 rfl ?_
  refine q_iload_n o dX10_sends_59 rfl ?_
  refine q_callS o [.int a1, .int a2] (ad_X10_two l G a1 a2 v20 h) gX10_sends_X10_two rfl ⟨by decide, by decide, pd_X10_two⟩ (by decide) (by decide) rfl (Nat.le_of_ble_eq_true rfl) dX10_sends_60 (fun r23 v22 h => ?_)
  refine q_dup2 o dX10_sends_63 rfl rfl ?_
  obtain ⟨n24, hn25, hx26, h⟩ := h
  refine q_iald (m := 143) o rfl rfl (by decide) hn25 hx26 dX10_sends_64 ?_
  refine q_iconst o dX10_sends_65 (x := (1 : Int32)) (by decide) ?_
  refine q_iadd o dX10_sends_66 ?_
  refine q_iast (m := 143) o rfl rfl (by decide) hn25 hx26 dX10_sends_67 (fun v27 e28 => ?_)
  have h := h v27 e28
  refine q_aload_n o dX10_sends_68 rfl ?_
  refine q_getR (q := 64) o sf_X10_sends_90 (by decide) dX10_sends_69 ?_
  refine q_aload_n o dX10_sends_72 rfl ?_
  refine q_getI o sf_X10_sends_170 (by decide) dX10_sends_73 ?_
  refine q_iload_n o dX10_sends_76 rfl ?_
  obtain ⟨n29, hn30, hx31, h⟩ := h
  refine q_iast (m := 399) o rfl rfl (by decide) hn30 hx31 dX10_sends_77 (fun v32 e33 => ?_)
  have h := h v32 e33
  refine q_aload_n o dX10_sends_78 rfl ?_
  refine q_getR (q := 65) o sf_X10_sends_93 (by decide) dX10_sends_79 ?_
  refine q_aload_n o dX10_sends_82 rfl ?_
  refine q_getI o sf_X10_sends_170 (by decide) dX10_sends_83 ?_
  refine q_iload_n o dX10_sends_86 rfl ?_
  obtain ⟨n34, hn35, hx36, h⟩ := h
  refine q_iast (m := 399) o rfl rfl (by decide) hn35 hx36 dX10_sends_87 (fun v37 e38 => ?_)
  have h := h v37 e38
  refine q_aload_n o dX10_sends_88 rfl ?_
  refine q_getR (q := 66) o sf_X10_sends_96 (by decide) dX10_sends_89 ?_
  refine q_aload_n o dX10_sends_92 rfl ?_
  refine q_getI o sf_X10_sends_170 (by decide) dX10_sends_93 ?_
  refine q_iload_n o dX10_sends_96 rfl ?_
  obtain ⟨n39, hn40, hx41, h⟩ := h
  refine q_iast (m := 399) o rfl rfl (by decide) hn40 hx41 dX10_sends_97 (fun v42 e43 => ?_)
  have h := h v42 e43
  refine q_aload_n o dX10_sends_98 rfl ?_
  refine q_getR (q := 67) o sf_X10_sends_99 (by decide) dX10_sends_99 ?_
  refine q_aload_n o dX10_sends_102 rfl ?_
  refine q_getI o sf_X10_sends_170 (by decide) dX10_sends_103 ?_
  refine q_iload o dX10_sends_106 rfl ?_
  obtain ⟨n44, hn45, hx46, h⟩ := h
  refine q_iast (m := 399) o rfl rfl (by decide) hn45 hx46 dX10_sends_108 (fun v47 e48 => ?_)
  have h := h v47 e48
  refine q_aload_n o dX10_sends_109 rfl ?_
  refine q_getR (q := 68) o sf_X10_sends_102 (by decide) dX10_sends_110 ?_
  refine q_aload_n o dX10_sends_113 rfl ?_
  refine q_getI o sf_X10_sends_170 (by decide) dX10_sends_114 ?_
  refine q_aload_n o dX10_sends_117 rfl ?_
  refine q_iload_n o dX10_sends_118 rfl ?_
  refine q_iload o dX10_sends_119 rfl ?_
  refine q_callV o [.int a3, .int a4] (ad_X10_valueOf l G a3 a4 v47 h) gX10_sends_X10_valueOf rfl rfl rfl rfl (by decide) ⟨rfl, by decide, by decide, pd_X10_valueOf⟩ (by decide) (by decide) rfl (Nat.le_of_ble_eq_true rfl) dX10_sends_121 (fun r50 v49 h => ?_)
  refine q_aload_n o dX10_sends_124 rfl ?_
  refine q_getR (q := 39) o sf_X10_sends_16 (by decide) dX10_sends_125 ?_
  refine q_iload_n o dX10_sends_128 rfl ?_
  refine q_iald (m := 11) o rfl rfl (by decide) hn2 hx3 dX10_sends_129 ?_
  refine q_iconst o dX10_sends_130 (x := (3 : Int32)) (by decide) ?_
  refine q_ic_ne o 154 dX10_sends_131 (by decide) (fun c85 => ?_) (fun c85 => ?_)
  · have h := h.1 c85
    refine q_iconst o dX10_sends_154 (x := (0 : Int32)) (by decide) ?_
    refine q_lv [0, 1] rfl ?_
    exact aJ_X10_sends_155 o rt a1 (0 : Int32) r50 (v47 24 0 34) v49 h
  · have h := h.2 c85
    refine q_aload_n o dX10_sends_134 rfl ?_
    refine q_getR (q := 45) o sf_X10_sends_36 (by decide) dX10_sends_135 ?_
    refine q_iload_n o dX10_sends_138 rfl ?_
    refine q_iald (m := 11) o rfl rfl (by decide) hn2 hx3 dX10_sends_139 ?_
    refine q_aload_n o dX10_sends_140 rfl ?_
    refine q_getR (q := 43) o sf_X10_sends_30 (by decide) dX10_sends_141 ?_
    refine q_iload_n o dX10_sends_144 rfl ?_
    refine q_iald (m := 11) o rfl rfl (by decide) hn2 hx3 dX10_sends_145 ?_
    obtain ⟨hz83, h⟩ := h
    refine q_irem o dX10_sends_146 hz83 ?_
    refine q_if_ne o 154 dX10_sends_147 (by decide) (fun c84 => ?_) (fun c84 => ?_)
    · have h := h.1 c84
      refine q_iconst o dX10_sends_154 (x := (0 : Int32)) (by decide) ?_
      refine q_lv [0, 1] rfl ?_
      exact aJ_X10_sends_155 o rt a1 (0 : Int32) r50 (v47 24 0 34) v49 h
    · have h := h.2 c84
      refine q_iconst o dX10_sends_150 (x := (1 : Int32)) (by decide) ?_
      refine q_goto o 155 dX10_sends_151 (by decide) ?_
      refine q_lv [0, 1] rfl ?_
      exact aJ_X10_sends_155 o rt a1 (1 : Int32) r50 (v47 24 0 34) v49 h
theorem pd_X10_sends : (parseMethodDescriptor yX10_sends.desc).map (fun d => d.parameters.length) = some 4 := by decide +kernel
-- PieceSwarmModel.senderOf(III)I
theorem inn_X10_senderOf_X10 : ∀ w ∈ wsX100, w ∈ wsX10_senderOf := by decide +kernel
theorem sf_X10_senderOf_90 : SF wsX10_senderOf RX10 90 24 35 65 := ⟨RX10, TX10, 45, rfl, rfl, rfl, rfl, by decide, inn_X10_senderOf_X10, by decide +kernel⟩
theorem sf_X10_senderOf_96 : SF wsX10_senderOf RX10 96 24 37 67 := ⟨RX10, TX10, 45, rfl, rfl, rfl, rfl, by decide, inn_X10_senderOf_X10, by decide +kernel⟩
theorem sf_X10_senderOf_99 : SF wsX10_senderOf RX10 99 24 38 68 := ⟨RX10, TX10, 45, rfl, rfl, rfl, rfl, by decide, inn_X10_senderOf_X10, by decide +kernel⟩
theorem sf_X10_senderOf_93 : SF wsX10_senderOf RX10 93 24 36 66 := ⟨RX10, TX10, 45, rfl, rfl, rfl, rfl, by decide, inn_X10_senderOf_X10, by decide +kernel⟩
def wB_X10_senderOf_3 (post : (Int32 → St3 → Prop)) (K3 : Int32 → Int32 → Int32 → Int32 → St3 → Prop) (a1 : Int32) (a2 : Int32) (a3 : Int32) (a4 : Int32) (v : St3) : Prop := ∃ n1, n1 < 400 ∧ a4 = nI n1 ∧ ((¬ (v 65 0 n1) = a1 → K3 a1 a2 a3 (a4 + (1 : Int32)) v) ∧ ((v 65 0 n1) = a1 → ((¬ (v 67 0 n1) = a2 → K3 a1 a2 a3 (a4 + (1 : Int32)) v) ∧ ((v 67 0 n1) = a2 → (((v 68 0 n1) = a3 → post (v 66 0 n1) v) ∧ (¬ (v 68 0 n1) = a3 → K3 a1 a2 a3 (a4 + (1 : Int32)) v))))))
def wL_X10_senderOf_3 (post : (Int32 → St3 → Prop)) : Nat → Int32 → Int32 → Int32 → Int32 → St3 → Prop
  | 0, _, _, _, _, _ => False
  | f + 1, a1, a2, a3, a4, v => wB_X10_senderOf_3 post (wL_X10_senderOf_3 post f) a1 a2 a3 a4 v
set_option maxRecDepth 20000 in
set_option maxHeartbeats 4000000 in
theorem aL_X10_senderOf_3 {l : Launch} {G : Geo} {X : CT} (o : OK G X cX10_senderOf wsX10_senderOf RX10 0 5) {post : (Int32 → St3 → Prop)} (rt : RI G X .int post) : ∀ (f : Nat) (a1 : Int32) (a2 : Int32) (a3 : Int32) (a4 : Int32) (v : St3), wL_X10_senderOf_3 post f a1 a2 a3 a4 v → J l G X 3 [(0, .ref (gA G 24 0)), (1, .int a1), (2, .int a2), (3, .int a3), (4, .int a4)] [] v := by
  intro f
  induction f with
  | zero => intro _ _ _ _ _ h; exact False.elim h
  | succ f hK3 =>
  intro a1 a2 a3 a4 v h
  have h : wB_X10_senderOf_3 post (wL_X10_senderOf_3 post f) a1 a2 a3 a4 v := h
  unfold wB_X10_senderOf_3 at h
  refine q_aload_n o dX10_senderOf_3 rfl ?_
  refine q_getR (q := 64) o sf_X10_senderOf_90 (by decide) dX10_senderOf_4 ?_
  refine q_iload o dX10_senderOf_7 rfl ?_
  obtain ⟨n1, hn2, hx3, h⟩ := h
  refine q_iald (m := 399) o rfl rfl (by decide) hn2 hx3 dX10_senderOf_9 ?_
  refine q_iload_n o dX10_senderOf_10 rfl ?_
  refine q_ic_ne o 36 dX10_senderOf_11 (by decide) (fun c6 => ?_) (fun c6 => ?_)
  · have h := h.1 c6
    refine q_iinc o (y := (a4 + (1 : Int32))) (lv' := [(4, .int (a4 + (1 : Int32))), (0, .ref (gA G 24 0)), (1, .int a1), (2, .int a2), (3, .int a3)]) dX10_senderOf_36 rfl rfl (by decide) rfl ?_
    refine q_goto o 3 dX10_senderOf_39 (by decide) ?_
    refine q_lv [1, 2, 3, 4, 0] rfl ?_
    exact hK3 a1 a2 a3 (a4 + (1 : Int32)) v h
  · have h := h.2 c6
    refine q_aload_n o dX10_senderOf_14 rfl ?_
    refine q_getR (q := 66) o sf_X10_senderOf_96 (by decide) dX10_senderOf_15 ?_
    refine q_iload o dX10_senderOf_18 rfl ?_
    refine q_iald (m := 399) o rfl rfl (by decide) hn2 hx3 dX10_senderOf_20 ?_
    refine q_iload_n o dX10_senderOf_21 rfl ?_
    refine q_ic_ne o 36 dX10_senderOf_22 (by decide) (fun c5 => ?_) (fun c5 => ?_)
    · have h := h.1 c5
      refine q_iinc o (y := (a4 + (1 : Int32))) (lv' := [(4, .int (a4 + (1 : Int32))), (0, .ref (gA G 24 0)), (1, .int a1), (2, .int a2), (3, .int a3)]) dX10_senderOf_36 rfl rfl (by decide) rfl ?_
      refine q_goto o 3 dX10_senderOf_39 (by decide) ?_
      refine q_lv [1, 2, 3, 4, 0] rfl ?_
      exact hK3 a1 a2 a3 (a4 + (1 : Int32)) v h
    · have h := h.2 c5
      refine q_aload_n o dX10_senderOf_25 rfl ?_
      refine q_getR (q := 67) o sf_X10_senderOf_99 (by decide) dX10_senderOf_26 ?_
      refine q_iload o dX10_senderOf_29 rfl ?_
      refine q_iald (m := 399) o rfl rfl (by decide) hn2 hx3 dX10_senderOf_31 ?_
      refine q_iload_n o dX10_senderOf_32 rfl ?_
      refine q_ic_eq o 42 dX10_senderOf_33 (by decide) (fun c4 => ?_) (fun c4 => ?_)
      · have h := h.1 c4
        refine q_aload_n o dX10_senderOf_42 rfl ?_
        refine q_getR (q := 65) o sf_X10_senderOf_93 (by decide) dX10_senderOf_43 ?_
        refine q_iload o dX10_senderOf_46 rfl ?_
        refine q_iald (m := 399) o rfl rfl (by decide) hn2 hx3 dX10_senderOf_48 ?_
        exact q_iret o rt dX10_senderOf_49 h
      · have h := h.2 c4
        refine q_iinc o (y := (a4 + (1 : Int32))) (lv' := [(4, .int (a4 + (1 : Int32))), (0, .ref (gA G 24 0)), (1, .int a1), (2, .int a2), (3, .int a3)]) dX10_senderOf_36 rfl rfl (by decide) rfl ?_
        refine q_goto o 3 dX10_senderOf_39 (by decide) ?_
        refine q_lv [1, 2, 3, 4, 0] rfl ?_
        exact hK3 a1 a2 a3 (a4 + (1 : Int32)) v h
def wp_X10_senderOf (a1 : Int32) (a2 : Int32) (a3 : Int32) (v : St3) (post : (Int32 → St3 → Prop)) : Prop := wL_X10_senderOf_3 post FU a1 a2 a3 (0 : Int32) v
set_option maxRecDepth 20000 in
set_option maxHeartbeats 4000000 in
theorem ad_X10_senderOf (l : Launch) (G : Geo) (a1 : Int32) (a2 : Int32) (a3 : Int32) (v : St3) {post : (Int32 → St3 → Prop)} (h : wp_X10_senderOf a1 a2 a3 v post) : CI l G yX10_senderOf wsX10_senderOf 0 [.ref (gA G 24 0), .int a1, .int a2, .int a3] v post := by
  refine CI.of (ty := .int) (cc := cX10_senderOf) (maxL := 5) (by decide) rfl (Nat.le_of_ble_eq_true rfl) (fun X o rt => ?_)
  unfold wp_X10_senderOf at h
  show J l G X 0 [(0, .ref (gA G 24 0)), (1, .int a1), (2, .int a2), (3, .int a3)] [] v
  refine q_iconst o dX10_senderOf_0 (x := (0 : Int32)) (by decide) ?_
  refine q_istore o (lv' := [(4, .int (0 : Int32)), (0, .ref (gA G 24 0)), (1, .int a1), (2, .int a2), (3, .int a3)]) dX10_senderOf_1 (by decide) rfl ?_
  refine q_lv [1, 2, 3, 4, 0] rfl ?_
  exact aL_X10_senderOf_3 o rt FU a1 a2 a3 (0 : Int32) v h
theorem pd_X10_senderOf : (parseMethodDescriptor yX10_senderOf.desc).map (fun d => d.parameters.length) = some 3 := by decide +kernel
-- PieceSwarmModel.count([ZII)I
def wB_X10_count_51_6 (post : (Int32 → St3 → Prop)) (K6 : Int32 → Int32 → Int32 → Int32 → St3 → Prop) (a2 : Int32) (a3 : Int32) (a4 : Int32) (a5 : Int32) (v : St3) : Prop := ((a3 ≤ a5 → post a4 v) ∧ (¬ a3 ≤ a5 → ∃ n1, n1 < 288 ∧ (a2 + a5) = nI n1 ∧ (((v 51 0 n1) = 0 → K6 a2 a3 (a4 + (0 : Int32)) (a5 + (1 : Int32)) v) ∧ (¬ (v 51 0 n1) = 0 → K6 a2 a3 (a4 + (1 : Int32)) (a5 + (1 : Int32)) v))))
def wL_X10_count_51_6 (post : (Int32 → St3 → Prop)) : Nat → Int32 → Int32 → Int32 → Int32 → St3 → Prop
  | 0, _, _, _, _, _ => False
  | f + 1, a2, a3, a4, a5, v => wB_X10_count_51_6 post (wL_X10_count_51_6 post f) a2 a3 a4 a5 v
set_option maxRecDepth 20000 in
set_option maxHeartbeats 4000000 in
theorem aL_X10_count_51_6 {l : Launch} {G : Geo} {X : CT} (o : OK G X cX10_count wsX10_count RX10 0 6) {post : (Int32 → St3 → Prop)} (rt : RI G X .int post) : ∀ (f : Nat) (a2 : Int32) (a3 : Int32) (a4 : Int32) (a5 : Int32) (v : St3), wL_X10_count_51_6 post f a2 a3 a4 a5 v → J l G X 6 [(1, .ref (gA G 51 0)), (2, .int a2), (3, .int a3), (4, .int a4), (5, .int a5)] [] v := by
  intro f
  induction f with
  | zero => intro _ _ _ _ _ h; exact False.elim h
  | succ f hK6 =>
  intro a2 a3 a4 a5 v h
  have h : wB_X10_count_51_6 post (wL_X10_count_51_6 post f) a2 a3 a4 a5 v := h
  unfold wB_X10_count_51_6 at h
  refine q_iload o dX10_count_6 rfl ?_
  refine q_iload_n o dX10_count_8 rfl ?_
  refine q_ic_ge o 37 dX10_count_9 (by decide) (fun c5 => ?_) (fun c5 => ?_)
  · have h := h.1 c5
    refine q_iload o dX10_count_37 rfl ?_
    exact q_iret o rt dX10_count_39 h
  · have h := h.2 c5
    refine q_iload o dX10_count_12 rfl ?_
    refine q_aload_n o dX10_count_14 rfl ?_
    refine q_iload_n o dX10_count_15 rfl ?_
    refine q_iload o dX10_count_16 rfl ?_
    refine q_iadd o dX10_count_18 ?_
    obtain ⟨n1, hn2, hx3, h⟩ := h
    refine q_zald (m := 287) o rfl rfl (by decide) hn2 hx3 dX10_count_19 ?_
    refine q_if_eq o 27 dX10_count_20 (by decide) (fun c4 => ?_) (fun c4 => ?_)
    · have h := h.1 c4
      refine q_iconst o dX10_count_27 (x := (0 : Int32)) (by decide) ?_
      refine q_iadd o dX10_count_28 ?_
      refine q_istore o (lv' := [(4, .int (a4 + (0 : Int32))), (1, .ref (gA G 51 0)), (2, .int a2), (3, .int a3), (5, .int a5)]) dX10_count_29 (by decide) rfl ?_
      refine q_iinc o (y := (a5 + (1 : Int32))) (lv' := [(5, .int (a5 + (1 : Int32))), (4, .int (a4 + (0 : Int32))), (1, .ref (gA G 51 0)), (2, .int a2), (3, .int a3)]) dX10_count_31 rfl rfl (by decide) rfl ?_
      refine q_goto o 6 dX10_count_34 (by decide) ?_
      refine q_lv [2, 3, 4, 1, 0] rfl ?_
      exact hK6 a2 a3 (a4 + (0 : Int32)) (a5 + (1 : Int32)) v h
    · have h := h.2 c4
      refine q_iconst o dX10_count_23 (x := (1 : Int32)) (by decide) ?_
      refine q_goto o 28 dX10_count_24 (by decide) ?_
      refine q_iadd o dX10_count_28 ?_
      refine q_istore o (lv' := [(4, .int (a4 + (1 : Int32))), (1, .ref (gA G 51 0)), (2, .int a2), (3, .int a3), (5, .int a5)]) dX10_count_29 (by decide) rfl ?_
      refine q_iinc o (y := (a5 + (1 : Int32))) (lv' := [(5, .int (a5 + (1 : Int32))), (4, .int (a4 + (1 : Int32))), (1, .ref (gA G 51 0)), (2, .int a2), (3, .int a3)]) dX10_count_31 rfl rfl (by decide) rfl ?_
      refine q_goto o 6 dX10_count_34 (by decide) ?_
      refine q_lv [2, 3, 4, 1, 0] rfl ?_
      exact hK6 a2 a3 (a4 + (1 : Int32)) (a5 + (1 : Int32)) v h
def wp_X10_count_51 (a2 : Int32) (a3 : Int32) (v : St3) (post : (Int32 → St3 → Prop)) : Prop := wL_X10_count_51_6 post FU a2 a3 (0 : Int32) (0 : Int32) v
set_option maxRecDepth 20000 in
set_option maxHeartbeats 4000000 in
theorem ad_X10_count_51 (l : Launch) (G : Geo) (a2 : Int32) (a3 : Int32) (v : St3) {post : (Int32 → St3 → Prop)} (h : wp_X10_count_51 a2 a3 v post) : CI l G yX10_count wsX10_count 0 [.ref (gA G 24 0), .ref (gA G 51 0), .int a2, .int a3] v post := by
  refine CI.of (ty := .int) (cc := cX10_count) (maxL := 6) (by decide) rfl (Nat.le_of_ble_eq_true rfl) (fun X o rt => ?_)
  unfold wp_X10_count_51 at h
  show J l G X 0 [(0, .ref (gA G 24 0)), (1, .ref (gA G 51 0)), (2, .int a2), (3, .int a3)] [] v
  refine q_iconst o dX10_count_0 (x := (0 : Int32)) (by decide) ?_
  refine q_istore o (lv' := [(4, .int (0 : Int32)), (0, .ref (gA G 24 0)), (1, .ref (gA G 51 0)), (2, .int a2), (3, .int a3)]) dX10_count_1 (by decide) rfl ?_
  refine q_iconst o dX10_count_3 (x := (0 : Int32)) (by decide) ?_
  refine q_istore o (lv' := [(5, .int (0 : Int32)), (4, .int (0 : Int32)), (0, .ref (gA G 24 0)), (1, .ref (gA G 51 0)), (2, .int a2), (3, .int a3)]) dX10_count_4 (by decide) rfl ?_
  refine q_lv [3, 4, 5, 1, 0] rfl ?_
  exact aL_X10_count_51_6 o rt FU a2 a3 (0 : Int32) (0 : Int32) v h
theorem pd_X10_count : (parseMethodDescriptor yX10_count.desc).map (fun d => d.parameters.length) = some 3 := by decide +kernel
-- PieceSwarmModel.count([ZII)I
def wB_X10_count_57_6 (post : (Int32 → St3 → Prop)) (K6 : Int32 → Int32 → Int32 → Int32 → St3 → Prop) (a2 : Int32) (a3 : Int32) (a4 : Int32) (a5 : Int32) (v : St3) : Prop := ((a3 ≤ a5 → post a4 v) ∧ (¬ a3 ≤ a5 → ∃ n1, n1 < 144 ∧ (a2 + a5) = nI n1 ∧ (((v 57 0 n1) = 0 → K6 a2 a3 (a4 + (0 : Int32)) (a5 + (1 : Int32)) v) ∧ (¬ (v 57 0 n1) = 0 → K6 a2 a3 (a4 + (1 : Int32)) (a5 + (1 : Int32)) v))))
def wL_X10_count_57_6 (post : (Int32 → St3 → Prop)) : Nat → Int32 → Int32 → Int32 → Int32 → St3 → Prop
  | 0, _, _, _, _, _ => False
  | f + 1, a2, a3, a4, a5, v => wB_X10_count_57_6 post (wL_X10_count_57_6 post f) a2 a3 a4 a5 v
set_option maxRecDepth 20000 in
set_option maxHeartbeats 4000000 in
theorem aL_X10_count_57_6 {l : Launch} {G : Geo} {X : CT} (o : OK G X cX10_count wsX10_count RX10 0 6) {post : (Int32 → St3 → Prop)} (rt : RI G X .int post) : ∀ (f : Nat) (a2 : Int32) (a3 : Int32) (a4 : Int32) (a5 : Int32) (v : St3), wL_X10_count_57_6 post f a2 a3 a4 a5 v → J l G X 6 [(1, .ref (gA G 57 0)), (2, .int a2), (3, .int a3), (4, .int a4), (5, .int a5)] [] v := by
  intro f
  induction f with
  | zero => intro _ _ _ _ _ h; exact False.elim h
  | succ f hK6 =>
  intro a2 a3 a4 a5 v h
  have h : wB_X10_count_57_6 post (wL_X10_count_57_6 post f) a2 a3 a4 a5 v := h
  unfold wB_X10_count_57_6 at h
  refine q_iload o dX10_count_6 rfl ?_
  refine q_iload_n o dX10_count_8 rfl ?_
  refine q_ic_ge o 37 dX10_count_9 (by decide) (fun c5 => ?_) (fun c5 => ?_)
  · have h := h.1 c5
    refine q_iload o dX10_count_37 rfl ?_
    exact q_iret o rt dX10_count_39 h
  · have h := h.2 c5
    refine q_iload o dX10_count_12 rfl ?_
    refine q_aload_n o dX10_count_14 rfl ?_
    refine q_iload_n o dX10_count_15 rfl ?_
    refine q_iload o dX10_count_16 rfl ?_
    refine q_iadd o dX10_count_18 ?_
    obtain ⟨n1, hn2, hx3, h⟩ := h
    refine q_zald (m := 143) o rfl rfl (by decide) hn2 hx3 dX10_count_19 ?_
    refine q_if_eq o 27 dX10_count_20 (by decide) (fun c4 => ?_) (fun c4 => ?_)
    · have h := h.1 c4
      refine q_iconst o dX10_count_27 (x := (0 : Int32)) (by decide) ?_
      refine q_iadd o dX10_count_28 ?_
      refine q_istore o (lv' := [(4, .int (a4 + (0 : Int32))), (1, .ref (gA G 57 0)), (2, .int a2), (3, .int a3), (5, .int a5)]) dX10_count_29 (by decide) rfl ?_
      refine q_iinc o (y := (a5 + (1 : Int32))) (lv' := [(5, .int (a5 + (1 : Int32))), (4, .int (a4 + (0 : Int32))), (1, .ref (gA G 57 0)), (2, .int a2), (3, .int a3)]) dX10_count_31 rfl rfl (by decide) rfl ?_
      refine q_goto o 6 dX10_count_34 (by decide) ?_
      refine q_lv [2, 3, 4, 1, 0] rfl ?_
      exact hK6 a2 a3 (a4 + (0 : Int32)) (a5 + (1 : Int32)) v h
    · have h := h.2 c4
      refine q_iconst o dX10_count_23 (x := (1 : Int32)) (by decide) ?_
      refine q_goto o 28 dX10_count_24 (by decide) ?_
      refine q_iadd o dX10_count_28 ?_
      refine q_istore o (lv' := [(4, .int (a4 + (1 : Int32))), (1, .ref (gA G 57 0)), (2, .int a2), (3, .int a3), (5, .int a5)]) dX10_count_29 (by decide) rfl ?_
      refine q_iinc o (y := (a5 + (1 : Int32))) (lv' := [(5, .int (a5 + (1 : Int32))), (4, .int (a4 + (1 : Int32))), (1, .ref (gA G 57 0)), (2, .int a2), (3, .int a3)]) dX10_count_31 rfl rfl (by decide) rfl ?_
      refine q_goto o 6 dX10_count_34 (by decide) ?_
      refine q_lv [2, 3, 4, 1, 0] rfl ?_
      exact hK6 a2 a3 (a4 + (1 : Int32)) (a5 + (1 : Int32)) v h
def wp_X10_count_57 (a2 : Int32) (a3 : Int32) (v : St3) (post : (Int32 → St3 → Prop)) : Prop := wL_X10_count_57_6 post FU a2 a3 (0 : Int32) (0 : Int32) v
set_option maxRecDepth 20000 in
set_option maxHeartbeats 4000000 in
theorem ad_X10_count_57 (l : Launch) (G : Geo) (a2 : Int32) (a3 : Int32) (v : St3) {post : (Int32 → St3 → Prop)} (h : wp_X10_count_57 a2 a3 v post) : CI l G yX10_count wsX10_count 0 [.ref (gA G 24 0), .ref (gA G 57 0), .int a2, .int a3] v post := by
  refine CI.of (ty := .int) (cc := cX10_count) (maxL := 6) (by decide) rfl (Nat.le_of_ble_eq_true rfl) (fun X o rt => ?_)
  unfold wp_X10_count_57 at h
  show J l G X 0 [(0, .ref (gA G 24 0)), (1, .ref (gA G 57 0)), (2, .int a2), (3, .int a3)] [] v
  refine q_iconst o dX10_count_0 (x := (0 : Int32)) (by decide) ?_
  refine q_istore o (lv' := [(4, .int (0 : Int32)), (0, .ref (gA G 24 0)), (1, .ref (gA G 57 0)), (2, .int a2), (3, .int a3)]) dX10_count_1 (by decide) rfl ?_
  refine q_iconst o dX10_count_3 (x := (0 : Int32)) (by decide) ?_
  refine q_istore o (lv' := [(5, .int (0 : Int32)), (4, .int (0 : Int32)), (0, .ref (gA G 24 0)), (1, .ref (gA G 57 0)), (2, .int a2), (3, .int a3)]) dX10_count_4 (by decide) rfl ?_
  refine q_lv [3, 4, 5, 1, 0] rfl ?_
  exact aL_X10_count_57_6 o rt FU a2 a3 (0 : Int32) (0 : Int32) v h
-- PieceSwarmModel.count([ZII)I
def wB_X10_count_55_6 (post : (Int32 → St3 → Prop)) (K6 : Int32 → Int32 → Int32 → Int32 → St3 → Prop) (a2 : Int32) (a3 : Int32) (a4 : Int32) (a5 : Int32) (v : St3) : Prop := ((a3 ≤ a5 → post a4 v) ∧ (¬ a3 ≤ a5 → ∃ n1, n1 < 144 ∧ (a2 + a5) = nI n1 ∧ (((v 55 0 n1) = 0 → K6 a2 a3 (a4 + (0 : Int32)) (a5 + (1 : Int32)) v) ∧ (¬ (v 55 0 n1) = 0 → K6 a2 a3 (a4 + (1 : Int32)) (a5 + (1 : Int32)) v))))
def wL_X10_count_55_6 (post : (Int32 → St3 → Prop)) : Nat → Int32 → Int32 → Int32 → Int32 → St3 → Prop
  | 0, _, _, _, _, _ => False
  | f + 1, a2, a3, a4, a5, v => wB_X10_count_55_6 post (wL_X10_count_55_6 post f) a2 a3 a4 a5 v
set_option maxRecDepth 20000 in
set_option maxHeartbeats 4000000 in
theorem aL_X10_count_55_6 {l : Launch} {G : Geo} {X : CT} (o : OK G X cX10_count wsX10_count RX10 0 6) {post : (Int32 → St3 → Prop)} (rt : RI G X .int post) : ∀ (f : Nat) (a2 : Int32) (a3 : Int32) (a4 : Int32) (a5 : Int32) (v : St3), wL_X10_count_55_6 post f a2 a3 a4 a5 v → J l G X 6 [(1, .ref (gA G 55 0)), (2, .int a2), (3, .int a3), (4, .int a4), (5, .int a5)] [] v := by
  intro f
  induction f with
  | zero => intro _ _ _ _ _ h; exact False.elim h
  | succ f hK6 =>
  intro a2 a3 a4 a5 v h
  have h : wB_X10_count_55_6 post (wL_X10_count_55_6 post f) a2 a3 a4 a5 v := h
  unfold wB_X10_count_55_6 at h
  refine q_iload o dX10_count_6 rfl ?_
  refine q_iload_n o dX10_count_8 rfl ?_
  refine q_ic_ge o 37 dX10_count_9 (by decide) (fun c5 => ?_) (fun c5 => ?_)
  · have h := h.1 c5
    refine q_iload o dX10_count_37 rfl ?_
    exact q_iret o rt dX10_count_39 h
  · have h := h.2 c5
    refine q_iload o dX10_count_12 rfl ?_
    refine q_aload_n o dX10_count_14 rfl ?_
    refine q_iload_n o dX10_count_15 rfl ?_
    refine q_iload o dX10_count_16 rfl ?_
    refine q_iadd o dX10_count_18 ?_
    obtain ⟨n1, hn2, hx3, h⟩ := h
    refine q_zald (m := 143) o rfl rfl (by decide) hn2 hx3 dX10_count_19 ?_
    refine q_if_eq o 27 dX10_count_20 (by decide) (fun c4 => ?_) (fun c4 => ?_)
    · have h := h.1 c4
      refine q_iconst o dX10_count_27 (x := (0 : Int32)) (by decide) ?_
      refine q_iadd o dX10_count_28 ?_
      refine q_istore o (lv' := [(4, .int (a4 + (0 : Int32))), (1, .ref (gA G 55 0)), (2, .int a2), (3, .int a3), (5, .int a5)]) dX10_count_29 (by decide) rfl ?_
      refine q_iinc o (y := (a5 + (1 : Int32))) (lv' := [(5, .int (a5 + (1 : Int32))), (4, .int (a4 + (0 : Int32))), (1, .ref (gA G 55 0)), (2, .int a2), (3, .int a3)]) dX10_count_31 rfl rfl (by decide) rfl ?_
      refine q_goto o 6 dX10_count_34 (by decide) ?_
      refine q_lv [2, 3, 4, 1, 0] rfl ?_
      exact hK6 a2 a3 (a4 + (0 : Int32)) (a5 + (1 : Int32)) v h
    · have h := h.2 c4
      refine q_iconst o dX10_count_23 (x := (1 : Int32)) (by decide) ?_
      refine q_goto o 28 dX10_count_24 (by decide) ?_
      refine q_iadd o dX10_count_28 ?_
      refine q_istore o (lv' := [(4, .int (a4 + (1 : Int32))), (1, .ref (gA G 55 0)), (2, .int a2), (3, .int a3), (5, .int a5)]) dX10_count_29 (by decide) rfl ?_
      refine q_iinc o (y := (a5 + (1 : Int32))) (lv' := [(5, .int (a5 + (1 : Int32))), (4, .int (a4 + (1 : Int32))), (1, .ref (gA G 55 0)), (2, .int a2), (3, .int a3)]) dX10_count_31 rfl rfl (by decide) rfl ?_
      refine q_goto o 6 dX10_count_34 (by decide) ?_
      refine q_lv [2, 3, 4, 1, 0] rfl ?_
      exact hK6 a2 a3 (a4 + (1 : Int32)) (a5 + (1 : Int32)) v h
def wp_X10_count_55 (a2 : Int32) (a3 : Int32) (v : St3) (post : (Int32 → St3 → Prop)) : Prop := wL_X10_count_55_6 post FU a2 a3 (0 : Int32) (0 : Int32) v
set_option maxRecDepth 20000 in
set_option maxHeartbeats 4000000 in
theorem ad_X10_count_55 (l : Launch) (G : Geo) (a2 : Int32) (a3 : Int32) (v : St3) {post : (Int32 → St3 → Prop)} (h : wp_X10_count_55 a2 a3 v post) : CI l G yX10_count wsX10_count 0 [.ref (gA G 24 0), .ref (gA G 55 0), .int a2, .int a3] v post := by
  refine CI.of (ty := .int) (cc := cX10_count) (maxL := 6) (by decide) rfl (Nat.le_of_ble_eq_true rfl) (fun X o rt => ?_)
  unfold wp_X10_count_55 at h
  show J l G X 0 [(0, .ref (gA G 24 0)), (1, .ref (gA G 55 0)), (2, .int a2), (3, .int a3)] [] v
  refine q_iconst o dX10_count_0 (x := (0 : Int32)) (by decide) ?_
  refine q_istore o (lv' := [(4, .int (0 : Int32)), (0, .ref (gA G 24 0)), (1, .ref (gA G 55 0)), (2, .int a2), (3, .int a3)]) dX10_count_1 (by decide) rfl ?_
  refine q_iconst o dX10_count_3 (x := (0 : Int32)) (by decide) ?_
  refine q_istore o (lv' := [(5, .int (0 : Int32)), (4, .int (0 : Int32)), (0, .ref (gA G 24 0)), (1, .ref (gA G 55 0)), (2, .int a2), (3, .int a3)]) dX10_count_4 (by decide) rfl ?_
  refine q_lv [3, 4, 5, 1, 0] rfl ?_
  exact aL_X10_count_55_6 o rt FU a2 a3 (0 : Int32) (0 : Int32) v h
-- PieceSwarmModel.count([ZII)I
def wB_X10_count_43_6 (post : (Int32 → St3 → Prop)) (K6 : Int32 → Int32 → Int32 → Int32 → St3 → Prop) (a2 : Int32) (a3 : Int32) (a4 : Int32) (a5 : Int32) (v : St3) : Prop := ((a3 ≤ a5 → post a4 v) ∧ (¬ a3 ≤ a5 → ∃ n1, n1 < 12 ∧ (a2 + a5) = nI n1 ∧ (((v 43 0 n1) = 0 → K6 a2 a3 (a4 + (0 : Int32)) (a5 + (1 : Int32)) v) ∧ (¬ (v 43 0 n1) = 0 → K6 a2 a3 (a4 + (1 : Int32)) (a5 + (1 : Int32)) v))))
def wL_X10_count_43_6 (post : (Int32 → St3 → Prop)) : Nat → Int32 → Int32 → Int32 → Int32 → St3 → Prop
  | 0, _, _, _, _, _ => False
  | f + 1, a2, a3, a4, a5, v => wB_X10_count_43_6 post (wL_X10_count_43_6 post f) a2 a3 a4 a5 v
set_option maxRecDepth 20000 in
set_option maxHeartbeats 4000000 in
theorem aL_X10_count_43_6 {l : Launch} {G : Geo} {X : CT} (o : OK G X cX10_count wsX10_count RX10 0 6) {post : (Int32 → St3 → Prop)} (rt : RI G X .int post) : ∀ (f : Nat) (a2 : Int32) (a3 : Int32) (a4 : Int32) (a5 : Int32) (v : St3), wL_X10_count_43_6 post f a2 a3 a4 a5 v → J l G X 6 [(1, .ref (gA G 43 0)), (2, .int a2), (3, .int a3), (4, .int a4), (5, .int a5)] [] v := by
  intro f
  induction f with
  | zero => intro _ _ _ _ _ h; exact False.elim h
  | succ f hK6 =>
  intro a2 a3 a4 a5 v h
  have h : wB_X10_count_43_6 post (wL_X10_count_43_6 post f) a2 a3 a4 a5 v := h
  unfold wB_X10_count_43_6 at h
  refine q_iload o dX10_count_6 rfl ?_
  refine q_iload_n o dX10_count_8 rfl ?_
  refine q_ic_ge o 37 dX10_count_9 (by decide) (fun c5 => ?_) (fun c5 => ?_)
  · have h := h.1 c5
    refine q_iload o dX10_count_37 rfl ?_
    exact q_iret o rt dX10_count_39 h
  · have h := h.2 c5
    refine q_iload o dX10_count_12 rfl ?_
    refine q_aload_n o dX10_count_14 rfl ?_
    refine q_iload_n o dX10_count_15 rfl ?_
    refine q_iload o dX10_count_16 rfl ?_
    refine q_iadd o dX10_count_18 ?_
    obtain ⟨n1, hn2, hx3, h⟩ := h
    refine q_zald (m := 11) o rfl rfl (by decide) hn2 hx3 dX10_count_19 ?_
    refine q_if_eq o 27 dX10_count_20 (by decide) (fun c4 => ?_) (fun c4 => ?_)
    · have h := h.1 c4
      refine q_iconst o dX10_count_27 (x := (0 : Int32)) (by decide) ?_
      refine q_iadd o dX10_count_28 ?_
      refine q_istore o (lv' := [(4, .int (a4 + (0 : Int32))), (1, .ref (gA G 43 0)), (2, .int a2), (3, .int a3), (5, .int a5)]) dX10_count_29 (by decide) rfl ?_
      refine q_iinc o (y := (a5 + (1 : Int32))) (lv' := [(5, .int (a5 + (1 : Int32))), (4, .int (a4 + (0 : Int32))), (1, .ref (gA G 43 0)), (2, .int a2), (3, .int a3)]) dX10_count_31 rfl rfl (by decide) rfl ?_
      refine q_goto o 6 dX10_count_34 (by decide) ?_
      refine q_lv [2, 3, 4, 1, 0] rfl ?_
      exact hK6 a2 a3 (a4 + (0 : Int32)) (a5 + (1 : Int32)) v h
    · have h := h.2 c4
      refine q_iconst o dX10_count_23 (x := (1 : Int32)) (by decide) ?_
      refine q_goto o 28 dX10_count_24 (by decide) ?_
      refine q_iadd o dX10_count_28 ?_
      refine q_istore o (lv' := [(4, .int (a4 + (1 : Int32))), (1, .ref (gA G 43 0)), (2, .int a2), (3, .int a3), (5, .int a5)]) dX10_count_29 (by decide) rfl ?_
      refine q_iinc o (y := (a5 + (1 : Int32))) (lv' := [(5, .int (a5 + (1 : Int32))), (4, .int (a4 + (1 : Int32))), (1, .ref (gA G 43 0)), (2, .int a2), (3, .int a3)]) dX10_count_31 rfl rfl (by decide) rfl ?_
      refine q_goto o 6 dX10_count_34 (by decide) ?_
      refine q_lv [2, 3, 4, 1, 0] rfl ?_
      exact hK6 a2 a3 (a4 + (1 : Int32)) (a5 + (1 : Int32)) v h
def wp_X10_count_43 (a2 : Int32) (a3 : Int32) (v : St3) (post : (Int32 → St3 → Prop)) : Prop := wL_X10_count_43_6 post FU a2 a3 (0 : Int32) (0 : Int32) v
set_option maxRecDepth 20000 in
set_option maxHeartbeats 4000000 in
theorem ad_X10_count_43 (l : Launch) (G : Geo) (a2 : Int32) (a3 : Int32) (v : St3) {post : (Int32 → St3 → Prop)} (h : wp_X10_count_43 a2 a3 v post) : CI l G yX10_count wsX10_count 0 [.ref (gA G 24 0), .ref (gA G 43 0), .int a2, .int a3] v post := by
  refine CI.of (ty := .int) (cc := cX10_count) (maxL := 6) (by decide) rfl (Nat.le_of_ble_eq_true rfl) (fun X o rt => ?_)
  unfold wp_X10_count_43 at h
  show J l G X 0 [(0, .ref (gA G 24 0)), (1, .ref (gA G 43 0)), (2, .int a2), (3, .int a3)] [] v
  refine q_iconst o dX10_count_0 (x := (0 : Int32)) (by decide) ?_
  refine q_istore o (lv' := [(4, .int (0 : Int32)), (0, .ref (gA G 24 0)), (1, .ref (gA G 43 0)), (2, .int a2), (3, .int a3)]) dX10_count_1 (by decide) rfl ?_
  refine q_iconst o dX10_count_3 (x := (0 : Int32)) (by decide) ?_
  refine q_istore o (lv' := [(5, .int (0 : Int32)), (4, .int (0 : Int32)), (0, .ref (gA G 24 0)), (1, .ref (gA G 43 0)), (2, .int a2), (3, .int a3)]) dX10_count_4 (by decide) rfl ?_
  refine q_lv [3, 4, 5, 1, 0] rfl ?_
  exact aL_X10_count_43_6 o rt FU a2 a3 (0 : Int32) (0 : Int32) v h
-- PieceSwarmModel.comingTo(I)I
theorem inn_X10_comingTo_X10 : ∀ w ∈ wsX100, w ∈ wsX10_comingTo := by decide +kernel
theorem sf_X10_comingTo_170 : SF wsX10_comingTo RX10 170 24 34 0 := ⟨RX10, TX10, 45, rfl, rfl, rfl, rfl, by decide, inn_X10_comingTo_X10, by decide +kernel⟩
theorem sf_X10_comingTo_90 : SF wsX10_comingTo RX10 90 24 35 65 := ⟨RX10, TX10, 45, rfl, rfl, rfl, rfl, by decide, inn_X10_comingTo_X10, by decide +kernel⟩
def wB_X10_comingTo_4 (post : (Int32 → St3 → Prop)) (K4 : Int32 → Int32 → Int32 → St3 → Prop) (a1 : Int32) (a2 : Int32) (a3 : Int32) (v : St3) : Prop := (((v 24 0 34) ≤ a3 → post a2 v) ∧ (¬ (v 24 0 34) ≤ a3 → ∃ n1, n1 < 400 ∧ a3 = nI n1 ∧ ((¬ (v 65 0 n1) = a1 → K4 a1 (a2 + (0 : Int32)) (a3 + (1 : Int32)) v) ∧ ((v 65 0 n1) = a1 → K4 a1 (a2 + (1 : Int32)) (a3 + (1 : Int32)) v))))
def wL_X10_comingTo_4 (post : (Int32 → St3 → Prop)) : Nat → Int32 → Int32 → Int32 → St3 → Prop
  | 0, _, _, _, _ => False
  | f + 1, a1, a2, a3, v => wB_X10_comingTo_4 post (wL_X10_comingTo_4 post f) a1 a2 a3 v
set_option maxRecDepth 20000 in
set_option maxHeartbeats 4000000 in
theorem aL_X10_comingTo_4 {l : Launch} {G : Geo} {X : CT} (o : OK G X cX10_comingTo wsX10_comingTo RX10 0 4) {post : (Int32 → St3 → Prop)} (rt : RI G X .int post) : ∀ (f : Nat) (a1 : Int32) (a2 : Int32) (a3 : Int32) (v : St3), wL_X10_comingTo_4 post f a1 a2 a3 v → J l G X 4 [(0, .ref (gA G 24 0)), (1, .int a1), (2, .int a2), (3, .int a3)] [] v := by
  intro f
  induction f with
  | zero => intro _ _ _ _ h; exact False.elim h
  | succ f hK4 =>
  intro a1 a2 a3 v h
  have h : wB_X10_comingTo_4 post (wL_X10_comingTo_4 post f) a1 a2 a3 v := h
  unfold wB_X10_comingTo_4 at h
  refine q_iload_n o dX10_comingTo_4 rfl ?_
  refine q_aload_n o dX10_comingTo_5 rfl ?_
  refine q_getI o sf_X10_comingTo_170 (by decide) dX10_comingTo_6 ?_
  refine q_ic_ge o 36 dX10_comingTo_9 (by decide) (fun c5 => ?_) (fun c5 => ?_)
  · have h := h.1 c5
    refine q_iload_n o dX10_comingTo_36 rfl ?_
    exact q_iret o rt dX10_comingTo_37 h
  · have h := h.2 c5
    refine q_iload_n o dX10_comingTo_12 rfl ?_
    refine q_aload_n o dX10_comingTo_13 rfl ?_
    refine q_getR (q := 64) o sf_X10_comingTo_90 (by decide) dX10_comingTo_14 ?_
    refine q_iload_n o dX10_comingTo_17 rfl ?_
    obtain ⟨n1, hn2, hx3, h⟩ := h
    refine q_iald (m := 399) o rfl rfl (by decide) hn2 hx3 dX10_comingTo_18 ?_
    refine q_iload_n o dX10_comingTo_19 rfl ?_
    refine q_ic_ne o 27 dX10_comingTo_20 (by decide) (fun c4 => ?_) (fun c4 => ?_)
    · have h := h.1 c4
      refine q_iconst o dX10_comingTo_27 (x := (0 : Int32)) (by decide) ?_
      refine q_iadd o dX10_comingTo_28 ?_
      refine q_istore_n o (lv' := [(2, .int (a2 + (0 : Int32))), (0, .ref (gA G 24 0)), (1, .int a1), (3, .int a3)]) dX10_comingTo_29 (by decide) rfl ?_
      refine q_iinc o (y := (a3 + (1 : Int32))) (lv' := [(3, .int (a3 + (1 : Int32))), (2, .int (a2 + (0 : Int32))), (0, .ref (gA G 24 0)), (1, .int a1)]) dX10_comingTo_30 rfl rfl (by decide) rfl ?_
      refine q_goto o 4 dX10_comingTo_33 (by decide) ?_
      refine q_lv [2, 3, 1, 0] rfl ?_
      exact hK4 a1 (a2 + (0 : Int32)) (a3 + (1 : Int32)) v h
    · have h := h.2 c4
      refine q_iconst o dX10_comingTo_23 (x := (1 : Int32)) (by decide) ?_
      refine q_goto o 28 dX10_comingTo_24 (by decide) ?_
      refine q_iadd o dX10_comingTo_28 ?_
      refine q_istore_n o (lv' := [(2, .int (a2 + (1 : Int32))), (0, .ref (gA G 24 0)), (1, .int a1), (3, .int a3)]) dX10_comingTo_29 (by decide) rfl ?_
      refine q_iinc o (y := (a3 + (1 : Int32))) (lv' := [(3, .int (a3 + (1 : Int32))), (2, .int (a2 + (1 : Int32))), (0, .ref (gA G 24 0)), (1, .int a1)]) dX10_comingTo_30 rfl rfl (by decide) rfl ?_
      refine q_goto o 4 dX10_comingTo_33 (by decide) ?_
      refine q_lv [2, 3, 1, 0] rfl ?_
      exact hK4 a1 (a2 + (1 : Int32)) (a3 + (1 : Int32)) v h
def wp_X10_comingTo (a1 : Int32) (v : St3) (post : (Int32 → St3 → Prop)) : Prop := wL_X10_comingTo_4 post FU a1 (0 : Int32) (0 : Int32) v
set_option maxRecDepth 20000 in
set_option maxHeartbeats 4000000 in
theorem ad_X10_comingTo (l : Launch) (G : Geo) (a1 : Int32) (v : St3) {post : (Int32 → St3 → Prop)} (h : wp_X10_comingTo a1 v post) : CI l G yX10_comingTo wsX10_comingTo 0 [.ref (gA G 24 0), .int a1] v post := by
  refine CI.of (ty := .int) (cc := cX10_comingTo) (maxL := 4) (by decide) rfl (Nat.le_of_ble_eq_true rfl) (fun X o rt => ?_)
  unfold wp_X10_comingTo at h
  show J l G X 0 [(0, .ref (gA G 24 0)), (1, .int a1)] [] v
  refine q_iconst o dX10_comingTo_0 (x := (0 : Int32)) (by decide) ?_
  refine q_istore_n o (lv' := [(2, .int (0 : Int32)), (0, .ref (gA G 24 0)), (1, .int a1)]) dX10_comingTo_1 (by decide) rfl ?_
  refine q_iconst o dX10_comingTo_2 (x := (0 : Int32)) (by decide) ?_
  refine q_istore_n o (lv' := [(3, .int (0 : Int32)), (2, .int (0 : Int32)), (0, .ref (gA G 24 0)), (1, .int a1)]) dX10_comingTo_3 (by decide) rfl ?_
  refine q_lv [2, 3, 1, 0] rfl ?_
  exact aL_X10_comingTo_4 o rt FU a1 (0 : Int32) (0 : Int32) v h
theorem pd_X10_comingTo : (parseMethodDescriptor yX10_comingTo.desc).map (fun d => d.parameters.length) = some 1 := by decide +kernel
-- PieceSwarmModel.owners(II)I
theorem inn_X10_owners_X10 : ∀ w ∈ wsX100, w ∈ wsX10_owners := by decide +kernel
theorem sf_X10_owners_136 : SF wsX10_owners RX10 136 24 4 0 := ⟨RX10, TX10, 45, rfl, rfl, rfl, rfl, by decide, inn_X10_owners_X10, by decide +kernel⟩
theorem sf_X10_owners_26 : SF wsX10_owners RX10 26 24 13 43 := ⟨RX10, TX10, 45, rfl, rfl, rfl, rfl, by decide, inn_X10_owners_X10, by decide +kernel⟩
theorem sf_X10_owners_48 : SF wsX10_owners RX10 48 24 20 50 := ⟨RX10, TX10, 45, rfl, rfl, rfl, rfl, by decide, inn_X10_owners_X10, by decide +kernel⟩
def wB_X10_owners_5 (post : (Int32 → St3 → Prop)) (K5 : Int32 → Int32 → Int32 → Int32 → St3 → Prop) (a1 : Int32) (a2 : Int32) (a3 : Int32) (a4 : Int32) (v : St3) : Prop := (((v 24 0 4) ≤ a4 → post a3 v) ∧ (¬ (v 24 0 4) ≤ a4 → ((a4 = a2 → K5 a1 a2 (a3 + (0 : Int32)) (a4 + (1 : Int32)) v) ∧ (¬ a4 = a2 → ∃ n1, n1 < 12 ∧ a4 = nI n1 ∧ (((v 43 0 n1) = 0 → K5 a1 a2 (a3 + (0 : Int32)) (a4 + (1 : Int32)) v) ∧ (¬ (v 43 0 n1) = 0 → ∃ n4, n4 < 288 ∧ (((24 : Int32) * a4) + a1) = nI n4 ∧ (((v 50 0 n4) = 0 → K5 a1 a2 (a3 + (0 : Int32)) (a4 + (1 : Int32)) v) ∧ (¬ (v 50 0 n4) = 0 → K5 a1 a2 (a3 + (1 : Int32)) (a4 + (1 : Int32)) v))))))))
def wL_X10_owners_5 (post : (Int32 → St3 → Prop)) : Nat → Int32 → Int32 → Int32 → Int32 → St3 → Prop
  | 0, _, _, _, _, _ => False
  | f + 1, a1, a2, a3, a4, v => wB_X10_owners_5 post (wL_X10_owners_5 post f) a1 a2 a3 a4 v
set_option maxRecDepth 20000 in
set_option maxHeartbeats 4000000 in
theorem aL_X10_owners_5 {l : Launch} {G : Geo} {X : CT} (o : OK G X cX10_owners wsX10_owners RX10 0 5) {post : (Int32 → St3 → Prop)} (rt : RI G X .int post) : ∀ (f : Nat) (a1 : Int32) (a2 : Int32) (a3 : Int32) (a4 : Int32) (v : St3), wL_X10_owners_5 post f a1 a2 a3 a4 v → J l G X 5 [(0, .ref (gA G 24 0)), (1, .int a1), (2, .int a2), (3, .int a3), (4, .int a4)] [] v := by
  intro f
  induction f with
  | zero => intro _ _ _ _ _ h; exact False.elim h
  | succ f hK5 =>
  intro a1 a2 a3 a4 v h
  have h : wB_X10_owners_5 post (wL_X10_owners_5 post f) a1 a2 a3 a4 v := h
  unfold wB_X10_owners_5 at h
  refine q_iload o dX10_owners_5 rfl ?_
  refine q_aload_n o dX10_owners_7 rfl ?_
  refine q_getI o sf_X10_owners_136 (by decide) dX10_owners_8 ?_
  refine q_ic_ge o 59 dX10_owners_11 (by decide) (fun c10 => ?_) (fun c10 => ?_)
  · have h := h.1 c10
    refine q_iload_n o dX10_owners_59 rfl ?_
    exact q_iret o rt dX10_owners_60 h
  · have h := h.2 c10
    refine q_iload_n o dX10_owners_14 rfl ?_
    refine q_iload o dX10_owners_15 rfl ?_
    refine q_iload_n o dX10_owners_17 rfl ?_
    refine q_ic_eq o 50 dX10_owners_18 (by decide) (fun c9 => ?_) (fun c9 => ?_)
    · have h := h.1 c9
      refine q_iconst o dX10_owners_50 (x := (0 : Int32)) (by decide) ?_
      refine q_iadd o dX10_owners_51 ?_
      refine q_istore_n o (lv' := [(3, .int (a3 + (0 : Int32))), (0, .ref (gA G 24 0)), (1, .int a1), (2, .int a2), (4, .int a4)]) dX10_owners_52 (by decide) rfl ?_
      refine q_iinc o (y := (a4 + (1 : Int32))) (lv' := [(4, .int (a4 + (1 : Int32))), (3, .int (a3 + (0 : Int32))), (0, .ref (gA G 24 0)), (1, .int a1), (2, .int a2)]) dX10_owners_53 rfl rfl (by decide) rfl ?_
      refine q_goto o 5 dX10_owners_56 (by decide) ?_
      refine q_lv [2, 3, 4, 1, 0] rfl ?_
      exact hK5 a1 a2 (a3 + (0 : Int32)) (a4 + (1 : Int32)) v h
    · have h := h.2 c9
      refine q_aload_n o dX10_owners_21 rfl ?_
      refine q_getR (q := 42) o sf_X10_owners_26 (by decide) dX10_owners_22 ?_
      refine q_iload o dX10_owners_25 rfl ?_
      obtain ⟨n1, hn2, hx3, h⟩ := h
      refine q_zald (m := 11) o rfl rfl (by decide) hn2 hx3 dX10_owners_27 ?_
      refine q_if_eq o 50 dX10_owners_28 (by decide) (fun c8 => ?_) (fun c8 => ?_)
      · have h := h.1 c8
        refine q_iconst o dX10_owners_50 (x := (0 : Int32)) (by decide) ?_
        refine q_iadd o dX10_owners_51 ?_
        refine q_istore_n o (lv' := [(3, .int (a3 + (0 : Int32))), (0, .ref (gA G 24 0)), (1, .int a1), (2, .int a2), (4, .int a4)]) dX10_owners_52 (by decide) rfl ?_
        refine q_iinc o (y := (a4 + (1 : Int32))) (lv' := [(4, .int (a4 + (1 : Int32))), (3, .int (a3 + (0 : Int32))), (0, .ref (gA G 24 0)), (1, .int a1), (2, .int a2)]) dX10_owners_53 rfl rfl (by decide) rfl ?_
        refine q_goto o 5 dX10_owners_56 (by decide) ?_
        refine q_lv [2, 3, 4, 1, 0] rfl ?_
        exact hK5 a1 a2 (a3 + (0 : Int32)) (a4 + (1 : Int32)) v h
      · have h := h.2 c8
        refine q_aload_n o dX10_owners_31 rfl ?_
        refine q_getR (q := 49) o sf_X10_owners_48 (by decide) dX10_owners_32 ?_
        refine q_bipush o dX10_owners_35 (x := (24 : Int32)) (by decide) ?_
        refine q_iload o dX10_owners_37 rfl ?_
        refine q_imul o dX10_owners_39 ?_
        refine q_iload_n o dX10_owners_40 rfl ?_
        refine q_iadd o dX10_owners_41 ?_
        obtain ⟨n4, hn5, hx6, h⟩ := h
        refine q_zald (m := 287) o rfl rfl (by decide) hn5 hx6 dX10_owners_42 ?_
        refine q_if_eq o 50 dX10_owners_43 (by decide) (fun c7 => ?_) (fun c7 => ?_)
        · have h := h.1 c7
          refine q_iconst o dX10_owners_50 (x := (0 : Int32)) (by decide) ?_
          refine q_iadd o dX10_owners_51 ?_
          refine q_istore_n o (lv' := [(3, .int (a3 + (0 : Int32))), (0, .ref (gA G 24 0)), (1, .int a1), (2, .int a2), (4, .int a4)]) dX10_owners_52 (by decide) rfl ?_
          refine q_iinc o (y := (a4 + (1 : Int32))) (lv' := [(4, .int (a4 + (1 : Int32))), (3, .int (a3 + (0 : Int32))), (0, .ref (gA G 24 0)), (1, .int a1), (2, .int a2)]) dX10_owners_53 rfl rfl (by decide) rfl ?_
          refine q_goto o 5 dX10_owners_56 (by decide) ?_
          refine q_lv [2, 3, 4, 1, 0] rfl ?_
          exact hK5 a1 a2 (a3 + (0 : Int32)) (a4 + (1 : Int32)) v h
        · have h := h.2 c7
          refine q_iconst o dX10_owners_46 (x := (1 : Int32)) (by decide) ?_
          refine q_goto o 51 dX10_owners_47 (by decide) ?_
          refine q_iadd o dX10_owners_51 ?_
          refine q_istore_n o (lv' := [(3, .int (a3 + (1 : Int32))), (0, .ref (gA G 24 0)), (1, .int a1), (2, .int a2), (4, .int a4)]) dX10_owners_52 (by decide) rfl ?_
          refine q_iinc o (y := (a4 + (1 : Int32))) (lv' := [(4, .int (a4 + (1 : Int32))), (3, .int (a3 + (1 : Int32))), (0, .ref (gA G 24 0)), (1, .int a1), (2, .int a2)]) dX10_owners_53 rfl rfl (by decide) rfl ?_
          refine q_goto o 5 dX10_owners_56 (by decide) ?_
          refine q_lv [2, 3, 4, 1, 0] rfl ?_
          exact hK5 a1 a2 (a3 + (1 : Int32)) (a4 + (1 : Int32)) v h
def wp_X10_owners (a1 : Int32) (a2 : Int32) (v : St3) (post : (Int32 → St3 → Prop)) : Prop := wL_X10_owners_5 post FU a1 a2 (0 : Int32) (0 : Int32) v
set_option maxRecDepth 20000 in
set_option maxHeartbeats 4000000 in
theorem ad_X10_owners (l : Launch) (G : Geo) (a1 : Int32) (a2 : Int32) (v : St3) {post : (Int32 → St3 → Prop)} (h : wp_X10_owners a1 a2 v post) : CI l G yX10_owners wsX10_owners 0 [.ref (gA G 24 0), .int a1, .int a2] v post := by
  refine CI.of (ty := .int) (cc := cX10_owners) (maxL := 5) (by decide) rfl (Nat.le_of_ble_eq_true rfl) (fun X o rt => ?_)
  unfold wp_X10_owners at h
  show J l G X 0 [(0, .ref (gA G 24 0)), (1, .int a1), (2, .int a2)] [] v
  refine q_iconst o dX10_owners_0 (x := (0 : Int32)) (by decide) ?_
  refine q_istore_n o (lv' := [(3, .int (0 : Int32)), (0, .ref (gA G 24 0)), (1, .int a1), (2, .int a2)]) dX10_owners_1 (by decide) rfl ?_
  refine q_iconst o dX10_owners_2 (x := (0 : Int32)) (by decide) ?_
  refine q_istore o (lv' := [(4, .int (0 : Int32)), (3, .int (0 : Int32)), (0, .ref (gA G 24 0)), (1, .int a1), (2, .int a2)]) dX10_owners_3 (by decide) rfl ?_
  refine q_lv [2, 3, 4, 1, 0] rfl ?_
  exact aL_X10_owners_5 o rt FU a1 a2 (0 : Int32) (0 : Int32) v h
theorem pd_X10_owners : (parseMethodDescriptor yX10_owners.desc).map (fun d => d.parameters.length) = some 2 := by decide +kernel
-- PieceSwarmModel.share(II)I
def wp_X10_share (a0 : Int32) (a1 : Int32) (v : St3) (post : (Int32 → St3 → Prop)) : Prop := ¬ a1 = 0 ∧ post (((a0 + a1) - (1 : Int32)) / a1) v
set_option maxRecDepth 20000 in
set_option maxHeartbeats 4000000 in
theorem ad_X10_share (l : Launch) (G : Geo) (a0 : Int32) (a1 : Int32) (v : St3) {post : (Int32 → St3 → Prop)} (h : wp_X10_share a0 a1 v post) : CI l G yX10_share wsX10_share 0 [.int a0, .int a1] v post := by
  refine CI.of (ty := .int) (cc := cX10_share) (maxL := 2) (by decide) rfl (Nat.le_of_ble_eq_true rfl) (fun X o rt => ?_)
  unfold wp_X10_share at h
  show J l G X 0 [(0, .int a0), (1, .int a1)] [] v
  refine q_iload_n o dX10_share_0 rfl ?_
  refine q_iload_n o dX10_share_1 rfl ?_
  refine q_iadd o dX10_share_2 ?_
  refine q_iconst o dX10_share_3 (x := (1 : Int32)) (by decide) ?_
  refine q_isub o dX10_share_4 ?_
  refine q_iload_n o dX10_share_5 rfl ?_
  obtain ⟨hz1, h⟩ := h
  refine q_idiv o dX10_share_6 hz1 ?_
  exact q_iret o rt dX10_share_7 h
theorem pd_X10_share : (parseMethodDescriptor yX10_share.desc).map (fun d => d.parameters.length) = some 2 := by decide +kernel
