-- PieceSwarm$Asking.dropStrandedOf(LPieceSwarm$Store;I)V
theorem inn_X1_dropStrandedOf_X6 : ∀ w ∈ wsX60, w ∈ wsX1_dropStrandedOf := by decide +kernel
theorem sf_X1_dropStrandedOf_46 : SF wsX1_dropStrandedOf RX1 46 15 4 0 := ⟨RX6, TX6, 6, rfl, rfl, rfl, rfl, by decide, inn_X1_dropStrandedOf_X6, by decide +kernel⟩
theorem sf_X1_dropStrandedOf_51 : SF wsX1_dropStrandedOf RX1 51 15 3 0 := ⟨RX6, TX6, 6, rfl, rfl, rfl, rfl, by decide, inn_X1_dropStrandedOf_X6, by decide +kernel⟩
theorem inn_X1_dropStrandedOf_X1 : ∀ w ∈ wsX10, w ∈ wsX1_dropStrandedOf := by decide +kernel
theorem sf_X1_dropStrandedOf_9 : SF wsX1_dropStrandedOf RX1 9 4 0 1 := ⟨RX1, TX1, 1, rfl, rfl, rfl, rfl, by decide, inn_X1_dropStrandedOf_X1, by decide +kernel⟩
theorem inn_X1_dropStrandedOf_X2 : ∀ w ∈ wsX20, w ∈ wsX1_dropStrandedOf := by decide +kernel
theorem sf_X1_dropStrandedOf_54 : SF wsX1_dropStrandedOf RX1 54 1 0 5 := ⟨RX2, TX2, 8, rfl, rfl, rfl, rfl, by decide, inn_X1_dropStrandedOf_X2, by decide +kernel⟩
theorem inn_X1_dropStrandedOf_X8 : ∀ w ∈ wsX80, w ∈ wsX1_dropStrandedOf := by decide +kernel
theorem sf_X1_dropStrandedOf_58 : SF wsX1_dropStrandedOf RX1 58 5 0 0 := ⟨RX8, TX8, 3, rfl, rfl, rfl, rfl, by decide, inn_X1_dropStrandedOf_X8, by decide +kernel⟩
theorem wini_X1_dropStrandedOf_X9_isIn : Cond.initialized yX9_isIn.cls ∈ wsX1_dropStrandedOf := by decide +kernel
theorem wsta_X1_dropStrandedOf_X9_isIn : Cond.static yX9_isIn ∈ wsX1_dropStrandedOf := by decide +kernel
def wB_X1_dropStrandedOf_15 (post : (St3 → Prop)) (K15 : Nat → Int32 → Int32 → Int32 → St3 → Prop) (i1 : Nat) (a2 : Int32) (a3 : Int32) (a4 : Int32) (v : St3) : Prop := (((v 5 0 0) ≤ a4 → post v) ∧ (¬ (v 5 0 0) ≤ a4 → wp_X9_isIn a3 a4 v (fun r2 v1 => ((r2 = 0 → K15 i1 a2 a3 (a4 + (1 : Int32)) v1) ∧ (¬ r2 = 0 → wp_X6_giversOf i1 a4 v1 (fun r4 v3 => (((r4 &&& (a2 ^^^ (-1 : Int32))) = 0 → K15 i1 a2 a3 (a4 + (1 : Int32)) v3) ∧ (¬ (r4 &&& (a2 ^^^ (-1 : Int32))) = 0 → wp_X6_drop i1 a4 v3 (fun v5 => K15 i1 a2 a3 (a4 + (1 : Int32)) v5)))))))))
def wL_X1_dropStrandedOf_15 (post : (St3 → Prop)) : Nat → Nat → Int32 → Int32 → Int32 → St3 → Prop
  | 0, _, _, _, _, _ => False
  | f + 1, i1, a2, a3, a4, v => wB_X1_dropStrandedOf_15 post (wL_X1_dropStrandedOf_15 post f) i1 a2 a3 a4 v
set_option maxRecDepth 20000 in
set_option maxHeartbeats 4000000 in
theorem aL_X1_dropStrandedOf_15 {l : Launch} {G : Geo} {X : CT} (o : OK G X cX1_dropStrandedOf wsX1_dropStrandedOf RX1 2 5) {post : (St3 → Prop)} (rt : RV G X post) : ∀ (f : Nat) (i1 : Nat) (a2 : Int32) (a3 : Int32) (a4 : Int32) (hi1 : i1 < 12) (v : St3), wL_X1_dropStrandedOf_15 post f i1 a2 a3 a4 v → J l G X 15 [(0, .ref (gA G 4 0)), (1, .ref (gA G 15 i1)), (2, .int a2), (3, .int a3), (4, .int a4)] [] v := by
  intro f
  induction f with
  | zero => intro _ _ _ _ _ _ h; exact False.elim h
  | succ f hK15 =>
  intro i1 a2 a3 a4 hi1 v h
  have h : wB_X1_dropStrandedOf_15 post (wL_X1_dropStrandedOf_15 post f) i1 a2 a3 a4 v := h
  unfold wB_X1_dropStrandedOf_15 at h
  refine q_iload o dX1_dropStrandedOf_15 rfl ?_
  refine q_aload_n o dX1_dropStrandedOf_17 rfl ?_
  refine q_getR (q := 0) o sf_X1_dropStrandedOf_9 (by decide) dX1_dropStrandedOf_18 ?_
  refine q_getR (q := 4) o sf_X1_dropStrandedOf_54 (by decide) dX1_dropStrandedOf_21 ?_
  refine q_getI o sf_X1_dropStrandedOf_58 (by decide) dX1_dropStrandedOf_24 ?_
  refine q_ic_ge o 64 dX1_dropStrandedOf_27 (by decide) (fun c9 => ?_) (fun c9 => ?_)
  · have h := h.1 c9
    exact q_vret o rt dX1_dropStrandedOf_64 h
  · have h := h.2 c9
    refine q_iload_n o dX1_dropStrandedOf_30 rfl ?_
    refine q_iload o dX1_dropStrandedOf_31 rfl ?_
    refine q_callN o [.int a3, .int a4] (ad_X9_isIn l G a3 a4 v h) gX1_dropStrandedOf_X9_isIn_n24 rfl (by decide +kernel) wini_X1_dropStrandedOf_X9_isIn wsta_X1_dropStrandedOf_X9_isIn ⟨by decide, by decide, pd_X9_isIn⟩ (by decide) (by decide) rfl (Nat.le_of_ble_eq_true rfl) dX1_dropStrandedOf_33 (fun r2 v1 h => ?_)
    refine q_if_eq o 58 dX1_dropStrandedOf_36 (by decide) (fun c8 => ?_) (fun c8 => ?_)
    · have h := h.1 c8
      refine q_iinc o (y := (a4 + (1 : Int32))) (lv' := [(4, .int (a4 + (1 : Int32))), (0, .ref (gA G 4 0)), (1, .ref (gA G 15 i1)), (2, .int a2), (3, .int a3)]) dX1_dropStrandedOf_58 rfl rfl (by decide) rfl ?_
      refine q_goto o 15 dX1_dropStrandedOf_61 (by decide) ?_
      refine q_lv [1, 2, 3, 4, 0] rfl ?_
      exact hK15 i1 a2 a3 (a4 + (1 : Int32)) hi1 v1 h
    · have h := h.2 c8
      refine q_aload_n o dX1_dropStrandedOf_39 rfl ?_
      refine q_iload o dX1_dropStrandedOf_40 rfl ?_
      refine q_callV o [.int a4] (ad_X6_giversOf l G i1 a4 hi1 v1 h) gX1_dropStrandedOf_X6_giversOf rfl rfl rfl rfl hi1 ⟨rfl, by decide, by decide, pd_X6_giversOf⟩ (by decide) (by decide) rfl (Nat.le_of_ble_eq_true rfl) dX1_dropStrandedOf_42 (fun r4 v3 h => ?_)
      refine q_iload_n o dX1_dropStrandedOf_45 rfl ?_
      refine q_iconst o dX1_dropStrandedOf_46 (x := (-1 : Int32)) (by decide) ?_
      refine q_ixor o dX1_dropStrandedOf_47 ?_
      refine q_iand o dX1_dropStrandedOf_48 ?_
      refine q_if_eq o 58 dX1_dropStrandedOf_49 (by decide) (fun c7 => ?_) (fun c7 => ?_)
      · have h := h.1 c7
        refine q_iinc o (y := (a4 + (1 : Int32))) (lv' := [(4, .int (a4 + (1 : Int32))), (0, .ref (gA G 4 0)), (1, .ref (gA G 15 i1)), (2, .int a2), (3, .int a3)]) dX1_dropStrandedOf_58 rfl rfl (by decide) rfl ?_
        refine q_goto o 15 dX1_dropStrandedOf_61 (by decide) ?_
        refine q_lv [1, 2, 3, 4, 0] rfl ?_
        exact hK15 i1 a2 a3 (a4 + (1 : Int32)) hi1 v3 h
      · have h := h.2 c7
        refine q_aload_n o dX1_dropStrandedOf_52 rfl ?_
        refine q_iload o dX1_dropStrandedOf_53 rfl ?_
        refine q_callVv o [.int a4] (ad_X6_drop l G i1 a4 hi1 v3 h) gX1_dropStrandedOf_X6_drop rfl rfl rfl rfl hi1 ⟨rfl, by decide, by decide, pd_X6_drop⟩ (by decide) (by decide) rfl (Nat.le_of_ble_eq_true rfl) dX1_dropStrandedOf_55 (fun v5 h => ?_)
        refine q_iinc o (y := (a4 + (1 : Int32))) (lv' := [(4, .int (a4 + (1 : Int32))), (0, .ref (gA G 4 0)), (1, .ref (gA G 15 i1)), (2, .int a2), (3, .int a3)]) dX1_dropStrandedOf_58 rfl rfl (by decide) rfl ?_
        refine q_goto o 15 dX1_dropStrandedOf_61 (by decide) ?_
        refine q_lv [1, 2, 3, 4, 0] rfl ?_
        exact hK15 i1 a2 a3 (a4 + (1 : Int32)) hi1 v5 h
def wp_X1_dropStrandedOf (i1 : Nat) (a2 : Int32) (v : St3) (post : (St3 → Prop)) : Prop := wL_X1_dropStrandedOf_15 post FU i1 a2 ((v 15 i1 4) &&& ((v 15 i1 3) ^^^ (-1 : Int32))) (0 : Int32) v
set_option maxRecDepth 20000 in
set_option maxHeartbeats 4000000 in
theorem ad_X1_dropStrandedOf (l : Launch) (G : Geo) (i1 : Nat) (a2 : Int32) (hi1 : i1 < 12) (v : St3) {post : (St3 → Prop)} (h : wp_X1_dropStrandedOf i1 a2 v post) : CV l G yX1_dropStrandedOf wsX1_dropStrandedOf 2 [.ref (gA G 4 0), .ref (gA G 15 i1), .int a2] v post := by
  refine CV.of (cc := cX1_dropStrandedOf) (maxL := 5) (by decide) rfl (Nat.le_of_ble_eq_true rfl) (fun X o rt => ?_)
  unfold wp_X1_dropStrandedOf at h
  show J l G X 0 [(0, .ref (gA G 4 0)), (1, .ref (gA G 15 i1)), (2, .int a2)] [] v
  refine q_aload_n o dX1_dropStrandedOf_0 rfl ?_
  refine q_getI o sf_X1_dropStrandedOf_46 hi1 dX1_dropStrandedOf_1 ?_
  refine q_aload_n o dX1_dropStrandedOf_4 rfl ?_
  refine q_getI o sf_X1_dropStrandedOf_51 hi1 dX1_dropStrandedOf_5 ?_
  refine q_iconst o dX1_dropStrandedOf_8 (x := (-1 : Int32)) (by decide) ?_
  refine q_ixor o dX1_dropStrandedOf_9 ?_
  refine q_iand o dX1_dropStrandedOf_10 ?_
  refine q_istore_n o (lv' := [(3, .int ((v 15 i1 4) &&& ((v 15 i1 3) ^^^ (-1 : Int32)))), (0, .ref (gA G 4 0)), (1, .ref (gA G 15 i1)), (2, .int a2)]) dX1_dropStrandedOf_11 (by decide) rfl ?_
  refine q_iconst o dX1_dropStrandedOf_12 (x := (0 : Int32)) (by decide) ?_
  refine q_istore o (lv' := [(4, .int (0 : Int32)), (3, .int ((v 15 i1 4) &&& ((v 15 i1 3) ^^^ (-1 : Int32)))), (0, .ref (gA G 4 0)), (1, .ref (gA G 15 i1)), (2, .int a2)]) dX1_dropStrandedOf_13 (by decide) rfl ?_
  refine q_lv [2, 3, 4, 1, 0] rfl ?_
  exact aL_X1_dropStrandedOf_15 o rt FU i1 a2 ((v 15 i1 4) &&& ((v 15 i1 3) ^^^ (-1 : Int32))) (0 : Int32) hi1 v h
theorem pd_X1_dropStrandedOf : (parseMethodDescriptor yX1_dropStrandedOf.desc).map (fun d => d.parameters.length) = some 2 := by decide +kernel
-- PieceSwarm$Asking.dropStranded()V
theorem inn_X1_dropStranded_X1 : ∀ w ∈ wsX10, w ∈ wsX1_dropStranded := by decide +kernel
theorem sf_X1_dropStranded_9 : SF wsX1_dropStranded RX1 9 4 0 1 := ⟨RX1, TX1, 1, rfl, rfl, rfl, rfl, by decide, inn_X1_dropStranded_X1, by decide +kernel⟩
theorem inn_X1_dropStranded_X2 : ∀ w ∈ wsX20, w ∈ wsX1_dropStranded := by decide +kernel
theorem sf_X1_dropStranded_15 : SF wsX1_dropStranded RX1 15 1 3 0 := ⟨RX2, TX2, 8, rfl, rfl, rfl, rfl, by decide, inn_X1_dropStranded_X2, by decide +kernel⟩
theorem sf_X1_dropStranded_21 : SF wsX1_dropStranded RX1 21 1 4 0 := ⟨RX2, TX2, 8, rfl, rfl, rfl, rfl, by decide, inn_X1_dropStranded_X2, by decide +kernel⟩
theorem wini_X1_dropStranded_X9_isIn : Cond.initialized yX9_isIn.cls ∈ wsX1_dropStranded := by decide +kernel
theorem wsta_X1_dropStranded_X9_isIn : Cond.static yX9_isIn ∈ wsX1_dropStranded := by decide +kernel
theorem sf_X1_dropStranded_28 : SF wsX1_dropStranded RX1 28 1 1 13 := ⟨RX2, TX2, 8, rfl, rfl, rfl, rfl, by decide, inn_X1_dropStranded_X2, by decide +kernel⟩
theorem inn_X1_dropStranded_X3 : ∀ w ∈ wsX30, w ∈ wsX1_dropStranded := by decide +kernel
theorem sf_X1_dropStranded_32 : SF wsX1_dropStranded RX1 32 14 0 15 := ⟨RX3, TX3, 13, rfl, rfl, rfl, rfl, by decide, inn_X1_dropStranded_X3, by decide +kernel⟩
def wB_X1_dropStranded_2 (post : (St3 → Prop)) (K2 : Int32 → St3 → Prop) (a1 : Int32) (v : St3) : Prop := (((v 1 0 3) ≤ a1 → post v) ∧ (¬ (v 1 0 3) ≤ a1 → wp_X9_isIn (v 1 0 4) a1 v (fun r2 v1 => ((r2 = 0 → K2 (a1 + (1 : Int32)) v1) ∧ (¬ r2 = 0 → ∃ n3, n3 < 12 ∧ a1 = nI n3 ∧ wp_X2_nearTo a1 v1 (fun r7 v6 => wp_X1_dropStrandedOf n3 r7 v6 (fun v8 => K2 (a1 + (1 : Int32)) v8)))))))
def wL_X1_dropStranded_2 (post : (St3 → Prop)) : Nat → Int32 → St3 → Prop
  | 0, _, _ => False
  | f + 1, a1, v => wB_X1_dropStranded_2 post (wL_X1_dropStranded_2 post f) a1 v
set_option maxRecDepth 20000 in
set_option maxHeartbeats 4000000 in
theorem aL_X1_dropStranded_2 {l : Launch} {G : Geo} {X : CT} (o : OK G X cX1_dropStranded wsX1_dropStranded RX1 3 2) {post : (St3 → Prop)} (rt : RV G X post) : ∀ (f : Nat) (a1 : Int32) (v : St3), wL_X1_dropStranded_2 post f a1 v → J l G X 2 [(0, .ref (gA G 4 0)), (1, .int a1)] [] v := by
  intro f
  induction f with
  | zero => intro _ _ h; exact False.elim h
  | succ f hK2 =>
  intro a1 v h
  have h : wB_X1_dropStranded_2 post (wL_X1_dropStranded_2 post f) a1 v := h
  unfold wB_X1_dropStranded_2 at h
  refine q_iload_n o dX1_dropStranded_2 rfl ?_
  refine q_aload_n o dX1_dropStranded_3 rfl ?_
  refine q_getR (q := 0) o sf_X1_dropStranded_9 (by decide) dX1_dropStranded_4 ?_
  refine q_getI o sf_X1_dropStranded_15 (by decide) dX1_dropStranded_7 ?_
  refine q_ic_ge o 57 dX1_dropStranded_10 (by decide) (fun c11 => ?_) (fun c11 => ?_)
  · have h := h.1 c11
    exact q_vret o rt dX1_dropStranded_57 h
  · have h := h.2 c11
    refine q_aload_n o dX1_dropStranded_13 rfl ?_
    refine q_getR (q := 0) o sf_X1_dropStranded_9 (by decide) dX1_dropStranded_14 ?_
    refine q_getI o sf_X1_dropStranded_21 (by decide) dX1_dropStranded_17 ?_
    refine q_iload_n o dX1_dropStranded_20 rfl ?_
    refine q_callN o [.int (v 1 0 4), .int a1] (ad_X9_isIn l G (v 1 0 4) a1 v h) gX1_dropStranded_X9_isIn_n24 rfl (by decide +kernel) wini_X1_dropStranded_X9_isIn wsta_X1_dropStranded_X9_isIn ⟨by decide, by decide, pd_X9_isIn⟩ (by decide) (by decide) rfl (Nat.le_of_ble_eq_true rfl) dX1_dropStranded_21 (fun r2 v1 h => ?_)
    refine q_if_eq o 51 dX1_dropStranded_24 (by decide) (fun c10 => ?_) (fun c10 => ?_)
    · have h := h.1 c10
      refine q_iinc o (y := (a1 + (1 : Int32))) (lv' := [(1, .int (a1 + (1 : Int32))), (0, .ref (gA G 4 0))]) dX1_dropStranded_51 rfl rfl (by decide) rfl ?_
      refine q_goto o 2 dX1_dropStranded_54 (by decide) ?_
      refine q_lv [1, 0] rfl ?_
      exact hK2 (a1 + (1 : Int32)) v1 h
    · have h := h.2 c10
      refine q_aload_n o dX1_dropStranded_27 rfl ?_
      refine q_aload_n o dX1_dropStranded_28 rfl ?_
      refine q_getR (q := 0) o sf_X1_dropStranded_9 (by decide) dX1_dropStranded_29 ?_
      refine q_getR (q := 12) o sf_X1_dropStranded_28 (by decide) dX1_dropStranded_32 ?_
      refine q_iload_n o dX1_dropStranded_35 rfl ?_
      obtain ⟨n3, hn4, hx5, h⟩ := h
      refine q_mald o hn4 hx5 dX1_dropStranded_36 ?_
      refine q_getR (q := 14) o sf_X1_dropStranded_32 hn4 dX1_dropStranded_37 ?_
      refine q_aload_n o dX1_dropStranded_40 rfl ?_
      refine q_getR (q := 0) o sf_X1_dropStranded_9 (by decide) dX1_dropStranded_41 ?_
      refine q_iload_n o dX1_dropStranded_44 rfl ?_
      refine q_callV o [.int a1] (ad_X2_nearTo l G a1 v1 h) gX1_dropStranded_X2_nearTo rfl rfl rfl rfl (by decide) ⟨rfl, by decide, by decide, pd_X2_nearTo⟩ (by decide) (by decide) rfl (Nat.le_of_ble_eq_true rfl) dX1_dropStranded_45 (fun r7 v6 h => ?_)
      refine q_callVv o [.ref (gA G 15 n3), .int r7] (ad_X1_dropStrandedOf l G n3 r7 hn4 v6 h) gX1_dropStranded_X1_dropStrandedOf rfl rfl rfl rfl (by decide) ⟨rfl, by decide, by decide, pd_X1_dropStrandedOf⟩ (by decide) (by decide) rfl (Nat.le_of_ble_eq_true rfl) dX1_dropStranded_48 (fun v8 h => ?_)
      refine q_iinc o (y := (a1 + (1 : Int32))) (lv' := [(1, .int (a1 + (1 : Int32))), (0, .ref (gA G 4 0))]) dX1_dropStranded_51 rfl rfl (by decide) rfl ?_
      refine q_goto o 2 dX1_dropStranded_54 (by decide) ?_
      refine q_lv [1, 0] rfl ?_
      exact hK2 (a1 + (1 : Int32)) v8 h
def wp_X1_dropStranded (v : St3) (post : (St3 → Prop)) : Prop := wL_X1_dropStranded_2 post FU (0 : Int32) v
set_option maxRecDepth 20000 in
set_option maxHeartbeats 4000000 in
theorem ad_X1_dropStranded (l : Launch) (G : Geo) (v : St3) {post : (St3 → Prop)} (h : wp_X1_dropStranded v post) : CV l G yX1_dropStranded wsX1_dropStranded 3 [.ref (gA G 4 0)] v post := by
  refine CV.of (cc := cX1_dropStranded) (maxL := 2) (by decide) rfl (Nat.le_of_ble_eq_true rfl) (fun X o rt => ?_)
  unfold wp_X1_dropStranded at h
  show J l G X 0 [(0, .ref (gA G 4 0))] [] v
  refine q_iconst o dX1_dropStranded_0 (x := (0 : Int32)) (by decide) ?_
  refine q_istore_n o (lv' := [(1, .int (0 : Int32)), (0, .ref (gA G 4 0))]) dX1_dropStranded_1 (by decide) rfl ?_
  refine q_lv [1, 0] rfl ?_
  exact aL_X1_dropStranded_2 o rt FU (0 : Int32) v h
theorem pd_X1_dropStranded : (parseMethodDescriptor yX1_dropStranded.desc).map (fun d => d.parameters.length) = some 0 := by decide +kernel
-- PieceSwarm$Asking.giversTo(I)I
theorem inn_X1_giversTo_X1 : ∀ w ∈ wsX10, w ∈ wsX1_giversTo := by decide +kernel
theorem sf_X1_giversTo_9 : SF wsX1_giversTo RX1 9 4 0 1 := ⟨RX1, TX1, 1, rfl, rfl, rfl, rfl, by decide, inn_X1_giversTo_X1, by decide +kernel⟩
theorem inn_X1_giversTo_X2 : ∀ w ∈ wsX20, w ∈ wsX1_giversTo := by decide +kernel
theorem sf_X1_giversTo_15 : SF wsX1_giversTo RX1 15 1 3 0 := ⟨RX2, TX2, 8, rfl, rfl, rfl, rfl, by decide, inn_X1_giversTo_X2, by decide +kernel⟩
theorem sf_X1_giversTo_28 : SF wsX1_giversTo RX1 28 1 1 13 := ⟨RX2, TX2, 8, rfl, rfl, rfl, rfl, by decide, inn_X1_giversTo_X2, by decide +kernel⟩
theorem wini_X1_giversTo_X9_isIn : Cond.initialized yX9_isIn.cls ∈ wsX1_giversTo := by decide +kernel
theorem wsta_X1_giversTo_X9_isIn : Cond.static yX9_isIn ∈ wsX1_giversTo := by decide +kernel
theorem inn_X1_giversTo_X3 : ∀ w ∈ wsX30, w ∈ wsX1_giversTo := by decide +kernel
theorem sf_X1_giversTo_126 : SF wsX1_giversTo RX1 126 14 1 16 := ⟨RX3, TX3, 13, rfl, rfl, rfl, rfl, by decide, inn_X1_giversTo_X3, by decide +kernel⟩
theorem inn_X1_giversTo_X7 : ∀ w ∈ wsX70, w ∈ wsX1_giversTo := by decide +kernel
theorem sf_X1_giversTo_130 : SF wsX1_giversTo RX1 130 16 7 0 := ⟨RX7, TX7, 10, rfl, rfl, rfl, rfl, by decide, inn_X1_giversTo_X7, by decide +kernel⟩
theorem sf_X1_giversTo_73 : SF wsX1_giversTo RX1 73 14 11 0 := ⟨RX3, TX3, 13, rfl, rfl, rfl, rfl, by decide, inn_X1_giversTo_X3, by decide +kernel⟩
def wB_X1_giversTo_14 (post : (Int32 → St3 → Prop)) (K14 : Int32 → Int32 → Int32 → Int32 → St3 → Prop) (a1 : Int32) (a2 : Int32) (a3 : Int32) (a4 : Int32) (v : St3) : Prop := ((a2 = 0 → post a3 v) ∧ (¬ a2 = 0 → (((v 1 0 3) ≤ a4 → post a3 v) ∧ (¬ (v 1 0 3) ≤ a4 → ∃ n3, n3 < 12 ∧ a4 = nI n3 ∧ wp_X9_isIn a2 a4 v (fun r7 v6 => ((r7 = 0 → K14 a1 a2 a3 (a4 + (1 : Int32)) v6) ∧ (¬ r7 = 0 → wp_X9_isIn (v6 16 n3 7) a1 v6 (fun r9 v8 => ((r9 = 0 → K14 a1 a2 a3 (a4 + (1 : Int32)) v8) ∧ (¬ r9 = 0 → (((v8 14 n3 11) ≤ 0 → K14 a1 a2 a3 (a4 + (1 : Int32)) v8) ∧ (¬ (v8 14 n3 11) ≤ 0 → K14 a1 a2 (a3 ||| ((1 : Int32) <<< (a4 &&& 31))) (a4 + (1 : Int32)) v8))))))))))))
def wL_X1_giversTo_14 (post : (Int32 → St3 → Prop)) : Nat → Int32 → Int32 → Int32 → Int32 → St3 → Prop
  | 0, _, _, _, _, _ => False
  | f + 1, a1, a2, a3, a4, v => wB_X1_giversTo_14 post (wL_X1_giversTo_14 post f) a1 a2 a3 a4 v
set_option maxRecDepth 20000 in
set_option maxHeartbeats 4000000 in
theorem aL_X1_giversTo_14 {l : Launch} {G : Geo} {X : CT} (o : OK G X cX1_giversTo wsX1_giversTo RX1 2 6) {post : (Int32 → St3 → Prop)} (rt : RI G X .int post) : ∀ (f : Nat) (a1 : Int32) (a2 : Int32) (a3 : Int32) (a4 : Int32) (v : St3), wL_X1_giversTo_14 post f a1 a2 a3 a4 v → J l G X 14 [(0, .ref (gA G 4 0)), (1, .int a1), (2, .int a2), (3, .int a3), (4, .int a4)] [] v := by
  intro f
  induction f with
  | zero => intro _ _ _ _ _ h; exact False.elim h
  | succ f hK14 =>
  intro a1 a2 a3 a4 v h
  have h : wB_X1_giversTo_14 post (wL_X1_giversTo_14 post f) a1 a2 a3 a4 v := h
  unfold wB_X1_giversTo_14 at h
  refine q_iload_n o dX1_giversTo_14 rfl ?_
  refine q_if_eq o 87 dX1_giversTo_15 (by decide) (fun c14 => ?_) (fun c14 => ?_)
  · have h := h.1 c14
    refine q_iload_n o dX1_giversTo_87 rfl ?_
    exact q_iret o rt dX1_giversTo_88 h
  · have h := h.2 c14
    refine q_iload o dX1_giversTo_18 rfl ?_
    refine q_aload_n o dX1_giversTo_20 rfl ?_
    refine q_getR (q := 0) o sf_X1_giversTo_9 (by decide) dX1_giversTo_21 ?_
    refine q_getI o sf_X1_giversTo_15 (by decide) dX1_giversTo_24 ?_
    refine q_ic_ge o 87 dX1_giversTo_27 (by decide) (fun c13 => ?_) (fun c13 => ?_)
    · have h := h.1 c13
      refine q_iload_n o dX1_giversTo_87 rfl ?_
      exact q_iret o rt dX1_giversTo_88 h
    · have h := h.2 c13
      refine q_aload_n o dX1_giversTo_30 rfl ?_
      refine q_getR (q := 0) o sf_X1_giversTo_9 (by decide) dX1_giversTo_31 ?_
      refine q_getR (q := 12) o sf_X1_giversTo_28 (by decide) dX1_giversTo_34 ?_
      refine q_iload o dX1_giversTo_37 rfl ?_
      obtain ⟨n3, hn4, hx5, h⟩ := h
      refine q_mald o hn4 hx5 dX1_giversTo_39 ?_
      refine q_astore o (lv' := [(5, .ref (gA G 14 n3)), (0, .ref (gA G 4 0)), (1, .int a1), (2, .int a2), (3, .int a3), (4, .int a4)]) dX1_giversTo_40 (by decide) rfl ?_
      refine q_iload_n o dX1_giversTo_42 rfl ?_
      refine q_iload o dX1_giversTo_43 rfl ?_
      refine q_callN o [.int a2, .int a4] (ad_X9_isIn l G a2 a4 v h) gX1_giversTo_X9_isIn_n24 rfl (by decide +kernel) wini_X1_giversTo_X9_isIn wsta_X1_giversTo_X9_isIn ⟨by decide, by decide, pd_X9_isIn⟩ (by decide) (by decide) rfl (Nat.le_of_ble_eq_true rfl) dX1_giversTo_45 (fun r7 v6 h => ?_)
      refine q_if_eq o 81 dX1_giversTo_48 (by decide) (fun c12 => ?_) (fun c12 => ?_)
      · have h := h.1 c12
        refine q_iinc o (y := (a4 + (1 : Int32))) (lv' := [(4, .int (a4 + (1 : Int32))), (5, .ref (gA G 14 n3)), (0, .ref (gA G 4 0)), (1, .int a1), (2, .int a2), (3, .int a3)]) dX1_giversTo_81 rfl rfl (by decide) rfl ?_
        refine q_goto o 14 dX1_giversTo_84 (by decide) ?_
        refine q_lv [2, 3, 4, 5, 0] rfl ?_
        exact hK14 a1 a2 a3 (a4 + (1 : Int32)) v6 h
      · have h := h.2 c12
        refine q_aload o dX1_giversTo_51 rfl ?_
        refine q_getR (q := 15) o sf_X1_giversTo_126 hn4 dX1_giversTo_53 ?_
        refine q_getI o sf_X1_giversTo_130 hn4 dX1_giversTo_56 ?_
        refine q_iload_n o dX1_giversTo_59 rfl ?_
        refine q_callN o [.int (v6 16 n3 7), .int a1] (ad_X9_isIn l G (v6 16 n3 7) a1 v6 h) gX1_giversTo_X9_isIn_n24 rfl (by decide +kernel) wini_X1_giversTo_X9_isIn wsta_X1_giversTo_X9_isIn ⟨by decide, by decide, pd_X9_isIn⟩ (by decide) (by decide) rfl (Nat.le_of_ble_eq_true rfl) dX1_giversTo_60 (fun r9 v8 h => ?_)
        refine q_if_eq o 81 dX1_giversTo_63 (by decide) (fun c11 => ?_) (fun c11 => ?_)
        · have h := h.1 c11
          refine q_iinc o (y := (a4 + (1 : Int32))) (lv' := [(4, .int (a4 + (1 : Int32))), (5, .ref (gA G 14 n3)), (0, .ref (gA G 4 0)), (1, .int a1), (2, .int a2), (3, .int a3)]) dX1_giversTo_81 rfl rfl (by decide) rfl ?_
          refine q_goto o 14 dX1_giversTo_84 (by decide) ?_
          refine q_lv [2, 3, 4, 5, 0] rfl ?_
          exact hK14 a1 a2 a3 (a4 + (1 : Int32)) v8 h
        · have h := h.2 c11
          refine q_aload o dX1_giversTo_66 rfl ?_
          refine q_getI o sf_X1_giversTo_73 hn4 dX1_giversTo_68 ?_
          refine q_if_le o 81 dX1_giversTo_71 (by decide) (fun c10 => ?_) (fun c10 => ?_)
          · have h := h.1 c10
            refine q_iinc o (y := (a4 + (1 : Int32))) (lv' := [(4, .int (a4 + (1 : Int32))), (5, .ref (gA G 14 n3)), (0, .ref (gA G 4 0)), (1, .int a1), (2, .int a2), (3, .int a3)]) dX1_giversTo_81 rfl rfl (by decide) rfl ?_
            refine q_goto o 14 dX1_giversTo_84 (by decide) ?_
            refine q_lv [2, 3, 4, 5, 0] rfl ?_
            exact hK14 a1 a2 a3 (a4 + (1 : Int32)) v8 h
          · have h := h.2 c10
            refine q_iload_n o dX1_giversTo_74 rfl ?_
            refine q_iconst o dX1_giversTo_75 (x := (1 : Int32)) (by decide) ?_
            refine q_iload o dX1_giversTo_76 rfl ?_
            refine q_ishl o dX1_giversTo_78 ?_
            refine q_ior o dX1_giversTo_79 ?_
            refine q_istore_n o (lv' := [(3, .int (a3 ||| ((1 : Int32) <<< (a4 &&& 31)))), (5, .ref (gA G 14 n3)), (0, .ref (gA G 4 0)), (1, .int a1), (2, .int a2), (4, .int a4)]) dX1_giversTo_80 (by decide) rfl ?_
            refine q_iinc o (y := (a4 + (1 : Int32))) (lv' := [(4, .int (a4 + (1 : Int32))), (3, .int (a3 ||| ((1 : Int32) <<< (a4 &&& 31)))), (5, .ref (gA G 14 n3)), (0, .ref (gA G 4 0)), (1, .int a1), (2, .int a2)]) dX1_giversTo_81 rfl rfl (by decide) rfl ?_
            refine q_goto o 14 dX1_giversTo_84 (by decide) ?_
            refine q_lv [3, 4, 5, 1, 0] rfl ?_
            exact hK14 a1 a2 (a3 ||| ((1 : Int32) <<< (a4 &&& 31))) (a4 + (1 : Int32)) v8 h
def wp_X1_giversTo (a1 : Int32) (v : St3) (post : (Int32 → St3 → Prop)) : Prop := wp_X2_nearTo a1 v (fun r2 v1 => wL_X1_giversTo_14 post FU a1 r2 (0 : Int32) (0 : Int32) v1)
set_option maxRecDepth 20000 in
set_option maxHeartbeats 4000000 in
theorem ad_X1_giversTo (l : Launch) (G : Geo) (a1 : Int32) (v : St3) {post : (Int32 → St3 → Prop)} (h : wp_X1_giversTo a1 v post) : CI l G yX1_giversTo wsX1_giversTo 2 [.ref (gA G 4 0), .int a1] v post := by
  refine CI.of (ty := .int) (cc := cX1_giversTo) (maxL := 6) (by decide) rfl (Nat.le_of_ble_eq_true rfl) (fun X o rt => ?_)
  unfold wp_X1_giversTo at h
  show J l G X 0 [(0, .ref (gA G 4 0)), (1, .int a1)] [] v
  refine q_aload_n o dX1_giversTo_0 rfl ?_
  refine q_getR (q := 0) o sf_X1_giversTo_9 (by decide) dX1_giversTo_1 ?_
  refine q_iload_n o dX1_giversTo_4 rfl ?_
  refine q_callV o [.int a1] (ad_X2_nearTo l G a1 v h) gX1_giversTo_X2_nearTo rfl rfl rfl rfl (by decide) ⟨rfl, by decide, by decide, pd_X2_nearTo⟩ (by decide) (by decide) rfl (Nat.le_of_ble_eq_true rfl) dX1_giversTo_5 (fun r2 v1 h => ?_)
  refine q_istore_n o (lv' := [(2, .int r2), (0, .ref (gA G 4 0)), (1, .int a1)]) dX1_giversTo_8 (by decide) rfl ?_
  refine q_iconst o dX1_giversTo_9 (x := (0 : Int32)) (by decide) ?_
  refine q_istore_n o (lv' := [(3, .int (0 : Int32)), (2, .int r2), (0, .ref (gA G 4 0)), (1, .int a1)]) dX1_giversTo_10 (by decide) rfl ?_
  refine q_iconst o dX1_giversTo_11 (x := (0 : Int32)) (by decide) ?_
  refine q_istore o (lv' := [(4, .int (0 : Int32)), (3, .int (0 : Int32)), (2, .int r2), (0, .ref (gA G 4 0)), (1, .int a1)]) dX1_giversTo_12 (by decide) rfl ?_
  refine q_lv [3, 4, 2, 1, 0] rfl ?_
  exact aL_X1_giversTo_14 o rt FU a1 r2 (0 : Int32) (0 : Int32) v1 h
theorem pd_X1_giversTo : (parseMethodDescriptor yX1_giversTo.desc).map (fun d => d.parameters.length) = some 1 := by decide +kernel
-- PieceSwarm$Asking.giversThatMayBe(III)I
theorem inn_X1_giversThatMayBe_X1 : ∀ w ∈ wsX10, w ∈ wsX1_giversThatMayBe := by decide +kernel
theorem sf_X1_giversThatMayBe_9 : SF wsX1_giversThatMayBe RX1 9 4 0 1 := ⟨RX1, TX1, 1, rfl, rfl, rfl, rfl, by decide, inn_X1_giversThatMayBe_X1, by decide +kernel⟩
theorem inn_X1_giversThatMayBe_X2 : ∀ w ∈ wsX20, w ∈ wsX1_giversThatMayBe := by decide +kernel
theorem sf_X1_giversThatMayBe_28 : SF wsX1_giversThatMayBe RX1 28 1 1 13 := ⟨RX2, TX2, 8, rfl, rfl, rfl, rfl, by decide, inn_X1_giversThatMayBe_X2, by decide +kernel⟩
theorem inn_X1_giversThatMayBe_X3 : ∀ w ∈ wsX30, w ∈ wsX1_giversThatMayBe := by decide +kernel
theorem sf_X1_giversThatMayBe_32 : SF wsX1_giversThatMayBe RX1 32 14 0 15 := ⟨RX3, TX3, 13, rfl, rfl, rfl, rfl, by decide, inn_X1_giversThatMayBe_X3, by decide +kernel⟩
theorem inn_X1_giversThatMayBe_X6 : ∀ w ∈ wsX60, w ∈ wsX1_giversThatMayBe := by decide +kernel
theorem sf_X1_giversThatMayBe_46 : SF wsX1_giversThatMayBe RX1 46 15 4 0 := ⟨RX6, TX6, 6, rfl, rfl, rfl, rfl, by decide, inn_X1_giversThatMayBe_X6, by decide +kernel⟩
theorem wini_X1_giversThatMayBe_X9_isIn : Cond.initialized yX9_isIn.cls ∈ wsX1_giversThatMayBe := by decide +kernel
theorem wsta_X1_giversThatMayBe_X9_isIn : Cond.static yX9_isIn ∈ wsX1_giversThatMayBe := by decide +kernel
theorem sf_X1_giversThatMayBe_90 : SF wsX1_giversThatMayBe RX1 90 1 2 6 := ⟨RX2, TX2, 8, rfl, rfl, rfl, rfl, by decide, inn_X1_giversThatMayBe_X2, by decide +kernel⟩
def wp_X1_giversThatMayBe (a1 : Int32) (a2 : Int32) (a3 : Int32) (v : St3) (post : (Int32 → St3 → Prop)) : Prop := wp_X2_tellersAmong a3 a2 v (fun r2 v1 => ∃ n3, n3 < 12 ∧ a1 = nI n3 ∧ wp_X9_isIn (v1 15 n3 4) a2 v1 (fun r7 v6 => ((¬ r7 = 0 → wp_X6_firstGiver n3 a2 v6 (fun r9 v8 => ((¬ r9 = (-1 : Int32) → ((¬ r9 = (-1 : Int32) → post (r2 &&& ((1 : Int32) <<< (r9 &&& 31))) v8) ∧ (r9 = (-1 : Int32) → post r2 v8))) ∧ (r9 = (-1 : Int32) → wp_X5_firstGiver a1 a2 v8 (fun r12 v11 => ((¬ r12 = (-1 : Int32) → post (r2 &&& ((1 : Int32) <<< (r12 &&& 31))) v11) ∧ (r12 = (-1 : Int32) → post r2 v11))))))) ∧ (r7 = 0 → post r2 v6))))
set_option maxRecDepth 20000 in
set_option maxHeartbeats 4000000 in
theorem ad_X1_giversThatMayBe (l : Launch) (G : Geo) (a1 : Int32) (a2 : Int32) (a3 : Int32) (v : St3) {post : (Int32 → St3 → Prop)} (h : wp_X1_giversThatMayBe a1 a2 a3 v post) : CI l G yX1_giversThatMayBe wsX1_giversThatMayBe 2 [.ref (gA G 4 0), .int a1, .int a2, .int a3] v post := by
  refine CI.of (ty := .int) (cc := cX1_giversThatMayBe) (maxL := 7) (by decide) rfl (Nat.le_of_ble_eq_true rfl) (fun X o rt => ?_)
  unfold wp_X1_giversThatMayBe at h
  show J l G X 0 [(0, .ref (gA G 4 0)), (1, .int a1), (2, .int a2), (3, .int a3)] [] v
  refine q_aload_n o dX1_giversThatMayBe_0 rfl ?_
  refine q_getR (q := 0) o sf_X1_giversThatMayBe_9 (by decide) dX1_giversThatMayBe_1 ?_
  refine q_iload_n o dX1_giversThatMayBe_4 rfl ?_
  refine q_iload_n o dX1_giversThatMayBe_5 rfl ?_
  refine q_callV o [.int a3, .int a2] (ad_X2_tellersAmong l G a3 a2 v h) gX1_giversThatMayBe_X2_tellersAmong rfl rfl rfl rfl (by decide) ⟨rfl, by decide, by decide, pd_X2_tellersAmong⟩ (by decide) (by decide) rfl (Nat.le_of_ble_eq_true rfl) dX1_giversThatMayBe_6 (fun r2 v1 h => ?_)
  refine q_istore o (lv' := [(4, .int r2), (0, .ref (gA G 4 0)), (1, .int a1), (2, .int a2), (3, .int a3)]) dX1_giversThatMayBe_9 (by decide) rfl ?_
  refine q_aload_n o dX1_giversThatMayBe_11 rfl ?_
  refine q_getR (q := 0) o sf_X1_giversThatMayBe_9 (by decide) dX1_giversThatMayBe_12 ?_
  refine q_getR (q := 12) o sf_X1_giversThatMayBe_28 (by decide) dX1_giversThatMayBe_15 ?_
  refine q_iload_n o dX1_giversThatMayBe_18 rfl ?_
  obtain ⟨n3, hn4, hx5, h⟩ := h
  refine q_mald o hn4 hx5 dX1_giversThatMayBe_19 ?_
  refine q_getR (q := 14) o sf_X1_giversThatMayBe_32 hn4 dX1_giversThatMayBe_20 ?_
  refine q_astore o (lv' := [(5, .ref (gA G 15 n3)), (4, .int r2), (0, .ref (gA G 4 0)), (1, .int a1), (2, .int a2), (3, .int a3)]) dX1_giversThatMayBe_23 (by decide) rfl ?_
  refine q_aload o dX1_giversThatMayBe_25 rfl ?_
  refine q_getI o sf_X1_giversThatMayBe_46 hn4 dX1_giversThatMayBe_27 ?_
  refine q_iload_n o dX1_giversThatMayBe_30 rfl ?_
  refine q_callN o [.int (v1 15 n3 4), .int a2] (ad_X9_isIn l G (v1 15 n3 4) a2 v1 h) gX1_giversThatMayBe_X9_isIn_n24 rfl (by decide +kernel) wini_X1_giversThatMayBe_X9_isIn wsta_X1_giversThatMayBe_X9_isIn ⟨by decide, by decide, pd_X9_isIn⟩ (by decide) (by decide) rfl (Nat.le_of_ble_eq_true rfl) dX1_giversThatMayBe_31 (fun r7 v6 h => ?_)
  refine q_if_ne o 40 dX1_giversThatMayBe_34 (by decide) (fun c15 => ?_) (fun c15 => ?_)
  · have h := h.1 c15
    refine q_aload o dX1_giversThatMayBe_40 rfl ?_
    refine q_iload_n o dX1_giversThatMayBe_42 rfl ?_
    refine q_callV o [.int a2] (ad_X6_firstGiver l G n3 a2 hn4 v6 h) gX1_giversThatMayBe_X6_firstGiver rfl rfl rfl rfl hn4 ⟨rfl, by decide, by decide, pd_X6_firstGiver⟩ (by decide) (by decide) rfl (Nat.le_of_ble_eq_true rfl) dX1_giversThatMayBe_43 (fun r9 v8 h => ?_)
    refine q_istore o (lv' := [(6, .int r9), (5, .ref (gA G 15 n3)), (4, .int r2), (0, .ref (gA G 4 0)), (1, .int a1), (2, .int a2), (3, .int a3)]) dX1_giversThatMayBe_46 (by decide) rfl ?_
    refine q_iload o dX1_giversThatMayBe_48 rfl ?_
    refine q_iconst o dX1_giversThatMayBe_50 (x := (-1 : Int32)) (by decide) ?_
    refine q_ic_ne o 68 dX1_giversThatMayBe_51 (by decide) (fun c14 => ?_) (fun c14 => ?_)
    · have h := h.1 c14
      refine q_iload o dX1_giversThatMayBe_68 rfl ?_
      refine q_iconst o dX1_giversThatMayBe_70 (x := (-1 : Int32)) (by decide) ?_
      refine q_ic_ne o 79 dX1_giversThatMayBe_71 (by decide) (fun c10 => ?_) (fun c10 => ?_)
      · have h := h.1 c10
        refine q_iload o dX1_giversThatMayBe_79 rfl ?_
        refine q_iconst o dX1_giversThatMayBe_81 (x := (1 : Int32)) (by decide) ?_
        refine q_iload o dX1_giversThatMayBe_82 rfl ?_
        refine q_ishl o dX1_giversThatMayBe_84 ?_
        refine q_iand o dX1_giversThatMayBe_85 ?_
        exact q_iret o rt dX1_giversThatMayBe_86 h
      · have h := h.2 c10
        refine q_iload o dX1_giversThatMayBe_74 rfl ?_
        refine q_goto o 86 dX1_giversThatMayBe_76 (by decide) ?_
        exact q_iret o rt dX1_giversThatMayBe_86 h
    · have h := h.2 c14
      refine q_aload_n o dX1_giversThatMayBe_54 rfl ?_
      refine q_getR (q := 0) o sf_X1_giversThatMayBe_9 (by decide) dX1_giversThatMayBe_55 ?_
      refine q_getR (q := 5) o sf_X1_giversThatMayBe_90 (by decide) dX1_giversThatMayBe_58 ?_
      refine q_iload_n o dX1_giversThatMayBe_61 rfl ?_
      refine q_iload_n o dX1_giversThatMayBe_62 rfl ?_
      refine q_callV o [.int a1, .int a2] (ad_X5_firstGiver l G a1 a2 v8 h) gX1_giversThatMayBe_X5_firstGiver rfl rfl rfl rfl (by decide) ⟨rfl, by decide, by decide, pd_X5_firstGiver⟩ (by decide) (by decide) rfl (Nat.le_of_ble_eq_true rfl) dX1_giversThatMayBe_63 (fun r12 v11 h => ?_)
      refine q_istore o (lv' := [(6, .int r12), (5, .ref (gA G 15 n3)), (4, .int r2), (0, .ref (gA G 4 0)), (1, .int a1), (2, .int a2), (3, .int a3)]) dX1_giversThatMayBe_66 (by decide) rfl ?_
      refine q_iload o dX1_giversThatMayBe_68 rfl ?_
      refine q_iconst o dX1_giversThatMayBe_70 (x := (-1 : Int32)) (by decide) ?_
      refine q_ic_ne o 79 dX1_giversThatMayBe_71 (by decide) (fun c13 => ?_) (fun c13 => ?_)
      · have h := h.1 c13
        refine q_iload o dX1_giversThatMayBe_79 rfl ?_
        refine q_iconst o dX1_giversThatMayBe_81 (x := (1 : Int32)) (by decide) ?_
        refine q_iload o dX1_giversThatMayBe_82 rfl ?_
        refine q_ishl o dX1_giversThatMayBe_84 ?_
        refine q_iand o dX1_giversThatMayBe_85 ?_
        exact q_iret o rt dX1_giversThatMayBe_86 h
      · have h := h.2 c13
        refine q_iload o dX1_giversThatMayBe_74 rfl ?_
        refine q_goto o 86 dX1_giversThatMayBe_76 (by decide) ?_
        exact q_iret o rt dX1_giversThatMayBe_86 h
  · have h := h.2 c15
    refine q_iload o dX1_giversThatMayBe_37 rfl ?_
    exact q_iret o rt dX1_giversThatMayBe_39 h
theorem pd_X1_giversThatMayBe : (parseMethodDescriptor yX1_giversThatMayBe.desc).map (fun d => d.parameters.length) = some 3 := by decide +kernel
-- PieceSwarm$Asking.pickPiece(II)I
theorem inn_X1_pickPiece_X1 : ∀ w ∈ wsX10, w ∈ wsX1_pickPiece := by decide +kernel
theorem sf_X1_pickPiece_9 : SF wsX1_pickPiece RX1 9 4 0 1 := ⟨RX1, TX1, 1, rfl, rfl, rfl, rfl, by decide, inn_X1_pickPiece_X1, by decide +kernel⟩
theorem inn_X1_pickPiece_X2 : ∀ w ∈ wsX20, w ∈ wsX1_pickPiece := by decide +kernel
theorem sf_X1_pickPiece_28 : SF wsX1_pickPiece RX1 28 1 1 13 := ⟨RX2, TX2, 8, rfl, rfl, rfl, rfl, by decide, inn_X1_pickPiece_X2, by decide +kernel⟩
theorem inn_X1_pickPiece_X3 : ∀ w ∈ wsX30, w ∈ wsX1_pickPiece := by decide +kernel
theorem sf_X1_pickPiece_32 : SF wsX1_pickPiece RX1 32 14 0 15 := ⟨RX3, TX3, 13, rfl, rfl, rfl, rfl, by decide, inn_X1_pickPiece_X3, by decide +kernel⟩
theorem sf_X1_pickPiece_54 : SF wsX1_pickPiece RX1 54 1 0 5 := ⟨RX2, TX2, 8, rfl, rfl, rfl, rfl, by decide, inn_X1_pickPiece_X2, by decide +kernel⟩
theorem inn_X1_pickPiece_X8 : ∀ w ∈ wsX80, w ∈ wsX1_pickPiece := by decide +kernel
theorem sf_X1_pickPiece_58 : SF wsX1_pickPiece RX1 58 5 0 0 := ⟨RX8, TX8, 3, rfl, rfl, rfl, rfl, by decide, inn_X1_pickPiece_X8, by decide +kernel⟩
theorem inn_X1_pickPiece_X6 : ∀ w ∈ wsX60, w ∈ wsX1_pickPiece := by decide +kernel
theorem sf_X1_pickPiece_51 : SF wsX1_pickPiece RX1 51 15 3 0 := ⟨RX6, TX6, 6, rfl, rfl, rfl, rfl, by decide, inn_X1_pickPiece_X6, by decide +kernel⟩
theorem wini_X1_pickPiece_X9_isIn : Cond.initialized yX9_isIn.cls ∈ wsX1_pickPiece := by decide +kernel
theorem wsta_X1_pickPiece_X9_isIn : Cond.static yX9_isIn ∈ wsX1_pickPiece := by decide +kernel
theorem sf_X1_pickPiece_109 : SF wsX1_pickPiece RX1 109 5 1 0 := ⟨RX8, TX8, 3, rfl, rfl, rfl, rfl, by decide, inn_X1_pickPiece_X8, by decide +kernel⟩
def wB_X1_pickPiece_128 (post : (Int32 → St3 → Prop)) (K32 : Int32 → Int32 → Nat → Int32 → Int32 → Int32 → Int32 → St3 → Prop) (a1 : Int32) (a2 : Int32) (i3 : Nat) (a4 : Int32) (a5 : Int32) (a6 : Int32) (a7 : Int32) (s0 : Int32) (v : St3) : Prop := ((a5 = (-1 : Int32) → K32 a1 a2 i3 a4 a7 s0 (a7 + (1 : Int32)) v) ∧ (¬ a5 = (-1 : Int32) → ((a6 ≤ s0 → K32 a1 a2 i3 a4 a5 a6 (a7 + (1 : Int32)) v) ∧ (¬ a6 ≤ s0 → K32 a1 a2 i3 a4 a7 s0 (a7 + (1 : Int32)) v))))
set_option maxRecDepth 20000 in
set_option maxHeartbeats 4000000 in
theorem aJ_X1_pickPiece_128 {l : Launch} {G : Geo} {X : CT} (o : OK G X cX1_pickPiece wsX1_pickPiece RX1 3 10) {post : (Int32 → St3 → Prop)} (rt : RI G X .int post) {K32 : Int32 → Int32 → Nat → Int32 → Int32 → Int32 → Int32 → St3 → Prop} (hK32 : ∀ (a1 : Int32) (a2 : Int32) (i3 : Nat) (a4 : Int32) (a5 : Int32) (a6 : Int32) (a7 : Int32) (_ : i3 < 12) (v : St3), K32 a1 a2 i3 a4 a5 a6 a7 v → J l G X 32 [(0, .ref (gA G 4 0)), (1, .int a1), (2, .int a2), (3, .ref (gA G 15 i3)), (4, .int a4), (5, .int a5), (6, .int a6), (7, .int a7)] [] v) (a1 : Int32) (a2 : Int32) (i3 : Nat) (a4 : Int32) (a5 : Int32) (a6 : Int32) (a7 : Int32) (s0 : Int32) (hi3 : i3 < 12) (v : St3) (h : wB_X1_pickPiece_128 post K32 a1 a2 i3 a4 a5 a6 a7 s0 v) : J l G X 128 [(0, .ref (gA G 4 0)), (1, .int a1), (2, .int a2), (3, .ref (gA G 15 i3)), (4, .int a4), (5, .int a5), (6, .int a6), (7, .int a7)] [.int s0] v := by
  unfold wB_X1_pickPiece_128 at h
  refine q_istore o (lv' := [(9, .int s0), (0, .ref (gA G 4 0)), (1, .int a1), (2, .int a2), (3, .ref (gA G 15 i3)), (4, .int a4), (5, .int a5), (6, .int a6), (7, .int a7)]) dX1_pickPiece_128 (by decide) rfl ?_
  refine q_iload o dX1_pickPiece_130 rfl ?_
  refine q_iconst o dX1_pickPiece_132 (x := (-1 : Int32)) (by decide) ?_
  refine q_ic_eq o 143 dX1_pickPiece_133 (by decide) (fun c19 => ?_) (fun c19 => ?_)
  · have h := h.1 c19
    refine q_iload o dX1_pickPiece_143 rfl ?_
    refine q_istore o (lv' := [(5, .int a7), (9, .int s0), (0, .ref (gA G 4 0)), (1, .int a1), (2, .int a2), (3, .ref (gA G 15 i3)), (4, .int a4), (6, .int a6), (7, .int a7)]) dX1_pickPiece_145 (by decide) rfl ?_
    refine q_iload o dX1_pickPiece_147 rfl ?_
    refine q_istore o (lv' := [(6, .int s0), (5, .int a7), (9, .int s0), (0, .ref (gA G 4 0)), (1, .int a1), (2, .int a2), (3, .ref (gA G 15 i3)), (4, .int a4), (7, .int a7)]) dX1_pickPiece_149 (by decide) rfl ?_
    refine q_iinc o (y := (a7 + (1 : Int32))) (lv' := [(7, .int (a7 + (1 : Int32))), (6, .int s0), (5, .int a7), (9, .int s0), (0, .ref (gA G 4 0)), (1, .int a1), (2, .int a2), (3, .ref (gA G 15 i3)), (4, .int a4)]) dX1_pickPiece_151 rfl rfl (by decide) rfl ?_
    refine q_goto o 32 dX1_pickPiece_154 (by decide) ?_
    refine q_lv [4, 5, 6, 7, 8, 2, 1, 0] rfl ?_
    exact hK32 a1 a2 i3 a4 a7 s0 (a7 + (1 : Int32)) hi3 v h
  · have h := h.2 c19
    refine q_iload o dX1_pickPiece_136 rfl ?_
    refine q_iload o dX1_pickPiece_138 rfl ?_
    refine q_ic_ge o 151 dX1_pickPiece_140 (by decide) (fun c18 => ?_) (fun c18 => ?_)
    · have h := h.1 c18
      refine q_iinc o (y := (a7 + (1 : Int32))) (lv' := [(7, .int (a7 + (1 : Int32))), (9, .int s0), (0, .ref (gA G 4 0)), (1, .int a1), (2, .int a2), (3, .ref (gA G 15 i3)), (4, .int a4), (5, .int a5), (6, .int a6)]) dX1_pickPiece_151 rfl rfl (by decide) rfl ?_
      refine q_goto o 32 dX1_pickPiece_154 (by decide) ?_
      refine q_lv [2, 3, 4, 5, 6, 7, 8, 0] rfl ?_
      exact hK32 a1 a2 i3 a4 a5 a6 (a7 + (1 : Int32)) hi3 v h
    · have h := h.2 c18
      refine q_iload o dX1_pickPiece_143 rfl ?_
      refine q_istore o (lv' := [(5, .int a7), (9, .int s0), (0, .ref (gA G 4 0)), (1, .int a1), (2, .int a2), (3, .ref (gA G 15 i3)), (4, .int a4), (6, .int a6), (7, .int a7)]) dX1_pickPiece_145 (by decide) rfl ?_
      refine q_iload o dX1_pickPiece_147 rfl ?_
      refine q_istore o (lv' := [(6, .int s0), (5, .int a7), (9, .int s0), (0, .ref (gA G 4 0)), (1, .int a1), (2, .int a2), (3, .ref (gA G 15 i3)), (4, .int a4), (7, .int a7)]) dX1_pickPiece_149 (by decide) rfl ?_
      refine q_iinc o (y := (a7 + (1 : Int32))) (lv' := [(7, .int (a7 + (1 : Int32))), (6, .int s0), (5, .int a7), (9, .int s0), (0, .ref (gA G 4 0)), (1, .int a1), (2, .int a2), (3, .ref (gA G 15 i3)), (4, .int a4)]) dX1_pickPiece_151 rfl rfl (by decide) rfl ?_
      refine q_goto o 32 dX1_pickPiece_154 (by decide) ?_
      refine q_lv [4, 5, 6, 7, 8, 2, 1, 0] rfl ?_
      exact hK32 a1 a2 i3 a4 a7 s0 (a7 + (1 : Int32)) hi3 v h
def wB_X1_pickPiece_32 (post : (Int32 → St3 → Prop)) (K32 : Int32 → Int32 → Nat → Int32 → Int32 → Int32 → Int32 → St3 → Prop) (a1 : Int32) (a2 : Int32) (i3 : Nat) (a4 : Int32) (a5 : Int32) (a6 : Int32) (a7 : Int32) (v : St3) : Prop := (((v 5 0 0) ≤ a7 → post a5 v) ∧ (¬ (v 5 0 0) ≤ a7 → wp_X9_isIn (v 15 i3 3) a7 v (fun r7 v6 => ((¬ r7 = 0 → K32 a1 a2 i3 a4 a5 a6 (a7 + (1 : Int32)) v6) ∧ (r7 = 0 → wp_X6_firstUnasked i3 a7 (v6 5 0 1) v6 (fun r9 v8 => ((r9 = (-1 : Int32) → K32 a1 a2 i3 a4 a5 a6 (a7 + (1 : Int32)) v8) ∧ (¬ r9 = (-1 : Int32) → wp_X1_giversThatMayBe a1 a7 a2 v8 (fun r11 v10 => ((¬ r11 = 0 → wp_X2_tellersAmong a4 a7 v10 (fun r13 v12 => wp_J6_bitCount_0f7a4 r13 v12 (fun r15 v14 => wp_X6_isBegun i3 a7 v14 (fun r17 v16 => ((r17 = 0 → wB_X1_pickPiece_128 post K32 a1 a2 i3 a4 a5 a6 a7 (r15 + (13 : Int32)) v16) ∧ (¬ r17 = 0 → wB_X1_pickPiece_128 post K32 a1 a2 i3 a4 a5 a6 a7 r15 v16)))))) ∧ (r11 = 0 → K32 a1 a2 i3 a4 a5 a6 (a7 + (1 : Int32)) v10)))))))))))
def wL_X1_pickPiece_32 (post : (Int32 → St3 → Prop)) : Nat → Int32 → Int32 → Nat → Int32 → Int32 → Int32 → Int32 → St3 → Prop
  | 0, _, _, _, _, _, _, _, _ => False
  | f + 1, a1, a2, i3, a4, a5, a6, a7, v => wB_X1_pickPiece_32 post (wL_X1_pickPiece_32 post f) a1 a2 i3 a4 a5 a6 a7 v
set_option maxRecDepth 20000 in
set_option maxHeartbeats 4000000 in
theorem aL_X1_pickPiece_32 {l : Launch} {G : Geo} {X : CT} (o : OK G X cX1_pickPiece wsX1_pickPiece RX1 3 10) {post : (Int32 → St3 → Prop)} (rt : RI G X .int post) : ∀ (f : Nat) (a1 : Int32) (a2 : Int32) (i3 : Nat) (a4 : Int32) (a5 : Int32) (a6 : Int32) (a7 : Int32) (hi3 : i3 < 12) (v : St3), wL_X1_pickPiece_32 post f a1 a2 i3 a4 a5 a6 a7 v → J l G X 32 [(0, .ref (gA G 4 0)), (1, .int a1), (2, .int a2), (3, .ref (gA G 15 i3)), (4, .int a4), (5, .int a5), (6, .int a6), (7, .int a7)] [] v := by
  intro f
  induction f with
  | zero => intro _ _ _ _ _ _ _ _ _ h; exact False.elim h
  | succ f hK32 =>
  intro a1 a2 i3 a4 a5 a6 a7 hi3 v h
  have h : wB_X1_pickPiece_32 post (wL_X1_pickPiece_32 post f) a1 a2 i3 a4 a5 a6 a7 v := h
  unfold wB_X1_pickPiece_32 at h
  refine q_iload o dX1_pickPiece_32 rfl ?_
  refine q_aload_n o dX1_pickPiece_34 rfl ?_
  refine q_getR (q := 0) o sf_X1_pickPiece_9 (by decide) dX1_pickPiece_35 ?_
  refine q_getR (q := 4) o sf_X1_pickPiece_54 (by decide) dX1_pickPiece_38 ?_
  refine q_getI o sf_X1_pickPiece_58 (by decide) dX1_pickPiece_41 ?_
  refine q_ic_ge o 157 dX1_pickPiece_44 (by decide) (fun c24 => ?_) (fun c24 => ?_)
  · have h := h.1 c24
    refine q_iload o dX1_pickPiece_157 rfl ?_
    exact q_iret o rt dX1_pickPiece_159 h
  · have h := h.2 c24
    refine q_aload_n o dX1_pickPiece_47 rfl ?_
    refine q_getI o sf_X1_pickPiece_51 hi3 dX1_pickPiece_48 ?_
    refine q_iload o dX1_pickPiece_51 rfl ?_
    refine q_callN o [.int (v 15 i3 3), .int a7] (ad_X9_isIn l G (v 15 i3 3) a7 v h) gX1_pickPiece_X9_isIn_n24 rfl (by decide +kernel) wini_X1_pickPiece_X9_isIn wsta_X1_pickPiece_X9_isIn ⟨by decide, by decide, pd_X9_isIn⟩ (by decide) (by decide) rfl (Nat.le_of_ble_eq_true rfl) dX1_pickPiece_53 (fun r7 v6 h => ?_)
    refine q_if_ne o 151 dX1_pickPiece_56 (by decide) (fun c23 => ?_) (fun c23 => ?_)
    · have h := h.1 c23
      refine q_iinc o (y := (a7 + (1 : Int32))) (lv' := [(7, .int (a7 + (1 : Int32))), (0, .ref (gA G 4 0)), (1, .int a1), (2, .int a2), (3, .ref (gA G 15 i3)), (4, .int a4), (5, .int a5), (6, .int a6)]) dX1_pickPiece_151 rfl rfl (by decide) rfl ?_
      refine q_goto o 32 dX1_pickPiece_154 (by decide) ?_
      refine q_lv [1, 2, 3, 4, 5, 6, 7, 0] rfl ?_
      exact hK32 a1 a2 i3 a4 a5 a6 (a7 + (1 : Int32)) hi3 v6 h
    · have h := h.2 c23
      refine q_aload_n o dX1_pickPiece_59 rfl ?_
      refine q_iload o dX1_pickPiece_60 rfl ?_
      refine q_aload_n o dX1_pickPiece_62 rfl ?_
      refine q_getR (q := 0) o sf_X1_pickPiece_9 (by decide) dX1_pickPiece_63 ?_
      refine q_getR (q := 4) o sf_X1_pickPiece_54 (by decide) dX1_pickPiece_66 ?_
      refine q_getI o sf_X1_pickPiece_109 (by decide) dX1_pickPiece_69 ?_
      refine q_callV o [.int a7, .int (v6 5 0 1)] (ad_X6_firstUnasked l G i3 a7 (v6 5 0 1) hi3 v6 h) gX1_pickPiece_X6_firstUnasked rfl rfl rfl rfl hi3 ⟨rfl, by decide, by decide, pd_X6_firstUnasked⟩ (by decide) (by decide) rfl (Nat.le_of_ble_eq_true rfl) dX1_pickPiece_72 (fun r9 v8 h => ?_)
      refine q_iconst o dX1_pickPiece_75 (x := (-1 : Int32)) (by decide) ?_
      refine q_ic_eq o 151 dX1_pickPiece_76 (by decide) (fun c22 => ?_) (fun c22 => ?_)
      · have h := h.1 c22
        refine q_iinc o (y := (a7 + (1 : Int32))) (lv' := [(7, .int (a7 + (1 : Int32))), (0, .ref (gA G 4 0)), (1, .int a1), (2, .int a2), (3, .ref (gA G 15 i3)), (4, .int a4), (5, .int a5), (6, .int a6)]) dX1_pickPiece_151 rfl rfl (by decide) rfl ?_
        refine q_goto o 32 dX1_pickPiece_154 (by decide) ?_
        refine q_lv [1, 2, 3, 4, 5, 6, 7, 0] rfl ?_
        exact hK32 a1 a2 i3 a4 a5 a6 (a7 + (1 : Int32)) hi3 v8 h
      · have h := h.2 c22
        refine q_aload_n o dX1_pickPiece_79 rfl ?_
        refine q_iload_n o dX1_pickPiece_80 rfl ?_
        refine q_iload o dX1_pickPiece_81 rfl ?_
        refine q_iload_n o dX1_pickPiece_83 rfl ?_
        refine q_callV o [.int a1, .int a7, .int a2] (ad_X1_giversThatMayBe l G a1 a7 a2 v8 h) gX1_pickPiece_X1_giversThatMayBe rfl rfl rfl rfl (by decide) ⟨rfl, by decide, by decide, pd_X1_giversThatMayBe⟩ (by decide) (by decide) rfl (Nat.le_of_ble_eq_true rfl) dX1_pickPiece_84 (fun r11 v10 h => ?_)
        refine q_if_ne o 93 dX1_pickPiece_87 (by decide) (fun c21 => ?_) (fun c21 => ?_)
        · have h := h.1 c21
          refine q_aload_n o dX1_pickPiece_93 rfl ?_
          refine q_getR (q := 0) o sf_X1_pickPiece_9 (by decide) dX1_pickPiece_94 ?_
          refine q_iload o dX1_pickPiece_97 rfl ?_
          refine q_iload o dX1_pickPiece_99 rfl ?_
          refine q_callV o [.int a4, .int a7] (ad_X2_tellersAmong l G a4 a7 v10 h) gX1_pickPiece_X2_tellersAmong rfl rfl rfl rfl (by decide) ⟨rfl, by decide, by decide, pd_X2_tellersAmong⟩ (by decide) (by decide) rfl (Nat.le_of_ble_eq_true rfl) dX1_pickPiece_101 (fun r13 v12 h => ?_)
          refine q_callS o [.int r13] (ad_J6_bitCount_0f7a4 l G r13 v12 h) gX1_pickPiece_J6_bitCount_0f7a4 rfl ⟨by decide, by decide, pd_J6_bitCount_0f7a4⟩ (by decide) (by decide) rfl (Nat.le_of_ble_eq_true rfl) dX1_pickPiece_104 (fun r15 v14 h => ?_)
          refine q_istore o (lv' := [(8, .int r15), (0, .ref (gA G 4 0)), (1, .int a1), (2, .int a2), (3, .ref (gA G 15 i3)), (4, .int a4), (5, .int a5), (6, .int a6), (7, .int a7)]) dX1_pickPiece_107 (by decide) rfl ?_
          refine q_aload_n o dX1_pickPiece_109 rfl ?_
          refine q_iload o dX1_pickPiece_110 rfl ?_
          refine q_callV o [.int a7] (ad_X6_isBegun l G i3 a7 hi3 v14 h) gX1_pickPiece_X6_isBegun rfl rfl rfl rfl hi3 ⟨rfl, by decide, by decide, pd_X6_isBegun⟩ (by decide) (by decide) rfl (Nat.le_of_ble_eq_true rfl) dX1_pickPiece_112 (fun r17 v16 h => ?_)
          refine q_if_eq o 123 dX1_pickPiece_115 (by decide) (fun c20 => ?_) (fun c20 => ?_)
          · have h := h.1 c20
            refine q_iload o dX1_pickPiece_123 rfl ?_
            refine q_bipush o dX1_pickPiece_125 (x := (13 : Int32)) (by decide) ?_
            refine q_iadd o dX1_pickPiece_127 ?_
            refine q_lv [1, 2, 3, 4, 5, 6, 7, 8] rfl ?_
            exact aJ_X1_pickPiece_128 o rt hK32 a1 a2 i3 a4 a5 a6 a7 (r15 + (13 : Int32)) hi3 v16 h
          · have h := h.2 c20
            refine q_iload o dX1_pickPiece_118 rfl ?_
            refine q_goto o 128 dX1_pickPiece_120 (by decide) ?_
            refine q_lv [1, 2, 3, 4, 5, 6, 7, 8] rfl ?_
            exact aJ_X1_pickPiece_128 o rt hK32 a1 a2 i3 a4 a5 a6 a7 r15 hi3 v16 h
        · have h := h.2 c21
          refine q_goto o 151 dX1_pickPiece_90 (by decide) ?_
          refine q_iinc o (y := (a7 + (1 : Int32))) (lv' := [(7, .int (a7 + (1 : Int32))), (0, .ref (gA G 4 0)), (1, .int a1), (2, .int a2), (3, .ref (gA G 15 i3)), (4, .int a4), (5, .int a5), (6, .int a6)]) dX1_pickPiece_151 rfl rfl (by decide) rfl ?_
          refine q_goto o 32 dX1_pickPiece_154 (by decide) ?_
          refine q_lv [1, 2, 3, 4, 5, 6, 7, 0] rfl ?_
          exact hK32 a1 a2 i3 a4 a5 a6 (a7 + (1 : Int32)) hi3 v10 h
def wp_X1_pickPiece (a1 : Int32) (a2 : Int32) (v : St3) (post : (Int32 → St3 → Prop)) : Prop := ∃ n1, n1 < 12 ∧ a1 = nI n1 ∧ wp_X2_nearTo a1 v (fun r5 v4 => wL_X1_pickPiece_32 post FU a1 a2 n1 r5 (-1 : Int32) (0 : Int32) (0 : Int32) v4)
set_option maxRecDepth 20000 in
set_option maxHeartbeats 4000000 in
theorem ad_X1_pickPiece (l : Launch) (G : Geo) (a1 : Int32) (a2 : Int32) (v : St3) {post : (Int32 → St3 → Prop)} (h : wp_X1_pickPiece a1 a2 v post) : CI l G yX1_pickPiece wsX1_pickPiece 3 [.ref (gA G 4 0), .int a1, .int a2] v post := by
  refine CI.of (ty := .int) (cc := cX1_pickPiece) (maxL := 10) (by decide) rfl (Nat.le_of_ble_eq_true rfl) (fun X o rt => ?_)
  unfold wp_X1_pickPiece at h
  show J l G X 0 [(0, .ref (gA G 4 0)), (1, .int a1), (2, .int a2)] [] v
  refine q_aload_n o dX1_pickPiece_0 rfl ?_
  refine q_getR (q := 0) o sf_X1_pickPiece_9 (by decide) dX1_pickPiece_1 ?_
  refine q_getR (q := 12) o sf_X1_pickPiece_28 (by decide) dX1_pickPiece_4 ?_
  refine q_iload_n o dX1_pickPiece_7 rfl ?_
  obtain ⟨n1, hn2, hx3, h⟩ := h
  refine q_mald o hn2 hx3 dX1_pickPiece_8 ?_
  refine q_getR (q := 14) o sf_X1_pickPiece_32 hn2 dX1_pickPiece_9 ?_
  refine q_astore_n o (lv' := [(3, .ref (gA G 15 n1)), (0, .ref (gA G 4 0)), (1, .int a1), (2, .int a2)]) dX1_pickPiece_12 (by decide) rfl ?_
  refine q_aload_n o dX1_pickPiece_13 rfl ?_
  refine q_getR (q := 0) o sf_X1_pickPiece_9 (by decide) dX1_pickPiece_14 ?_
  refine q_iload_n o dX1_pickPiece_17 rfl ?_
  refine q_callV o [.int a1] (ad_X2_nearTo l G a1 v h) gX1_pickPiece_X2_nearTo rfl rfl rfl rfl (by decide) ⟨rfl, by decide, by decide, pd_X2_nearTo⟩ (by decide) (by decide) rfl (Nat.le_of_ble_eq_true rfl) dX1_pickPiece_18 (fun r5 v4 h => ?_)
  refine q_istore o (lv' := [(4, .int r5), (3, .ref (gA G 15 n1)), (0, .ref (gA G 4 0)), (1, .int a1), (2, .int a2)]) dX1_pickPiece_21 (by decide) rfl ?_
  refine q_iconst o dX1_pickPiece_23 (x := (-1 : Int32)) (by decide) ?_
  refine q_istore o (lv' := [(5, .int (-1 : Int32)), (4, .int r5), (3, .ref (gA G 15 n1)), (0, .ref (gA G 4 0)), (1, .int a1), (2, .int a2)]) dX1_pickPiece_24 (by decide) rfl ?_
  refine q_iconst o dX1_pickPiece_26 (x := (0 : Int32)) (by decide) ?_
  refine q_istore o (lv' := [(6, .int (0 : Int32)), (5, .int (-1 : Int32)), (4, .int r5), (3, .ref (gA G 15 n1)), (0, .ref (gA G 4 0)), (1, .int a1), (2, .int a2)]) dX1_pickPiece_27 (by decide) rfl ?_
  refine q_iconst o dX1_pickPiece_29 (x := (0 : Int32)) (by decide) ?_
  refine q_istore o (lv' := [(7, .int (0 : Int32)), (6, .int (0 : Int32)), (5, .int (-1 : Int32)), (4, .int r5), (3, .ref (gA G 15 n1)), (0, .ref (gA G 4 0)), (1, .int a1), (2, .int a2)]) dX1_pickPiece_30 (by decide) rfl ?_
  refine q_lv [5, 6, 7, 4, 3, 2, 1, 0] rfl ?_
  exact aL_X1_pickPiece_32 o rt FU a1 a2 n1 r5 (-1 : Int32) (0 : Int32) (0 : Int32) hn2 v4 h
theorem pd_X1_pickPiece : (parseMethodDescriptor yX1_pickPiece.desc).map (fun d => d.parameters.length) = some 2 := by decide +kernel
-- PieceSwarm$Asking.readiest(I)I
theorem inn_X1_readiest_X1 : ∀ w ∈ wsX10, w ∈ wsX1_readiest := by decide +kernel
theorem sf_X1_readiest_9 : SF wsX1_readiest RX1 9 4 0 1 := ⟨RX1, TX1, 1, rfl, rfl, rfl, rfl, by decide, inn_X1_readiest_X1, by decide +kernel⟩
theorem inn_X1_readiest_X2 : ∀ w ∈ wsX20, w ∈ wsX1_readiest := by decide +kernel
theorem sf_X1_readiest_15 : SF wsX1_readiest RX1 15 1 3 0 := ⟨RX2, TX2, 8, rfl, rfl, rfl, rfl, by decide, inn_X1_readiest_X2, by decide +kernel⟩
theorem wini_X1_readiest_X9_isIn : Cond.initialized yX9_isIn.cls ∈ wsX1_readiest := by decide +kernel
theorem wsta_X1_readiest_X9_isIn : Cond.static yX9_isIn ∈ wsX1_readiest := by decide +kernel
theorem sf_X1_readiest_28 : SF wsX1_readiest RX1 28 1 1 13 := ⟨RX2, TX2, 8, rfl, rfl, rfl, rfl, by decide, inn_X1_readiest_X2, by decide +kernel⟩
theorem inn_X1_readiest_X3 : ∀ w ∈ wsX30, w ∈ wsX1_readiest := by decide +kernel
theorem sf_X1_readiest_73 : SF wsX1_readiest RX1 73 14 11 0 := ⟨RX3, TX3, 13, rfl, rfl, rfl, rfl, by decide, inn_X1_readiest_X3, by decide +kernel⟩
def wB_X1_readiest_4 (post : (Int32 → St3 → Prop)) (K4 : Int32 → Int32 → Int32 → St3 → Prop) (a1 : Int32) (a2 : Int32) (a3 : Int32) (v : St3) : Prop := (((v 1 0 3) ≤ a3 → post a2 v) ∧ (¬ (v 1 0 3) ≤ a3 → wp_X9_isIn a1 a3 v (fun r2 v1 => ((r2 = 0 → K4 a1 a2 (a3 + (1 : Int32)) v1) ∧ (¬ r2 = 0 → ((a2 = (-1 : Int32) → K4 a1 a3 (a3 + (1 : Int32)) v1) ∧ (¬ a2 = (-1 : Int32) → ∃ n3, n3 < 12 ∧ a3 = nI n3 ∧ ∃ n6, n6 < 12 ∧ a2 = nI n6 ∧ (((v1 14 n3 11) ≤ (v1 14 n6 11) → K4 a1 a2 (a3 + (1 : Int32)) v1) ∧ (¬ (v1 14 n3 11) ≤ (v1 14 n6 11) → K4 a1 a3 (a3 + (1 : Int32)) v1)))))))))
def wL_X1_readiest_4 (post : (Int32 → St3 → Prop)) : Nat → Int32 → Int32 → Int32 → St3 → Prop
  | 0, _, _, _, _ => False
  | f + 1, a1, a2, a3, v => wB_X1_readiest_4 post (wL_X1_readiest_4 post f) a1 a2 a3 v
set_option maxRecDepth 20000 in
set_option maxHeartbeats 4000000 in
theorem aL_X1_readiest_4 {l : Launch} {G : Geo} {X : CT} (o : OK G X cX1_readiest wsX1_readiest RX1 1 4) {post : (Int32 → St3 → Prop)} (rt : RI G X .int post) : ∀ (f : Nat) (a1 : Int32) (a2 : Int32) (a3 : Int32) (v : St3), wL_X1_readiest_4 post f a1 a2 a3 v → J l G X 4 [(0, .ref (gA G 4 0)), (1, .int a1), (2, .int a2), (3, .int a3)] [] v := by
  intro f
  induction f with
  | zero => intro _ _ _ _ h; exact False.elim h
  | succ f hK4 =>
  intro a1 a2 a3 v h
  have h : wB_X1_readiest_4 post (wL_X1_readiest_4 post f) a1 a2 a3 v := h
  unfold wB_X1_readiest_4 at h
  refine q_iload_n o dX1_readiest_4 rfl ?_
  refine q_aload_n o dX1_readiest_5 rfl ?_
  refine q_getR (q := 0) o sf_X1_readiest_9 (by decide) dX1_readiest_6 ?_
  refine q_getI o sf_X1_readiest_15 (by decide) dX1_readiest_9 ?_
  refine q_ic_ge o 63 dX1_readiest_12 (by decide) (fun c12 => ?_) (fun c12 => ?_)
  · have h := h.1 c12
    refine q_iload_n o dX1_readiest_63 rfl ?_
    exact q_iret o rt dX1_readiest_64 h
  · have h := h.2 c12
    refine q_iload_n o dX1_readiest_15 rfl ?_
    refine q_iload_n o dX1_readiest_16 rfl ?_
    refine q_callN o [.int a1, .int a3] (ad_X9_isIn l G a1 a3 v h) gX1_readiest_X9_isIn_n24 rfl (by decide +kernel) wini_X1_readiest_X9_isIn wsta_X1_readiest_X9_isIn ⟨by decide, by decide, pd_X9_isIn⟩ (by decide) (by decide) rfl (Nat.le_of_ble_eq_true rfl) dX1_readiest_17 (fun r2 v1 h => ?_)
    refine q_if_eq o 57 dX1_readiest_20 (by decide) (fun c11 => ?_) (fun c11 => ?_)
    · have h := h.1 c11
      refine q_iinc o (y := (a3 + (1 : Int32))) (lv' := [(3, .int (a3 + (1 : Int32))), (0, .ref (gA G 4 0)), (1, .int a1), (2, .int a2)]) dX1_readiest_57 rfl rfl (by decide) rfl ?_
      refine q_goto o 4 dX1_readiest_60 (by decide) ?_
      refine q_lv [1, 2, 3, 0] rfl ?_
      exact hK4 a1 a2 (a3 + (1 : Int32)) v1 h
    · have h := h.2 c11
      refine q_iload_n o dX1_readiest_23 rfl ?_
      refine q_iconst o dX1_readiest_24 (x := (-1 : Int32)) (by decide) ?_
      refine q_ic_eq o 55 dX1_readiest_25 (by decide) (fun c10 => ?_) (fun c10 => ?_)
      · have h := h.1 c10
        refine q_iload_n o dX1_readiest_55 rfl ?_
        refine q_istore_n o (lv' := [(2, .int a3), (0, .ref (gA G 4 0)), (1, .int a1), (3, .int a3)]) dX1_readiest_56 (by decide) rfl ?_
        refine q_iinc o (y := (a3 + (1 : Int32))) (lv' := [(3, .int (a3 + (1 : Int32))), (2, .int a3), (0, .ref (gA G 4 0)), (1, .int a1)]) dX1_readiest_57 rfl rfl (by decide) rfl ?_
        refine q_goto o 4 dX1_readiest_60 (by decide) ?_
        refine q_lv [2, 3, 1, 0] rfl ?_
        exact hK4 a1 a3 (a3 + (1 : Int32)) v1 h
      · have h := h.2 c10
        refine q_aload_n o dX1_readiest_28 rfl ?_
        refine q_getR (q := 0) o sf_X1_readiest_9 (by decide) dX1_readiest_29 ?_
        refine q_getR (q := 12) o sf_X1_readiest_28 (by decide) dX1_readiest_32 ?_
        refine q_iload_n o dX1_readiest_35 rfl ?_
        obtain ⟨n3, hn4, hx5, h⟩ := h
        refine q_mald o hn4 hx5 dX1_readiest_36 ?_
        refine q_getI o sf_X1_readiest_73 hn4 dX1_readiest_37 ?_
        refine q_aload_n o dX1_readiest_40 rfl ?_
        refine q_getR (q := 0) o sf_X1_readiest_9 (by decide) dX1_readiest_41 ?_
        refine q_getR (q := 12) o sf_X1_readiest_28 (by decide) dX1_readiest_44 ?_
        refine q_iload_n o dX1_readiest_47 rfl ?_
        obtain ⟨n6, hn7, hx8, h⟩ := h
        refine q_mald o hn7 hx8 dX1_readiest_48 ?_
        refine q_getI o sf_X1_readiest_73 hn7 dX1_readiest_49 ?_
        refine q_ic_le o 57 dX1_readiest_52 (by decide) (fun c9 => ?_) (fun c9 => ?_)
        · have h := h.1 c9
          refine q_iinc o (y := (a3 + (1 : Int32))) (lv' := [(3, .int (a3 + (1 : Int32))), (0, .ref (gA G 4 0)), (1, .int a1), (2, .int a2)]) dX1_readiest_57 rfl rfl (by decide) rfl ?_
          refine q_goto o 4 dX1_readiest_60 (by decide) ?_
          refine q_lv [1, 2, 3, 0] rfl ?_
          exact hK4 a1 a2 (a3 + (1 : Int32)) v1 h
        · have h := h.2 c9
          refine q_iload_n o dX1_readiest_55 rfl ?_
          refine q_istore_n o (lv' := [(2, .int a3), (0, .ref (gA G 4 0)), (1, .int a1), (3, .int a3)]) dX1_readiest_56 (by decide) rfl ?_
          refine q_iinc o (y := (a3 + (1 : Int32))) (lv' := [(3, .int (a3 + (1 : Int32))), (2, .int a3), (0, .ref (gA G 4 0)), (1, .int a1)]) dX1_readiest_57 rfl rfl (by decide) rfl ?_
          refine q_goto o 4 dX1_readiest_60 (by decide) ?_
          refine q_lv [2, 3, 1, 0] rfl ?_
          exact hK4 a1 a3 (a3 + (1 : Int32)) v1 h
def wp_X1_readiest (a1 : Int32) (v : St3) (post : (Int32 → St3 → Prop)) : Prop := wL_X1_readiest_4 post FU a1 (-1 : Int32) (0 : Int32) v
set_option maxRecDepth 20000 in
set_option maxHeartbeats 4000000 in
theorem ad_X1_readiest (l : Launch) (G : Geo) (a1 : Int32) (v : St3) {post : (Int32 → St3 → Prop)} (h : wp_X1_readiest a1 v post) : CI l G yX1_readiest wsX1_readiest 1 [.ref (gA G 4 0), .int a1] v post := by
  refine CI.of (ty := .int) (cc := cX1_readiest) (maxL := 4) (by decide) rfl (Nat.le_of_ble_eq_true rfl) (fun X o rt => ?_)
  unfold wp_X1_readiest at h
  show J l G X 0 [(0, .ref (gA G 4 0)), (1, .int a1)] [] v
  refine q_iconst o dX1_readiest_0 (x := (-1 : Int32)) (by decide) ?_
  refine q_istore_n o (lv' := [(2, .int (-1 : Int32)), (0, .ref (gA G 4 0)), (1, .int a1)]) dX1_readiest_1 (by decide) rfl ?_
  refine q_iconst o dX1_readiest_2 (x := (0 : Int32)) (by decide) ?_
  refine q_istore_n o (lv' := [(3, .int (0 : Int32)), (2, .int (-1 : Int32)), (0, .ref (gA G 4 0)), (1, .int a1)]) dX1_readiest_3 (by decide) rfl ?_
  refine q_lv [2, 3, 1, 0] rfl ?_
  exact aL_X1_readiest_4 o rt FU a1 (-1 : Int32) (0 : Int32) v h
theorem pd_X1_readiest : (parseMethodDescriptor yX1_readiest.desc).map (fun d => d.parameters.length) = some 1 := by decide +kernel
-- PieceSwarm$Asking.send(IIII)Z
theorem inn_X1_send_X1 : ∀ w ∈ wsX10, w ∈ wsX1_send := by decide +kernel
theorem sf_X1_send_9 : SF wsX1_send RX1 9 4 0 1 := ⟨RX1, TX1, 1, rfl, rfl, rfl, rfl, by decide, inn_X1_send_X1, by decide +kernel⟩
theorem inn_X1_send_X2 : ∀ w ∈ wsX20, w ∈ wsX1_send := by decide +kernel
theorem sf_X1_send_28 : SF wsX1_send RX1 28 1 1 13 := ⟨RX2, TX2, 8, rfl, rfl, rfl, rfl, by decide, inn_X1_send_X2, by decide +kernel⟩
theorem inn_X1_send_X3 : ∀ w ∈ wsX30, w ∈ wsX1_send := by decide +kernel
theorem sf_X1_send_73 : SF wsX1_send RX1 73 14 11 0 := ⟨RX3, TX3, 13, rfl, rfl, rfl, rfl, by decide, inn_X1_send_X3, by decide +kernel⟩
theorem sp_X1_send_73 : SP wsX1_send RX1 73 14 11 := ⟨RX3, TX3, 13, tyX3, rfl, rfl, rfl, rfl, by decide, inn_X1_send_X3, by decide +kernel, tyX3_ok, nmX3, rfl, by decide +kernel⟩
theorem sf_X1_send_164 : SF wsX1_send RX1 164 14 8 0 := ⟨RX3, TX3, 13, rfl, rfl, rfl, rfl, by decide, inn_X1_send_X3, by decide +kernel⟩
theorem sp_X1_send_164 : SP wsX1_send RX1 164 14 8 := ⟨RX3, TX3, 13, tyX3, rfl, rfl, rfl, rfl, by decide, inn_X1_send_X3, by decide +kernel, tyX3_ok, nmX3, rfl, by decide +kernel⟩
theorem sf_X1_send_126 : SF wsX1_send RX1 126 14 1 16 := ⟨RX3, TX3, 13, rfl, rfl, rfl, rfl, by decide, inn_X1_send_X3, by decide +kernel⟩
theorem inn_X1_send_X7 : ∀ w ∈ wsX70, w ∈ wsX1_send := by decide +kernel
theorem sf_X1_send_167 : SF wsX1_send RX1 167 16 2 22 := ⟨RX7, TX7, 10, rfl, rfl, rfl, rfl, by decide, inn_X1_send_X7, by decide +kernel⟩
theorem sf_X1_send_169 : SF wsX1_send RX1 169 16 1 21 := ⟨RX7, TX7, 10, rfl, rfl, rfl, rfl, by decide, inn_X1_send_X7, by decide +kernel⟩
theorem sf_X1_send_79 : SF wsX1_send RX1 79 14 12 0 := ⟨RX3, TX3, 13, rfl, rfl, rfl, rfl, by decide, inn_X1_send_X3, by decide +kernel⟩
theorem sp_X1_send_79 : SP wsX1_send RX1 79 14 12 := ⟨RX3, TX3, 13, tyX3, rfl, rfl, rfl, rfl, by decide, inn_X1_send_X3, by decide +kernel, tyX3_ok, nmX3, rfl, by decide +kernel⟩
theorem sf_X1_send_32 : SF wsX1_send RX1 32 14 0 15 := ⟨RX3, TX3, 13, rfl, rfl, rfl, rfl, by decide, inn_X1_send_X3, by decide +kernel⟩
theorem sf_X1_send_176 : SF wsX1_send RX1 176 1 6 0 := ⟨RX2, TX2, 8, rfl, rfl, rfl, rfl, by decide, inn_X1_send_X2, by decide +kernel⟩
theorem sp_X1_send_176 : SP wsX1_send RX1 176 1 6 := ⟨RX2, TX2, 8, tyX2, rfl, rfl, rfl, rfl, by decide, inn_X1_send_X2, by decide +kernel, tyX2_ok, nmX2, rfl, by decide +kernel⟩
theorem sf_X1_send_54 : SF wsX1_send RX1 54 1 0 5 := ⟨RX2, TX2, 8, rfl, rfl, rfl, rfl, by decide, inn_X1_send_X2, by decide +kernel⟩
theorem sf_X1_send_182 : SF wsX1_send RX1 182 1 5 0 := ⟨RX2, TX2, 8, rfl, rfl, rfl, rfl, by decide, inn_X1_send_X2, by decide +kernel⟩
theorem sf_X1_send_185 : SF wsX1_send RX1 185 14 2 0 := ⟨RX3, TX3, 13, rfl, rfl, rfl, rfl, by decide, inn_X1_send_X3, by decide +kernel⟩
theorem sf_X1_send_90 : SF wsX1_send RX1 90 1 2 6 := ⟨RX2, TX2, 8, rfl, rfl, rfl, rfl, by decide, inn_X1_send_X2, by decide +kernel⟩
def wB_X1_send_156 (post : (Int32 → St3 → Prop)) (a1 : Int32) (a2 : Int32) (a3 : Int32) (a4 : Int32) (i5 : Nat) (a7 : Int32) (s0 : Int32) (s1 : Int32) (v : St3) : Prop := wp_X3_nowSendsFalse i5 v (fun r24 v23 => ((r24 = 0 → wp_X5_add a1 a2 a3 a4 a7 (s1 + s0) v23 (fun v25 => post (1 : Int32) v25)) ∧ (¬ r24 = 0 → wp_X5_add a1 a2 a3 a4 (a7 ^^^ (1 : Int32)) (s1 + s0) v23 (fun v27 => post (1 : Int32) v27))))
set_option maxRecDepth 20000 in
set_option maxHeartbeats 4000000 in
theorem aJ_X1_send_156 {l : Launch} {G : Geo} {X : CT} (o : OK G X cX1_send wsX1_send RX1 2 9) {post : (Int32 → St3 → Prop)} (rt : RI G X .boolean post) (a1 : Int32) (a2 : Int32) (a3 : Int32) (a4 : Int32) (i5 : Nat) (a7 : Int32) (s0 : Int32) (s1 : Int32) (hi5 : i5 < 12) (v : St3) (h : wB_X1_send_156 post a1 a2 a3 a4 i5 a7 s0 s1 v) : J l G X 156 [(0, .ref (gA G 4 0)), (1, .int a1), (2, .int a2), (3, .int a3), (4, .int a4), (5, .ref (gA G 14 i5)), (7, .int a7)] [.int s0, .int s1] v := by
  unfold wB_X1_send_156 at h
  refine q_iadd o dX1_send_156 ?_
  refine q_istore o (lv' := [(8, .int (s1 + s0)), (0, .ref (gA G 4 0)), (1, .int a1), (2, .int a2), (3, .int a3), (4, .int a4), (5, .ref (gA G 14 i5)), (7, .int a7)]) dX1_send_157 (by decide) rfl ?_
  refine q_aload_n o dX1_send_159 rfl ?_
  refine q_getR (q := 0) o sf_X1_send_9 (by decide) dX1_send_160 ?_
  refine q_getR (q := 5) o sf_X1_send_90 (by decide) dX1_send_163 ?_
  refine q_iload_n o dX1_send_166 rfl ?_
  refine q_iload_n o dX1_send_167 rfl ?_
  refine q_iload_n o dX1_send_168 rfl ?_
  refine q_iload o dX1_send_169 rfl ?_
  refine q_aload o dX1_send_171 rfl ?_
  refine q_callV o [] (ad_X3_nowSendsFalse l G i5 hi5 v h) gX1_send_X3_nowSendsFalse rfl rfl rfl rfl hi5 ⟨rfl, by decide, by decide, pd_X3_nowSendsFalse⟩ (by decide) (by decide) rfl (Nat.le_of_ble_eq_true rfl) dX1_send_173 (fun r24 v23 h => ?_)
  refine q_if_eq o 186 dX1_send_176 (by decide) (fun c29 => ?_) (fun c29 => ?_)
  · have h := h.1 c29
    refine q_iload o dX1_send_186 rfl ?_
    refine q_iload o dX1_send_188 rfl ?_
    refine q_callVv o [.int a1, .int a2, .int a3, .int a4, .int a7, .int (s1 + s0)] (ad_X5_add l G a1 a2 a3 a4 a7 (s1 + s0) v23 h) gX1_send_X5_add rfl rfl rfl rfl (by decide) ⟨rfl, by decide, by decide, pd_X5_add⟩ (by decide) (by decide) rfl (Nat.le_of_ble_eq_true rfl) dX1_send_190 (fun v25 h => ?_)
    refine q_iconst o dX1_send_193 (x := (1 : Int32)) (by decide) ?_
    exact q_zret o rt dX1_send_194 (by decide) h
  · have h := h.2 c29
    refine q_iload o dX1_send_179 rfl ?_
    refine q_iconst o dX1_send_181 (x := (1 : Int32)) (by decide) ?_
    refine q_ixor o dX1_send_182 ?_
    refine q_goto o 188 dX1_send_183 (by decide) ?_
    refine q_iload o dX1_send_188 rfl ?_
    refine q_callVv o [.int a1, .int a2, .int a3, .int a4, .int (a7 ^^^ (1 : Int32)), .int (s1 + s0)] (ad_X5_add l G a1 a2 a3 a4 (a7 ^^^ (1 : Int32)) (s1 + s0) v23 h) gX1_send_X5_add rfl rfl rfl rfl (by decide) ⟨rfl, by decide, by decide, pd_X5_add⟩ (by decide) (by decide) rfl (Nat.le_of_ble_eq_true rfl) dX1_send_190 (fun v27 h => ?_)
    refine q_iconst o dX1_send_193 (x := (1 : Int32)) (by decide) ?_
    exact q_zret o rt dX1_send_194 (by decide) h
def wp_X1_send (a1 : Int32) (a2 : Int32) (a3 : Int32) (a4 : Int32) (v : St3) (post : (Int32 → St3 → Prop)) : Prop := ((a1 = (-1 : Int32) → post (0 : Int32) v) ∧ (¬ a1 = (-1 : Int32) → ((¬ a4 = (-1 : Int32) → ∃ n1, n1 < 12 ∧ a1 = nI n1 ∧ ∃ n4, n4 < 12 ∧ a2 = nI n4 ∧ ∀ v7, v7 = up3 v 14 n1 11 ((v 14 n1 11) - (1 : Int32)) → ∀ v9, v9 = up3 v7 14 n1 8 ((v7 14 n1 8) + (1 : Int32)) → ∀ v11, v11 = up3 v9 22 n1 n4 ((v9 22 n1 n4) + (1 : Int32)) → ∀ v13, v13 = up3 v11 21 n1 n4 ((v11 21 n1 n4) + (1 : Int32)) → ∀ v15, v15 = up3 v13 14 n4 12 ((v13 14 n4 12) - (1 : Int32)) → wp_X6_expect n4 a3 a4 v15 (fun v17 => ∀ v19, v19 = up3 v17 1 0 6 ((v17 1 0 6) + (1 : Int32)) → wp_X8_valueOf a3 a4 v19 (fun r22 v21 => ((¬ (v21 14 n1 2) = (4 : Int32) → wB_X1_send_156 post a1 a2 a3 a4 n1 r22 (0 : Int32) (v21 1 0 5) v21) ∧ ((v21 14 n1 2) = (4 : Int32) → wB_X1_send_156 post a1 a2 a3 a4 n1 r22 (2 : Int32) (v21 1 0 5) v21))))) ∧ (a4 = (-1 : Int32) → post (0 : Int32) v))))
set_option maxRecDepth 20000 in
set_option maxHeartbeats 4000000 in
theorem ad_X1_send (l : Launch) (G : Geo) (a1 : Int32) (a2 : Int32) (a3 : Int32) (a4 : Int32) (v : St3) {post : (Int32 → St3 → Prop)} (h : wp_X1_send a1 a2 a3 a4 v post) : CI l G yX1_send wsX1_send 2 [.ref (gA G 4 0), .int a1, .int a2, .int a3, .int a4] v post := by
  refine CI.of (ty := .boolean) (cc := cX1_send) (maxL := 9) (by decide) rfl (Nat.le_of_ble_eq_true rfl) (fun X o rt => ?_)
  unfold wp_X1_send at h
  show J l G X 0 [(0, .ref (gA G 4 0)), (1, .int a1), (2, .int a2), (3, .int a3), (4, .int a4)] [] v
  refine q_iload_n o dX1_send_0 rfl ?_
  refine q_iconst o dX1_send_1 (x := (-1 : Int32)) (by decide) ?_
  refine q_ic_eq o 11 dX1_send_2 (by decide) (fun c32 => ?_) (fun c32 => ?_)
  · have h := h.1 c32
    refine q_iconst o dX1_send_11 (x := (0 : Int32)) (by decide) ?_
    exact q_zret o rt dX1_send_12 (by decide) h
  · have h := h.2 c32
    refine q_iload o dX1_send_5 rfl ?_
    refine q_iconst o dX1_send_7 (x := (-1 : Int32)) (by decide) ?_
    refine q_ic_ne o 13 dX1_send_8 (by decide) (fun c31 => ?_) (fun c31 => ?_)
    · have h := h.1 c31
      refine q_aload_n o dX1_send_13 rfl ?_
      refine q_getR (q := 0) o sf_X1_send_9 (by decide) dX1_send_14 ?_
      refine q_getR (q := 12) o sf_X1_send_28 (by decide) dX1_send_17 ?_
      refine q_iload_n o dX1_send_20 rfl ?_
      obtain ⟨n1, hn2, hx3, h⟩ := h
      refine q_mald o hn2 hx3 dX1_send_21 ?_
      refine q_astore o (lv' := [(5, .ref (gA G 14 n1)), (0, .ref (gA G 4 0)), (1, .int a1), (2, .int a2), (3, .int a3), (4, .int a4)]) dX1_send_22 (by decide) rfl ?_
      refine q_aload_n o dX1_send_24 rfl ?_
      refine q_getR (q := 0) o sf_X1_send_9 (by decide) dX1_send_25 ?_
      refine q_getR (q := 12) o sf_X1_send_28 (by decide) dX1_send_28 ?_
      refine q_iload_n o dX1_send_31 rfl ?_
      obtain ⟨n4, hn5, hx6, h⟩ := h
      refine q_mald o hn5 hx6 dX1_send_32 ?_
      refine q_astore o (lv' := [(6, .ref (gA G 14 n4)), (5, .ref (gA G 14 n1)), (0, .ref (gA G 4 0)), (1, .int a1), (2, .int a2), (3, .int a3), (4, .int a4)]) dX1_send_33 (by decide) rfl ?_
      refine q_aload o dX1_send_35 rfl ?_
      refine q_dup o dX1_send_37 rfl ?_
      refine q_getI o sf_X1_send_73 hn2 dX1_send_38 ?_
      refine q_iconst o dX1_send_41 (x := (1 : Int32)) (by decide) ?_
      refine q_isub o dX1_send_42 ?_
      refine q_putI o sp_X1_send_73 hn2 dX1_send_43 (fun v7 e8 => ?_)
      have h := h v7 e8
      refine q_aload o dX1_send_46 rfl ?_
      refine q_dup o dX1_send_48 rfl ?_
      refine q_getI o sf_X1_send_164 hn2 dX1_send_49 ?_
      refine q_iconst o dX1_send_52 (x := (1 : Int32)) (by decide) ?_
      refine q_iadd o dX1_send_53 ?_
      refine q_putI o sp_X1_send_164 hn2 dX1_send_54 (fun v9 e10 => ?_)
      have h := h v9 e10
      refine q_aload o dX1_send_57 rfl ?_
      refine q_getR (q := 15) o sf_X1_send_126 hn2 dX1_send_59 ?_
      refine q_getR (q := 21) o sf_X1_send_167 hn2 dX1_send_62 ?_
      refine q_iload_n o dX1_send_65 rfl ?_
      refine q_dup2 o dX1_send_66 rfl rfl ?_
      refine q_iald (m := 11) o rfl rfl hn2 hn5 hx6 dX1_send_67 ?_
      refine q_iconst o dX1_send_68 (x := (1 : Int32)) (by decide) ?_
      refine q_iadd o dX1_send_69 ?_
      refine q_iast (m := 11) o rfl rfl hn2 hn5 hx6 dX1_send_70 (fun v11 e12 => ?_)
      have h := h v11 e12
      refine q_aload o dX1_send_71 rfl ?_
      refine q_getR (q := 15) o sf_X1_send_126 hn2 dX1_send_73 ?_
      refine q_getR (q := 20) o sf_X1_send_169 hn2 dX1_send_76 ?_
      refine q_iload_n o dX1_send_79 rfl ?_
      refine q_dup2 o dX1_send_80 rfl rfl ?_
      refine q_iald (m := 11) o rfl rfl hn2 hn5 hx6 dX1_send_81 ?_
      refine q_iconst o dX1_send_82 (x := (1 : Int32)) (by decide) ?_
      refine q_iadd o dX1_send_83 ?_
      refine q_iast (m := 11) o rfl rfl hn2 hn5 hx6 dX1_send_84 (fun v13 e14 => ?_)
      have h := h v13 e14
      refine q_aload o dX1_send_85 rfl ?_
      refine q_dup o dX1_send_87 rfl ?_
      refine q_getI o sf_X1_send_79 hn5 dX1_send_88 ?_
      refine q_iconst o dX1_send_91 (x := (1 : Int32)) (by decide) ?_
      refine q_isub o dX1_send_92 ?_
      refine q_putI o sp_X1_send_79 hn5 dX1_send_93 (fun v15 e16 => ?_)
      have h := h v15 e16
      refine q_aload o dX1_send_96 rfl ?_
      refine q_getR (q := 14) o sf_X1_send_32 hn5 dX1_send_98 ?_
      refine q_iload_n o dX1_send_101 rfl ?_
      refine q_iload o dX1_send_102 rfl ?_
      refine q_callVv o [.int a3, .int a4] (ad_X6_expect l G n4 a3 a4 hn5 v15 h) gX1_send_X6_expect rfl rfl rfl rfl hn5 ⟨rfl, by decide, by decide, pd_X6_expect⟩ (by decide) (by decide) rfl (Nat.le_of_ble_eq_true rfl) dX1_send_104 (fun v17 h => ?_)
      refine q_aload_n o dX1_send_107 rfl ?_
      refine q_getR (q := 0) o sf_X1_send_9 (by decide) dX1_send_108 ?_
      refine q_dup o dX1_send_111 rfl ?_
      refine q_getI o sf_X1_send_176 (by decide) dX1_send_112 ?_
      refine q_iconst o dX1_send_115 (x := (1 : Int32)) (by decide) ?_
      refine q_iadd o dX1_send_116 ?_
      refine q_putI o sp_X1_send_176 (by decide) dX1_send_117 (fun v19 e20 => ?_)
      have h := h v19 e20
      refine q_aload_n o dX1_send_120 rfl ?_
      refine q_getR (q := 0) o sf_X1_send_9 (by decide) dX1_send_121 ?_
      refine q_getR (q := 4) o sf_X1_send_54 (by decide) dX1_send_124 ?_
      refine q_iload_n o dX1_send_127 rfl ?_
      refine q_iload o dX1_send_128 rfl ?_
      refine q_callV o [.int a3, .int a4] (ad_X8_valueOf l G a3 a4 v19 h) gX1_send_X8_valueOf rfl rfl rfl rfl (by decide) ⟨rfl, by decide, by decide, pd_X8_valueOf⟩ (by decide) (by decide) rfl (Nat.le_of_ble_eq_true rfl) dX1_send_130 (fun r22 v21 h => ?_)
      refine q_istore o (lv' := [(7, .int r22), (6, .ref (gA G 14 n4)), (5, .ref (gA G 14 n1)), (0, .ref (gA G 4 0)), (1, .int a1), (2, .int a2), (3, .int a3), (4, .int a4)]) dX1_send_133 (by decide) rfl ?_
      refine q_aload_n o dX1_send_135 rfl ?_
      refine q_getR (q := 0) o sf_X1_send_9 (by decide) dX1_send_136 ?_
      refine q_getI o sf_X1_send_182 (by decide) dX1_send_139 ?_
      refine q_aload o dX1_send_142 rfl ?_
      refine q_getI o sf_X1_send_185 hn2 dX1_send_144 ?_
      refine q_iconst o dX1_send_147 (x := (4 : Int32)) (by decide) ?_
      refine q_ic_ne o 155 dX1_send_148 (by decide) (fun c30 => ?_) (fun c30 => ?_)
      · have h := h.1 c30
        refine q_iconst o dX1_send_155 (x := (0 : Int32)) (by decide) ?_
        refine q_lv [3, 4, 5, 6, 7, 2, 0] rfl ?_
        exact aJ_X1_send_156 o rt a1 a2 a3 a4 n1 r22 (0 : Int32) (v21 1 0 5) hn2 v21 h
      · have h := h.2 c30
        refine q_iconst o dX1_send_151 (x := (2 : Int32)) (by decide) ?_
        refine q_goto o 156 dX1_send_152 (by decide) ?_
        refine q_lv [3, 4, 5, 6, 7, 2, 0] rfl ?_
        exact aJ_X1_send_156 o rt a1 a2 a3 a4 n1 r22 (2 : Int32) (v21 1 0 5) hn2 v21 h
    · have h := h.2 c31
      refine q_iconst o dX1_send_11 (x := (0 : Int32)) (by decide) ?_
      exact q_zret o rt dX1_send_12 (by decide) h
theorem pd_X1_send : (parseMethodDescriptor yX1_send.desc).map (fun d => d.parameters.length) = some 4 := by decide +kernel
-- PieceSwarm$Asking.askAtEnd(II)Z
theorem inn_X1_askAtEnd_X1 : ∀ w ∈ wsX10, w ∈ wsX1_askAtEnd := by decide +kernel
theorem sf_X1_askAtEnd_9 : SF wsX1_askAtEnd RX1 9 4 0 1 := ⟨RX1, TX1, 1, rfl, rfl, rfl, rfl, by decide, inn_X1_askAtEnd_X1, by decide +kernel⟩
theorem inn_X1_askAtEnd_X2 : ∀ w ∈ wsX20, w ∈ wsX1_askAtEnd := by decide +kernel
theorem sf_X1_askAtEnd_28 : SF wsX1_askAtEnd RX1 28 1 1 13 := ⟨RX2, TX2, 8, rfl, rfl, rfl, rfl, by decide, inn_X1_askAtEnd_X2, by decide +kernel⟩
theorem inn_X1_askAtEnd_X3 : ∀ w ∈ wsX30, w ∈ wsX1_askAtEnd := by decide +kernel
theorem sf_X1_askAtEnd_32 : SF wsX1_askAtEnd RX1 32 14 0 15 := ⟨RX3, TX3, 13, rfl, rfl, rfl, rfl, by decide, inn_X1_askAtEnd_X3, by decide +kernel⟩
theorem inn_X1_askAtEnd_X6 : ∀ w ∈ wsX60, w ∈ wsX1_askAtEnd := by decide +kernel
theorem sf_X1_askAtEnd_51 : SF wsX1_askAtEnd RX1 51 15 3 0 := ⟨RX6, TX6, 6, rfl, rfl, rfl, rfl, by decide, inn_X1_askAtEnd_X6, by decide +kernel⟩
theorem sf_X1_askAtEnd_46 : SF wsX1_askAtEnd RX1 46 15 4 0 := ⟨RX6, TX6, 6, rfl, rfl, rfl, rfl, by decide, inn_X1_askAtEnd_X6, by decide +kernel⟩
theorem sf_X1_askAtEnd_54 : SF wsX1_askAtEnd RX1 54 1 0 5 := ⟨RX2, TX2, 8, rfl, rfl, rfl, rfl, by decide, inn_X1_askAtEnd_X2, by decide +kernel⟩
theorem inn_X1_askAtEnd_X8 : ∀ w ∈ wsX80, w ∈ wsX1_askAtEnd := by decide +kernel
theorem sf_X1_askAtEnd_58 : SF wsX1_askAtEnd RX1 58 5 0 0 := ⟨RX8, TX8, 3, rfl, rfl, rfl, rfl, by decide, inn_X1_askAtEnd_X8, by decide +kernel⟩
theorem wini_X1_askAtEnd_X9_isIn : Cond.initialized yX9_isIn.cls ∈ wsX1_askAtEnd := by decide +kernel
theorem wsta_X1_askAtEnd_X9_isIn : Cond.static yX9_isIn ∈ wsX1_askAtEnd := by decide +kernel
theorem sf_X1_askAtEnd_109 : SF wsX1_askAtEnd RX1 109 5 1 0 := ⟨RX8, TX8, 3, rfl, rfl, rfl, rfl, by decide, inn_X1_askAtEnd_X8, by decide +kernel⟩
theorem sf_X1_askAtEnd_154 : SF wsX1_askAtEnd RX1 154 15 2 19 := ⟨RX6, TX6, 6, rfl, rfl, rfl, rfl, by decide, inn_X1_askAtEnd_X6, by decide +kernel⟩
theorem wini_X1_askAtEnd_X9_place : Cond.initialized yX9_place.cls ∈ wsX1_askAtEnd := by decide +kernel
theorem wsta_X1_askAtEnd_X9_place : Cond.static yX9_place ∈ wsX1_askAtEnd := by decide +kernel
theorem sf_X1_askAtEnd_90 : SF wsX1_askAtEnd RX1 90 1 2 6 := ⟨RX2, TX2, 8, rfl, rfl, rfl, rfl, by decide, inn_X1_askAtEnd_X2, by decide +kernel⟩
def wB_X1_askAtEnd_158 (post : (Int32 → St3 → Prop)) (K27 : Int32 → Int32 → Nat → Int32 → Int32 → St3 → Prop) (K71 : Int32 → Int32 → Nat → Int32 → Int32 → Int32 → Int32 → St3 → Prop) (a1 : Int32) (a2 : Int32) (i3 : Nat) (a4 : Int32) (a5 : Int32) (a6 : Int32) (a7 : Int32) (s0 : Int32) (v : St3) : Prop := ((s0 = 0 → K71 a1 a2 i3 a4 a5 a6 (a7 + (1 : Int32)) v) ∧ (¬ s0 = 0 → wp_X1_readiest s0 v (fun r18 v17 => wp_X1_send r18 a1 a5 a7 v17 (fun r20 v19 => ((r20 = 0 ∨ r20 = 1) ∧ post r20 v19)))))
set_option maxRecDepth 20000 in
set_option maxHeartbeats 4000000 in
theorem aJ_X1_askAtEnd_158 {l : Launch} {G : Geo} {X : CT} (o : OK G X cX1_askAtEnd wsX1_askAtEnd RX1 3 10) {post : (Int32 → St3 → Prop)} (rt : RI G X .boolean post) {K27 : Int32 → Int32 → Nat → Int32 → Int32 → St3 → Prop} {K71 : Int32 → Int32 → Nat → Int32 → Int32 → Int32 → Int32 → St3 → Prop} (hK27 : ∀ (a1 : Int32) (a2 : Int32) (i3 : Nat) (a4 : Int32) (a5 : Int32) (_ : i3 < 12) (v : St3), K27 a1 a2 i3 a4 a5 v → J l G X 27 [(0, .ref (gA G 4 0)), (1, .int a1), (2, .int a2), (3, .ref (gA G 15 i3)), (4, .int a4), (5, .int a5)] [] v) (hK71 : ∀ (a1 : Int32) (a2 : Int32) (i3 : Nat) (a4 : Int32) (a5 : Int32) (a6 : Int32) (a7 : Int32) (_ : i3 < 12) (v : St3), K71 a1 a2 i3 a4 a5 a6 a7 v → J l G X 71 [(0, .ref (gA G 4 0)), (1, .int a1), (2, .int a2), (3, .ref (gA G 15 i3)), (4, .int a4), (5, .int a5), (6, .int a6), (7, .int a7)] [] v) (a1 : Int32) (a2 : Int32) (i3 : Nat) (a4 : Int32) (a5 : Int32) (a6 : Int32) (a7 : Int32) (s0 : Int32) (hi3 : i3 < 12) (v : St3) (h : wB_X1_askAtEnd_158 post K27 K71 a1 a2 i3 a4 a5 a6 a7 s0 v) : J l G X 158 [(0, .ref (gA G 4 0)), (1, .int a1), (2, .int a2), (3, .ref (gA G 15 i3)), (4, .int a4), (5, .int a5), (6, .int a6), (7, .int a7)] [.int s0] v := by
  unfold wB_X1_askAtEnd_158 at h
  refine q_istore o (lv' := [(9, .int s0), (0, .ref (gA G 4 0)), (1, .int a1), (2, .int a2), (3, .ref (gA G 15 i3)), (4, .int a4), (5, .int a5), (6, .int a6), (7, .int a7)]) dX1_askAtEnd_158 (by decide) rfl ?_
  refine q_iload o dX1_askAtEnd_160 rfl ?_
  refine q_if_eq o 181 dX1_askAtEnd_162 (by decide) (fun c22 => ?_) (fun c22 => ?_)
  · have h := h.1 c22
    refine q_iinc o (y := (a7 + (1 : Int32))) (lv' := [(7, .int (a7 + (1 : Int32))), (9, .int s0), (0, .ref (gA G 4 0)), (1, .int a1), (2, .int a2), (3, .ref (gA G 15 i3)), (4, .int a4), (5, .int a5), (6, .int a6)]) dX1_askAtEnd_181 rfl rfl (by decide) rfl ?_
    refine q_goto o 71 dX1_askAtEnd_184 (by decide) ?_
    refine q_lv [2, 3, 4, 5, 6, 7, 8, 0] rfl ?_
    exact hK71 a1 a2 i3 a4 a5 a6 (a7 + (1 : Int32)) hi3 v h
  · have h := h.2 c22
    refine q_aload_n o dX1_askAtEnd_165 rfl ?_
    refine q_aload_n o dX1_askAtEnd_166 rfl ?_
    refine q_iload o dX1_askAtEnd_167 rfl ?_
    refine q_callV o [.int s0] (ad_X1_readiest l G s0 v h) gX1_askAtEnd_X1_readiest rfl rfl rfl rfl (by decide) ⟨rfl, by decide, by decide, pd_X1_readiest⟩ (by decide) (by decide) rfl (Nat.le_of_ble_eq_true rfl) dX1_askAtEnd_169 (fun r18 v17 h => ?_)
    refine q_iload_n o dX1_askAtEnd_172 rfl ?_
    refine q_iload o dX1_askAtEnd_173 rfl ?_
    refine q_iload o dX1_askAtEnd_175 rfl ?_
    refine q_callV o [.int r18, .int a1, .int a5, .int a7] (ad_X1_send l G r18 a1 a5 a7 v17 h) gX1_askAtEnd_X1_send rfl rfl rfl rfl (by decide) ⟨rfl, by decide, by decide, pd_X1_send⟩ (by decide) (by decide) rfl (Nat.le_of_ble_eq_true rfl) dX1_askAtEnd_177 (fun r20 v19 h => ?_)
    obtain ⟨hz21, h⟩ := h
    exact q_zret o rt dX1_askAtEnd_180 hz21 h
def wB_X1_askAtEnd_71 (post : (Int32 → St3 → Prop)) (K27 : Int32 → Int32 → Nat → Int32 → Int32 → St3 → Prop) (K71 : Int32 → Int32 → Nat → Int32 → Int32 → Int32 → Int32 → St3 → Prop) (a1 : Int32) (a2 : Int32) (i3 : Nat) (a4 : Int32) (a5 : Int32) (a6 : Int32) (a7 : Int32) (v : St3) : Prop := ((a6 = 0 → K27 a1 a2 i3 a4 (a5 + (1 : Int32)) v) ∧ (¬ a6 = 0 → (((v 5 0 1) ≤ a7 → K27 a1 a2 i3 a4 (a5 + (1 : Int32)) v) ∧ (¬ (v 5 0 1) ≤ a7 → wp_X6_holds i3 a5 a7 v (fun r9 v8 => ((¬ r9 = 0 → K71 a1 a2 i3 a4 a5 a6 (a7 + (1 : Int32)) v8) ∧ (r9 = 0 → wp_X9_place a5 a7 v8 (fun r11 v10 => ∃ n12, n12 < 96 ∧ r11 = nI n12 ∧ (((v10 19 i3 n12) = (1 : Int32) → wp_X5_firstGiverOf a1 a5 a7 v10 (fun r16 v15 => ((¬ r16 = (-1 : Int32) → wB_X1_askAtEnd_158 post K27 K71 a1 a2 i3 a4 a5 a6 a7 (a6 &&& (((1 : Int32) <<< (r16 &&& 31)) ^^^ (-1 : Int32))) v15) ∧ (r16 = (-1 : Int32) → wB_X1_askAtEnd_158 post K27 K71 a1 a2 i3 a4 a5 a6 a7 a6 v15)))) ∧ (¬ (v10 19 i3 n12) = (1 : Int32) → K71 a1 a2 i3 a4 a5 a6 (a7 + (1 : Int32)) v10))))))))))
def wL_X1_askAtEnd_71 (post : (Int32 → St3 → Prop)) (K27 : Int32 → Int32 → Nat → Int32 → Int32 → St3 → Prop) : Nat → Int32 → Int32 → Nat → Int32 → Int32 → Int32 → Int32 → St3 → Prop
  | 0, _, _, _, _, _, _, _, _ => False
  | f + 1, a1, a2, i3, a4, a5, a6, a7, v => wB_X1_askAtEnd_71 post K27 (wL_X1_askAtEnd_71 post K27 f) a1 a2 i3 a4 a5 a6 a7 v
set_option maxRecDepth 20000 in
set_option maxHeartbeats 4000000 in
theorem aL_X1_askAtEnd_71 {l : Launch} {G : Geo} {X : CT} (o : OK G X cX1_askAtEnd wsX1_askAtEnd RX1 3 10) {post : (Int32 → St3 → Prop)} (rt : RI G X .boolean post) {K27 : Int32 → Int32 → Nat → Int32 → Int32 → St3 → Prop} (hK27 : ∀ (a1 : Int32) (a2 : Int32) (i3 : Nat) (a4 : Int32) (a5 : Int32) (_ : i3 < 12) (v : St3), K27 a1 a2 i3 a4 a5 v → J l G X 27 [(0, .ref (gA G 4 0)), (1, .int a1), (2, .int a2), (3, .ref (gA G 15 i3)), (4, .int a4), (5, .int a5)] [] v) : ∀ (f : Nat) (a1 : Int32) (a2 : Int32) (i3 : Nat) (a4 : Int32) (a5 : Int32) (a6 : Int32) (a7 : Int32) (hi3 : i3 < 12) (v : St3), wL_X1_askAtEnd_71 post K27 f a1 a2 i3 a4 a5 a6 a7 v → J l G X 71 [(0, .ref (gA G 4 0)), (1, .int a1), (2, .int a2), (3, .ref (gA G 15 i3)), (4, .int a4), (5, .int a5), (6, .int a6), (7, .int a7)] [] v := by
  intro f
  induction f with
  | zero => intro _ _ _ _ _ _ _ _ _ h; exact False.elim h
  | succ f hK71 =>
  intro a1 a2 i3 a4 a5 a6 a7 hi3 v h
  have h : wB_X1_askAtEnd_71 post K27 (wL_X1_askAtEnd_71 post K27 f) a1 a2 i3 a4 a5 a6 a7 v := h
  unfold wB_X1_askAtEnd_71 at h
  refine q_iload o dX1_askAtEnd_71 rfl ?_
  refine q_if_eq o 187 dX1_askAtEnd_73 (by decide) (fun c27 => ?_) (fun c27 => ?_)
  · have h := h.1 c27
    refine q_iinc o (y := (a5 + (1 : Int32))) (lv' := [(5, .int (a5 + (1 : Int32))), (0, .ref (gA G 4 0)), (1, .int a1), (2, .int a2), (3, .ref (gA G 15 i3)), (4, .int a4), (6, .int a6), (7, .int a7)]) dX1_askAtEnd_187 rfl rfl (by decide) rfl ?_
    refine q_goto o 27 dX1_askAtEnd_190 (by decide) ?_
    refine q_lv [1, 2, 3, 4, 5, 0] rfl ?_
    exact hK27 a1 a2 i3 a4 (a5 + (1 : Int32)) hi3 v h
  · have h := h.2 c27
    refine q_iload o dX1_askAtEnd_76 rfl ?_
    refine q_aload_n o dX1_askAtEnd_78 rfl ?_
    refine q_getR (q := 0) o sf_X1_askAtEnd_9 (by decide) dX1_askAtEnd_79 ?_
    refine q_getR (q := 4) o sf_X1_askAtEnd_54 (by decide) dX1_askAtEnd_82 ?_
    refine q_getI o sf_X1_askAtEnd_109 (by decide) dX1_askAtEnd_85 ?_
    refine q_ic_ge o 187 dX1_askAtEnd_88 (by decide) (fun c26 => ?_) (fun c26 => ?_)
    · have h := h.1 c26
      refine q_iinc o (y := (a5 + (1 : Int32))) (lv' := [(5, .int (a5 + (1 : Int32))), (0, .ref (gA G 4 0)), (1, .int a1), (2, .int a2), (3, .ref (gA G 15 i3)), (4, .int a4), (6, .int a6), (7, .int a7)]) dX1_askAtEnd_187 rfl rfl (by decide) rfl ?_
      refine q_goto o 27 dX1_askAtEnd_190 (by decide) ?_
      refine q_lv [1, 2, 3, 4, 5, 0] rfl ?_
      exact hK27 a1 a2 i3 a4 (a5 + (1 : Int32)) hi3 v h
    · have h := h.2 c26
      refine q_aload_n o dX1_askAtEnd_91 rfl ?_
      refine q_iload o dX1_askAtEnd_92 rfl ?_
      refine q_iload o dX1_askAtEnd_94 rfl ?_
      refine q_callV o [.int a5, .int a7] (ad_X6_holds l G i3 a5 a7 hi3 v h) gX1_askAtEnd_X6_holds rfl rfl rfl rfl hi3 ⟨rfl, by decide, by decide, pd_X6_holds⟩ (by decide) (by decide) rfl (Nat.le_of_ble_eq_true rfl) dX1_askAtEnd_96 (fun r9 v8 h => ?_)
      refine q_if_ne o 181 dX1_askAtEnd_99 (by decide) (fun c25 => ?_) (fun c25 => ?_)
      · have h := h.1 c25
        refine q_iinc o (y := (a7 + (1 : Int32))) (lv' := [(7, .int (a7 + (1 : Int32))), (0, .ref (gA G 4 0)), (1, .int a1), (2, .int a2), (3, .ref (gA G 15 i3)), (4, .int a4), (5, .int a5), (6, .int a6)]) dX1_askAtEnd_181 rfl rfl (by decide) rfl ?_
        refine q_goto o 71 dX1_askAtEnd_184 (by decide) ?_
        refine q_lv [1, 2, 3, 4, 5, 6, 7, 0] rfl ?_
        exact hK71 a1 a2 i3 a4 a5 a6 (a7 + (1 : Int32)) hi3 v8 h
      · have h := h.2 c25
        refine q_aload_n o dX1_askAtEnd_102 rfl ?_
        refine q_getR (q := 18) o sf_X1_askAtEnd_154 hi3 dX1_askAtEnd_103 ?_
        refine q_iload o dX1_askAtEnd_106 rfl ?_
        refine q_iload o dX1_askAtEnd_108 rfl ?_
        refine q_callN o [.int a5, .int a7] (ad_X9_place l G a5 a7 v8 h) gX1_askAtEnd_X9_place_n158 rfl (by decide +kernel) wini_X1_askAtEnd_X9_place wsta_X1_askAtEnd_X9_place ⟨by decide, by decide, pd_X9_place⟩ (by decide) (by decide) rfl (Nat.le_of_ble_eq_true rfl) dX1_askAtEnd_110 (fun r11 v10 h => ?_)
        obtain ⟨n12, hn13, hx14, h⟩ := h
        refine q_iald (m := 95) o rfl rfl hi3 hn13 hx14 dX1_askAtEnd_113 ?_
        refine q_iconst o dX1_askAtEnd_114 (x := (1 : Int32)) (by decide) ?_
        refine q_ic_eq o 121 dX1_askAtEnd_115 (by decide) (fun c24 => ?_) (fun c24 => ?_)
        · have h := h.1 c24
          refine q_aload_n o dX1_askAtEnd_121 rfl ?_
          refine q_getR (q := 0) o sf_X1_askAtEnd_9 (by decide) dX1_askAtEnd_122 ?_
          refine q_getR (q := 5) o sf_X1_askAtEnd_90 (by decide) dX1_askAtEnd_125 ?_
          refine q_iload_n o dX1_askAtEnd_128 rfl ?_
          refine q_iload o dX1_askAtEnd_129 rfl ?_
          refine q_iload o dX1_askAtEnd_131 rfl ?_
          refine q_callV o [.int a1, .int a5, .int a7] (ad_X5_firstGiverOf l G a1 a5 a7 v10 h) gX1_askAtEnd_X5_firstGiverOf rfl rfl rfl rfl (by decide) ⟨rfl, by decide, by decide, pd_X5_firstGiverOf⟩ (by decide) (by decide) rfl (Nat.le_of_ble_eq_true rfl) dX1_askAtEnd_133 (fun r16 v15 h => ?_)
          refine q_istore o (lv' := [(8, .int r16), (0, .ref (gA G 4 0)), (1, .int a1), (2, .int a2), (3, .ref (gA G 15 i3)), (4, .int a4), (5, .int a5), (6, .int a6), (7, .int a7)]) dX1_askAtEnd_136 (by decide) rfl ?_
          refine q_iload o dX1_askAtEnd_138 rfl ?_
          refine q_iconst o dX1_askAtEnd_140 (x := (-1 : Int32)) (by decide) ?_
          refine q_ic_ne o 149 dX1_askAtEnd_141 (by decide) (fun c23 => ?_) (fun c23 => ?_)
          · have h := h.1 c23
            refine q_iload o dX1_askAtEnd_149 rfl ?_
            refine q_iconst o dX1_askAtEnd_151 (x := (1 : Int32)) (by decide) ?_
            refine q_iload o dX1_askAtEnd_152 rfl ?_
            refine q_ishl o dX1_askAtEnd_154 ?_
            refine q_iconst o dX1_askAtEnd_155 (x := (-1 : Int32)) (by decide) ?_
            refine q_ixor o dX1_askAtEnd_156 ?_
            refine q_iand o dX1_askAtEnd_157 ?_
            refine q_lv [1, 2, 3, 4, 5, 6, 7, 8] rfl ?_
            exact aJ_X1_askAtEnd_158 o rt hK27 hK71 a1 a2 i3 a4 a5 a6 a7 (a6 &&& (((1 : Int32) <<< (r16 &&& 31)) ^^^ (-1 : Int32))) hi3 v15 h
          · have h := h.2 c23
            refine q_iload o dX1_askAtEnd_144 rfl ?_
            refine q_goto o 158 dX1_askAtEnd_146 (by decide) ?_
            refine q_lv [1, 2, 3, 4, 5, 6, 7, 8] rfl ?_
            exact aJ_X1_askAtEnd_158 o rt hK27 hK71 a1 a2 i3 a4 a5 a6 a7 a6 hi3 v15 h
        · have h := h.2 c24
          refine q_goto o 181 dX1_askAtEnd_118 (by decide) ?_
          refine q_iinc o (y := (a7 + (1 : Int32))) (lv' := [(7, .int (a7 + (1 : Int32))), (0, .ref (gA G 4 0)), (1, .int a1), (2, .int a2), (3, .ref (gA G 15 i3)), (4, .int a4), (5, .int a5), (6, .int a6)]) dX1_askAtEnd_181 rfl rfl (by decide) rfl ?_
          refine q_goto o 71 dX1_askAtEnd_184 (by decide) ?_
          refine q_lv [1, 2, 3, 4, 5, 6, 7, 0] rfl ?_
          exact hK71 a1 a2 i3 a4 a5 a6 (a7 + (1 : Int32)) hi3 v10 h
def wB_X1_askAtEnd_27 (post : (Int32 → St3 → Prop)) (K27 : Int32 → Int32 → Nat → Int32 → Int32 → St3 → Prop) (a1 : Int32) (a2 : Int32) (i3 : Nat) (a4 : Int32) (a5 : Int32) (v : St3) : Prop := (((v 5 0 0) ≤ a5 → post (0 : Int32) v) ∧ (¬ (v 5 0 0) ≤ a5 → wp_X9_isIn a4 a5 v (fun r5 v4 => ((r5 = 0 → wp_X2_tellersAmong a2 a5 v4 (fun r7 v6 => wL_X1_askAtEnd_71 post K27 FU a1 a2 i3 a4 a5 r7 (0 : Int32) v6)) ∧ (¬ r5 = 0 → wL_X1_askAtEnd_71 post K27 FU a1 a2 i3 a4 a5 (0 : Int32) (0 : Int32) v4)))))
def wL_X1_askAtEnd_27 (post : (Int32 → St3 → Prop)) : Nat → Int32 → Int32 → Nat → Int32 → Int32 → St3 → Prop
  | 0, _, _, _, _, _, _ => False
  | f + 1, a1, a2, i3, a4, a5, v => wB_X1_askAtEnd_27 post (wL_X1_askAtEnd_27 post f) a1 a2 i3 a4 a5 v
set_option maxRecDepth 20000 in
set_option maxHeartbeats 4000000 in
theorem aL_X1_askAtEnd_27 {l : Launch} {G : Geo} {X : CT} (o : OK G X cX1_askAtEnd wsX1_askAtEnd RX1 3 10) {post : (Int32 → St3 → Prop)} (rt : RI G X .boolean post) : ∀ (f : Nat) (a1 : Int32) (a2 : Int32) (i3 : Nat) (a4 : Int32) (a5 : Int32) (hi3 : i3 < 12) (v : St3), wL_X1_askAtEnd_27 post f a1 a2 i3 a4 a5 v → J l G X 27 [(0, .ref (gA G 4 0)), (1, .int a1), (2, .int a2), (3, .ref (gA G 15 i3)), (4, .int a4), (5, .int a5)] [] v := by
  intro f
  induction f with
  | zero => intro _ _ _ _ _ _ _ h; exact False.elim h
  | succ f hK27 =>
  intro a1 a2 i3 a4 a5 hi3 v h
  have h : wB_X1_askAtEnd_27 post (wL_X1_askAtEnd_27 post f) a1 a2 i3 a4 a5 v := h
  unfold wB_X1_askAtEnd_27 at h
  refine q_iload o dX1_askAtEnd_27 rfl ?_
  refine q_aload_n o dX1_askAtEnd_29 rfl ?_
  refine q_getR (q := 0) o sf_X1_askAtEnd_9 (by decide) dX1_askAtEnd_30 ?_
  refine q_getR (q := 4) o sf_X1_askAtEnd_54 (by decide) dX1_askAtEnd_33 ?_
  refine q_getI o sf_X1_askAtEnd_58 (by decide) dX1_askAtEnd_36 ?_
  refine q_ic_ge o 193 dX1_askAtEnd_39 (by decide) (fun c29 => ?_) (fun c29 => ?_)
  · have h := h.1 c29
    refine q_iconst o dX1_askAtEnd_193 (x := (0 : Int32)) (by decide) ?_
    exact q_zret o rt dX1_askAtEnd_194 (by decide) h
  · have h := h.2 c29
    refine q_iload o dX1_askAtEnd_42 rfl ?_
    refine q_iload o dX1_askAtEnd_44 rfl ?_
    refine q_callN o [.int a4, .int a5] (ad_X9_isIn l G a4 a5 v h) gX1_askAtEnd_X9_isIn_n24 rfl (by decide +kernel) wini_X1_askAtEnd_X9_isIn wsta_X1_askAtEnd_X9_isIn ⟨by decide, by decide, pd_X9_isIn⟩ (by decide) (by decide) rfl (Nat.le_of_ble_eq_true rfl) dX1_askAtEnd_46 (fun r5 v4 h => ?_)
    refine q_if_eq o 56 dX1_askAtEnd_49 (by decide) (fun c28 => ?_) (fun c28 => ?_)
    · have h := h.1 c28
      refine q_aload_n o dX1_askAtEnd_56 rfl ?_
      refine q_getR (q := 0) o sf_X1_askAtEnd_9 (by decide) dX1_askAtEnd_57 ?_
      refine q_iload_n o dX1_askAtEnd_60 rfl ?_
      refine q_iload o dX1_askAtEnd_61 rfl ?_
      refine q_callV o [.int a2, .int a5] (ad_X2_tellersAmong l G a2 a5 v4 h) gX1_askAtEnd_X2_tellersAmong rfl rfl rfl rfl (by decide) ⟨rfl, by decide, by decide, pd_X2_tellersAmong⟩ (by decide) (by decide) rfl (Nat.le_of_ble_eq_true rfl) dX1_askAtEnd_63 (fun r7 v6 h => ?_)
      refine q_istore o (lv' := [(6, .int r7), (0, .ref (gA G 4 0)), (1, .int a1), (2, .int a2), (3, .ref (gA G 15 i3)), (4, .int a4), (5, .int a5)]) dX1_askAtEnd_66 (by decide) rfl ?_
      refine q_iconst o dX1_askAtEnd_68 (x := (0 : Int32)) (by decide) ?_
      refine q_istore o (lv' := [(7, .int (0 : Int32)), (6, .int r7), (0, .ref (gA G 4 0)), (1, .int a1), (2, .int a2), (3, .ref (gA G 15 i3)), (4, .int a4), (5, .int a5)]) dX1_askAtEnd_69 (by decide) rfl ?_
      refine q_lv [2, 3, 4, 5, 6, 7, 1, 0] rfl ?_
      exact aL_X1_askAtEnd_71 o rt hK27 FU a1 a2 i3 a4 a5 r7 (0 : Int32) hi3 v6 h
    · have h := h.2 c28
      refine q_iconst o dX1_askAtEnd_52 (x := (0 : Int32)) (by decide) ?_
      refine q_goto o 66 dX1_askAtEnd_53 (by decide) ?_
      refine q_istore o (lv' := [(6, .int (0 : Int32)), (0, .ref (gA G 4 0)), (1, .int a1), (2, .int a2), (3, .ref (gA G 15 i3)), (4, .int a4), (5, .int a5)]) dX1_askAtEnd_66 (by decide) rfl ?_
      refine q_iconst o dX1_askAtEnd_68 (x := (0 : Int32)) (by decide) ?_
      refine q_istore o (lv' := [(7, .int (0 : Int32)), (6, .int (0 : Int32)), (0, .ref (gA G 4 0)), (1, .int a1), (2, .int a2), (3, .ref (gA G 15 i3)), (4, .int a4), (5, .int a5)]) dX1_askAtEnd_69 (by decide) rfl ?_
      refine q_lv [2, 3, 4, 5, 6, 7, 1, 0] rfl ?_
      exact aL_X1_askAtEnd_71 o rt hK27 FU a1 a2 i3 a4 a5 (0 : Int32) (0 : Int32) hi3 v4 h
def wp_X1_askAtEnd (a1 : Int32) (a2 : Int32) (v : St3) (post : (Int32 → St3 → Prop)) : Prop := ∃ n1, n1 < 12 ∧ a1 = nI n1 ∧ wL_X1_askAtEnd_27 post FU a1 a2 n1 ((v 15 n1 3) ||| (v 15 n1 4)) (0 : Int32) v
set_option maxRecDepth 20000 in
set_option maxHeartbeats 4000000 in
theorem ad_X1_askAtEnd (l : Launch) (G : Geo) (a1 : Int32) (a2 : Int32) (v : St3) {post : (Int32 → St3 → Prop)} (h : wp_X1_askAtEnd a1 a2 v post) : CI l G yX1_askAtEnd wsX1_askAtEnd 3 [.ref (gA G 4 0), .int a1, .int a2] v post := by
  refine CI.of (ty := .boolean) (cc := cX1_askAtEnd) (maxL := 10) (by decide) rfl (Nat.le_of_ble_eq_true rfl) (fun X o rt => ?_)
  unfold wp_X1_askAtEnd at h
  show J l G X 0 [(0, .ref (gA G 4 0)), (1, .int a1), (2, .int a2)] [] v
  refine q_aload_n o dX1_askAtEnd_0 rfl ?_
  refine q_getR (q := 0) o sf_X1_askAtEnd_9 (by decide) dX1_askAtEnd_1 ?_
  refine q_getR (q := 12) o sf_X1_askAtEnd_28 (by decide) dX1_askAtEnd_4 ?_
  refine q_iload_n o dX1_askAtEnd_7 rfl ?_
  obtain ⟨n1, hn2, hx3, h⟩ := h
  refine q_mald o hn2 hx3 dX1_askAtEnd_8 ?_
  refine q_getR (q := 14) o sf_X1_askAtEnd_32 hn2 dX1_askAtEnd_9 ?_
  refine q_astore_n o (lv' := [(3, .ref (gA G 15 n1)), (0, .ref (gA G 4 0)), (1, .int a1), (2, .int a2)]) dX1_askAtEnd_12 (by decide) rfl ?_
  refine q_aload_n o dX1_askAtEnd_13 rfl ?_
  refine q_getI o sf_X1_askAtEnd_51 hn2 dX1_askAtEnd_14 ?_
  refine q_aload_n o dX1_askAtEnd_17 rfl ?_
  refine q_getI o sf_X1_askAtEnd_46 hn2 dX1_askAtEnd_18 ?_
  refine q_ior o dX1_askAtEnd_21 ?_
  refine q_istore o (lv' := [(4, .int ((v 15 n1 3) ||| (v 15 n1 4))), (3, .ref (gA G 15 n1)), (0, .ref (gA G 4 0)), (1, .int a1), (2, .int a2)]) dX1_askAtEnd_22 (by decide) rfl ?_
  refine q_iconst o dX1_askAtEnd_24 (x := (0 : Int32)) (by decide) ?_
  refine q_istore o (lv' := [(5, .int (0 : Int32)), (4, .int ((v 15 n1 3) ||| (v 15 n1 4))), (3, .ref (gA G 15 n1)), (0, .ref (gA G 4 0)), (1, .int a1), (2, .int a2)]) dX1_askAtEnd_25 (by decide) rfl ?_
  refine q_lv [3, 4, 5, 2, 1, 0] rfl ?_
  exact aL_X1_askAtEnd_27 o rt FU a1 a2 n1 ((v 15 n1 3) ||| (v 15 n1 4)) (0 : Int32) hn2 v h
theorem pd_X1_askAtEnd : (parseMethodDescriptor yX1_askAtEnd.desc).map (fun d => d.parameters.length) = some 2 := by decide +kernel
-- PieceSwarm$Asking.askOne(I)Z
theorem inn_X1_askOne_X1 : ∀ w ∈ wsX10, w ∈ wsX1_askOne := by decide +kernel
theorem sf_X1_askOne_9 : SF wsX1_askOne RX1 9 4 0 1 := ⟨RX1, TX1, 1, rfl, rfl, rfl, rfl, by decide, inn_X1_askOne_X1, by decide +kernel⟩
theorem inn_X1_askOne_X2 : ∀ w ∈ wsX20, w ∈ wsX1_askOne := by decide +kernel
theorem sf_X1_askOne_28 : SF wsX1_askOne RX1 28 1 1 13 := ⟨RX2, TX2, 8, rfl, rfl, rfl, rfl, by decide, inn_X1_askOne_X2, by decide +kernel⟩
theorem inn_X1_askOne_X3 : ∀ w ∈ wsX30, w ∈ wsX1_askOne := by decide +kernel
theorem sf_X1_askOne_79 : SF wsX1_askOne RX1 79 14 12 0 := ⟨RX3, TX3, 13, rfl, rfl, rfl, rfl, by decide, inn_X1_askOne_X3, by decide +kernel⟩
theorem sf_X1_askOne_90 : SF wsX1_askOne RX1 90 1 2 6 := ⟨RX2, TX2, 8, rfl, rfl, rfl, rfl, by decide, inn_X1_askOne_X2, by decide +kernel⟩
theorem sf_X1_askOne_32 : SF wsX1_askOne RX1 32 14 0 15 := ⟨RX3, TX3, 13, rfl, rfl, rfl, rfl, by decide, inn_X1_askOne_X3, by decide +kernel⟩
theorem sf_X1_askOne_54 : SF wsX1_askOne RX1 54 1 0 5 := ⟨RX2, TX2, 8, rfl, rfl, rfl, rfl, by decide, inn_X1_askOne_X2, by decide +kernel⟩
theorem inn_X1_askOne_X8 : ∀ w ∈ wsX80, w ∈ wsX1_askOne := by decide +kernel
theorem sf_X1_askOne_109 : SF wsX1_askOne RX1 109 5 1 0 := ⟨RX8, TX8, 3, rfl, rfl, rfl, rfl, by decide, inn_X1_askOne_X8, by decide +kernel⟩
def wp_X1_askOne (a1 : Int32) (v : St3) (post : (Int32 → St3 → Prop)) : Prop := ∃ n1, n1 < 12 ∧ a1 = nI n1 ∧ (((v 14 n1 12) ≤ 0 → post (0 : Int32) v) ∧ (¬ (v 14 n1 12) ≤ 0 → wp_X3_isDone n1 v (fun r5 v4 => ((¬ r5 = 0 → post (0 : Int32) v4) ∧ (r5 = 0 → wp_X5_hasRoom v4 (fun r7 v6 => ((¬ r7 = 0 → wp_X1_giversTo a1 v6 (fun r9 v8 => ((¬ r9 = 0 → wp_X1_pickPiece a1 r9 v8 (fun r11 v10 => ((¬ r11 = (-1 : Int32) → wp_X6_firstUnasked n1 r11 (v10 5 0 1) v10 (fun r13 v12 => wp_X1_giversThatMayBe a1 r11 r9 v12 (fun r15 v14 => wp_X1_readiest r15 v14 (fun r17 v16 => wp_X1_send r17 a1 r11 r13 v16 (fun r19 v18 => ((r19 = 0 ∨ r19 = 1) ∧ post r19 v18)))))) ∧ (r11 = (-1 : Int32) → wp_X1_askAtEnd a1 r9 v10 (fun r22 v21 => ((r22 = 0 ∨ r22 = 1) ∧ post r22 v21)))))) ∧ (r9 = 0 → post (0 : Int32) v8)))) ∧ (r7 = 0 → post (0 : Int32) v6))))))))
set_option maxRecDepth 20000 in
set_option maxHeartbeats 4000000 in
theorem ad_X1_askOne (l : Launch) (G : Geo) (a1 : Int32) (v : St3) {post : (Int32 → St3 → Prop)} (h : wp_X1_askOne a1 v post) : CI l G yX1_askOne wsX1_askOne 4 [.ref (gA G 4 0), .int a1] v post := by
  refine CI.of (ty := .boolean) (cc := cX1_askOne) (maxL := 6) (by decide) rfl (Nat.le_of_ble_eq_true rfl) (fun X o rt => ?_)
  unfold wp_X1_askOne at h
  show J l G X 0 [(0, .ref (gA G 4 0)), (1, .int a1)] [] v
  refine q_aload_n o dX1_askOne_0 rfl ?_
  refine q_getR (q := 0) o sf_X1_askOne_9 (by decide) dX1_askOne_1 ?_
  refine q_getR (q := 12) o sf_X1_askOne_28 (by decide) dX1_askOne_4 ?_
  refine q_iload_n o dX1_askOne_7 rfl ?_
  obtain ⟨n1, hn2, hx3, h⟩ := h
  refine q_mald o hn2 hx3 dX1_askOne_8 ?_
  refine q_astore_n o (lv' := [(2, .ref (gA G 14 n1)), (0, .ref (gA G 4 0)), (1, .int a1)]) dX1_askOne_9 (by decide) rfl ?_
  refine q_aload_n o dX1_askOne_10 rfl ?_
  refine q_getI o sf_X1_askOne_79 hn2 dX1_askOne_11 ?_
  refine q_if_le o 37 dX1_askOne_14 (by decide) (fun c28 => ?_) (fun c28 => ?_)
  · have h := h.1 c28
    refine q_iconst o dX1_askOne_37 (x := (0 : Int32)) (by decide) ?_
    exact q_zret o rt dX1_askOne_38 (by decide) h
  · have h := h.2 c28
    refine q_aload_n o dX1_askOne_17 rfl ?_
    refine q_callV o [] (ad_X3_isDone l G n1 hn2 v h) gX1_askOne_X3_isDone rfl rfl rfl rfl hn2 ⟨rfl, by decide, by decide, pd_X3_isDone⟩ (by decide) (by decide) rfl (Nat.le_of_ble_eq_true rfl) dX1_askOne_18 (fun r5 v4 h => ?_)
    refine q_if_ne o 37 dX1_askOne_21 (by decide) (fun c27 => ?_) (fun c27 => ?_)
    · have h := h.1 c27
      refine q_iconst o dX1_askOne_37 (x := (0 : Int32)) (by decide) ?_
      exact q_zret o rt dX1_askOne_38 (by decide) h
    · have h := h.2 c27
      refine q_aload_n o dX1_askOne_24 rfl ?_
      refine q_getR (q := 0) o sf_X1_askOne_9 (by decide) dX1_askOne_25 ?_
      refine q_getR (q := 5) o sf_X1_askOne_90 (by decide) dX1_askOne_28 ?_
      refine q_callV o [] (ad_X5_hasRoom l G v4 h) gX1_askOne_X5_hasRoom rfl rfl rfl rfl (by decide) ⟨rfl, by decide, by decide, pd_X5_hasRoom⟩ (by decide) (by decide) rfl (Nat.le_of_ble_eq_true rfl) dX1_askOne_31 (fun r7 v6 h => ?_)
      refine q_if_ne o 39 dX1_askOne_34 (by decide) (fun c26 => ?_) (fun c26 => ?_)
      · have h := h.1 c26
        refine q_aload_n o dX1_askOne_39 rfl ?_
        refine q_iload_n o dX1_askOne_40 rfl ?_
        refine q_callV o [.int a1] (ad_X1_giversTo l G a1 v6 h) gX1_askOne_X1_giversTo rfl rfl rfl rfl (by decide) ⟨rfl, by decide, by decide, pd_X1_giversTo⟩ (by decide) (by decide) rfl (Nat.le_of_ble_eq_true rfl) dX1_askOne_41 (fun r9 v8 h => ?_)
        refine q_istore_n o (lv' := [(3, .int r9), (2, .ref (gA G 14 n1)), (0, .ref (gA G 4 0)), (1, .int a1)]) dX1_askOne_44 (by decide) rfl ?_
        refine q_iload_n o dX1_askOne_45 rfl ?_
        refine q_if_ne o 51 dX1_askOne_46 (by decide) (fun c25 => ?_) (fun c25 => ?_)
        · have h := h.1 c25
          refine q_aload_n o dX1_askOne_51 rfl ?_
          refine q_iload_n o dX1_askOne_52 rfl ?_
          refine q_iload_n o dX1_askOne_53 rfl ?_
          refine q_callV o [.int a1, .int r9] (ad_X1_pickPiece l G a1 r9 v8 h) gX1_askOne_X1_pickPiece rfl rfl rfl rfl (by decide) ⟨rfl, by decide, by decide, pd_X1_pickPiece⟩ (by decide) (by decide) rfl (Nat.le_of_ble_eq_true rfl) dX1_askOne_54 (fun r11 v10 h => ?_)
          refine q_istore o (lv' := [(4, .int r11), (3, .int r9), (2, .ref (gA G 14 n1)), (0, .ref (gA G 4 0)), (1, .int a1)]) dX1_askOne_57 (by decide) rfl ?_
          refine q_iload o dX1_askOne_59 rfl ?_
          refine q_iconst o dX1_askOne_61 (x := (-1 : Int32)) (by decide) ?_
          refine q_ic_ne o 72 dX1_askOne_62 (by decide) (fun c24 => ?_) (fun c24 => ?_)
          · have h := h.1 c24
            refine q_aload_n o dX1_askOne_72 rfl ?_
            refine q_getR (q := 14) o sf_X1_askOne_32 hn2 dX1_askOne_73 ?_
            refine q_iload o dX1_askOne_76 rfl ?_
            refine q_aload_n o dX1_askOne_78 rfl ?_
            refine q_getR (q := 0) o sf_X1_askOne_9 (by decide) dX1_askOne_79 ?_
            refine q_getR (q := 4) o sf_X1_askOne_54 (by decide) dX1_askOne_82 ?_
            refine q_getI o sf_X1_askOne_109 (by decide) dX1_askOne_85 ?_
            refine q_callV o [.int r11, .int (v10 5 0 1)] (ad_X6_firstUnasked l G n1 r11 (v10 5 0 1) hn2 v10 h) gX1_askOne_X6_firstUnasked rfl rfl rfl rfl hn2 ⟨rfl, by decide, by decide, pd_X6_firstUnasked⟩ (by decide) (by decide) rfl (Nat.le_of_ble_eq_true rfl) dX1_askOne_88 (fun r13 v12 h => ?_)
            refine q_istore o (lv' := [(5, .int r13), (4, .int r11), (3, .int r9), (2, .ref (gA G 14 n1)), (0, .ref (gA G 4 0)), (1, .int a1)]) dX1_askOne_91 (by decide) rfl ?_
            refine q_aload_n o dX1_askOne_93 rfl ?_
            refine q_aload_n o dX1_askOne_94 rfl ?_
            refine q_aload_n o dX1_askOne_95 rfl ?_
            refine q_iload_n o dX1_askOne_96 rfl ?_
            refine q_iload o dX1_askOne_97 rfl ?_
            refine q_iload_n o dX1_askOne_99 rfl ?_
            refine q_callV o [.int a1, .int r11, .int r9] (ad_X1_giversThatMayBe l G a1 r11 r9 v12 h) gX1_askOne_X1_giversThatMayBe rfl rfl rfl rfl (by decide) ⟨rfl, by decide, by decide, pd_X1_giversThatMayBe⟩ (by decide) (by decide) rfl (Nat.le_of_ble_eq_true rfl) dX1_askOne_100 (fun r15 v14 h => ?_)
            refine q_callV o [.int r15] (ad_X1_readiest l G r15 v14 h) gX1_askOne_X1_readiest rfl rfl rfl rfl (by decide) ⟨rfl, by decide, by decide, pd_X1_readiest⟩ (by decide) (by decide) rfl (Nat.le_of_ble_eq_true rfl) dX1_askOne_103 (fun r17 v16 h => ?_)
            refine q_iload_n o dX1_askOne_106 rfl ?_
            refine q_iload o dX1_askOne_107 rfl ?_
            refine q_iload o dX1_askOne_109 rfl ?_
            refine q_callV o [.int r17, .int a1, .int r11, .int r13] (ad_X1_send l G r17 a1 r11 r13 v16 h) gX1_askOne_X1_send rfl rfl rfl rfl (by decide) ⟨rfl, by decide, by decide, pd_X1_send⟩ (by decide) (by decide) rfl (Nat.le_of_ble_eq_true rfl) dX1_askOne_111 (fun r19 v18 h => ?_)
            obtain ⟨hz20, h⟩ := h
            exact q_zret o rt dX1_askOne_114 hz20 h
          · have h := h.2 c24
            refine q_aload_n o dX1_askOne_65 rfl ?_
            refine q_iload_n o dX1_askOne_66 rfl ?_
            refine q_iload_n o dX1_askOne_67 rfl ?_
            refine q_callV o [.int a1, .int r9] (ad_X1_askAtEnd l G a1 r9 v10 h) gX1_askOne_X1_askAtEnd rfl rfl rfl rfl (by decide) ⟨rfl, by decide, by decide, pd_X1_askAtEnd⟩ (by decide) (by decide) rfl (Nat.le_of_ble_eq_true rfl) dX1_askOne_68 (fun r22 v21 h => ?_)
            obtain ⟨hz23, h⟩ := h
            exact q_zret o rt dX1_askOne_71 hz23 h
        · have h := h.2 c25
          refine q_iconst o dX1_askOne_49 (x := (0 : Int32)) (by decide) ?_
          exact q_zret o rt dX1_askOne_50 (by decide) h
      · have h := h.2 c26
        refine q_iconst o dX1_askOne_37 (x := (0 : Int32)) (by decide) ?_
        exact q_zret o rt dX1_askOne_38 (by decide) h
theorem pd_X1_askOne : (parseMethodDescriptor yX1_askOne.desc).map (fun d => d.parameters.length) = some 1 := by decide +kernel
-- PieceSwarm$Asking.runRounds()V
theorem inn_X1_runRounds_X1 : ∀ w ∈ wsX10, w ∈ wsX1_runRounds := by decide +kernel
theorem sf_X1_runRounds_9 : SF wsX1_runRounds RX1 9 4 0 1 := ⟨RX1, TX1, 1, rfl, rfl, rfl, rfl, by decide, inn_X1_runRounds_X1, by decide +kernel⟩
theorem inn_X1_runRounds_X2 : ∀ w ∈ wsX20, w ∈ wsX1_runRounds := by decide +kernel
theorem sf_X1_runRounds_15 : SF wsX1_runRounds RX1 15 1 3 0 := ⟨RX2, TX2, 8, rfl, rfl, rfl, rfl, by decide, inn_X1_runRounds_X2, by decide +kernel⟩
theorem sf_X1_runRounds_21 : SF wsX1_runRounds RX1 21 1 4 0 := ⟨RX2, TX2, 8, rfl, rfl, rfl, rfl, by decide, inn_X1_runRounds_X2, by decide +kernel⟩
theorem wini_X1_runRounds_X9_isIn : Cond.initialized yX9_isIn.cls ∈ wsX1_runRounds := by decide +kernel
theorem wsta_X1_runRounds_X9_isIn : Cond.static yX9_isIn ∈ wsX1_runRounds := by decide +kernel
theorem sf_X1_runRounds_28 : SF wsX1_runRounds RX1 28 1 1 13 := ⟨RX2, TX2, 8, rfl, rfl, rfl, rfl, by decide, inn_X1_runRounds_X2, by decide +kernel⟩
theorem inn_X1_runRounds_X3 : ∀ w ∈ wsX30, w ∈ wsX1_runRounds := by decide +kernel
theorem sf_X1_runRounds_70 : SF wsX1_runRounds RX1 70 14 3 0 := ⟨RX3, TX3, 13, rfl, rfl, rfl, rfl, by decide, inn_X1_runRounds_X3, by decide +kernel⟩
theorem sp_X1_runRounds_73 : SP wsX1_runRounds RX1 73 14 11 := ⟨RX3, TX3, 13, tyX3, rfl, rfl, rfl, rfl, by decide, inn_X1_runRounds_X3, by decide +kernel, tyX3_ok, nmX3, rfl, by decide +kernel⟩
theorem sf_X1_runRounds_76 : SF wsX1_runRounds RX1 76 14 4 0 := ⟨RX3, TX3, 13, rfl, rfl, rfl, rfl, by decide, inn_X1_runRounds_X3, by decide +kernel⟩
theorem sp_X1_runRounds_79 : SP wsX1_runRounds RX1 79 14 12 := ⟨RX3, TX3, 13, tyX3, rfl, rfl, rfl, rfl, by decide, inn_X1_runRounds_X3, by decide +kernel, tyX3_ok, nmX3, rfl, by decide +kernel⟩
def wB_X1_runRounds_85 (post : (St3 → Prop)) (K71 : Int32 → Int32 → St3 → Prop) (K85 : Int32 → Int32 → Int32 → St3 → Prop) (a1 : Int32) (a2 : Int32) (a3 : Int32) (v : St3) : Prop := (((v 1 0 3) ≤ a3 → K71 a1 (a2 + (1 : Int32)) v) ∧ (¬ (v 1 0 3) ≤ a3 → wp_X9_isIn (v 1 0 4) a3 v (fun r2 v1 => ((r2 = 0 → K85 a1 a2 (a3 + (1 : Int32)) v1) ∧ (¬ r2 = 0 → wp_X1_askOne a3 v1 (fun r4 v3 => ((r4 = 0 → K85 a1 a2 (a3 + (1 : Int32)) v3) ∧ (¬ r4 = 0 → K85 (1 : Int32) a2 (a3 + (1 : Int32)) v3))))))))
def wL_X1_runRounds_85 (post : (St3 → Prop)) (K71 : Int32 → Int32 → St3 → Prop) : Nat → Int32 → Int32 → Int32 → St3 → Prop
  | 0, _, _, _, _ => False
  | f + 1, a1, a2, a3, v => wB_X1_runRounds_85 post K71 (wL_X1_runRounds_85 post K71 f) a1 a2 a3 v
set_option maxRecDepth 20000 in
set_option maxHeartbeats 4000000 in
theorem aL_X1_runRounds_85 {l : Launch} {G : Geo} {X : CT} (o : OK G X cX1_runRounds wsX1_runRounds RX1 5 4) {post : (St3 → Prop)} (rt : RV G X post) {K71 : Int32 → Int32 → St3 → Prop} (hK71 : ∀ (a1 : Int32) (a2 : Int32) (v : St3), K71 a1 a2 v → J l G X 71 [(0, .ref (gA G 4 0)), (1, .int a1), (2, .int a2)] [] v) : ∀ (f : Nat) (a1 : Int32) (a2 : Int32) (a3 : Int32) (v : St3), wL_X1_runRounds_85 post K71 f a1 a2 a3 v → J l G X 85 [(0, .ref (gA G 4 0)), (1, .int a1), (2, .int a2), (3, .int a3)] [] v := by
  intro f
  induction f with
  | zero => intro _ _ _ _ h; exact False.elim h
  | succ f hK85 =>
  intro a1 a2 a3 v h
  have h : wB_X1_runRounds_85 post K71 (wL_X1_runRounds_85 post K71 f) a1 a2 a3 v := h
  unfold wB_X1_runRounds_85 at h
  refine q_iload_n o dX1_runRounds_85 rfl ?_
  refine q_aload_n o dX1_runRounds_86 rfl ?_
  refine q_getR (q := 0) o sf_X1_runRounds_9 (by decide) dX1_runRounds_87 ?_
  refine q_getI o sf_X1_runRounds_15 (by decide) dX1_runRounds_90 ?_
  refine q_ic_ge o 126 dX1_runRounds_93 (by decide) (fun c7 => ?_) (fun c7 => ?_)
  · have h := h.1 c7
    refine q_iinc o (y := (a2 + (1 : Int32))) (lv' := [(2, .int (a2 + (1 : Int32))), (0, .ref (gA G 4 0)), (1, .int a1), (3, .int a3)]) dX1_runRounds_126 rfl rfl (by decide) rfl ?_
    refine q_goto o 71 dX1_runRounds_129 (by decide) ?_
    refine q_lv [1, 2, 0] rfl ?_
    exact hK71 a1 (a2 + (1 : Int32)) v h
  · have h := h.2 c7
    refine q_aload_n o dX1_runRounds_96 rfl ?_
    refine q_getR (q := 0) o sf_X1_runRounds_9 (by decide) dX1_runRounds_97 ?_
    refine q_getI o sf_X1_runRounds_21 (by decide) dX1_runRounds_100 ?_
    refine q_iload_n o dX1_runRounds_103 rfl ?_
    refine q_callN o [.int (v 1 0 4), .int a3] (ad_X9_isIn l G (v 1 0 4) a3 v h) gX1_runRounds_X9_isIn_n24 rfl (by decide +kernel) wini_X1_runRounds_X9_isIn wsta_X1_runRounds_X9_isIn ⟨by decide, by decide, pd_X9_isIn⟩ (by decide) (by decide) rfl (Nat.le_of_ble_eq_true rfl) dX1_runRounds_104 (fun r2 v1 h => ?_)
    refine q_if_eq o 120 dX1_runRounds_107 (by decide) (fun c6 => ?_) (fun c6 => ?_)
    · have h := h.1 c6
      refine q_iinc o (y := (a3 + (1 : Int32))) (lv' := [(3, .int (a3 + (1 : Int32))), (0, .ref (gA G 4 0)), (1, .int a1), (2, .int a2)]) dX1_runRounds_120 rfl rfl (by decide) rfl ?_
      refine q_goto o 85 dX1_runRounds_123 (by decide) ?_
      refine q_lv [1, 2, 3, 0] rfl ?_
      exact hK85 a1 a2 (a3 + (1 : Int32)) v1 h
    · have h := h.2 c6
      refine q_aload_n o dX1_runRounds_110 rfl ?_
      refine q_iload_n o dX1_runRounds_111 rfl ?_
      refine q_callV o [.int a3] (ad_X1_askOne l G a3 v1 h) gX1_runRounds_X1_askOne rfl rfl rfl rfl (by decide) ⟨rfl, by decide, by decide, pd_X1_askOne⟩ (by decide) (by decide) rfl (Nat.le_of_ble_eq_true rfl) dX1_runRounds_112 (fun r4 v3 h => ?_)
      refine q_if_eq o 120 dX1_runRounds_115 (by decide) (fun c5 => ?_) (fun c5 => ?_)
      · have h := h.1 c5
        refine q_iinc o (y := (a3 + (1 : Int32))) (lv' := [(3, .int (a3 + (1 : Int32))), (0, .ref (gA G 4 0)), (1, .int a1), (2, .int a2)]) dX1_runRounds_120 rfl rfl (by decide) rfl ?_
        refine q_goto o 85 dX1_runRounds_123 (by decide) ?_
        refine q_lv [1, 2, 3, 0] rfl ?_
        exact hK85 a1 a2 (a3 + (1 : Int32)) v3 h
      · have h := h.2 c5
        refine q_iconst o dX1_runRounds_118 (x := (1 : Int32)) (by decide) ?_
        refine q_istore_n o (lv' := [(1, .int (1 : Int32)), (0, .ref (gA G 4 0)), (2, .int a2), (3, .int a3)]) dX1_runRounds_119 (by decide) rfl ?_
        refine q_iinc o (y := (a3 + (1 : Int32))) (lv' := [(3, .int (a3 + (1 : Int32))), (1, .int (1 : Int32)), (0, .ref (gA G 4 0)), (2, .int a2)]) dX1_runRounds_120 rfl rfl (by decide) rfl ?_
        refine q_goto o 85 dX1_runRounds_123 (by decide) ?_
        refine q_lv [2, 1, 3, 0] rfl ?_
        exact hK85 (1 : Int32) a2 (a3 + (1 : Int32)) v3 h
def wB_X1_runRounds_71 (post : (St3 → Prop)) (K71 : Int32 → Int32 → St3 → Prop) (a1 : Int32) (a2 : Int32) (v : St3) : Prop := ((a1 = 0 → post v) ∧ (¬ a1 = 0 → (((96 : Int32) < a2 → post v) ∧ (¬ (96 : Int32) < a2 → wL_X1_runRounds_85 post K71 FU (0 : Int32) a2 (0 : Int32) v))))
def wL_X1_runRounds_71 (post : (St3 → Prop)) : Nat → Int32 → Int32 → St3 → Prop
  | 0, _, _, _ => False
  | f + 1, a1, a2, v => wB_X1_runRounds_71 post (wL_X1_runRounds_71 post f) a1 a2 v
set_option maxRecDepth 20000 in
set_option maxHeartbeats 4000000 in
theorem aL_X1_runRounds_71 {l : Launch} {G : Geo} {X : CT} (o : OK G X cX1_runRounds wsX1_runRounds RX1 5 4) {post : (St3 → Prop)} (rt : RV G X post) : ∀ (f : Nat) (a1 : Int32) (a2 : Int32) (v : St3), wL_X1_runRounds_71 post f a1 a2 v → J l G X 71 [(0, .ref (gA G 4 0)), (1, .int a1), (2, .int a2)] [] v := by
  intro f
  induction f with
  | zero => intro _ _ _ h; exact False.elim h
  | succ f hK71 =>
  intro a1 a2 v h
  have h : wB_X1_runRounds_71 post (wL_X1_runRounds_71 post f) a1 a2 v := h
  unfold wB_X1_runRounds_71 at h
  refine q_iload_n o dX1_runRounds_71 rfl ?_
  refine q_if_eq o 132 dX1_runRounds_72 (by decide) (fun c9 => ?_) (fun c9 => ?_)
  · have h := h.1 c9
    exact q_vret o rt dX1_runRounds_132 h
  · have h := h.2 c9
    refine q_iload_n o dX1_runRounds_75 rfl ?_
    refine q_bipush o dX1_runRounds_76 (x := (96 : Int32)) (by decide) ?_
    refine q_ic_gt o 132 dX1_runRounds_78 (by decide) (fun c8 => ?_) (fun c8 => ?_)
    · have h := h.1 c8
      exact q_vret o rt dX1_runRounds_132 h
    · have h := h.2 c8
      refine q_iconst o dX1_runRounds_81 (x := (0 : Int32)) (by decide) ?_
      refine q_istore_n o (lv' := [(1, .int (0 : Int32)), (0, .ref (gA G 4 0)), (2, .int a2)]) dX1_runRounds_82 (by decide) rfl ?_
      refine q_iconst o dX1_runRounds_83 (x := (0 : Int32)) (by decide) ?_
      refine q_istore_n o (lv' := [(3, .int (0 : Int32)), (1, .int (0 : Int32)), (0, .ref (gA G 4 0)), (2, .int a2)]) dX1_runRounds_84 (by decide) rfl ?_
      refine q_lv [2, 1, 3, 0] rfl ?_
      exact aL_X1_runRounds_85 o rt hK71 FU (0 : Int32) a2 (0 : Int32) v h
def wB_X1_runRounds_2 (post : (St3 → Prop)) (K2 : Int32 → St3 → Prop) (a1 : Int32) (v : St3) : Prop := (((v 1 0 3) ≤ a1 → wL_X1_runRounds_71 post FU (1 : Int32) (0 : Int32) v) ∧ (¬ (v 1 0 3) ≤ a1 → ∃ n10, n10 < 12 ∧ a1 = nI n10 ∧ ∀ v13, v13 = up3 v 14 n10 11 (v 14 n10 3) → ∀ v15, v15 = up3 v13 14 n10 12 (v13 14 n10 4) → K2 (a1 + (1 : Int32)) v15))
def wL_X1_runRounds_2 (post : (St3 → Prop)) : Nat → Int32 → St3 → Prop
  | 0, _, _ => False
  | f + 1, a1, v => wB_X1_runRounds_2 post (wL_X1_runRounds_2 post f) a1 v
set_option maxRecDepth 20000 in
set_option maxHeartbeats 4000000 in
theorem aL_X1_runRounds_2 {l : Launch} {G : Geo} {X : CT} (o : OK G X cX1_runRounds wsX1_runRounds RX1 5 4) {post : (St3 → Prop)} (rt : RV G X post) : ∀ (f : Nat) (a1 : Int32) (v : St3), wL_X1_runRounds_2 post f a1 v → J l G X 2 [(0, .ref (gA G 4 0)), (1, .int a1)] [] v := by
  intro f
  induction f with
  | zero => intro _ _ h; exact False.elim h
  | succ f hK2 =>
  intro a1 v h
  have h : wB_X1_runRounds_2 post (wL_X1_runRounds_2 post f) a1 v := h
  unfold wB_X1_runRounds_2 at h
  refine q_iload_n o dX1_runRounds_2 rfl ?_
  refine q_aload_n o dX1_runRounds_3 rfl ?_
  refine q_getR (q := 0) o sf_X1_runRounds_9 (by decide) dX1_runRounds_4 ?_
  refine q_getI o sf_X1_runRounds_15 (by decide) dX1_runRounds_7 ?_
  refine q_ic_ge o 67 dX1_runRounds_10 (by decide) (fun c17 => ?_) (fun c17 => ?_)
  · have h := h.1 c17
    refine q_iconst o dX1_runRounds_67 (x := (1 : Int32)) (by decide) ?_
    refine q_istore_n o (lv' := [(1, .int (1 : Int32)), (0, .ref (gA G 4 0))]) dX1_runRounds_68 (by decide) rfl ?_
    refine q_iconst o dX1_runRounds_69 (x := (0 : Int32)) (by decide) ?_
    refine q_istore_n o (lv' := [(2, .int (0 : Int32)), (1, .int (1 : Int32)), (0, .ref (gA G 4 0))]) dX1_runRounds_70 (by decide) rfl ?_
    refine q_lv [2, 1, 0] rfl ?_
    exact aL_X1_runRounds_71 o rt FU (1 : Int32) (0 : Int32) v h
  · have h := h.2 c17
    refine q_aload_n o dX1_runRounds_13 rfl ?_
    refine q_getR (q := 0) o sf_X1_runRounds_9 (by decide) dX1_runRounds_14 ?_
    refine q_getR (q := 12) o sf_X1_runRounds_28 (by decide) dX1_runRounds_17 ?_
    refine q_iload_n o dX1_runRounds_20 rfl ?_
    obtain ⟨n10, hn11, hx12, h⟩ := h
    refine q_mald o hn11 hx12 dX1_runRounds_21 ?_
    refine q_aload_n o dX1_runRounds_22 rfl ?_
    refine q_getR (q := 0) o sf_X1_runRounds_9 (by decide) dX1_runRounds_23 ?_
    refine q_getR (q := 12) o sf_X1_runRounds_28 (by decide) dX1_runRounds_26 ?_
    refine q_iload_n o dX1_runRounds_29 rfl ?_
    refine q_mald o hn11 hx12 dX1_runRounds_30 ?_
    refine q_getI o sf_X1_runRounds_70 hn11 dX1_runRounds_31 ?_
    refine q_putI o sp_X1_runRounds_73 hn11 dX1_runRounds_34 (fun v13 e14 => ?_)
    have h := h v13 e14
    refine q_aload_n o dX1_runRounds_37 rfl ?_
    refine q_getR (q := 0) o sf_X1_runRounds_9 (by decide) dX1_runRounds_38 ?_
    refine q_getR (q := 12) o sf_X1_runRounds_28 (by decide) dX1_runRounds_41 ?_
    refine q_iload_n o dX1_runRounds_44 rfl ?_
    refine q_mald o hn11 hx12 dX1_runRounds_45 ?_
    refine q_aload_n o dX1_runRounds_46 rfl ?_
    refine q_getR (q := 0) o sf_X1_runRounds_9 (by decide) dX1_runRounds_47 ?_
    refine q_getR (q := 12) o sf_X1_runRounds_28 (by decide) dX1_runRounds_50 ?_
    refine q_iload_n o dX1_runRounds_53 rfl ?_
    refine q_mald o hn11 hx12 dX1_runRounds_54 ?_
    refine q_getI o sf_X1_runRounds_76 hn11 dX1_runRounds_55 ?_
    refine q_putI o sp_X1_runRounds_79 hn11 dX1_runRounds_58 (fun v15 e16 => ?_)
    have h := h v15 e16
    refine q_iinc o (y := (a1 + (1 : Int32))) (lv' := [(1, .int (a1 + (1 : Int32))), (0, .ref (gA G 4 0))]) dX1_runRounds_61 rfl rfl (by decide) rfl ?_
    refine q_goto o 2 dX1_runRounds_64 (by decide) ?_
    refine q_lv [1, 0] rfl ?_
    exact hK2 (a1 + (1 : Int32)) v15 h
def wp_X1_runRounds (v : St3) (post : (St3 → Prop)) : Prop := wL_X1_runRounds_2 post FU (0 : Int32) v
set_option maxRecDepth 20000 in
set_option maxHeartbeats 4000000 in
theorem ad_X1_runRounds (l : Launch) (G : Geo) (v : St3) {post : (St3 → Prop)} (h : wp_X1_runRounds v post) : CV l G yX1_runRounds wsX1_runRounds 5 [.ref (gA G 4 0)] v post := by
  refine CV.of (cc := cX1_runRounds) (maxL := 4) (by decide) rfl (Nat.le_of_ble_eq_true rfl) (fun X o rt => ?_)
  unfold wp_X1_runRounds at h
  show J l G X 0 [(0, .ref (gA G 4 0))] [] v
  refine q_iconst o dX1_runRounds_0 (x := (0 : Int32)) (by decide) ?_
  refine q_istore_n o (lv' := [(1, .int (0 : Int32)), (0, .ref (gA G 4 0))]) dX1_runRounds_1 (by decide) rfl ?_
  refine q_lv [1, 0] rfl ?_
  exact aL_X1_runRounds_2 o rt FU (0 : Int32) v h
theorem pd_X1_runRounds : (parseMethodDescriptor yX1_runRounds.desc).map (fun d => d.parameters.length) = some 0 := by decide +kernel
-- PieceSwarm$Opening.latest(LPieceSwarm$Member;I)I
theorem inn_X4_latest_X4 : ∀ w ∈ wsX40, w ∈ wsX4_latest := by decide +kernel
theorem sf_X4_latest_9 : SF wsX4_latest RX4 9 3 0 1 := ⟨RX4, TX4, 1, rfl, rfl, rfl, rfl, by decide, inn_X4_latest_X4, by decide +kernel⟩
theorem inn_X4_latest_X2 : ∀ w ∈ wsX20, w ∈ wsX4_latest := by decide +kernel
theorem sf_X4_latest_15 : SF wsX4_latest RX4 15 1 3 0 := ⟨RX2, TX2, 8, rfl, rfl, rfl, rfl, by decide, inn_X4_latest_X2, by decide +kernel⟩
theorem wini_X4_latest_X9_isIn : Cond.initialized yX9_isIn.cls ∈ wsX4_latest := by decide +kernel
theorem wsta_X4_latest_X9_isIn : Cond.static yX9_isIn ∈ wsX4_latest := by decide +kernel
def wB_X4_latest_5 (post : (Int32 → St3 → Prop)) (K5 : Nat → Int32 → Int32 → Int32 → St3 → Prop) (i1 : Nat) (a2 : Int32) (a3 : Int32) (a4 : Int32) (v : St3) : Prop := (((v 1 0 3) ≤ a4 → post a3 v) ∧ (¬ (v 1 0 3) ≤ a4 → wp_X9_isIn a2 a4 v (fun r2 v1 => ((r2 = 0 → K5 i1 a2 a3 (a4 + (1 : Int32)) v1) ∧ (¬ r2 = 0 → ((a3 = (-1 : Int32) → K5 i1 a2 a4 (a4 + (1 : Int32)) v1) ∧ (¬ a3 = (-1 : Int32) → wp_X3_lateNumberOf i1 a4 v1 (fun r4 v3 => wp_X3_lateNumberOf i1 a3 v3 (fun r6 v5 => ((r4 ≤ r6 → K5 i1 a2 a3 (a4 + (1 : Int32)) v5) ∧ (¬ r4 ≤ r6 → K5 i1 a2 a4 (a4 + (1 : Int32)) v5)))))))))))
def wL_X4_latest_5 (post : (Int32 → St3 → Prop)) : Nat → Nat → Int32 → Int32 → Int32 → St3 → Prop
  | 0, _, _, _, _, _ => False
  | f + 1, i1, a2, a3, a4, v => wB_X4_latest_5 post (wL_X4_latest_5 post f) i1 a2 a3 a4 v
set_option maxRecDepth 20000 in
set_option maxHeartbeats 4000000 in
theorem aL_X4_latest_5 {l : Launch} {G : Geo} {X : CT} (o : OK G X cX4_latest wsX4_latest RX4 2 5) {post : (Int32 → St3 → Prop)} (rt : RI G X .int post) : ∀ (f : Nat) (i1 : Nat) (a2 : Int32) (a3 : Int32) (a4 : Int32) (hi1 : i1 < 12) (v : St3), wL_X4_latest_5 post f i1 a2 a3 a4 v → J l G X 5 [(0, .ref (gA G 3 0)), (1, .ref (gA G 14 i1)), (2, .int a2), (3, .int a3), (4, .int a4)] [] v := by
  intro f
  induction f with
  | zero => intro _ _ _ _ _ _ h; exact False.elim h
  | succ f hK5 =>
  intro i1 a2 a3 a4 hi1 v h
  have h : wB_X4_latest_5 post (wL_X4_latest_5 post f) i1 a2 a3 a4 v := h
  unfold wB_X4_latest_5 at h
  refine q_iload o dX4_latest_5 rfl ?_
  refine q_aload_n o dX4_latest_7 rfl ?_
  refine q_getR (q := 0) o sf_X4_latest_9 (by decide) dX4_latest_8 ?_
  refine q_getI o sf_X4_latest_15 (by decide) dX4_latest_11 ?_
  refine q_ic_ge o 54 dX4_latest_14 (by decide) (fun c10 => ?_) (fun c10 => ?_)
  · have h := h.1 c10
    refine q_iload_n o dX4_latest_54 rfl ?_
    exact q_iret o rt dX4_latest_55 h
  · have h := h.2 c10
    refine q_iload_n o dX4_latest_17 rfl ?_
    refine q_iload o dX4_latest_18 rfl ?_
    refine q_callN o [.int a2, .int a4] (ad_X9_isIn l G a2 a4 v h) gX4_latest_X9_isIn_n24 rfl (by decide +kernel) wini_X4_latest_X9_isIn wsta_X4_latest_X9_isIn ⟨by decide, by decide, pd_X9_isIn⟩ (by decide) (by decide) rfl (Nat.le_of_ble_eq_true rfl) dX4_latest_20 (fun r2 v1 h => ?_)
    refine q_if_eq o 48 dX4_latest_23 (by decide) (fun c9 => ?_) (fun c9 => ?_)
    · have h := h.1 c9
      refine q_iinc o (y := (a4 + (1 : Int32))) (lv' := [(4, .int (a4 + (1 : Int32))), (0, .ref (gA G 3 0)), (1, .ref (gA G 14 i1)), (2, .int a2), (3, .int a3)]) dX4_latest_48 rfl rfl (by decide) rfl ?_
      refine q_goto o 5 dX4_latest_51 (by decide) ?_
      refine q_lv [1, 2, 3, 4, 0] rfl ?_
      exact hK5 i1 a2 a3 (a4 + (1 : Int32)) hi1 v1 h
    · have h := h.2 c9
      refine q_iload_n o dX4_latest_26 rfl ?_
      refine q_iconst o dX4_latest_27 (x := (-1 : Int32)) (by decide) ?_
      refine q_ic_eq o 45 dX4_latest_28 (by decide) (fun c8 => ?_) (fun c8 => ?_)
      · have h := h.1 c8
        refine q_iload o dX4_latest_45 rfl ?_
        refine q_istore_n o (lv' := [(3, .int a4), (0, .ref (gA G 3 0)), (1, .ref (gA G 14 i1)), (2, .int a2), (4, .int a4)]) dX4_latest_47 (by decide) rfl ?_
        refine q_iinc o (y := (a4 + (1 : Int32))) (lv' := [(4, .int (a4 + (1 : Int32))), (3, .int a4), (0, .ref (gA G 3 0)), (1, .ref (gA G 14 i1)), (2, .int a2)]) dX4_latest_48 rfl rfl (by decide) rfl ?_
        refine q_goto o 5 dX4_latest_51 (by decide) ?_
        refine q_lv [2, 3, 4, 1, 0] rfl ?_
        exact hK5 i1 a2 a4 (a4 + (1 : Int32)) hi1 v1 h
      · have h := h.2 c8
        refine q_aload_n o dX4_latest_31 rfl ?_
        refine q_iload o dX4_latest_32 rfl ?_
        refine q_callV o [.int a4] (ad_X3_lateNumberOf l G i1 a4 hi1 v1 h) gX4_latest_X3_lateNumberOf rfl rfl rfl rfl hi1 ⟨rfl, by decide, by decide, pd_X3_lateNumberOf⟩ (by decide) (by decide) rfl (Nat.le_of_ble_eq_true rfl) dX4_latest_34 (fun r4 v3 h => ?_)
        refine q_aload_n o dX4_latest_37 rfl ?_
        refine q_iload_n o dX4_latest_38 rfl ?_
        refine q_callV o [.int a3] (ad_X3_lateNumberOf l G i1 a3 hi1 v3 h) gX4_latest_X3_lateNumberOf rfl rfl rfl rfl hi1 ⟨rfl, by decide, by decide, pd_X3_lateNumberOf⟩ (by decide) (by decide) rfl (Nat.le_of_ble_eq_true rfl) dX4_latest_39 (fun r6 v5 h => ?_)
        refine q_ic_le o 48 dX4_latest_42 (by decide) (fun c7 => ?_) (fun c7 => ?_)
        · have h := h.1 c7
          refine q_iinc o (y := (a4 + (1 : Int32))) (lv' := [(4, .int (a4 + (1 : Int32))), (0, .ref (gA G 3 0)), (1, .ref (gA G 14 i1)), (2, .int a2), (3, .int a3)]) dX4_latest_48 rfl rfl (by decide) rfl ?_
          refine q_goto o 5 dX4_latest_51 (by decide) ?_
          refine q_lv [1, 2, 3, 4, 0] rfl ?_
          exact hK5 i1 a2 a3 (a4 + (1 : Int32)) hi1 v5 h
        · have h := h.2 c7
          refine q_iload o dX4_latest_45 rfl ?_
          refine q_istore_n o (lv' := [(3, .int a4), (0, .ref (gA G 3 0)), (1, .ref (gA G 14 i1)), (2, .int a2), (4, .int a4)]) dX4_latest_47 (by decide) rfl ?_
          refine q_iinc o (y := (a4 + (1 : Int32))) (lv' := [(4, .int (a4 + (1 : Int32))), (3, .int a4), (0, .ref (gA G 3 0)), (1, .ref (gA G 14 i1)), (2, .int a2)]) dX4_latest_48 rfl rfl (by decide) rfl ?_
          refine q_goto o 5 dX4_latest_51 (by decide) ?_
          refine q_lv [2, 3, 4, 1, 0] rfl ?_
          exact hK5 i1 a2 a4 (a4 + (1 : Int32)) hi1 v5 h
def wp_X4_latest (i1 : Nat) (a2 : Int32) (v : St3) (post : (Int32 → St3 → Prop)) : Prop := wL_X4_latest_5 post FU i1 a2 (-1 : Int32) (0 : Int32) v
set_option maxRecDepth 20000 in
set_option maxHeartbeats 4000000 in
theorem ad_X4_latest (l : Launch) (G : Geo) (i1 : Nat) (a2 : Int32) (hi1 : i1 < 12) (v : St3) {post : (Int32 → St3 → Prop)} (h : wp_X4_latest i1 a2 v post) : CI l G yX4_latest wsX4_latest 2 [.ref (gA G 3 0), .ref (gA G 14 i1), .int a2] v post := by
  refine CI.of (ty := .int) (cc := cX4_latest) (maxL := 5) (by decide) rfl (Nat.le_of_ble_eq_true rfl) (fun X o rt => ?_)
  unfold wp_X4_latest at h
  show J l G X 0 [(0, .ref (gA G 3 0)), (1, .ref (gA G 14 i1)), (2, .int a2)] [] v
  refine q_iconst o dX4_latest_0 (x := (-1 : Int32)) (by decide) ?_
  refine q_istore_n o (lv' := [(3, .int (-1 : Int32)), (0, .ref (gA G 3 0)), (1, .ref (gA G 14 i1)), (2, .int a2)]) dX4_latest_1 (by decide) rfl ?_
  refine q_iconst o dX4_latest_2 (x := (0 : Int32)) (by decide) ?_
  refine q_istore o (lv' := [(4, .int (0 : Int32)), (3, .int (-1 : Int32)), (0, .ref (gA G 3 0)), (1, .ref (gA G 14 i1)), (2, .int a2)]) dX4_latest_3 (by decide) rfl ?_
  refine q_lv [2, 3, 4, 1, 0] rfl ?_
  exact aL_X4_latest_5 o rt FU i1 a2 (-1 : Int32) (0 : Int32) hi1 v h
theorem pd_X4_latest : (parseMethodDescriptor yX4_latest.desc).map (fun d => d.parameters.length) = some 2 := by decide +kernel
-- PieceSwarm$Opening.setOf(I)I
def wp_X4_setOf (a0 : Int32) (v : St3) (post : (Int32 → St3 → Prop)) : Prop := ((¬ a0 = (-1 : Int32) → post ((1 : Int32) <<< (a0 &&& 31)) v) ∧ (a0 = (-1 : Int32) → post (0 : Int32) v))
set_option maxRecDepth 20000 in
set_option maxHeartbeats 4000000 in
theorem ad_X4_setOf (l : Launch) (G : Geo) (a0 : Int32) (v : St3) {post : (Int32 → St3 → Prop)} (h : wp_X4_setOf a0 v post) : CI l G yX4_setOf wsX4_setOf 0 [.int a0] v post := by
  refine CI.of (ty := .int) (cc := cX4_setOf) (maxL := 1) (by decide) rfl (Nat.le_of_ble_eq_true rfl) (fun X o rt => ?_)
  unfold wp_X4_setOf at h
  show J l G X 0 [(0, .int a0)] [] v
  refine q_iload_n o dX4_setOf_0 rfl ?_
  refine q_iconst o dX4_setOf_1 (x := (-1 : Int32)) (by decide) ?_
  refine q_ic_ne o 9 dX4_setOf_2 (by decide) (fun c1 => ?_) (fun c1 => ?_)
  · have h := h.1 c1
    refine q_iconst o dX4_setOf_9 (x := (1 : Int32)) (by decide) ?_
    refine q_iload_n o dX4_setOf_10 rfl ?_
    refine q_ishl o dX4_setOf_11 ?_
    exact q_iret o rt dX4_setOf_12 h
  · have h := h.2 c1
    refine q_iconst o dX4_setOf_5 (x := (0 : Int32)) (by decide) ?_
    refine q_goto o 12 dX4_setOf_6 (by decide) ?_
    exact q_iret o rt dX4_setOf_12 h
theorem pd_X4_setOf : (parseMethodDescriptor yX4_setOf.desc).map (fun d => d.parameters.length) = some 1 := by decide +kernel
-- PieceSwarm$Opening.nextByTurns(II)I
theorem inn_X4_nextByTurns_X4 : ∀ w ∈ wsX40, w ∈ wsX4_nextByTurns := by decide +kernel
theorem sf_X4_nextByTurns_9 : SF wsX4_nextByTurns RX4 9 3 0 1 := ⟨RX4, TX4, 1, rfl, rfl, rfl, rfl, by decide, inn_X4_nextByTurns_X4, by decide +kernel⟩
theorem inn_X4_nextByTurns_X2 : ∀ w ∈ wsX20, w ∈ wsX4_nextByTurns := by decide +kernel
theorem sf_X4_nextByTurns_15 : SF wsX4_nextByTurns RX4 15 1 3 0 := ⟨RX2, TX2, 8, rfl, rfl, rfl, rfl, by decide, inn_X4_nextByTurns_X2, by decide +kernel⟩
theorem wini_X4_nextByTurns_X9_isIn : Cond.initialized yX9_isIn.cls ∈ wsX4_nextByTurns := by decide +kernel
theorem wsta_X4_nextByTurns_X9_isIn : Cond.static yX9_isIn ∈ wsX4_nextByTurns := by decide +kernel
def wB_X4_nextByTurns_5 (post : (Int32 → St3 → Prop)) (K5 : Int32 → Int32 → Int32 → Int32 → St3 → Prop) (a1 : Int32) (a2 : Int32) (a3 : Int32) (a4 : Int32) (v : St3) : Prop := (((v 1 0 3) ≤ a4 → post a3 v) ∧ (¬ (v 1 0 3) ≤ a4 → wp_X9_isIn a2 a4 v (fun r2 v1 => ((¬ r2 = 0 → ((a4 ≤ a1 → ((¬ a3 = (-1 : Int32) → K5 a1 a2 a3 (a4 + (1 : Int32)) v1) ∧ (a3 = (-1 : Int32) → K5 a1 a2 a4 (a4 + (1 : Int32)) v1))) ∧ (¬ a4 ≤ a1 → post a4 v1))) ∧ (r2 = 0 → K5 a1 a2 a3 (a4 + (1 : Int32)) v1)))))
def wL_X4_nextByTurns_5 (post : (Int32 → St3 → Prop)) : Nat → Int32 → Int32 → Int32 → Int32 → St3 → Prop
  | 0, _, _, _, _, _ => False
  | f + 1, a1, a2, a3, a4, v => wB_X4_nextByTurns_5 post (wL_X4_nextByTurns_5 post f) a1 a2 a3 a4 v
set_option maxRecDepth 20000 in
set_option maxHeartbeats 4000000 in
theorem aL_X4_nextByTurns_5 {l : Launch} {G : Geo} {X : CT} (o : OK G X cX4_nextByTurns wsX4_nextByTurns RX4 1 5) {post : (Int32 → St3 → Prop)} (rt : RI G X .int post) : ∀ (f : Nat) (a1 : Int32) (a2 : Int32) (a3 : Int32) (a4 : Int32) (v : St3), wL_X4_nextByTurns_5 post f a1 a2 a3 a4 v → J l G X 5 [(0, .ref (gA G 3 0)), (1, .int a1), (2, .int a2), (3, .int a3), (4, .int a4)] [] v := by
  intro f
  induction f with
  | zero => intro _ _ _ _ _ h; exact False.elim h
  | succ f hK5 =>
  intro a1 a2 a3 a4 v h
  have h : wB_X4_nextByTurns_5 post (wL_X4_nextByTurns_5 post f) a1 a2 a3 a4 v := h
  unfold wB_X4_nextByTurns_5 at h
  refine q_iload o dX4_nextByTurns_5 rfl ?_
  refine q_aload_n o dX4_nextByTurns_7 rfl ?_
  refine q_getR (q := 0) o sf_X4_nextByTurns_9 (by decide) dX4_nextByTurns_8 ?_
  refine q_getI o sf_X4_nextByTurns_15 (by decide) dX4_nextByTurns_11 ?_
  refine q_ic_ge o 52 dX4_nextByTurns_14 (by decide) (fun c6 => ?_) (fun c6 => ?_)
  · have h := h.1 c6
    refine q_iload_n o dX4_nextByTurns_52 rfl ?_
    exact q_iret o rt dX4_nextByTurns_53 h
  · have h := h.2 c6
    refine q_iload_n o dX4_nextByTurns_17 rfl ?_
    refine q_iload o dX4_nextByTurns_18 rfl ?_
    refine q_callN o [.int a2, .int a4] (ad_X9_isIn l G a2 a4 v h) gX4_nextByTurns_X9_isIn_n24 rfl (by decide +kernel) wini_X4_nextByTurns_X9_isIn wsta_X4_nextByTurns_X9_isIn ⟨by decide, by decide, pd_X9_isIn⟩ (by decide) (by decide) rfl (Nat.le_of_ble_eq_true rfl) dX4_nextByTurns_20 (fun r2 v1 h => ?_)
    refine q_if_ne o 29 dX4_nextByTurns_23 (by decide) (fun c5 => ?_) (fun c5 => ?_)
    · have h := h.1 c5
      refine q_iload o dX4_nextByTurns_29 rfl ?_
      refine q_iload_n o dX4_nextByTurns_31 rfl ?_
      refine q_ic_le o 38 dX4_nextByTurns_32 (by decide) (fun c4 => ?_) (fun c4 => ?_)
      · have h := h.1 c4
        refine q_iload_n o dX4_nextByTurns_38 rfl ?_
        refine q_iconst o dX4_nextByTurns_39 (x := (-1 : Int32)) (by decide) ?_
        refine q_ic_ne o 46 dX4_nextByTurns_40 (by decide) (fun c3 => ?_) (fun c3 => ?_)
        · have h := h.1 c3
          refine q_iinc o (y := (a4 + (1 : Int32))) (lv' := [(4, .int (a4 + (1 : Int32))), (0, .ref (gA G 3 0)), (1, .int a1), (2, .int a2), (3, .int a3)]) dX4_nextByTurns_46 rfl rfl (by decide) rfl ?_
          refine q_goto o 5 dX4_nextByTurns_49 (by decide) ?_
          refine q_lv [1, 2, 3, 4, 0] rfl ?_
          exact hK5 a1 a2 a3 (a4 + (1 : Int32)) v1 h
        · have h := h.2 c3
          refine q_iload o dX4_nextByTurns_43 rfl ?_
          refine q_istore_n o (lv' := [(3, .int a4), (0, .ref (gA G 3 0)), (1, .int a1), (2, .int a2), (4, .int a4)]) dX4_nextByTurns_45 (by decide) rfl ?_
          refine q_iinc o (y := (a4 + (1 : Int32))) (lv' := [(4, .int (a4 + (1 : Int32))), (3, .int a4), (0, .ref (gA G 3 0)), (1, .int a1), (2, .int a2)]) dX4_nextByTurns_46 rfl rfl (by decide) rfl ?_
          refine q_goto o 5 dX4_nextByTurns_49 (by decide) ?_
          refine q_lv [2, 3, 4, 1, 0] rfl ?_
          exact hK5 a1 a2 a4 (a4 + (1 : Int32)) v1 h
      · have h := h.2 c4
        refine q_iload o dX4_nextByTurns_35 rfl ?_
        exact q_iret o rt dX4_nextByTurns_37 h
    · have h := h.2 c5
      refine q_goto o 46 dX4_nextByTurns_26 (by decide) ?_
      refine q_iinc o (y := (a4 + (1 : Int32))) (lv' := [(4, .int (a4 + (1 : Int32))), (0, .ref (gA G 3 0)), (1, .int a1), (2, .int a2), (3, .int a3)]) dX4_nextByTurns_46 rfl rfl (by decide) rfl ?_
      refine q_goto o 5 dX4_nextByTurns_49 (by decide) ?_
      refine q_lv [1, 2, 3, 4, 0] rfl ?_
      exact hK5 a1 a2 a3 (a4 + (1 : Int32)) v1 h
def wp_X4_nextByTurns (a1 : Int32) (a2 : Int32) (v : St3) (post : (Int32 → St3 → Prop)) : Prop := wL_X4_nextByTurns_5 post FU a1 a2 (-1 : Int32) (0 : Int32) v
set_option maxRecDepth 20000 in
set_option maxHeartbeats 4000000 in
theorem ad_X4_nextByTurns (l : Launch) (G : Geo) (a1 : Int32) (a2 : Int32) (v : St3) {post : (Int32 → St3 → Prop)} (h : wp_X4_nextByTurns a1 a2 v post) : CI l G yX4_nextByTurns wsX4_nextByTurns 1 [.ref (gA G 3 0), .int a1, .int a2] v post := by
  refine CI.of (ty := .int) (cc := cX4_nextByTurns) (maxL := 5) (by decide) rfl (Nat.le_of_ble_eq_true rfl) (fun X o rt => ?_)
  unfold wp_X4_nextByTurns at h
  show J l G X 0 [(0, .ref (gA G 3 0)), (1, .int a1), (2, .int a2)] [] v
  refine q_iconst o dX4_nextByTurns_0 (x := (-1 : Int32)) (by decide) ?_
  refine q_istore_n o (lv' := [(3, .int (-1 : Int32)), (0, .ref (gA G 3 0)), (1, .int a1), (2, .int a2)]) dX4_nextByTurns_1 (by decide) rfl ?_
  refine q_iconst o dX4_nextByTurns_2 (x := (0 : Int32)) (by decide) ?_
  refine q_istore o (lv' := [(4, .int (0 : Int32)), (3, .int (-1 : Int32)), (0, .ref (gA G 3 0)), (1, .int a1), (2, .int a2)]) dX4_nextByTurns_3 (by decide) rfl ?_
  refine q_lv [2, 3, 4, 1, 0] rfl ?_
  exact aL_X4_nextByTurns_5 o rt FU a1 a2 (-1 : Int32) (0 : Int32) v h
theorem pd_X4_nextByTurns : (parseMethodDescriptor yX4_nextByTurns.desc).map (fun d => d.parameters.length) = some 2 := by decide +kernel
-- PieceSwarm$Opening.openAnew(I)V
theorem inn_X4_openAnew_X4 : ∀ w ∈ wsX40, w ∈ wsX4_openAnew := by decide +kernel
theorem sf_X4_openAnew_9 : SF wsX4_openAnew RX4 9 3 0 1 := ⟨RX4, TX4, 1, rfl, rfl, rfl, rfl, by decide, inn_X4_openAnew_X4, by decide +kernel⟩
theorem inn_X4_openAnew_X2 : ∀ w ∈ wsX20, w ∈ wsX4_openAnew := by decide +kernel
theorem sf_X4_openAnew_32 : SF wsX4_openAnew RX4 32 1 1 13 := ⟨RX2, TX2, 8, rfl, rfl, rfl, rfl, by decide, inn_X4_openAnew_X2, by decide +kernel⟩
theorem inn_X4_openAnew_X3 : ∀ w ∈ wsX30, w ∈ wsX4_openAnew := by decide +kernel
theorem sf_X4_openAnew_36 : SF wsX4_openAnew RX4 36 14 1 16 := ⟨RX3, TX3, 13, rfl, rfl, rfl, rfl, by decide, inn_X4_openAnew_X3, by decide +kernel⟩
theorem inn_X4_openAnew_X7 : ∀ w ∈ wsX70, w ∈ wsX4_openAnew := by decide +kernel
theorem sf_X4_openAnew_57 : SF wsX4_openAnew RX4 57 16 8 0 := ⟨RX7, TX7, 10, rfl, rfl, rfl, rfl, by decide, inn_X4_openAnew_X7, by decide +kernel⟩
theorem sp_X4_openAnew_66 : SP wsX4_openAnew RX4 66 16 9 := ⟨RX7, TX7, 10, tyX7, rfl, rfl, rfl, rfl, by decide, inn_X4_openAnew_X7, by decide +kernel, tyX7_ok, nmX7, rfl, by decide +kernel⟩
theorem sp_X4_openAnew_69 : SP wsX4_openAnew RX4 69 16 7 := ⟨RX7, TX7, 10, tyX7, rfl, rfl, rfl, rfl, by decide, inn_X4_openAnew_X7, by decide +kernel, tyX7_ok, nmX7, rfl, by decide +kernel⟩
theorem sp_X4_openAnew_57 : SP wsX4_openAnew RX4 57 16 8 := ⟨RX7, TX7, 10, tyX7, rfl, rfl, rfl, rfl, by decide, inn_X4_openAnew_X7, by decide +kernel, tyX7_ok, nmX7, rfl, by decide +kernel⟩
def wB_X4_openAnew_42 (post : (St3 → Prop)) (K42 : Nat → Nat → Int32 → Int32 → Int32 → St3 → Prop) (i2 : Nat) (i3 : Nat) (a4 : Int32) (a5 : Int32) (a6 : Int32) (v : St3) : Prop := (((3 : Int32) ≤ a6 → wp_X4_nextByTurns (v 16 i3 8) (a4 &&& (a5 ^^^ (-1 : Int32))) v (fun r9 v8 => ((r9 = (-1 : Int32) → ∀ v10, v10 = up3 v8 16 i3 9 r9 → wp_X4_setOf r9 v10 (fun r13 v12 => ∀ v14, v14 = up3 v12 16 i3 7 (a5 ||| r13) → wp_X7_forgetLate i3 v14 (fun v16 => post v16))) ∧ (¬ r9 = (-1 : Int32) → ∀ v18, v18 = up3 v8 16 i3 8 r9 → ∀ v20, v20 = up3 v18 16 i3 9 r9 → wp_X4_setOf r9 v20 (fun r23 v22 => ∀ v24, v24 = up3 v22 16 i3 7 (a5 ||| r23) → wp_X7_forgetLate i3 v24 (fun v26 => post v26)))))) ∧ (¬ (3 : Int32) ≤ a6 → wp_X4_latest i2 (a4 &&& (a5 ^^^ (-1 : Int32))) v (fun r30 v29 => wp_X4_setOf r30 v29 (fun r32 v31 => K42 i2 i3 a4 (a5 ||| r32) (a6 + (1 : Int32)) v31))))
def wL_X4_openAnew_42 (post : (St3 → Prop)) : Nat → Nat → Nat → Int32 → Int32 → Int32 → St3 → Prop
  | 0, _, _, _, _, _, _ => False
  | f + 1, i2, i3, a4, a5, a6, v => wB_X4_openAnew_42 post (wL_X4_openAnew_42 post f) i2 i3 a4 a5 a6 v
set_option maxRecDepth 20000 in
set_option maxHeartbeats 4000000 in
theorem aL_X4_openAnew_42 {l : Launch} {G : Geo} {X : CT} (o : OK G X cX4_openAnew wsX4_openAnew RX4 3 7) {post : (St3 → Prop)} (rt : RV G X post) : ∀ (f : Nat) (i2 : Nat) (i3 : Nat) (a4 : Int32) (a5 : Int32) (a6 : Int32) (hi2 : i2 < 12) (hi3 : i3 < 12) (v : St3), wL_X4_openAnew_42 post f i2 i3 a4 a5 a6 v → J l G X 42 [(0, .ref (gA G 3 0)), (2, .ref (gA G 14 i2)), (3, .ref (gA G 16 i3)), (4, .int a4), (5, .int a5), (6, .int a6)] [] v := by
  intro f
  induction f with
  | zero => intro _ _ _ _ _ _ _ _ h; exact False.elim h
  | succ f hK42 =>
  intro i2 i3 a4 a5 a6 hi2 hi3 v h
  have h : wB_X4_openAnew_42 post (wL_X4_openAnew_42 post f) i2 i3 a4 a5 a6 v := h
  unfold wB_X4_openAnew_42 at h
  refine q_iload o dX4_openAnew_42 rfl ?_
  refine q_iconst o dX4_openAnew_44 (x := (3 : Int32)) (by decide) ?_
  refine q_ic_ge o 74 dX4_openAnew_45 (by decide) (fun c33 => ?_) (fun c33 => ?_)
  · have h := h.1 c33
    refine q_aload_n o dX4_openAnew_74 rfl ?_
    refine q_aload_n o dX4_openAnew_75 rfl ?_
    refine q_getI o sf_X4_openAnew_57 hi3 dX4_openAnew_76 ?_
    refine q_iload o dX4_openAnew_79 rfl ?_
    refine q_iload o dX4_openAnew_81 rfl ?_
    refine q_iconst o dX4_openAnew_83 (x := (-1 : Int32)) (by decide) ?_
    refine q_ixor o dX4_openAnew_84 ?_
    refine q_iand o dX4_openAnew_85 ?_
    refine q_callV o [.int (v 16 i3 8), .int (a4 &&& (a5 ^^^ (-1 : Int32)))] (ad_X4_nextByTurns l G (v 16 i3 8) (a4 &&& (a5 ^^^ (-1 : Int32))) v h) gX4_openAnew_X4_nextByTurns rfl rfl rfl rfl (by decide) ⟨rfl, by decide, by decide, pd_X4_nextByTurns⟩ (by decide) (by decide) rfl (Nat.le_of_ble_eq_true rfl) dX4_openAnew_86 (fun r9 v8 h => ?_)
    refine q_istore o (lv' := [(6, .int r9), (0, .ref (gA G 3 0)), (2, .ref (gA G 14 i2)), (3, .ref (gA G 16 i3)), (4, .int a4), (5, .int a5)]) dX4_openAnew_89 (by decide) rfl ?_
    refine q_iload o dX4_openAnew_91 rfl ?_
    refine q_iconst o dX4_openAnew_93 (x := (-1 : Int32)) (by decide) ?_
    refine q_ic_eq o 103 dX4_openAnew_94 (by decide) (fun c28 => ?_) (fun c28 => ?_)
    · have h := h.1 c28
      refine q_aload_n o dX4_openAnew_103 rfl ?_
      refine q_iload o dX4_openAnew_104 rfl ?_
      refine q_putI o sp_X4_openAnew_66 hi3 dX4_openAnew_106 (fun v10 e11 => ?_)
      have h := h v10 e11
      refine q_aload_n o dX4_openAnew_109 rfl ?_
      refine q_iload o dX4_openAnew_110 rfl ?_
      refine q_iload o dX4_openAnew_112 rfl ?_
      refine q_callS o [.int r9] (ad_X4_setOf l G r9 v10 h) gX4_openAnew_X4_setOf rfl ⟨by decide, by decide, pd_X4_setOf⟩ (by decide) (by decide) rfl (Nat.le_of_ble_eq_true rfl) dX4_openAnew_114 (fun r13 v12 h => ?_)
      refine q_ior o dX4_openAnew_117 ?_
      refine q_putI o sp_X4_openAnew_69 hi3 dX4_openAnew_118 (fun v14 e15 => ?_)
      have h := h v14 e15
      refine q_aload_n o dX4_openAnew_121 rfl ?_
      refine q_callVv o [] (ad_X7_forgetLate l G i3 hi3 v14 h) gX4_openAnew_X7_forgetLate rfl rfl rfl rfl hi3 ⟨rfl, by decide, by decide, pd_X7_forgetLate⟩ (by decide) (by decide) rfl (Nat.le_of_ble_eq_true rfl) dX4_openAnew_122 (fun v16 h => ?_)
      exact q_vret o rt dX4_openAnew_125 h
    · have h := h.2 c28
      refine q_aload_n o dX4_openAnew_97 rfl ?_
      refine q_iload o dX4_openAnew_98 rfl ?_
      refine q_putI o sp_X4_openAnew_57 hi3 dX4_openAnew_100 (fun v18 e19 => ?_)
      have h := h v18 e19
      refine q_aload_n o dX4_openAnew_103 rfl ?_
      refine q_iload o dX4_openAnew_104 rfl ?_
      refine q_putI o sp_X4_openAnew_66 hi3 dX4_openAnew_106 (fun v20 e21 => ?_)
      have h := h v20 e21
      refine q_aload_n o dX4_openAnew_109 rfl ?_
      refine q_iload o dX4_openAnew_110 rfl ?_
      refine q_iload o dX4_openAnew_112 rfl ?_
      refine q_callS o [.int r9] (ad_X4_setOf l G r9 v20 h) gX4_openAnew_X4_setOf rfl ⟨by decide, by decide, pd_X4_setOf⟩ (by decide) (by decide) rfl (Nat.le_of_ble_eq_true rfl) dX4_openAnew_114 (fun r23 v22 h => ?_)
      refine q_ior o dX4_openAnew_117 ?_
      refine q_putI o sp_X4_openAnew_69 hi3 dX4_openAnew_118 (fun v24 e25 => ?_)
      have h := h v24 e25
      refine q_aload_n o dX4_openAnew_121 rfl ?_
      refine q_callVv o [] (ad_X7_forgetLate l G i3 hi3 v24 h) gX4_openAnew_X7_forgetLate rfl rfl rfl rfl hi3 ⟨rfl, by decide, by decide, pd_X7_forgetLate⟩ (by decide) (by decide) rfl (Nat.le_of_ble_eq_true rfl) dX4_openAnew_122 (fun v26 h => ?_)
      exact q_vret o rt dX4_openAnew_125 h
  · have h := h.2 c33
    refine q_iload o dX4_openAnew_48 rfl ?_
    refine q_aload_n o dX4_openAnew_50 rfl ?_
    refine q_aload_n o dX4_openAnew_51 rfl ?_
    refine q_iload o dX4_openAnew_52 rfl ?_
    refine q_iload o dX4_openAnew_54 rfl ?_
    refine q_iconst o dX4_openAnew_56 (x := (-1 : Int32)) (by decide) ?_
    refine q_ixor o dX4_openAnew_57 ?_
    refine q_iand o dX4_openAnew_58 ?_
    refine q_callV o [.ref (gA G 14 i2), .int (a4 &&& (a5 ^^^ (-1 : Int32)))] (ad_X4_latest l G i2 (a4 &&& (a5 ^^^ (-1 : Int32))) hi2 v h) gX4_openAnew_X4_latest rfl rfl rfl rfl (by decide) ⟨rfl, by decide, by decide, pd_X4_latest⟩ (by decide) (by decide) rfl (Nat.le_of_ble_eq_true rfl) dX4_openAnew_59 (fun r30 v29 h => ?_)
    refine q_callS o [.int r30] (ad_X4_setOf l G r30 v29 h) gX4_openAnew_X4_setOf rfl ⟨by decide, by decide, pd_X4_setOf⟩ (by decide) (by decide) rfl (Nat.le_of_ble_eq_true rfl) dX4_openAnew_62 (fun r32 v31 h => ?_)
    refine q_ior o dX4_openAnew_65 ?_
    refine q_istore o (lv' := [(5, .int (a5 ||| r32)), (0, .ref (gA G 3 0)), (2, .ref (gA G 14 i2)), (3, .ref (gA G 16 i3)), (4, .int a4), (6, .int a6)]) dX4_openAnew_66 (by decide) rfl ?_
    refine q_iinc o (y := (a6 + (1 : Int32))) (lv' := [(6, .int (a6 + (1 : Int32))), (5, .int (a5 ||| r32)), (0, .ref (gA G 3 0)), (2, .ref (gA G 14 i2)), (3, .ref (gA G 16 i3)), (4, .int a4)]) dX4_openAnew_68 rfl rfl (by decide) rfl ?_
    refine q_goto o 42 dX4_openAnew_71 (by decide) ?_
    refine q_lv [2, 3, 4, 5, 1, 0] rfl ?_
    exact hK42 i2 i3 a4 (a5 ||| r32) (a6 + (1 : Int32)) hi2 hi3 v31 h
def wp_X4_openAnew (a1 : Int32) (v : St3) (post : (St3 → Prop)) : Prop := ∃ n1, n1 < 12 ∧ a1 = nI n1 ∧ wp_X3_opensToNobody n1 v (fun r5 v4 => ((r5 = 0 → wp_X2_wantersOf a1 v4 (fun r7 v6 => wL_X4_openAnew_42 post FU n1 n1 r7 (0 : Int32) (0 : Int32) v6)) ∧ (¬ r5 = 0 → wL_X4_openAnew_42 post FU n1 n1 (0 : Int32) (0 : Int32) (0 : Int32) v4)))
set_option maxRecDepth 20000 in
set_option maxHeartbeats 4000000 in
theorem ad_X4_openAnew (l : Launch) (G : Geo) (a1 : Int32) (v : St3) {post : (St3 → Prop)} (h : wp_X4_openAnew a1 v post) : CV l G yX4_openAnew wsX4_openAnew 3 [.ref (gA G 3 0), .int a1] v post := by
  refine CV.of (cc := cX4_openAnew) (maxL := 7) (by decide) rfl (Nat.le_of_ble_eq_true rfl) (fun X o rt => ?_)
  unfold wp_X4_openAnew at h
  show J l G X 0 [(0, .ref (gA G 3 0)), (1, .int a1)] [] v
  refine q_aload_n o dX4_openAnew_0 rfl ?_
  refine q_getR (q := 0) o sf_X4_openAnew_9 (by decide) dX4_openAnew_1 ?_
  refine q_getR (q := 12) o sf_X4_openAnew_32 (by decide) dX4_openAnew_4 ?_
  refine q_iload_n o dX4_openAnew_7 rfl ?_
  obtain ⟨n1, hn2, hx3, h⟩ := h
  refine q_mald o hn2 hx3 dX4_openAnew_8 ?_
  refine q_astore_n o (lv' := [(2, .ref (gA G 14 n1)), (0, .ref (gA G 3 0)), (1, .int a1)]) dX4_openAnew_9 (by decide) rfl ?_
  refine q_aload_n o dX4_openAnew_10 rfl ?_
  refine q_getR (q := 15) o sf_X4_openAnew_36 hn2 dX4_openAnew_11 ?_
  refine q_astore_n o (lv' := [(3, .ref (gA G 16 n1)), (2, .ref (gA G 14 n1)), (0, .ref (gA G 3 0)), (1, .int a1)]) dX4_openAnew_14 (by decide) rfl ?_
  refine q_aload_n o dX4_openAnew_15 rfl ?_
  refine q_callV o [] (ad_X3_opensToNobody l G n1 hn2 v h) gX4_openAnew_X3_opensToNobody rfl rfl rfl rfl hn2 ⟨rfl, by decide, by decide, pd_X3_opensToNobody⟩ (by decide) (by decide) rfl (Nat.le_of_ble_eq_true rfl) dX4_openAnew_16 (fun r5 v4 h => ?_)
  refine q_if_eq o 26 dX4_openAnew_19 (by decide) (fun c34 => ?_) (fun c34 => ?_)
  · have h := h.1 c34
    refine q_aload_n o dX4_openAnew_26 rfl ?_
    refine q_getR (q := 0) o sf_X4_openAnew_9 (by decide) dX4_openAnew_27 ?_
    refine q_iload_n o dX4_openAnew_30 rfl ?_
    refine q_callV o [.int a1] (ad_X2_wantersOf l G a1 v4 h) gX4_openAnew_X2_wantersOf rfl rfl rfl rfl (by decide) ⟨rfl, by decide, by decide, pd_X2_wantersOf⟩ (by decide) (by decide) rfl (Nat.le_of_ble_eq_true rfl) dX4_openAnew_31 (fun r7 v6 h => ?_)
    refine q_istore o (lv' := [(4, .int r7), (3, .ref (gA G 16 n1)), (2, .ref (gA G 14 n1)), (0, .ref (gA G 3 0)), (1, .int a1)]) dX4_openAnew_34 (by decide) rfl ?_
    refine q_iconst o dX4_openAnew_36 (x := (0 : Int32)) (by decide) ?_
    refine q_istore o (lv' := [(5, .int (0 : Int32)), (4, .int r7), (3, .ref (gA G 16 n1)), (2, .ref (gA G 14 n1)), (0, .ref (gA G 3 0)), (1, .int a1)]) dX4_openAnew_37 (by decide) rfl ?_
    refine q_iconst o dX4_openAnew_39 (x := (0 : Int32)) (by decide) ?_
    refine q_istore o (lv' := [(6, .int (0 : Int32)), (5, .int (0 : Int32)), (4, .int r7), (3, .ref (gA G 16 n1)), (2, .ref (gA G 14 n1)), (0, .ref (gA G 3 0)), (1, .int a1)]) dX4_openAnew_40 (by decide) rfl ?_
    refine q_lv [5, 4, 3, 2, 1, 0] rfl ?_
    exact aL_X4_openAnew_42 o rt FU n1 n1 r7 (0 : Int32) (0 : Int32) hn2 hn2 v6 h
  · have h := h.2 c34
    refine q_iconst o dX4_openAnew_22 (x := (0 : Int32)) (by decide) ?_
    refine q_goto o 34 dX4_openAnew_23 (by decide) ?_
    refine q_istore o (lv' := [(4, .int (0 : Int32)), (3, .ref (gA G 16 n1)), (2, .ref (gA G 14 n1)), (0, .ref (gA G 3 0)), (1, .int a1)]) dX4_openAnew_34 (by decide) rfl ?_
    refine q_iconst o dX4_openAnew_36 (x := (0 : Int32)) (by decide) ?_
    refine q_istore o (lv' := [(5, .int (0 : Int32)), (4, .int (0 : Int32)), (3, .ref (gA G 16 n1)), (2, .ref (gA G 14 n1)), (0, .ref (gA G 3 0)), (1, .int a1)]) dX4_openAnew_37 (by decide) rfl ?_
    refine q_iconst o dX4_openAnew_39 (x := (0 : Int32)) (by decide) ?_
    refine q_istore o (lv' := [(6, .int (0 : Int32)), (5, .int (0 : Int32)), (4, .int (0 : Int32)), (3, .ref (gA G 16 n1)), (2, .ref (gA G 14 n1)), (0, .ref (gA G 3 0)), (1, .int a1)]) dX4_openAnew_40 (by decide) rfl ?_
    refine q_lv [5, 4, 3, 2, 1, 0] rfl ?_
    exact aL_X4_openAnew_42 o rt FU n1 n1 (0 : Int32) (0 : Int32) (0 : Int32) hn2 hn2 v4 h
theorem pd_X4_openAnew : (parseMethodDescriptor yX4_openAnew.desc).map (fun d => d.parameters.length) = some 1 := by decide +kernel
-- PieceSwarm$Opening.openAll()V
theorem inn_X4_openAll_X4 : ∀ w ∈ wsX40, w ∈ wsX4_openAll := by decide +kernel
theorem sf_X4_openAll_9 : SF wsX4_openAll RX4 9 3 0 1 := ⟨RX4, TX4, 1, rfl, rfl, rfl, rfl, by decide, inn_X4_openAll_X4, by decide +kernel⟩
theorem inn_X4_openAll_X2 : ∀ w ∈ wsX20, w ∈ wsX4_openAll := by decide +kernel
theorem sf_X4_openAll_15 : SF wsX4_openAll RX4 15 1 3 0 := ⟨RX2, TX2, 8, rfl, rfl, rfl, rfl, by decide, inn_X4_openAll_X2, by decide +kernel⟩
theorem sf_X4_openAll_21 : SF wsX4_openAll RX4 21 1 4 0 := ⟨RX2, TX2, 8, rfl, rfl, rfl, rfl, by decide, inn_X4_openAll_X2, by decide +kernel⟩
theorem wini_X4_openAll_X9_isIn : Cond.initialized yX9_isIn.cls ∈ wsX4_openAll := by decide +kernel
theorem wsta_X4_openAll_X9_isIn : Cond.static yX9_isIn ∈ wsX4_openAll := by decide +kernel
def wB_X4_openAll_2 (post : (St3 → Prop)) (K2 : Int32 → St3 → Prop) (a1 : Int32) (v : St3) : Prop := (((v 1 0 3) ≤ a1 → post v) ∧ (¬ (v 1 0 3) ≤ a1 → wp_X9_isIn (v 1 0 4) a1 v (fun r2 v1 => ((r2 = 0 → K2 (a1 + (1 : Int32)) v1) ∧ (¬ r2 = 0 → wp_X4_openAnew a1 v1 (fun v3 => K2 (a1 + (1 : Int32)) v3))))))
def wL_X4_openAll_2 (post : (St3 → Prop)) : Nat → Int32 → St3 → Prop
  | 0, _, _ => False
  | f + 1, a1, v => wB_X4_openAll_2 post (wL_X4_openAll_2 post f) a1 v
set_option maxRecDepth 20000 in
set_option maxHeartbeats 4000000 in
theorem aL_X4_openAll_2 {l : Launch} {G : Geo} {X : CT} (o : OK G X cX4_openAll wsX4_openAll RX4 4 2) {post : (St3 → Prop)} (rt : RV G X post) : ∀ (f : Nat) (a1 : Int32) (v : St3), wL_X4_openAll_2 post f a1 v → J l G X 2 [(0, .ref (gA G 3 0)), (1, .int a1)] [] v := by
  intro f
  induction f with
  | zero => intro _ _ h; exact False.elim h
  | succ f hK2 =>
  intro a1 v h
  have h : wB_X4_openAll_2 post (wL_X4_openAll_2 post f) a1 v := h
  unfold wB_X4_openAll_2 at h
  refine q_iload_n o dX4_openAll_2 rfl ?_
  refine q_aload_n o dX4_openAll_3 rfl ?_
  refine q_getR (q := 0) o sf_X4_openAll_9 (by decide) dX4_openAll_4 ?_
  refine q_getI o sf_X4_openAll_15 (by decide) dX4_openAll_7 ?_
  refine q_ic_ge o 38 dX4_openAll_10 (by decide) (fun c6 => ?_) (fun c6 => ?_)
  · have h := h.1 c6
    exact q_vret o rt dX4_openAll_38 h
  · have h := h.2 c6
    refine q_aload_n o dX4_openAll_13 rfl ?_
    refine q_getR (q := 0) o sf_X4_openAll_9 (by decide) dX4_openAll_14 ?_
    refine q_getI o sf_X4_openAll_21 (by decide) dX4_openAll_17 ?_
    refine q_iload_n o dX4_openAll_20 rfl ?_
    refine q_callN o [.int (v 1 0 4), .int a1] (ad_X9_isIn l G (v 1 0 4) a1 v h) gX4_openAll_X9_isIn_n24 rfl (by decide +kernel) wini_X4_openAll_X9_isIn wsta_X4_openAll_X9_isIn ⟨by decide, by decide, pd_X9_isIn⟩ (by decide) (by decide) rfl (Nat.le_of_ble_eq_true rfl) dX4_openAll_21 (fun r2 v1 h => ?_)
    refine q_if_eq o 32 dX4_openAll_24 (by decide) (fun c5 => ?_) (fun c5 => ?_)
    · have h := h.1 c5
      refine q_iinc o (y := (a1 + (1 : Int32))) (lv' := [(1, .int (a1 + (1 : Int32))), (0, .ref (gA G 3 0))]) dX4_openAll_32 rfl rfl (by decide) rfl ?_
      refine q_goto o 2 dX4_openAll_35 (by decide) ?_
      refine q_lv [1, 0] rfl ?_
      exact hK2 (a1 + (1 : Int32)) v1 h
    · have h := h.2 c5
      refine q_aload_n o dX4_openAll_27 rfl ?_
      refine q_iload_n o dX4_openAll_28 rfl ?_
      refine q_callVv o [.int a1] (ad_X4_openAnew l G a1 v1 h) gX4_openAll_X4_openAnew rfl rfl rfl rfl (by decide) ⟨rfl, by decide, by decide, pd_X4_openAnew⟩ (by decide) (by decide) rfl (Nat.le_of_ble_eq_true rfl) dX4_openAll_29 (fun v3 h => ?_)
      refine q_iinc o (y := (a1 + (1 : Int32))) (lv' := [(1, .int (a1 + (1 : Int32))), (0, .ref (gA G 3 0))]) dX4_openAll_32 rfl rfl (by decide) rfl ?_
      refine q_goto o 2 dX4_openAll_35 (by decide) ?_
      refine q_lv [1, 0] rfl ?_
      exact hK2 (a1 + (1 : Int32)) v3 h
def wp_X4_openAll (v : St3) (post : (St3 → Prop)) : Prop := wL_X4_openAll_2 post FU (0 : Int32) v
set_option maxRecDepth 20000 in
set_option maxHeartbeats 4000000 in
theorem ad_X4_openAll (l : Launch) (G : Geo) (v : St3) {post : (St3 → Prop)} (h : wp_X4_openAll v post) : CV l G yX4_openAll wsX4_openAll 4 [.ref (gA G 3 0)] v post := by
  refine CV.of (cc := cX4_openAll) (maxL := 2) (by decide) rfl (Nat.le_of_ble_eq_true rfl) (fun X o rt => ?_)
  unfold wp_X4_openAll at h
  show J l G X 0 [(0, .ref (gA G 3 0))] [] v
  refine q_iconst o dX4_openAll_0 (x := (0 : Int32)) (by decide) ?_
  refine q_istore_n o (lv' := [(1, .int (0 : Int32)), (0, .ref (gA G 3 0))]) dX4_openAll_1 (by decide) rfl ?_
  refine q_lv [1, 0] rfl ?_
  exact aL_X4_openAll_2 o rt FU (0 : Int32) v h
theorem pd_X4_openAll : (parseMethodDescriptor yX4_openAll.desc).map (fun d => d.parameters.length) = some 0 := by decide +kernel
