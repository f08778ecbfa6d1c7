/-- as many turns as any loop here could want -/
def FU : Nat := 600
-- PieceSwarm.place(II)I
def wp_X9_place (a0 : Int32) (a1 : Int32) (v : St3) (post : (Int32 → St3 → Prop)) : Prop := post ((a0 * (4 : Int32)) + a1) v
set_option maxRecDepth 20000 in
set_option maxHeartbeats 4000000 in
theorem ad_X9_place (l : Launch) (G : Geo) (a0 : Int32) (a1 : Int32) (v : St3) {post : (Int32 → St3 → Prop)} (h : wp_X9_place a0 a1 v post) : CI l G yX9_place wsX9_place 0 [.int a0, .int a1] v post := by
  refine CI.of (ty := .int) (cc := cX9_place) (maxL := 2) (by decide) rfl (Nat.le_of_ble_eq_true rfl) (fun X o rt => ?_)
  unfold wp_X9_place at h
  show J l G X 0 [(0, .int a0), (1, .int a1)] [] v
  refine q_iload_n o dX9_place_0 rfl ?_
  refine q_iconst o dX9_place_1 (x := (4 : Int32)) (by decide) ?_
  refine q_imul o dX9_place_2 ?_
  refine q_iload_n o dX9_place_3 rfl ?_
  refine q_iadd o dX9_place_4 ?_
  exact q_iret o rt dX9_place_5 h
theorem pd_X9_place : (parseMethodDescriptor yX9_place.desc).map (fun d => d.parameters.length) = some 2 := by decide +kernel
-- PieceSwarm$Store.expectNoMore(II)V
theorem inn_X6_expectNoMore_X6 : ∀ w ∈ wsX60, w ∈ wsX6_expectNoMore := by decide +kernel
theorem sf_X6_expectNoMore_18 : SF wsX6_expectNoMore RX6 18 15 2 19 := ⟨RX6, TX6, 6, rfl, rfl, rfl, rfl, by decide, inn_X6_expectNoMore_X6, by decide +kernel⟩
theorem wini_X6_expectNoMore_X9_place : Cond.initialized yX9_place.cls ∈ wsX6_expectNoMore := by decide +kernel
theorem wsta_X6_expectNoMore_X9_place : Cond.static yX9_place ∈ wsX6_expectNoMore := by decide +kernel
theorem sf_X6_expectNoMore_59 : SF wsX6_expectNoMore RX6 59 15 5 0 := ⟨RX6, TX6, 6, rfl, rfl, rfl, rfl, by decide, inn_X6_expectNoMore_X6, by decide +kernel⟩
theorem sp_X6_expectNoMore_59 : SP wsX6_expectNoMore RX6 59 15 5 := ⟨RX6, TX6, 6, tyX6, rfl, rfl, rfl, rfl, by decide, inn_X6_expectNoMore_X6, by decide +kernel, tyX6_ok, nmX6, rfl, by decide +kernel⟩
def wp_X6_expectNoMore (i0 : Nat) (a1 : Int32) (a2 : Int32) (v : St3) (post : (St3 → Prop)) : Prop := wp_X9_place a1 a2 v (fun r2 v1 => ∃ n3, n3 < 96 ∧ r2 = nI n3 ∧ ∀ v6, v6 = up3 v1 19 i0 n3 ((v1 19 i0 n3) - (1 : Int32)) → ∀ v8, v8 = up3 v6 15 i0 5 ((v6 15 i0 5) - (1 : Int32)) → post v8)
set_option maxRecDepth 20000 in
set_option maxHeartbeats 4000000 in
theorem ad_X6_expectNoMore (l : Launch) (G : Geo) (i0 : Nat) (a1 : Int32) (a2 : Int32) (hi0 : i0 < 12) (v : St3) {post : (St3 → Prop)} (h : wp_X6_expectNoMore i0 a1 a2 v post) : CV l G yX6_expectNoMore wsX6_expectNoMore 1 [.ref (gA G 15 i0), .int a1, .int a2] v post := by
  refine CV.of (cc := cX6_expectNoMore) (maxL := 3) (by decide) rfl (Nat.le_of_ble_eq_true rfl) (fun X o rt => ?_)
  unfold wp_X6_expectNoMore at h
  show J l G X 0 [(0, .ref (gA G 15 i0)), (1, .int a1), (2, .int a2)] [] v
  refine q_aload_n o dX6_expectNoMore_0 rfl ?_
  refine q_getR (q := 18) o sf_X6_expectNoMore_18 hi0 dX6_expectNoMore_1 ?_
  refine q_iload_n o dX6_expectNoMore_4 rfl ?_
  refine q_iload_n o dX6_expectNoMore_5 rfl ?_
  refine q_callN o [.int a1, .int a2] (ad_X9_place l G a1 a2 v h) gX6_expectNoMore_X9_place_n30 rfl (by decide +kernel) wini_X6_expectNoMore_X9_place wsta_X6_expectNoMore_X9_place ⟨by decide, by decide, pd_X9_place⟩ (by decide) (by decide) rfl (Nat.le_of_ble_eq_true rfl) dX6_expectNoMore_6 (fun r2 v1 h => ?_)
  refine q_dup2 o dX6_expectNoMore_9 rfl rfl ?_
  obtain ⟨n3, hn4, hx5, h⟩ := h
  refine q_iald (m := 95) o rfl rfl hi0 hn4 hx5 dX6_expectNoMore_10 ?_
  refine q_iconst o dX6_expectNoMore_11 (x := (1 : Int32)) (by decide) ?_
  refine q_isub o dX6_expectNoMore_12 ?_
  refine q_iast (m := 95) o rfl rfl hi0 hn4 hx5 dX6_expectNoMore_13 (fun v6 e7 => ?_)
  have h := h v6 e7
  refine q_aload_n o dX6_expectNoMore_14 rfl ?_
  refine q_dup o dX6_expectNoMore_15 rfl ?_
  refine q_getI o sf_X6_expectNoMore_59 hi0 dX6_expectNoMore_16 ?_
  refine q_iconst o dX6_expectNoMore_19 (x := (1 : Int32)) (by decide) ?_
  refine q_isub o dX6_expectNoMore_20 ?_
  refine q_putI o sp_X6_expectNoMore_59 hi0 dX6_expectNoMore_21 (fun v8 e9 => ?_)
  have h := h v8 e9
  exact q_vret o rt dX6_expectNoMore_24 h
theorem pd_X6_expectNoMore : (parseMethodDescriptor yX6_expectNoMore.desc).map (fun d => d.parameters.length) = some 2 := by decide +kernel
-- PieceSwarm.isIn(II)Z
def wp_X9_isIn (a0 : Int32) (a1 : Int32) (v : St3) (post : (Int32 → St3 → Prop)) : Prop := ((¬ ((ushr a0 a1) &&& (1 : Int32)) = (1 : Int32) → post (0 : Int32) v) ∧ (((ushr a0 a1) &&& (1 : Int32)) = (1 : Int32) → post (1 : Int32) v))
set_option maxRecDepth 20000 in
set_option maxHeartbeats 4000000 in
theorem ad_X9_isIn (l : Launch) (G : Geo) (a0 : Int32) (a1 : Int32) (v : St3) {post : (Int32 → St3 → Prop)} (h : wp_X9_isIn a0 a1 v post) : CI l G yX9_isIn wsX9_isIn 0 [.int a0, .int a1] v post := by
  refine CI.of (ty := .boolean) (cc := cX9_isIn) (maxL := 2) (by decide) rfl (Nat.le_of_ble_eq_true rfl) (fun X o rt => ?_)
  unfold wp_X9_isIn at h
  show J l G X 0 [(0, .int a0), (1, .int a1)] [] v
  refine q_iload_n o dX9_isIn_0 rfl ?_
  refine q_iload_n o dX9_isIn_1 rfl ?_
  refine q_iushr o dX9_isIn_2 ?_
  refine q_iconst o dX9_isIn_3 (x := (1 : Int32)) (by decide) ?_
  refine q_iand o dX9_isIn_4 ?_
  refine q_iconst o dX9_isIn_5 (x := (1 : Int32)) (by decide) ?_
  refine q_ic_ne o 13 dX9_isIn_6 (by decide) (fun c1 => ?_) (fun c1 => ?_)
  · have h := h.1 c1
    refine q_iconst o dX9_isIn_13 (x := (0 : Int32)) (by decide) ?_
    exact q_zret o rt dX9_isIn_14 (by decide) h
  · have h := h.2 c1
    refine q_iconst o dX9_isIn_9 (x := (1 : Int32)) (by decide) ?_
    refine q_goto o 14 dX9_isIn_10 (by decide) ?_
    exact q_zret o rt dX9_isIn_14 (by decide) h
theorem pd_X9_isIn : (parseMethodDescriptor yX9_isIn.desc).map (fun d => d.parameters.length) = some 2 := by decide +kernel
-- PieceSwarm$Store.holds(II)Z
theorem inn_X6_holds_X6 : ∀ w ∈ wsX60, w ∈ wsX6_holds := by decide +kernel
theorem sf_X6_holds_41 : SF wsX6_holds RX6 41 15 3 0 := ⟨RX6, TX6, 6, rfl, rfl, rfl, rfl, by decide, inn_X6_holds_X6, by decide +kernel⟩
theorem wini_X6_holds_X9_isIn : Cond.initialized yX9_isIn.cls ∈ wsX6_holds := by decide +kernel
theorem wsta_X6_holds_X9_isIn : Cond.static yX9_isIn ∈ wsX6_holds := by decide +kernel
theorem sf_X6_holds_9 : SF wsX6_holds RX6 9 15 0 17 := ⟨RX6, TX6, 6, rfl, rfl, rfl, rfl, by decide, inn_X6_holds_X6, by decide +kernel⟩
theorem wini_X6_holds_X9_place : Cond.initialized yX9_place.cls ∈ wsX6_holds := by decide +kernel
theorem wsta_X6_holds_X9_place : Cond.static yX9_place ∈ wsX6_holds := by decide +kernel
def wp_X6_holds (i0 : Nat) (a1 : Int32) (a2 : Int32) (v : St3) (post : (Int32 → St3 → Prop)) : Prop := wp_X9_isIn (v 15 i0 3) a1 v (fun r2 v1 => ((¬ r2 = 0 → post (0 : Int32) v1) ∧ (r2 = 0 → wp_X9_place a1 a2 v1 (fun r4 v3 => ∃ n5, n5 < 96 ∧ r4 = nI n5 ∧ (((v3 17 i0 n5) = (-1 : Int32) → post (0 : Int32) v3) ∧ (¬ (v3 17 i0 n5) = (-1 : Int32) → post (1 : Int32) v3))))))
set_option maxRecDepth 20000 in
set_option maxHeartbeats 4000000 in
theorem ad_X6_holds (l : Launch) (G : Geo) (i0 : Nat) (a1 : Int32) (a2 : Int32) (hi0 : i0 < 12) (v : St3) {post : (Int32 → St3 → Prop)} (h : wp_X6_holds i0 a1 a2 v post) : CI l G yX6_holds wsX6_holds 1 [.ref (gA G 15 i0), .int a1, .int a2] v post := by
  refine CI.of (ty := .boolean) (cc := cX6_holds) (maxL := 3) (by decide) rfl (Nat.le_of_ble_eq_true rfl) (fun X o rt => ?_)
  unfold wp_X6_holds at h
  show J l G X 0 [(0, .ref (gA G 15 i0)), (1, .int a1), (2, .int a2)] [] v
  refine q_aload_n o dX6_holds_0 rfl ?_
  refine q_getI o sf_X6_holds_41 hi0 dX6_holds_1 ?_
  refine q_iload_n o dX6_holds_4 rfl ?_
  refine q_callN o [.int (v 15 i0 3), .int a1] (ad_X9_isIn l G (v 15 i0 3) a1 v h) gX6_holds_X9_isIn_n44 rfl (by decide +kernel) wini_X6_holds_X9_isIn wsta_X6_holds_X9_isIn ⟨by decide, by decide, pd_X9_isIn⟩ (by decide) (by decide) rfl (Nat.le_of_ble_eq_true rfl) dX6_holds_5 (fun r2 v1 h => ?_)
  refine q_if_ne o 29 dX6_holds_8 (by decide) (fun c9 => ?_) (fun c9 => ?_)
  · have h := h.1 c9
    refine q_iconst o dX6_holds_29 (x := (0 : Int32)) (by decide) ?_
    exact q_zret o rt dX6_holds_30 (by decide) h
  · have h := h.2 c9
    refine q_aload_n o dX6_holds_11 rfl ?_
    refine q_getR (q := 16) o sf_X6_holds_9 hi0 dX6_holds_12 ?_
    refine q_iload_n o dX6_holds_15 rfl ?_
    refine q_iload_n o dX6_holds_16 rfl ?_
    refine q_callN o [.int a1, .int a2] (ad_X9_place l G a1 a2 v1 h) gX6_holds_X9_place_n30 rfl (by decide +kernel) wini_X6_holds_X9_place wsta_X6_holds_X9_place ⟨by decide, by decide, pd_X9_place⟩ (by decide) (by decide) rfl (Nat.le_of_ble_eq_true rfl) dX6_holds_17 (fun r4 v3 h => ?_)
    obtain ⟨n5, hn6, hx7, h⟩ := h
    refine q_iald (m := 95) o rfl rfl hi0 hn6 hx7 dX6_holds_20 ?_
    refine q_iconst o dX6_holds_21 (x := (-1 : Int32)) (by decide) ?_
    refine q_ic_eq o 29 dX6_holds_22 (by decide) (fun c8 => ?_) (fun c8 => ?_)
    · have h := h.1 c8
      refine q_iconst o dX6_holds_29 (x := (0 : Int32)) (by decide) ?_
      exact q_zret o rt dX6_holds_30 (by decide) h
    · have h := h.2 c8
      refine q_iconst o dX6_holds_25 (x := (1 : Int32)) (by decide) ?_
      refine q_goto o 30 dX6_holds_26 (by decide) ?_
      exact q_zret o rt dX6_holds_30 (by decide) h
theorem pd_X6_holds : (parseMethodDescriptor yX6_holds.desc).map (fun d => d.parameters.length) = some 2 := by decide +kernel
-- PieceSwarm$Store.giversOf(I)I
theorem inn_X6_giversOf_X6 : ∀ w ∈ wsX60, w ∈ wsX6_giversOf := by decide +kernel
theorem sf_X6_giversOf_9 : SF wsX6_giversOf RX6 9 15 0 17 := ⟨RX6, TX6, 6, rfl, rfl, rfl, rfl, by decide, inn_X6_giversOf_X6, by decide +kernel⟩
theorem wini_X6_giversOf_X9_place : Cond.initialized yX9_place.cls ∈ wsX6_giversOf := by decide +kernel
theorem wsta_X6_giversOf_X9_place : Cond.static yX9_place ∈ wsX6_giversOf := by decide +kernel
def wB_X6_giversOf_4 (post : (Int32 → St3 → Prop)) (K4 : Nat → Int32 → Int32 → Int32 → St3 → Prop) (i0 : Nat) (a1 : Int32) (a2 : Int32) (a3 : Int32) (v : St3) : Prop := (((4 : Int32) ≤ a3 → post a2 v) ∧ (¬ (4 : Int32) ≤ a3 → wp_X9_place a1 a3 v (fun r2 v1 => ∃ n3, n3 < 96 ∧ r2 = nI n3 ∧ (((v1 17 i0 n3) = (-1 : Int32) → K4 i0 a1 a2 (a3 + (1 : Int32)) v1) ∧ (¬ (v1 17 i0 n3) = (-1 : Int32) → K4 i0 a1 (a2 ||| ((1 : Int32) <<< ((v1 17 i0 n3) &&& 31))) (a3 + (1 : Int32)) v1)))))
def wL_X6_giversOf_4 (post : (Int32 → St3 → Prop)) : Nat → Nat → Int32 → Int32 → Int32 → St3 → Prop
  | 0, _, _, _, _, _ => False
  | f + 1, i0, a1, a2, a3, v => wB_X6_giversOf_4 post (wL_X6_giversOf_4 post f) i0 a1 a2 a3 v
set_option maxRecDepth 20000 in
set_option maxHeartbeats 4000000 in
theorem aL_X6_giversOf_4 {l : Launch} {G : Geo} {X : CT} (o : OK G X cX6_giversOf wsX6_giversOf RX6 1 5) {post : (Int32 → St3 → Prop)} (rt : RI G X .int post) : ∀ (f : Nat) (i0 : Nat) (a1 : Int32) (a2 : Int32) (a3 : Int32) (hi0 : i0 < 12) (v : St3), wL_X6_giversOf_4 post f i0 a1 a2 a3 v → J l G X 4 [(0, .ref (gA G 15 i0)), (1, .int a1), (2, .int a2), (3, .int a3)] [] v := by
  intro f
  induction f with
  | zero => intro _ _ _ _ _ _ h; exact False.elim h
  | succ f hK4 =>
  intro i0 a1 a2 a3 hi0 v h
  have h : wB_X6_giversOf_4 post (wL_X6_giversOf_4 post f) i0 a1 a2 a3 v := h
  unfold wB_X6_giversOf_4 at h
  refine q_iload_n o dX6_giversOf_4 rfl ?_
  refine q_iconst o dX6_giversOf_5 (x := (4 : Int32)) (by decide) ?_
  refine q_ic_ge o 40 dX6_giversOf_6 (by decide) (fun c7 => ?_) (fun c7 => ?_)
  · have h := h.1 c7
    refine q_iload_n o dX6_giversOf_40 rfl ?_
    exact q_iret o rt dX6_giversOf_41 h
  · have h := h.2 c7
    refine q_aload_n o dX6_giversOf_9 rfl ?_
    refine q_getR (q := 16) o sf_X6_giversOf_9 hi0 dX6_giversOf_10 ?_
    refine q_iload_n o dX6_giversOf_13 rfl ?_
    refine q_iload_n o dX6_giversOf_14 rfl ?_
    refine q_callN o [.int a1, .int a3] (ad_X9_place l G a1 a3 v h) gX6_giversOf_X9_place_n30 rfl (by decide +kernel) wini_X6_giversOf_X9_place wsta_X6_giversOf_X9_place ⟨by decide, by decide, pd_X9_place⟩ (by decide) (by decide) rfl (Nat.le_of_ble_eq_true rfl) dX6_giversOf_15 (fun r2 v1 h => ?_)
    obtain ⟨n3, hn4, hx5, h⟩ := h
    refine q_iald (m := 95) o rfl rfl hi0 hn4 hx5 dX6_giversOf_18 ?_
    refine q_istore o (lv' := [(4, .int (v1 17 i0 n3)), (0, .ref (gA G 15 i0)), (1, .int a1), (2, .int a2), (3, .int a3)]) dX6_giversOf_19 (by decide) rfl ?_
    refine q_iload o dX6_giversOf_21 rfl ?_
    refine q_iconst o dX6_giversOf_23 (x := (-1 : Int32)) (by decide) ?_
    refine q_ic_eq o 34 dX6_giversOf_24 (by decide) (fun c6 => ?_) (fun c6 => ?_)
    · have h := h.1 c6
      refine q_iinc o (y := (a3 + (1 : Int32))) (lv' := [(3, .int (a3 + (1 : Int32))), (4, .int (v1 17 i0 n3)), (0, .ref (gA G 15 i0)), (1, .int a1), (2, .int a2)]) dX6_giversOf_34 rfl rfl (by decide) rfl ?_
      refine q_goto o 4 dX6_giversOf_37 (by decide) ?_
      refine q_lv [2, 3, 4, 0] rfl ?_
      exact hK4 i0 a1 a2 (a3 + (1 : Int32)) hi0 v1 h
    · have h := h.2 c6
      refine q_iload_n o dX6_giversOf_27 rfl ?_
      refine q_iconst o dX6_giversOf_28 (x := (1 : Int32)) (by decide) ?_
      refine q_iload o dX6_giversOf_29 rfl ?_
      refine q_ishl o dX6_giversOf_31 ?_
      refine q_ior o dX6_giversOf_32 ?_
      refine q_istore_n o (lv' := [(2, .int (a2 ||| ((1 : Int32) <<< ((v1 17 i0 n3) &&& 31)))), (4, .int (v1 17 i0 n3)), (0, .ref (gA G 15 i0)), (1, .int a1), (3, .int a3)]) dX6_giversOf_33 (by decide) rfl ?_
      refine q_iinc o (y := (a3 + (1 : Int32))) (lv' := [(3, .int (a3 + (1 : Int32))), (2, .int (a2 ||| ((1 : Int32) <<< ((v1 17 i0 n3) &&& 31)))), (4, .int (v1 17 i0 n3)), (0, .ref (gA G 15 i0)), (1, .int a1)]) dX6_giversOf_34 rfl rfl (by decide) rfl ?_
      refine q_goto o 4 dX6_giversOf_37 (by decide) ?_
      refine q_lv [3, 4, 1, 0] rfl ?_
      exact hK4 i0 a1 (a2 ||| ((1 : Int32) <<< ((v1 17 i0 n3) &&& 31))) (a3 + (1 : Int32)) hi0 v1 h
def wp_X6_giversOf (i0 : Nat) (a1 : Int32) (v : St3) (post : (Int32 → St3 → Prop)) : Prop := wL_X6_giversOf_4 post FU i0 a1 (0 : Int32) (0 : Int32) v
set_option maxRecDepth 20000 in
set_option maxHeartbeats 4000000 in
theorem ad_X6_giversOf (l : Launch) (G : Geo) (i0 : Nat) (a1 : Int32) (hi0 : i0 < 12) (v : St3) {post : (Int32 → St3 → Prop)} (h : wp_X6_giversOf i0 a1 v post) : CI l G yX6_giversOf wsX6_giversOf 1 [.ref (gA G 15 i0), .int a1] v post := by
  refine CI.of (ty := .int) (cc := cX6_giversOf) (maxL := 5) (by decide) rfl (Nat.le_of_ble_eq_true rfl) (fun X o rt => ?_)
  unfold wp_X6_giversOf at h
  show J l G X 0 [(0, .ref (gA G 15 i0)), (1, .int a1)] [] v
  refine q_iconst o dX6_giversOf_0 (x := (0 : Int32)) (by decide) ?_
  refine q_istore_n o (lv' := [(2, .int (0 : Int32)), (0, .ref (gA G 15 i0)), (1, .int a1)]) dX6_giversOf_1 (by decide) rfl ?_
  refine q_iconst o dX6_giversOf_2 (x := (0 : Int32)) (by decide) ?_
  refine q_istore_n o (lv' := [(3, .int (0 : Int32)), (2, .int (0 : Int32)), (0, .ref (gA G 15 i0)), (1, .int a1)]) dX6_giversOf_3 (by decide) rfl ?_
  refine q_lv [2, 3, 1, 0] rfl ?_
  exact aL_X6_giversOf_4 o rt FU i0 a1 (0 : Int32) (0 : Int32) hi0 v h
theorem pd_X6_giversOf : (parseMethodDescriptor yX6_giversOf.desc).map (fun d => d.parameters.length) = some 1 := by decide +kernel
-- PieceSwarm$Store.put(IIII)V
theorem inn_X6_put_X6 : ∀ w ∈ wsX60, w ∈ wsX6_put := by decide +kernel
theorem sf_X6_put_9 : SF wsX6_put RX6 9 15 0 17 := ⟨RX6, TX6, 6, rfl, rfl, rfl, rfl, by decide, inn_X6_put_X6, by decide +kernel⟩
theorem wini_X6_put_X9_place : Cond.initialized yX9_place.cls ∈ wsX6_put := by decide +kernel
theorem wsta_X6_put_X9_place : Cond.static yX9_place ∈ wsX6_put := by decide +kernel
theorem sf_X6_put_15 : SF wsX6_put RX6 15 15 1 18 := ⟨RX6, TX6, 6, rfl, rfl, rfl, rfl, by decide, inn_X6_put_X6, by decide +kernel⟩
def wp_X6_put (i0 : Nat) (a1 : Int32) (a2 : Int32) (a3 : Int32) (a4 : Int32) (v : St3) (post : (St3 → Prop)) : Prop := wp_X9_place a1 a2 v (fun r2 v1 => ∃ n3, n3 < 96 ∧ r2 = nI n3 ∧ ∀ v6, v6 = up3 v1 17 i0 n3 a3 → wp_X9_place a1 a2 v6 (fun r9 v8 => ∃ n10, n10 < 96 ∧ r9 = nI n10 ∧ ∀ v13, v13 = up3 v8 18 i0 n10 a4 → post v13))
set_option maxRecDepth 20000 in
set_option maxHeartbeats 4000000 in
theorem ad_X6_put (l : Launch) (G : Geo) (i0 : Nat) (a1 : Int32) (a2 : Int32) (a3 : Int32) (a4 : Int32) (hi0 : i0 < 12) (v : St3) {post : (St3 → Prop)} (h : wp_X6_put i0 a1 a2 a3 a4 v post) : CV l G yX6_put wsX6_put 1 [.ref (gA G 15 i0), .int a1, .int a2, .int a3, .int a4] v post := by
  refine CV.of (cc := cX6_put) (maxL := 5) (by decide) rfl (Nat.le_of_ble_eq_true rfl) (fun X o rt => ?_)
  unfold wp_X6_put at h
  show J l G X 0 [(0, .ref (gA G 15 i0)), (1, .int a1), (2, .int a2), (3, .int a3), (4, .int a4)] [] v
  refine q_aload_n o dX6_put_0 rfl ?_
  refine q_getR (q := 16) o sf_X6_put_9 hi0 dX6_put_1 ?_
  refine q_iload_n o dX6_put_4 rfl ?_
  refine q_iload_n o dX6_put_5 rfl ?_
  refine q_callN o [.int a1, .int a2] (ad_X9_place l G a1 a2 v h) gX6_put_X9_place_n30 rfl (by decide +kernel) wini_X6_put_X9_place wsta_X6_put_X9_place ⟨by decide, by decide, pd_X9_place⟩ (by decide) (by decide) rfl (Nat.le_of_ble_eq_true rfl) dX6_put_6 (fun r2 v1 h => ?_)
  refine q_iload_n o dX6_put_9 rfl ?_
  obtain ⟨n3, hn4, hx5, h⟩ := h
  refine q_iast (m := 95) o rfl rfl hi0 hn4 hx5 dX6_put_10 (fun v6 e7 => ?_)
  have h := h v6 e7
  refine q_aload_n o dX6_put_11 rfl ?_
  refine q_getR (q := 17) o sf_X6_put_15 hi0 dX6_put_12 ?_
  refine q_iload_n o dX6_put_15 rfl ?_
  refine q_iload_n o dX6_put_16 rfl ?_
  refine q_callN o [.int a1, .int a2] (ad_X9_place l G a1 a2 v6 h) gX6_put_X9_place_n30 rfl (by decide +kernel) wini_X6_put_X9_place wsta_X6_put_X9_place ⟨by decide, by decide, pd_X9_place⟩ (by decide) (by decide) rfl (Nat.le_of_ble_eq_true rfl) dX6_put_17 (fun r9 v8 h => ?_)
  refine q_iload o dX6_put_20 rfl ?_
  obtain ⟨n10, hn11, hx12, h⟩ := h
  refine q_iast (m := 95) o rfl rfl hi0 hn11 hx12 dX6_put_22 (fun v13 e14 => ?_)
  have h := h v13 e14
  exact q_vret o rt dX6_put_23 h
theorem pd_X6_put : (parseMethodDescriptor yX6_put.desc).map (fun d => d.parameters.length) = some 4 := by decide +kernel
-- PieceSwarm.oneIf(Z)I
def wp_X9_oneIf (a0 : Int32) (v : St3) (post : (Int32 → St3 → Prop)) : Prop := ((a0 = 0 → post (0 : Int32) v) ∧ (¬ a0 = 0 → post (1 : Int32) v))
set_option maxRecDepth 20000 in
set_option maxHeartbeats 4000000 in
theorem ad_X9_oneIf (l : Launch) (G : Geo) (a0 : Int32) (v : St3) {post : (Int32 → St3 → Prop)} (h : wp_X9_oneIf a0 v post) : CI l G yX9_oneIf wsX9_oneIf 0 [.int a0] v post := by
  refine CI.of (ty := .int) (cc := cX9_oneIf) (maxL := 1) (by decide) rfl (Nat.le_of_ble_eq_true rfl) (fun X o rt => ?_)
  unfold wp_X9_oneIf at h
  show J l G X 0 [(0, .int a0)] [] v
  refine q_iload_n o dX9_oneIf_0 rfl ?_
  refine q_if_eq o 8 dX9_oneIf_1 (by decide) (fun c1 => ?_) (fun c1 => ?_)
  · have h := h.1 c1
    refine q_iconst o dX9_oneIf_8 (x := (0 : Int32)) (by decide) ?_
    exact q_iret o rt dX9_oneIf_9 h
  · have h := h.2 c1
    refine q_iconst o dX9_oneIf_4 (x := (1 : Int32)) (by decide) ?_
    refine q_goto o 9 dX9_oneIf_5 (by decide) ?_
    exact q_iret o rt dX9_oneIf_9 h
theorem pd_X9_oneIf : (parseMethodDescriptor yX9_oneIf.desc).map (fun d => d.parameters.length) = some 1 := by decide +kernel
-- PieceSwarm$Store.heldOf(I)I
theorem wini_X6_heldOf_X9_oneIf : Cond.initialized yX9_oneIf.cls ∈ wsX6_heldOf := by decide +kernel
theorem wsta_X6_heldOf_X9_oneIf : Cond.static yX9_oneIf ∈ wsX6_heldOf := by decide +kernel
def wB_X6_heldOf_4 (post : (Int32 → St3 → Prop)) (K4 : Nat → Int32 → Int32 → Int32 → St3 → Prop) (i0 : Nat) (a1 : Int32) (a2 : Int32) (a3 : Int32) (v : St3) : Prop := (((4 : Int32) ≤ a3 → post a2 v) ∧ (¬ (4 : Int32) ≤ a3 → wp_X6_holds i0 a1 a3 v (fun r2 v1 => wp_X9_oneIf r2 v1 (fun r4 v3 => K4 i0 a1 (a2 + r4) (a3 + (1 : Int32)) v3))))
def wL_X6_heldOf_4 (post : (Int32 → St3 → Prop)) : Nat → Nat → Int32 → Int32 → Int32 → St3 → Prop
  | 0, _, _, _, _, _ => False
  | f + 1, i0, a1, a2, a3, v => wB_X6_heldOf_4 post (wL_X6_heldOf_4 post f) i0 a1 a2 a3 v
set_option maxRecDepth 20000 in
set_option maxHeartbeats 4000000 in
theorem aL_X6_heldOf_4 {l : Launch} {G : Geo} {X : CT} (o : OK G X cX6_heldOf wsX6_heldOf RX6 2 4) {post : (Int32 → St3 → Prop)} (rt : RI G X .int post) : ∀ (f : Nat) (i0 : Nat) (a1 : Int32) (a2 : Int32) (a3 : Int32) (hi0 : i0 < 12) (v : St3), wL_X6_heldOf_4 post f i0 a1 a2 a3 v → J l G X 4 [(0, .ref (gA G 15 i0)), (1, .int a1), (2, .int a2), (3, .int a3)] [] v := by
  intro f
  induction f with
  | zero => intro _ _ _ _ _ _ h; exact False.elim h
  | succ f hK4 =>
  intro i0 a1 a2 a3 hi0 v h
  have h : wB_X6_heldOf_4 post (wL_X6_heldOf_4 post f) i0 a1 a2 a3 v := h
  unfold wB_X6_heldOf_4 at h
  refine q_iload_n o dX6_heldOf_4 rfl ?_
  refine q_iconst o dX6_heldOf_5 (x := (4 : Int32)) (by decide) ?_
  refine q_ic_ge o 27 dX6_heldOf_6 (by decide) (fun c5 => ?_) (fun c5 => ?_)
  · have h := h.1 c5
    refine q_iload_n o dX6_heldOf_27 rfl ?_
    exact q_iret o rt dX6_heldOf_28 h
  · have h := h.2 c5
    refine q_iload_n o dX6_heldOf_9 rfl ?_
    refine q_aload_n o dX6_heldOf_10 rfl ?_
    refine q_iload_n o dX6_heldOf_11 rfl ?_
    refine q_iload_n o dX6_heldOf_12 rfl ?_
    refine q_callV o [.int a1, .int a3] (ad_X6_holds l G i0 a1 a3 hi0 v h) gX6_heldOf_X6_holds rfl rfl rfl rfl hi0 ⟨rfl, by decide, by decide, pd_X6_holds⟩ (by decide) (by decide) rfl (Nat.le_of_ble_eq_true rfl) dX6_heldOf_13 (fun r2 v1 h => ?_)
    refine q_callN o [.int r2] (ad_X9_oneIf l G r2 v1 h) gX6_heldOf_X9_oneIf_n51 rfl (by decide +kernel) wini_X6_heldOf_X9_oneIf wsta_X6_heldOf_X9_oneIf ⟨by decide, by decide, pd_X9_oneIf⟩ (by decide) (by decide) rfl (Nat.le_of_ble_eq_true rfl) dX6_heldOf_16 (fun r4 v3 h => ?_)
    refine q_iadd o dX6_heldOf_19 ?_
    refine q_istore_n o (lv' := [(2, .int (a2 + r4)), (0, .ref (gA G 15 i0)), (1, .int a1), (3, .int a3)]) dX6_heldOf_20 (by decide) rfl ?_
    refine q_iinc o (y := (a3 + (1 : Int32))) (lv' := [(3, .int (a3 + (1 : Int32))), (2, .int (a2 + r4)), (0, .ref (gA G 15 i0)), (1, .int a1)]) dX6_heldOf_21 rfl rfl (by decide) rfl ?_
    refine q_goto o 4 dX6_heldOf_24 (by decide) ?_
    refine q_lv [2, 3, 1, 0] rfl ?_
    exact hK4 i0 a1 (a2 + r4) (a3 + (1 : Int32)) hi0 v3 h
def wp_X6_heldOf (i0 : Nat) (a1 : Int32) (v : St3) (post : (Int32 → St3 → Prop)) : Prop := wL_X6_heldOf_4 post FU i0 a1 (0 : Int32) (0 : Int32) v
set_option maxRecDepth 20000 in
set_option maxHeartbeats 4000000 in
theorem ad_X6_heldOf (l : Launch) (G : Geo) (i0 : Nat) (a1 : Int32) (hi0 : i0 < 12) (v : St3) {post : (Int32 → St3 → Prop)} (h : wp_X6_heldOf i0 a1 v post) : CI l G yX6_heldOf wsX6_heldOf 2 [.ref (gA G 15 i0), .int a1] v post := by
  refine CI.of (ty := .int) (cc := cX6_heldOf) (maxL := 4) (by decide) rfl (Nat.le_of_ble_eq_true rfl) (fun X o rt => ?_)
  unfold wp_X6_heldOf at h
  show J l G X 0 [(0, .ref (gA G 15 i0)), (1, .int a1)] [] v
  refine q_iconst o dX6_heldOf_0 (x := (0 : Int32)) (by decide) ?_
  refine q_istore_n o (lv' := [(2, .int (0 : Int32)), (0, .ref (gA G 15 i0)), (1, .int a1)]) dX6_heldOf_1 (by decide) rfl ?_
  refine q_iconst o dX6_heldOf_2 (x := (0 : Int32)) (by decide) ?_
  refine q_istore_n o (lv' := [(3, .int (0 : Int32)), (2, .int (0 : Int32)), (0, .ref (gA G 15 i0)), (1, .int a1)]) dX6_heldOf_3 (by decide) rfl ?_
  refine q_lv [2, 3, 1, 0] rfl ?_
  exact aL_X6_heldOf_4 o rt FU i0 a1 (0 : Int32) (0 : Int32) hi0 v h
theorem pd_X6_heldOf : (parseMethodDescriptor yX6_heldOf.desc).map (fun d => d.parameters.length) = some 1 := by decide +kernel
-- PieceSwarm.sumWith(II)I
theorem kc_X9_sumWith_271 : Cond.constant RX9 271 (69069 : Int32) ∈ wsX9_sumWith := by decide +kernel
def wp_X9_sumWith (a0 : Int32) (a1 : Int32) (v : St3) (post : (Int32 → St3 → Prop)) : Prop := post ((a0 * (69069 : Int32)) + a1) v
set_option maxRecDepth 20000 in
set_option maxHeartbeats 4000000 in
theorem ad_X9_sumWith (l : Launch) (G : Geo) (a0 : Int32) (a1 : Int32) (v : St3) {post : (Int32 → St3 → Prop)} (h : wp_X9_sumWith a0 a1 v post) : CI l G yX9_sumWith wsX9_sumWith 0 [.int a0, .int a1] v post := by
  refine CI.of (ty := .int) (cc := cX9_sumWith) (maxL := 2) (by decide) rfl (Nat.le_of_ble_eq_true rfl) (fun X o rt => ?_)
  unfold wp_X9_sumWith at h
  show J l G X 0 [(0, .int a0), (1, .int a1)] [] v
  refine q_iload_n o dX9_sumWith_0 rfl ?_
  refine q_ldcw o kc_X9_sumWith_271 dX9_sumWith_1 ?_
  refine q_imul o dX9_sumWith_4 ?_
  refine q_iload_n o dX9_sumWith_5 rfl ?_
  refine q_iadd o dX9_sumWith_6 ?_
  exact q_iret o rt dX9_sumWith_7 h
theorem pd_X9_sumWith : (parseMethodDescriptor yX9_sumWith.desc).map (fun d => d.parameters.length) = some 2 := by decide +kernel
-- PieceSwarm$Store.sumOf(II)I
theorem inn_X6_sumOf_X6 : ∀ w ∈ wsX60, w ∈ wsX6_sumOf := by decide +kernel
theorem sf_X6_sumOf_15 : SF wsX6_sumOf RX6 15 15 1 18 := ⟨RX6, TX6, 6, rfl, rfl, rfl, rfl, by decide, inn_X6_sumOf_X6, by decide +kernel⟩
theorem wini_X6_sumOf_X9_place : Cond.initialized yX9_place.cls ∈ wsX6_sumOf := by decide +kernel
theorem wsta_X6_sumOf_X9_place : Cond.static yX9_place ∈ wsX6_sumOf := by decide +kernel
theorem wini_X6_sumOf_X9_sumWith : Cond.initialized yX9_sumWith.cls ∈ wsX6_sumOf := by decide +kernel
theorem wsta_X6_sumOf_X9_sumWith : Cond.static yX9_sumWith ∈ wsX6_sumOf := by decide +kernel
def wB_X6_sumOf_5 (post : (Int32 → St3 → Prop)) (K5 : Nat → Int32 → Int32 → Int32 → Int32 → St3 → Prop) (i0 : Nat) (a1 : Int32) (a2 : Int32) (a3 : Int32) (a4 : Int32) (v : St3) : Prop := ((a2 ≤ a4 → post a3 v) ∧ (¬ a2 ≤ a4 → wp_X9_place a1 a4 v (fun r2 v1 => ∃ n3, n3 < 96 ∧ r2 = nI n3 ∧ wp_X9_sumWith a3 (v1 18 i0 n3) v1 (fun r7 v6 => K5 i0 a1 a2 r7 (a4 + (1 : Int32)) v6))))
def wL_X6_sumOf_5 (post : (Int32 → St3 → Prop)) : Nat → Nat → Int32 → Int32 → Int32 → Int32 → St3 → Prop
  | 0, _, _, _, _, _, _ => False
  | f + 1, i0, a1, a2, a3, a4, v => wB_X6_sumOf_5 post (wL_X6_sumOf_5 post f) i0 a1 a2 a3 a4 v
set_option maxRecDepth 20000 in
set_option maxHeartbeats 4000000 in
theorem aL_X6_sumOf_5 {l : Launch} {G : Geo} {X : CT} (o : OK G X cX6_sumOf wsX6_sumOf RX6 1 5) {post : (Int32 → St3 → Prop)} (rt : RI G X .int post) : ∀ (f : Nat) (i0 : Nat) (a1 : Int32) (a2 : Int32) (a3 : Int32) (a4 : Int32) (hi0 : i0 < 12) (v : St3), wL_X6_sumOf_5 post f i0 a1 a2 a3 a4 v → J l G X 5 [(0, .ref (gA G 15 i0)), (1, .int a1), (2, .int a2), (3, .int a3), (4, .int a4)] [] v := by
  intro f
  induction f with
  | zero => intro _ _ _ _ _ _ _ h; exact False.elim h
  | succ f hK5 =>
  intro i0 a1 a2 a3 a4 hi0 v h
  have h : wB_X6_sumOf_5 post (wL_X6_sumOf_5 post f) i0 a1 a2 a3 a4 v := h
  unfold wB_X6_sumOf_5 at h
  refine q_iload o dX6_sumOf_5 rfl ?_
  refine q_iload_n o dX6_sumOf_7 rfl ?_
  refine q_ic_ge o 33 dX6_sumOf_8 (by decide) (fun c8 => ?_) (fun c8 => ?_)
  · have h := h.1 c8
    refine q_iload_n o dX6_sumOf_33 rfl ?_
    exact q_iret o rt dX6_sumOf_34 h
  · have h := h.2 c8
    refine q_iload_n o dX6_sumOf_11 rfl ?_
    refine q_aload_n o dX6_sumOf_12 rfl ?_
    refine q_getR (q := 17) o sf_X6_sumOf_15 hi0 dX6_sumOf_13 ?_
    refine q_iload_n o dX6_sumOf_16 rfl ?_
    refine q_iload o dX6_sumOf_17 rfl ?_
    refine q_callN o [.int a1, .int a4] (ad_X9_place l G a1 a4 v h) gX6_sumOf_X9_place_n30 rfl (by decide +kernel) wini_X6_sumOf_X9_place wsta_X6_sumOf_X9_place ⟨by decide, by decide, pd_X9_place⟩ (by decide) (by decide) rfl (Nat.le_of_ble_eq_true rfl) dX6_sumOf_19 (fun r2 v1 h => ?_)
    obtain ⟨n3, hn4, hx5, h⟩ := h
    refine q_iald (m := 95) o rfl rfl hi0 hn4 hx5 dX6_sumOf_22 ?_
    refine q_callN o [.int a3, .int (v1 18 i0 n3)] (ad_X9_sumWith l G a3 (v1 18 i0 n3) v1 h) gX6_sumOf_X9_sumWith_n65 rfl (by decide +kernel) wini_X6_sumOf_X9_sumWith wsta_X6_sumOf_X9_sumWith ⟨by decide, by decide, pd_X9_sumWith⟩ (by decide) (by decide) rfl (Nat.le_of_ble_eq_true rfl) dX6_sumOf_23 (fun r7 v6 h => ?_)
    refine q_istore_n o (lv' := [(3, .int r7), (0, .ref (gA G 15 i0)), (1, .int a1), (2, .int a2), (4, .int a4)]) dX6_sumOf_26 (by decide) rfl ?_
    refine q_iinc o (y := (a4 + (1 : Int32))) (lv' := [(4, .int (a4 + (1 : Int32))), (3, .int r7), (0, .ref (gA G 15 i0)), (1, .int a1), (2, .int a2)]) dX6_sumOf_27 rfl rfl (by decide) rfl ?_
    refine q_goto o 5 dX6_sumOf_30 (by decide) ?_
    refine q_lv [2, 3, 4, 1, 0] rfl ?_
    exact hK5 i0 a1 a2 r7 (a4 + (1 : Int32)) hi0 v6 h
def wp_X6_sumOf (i0 : Nat) (a1 : Int32) (a2 : Int32) (v : St3) (post : (Int32 → St3 → Prop)) : Prop := wL_X6_sumOf_5 post FU i0 a1 a2 (0 : Int32) (0 : Int32) v
set_option maxRecDepth 20000 in
set_option maxHeartbeats 4000000 in
theorem ad_X6_sumOf (l : Launch) (G : Geo) (i0 : Nat) (a1 : Int32) (a2 : Int32) (hi0 : i0 < 12) (v : St3) {post : (Int32 → St3 → Prop)} (h : wp_X6_sumOf i0 a1 a2 v post) : CI l G yX6_sumOf wsX6_sumOf 1 [.ref (gA G 15 i0), .int a1, .int a2] v post := by
  refine CI.of (ty := .int) (cc := cX6_sumOf) (maxL := 5) (by decide) rfl (Nat.le_of_ble_eq_true rfl) (fun X o rt => ?_)
  unfold wp_X6_sumOf at h
  show J l G X 0 [(0, .ref (gA G 15 i0)), (1, .int a1), (2, .int a2)] [] v
  refine q_iconst o dX6_sumOf_0 (x := (0 : Int32)) (by decide) ?_
  refine q_istore_n o (lv' := [(3, .int (0 : Int32)), (0, .ref (gA G 15 i0)), (1, .int a1), (2, .int a2)]) dX6_sumOf_1 (by decide) rfl ?_
  refine q_iconst o dX6_sumOf_2 (x := (0 : Int32)) (by decide) ?_
  refine q_istore o (lv' := [(4, .int (0 : Int32)), (3, .int (0 : Int32)), (0, .ref (gA G 15 i0)), (1, .int a1), (2, .int a2)]) dX6_sumOf_3 (by decide) rfl ?_
  refine q_lv [2, 3, 4, 1, 0] rfl ?_
  exact aL_X6_sumOf_5 o rt FU i0 a1 a2 (0 : Int32) (0 : Int32) hi0 v h
theorem pd_X6_sumOf : (parseMethodDescriptor yX6_sumOf.desc).map (fun d => d.parameters.length) = some 2 := by decide +kernel
-- PieceSwarm$Whole.valueOf(II)I
theorem inn_X8_valueOf_X8 : ∀ w ∈ wsX80, w ∈ wsX8_valueOf := by decide +kernel
theorem sf_X8_valueOf_16 : SF wsX8_valueOf RX8 16 5 2 0 := ⟨RX8, TX8, 3, rfl, rfl, rfl, rfl, by decide, inn_X8_valueOf_X8, by decide +kernel⟩
theorem kc_X8_valueOf_23 : Cond.constant RX8 23 (1103515245 : Int32) ∈ wsX8_valueOf := by decide +kernel
def wp_X8_valueOf (a1 : Int32) (a2 : Int32) (v : St3) (post : (Int32 → St3 → Prop)) : Prop := ∀ x1 : Int32, x1 = (((((v 5 0 2) + ((4 : Int32) * a1)) + a2) * (1103515245 : Int32)) + (12345 : Int32)) → post (x1 ^^^ (ushr x1 (15 : Int32))) v
set_option maxRecDepth 20000 in
set_option maxHeartbeats 4000000 in
theorem ad_X8_valueOf (l : Launch) (G : Geo) (a1 : Int32) (a2 : Int32) (v : St3) {post : (Int32 → St3 → Prop)} (h : wp_X8_valueOf a1 a2 v post) : CI l G yX8_valueOf wsX8_valueOf 0 [.ref (gA G 5 0), .int a1, .int a2] v post := by
  refine CI.of (ty := .int) (cc := cX8_valueOf) (maxL := 4) (by decide) rfl (Nat.le_of_ble_eq_true rfl) (fun X o rt => ?_)
  unfold wp_X8_valueOf at h
  show J l G X 0 [(0, .ref (gA G 5 0)), (1, .int a1), (2, .int a2)] [] v
  refine q_aload_n o dX8_valueOf_0 rfl ?_
  refine q_getI o sf_X8_valueOf_16 (by decide) dX8_valueOf_1 ?_
  refine q_iconst o dX8_valueOf_4 (x := (4 : Int32)) (by decide) ?_
  refine q_iload_n o dX8_valueOf_5 rfl ?_
  refine q_imul o dX8_valueOf_6 ?_
  refine q_iadd o dX8_valueOf_7 ?_
  refine q_iload_n o dX8_valueOf_8 rfl ?_
  refine q_iadd o dX8_valueOf_9 ?_
  refine q_istore_n o (lv' := [(3, .int (((v 5 0 2) + ((4 : Int32) * a1)) + a2)), (0, .ref (gA G 5 0)), (1, .int a1), (2, .int a2)]) dX8_valueOf_10 (by decide) rfl ?_
  refine q_iload_n o dX8_valueOf_11 rfl ?_
  refine q_ldc o kc_X8_valueOf_23 dX8_valueOf_12 ?_
  refine q_imul o dX8_valueOf_14 ?_
  refine q_sipush o dX8_valueOf_15 (x := (12345 : Int32)) (by decide) ?_
  refine q_iadd o dX8_valueOf_18 ?_
  refine q_top (fun x1 e2 => ?_)
  have h := h x1 e2
  refine q_istore_n o (lv' := [(3, .int x1), (0, .ref (gA G 5 0)), (1, .int a1), (2, .int a2)]) dX8_valueOf_19 (by decide) rfl ?_
  refine q_iload_n o dX8_valueOf_20 rfl ?_
  refine q_iload_n o dX8_valueOf_21 rfl ?_
  refine q_bipush o dX8_valueOf_22 (x := (15 : Int32)) (by decide) ?_
  refine q_iushr o dX8_valueOf_24 ?_
  refine q_ixor o dX8_valueOf_25 ?_
  exact q_iret o rt dX8_valueOf_26 h
theorem pd_X8_valueOf : (parseMethodDescriptor yX8_valueOf.desc).map (fun d => d.parameters.length) = some 2 := by decide +kernel
-- PieceSwarm$Whole.sumOf(I)I
theorem inn_X8_sumOf_X8 : ∀ w ∈ wsX80, w ∈ wsX8_sumOf := by decide +kernel
theorem sf_X8_sumOf_13 : SF wsX8_sumOf RX8 13 5 1 0 := ⟨RX8, TX8, 3, rfl, rfl, rfl, rfl, by decide, inn_X8_sumOf_X8, by decide +kernel⟩
theorem wini_X8_sumOf_X9_sumWith : Cond.initialized yX9_sumWith.cls ∈ wsX8_sumOf := by decide +kernel
theorem wsta_X8_sumOf_X9_sumWith : Cond.static yX9_sumWith ∈ wsX8_sumOf := by decide +kernel
def wB_X8_sumOf_4 (post : (Int32 → St3 → Prop)) (K4 : Int32 → Int32 → Int32 → St3 → Prop) (a1 : Int32) (a2 : Int32) (a3 : Int32) (v : St3) : Prop := (((v 5 0 1) ≤ a3 → post a2 v) ∧ (¬ (v 5 0 1) ≤ a3 → wp_X8_valueOf a1 a3 v (fun r2 v1 => wp_X9_sumWith a2 r2 v1 (fun r4 v3 => K4 a1 r4 (a3 + (1 : Int32)) v3))))
def wL_X8_sumOf_4 (post : (Int32 → St3 → Prop)) : Nat → Int32 → Int32 → Int32 → St3 → Prop
  | 0, _, _, _, _ => False
  | f + 1, a1, a2, a3, v => wB_X8_sumOf_4 post (wL_X8_sumOf_4 post f) a1 a2 a3 v
set_option maxRecDepth 20000 in
set_option maxHeartbeats 4000000 in
theorem aL_X8_sumOf_4 {l : Launch} {G : Geo} {X : CT} (o : OK G X cX8_sumOf wsX8_sumOf RX8 1 4) {post : (Int32 → St3 → Prop)} (rt : RI G X .int post) : ∀ (f : Nat) (a1 : Int32) (a2 : Int32) (a3 : Int32) (v : St3), wL_X8_sumOf_4 post f a1 a2 a3 v → J l G X 4 [(0, .ref (gA G 5 0)), (1, .int a1), (2, .int a2), (3, .int a3)] [] v := by
  intro f
  induction f with
  | zero => intro _ _ _ _ h; exact False.elim h
  | succ f hK4 =>
  intro a1 a2 a3 v h
  have h : wB_X8_sumOf_4 post (wL_X8_sumOf_4 post f) a1 a2 a3 v := h
  unfold wB_X8_sumOf_4 at h
  refine q_iload_n o dX8_sumOf_4 rfl ?_
  refine q_aload_n o dX8_sumOf_5 rfl ?_
  refine q_getI o sf_X8_sumOf_13 (by decide) dX8_sumOf_6 ?_
  refine q_ic_ge o 29 dX8_sumOf_9 (by decide) (fun c5 => ?_) (fun c5 => ?_)
  · have h := h.1 c5
    refine q_iload_n o dX8_sumOf_29 rfl ?_
    exact q_iret o rt dX8_sumOf_30 h
  · have h := h.2 c5
    refine q_iload_n o dX8_sumOf_12 rfl ?_
    refine q_aload_n o dX8_sumOf_13 rfl ?_
    refine q_iload_n o dX8_sumOf_14 rfl ?_
    refine q_iload_n o dX8_sumOf_15 rfl ?_
    refine q_callV o [.int a1, .int a3] (ad_X8_valueOf l G a1 a3 v h) gX8_sumOf_X8_valueOf rfl rfl rfl rfl (by decide) ⟨rfl, by decide, by decide, pd_X8_valueOf⟩ (by decide) (by decide) rfl (Nat.le_of_ble_eq_true rfl) dX8_sumOf_16 (fun r2 v1 h => ?_)
    refine q_callN o [.int a2, .int r2] (ad_X9_sumWith l G a2 r2 v1 h) gX8_sumOf_X9_sumWith_n28 rfl (by decide +kernel) wini_X8_sumOf_X9_sumWith wsta_X8_sumOf_X9_sumWith ⟨by decide, by decide, pd_X9_sumWith⟩ (by decide) (by decide) rfl (Nat.le_of_ble_eq_true rfl) dX8_sumOf_19 (fun r4 v3 h => ?_)
    refine q_istore_n o (lv' := [(2, .int r4), (0, .ref (gA G 5 0)), (1, .int a1), (3, .int a3)]) dX8_sumOf_22 (by decide) rfl ?_
    refine q_iinc o (y := (a3 + (1 : Int32))) (lv' := [(3, .int (a3 + (1 : Int32))), (2, .int r4), (0, .ref (gA G 5 0)), (1, .int a1)]) dX8_sumOf_23 rfl rfl (by decide) rfl ?_
    refine q_goto o 4 dX8_sumOf_26 (by decide) ?_
    refine q_lv [2, 3, 1, 0] rfl ?_
    exact hK4 a1 r4 (a3 + (1 : Int32)) v3 h
def wp_X8_sumOf (a1 : Int32) (v : St3) (post : (Int32 → St3 → Prop)) : Prop := wL_X8_sumOf_4 post FU a1 (0 : Int32) (0 : Int32) v
set_option maxRecDepth 20000 in
set_option maxHeartbeats 4000000 in
theorem ad_X8_sumOf (l : Launch) (G : Geo) (a1 : Int32) (v : St3) {post : (Int32 → St3 → Prop)} (h : wp_X8_sumOf a1 v post) : CI l G yX8_sumOf wsX8_sumOf 1 [.ref (gA G 5 0), .int a1] v post := by
  refine CI.of (ty := .int) (cc := cX8_sumOf) (maxL := 4) (by decide) rfl (Nat.le_of_ble_eq_true rfl) (fun X o rt => ?_)
  unfold wp_X8_sumOf at h
  show J l G X 0 [(0, .ref (gA G 5 0)), (1, .int a1)] [] v
  refine q_iconst o dX8_sumOf_0 (x := (0 : Int32)) (by decide) ?_
  refine q_istore_n o (lv' := [(2, .int (0 : Int32)), (0, .ref (gA G 5 0)), (1, .int a1)]) dX8_sumOf_1 (by decide) rfl ?_
  refine q_iconst o dX8_sumOf_2 (x := (0 : Int32)) (by decide) ?_
  refine q_istore_n o (lv' := [(3, .int (0 : Int32)), (2, .int (0 : Int32)), (0, .ref (gA G 5 0)), (1, .int a1)]) dX8_sumOf_3 (by decide) rfl ?_
  refine q_lv [2, 3, 1, 0] rfl ?_
  exact aL_X8_sumOf_4 o rt FU a1 (0 : Int32) (0 : Int32) v h
theorem pd_X8_sumOf : (parseMethodDescriptor yX8_sumOf.desc).map (fun d => d.parameters.length) = some 1 := by decide +kernel
-- PieceSwarm$Whole.allPieces()I
theorem inn_X8_allPieces_X8 : ∀ w ∈ wsX80, w ∈ wsX8_allPieces := by decide +kernel
theorem sf_X8_allPieces_7 : SF wsX8_allPieces RX8 7 5 0 0 := ⟨RX8, TX8, 3, rfl, rfl, rfl, rfl, by decide, inn_X8_allPieces_X8, by decide +kernel⟩
def wp_X8_allPieces (v : St3) (post : (Int32 → St3 → Prop)) : Prop := post (((1 : Int32) <<< ((v 5 0 0) &&& 31)) - (1 : Int32)) v
set_option maxRecDepth 20000 in
set_option maxHeartbeats 4000000 in
theorem ad_X8_allPieces (l : Launch) (G : Geo) (v : St3) {post : (Int32 → St3 → Prop)} (h : wp_X8_allPieces v post) : CI l G yX8_allPieces wsX8_allPieces 0 [.ref (gA G 5 0)] v post := by
  refine CI.of (ty := .int) (cc := cX8_allPieces) (maxL := 1) (by decide) rfl (Nat.le_of_ble_eq_true rfl) (fun X o rt => ?_)
  unfold wp_X8_allPieces at h
  show J l G X 0 [(0, .ref (gA G 5 0))] [] v
  refine q_iconst o dX8_allPieces_0 (x := (1 : Int32)) (by decide) ?_
  refine q_aload_n o dX8_allPieces_1 rfl ?_
  refine q_getI o sf_X8_allPieces_7 (by decide) dX8_allPieces_2 ?_
  refine q_ishl o dX8_allPieces_5 ?_
  refine q_iconst o dX8_allPieces_6 (x := (1 : Int32)) (by decide) ?_
  refine q_isub o dX8_allPieces_7 ?_
  exact q_iret o rt dX8_allPieces_8 h
theorem pd_X8_allPieces : (parseMethodDescriptor yX8_allPieces.desc).map (fun d => d.parameters.length) = some 0 := by decide +kernel
-- PieceSwarm$Store.drop(I)V
theorem inn_X6_drop_X6 : ∀ w ∈ wsX60, w ∈ wsX6_drop := by decide +kernel
theorem sf_X6_drop_9 : SF wsX6_drop RX6 9 15 0 17 := ⟨RX6, TX6, 6, rfl, rfl, rfl, rfl, by decide, inn_X6_drop_X6, by decide +kernel⟩
theorem wini_X6_drop_X9_place : Cond.initialized yX9_place.cls ∈ wsX6_drop := by decide +kernel
theorem wsta_X6_drop_X9_place : Cond.static yX9_place ∈ wsX6_drop := by decide +kernel
def wB_X6_drop_2 (post : (St3 → Prop)) (K2 : Nat → Int32 → Int32 → St3 → Prop) (i0 : Nat) (a1 : Int32) (a2 : Int32) (v : St3) : Prop := (((4 : Int32) ≤ a2 → post v) ∧ (¬ (4 : Int32) ≤ a2 → wp_X9_place a1 a2 v (fun r2 v1 => ∃ n3, n3 < 96 ∧ r2 = nI n3 ∧ ∀ v6, v6 = up3 v1 17 i0 n3 (-1 : Int32) → K2 i0 a1 (a2 + (1 : Int32)) v6)))
def wL_X6_drop_2 (post : (St3 → Prop)) : Nat → Nat → Int32 → Int32 → St3 → Prop
  | 0, _, _, _, _ => False
  | f + 1, i0, a1, a2, v => wB_X6_drop_2 post (wL_X6_drop_2 post f) i0 a1 a2 v
set_option maxRecDepth 20000 in
set_option maxHeartbeats 4000000 in
theorem aL_X6_drop_2 {l : Launch} {G : Geo} {X : CT} (o : OK G X cX6_drop wsX6_drop RX6 1 3) {post : (St3 → Prop)} (rt : RV G X post) : ∀ (f : Nat) (i0 : Nat) (a1 : Int32) (a2 : Int32) (hi0 : i0 < 12) (v : St3), wL_X6_drop_2 post f i0 a1 a2 v → J l G X 2 [(0, .ref (gA G 15 i0)), (1, .int a1), (2, .int a2)] [] v := by
  intro f
  induction f with
  | zero => intro _ _ _ _ _ h; exact False.elim h
  | succ f hK2 =>
  intro i0 a1 a2 hi0 v h
  have h : wB_X6_drop_2 post (wL_X6_drop_2 post f) i0 a1 a2 v := h
  unfold wB_X6_drop_2 at h
  refine q_iload_n o dX6_drop_2 rfl ?_
  refine q_iconst o dX6_drop_3 (x := (4 : Int32)) (by decide) ?_
  refine q_ic_ge o 24 dX6_drop_4 (by decide) (fun c8 => ?_) (fun c8 => ?_)
  · have h := h.1 c8
    exact q_vret o rt dX6_drop_24 h
  · have h := h.2 c8
    refine q_aload_n o dX6_drop_7 rfl ?_
    refine q_getR (q := 16) o sf_X6_drop_9 hi0 dX6_drop_8 ?_
    refine q_iload_n o dX6_drop_11 rfl ?_
    refine q_iload_n o dX6_drop_12 rfl ?_
    refine q_callN o [.int a1, .int a2] (ad_X9_place l G a1 a2 v h) gX6_drop_X9_place_n30 rfl (by decide +kernel) wini_X6_drop_X9_place wsta_X6_drop_X9_place ⟨by decide, by decide, pd_X9_place⟩ (by decide) (by decide) rfl (Nat.le_of_ble_eq_true rfl) dX6_drop_13 (fun r2 v1 h => ?_)
    refine q_iconst o dX6_drop_16 (x := (-1 : Int32)) (by decide) ?_
    obtain ⟨n3, hn4, hx5, h⟩ := h
    refine q_iast (m := 95) o rfl rfl hi0 hn4 hx5 dX6_drop_17 (fun v6 e7 => ?_)
    have h := h v6 e7
    refine q_iinc o (y := (a2 + (1 : Int32))) (lv' := [(2, .int (a2 + (1 : Int32))), (0, .ref (gA G 15 i0)), (1, .int a1)]) dX6_drop_18 rfl rfl (by decide) rfl ?_
    refine q_goto o 2 dX6_drop_21 (by decide) ?_
    refine q_lv [1, 2, 0] rfl ?_
    exact hK2 i0 a1 (a2 + (1 : Int32)) hi0 v6 h
def wp_X6_drop (i0 : Nat) (a1 : Int32) (v : St3) (post : (St3 → Prop)) : Prop := wL_X6_drop_2 post FU i0 a1 (0 : Int32) v
set_option maxRecDepth 20000 in
set_option maxHeartbeats 4000000 in
theorem ad_X6_drop (l : Launch) (G : Geo) (i0 : Nat) (a1 : Int32) (hi0 : i0 < 12) (v : St3) {post : (St3 → Prop)} (h : wp_X6_drop i0 a1 v post) : CV l G yX6_drop wsX6_drop 1 [.ref (gA G 15 i0), .int a1] v post := by
  refine CV.of (cc := cX6_drop) (maxL := 3) (by decide) rfl (Nat.le_of_ble_eq_true rfl) (fun X o rt => ?_)
  unfold wp_X6_drop at h
  show J l G X 0 [(0, .ref (gA G 15 i0)), (1, .int a1)] [] v
  refine q_iconst o dX6_drop_0 (x := (0 : Int32)) (by decide) ?_
  refine q_istore_n o (lv' := [(2, .int (0 : Int32)), (0, .ref (gA G 15 i0)), (1, .int a1)]) dX6_drop_1 (by decide) rfl ?_
  refine q_lv [1, 2, 0] rfl ?_
  exact aL_X6_drop_2 o rt FU i0 a1 (0 : Int32) hi0 v h
theorem pd_X6_drop : (parseMethodDescriptor yX6_drop.desc).map (fun d => d.parameters.length) = some 1 := by decide +kernel
-- PieceSwarm$Road.move(II)V
theorem inn_X5_move_X5 : ∀ w ∈ wsX50, w ∈ wsX5_move := by decide +kernel
theorem sf_X5_move_11 : SF wsX5_move RX5 11 6 0 7 := ⟨RX5, TX5, 7, rfl, rfl, rfl, rfl, by decide, inn_X5_move_X5, by decide +kernel⟩
theorem sf_X5_move_15 : SF wsX5_move RX5 15 6 1 8 := ⟨RX5, TX5, 7, rfl, rfl, rfl, rfl, by decide, inn_X5_move_X5, by decide +kernel⟩
theorem sf_X5_move_18 : SF wsX5_move RX5 18 6 2 9 := ⟨RX5, TX5, 7, rfl, rfl, rfl, rfl, by decide, inn_X5_move_X5, by decide +kernel⟩
theorem sf_X5_move_21 : SF wsX5_move RX5 21 6 3 10 := ⟨RX5, TX5, 7, rfl, rfl, rfl, rfl, by decide, inn_X5_move_X5, by decide +kernel⟩
theorem sf_X5_move_24 : SF wsX5_move RX5 24 6 4 11 := ⟨RX5, TX5, 7, rfl, rfl, rfl, rfl, by decide, inn_X5_move_X5, by decide +kernel⟩
theorem sf_X5_move_27 : SF wsX5_move RX5 27 6 5 12 := ⟨RX5, TX5, 7, rfl, rfl, rfl, rfl, by decide, inn_X5_move_X5, by decide +kernel⟩
def wp_X5_move (a1 : Int32) (a2 : Int32) (v : St3) (post : (St3 → Prop)) : Prop := ∃ n1, n1 < 192 ∧ a1 = nI n1 ∧ ∃ n4, n4 < 192 ∧ a2 = nI n4 ∧ ∀ v7, v7 = up3 v 7 0 n4 (v 7 0 n1) → ∀ v9, v9 = up3 v7 8 0 n4 (v7 8 0 n1) → ∀ v11, v11 = up3 v9 9 0 n4 (v9 9 0 n1) → ∀ v13, v13 = up3 v11 10 0 n4 (v11 10 0 n1) → ∀ v15, v15 = up3 v13 11 0 n4 (v13 11 0 n1) → ∀ v17, v17 = up3 v15 12 0 n4 (v15 12 0 n1) → post v17
set_option maxRecDepth 20000 in
set_option maxHeartbeats 4000000 in
theorem ad_X5_move (l : Launch) (G : Geo) (a1 : Int32) (a2 : Int32) (v : St3) {post : (St3 → Prop)} (h : wp_X5_move a1 a2 v post) : CV l G yX5_move wsX5_move 0 [.ref (gA G 6 0), .int a1, .int a2] v post := by
  refine CV.of (cc := cX5_move) (maxL := 3) (by decide) rfl (Nat.le_of_ble_eq_true rfl) (fun X o rt => ?_)
  unfold wp_X5_move at h
  show J l G X 0 [(0, .ref (gA G 6 0)), (1, .int a1), (2, .int a2)] [] v
  refine q_aload_n o dX5_move_0 rfl ?_
  refine q_getR (q := 6) o sf_X5_move_11 (by decide) dX5_move_1 ?_
  refine q_iload_n o dX5_move_4 rfl ?_
  refine q_aload_n o dX5_move_5 rfl ?_
  refine q_getR (q := 6) o sf_X5_move_11 (by decide) dX5_move_6 ?_
  refine q_iload_n o dX5_move_9 rfl ?_
  obtain ⟨n1, hn2, hx3, h⟩ := h
  refine q_iald (m := 191) o rfl rfl (by decide) hn2 hx3 dX5_move_10 ?_
  obtain ⟨n4, hn5, hx6, h⟩ := h
  refine q_iast (m := 191) o rfl rfl (by decide) hn5 hx6 dX5_move_11 (fun v7 e8 => ?_)
  have h := h v7 e8
  refine q_aload_n o dX5_move_12 rfl ?_
  refine q_getR (q := 7) o sf_X5_move_15 (by decide) dX5_move_13 ?_
  refine q_iload_n o dX5_move_16 rfl ?_
  refine q_aload_n o dX5_move_17 rfl ?_
  refine q_getR (q := 7) o sf_X5_move_15 (by decide) dX5_move_18 ?_
  refine q_iload_n o dX5_move_21 rfl ?_
  refine q_iald (m := 191) o rfl rfl (by decide) hn2 hx3 dX5_move_22 ?_
  refine q_iast (m := 191) o rfl rfl (by decide) hn5 hx6 dX5_move_23 (fun v9 e10 => ?_)
  have h := h v9 e10
  refine q_aload_n o dX5_move_24 rfl ?_
  refine q_getR (q := 8) o sf_X5_move_18 (by decide) dX5_move_25 ?_
  refine q_iload_n o dX5_move_28 rfl ?_
  refine q_aload_n o dX5_move_29 rfl ?_
  refine q_getR (q := 8) o sf_X5_move_18 (by decide) dX5_move_30 ?_
  refine q_iload_n o dX5_move_33 rfl ?_
  refine q_iald (m := 191) o rfl rfl (by decide) hn2 hx3 dX5_move_34 ?_
  refine q_iast (m := 191) o rfl rfl (by decide) hn5 hx6 dX5_move_35 (fun v11 e12 => ?_)
  have h := h v11 e12
  refine q_aload_n o dX5_move_36 rfl ?_
  refine q_getR (q := 9) o sf_X5_move_21 (by decide) dX5_move_37 ?_
  refine q_iload_n o dX5_move_40 rfl ?_
  refine q_aload_n o dX5_move_41 rfl ?_
  refine q_getR (q := 9) o sf_X5_move_21 (by decide) dX5_move_42 ?_
  refine q_iload_n o dX5_move_45 rfl ?_
  refine q_iald (m := 191) o rfl rfl (by decide) hn2 hx3 dX5_move_46 ?_
  refine q_iast (m := 191) o rfl rfl (by decide) hn5 hx6 dX5_move_47 (fun v13 e14 => ?_)
  have h := h v13 e14
  refine q_aload_n o dX5_move_48 rfl ?_
  refine q_getR (q := 10) o sf_X5_move_24 (by decide) dX5_move_49 ?_
  refine q_iload_n o dX5_move_52 rfl ?_
  refine q_aload_n o dX5_move_53 rfl ?_
  refine q_getR (q := 10) o sf_X5_move_24 (by decide) dX5_move_54 ?_
  refine q_iload_n o dX5_move_57 rfl ?_
  refine q_iald (m := 191) o rfl rfl (by decide) hn2 hx3 dX5_move_58 ?_
  refine q_iast (m := 191) o rfl rfl (by decide) hn5 hx6 dX5_move_59 (fun v15 e16 => ?_)
  have h := h v15 e16
  refine q_aload_n o dX5_move_60 rfl ?_
  refine q_getR (q := 11) o sf_X5_move_27 (by decide) dX5_move_61 ?_
  refine q_iload_n o dX5_move_64 rfl ?_
  refine q_aload_n o dX5_move_65 rfl ?_
  refine q_getR (q := 11) o sf_X5_move_27 (by decide) dX5_move_66 ?_
  refine q_iload_n o dX5_move_69 rfl ?_
  refine q_iald (m := 191) o rfl rfl (by decide) hn2 hx3 dX5_move_70 ?_
  refine q_iast (m := 191) o rfl rfl (by decide) hn5 hx6 dX5_move_71 (fun v17 e18 => ?_)
  have h := h v17 e18
  exact q_vret o rt dX5_move_72 h
theorem pd_X5_move : (parseMethodDescriptor yX5_move.desc).map (fun d => d.parameters.length) = some 2 := by decide +kernel
-- PieceSwarm$Member.isDone()Z
theorem inn_X3_isDone_X3 : ∀ w ∈ wsX30, w ∈ wsX3_isDone := by decide +kernel
theorem sf_X3_isDone_29 : SF wsX3_isDone RX3 29 14 6 0 := ⟨RX3, TX3, 13, rfl, rfl, rfl, rfl, by decide, inn_X3_isDone_X3, by decide +kernel⟩
def wp_X3_isDone (i0 : Nat) (v : St3) (post : (Int32 → St3 → Prop)) : Prop := (((v 14 i0 6) = (-1 : Int32) → post (0 : Int32) v) ∧ (¬ (v 14 i0 6) = (-1 : Int32) → post (1 : Int32) v))
set_option maxRecDepth 20000 in
set_option maxHeartbeats 4000000 in
theorem ad_X3_isDone (l : Launch) (G : Geo) (i0 : Nat) (hi0 : i0 < 12) (v : St3) {post : (Int32 → St3 → Prop)} (h : wp_X3_isDone i0 v post) : CI l G yX3_isDone wsX3_isDone 0 [.ref (gA G 14 i0)] v post := by
  refine CI.of (ty := .boolean) (cc := cX3_isDone) (maxL := 1) (by decide) rfl (Nat.le_of_ble_eq_true rfl) (fun X o rt => ?_)
  unfold wp_X3_isDone at h
  show J l G X 0 [(0, .ref (gA G 14 i0))] [] v
  refine q_aload_n o dX3_isDone_0 rfl ?_
  refine q_getI o sf_X3_isDone_29 hi0 dX3_isDone_1 ?_
  refine q_iconst o dX3_isDone_4 (x := (-1 : Int32)) (by decide) ?_
  refine q_ic_eq o 12 dX3_isDone_5 (by decide) (fun c1 => ?_) (fun c1 => ?_)
  · have h := h.1 c1
    refine q_iconst o dX3_isDone_12 (x := (0 : Int32)) (by decide) ?_
    exact q_zret o rt dX3_isDone_13 (by decide) h
  · have h := h.2 c1
    refine q_iconst o dX3_isDone_8 (x := (1 : Int32)) (by decide) ?_
    refine q_goto o 13 dX3_isDone_9 (by decide) ?_
    exact q_zret o rt dX3_isDone_13 (by decide) h
theorem pd_X3_isDone : (parseMethodDescriptor yX3_isDone.desc).map (fun d => d.parameters.length) = some 0 := by decide +kernel
-- PieceSwarm$Road.hasRoom()Z
theorem inn_X5_hasRoom_X5 : ∀ w ∈ wsX50, w ∈ wsX5_hasRoom := by decide +kernel
theorem sf_X5_hasRoom_30 : SF wsX5_hasRoom RX5 30 6 6 0 := ⟨RX5, TX5, 7, rfl, rfl, rfl, rfl, by decide, inn_X5_hasRoom_X5, by decide +kernel⟩
def wp_X5_hasRoom (v : St3) (post : (Int32 → St3 → Prop)) : Prop := (((192 : Int32) ≤ (v 6 0 6) → post (0 : Int32) v) ∧ (¬ (192 : Int32) ≤ (v 6 0 6) → post (1 : Int32) v))
set_option maxRecDepth 20000 in
set_option maxHeartbeats 4000000 in
theorem ad_X5_hasRoom (l : Launch) (G : Geo) (v : St3) {post : (Int32 → St3 → Prop)} (h : wp_X5_hasRoom v post) : CI l G yX5_hasRoom wsX5_hasRoom 0 [.ref (gA G 6 0)] v post := by
  refine CI.of (ty := .boolean) (cc := cX5_hasRoom) (maxL := 1) (by decide) rfl (Nat.le_of_ble_eq_true rfl) (fun X o rt => ?_)
  unfold wp_X5_hasRoom at h
  show J l G X 0 [(0, .ref (gA G 6 0))] [] v
  refine q_aload_n o dX5_hasRoom_0 rfl ?_
  refine q_getI o sf_X5_hasRoom_30 (by decide) dX5_hasRoom_1 ?_
  refine q_sipush o dX5_hasRoom_4 (x := (192 : Int32)) (by decide) ?_
  refine q_ic_ge o 14 dX5_hasRoom_7 (by decide) (fun c1 => ?_) (fun c1 => ?_)
  · have h := h.1 c1
    refine q_iconst o dX5_hasRoom_14 (x := (0 : Int32)) (by decide) ?_
    exact q_zret o rt dX5_hasRoom_15 (by decide) h
  · have h := h.2 c1
    refine q_iconst o dX5_hasRoom_10 (x := (1 : Int32)) (by decide) ?_
    refine q_goto o 15 dX5_hasRoom_11 (by decide) ?_
    exact q_zret o rt dX5_hasRoom_15 (by decide) h
theorem pd_X5_hasRoom : (parseMethodDescriptor yX5_hasRoom.desc).map (fun d => d.parameters.length) = some 0 := by decide +kernel
-- PieceSwarm$Store.firstUnasked(II)I
theorem inn_X6_firstUnasked_X6 : ∀ w ∈ wsX60, w ∈ wsX6_firstUnasked := by decide +kernel
theorem sf_X6_firstUnasked_18 : SF wsX6_firstUnasked RX6 18 15 2 19 := ⟨RX6, TX6, 6, rfl, rfl, rfl, rfl, by decide, inn_X6_firstUnasked_X6, by decide +kernel⟩
theorem wini_X6_firstUnasked_X9_place : Cond.initialized yX9_place.cls ∈ wsX6_firstUnasked := by decide +kernel
theorem wsta_X6_firstUnasked_X9_place : Cond.static yX9_place ∈ wsX6_firstUnasked := by decide +kernel
def wB_X6_firstUnasked_2 (post : (Int32 → St3 → Prop)) (K2 : Nat → Int32 → Int32 → Int32 → St3 → Prop) (i0 : Nat) (a1 : Int32) (a2 : Int32) (a3 : Int32) (v : St3) : Prop := ((a2 ≤ a3 → post (-1 : Int32) v) ∧ (¬ a2 ≤ a3 → wp_X6_holds i0 a1 a3 v (fun r2 v1 => ((¬ r2 = 0 → K2 i0 a1 a2 (a3 + (1 : Int32)) v1) ∧ (r2 = 0 → wp_X9_place a1 a3 v1 (fun r4 v3 => ∃ n5, n5 < 96 ∧ r4 = nI n5 ∧ ((¬ (v3 19 i0 n5) = 0 → K2 i0 a1 a2 (a3 + (1 : Int32)) v3) ∧ ((v3 19 i0 n5) = 0 → post a3 v3))))))))
def wL_X6_firstUnasked_2 (post : (Int32 → St3 → Prop)) : Nat → Nat → Int32 → Int32 → Int32 → St3 → Prop
  | 0, _, _, _, _, _ => False
  | f + 1, i0, a1, a2, a3, v => wB_X6_firstUnasked_2 post (wL_X6_firstUnasked_2 post f) i0 a1 a2 a3 v
set_option maxRecDepth 20000 in
set_option maxHeartbeats 4000000 in
theorem aL_X6_firstUnasked_2 {l : Launch} {G : Geo} {X : CT} (o : OK G X cX6_firstUnasked wsX6_firstUnasked RX6 2 4) {post : (Int32 → St3 → Prop)} (rt : RI G X .int post) : ∀ (f : Nat) (i0 : Nat) (a1 : Int32) (a2 : Int32) (a3 : Int32) (hi0 : i0 < 12) (v : St3), wL_X6_firstUnasked_2 post f i0 a1 a2 a3 v → J l G X 2 [(0, .ref (gA G 15 i0)), (1, .int a1), (2, .int a2), (3, .int a3)] [] v := by
  intro f
  induction f with
  | zero => intro _ _ _ _ _ _ h; exact False.elim h
  | succ f hK2 =>
  intro i0 a1 a2 a3 hi0 v h
  have h : wB_X6_firstUnasked_2 post (wL_X6_firstUnasked_2 post f) i0 a1 a2 a3 v := h
  unfold wB_X6_firstUnasked_2 at h
  refine q_iload_n o dX6_firstUnasked_2 rfl ?_
  refine q_iload_n o dX6_firstUnasked_3 rfl ?_
  refine q_ic_ge o 37 dX6_firstUnasked_4 (by decide) (fun c10 => ?_) (fun c10 => ?_)
  · have h := h.1 c10
    refine q_iconst o dX6_firstUnasked_37 (x := (-1 : Int32)) (by decide) ?_
    exact q_iret o rt dX6_firstUnasked_38 h
  · have h := h.2 c10
    refine q_aload_n o dX6_firstUnasked_7 rfl ?_
    refine q_iload_n o dX6_firstUnasked_8 rfl ?_
    refine q_iload_n o dX6_firstUnasked_9 rfl ?_
    refine q_callV o [.int a1, .int a3] (ad_X6_holds l G i0 a1 a3 hi0 v h) gX6_firstUnasked_X6_holds rfl rfl rfl rfl hi0 ⟨rfl, by decide, by decide, pd_X6_holds⟩ (by decide) (by decide) rfl (Nat.le_of_ble_eq_true rfl) dX6_firstUnasked_10 (fun r2 v1 h => ?_)
    refine q_if_ne o 31 dX6_firstUnasked_13 (by decide) (fun c9 => ?_) (fun c9 => ?_)
    · have h := h.1 c9
      refine q_iinc o (y := (a3 + (1 : Int32))) (lv' := [(3, .int (a3 + (1 : Int32))), (0, .ref (gA G 15 i0)), (1, .int a1), (2, .int a2)]) dX6_firstUnasked_31 rfl rfl (by decide) rfl ?_
      refine q_goto o 2 dX6_firstUnasked_34 (by decide) ?_
      refine q_lv [1, 2, 3, 0] rfl ?_
      exact hK2 i0 a1 a2 (a3 + (1 : Int32)) hi0 v1 h
    · have h := h.2 c9
      refine q_aload_n o dX6_firstUnasked_16 rfl ?_
      refine q_getR (q := 18) o sf_X6_firstUnasked_18 hi0 dX6_firstUnasked_17 ?_
      refine q_iload_n o dX6_firstUnasked_20 rfl ?_
      refine q_iload_n o dX6_firstUnasked_21 rfl ?_
      refine q_callN o [.int a1, .int a3] (ad_X9_place l G a1 a3 v1 h) gX6_firstUnasked_X9_place_n30 rfl (by decide +kernel) wini_X6_firstUnasked_X9_place wsta_X6_firstUnasked_X9_place ⟨by decide, by decide, pd_X9_place⟩ (by decide) (by decide) rfl (Nat.le_of_ble_eq_true rfl) dX6_firstUnasked_22 (fun r4 v3 h => ?_)
      obtain ⟨n5, hn6, hx7, h⟩ := h
      refine q_iald (m := 95) o rfl rfl hi0 hn6 hx7 dX6_firstUnasked_25 ?_
      refine q_if_ne o 31 dX6_firstUnasked_26 (by decide) (fun c8 => ?_) (fun c8 => ?_)
      · have h := h.1 c8
        refine q_iinc o (y := (a3 + (1 : Int32))) (lv' := [(3, .int (a3 + (1 : Int32))), (0, .ref (gA G 15 i0)), (1, .int a1), (2, .int a2)]) dX6_firstUnasked_31 rfl rfl (by decide) rfl ?_
        refine q_goto o 2 dX6_firstUnasked_34 (by decide) ?_
        refine q_lv [1, 2, 3, 0] rfl ?_
        exact hK2 i0 a1 a2 (a3 + (1 : Int32)) hi0 v3 h
      · have h := h.2 c8
        refine q_iload_n o dX6_firstUnasked_29 rfl ?_
        exact q_iret o rt dX6_firstUnasked_30 h
def wp_X6_firstUnasked (i0 : Nat) (a1 : Int32) (a2 : Int32) (v : St3) (post : (Int32 → St3 → Prop)) : Prop := wL_X6_firstUnasked_2 post FU i0 a1 a2 (0 : Int32) v
set_option maxRecDepth 20000 in
set_option maxHeartbeats 4000000 in
theorem ad_X6_firstUnasked (l : Launch) (G : Geo) (i0 : Nat) (a1 : Int32) (a2 : Int32) (hi0 : i0 < 12) (v : St3) {post : (Int32 → St3 → Prop)} (h : wp_X6_firstUnasked i0 a1 a2 v post) : CI l G yX6_firstUnasked wsX6_firstUnasked 2 [.ref (gA G 15 i0), .int a1, .int a2] v post := by
  refine CI.of (ty := .int) (cc := cX6_firstUnasked) (maxL := 4) (by decide) rfl (Nat.le_of_ble_eq_true rfl) (fun X o rt => ?_)
  unfold wp_X6_firstUnasked at h
  show J l G X 0 [(0, .ref (gA G 15 i0)), (1, .int a1), (2, .int a2)] [] v
  refine q_iconst o dX6_firstUnasked_0 (x := (0 : Int32)) (by decide) ?_
  refine q_istore_n o (lv' := [(3, .int (0 : Int32)), (0, .ref (gA G 15 i0)), (1, .int a1), (2, .int a2)]) dX6_firstUnasked_1 (by decide) rfl ?_
  refine q_lv [1, 2, 3, 0] rfl ?_
  exact aL_X6_firstUnasked_2 o rt FU i0 a1 a2 (0 : Int32) hi0 v h
theorem pd_X6_firstUnasked : (parseMethodDescriptor yX6_firstUnasked.desc).map (fun d => d.parameters.length) = some 2 := by decide +kernel
-- PieceSwarm$Member.toldPieces()I
theorem inn_X3_toldPieces_X3 : ∀ w ∈ wsX30, w ∈ wsX3_toldPieces := by decide +kernel
theorem sf_X3_toldPieces_32 : SF wsX3_toldPieces RX3 32 14 2 0 := ⟨RX3, TX3, 13, rfl, rfl, rfl, rfl, by decide, inn_X3_toldPieces_X3, by decide +kernel⟩
theorem sf_X3_toldPieces_12 : SF wsX3_toldPieces RX3 12 14 0 15 := ⟨RX3, TX3, 13, rfl, rfl, rfl, rfl, by decide, inn_X3_toldPieces_X3, by decide +kernel⟩
theorem inn_X3_toldPieces_X6 : ∀ w ∈ wsX60, w ∈ wsX3_toldPieces := by decide +kernel
theorem sf_X3_toldPieces_35 : SF wsX3_toldPieces RX3 35 15 3 0 := ⟨RX6, TX6, 6, rfl, rfl, rfl, rfl, by decide, inn_X3_toldPieces_X6, by decide +kernel⟩
theorem kc_X3_toldPieces_38 : Cond.constant RX3 38 (5592405 : Int32) ∈ wsX3_toldPieces := by decide +kernel
def wp_X3_toldPieces (i0 : Nat) (v : St3) (post : (Int32 → St3 → Prop)) : Prop := ((¬ (v 14 i0 2) = (5 : Int32) → post (v 15 i0 3) v) ∧ ((v 14 i0 2) = (5 : Int32) → post ((v 15 i0 3) &&& (5592405 : Int32)) v))
set_option maxRecDepth 20000 in
set_option maxHeartbeats 4000000 in
theorem ad_X3_toldPieces (l : Launch) (G : Geo) (i0 : Nat) (hi0 : i0 < 12) (v : St3) {post : (Int32 → St3 → Prop)} (h : wp_X3_toldPieces i0 v post) : CI l G yX3_toldPieces wsX3_toldPieces 0 [.ref (gA G 14 i0)] v post := by
  refine CI.of (ty := .int) (cc := cX3_toldPieces) (maxL := 1) (by decide) rfl (Nat.le_of_ble_eq_true rfl) (fun X o rt => ?_)
  unfold wp_X3_toldPieces at h
  show J l G X 0 [(0, .ref (gA G 14 i0))] [] v
  refine q_aload_n o dX3_toldPieces_0 rfl ?_
  refine q_getI o sf_X3_toldPieces_32 hi0 dX3_toldPieces_1 ?_
  refine q_iconst o dX3_toldPieces_4 (x := (5 : Int32)) (by decide) ?_
  refine q_ic_ne o 21 dX3_toldPieces_5 (by decide) (fun c1 => ?_) (fun c1 => ?_)
  · have h := h.1 c1
    refine q_aload_n o dX3_toldPieces_21 rfl ?_
    refine q_getR (q := 14) o sf_X3_toldPieces_12 hi0 dX3_toldPieces_22 ?_
    refine q_getI o sf_X3_toldPieces_35 hi0 dX3_toldPieces_25 ?_
    exact q_iret o rt dX3_toldPieces_28 h
  · have h := h.2 c1
    refine q_aload_n o dX3_toldPieces_8 rfl ?_
    refine q_getR (q := 14) o sf_X3_toldPieces_12 hi0 dX3_toldPieces_9 ?_
    refine q_getI o sf_X3_toldPieces_35 hi0 dX3_toldPieces_12 ?_
    refine q_ldc o kc_X3_toldPieces_38 dX3_toldPieces_15 ?_
    refine q_iand o dX3_toldPieces_17 ?_
    refine q_goto o 28 dX3_toldPieces_18 (by decide) ?_
    exact q_iret o rt dX3_toldPieces_28 h
theorem pd_X3_toldPieces : (parseMethodDescriptor yX3_toldPieces.desc).map (fun d => d.parameters.length) = some 0 := by decide +kernel
-- PieceSwarm$Store.firstGiver(I)I
theorem inn_X6_firstGiver_X6 : ∀ w ∈ wsX60, w ∈ wsX6_firstGiver := by decide +kernel
theorem sf_X6_firstGiver_9 : SF wsX6_firstGiver RX6 9 15 0 17 := ⟨RX6, TX6, 6, rfl, rfl, rfl, rfl, by decide, inn_X6_firstGiver_X6, by decide +kernel⟩
theorem wini_X6_firstGiver_X9_place : Cond.initialized yX9_place.cls ∈ wsX6_firstGiver := by decide +kernel
theorem wsta_X6_firstGiver_X9_place : Cond.static yX9_place ∈ wsX6_firstGiver := by decide +kernel
def wB_X6_firstGiver_2 (post : (Int32 → St3 → Prop)) (K2 : Nat → Int32 → Int32 → St3 → Prop) (i0 : Nat) (a1 : Int32) (a2 : Int32) (v : St3) : Prop := (((4 : Int32) ≤ a2 → post (-1 : Int32) v) ∧ (¬ (4 : Int32) ≤ a2 → wp_X9_place a1 a2 v (fun r2 v1 => ∃ n3, n3 < 96 ∧ r2 = nI n3 ∧ (((v1 17 i0 n3) = (-1 : Int32) → K2 i0 a1 (a2 + (1 : Int32)) v1) ∧ (¬ (v1 17 i0 n3) = (-1 : Int32) → post (v1 17 i0 n3) v1)))))
def wL_X6_firstGiver_2 (post : (Int32 → St3 → Prop)) : Nat → Nat → Int32 → Int32 → St3 → Prop
  | 0, _, _, _, _ => False
  | f + 1, i0, a1, a2, v => wB_X6_firstGiver_2 post (wL_X6_firstGiver_2 post f) i0 a1 a2 v
set_option maxRecDepth 20000 in
set_option maxHeartbeats 4000000 in
theorem aL_X6_firstGiver_2 {l : Launch} {G : Geo} {X : CT} (o : OK G X cX6_firstGiver wsX6_firstGiver RX6 1 4) {post : (Int32 → St3 → Prop)} (rt : RI G X .int post) : ∀ (f : Nat) (i0 : Nat) (a1 : Int32) (a2 : Int32) (hi0 : i0 < 12) (v : St3), wL_X6_firstGiver_2 post f i0 a1 a2 v → J l G X 2 [(0, .ref (gA G 15 i0)), (1, .int a1), (2, .int a2)] [] v := by
  intro f
  induction f with
  | zero => intro _ _ _ _ _ h; exact False.elim h
  | succ f hK2 =>
  intro i0 a1 a2 hi0 v h
  have h : wB_X6_firstGiver_2 post (wL_X6_firstGiver_2 post f) i0 a1 a2 v := h
  unfold wB_X6_firstGiver_2 at h
  refine q_iload_n o dX6_firstGiver_2 rfl ?_
  refine q_iconst o dX6_firstGiver_3 (x := (4 : Int32)) (by decide) ?_
  refine q_ic_ge o 31 dX6_firstGiver_4 (by decide) (fun c7 => ?_) (fun c7 => ?_)
  · have h := h.1 c7
    refine q_iconst o dX6_firstGiver_31 (x := (-1 : Int32)) (by decide) ?_
    exact q_iret o rt dX6_firstGiver_32 h
  · have h := h.2 c7
    refine q_aload_n o dX6_firstGiver_7 rfl ?_
    refine q_getR (q := 16) o sf_X6_firstGiver_9 hi0 dX6_firstGiver_8 ?_
    refine q_iload_n o dX6_firstGiver_11 rfl ?_
    refine q_iload_n o dX6_firstGiver_12 rfl ?_
    refine q_callN o [.int a1, .int a2] (ad_X9_place l G a1 a2 v h) gX6_firstGiver_X9_place_n30 rfl (by decide +kernel) wini_X6_firstGiver_X9_place wsta_X6_firstGiver_X9_place ⟨by decide, by decide, pd_X9_place⟩ (by decide) (by decide) rfl (Nat.le_of_ble_eq_true rfl) dX6_firstGiver_13 (fun r2 v1 h => ?_)
    obtain ⟨n3, hn4, hx5, h⟩ := h
    refine q_iald (m := 95) o rfl rfl hi0 hn4 hx5 dX6_firstGiver_16 ?_
    refine q_istore_n o (lv' := [(3, .int (v1 17 i0 n3)), (0, .ref (gA G 15 i0)), (1, .int a1), (2, .int a2)]) dX6_firstGiver_17 (by decide) rfl ?_
    refine q_iload_n o dX6_firstGiver_18 rfl ?_
    refine q_iconst o dX6_firstGiver_19 (x := (-1 : Int32)) (by decide) ?_
    refine q_ic_eq o 25 dX6_firstGiver_20 (by decide) (fun c6 => ?_) (fun c6 => ?_)
    · have h := h.1 c6
      refine q_iinc o (y := (a2 + (1 : Int32))) (lv' := [(2, .int (a2 + (1 : Int32))), (3, .int (v1 17 i0 n3)), (0, .ref (gA G 15 i0)), (1, .int a1)]) dX6_firstGiver_25 rfl rfl (by decide) rfl ?_
      refine q_goto o 2 dX6_firstGiver_28 (by decide) ?_
      refine q_lv [2, 3, 0] rfl ?_
      exact hK2 i0 a1 (a2 + (1 : Int32)) hi0 v1 h
    · have h := h.2 c6
      refine q_iload_n o dX6_firstGiver_23 rfl ?_
      exact q_iret o rt dX6_firstGiver_24 h
def wp_X6_firstGiver (i0 : Nat) (a1 : Int32) (v : St3) (post : (Int32 → St3 → Prop)) : Prop := wL_X6_firstGiver_2 post FU i0 a1 (0 : Int32) v
set_option maxRecDepth 20000 in
set_option maxHeartbeats 4000000 in
theorem ad_X6_firstGiver (l : Launch) (G : Geo) (i0 : Nat) (a1 : Int32) (hi0 : i0 < 12) (v : St3) {post : (Int32 → St3 → Prop)} (h : wp_X6_firstGiver i0 a1 v post) : CI l G yX6_firstGiver wsX6_firstGiver 1 [.ref (gA G 15 i0), .int a1] v post := by
  refine CI.of (ty := .int) (cc := cX6_firstGiver) (maxL := 4) (by decide) rfl (Nat.le_of_ble_eq_true rfl) (fun X o rt => ?_)
  unfold wp_X6_firstGiver at h
  show J l G X 0 [(0, .ref (gA G 15 i0)), (1, .int a1)] [] v
  refine q_iconst o dX6_firstGiver_0 (x := (0 : Int32)) (by decide) ?_
  refine q_istore_n o (lv' := [(2, .int (0 : Int32)), (0, .ref (gA G 15 i0)), (1, .int a1)]) dX6_firstGiver_1 (by decide) rfl ?_
  refine q_lv [1, 2, 0] rfl ?_
  exact aL_X6_firstGiver_2 o rt FU i0 a1 (0 : Int32) hi0 v h
theorem pd_X6_firstGiver : (parseMethodDescriptor yX6_firstGiver.desc).map (fun d => d.parameters.length) = some 1 := by decide +kernel
-- PieceSwarm$Road.firstGiver(II)I
theorem inn_X5_firstGiver_X5 : ∀ w ∈ wsX50, w ∈ wsX5_firstGiver := by decide +kernel
theorem sf_X5_firstGiver_30 : SF wsX5_firstGiver RX5 30 6 6 0 := ⟨RX5, TX5, 7, rfl, rfl, rfl, rfl, by decide, inn_X5_firstGiver_X5, by decide +kernel⟩
theorem sf_X5_firstGiver_15 : SF wsX5_firstGiver RX5 15 6 1 8 := ⟨RX5, TX5, 7, rfl, rfl, rfl, rfl, by decide, inn_X5_firstGiver_X5, by decide +kernel⟩
theorem sf_X5_firstGiver_18 : SF wsX5_firstGiver RX5 18 6 2 9 := ⟨RX5, TX5, 7, rfl, rfl, rfl, rfl, by decide, inn_X5_firstGiver_X5, by decide +kernel⟩
theorem sf_X5_firstGiver_11 : SF wsX5_firstGiver RX5 11 6 0 7 := ⟨RX5, TX5, 7, rfl, rfl, rfl, rfl, by decide, inn_X5_firstGiver_X5, by decide +kernel⟩
def wB_X5_firstGiver_2 (post : (Int32 → St3 → Prop)) (K2 : Int32 → Int32 → Int32 → St3 → Prop) (a1 : Int32) (a2 : Int32) (a3 : Int32) (v : St3) : Prop := (((v 6 0 6) ≤ a3 → post (-1 : Int32) v) ∧ (¬ (v 6 0 6) ≤ a3 → ∃ n1, n1 < 192 ∧ a3 = nI n1 ∧ ((¬ (v 8 0 n1) = a1 → K2 a1 a2 (a3 + (1 : Int32)) v) ∧ ((v 8 0 n1) = a1 → ((¬ (v 9 0 n1) = a2 → K2 a1 a2 (a3 + (1 : Int32)) v) ∧ ((v 9 0 n1) = a2 → post (v 7 0 n1) v))))))
def wL_X5_firstGiver_2 (post : (Int32 → St3 → Prop)) : Nat → Int32 → Int32 → Int32 → St3 → Prop
  | 0, _, _, _, _ => False
  | f + 1, a1, a2, a3, v => wB_X5_firstGiver_2 post (wL_X5_firstGiver_2 post f) a1 a2 a3 v
set_option maxRecDepth 20000 in
set_option maxHeartbeats 4000000 in
theorem aL_X5_firstGiver_2 {l : Launch} {G : Geo} {X : CT} (o : OK G X cX5_firstGiver wsX5_firstGiver RX5 0 4) {post : (Int32 → St3 → Prop)} (rt : RI G X .int post) : ∀ (f : Nat) (a1 : Int32) (a2 : Int32) (a3 : Int32) (v : St3), wL_X5_firstGiver_2 post f a1 a2 a3 v → J l G X 2 [(0, .ref (gA G 6 0)), (1, .int a1), (2, .int a2), (3, .int a3)] [] v := by
  intro f
  induction f with
  | zero => intro _ _ _ _ h; exact False.elim h
  | succ f hK2 =>
  intro a1 a2 a3 v h
  have h : wB_X5_firstGiver_2 post (wL_X5_firstGiver_2 post f) a1 a2 a3 v := h
  unfold wB_X5_firstGiver_2 at h
  refine q_iload_n o dX5_firstGiver_2 rfl ?_
  refine q_aload_n o dX5_firstGiver_3 rfl ?_
  refine q_getI o sf_X5_firstGiver_30 (by decide) dX5_firstGiver_4 ?_
  refine q_ic_ge o 43 dX5_firstGiver_7 (by decide) (fun c6 => ?_) (fun c6 => ?_)
  · have h := h.1 c6
    refine q_iconst o dX5_firstGiver_43 (x := (-1 : Int32)) (by decide) ?_
    exact q_iret o rt dX5_firstGiver_44 h
  · have h := h.2 c6
    refine q_aload_n o dX5_firstGiver_10 rfl ?_
    refine q_getR (q := 7) o sf_X5_firstGiver_15 (by decide) dX5_firstGiver_11 ?_
    refine q_iload_n o dX5_firstGiver_14 rfl ?_
    obtain ⟨n1, hn2, hx3, h⟩ := h
    refine q_iald (m := 191) o rfl rfl (by decide) hn2 hx3 dX5_firstGiver_15 ?_
    refine q_iload_n o dX5_firstGiver_16 rfl ?_
    refine q_ic_ne o 37 dX5_firstGiver_17 (by decide) (fun c5 => ?_) (fun c5 => ?_)
    · have h := h.1 c5
      refine q_iinc o (y := (a3 + (1 : Int32))) (lv' := [(3, .int (a3 + (1 : Int32))), (0, .ref (gA G 6 0)), (1, .int a1), (2, .int a2)]) dX5_firstGiver_37 rfl rfl (by decide) rfl ?_
      refine q_goto o 2 dX5_firstGiver_40 (by decide) ?_
      refine q_lv [1, 2, 3, 0] rfl ?_
      exact hK2 a1 a2 (a3 + (1 : Int32)) v h
    · have h := h.2 c5
      refine q_aload_n o dX5_firstGiver_20 rfl ?_
      refine q_getR (q := 8) o sf_X5_firstGiver_18 (by decide) dX5_firstGiver_21 ?_
      refine q_iload_n o dX5_firstGiver_24 rfl ?_
      refine q_iald (m := 191) o rfl rfl (by decide) hn2 hx3 dX5_firstGiver_25 ?_
      refine q_iload_n o dX5_firstGiver_26 rfl ?_
      refine q_ic_ne o 37 dX5_firstGiver_27 (by decide) (fun c4 => ?_) (fun c4 => ?_)
      · have h := h.1 c4
        refine q_iinc o (y := (a3 + (1 : Int32))) (lv' := [(3, .int (a3 + (1 : Int32))), (0, .ref (gA G 6 0)), (1, .int a1), (2, .int a2)]) dX5_firstGiver_37 rfl rfl (by decide) rfl ?_
        refine q_goto o 2 dX5_firstGiver_40 (by decide) ?_
        refine q_lv [1, 2, 3, 0] rfl ?_
        exact hK2 a1 a2 (a3 + (1 : Int32)) v h
      · have h := h.2 c4
        refine q_aload_n o dX5_firstGiver_30 rfl ?_
        refine q_getR (q := 6) o sf_X5_firstGiver_11 (by decide) dX5_firstGiver_31 ?_
        refine q_iload_n o dX5_firstGiver_34 rfl ?_
        refine q_iald (m := 191) o rfl rfl (by decide) hn2 hx3 dX5_firstGiver_35 ?_
        exact q_iret o rt dX5_firstGiver_36 h
def wp_X5_firstGiver (a1 : Int32) (a2 : Int32) (v : St3) (post : (Int32 → St3 → Prop)) : Prop := wL_X5_firstGiver_2 post FU a1 a2 (0 : Int32) v
set_option maxRecDepth 20000 in
set_option maxHeartbeats 4000000 in
theorem ad_X5_firstGiver (l : Launch) (G : Geo) (a1 : Int32) (a2 : Int32) (v : St3) {post : (Int32 → St3 → Prop)} (h : wp_X5_firstGiver a1 a2 v post) : CI l G yX5_firstGiver wsX5_firstGiver 0 [.ref (gA G 6 0), .int a1, .int a2] v post := by
  refine CI.of (ty := .int) (cc := cX5_firstGiver) (maxL := 4) (by decide) rfl (Nat.le_of_ble_eq_true rfl) (fun X o rt => ?_)
  unfold wp_X5_firstGiver at h
  show J l G X 0 [(0, .ref (gA G 6 0)), (1, .int a1), (2, .int a2)] [] v
  refine q_iconst o dX5_firstGiver_0 (x := (0 : Int32)) (by decide) ?_
  refine q_istore_n o (lv' := [(3, .int (0 : Int32)), (0, .ref (gA G 6 0)), (1, .int a1), (2, .int a2)]) dX5_firstGiver_1 (by decide) rfl ?_
  refine q_lv [1, 2, 3, 0] rfl ?_
  exact aL_X5_firstGiver_2 o rt FU a1 a2 (0 : Int32) v h
theorem pd_X5_firstGiver : (parseMethodDescriptor yX5_firstGiver.desc).map (fun d => d.parameters.length) = some 2 := by decide +kernel
-- java/lang/Integer.bitCount(I)I
theorem kc_J6_bitCount_0f7a4_265 : Cond.constant RJ6 265 (1431655765 : Int32) ∈ wsJ6_bitCount_0f7a4 := by decide +kernel
theorem kc_J6_bitCount_0f7a4_266 : Cond.constant RJ6 266 (858993459 : Int32) ∈ wsJ6_bitCount_0f7a4 := by decide +kernel
theorem kc_J6_bitCount_0f7a4_267 : Cond.constant RJ6 267 (252645135 : Int32) ∈ wsJ6_bitCount_0f7a4 := by decide +kernel
def wp_J6_bitCount_0f7a4 (a0 : Int32) (v : St3) (post : (Int32 → St3 → Prop)) : Prop := ∀ x1 : Int32, x1 = (((a0 - ((ushr a0 (1 : Int32)) &&& (1431655765 : Int32))) &&& (858993459 : Int32)) + ((ushr (a0 - ((ushr a0 (1 : Int32)) &&& (1431655765 : Int32))) (2 : Int32)) &&& (858993459 : Int32))) → ∀ x3 : Int32, x3 = (((x1 + (ushr x1 (4 : Int32))) &&& (252645135 : Int32)) + (ushr ((x1 + (ushr x1 (4 : Int32))) &&& (252645135 : Int32)) (8 : Int32))) → post ((x3 + (ushr x3 (16 : Int32))) &&& (63 : Int32)) v
set_option maxRecDepth 20000 in
set_option maxHeartbeats 4000000 in
theorem ad_J6_bitCount_0f7a4 (l : Launch) (G : Geo) (a0 : Int32) (v : St3) {post : (Int32 → St3 → Prop)} (h : wp_J6_bitCount_0f7a4 a0 v post) : CI l G yJ6_bitCount_0f7a4 wsJ6_bitCount_0f7a4 0 [.int a0] v post := by
  refine CI.of (ty := .int) (cc := cJ6_bitCount_0f7a4) (maxL := 1) (by decide) rfl (Nat.le_of_ble_eq_true rfl) (fun X o rt => ?_)
  unfold wp_J6_bitCount_0f7a4 at h
  show J l G X 0 [(0, .int a0)] [] v
  refine q_iload_n o dJ6_bitCount_0f7a4_0 rfl ?_
  refine q_iload_n o dJ6_bitCount_0f7a4_1 rfl ?_
  refine q_iconst o dJ6_bitCount_0f7a4_2 (x := (1 : Int32)) (by decide) ?_
  refine q_iushr o dJ6_bitCount_0f7a4_3 ?_
  refine q_ldcw o kc_J6_bitCount_0f7a4_265 dJ6_bitCount_0f7a4_4 ?_
  refine q_iand o dJ6_bitCount_0f7a4_7 ?_
  refine q_isub o dJ6_bitCount_0f7a4_8 ?_
  refine q_istore_n o (lv' := [(0, .int (a0 - ((ushr a0 (1 : Int32)) &&& (1431655765 : Int32))))]) dJ6_bitCount_0f7a4_9 (by decide) rfl ?_
  refine q_iload_n o dJ6_bitCount_0f7a4_10 rfl ?_
  refine q_ldcw o kc_J6_bitCount_0f7a4_266 dJ6_bitCount_0f7a4_11 ?_
  refine q_iand o dJ6_bitCount_0f7a4_14 ?_
  refine q_iload_n o dJ6_bitCount_0f7a4_15 rfl ?_
  refine q_iconst o dJ6_bitCount_0f7a4_16 (x := (2 : Int32)) (by decide) ?_
  refine q_iushr o dJ6_bitCount_0f7a4_17 ?_
  refine q_ldcw o kc_J6_bitCount_0f7a4_266 dJ6_bitCount_0f7a4_18 ?_
  refine q_iand o dJ6_bitCount_0f7a4_21 ?_
  refine q_iadd o dJ6_bitCount_0f7a4_22 ?_
  refine q_top (fun x1 e2 => ?_)
  have h := h x1 e2
  refine q_istore_n o (lv' := [(0, .int x1)]) dJ6_bitCount_0f7a4_23 (by decide) rfl ?_
  refine q_iload_n o dJ6_bitCount_0f7a4_24 rfl ?_
  refine q_iload_n o dJ6_bitCount_0f7a4_25 rfl ?_
  refine q_iconst o dJ6_bitCount_0f7a4_26 (x := (4 : Int32)) (by decide) ?_
  refine q_iushr o dJ6_bitCount_0f7a4_27 ?_
  refine q_iadd o dJ6_bitCount_0f7a4_28 ?_
  refine q_ldcw o kc_J6_bitCount_0f7a4_267 dJ6_bitCount_0f7a4_29 ?_
  refine q_iand o dJ6_bitCount_0f7a4_32 ?_
  refine q_istore_n o (lv' := [(0, .int ((x1 + (ushr x1 (4 : Int32))) &&& (252645135 : Int32)))]) dJ6_bitCount_0f7a4_33 (by decide) rfl ?_
  refine q_iload_n o dJ6_bitCount_0f7a4_34 rfl ?_
  refine q_iload_n o dJ6_bitCount_0f7a4_35 rfl ?_
  refine q_bipush o dJ6_bitCount_0f7a4_36 (x := (8 : Int32)) (by decide) ?_
  refine q_iushr o dJ6_bitCount_0f7a4_38 ?_
  refine q_iadd o dJ6_bitCount_0f7a4_39 ?_
  refine q_top (fun x3 e4 => ?_)
  have h := h x3 e4
  refine q_istore_n o (lv' := [(0, .int x3)]) dJ6_bitCount_0f7a4_40 (by decide) rfl ?_
  refine q_iload_n o dJ6_bitCount_0f7a4_41 rfl ?_
  refine q_iload_n o dJ6_bitCount_0f7a4_42 rfl ?_
  refine q_bipush o dJ6_bitCount_0f7a4_43 (x := (16 : Int32)) (by decide) ?_
  refine q_iushr o dJ6_bitCount_0f7a4_45 ?_
  refine q_iadd o dJ6_bitCount_0f7a4_46 ?_
  refine q_istore_n o (lv' := [(0, .int (x3 + (ushr x3 (16 : Int32))))]) dJ6_bitCount_0f7a4_47 (by decide) rfl ?_
  refine q_iload_n o dJ6_bitCount_0f7a4_48 rfl ?_
  refine q_bipush o dJ6_bitCount_0f7a4_49 (x := (63 : Int32)) (by decide) ?_
  refine q_iand o dJ6_bitCount_0f7a4_51 ?_
  exact q_iret o rt dJ6_bitCount_0f7a4_52 h
theorem pd_J6_bitCount_0f7a4 : (parseMethodDescriptor yJ6_bitCount_0f7a4.desc).map (fun d => d.parameters.length) = some 1 := by decide +kernel
-- PieceSwarm$Store.isBegun(I)Z
theorem inn_X6_isBegun_X6 : ∀ w ∈ wsX60, w ∈ wsX6_isBegun := by decide +kernel
theorem sf_X6_isBegun_18 : SF wsX6_isBegun RX6 18 15 2 19 := ⟨RX6, TX6, 6, rfl, rfl, rfl, rfl, by decide, inn_X6_isBegun_X6, by decide +kernel⟩
theorem wini_X6_isBegun_X9_place : Cond.initialized yX9_place.cls ∈ wsX6_isBegun := by decide +kernel
theorem wsta_X6_isBegun_X9_place : Cond.static yX9_place ∈ wsX6_isBegun := by decide +kernel
def wB_X6_isBegun_2 (post : (Int32 → St3 → Prop)) (K2 : Nat → Int32 → Int32 → St3 → Prop) (i0 : Nat) (a1 : Int32) (a2 : Int32) (v : St3) : Prop := (((4 : Int32) ≤ a2 → post (0 : Int32) v) ∧ (¬ (4 : Int32) ≤ a2 → wp_X6_holds i0 a1 a2 v (fun r2 v1 => ((¬ r2 = 0 → post (1 : Int32) v1) ∧ (r2 = 0 → wp_X9_place a1 a2 v1 (fun r4 v3 => ∃ n5, n5 < 96 ∧ r4 = nI n5 ∧ (((v3 19 i0 n5) ≤ 0 → K2 i0 a1 (a2 + (1 : Int32)) v3) ∧ (¬ (v3 19 i0 n5) ≤ 0 → post (1 : Int32) v3))))))))
def wL_X6_isBegun_2 (post : (Int32 → St3 → Prop)) : Nat → Nat → Int32 → Int32 → St3 → Prop
  | 0, _, _, _, _ => False
  | f + 1, i0, a1, a2, v => wB_X6_isBegun_2 post (wL_X6_isBegun_2 post f) i0 a1 a2 v
set_option maxRecDepth 20000 in
set_option maxHeartbeats 4000000 in
theorem aL_X6_isBegun_2 {l : Launch} {G : Geo} {X : CT} (o : OK G X cX6_isBegun wsX6_isBegun RX6 2 3) {post : (Int32 → St3 → Prop)} (rt : RI G X .boolean post) : ∀ (f : Nat) (i0 : Nat) (a1 : Int32) (a2 : Int32) (hi0 : i0 < 12) (v : St3), wL_X6_isBegun_2 post f i0 a1 a2 v → J l G X 2 [(0, .ref (gA G 15 i0)), (1, .int a1), (2, .int a2)] [] v := by
  intro f
  induction f with
  | zero => intro _ _ _ _ _ h; exact False.elim h
  | succ f hK2 =>
  intro i0 a1 a2 hi0 v h
  have h : wB_X6_isBegun_2 post (wL_X6_isBegun_2 post f) i0 a1 a2 v := h
  unfold wB_X6_isBegun_2 at h
  refine q_iload_n o dX6_isBegun_2 rfl ?_
  refine q_iconst o dX6_isBegun_3 (x := (4 : Int32)) (by decide) ?_
  refine q_ic_ge o 37 dX6_isBegun_4 (by decide) (fun c10 => ?_) (fun c10 => ?_)
  · have h := h.1 c10
    refine q_iconst o dX6_isBegun_37 (x := (0 : Int32)) (by decide) ?_
    exact q_zret o rt dX6_isBegun_38 (by decide) h
  · have h := h.2 c10
    refine q_aload_n o dX6_isBegun_7 rfl ?_
    refine q_iload_n o dX6_isBegun_8 rfl ?_
    refine q_iload_n o dX6_isBegun_9 rfl ?_
    refine q_callV o [.int a1, .int a2] (ad_X6_holds l G i0 a1 a2 hi0 v h) gX6_isBegun_X6_holds rfl rfl rfl rfl hi0 ⟨rfl, by decide, by decide, pd_X6_holds⟩ (by decide) (by decide) rfl (Nat.le_of_ble_eq_true rfl) dX6_isBegun_10 (fun r2 v1 h => ?_)
    refine q_if_ne o 29 dX6_isBegun_13 (by decide) (fun c9 => ?_) (fun c9 => ?_)
    · have h := h.1 c9
      refine q_iconst o dX6_isBegun_29 (x := (1 : Int32)) (by decide) ?_
      exact q_zret o rt dX6_isBegun_30 (by decide) h
    · have h := h.2 c9
      refine q_aload_n o dX6_isBegun_16 rfl ?_
      refine q_getR (q := 18) o sf_X6_isBegun_18 hi0 dX6_isBegun_17 ?_
      refine q_iload_n o dX6_isBegun_20 rfl ?_
      refine q_iload_n o dX6_isBegun_21 rfl ?_
      refine q_callN o [.int a1, .int a2] (ad_X9_place l G a1 a2 v1 h) gX6_isBegun_X9_place_n30 rfl (by decide +kernel) wini_X6_isBegun_X9_place wsta_X6_isBegun_X9_place ⟨by decide, by decide, pd_X9_place⟩ (by decide) (by decide) rfl (Nat.le_of_ble_eq_true rfl) dX6_isBegun_22 (fun r4 v3 h => ?_)
      obtain ⟨n5, hn6, hx7, h⟩ := h
      refine q_iald (m := 95) o rfl rfl hi0 hn6 hx7 dX6_isBegun_25 ?_
      refine q_if_le o 31 dX6_isBegun_26 (by decide) (fun c8 => ?_) (fun c8 => ?_)
      · have h := h.1 c8
        refine q_iinc o (y := (a2 + (1 : Int32))) (lv' := [(2, .int (a2 + (1 : Int32))), (0, .ref (gA G 15 i0)), (1, .int a1)]) dX6_isBegun_31 rfl rfl (by decide) rfl ?_
        refine q_goto o 2 dX6_isBegun_34 (by decide) ?_
        refine q_lv [1, 2, 0] rfl ?_
        exact hK2 i0 a1 (a2 + (1 : Int32)) hi0 v3 h
      · have h := h.2 c8
        refine q_iconst o dX6_isBegun_29 (x := (1 : Int32)) (by decide) ?_
        exact q_zret o rt dX6_isBegun_30 (by decide) h
def wp_X6_isBegun (i0 : Nat) (a1 : Int32) (v : St3) (post : (Int32 → St3 → Prop)) : Prop := wL_X6_isBegun_2 post FU i0 a1 (0 : Int32) v
set_option maxRecDepth 20000 in
set_option maxHeartbeats 4000000 in
theorem ad_X6_isBegun (l : Launch) (G : Geo) (i0 : Nat) (a1 : Int32) (hi0 : i0 < 12) (v : St3) {post : (Int32 → St3 → Prop)} (h : wp_X6_isBegun i0 a1 v post) : CI l G yX6_isBegun wsX6_isBegun 2 [.ref (gA G 15 i0), .int a1] v post := by
  refine CI.of (ty := .boolean) (cc := cX6_isBegun) (maxL := 3) (by decide) rfl (Nat.le_of_ble_eq_true rfl) (fun X o rt => ?_)
  unfold wp_X6_isBegun at h
  show J l G X 0 [(0, .ref (gA G 15 i0)), (1, .int a1)] [] v
  refine q_iconst o dX6_isBegun_0 (x := (0 : Int32)) (by decide) ?_
  refine q_istore_n o (lv' := [(2, .int (0 : Int32)), (0, .ref (gA G 15 i0)), (1, .int a1)]) dX6_isBegun_1 (by decide) rfl ?_
  refine q_lv [1, 2, 0] rfl ?_
  exact aL_X6_isBegun_2 o rt FU i0 a1 (0 : Int32) hi0 v h
theorem pd_X6_isBegun : (parseMethodDescriptor yX6_isBegun.desc).map (fun d => d.parameters.length) = some 1 := by decide +kernel
-- PieceSwarm$Road.firstGiverOf(III)I
theorem inn_X5_firstGiverOf_X5 : ∀ w ∈ wsX50, w ∈ wsX5_firstGiverOf := by decide +kernel
theorem sf_X5_firstGiverOf_30 : SF wsX5_firstGiverOf RX5 30 6 6 0 := ⟨RX5, TX5, 7, rfl, rfl, rfl, rfl, by decide, inn_X5_firstGiverOf_X5, by decide +kernel⟩
theorem sf_X5_firstGiverOf_15 : SF wsX5_firstGiverOf RX5 15 6 1 8 := ⟨RX5, TX5, 7, rfl, rfl, rfl, rfl, by decide, inn_X5_firstGiverOf_X5, by decide +kernel⟩
theorem sf_X5_firstGiverOf_18 : SF wsX5_firstGiverOf RX5 18 6 2 9 := ⟨RX5, TX5, 7, rfl, rfl, rfl, rfl, by decide, inn_X5_firstGiverOf_X5, by decide +kernel⟩
theorem sf_X5_firstGiverOf_21 : SF wsX5_firstGiverOf RX5 21 6 3 10 := ⟨RX5, TX5, 7, rfl, rfl, rfl, rfl, by decide, inn_X5_firstGiverOf_X5, by decide +kernel⟩
theorem sf_X5_firstGiverOf_11 : SF wsX5_firstGiverOf RX5 11 6 0 7 := ⟨RX5, TX5, 7, rfl, rfl, rfl, rfl, by decide, inn_X5_firstGiverOf_X5, by decide +kernel⟩
def wB_X5_firstGiverOf_3 (post : (Int32 → St3 → Prop)) (K3 : Int32 → Int32 → Int32 → Int32 → St3 → Prop) (a1 : Int32) (a2 : Int32) (a3 : Int32) (a4 : Int32) (v : St3) : Prop := (((v 6 0 6) ≤ a4 → post (-1 : Int32) v) ∧ (¬ (v 6 0 6) ≤ a4 → ∃ n1, n1 < 192 ∧ a4 = nI n1 ∧ ((¬ (v 8 0 n1) = a1 → K3 a1 a2 a3 (a4 + (1 : Int32)) v) ∧ ((v 8 0 n1) = a1 → ((¬ (v 9 0 n1) = a2 → K3 a1 a2 a3 (a4 + (1 : Int32)) v) ∧ ((v 9 0 n1) = a2 → ((¬ (v 10 0 n1) = a3 → K3 a1 a2 a3 (a4 + (1 : Int32)) v) ∧ ((v 10 0 n1) = a3 → post (v 7 0 n1) v))))))))
def wL_X5_firstGiverOf_3 (post : (Int32 → St3 → Prop)) : Nat → Int32 → Int32 → Int32 → Int32 → St3 → Prop
  | 0, _, _, _, _, _ => False
  | f + 1, a1, a2, a3, a4, v => wB_X5_firstGiverOf_3 post (wL_X5_firstGiverOf_3 post f) a1 a2 a3 a4 v
set_option maxRecDepth 20000 in
set_option maxHeartbeats 4000000 in
theorem aL_X5_firstGiverOf_3 {l : Launch} {G : Geo} {X : CT} (o : OK G X cX5_firstGiverOf wsX5_firstGiverOf RX5 0 5) {post : (Int32 → St3 → Prop)} (rt : RI G X .int post) : ∀ (f : Nat) (a1 : Int32) (a2 : Int32) (a3 : Int32) (a4 : Int32) (v : St3), wL_X5_firstGiverOf_3 post f a1 a2 a3 a4 v → J l G X 3 [(0, .ref (gA G 6 0)), (1, .int a1), (2, .int a2), (3, .int a3), (4, .int a4)] [] v := by
  intro f
  induction f with
  | zero => intro _ _ _ _ _ h; exact False.elim h
  | succ f hK3 =>
  intro a1 a2 a3 a4 v h
  have h : wB_X5_firstGiverOf_3 post (wL_X5_firstGiverOf_3 post f) a1 a2 a3 a4 v := h
  unfold wB_X5_firstGiverOf_3 at h
  refine q_iload o dX5_firstGiverOf_3 rfl ?_
  refine q_aload_n o dX5_firstGiverOf_5 rfl ?_
  refine q_getI o sf_X5_firstGiverOf_30 (by decide) dX5_firstGiverOf_6 ?_
  refine q_ic_ge o 59 dX5_firstGiverOf_9 (by decide) (fun c7 => ?_) (fun c7 => ?_)
  · have h := h.1 c7
    refine q_iconst o dX5_firstGiverOf_59 (x := (-1 : Int32)) (by decide) ?_
    exact q_iret o rt dX5_firstGiverOf_60 h
  · have h := h.2 c7
    refine q_aload_n o dX5_firstGiverOf_12 rfl ?_
    refine q_getR (q := 7) o sf_X5_firstGiverOf_15 (by decide) dX5_firstGiverOf_13 ?_
    refine q_iload o dX5_firstGiverOf_16 rfl ?_
    obtain ⟨n1, hn2, hx3, h⟩ := h
    refine q_iald (m := 191) o rfl rfl (by decide) hn2 hx3 dX5_firstGiverOf_18 ?_
    refine q_iload_n o dX5_firstGiverOf_19 rfl ?_
    refine q_ic_ne o 53 dX5_firstGiverOf_20 (by decide) (fun c6 => ?_) (fun c6 => ?_)
    · have h := h.1 c6
      refine q_iinc o (y := (a4 + (1 : Int32))) (lv' := [(4, .int (a4 + (1 : Int32))), (0, .ref (gA G 6 0)), (1, .int a1), (2, .int a2), (3, .int a3)]) dX5_firstGiverOf_53 rfl rfl (by decide) rfl ?_
      refine q_goto o 3 dX5_firstGiverOf_56 (by decide) ?_
      refine q_lv [1, 2, 3, 4, 0] rfl ?_
      exact hK3 a1 a2 a3 (a4 + (1 : Int32)) v h
    · have h := h.2 c6
      refine q_aload_n o dX5_firstGiverOf_23 rfl ?_
      refine q_getR (q := 8) o sf_X5_firstGiverOf_18 (by decide) dX5_firstGiverOf_24 ?_
      refine q_iload o dX5_firstGiverOf_27 rfl ?_
      refine q_iald (m := 191) o rfl rfl (by decide) hn2 hx3 dX5_firstGiverOf_29 ?_
      refine q_iload_n o dX5_firstGiverOf_30 rfl ?_
      refine q_ic_ne o 53 dX5_firstGiverOf_31 (by decide) (fun c5 => ?_) (fun c5 => ?_)
      · have h := h.1 c5
        refine q_iinc o (y := (a4 + (1 : Int32))) (lv' := [(4, .int (a4 + (1 : Int32))), (0, .ref (gA G 6 0)), (1, .int a1), (2, .int a2), (3, .int a3)]) dX5_firstGiverOf_53 rfl rfl (by decide) rfl ?_
        refine q_goto o 3 dX5_firstGiverOf_56 (by decide) ?_
        refine q_lv [1, 2, 3, 4, 0] rfl ?_
        exact hK3 a1 a2 a3 (a4 + (1 : Int32)) v h
      · have h := h.2 c5
        refine q_aload_n o dX5_firstGiverOf_34 rfl ?_
        refine q_getR (q := 9) o sf_X5_firstGiverOf_21 (by decide) dX5_firstGiverOf_35 ?_
        refine q_iload o dX5_firstGiverOf_38 rfl ?_
        refine q_iald (m := 191) o rfl rfl (by decide) hn2 hx3 dX5_firstGiverOf_40 ?_
        refine q_iload_n o dX5_firstGiverOf_41 rfl ?_
        refine q_ic_ne o 53 dX5_firstGiverOf_42 (by decide) (fun c4 => ?_) (fun c4 => ?_)
        · have h := h.1 c4
          refine q_iinc o (y := (a4 + (1 : Int32))) (lv' := [(4, .int (a4 + (1 : Int32))), (0, .ref (gA G 6 0)), (1, .int a1), (2, .int a2), (3, .int a3)]) dX5_firstGiverOf_53 rfl rfl (by decide) rfl ?_
          refine q_goto o 3 dX5_firstGiverOf_56 (by decide) ?_
          refine q_lv [1, 2, 3, 4, 0] rfl ?_
          exact hK3 a1 a2 a3 (a4 + (1 : Int32)) v h
        · have h := h.2 c4
          refine q_aload_n o dX5_firstGiverOf_45 rfl ?_
          refine q_getR (q := 6) o sf_X5_firstGiverOf_11 (by decide) dX5_firstGiverOf_46 ?_
          refine q_iload o dX5_firstGiverOf_49 rfl ?_
          refine q_iald (m := 191) o rfl rfl (by decide) hn2 hx3 dX5_firstGiverOf_51 ?_
          exact q_iret o rt dX5_firstGiverOf_52 h
def wp_X5_firstGiverOf (a1 : Int32) (a2 : Int32) (a3 : Int32) (v : St3) (post : (Int32 → St3 → Prop)) : Prop := wL_X5_firstGiverOf_3 post FU a1 a2 a3 (0 : Int32) v
set_option maxRecDepth 20000 in
set_option maxHeartbeats 4000000 in
theorem ad_X5_firstGiverOf (l : Launch) (G : Geo) (a1 : Int32) (a2 : Int32) (a3 : Int32) (v : St3) {post : (Int32 → St3 → Prop)} (h : wp_X5_firstGiverOf a1 a2 a3 v post) : CI l G yX5_firstGiverOf wsX5_firstGiverOf 0 [.ref (gA G 6 0), .int a1, .int a2, .int a3] v post := by
  refine CI.of (ty := .int) (cc := cX5_firstGiverOf) (maxL := 5) (by decide) rfl (Nat.le_of_ble_eq_true rfl) (fun X o rt => ?_)
  unfold wp_X5_firstGiverOf at h
  show J l G X 0 [(0, .ref (gA G 6 0)), (1, .int a1), (2, .int a2), (3, .int a3)] [] v
  refine q_iconst o dX5_firstGiverOf_0 (x := (0 : Int32)) (by decide) ?_
  refine q_istore o (lv' := [(4, .int (0 : Int32)), (0, .ref (gA G 6 0)), (1, .int a1), (2, .int a2), (3, .int a3)]) dX5_firstGiverOf_1 (by decide) rfl ?_
  refine q_lv [1, 2, 3, 4, 0] rfl ?_
  exact aL_X5_firstGiverOf_3 o rt FU a1 a2 a3 (0 : Int32) v h
theorem pd_X5_firstGiverOf : (parseMethodDescriptor yX5_firstGiverOf.desc).map (fun d => d.parameters.length) = some 3 := by decide +kernel
-- PieceSwarm$Store.expect(II)V
theorem inn_X6_expect_X6 : ∀ w ∈ wsX60, w ∈ wsX6_expect := by decide +kernel
theorem sf_X6_expect_18 : SF wsX6_expect RX6 18 15 2 19 := ⟨RX6, TX6, 6, rfl, rfl, rfl, rfl, by decide, inn_X6_expect_X6, by decide +kernel⟩
theorem wini_X6_expect_X9_place : Cond.initialized yX9_place.cls ∈ wsX6_expect := by decide +kernel
theorem wsta_X6_expect_X9_place : Cond.static yX9_place ∈ wsX6_expect := by decide +kernel
theorem sf_X6_expect_59 : SF wsX6_expect RX6 59 15 5 0 := ⟨RX6, TX6, 6, rfl, rfl, rfl, rfl, by decide, inn_X6_expect_X6, by decide +kernel⟩
theorem sp_X6_expect_59 : SP wsX6_expect RX6 59 15 5 := ⟨RX6, TX6, 6, tyX6, rfl, rfl, rfl, rfl, by decide, inn_X6_expect_X6, by decide +kernel, tyX6_ok, nmX6, rfl, by decide +kernel⟩
def wp_X6_expect (i0 : Nat) (a1 : Int32) (a2 : Int32) (v : St3) (post : (St3 → Prop)) : Prop := wp_X9_place a1 a2 v (fun r2 v1 => ∃ n3, n3 < 96 ∧ r2 = nI n3 ∧ ∀ v6, v6 = up3 v1 19 i0 n3 ((v1 19 i0 n3) + (1 : Int32)) → ∀ v8, v8 = up3 v6 15 i0 5 ((v6 15 i0 5) + (1 : Int32)) → post v8)
set_option maxRecDepth 20000 in
set_option maxHeartbeats 4000000 in
theorem ad_X6_expect (l : Launch) (G : Geo) (i0 : Nat) (a1 : Int32) (a2 : Int32) (hi0 : i0 < 12) (v : St3) {post : (St3 → Prop)} (h : wp_X6_expect i0 a1 a2 v post) : CV l G yX6_expect wsX6_expect 1 [.ref (gA G 15 i0), .int a1, .int a2] v post := by
  refine CV.of (cc := cX6_expect) (maxL := 3) (by decide) rfl (Nat.le_of_ble_eq_true rfl) (fun X o rt => ?_)
  unfold wp_X6_expect at h
  show J l G X 0 [(0, .ref (gA G 15 i0)), (1, .int a1), (2, .int a2)] [] v
  refine q_aload_n o dX6_expect_0 rfl ?_
  refine q_getR (q := 18) o sf_X6_expect_18 hi0 dX6_expect_1 ?_
  refine q_iload_n o dX6_expect_4 rfl ?_
  refine q_iload_n o dX6_expect_5 rfl ?_
  refine q_callN o [.int a1, .int a2] (ad_X9_place l G a1 a2 v h) gX6_expect_X9_place_n30 rfl (by decide +kernel) wini_X6_expect_X9_place wsta_X6_expect_X9_place ⟨by decide, by decide, pd_X9_place⟩ (by decide) (by decide) rfl (Nat.le_of_ble_eq_true rfl) dX6_expect_6 (fun r2 v1 h => ?_)
  refine q_dup2 o dX6_expect_9 rfl rfl ?_
  obtain ⟨n3, hn4, hx5, h⟩ := h
  refine q_iald (m := 95) o rfl rfl hi0 hn4 hx5 dX6_expect_10 ?_
  refine q_iconst o dX6_expect_11 (x := (1 : Int32)) (by decide) ?_
  refine q_iadd o dX6_expect_12 ?_
  refine q_iast (m := 95) o rfl rfl hi0 hn4 hx5 dX6_expect_13 (fun v6 e7 => ?_)
  have h := h v6 e7
  refine q_aload_n o dX6_expect_14 rfl ?_
  refine q_dup o dX6_expect_15 rfl ?_
  refine q_getI o sf_X6_expect_59 hi0 dX6_expect_16 ?_
  refine q_iconst o dX6_expect_19 (x := (1 : Int32)) (by decide) ?_
  refine q_iadd o dX6_expect_20 ?_
  refine q_putI o sp_X6_expect_59 hi0 dX6_expect_21 (fun v8 e9 => ?_)
  have h := h v8 e9
  exact q_vret o rt dX6_expect_24 h
theorem pd_X6_expect : (parseMethodDescriptor yX6_expect.desc).map (fun d => d.parameters.length) = some 2 := by decide +kernel
-- PieceSwarm$Member.nowSendsFalse()Z
theorem inn_X3_nowSendsFalse_X3 : ∀ w ∈ wsX30, w ∈ wsX3_nowSendsFalse := by decide +kernel
theorem sf_X3_nowSendsFalse_32 : SF wsX3_nowSendsFalse RX3 32 14 2 0 := ⟨RX3, TX3, 13, rfl, rfl, rfl, rfl, by decide, inn_X3_nowSendsFalse_X3, by decide +kernel⟩
theorem sf_X3_nowSendsFalse_25 : SF wsX3_nowSendsFalse RX3 25 14 5 0 := ⟨RX3, TX3, 13, rfl, rfl, rfl, rfl, by decide, inn_X3_nowSendsFalse_X3, by decide +kernel⟩
theorem sf_X3_nowSendsFalse_50 : SF wsX3_nowSendsFalse RX3 50 14 8 0 := ⟨RX3, TX3, 13, rfl, rfl, rfl, rfl, by decide, inn_X3_nowSendsFalse_X3, by decide +kernel⟩
def wp_X3_nowSendsFalse (i0 : Nat) (v : St3) (post : (Int32 → St3 → Prop)) : Prop := ((¬ (v 14 i0 2) = (3 : Int32) → post (0 : Int32) v) ∧ ((v 14 i0 2) = (3 : Int32) → (((v 14 i0 5) ≤ 0 → post (0 : Int32) v) ∧ (¬ (v 14 i0 5) ≤ 0 → ¬ (v 14 i0 5) = 0 ∧ ((¬ ((v 14 i0 8) - (v 14 i0 8) / (v 14 i0 5) * (v 14 i0 5)) = 0 → post (0 : Int32) v) ∧ (((v 14 i0 8) - (v 14 i0 8) / (v 14 i0 5) * (v 14 i0 5)) = 0 → post (1 : Int32) v))))))
set_option maxRecDepth 20000 in
set_option maxHeartbeats 4000000 in
theorem ad_X3_nowSendsFalse (l : Launch) (G : Geo) (i0 : Nat) (hi0 : i0 < 12) (v : St3) {post : (Int32 → St3 → Prop)} (h : wp_X3_nowSendsFalse i0 v post) : CI l G yX3_nowSendsFalse wsX3_nowSendsFalse 0 [.ref (gA G 14 i0)] v post := by
  refine CI.of (ty := .boolean) (cc := cX3_nowSendsFalse) (maxL := 1) (by decide) rfl (Nat.le_of_ble_eq_true rfl) (fun X o rt => ?_)
  unfold wp_X3_nowSendsFalse at h
  show J l G X 0 [(0, .ref (gA G 14 i0))] [] v
  refine q_aload_n o dX3_nowSendsFalse_0 rfl ?_
  refine q_getI o sf_X3_nowSendsFalse_32 hi0 dX3_nowSendsFalse_1 ?_
  refine q_iconst o dX3_nowSendsFalse_4 (x := (3 : Int32)) (by decide) ?_
  refine q_ic_ne o 31 dX3_nowSendsFalse_5 (by decide) (fun c4 => ?_) (fun c4 => ?_)
  · have h := h.1 c4
    refine q_iconst o dX3_nowSendsFalse_31 (x := (0 : Int32)) (by decide) ?_
    exact q_zret o rt dX3_nowSendsFalse_32 (by decide) h
  · have h := h.2 c4
    refine q_aload_n o dX3_nowSendsFalse_8 rfl ?_
    refine q_getI o sf_X3_nowSendsFalse_25 hi0 dX3_nowSendsFalse_9 ?_
    refine q_if_le o 31 dX3_nowSendsFalse_12 (by decide) (fun c3 => ?_) (fun c3 => ?_)
    · have h := h.1 c3
      refine q_iconst o dX3_nowSendsFalse_31 (x := (0 : Int32)) (by decide) ?_
      exact q_zret o rt dX3_nowSendsFalse_32 (by decide) h
    · have h := h.2 c3
      refine q_aload_n o dX3_nowSendsFalse_15 rfl ?_
      refine q_getI o sf_X3_nowSendsFalse_50 hi0 dX3_nowSendsFalse_16 ?_
      refine q_aload_n o dX3_nowSendsFalse_19 rfl ?_
      refine q_getI o sf_X3_nowSendsFalse_25 hi0 dX3_nowSendsFalse_20 ?_
      obtain ⟨hz1, h⟩ := h
      refine q_irem o dX3_nowSendsFalse_23 hz1 ?_
      refine q_if_ne o 31 dX3_nowSendsFalse_24 (by decide) (fun c2 => ?_) (fun c2 => ?_)
      · have h := h.1 c2
        refine q_iconst o dX3_nowSendsFalse_31 (x := (0 : Int32)) (by decide) ?_
        exact q_zret o rt dX3_nowSendsFalse_32 (by decide) h
      · have h := h.2 c2
        refine q_iconst o dX3_nowSendsFalse_27 (x := (1 : Int32)) (by decide) ?_
        refine q_goto o 32 dX3_nowSendsFalse_28 (by decide) ?_
        exact q_zret o rt dX3_nowSendsFalse_32 (by decide) h
theorem pd_X3_nowSendsFalse : (parseMethodDescriptor yX3_nowSendsFalse.desc).map (fun d => d.parameters.length) = some 0 := by decide +kernel
-- PieceSwarm$Road.add(IIIIII)V
theorem inn_X5_add_X5 : ∀ w ∈ wsX50, w ∈ wsX5_add := by decide +kernel
theorem sf_X5_add_11 : SF wsX5_add RX5 11 6 0 7 := ⟨RX5, TX5, 7, rfl, rfl, rfl, rfl, by decide, inn_X5_add_X5, by decide +kernel⟩
theorem sf_X5_add_30 : SF wsX5_add RX5 30 6 6 0 := ⟨RX5, TX5, 7, rfl, rfl, rfl, rfl, by decide, inn_X5_add_X5, by decide +kernel⟩
theorem sf_X5_add_15 : SF wsX5_add RX5 15 6 1 8 := ⟨RX5, TX5, 7, rfl, rfl, rfl, rfl, by decide, inn_X5_add_X5, by decide +kernel⟩
theorem sf_X5_add_18 : SF wsX5_add RX5 18 6 2 9 := ⟨RX5, TX5, 7, rfl, rfl, rfl, rfl, by decide, inn_X5_add_X5, by decide +kernel⟩
theorem sf_X5_add_21 : SF wsX5_add RX5 21 6 3 10 := ⟨RX5, TX5, 7, rfl, rfl, rfl, rfl, by decide, inn_X5_add_X5, by decide +kernel⟩
theorem sf_X5_add_24 : SF wsX5_add RX5 24 6 4 11 := ⟨RX5, TX5, 7, rfl, rfl, rfl, rfl, by decide, inn_X5_add_X5, by decide +kernel⟩
theorem sf_X5_add_27 : SF wsX5_add RX5 27 6 5 12 := ⟨RX5, TX5, 7, rfl, rfl, rfl, rfl, by decide, inn_X5_add_X5, by decide +kernel⟩
theorem sp_X5_add_30 : SP wsX5_add RX5 30 6 6 := ⟨RX5, TX5, 7, tyX5, rfl, rfl, rfl, rfl, by decide, inn_X5_add_X5, by decide +kernel, tyX5_ok, nmX5, rfl, by decide +kernel⟩
def wp_X5_add (a1 : Int32) (a2 : Int32) (a3 : Int32) (a4 : Int32) (a5 : Int32) (a6 : Int32) (v : St3) (post : (St3 → Prop)) : Prop := wp_X5_hasRoom v (fun r2 v1 => ((¬ r2 = 0 → ∃ n3, n3 < 192 ∧ (v1 6 0 6) = nI n3 ∧ ∀ v6, v6 = up3 v1 7 0 n3 a1 → ∃ n8, n8 < 192 ∧ (v6 6 0 6) = nI n8 ∧ ∀ v11, v11 = up3 v6 8 0 n8 a2 → ∃ n13, n13 < 192 ∧ (v11 6 0 6) = nI n13 ∧ ∀ v16, v16 = up3 v11 9 0 n13 a3 → ∃ n18, n18 < 192 ∧ (v16 6 0 6) = nI n18 ∧ ∀ v21, v21 = up3 v16 10 0 n18 a4 → ∃ n23, n23 < 192 ∧ (v21 6 0 6) = nI n23 ∧ ∀ v26, v26 = up3 v21 11 0 n23 a5 → ∃ n28, n28 < 192 ∧ (v26 6 0 6) = nI n28 ∧ ∀ v31, v31 = up3 v26 12 0 n28 a6 → ∀ v33, v33 = up3 v31 6 0 6 ((v31 6 0 6) + (1 : Int32)) → post v33) ∧ (r2 = 0 → post v1)))
set_option maxRecDepth 20000 in
set_option maxHeartbeats 4000000 in
theorem ad_X5_add (l : Launch) (G : Geo) (a1 : Int32) (a2 : Int32) (a3 : Int32) (a4 : Int32) (a5 : Int32) (a6 : Int32) (v : St3) {post : (St3 → Prop)} (h : wp_X5_add a1 a2 a3 a4 a5 a6 v post) : CV l G yX5_add wsX5_add 1 [.ref (gA G 6 0), .int a1, .int a2, .int a3, .int a4, .int a5, .int a6] v post := by
  refine CV.of (cc := cX5_add) (maxL := 7) (by decide) rfl (Nat.le_of_ble_eq_true rfl) (fun X o rt => ?_)
  unfold wp_X5_add at h
  show J l G X 0 [(0, .ref (gA G 6 0)), (1, .int a1), (2, .int a2), (3, .int a3), (4, .int a4), (5, .int a5), (6, .int a6)] [] v
  refine q_aload_n o dX5_add_0 rfl ?_
  refine q_callV o [] (ad_X5_hasRoom l G v h) gX5_add_X5_hasRoom rfl rfl rfl rfl (by decide) ⟨rfl, by decide, by decide, pd_X5_hasRoom⟩ (by decide) (by decide) rfl (Nat.le_of_ble_eq_true rfl) dX5_add_1 (fun r2 v1 h => ?_)
  refine q_if_ne o 8 dX5_add_4 (by decide) (fun c35 => ?_) (fun c35 => ?_)
  · have h := h.1 c35
    refine q_aload_n o dX5_add_8 rfl ?_
    refine q_getR (q := 6) o sf_X5_add_11 (by decide) dX5_add_9 ?_
    refine q_aload_n o dX5_add_12 rfl ?_
    refine q_getI o sf_X5_add_30 (by decide) dX5_add_13 ?_
    refine q_iload_n o dX5_add_16 rfl ?_
    obtain ⟨n3, hn4, hx5, h⟩ := h
    refine q_iast (m := 191) o rfl rfl (by decide) hn4 hx5 dX5_add_17 (fun v6 e7 => ?_)
    have h := h v6 e7
    refine q_aload_n o dX5_add_18 rfl ?_
    refine q_getR (q := 7) o sf_X5_add_15 (by decide) dX5_add_19 ?_
    refine q_aload_n o dX5_add_22 rfl ?_
    refine q_getI o sf_X5_add_30 (by decide) dX5_add_23 ?_
    refine q_iload_n o dX5_add_26 rfl ?_
    obtain ⟨n8, hn9, hx10, h⟩ := h
    refine q_iast (m := 191) o rfl rfl (by decide) hn9 hx10 dX5_add_27 (fun v11 e12 => ?_)
    have h := h v11 e12
    refine q_aload_n o dX5_add_28 rfl ?_
    refine q_getR (q := 8) o sf_X5_add_18 (by decide) dX5_add_29 ?_
    refine q_aload_n o dX5_add_32 rfl ?_
    refine q_getI o sf_X5_add_30 (by decide) dX5_add_33 ?_
    refine q_iload_n o dX5_add_36 rfl ?_
    obtain ⟨n13, hn14, hx15, h⟩ := h
    refine q_iast (m := 191) o rfl rfl (by decide) hn14 hx15 dX5_add_37 (fun v16 e17 => ?_)
    have h := h v16 e17
    refine q_aload_n o dX5_add_38 rfl ?_
    refine q_getR (q := 9) o sf_X5_add_21 (by decide) dX5_add_39 ?_
    refine q_aload_n o dX5_add_42 rfl ?_
    refine q_getI o sf_X5_add_30 (by decide) dX5_add_43 ?_
    refine q_iload o dX5_add_46 rfl ?_
    obtain ⟨n18, hn19, hx20, h⟩ := h
    refine q_iast (m := 191) o rfl rfl (by decide) hn19 hx20 dX5_add_48 (fun v21 e22 => ?_)
    have h := h v21 e22
    refine q_aload_n o dX5_add_49 rfl ?_
    refine q_getR (q := 10) o sf_X5_add_24 (by decide) dX5_add_50 ?_
    refine q_aload_n o dX5_add_53 rfl ?_
    refine q_getI o sf_X5_add_30 (by decide) dX5_add_54 ?_
    refine q_iload o dX5_add_57 rfl ?_
    obtain ⟨n23, hn24, hx25, h⟩ := h
    refine q_iast (m := 191) o rfl rfl (by decide) hn24 hx25 dX5_add_59 (fun v26 e27 => ?_)
    have h := h v26 e27
    refine q_aload_n o dX5_add_60 rfl ?_
    refine q_getR (q := 11) o sf_X5_add_27 (by decide) dX5_add_61 ?_
    refine q_aload_n o dX5_add_64 rfl ?_
    refine q_getI o sf_X5_add_30 (by decide) dX5_add_65 ?_
    refine q_iload o dX5_add_68 rfl ?_
    obtain ⟨n28, hn29, hx30, h⟩ := h
    refine q_iast (m := 191) o rfl rfl (by decide) hn29 hx30 dX5_add_70 (fun v31 e32 => ?_)
    have h := h v31 e32
    refine q_aload_n o dX5_add_71 rfl ?_
    refine q_dup o dX5_add_72 rfl ?_
    refine q_getI o sf_X5_add_30 (by decide) dX5_add_73 ?_
    refine q_iconst o dX5_add_76 (x := (1 : Int32)) (by decide) ?_
    refine q_iadd o dX5_add_77 ?_
    refine q_putI o sp_X5_add_30 (by decide) dX5_add_78 (fun v33 e34 => ?_)
    have h := h v33 e34
    exact q_vret o rt dX5_add_81 h
  · have h := h.2 c35
    exact q_vret o rt dX5_add_7 h
theorem pd_X5_add : (parseMethodDescriptor yX5_add.desc).map (fun d => d.parameters.length) = some 6 := by decide +kernel
-- PieceSwarm$Store.fillFrom(LPieceSwarm$Whole;)V
theorem inn_X6_fillFrom_X8 : ∀ w ∈ wsX80, w ∈ wsX6_fillFrom := by decide +kernel
theorem sf_X6_fillFrom_21 : SF wsX6_fillFrom RX6 21 5 0 0 := ⟨RX8, TX8, 3, rfl, rfl, rfl, rfl, by decide, inn_X6_fillFrom_X8, by decide +kernel⟩
theorem inn_X6_fillFrom_X6 : ∀ w ∈ wsX60, w ∈ wsX6_fillFrom := by decide +kernel
theorem sp_X6_fillFrom_41 : SP wsX6_fillFrom RX6 41 15 3 := ⟨RX6, TX6, 6, tyX6, rfl, rfl, rfl, rfl, by decide, inn_X6_fillFrom_X6, by decide +kernel, tyX6_ok, nmX6, rfl, by decide +kernel⟩
theorem sf_X6_fillFrom_27 : SF wsX6_fillFrom RX6 27 5 1 0 := ⟨RX8, TX8, 3, rfl, rfl, rfl, rfl, by decide, inn_X6_fillFrom_X8, by decide +kernel⟩
theorem sf_X6_fillFrom_15 : SF wsX6_fillFrom RX6 15 15 1 18 := ⟨RX6, TX6, 6, rfl, rfl, rfl, rfl, by decide, inn_X6_fillFrom_X6, by decide +kernel⟩
theorem wini_X6_fillFrom_X9_place : Cond.initialized yX9_place.cls ∈ wsX6_fillFrom := by decide +kernel
theorem wsta_X6_fillFrom_X9_place : Cond.static yX9_place ∈ wsX6_fillFrom := by decide +kernel
def wB_X6_fillFrom_12 (post : (St3 → Prop)) (K2 : Nat → Int32 → St3 → Prop) (K12 : Nat → Int32 → Int32 → St3 → Prop) (i0 : Nat) (a2 : Int32) (a3 : Int32) (v : St3) : Prop := (((v 5 0 1) ≤ a3 → K2 i0 (a2 + (1 : Int32)) v) ∧ (¬ (v 5 0 1) ≤ a3 → wp_X9_place a2 a3 v (fun r6 v5 => wp_X8_valueOf a2 a3 v5 (fun r8 v7 => ∃ n9, n9 < 96 ∧ r6 = nI n9 ∧ ∀ v12, v12 = up3 v7 18 i0 n9 r8 → K12 i0 a2 (a3 + (1 : Int32)) v12))))
def wL_X6_fillFrom_12 (post : (St3 → Prop)) (K2 : Nat → Int32 → St3 → Prop) : Nat → Nat → Int32 → Int32 → St3 → Prop
  | 0, _, _, _, _ => False
  | f + 1, i0, a2, a3, v => wB_X6_fillFrom_12 post K2 (wL_X6_fillFrom_12 post K2 f) i0 a2 a3 v
set_option maxRecDepth 20000 in
set_option maxHeartbeats 4000000 in
theorem aL_X6_fillFrom_12 {l : Launch} {G : Geo} {X : CT} (o : OK G X cX6_fillFrom wsX6_fillFrom RX6 1 4) {post : (St3 → Prop)} (rt : RV G X post) {K2 : Nat → Int32 → St3 → Prop} (hK2 : ∀ (i0 : Nat) (a2 : Int32) (_ : i0 < 12) (v : St3), K2 i0 a2 v → J l G X 2 [(0, .ref (gA G 15 i0)), (1, .ref (gA G 5 0)), (2, .int a2)] [] v) : ∀ (f : Nat) (i0 : Nat) (a2 : Int32) (a3 : Int32) (hi0 : i0 < 12) (v : St3), wL_X6_fillFrom_12 post K2 f i0 a2 a3 v → J l G X 12 [(0, .ref (gA G 15 i0)), (1, .ref (gA G 5 0)), (2, .int a2), (3, .int a3)] [] v := by
  intro f
  induction f with
  | zero => intro _ _ _ _ _ h; exact False.elim h
  | succ f hK12 =>
  intro i0 a2 a3 hi0 v h
  have h : wB_X6_fillFrom_12 post K2 (wL_X6_fillFrom_12 post K2 f) i0 a2 a3 v := h
  unfold wB_X6_fillFrom_12 at h
  refine q_iload_n o dX6_fillFrom_12 rfl ?_
  refine q_aload_n o dX6_fillFrom_13 rfl ?_
  refine q_getI o sf_X6_fillFrom_27 (by decide) dX6_fillFrom_14 ?_
  refine q_ic_ge o 42 dX6_fillFrom_17 (by decide) (fun c14 => ?_) (fun c14 => ?_)
  · have h := h.1 c14
    refine q_iinc o (y := (a2 + (1 : Int32))) (lv' := [(2, .int (a2 + (1 : Int32))), (0, .ref (gA G 15 i0)), (1, .ref (gA G 5 0)), (3, .int a3)]) dX6_fillFrom_42 rfl rfl (by decide) rfl ?_
    refine q_goto o 2 dX6_fillFrom_45 (by decide) ?_
    refine q_lv [1, 2, 0] rfl ?_
    exact hK2 i0 (a2 + (1 : Int32)) hi0 v h
  · have h := h.2 c14
    refine q_aload_n o dX6_fillFrom_20 rfl ?_
    refine q_getR (q := 17) o sf_X6_fillFrom_15 hi0 dX6_fillFrom_21 ?_
    refine q_iload_n o dX6_fillFrom_24 rfl ?_
    refine q_iload_n o dX6_fillFrom_25 rfl ?_
    refine q_callN o [.int a2, .int a3] (ad_X9_place l G a2 a3 v h) gX6_fillFrom_X9_place_n30 rfl (by decide +kernel) wini_X6_fillFrom_X9_place wsta_X6_fillFrom_X9_place ⟨by decide, by decide, pd_X9_place⟩ (by decide) (by decide) rfl (Nat.le_of_ble_eq_true rfl) dX6_fillFrom_26 (fun r6 v5 h => ?_)
    refine q_aload_n o dX6_fillFrom_29 rfl ?_
    refine q_iload_n o dX6_fillFrom_30 rfl ?_
    refine q_iload_n o dX6_fillFrom_31 rfl ?_
    refine q_callV o [.int a2, .int a3] (ad_X8_valueOf l G a2 a3 v5 h) gX6_fillFrom_X8_valueOf rfl rfl rfl rfl (by decide) ⟨rfl, by decide, by decide, pd_X8_valueOf⟩ (by decide) (by decide) rfl (Nat.le_of_ble_eq_true rfl) dX6_fillFrom_32 (fun r8 v7 h => ?_)
    obtain ⟨n9, hn10, hx11, h⟩ := h
    refine q_iast (m := 95) o rfl rfl hi0 hn10 hx11 dX6_fillFrom_35 (fun v12 e13 => ?_)
    have h := h v12 e13
    refine q_iinc o (y := (a3 + (1 : Int32))) (lv' := [(3, .int (a3 + (1 : Int32))), (0, .ref (gA G 15 i0)), (1, .ref (gA G 5 0)), (2, .int a2)]) dX6_fillFrom_36 rfl rfl (by decide) rfl ?_
    refine q_goto o 12 dX6_fillFrom_39 (by decide) ?_
    refine q_lv [1, 2, 3, 0] rfl ?_
    exact hK12 i0 a2 (a3 + (1 : Int32)) hi0 v12 h
def wB_X6_fillFrom_2 (post : (St3 → Prop)) (K2 : Nat → Int32 → St3 → Prop) (i0 : Nat) (a2 : Int32) (v : St3) : Prop := (((v 5 0 0) ≤ a2 → wp_X8_allPieces v (fun r2 v1 => ∀ v3, v3 = up3 v1 15 i0 3 r2 → post v3)) ∧ (¬ (v 5 0 0) ≤ a2 → wL_X6_fillFrom_12 post K2 FU i0 a2 (0 : Int32) v))
def wL_X6_fillFrom_2 (post : (St3 → Prop)) : Nat → Nat → Int32 → St3 → Prop
  | 0, _, _, _ => False
  | f + 1, i0, a2, v => wB_X6_fillFrom_2 post (wL_X6_fillFrom_2 post f) i0 a2 v
set_option maxRecDepth 20000 in
set_option maxHeartbeats 4000000 in
theorem aL_X6_fillFrom_2 {l : Launch} {G : Geo} {X : CT} (o : OK G X cX6_fillFrom wsX6_fillFrom RX6 1 4) {post : (St3 → Prop)} (rt : RV G X post) : ∀ (f : Nat) (i0 : Nat) (a2 : Int32) (hi0 : i0 < 12) (v : St3), wL_X6_fillFrom_2 post f i0 a2 v → J l G X 2 [(0, .ref (gA G 15 i0)), (1, .ref (gA G 5 0)), (2, .int a2)] [] v := by
  intro f
  induction f with
  | zero => intro _ _ _ _ h; exact False.elim h
  | succ f hK2 =>
  intro i0 a2 hi0 v h
  have h : wB_X6_fillFrom_2 post (wL_X6_fillFrom_2 post f) i0 a2 v := h
  unfold wB_X6_fillFrom_2 at h
  refine q_iload_n o dX6_fillFrom_2 rfl ?_
  refine q_aload_n o dX6_fillFrom_3 rfl ?_
  refine q_getI o sf_X6_fillFrom_21 (by decide) dX6_fillFrom_4 ?_
  refine q_ic_ge o 48 dX6_fillFrom_7 (by decide) (fun c15 => ?_) (fun c15 => ?_)
  · have h := h.1 c15
    refine q_aload_n o dX6_fillFrom_48 rfl ?_
    refine q_aload_n o dX6_fillFrom_49 rfl ?_
    refine q_callV o [] (ad_X8_allPieces l G v h) gX6_fillFrom_X8_allPieces rfl rfl rfl rfl (by decide) ⟨rfl, by decide, by decide, pd_X8_allPieces⟩ (by decide) (by decide) rfl (Nat.le_of_ble_eq_true rfl) dX6_fillFrom_50 (fun r2 v1 h => ?_)
    refine q_putI o sp_X6_fillFrom_41 hi0 dX6_fillFrom_53 (fun v3 e4 => ?_)
    have h := h v3 e4
    exact q_vret o rt dX6_fillFrom_56 h
  · have h := h.2 c15
    refine q_iconst o dX6_fillFrom_10 (x := (0 : Int32)) (by decide) ?_
    refine q_istore_n o (lv' := [(3, .int (0 : Int32)), (0, .ref (gA G 15 i0)), (1, .ref (gA G 5 0)), (2, .int a2)]) dX6_fillFrom_11 (by decide) rfl ?_
    refine q_lv [1, 2, 3, 0] rfl ?_
    exact aL_X6_fillFrom_12 o rt hK2 FU i0 a2 (0 : Int32) hi0 v h
def wp_X6_fillFrom (i0 : Nat) (v : St3) (post : (St3 → Prop)) : Prop := wL_X6_fillFrom_2 post FU i0 (0 : Int32) v
set_option maxRecDepth 20000 in
set_option maxHeartbeats 4000000 in
theorem ad_X6_fillFrom (l : Launch) (G : Geo) (i0 : Nat) (hi0 : i0 < 12) (v : St3) {post : (St3 → Prop)} (h : wp_X6_fillFrom i0 v post) : CV l G yX6_fillFrom wsX6_fillFrom 1 [.ref (gA G 15 i0), .ref (gA G 5 0)] v post := by
  refine CV.of (cc := cX6_fillFrom) (maxL := 4) (by decide) rfl (Nat.le_of_ble_eq_true rfl) (fun X o rt => ?_)
  unfold wp_X6_fillFrom at h
  show J l G X 0 [(0, .ref (gA G 15 i0)), (1, .ref (gA G 5 0))] [] v
  refine q_iconst o dX6_fillFrom_0 (x := (0 : Int32)) (by decide) ?_
  refine q_istore_n o (lv' := [(2, .int (0 : Int32)), (0, .ref (gA G 15 i0)), (1, .ref (gA G 5 0))]) dX6_fillFrom_1 (by decide) rfl ?_
  refine q_lv [1, 2, 0] rfl ?_
  exact aL_X6_fillFrom_2 o rt FU i0 (0 : Int32) hi0 v h
theorem pd_X6_fillFrom : (parseMethodDescriptor yX6_fillFrom.desc).map (fun d => d.parameters.length) = some 1 := by decide +kernel
-- PieceSwarm$Member.opensToNobody()Z
theorem inn_X3_opensToNobody_X3 : ∀ w ∈ wsX30, w ∈ wsX3_opensToNobody := by decide +kernel
theorem sf_X3_opensToNobody_32 : SF wsX3_opensToNobody RX3 32 14 2 0 := ⟨RX3, TX3, 13, rfl, rfl, rfl, rfl, by decide, inn_X3_opensToNobody_X3, by decide +kernel⟩
def wp_X3_opensToNobody (i0 : Nat) (v : St3) (post : (Int32 → St3 → Prop)) : Prop := (((v 14 i0 2) = (2 : Int32) → post (1 : Int32) v) ∧ (¬ (v 14 i0 2) = (2 : Int32) → ((¬ (v 14 i0 2) = (5 : Int32) → post (0 : Int32) v) ∧ ((v 14 i0 2) = (5 : Int32) → post (1 : Int32) v))))
set_option maxRecDepth 20000 in
set_option maxHeartbeats 4000000 in
theorem ad_X3_opensToNobody (l : Launch) (G : Geo) (i0 : Nat) (hi0 : i0 < 12) (v : St3) {post : (Int32 → St3 → Prop)} (h : wp_X3_opensToNobody i0 v post) : CI l G yX3_opensToNobody wsX3_opensToNobody 0 [.ref (gA G 14 i0)] v post := by
  refine CI.of (ty := .boolean) (cc := cX3_opensToNobody) (maxL := 1) (by decide) rfl (Nat.le_of_ble_eq_true rfl) (fun X o rt => ?_)
  unfold wp_X3_opensToNobody at h
  show J l G X 0 [(0, .ref (gA G 14 i0))] [] v
  refine q_aload_n o dX3_opensToNobody_0 rfl ?_
  refine q_getI o sf_X3_opensToNobody_32 hi0 dX3_opensToNobody_1 ?_
  refine q_iconst o dX3_opensToNobody_4 (x := (2 : Int32)) (by decide) ?_
  refine q_ic_eq o 16 dX3_opensToNobody_5 (by decide) (fun c2 => ?_) (fun c2 => ?_)
  · have h := h.1 c2
    refine q_iconst o dX3_opensToNobody_16 (x := (1 : Int32)) (by decide) ?_
    refine q_goto o 21 dX3_opensToNobody_17 (by decide) ?_
    exact q_zret o rt dX3_opensToNobody_21 (by decide) h
  · have h := h.2 c2
    refine q_aload_n o dX3_opensToNobody_8 rfl ?_
    refine q_getI o sf_X3_opensToNobody_32 hi0 dX3_opensToNobody_9 ?_
    refine q_iconst o dX3_opensToNobody_12 (x := (5 : Int32)) (by decide) ?_
    refine q_ic_ne o 20 dX3_opensToNobody_13 (by decide) (fun c1 => ?_) (fun c1 => ?_)
    · have h := h.1 c1
      refine q_iconst o dX3_opensToNobody_20 (x := (0 : Int32)) (by decide) ?_
      exact q_zret o rt dX3_opensToNobody_21 (by decide) h
    · have h := h.2 c1
      refine q_iconst o dX3_opensToNobody_16 (x := (1 : Int32)) (by decide) ?_
      refine q_goto o 21 dX3_opensToNobody_17 (by decide) ?_
      exact q_zret o rt dX3_opensToNobody_21 (by decide) h
theorem pd_X3_opensToNobody : (parseMethodDescriptor yX3_opensToNobody.desc).map (fun d => d.parameters.length) = some 0 := by decide +kernel
-- PieceSwarm$Member.lateNumberOf(I)I
theorem inn_X3_lateNumberOf_X3 : ∀ w ∈ wsX30, w ∈ wsX3_lateNumberOf := by decide +kernel
theorem sf_X3_lateNumberOf_21 : SF wsX3_lateNumberOf RX3 21 14 1 16 := ⟨RX3, TX3, 13, rfl, rfl, rfl, rfl, by decide, inn_X3_lateNumberOf_X3, by decide +kernel⟩
theorem inn_X3_lateNumberOf_X7 : ∀ w ∈ wsX70, w ∈ wsX3_lateNumberOf := by decide +kernel
theorem sf_X3_lateNumberOf_47 : SF wsX3_lateNumberOf RX3 47 16 0 20 := ⟨RX7, TX7, 10, rfl, rfl, rfl, rfl, by decide, inn_X3_lateNumberOf_X7, by decide +kernel⟩
theorem sf_X3_lateNumberOf_43 : SF wsX3_lateNumberOf RX3 43 16 1 21 := ⟨RX7, TX7, 10, rfl, rfl, rfl, rfl, by decide, inn_X3_lateNumberOf_X7, by decide +kernel⟩
def wp_X3_lateNumberOf (i0 : Nat) (a1 : Int32) (v : St3) (post : (Int32 → St3 → Prop)) : Prop := wp_X3_isDone i0 v (fun r2 v1 => ((r2 = 0 → ∃ n3, n3 < 12 ∧ a1 = nI n3 ∧ post (v1 20 i0 n3) v1) ∧ (¬ r2 = 0 → ∃ n6, n6 < 12 ∧ a1 = nI n6 ∧ post (v1 21 i0 n6) v1)))
set_option maxRecDepth 20000 in
set_option maxHeartbeats 4000000 in
theorem ad_X3_lateNumberOf (l : Launch) (G : Geo) (i0 : Nat) (a1 : Int32) (hi0 : i0 < 12) (v : St3) {post : (Int32 → St3 → Prop)} (h : wp_X3_lateNumberOf i0 a1 v post) : CI l G yX3_lateNumberOf wsX3_lateNumberOf 1 [.ref (gA G 14 i0), .int a1] v post := by
  refine CI.of (ty := .int) (cc := cX3_lateNumberOf) (maxL := 2) (by decide) rfl (Nat.le_of_ble_eq_true rfl) (fun X o rt => ?_)
  unfold wp_X3_lateNumberOf at h
  show J l G X 0 [(0, .ref (gA G 14 i0)), (1, .int a1)] [] v
  refine q_aload_n o dX3_lateNumberOf_0 rfl ?_
  refine q_callV o [] (ad_X3_isDone l G i0 hi0 v h) gX3_lateNumberOf_X3_isDone rfl rfl rfl rfl hi0 ⟨rfl, by decide, by decide, pd_X3_isDone⟩ (by decide) (by decide) rfl (Nat.le_of_ble_eq_true rfl) dX3_lateNumberOf_1 (fun r2 v1 h => ?_)
  refine q_if_eq o 19 dX3_lateNumberOf_4 (by decide) (fun c9 => ?_) (fun c9 => ?_)
  · have h := h.1 c9
    refine q_aload_n o dX3_lateNumberOf_19 rfl ?_
    refine q_getR (q := 15) o sf_X3_lateNumberOf_21 hi0 dX3_lateNumberOf_20 ?_
    refine q_getR (q := 19) o sf_X3_lateNumberOf_47 hi0 dX3_lateNumberOf_23 ?_
    refine q_iload_n o dX3_lateNumberOf_26 rfl ?_
    obtain ⟨n3, hn4, hx5, h⟩ := h
    refine q_iald (m := 11) o rfl rfl hi0 hn4 hx5 dX3_lateNumberOf_27 ?_
    exact q_iret o rt dX3_lateNumberOf_28 h
  · have h := h.2 c9
    refine q_aload_n o dX3_lateNumberOf_7 rfl ?_
    refine q_getR (q := 15) o sf_X3_lateNumberOf_21 hi0 dX3_lateNumberOf_8 ?_
    refine q_getR (q := 20) o sf_X3_lateNumberOf_43 hi0 dX3_lateNumberOf_11 ?_
    refine q_iload_n o dX3_lateNumberOf_14 rfl ?_
    obtain ⟨n6, hn7, hx8, h⟩ := h
    refine q_iald (m := 11) o rfl rfl hi0 hn7 hx8 dX3_lateNumberOf_15 ?_
    refine q_goto o 28 dX3_lateNumberOf_16 (by decide) ?_
    exact q_iret o rt dX3_lateNumberOf_28 h
theorem pd_X3_lateNumberOf : (parseMethodDescriptor yX3_lateNumberOf.desc).map (fun d => d.parameters.length) = some 1 := by decide +kernel
-- PieceSwarm$Ties.forgetLate()V
theorem inn_X7_forgetLate_X7 : ∀ w ∈ wsX70, w ∈ wsX7_forgetLate := by decide +kernel
theorem sf_X7_forgetLate_9 : SF wsX7_forgetLate RX7 9 16 0 20 := ⟨RX7, TX7, 10, rfl, rfl, rfl, rfl, by decide, inn_X7_forgetLate_X7, by decide +kernel⟩
theorem sf_X7_forgetLate_15 : SF wsX7_forgetLate RX7 15 16 1 21 := ⟨RX7, TX7, 10, rfl, rfl, rfl, rfl, by decide, inn_X7_forgetLate_X7, by decide +kernel⟩
def wB_X7_forgetLate_2 (post : (St3 → Prop)) (K2 : Nat → Int32 → St3 → Prop) (i0 : Nat) (a1 : Int32) (v : St3) : Prop := (((12 : Int32) ≤ a1 → post v) ∧ (¬ (12 : Int32) ≤ a1 → ∃ n1, n1 < 12 ∧ a1 = nI n1 ∧ ∀ v4, v4 = up3 v 20 i0 n1 (0 : Int32) → ∀ v6, v6 = up3 v4 21 i0 n1 (0 : Int32) → K2 i0 (a1 + (1 : Int32)) v6))
def wL_X7_forgetLate_2 (post : (St3 → Prop)) : Nat → Nat → Int32 → St3 → Prop
  | 0, _, _, _ => False
  | f + 1, i0, a1, v => wB_X7_forgetLate_2 post (wL_X7_forgetLate_2 post f) i0 a1 v
set_option maxRecDepth 20000 in
set_option maxHeartbeats 4000000 in
theorem aL_X7_forgetLate_2 {l : Launch} {G : Geo} {X : CT} (o : OK G X cX7_forgetLate wsX7_forgetLate RX7 0 2) {post : (St3 → Prop)} (rt : RV G X post) : ∀ (f : Nat) (i0 : Nat) (a1 : Int32) (hi0 : i0 < 12) (v : St3), wL_X7_forgetLate_2 post f i0 a1 v → J l G X 2 [(0, .ref (gA G 16 i0)), (1, .int a1)] [] v := by
  intro f
  induction f with
  | zero => intro _ _ _ _ h; exact False.elim h
  | succ f hK2 =>
  intro i0 a1 hi0 v h
  have h : wB_X7_forgetLate_2 post (wL_X7_forgetLate_2 post f) i0 a1 v := h
  unfold wB_X7_forgetLate_2 at h
  refine q_iload_n o dX7_forgetLate_2 rfl ?_
  refine q_bipush o dX7_forgetLate_3 (x := (12 : Int32)) (by decide) ?_
  refine q_ic_ge o 28 dX7_forgetLate_5 (by decide) (fun c8 => ?_) (fun c8 => ?_)
  · have h := h.1 c8
    exact q_vret o rt dX7_forgetLate_28 h
  · have h := h.2 c8
    refine q_aload_n o dX7_forgetLate_8 rfl ?_
    refine q_getR (q := 19) o sf_X7_forgetLate_9 hi0 dX7_forgetLate_9 ?_
    refine q_iload_n o dX7_forgetLate_12 rfl ?_
    refine q_iconst o dX7_forgetLate_13 (x := (0 : Int32)) (by decide) ?_
    obtain ⟨n1, hn2, hx3, h⟩ := h
    refine q_iast (m := 11) o rfl rfl hi0 hn2 hx3 dX7_forgetLate_14 (fun v4 e5 => ?_)
    have h := h v4 e5
    refine q_aload_n o dX7_forgetLate_15 rfl ?_
    refine q_getR (q := 20) o sf_X7_forgetLate_15 hi0 dX7_forgetLate_16 ?_
    refine q_iload_n o dX7_forgetLate_19 rfl ?_
    refine q_iconst o dX7_forgetLate_20 (x := (0 : Int32)) (by decide) ?_
    refine q_iast (m := 11) o rfl rfl hi0 hn2 hx3 dX7_forgetLate_21 (fun v6 e7 => ?_)
    have h := h v6 e7
    refine q_iinc o (y := (a1 + (1 : Int32))) (lv' := [(1, .int (a1 + (1 : Int32))), (0, .ref (gA G 16 i0))]) dX7_forgetLate_22 rfl rfl (by decide) rfl ?_
    refine q_goto o 2 dX7_forgetLate_25 (by decide) ?_
    refine q_lv [1, 0] rfl ?_
    exact hK2 i0 (a1 + (1 : Int32)) hi0 v6 h
def wp_X7_forgetLate (i0 : Nat) (v : St3) (post : (St3 → Prop)) : Prop := wL_X7_forgetLate_2 post FU i0 (0 : Int32) v
set_option maxRecDepth 20000 in
set_option maxHeartbeats 4000000 in
theorem ad_X7_forgetLate (l : Launch) (G : Geo) (i0 : Nat) (hi0 : i0 < 12) (v : St3) {post : (St3 → Prop)} (h : wp_X7_forgetLate i0 v post) : CV l G yX7_forgetLate wsX7_forgetLate 0 [.ref (gA G 16 i0)] v post := by
  refine CV.of (cc := cX7_forgetLate) (maxL := 2) (by decide) rfl (Nat.le_of_ble_eq_true rfl) (fun X o rt => ?_)
  unfold wp_X7_forgetLate at h
  show J l G X 0 [(0, .ref (gA G 16 i0))] [] v
  refine q_iconst o dX7_forgetLate_0 (x := (0 : Int32)) (by decide) ?_
  refine q_istore_n o (lv' := [(1, .int (0 : Int32)), (0, .ref (gA G 16 i0))]) dX7_forgetLate_1 (by decide) rfl ?_
  refine q_lv [1, 0] rfl ?_
  exact aL_X7_forgetLate_2 o rt FU i0 (0 : Int32) hi0 v h
theorem pd_X7_forgetLate : (parseMethodDescriptor yX7_forgetLate.desc).map (fun d => d.parameters.length) = some 0 := by decide +kernel
-- PieceSwarm$Store.heldInAll()I
def wB_X6_heldInAll_4 (post : (Int32 → St3 → Prop)) (K4 : Nat → Int32 → Int32 → St3 → Prop) (i0 : Nat) (a1 : Int32) (a2 : Int32) (v : St3) : Prop := (((24 : Int32) ≤ a2 → post a1 v) ∧ (¬ (24 : Int32) ≤ a2 → wp_X6_heldOf i0 a2 v (fun r2 v1 => K4 i0 (a1 + r2) (a2 + (1 : Int32)) v1)))
def wL_X6_heldInAll_4 (post : (Int32 → St3 → Prop)) : Nat → Nat → Int32 → Int32 → St3 → Prop
  | 0, _, _, _, _ => False
  | f + 1, i0, a1, a2, v => wB_X6_heldInAll_4 post (wL_X6_heldInAll_4 post f) i0 a1 a2 v
set_option maxRecDepth 20000 in
set_option maxHeartbeats 4000000 in
theorem aL_X6_heldInAll_4 {l : Launch} {G : Geo} {X : CT} (o : OK G X cX6_heldInAll wsX6_heldInAll RX6 3 3) {post : (Int32 → St3 → Prop)} (rt : RI G X .int post) : ∀ (f : Nat) (i0 : Nat) (a1 : Int32) (a2 : Int32) (hi0 : i0 < 12) (v : St3), wL_X6_heldInAll_4 post f i0 a1 a2 v → J l G X 4 [(0, .ref (gA G 15 i0)), (1, .int a1), (2, .int a2)] [] v := by
  intro f
  induction f with
  | zero => intro _ _ _ _ _ h; exact False.elim h
  | succ f hK4 =>
  intro i0 a1 a2 hi0 v h
  have h : wB_X6_heldInAll_4 post (wL_X6_heldInAll_4 post f) i0 a1 a2 v := h
  unfold wB_X6_heldInAll_4 at h
  refine q_iload_n o dX6_heldInAll_4 rfl ?_
  refine q_bipush o dX6_heldInAll_5 (x := (24 : Int32)) (by decide) ?_
  refine q_ic_ge o 24 dX6_heldInAll_7 (by decide) (fun c3 => ?_) (fun c3 => ?_)
  · have h := h.1 c3
    refine q_iload_n o dX6_heldInAll_24 rfl ?_
    exact q_iret o rt dX6_heldInAll_25 h
  · have h := h.2 c3
    refine q_iload_n o dX6_heldInAll_10 rfl ?_
    refine q_aload_n o dX6_heldInAll_11 rfl ?_
    refine q_iload_n o dX6_heldInAll_12 rfl ?_
    refine q_callV o [.int a2] (ad_X6_heldOf l G i0 a2 hi0 v h) gX6_heldInAll_X6_heldOf rfl rfl rfl rfl hi0 ⟨rfl, by decide, by decide, pd_X6_heldOf⟩ (by decide) (by decide) rfl (Nat.le_of_ble_eq_true rfl) dX6_heldInAll_13 (fun r2 v1 h => ?_)
    refine q_iadd o dX6_heldInAll_16 ?_
    refine q_istore_n o (lv' := [(1, .int (a1 + r2)), (0, .ref (gA G 15 i0)), (2, .int a2)]) dX6_heldInAll_17 (by decide) rfl ?_
    refine q_iinc o (y := (a2 + (1 : Int32))) (lv' := [(2, .int (a2 + (1 : Int32))), (1, .int (a1 + r2)), (0, .ref (gA G 15 i0))]) dX6_heldInAll_18 rfl rfl (by decide) rfl ?_
    refine q_goto o 4 dX6_heldInAll_21 (by decide) ?_
    refine q_lv [2, 1, 0] rfl ?_
    exact hK4 i0 (a1 + r2) (a2 + (1 : Int32)) hi0 v1 h
def wp_X6_heldInAll (i0 : Nat) (v : St3) (post : (Int32 → St3 → Prop)) : Prop := wL_X6_heldInAll_4 post FU i0 (0 : Int32) (0 : Int32) v
set_option maxRecDepth 20000 in
set_option maxHeartbeats 4000000 in
theorem ad_X6_heldInAll (l : Launch) (G : Geo) (i0 : Nat) (hi0 : i0 < 12) (v : St3) {post : (Int32 → St3 → Prop)} (h : wp_X6_heldInAll i0 v post) : CI l G yX6_heldInAll wsX6_heldInAll 3 [.ref (gA G 15 i0)] v post := by
  refine CI.of (ty := .int) (cc := cX6_heldInAll) (maxL := 3) (by decide) rfl (Nat.le_of_ble_eq_true rfl) (fun X o rt => ?_)
  unfold wp_X6_heldInAll at h
  show J l G X 0 [(0, .ref (gA G 15 i0))] [] v
  refine q_iconst o dX6_heldInAll_0 (x := (0 : Int32)) (by decide) ?_
  refine q_istore_n o (lv' := [(1, .int (0 : Int32)), (0, .ref (gA G 15 i0))]) dX6_heldInAll_1 (by decide) rfl ?_
  refine q_iconst o dX6_heldInAll_2 (x := (0 : Int32)) (by decide) ?_
  refine q_istore_n o (lv' := [(2, .int (0 : Int32)), (1, .int (0 : Int32)), (0, .ref (gA G 15 i0))]) dX6_heldInAll_3 (by decide) rfl ?_
  refine q_lv [2, 1, 0] rfl ?_
  exact aL_X6_heldInAll_4 o rt FU i0 (0 : Int32) (0 : Int32) hi0 v h
theorem pd_X6_heldInAll : (parseMethodDescriptor yX6_heldInAll.desc).map (fun d => d.parameters.length) = some 0 := by decide +kernel
-- PieceSwarm$Store.isBare()Z
theorem inn_X6_isBare_X6 : ∀ w ∈ wsX60, w ∈ wsX6_isBare := by decide +kernel
theorem sf_X6_isBare_41 : SF wsX6_isBare RX6 41 15 3 0 := ⟨RX6, TX6, 6, rfl, rfl, rfl, rfl, by decide, inn_X6_isBare_X6, by decide +kernel⟩
theorem sf_X6_isBare_59 : SF wsX6_isBare RX6 59 15 5 0 := ⟨RX6, TX6, 6, rfl, rfl, rfl, rfl, by decide, inn_X6_isBare_X6, by decide +kernel⟩
def wp_X6_isBare (i0 : Nat) (v : St3) (post : (Int32 → St3 → Prop)) : Prop := ((¬ (v 15 i0 3) = 0 → post (0 : Int32) v) ∧ ((v 15 i0 3) = 0 → ((¬ (v 15 i0 5) = 0 → post (0 : Int32) v) ∧ ((v 15 i0 5) = 0 → wp_X6_heldInAll i0 v (fun r2 v1 => ((¬ r2 = 0 → post (0 : Int32) v1) ∧ (r2 = 0 → post (1 : Int32) v1)))))))
set_option maxRecDepth 20000 in
set_option maxHeartbeats 4000000 in
theorem ad_X6_isBare (l : Launch) (G : Geo) (i0 : Nat) (hi0 : i0 < 12) (v : St3) {post : (Int32 → St3 → Prop)} (h : wp_X6_isBare i0 v post) : CI l G yX6_isBare wsX6_isBare 4 [.ref (gA G 15 i0)] v post := by
  refine CI.of (ty := .boolean) (cc := cX6_isBare) (maxL := 1) (by decide) rfl (Nat.le_of_ble_eq_true rfl) (fun X o rt => ?_)
  unfold wp_X6_isBare at h
  show J l G X 0 [(0, .ref (gA G 15 i0))] [] v
  refine q_aload_n o dX6_isBare_0 rfl ?_
  refine q_getI o sf_X6_isBare_41 hi0 dX6_isBare_1 ?_
  refine q_if_ne o 25 dX6_isBare_4 (by decide) (fun c5 => ?_) (fun c5 => ?_)
  · have h := h.1 c5
    refine q_iconst o dX6_isBare_25 (x := (0 : Int32)) (by decide) ?_
    exact q_zret o rt dX6_isBare_26 (by decide) h
  · have h := h.2 c5
    refine q_aload_n o dX6_isBare_7 rfl ?_
    refine q_getI o sf_X6_isBare_59 hi0 dX6_isBare_8 ?_
    refine q_if_ne o 25 dX6_isBare_11 (by decide) (fun c4 => ?_) (fun c4 => ?_)
    · have h := h.1 c4
      refine q_iconst o dX6_isBare_25 (x := (0 : Int32)) (by decide) ?_
      exact q_zret o rt dX6_isBare_26 (by decide) h
    · have h := h.2 c4
      refine q_aload_n o dX6_isBare_14 rfl ?_
      refine q_callV o [] (ad_X6_heldInAll l G i0 hi0 v h) gX6_isBare_X6_heldInAll rfl rfl rfl rfl hi0 ⟨rfl, by decide, by decide, pd_X6_heldInAll⟩ (by decide) (by decide) rfl (Nat.le_of_ble_eq_true rfl) dX6_isBare_15 (fun r2 v1 h => ?_)
      refine q_if_ne o 25 dX6_isBare_18 (by decide) (fun c3 => ?_) (fun c3 => ?_)
      · have h := h.1 c3
        refine q_iconst o dX6_isBare_25 (x := (0 : Int32)) (by decide) ?_
        exact q_zret o rt dX6_isBare_26 (by decide) h
      · have h := h.2 c3
        refine q_iconst o dX6_isBare_21 (x := (1 : Int32)) (by decide) ?_
        refine q_goto o 26 dX6_isBare_22 (by decide) ?_
        exact q_zret o rt dX6_isBare_26 (by decide) h
theorem pd_X6_isBare : (parseMethodDescriptor yX6_isBare.desc).map (fun d => d.parameters.length) = some 0 := by decide +kernel
-- PieceSwarm$Whole.become(III)V
theorem inn_X8_become_X8 : ∀ w ∈ wsX80, w ∈ wsX8_become := by decide +kernel
theorem sp_X8_become_7 : SP wsX8_become RX8 7 5 0 := ⟨RX8, TX8, 3, tyX8, rfl, rfl, rfl, rfl, by decide, inn_X8_become_X8, by decide +kernel, tyX8_ok, nmX8, rfl, by decide +kernel⟩
theorem sp_X8_become_13 : SP wsX8_become RX8 13 5 1 := ⟨RX8, TX8, 3, tyX8, rfl, rfl, rfl, rfl, by decide, inn_X8_become_X8, by decide +kernel, tyX8_ok, nmX8, rfl, by decide +kernel⟩
theorem sp_X8_become_16 : SP wsX8_become RX8 16 5 2 := ⟨RX8, TX8, 3, tyX8, rfl, rfl, rfl, rfl, by decide, inn_X8_become_X8, by decide +kernel, tyX8_ok, nmX8, rfl, by decide +kernel⟩
def wp_X8_become (a1 : Int32) (a2 : Int32) (a3 : Int32) (v : St3) (post : (St3 → Prop)) : Prop := ∀ v1, v1 = up3 v 5 0 0 a1 → ∀ v3, v3 = up3 v1 5 0 1 a2 → ∀ v5, v5 = up3 v3 5 0 2 a3 → post v5
set_option maxRecDepth 20000 in
set_option maxHeartbeats 4000000 in
theorem ad_X8_become (l : Launch) (G : Geo) (a1 : Int32) (a2 : Int32) (a3 : Int32) (v : St3) {post : (St3 → Prop)} (h : wp_X8_become a1 a2 a3 v post) : CV l G yX8_become wsX8_become 0 [.ref (gA G 5 0), .int a1, .int a2, .int a3] v post := by
  refine CV.of (cc := cX8_become) (maxL := 4) (by decide) rfl (Nat.le_of_ble_eq_true rfl) (fun X o rt => ?_)
  unfold wp_X8_become at h
  show J l G X 0 [(0, .ref (gA G 5 0)), (1, .int a1), (2, .int a2), (3, .int a3)] [] v
  refine q_aload_n o dX8_become_0 rfl ?_
  refine q_iload_n o dX8_become_1 rfl ?_
  refine q_putI o sp_X8_become_7 (by decide) dX8_become_2 (fun v1 e2 => ?_)
  have h := h v1 e2
  refine q_aload_n o dX8_become_5 rfl ?_
  refine q_iload_n o dX8_become_6 rfl ?_
  refine q_putI o sp_X8_become_13 (by decide) dX8_become_7 (fun v3 e4 => ?_)
  have h := h v3 e4
  refine q_aload_n o dX8_become_10 rfl ?_
  refine q_iload_n o dX8_become_11 rfl ?_
  refine q_putI o sp_X8_become_16 (by decide) dX8_become_12 (fun v5 e6 => ?_)
  have h := h v5 e6
  exact q_vret o rt dX8_become_15 h
theorem pd_X8_become : (parseMethodDescriptor yX8_become.desc).map (fun d => d.parameters.length) = some 3 := by decide +kernel
-- PieceSwarm$Whole.isPiece(I)Z
theorem inn_X8_isPiece_X8 : ∀ w ∈ wsX80, w ∈ wsX8_isPiece := by decide +kernel
theorem sf_X8_isPiece_7 : SF wsX8_isPiece RX8 7 5 0 0 := ⟨RX8, TX8, 3, rfl, rfl, rfl, rfl, by decide, inn_X8_isPiece_X8, by decide +kernel⟩
def wp_X8_isPiece (a1 : Int32) (v : St3) (post : (Int32 → St3 → Prop)) : Prop := ((a1 < 0 → post (0 : Int32) v) ∧ (¬ a1 < 0 → (((v 5 0 0) ≤ a1 → post (0 : Int32) v) ∧ (¬ (v 5 0 0) ≤ a1 → post (1 : Int32) v))))
set_option maxRecDepth 20000 in
set_option maxHeartbeats 4000000 in
theorem ad_X8_isPiece (l : Launch) (G : Geo) (a1 : Int32) (v : St3) {post : (Int32 → St3 → Prop)} (h : wp_X8_isPiece a1 v post) : CI l G yX8_isPiece wsX8_isPiece 0 [.ref (gA G 5 0), .int a1] v post := by
  refine CI.of (ty := .boolean) (cc := cX8_isPiece) (maxL := 2) (by decide) rfl (Nat.le_of_ble_eq_true rfl) (fun X o rt => ?_)
  unfold wp_X8_isPiece at h
  show J l G X 0 [(0, .ref (gA G 5 0)), (1, .int a1)] [] v
  refine q_iload_n o dX8_isPiece_0 rfl ?_
  refine q_if_lt o 16 dX8_isPiece_1 (by decide) (fun c2 => ?_) (fun c2 => ?_)
  · have h := h.1 c2
    refine q_iconst o dX8_isPiece_16 (x := (0 : Int32)) (by decide) ?_
    exact q_zret o rt dX8_isPiece_17 (by decide) h
  · have h := h.2 c2
    refine q_iload_n o dX8_isPiece_4 rfl ?_
    refine q_aload_n o dX8_isPiece_5 rfl ?_
    refine q_getI o sf_X8_isPiece_7 (by decide) dX8_isPiece_6 ?_
    refine q_ic_ge o 16 dX8_isPiece_9 (by decide) (fun c1 => ?_) (fun c1 => ?_)
    · have h := h.1 c1
      refine q_iconst o dX8_isPiece_16 (x := (0 : Int32)) (by decide) ?_
      exact q_zret o rt dX8_isPiece_17 (by decide) h
    · have h := h.2 c1
      refine q_iconst o dX8_isPiece_12 (x := (1 : Int32)) (by decide) ?_
      refine q_goto o 17 dX8_isPiece_13 (by decide) ?_
      exact q_zret o rt dX8_isPiece_17 (by decide) h
theorem pd_X8_isPiece : (parseMethodDescriptor yX8_isPiece.desc).map (fun d => d.parameters.length) = some 1 := by decide +kernel
-- PieceSwarm$Whole.isBlock(II)Z
theorem inn_X8_isBlock_X8 : ∀ w ∈ wsX80, w ∈ wsX8_isBlock := by decide +kernel
theorem sf_X8_isBlock_13 : SF wsX8_isBlock RX8 13 5 1 0 := ⟨RX8, TX8, 3, rfl, rfl, rfl, rfl, by decide, inn_X8_isBlock_X8, by decide +kernel⟩
def wp_X8_isBlock (a1 : Int32) (a2 : Int32) (v : St3) (post : (Int32 → St3 → Prop)) : Prop := wp_X8_isPiece a1 v (fun r2 v1 => ((r2 = 0 → post (0 : Int32) v1) ∧ (¬ r2 = 0 → ((a2 < 0 → post (0 : Int32) v1) ∧ (¬ a2 < 0 → (((v1 5 0 1) ≤ a2 → post (0 : Int32) v1) ∧ (¬ (v1 5 0 1) ≤ a2 → post (1 : Int32) v1)))))))
set_option maxRecDepth 20000 in
set_option maxHeartbeats 4000000 in
theorem ad_X8_isBlock (l : Launch) (G : Geo) (a1 : Int32) (a2 : Int32) (v : St3) {post : (Int32 → St3 → Prop)} (h : wp_X8_isBlock a1 a2 v post) : CI l G yX8_isBlock wsX8_isBlock 1 [.ref (gA G 5 0), .int a1, .int a2] v post := by
  refine CI.of (ty := .boolean) (cc := cX8_isBlock) (maxL := 3) (by decide) rfl (Nat.le_of_ble_eq_true rfl) (fun X o rt => ?_)
  unfold wp_X8_isBlock at h
  show J l G X 0 [(0, .ref (gA G 5 0)), (1, .int a1), (2, .int a2)] [] v
  refine q_aload_n o dX8_isBlock_0 rfl ?_
  refine q_iload_n o dX8_isBlock_1 rfl ?_
  refine q_callV o [.int a1] (ad_X8_isPiece l G a1 v h) gX8_isBlock_X8_isPiece rfl rfl rfl rfl (by decide) ⟨rfl, by decide, by decide, pd_X8_isPiece⟩ (by decide) (by decide) rfl (Nat.le_of_ble_eq_true rfl) dX8_isBlock_2 (fun r2 v1 h => ?_)
  refine q_if_eq o 24 dX8_isBlock_5 (by decide) (fun c5 => ?_) (fun c5 => ?_)
  · have h := h.1 c5
    refine q_iconst o dX8_isBlock_24 (x := (0 : Int32)) (by decide) ?_
    exact q_zret o rt dX8_isBlock_25 (by decide) h
  · have h := h.2 c5
    refine q_iload_n o dX8_isBlock_8 rfl ?_
    refine q_if_lt o 24 dX8_isBlock_9 (by decide) (fun c4 => ?_) (fun c4 => ?_)
    · have h := h.1 c4
      refine q_iconst o dX8_isBlock_24 (x := (0 : Int32)) (by decide) ?_
      exact q_zret o rt dX8_isBlock_25 (by decide) h
    · have h := h.2 c4
      refine q_iload_n o dX8_isBlock_12 rfl ?_
      refine q_aload_n o dX8_isBlock_13 rfl ?_
      refine q_getI o sf_X8_isBlock_13 (by decide) dX8_isBlock_14 ?_
      refine q_ic_ge o 24 dX8_isBlock_17 (by decide) (fun c3 => ?_) (fun c3 => ?_)
      · have h := h.1 c3
        refine q_iconst o dX8_isBlock_24 (x := (0 : Int32)) (by decide) ?_
        exact q_zret o rt dX8_isBlock_25 (by decide) h
      · have h := h.2 c3
        refine q_iconst o dX8_isBlock_20 (x := (1 : Int32)) (by decide) ?_
        refine q_goto o 25 dX8_isBlock_21 (by decide) ?_
        exact q_zret o rt dX8_isBlock_25 (by decide) h
theorem pd_X8_isBlock : (parseMethodDescriptor yX8_isBlock.desc).map (fun d => d.parameters.length) = some 2 := by decide +kernel
-- PieceSwarm.isWithin(III)Z
def wp_X9_isWithin (a0 : Int32) (a1 : Int32) (a2 : Int32) (v : St3) (post : (Int32 → St3 → Prop)) : Prop := ((a0 < a1 → post (0 : Int32) v) ∧ (¬ a0 < a1 → ((a2 < a0 → post (0 : Int32) v) ∧ (¬ a2 < a0 → post (1 : Int32) v))))
set_option maxRecDepth 20000 in
set_option maxHeartbeats 4000000 in
theorem ad_X9_isWithin (l : Launch) (G : Geo) (a0 : Int32) (a1 : Int32) (a2 : Int32) (v : St3) {post : (Int32 → St3 → Prop)} (h : wp_X9_isWithin a0 a1 a2 v post) : CI l G yX9_isWithin wsX9_isWithin 0 [.int a0, .int a1, .int a2] v post := by
  refine CI.of (ty := .boolean) (cc := cX9_isWithin) (maxL := 3) (by decide) rfl (Nat.le_of_ble_eq_true rfl) (fun X o rt => ?_)
  unfold wp_X9_isWithin at h
  show J l G X 0 [(0, .int a0), (1, .int a1), (2, .int a2)] [] v
  refine q_iload_n o dX9_isWithin_0 rfl ?_
  refine q_iload_n o dX9_isWithin_1 rfl ?_
  refine q_ic_lt o 14 dX9_isWithin_2 (by decide) (fun c2 => ?_) (fun c2 => ?_)
  · have h := h.1 c2
    refine q_iconst o dX9_isWithin_14 (x := (0 : Int32)) (by decide) ?_
    exact q_zret o rt dX9_isWithin_15 (by decide) h
  · have h := h.2 c2
    refine q_iload_n o dX9_isWithin_5 rfl ?_
    refine q_iload_n o dX9_isWithin_6 rfl ?_
    refine q_ic_gt o 14 dX9_isWithin_7 (by decide) (fun c1 => ?_) (fun c1 => ?_)
    · have h := h.1 c1
      refine q_iconst o dX9_isWithin_14 (x := (0 : Int32)) (by decide) ?_
      exact q_zret o rt dX9_isWithin_15 (by decide) h
    · have h := h.2 c1
      refine q_iconst o dX9_isWithin_10 (x := (1 : Int32)) (by decide) ?_
      refine q_goto o 15 dX9_isWithin_11 (by decide) ?_
      exact q_zret o rt dX9_isWithin_15 (by decide) h
theorem pd_X9_isWithin : (parseMethodDescriptor yX9_isWithin.desc).map (fun d => d.parameters.length) = some 3 := by decide +kernel
-- PieceSwarm.cutUp(II)I
def wp_X9_cutUp (a0 : Int32) (a1 : Int32) (v : St3) (post : (Int32 → St3 → Prop)) : Prop := ((0 < a1 → ¬ a1 = 0 ∧ post (((a0 + a1) - (1 : Int32)) / a1) v) ∧ (¬ 0 < a1 → post (0 : Int32) v))
set_option maxRecDepth 20000 in
set_option maxHeartbeats 4000000 in
theorem ad_X9_cutUp (l : Launch) (G : Geo) (a0 : Int32) (a1 : Int32) (v : St3) {post : (Int32 → St3 → Prop)} (h : wp_X9_cutUp a0 a1 v post) : CI l G yX9_cutUp wsX9_cutUp 0 [.int a0, .int a1] v post := by
  refine CI.of (ty := .int) (cc := cX9_cutUp) (maxL := 2) (by decide) rfl (Nat.le_of_ble_eq_true rfl) (fun X o rt => ?_)
  unfold wp_X9_cutUp at h
  show J l G X 0 [(0, .int a0), (1, .int a1)] [] v
  refine q_iload_n o dX9_cutUp_0 rfl ?_
  refine q_if_gt o 8 dX9_cutUp_1 (by decide) (fun c2 => ?_) (fun c2 => ?_)
  · have h := h.1 c2
    refine q_iload_n o dX9_cutUp_8 rfl ?_
    refine q_iload_n o dX9_cutUp_9 rfl ?_
    refine q_iadd o dX9_cutUp_10 ?_
    refine q_iconst o dX9_cutUp_11 (x := (1 : Int32)) (by decide) ?_
    refine q_isub o dX9_cutUp_12 ?_
    refine q_iload_n o dX9_cutUp_13 rfl ?_
    obtain ⟨hz1, h⟩ := h
    refine q_idiv o dX9_cutUp_14 hz1 ?_
    exact q_iret o rt dX9_cutUp_15 h
  · have h := h.2 c2
    refine q_iconst o dX9_cutUp_4 (x := (0 : Int32)) (by decide) ?_
    refine q_goto o 15 dX9_cutUp_5 (by decide) ?_
    exact q_iret o rt dX9_cutUp_15 h
theorem pd_X9_cutUp : (parseMethodDescriptor yX9_cutUp.desc).map (fun d => d.parameters.length) = some 2 := by decide +kernel
