-- PieceSwarm$Arrival.isSpare(LPieceSwarm$Store;III)Z
theorem inn_X0_isSpare_X6 : ∀ w ∈ wsX60, w ∈ wsX0_isSpare := by decide +kernel
theorem sf_X0_isSpare_118 : SF wsX0_isSpare RX0 118 15 3 0 := ⟨RX6, TX6, 6, rfl, rfl, rfl, rfl, by decide, inn_X0_isSpare_X6, by decide +kernel⟩
theorem wini_X0_isSpare_X9_isIn : Cond.initialized yX9_isIn.cls ∈ wsX0_isSpare := by decide +kernel
theorem wsta_X0_isSpare_X9_isIn : Cond.static yX9_isIn ∈ wsX0_isSpare := by decide +kernel
theorem sf_X0_isSpare_130 : SF wsX0_isSpare RX0 130 15 4 0 := ⟨RX6, TX6, 6, rfl, rfl, rfl, rfl, by decide, inn_X0_isSpare_X6, by decide +kernel⟩
def wp_X0_isSpare (i1 : Nat) (a2 : Int32) (a3 : Int32) (a4 : Int32) (v : St3) (post : (Int32 → St3 → Prop)) : Prop := wp_X9_isIn (v 15 i1 3) a3 v (fun r2 v1 => ((¬ r2 = 0 → post (1 : Int32) v1) ∧ (r2 = 0 → wp_X6_holds i1 a3 a4 v1 (fun r4 v3 => ((r4 = 0 → wp_X9_isIn (v3 15 i1 4) a3 v3 (fun r6 v5 => ((r6 = 0 → post (0 : Int32) v5) ∧ (¬ r6 = 0 → wp_X6_giversOf i1 a3 v5 (fun r8 v7 => (((r8 &&& (((1 : Int32) <<< (a2 &&& 31)) ^^^ (-1 : Int32))) = 0 → post (0 : Int32) v7) ∧ (¬ (r8 &&& (((1 : Int32) <<< (a2 &&& 31)) ^^^ (-1 : Int32))) = 0 → post (1 : Int32) v7))))))) ∧ (¬ r4 = 0 → post (1 : Int32) v3))))))
set_option maxRecDepth 20000 in
set_option maxHeartbeats 4000000 in
theorem ad_X0_isSpare (l : Launch) (G : Geo) (i1 : Nat) (a2 : Int32) (a3 : Int32) (a4 : Int32) (hi1 : i1 < 12) (v : St3) {post : (Int32 → St3 → Prop)} (h : wp_X0_isSpare i1 a2 a3 a4 v post) : CI l G yX0_isSpare wsX0_isSpare 2 [.ref (gA G 2 0), .ref (gA G 15 i1), .int a2, .int a3, .int a4] v post := by
  refine CI.of (ty := .boolean) (cc := cX0_isSpare) (maxL := 5) (by decide) rfl (Nat.le_of_ble_eq_true rfl) (fun X o rt => ?_)
  unfold wp_X0_isSpare at h
  show J l G X 0 [(0, .ref (gA G 2 0)), (1, .ref (gA G 15 i1)), (2, .int a2), (3, .int a3), (4, .int a4)] [] v
  refine q_aload_n o dX0_isSpare_0 rfl ?_
  refine q_getI o sf_X0_isSpare_118 hi1 dX0_isSpare_1 ?_
  refine q_iload_n o dX0_isSpare_4 rfl ?_
  refine q_callN o [.int (v 15 i1 3), .int a3] (ad_X9_isIn l G (v 15 i1 3) a3 v h) gX0_isSpare_X9_isIn_n121 rfl (by decide +kernel) wini_X0_isSpare_X9_isIn wsta_X0_isSpare_X9_isIn ⟨by decide, by decide, pd_X9_isIn⟩ (by decide) (by decide) rfl (Nat.le_of_ble_eq_true rfl) dX0_isSpare_5 (fun r2 v1 h => ?_)
  refine q_if_ne o 21 dX0_isSpare_8 (by decide) (fun c12 => ?_) (fun c12 => ?_)
  · have h := h.1 c12
    refine q_iconst o dX0_isSpare_21 (x := (1 : Int32)) (by decide) ?_
    exact q_zret o rt dX0_isSpare_22 (by decide) h
  · have h := h.2 c12
    refine q_aload_n o dX0_isSpare_11 rfl ?_
    refine q_iload_n o dX0_isSpare_12 rfl ?_
    refine q_iload o dX0_isSpare_13 rfl ?_
    refine q_callV o [.int a3, .int a4] (ad_X6_holds l G i1 a3 a4 hi1 v1 h) gX0_isSpare_X6_holds rfl rfl rfl rfl hi1 ⟨rfl, by decide, by decide, pd_X6_holds⟩ (by decide) (by decide) rfl (Nat.le_of_ble_eq_true rfl) dX0_isSpare_15 (fun r4 v3 h => ?_)
    refine q_if_eq o 23 dX0_isSpare_18 (by decide) (fun c11 => ?_) (fun c11 => ?_)
    · have h := h.1 c11
      refine q_aload_n o dX0_isSpare_23 rfl ?_
      refine q_getI o sf_X0_isSpare_130 hi1 dX0_isSpare_24 ?_
      refine q_iload_n o dX0_isSpare_27 rfl ?_
      refine q_callN o [.int (v3 15 i1 4), .int a3] (ad_X9_isIn l G (v3 15 i1 4) a3 v3 h) gX0_isSpare_X9_isIn_n121 rfl (by decide +kernel) wini_X0_isSpare_X9_isIn wsta_X0_isSpare_X9_isIn ⟨by decide, by decide, pd_X9_isIn⟩ (by decide) (by decide) rfl (Nat.le_of_ble_eq_true rfl) dX0_isSpare_28 (fun r6 v5 h => ?_)
      refine q_if_eq o 52 dX0_isSpare_31 (by decide) (fun c10 => ?_) (fun c10 => ?_)
      · have h := h.1 c10
        refine q_iconst o dX0_isSpare_52 (x := (0 : Int32)) (by decide) ?_
        exact q_zret o rt dX0_isSpare_53 (by decide) h
      · have h := h.2 c10
        refine q_aload_n o dX0_isSpare_34 rfl ?_
        refine q_iload_n o dX0_isSpare_35 rfl ?_
        refine q_callV o [.int a3] (ad_X6_giversOf l G i1 a3 hi1 v5 h) gX0_isSpare_X6_giversOf rfl rfl rfl rfl hi1 ⟨rfl, by decide, by decide, pd_X6_giversOf⟩ (by decide) (by decide) rfl (Nat.le_of_ble_eq_true rfl) dX0_isSpare_36 (fun r8 v7 h => ?_)
        refine q_iconst o dX0_isSpare_39 (x := (1 : Int32)) (by decide) ?_
        refine q_iload_n o dX0_isSpare_40 rfl ?_
        refine q_ishl o dX0_isSpare_41 ?_
        refine q_iconst o dX0_isSpare_42 (x := (-1 : Int32)) (by decide) ?_
        refine q_ixor o dX0_isSpare_43 ?_
        refine q_iand o dX0_isSpare_44 ?_
        refine q_if_eq o 52 dX0_isSpare_45 (by decide) (fun c9 => ?_) (fun c9 => ?_)
        · have h := h.1 c9
          refine q_iconst o dX0_isSpare_52 (x := (0 : Int32)) (by decide) ?_
          exact q_zret o rt dX0_isSpare_53 (by decide) h
        · have h := h.2 c9
          refine q_iconst o dX0_isSpare_48 (x := (1 : Int32)) (by decide) ?_
          refine q_goto o 53 dX0_isSpare_49 (by decide) ?_
          exact q_zret o rt dX0_isSpare_53 (by decide) h
    · have h := h.2 c11
      refine q_iconst o dX0_isSpare_21 (x := (1 : Int32)) (by decide) ?_
      exact q_zret o rt dX0_isSpare_22 (by decide) h
theorem pd_X0_isSpare : (parseMethodDescriptor yX0_isSpare.desc).map (fun d => d.parameters.length) = some 4 := by decide +kernel
-- PieceSwarm$Arrival.complete(LPieceSwarm$Member;I)V
theorem inn_X0_complete_X3 : ∀ w ∈ wsX30, w ∈ wsX0_complete := by decide +kernel
theorem sf_X0_complete_59 : SF wsX0_complete RX0 59 14 0 15 := ⟨RX3, TX3, 13, rfl, rfl, rfl, rfl, by decide, inn_X0_complete_X3, by decide +kernel⟩
theorem inn_X0_complete_X6 : ∀ w ∈ wsX60, w ∈ wsX0_complete := by decide +kernel
theorem sf_X0_complete_118 : SF wsX0_complete RX0 118 15 3 0 := ⟨RX6, TX6, 6, rfl, rfl, rfl, rfl, by decide, inn_X0_complete_X6, by decide +kernel⟩
theorem sp_X0_complete_118 : SP wsX0_complete RX0 118 15 3 := ⟨RX6, TX6, 6, tyX6, rfl, rfl, rfl, rfl, by decide, inn_X0_complete_X6, by decide +kernel, tyX6_ok, nmX6, rfl, by decide +kernel⟩
theorem inn_X0_complete_X0 : ∀ w ∈ wsX00, w ∈ wsX0_complete := by decide +kernel
theorem sf_X0_complete_7 : SF wsX0_complete RX0 7 2 0 1 := ⟨RX0, TX0, 1, rfl, rfl, rfl, rfl, by decide, inn_X0_complete_X0, by decide +kernel⟩
theorem inn_X0_complete_X2 : ∀ w ∈ wsX20, w ∈ wsX0_complete := by decide +kernel
theorem sf_X0_complete_97 : SF wsX0_complete RX0 97 1 0 5 := ⟨RX2, TX2, 8, rfl, rfl, rfl, rfl, by decide, inn_X0_complete_X2, by decide +kernel⟩
theorem sf_X0_complete_29 : SF wsX0_complete RX0 29 1 5 0 := ⟨RX2, TX2, 8, rfl, rfl, rfl, rfl, by decide, inn_X0_complete_X2, by decide +kernel⟩
theorem sp_X0_complete_140 : SP wsX0_complete RX0 140 14 6 := ⟨RX3, TX3, 13, tyX3, rfl, rfl, rfl, rfl, by decide, inn_X0_complete_X3, by decide +kernel, tyX3_ok, nmX3, rfl, by decide +kernel⟩
def wp_X0_complete (i1 : Nat) (a2 : Int32) (v : St3) (post : (St3 → Prop)) : Prop := ∀ v1, v1 = up3 v 15 i1 3 ((v 15 i1 3) ||| ((1 : Int32) <<< (a2 &&& 31))) → wp_X8_allPieces v1 (fun r4 v3 => ((¬ (v1 15 i1 3) = r4 → post v3) ∧ ((v1 15 i1 3) = r4 → ∀ v5, v5 = up3 v3 14 i1 6 (v3 1 0 5) → post v5)))
set_option maxRecDepth 20000 in
set_option maxHeartbeats 4000000 in
theorem ad_X0_complete (l : Launch) (G : Geo) (i1 : Nat) (a2 : Int32) (hi1 : i1 < 12) (v : St3) {post : (St3 → Prop)} (h : wp_X0_complete i1 a2 v post) : CV l G yX0_complete wsX0_complete 1 [.ref (gA G 2 0), .ref (gA G 14 i1), .int a2] v post := by
  refine CV.of (cc := cX0_complete) (maxL := 3) (by decide) rfl (Nat.le_of_ble_eq_true rfl) (fun X o rt => ?_)
  unfold wp_X0_complete at h
  show J l G X 0 [(0, .ref (gA G 2 0)), (1, .ref (gA G 14 i1)), (2, .int a2)] [] v
  refine q_aload_n o dX0_complete_0 rfl ?_
  refine q_getR (q := 14) o sf_X0_complete_59 hi1 dX0_complete_1 ?_
  refine q_dup o dX0_complete_4 rfl ?_
  refine q_getI o sf_X0_complete_118 hi1 dX0_complete_5 ?_
  refine q_iconst o dX0_complete_8 (x := (1 : Int32)) (by decide) ?_
  refine q_iload_n o dX0_complete_9 rfl ?_
  refine q_ishl o dX0_complete_10 ?_
  refine q_ior o dX0_complete_11 ?_
  refine q_putI o sp_X0_complete_118 hi1 dX0_complete_12 (fun v1 e2 => ?_)
  have h := h v1 e2
  refine q_aload_n o dX0_complete_15 rfl ?_
  refine q_getR (q := 14) o sf_X0_complete_59 hi1 dX0_complete_16 ?_
  refine q_getI o sf_X0_complete_118 hi1 dX0_complete_19 ?_
  refine q_aload_n o dX0_complete_22 rfl ?_
  refine q_getR (q := 0) o sf_X0_complete_7 (by decide) dX0_complete_23 ?_
  refine q_getR (q := 4) o sf_X0_complete_97 (by decide) dX0_complete_26 ?_
  refine q_callV o [] (ad_X8_allPieces l G v1 h) gX0_complete_X8_allPieces rfl rfl rfl rfl (by decide) ⟨rfl, by decide, by decide, pd_X8_allPieces⟩ (by decide) (by decide) rfl (Nat.le_of_ble_eq_true rfl) dX0_complete_29 (fun r4 v3 h => ?_)
  refine q_ic_ne o 46 dX0_complete_32 (by decide) (fun c7 => ?_) (fun c7 => ?_)
  · have h := h.1 c7
    exact q_vret o rt dX0_complete_46 h
  · have h := h.2 c7
    refine q_aload_n o dX0_complete_35 rfl ?_
    refine q_aload_n o dX0_complete_36 rfl ?_
    refine q_getR (q := 0) o sf_X0_complete_7 (by decide) dX0_complete_37 ?_
    refine q_getI o sf_X0_complete_29 (by decide) dX0_complete_40 ?_
    refine q_putI o sp_X0_complete_140 hi1 dX0_complete_43 (fun v5 e6 => ?_)
    have h := h v5 e6
    exact q_vret o rt dX0_complete_46 h
theorem pd_X0_complete : (parseMethodDescriptor yX0_complete.desc).map (fun d => d.parameters.length) = some 2 := by decide +kernel
-- PieceSwarm$Arrival.ban(II)V
theorem inn_X0_ban_X0 : ∀ w ∈ wsX00, w ∈ wsX0_ban := by decide +kernel
theorem sf_X0_ban_7 : SF wsX0_ban RX0 7 2 0 1 := ⟨RX0, TX0, 1, rfl, rfl, rfl, rfl, by decide, inn_X0_ban_X0, by decide +kernel⟩
theorem inn_X0_ban_X2 : ∀ w ∈ wsX20, w ∈ wsX0_ban := by decide +kernel
theorem sf_X0_ban_55 : SF wsX0_ban RX0 55 1 1 13 := ⟨RX2, TX2, 8, rfl, rfl, rfl, rfl, by decide, inn_X0_ban_X2, by decide +kernel⟩
theorem inn_X0_ban_X3 : ∀ w ∈ wsX30, w ∈ wsX0_ban := by decide +kernel
theorem sf_X0_ban_73 : SF wsX0_ban RX0 73 14 1 16 := ⟨RX3, TX3, 13, rfl, rfl, rfl, rfl, by decide, inn_X0_ban_X3, by decide +kernel⟩
theorem inn_X0_ban_X7 : ∀ w ∈ wsX70, w ∈ wsX0_ban := by decide +kernel
theorem sf_X0_ban_159 : SF wsX0_ban RX0 159 16 5 0 := ⟨RX7, TX7, 10, rfl, rfl, rfl, rfl, by decide, inn_X0_ban_X7, by decide +kernel⟩
theorem sp_X0_ban_159 : SP wsX0_ban RX0 159 16 5 := ⟨RX7, TX7, 10, tyX7, rfl, rfl, rfl, rfl, by decide, inn_X0_ban_X7, by decide +kernel, tyX7_ok, nmX7, rfl, by decide +kernel⟩
theorem sf_X0_ban_162 : SF wsX0_ban RX0 162 16 6 0 := ⟨RX7, TX7, 10, rfl, rfl, rfl, rfl, by decide, inn_X0_ban_X7, by decide +kernel⟩
theorem sp_X0_ban_162 : SP wsX0_ban RX0 162 16 6 := ⟨RX7, TX7, 10, tyX7, rfl, rfl, rfl, rfl, by decide, inn_X0_ban_X7, by decide +kernel, tyX7_ok, nmX7, rfl, by decide +kernel⟩
theorem sf_X0_ban_165 : SF wsX0_ban RX0 165 16 7 0 := ⟨RX7, TX7, 10, rfl, rfl, rfl, rfl, by decide, inn_X0_ban_X7, by decide +kernel⟩
theorem sp_X0_ban_165 : SP wsX0_ban RX0 165 16 7 := ⟨RX7, TX7, 10, tyX7, rfl, rfl, rfl, rfl, by decide, inn_X0_ban_X7, by decide +kernel, tyX7_ok, nmX7, rfl, by decide +kernel⟩
def wp_X0_ban (a1 : Int32) (a2 : Int32) (v : St3) (post : (St3 → Prop)) : Prop := ∃ n1, n1 < 12 ∧ a1 = nI n1 ∧ ∃ n4, n4 < 12 ∧ a2 = nI n4 ∧ ∀ v7, v7 = up3 v 16 n1 5 ((v 16 n1 5) ||| ((1 : Int32) <<< (a2 &&& 31))) → ∀ v9, v9 = up3 v7 16 n4 6 ((v7 16 n4 6) ||| ((1 : Int32) <<< (a1 &&& 31))) → ∀ v11, v11 = up3 v9 16 n1 7 ((v9 16 n1 7) &&& (((1 : Int32) <<< (a2 &&& 31)) ^^^ (-1 : Int32))) → ∀ v13, v13 = up3 v11 16 n4 7 ((v11 16 n4 7) &&& (((1 : Int32) <<< (a1 &&& 31)) ^^^ (-1 : Int32))) → post v13
set_option maxRecDepth 20000 in
set_option maxHeartbeats 4000000 in
theorem ad_X0_ban (l : Launch) (G : Geo) (a1 : Int32) (a2 : Int32) (v : St3) {post : (St3 → Prop)} (h : wp_X0_ban a1 a2 v post) : CV l G yX0_ban wsX0_ban 0 [.ref (gA G 2 0), .int a1, .int a2] v post := by
  refine CV.of (cc := cX0_ban) (maxL := 5) (by decide) rfl (Nat.le_of_ble_eq_true rfl) (fun X o rt => ?_)
  unfold wp_X0_ban at h
  show J l G X 0 [(0, .ref (gA G 2 0)), (1, .int a1), (2, .int a2)] [] v
  refine q_aload_n o dX0_ban_0 rfl ?_
  refine q_getR (q := 0) o sf_X0_ban_7 (by decide) dX0_ban_1 ?_
  refine q_getR (q := 12) o sf_X0_ban_55 (by decide) dX0_ban_4 ?_
  refine q_iload_n o dX0_ban_7 rfl ?_
  obtain ⟨n1, hn2, hx3, h⟩ := h
  refine q_mald o hn2 hx3 dX0_ban_8 ?_
  refine q_getR (q := 15) o sf_X0_ban_73 hn2 dX0_ban_9 ?_
  refine q_astore_n o (lv' := [(3, .ref (gA G 16 n1)), (0, .ref (gA G 2 0)), (1, .int a1), (2, .int a2)]) dX0_ban_12 (by decide) rfl ?_
  refine q_aload_n o dX0_ban_13 rfl ?_
  refine q_getR (q := 0) o sf_X0_ban_7 (by decide) dX0_ban_14 ?_
  refine q_getR (q := 12) o sf_X0_ban_55 (by decide) dX0_ban_17 ?_
  refine q_iload_n o dX0_ban_20 rfl ?_
  obtain ⟨n4, hn5, hx6, h⟩ := h
  refine q_mald o hn5 hx6 dX0_ban_21 ?_
  refine q_getR (q := 15) o sf_X0_ban_73 hn5 dX0_ban_22 ?_
  refine q_astore o (lv' := [(4, .ref (gA G 16 n4)), (3, .ref (gA G 16 n1)), (0, .ref (gA G 2 0)), (1, .int a1), (2, .int a2)]) dX0_ban_25 (by decide) rfl ?_
  refine q_aload_n o dX0_ban_27 rfl ?_
  refine q_dup o dX0_ban_28 rfl ?_
  refine q_getI o sf_X0_ban_159 hn2 dX0_ban_29 ?_
  refine q_iconst o dX0_ban_32 (x := (1 : Int32)) (by decide) ?_
  refine q_iload_n o dX0_ban_33 rfl ?_
  refine q_ishl o dX0_ban_34 ?_
  refine q_ior o dX0_ban_35 ?_
  refine q_putI o sp_X0_ban_159 hn2 dX0_ban_36 (fun v7 e8 => ?_)
  have h := h v7 e8
  refine q_aload o dX0_ban_39 rfl ?_
  refine q_dup o dX0_ban_41 rfl ?_
  refine q_getI o sf_X0_ban_162 hn5 dX0_ban_42 ?_
  refine q_iconst o dX0_ban_45 (x := (1 : Int32)) (by decide) ?_
  refine q_iload_n o dX0_ban_46 rfl ?_
  refine q_ishl o dX0_ban_47 ?_
  refine q_ior o dX0_ban_48 ?_
  refine q_putI o sp_X0_ban_162 hn5 dX0_ban_49 (fun v9 e10 => ?_)
  have h := h v9 e10
  refine q_aload_n o dX0_ban_52 rfl ?_
  refine q_dup o dX0_ban_53 rfl ?_
  refine q_getI o sf_X0_ban_165 hn2 dX0_ban_54 ?_
  refine q_iconst o dX0_ban_57 (x := (1 : Int32)) (by decide) ?_
  refine q_iload_n o dX0_ban_58 rfl ?_
  refine q_ishl o dX0_ban_59 ?_
  refine q_iconst o dX0_ban_60 (x := (-1 : Int32)) (by decide) ?_
  refine q_ixor o dX0_ban_61 ?_
  refine q_iand o dX0_ban_62 ?_
  refine q_putI o sp_X0_ban_165 hn2 dX0_ban_63 (fun v11 e12 => ?_)
  have h := h v11 e12
  refine q_aload o dX0_ban_66 rfl ?_
  refine q_dup o dX0_ban_68 rfl ?_
  refine q_getI o sf_X0_ban_165 hn5 dX0_ban_69 ?_
  refine q_iconst o dX0_ban_72 (x := (1 : Int32)) (by decide) ?_
  refine q_iload_n o dX0_ban_73 rfl ?_
  refine q_ishl o dX0_ban_74 ?_
  refine q_iconst o dX0_ban_75 (x := (-1 : Int32)) (by decide) ?_
  refine q_ixor o dX0_ban_76 ?_
  refine q_iand o dX0_ban_77 ?_
  refine q_putI o sp_X0_ban_165 hn5 dX0_ban_78 (fun v13 e14 => ?_)
  have h := h v13 e14
  exact q_vret o rt dX0_ban_81 h
theorem pd_X0_ban : (parseMethodDescriptor yX0_ban.desc).map (fun d => d.parameters.length) = some 2 := by decide +kernel
-- PieceSwarm$Arrival.fail(II)V
theorem inn_X0_fail_X0 : ∀ w ∈ wsX00, w ∈ wsX0_fail := by decide +kernel
theorem sf_X0_fail_7 : SF wsX0_fail RX0 7 2 0 1 := ⟨RX0, TX0, 1, rfl, rfl, rfl, rfl, by decide, inn_X0_fail_X0, by decide +kernel⟩
theorem inn_X0_fail_X2 : ∀ w ∈ wsX20, w ∈ wsX0_fail := by decide +kernel
theorem sf_X0_fail_55 : SF wsX0_fail RX0 55 1 1 13 := ⟨RX2, TX2, 8, rfl, rfl, rfl, rfl, by decide, inn_X0_fail_X2, by decide +kernel⟩
theorem inn_X0_fail_X3 : ∀ w ∈ wsX30, w ∈ wsX0_fail := by decide +kernel
theorem sf_X0_fail_59 : SF wsX0_fail RX0 59 14 0 15 := ⟨RX3, TX3, 13, rfl, rfl, rfl, rfl, by decide, inn_X0_fail_X3, by decide +kernel⟩
theorem sf_X0_fail_143 : SF wsX0_fail RX0 143 1 3 0 := ⟨RX2, TX2, 8, rfl, rfl, rfl, rfl, by decide, inn_X0_fail_X2, by decide +kernel⟩
theorem inn_X0_fail_X6 : ∀ w ∈ wsX60, w ∈ wsX0_fail := by decide +kernel
theorem sf_X0_fail_130 : SF wsX0_fail RX0 130 15 4 0 := ⟨RX6, TX6, 6, rfl, rfl, rfl, rfl, by decide, inn_X0_fail_X6, by decide +kernel⟩
theorem sp_X0_fail_130 : SP wsX0_fail RX0 130 15 4 := ⟨RX6, TX6, 6, tyX6, rfl, rfl, rfl, rfl, by decide, inn_X0_fail_X6, by decide +kernel, tyX6_ok, nmX6, rfl, by decide +kernel⟩
theorem sf_X0_fail_156 : SF wsX0_fail RX0 156 14 10 0 := ⟨RX3, TX3, 13, rfl, rfl, rfl, rfl, by decide, inn_X0_fail_X3, by decide +kernel⟩
theorem sp_X0_fail_156 : SP wsX0_fail RX0 156 14 10 := ⟨RX3, TX3, 13, tyX3, rfl, rfl, rfl, rfl, by decide, inn_X0_fail_X3, by decide +kernel, tyX3_ok, nmX3, rfl, by decide +kernel⟩
theorem wini_X0_fail_X9_isIn : Cond.initialized yX9_isIn.cls ∈ wsX0_fail := by decide +kernel
theorem wsta_X0_fail_X9_isIn : Cond.static yX9_isIn ∈ wsX0_fail := by decide +kernel
theorem sf_X0_fail_73 : SF wsX0_fail RX0 73 14 1 16 := ⟨RX3, TX3, 13, rfl, rfl, rfl, rfl, by decide, inn_X0_fail_X3, by decide +kernel⟩
theorem inn_X0_fail_X7 : ∀ w ∈ wsX70, w ∈ wsX0_fail := by decide +kernel
theorem sf_X0_fail_146 : SF wsX0_fail RX0 146 16 3 23 := ⟨RX7, TX7, 10, rfl, rfl, rfl, rfl, by decide, inn_X0_fail_X7, by decide +kernel⟩
def wB_X0_fail_23 (post : (St3 → Prop)) (K23 : Int32 → Int32 → Nat → Int32 → Int32 → St3 → Prop) (a1 : Int32) (a2 : Int32) (i3 : Nat) (a4 : Int32) (a5 : Int32) (v : St3) : Prop := (((v 1 0 3) ≤ a5 → wp_X6_drop i3 a2 v (fun v6 => ∀ v8, v8 = up3 v6 15 i3 4 ((v6 15 i3 4) ||| ((1 : Int32) <<< (a2 &&& 31))) → ∀ v10, v10 = up3 v8 14 i3 10 ((v8 14 i3 10) + (1 : Int32)) → post v10)) ∧ (¬ (v 1 0 3) ≤ a5 → wp_X9_isIn a4 a5 v (fun r13 v12 => ((r13 = 0 → K23 a1 a2 i3 a4 (a5 + (1 : Int32)) v12) ∧ (¬ r13 = 0 → ∃ n14, n14 < 12 ∧ a5 = nI n14 ∧ ∀ v17, v17 = up3 v12 23 i3 n14 ((v12 23 i3 n14) + (1 : Int32)) → ((¬ a4 = ((1 : Int32) <<< (a5 &&& 31)) → K23 a1 a2 i3 a4 (a5 + (1 : Int32)) v17) ∧ (a4 = ((1 : Int32) <<< (a5 &&& 31)) → wp_X0_ban a1 a5 v17 (fun v19 => K23 a1 a2 i3 a4 (a5 + (1 : Int32)) v19))))))))
def wL_X0_fail_23 (post : (St3 → Prop)) : Nat → Int32 → Int32 → Nat → Int32 → Int32 → St3 → Prop
  | 0, _, _, _, _, _, _ => False
  | f + 1, a1, a2, i3, a4, a5, v => wB_X0_fail_23 post (wL_X0_fail_23 post f) a1 a2 i3 a4 a5 v
set_option maxRecDepth 20000 in
set_option maxHeartbeats 4000000 in
theorem aL_X0_fail_23 {l : Launch} {G : Geo} {X : CT} (o : OK G X cX0_fail wsX0_fail RX0 2 6) {post : (St3 → Prop)} (rt : RV G X post) : ∀ (f : Nat) (a1 : Int32) (a2 : Int32) (i3 : Nat) (a4 : Int32) (a5 : Int32) (hi3 : i3 < 12) (v : St3), wL_X0_fail_23 post f a1 a2 i3 a4 a5 v → J l G X 23 [(0, .ref (gA G 2 0)), (1, .int a1), (2, .int a2), (3, .ref (gA G 14 i3)), (4, .int a4), (5, .int a5)] [] v := by
  intro f
  induction f with
  | zero => intro _ _ _ _ _ _ _ h; exact False.elim h
  | succ f hK23 =>
  intro a1 a2 i3 a4 a5 hi3 v h
  have h : wB_X0_fail_23 post (wL_X0_fail_23 post f) a1 a2 i3 a4 a5 v := h
  unfold wB_X0_fail_23 at h
  refine q_iload o dX0_fail_23 rfl ?_
  refine q_aload_n o dX0_fail_25 rfl ?_
  refine q_getR (q := 0) o sf_X0_fail_7 (by decide) dX0_fail_26 ?_
  refine q_getI o sf_X0_fail_143 (by decide) dX0_fail_29 ?_
  refine q_ic_ge o 81 dX0_fail_32 (by decide) (fun c23 => ?_) (fun c23 => ?_)
  · have h := h.1 c23
    refine q_aload_n o dX0_fail_81 rfl ?_
    refine q_getR (q := 14) o sf_X0_fail_59 hi3 dX0_fail_82 ?_
    refine q_iload_n o dX0_fail_85 rfl ?_
    refine q_callVv o [.int a2] (ad_X6_drop l G i3 a2 hi3 v h) gX0_fail_X6_drop rfl rfl rfl rfl hi3 ⟨rfl, by decide, by decide, pd_X6_drop⟩ (by decide) (by decide) rfl (Nat.le_of_ble_eq_true rfl) dX0_fail_86 (fun v6 h => ?_)
    refine q_aload_n o dX0_fail_89 rfl ?_
    refine q_getR (q := 14) o sf_X0_fail_59 hi3 dX0_fail_90 ?_
    refine q_dup o dX0_fail_93 rfl ?_
    refine q_getI o sf_X0_fail_130 hi3 dX0_fail_94 ?_
    refine q_iconst o dX0_fail_97 (x := (1 : Int32)) (by decide) ?_
    refine q_iload_n o dX0_fail_98 rfl ?_
    refine q_ishl o dX0_fail_99 ?_
    refine q_ior o dX0_fail_100 ?_
    refine q_putI o sp_X0_fail_130 hi3 dX0_fail_101 (fun v8 e9 => ?_)
    have h := h v8 e9
    refine q_aload_n o dX0_fail_104 rfl ?_
    refine q_dup o dX0_fail_105 rfl ?_
    refine q_getI o sf_X0_fail_156 hi3 dX0_fail_106 ?_
    refine q_iconst o dX0_fail_109 (x := (1 : Int32)) (by decide) ?_
    refine q_iadd o dX0_fail_110 ?_
    refine q_putI o sp_X0_fail_156 hi3 dX0_fail_111 (fun v10 e11 => ?_)
    have h := h v10 e11
    exact q_vret o rt dX0_fail_114 h
  · have h := h.2 c23
    refine q_iload o dX0_fail_35 rfl ?_
    refine q_iload o dX0_fail_37 rfl ?_
    refine q_callN o [.int a4, .int a5] (ad_X9_isIn l G a4 a5 v h) gX0_fail_X9_isIn_n121 rfl (by decide +kernel) wini_X0_fail_X9_isIn wsta_X0_fail_X9_isIn ⟨by decide, by decide, pd_X9_isIn⟩ (by decide) (by decide) rfl (Nat.le_of_ble_eq_true rfl) dX0_fail_39 (fun r13 v12 h => ?_)
    refine q_if_eq o 75 dX0_fail_42 (by decide) (fun c22 => ?_) (fun c22 => ?_)
    · have h := h.1 c22
      refine q_iinc o (y := (a5 + (1 : Int32))) (lv' := [(5, .int (a5 + (1 : Int32))), (0, .ref (gA G 2 0)), (1, .int a1), (2, .int a2), (3, .ref (gA G 14 i3)), (4, .int a4)]) dX0_fail_75 rfl rfl (by decide) rfl ?_
      refine q_goto o 23 dX0_fail_78 (by decide) ?_
      refine q_lv [1, 2, 3, 4, 5, 0] rfl ?_
      exact hK23 a1 a2 i3 a4 (a5 + (1 : Int32)) hi3 v12 h
    · have h := h.2 c22
      refine q_aload_n o dX0_fail_45 rfl ?_
      refine q_getR (q := 15) o sf_X0_fail_73 hi3 dX0_fail_46 ?_
      refine q_getR (q := 22) o sf_X0_fail_146 hi3 dX0_fail_49 ?_
      refine q_iload o dX0_fail_52 rfl ?_
      refine q_dup2 o dX0_fail_54 rfl rfl ?_
      obtain ⟨n14, hn15, hx16, h⟩ := h
      refine q_iald (m := 11) o rfl rfl hi3 hn15 hx16 dX0_fail_55 ?_
      refine q_iconst o dX0_fail_56 (x := (1 : Int32)) (by decide) ?_
      refine q_iadd o dX0_fail_57 ?_
      refine q_iast (m := 11) o rfl rfl hi3 hn15 hx16 dX0_fail_58 (fun v17 e18 => ?_)
      have h := h v17 e18
      refine q_iload o dX0_fail_59 rfl ?_
      refine q_iconst o dX0_fail_61 (x := (1 : Int32)) (by decide) ?_
      refine q_iload o dX0_fail_62 rfl ?_
      refine q_ishl o dX0_fail_64 ?_
      refine q_ic_ne o 75 dX0_fail_65 (by decide) (fun c21 => ?_) (fun c21 => ?_)
      · have h := h.1 c21
        refine q_iinc o (y := (a5 + (1 : Int32))) (lv' := [(5, .int (a5 + (1 : Int32))), (0, .ref (gA G 2 0)), (1, .int a1), (2, .int a2), (3, .ref (gA G 14 i3)), (4, .int a4)]) dX0_fail_75 rfl rfl (by decide) rfl ?_
        refine q_goto o 23 dX0_fail_78 (by decide) ?_
        refine q_lv [1, 2, 3, 4, 5, 0] rfl ?_
        exact hK23 a1 a2 i3 a4 (a5 + (1 : Int32)) hi3 v17 h
      · have h := h.2 c21
        refine q_aload_n o dX0_fail_68 rfl ?_
        refine q_iload_n o dX0_fail_69 rfl ?_
        refine q_iload o dX0_fail_70 rfl ?_
        refine q_callVv o [.int a1, .int a5] (ad_X0_ban l G a1 a5 v17 h) gX0_fail_X0_ban rfl rfl rfl rfl (by decide) ⟨rfl, by decide, by decide, pd_X0_ban⟩ (by decide) (by decide) rfl (Nat.le_of_ble_eq_true rfl) dX0_fail_72 (fun v19 h => ?_)
        refine q_iinc o (y := (a5 + (1 : Int32))) (lv' := [(5, .int (a5 + (1 : Int32))), (0, .ref (gA G 2 0)), (1, .int a1), (2, .int a2), (3, .ref (gA G 14 i3)), (4, .int a4)]) dX0_fail_75 rfl rfl (by decide) rfl ?_
        refine q_goto o 23 dX0_fail_78 (by decide) ?_
        refine q_lv [1, 2, 3, 4, 5, 0] rfl ?_
        exact hK23 a1 a2 i3 a4 (a5 + (1 : Int32)) hi3 v19 h
def wp_X0_fail (a1 : Int32) (a2 : Int32) (v : St3) (post : (St3 → Prop)) : Prop := ∃ n1, n1 < 12 ∧ a1 = nI n1 ∧ wp_X6_giversOf n1 a2 v (fun r5 v4 => wL_X0_fail_23 post FU a1 a2 n1 r5 (0 : Int32) v4)
set_option maxRecDepth 20000 in
set_option maxHeartbeats 4000000 in
theorem ad_X0_fail (l : Launch) (G : Geo) (a1 : Int32) (a2 : Int32) (v : St3) {post : (St3 → Prop)} (h : wp_X0_fail a1 a2 v post) : CV l G yX0_fail wsX0_fail 2 [.ref (gA G 2 0), .int a1, .int a2] v post := by
  refine CV.of (cc := cX0_fail) (maxL := 6) (by decide) rfl (Nat.le_of_ble_eq_true rfl) (fun X o rt => ?_)
  unfold wp_X0_fail at h
  show J l G X 0 [(0, .ref (gA G 2 0)), (1, .int a1), (2, .int a2)] [] v
  refine q_aload_n o dX0_fail_0 rfl ?_
  refine q_getR (q := 0) o sf_X0_fail_7 (by decide) dX0_fail_1 ?_
  refine q_getR (q := 12) o sf_X0_fail_55 (by decide) dX0_fail_4 ?_
  refine q_iload_n o dX0_fail_7 rfl ?_
  obtain ⟨n1, hn2, hx3, h⟩ := h
  refine q_mald o hn2 hx3 dX0_fail_8 ?_
  refine q_astore_n o (lv' := [(3, .ref (gA G 14 n1)), (0, .ref (gA G 2 0)), (1, .int a1), (2, .int a2)]) dX0_fail_9 (by decide) rfl ?_
  refine q_aload_n o dX0_fail_10 rfl ?_
  refine q_getR (q := 14) o sf_X0_fail_59 hn2 dX0_fail_11 ?_
  refine q_iload_n o dX0_fail_14 rfl ?_
  refine q_callV o [.int a2] (ad_X6_giversOf l G n1 a2 hn2 v h) gX0_fail_X6_giversOf rfl rfl rfl rfl hn2 ⟨rfl, by decide, by decide, pd_X6_giversOf⟩ (by decide) (by decide) rfl (Nat.le_of_ble_eq_true rfl) dX0_fail_15 (fun r5 v4 h => ?_)
  refine q_istore o (lv' := [(4, .int r5), (3, .ref (gA G 14 n1)), (0, .ref (gA G 2 0)), (1, .int a1), (2, .int a2)]) dX0_fail_18 (by decide) rfl ?_
  refine q_iconst o dX0_fail_20 (x := (0 : Int32)) (by decide) ?_
  refine q_istore o (lv' := [(5, .int (0 : Int32)), (4, .int r5), (3, .ref (gA G 14 n1)), (0, .ref (gA G 2 0)), (1, .int a1), (2, .int a2)]) dX0_fail_21 (by decide) rfl ?_
  refine q_lv [3, 4, 5, 2, 1, 0] rfl ?_
  exact aL_X0_fail_23 o rt FU a1 a2 n1 r5 (0 : Int32) hn2 v4 h
theorem pd_X0_fail : (parseMethodDescriptor yX0_fail.desc).map (fun d => d.parameters.length) = some 2 := by decide +kernel
-- PieceSwarm$Arrival.take(IIIII)V
theorem inn_X0_take_X0 : ∀ w ∈ wsX00, w ∈ wsX0_take := by decide +kernel
theorem sf_X0_take_7 : SF wsX0_take RX0 7 2 0 1 := ⟨RX0, TX0, 1, rfl, rfl, rfl, rfl, by decide, inn_X0_take_X0, by decide +kernel⟩
theorem inn_X0_take_X2 : ∀ w ∈ wsX20, w ∈ wsX0_take := by decide +kernel
theorem sf_X0_take_55 : SF wsX0_take RX0 55 1 1 13 := ⟨RX2, TX2, 8, rfl, rfl, rfl, rfl, by decide, inn_X0_take_X2, by decide +kernel⟩
theorem inn_X0_take_X3 : ∀ w ∈ wsX30, w ∈ wsX0_take := by decide +kernel
theorem sf_X0_take_59 : SF wsX0_take RX0 59 14 0 15 := ⟨RX3, TX3, 13, rfl, rfl, rfl, rfl, by decide, inn_X0_take_X3, by decide +kernel⟩
theorem sf_X0_take_70 : SF wsX0_take RX0 70 14 7 0 := ⟨RX3, TX3, 13, rfl, rfl, rfl, rfl, by decide, inn_X0_take_X3, by decide +kernel⟩
theorem sp_X0_take_70 : SP wsX0_take RX0 70 14 7 := ⟨RX3, TX3, 13, tyX3, rfl, rfl, rfl, rfl, by decide, inn_X0_take_X3, by decide +kernel, tyX3_ok, nmX3, rfl, by decide +kernel⟩
theorem sf_X0_take_73 : SF wsX0_take RX0 73 14 1 16 := ⟨RX3, TX3, 13, rfl, rfl, rfl, rfl, by decide, inn_X0_take_X3, by decide +kernel⟩
theorem inn_X0_take_X7 : ∀ w ∈ wsX70, w ∈ wsX0_take := by decide +kernel
theorem sf_X0_take_77 : SF wsX0_take RX0 77 16 0 20 := ⟨RX7, TX7, 10, rfl, rfl, rfl, rfl, by decide, inn_X0_take_X7, by decide +kernel⟩
theorem sf_X0_take_97 : SF wsX0_take RX0 97 1 0 5 := ⟨RX2, TX2, 8, rfl, rfl, rfl, rfl, by decide, inn_X0_take_X2, by decide +kernel⟩
theorem inn_X0_take_X8 : ∀ w ∈ wsX80, w ∈ wsX0_take := by decide +kernel
theorem sf_X0_take_101 : SF wsX0_take RX0 101 5 1 0 := ⟨RX8, TX8, 3, rfl, rfl, rfl, rfl, by decide, inn_X0_take_X8, by decide +kernel⟩
theorem sf_X0_take_86 : SF wsX0_take RX0 86 14 9 0 := ⟨RX3, TX3, 13, rfl, rfl, rfl, rfl, by decide, inn_X0_take_X3, by decide +kernel⟩
theorem sp_X0_take_86 : SP wsX0_take RX0 86 14 9 := ⟨RX3, TX3, 13, tyX3, rfl, rfl, rfl, rfl, by decide, inn_X0_take_X3, by decide +kernel, tyX3_ok, nmX3, rfl, by decide +kernel⟩
def wp_X0_take (a1 : Int32) (a2 : Int32) (a3 : Int32) (a4 : Int32) (a5 : Int32) (v : St3) (post : (St3 → Prop)) : Prop := ∃ n1, n1 < 12 ∧ a1 = nI n1 ∧ wp_X6_expectNoMore n1 a3 a4 v (fun v4 => ∀ v6, v6 = up3 v4 14 n1 7 ((v4 14 n1 7) + (1 : Int32)) → ∃ n8, n8 < 12 ∧ a2 = nI n8 ∧ ∀ v11, v11 = up3 v6 20 n1 n8 ((v6 20 n1 n8) + (1 : Int32)) → wp_X0_isSpare n1 a2 a3 a4 v11 (fun r14 v13 => ((r14 = 0 → wp_X6_put n1 a3 a4 a2 a5 v13 (fun v15 => wp_X6_heldOf n1 a3 v15 (fun r18 v17 => (((v17 5 0 1) ≤ r18 → wp_X6_sumOf n1 a3 (v17 5 0 1) v17 (fun r20 v19 => wp_X8_sumOf a3 v19 (fun r22 v21 => ((¬ r20 = r22 → wp_X0_fail a1 a3 v21 (fun v23 => post v23)) ∧ (r20 = r22 → wp_X0_complete n1 a3 v21 (fun v25 => post v25)))))) ∧ (¬ (v17 5 0 1) ≤ r18 → post v17))))) ∧ (¬ r14 = 0 → ∀ v29, v29 = up3 v13 14 n1 9 ((v13 14 n1 9) + (1 : Int32)) → post v29))))
set_option maxRecDepth 20000 in
set_option maxHeartbeats 4000000 in
theorem ad_X0_take (l : Launch) (G : Geo) (a1 : Int32) (a2 : Int32) (a3 : Int32) (a4 : Int32) (a5 : Int32) (v : St3) {post : (St3 → Prop)} (h : wp_X0_take a1 a2 a3 a4 a5 v post) : CV l G yX0_take wsX0_take 3 [.ref (gA G 2 0), .int a1, .int a2, .int a3, .int a4, .int a5] v post := by
  refine CV.of (cc := cX0_take) (maxL := 8) (by decide) rfl (Nat.le_of_ble_eq_true rfl) (fun X o rt => ?_)
  unfold wp_X0_take at h
  show J l G X 0 [(0, .ref (gA G 2 0)), (1, .int a1), (2, .int a2), (3, .int a3), (4, .int a4), (5, .int a5)] [] v
  refine q_aload_n o dX0_take_0 rfl ?_
  refine q_getR (q := 0) o sf_X0_take_7 (by decide) dX0_take_1 ?_
  refine q_getR (q := 12) o sf_X0_take_55 (by decide) dX0_take_4 ?_
  refine q_iload_n o dX0_take_7 rfl ?_
  obtain ⟨n1, hn2, hx3, h⟩ := h
  refine q_mald o hn2 hx3 dX0_take_8 ?_
  refine q_astore o (lv' := [(6, .ref (gA G 14 n1)), (0, .ref (gA G 2 0)), (1, .int a1), (2, .int a2), (3, .int a3), (4, .int a4), (5, .int a5)]) dX0_take_9 (by decide) rfl ?_
  refine q_aload o dX0_take_11 rfl ?_
  refine q_getR (q := 14) o sf_X0_take_59 hn2 dX0_take_13 ?_
  refine q_astore o (lv' := [(7, .ref (gA G 15 n1)), (6, .ref (gA G 14 n1)), (0, .ref (gA G 2 0)), (1, .int a1), (2, .int a2), (3, .int a3), (4, .int a4), (5, .int a5)]) dX0_take_16 (by decide) rfl ?_
  refine q_aload o dX0_take_18 rfl ?_
  refine q_iload_n o dX0_take_20 rfl ?_
  refine q_iload o dX0_take_21 rfl ?_
  refine q_callVv o [.int a3, .int a4] (ad_X6_expectNoMore l G n1 a3 a4 hn2 v h) gX0_take_X6_expectNoMore rfl rfl rfl rfl hn2 ⟨rfl, by decide, by decide, pd_X6_expectNoMore⟩ (by decide) (by decide) rfl (Nat.le_of_ble_eq_true rfl) dX0_take_23 (fun v4 h => ?_)
  refine q_aload o dX0_take_26 rfl ?_
  refine q_dup o dX0_take_28 rfl ?_
  refine q_getI o sf_X0_take_70 hn2 dX0_take_29 ?_
  refine q_iconst o dX0_take_32 (x := (1 : Int32)) (by decide) ?_
  refine q_iadd o dX0_take_33 ?_
  refine q_putI o sp_X0_take_70 hn2 dX0_take_34 (fun v6 e7 => ?_)
  have h := h v6 e7
  refine q_aload o dX0_take_37 rfl ?_
  refine q_getR (q := 15) o sf_X0_take_73 hn2 dX0_take_39 ?_
  refine q_getR (q := 19) o sf_X0_take_77 hn2 dX0_take_42 ?_
  refine q_iload_n o dX0_take_45 rfl ?_
  refine q_dup2 o dX0_take_46 rfl rfl ?_
  obtain ⟨n8, hn9, hx10, h⟩ := h
  refine q_iald (m := 11) o rfl rfl hn2 hn9 hx10 dX0_take_47 ?_
  refine q_iconst o dX0_take_48 (x := (1 : Int32)) (by decide) ?_
  refine q_iadd o dX0_take_49 ?_
  refine q_iast (m := 11) o rfl rfl hn2 hn9 hx10 dX0_take_50 (fun v11 e12 => ?_)
  have h := h v11 e12
  refine q_aload_n o dX0_take_51 rfl ?_
  refine q_aload o dX0_take_52 rfl ?_
  refine q_iload_n o dX0_take_54 rfl ?_
  refine q_iload_n o dX0_take_55 rfl ?_
  refine q_iload o dX0_take_56 rfl ?_
  refine q_callV o [.ref (gA G 15 n1), .int a2, .int a3, .int a4] (ad_X0_isSpare l G n1 a2 a3 a4 hn2 v11 h) gX0_take_X0_isSpare rfl rfl rfl rfl (by decide) ⟨rfl, by decide, by decide, pd_X0_isSpare⟩ (by decide) (by decide) rfl (Nat.le_of_ble_eq_true rfl) dX0_take_58 (fun r14 v13 h => ?_)
  refine q_if_eq o 76 dX0_take_61 (by decide) (fun c31 => ?_) (fun c31 => ?_)
  · have h := h.1 c31
    refine q_aload o dX0_take_76 rfl ?_
    refine q_iload_n o dX0_take_78 rfl ?_
    refine q_iload o dX0_take_79 rfl ?_
    refine q_iload_n o dX0_take_81 rfl ?_
    refine q_iload o dX0_take_82 rfl ?_
    refine q_callVv o [.int a3, .int a4, .int a2, .int a5] (ad_X6_put l G n1 a3 a4 a2 a5 hn2 v13 h) gX0_take_X6_put rfl rfl rfl rfl hn2 ⟨rfl, by decide, by decide, pd_X6_put⟩ (by decide) (by decide) rfl (Nat.le_of_ble_eq_true rfl) dX0_take_84 (fun v15 h => ?_)
    refine q_aload o dX0_take_87 rfl ?_
    refine q_iload_n o dX0_take_89 rfl ?_
    refine q_callV o [.int a3] (ad_X6_heldOf l G n1 a3 hn2 v15 h) gX0_take_X6_heldOf rfl rfl rfl rfl hn2 ⟨rfl, by decide, by decide, pd_X6_heldOf⟩ (by decide) (by decide) rfl (Nat.le_of_ble_eq_true rfl) dX0_take_90 (fun r18 v17 h => ?_)
    refine q_aload_n o dX0_take_93 rfl ?_
    refine q_getR (q := 0) o sf_X0_take_7 (by decide) dX0_take_94 ?_
    refine q_getR (q := 4) o sf_X0_take_97 (by decide) dX0_take_97 ?_
    refine q_getI o sf_X0_take_101 (by decide) dX0_take_100 ?_
    refine q_ic_ge o 107 dX0_take_103 (by decide) (fun c28 => ?_) (fun c28 => ?_)
    · have h := h.1 c28
      refine q_aload o dX0_take_107 rfl ?_
      refine q_iload_n o dX0_take_109 rfl ?_
      refine q_aload_n o dX0_take_110 rfl ?_
      refine q_getR (q := 0) o sf_X0_take_7 (by decide) dX0_take_111 ?_
      refine q_getR (q := 4) o sf_X0_take_97 (by decide) dX0_take_114 ?_
      refine q_getI o sf_X0_take_101 (by decide) dX0_take_117 ?_
      refine q_callV o [.int a3, .int (v17 5 0 1)] (ad_X6_sumOf l G n1 a3 (v17 5 0 1) hn2 v17 h) gX0_take_X6_sumOf rfl rfl rfl rfl hn2 ⟨rfl, by decide, by decide, pd_X6_sumOf⟩ (by decide) (by decide) rfl (Nat.le_of_ble_eq_true rfl) dX0_take_120 (fun r20 v19 h => ?_)
      refine q_aload_n o dX0_take_123 rfl ?_
      refine q_getR (q := 0) o sf_X0_take_7 (by decide) dX0_take_124 ?_
      refine q_getR (q := 4) o sf_X0_take_97 (by decide) dX0_take_127 ?_
      refine q_iload_n o dX0_take_130 rfl ?_
      refine q_callV o [.int a3] (ad_X8_sumOf l G a3 v19 h) gX0_take_X8_sumOf rfl rfl rfl rfl (by decide) ⟨rfl, by decide, by decide, pd_X8_sumOf⟩ (by decide) (by decide) rfl (Nat.le_of_ble_eq_true rfl) dX0_take_131 (fun r22 v21 h => ?_)
      refine q_ic_ne o 147 dX0_take_134 (by decide) (fun c27 => ?_) (fun c27 => ?_)
      · have h := h.1 c27
        refine q_aload_n o dX0_take_147 rfl ?_
        refine q_iload_n o dX0_take_148 rfl ?_
        refine q_iload_n o dX0_take_149 rfl ?_
        refine q_callVv o [.int a1, .int a3] (ad_X0_fail l G a1 a3 v21 h) gX0_take_X0_fail rfl rfl rfl rfl (by decide) ⟨rfl, by decide, by decide, pd_X0_fail⟩ (by decide) (by decide) rfl (Nat.le_of_ble_eq_true rfl) dX0_take_150 (fun v23 h => ?_)
        exact q_vret o rt dX0_take_153 h
      · have h := h.2 c27
        refine q_aload_n o dX0_take_137 rfl ?_
        refine q_aload o dX0_take_138 rfl ?_
        refine q_iload_n o dX0_take_140 rfl ?_
        refine q_callVv o [.ref (gA G 14 n1), .int a3] (ad_X0_complete l G n1 a3 hn2 v21 h) gX0_take_X0_complete rfl rfl rfl rfl (by decide) ⟨rfl, by decide, by decide, pd_X0_complete⟩ (by decide) (by decide) rfl (Nat.le_of_ble_eq_true rfl) dX0_take_141 (fun v25 h => ?_)
        refine q_goto o 153 dX0_take_144 (by decide) ?_
        exact q_vret o rt dX0_take_153 h
    · have h := h.2 c28
      exact q_vret o rt dX0_take_106 h
  · have h := h.2 c31
    refine q_aload o dX0_take_64 rfl ?_
    refine q_dup o dX0_take_66 rfl ?_
    refine q_getI o sf_X0_take_86 hn2 dX0_take_67 ?_
    refine q_iconst o dX0_take_70 (x := (1 : Int32)) (by decide) ?_
    refine q_iadd o dX0_take_71 ?_
    refine q_putI o sp_X0_take_86 hn2 dX0_take_72 (fun v29 e30 => ?_)
    have h := h v29 e30
    exact q_vret o rt dX0_take_75 h
theorem pd_X0_take : (parseMethodDescriptor yX0_take.desc).map (fun d => d.parameters.length) = some 5 := by decide +kernel
-- PieceSwarm$Arrival.takeDue()V
theorem inn_X0_takeDue_X0 : ∀ w ∈ wsX00, w ∈ wsX0_takeDue := by decide +kernel
theorem sf_X0_takeDue_7 : SF wsX0_takeDue RX0 7 2 0 1 := ⟨RX0, TX0, 1, rfl, rfl, rfl, rfl, by decide, inn_X0_takeDue_X0, by decide +kernel⟩
theorem inn_X0_takeDue_X2 : ∀ w ∈ wsX20, w ∈ wsX0_takeDue := by decide +kernel
theorem sf_X0_takeDue_13 : SF wsX0_takeDue RX0 13 1 2 6 := ⟨RX2, TX2, 8, rfl, rfl, rfl, rfl, by decide, inn_X0_takeDue_X2, by decide +kernel⟩
theorem inn_X0_takeDue_X5 : ∀ w ∈ wsX50, w ∈ wsX0_takeDue := by decide +kernel
theorem sf_X0_takeDue_19 : SF wsX0_takeDue RX0 19 6 6 0 := ⟨RX5, TX5, 7, rfl, rfl, rfl, rfl, by decide, inn_X0_takeDue_X5, by decide +kernel⟩
theorem sp_X0_takeDue_19 : SP wsX0_takeDue RX0 19 6 6 := ⟨RX5, TX5, 7, tyX5, rfl, rfl, rfl, rfl, by decide, inn_X0_takeDue_X5, by decide +kernel, tyX5_ok, nmX5, rfl, by decide +kernel⟩
theorem sf_X0_takeDue_25 : SF wsX0_takeDue RX0 25 6 5 12 := ⟨RX5, TX5, 7, rfl, rfl, rfl, rfl, by decide, inn_X0_takeDue_X5, by decide +kernel⟩
theorem sf_X0_takeDue_29 : SF wsX0_takeDue RX0 29 1 5 0 := ⟨RX2, TX2, 8, rfl, rfl, rfl, rfl, by decide, inn_X0_takeDue_X2, by decide +kernel⟩
theorem sf_X0_takeDue_32 : SF wsX0_takeDue RX0 32 6 1 8 := ⟨RX5, TX5, 7, rfl, rfl, rfl, rfl, by decide, inn_X0_takeDue_X5, by decide +kernel⟩
theorem sf_X0_takeDue_35 : SF wsX0_takeDue RX0 35 6 0 7 := ⟨RX5, TX5, 7, rfl, rfl, rfl, rfl, by decide, inn_X0_takeDue_X5, by decide +kernel⟩
theorem sf_X0_takeDue_38 : SF wsX0_takeDue RX0 38 6 2 9 := ⟨RX5, TX5, 7, rfl, rfl, rfl, rfl, by decide, inn_X0_takeDue_X5, by decide +kernel⟩
theorem sf_X0_takeDue_41 : SF wsX0_takeDue RX0 41 6 3 10 := ⟨RX5, TX5, 7, rfl, rfl, rfl, rfl, by decide, inn_X0_takeDue_X5, by decide +kernel⟩
theorem sf_X0_takeDue_44 : SF wsX0_takeDue RX0 44 6 4 11 := ⟨RX5, TX5, 7, rfl, rfl, rfl, rfl, by decide, inn_X0_takeDue_X5, by decide +kernel⟩
def wB_X0_takeDue_12 (post : (St3 → Prop)) (K12 : Int32 → Int32 → St3 → Prop) (a2 : Int32) (a3 : Int32) (v : St3) : Prop := (((v 6 0 6) ≤ a3 → ∀ v1, v1 = up3 v 6 0 6 a2 → post v1) ∧ (¬ (v 6 0 6) ≤ a3 → ∃ n3, n3 < 192 ∧ a3 = nI n3 ∧ (((v 1 0 5) < (v 12 0 n3) → wp_X5_move a3 a2 v (fun v6 => K12 (a2 + (1 : Int32)) (a3 + (1 : Int32)) v6)) ∧ (¬ (v 1 0 5) < (v 12 0 n3) → wp_X0_take (v 8 0 n3) (v 7 0 n3) (v 9 0 n3) (v 10 0 n3) (v 11 0 n3) v (fun v8 => K12 a2 (a3 + (1 : Int32)) v8)))))
def wL_X0_takeDue_12 (post : (St3 → Prop)) : Nat → Int32 → Int32 → St3 → Prop
  | 0, _, _, _ => False
  | f + 1, a2, a3, v => wB_X0_takeDue_12 post (wL_X0_takeDue_12 post f) a2 a3 v
set_option maxRecDepth 20000 in
set_option maxHeartbeats 4000000 in
theorem aL_X0_takeDue_12 {l : Launch} {G : Geo} {X : CT} (o : OK G X cX0_takeDue wsX0_takeDue RX0 4 4) {post : (St3 → Prop)} (rt : RV G X post) : ∀ (f : Nat) (a2 : Int32) (a3 : Int32) (v : St3), wL_X0_takeDue_12 post f a2 a3 v → J l G X 12 [(0, .ref (gA G 2 0)), (1, .ref (gA G 6 0)), (2, .int a2), (3, .int a3)] [] v := by
  intro f
  induction f with
  | zero => intro _ _ _ h; exact False.elim h
  | succ f hK12 =>
  intro a2 a3 v h
  have h : wB_X0_takeDue_12 post (wL_X0_takeDue_12 post f) a2 a3 v := h
  unfold wB_X0_takeDue_12 at h
  refine q_iload_n o dX0_takeDue_12 rfl ?_
  refine q_aload_n o dX0_takeDue_13 rfl ?_
  refine q_getI o sf_X0_takeDue_19 (by decide) dX0_takeDue_14 ?_
  refine q_ic_ge o 88 dX0_takeDue_17 (by decide) (fun c11 => ?_) (fun c11 => ?_)
  · have h := h.1 c11
    refine q_aload_n o dX0_takeDue_88 rfl ?_
    refine q_iload_n o dX0_takeDue_89 rfl ?_
    refine q_putI o sp_X0_takeDue_19 (by decide) dX0_takeDue_90 (fun v1 e2 => ?_)
    have h := h v1 e2
    exact q_vret o rt dX0_takeDue_93 h
  · have h := h.2 c11
    refine q_aload_n o dX0_takeDue_20 rfl ?_
    refine q_getR (q := 11) o sf_X0_takeDue_25 (by decide) dX0_takeDue_21 ?_
    refine q_iload_n o dX0_takeDue_24 rfl ?_
    obtain ⟨n3, hn4, hx5, h⟩ := h
    refine q_iald (m := 191) o rfl rfl (by decide) hn4 hx5 dX0_takeDue_25 ?_
    refine q_aload_n o dX0_takeDue_26 rfl ?_
    refine q_getR (q := 0) o sf_X0_takeDue_7 (by decide) dX0_takeDue_27 ?_
    refine q_getI o sf_X0_takeDue_29 (by decide) dX0_takeDue_30 ?_
    refine q_ic_gt o 73 dX0_takeDue_33 (by decide) (fun c10 => ?_) (fun c10 => ?_)
    · have h := h.1 c10
      refine q_aload_n o dX0_takeDue_73 rfl ?_
      refine q_iload_n o dX0_takeDue_74 rfl ?_
      refine q_iload_n o dX0_takeDue_75 rfl ?_
      refine q_callVv o [.int a3, .int a2] (ad_X5_move l G a3 a2 v h) gX0_takeDue_X5_move rfl rfl rfl rfl (by decide) ⟨rfl, by decide, by decide, pd_X5_move⟩ (by decide) (by decide) rfl (Nat.le_of_ble_eq_true rfl) dX0_takeDue_76 (fun v6 h => ?_)
      refine q_iinc o (y := (a2 + (1 : Int32))) (lv' := [(2, .int (a2 + (1 : Int32))), (0, .ref (gA G 2 0)), (1, .ref (gA G 6 0)), (3, .int a3)]) dX0_takeDue_79 rfl rfl (by decide) rfl ?_
      refine q_iinc o (y := (a3 + (1 : Int32))) (lv' := [(3, .int (a3 + (1 : Int32))), (2, .int (a2 + (1 : Int32))), (0, .ref (gA G 2 0)), (1, .ref (gA G 6 0))]) dX0_takeDue_82 rfl rfl (by decide) rfl ?_
      refine q_goto o 12 dX0_takeDue_85 (by decide) ?_
      refine q_lv [2, 3, 1, 0] rfl ?_
      exact hK12 (a2 + (1 : Int32)) (a3 + (1 : Int32)) v6 h
    · have h := h.2 c10
      refine q_aload_n o dX0_takeDue_36 rfl ?_
      refine q_aload_n o dX0_takeDue_37 rfl ?_
      refine q_getR (q := 7) o sf_X0_takeDue_32 (by decide) dX0_takeDue_38 ?_
      refine q_iload_n o dX0_takeDue_41 rfl ?_
      refine q_iald (m := 191) o rfl rfl (by decide) hn4 hx5 dX0_takeDue_42 ?_
      refine q_aload_n o dX0_takeDue_43 rfl ?_
      refine q_getR (q := 6) o sf_X0_takeDue_35 (by decide) dX0_takeDue_44 ?_
      refine q_iload_n o dX0_takeDue_47 rfl ?_
      refine q_iald (m := 191) o rfl rfl (by decide) hn4 hx5 dX0_takeDue_48 ?_
      refine q_aload_n o dX0_takeDue_49 rfl ?_
      refine q_getR (q := 8) o sf_X0_takeDue_38 (by decide) dX0_takeDue_50 ?_
      refine q_iload_n o dX0_takeDue_53 rfl ?_
      refine q_iald (m := 191) o rfl rfl (by decide) hn4 hx5 dX0_takeDue_54 ?_
      refine q_aload_n o dX0_takeDue_55 rfl ?_
      refine q_getR (q := 9) o sf_X0_takeDue_41 (by decide) dX0_takeDue_56 ?_
      refine q_iload_n o dX0_takeDue_59 rfl ?_
      refine q_iald (m := 191) o rfl rfl (by decide) hn4 hx5 dX0_takeDue_60 ?_
      refine q_aload_n o dX0_takeDue_61 rfl ?_
      refine q_getR (q := 10) o sf_X0_takeDue_44 (by decide) dX0_takeDue_62 ?_
      refine q_iload_n o dX0_takeDue_65 rfl ?_
      refine q_iald (m := 191) o rfl rfl (by decide) hn4 hx5 dX0_takeDue_66 ?_
      refine q_callVv o [.int (v 8 0 n3), .int (v 7 0 n3), .int (v 9 0 n3), .int (v 10 0 n3), .int (v 11 0 n3)] (ad_X0_take l G (v 8 0 n3) (v 7 0 n3) (v 9 0 n3) (v 10 0 n3) (v 11 0 n3) v h) gX0_takeDue_X0_take rfl rfl rfl rfl (by decide) ⟨rfl, by decide, by decide, pd_X0_take⟩ (by decide) (by decide) rfl (Nat.le_of_ble_eq_true rfl) dX0_takeDue_67 (fun v8 h => ?_)
      refine q_goto o 82 dX0_takeDue_70 (by decide) ?_
      refine q_iinc o (y := (a3 + (1 : Int32))) (lv' := [(3, .int (a3 + (1 : Int32))), (0, .ref (gA G 2 0)), (1, .ref (gA G 6 0)), (2, .int a2)]) dX0_takeDue_82 rfl rfl (by decide) rfl ?_
      refine q_goto o 12 dX0_takeDue_85 (by decide) ?_
      refine q_lv [1, 2, 3, 0] rfl ?_
      exact hK12 a2 (a3 + (1 : Int32)) v8 h
def wp_X0_takeDue (v : St3) (post : (St3 → Prop)) : Prop := wL_X0_takeDue_12 post FU (0 : Int32) (0 : Int32) v
set_option maxRecDepth 20000 in
set_option maxHeartbeats 4000000 in
theorem ad_X0_takeDue (l : Launch) (G : Geo) (v : St3) {post : (St3 → Prop)} (h : wp_X0_takeDue v post) : CV l G yX0_takeDue wsX0_takeDue 4 [.ref (gA G 2 0)] v post := by
  refine CV.of (cc := cX0_takeDue) (maxL := 4) (by decide) rfl (Nat.le_of_ble_eq_true rfl) (fun X o rt => ?_)
  unfold wp_X0_takeDue at h
  show J l G X 0 [(0, .ref (gA G 2 0))] [] v
  refine q_aload_n o dX0_takeDue_0 rfl ?_
  refine q_getR (q := 0) o sf_X0_takeDue_7 (by decide) dX0_takeDue_1 ?_
  refine q_getR (q := 5) o sf_X0_takeDue_13 (by decide) dX0_takeDue_4 ?_
  refine q_astore_n o (lv' := [(1, .ref (gA G 6 0)), (0, .ref (gA G 2 0))]) dX0_takeDue_7 (by decide) rfl ?_
  refine q_iconst o dX0_takeDue_8 (x := (0 : Int32)) (by decide) ?_
  refine q_istore_n o (lv' := [(2, .int (0 : Int32)), (1, .ref (gA G 6 0)), (0, .ref (gA G 2 0))]) dX0_takeDue_9 (by decide) rfl ?_
  refine q_iconst o dX0_takeDue_10 (x := (0 : Int32)) (by decide) ?_
  refine q_istore_n o (lv' := [(3, .int (0 : Int32)), (2, .int (0 : Int32)), (1, .ref (gA G 6 0)), (0, .ref (gA G 2 0))]) dX0_takeDue_11 (by decide) rfl ?_
  refine q_lv [3, 2, 1, 0] rfl ?_
  exact aL_X0_takeDue_12 o rt FU (0 : Int32) (0 : Int32) v h
theorem pd_X0_takeDue : (parseMethodDescriptor yX0_takeDue.desc).map (fun d => d.parameters.length) = some 0 := by decide +kernel
-- PieceSwarm$Crowd.nearTo(I)I
theorem inn_X2_nearTo_X2 : ∀ w ∈ wsX20, w ∈ wsX2_nearTo := by decide +kernel
theorem sf_X2_nearTo_27 : SF wsX2_nearTo RX2 27 1 1 13 := ⟨RX2, TX2, 8, rfl, rfl, rfl, rfl, by decide, inn_X2_nearTo_X2, by decide +kernel⟩
theorem inn_X2_nearTo_X3 : ∀ w ∈ wsX30, w ∈ wsX2_nearTo := by decide +kernel
theorem sf_X2_nearTo_65 : SF wsX2_nearTo RX2 65 14 1 16 := ⟨RX3, TX3, 13, rfl, rfl, rfl, rfl, by decide, inn_X2_nearTo_X3, by decide +kernel⟩
theorem sf_X2_nearTo_62 : SF wsX2_nearTo RX2 62 1 4 0 := ⟨RX2, TX2, 8, rfl, rfl, rfl, rfl, by decide, inn_X2_nearTo_X2, by decide +kernel⟩
theorem wini_X2_nearTo_X9_isIn : Cond.initialized yX9_isIn.cls ∈ wsX2_nearTo := by decide +kernel
theorem wsta_X2_nearTo_X9_isIn : Cond.static yX9_isIn ∈ wsX2_nearTo := by decide +kernel
theorem inn_X2_nearTo_X7 : ∀ w ∈ wsX70, w ∈ wsX2_nearTo := by decide +kernel
theorem sf_X2_nearTo_73 : SF wsX2_nearTo RX2 73 16 4 0 := ⟨RX7, TX7, 10, rfl, rfl, rfl, rfl, by decide, inn_X2_nearTo_X7, by decide +kernel⟩
theorem sf_X2_nearTo_78 : SF wsX2_nearTo RX2 78 16 5 0 := ⟨RX7, TX7, 10, rfl, rfl, rfl, rfl, by decide, inn_X2_nearTo_X7, by decide +kernel⟩
theorem sf_X2_nearTo_81 : SF wsX2_nearTo RX2 81 16 6 0 := ⟨RX7, TX7, 10, rfl, rfl, rfl, rfl, by decide, inn_X2_nearTo_X7, by decide +kernel⟩
def wp_X2_nearTo (a1 : Int32) (v : St3) (post : (Int32 → St3 → Prop)) : Prop := ∃ n1, n1 < 12 ∧ a1 = nI n1 ∧ wp_X9_isIn (v 1 0 4) a1 v (fun r5 v4 => ((r5 = 0 → post (0 : Int32) v4) ∧ (¬ r5 = 0 → post ((((v4 1 0 4) &&& (v4 16 n1 4)) &&& ((v4 16 n1 5) ^^^ (-1 : Int32))) &&& ((v4 16 n1 6) ^^^ (-1 : Int32))) v4)))
set_option maxRecDepth 20000 in
set_option maxHeartbeats 4000000 in
theorem ad_X2_nearTo (l : Launch) (G : Geo) (a1 : Int32) (v : St3) {post : (Int32 → St3 → Prop)} (h : wp_X2_nearTo a1 v post) : CI l G yX2_nearTo wsX2_nearTo 1 [.ref (gA G 1 0), .int a1] v post := by
  refine CI.of (ty := .int) (cc := cX2_nearTo) (maxL := 3) (by decide) rfl (Nat.le_of_ble_eq_true rfl) (fun X o rt => ?_)
  unfold wp_X2_nearTo at h
  show J l G X 0 [(0, .ref (gA G 1 0)), (1, .int a1)] [] v
  refine q_aload_n o dX2_nearTo_0 rfl ?_
  refine q_getR (q := 12) o sf_X2_nearTo_27 (by decide) dX2_nearTo_1 ?_
  refine q_iload_n o dX2_nearTo_4 rfl ?_
  obtain ⟨n1, hn2, hx3, h⟩ := h
  refine q_mald o hn2 hx3 dX2_nearTo_5 ?_
  refine q_getR (q := 15) o sf_X2_nearTo_65 hn2 dX2_nearTo_6 ?_
  refine q_astore_n o (lv' := [(2, .ref (gA G 16 n1)), (0, .ref (gA G 1 0)), (1, .int a1)]) dX2_nearTo_9 (by decide) rfl ?_
  refine q_aload_n o dX2_nearTo_10 rfl ?_
  refine q_getI o sf_X2_nearTo_62 (by decide) dX2_nearTo_11 ?_
  refine q_iload_n o dX2_nearTo_14 rfl ?_
  refine q_callN o [.int (v 1 0 4), .int a1] (ad_X9_isIn l G (v 1 0 4) a1 v h) gX2_nearTo_X9_isIn_n69 rfl (by decide +kernel) wini_X2_nearTo_X9_isIn wsta_X2_nearTo_X9_isIn ⟨by decide, by decide, pd_X9_isIn⟩ (by decide) (by decide) rfl (Nat.le_of_ble_eq_true rfl) dX2_nearTo_15 (fun r5 v4 h => ?_)
  refine q_if_eq o 47 dX2_nearTo_18 (by decide) (fun c6 => ?_) (fun c6 => ?_)
  · have h := h.1 c6
    refine q_iconst o dX2_nearTo_47 (x := (0 : Int32)) (by decide) ?_
    exact q_iret o rt dX2_nearTo_48 h
  · have h := h.2 c6
    refine q_aload_n o dX2_nearTo_21 rfl ?_
    refine q_getI o sf_X2_nearTo_62 (by decide) dX2_nearTo_22 ?_
    refine q_aload_n o dX2_nearTo_25 rfl ?_
    refine q_getI o sf_X2_nearTo_73 hn2 dX2_nearTo_26 ?_
    refine q_iand o dX2_nearTo_29 ?_
    refine q_aload_n o dX2_nearTo_30 rfl ?_
    refine q_getI o sf_X2_nearTo_78 hn2 dX2_nearTo_31 ?_
    refine q_iconst o dX2_nearTo_34 (x := (-1 : Int32)) (by decide) ?_
    refine q_ixor o dX2_nearTo_35 ?_
    refine q_iand o dX2_nearTo_36 ?_
    refine q_aload_n o dX2_nearTo_37 rfl ?_
    refine q_getI o sf_X2_nearTo_81 hn2 dX2_nearTo_38 ?_
    refine q_iconst o dX2_nearTo_41 (x := (-1 : Int32)) (by decide) ?_
    refine q_ixor o dX2_nearTo_42 ?_
    refine q_iand o dX2_nearTo_43 ?_
    refine q_goto o 48 dX2_nearTo_44 (by decide) ?_
    exact q_iret o rt dX2_nearTo_48 h
theorem pd_X2_nearTo : (parseMethodDescriptor yX2_nearTo.desc).map (fun d => d.parameters.length) = some 1 := by decide +kernel
-- PieceSwarm$Crowd.tellersAmong(II)I
theorem inn_X2_tellersAmong_X2 : ∀ w ∈ wsX20, w ∈ wsX2_tellersAmong := by decide +kernel
theorem sf_X2_tellersAmong_32 : SF wsX2_tellersAmong RX2 32 1 3 0 := ⟨RX2, TX2, 8, rfl, rfl, rfl, rfl, by decide, inn_X2_tellersAmong_X2, by decide +kernel⟩
theorem wini_X2_tellersAmong_X9_isIn : Cond.initialized yX9_isIn.cls ∈ wsX2_tellersAmong := by decide +kernel
theorem wsta_X2_tellersAmong_X9_isIn : Cond.static yX9_isIn ∈ wsX2_tellersAmong := by decide +kernel
theorem sf_X2_tellersAmong_27 : SF wsX2_tellersAmong RX2 27 1 1 13 := ⟨RX2, TX2, 8, rfl, rfl, rfl, rfl, by decide, inn_X2_tellersAmong_X2, by decide +kernel⟩
def wB_X2_tellersAmong_5 (post : (Int32 → St3 → Prop)) (K5 : Int32 → Int32 → Int32 → Int32 → St3 → Prop) (a1 : Int32) (a2 : Int32) (a3 : Int32) (a4 : Int32) (v : St3) : Prop := (((v 1 0 3) ≤ a4 → post a3 v) ∧ (¬ (v 1 0 3) ≤ a4 → wp_X9_isIn a1 a4 v (fun r2 v1 => ((r2 = 0 → K5 a1 a2 a3 (a4 + (1 : Int32)) v1) ∧ (¬ r2 = 0 → ∃ n3, n3 < 12 ∧ a4 = nI n3 ∧ wp_X3_toldPieces n3 v1 (fun r7 v6 => wp_X9_isIn r7 a2 v6 (fun r9 v8 => ((r9 = 0 → K5 a1 a2 a3 (a4 + (1 : Int32)) v8) ∧ (¬ r9 = 0 → K5 a1 a2 (a3 ||| ((1 : Int32) <<< (a4 &&& 31))) (a4 + (1 : Int32)) v8)))))))))
def wL_X2_tellersAmong_5 (post : (Int32 → St3 → Prop)) : Nat → Int32 → Int32 → Int32 → Int32 → St3 → Prop
  | 0, _, _, _, _, _ => False
  | f + 1, a1, a2, a3, a4, v => wB_X2_tellersAmong_5 post (wL_X2_tellersAmong_5 post f) a1 a2 a3 a4 v
set_option maxRecDepth 20000 in
set_option maxHeartbeats 4000000 in
theorem aL_X2_tellersAmong_5 {l : Launch} {G : Geo} {X : CT} (o : OK G X cX2_tellersAmong wsX2_tellersAmong RX2 1 5) {post : (Int32 → St3 → Prop)} (rt : RI G X .int post) : ∀ (f : Nat) (a1 : Int32) (a2 : Int32) (a3 : Int32) (a4 : Int32) (v : St3), wL_X2_tellersAmong_5 post f a1 a2 a3 a4 v → J l G X 5 [(0, .ref (gA G 1 0)), (1, .int a1), (2, .int a2), (3, .int a3), (4, .int a4)] [] v := by
  intro f
  induction f with
  | zero => intro _ _ _ _ _ h; exact False.elim h
  | succ f hK5 =>
  intro a1 a2 a3 a4 v h
  have h : wB_X2_tellersAmong_5 post (wL_X2_tellersAmong_5 post f) a1 a2 a3 a4 v := h
  unfold wB_X2_tellersAmong_5 at h
  refine q_iload o dX2_tellersAmong_5 rfl ?_
  refine q_aload_n o dX2_tellersAmong_7 rfl ?_
  refine q_getI o sf_X2_tellersAmong_32 (by decide) dX2_tellersAmong_8 ?_
  refine q_ic_ge o 53 dX2_tellersAmong_11 (by decide) (fun c12 => ?_) (fun c12 => ?_)
  · have h := h.1 c12
    refine q_iload_n o dX2_tellersAmong_53 rfl ?_
    exact q_iret o rt dX2_tellersAmong_54 h
  · have h := h.2 c12
    refine q_iload_n o dX2_tellersAmong_14 rfl ?_
    refine q_iload o dX2_tellersAmong_15 rfl ?_
    refine q_callN o [.int a1, .int a4] (ad_X9_isIn l G a1 a4 v h) gX2_tellersAmong_X9_isIn_n69 rfl (by decide +kernel) wini_X2_tellersAmong_X9_isIn wsta_X2_tellersAmong_X9_isIn ⟨by decide, by decide, pd_X9_isIn⟩ (by decide) (by decide) rfl (Nat.le_of_ble_eq_true rfl) dX2_tellersAmong_17 (fun r2 v1 h => ?_)
    refine q_if_eq o 47 dX2_tellersAmong_20 (by decide) (fun c11 => ?_) (fun c11 => ?_)
    · have h := h.1 c11
      refine q_iinc o (y := (a4 + (1 : Int32))) (lv' := [(4, .int (a4 + (1 : Int32))), (0, .ref (gA G 1 0)), (1, .int a1), (2, .int a2), (3, .int a3)]) dX2_tellersAmong_47 rfl rfl (by decide) rfl ?_
      refine q_goto o 5 dX2_tellersAmong_50 (by decide) ?_
      refine q_lv [1, 2, 3, 4, 0] rfl ?_
      exact hK5 a1 a2 a3 (a4 + (1 : Int32)) v1 h
    · have h := h.2 c11
      refine q_aload_n o dX2_tellersAmong_23 rfl ?_
      refine q_getR (q := 12) o sf_X2_tellersAmong_27 (by decide) dX2_tellersAmong_24 ?_
      refine q_iload o dX2_tellersAmong_27 rfl ?_
      obtain ⟨n3, hn4, hx5, h⟩ := h
      refine q_mald o hn4 hx5 dX2_tellersAmong_29 ?_
      refine q_callV o [] (ad_X3_toldPieces l G n3 hn4 v1 h) gX2_tellersAmong_X3_toldPieces rfl rfl rfl rfl hn4 ⟨rfl, by decide, by decide, pd_X3_toldPieces⟩ (by decide) (by decide) rfl (Nat.le_of_ble_eq_true rfl) dX2_tellersAmong_30 (fun r7 v6 h => ?_)
      refine q_iload_n o dX2_tellersAmong_33 rfl ?_
      refine q_callN o [.int r7, .int a2] (ad_X9_isIn l G r7 a2 v6 h) gX2_tellersAmong_X9_isIn_n69 rfl (by decide +kernel) wini_X2_tellersAmong_X9_isIn wsta_X2_tellersAmong_X9_isIn ⟨by decide, by decide, pd_X9_isIn⟩ (by decide) (by decide) rfl (Nat.le_of_ble_eq_true rfl) dX2_tellersAmong_34 (fun r9 v8 h => ?_)
      refine q_if_eq o 47 dX2_tellersAmong_37 (by decide) (fun c10 => ?_) (fun c10 => ?_)
      · have h := h.1 c10
        refine q_iinc o (y := (a4 + (1 : Int32))) (lv' := [(4, .int (a4 + (1 : Int32))), (0, .ref (gA G 1 0)), (1, .int a1), (2, .int a2), (3, .int a3)]) dX2_tellersAmong_47 rfl rfl (by decide) rfl ?_
        refine q_goto o 5 dX2_tellersAmong_50 (by decide) ?_
        refine q_lv [1, 2, 3, 4, 0] rfl ?_
        exact hK5 a1 a2 a3 (a4 + (1 : Int32)) v8 h
      · have h := h.2 c10
        refine q_iload_n o dX2_tellersAmong_40 rfl ?_
        refine q_iconst o dX2_tellersAmong_41 (x := (1 : Int32)) (by decide) ?_
        refine q_iload o dX2_tellersAmong_42 rfl ?_
        refine q_ishl o dX2_tellersAmong_44 ?_
        refine q_ior o dX2_tellersAmong_45 ?_
        refine q_istore_n o (lv' := [(3, .int (a3 ||| ((1 : Int32) <<< (a4 &&& 31)))), (0, .ref (gA G 1 0)), (1, .int a1), (2, .int a2), (4, .int a4)]) dX2_tellersAmong_46 (by decide) rfl ?_
        refine q_iinc o (y := (a4 + (1 : Int32))) (lv' := [(4, .int (a4 + (1 : Int32))), (3, .int (a3 ||| ((1 : Int32) <<< (a4 &&& 31)))), (0, .ref (gA G 1 0)), (1, .int a1), (2, .int a2)]) dX2_tellersAmong_47 rfl rfl (by decide) rfl ?_
        refine q_goto o 5 dX2_tellersAmong_50 (by decide) ?_
        refine q_lv [2, 3, 4, 1, 0] rfl ?_
        exact hK5 a1 a2 (a3 ||| ((1 : Int32) <<< (a4 &&& 31))) (a4 + (1 : Int32)) v8 h
def wp_X2_tellersAmong (a1 : Int32) (a2 : Int32) (v : St3) (post : (Int32 → St3 → Prop)) : Prop := wL_X2_tellersAmong_5 post FU a1 a2 (0 : Int32) (0 : Int32) v
set_option maxRecDepth 20000 in
set_option maxHeartbeats 4000000 in
theorem ad_X2_tellersAmong (l : Launch) (G : Geo) (a1 : Int32) (a2 : Int32) (v : St3) {post : (Int32 → St3 → Prop)} (h : wp_X2_tellersAmong a1 a2 v post) : CI l G yX2_tellersAmong wsX2_tellersAmong 1 [.ref (gA G 1 0), .int a1, .int a2] v post := by
  refine CI.of (ty := .int) (cc := cX2_tellersAmong) (maxL := 5) (by decide) rfl (Nat.le_of_ble_eq_true rfl) (fun X o rt => ?_)
  unfold wp_X2_tellersAmong at h
  show J l G X 0 [(0, .ref (gA G 1 0)), (1, .int a1), (2, .int a2)] [] v
  refine q_iconst o dX2_tellersAmong_0 (x := (0 : Int32)) (by decide) ?_
  refine q_istore_n o (lv' := [(3, .int (0 : Int32)), (0, .ref (gA G 1 0)), (1, .int a1), (2, .int a2)]) dX2_tellersAmong_1 (by decide) rfl ?_
  refine q_iconst o dX2_tellersAmong_2 (x := (0 : Int32)) (by decide) ?_
  refine q_istore o (lv' := [(4, .int (0 : Int32)), (3, .int (0 : Int32)), (0, .ref (gA G 1 0)), (1, .int a1), (2, .int a2)]) dX2_tellersAmong_3 (by decide) rfl ?_
  refine q_lv [2, 3, 4, 1, 0] rfl ?_
  exact aL_X2_tellersAmong_5 o rt FU a1 a2 (0 : Int32) (0 : Int32) v h
theorem pd_X2_tellersAmong : (parseMethodDescriptor yX2_tellersAmong.desc).map (fun d => d.parameters.length) = some 2 := by decide +kernel
-- PieceSwarm$Crowd.isMember(I)Z
theorem inn_X2_isMember_X2 : ∀ w ∈ wsX20, w ∈ wsX2_isMember := by decide +kernel
theorem sf_X2_isMember_32 : SF wsX2_isMember RX2 32 1 3 0 := ⟨RX2, TX2, 8, rfl, rfl, rfl, rfl, by decide, inn_X2_isMember_X2, by decide +kernel⟩
def wp_X2_isMember (a1 : Int32) (v : St3) (post : (Int32 → St3 → Prop)) : Prop := ((a1 < 0 → post (0 : Int32) v) ∧ (¬ a1 < 0 → (((v 1 0 3) ≤ a1 → post (0 : Int32) v) ∧ (¬ (v 1 0 3) ≤ a1 → post (1 : Int32) v))))
set_option maxRecDepth 20000 in
set_option maxHeartbeats 4000000 in
theorem ad_X2_isMember (l : Launch) (G : Geo) (a1 : Int32) (v : St3) {post : (Int32 → St3 → Prop)} (h : wp_X2_isMember a1 v post) : CI l G yX2_isMember wsX2_isMember 0 [.ref (gA G 1 0), .int a1] v post := by
  refine CI.of (ty := .boolean) (cc := cX2_isMember) (maxL := 2) (by decide) rfl (Nat.le_of_ble_eq_true rfl) (fun X o rt => ?_)
  unfold wp_X2_isMember at h
  show J l G X 0 [(0, .ref (gA G 1 0)), (1, .int a1)] [] v
  refine q_iload_n o dX2_isMember_0 rfl ?_
  refine q_if_lt o 16 dX2_isMember_1 (by decide) (fun c2 => ?_) (fun c2 => ?_)
  · have h := h.1 c2
    refine q_iconst o dX2_isMember_16 (x := (0 : Int32)) (by decide) ?_
    exact q_zret o rt dX2_isMember_17 (by decide) h
  · have h := h.2 c2
    refine q_iload_n o dX2_isMember_4 rfl ?_
    refine q_aload_n o dX2_isMember_5 rfl ?_
    refine q_getI o sf_X2_isMember_32 (by decide) dX2_isMember_6 ?_
    refine q_ic_ge o 16 dX2_isMember_9 (by decide) (fun c1 => ?_) (fun c1 => ?_)
    · have h := h.1 c1
      refine q_iconst o dX2_isMember_16 (x := (0 : Int32)) (by decide) ?_
      exact q_zret o rt dX2_isMember_17 (by decide) h
    · have h := h.2 c1
      refine q_iconst o dX2_isMember_12 (x := (1 : Int32)) (by decide) ?_
      refine q_goto o 17 dX2_isMember_13 (by decide) ?_
      exact q_zret o rt dX2_isMember_17 (by decide) h
theorem pd_X2_isMember : (parseMethodDescriptor yX2_isMember.desc).map (fun d => d.parameters.length) = some 1 := by decide +kernel
-- PieceSwarm$Crowd.areTwo(II)Z
def wp_X2_areTwo (a1 : Int32) (a2 : Int32) (v : St3) (post : (Int32 → St3 → Prop)) : Prop := wp_X2_isMember a1 v (fun r2 v1 => ((r2 = 0 → post (0 : Int32) v1) ∧ (¬ r2 = 0 → wp_X2_isMember a2 v1 (fun r4 v3 => ((r4 = 0 → post (0 : Int32) v3) ∧ (¬ r4 = 0 → ((a1 = a2 → post (0 : Int32) v3) ∧ (¬ a1 = a2 → post (1 : Int32) v3))))))))
set_option maxRecDepth 20000 in
set_option maxHeartbeats 4000000 in
theorem ad_X2_areTwo (l : Launch) (G : Geo) (a1 : Int32) (a2 : Int32) (v : St3) {post : (Int32 → St3 → Prop)} (h : wp_X2_areTwo a1 a2 v post) : CI l G yX2_areTwo wsX2_areTwo 1 [.ref (gA G 1 0), .int a1, .int a2] v post := by
  refine CI.of (ty := .boolean) (cc := cX2_areTwo) (maxL := 3) (by decide) rfl (Nat.le_of_ble_eq_true rfl) (fun X o rt => ?_)
  unfold wp_X2_areTwo at h
  show J l G X 0 [(0, .ref (gA G 1 0)), (1, .int a1), (2, .int a2)] [] v
  refine q_aload_n o dX2_areTwo_0 rfl ?_
  refine q_iload_n o dX2_areTwo_1 rfl ?_
  refine q_callV o [.int a1] (ad_X2_isMember l G a1 v h) gX2_areTwo_X2_isMember rfl rfl rfl rfl (by decide) ⟨rfl, by decide, by decide, pd_X2_isMember⟩ (by decide) (by decide) rfl (Nat.le_of_ble_eq_true rfl) dX2_areTwo_2 (fun r2 v1 h => ?_)
  refine q_if_eq o 25 dX2_areTwo_5 (by decide) (fun c7 => ?_) (fun c7 => ?_)
  · have h := h.1 c7
    refine q_iconst o dX2_areTwo_25 (x := (0 : Int32)) (by decide) ?_
    exact q_zret o rt dX2_areTwo_26 (by decide) h
  · have h := h.2 c7
    refine q_aload_n o dX2_areTwo_8 rfl ?_
    refine q_iload_n o dX2_areTwo_9 rfl ?_
    refine q_callV o [.int a2] (ad_X2_isMember l G a2 v1 h) gX2_areTwo_X2_isMember rfl rfl rfl rfl (by decide) ⟨rfl, by decide, by decide, pd_X2_isMember⟩ (by decide) (by decide) rfl (Nat.le_of_ble_eq_true rfl) dX2_areTwo_10 (fun r4 v3 h => ?_)
    refine q_if_eq o 25 dX2_areTwo_13 (by decide) (fun c6 => ?_) (fun c6 => ?_)
    · have h := h.1 c6
      refine q_iconst o dX2_areTwo_25 (x := (0 : Int32)) (by decide) ?_
      exact q_zret o rt dX2_areTwo_26 (by decide) h
    · have h := h.2 c6
      refine q_iload_n o dX2_areTwo_16 rfl ?_
      refine q_iload_n o dX2_areTwo_17 rfl ?_
      refine q_ic_eq o 25 dX2_areTwo_18 (by decide) (fun c5 => ?_) (fun c5 => ?_)
      · have h := h.1 c5
        refine q_iconst o dX2_areTwo_25 (x := (0 : Int32)) (by decide) ?_
        exact q_zret o rt dX2_areTwo_26 (by decide) h
      · have h := h.2 c5
        refine q_iconst o dX2_areTwo_21 (x := (1 : Int32)) (by decide) ?_
        refine q_goto o 26 dX2_areTwo_22 (by decide) ?_
        exact q_zret o rt dX2_areTwo_26 (by decide) h
theorem pd_X2_areTwo : (parseMethodDescriptor yX2_areTwo.desc).map (fun d => d.parameters.length) = some 2 := by decide +kernel
-- PieceSwarm$Crowd.takeIn(III)I
theorem inn_X2_takeIn_X2 : ∀ w ∈ wsX20, w ∈ wsX2_takeIn := by decide +kernel
theorem sf_X2_takeIn_32 : SF wsX2_takeIn RX2 32 1 3 0 := ⟨RX2, TX2, 8, rfl, rfl, rfl, rfl, by decide, inn_X2_takeIn_X2, by decide +kernel⟩
theorem sf_X2_takeIn_27 : SF wsX2_takeIn RX2 27 1 1 13 := ⟨RX2, TX2, 8, rfl, rfl, rfl, rfl, by decide, inn_X2_takeIn_X2, by decide +kernel⟩
theorem inn_X2_takeIn_X3 : ∀ w ∈ wsX30, w ∈ wsX2_takeIn := by decide +kernel
theorem sp_X2_takeIn_40 : SP wsX2_takeIn RX2 40 14 2 := ⟨RX3, TX3, 13, tyX3, rfl, rfl, rfl, rfl, by decide, inn_X2_takeIn_X3, by decide +kernel, tyX3_ok, nmX3, rfl, by decide +kernel⟩
theorem sp_X2_takeIn_43 : SP wsX2_takeIn RX2 43 14 3 := ⟨RX3, TX3, 13, tyX3, rfl, rfl, rfl, rfl, by decide, inn_X2_takeIn_X3, by decide +kernel, tyX3_ok, nmX3, rfl, by decide +kernel⟩
theorem sp_X2_takeIn_46 : SP wsX2_takeIn RX2 46 14 4 := ⟨RX3, TX3, 13, tyX3, rfl, rfl, rfl, rfl, by decide, inn_X2_takeIn_X3, by decide +kernel, tyX3_ok, nmX3, rfl, by decide +kernel⟩
theorem sf_X2_takeIn_62 : SF wsX2_takeIn RX2 62 1 4 0 := ⟨RX2, TX2, 8, rfl, rfl, rfl, rfl, by decide, inn_X2_takeIn_X2, by decide +kernel⟩
theorem sp_X2_takeIn_62 : SP wsX2_takeIn RX2 62 1 4 := ⟨RX2, TX2, 8, tyX2, rfl, rfl, rfl, rfl, by decide, inn_X2_takeIn_X2, by decide +kernel, tyX2_ok, nmX2, rfl, by decide +kernel⟩
theorem sp_X2_takeIn_32 : SP wsX2_takeIn RX2 32 1 3 := ⟨RX2, TX2, 8, tyX2, rfl, rfl, rfl, rfl, by decide, inn_X2_takeIn_X2, by decide +kernel, tyX2_ok, nmX2, rfl, by decide +kernel⟩
theorem sf_X2_takeIn_49 : SF wsX2_takeIn RX2 49 14 0 15 := ⟨RX3, TX3, 13, rfl, rfl, rfl, rfl, by decide, inn_X2_takeIn_X3, by decide +kernel⟩
theorem sf_X2_takeIn_12 : SF wsX2_takeIn RX2 12 1 0 5 := ⟨RX2, TX2, 8, rfl, rfl, rfl, rfl, by decide, inn_X2_takeIn_X2, by decide +kernel⟩
theorem sp_X2_takeIn_59 : SP wsX2_takeIn RX2 59 14 6 := ⟨RX3, TX3, 13, tyX3, rfl, rfl, rfl, rfl, by decide, inn_X2_takeIn_X3, by decide +kernel, tyX3_ok, nmX3, rfl, by decide +kernel⟩
def wB_X2_takeIn_56 (post : (Int32 → St3 → Prop)) (a4 : Int32) (v : St3) : Prop := ∀ v10, v10 = up3 v 1 0 4 ((v 1 0 4) ||| ((1 : Int32) <<< (a4 &&& 31))) → ∀ v12, v12 = up3 v10 1 0 3 ((v10 1 0 3) + (1 : Int32)) → post a4 v12
set_option maxRecDepth 20000 in
set_option maxHeartbeats 4000000 in
theorem aJ_X2_takeIn_56 {l : Launch} {G : Geo} {X : CT} (o : OK G X cX2_takeIn wsX2_takeIn RX2 2 6) {post : (Int32 → St3 → Prop)} (rt : RI G X .int post) (a4 : Int32) (v : St3) (h : wB_X2_takeIn_56 post a4 v) : J l G X 56 [(0, .ref (gA G 1 0)), (4, .int a4)] [] v := by
  unfold wB_X2_takeIn_56 at h
  refine q_aload_n o dX2_takeIn_56 rfl ?_
  refine q_dup o dX2_takeIn_57 rfl ?_
  refine q_getI o sf_X2_takeIn_62 (by decide) dX2_takeIn_58 ?_
  refine q_iconst o dX2_takeIn_61 (x := (1 : Int32)) (by decide) ?_
  refine q_iload o dX2_takeIn_62 rfl ?_
  refine q_ishl o dX2_takeIn_64 ?_
  refine q_ior o dX2_takeIn_65 ?_
  refine q_putI o sp_X2_takeIn_62 (by decide) dX2_takeIn_66 (fun v10 e11 => ?_)
  have h := h v10 e11
  refine q_aload_n o dX2_takeIn_69 rfl ?_
  refine q_dup o dX2_takeIn_70 rfl ?_
  refine q_getI o sf_X2_takeIn_32 (by decide) dX2_takeIn_71 ?_
  refine q_iconst o dX2_takeIn_74 (x := (1 : Int32)) (by decide) ?_
  refine q_iadd o dX2_takeIn_75 ?_
  refine q_putI o sp_X2_takeIn_32 (by decide) dX2_takeIn_76 (fun v12 e13 => ?_)
  have h := h v12 e13
  refine q_iload o dX2_takeIn_79 rfl ?_
  exact q_iret o rt dX2_takeIn_81 h
def wp_X2_takeIn (a1 : Int32) (a2 : Int32) (a3 : Int32) (v : St3) (post : (Int32 → St3 → Prop)) : Prop := ∃ n1, n1 < 12 ∧ (v 1 0 3) = nI n1 ∧ ∀ v4, v4 = up3 v 14 n1 2 a1 → ∀ v6, v6 = up3 v4 14 n1 3 a2 → ∀ v8, v8 = up3 v6 14 n1 4 a3 → ((¬ a1 = (1 : Int32) → wB_X2_takeIn_56 post (v 1 0 3) v8) ∧ (a1 = (1 : Int32) → wp_X6_fillFrom n1 v8 (fun v14 => ∀ v16, v16 = up3 v14 14 n1 6 (0 : Int32) → wB_X2_takeIn_56 post (v 1 0 3) v16)))
set_option maxRecDepth 20000 in
set_option maxHeartbeats 4000000 in
theorem ad_X2_takeIn (l : Launch) (G : Geo) (a1 : Int32) (a2 : Int32) (a3 : Int32) (v : St3) {post : (Int32 → St3 → Prop)} (h : wp_X2_takeIn a1 a2 a3 v post) : CI l G yX2_takeIn wsX2_takeIn 2 [.ref (gA G 1 0), .int a1, .int a2, .int a3] v post := by
  refine CI.of (ty := .int) (cc := cX2_takeIn) (maxL := 6) (by decide) rfl (Nat.le_of_ble_eq_true rfl) (fun X o rt => ?_)
  unfold wp_X2_takeIn at h
  show J l G X 0 [(0, .ref (gA G 1 0)), (1, .int a1), (2, .int a2), (3, .int a3)] [] v
  refine q_aload_n o dX2_takeIn_0 rfl ?_
  refine q_getI o sf_X2_takeIn_32 (by decide) dX2_takeIn_1 ?_
  refine q_istore o (lv' := [(4, .int (v 1 0 3)), (0, .ref (gA G 1 0)), (1, .int a1), (2, .int a2), (3, .int a3)]) dX2_takeIn_4 (by decide) rfl ?_
  refine q_aload_n o dX2_takeIn_6 rfl ?_
  refine q_getR (q := 12) o sf_X2_takeIn_27 (by decide) dX2_takeIn_7 ?_
  refine q_iload o dX2_takeIn_10 rfl ?_
  obtain ⟨n1, hn2, hx3, h⟩ := h
  refine q_mald o hn2 hx3 dX2_takeIn_12 ?_
  refine q_astore o (lv' := [(5, .ref (gA G 14 n1)), (4, .int (v 1 0 3)), (0, .ref (gA G 1 0)), (1, .int a1), (2, .int a2), (3, .int a3)]) dX2_takeIn_13 (by decide) rfl ?_
  refine q_aload o dX2_takeIn_15 rfl ?_
  refine q_iload_n o dX2_takeIn_17 rfl ?_
  refine q_putI o sp_X2_takeIn_40 hn2 dX2_takeIn_18 (fun v4 e5 => ?_)
  have h := h v4 e5
  refine q_aload o dX2_takeIn_21 rfl ?_
  refine q_iload_n o dX2_takeIn_23 rfl ?_
  refine q_putI o sp_X2_takeIn_43 hn2 dX2_takeIn_24 (fun v6 e7 => ?_)
  have h := h v6 e7
  refine q_aload o dX2_takeIn_27 rfl ?_
  refine q_iload_n o dX2_takeIn_29 rfl ?_
  refine q_putI o sp_X2_takeIn_46 hn2 dX2_takeIn_30 (fun v8 e9 => ?_)
  have h := h v8 e9
  refine q_iload_n o dX2_takeIn_33 rfl ?_
  refine q_iconst o dX2_takeIn_34 (x := (1 : Int32)) (by decide) ?_
  refine q_ic_ne o 56 dX2_takeIn_35 (by decide) (fun c18 => ?_) (fun c18 => ?_)
  · have h := h.1 c18
    refine q_lv [2, 1] rfl ?_
    exact aJ_X2_takeIn_56 o rt (v 1 0 3) v8 h
  · have h := h.2 c18
    refine q_aload o dX2_takeIn_38 rfl ?_
    refine q_getR (q := 14) o sf_X2_takeIn_49 hn2 dX2_takeIn_40 ?_
    refine q_aload_n o dX2_takeIn_43 rfl ?_
    refine q_getR (q := 4) o sf_X2_takeIn_12 (by decide) dX2_takeIn_44 ?_
    refine q_callVv o [.ref (gA G 5 0)] (ad_X6_fillFrom l G n1 hn2 v8 h) gX2_takeIn_X6_fillFrom rfl rfl rfl rfl hn2 ⟨rfl, by decide, by decide, pd_X6_fillFrom⟩ (by decide) (by decide) rfl (Nat.le_of_ble_eq_true rfl) dX2_takeIn_47 (fun v14 h => ?_)
    refine q_aload o dX2_takeIn_50 rfl ?_
    refine q_iconst o dX2_takeIn_52 (x := (0 : Int32)) (by decide) ?_
    refine q_putI o sp_X2_takeIn_59 hn2 dX2_takeIn_53 (fun v16 e17 => ?_)
    have h := h v16 e17
    refine q_lv [2, 1] rfl ?_
    exact aJ_X2_takeIn_56 o rt (v 1 0 3) v16 h
theorem pd_X2_takeIn : (parseMethodDescriptor yX2_takeIn.desc).map (fun d => d.parameters.length) = some 3 := by decide +kernel
-- PieceSwarm$Crowd.wantersOf(I)I
theorem inn_X2_wantersOf_X2 : ∀ w ∈ wsX20, w ∈ wsX2_wantersOf := by decide +kernel
theorem sf_X2_wantersOf_27 : SF wsX2_wantersOf RX2 27 1 1 13 := ⟨RX2, TX2, 8, rfl, rfl, rfl, rfl, by decide, inn_X2_wantersOf_X2, by decide +kernel⟩
theorem sf_X2_wantersOf_32 : SF wsX2_wantersOf RX2 32 1 3 0 := ⟨RX2, TX2, 8, rfl, rfl, rfl, rfl, by decide, inn_X2_wantersOf_X2, by decide +kernel⟩
theorem wini_X2_wantersOf_X9_isIn : Cond.initialized yX9_isIn.cls ∈ wsX2_wantersOf := by decide +kernel
theorem wsta_X2_wantersOf_X9_isIn : Cond.static yX9_isIn ∈ wsX2_wantersOf := by decide +kernel
theorem inn_X2_wantersOf_X3 : ∀ w ∈ wsX30, w ∈ wsX2_wantersOf := by decide +kernel
theorem sf_X2_wantersOf_49 : SF wsX2_wantersOf RX2 49 14 0 15 := ⟨RX3, TX3, 13, rfl, rfl, rfl, rfl, by decide, inn_X2_wantersOf_X3, by decide +kernel⟩
theorem inn_X2_wantersOf_X6 : ∀ w ∈ wsX60, w ∈ wsX2_wantersOf := by decide +kernel
theorem sf_X2_wantersOf_92 : SF wsX2_wantersOf RX2 92 15 3 0 := ⟨RX6, TX6, 6, rfl, rfl, rfl, rfl, by decide, inn_X2_wantersOf_X6, by decide +kernel⟩
def wB_X2_wantersOf_22 (post : (Int32 → St3 → Prop)) (K22 : Int32 → Int32 → Int32 → Int32 → St3 → Prop) (a2 : Int32) (a3 : Int32) (a4 : Int32) (a5 : Int32) (v : St3) : Prop := (((v 1 0 3) ≤ a5 → post a4 v) ∧ (¬ (v 1 0 3) ≤ a5 → wp_X9_isIn a3 a5 v (fun r9 v8 => ((r9 = 0 → K22 a2 a3 a4 (a5 + (1 : Int32)) v8) ∧ (¬ r9 = 0 → ∃ n10, n10 < 12 ∧ a5 = nI n10 ∧ (((a2 &&& ((v8 15 n10 3) ^^^ (-1 : Int32))) = 0 → K22 a2 a3 a4 (a5 + (1 : Int32)) v8) ∧ (¬ (a2 &&& ((v8 15 n10 3) ^^^ (-1 : Int32))) = 0 → K22 a2 a3 (a4 ||| ((1 : Int32) <<< (a5 &&& 31))) (a5 + (1 : Int32)) v8)))))))
def wL_X2_wantersOf_22 (post : (Int32 → St3 → Prop)) : Nat → Int32 → Int32 → Int32 → Int32 → St3 → Prop
  | 0, _, _, _, _, _ => False
  | f + 1, a2, a3, a4, a5, v => wB_X2_wantersOf_22 post (wL_X2_wantersOf_22 post f) a2 a3 a4 a5 v
set_option maxRecDepth 20000 in
set_option maxHeartbeats 4000000 in
theorem aL_X2_wantersOf_22 {l : Launch} {G : Geo} {X : CT} (o : OK G X cX2_wantersOf wsX2_wantersOf RX2 2 6) {post : (Int32 → St3 → Prop)} (rt : RI G X .int post) : ∀ (f : Nat) (a2 : Int32) (a3 : Int32) (a4 : Int32) (a5 : Int32) (v : St3), wL_X2_wantersOf_22 post f a2 a3 a4 a5 v → J l G X 22 [(0, .ref (gA G 1 0)), (2, .int a2), (3, .int a3), (4, .int a4), (5, .int a5)] [] v := by
  intro f
  induction f with
  | zero => intro _ _ _ _ _ h; exact False.elim h
  | succ f hK22 =>
  intro a2 a3 a4 a5 v h
  have h : wB_X2_wantersOf_22 post (wL_X2_wantersOf_22 post f) a2 a3 a4 a5 v := h
  unfold wB_X2_wantersOf_22 at h
  refine q_iload o dX2_wantersOf_22 rfl ?_
  refine q_aload_n o dX2_wantersOf_24 rfl ?_
  refine q_getI o sf_X2_wantersOf_32 (by decide) dX2_wantersOf_25 ?_
  refine q_ic_ge o 75 dX2_wantersOf_28 (by decide) (fun c15 => ?_) (fun c15 => ?_)
  · have h := h.1 c15
    refine q_iload o dX2_wantersOf_75 rfl ?_
    exact q_iret o rt dX2_wantersOf_77 h
  · have h := h.2 c15
    refine q_iload_n o dX2_wantersOf_31 rfl ?_
    refine q_iload o dX2_wantersOf_32 rfl ?_
    refine q_callN o [.int a3, .int a5] (ad_X9_isIn l G a3 a5 v h) gX2_wantersOf_X9_isIn_n69 rfl (by decide +kernel) wini_X2_wantersOf_X9_isIn wsta_X2_wantersOf_X9_isIn ⟨by decide, by decide, pd_X9_isIn⟩ (by decide) (by decide) rfl (Nat.le_of_ble_eq_true rfl) dX2_wantersOf_34 (fun r9 v8 h => ?_)
    refine q_if_eq o 69 dX2_wantersOf_37 (by decide) (fun c14 => ?_) (fun c14 => ?_)
    · have h := h.1 c14
      refine q_iinc o (y := (a5 + (1 : Int32))) (lv' := [(5, .int (a5 + (1 : Int32))), (0, .ref (gA G 1 0)), (2, .int a2), (3, .int a3), (4, .int a4)]) dX2_wantersOf_69 rfl rfl (by decide) rfl ?_
      refine q_goto o 22 dX2_wantersOf_72 (by decide) ?_
      refine q_lv [1, 2, 3, 4, 0] rfl ?_
      exact hK22 a2 a3 a4 (a5 + (1 : Int32)) v8 h
    · have h := h.2 c14
      refine q_iload_n o dX2_wantersOf_40 rfl ?_
      refine q_aload_n o dX2_wantersOf_41 rfl ?_
      refine q_getR (q := 12) o sf_X2_wantersOf_27 (by decide) dX2_wantersOf_42 ?_
      refine q_iload o dX2_wantersOf_45 rfl ?_
      obtain ⟨n10, hn11, hx12, h⟩ := h
      refine q_mald o hn11 hx12 dX2_wantersOf_47 ?_
      refine q_getR (q := 14) o sf_X2_wantersOf_49 hn11 dX2_wantersOf_48 ?_
      refine q_getI o sf_X2_wantersOf_92 hn11 dX2_wantersOf_51 ?_
      refine q_iconst o dX2_wantersOf_54 (x := (-1 : Int32)) (by decide) ?_
      refine q_ixor o dX2_wantersOf_55 ?_
      refine q_iand o dX2_wantersOf_56 ?_
      refine q_if_eq o 69 dX2_wantersOf_57 (by decide) (fun c13 => ?_) (fun c13 => ?_)
      · have h := h.1 c13
        refine q_iinc o (y := (a5 + (1 : Int32))) (lv' := [(5, .int (a5 + (1 : Int32))), (0, .ref (gA G 1 0)), (2, .int a2), (3, .int a3), (4, .int a4)]) dX2_wantersOf_69 rfl rfl (by decide) rfl ?_
        refine q_goto o 22 dX2_wantersOf_72 (by decide) ?_
        refine q_lv [1, 2, 3, 4, 0] rfl ?_
        exact hK22 a2 a3 a4 (a5 + (1 : Int32)) v8 h
      · have h := h.2 c13
        refine q_iload o dX2_wantersOf_60 rfl ?_
        refine q_iconst o dX2_wantersOf_62 (x := (1 : Int32)) (by decide) ?_
        refine q_iload o dX2_wantersOf_63 rfl ?_
        refine q_ishl o dX2_wantersOf_65 ?_
        refine q_ior o dX2_wantersOf_66 ?_
        refine q_istore o (lv' := [(4, .int (a4 ||| ((1 : Int32) <<< (a5 &&& 31)))), (0, .ref (gA G 1 0)), (2, .int a2), (3, .int a3), (5, .int a5)]) dX2_wantersOf_67 (by decide) rfl ?_
        refine q_iinc o (y := (a5 + (1 : Int32))) (lv' := [(5, .int (a5 + (1 : Int32))), (4, .int (a4 ||| ((1 : Int32) <<< (a5 &&& 31)))), (0, .ref (gA G 1 0)), (2, .int a2), (3, .int a3)]) dX2_wantersOf_69 rfl rfl (by decide) rfl ?_
        refine q_goto o 22 dX2_wantersOf_72 (by decide) ?_
        refine q_lv [2, 3, 4, 1, 0] rfl ?_
        exact hK22 a2 a3 (a4 ||| ((1 : Int32) <<< (a5 &&& 31))) (a5 + (1 : Int32)) v8 h
def wp_X2_wantersOf (a1 : Int32) (v : St3) (post : (Int32 → St3 → Prop)) : Prop := ∃ n1, n1 < 12 ∧ a1 = nI n1 ∧ wp_X3_toldPieces n1 v (fun r5 v4 => wp_X2_nearTo a1 v4 (fun r7 v6 => wL_X2_wantersOf_22 post FU r5 r7 (0 : Int32) (0 : Int32) v6))
set_option maxRecDepth 20000 in
set_option maxHeartbeats 4000000 in
theorem ad_X2_wantersOf (l : Launch) (G : Geo) (a1 : Int32) (v : St3) {post : (Int32 → St3 → Prop)} (h : wp_X2_wantersOf a1 v post) : CI l G yX2_wantersOf wsX2_wantersOf 2 [.ref (gA G 1 0), .int a1] v post := by
  refine CI.of (ty := .int) (cc := cX2_wantersOf) (maxL := 6) (by decide) rfl (Nat.le_of_ble_eq_true rfl) (fun X o rt => ?_)
  unfold wp_X2_wantersOf at h
  show J l G X 0 [(0, .ref (gA G 1 0)), (1, .int a1)] [] v
  refine q_aload_n o dX2_wantersOf_0 rfl ?_
  refine q_getR (q := 12) o sf_X2_wantersOf_27 (by decide) dX2_wantersOf_1 ?_
  refine q_iload_n o dX2_wantersOf_4 rfl ?_
  obtain ⟨n1, hn2, hx3, h⟩ := h
  refine q_mald o hn2 hx3 dX2_wantersOf_5 ?_
  refine q_callV o [] (ad_X3_toldPieces l G n1 hn2 v h) gX2_wantersOf_X3_toldPieces rfl rfl rfl rfl hn2 ⟨rfl, by decide, by decide, pd_X3_toldPieces⟩ (by decide) (by decide) rfl (Nat.le_of_ble_eq_true rfl) dX2_wantersOf_6 (fun r5 v4 h => ?_)
  refine q_istore_n o (lv' := [(2, .int r5), (0, .ref (gA G 1 0)), (1, .int a1)]) dX2_wantersOf_9 (by decide) rfl ?_
  refine q_aload_n o dX2_wantersOf_10 rfl ?_
  refine q_iload_n o dX2_wantersOf_11 rfl ?_
  refine q_callV o [.int a1] (ad_X2_nearTo l G a1 v4 h) gX2_wantersOf_X2_nearTo rfl rfl rfl rfl (by decide) ⟨rfl, by decide, by decide, pd_X2_nearTo⟩ (by decide) (by decide) rfl (Nat.le_of_ble_eq_true rfl) dX2_wantersOf_12 (fun r7 v6 h => ?_)
  refine q_istore_n o (lv' := [(3, .int r7), (2, .int r5), (0, .ref (gA G 1 0)), (1, .int a1)]) dX2_wantersOf_15 (by decide) rfl ?_
  refine q_iconst o dX2_wantersOf_16 (x := (0 : Int32)) (by decide) ?_
  refine q_istore o (lv' := [(4, .int (0 : Int32)), (3, .int r7), (2, .int r5), (0, .ref (gA G 1 0)), (1, .int a1)]) dX2_wantersOf_17 (by decide) rfl ?_
  refine q_iconst o dX2_wantersOf_19 (x := (0 : Int32)) (by decide) ?_
  refine q_istore o (lv' := [(5, .int (0 : Int32)), (4, .int (0 : Int32)), (3, .int r7), (2, .int r5), (0, .ref (gA G 1 0)), (1, .int a1)]) dX2_wantersOf_20 (by decide) rfl ?_
  refine q_lv [4, 3, 2, 1, 0] rfl ?_
  exact aL_X2_wantersOf_22 o rt FU r5 r7 (0 : Int32) (0 : Int32) v6 h
theorem pd_X2_wantersOf : (parseMethodDescriptor yX2_wantersOf.desc).map (fun d => d.parameters.length) = some 1 := by decide +kernel
-- PieceSwarm$Crowd.hadByOthersThan(I)I
theorem inn_X2_hadByOthersThan_X2 : ∀ w ∈ wsX20, w ∈ wsX2_hadByOthersThan := by decide +kernel
theorem sf_X2_hadByOthersThan_32 : SF wsX2_hadByOthersThan RX2 32 1 3 0 := ⟨RX2, TX2, 8, rfl, rfl, rfl, rfl, by decide, inn_X2_hadByOthersThan_X2, by decide +kernel⟩
theorem sf_X2_hadByOthersThan_62 : SF wsX2_hadByOthersThan RX2 62 1 4 0 := ⟨RX2, TX2, 8, rfl, rfl, rfl, rfl, by decide, inn_X2_hadByOthersThan_X2, by decide +kernel⟩
theorem wini_X2_hadByOthersThan_X9_isIn : Cond.initialized yX9_isIn.cls ∈ wsX2_hadByOthersThan := by decide +kernel
theorem wsta_X2_hadByOthersThan_X9_isIn : Cond.static yX9_isIn ∈ wsX2_hadByOthersThan := by decide +kernel
theorem sf_X2_hadByOthersThan_27 : SF wsX2_hadByOthersThan RX2 27 1 1 13 := ⟨RX2, TX2, 8, rfl, rfl, rfl, rfl, by decide, inn_X2_hadByOthersThan_X2, by decide +kernel⟩
theorem inn_X2_hadByOthersThan_X3 : ∀ w ∈ wsX30, w ∈ wsX2_hadByOthersThan := by decide +kernel
theorem sf_X2_hadByOthersThan_49 : SF wsX2_hadByOthersThan RX2 49 14 0 15 := ⟨RX3, TX3, 13, rfl, rfl, rfl, rfl, by decide, inn_X2_hadByOthersThan_X3, by decide +kernel⟩
theorem inn_X2_hadByOthersThan_X6 : ∀ w ∈ wsX60, w ∈ wsX2_hadByOthersThan := by decide +kernel
theorem sf_X2_hadByOthersThan_92 : SF wsX2_hadByOthersThan RX2 92 15 3 0 := ⟨RX6, TX6, 6, rfl, rfl, rfl, rfl, by decide, inn_X2_hadByOthersThan_X6, by decide +kernel⟩
def wB_X2_hadByOthersThan_4 (post : (Int32 → St3 → Prop)) (K4 : Int32 → Int32 → Int32 → St3 → Prop) (a1 : Int32) (a2 : Int32) (a3 : Int32) (v : St3) : Prop := (((v 1 0 3) ≤ a3 → post a2 v) ∧ (¬ (v 1 0 3) ≤ a3 → ((a3 = a1 → K4 a1 a2 (a3 + (1 : Int32)) v) ∧ (¬ a3 = a1 → wp_X9_isIn (v 1 0 4) a3 v (fun r2 v1 => ((r2 = 0 → K4 a1 a2 (a3 + (1 : Int32)) v1) ∧ (¬ r2 = 0 → ∃ n3, n3 < 12 ∧ a3 = nI n3 ∧ K4 a1 (a2 ||| (v1 15 n3 3)) (a3 + (1 : Int32)) v1)))))))
def wL_X2_hadByOthersThan_4 (post : (Int32 → St3 → Prop)) : Nat → Int32 → Int32 → Int32 → St3 → Prop
  | 0, _, _, _, _ => False
  | f + 1, a1, a2, a3, v => wB_X2_hadByOthersThan_4 post (wL_X2_hadByOthersThan_4 post f) a1 a2 a3 v
set_option maxRecDepth 20000 in
set_option maxHeartbeats 4000000 in
theorem aL_X2_hadByOthersThan_4 {l : Launch} {G : Geo} {X : CT} (o : OK G X cX2_hadByOthersThan wsX2_hadByOthersThan RX2 1 4) {post : (Int32 → St3 → Prop)} (rt : RI G X .int post) : ∀ (f : Nat) (a1 : Int32) (a2 : Int32) (a3 : Int32) (v : St3), wL_X2_hadByOthersThan_4 post f a1 a2 a3 v → J l G X 4 [(0, .ref (gA G 1 0)), (1, .int a1), (2, .int a2), (3, .int a3)] [] v := by
  intro f
  induction f with
  | zero => intro _ _ _ _ h; exact False.elim h
  | succ f hK4 =>
  intro a1 a2 a3 v h
  have h : wB_X2_hadByOthersThan_4 post (wL_X2_hadByOthersThan_4 post f) a1 a2 a3 v := h
  unfold wB_X2_hadByOthersThan_4 at h
  refine q_iload_n o dX2_hadByOthersThan_4 rfl ?_
  refine q_aload_n o dX2_hadByOthersThan_5 rfl ?_
  refine q_getI o sf_X2_hadByOthersThan_32 (by decide) dX2_hadByOthersThan_6 ?_
  refine q_ic_ge o 49 dX2_hadByOthersThan_9 (by decide) (fun c8 => ?_) (fun c8 => ?_)
  · have h := h.1 c8
    refine q_iload_n o dX2_hadByOthersThan_49 rfl ?_
    exact q_iret o rt dX2_hadByOthersThan_50 h
  · have h := h.2 c8
    refine q_iload_n o dX2_hadByOthersThan_12 rfl ?_
    refine q_iload_n o dX2_hadByOthersThan_13 rfl ?_
    refine q_ic_eq o 43 dX2_hadByOthersThan_14 (by decide) (fun c7 => ?_) (fun c7 => ?_)
    · have h := h.1 c7
      refine q_iinc o (y := (a3 + (1 : Int32))) (lv' := [(3, .int (a3 + (1 : Int32))), (0, .ref (gA G 1 0)), (1, .int a1), (2, .int a2)]) dX2_hadByOthersThan_43 rfl rfl (by decide) rfl ?_
      refine q_goto o 4 dX2_hadByOthersThan_46 (by decide) ?_
      refine q_lv [1, 2, 3, 0] rfl ?_
      exact hK4 a1 a2 (a3 + (1 : Int32)) v h
    · have h := h.2 c7
      refine q_aload_n o dX2_hadByOthersThan_17 rfl ?_
      refine q_getI o sf_X2_hadByOthersThan_62 (by decide) dX2_hadByOthersThan_18 ?_
      refine q_iload_n o dX2_hadByOthersThan_21 rfl ?_
      refine q_callN o [.int (v 1 0 4), .int a3] (ad_X9_isIn l G (v 1 0 4) a3 v h) gX2_hadByOthersThan_X9_isIn_n69 rfl (by decide +kernel) wini_X2_hadByOthersThan_X9_isIn wsta_X2_hadByOthersThan_X9_isIn ⟨by decide, by decide, pd_X9_isIn⟩ (by decide) (by decide) rfl (Nat.le_of_ble_eq_true rfl) dX2_hadByOthersThan_22 (fun r2 v1 h => ?_)
      refine q_if_eq o 43 dX2_hadByOthersThan_25 (by decide) (fun c6 => ?_) (fun c6 => ?_)
      · have h := h.1 c6
        refine q_iinc o (y := (a3 + (1 : Int32))) (lv' := [(3, .int (a3 + (1 : Int32))), (0, .ref (gA G 1 0)), (1, .int a1), (2, .int a2)]) dX2_hadByOthersThan_43 rfl rfl (by decide) rfl ?_
        refine q_goto o 4 dX2_hadByOthersThan_46 (by decide) ?_
        refine q_lv [1, 2, 3, 0] rfl ?_
        exact hK4 a1 a2 (a3 + (1 : Int32)) v1 h
      · have h := h.2 c6
        refine q_iload_n o dX2_hadByOthersThan_28 rfl ?_
        refine q_aload_n o dX2_hadByOthersThan_29 rfl ?_
        refine q_getR (q := 12) o sf_X2_hadByOthersThan_27 (by decide) dX2_hadByOthersThan_30 ?_
        refine q_iload_n o dX2_hadByOthersThan_33 rfl ?_
        obtain ⟨n3, hn4, hx5, h⟩ := h
        refine q_mald o hn4 hx5 dX2_hadByOthersThan_34 ?_
        refine q_getR (q := 14) o sf_X2_hadByOthersThan_49 hn4 dX2_hadByOthersThan_35 ?_
        refine q_getI o sf_X2_hadByOthersThan_92 hn4 dX2_hadByOthersThan_38 ?_
        refine q_ior o dX2_hadByOthersThan_41 ?_
        refine q_istore_n o (lv' := [(2, .int (a2 ||| (v1 15 n3 3))), (0, .ref (gA G 1 0)), (1, .int a1), (3, .int a3)]) dX2_hadByOthersThan_42 (by decide) rfl ?_
        refine q_iinc o (y := (a3 + (1 : Int32))) (lv' := [(3, .int (a3 + (1 : Int32))), (2, .int (a2 ||| (v1 15 n3 3))), (0, .ref (gA G 1 0)), (1, .int a1)]) dX2_hadByOthersThan_43 rfl rfl (by decide) rfl ?_
        refine q_goto o 4 dX2_hadByOthersThan_46 (by decide) ?_
        refine q_lv [2, 3, 1, 0] rfl ?_
        exact hK4 a1 (a2 ||| (v1 15 n3 3)) (a3 + (1 : Int32)) v1 h
def wp_X2_hadByOthersThan (a1 : Int32) (v : St3) (post : (Int32 → St3 → Prop)) : Prop := wL_X2_hadByOthersThan_4 post FU a1 (0 : Int32) (0 : Int32) v
set_option maxRecDepth 20000 in
set_option maxHeartbeats 4000000 in
theorem ad_X2_hadByOthersThan (l : Launch) (G : Geo) (a1 : Int32) (v : St3) {post : (Int32 → St3 → Prop)} (h : wp_X2_hadByOthersThan a1 v post) : CI l G yX2_hadByOthersThan wsX2_hadByOthersThan 1 [.ref (gA G 1 0), .int a1] v post := by
  refine CI.of (ty := .int) (cc := cX2_hadByOthersThan) (maxL := 4) (by decide) rfl (Nat.le_of_ble_eq_true rfl) (fun X o rt => ?_)
  unfold wp_X2_hadByOthersThan at h
  show J l G X 0 [(0, .ref (gA G 1 0)), (1, .int a1)] [] v
  refine q_iconst o dX2_hadByOthersThan_0 (x := (0 : Int32)) (by decide) ?_
  refine q_istore_n o (lv' := [(2, .int (0 : Int32)), (0, .ref (gA G 1 0)), (1, .int a1)]) dX2_hadByOthersThan_1 (by decide) rfl ?_
  refine q_iconst o dX2_hadByOthersThan_2 (x := (0 : Int32)) (by decide) ?_
  refine q_istore_n o (lv' := [(3, .int (0 : Int32)), (2, .int (0 : Int32)), (0, .ref (gA G 1 0)), (1, .int a1)]) dX2_hadByOthersThan_3 (by decide) rfl ?_
  refine q_lv [2, 3, 1, 0] rfl ?_
  exact aL_X2_hadByOthersThan_4 o rt FU a1 (0 : Int32) (0 : Int32) v h
theorem pd_X2_hadByOthersThan : (parseMethodDescriptor yX2_hadByOthersThan.desc).map (fun d => d.parameters.length) = some 1 := by decide +kernel
-- PieceSwarm$Crowd.loseParcelsOf(I)V
theorem inn_X2_loseParcelsOf_X2 : ∀ w ∈ wsX20, w ∈ wsX2_loseParcelsOf := by decide +kernel
theorem sf_X2_loseParcelsOf_21 : SF wsX2_loseParcelsOf RX2 21 1 2 6 := ⟨RX2, TX2, 8, rfl, rfl, rfl, rfl, by decide, inn_X2_loseParcelsOf_X2, by decide +kernel⟩
theorem inn_X2_loseParcelsOf_X5 : ∀ w ∈ wsX50, w ∈ wsX2_loseParcelsOf := by decide +kernel
theorem sf_X2_loseParcelsOf_102 : SF wsX2_loseParcelsOf RX2 102 6 6 0 := ⟨RX5, TX5, 7, rfl, rfl, rfl, rfl, by decide, inn_X2_loseParcelsOf_X5, by decide +kernel⟩
theorem sp_X2_loseParcelsOf_102 : SP wsX2_loseParcelsOf RX2 102 6 6 := ⟨RX5, TX5, 7, tyX5, rfl, rfl, rfl, rfl, by decide, inn_X2_loseParcelsOf_X5, by decide +kernel, tyX5_ok, nmX5, rfl, by decide +kernel⟩
theorem sf_X2_loseParcelsOf_105 : SF wsX2_loseParcelsOf RX2 105 6 1 8 := ⟨RX5, TX5, 7, rfl, rfl, rfl, rfl, by decide, inn_X2_loseParcelsOf_X5, by decide +kernel⟩
theorem sf_X2_loseParcelsOf_27 : SF wsX2_loseParcelsOf RX2 27 1 1 13 := ⟨RX2, TX2, 8, rfl, rfl, rfl, rfl, by decide, inn_X2_loseParcelsOf_X2, by decide +kernel⟩
theorem inn_X2_loseParcelsOf_X3 : ∀ w ∈ wsX30, w ∈ wsX2_loseParcelsOf := by decide +kernel
theorem sf_X2_loseParcelsOf_49 : SF wsX2_loseParcelsOf RX2 49 14 0 15 := ⟨RX3, TX3, 13, rfl, rfl, rfl, rfl, by decide, inn_X2_loseParcelsOf_X3, by decide +kernel⟩
theorem sf_X2_loseParcelsOf_112 : SF wsX2_loseParcelsOf RX2 112 6 2 9 := ⟨RX5, TX5, 7, rfl, rfl, rfl, rfl, by decide, inn_X2_loseParcelsOf_X5, by decide +kernel⟩
theorem sf_X2_loseParcelsOf_115 : SF wsX2_loseParcelsOf RX2 115 6 3 10 := ⟨RX5, TX5, 7, rfl, rfl, rfl, rfl, by decide, inn_X2_loseParcelsOf_X5, by decide +kernel⟩
theorem sf_X2_loseParcelsOf_122 : SF wsX2_loseParcelsOf RX2 122 1 7 0 := ⟨RX2, TX2, 8, rfl, rfl, rfl, rfl, by decide, inn_X2_loseParcelsOf_X2, by decide +kernel⟩
theorem sp_X2_loseParcelsOf_122 : SP wsX2_loseParcelsOf RX2 122 1 7 := ⟨RX2, TX2, 8, tyX2, rfl, rfl, rfl, rfl, by decide, inn_X2_loseParcelsOf_X2, by decide +kernel, tyX2_ok, nmX2, rfl, by decide +kernel⟩
theorem sf_X2_loseParcelsOf_109 : SF wsX2_loseParcelsOf RX2 109 6 0 7 := ⟨RX5, TX5, 7, rfl, rfl, rfl, rfl, by decide, inn_X2_loseParcelsOf_X5, by decide +kernel⟩
def wB_X2_loseParcelsOf_41 (post : (St3 → Prop)) (K4 : Int32 → Int32 → Int32 → St3 → Prop) (a1 : Int32) (a2 : Int32) (a3 : Int32) (v : St3) : Prop := ∃ n6, n6 < 192 ∧ a3 = nI n6 ∧ ∃ n9, n9 < 12 ∧ (v 8 0 n6) = nI n9 ∧ wp_X6_expectNoMore n9 (v 9 0 n6) (v 10 0 n6) v (fun v12 => ∀ v14, v14 = up3 v12 1 0 7 ((v12 1 0 7) + (1 : Int32)) → K4 a1 a2 (a3 + (1 : Int32)) v14)
set_option maxRecDepth 20000 in
set_option maxHeartbeats 4000000 in
theorem aJ_X2_loseParcelsOf_41 {l : Launch} {G : Geo} {X : CT} (o : OK G X cX2_loseParcelsOf wsX2_loseParcelsOf RX2 2 4) {post : (St3 → Prop)} (rt : RV G X post) {K4 : Int32 → Int32 → Int32 → St3 → Prop} (hK4 : ∀ (a1 : Int32) (a2 : Int32) (a3 : Int32) (v : St3), K4 a1 a2 a3 v → J l G X 4 [(0, .ref (gA G 1 0)), (1, .int a1), (2, .int a2), (3, .int a3)] [] v) (a1 : Int32) (a2 : Int32) (a3 : Int32) (v : St3) (h : wB_X2_loseParcelsOf_41 post K4 a1 a2 a3 v) : J l G X 41 [(0, .ref (gA G 1 0)), (1, .int a1), (2, .int a2), (3, .int a3)] [] v := by
  unfold wB_X2_loseParcelsOf_41 at h
  refine q_aload_n o dX2_loseParcelsOf_41 rfl ?_
  refine q_getR (q := 12) o sf_X2_loseParcelsOf_27 (by decide) dX2_loseParcelsOf_42 ?_
  refine q_aload_n o dX2_loseParcelsOf_45 rfl ?_
  refine q_getR (q := 5) o sf_X2_loseParcelsOf_21 (by decide) dX2_loseParcelsOf_46 ?_
  refine q_getR (q := 7) o sf_X2_loseParcelsOf_105 (by decide) dX2_loseParcelsOf_49 ?_
  refine q_iload_n o dX2_loseParcelsOf_52 rfl ?_
  obtain ⟨n6, hn7, hx8, h⟩ := h
  refine q_iald (m := 191) o rfl rfl (by decide) hn7 hx8 dX2_loseParcelsOf_53 ?_
  obtain ⟨n9, hn10, hx11, h⟩ := h
  refine q_mald o hn10 hx11 dX2_loseParcelsOf_54 ?_
  refine q_getR (q := 14) o sf_X2_loseParcelsOf_49 hn10 dX2_loseParcelsOf_55 ?_
  refine q_aload_n o dX2_loseParcelsOf_58 rfl ?_
  refine q_getR (q := 5) o sf_X2_loseParcelsOf_21 (by decide) dX2_loseParcelsOf_59 ?_
  refine q_getR (q := 8) o sf_X2_loseParcelsOf_112 (by decide) dX2_loseParcelsOf_62 ?_
  refine q_iload_n o dX2_loseParcelsOf_65 rfl ?_
  refine q_iald (m := 191) o rfl rfl (by decide) hn7 hx8 dX2_loseParcelsOf_66 ?_
  refine q_aload_n o dX2_loseParcelsOf_67 rfl ?_
  refine q_getR (q := 5) o sf_X2_loseParcelsOf_21 (by decide) dX2_loseParcelsOf_68 ?_
  refine q_getR (q := 9) o sf_X2_loseParcelsOf_115 (by decide) dX2_loseParcelsOf_71 ?_
  refine q_iload_n o dX2_loseParcelsOf_74 rfl ?_
  refine q_iald (m := 191) o rfl rfl (by decide) hn7 hx8 dX2_loseParcelsOf_75 ?_
  refine q_callVv o [.int (v 9 0 n6), .int (v 10 0 n6)] (ad_X6_expectNoMore l G n9 (v 9 0 n6) (v 10 0 n6) hn10 v h) gX2_loseParcelsOf_X6_expectNoMore rfl rfl rfl rfl hn10 ⟨rfl, by decide, by decide, pd_X6_expectNoMore⟩ (by decide) (by decide) rfl (Nat.le_of_ble_eq_true rfl) dX2_loseParcelsOf_76 (fun v12 h => ?_)
  refine q_aload_n o dX2_loseParcelsOf_79 rfl ?_
  refine q_dup o dX2_loseParcelsOf_80 rfl ?_
  refine q_getI o sf_X2_loseParcelsOf_122 (by decide) dX2_loseParcelsOf_81 ?_
  refine q_iconst o dX2_loseParcelsOf_84 (x := (1 : Int32)) (by decide) ?_
  refine q_iadd o dX2_loseParcelsOf_85 ?_
  refine q_putI o sp_X2_loseParcelsOf_122 (by decide) dX2_loseParcelsOf_86 (fun v14 e15 => ?_)
  have h := h v14 e15
  refine q_goto o 104 dX2_loseParcelsOf_89 (by decide) ?_
  refine q_iinc o (y := (a3 + (1 : Int32))) (lv' := [(3, .int (a3 + (1 : Int32))), (0, .ref (gA G 1 0)), (1, .int a1), (2, .int a2)]) dX2_loseParcelsOf_104 rfl rfl (by decide) rfl ?_
  refine q_goto o 4 dX2_loseParcelsOf_107 (by decide) ?_
  refine q_lv [1, 2, 3, 0] rfl ?_
  exact hK4 a1 a2 (a3 + (1 : Int32)) v14 h
def wB_X2_loseParcelsOf_4 (post : (St3 → Prop)) (K4 : Int32 → Int32 → Int32 → St3 → Prop) (a1 : Int32) (a2 : Int32) (a3 : Int32) (v : St3) : Prop := (((v 6 0 6) ≤ a3 → ∀ v1, v1 = up3 v 6 0 6 a2 → post v1) ∧ (¬ (v 6 0 6) ≤ a3 → ∃ n3, n3 < 192 ∧ a3 = nI n3 ∧ (((v 8 0 n3) = a1 → wB_X2_loseParcelsOf_41 post K4 a1 a2 a3 v) ∧ (¬ (v 8 0 n3) = a1 → ((¬ (v 7 0 n3) = a1 → wp_X5_move a3 a2 v (fun v16 => K4 a1 (a2 + (1 : Int32)) (a3 + (1 : Int32)) v16)) ∧ ((v 7 0 n3) = a1 → wB_X2_loseParcelsOf_41 post K4 a1 a2 a3 v))))))
def wL_X2_loseParcelsOf_4 (post : (St3 → Prop)) : Nat → Int32 → Int32 → Int32 → St3 → Prop
  | 0, _, _, _, _ => False
  | f + 1, a1, a2, a3, v => wB_X2_loseParcelsOf_4 post (wL_X2_loseParcelsOf_4 post f) a1 a2 a3 v
set_option maxRecDepth 20000 in
set_option maxHeartbeats 4000000 in
theorem aL_X2_loseParcelsOf_4 {l : Launch} {G : Geo} {X : CT} (o : OK G X cX2_loseParcelsOf wsX2_loseParcelsOf RX2 2 4) {post : (St3 → Prop)} (rt : RV G X post) : ∀ (f : Nat) (a1 : Int32) (a2 : Int32) (a3 : Int32) (v : St3), wL_X2_loseParcelsOf_4 post f a1 a2 a3 v → J l G X 4 [(0, .ref (gA G 1 0)), (1, .int a1), (2, .int a2), (3, .int a3)] [] v := by
  intro f
  induction f with
  | zero => intro _ _ _ _ h; exact False.elim h
  | succ f hK4 =>
  intro a1 a2 a3 v h
  have h : wB_X2_loseParcelsOf_4 post (wL_X2_loseParcelsOf_4 post f) a1 a2 a3 v := h
  unfold wB_X2_loseParcelsOf_4 at h
  refine q_iload_n o dX2_loseParcelsOf_4 rfl ?_
  refine q_aload_n o dX2_loseParcelsOf_5 rfl ?_
  refine q_getR (q := 5) o sf_X2_loseParcelsOf_21 (by decide) dX2_loseParcelsOf_6 ?_
  refine q_getI o sf_X2_loseParcelsOf_102 (by decide) dX2_loseParcelsOf_9 ?_
  refine q_ic_ge o 110 dX2_loseParcelsOf_12 (by decide) (fun c20 => ?_) (fun c20 => ?_)
  · have h := h.1 c20
    refine q_aload_n o dX2_loseParcelsOf_110 rfl ?_
    refine q_getR (q := 5) o sf_X2_loseParcelsOf_21 (by decide) dX2_loseParcelsOf_111 ?_
    refine q_iload_n o dX2_loseParcelsOf_114 rfl ?_
    refine q_putI o sp_X2_loseParcelsOf_102 (by decide) dX2_loseParcelsOf_115 (fun v1 e2 => ?_)
    have h := h v1 e2
    exact q_vret o rt dX2_loseParcelsOf_118 h
  · have h := h.2 c20
    refine q_aload_n o dX2_loseParcelsOf_15 rfl ?_
    refine q_getR (q := 5) o sf_X2_loseParcelsOf_21 (by decide) dX2_loseParcelsOf_16 ?_
    refine q_getR (q := 7) o sf_X2_loseParcelsOf_105 (by decide) dX2_loseParcelsOf_19 ?_
    refine q_iload_n o dX2_loseParcelsOf_22 rfl ?_
    obtain ⟨n3, hn4, hx5, h⟩ := h
    refine q_iald (m := 191) o rfl rfl (by decide) hn4 hx5 dX2_loseParcelsOf_23 ?_
    refine q_iload_n o dX2_loseParcelsOf_24 rfl ?_
    refine q_ic_eq o 41 dX2_loseParcelsOf_25 (by decide) (fun c19 => ?_) (fun c19 => ?_)
    · have h := h.1 c19
      exact aJ_X2_loseParcelsOf_41 o rt hK4 a1 a2 a3 v h
    · have h := h.2 c19
      refine q_aload_n o dX2_loseParcelsOf_28 rfl ?_
      refine q_getR (q := 5) o sf_X2_loseParcelsOf_21 (by decide) dX2_loseParcelsOf_29 ?_
      refine q_getR (q := 6) o sf_X2_loseParcelsOf_109 (by decide) dX2_loseParcelsOf_32 ?_
      refine q_iload_n o dX2_loseParcelsOf_35 rfl ?_
      refine q_iald (m := 191) o rfl rfl (by decide) hn4 hx5 dX2_loseParcelsOf_36 ?_
      refine q_iload_n o dX2_loseParcelsOf_37 rfl ?_
      refine q_ic_ne o 92 dX2_loseParcelsOf_38 (by decide) (fun c18 => ?_) (fun c18 => ?_)
      · have h := h.1 c18
        refine q_aload_n o dX2_loseParcelsOf_92 rfl ?_
        refine q_getR (q := 5) o sf_X2_loseParcelsOf_21 (by decide) dX2_loseParcelsOf_93 ?_
        refine q_iload_n o dX2_loseParcelsOf_96 rfl ?_
        refine q_iload_n o dX2_loseParcelsOf_97 rfl ?_
        refine q_callVv o [.int a3, .int a2] (ad_X5_move l G a3 a2 v h) gX2_loseParcelsOf_X5_move rfl rfl rfl rfl (by decide) ⟨rfl, by decide, by decide, pd_X5_move⟩ (by decide) (by decide) rfl (Nat.le_of_ble_eq_true rfl) dX2_loseParcelsOf_98 (fun v16 h => ?_)
        refine q_iinc o (y := (a2 + (1 : Int32))) (lv' := [(2, .int (a2 + (1 : Int32))), (0, .ref (gA G 1 0)), (1, .int a1), (3, .int a3)]) dX2_loseParcelsOf_101 rfl rfl (by decide) rfl ?_
        refine q_iinc o (y := (a3 + (1 : Int32))) (lv' := [(3, .int (a3 + (1 : Int32))), (2, .int (a2 + (1 : Int32))), (0, .ref (gA G 1 0)), (1, .int a1)]) dX2_loseParcelsOf_104 rfl rfl (by decide) rfl ?_
        refine q_goto o 4 dX2_loseParcelsOf_107 (by decide) ?_
        refine q_lv [2, 3, 1, 0] rfl ?_
        exact hK4 a1 (a2 + (1 : Int32)) (a3 + (1 : Int32)) v16 h
      · have h := h.2 c18
        exact aJ_X2_loseParcelsOf_41 o rt hK4 a1 a2 a3 v h
def wp_X2_loseParcelsOf (a1 : Int32) (v : St3) (post : (St3 → Prop)) : Prop := wL_X2_loseParcelsOf_4 post FU a1 (0 : Int32) (0 : Int32) v
set_option maxRecDepth 20000 in
set_option maxHeartbeats 4000000 in
theorem ad_X2_loseParcelsOf (l : Launch) (G : Geo) (a1 : Int32) (v : St3) {post : (St3 → Prop)} (h : wp_X2_loseParcelsOf a1 v post) : CV l G yX2_loseParcelsOf wsX2_loseParcelsOf 2 [.ref (gA G 1 0), .int a1] v post := by
  refine CV.of (cc := cX2_loseParcelsOf) (maxL := 4) (by decide) rfl (Nat.le_of_ble_eq_true rfl) (fun X o rt => ?_)
  unfold wp_X2_loseParcelsOf at h
  show J l G X 0 [(0, .ref (gA G 1 0)), (1, .int a1)] [] v
  refine q_iconst o dX2_loseParcelsOf_0 (x := (0 : Int32)) (by decide) ?_
  refine q_istore_n o (lv' := [(2, .int (0 : Int32)), (0, .ref (gA G 1 0)), (1, .int a1)]) dX2_loseParcelsOf_1 (by decide) rfl ?_
  refine q_iconst o dX2_loseParcelsOf_2 (x := (0 : Int32)) (by decide) ?_
  refine q_istore_n o (lv' := [(3, .int (0 : Int32)), (2, .int (0 : Int32)), (0, .ref (gA G 1 0)), (1, .int a1)]) dX2_loseParcelsOf_3 (by decide) rfl ?_
  refine q_lv [2, 3, 1, 0] rfl ?_
  exact aL_X2_loseParcelsOf_4 o rt FU a1 (0 : Int32) (0 : Int32) v h
theorem pd_X2_loseParcelsOf : (parseMethodDescriptor yX2_loseParcelsOf.desc).map (fun d => d.parameters.length) = some 1 := by decide +kernel
-- PieceSwarm$Crowd.letGo(I)V
theorem inn_X2_letGo_X2 : ∀ w ∈ wsX20, w ∈ wsX2_letGo := by decide +kernel
theorem sf_X2_letGo_62 : SF wsX2_letGo RX2 62 1 4 0 := ⟨RX2, TX2, 8, rfl, rfl, rfl, rfl, by decide, inn_X2_letGo_X2, by decide +kernel⟩
theorem sp_X2_letGo_62 : SP wsX2_letGo RX2 62 1 4 := ⟨RX2, TX2, 8, tyX2, rfl, rfl, rfl, rfl, by decide, inn_X2_letGo_X2, by decide +kernel, tyX2_ok, nmX2, rfl, by decide +kernel⟩
theorem sf_X2_letGo_27 : SF wsX2_letGo RX2 27 1 1 13 := ⟨RX2, TX2, 8, rfl, rfl, rfl, rfl, by decide, inn_X2_letGo_X2, by decide +kernel⟩
theorem inn_X2_letGo_X3 : ∀ w ∈ wsX30, w ∈ wsX2_letGo := by decide +kernel
theorem sf_X2_letGo_65 : SF wsX2_letGo RX2 65 14 1 16 := ⟨RX3, TX3, 13, rfl, rfl, rfl, rfl, by decide, inn_X2_letGo_X3, by decide +kernel⟩
theorem inn_X2_letGo_X7 : ∀ w ∈ wsX70, w ∈ wsX2_letGo := by decide +kernel
theorem sp_X2_letGo_95 : SP wsX2_letGo RX2 95 16 7 := ⟨RX7, TX7, 10, tyX7, rfl, rfl, rfl, rfl, by decide, inn_X2_letGo_X7, by decide +kernel, tyX7_ok, nmX7, rfl, by decide +kernel⟩
theorem sf_X2_letGo_32 : SF wsX2_letGo RX2 32 1 3 0 := ⟨RX2, TX2, 8, rfl, rfl, rfl, rfl, by decide, inn_X2_letGo_X2, by decide +kernel⟩
theorem sf_X2_letGo_95 : SF wsX2_letGo RX2 95 16 7 0 := ⟨RX7, TX7, 10, rfl, rfl, rfl, rfl, by decide, inn_X2_letGo_X7, by decide +kernel⟩
def wB_X2_letGo_29 (post : (St3 → Prop)) (K29 : Int32 → Int32 → St3 → Prop) (a1 : Int32) (a2 : Int32) (v : St3) : Prop := (((v 1 0 3) ≤ a2 → wp_X2_loseParcelsOf a1 v (fun v8 => post v8)) ∧ (¬ (v 1 0 3) ≤ a2 → ∃ n10, n10 < 12 ∧ a2 = nI n10 ∧ ∀ v13, v13 = up3 v 16 n10 7 ((v 16 n10 7) &&& (((1 : Int32) <<< (a1 &&& 31)) ^^^ (-1 : Int32))) → K29 a1 (a2 + (1 : Int32)) v13))
def wL_X2_letGo_29 (post : (St3 → Prop)) : Nat → Int32 → Int32 → St3 → Prop
  | 0, _, _, _ => False
  | f + 1, a1, a2, v => wB_X2_letGo_29 post (wL_X2_letGo_29 post f) a1 a2 v
set_option maxRecDepth 20000 in
set_option maxHeartbeats 4000000 in
theorem aL_X2_letGo_29 {l : Launch} {G : Geo} {X : CT} (o : OK G X cX2_letGo wsX2_letGo RX2 3 3) {post : (St3 → Prop)} (rt : RV G X post) : ∀ (f : Nat) (a1 : Int32) (a2 : Int32) (v : St3), wL_X2_letGo_29 post f a1 a2 v → J l G X 29 [(0, .ref (gA G 1 0)), (1, .int a1), (2, .int a2)] [] v := by
  intro f
  induction f with
  | zero => intro _ _ _ h; exact False.elim h
  | succ f hK29 =>
  intro a1 a2 v h
  have h : wB_X2_letGo_29 post (wL_X2_letGo_29 post f) a1 a2 v := h
  unfold wB_X2_letGo_29 at h
  refine q_iload_n o dX2_letGo_29 rfl ?_
  refine q_aload_n o dX2_letGo_30 rfl ?_
  refine q_getI o sf_X2_letGo_32 (by decide) dX2_letGo_31 ?_
  refine q_ic_ge o 65 dX2_letGo_34 (by decide) (fun c15 => ?_) (fun c15 => ?_)
  · have h := h.1 c15
    refine q_aload_n o dX2_letGo_65 rfl ?_
    refine q_iload_n o dX2_letGo_66 rfl ?_
    refine q_callVv o [.int a1] (ad_X2_loseParcelsOf l G a1 v h) gX2_letGo_X2_loseParcelsOf rfl rfl rfl rfl (by decide) ⟨rfl, by decide, by decide, pd_X2_loseParcelsOf⟩ (by decide) (by decide) rfl (Nat.le_of_ble_eq_true rfl) dX2_letGo_67 (fun v8 h => ?_)
    exact q_vret o rt dX2_letGo_70 h
  · have h := h.2 c15
    refine q_aload_n o dX2_letGo_37 rfl ?_
    refine q_getR (q := 12) o sf_X2_letGo_27 (by decide) dX2_letGo_38 ?_
    refine q_iload_n o dX2_letGo_41 rfl ?_
    obtain ⟨n10, hn11, hx12, h⟩ := h
    refine q_mald o hn11 hx12 dX2_letGo_42 ?_
    refine q_getR (q := 15) o sf_X2_letGo_65 hn11 dX2_letGo_43 ?_
    refine q_dup o dX2_letGo_46 rfl ?_
    refine q_getI o sf_X2_letGo_95 hn11 dX2_letGo_47 ?_
    refine q_iconst o dX2_letGo_50 (x := (1 : Int32)) (by decide) ?_
    refine q_iload_n o dX2_letGo_51 rfl ?_
    refine q_ishl o dX2_letGo_52 ?_
    refine q_iconst o dX2_letGo_53 (x := (-1 : Int32)) (by decide) ?_
    refine q_ixor o dX2_letGo_54 ?_
    refine q_iand o dX2_letGo_55 ?_
    refine q_putI o sp_X2_letGo_95 hn11 dX2_letGo_56 (fun v13 e14 => ?_)
    have h := h v13 e14
    refine q_iinc o (y := (a2 + (1 : Int32))) (lv' := [(2, .int (a2 + (1 : Int32))), (0, .ref (gA G 1 0)), (1, .int a1)]) dX2_letGo_59 rfl rfl (by decide) rfl ?_
    refine q_goto o 29 dX2_letGo_62 (by decide) ?_
    refine q_lv [1, 2, 0] rfl ?_
    exact hK29 a1 (a2 + (1 : Int32)) v13 h
def wp_X2_letGo (a1 : Int32) (v : St3) (post : (St3 → Prop)) : Prop := ∀ v1, v1 = up3 v 1 0 4 ((v 1 0 4) &&& (((1 : Int32) <<< (a1 &&& 31)) ^^^ (-1 : Int32))) → ∃ n3, n3 < 12 ∧ a1 = nI n3 ∧ ∀ v6, v6 = up3 v1 16 n3 7 (0 : Int32) → wL_X2_letGo_29 post FU a1 (0 : Int32) v6
set_option maxRecDepth 20000 in
set_option maxHeartbeats 4000000 in
theorem ad_X2_letGo (l : Launch) (G : Geo) (a1 : Int32) (v : St3) {post : (St3 → Prop)} (h : wp_X2_letGo a1 v post) : CV l G yX2_letGo wsX2_letGo 3 [.ref (gA G 1 0), .int a1] v post := by
  refine CV.of (cc := cX2_letGo) (maxL := 3) (by decide) rfl (Nat.le_of_ble_eq_true rfl) (fun X o rt => ?_)
  unfold wp_X2_letGo at h
  show J l G X 0 [(0, .ref (gA G 1 0)), (1, .int a1)] [] v
  refine q_aload_n o dX2_letGo_0 rfl ?_
  refine q_dup o dX2_letGo_1 rfl ?_
  refine q_getI o sf_X2_letGo_62 (by decide) dX2_letGo_2 ?_
  refine q_iconst o dX2_letGo_5 (x := (1 : Int32)) (by decide) ?_
  refine q_iload_n o dX2_letGo_6 rfl ?_
  refine q_ishl o dX2_letGo_7 ?_
  refine q_iconst o dX2_letGo_8 (x := (-1 : Int32)) (by decide) ?_
  refine q_ixor o dX2_letGo_9 ?_
  refine q_iand o dX2_letGo_10 ?_
  refine q_putI o sp_X2_letGo_62 (by decide) dX2_letGo_11 (fun v1 e2 => ?_)
  have h := h v1 e2
  refine q_aload_n o dX2_letGo_14 rfl ?_
  refine q_getR (q := 12) o sf_X2_letGo_27 (by decide) dX2_letGo_15 ?_
  refine q_iload_n o dX2_letGo_18 rfl ?_
  obtain ⟨n3, hn4, hx5, h⟩ := h
  refine q_mald o hn4 hx5 dX2_letGo_19 ?_
  refine q_getR (q := 15) o sf_X2_letGo_65 hn4 dX2_letGo_20 ?_
  refine q_iconst o dX2_letGo_23 (x := (0 : Int32)) (by decide) ?_
  refine q_putI o sp_X2_letGo_95 hn4 dX2_letGo_24 (fun v6 e7 => ?_)
  have h := h v6 e7
  refine q_iconst o dX2_letGo_27 (x := (0 : Int32)) (by decide) ?_
  refine q_istore_n o (lv' := [(2, .int (0 : Int32)), (0, .ref (gA G 1 0)), (1, .int a1)]) dX2_letGo_28 (by decide) rfl ?_
  refine q_lv [1, 2, 0] rfl ?_
  exact aL_X2_letGo_29 o rt FU a1 (0 : Int32) v6 h
theorem pd_X2_letGo : (parseMethodDescriptor yX2_letGo.desc).map (fun d => d.parameters.length) = some 1 := by decide +kernel
-- PieceSwarm$Crowd.doneAndHere()I
theorem inn_X2_doneAndHere_X2 : ∀ w ∈ wsX20, w ∈ wsX2_doneAndHere := by decide +kernel
theorem sf_X2_doneAndHere_32 : SF wsX2_doneAndHere RX2 32 1 3 0 := ⟨RX2, TX2, 8, rfl, rfl, rfl, rfl, by decide, inn_X2_doneAndHere_X2, by decide +kernel⟩
theorem sf_X2_doneAndHere_62 : SF wsX2_doneAndHere RX2 62 1 4 0 := ⟨RX2, TX2, 8, rfl, rfl, rfl, rfl, by decide, inn_X2_doneAndHere_X2, by decide +kernel⟩
theorem wini_X2_doneAndHere_X9_isIn : Cond.initialized yX9_isIn.cls ∈ wsX2_doneAndHere := by decide +kernel
theorem wsta_X2_doneAndHere_X9_isIn : Cond.static yX9_isIn ∈ wsX2_doneAndHere := by decide +kernel
theorem wini_X2_doneAndHere_X9_oneIf : Cond.initialized yX9_oneIf.cls ∈ wsX2_doneAndHere := by decide +kernel
theorem wsta_X2_doneAndHere_X9_oneIf : Cond.static yX9_oneIf ∈ wsX2_doneAndHere := by decide +kernel
theorem sf_X2_doneAndHere_27 : SF wsX2_doneAndHere RX2 27 1 1 13 := ⟨RX2, TX2, 8, rfl, rfl, rfl, rfl, by decide, inn_X2_doneAndHere_X2, by decide +kernel⟩
def wB_X2_doneAndHere_4 (post : (Int32 → St3 → Prop)) (K4 : Int32 → Int32 → St3 → Prop) (a1 : Int32) (a2 : Int32) (v : St3) : Prop := (((v 1 0 3) ≤ a2 → post a1 v) ∧ (¬ (v 1 0 3) ≤ a2 → wp_X9_isIn (v 1 0 4) a2 v (fun r2 v1 => ((r2 = 0 → wp_X9_oneIf (0 : Int32) v1 (fun r4 v3 => K4 (a1 + r4) (a2 + (1 : Int32)) v3)) ∧ (¬ r2 = 0 → ∃ n5, n5 < 12 ∧ a2 = nI n5 ∧ wp_X3_isDone n5 v1 (fun r9 v8 => ((r9 = 0 → wp_X9_oneIf (0 : Int32) v8 (fun r11 v10 => K4 (a1 + r11) (a2 + (1 : Int32)) v10)) ∧ (¬ r9 = 0 → wp_X9_oneIf (1 : Int32) v8 (fun r13 v12 => K4 (a1 + r13) (a2 + (1 : Int32)) v12)))))))))
def wL_X2_doneAndHere_4 (post : (Int32 → St3 → Prop)) : Nat → Int32 → Int32 → St3 → Prop
  | 0, _, _, _ => False
  | f + 1, a1, a2, v => wB_X2_doneAndHere_4 post (wL_X2_doneAndHere_4 post f) a1 a2 v
set_option maxRecDepth 20000 in
set_option maxHeartbeats 4000000 in
theorem aL_X2_doneAndHere_4 {l : Launch} {G : Geo} {X : CT} (o : OK G X cX2_doneAndHere wsX2_doneAndHere RX2 1 3) {post : (Int32 → St3 → Prop)} (rt : RI G X .int post) : ∀ (f : Nat) (a1 : Int32) (a2 : Int32) (v : St3), wL_X2_doneAndHere_4 post f a1 a2 v → J l G X 4 [(0, .ref (gA G 1 0)), (1, .int a1), (2, .int a2)] [] v := by
  intro f
  induction f with
  | zero => intro _ _ _ h; exact False.elim h
  | succ f hK4 =>
  intro a1 a2 v h
  have h : wB_X2_doneAndHere_4 post (wL_X2_doneAndHere_4 post f) a1 a2 v := h
  unfold wB_X2_doneAndHere_4 at h
  refine q_iload_n o dX2_doneAndHere_4 rfl ?_
  refine q_aload_n o dX2_doneAndHere_5 rfl ?_
  refine q_getI o sf_X2_doneAndHere_32 (by decide) dX2_doneAndHere_6 ?_
  refine q_ic_ge o 52 dX2_doneAndHere_9 (by decide) (fun c16 => ?_) (fun c16 => ?_)
  · have h := h.1 c16
    refine q_iload_n o dX2_doneAndHere_52 rfl ?_
    exact q_iret o rt dX2_doneAndHere_53 h
  · have h := h.2 c16
    refine q_iload_n o dX2_doneAndHere_12 rfl ?_
    refine q_aload_n o dX2_doneAndHere_13 rfl ?_
    refine q_getI o sf_X2_doneAndHere_62 (by decide) dX2_doneAndHere_14 ?_
    refine q_iload_n o dX2_doneAndHere_17 rfl ?_
    refine q_callN o [.int (v 1 0 4), .int a2] (ad_X9_isIn l G (v 1 0 4) a2 v h) gX2_doneAndHere_X9_isIn_n69 rfl (by decide +kernel) wini_X2_doneAndHere_X9_isIn wsta_X2_doneAndHere_X9_isIn ⟨by decide, by decide, pd_X9_isIn⟩ (by decide) (by decide) rfl (Nat.le_of_ble_eq_true rfl) dX2_doneAndHere_18 (fun r2 v1 h => ?_)
    refine q_if_eq o 40 dX2_doneAndHere_21 (by decide) (fun c15 => ?_) (fun c15 => ?_)
    · have h := h.1 c15
      refine q_iconst o dX2_doneAndHere_40 (x := (0 : Int32)) (by decide) ?_
      refine q_callN o [.int (0 : Int32)] (ad_X9_oneIf l G (0 : Int32) v1 h) gX2_doneAndHere_X9_oneIf_n132 rfl (by decide +kernel) wini_X2_doneAndHere_X9_oneIf wsta_X2_doneAndHere_X9_oneIf ⟨by decide, by decide, pd_X9_oneIf⟩ (by decide) (by decide) rfl (Nat.le_of_ble_eq_true rfl) dX2_doneAndHere_41 (fun r4 v3 h => ?_)
      refine q_iadd o dX2_doneAndHere_44 ?_
      refine q_istore_n o (lv' := [(1, .int (a1 + r4)), (0, .ref (gA G 1 0)), (2, .int a2)]) dX2_doneAndHere_45 (by decide) rfl ?_
      refine q_iinc o (y := (a2 + (1 : Int32))) (lv' := [(2, .int (a2 + (1 : Int32))), (1, .int (a1 + r4)), (0, .ref (gA G 1 0))]) dX2_doneAndHere_46 rfl rfl (by decide) rfl ?_
      refine q_goto o 4 dX2_doneAndHere_49 (by decide) ?_
      refine q_lv [2, 1, 0] rfl ?_
      exact hK4 (a1 + r4) (a2 + (1 : Int32)) v3 h
    · have h := h.2 c15
      refine q_aload_n o dX2_doneAndHere_24 rfl ?_
      refine q_getR (q := 12) o sf_X2_doneAndHere_27 (by decide) dX2_doneAndHere_25 ?_
      refine q_iload_n o dX2_doneAndHere_28 rfl ?_
      obtain ⟨n5, hn6, hx7, h⟩ := h
      refine q_mald o hn6 hx7 dX2_doneAndHere_29 ?_
      refine q_callV o [] (ad_X3_isDone l G n5 hn6 v1 h) gX2_doneAndHere_X3_isDone rfl rfl rfl rfl hn6 ⟨rfl, by decide, by decide, pd_X3_isDone⟩ (by decide) (by decide) rfl (Nat.le_of_ble_eq_true rfl) dX2_doneAndHere_30 (fun r9 v8 h => ?_)
      refine q_if_eq o 40 dX2_doneAndHere_33 (by decide) (fun c14 => ?_) (fun c14 => ?_)
      · have h := h.1 c14
        refine q_iconst o dX2_doneAndHere_40 (x := (0 : Int32)) (by decide) ?_
        refine q_callN o [.int (0 : Int32)] (ad_X9_oneIf l G (0 : Int32) v8 h) gX2_doneAndHere_X9_oneIf_n132 rfl (by decide +kernel) wini_X2_doneAndHere_X9_oneIf wsta_X2_doneAndHere_X9_oneIf ⟨by decide, by decide, pd_X9_oneIf⟩ (by decide) (by decide) rfl (Nat.le_of_ble_eq_true rfl) dX2_doneAndHere_41 (fun r11 v10 h => ?_)
        refine q_iadd o dX2_doneAndHere_44 ?_
        refine q_istore_n o (lv' := [(1, .int (a1 + r11)), (0, .ref (gA G 1 0)), (2, .int a2)]) dX2_doneAndHere_45 (by decide) rfl ?_
        refine q_iinc o (y := (a2 + (1 : Int32))) (lv' := [(2, .int (a2 + (1 : Int32))), (1, .int (a1 + r11)), (0, .ref (gA G 1 0))]) dX2_doneAndHere_46 rfl rfl (by decide) rfl ?_
        refine q_goto o 4 dX2_doneAndHere_49 (by decide) ?_
        refine q_lv [2, 1, 0] rfl ?_
        exact hK4 (a1 + r11) (a2 + (1 : Int32)) v10 h
      · have h := h.2 c14
        refine q_iconst o dX2_doneAndHere_36 (x := (1 : Int32)) (by decide) ?_
        refine q_goto o 41 dX2_doneAndHere_37 (by decide) ?_
        refine q_callN o [.int (1 : Int32)] (ad_X9_oneIf l G (1 : Int32) v8 h) gX2_doneAndHere_X9_oneIf_n132 rfl (by decide +kernel) wini_X2_doneAndHere_X9_oneIf wsta_X2_doneAndHere_X9_oneIf ⟨by decide, by decide, pd_X9_oneIf⟩ (by decide) (by decide) rfl (Nat.le_of_ble_eq_true rfl) dX2_doneAndHere_41 (fun r13 v12 h => ?_)
        refine q_iadd o dX2_doneAndHere_44 ?_
        refine q_istore_n o (lv' := [(1, .int (a1 + r13)), (0, .ref (gA G 1 0)), (2, .int a2)]) dX2_doneAndHere_45 (by decide) rfl ?_
        refine q_iinc o (y := (a2 + (1 : Int32))) (lv' := [(2, .int (a2 + (1 : Int32))), (1, .int (a1 + r13)), (0, .ref (gA G 1 0))]) dX2_doneAndHere_46 rfl rfl (by decide) rfl ?_
        refine q_goto o 4 dX2_doneAndHere_49 (by decide) ?_
        refine q_lv [2, 1, 0] rfl ?_
        exact hK4 (a1 + r13) (a2 + (1 : Int32)) v12 h
def wp_X2_doneAndHere (v : St3) (post : (Int32 → St3 → Prop)) : Prop := wL_X2_doneAndHere_4 post FU (0 : Int32) (0 : Int32) v
set_option maxRecDepth 20000 in
set_option maxHeartbeats 4000000 in
theorem ad_X2_doneAndHere (l : Launch) (G : Geo) (v : St3) {post : (Int32 → St3 → Prop)} (h : wp_X2_doneAndHere v post) : CI l G yX2_doneAndHere wsX2_doneAndHere 1 [.ref (gA G 1 0)] v post := by
  refine CI.of (ty := .int) (cc := cX2_doneAndHere) (maxL := 3) (by decide) rfl (Nat.le_of_ble_eq_true rfl) (fun X o rt => ?_)
  unfold wp_X2_doneAndHere at h
  show J l G X 0 [(0, .ref (gA G 1 0))] [] v
  refine q_iconst o dX2_doneAndHere_0 (x := (0 : Int32)) (by decide) ?_
  refine q_istore_n o (lv' := [(1, .int (0 : Int32)), (0, .ref (gA G 1 0))]) dX2_doneAndHere_1 (by decide) rfl ?_
  refine q_iconst o dX2_doneAndHere_2 (x := (0 : Int32)) (by decide) ?_
  refine q_istore_n o (lv' := [(2, .int (0 : Int32)), (1, .int (0 : Int32)), (0, .ref (gA G 1 0))]) dX2_doneAndHere_3 (by decide) rfl ?_
  refine q_lv [2, 1, 0] rfl ?_
  exact aL_X2_doneAndHere_4 o rt FU (0 : Int32) (0 : Int32) v h
theorem pd_X2_doneAndHere : (parseMethodDescriptor yX2_doneAndHere.desc).map (fun d => d.parameters.length) = some 0 := by decide +kernel
-- PieceSwarm$Crowd.failedInAll()I
theorem inn_X2_failedInAll_X2 : ∀ w ∈ wsX20, w ∈ wsX2_failedInAll := by decide +kernel
theorem sf_X2_failedInAll_32 : SF wsX2_failedInAll RX2 32 1 3 0 := ⟨RX2, TX2, 8, rfl, rfl, rfl, rfl, by decide, inn_X2_failedInAll_X2, by decide +kernel⟩
theorem sf_X2_failedInAll_27 : SF wsX2_failedInAll RX2 27 1 1 13 := ⟨RX2, TX2, 8, rfl, rfl, rfl, rfl, by decide, inn_X2_failedInAll_X2, by decide +kernel⟩
theorem inn_X2_failedInAll_X3 : ∀ w ∈ wsX30, w ∈ wsX2_failedInAll := by decide +kernel
theorem sf_X2_failedInAll_136 : SF wsX2_failedInAll RX2 136 14 10 0 := ⟨RX3, TX3, 13, rfl, rfl, rfl, rfl, by decide, inn_X2_failedInAll_X3, by decide +kernel⟩
def wB_X2_failedInAll_4 (post : (Int32 → St3 → Prop)) (K4 : Int32 → Int32 → St3 → Prop) (a1 : Int32) (a2 : Int32) (v : St3) : Prop := (((v 1 0 3) ≤ a2 → post a1 v) ∧ (¬ (v 1 0 3) ≤ a2 → ∃ n1, n1 < 12 ∧ a2 = nI n1 ∧ K4 (a1 + (v 14 n1 10)) (a2 + (1 : Int32)) v))
def wL_X2_failedInAll_4 (post : (Int32 → St3 → Prop)) : Nat → Int32 → Int32 → St3 → Prop
  | 0, _, _, _ => False
  | f + 1, a1, a2, v => wB_X2_failedInAll_4 post (wL_X2_failedInAll_4 post f) a1 a2 v
set_option maxRecDepth 20000 in
set_option maxHeartbeats 4000000 in
theorem aL_X2_failedInAll_4 {l : Launch} {G : Geo} {X : CT} (o : OK G X cX2_failedInAll wsX2_failedInAll RX2 0 3) {post : (Int32 → St3 → Prop)} (rt : RI G X .int post) : ∀ (f : Nat) (a1 : Int32) (a2 : Int32) (v : St3), wL_X2_failedInAll_4 post f a1 a2 v → J l G X 4 [(0, .ref (gA G 1 0)), (1, .int a1), (2, .int a2)] [] v := by
  intro f
  induction f with
  | zero => intro _ _ _ h; exact False.elim h
  | succ f hK4 =>
  intro a1 a2 v h
  have h : wB_X2_failedInAll_4 post (wL_X2_failedInAll_4 post f) a1 a2 v := h
  unfold wB_X2_failedInAll_4 at h
  refine q_iload_n o dX2_failedInAll_4 rfl ?_
  refine q_aload_n o dX2_failedInAll_5 rfl ?_
  refine q_getI o sf_X2_failedInAll_32 (by decide) dX2_failedInAll_6 ?_
  refine q_ic_ge o 30 dX2_failedInAll_9 (by decide) (fun c4 => ?_) (fun c4 => ?_)
  · have h := h.1 c4
    refine q_iload_n o dX2_failedInAll_30 rfl ?_
    exact q_iret o rt dX2_failedInAll_31 h
  · have h := h.2 c4
    refine q_iload_n o dX2_failedInAll_12 rfl ?_
    refine q_aload_n o dX2_failedInAll_13 rfl ?_
    refine q_getR (q := 12) o sf_X2_failedInAll_27 (by decide) dX2_failedInAll_14 ?_
    refine q_iload_n o dX2_failedInAll_17 rfl ?_
    obtain ⟨n1, hn2, hx3, h⟩ := h
    refine q_mald o hn2 hx3 dX2_failedInAll_18 ?_
    refine q_getI o sf_X2_failedInAll_136 hn2 dX2_failedInAll_19 ?_
    refine q_iadd o dX2_failedInAll_22 ?_
    refine q_istore_n o (lv' := [(1, .int (a1 + (v 14 n1 10))), (0, .ref (gA G 1 0)), (2, .int a2)]) dX2_failedInAll_23 (by decide) rfl ?_
    refine q_iinc o (y := (a2 + (1 : Int32))) (lv' := [(2, .int (a2 + (1 : Int32))), (1, .int (a1 + (v 14 n1 10))), (0, .ref (gA G 1 0))]) dX2_failedInAll_24 rfl rfl (by decide) rfl ?_
    refine q_goto o 4 dX2_failedInAll_27 (by decide) ?_
    refine q_lv [2, 1, 0] rfl ?_
    exact hK4 (a1 + (v 14 n1 10)) (a2 + (1 : Int32)) v h
def wp_X2_failedInAll (v : St3) (post : (Int32 → St3 → Prop)) : Prop := wL_X2_failedInAll_4 post FU (0 : Int32) (0 : Int32) v
set_option maxRecDepth 20000 in
set_option maxHeartbeats 4000000 in
theorem ad_X2_failedInAll (l : Launch) (G : Geo) (v : St3) {post : (Int32 → St3 → Prop)} (h : wp_X2_failedInAll v post) : CI l G yX2_failedInAll wsX2_failedInAll 0 [.ref (gA G 1 0)] v post := by
  refine CI.of (ty := .int) (cc := cX2_failedInAll) (maxL := 3) (by decide) rfl (Nat.le_of_ble_eq_true rfl) (fun X o rt => ?_)
  unfold wp_X2_failedInAll at h
  show J l G X 0 [(0, .ref (gA G 1 0))] [] v
  refine q_iconst o dX2_failedInAll_0 (x := (0 : Int32)) (by decide) ?_
  refine q_istore_n o (lv' := [(1, .int (0 : Int32)), (0, .ref (gA G 1 0))]) dX2_failedInAll_1 (by decide) rfl ?_
  refine q_iconst o dX2_failedInAll_2 (x := (0 : Int32)) (by decide) ?_
  refine q_istore_n o (lv' := [(2, .int (0 : Int32)), (1, .int (0 : Int32)), (0, .ref (gA G 1 0))]) dX2_failedInAll_3 (by decide) rfl ?_
  refine q_lv [2, 1, 0] rfl ?_
  exact aL_X2_failedInAll_4 o rt FU (0 : Int32) (0 : Int32) v h
theorem pd_X2_failedInAll : (parseMethodDescriptor yX2_failedInAll.desc).map (fun d => d.parameters.length) = some 0 := by decide +kernel
-- PieceSwarm$Crowd.spareInAll()I
theorem inn_X2_spareInAll_X2 : ∀ w ∈ wsX20, w ∈ wsX2_spareInAll := by decide +kernel
theorem sf_X2_spareInAll_32 : SF wsX2_spareInAll RX2 32 1 3 0 := ⟨RX2, TX2, 8, rfl, rfl, rfl, rfl, by decide, inn_X2_spareInAll_X2, by decide +kernel⟩
theorem sf_X2_spareInAll_27 : SF wsX2_spareInAll RX2 27 1 1 13 := ⟨RX2, TX2, 8, rfl, rfl, rfl, rfl, by decide, inn_X2_spareInAll_X2, by decide +kernel⟩
theorem inn_X2_spareInAll_X3 : ∀ w ∈ wsX30, w ∈ wsX2_spareInAll := by decide +kernel
theorem sf_X2_spareInAll_139 : SF wsX2_spareInAll RX2 139 14 9 0 := ⟨RX3, TX3, 13, rfl, rfl, rfl, rfl, by decide, inn_X2_spareInAll_X3, by decide +kernel⟩
def wB_X2_spareInAll_4 (post : (Int32 → St3 → Prop)) (K4 : Int32 → Int32 → St3 → Prop) (a1 : Int32) (a2 : Int32) (v : St3) : Prop := (((v 1 0 3) ≤ a2 → post a1 v) ∧ (¬ (v 1 0 3) ≤ a2 → ∃ n1, n1 < 12 ∧ a2 = nI n1 ∧ K4 (a1 + (v 14 n1 9)) (a2 + (1 : Int32)) v))
def wL_X2_spareInAll_4 (post : (Int32 → St3 → Prop)) : Nat → Int32 → Int32 → St3 → Prop
  | 0, _, _, _ => False
  | f + 1, a1, a2, v => wB_X2_spareInAll_4 post (wL_X2_spareInAll_4 post f) a1 a2 v
set_option maxRecDepth 20000 in
set_option maxHeartbeats 4000000 in
theorem aL_X2_spareInAll_4 {l : Launch} {G : Geo} {X : CT} (o : OK G X cX2_spareInAll wsX2_spareInAll RX2 0 3) {post : (Int32 → St3 → Prop)} (rt : RI G X .int post) : ∀ (f : Nat) (a1 : Int32) (a2 : Int32) (v : St3), wL_X2_spareInAll_4 post f a1 a2 v → J l G X 4 [(0, .ref (gA G 1 0)), (1, .int a1), (2, .int a2)] [] v := by
  intro f
  induction f with
  | zero => intro _ _ _ h; exact False.elim h
  | succ f hK4 =>
  intro a1 a2 v h
  have h : wB_X2_spareInAll_4 post (wL_X2_spareInAll_4 post f) a1 a2 v := h
  unfold wB_X2_spareInAll_4 at h
  refine q_iload_n o dX2_spareInAll_4 rfl ?_
  refine q_aload_n o dX2_spareInAll_5 rfl ?_
  refine q_getI o sf_X2_spareInAll_32 (by decide) dX2_spareInAll_6 ?_
  refine q_ic_ge o 30 dX2_spareInAll_9 (by decide) (fun c4 => ?_) (fun c4 => ?_)
  · have h := h.1 c4
    refine q_iload_n o dX2_spareInAll_30 rfl ?_
    exact q_iret o rt dX2_spareInAll_31 h
  · have h := h.2 c4
    refine q_iload_n o dX2_spareInAll_12 rfl ?_
    refine q_aload_n o dX2_spareInAll_13 rfl ?_
    refine q_getR (q := 12) o sf_X2_spareInAll_27 (by decide) dX2_spareInAll_14 ?_
    refine q_iload_n o dX2_spareInAll_17 rfl ?_
    obtain ⟨n1, hn2, hx3, h⟩ := h
    refine q_mald o hn2 hx3 dX2_spareInAll_18 ?_
    refine q_getI o sf_X2_spareInAll_139 hn2 dX2_spareInAll_19 ?_
    refine q_iadd o dX2_spareInAll_22 ?_
    refine q_istore_n o (lv' := [(1, .int (a1 + (v 14 n1 9))), (0, .ref (gA G 1 0)), (2, .int a2)]) dX2_spareInAll_23 (by decide) rfl ?_
    refine q_iinc o (y := (a2 + (1 : Int32))) (lv' := [(2, .int (a2 + (1 : Int32))), (1, .int (a1 + (v 14 n1 9))), (0, .ref (gA G 1 0))]) dX2_spareInAll_24 rfl rfl (by decide) rfl ?_
    refine q_goto o 4 dX2_spareInAll_27 (by decide) ?_
    refine q_lv [2, 1, 0] rfl ?_
    exact hK4 (a1 + (v 14 n1 9)) (a2 + (1 : Int32)) v h
def wp_X2_spareInAll (v : St3) (post : (Int32 → St3 → Prop)) : Prop := wL_X2_spareInAll_4 post FU (0 : Int32) (0 : Int32) v
set_option maxRecDepth 20000 in
set_option maxHeartbeats 4000000 in
theorem ad_X2_spareInAll (l : Launch) (G : Geo) (v : St3) {post : (Int32 → St3 → Prop)} (h : wp_X2_spareInAll v post) : CI l G yX2_spareInAll wsX2_spareInAll 0 [.ref (gA G 1 0)] v post := by
  refine CI.of (ty := .int) (cc := cX2_spareInAll) (maxL := 3) (by decide) rfl (Nat.le_of_ble_eq_true rfl) (fun X o rt => ?_)
  unfold wp_X2_spareInAll at h
  show J l G X 0 [(0, .ref (gA G 1 0))] [] v
  refine q_iconst o dX2_spareInAll_0 (x := (0 : Int32)) (by decide) ?_
  refine q_istore_n o (lv' := [(1, .int (0 : Int32)), (0, .ref (gA G 1 0))]) dX2_spareInAll_1 (by decide) rfl ?_
  refine q_iconst o dX2_spareInAll_2 (x := (0 : Int32)) (by decide) ?_
  refine q_istore_n o (lv' := [(2, .int (0 : Int32)), (1, .int (0 : Int32)), (0, .ref (gA G 1 0))]) dX2_spareInAll_3 (by decide) rfl ?_
  refine q_lv [2, 1, 0] rfl ?_
  exact aL_X2_spareInAll_4 o rt FU (0 : Int32) (0 : Int32) v h
theorem pd_X2_spareInAll : (parseMethodDescriptor yX2_spareInAll.desc).map (fun d => d.parameters.length) = some 0 := by decide +kernel
