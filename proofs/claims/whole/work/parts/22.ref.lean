-- PieceSwarmModel.allCome(Z)V
theorem inn_X10_allCome_X10 : ∀ w ∈ wsX100, w ∈ wsX10_allCome := by decide +kernel
theorem sf_X10_allCome_170 : SF wsX10_allCome RX10 170 24 34 0 := ⟨RX10, TX10, 45, rfl, rfl, rfl, rfl, by decide, inn_X10_allCome_X10, by decide +kernel⟩
theorem sp_X10_allCome_170 : SP wsX10_allCome RX10 170 24 34 := ⟨RX10, TX10, 45, tyX10, rfl, rfl, rfl, rfl, by decide, inn_X10_allCome_X10, by decide +kernel, tyX10_ok, nmX10, rfl, by decide +kernel⟩
theorem sf_X10_allCome_105 : SF wsX10_allCome RX10 105 24 40 70 := ⟨RX10, TX10, 45, rfl, rfl, rfl, rfl, by decide, inn_X10_allCome_X10, by decide +kernel⟩
theorem sf_X10_allCome_202 : SF wsX10_allCome RX10 202 24 5 0 := ⟨RX10, TX10, 45, rfl, rfl, rfl, rfl, by decide, inn_X10_allCome_X10, by decide +kernel⟩
theorem sf_X10_allCome_108 : SF wsX10_allCome RX10 108 24 41 71 := ⟨RX10, TX10, 45, rfl, rfl, rfl, rfl, by decide, inn_X10_allCome_X10, by decide +kernel⟩
def wB_X10_allCome_4 (post : (St3 → Prop)) (K4 : Int32 → Int32 → Int32 → St3 → Prop) (a1 : Int32) (a2 : Int32) (a3 : Int32) (v : St3) : Prop := (((v 24 0 34) ≤ a3 → ∀ v1, v1 = up3 v 24 0 34 a2 → post v1) ∧ (¬ (v 24 0 34) ≤ a3 → ∃ n3, n3 < 400 ∧ a3 = nI n3 ∧ ((¬ (v 70 0 n3) = (v 24 0 5) → wp_X10_keep a2 a3 v (fun v6 => K4 a1 (a2 + (1 : Int32)) (a3 + (1 : Int32)) v6)) ∧ ((v 70 0 n3) = (v 24 0 5) → ((¬ (v 71 0 n3) = a1 → wp_X10_keep a2 a3 v (fun v8 => K4 a1 (a2 + (1 : Int32)) (a3 + (1 : Int32)) v8)) ∧ ((v 71 0 n3) = a1 → wp_X10_comes a3 v (fun v10 => K4 a1 a2 (a3 + (1 : Int32)) v10)))))))
def wL_X10_allCome_4 (post : (St3 → Prop)) : Nat → Int32 → Int32 → Int32 → St3 → Prop
  | 0, _, _, _, _ => False
  | f + 1, a1, a2, a3, v => wB_X10_allCome_4 post (wL_X10_allCome_4 post f) a1 a2 a3 v
set_option maxRecDepth 20000 in
set_option maxHeartbeats 4000000 in
theorem aL_X10_allCome_4 {l : Launch} {G : Geo} {X : CT} (o : OK G X cX10_allCome wsX10_allCome RX10 4 4) {post : (St3 → Prop)} (rt : RV G X post) : ∀ (f : Nat) (a1 : Int32) (a2 : Int32) (a3 : Int32) (v : St3), wL_X10_allCome_4 post f a1 a2 a3 v → J l G X 4 [(0, .ref (gA G 24 0)), (1, .int a1), (2, .int a2), (3, .int a3)] [] v := by
  intro f
  induction f with
  | zero => intro _ _ _ _ h; exact False.elim h
  | succ f hK4 =>
  intro a1 a2 a3 v h
  have h : wB_X10_allCome_4 post (wL_X10_allCome_4 post f) a1 a2 a3 v := h
  unfold wB_X10_allCome_4 at h
  refine q_iload_n o dX10_allCome_4 rfl ?_
  refine q_aload_n o dX10_allCome_5 rfl ?_
  refine q_getI o sf_X10_allCome_170 (by decide) dX10_allCome_6 ?_
  refine q_ic_ge o 58 dX10_allCome_9 (by decide) (fun c14 => ?_) (fun c14 => ?_)
  · have h := h.1 c14
    refine q_aload_n o dX10_allCome_58 rfl ?_
    refine q_iload_n o dX10_allCome_59 rfl ?_
    refine q_putI o sp_X10_allCome_170 (by decide) dX10_allCome_60 (fun v1 e2 => ?_)
    have h := h v1 e2
    exact q_vret o rt dX10_allCome_63 h
  · have h := h.2 c14
    refine q_aload_n o dX10_allCome_12 rfl ?_
    refine q_getR (q := 69) o sf_X10_allCome_105 (by decide) dX10_allCome_13 ?_
    refine q_iload_n o dX10_allCome_16 rfl ?_
    obtain ⟨n3, hn4, hx5, h⟩ := h
    refine q_iald (m := 399) o rfl rfl (by decide) hn4 hx5 dX10_allCome_17 ?_
    refine q_aload_n o dX10_allCome_18 rfl ?_
    refine q_getI o sf_X10_allCome_202 (by decide) dX10_allCome_19 ?_
    refine q_ic_ne o 43 dX10_allCome_22 (by decide) (fun c13 => ?_) (fun c13 => ?_)
    · have h := h.1 c13
      refine q_aload_n o dX10_allCome_43 rfl ?_
      refine q_iload_n o dX10_allCome_44 rfl ?_
      refine q_iload_n o dX10_allCome_45 rfl ?_
      refine q_callVv o [.int a2, .int a3] (ad_X10_keep l G a2 a3 v h) gX10_allCome_X10_keep rfl rfl rfl rfl (by decide) ⟨rfl, by decide, by decide, pd_X10_keep⟩ (by decide) (by decide) rfl (Nat.le_of_ble_eq_true rfl) dX10_allCome_46 (fun v6 h => ?_)
      refine q_iinc o (y := (a2 + (1 : Int32))) (lv' := [(2, .int (a2 + (1 : Int32))), (0, .ref (gA G 24 0)), (1, .int a1), (3, .int a3)]) dX10_allCome_49 rfl rfl (by decide) rfl ?_
      refine q_iinc o (y := (a3 + (1 : Int32))) (lv' := [(3, .int (a3 + (1 : Int32))), (2, .int (a2 + (1 : Int32))), (0, .ref (gA G 24 0)), (1, .int a1)]) dX10_allCome_52 rfl rfl (by decide) rfl ?_
      refine q_goto o 4 dX10_allCome_55 (by decide) ?_
      refine q_lv [2, 3, 1, 0] rfl ?_
      exact hK4 a1 (a2 + (1 : Int32)) (a3 + (1 : Int32)) v6 h
    · have h := h.2 c13
      refine q_aload_n o dX10_allCome_25 rfl ?_
      refine q_getR (q := 70) o sf_X10_allCome_108 (by decide) dX10_allCome_26 ?_
      refine q_iload_n o dX10_allCome_29 rfl ?_
      refine q_zald (m := 399) o rfl rfl (by decide) hn4 hx5 dX10_allCome_30 ?_
      refine q_iload_n o dX10_allCome_31 rfl ?_
      refine q_ic_ne o 43 dX10_allCome_32 (by decide) (fun c12 => ?_) (fun c12 => ?_)
      · have h := h.1 c12
        refine q_aload_n o dX10_allCome_43 rfl ?_
        refine q_iload_n o dX10_allCome_44 rfl ?_
        refine q_iload_n o dX10_allCome_45 rfl ?_
        refine q_callVv o [.int a2, .int a3] (ad_X10_keep l G a2 a3 v h) gX10_allCome_X10_keep rfl rfl rfl rfl (by decide) ⟨rfl, by decide, by decide, pd_X10_keep⟩ (by decide) (by decide) rfl (Nat.le_of_ble_eq_true rfl) dX10_allCome_46 (fun v8 h => ?_)
        refine q_iinc o (y := (a2 + (1 : Int32))) (lv' := [(2, .int (a2 + (1 : Int32))), (0, .ref (gA G 24 0)), (1, .int a1), (3, .int a3)]) dX10_allCome_49 rfl rfl (by decide) rfl ?_
        refine q_iinc o (y := (a3 + (1 : Int32))) (lv' := [(3, .int (a3 + (1 : Int32))), (2, .int (a2 + (1 : Int32))), (0, .ref (gA G 24 0)), (1, .int a1)]) dX10_allCome_52 rfl rfl (by decide) rfl ?_
        refine q_goto o 4 dX10_allCome_55 (by decide) ?_
        refine q_lv [2, 3, 1, 0] rfl ?_
        exact hK4 a1 (a2 + (1 : Int32)) (a3 + (1 : Int32)) v8 h
      · have h := h.2 c12
        refine q_aload_n o dX10_allCome_35 rfl ?_
        refine q_iload_n o dX10_allCome_36 rfl ?_
        refine q_callVv o [.int a3] (ad_X10_comes l G a3 v h) gX10_allCome_X10_comes rfl rfl rfl rfl (by decide) ⟨rfl, by decide, by decide, pd_X10_comes⟩ (by decide) (by decide) rfl (Nat.le_of_ble_eq_true rfl) dX10_allCome_37 (fun v10 h => ?_)
        refine q_goto o 52 dX10_allCome_40 (by decide) ?_
        refine q_iinc o (y := (a3 + (1 : Int32))) (lv' := [(3, .int (a3 + (1 : Int32))), (0, .ref (gA G 24 0)), (1, .int a1), (2, .int a2)]) dX10_allCome_52 rfl rfl (by decide) rfl ?_
        refine q_goto o 4 dX10_allCome_55 (by decide) ?_
        refine q_lv [1, 2, 3, 0] rfl ?_
        exact hK4 a1 a2 (a3 + (1 : Int32)) v10 h
def wp_X10_allCome (a1 : Int32) (v : St3) (post : (St3 → Prop)) : Prop := wL_X10_allCome_4 post FU a1 (0 : Int32) (0 : Int32) v
set_option maxRecDepth 20000 in
set_option maxHeartbeats 4000000 in
theorem ad_X10_allCome (l : Launch) (G : Geo) (a1 : Int32) (v : St3) {post : (St3 → Prop)} (h : wp_X10_allCome a1 v post) : CV l G yX10_allCome wsX10_allCome 4 [.ref (gA G 24 0), .int a1] v post := by
  refine CV.of (cc := cX10_allCome) (maxL := 4) (by decide) rfl (Nat.le_of_ble_eq_true rfl) (fun X o rt => ?_)
  unfold wp_X10_allCome at h
  show J l G X 0 [(0, .ref (gA G 24 0)), (1, .int a1)] [] v
  refine q_iconst o dX10_allCome_0 (x := (0 : Int32)) (by decide) ?_
  refine q_istore_n o (lv' := [(2, .int (0 : Int32)), (0, .ref (gA G 24 0)), (1, .int a1)]) dX10_allCome_1 (by decide) rfl ?_
  refine q_iconst o dX10_allCome_2 (x := (0 : Int32)) (by decide) ?_
  refine q_istore_n o (lv' := [(3, .int (0 : Int32)), (2, .int (0 : Int32)), (0, .ref (gA G 24 0)), (1, .int a1)]) dX10_allCome_3 (by decide) rfl ?_
  refine q_lv [2, 3, 1, 0] rfl ?_
  exact aL_X10_allCome_4 o rt FU a1 (0 : Int32) (0 : Int32) v h
theorem pd_X10_allCome : (parseMethodDescriptor yX10_allCome.desc).map (fun d => d.parameters.length) = some 1 := by decide +kernel
-- PieceSwarmModel.asks(I)Z
theorem inn_X10_asks_X10 : ∀ w ∈ wsX100, w ∈ wsX10_asks := by decide +kernel
theorem sf_X10_asks_7 : SF wsX10_asks RX10 7 24 1 0 := ⟨RX10, TX10, 45, rfl, rfl, rfl, rfl, by decide, inn_X10_asks_X10, by decide +kernel⟩
theorem sf_X10_asks_13 : SF wsX10_asks RX10 13 24 2 0 := ⟨RX10, TX10, 45, rfl, rfl, rfl, rfl, by decide, inn_X10_asks_X10, by decide +kernel⟩
theorem sf_X10_asks_48 : SF wsX10_asks RX10 48 24 20 50 := ⟨RX10, TX10, 45, rfl, rfl, rfl, rfl, by decide, inn_X10_asks_X10, by decide +kernel⟩
theorem sf_X10_asks_51 : SF wsX10_asks RX10 51 24 21 51 := ⟨RX10, TX10, 45, rfl, rfl, rfl, rfl, by decide, inn_X10_asks_X10, by decide +kernel⟩
theorem sf_X10_asks_54 : SF wsX10_asks RX10 54 24 22 52 := ⟨RX10, TX10, 45, rfl, rfl, rfl, rfl, by decide, inn_X10_asks_X10, by decide +kernel⟩
def wB_X10_asks_181 (post : (Int32 → St3 → Prop)) (K169 : Int32 → Int32 → St3 → Prop) (K181 : Int32 → Int32 → Int32 → St3 → Prop) (a1 : Int32) (a5 : Int32) (a6 : Int32) (v : St3) : Prop := (((v 24 0 2) ≤ a6 → K169 a1 (a5 + (1 : Int32)) v) ∧ (¬ (v 24 0 2) ≤ a6 → ∃ n1, n1 < 288 ∧ (((24 : Int32) * a1) + a5) = nI n1 ∧ ((¬ (v 50 0 n1) = 0 → K181 a1 a5 (a6 + (1 : Int32)) v) ∧ ((v 50 0 n1) = 0 → ((¬ (v 51 0 n1) = 0 → K181 a1 a5 (a6 + (1 : Int32)) v) ∧ ((v 51 0 n1) = 0 → wp_X10_cell a1 a5 a6 v (fun r5 v4 => ∃ n6, n6 < 1152 ∧ r5 = nI n6 ∧ ((¬ (v4 52 0 n6) = 0 → K181 a1 a5 (a6 + (1 : Int32)) v4) ∧ ((v4 52 0 n6) = 0 → wp_X10_coming a1 a5 a6 v4 (fun r10 v9 => ((r10 = (1 : Int32) → wp_X10_senderOf a1 a5 a6 v9 (fun r12 v11 => wp_X10_giver a1 a5 (-1 : Int32) r12 v11 (fun r14 v13 => ((¬ r14 = (-1 : Int32) → wp_X10_sends r14 a1 a5 a6 v13 (fun v15 => post (1 : Int32) v15)) ∧ (r14 = (-1 : Int32) → K181 a1 a5 (a6 + (1 : Int32)) v13))))) ∧ (¬ r10 = (1 : Int32) → K181 a1 a5 (a6 + (1 : Int32)) v9))))))))))))
def wL_X10_asks_181 (post : (Int32 → St3 → Prop)) (K169 : Int32 → Int32 → St3 → Prop) : Nat → Int32 → Int32 → Int32 → St3 → Prop
  | 0, _, _, _, _ => False
  | f + 1, a1, a5, a6, v => wB_X10_asks_181 post K169 (wL_X10_asks_181 post K169 f) a1 a5 a6 v
set_option maxRecDepth 20000 in
set_option maxHeartbeats 4000000 in
theorem aL_X10_asks_181 {l : Launch} {G : Geo} {X : CT} (o : OK G X cX10_asks wsX10_asks RX10 4 8) {post : (Int32 → St3 → Prop)} (rt : RI G X .boolean post) {K169 : Int32 → Int32 → St3 → Prop} (hK169 : ∀ (a1 : Int32) (a5 : Int32) (v : St3), K169 a1 a5 v → J l G X 169 [(0, .ref (gA G 24 0)), (1, .int a1), (5, .int a5)] [] v) : ∀ (f : Nat) (a1 : Int32) (a5 : Int32) (a6 : Int32) (v : St3), wL_X10_asks_181 post K169 f a1 a5 a6 v → J l G X 181 [(0, .ref (gA G 24 0)), (1, .int a1), (5, .int a5), (6, .int a6)] [] v := by
  intro f
  induction f with
  | zero => intro _ _ _ _ h; exact False.elim h
  | succ f hK181 =>
  intro a1 a5 a6 v h
  have h : wB_X10_asks_181 post K169 (wL_X10_asks_181 post K169 f) a1 a5 a6 v := h
  unfold wB_X10_asks_181 at h
  refine q_iload o dX10_asks_181 rfl ?_
  refine q_aload_n o dX10_asks_183 rfl ?_
  refine q_getI o sf_X10_asks_13 (by decide) dX10_asks_184 ?_
  refine q_ic_ge o 299 dX10_asks_187 (by decide) (fun c22 => ?_) (fun c22 => ?_)
  · have h := h.1 c22
    refine q_iinc o (y := (a5 + (1 : Int32))) (lv' := [(5, .int (a5 + (1 : Int32))), (0, .ref (gA G 24 0)), (1, .int a1), (6, .int a6)]) dX10_asks_299 rfl rfl (by decide) rfl ?_
    refine q_goto o 169 dX10_asks_302 (by decide) ?_
    refine q_lv [1, 2, 0] rfl ?_
    exact hK169 a1 (a5 + (1 : Int32)) v h
  · have h := h.2 c22
    refine q_aload_n o dX10_asks_190 rfl ?_
    refine q_getR (q := 49) o sf_X10_asks_48 (by decide) dX10_asks_191 ?_
    refine q_bipush o dX10_asks_194 (x := (24 : Int32)) (by decide) ?_
    refine q_iload_n o dX10_asks_196 rfl ?_
    refine q_imul o dX10_asks_197 ?_
    refine q_iload o dX10_asks_198 rfl ?_
    refine q_iadd o dX10_asks_200 ?_
    obtain ⟨n1, hn2, hx3, h⟩ := h
    refine q_zald (m := 287) o rfl rfl (by decide) hn2 hx3 dX10_asks_201 ?_
    refine q_if_ne o 293 dX10_asks_202 (by decide) (fun c21 => ?_) (fun c21 => ?_)
    · have h := h.1 c21
      refine q_iinc o (y := (a6 + (1 : Int32))) (lv' := [(6, .int (a6 + (1 : Int32))), (0, .ref (gA G 24 0)), (1, .int a1), (5, .int a5)]) dX10_asks_293 rfl rfl (by decide) rfl ?_
      refine q_goto o 181 dX10_asks_296 (by decide) ?_
      refine q_lv [1, 2, 3, 0] rfl ?_
      exact hK181 a1 a5 (a6 + (1 : Int32)) v h
    · have h := h.2 c21
      refine q_aload_n o dX10_asks_205 rfl ?_
      refine q_getR (q := 50) o sf_X10_asks_51 (by decide) dX10_asks_206 ?_
      refine q_bipush o dX10_asks_209 (x := (24 : Int32)) (by decide) ?_
      refine q_iload_n o dX10_asks_211 rfl ?_
      refine q_imul o dX10_asks_212 ?_
      refine q_iload o dX10_asks_213 rfl ?_
      refine q_iadd o dX10_asks_215 ?_
      refine q_zald (m := 287) o rfl rfl (by decide) hn2 hx3 dX10_asks_216 ?_
      refine q_if_ne o 293 dX10_asks_217 (by decide) (fun c20 => ?_) (fun c20 => ?_)
      · have h := h.1 c20
        refine q_iinc o (y := (a6 + (1 : Int32))) (lv' := [(6, .int (a6 + (1 : Int32))), (0, .ref (gA G 24 0)), (1, .int a1), (5, .int a5)]) dX10_asks_293 rfl rfl (by decide) rfl ?_
        refine q_goto o 181 dX10_asks_296 (by decide) ?_
        refine q_lv [1, 2, 3, 0] rfl ?_
        exact hK181 a1 a5 (a6 + (1 : Int32)) v h
      · have h := h.2 c20
        refine q_aload_n o dX10_asks_220 rfl ?_
        refine q_getR (q := 51) o sf_X10_asks_54 (by decide) dX10_asks_221 ?_
        refine q_iload_n o dX10_asks_224 rfl ?_
        refine q_iload o dX10_asks_225 rfl ?_
        refine q_iload o dX10_asks_227 rfl ?_
        refine q_callS o [.int a1, .int a5, .int a6] (ad_X10_cell l G a1 a5 a6 v h) gX10_asks_X10_cell rfl ⟨by decide, by decide, pd_X10_cell⟩ (by decide) (by decide) rfl (Nat.le_of_ble_eq_true rfl) dX10_asks_229 (fun r5 v4 h => ?_)
        obtain ⟨n6, hn7, hx8, h⟩ := h
        refine q_zald (m := 1151) o rfl rfl (by decide) hn7 hx8 dX10_asks_232 ?_
        refine q_if_ne o 293 dX10_asks_233 (by decide) (fun c19 => ?_) (fun c19 => ?_)
        · have h := h.1 c19
          refine q_iinc o (y := (a6 + (1 : Int32))) (lv' := [(6, .int (a6 + (1 : Int32))), (0, .ref (gA G 24 0)), (1, .int a1), (5, .int a5)]) dX10_asks_293 rfl rfl (by decide) rfl ?_
          refine q_goto o 181 dX10_asks_296 (by decide) ?_
          refine q_lv [1, 2, 3, 0] rfl ?_
          exact hK181 a1 a5 (a6 + (1 : Int32)) v4 h
        · have h := h.2 c19
          refine q_aload_n o dX10_asks_236 rfl ?_
          refine q_iload_n o dX10_asks_237 rfl ?_
          refine q_iload o dX10_asks_238 rfl ?_
          refine q_iload o dX10_asks_240 rfl ?_
          refine q_callV o [.int a1, .int a5, .int a6] (ad_X10_coming l G a1 a5 a6 v4 h) gX10_asks_X10_coming rfl rfl rfl rfl (by decide) ⟨rfl, by decide, by decide, pd_X10_coming⟩ (by decide) (by decide) rfl (Nat.le_of_ble_eq_true rfl) dX10_asks_242 (fun r10 v9 h => ?_)
          refine q_iconst o dX10_asks_245 (x := (1 : Int32)) (by decide) ?_
          refine q_ic_eq o 252 dX10_asks_246 (by decide) (fun c18 => ?_) (fun c18 => ?_)
          · have h := h.1 c18
            refine q_aload_n o dX10_asks_252 rfl ?_
            refine q_iload_n o dX10_asks_253 rfl ?_
            refine q_iload o dX10_asks_254 rfl ?_
            refine q_iconst o dX10_asks_256 (x := (-1 : Int32)) (by decide) ?_
            refine q_aload_n o dX10_asks_257 rfl ?_
            refine q_iload_n o dX10_asks_258 rfl ?_
            refine q_iload o dX10_asks_259 rfl ?_
            refine q_iload o dX10_asks_261 rfl ?_
            refine q_callV o [.int a1, .int a5, .int a6] (ad_X10_senderOf l G a1 a5 a6 v9 h) gX10_asks_X10_senderOf rfl rfl rfl rfl (by decide) ⟨rfl, by decide, by decide, pd_X10_senderOf⟩ (by decide) (by decide) rfl (Nat.le_of_ble_eq_true rfl) dX10_asks_263 (fun r12 v11 h => ?_)
            refine q_callV o [.int a1, .int a5, .int (-1 : Int32), .int r12] (ad_X10_giver l G a1 a5 (-1 : Int32) r12 v11 h) gX10_asks_X10_giver rfl rfl rfl rfl (by decide) ⟨rfl, by decide, by decide, pd_X10_giver⟩ (by decide) (by decide) rfl (Nat.le_of_ble_eq_true rfl) dX10_asks_266 (fun r14 v13 h => ?_)
            refine q_istore o (lv' := [(7, .int r14), (0, .ref (gA G 24 0)), (1, .int a1), (5, .int a5), (6, .int a6)]) dX10_asks_269 (by decide) rfl ?_
            refine q_iload o dX10_asks_271 rfl ?_
            refine q_iconst o dX10_asks_273 (x := (-1 : Int32)) (by decide) ?_
            refine q_ic_ne o 280 dX10_asks_274 (by decide) (fun c17 => ?_) (fun c17 => ?_)
            · have h := h.1 c17
              refine q_aload_n o dX10_asks_280 rfl ?_
              refine q_iload o dX10_asks_281 rfl ?_
              refine q_iload_n o dX10_asks_283 rfl ?_
              refine q_iload o dX10_asks_284 rfl ?_
              refine q_iload o dX10_asks_286 rfl ?_
              refine q_callVv o [.int r14, .int a1, .int a5, .int a6] (ad_X10_sends l G r14 a1 a5 a6 v13 h) gX10_asks_X10_sends rfl rfl rfl rfl (by decide) ⟨rfl, by decide, by decide, pd_X10_sends⟩ (by decide) (by decide) rfl (Nat.le_of_ble_eq_true rfl) dX10_asks_288 (fun v15 h => ?_)
              refine q_iconst o dX10_asks_291 (x := (1 : Int32)) (by decide) ?_
              exact q_zret o rt dX10_asks_292 (by decide) h
            · have h := h.2 c17
              refine q_goto o 293 dX10_asks_277 (by decide) ?_
              refine q_iinc o (y := (a6 + (1 : Int32))) (lv' := [(6, .int (a6 + (1 : Int32))), (7, .int r14), (0, .ref (gA G 24 0)), (1, .int a1), (5, .int a5)]) dX10_asks_293 rfl rfl (by decide) rfl ?_
              refine q_goto o 181 dX10_asks_296 (by decide) ?_
              refine q_lv [2, 3, 4, 0] rfl ?_
              exact hK181 a1 a5 (a6 + (1 : Int32)) v13 h
          · have h := h.2 c18
            refine q_goto o 293 dX10_asks_249 (by decide) ?_
            refine q_iinc o (y := (a6 + (1 : Int32))) (lv' := [(6, .int (a6 + (1 : Int32))), (0, .ref (gA G 24 0)), (1, .int a1), (5, .int a5)]) dX10_asks_293 rfl rfl (by decide) rfl ?_
            refine q_goto o 181 dX10_asks_296 (by decide) ?_
            refine q_lv [1, 2, 3, 0] rfl ?_
            exact hK181 a1 a5 (a6 + (1 : Int32)) v9 h
def wB_X10_asks_169 (post : (Int32 → St3 → Prop)) (K169 : Int32 → Int32 → St3 → Prop) (a1 : Int32) (a5 : Int32) (v : St3) : Prop := (((v 24 0 1) ≤ a5 → post (0 : Int32) v) ∧ (¬ (v 24 0 1) ≤ a5 → wL_X10_asks_181 post K169 FU a1 a5 (0 : Int32) v))
def wL_X10_asks_169 (post : (Int32 → St3 → Prop)) : Nat → Int32 → Int32 → St3 → Prop
  | 0, _, _, _ => False
  | f + 1, a1, a5, v => wB_X10_asks_169 post (wL_X10_asks_169 post f) a1 a5 v
set_option maxRecDepth 20000 in
set_option maxHeartbeats 4000000 in
theorem aL_X10_asks_169 {l : Launch} {G : Geo} {X : CT} (o : OK G X cX10_asks wsX10_asks RX10 4 8) {post : (Int32 → St3 → Prop)} (rt : RI G X .boolean post) : ∀ (f : Nat) (a1 : Int32) (a5 : Int32) (v : St3), wL_X10_asks_169 post f a1 a5 v → J l G X 169 [(0, .ref (gA G 24 0)), (1, .int a1), (5, .int a5)] [] v := by
  intro f
  induction f with
  | zero => intro _ _ _ h; exact False.elim h
  | succ f hK169 =>
  intro a1 a5 v h
  have h : wB_X10_asks_169 post (wL_X10_asks_169 post f) a1 a5 v := h
  unfold wB_X10_asks_169 at h
  refine q_iload o dX10_asks_169 rfl ?_
  refine q_aload_n o dX10_asks_171 rfl ?_
  refine q_getI o sf_X10_asks_7 (by decide) dX10_asks_172 ?_
  refine q_ic_ge o 305 dX10_asks_175 (by decide) (fun c23 => ?_) (fun c23 => ?_)
  · have h := h.1 c23
    refine q_iconst o dX10_asks_305 (x := (0 : Int32)) (by decide) ?_
    exact q_zret o rt dX10_asks_306 (by decide) h
  · have h := h.2 c23
    refine q_iconst o dX10_asks_178 (x := (0 : Int32)) (by decide) ?_
    refine q_istore o (lv' := [(6, .int (0 : Int32)), (0, .ref (gA G 24 0)), (1, .int a1), (5, .int a5)]) dX10_asks_179 (by decide) rfl ?_
    refine q_lv [1, 2, 3, 0] rfl ?_
    exact aL_X10_asks_181 o rt hK169 FU a1 a5 (0 : Int32) v h
def wB_X10_asks_101 (post : (Int32 → St3 → Prop)) (K10 : Int32 → Int32 → Int32 → Int32 → Int32 → St3 → Prop) (a1 : Int32) (a2 : Int32) (a3 : Int32) (a4 : Int32) (a5 : Int32) (a6 : Int32) (a7 : Int32) (v : St3) : Prop := ((¬ a4 = a6 → K10 a1 a5 a7 a6 (a5 + (1 : Int32)) v) ∧ (a4 = a6 → ((a7 < a3 → K10 a1 a5 a7 a6 (a5 + (1 : Int32)) v) ∧ (¬ a7 < a3 → K10 a1 a2 a3 a4 (a5 + (1 : Int32)) v))))
set_option maxRecDepth 20000 in
set_option maxHeartbeats 4000000 in
theorem aJ_X10_asks_101 {l : Launch} {G : Geo} {X : CT} (o : OK G X cX10_asks wsX10_asks RX10 4 8) {post : (Int32 → St3 → Prop)} (rt : RI G X .boolean post) {K10 : Int32 → Int32 → Int32 → Int32 → Int32 → St3 → Prop} (hK10 : ∀ (a1 : Int32) (a2 : Int32) (a3 : Int32) (a4 : Int32) (a5 : Int32) (v : St3), K10 a1 a2 a3 a4 a5 v → J l G X 10 [(0, .ref (gA G 24 0)), (1, .int a1), (2, .int a2), (3, .int a3), (4, .int a4), (5, .int a5)] [] v) (a1 : Int32) (a2 : Int32) (a3 : Int32) (a4 : Int32) (a5 : Int32) (a6 : Int32) (a7 : Int32) (v : St3) (h : wB_X10_asks_101 post K10 a1 a2 a3 a4 a5 a6 a7 v) : J l G X 101 [(0, .ref (gA G 24 0)), (1, .int a1), (2, .int a2), (3, .int a3), (4, .int a4), (5, .int a5), (6, .int a6), (7, .int a7)] [] v := by
  unfold wB_X10_asks_101 at h
  refine q_iload o dX10_asks_101 rfl ?_
  refine q_iload o dX10_asks_103 rfl ?_
  refine q_ic_ne o 117 dX10_asks_105 (by decide) (fun c47 => ?_) (fun c47 => ?_)
  · have h := h.1 c47
    refine q_iload o dX10_asks_117 rfl ?_
    refine q_istore_n o (lv' := [(2, .int a5), (0, .ref (gA G 24 0)), (1, .int a1), (3, .int a3), (4, .int a4), (5, .int a5), (6, .int a6), (7, .int a7)]) dX10_asks_119 (by decide) rfl ?_
    refine q_iload o dX10_asks_120 rfl ?_
    refine q_istore_n o (lv' := [(3, .int a7), (2, .int a5), (0, .ref (gA G 24 0)), (1, .int a1), (4, .int a4), (5, .int a5), (6, .int a6), (7, .int a7)]) dX10_asks_122 (by decide) rfl ?_
    refine q_iload o dX10_asks_123 rfl ?_
    refine q_istore o (lv' := [(4, .int a6), (3, .int a7), (2, .int a5), (0, .ref (gA G 24 0)), (1, .int a1), (5, .int a5), (6, .int a6), (7, .int a7)]) dX10_asks_125 (by decide) rfl ?_
    refine q_iinc o (y := (a5 + (1 : Int32))) (lv' := [(5, .int (a5 + (1 : Int32))), (4, .int a6), (3, .int a7), (2, .int a5), (0, .ref (gA G 24 0)), (1, .int a1), (6, .int a6), (7, .int a7)]) dX10_asks_127 rfl rfl (by decide) rfl ?_
    refine q_goto o 10 dX10_asks_130 (by decide) ?_
    refine q_lv [4, 5, 3, 2, 1, 0] rfl ?_
    exact hK10 a1 a5 a7 a6 (a5 + (1 : Int32)) v h
  · have h := h.2 c47
    refine q_iload o dX10_asks_108 rfl ?_
    refine q_iload_n o dX10_asks_110 rfl ?_
    refine q_ic_lt o 117 dX10_asks_111 (by decide) (fun c46 => ?_) (fun c46 => ?_)
    · have h := h.1 c46
      refine q_iload o dX10_asks_117 rfl ?_
      refine q_istore_n o (lv' := [(2, .int a5), (0, .ref (gA G 24 0)), (1, .int a1), (3, .int a3), (4, .int a4), (5, .int a5), (6, .int a6), (7, .int a7)]) dX10_asks_119 (by decide) rfl ?_
      refine q_iload o dX10_asks_120 rfl ?_
      refine q_istore_n o (lv' := [(3, .int a7), (2, .int a5), (0, .ref (gA G 24 0)), (1, .int a1), (4, .int a4), (5, .int a5), (6, .int a6), (7, .int a7)]) dX10_asks_122 (by decide) rfl ?_
      refine q_iload o dX10_asks_123 rfl ?_
      refine q_istore o (lv' := [(4, .int a6), (3, .int a7), (2, .int a5), (0, .ref (gA G 24 0)), (1, .int a1), (5, .int a5), (6, .int a6), (7, .int a7)]) dX10_asks_125 (by decide) rfl ?_
      refine q_iinc o (y := (a5 + (1 : Int32))) (lv' := [(5, .int (a5 + (1 : Int32))), (4, .int a6), (3, .int a7), (2, .int a5), (0, .ref (gA G 24 0)), (1, .int a1), (6, .int a6), (7, .int a7)]) dX10_asks_127 rfl rfl (by decide) rfl ?_
      refine q_goto o 10 dX10_asks_130 (by decide) ?_
      refine q_lv [4, 5, 3, 2, 1, 0] rfl ?_
      exact hK10 a1 a5 a7 a6 (a5 + (1 : Int32)) v h
    · have h := h.2 c46
      refine q_goto o 127 dX10_asks_114 (by decide) ?_
      refine q_iinc o (y := (a5 + (1 : Int32))) (lv' := [(5, .int (a5 + (1 : Int32))), (0, .ref (gA G 24 0)), (1, .int a1), (2, .int a2), (3, .int a3), (4, .int a4), (6, .int a6), (7, .int a7)]) dX10_asks_127 rfl rfl (by decide) rfl ?_
      refine q_goto o 10 dX10_asks_130 (by decide) ?_
      refine q_lv [1, 2, 3, 4, 5, 0] rfl ?_
      exact hK10 a1 a2 a3 a4 (a5 + (1 : Int32)) v h
def wB_X10_asks_10 (post : (Int32 → St3 → Prop)) (K10 : Int32 → Int32 → Int32 → Int32 → Int32 → St3 → Prop) (a1 : Int32) (a2 : Int32) (a3 : Int32) (a4 : Int32) (a5 : Int32) (v : St3) : Prop := (((v 24 0 1) ≤ a5 → ((a2 = (-1 : Int32) → wL_X10_asks_169 post FU a1 (0 : Int32) v) ∧ (¬ a2 = (-1 : Int32) → wp_X10_bound a1 a2 (1 : Int32) v (fun r25 v24 => wp_X10_giver a1 a2 r25 (-1 : Int32) v24 (fun r27 v26 => wp_X10_nextBlock a1 a2 v26 (fun r29 v28 => wp_X10_sends r27 a1 a2 r29 v28 (fun v30 => post (1 : Int32) v30))))))) ∧ (¬ (v 24 0 1) ≤ a5 → ∃ n33, n33 < 288 ∧ (((24 : Int32) * a1) + a5) = nI n33 ∧ ((¬ (v 50 0 n33) = 0 → K10 a1 a2 a3 a4 (a5 + (1 : Int32)) v) ∧ ((v 50 0 n33) = 0 → wp_X10_nextBlock a1 a5 v (fun r37 v36 => ((r37 = (-1 : Int32) → K10 a1 a2 a3 a4 (a5 + (1 : Int32)) v36) ∧ (¬ r37 = (-1 : Int32) → wp_X10_bound a1 a5 (1 : Int32) v36 (fun r39 v38 => wp_X10_giver a1 a5 r39 (-1 : Int32) v38 (fun r41 v40 => ((¬ r41 = (-1 : Int32) → wp_X10_isBegun a1 a5 v40 (fun r43 v42 => wp_X10_tellers a1 a5 v42 (fun r45 v44 => ((a2 = (-1 : Int32) → K10 a1 a5 r45 r43 (a5 + (1 : Int32)) v44) ∧ (¬ a2 = (-1 : Int32) → ((a4 = 0 → wB_X10_asks_101 post K10 a1 a2 a3 a4 a5 r43 r45 v44) ∧ (¬ a4 = 0 → ((r43 = 0 → K10 a1 a2 a3 a4 (a5 + (1 : Int32)) v44) ∧ (¬ r43 = 0 → wB_X10_asks_101 post K10 a1 a2 a3 a4 a5 r43 r45 v44))))))))) ∧ (r41 = (-1 : Int32) → K10 a1 a2 a3 a4 (a5 + (1 : Int32)) v40)))))))))))
def wL_X10_asks_10 (post : (Int32 → St3 → Prop)) : Nat → Int32 → Int32 → Int32 → Int32 → Int32 → St3 → Prop
  | 0, _, _, _, _, _, _ => False
  | f + 1, a1, a2, a3, a4, a5, v => wB_X10_asks_10 post (wL_X10_asks_10 post f) a1 a2 a3 a4 a5 v
set_option maxRecDepth 20000 in
set_option maxHeartbeats 4000000 in
theorem aL_X10_asks_10 {l : Launch} {G : Geo} {X : CT} (o : OK G X cX10_asks wsX10_asks RX10 4 8) {post : (Int32 → St3 → Prop)} (rt : RI G X .boolean post) : ∀ (f : Nat) (a1 : Int32) (a2 : Int32) (a3 : Int32) (a4 : Int32) (a5 : Int32) (v : St3), wL_X10_asks_10 post f a1 a2 a3 a4 a5 v → J l G X 10 [(0, .ref (gA G 24 0)), (1, .int a1), (2, .int a2), (3, .int a3), (4, .int a4), (5, .int a5)] [] v := by
  intro f
  induction f with
  | zero => intro _ _ _ _ _ _ h; exact False.elim h
  | succ f hK10 =>
  intro a1 a2 a3 a4 a5 v h
  have h : wB_X10_asks_10 post (wL_X10_asks_10 post f) a1 a2 a3 a4 a5 v := h
  unfold wB_X10_asks_10 at h
  refine q_iload o dX10_asks_10 rfl ?_
  refine q_aload_n o dX10_asks_12 rfl ?_
  refine q_getI o sf_X10_asks_7 (by decide) dX10_asks_13 ?_
  refine q_ic_ge o 133 dX10_asks_16 (by decide) (fun c54 => ?_) (fun c54 => ?_)
  · have h := h.1 c54
    refine q_iload_n o dX10_asks_133 rfl ?_
    refine q_iconst o dX10_asks_134 (x := (-1 : Int32)) (by decide) ?_
    refine q_ic_eq o 166 dX10_asks_135 (by decide) (fun c32 => ?_) (fun c32 => ?_)
    · have h := h.1 c32
      refine q_iconst o dX10_asks_166 (x := (0 : Int32)) (by decide) ?_
      refine q_istore o (lv' := [(5, .int (0 : Int32)), (0, .ref (gA G 24 0)), (1, .int a1), (2, .int a2), (3, .int a3), (4, .int a4)]) dX10_asks_167 (by decide) rfl ?_
      refine q_lv [1, 2, 0] rfl ?_
      exact aL_X10_asks_169 o rt FU a1 (0 : Int32) v h
    · have h := h.2 c32
      refine q_aload_n o dX10_asks_138 rfl ?_
      refine q_aload_n o dX10_asks_139 rfl ?_
      refine q_iload_n o dX10_asks_140 rfl ?_
      refine q_iload_n o dX10_asks_141 rfl ?_
      refine q_aload_n o dX10_asks_142 rfl ?_
      refine q_iload_n o dX10_asks_143 rfl ?_
      refine q_iload_n o dX10_asks_144 rfl ?_
      refine q_iconst o dX10_asks_145 (x := (1 : Int32)) (by decide) ?_
      refine q_callV o [.int a1, .int a2, .int (1 : Int32)] (ad_X10_bound l G a1 a2 (1 : Int32) v h) gX10_asks_X10_bound rfl rfl rfl rfl (by decide) ⟨rfl, by decide, by decide, pd_X10_bound⟩ (by decide) (by decide) rfl (Nat.le_of_ble_eq_true rfl) dX10_asks_146 (fun r25 v24 h => ?_)
      refine q_iconst o dX10_asks_149 (x := (-1 : Int32)) (by decide) ?_
      refine q_callV o [.int a1, .int a2, .int r25, .int (-1 : Int32)] (ad_X10_giver l G a1 a2 r25 (-1 : Int32) v24 h) gX10_asks_X10_giver rfl rfl rfl rfl (by decide) ⟨rfl, by decide, by decide, pd_X10_giver⟩ (by decide) (by decide) rfl (Nat.le_of_ble_eq_true rfl) dX10_asks_150 (fun r27 v26 h => ?_)
      refine q_iload_n o dX10_asks_153 rfl ?_
      refine q_iload_n o dX10_asks_154 rfl ?_
      refine q_aload_n o dX10_asks_155 rfl ?_
      refine q_iload_n o dX10_asks_156 rfl ?_
      refine q_iload_n o dX10_asks_157 rfl ?_
      refine q_callV o [.int a1, .int a2] (ad_X10_nextBlock l G a1 a2 v26 h) gX10_asks_X10_nextBlock rfl rfl rfl rfl (by decide) ⟨rfl, by decide, by decide, pd_X10_nextBlock⟩ (by decide) (by decide) rfl (Nat.le_of_ble_eq_true rfl) dX10_asks_158 (fun r29 v28 h => ?_)
      refine q_callVv o [.int r27, .int a1, .int a2, .int r29] (ad_X10_sends l G r27 a1 a2 r29 v28 h) gX10_asks_X10_sends rfl rfl rfl rfl (by decide) ⟨rfl, by decide, by decide, pd_X10_sends⟩ (by decide) (by decide) rfl (Nat.le_of_ble_eq_true rfl) dX10_asks_161 (fun v30 h => ?_)
      refine q_iconst o dX10_asks_164 (x := (1 : Int32)) (by decide) ?_
      exact q_zret o rt dX10_asks_165 (by decide) h
  · have h := h.2 c54
    refine q_aload_n o dX10_asks_19 rfl ?_
    refine q_getR (q := 49) o sf_X10_asks_48 (by decide) dX10_asks_20 ?_
    refine q_bipush o dX10_asks_23 (x := (24 : Int32)) (by decide) ?_
    refine q_iload_n o dX10_asks_25 rfl ?_
    refine q_imul o dX10_asks_26 ?_
    refine q_iload o dX10_asks_27 rfl ?_
    refine q_iadd o dX10_asks_29 ?_
    obtain ⟨n33, hn34, hx35, h⟩ := h
    refine q_zald (m := 287) o rfl rfl (by decide) hn34 hx35 dX10_asks_30 ?_
    refine q_if_ne o 127 dX10_asks_31 (by decide) (fun c53 => ?_) (fun c53 => ?_)
    · have h := h.1 c53
      refine q_iinc o (y := (a5 + (1 : Int32))) (lv' := [(5, .int (a5 + (1 : Int32))), (0, .ref (gA G 24 0)), (1, .int a1), (2, .int a2), (3, .int a3), (4, .int a4)]) dX10_asks_127 rfl rfl (by decide) rfl ?_
      refine q_goto o 10 dX10_asks_130 (by decide) ?_
      refine q_lv [1, 2, 3, 4, 5, 0] rfl ?_
      exact hK10 a1 a2 a3 a4 (a5 + (1 : Int32)) v h
    · have h := h.2 c53
      refine q_aload_n o dX10_asks_34 rfl ?_
      refine q_iload_n o dX10_asks_35 rfl ?_
      refine q_iload o dX10_asks_36 rfl ?_
      refine q_callV o [.int a1, .int a5] (ad_X10_nextBlock l G a1 a5 v h) gX10_asks_X10_nextBlock rfl rfl rfl rfl (by decide) ⟨rfl, by decide, by decide, pd_X10_nextBlock⟩ (by decide) (by decide) rfl (Nat.le_of_ble_eq_true rfl) dX10_asks_38 (fun r37 v36 h => ?_)
      refine q_iconst o dX10_asks_41 (x := (-1 : Int32)) (by decide) ?_
      refine q_ic_eq o 127 dX10_asks_42 (by decide) (fun c52 => ?_) (fun c52 => ?_)
      · have h := h.1 c52
        refine q_iinc o (y := (a5 + (1 : Int32))) (lv' := [(5, .int (a5 + (1 : Int32))), (0, .ref (gA G 24 0)), (1, .int a1), (2, .int a2), (3, .int a3), (4, .int a4)]) dX10_asks_127 rfl rfl (by decide) rfl ?_
        refine q_goto o 10 dX10_asks_130 (by decide) ?_
        refine q_lv [1, 2, 3, 4, 5, 0] rfl ?_
        exact hK10 a1 a2 a3 a4 (a5 + (1 : Int32)) v36 h
      · have h := h.2 c52
        refine q_aload_n o dX10_asks_45 rfl ?_
        refine q_iload_n o dX10_asks_46 rfl ?_
        refine q_iload o dX10_asks_47 rfl ?_
        refine q_aload_n o dX10_asks_49 rfl ?_
        refine q_iload_n o dX10_asks_50 rfl ?_
        refine q_iload o dX10_asks_51 rfl ?_
        refine q_iconst o dX10_asks_53 (x := (1 : Int32)) (by decide) ?_
        refine q_callV o [.int a1, .int a5, .int (1 : Int32)] (ad_X10_bound l G a1 a5 (1 : Int32) v36 h) gX10_asks_X10_bound rfl rfl rfl rfl (by decide) ⟨rfl, by decide, by decide, pd_X10_bound⟩ (by decide) (by decide) rfl (Nat.le_of_ble_eq_true rfl) dX10_asks_54 (fun r39 v38 h => ?_)
        refine q_iconst o dX10_asks_57 (x := (-1 : Int32)) (by decide) ?_
        refine q_callV o [.int a1, .int a5, .int r39, .int (-1 : Int32)] (ad_X10_giver l G a1 a5 r39 (-1 : Int32) v38 h) gX10_asks_X10_giver rfl rfl rfl rfl (by decide) ⟨rfl, by decide, by decide, pd_X10_giver⟩ (by decide) (by decide) rfl (Nat.le_of_ble_eq_true rfl) dX10_asks_58 (fun r41 v40 h => ?_)
        refine q_iconst o dX10_asks_61 (x := (-1 : Int32)) (by decide) ?_
        refine q_ic_ne o 68 dX10_asks_62 (by decide) (fun c51 => ?_) (fun c51 => ?_)
        · have h := h.1 c51
          refine q_aload_n o dX10_asks_68 rfl ?_
          refine q_iload_n o dX10_asks_69 rfl ?_
          refine q_iload o dX10_asks_70 rfl ?_
          refine q_callV o [.int a1, .int a5] (ad_X10_isBegun l G a1 a5 v40 h) gX10_asks_X10_isBegun rfl rfl rfl rfl (by decide) ⟨rfl, by decide, by decide, pd_X10_isBegun⟩ (by decide) (by decide) rfl (Nat.le_of_ble_eq_true rfl) dX10_asks_72 (fun r43 v42 h => ?_)
          refine q_istore o (lv' := [(6, .int r43), (0, .ref (gA G 24 0)), (1, .int a1), (2, .int a2), (3, .int a3), (4, .int a4), (5, .int a5)]) dX10_asks_75 (by decide) rfl ?_
          refine q_aload_n o dX10_asks_77 rfl ?_
          refine q_iload_n o dX10_asks_78 rfl ?_
          refine q_iload o dX10_asks_79 rfl ?_
          refine q_callV o [.int a1, .int a5] (ad_X10_tellers l G a1 a5 v42 h) gX10_asks_X10_tellers rfl rfl rfl rfl (by decide) ⟨rfl, by decide, by decide, pd_X10_tellers⟩ (by decide) (by decide) rfl (Nat.le_of_ble_eq_true rfl) dX10_asks_81 (fun r45 v44 h => ?_)
          refine q_istore o (lv' := [(7, .int r45), (6, .int r43), (0, .ref (gA G 24 0)), (1, .int a1), (2, .int a2), (3, .int a3), (4, .int a4), (5, .int a5)]) dX10_asks_84 (by decide) rfl ?_
          refine q_iload_n o dX10_asks_86 rfl ?_
          refine q_iconst o dX10_asks_87 (x := (-1 : Int32)) (by decide) ?_
          refine q_ic_eq o 117 dX10_asks_88 (by decide) (fun c50 => ?_) (fun c50 => ?_)
          · have h := h.1 c50
            refine q_iload o dX10_asks_117 rfl ?_
            refine q_istore_n o (lv' := [(2, .int a5), (7, .int r45), (6, .int r43), (0, .ref (gA G 24 0)), (1, .int a1), (3, .int a3), (4, .int a4), (5, .int a5)]) dX10_asks_119 (by decide) rfl ?_
            refine q_iload o dX10_asks_120 rfl ?_
            refine q_istore_n o (lv' := [(3, .int r45), (2, .int a5), (7, .int r45), (6, .int r43), (0, .ref (gA G 24 0)), (1, .int a1), (4, .int a4), (5, .int a5)]) dX10_asks_122 (by decide) rfl ?_
            refine q_iload o dX10_asks_123 rfl ?_
            refine q_istore o (lv' := [(4, .int r43), (3, .int r45), (2, .int a5), (7, .int r45), (6, .int r43), (0, .ref (gA G 24 0)), (1, .int a1), (5, .int a5)]) dX10_asks_125 (by decide) rfl ?_
            refine q_iinc o (y := (a5 + (1 : Int32))) (lv' := [(5, .int (a5 + (1 : Int32))), (4, .int r43), (3, .int r45), (2, .int a5), (7, .int r45), (6, .int r43), (0, .ref (gA G 24 0)), (1, .int a1)]) dX10_asks_127 rfl rfl (by decide) rfl ?_
            refine q_goto o 10 dX10_asks_130 (by decide) ?_
            refine q_lv [6, 7, 3, 2, 1, 0] rfl ?_
            exact hK10 a1 a5 r45 r43 (a5 + (1 : Int32)) v44 h
          · have h := h.2 c50
            refine q_iload o dX10_asks_91 rfl ?_
            refine q_if_eq o 101 dX10_asks_93 (by decide) (fun c49 => ?_) (fun c49 => ?_)
            · have h := h.1 c49
              refine q_lv [2, 3, 4, 5, 6, 7, 1, 0] rfl ?_
              exact aJ_X10_asks_101 o rt hK10 a1 a2 a3 a4 a5 r43 r45 v44 h
            · have h := h.2 c49
              refine q_iload o dX10_asks_96 rfl ?_
              refine q_if_eq o 127 dX10_asks_98 (by decide) (fun c48 => ?_) (fun c48 => ?_)
              · have h := h.1 c48
                refine q_iinc o (y := (a5 + (1 : Int32))) (lv' := [(5, .int (a5 + (1 : Int32))), (7, .int r45), (6, .int r43), (0, .ref (gA G 24 0)), (1, .int a1), (2, .int a2), (3, .int a3), (4, .int a4)]) dX10_asks_127 rfl rfl (by decide) rfl ?_
                refine q_goto o 10 dX10_asks_130 (by decide) ?_
                refine q_lv [3, 4, 5, 6, 7, 0] rfl ?_
                exact hK10 a1 a2 a3 a4 (a5 + (1 : Int32)) v44 h
              · have h := h.2 c48
                refine q_lv [2, 3, 4, 5, 6, 7, 1, 0] rfl ?_
                exact aJ_X10_asks_101 o rt hK10 a1 a2 a3 a4 a5 r43 r45 v44 h
        · have h := h.2 c51
          refine q_goto o 127 dX10_asks_65 (by decide) ?_
          refine q_iinc o (y := (a5 + (1 : Int32))) (lv' := [(5, .int (a5 + (1 : Int32))), (0, .ref (gA G 24 0)), (1, .int a1), (2, .int a2), (3, .int a3), (4, .int a4)]) dX10_asks_127 rfl rfl (by decide) rfl ?_
          refine q_goto o 10 dX10_asks_130 (by decide) ?_
          refine q_lv [1, 2, 3, 4, 5, 0] rfl ?_
          exact hK10 a1 a2 a3 a4 (a5 + (1 : Int32)) v40 h
def wp_X10_asks (a1 : Int32) (v : St3) (post : (Int32 → St3 → Prop)) : Prop := wL_X10_asks_10 post FU a1 (-1 : Int32) (0 : Int32) (0 : Int32) (0 : Int32) v
set_option maxRecDepth 20000 in
set_option maxHeartbeats 4000000 in
theorem ad_X10_asks (l : Launch) (G : Geo) (a1 : Int32) (v : St3) {post : (Int32 → St3 → Prop)} (h : wp_X10_asks a1 v post) : CI l G yX10_asks wsX10_asks 4 [.ref (gA G 24 0), .int a1] v post := by
  refine CI.of (ty := .boolean) (cc := cX10_asks) (maxL := 8) (by decide) rfl (Nat.le_of_ble_eq_true rfl) (fun X o rt => ?_)
  unfold wp_X10_asks at h
  show J l G X 0 [(0, .ref (gA G 24 0)), (1, .int a1)] [] v
  refine q_iconst o dX10_asks_0 (x := (-1 : Int32)) (by decide) ?_
  refine q_istore_n o (lv' := [(2, .int (-1 : Int32)), (0, .ref (gA G 24 0)), (1, .int a1)]) dX10_asks_1 (by decide) rfl ?_
  refine q_iconst o dX10_asks_2 (x := (0 : Int32)) (by decide) ?_
  refine q_istore_n o (lv' := [(3, .int (0 : Int32)), (2, .int (-1 : Int32)), (0, .ref (gA G 24 0)), (1, .int a1)]) dX10_asks_3 (by decide) rfl ?_
  refine q_iconst o dX10_asks_4 (x := (0 : Int32)) (by decide) ?_
  refine q_istore o (lv' := [(4, .int (0 : Int32)), (3, .int (0 : Int32)), (2, .int (-1 : Int32)), (0, .ref (gA G 24 0)), (1, .int a1)]) dX10_asks_5 (by decide) rfl ?_
  refine q_iconst o dX10_asks_7 (x := (0 : Int32)) (by decide) ?_
  refine q_istore o (lv' := [(5, .int (0 : Int32)), (4, .int (0 : Int32)), (3, .int (0 : Int32)), (2, .int (-1 : Int32)), (0, .ref (gA G 24 0)), (1, .int a1)]) dX10_asks_8 (by decide) rfl ?_
  refine q_lv [4, 5, 3, 2, 1, 0] rfl ?_
  exact aL_X10_asks_10 o rt FU a1 (-1 : Int32) (0 : Int32) (0 : Int32) (0 : Int32) v h
theorem pd_X10_asks : (parseMethodDescriptor yX10_asks.desc).map (fun d => d.parameters.length) = some 1 := by decide +kernel
-- PieceSwarmModel.oneTick()V
theorem inn_X10_oneTick_X10 : ∀ w ∈ wsX100, w ∈ wsX10_oneTick := by decide +kernel
theorem sf_X10_oneTick_202 : SF wsX10_oneTick RX10 202 24 5 0 := ⟨RX10, TX10, 45, rfl, rfl, rfl, rfl, by decide, inn_X10_oneTick_X10, by decide +kernel⟩
theorem sp_X10_oneTick_202 : SP wsX10_oneTick RX10 202 24 5 := ⟨RX10, TX10, 45, tyX10, rfl, rfl, rfl, rfl, by decide, inn_X10_oneTick_X10, by decide +kernel, tyX10_ok, nmX10, rfl, by decide +kernel⟩
theorem sf_X10_oneTick_136 : SF wsX10_oneTick RX10 136 24 4 0 := ⟨RX10, TX10, 45, rfl, rfl, rfl, rfl, by decide, inn_X10_oneTick_X10, by decide +kernel⟩
theorem sf_X10_oneTick_117 : SF wsX10_oneTick RX10 117 24 44 74 := ⟨RX10, TX10, 45, rfl, rfl, rfl, rfl, by decide, inn_X10_oneTick_X10, by decide +kernel⟩
theorem sf_X10_oneTick_114 : SF wsX10_oneTick RX10 114 24 43 73 := ⟨RX10, TX10, 45, rfl, rfl, rfl, rfl, by decide, inn_X10_oneTick_X10, by decide +kernel⟩
theorem sf_X10_oneTick_26 : SF wsX10_oneTick RX10 26 24 13 43 := ⟨RX10, TX10, 45, rfl, rfl, rfl, rfl, by decide, inn_X10_oneTick_X10, by decide +kernel⟩
theorem sf_X10_oneTick_23 : SF wsX10_oneTick RX10 23 24 12 42 := ⟨RX10, TX10, 45, rfl, rfl, rfl, rfl, by decide, inn_X10_oneTick_X10, by decide +kernel⟩
theorem sf_X10_oneTick_20 : SF wsX10_oneTick RX10 20 24 11 41 := ⟨RX10, TX10, 45, rfl, rfl, rfl, rfl, by decide, inn_X10_oneTick_X10, by decide +kernel⟩
def wB_X10_oneTick_145 (post : (St3 → Prop)) (K137 : Int32 → St3 → Prop) (K145 : Int32 → Int32 → St3 → Prop) (a1 : Int32) (a2 : Int32) (v : St3) : Prop := (((v 24 0 4) ≤ a2 → K137 a1 v) ∧ (¬ (v 24 0 4) ≤ a2 → ∃ n7, n7 < 12 ∧ a2 = nI n7 ∧ (((v 74 0 n7) ≤ 0 → K145 a1 (a2 + (1 : Int32)) v) ∧ (¬ (v 74 0 n7) ≤ 0 → wp_X10_asks a2 v (fun r11 v10 => ((r11 = 0 → K145 a1 (a2 + (1 : Int32)) v10) ∧ (¬ r11 = 0 → K145 (1 : Int32) (a2 + (1 : Int32)) v10)))))))
def wL_X10_oneTick_145 (post : (St3 → Prop)) (K137 : Int32 → St3 → Prop) : Nat → Int32 → Int32 → St3 → Prop
  | 0, _, _, _ => False
  | f + 1, a1, a2, v => wB_X10_oneTick_145 post K137 (wL_X10_oneTick_145 post K137 f) a1 a2 v
set_option maxRecDepth 20000 in
set_option maxHeartbeats 4000000 in
theorem aL_X10_oneTick_145 {l : Launch} {G : Geo} {X : CT} (o : OK G X cX10_oneTick wsX10_oneTick RX10 5 3) {post : (St3 → Prop)} (rt : RV G X post) {K137 : Int32 → St3 → Prop} (hK137 : ∀ (a1 : Int32) (v : St3), K137 a1 v → J l G X 137 [(0, .ref (gA G 24 0)), (1, .int a1)] [] v) : ∀ (f : Nat) (a1 : Int32) (a2 : Int32) (v : St3), wL_X10_oneTick_145 post K137 f a1 a2 v → J l G X 145 [(0, .ref (gA G 24 0)), (1, .int a1), (2, .int a2)] [] v := by
  intro f
  induction f with
  | zero => intro _ _ _ h; exact False.elim h
  | succ f hK145 =>
  intro a1 a2 v h
  have h : wB_X10_oneTick_145 post K137 (wL_X10_oneTick_145 post K137 f) a1 a2 v := h
  unfold wB_X10_oneTick_145 at h
  refine q_iload_n o dX10_oneTick_145 rfl ?_
  refine q_aload_n o dX10_oneTick_146 rfl ?_
  refine q_getI o sf_X10_oneTick_136 (by decide) dX10_oneTick_147 ?_
  refine q_ic_ge o 178 dX10_oneTick_150 (by decide) (fun c14 => ?_) (fun c14 => ?_)
  · have h := h.1 c14
    refine q_goto o 137 dX10_oneTick_178 (by decide) ?_
    refine q_lv [0, 1] rfl ?_
    exact hK137 a1 v h
  · have h := h.2 c14
    refine q_aload_n o dX10_oneTick_153 rfl ?_
    refine q_getR (q := 73) o sf_X10_oneTick_117 (by decide) dX10_oneTick_154 ?_
    refine q_iload_n o dX10_oneTick_157 rfl ?_
    obtain ⟨n7, hn8, hx9, h⟩ := h
    refine q_iald (m := 11) o rfl rfl (by decide) hn8 hx9 dX10_oneTick_158 ?_
    refine q_if_le o 172 dX10_oneTick_159 (by decide) (fun c13 => ?_) (fun c13 => ?_)
    · have h := h.1 c13
      refine q_iinc o (y := (a2 + (1 : Int32))) (lv' := [(2, .int (a2 + (1 : Int32))), (0, .ref (gA G 24 0)), (1, .int a1)]) dX10_oneTick_172 rfl rfl (by decide) rfl ?_
      refine q_goto o 145 dX10_oneTick_175 (by decide) ?_
      refine q_lv [1, 2, 0] rfl ?_
      exact hK145 a1 (a2 + (1 : Int32)) v h
    · have h := h.2 c13
      refine q_aload_n o dX10_oneTick_162 rfl ?_
      refine q_iload_n o dX10_oneTick_163 rfl ?_
      refine q_callV o [.int a2] (ad_X10_asks l G a2 v h) gX10_oneTick_X10_asks rfl rfl rfl rfl (by decide) ⟨rfl, by decide, by decide, pd_X10_asks⟩ (by decide) (by decide) rfl (Nat.le_of_ble_eq_true rfl) dX10_oneTick_164 (fun r11 v10 h => ?_)
      refine q_if_eq o 172 dX10_oneTick_167 (by decide) (fun c12 => ?_) (fun c12 => ?_)
      · have h := h.1 c12
        refine q_iinc o (y := (a2 + (1 : Int32))) (lv' := [(2, .int (a2 + (1 : Int32))), (0, .ref (gA G 24 0)), (1, .int a1)]) dX10_oneTick_172 rfl rfl (by decide) rfl ?_
        refine q_goto o 145 dX10_oneTick_175 (by decide) ?_
        refine q_lv [1, 2, 0] rfl ?_
        exact hK145 a1 (a2 + (1 : Int32)) v10 h
      · have h := h.2 c12
        refine q_iconst o dX10_oneTick_170 (x := (1 : Int32)) (by decide) ?_
        refine q_istore_n o (lv' := [(1, .int (1 : Int32)), (0, .ref (gA G 24 0)), (2, .int a2)]) dX10_oneTick_171 (by decide) rfl ?_
        refine q_iinc o (y := (a2 + (1 : Int32))) (lv' := [(2, .int (a2 + (1 : Int32))), (1, .int (1 : Int32)), (0, .ref (gA G 24 0))]) dX10_oneTick_172 rfl rfl (by decide) rfl ?_
        refine q_goto o 145 dX10_oneTick_175 (by decide) ?_
        refine q_lv [2, 1, 0] rfl ?_
        exact hK145 (1 : Int32) (a2 + (1 : Int32)) v10 h
def wB_X10_oneTick_137 (post : (St3 → Prop)) (K137 : Int32 → St3 → Prop) (a1 : Int32) (v : St3) : Prop := ((a1 = 0 → wp_X10_allCome (1 : Int32) v (fun v5 => post v5)) ∧ (¬ a1 = 0 → wL_X10_oneTick_145 post K137 FU (0 : Int32) (0 : Int32) v))
def wL_X10_oneTick_137 (post : (St3 → Prop)) : Nat → Int32 → St3 → Prop
  | 0, _, _ => False
  | f + 1, a1, v => wB_X10_oneTick_137 post (wL_X10_oneTick_137 post f) a1 v
set_option maxRecDepth 20000 in
set_option maxHeartbeats 4000000 in
theorem aL_X10_oneTick_137 {l : Launch} {G : Geo} {X : CT} (o : OK G X cX10_oneTick wsX10_oneTick RX10 5 3) {post : (St3 → Prop)} (rt : RV G X post) : ∀ (f : Nat) (a1 : Int32) (v : St3), wL_X10_oneTick_137 post f a1 v → J l G X 137 [(0, .ref (gA G 24 0)), (1, .int a1)] [] v := by
  intro f
  induction f with
  | zero => intro _ _ h; exact False.elim h
  | succ f hK137 =>
  intro a1 v h
  have h : wB_X10_oneTick_137 post (wL_X10_oneTick_137 post f) a1 v := h
  unfold wB_X10_oneTick_137 at h
  refine q_iload_n o dX10_oneTick_137 rfl ?_
  refine q_if_eq o 181 dX10_oneTick_138 (by decide) (fun c15 => ?_) (fun c15 => ?_)
  · have h := h.1 c15
    refine q_aload_n o dX10_oneTick_181 rfl ?_
    refine q_iconst o dX10_oneTick_182 (x := (1 : Int32)) (by decide) ?_
    refine q_callVv o [.int (1 : Int32)] (ad_X10_allCome l G (1 : Int32) v h) gX10_oneTick_X10_allCome rfl rfl rfl rfl (by decide) ⟨rfl, by decide, by decide, pd_X10_allCome⟩ (by decide) (by decide) rfl (Nat.le_of_ble_eq_true rfl) dX10_oneTick_183 (fun v5 h => ?_)
    exact q_vret o rt dX10_oneTick_186 h
  · have h := h.2 c15
    refine q_iconst o dX10_oneTick_141 (x := (0 : Int32)) (by decide) ?_
    refine q_istore_n o (lv' := [(1, .int (0 : Int32)), (0, .ref (gA G 24 0))]) dX10_oneTick_142 (by decide) rfl ?_
    refine q_iconst o dX10_oneTick_143 (x := (0 : Int32)) (by decide) ?_
    refine q_istore_n o (lv' := [(2, .int (0 : Int32)), (1, .int (0 : Int32)), (0, .ref (gA G 24 0))]) dX10_oneTick_144 (by decide) rfl ?_
    refine q_lv [2, 1, 0] rfl ?_
    exact aL_X10_oneTick_145 o rt hK137 FU (0 : Int32) (0 : Int32) v h
def wB_X10_oneTick_114 (post : (St3 → Prop)) (K57 : Int32 → St3 → Prop) (a1 : Int32) (s0 : Int32) (s1 : Int32) (v : St3) : Prop := ∃ n27, n27 < 12 ∧ s1 = nI n27 ∧ ∀ v30, v30 = up3 v 74 0 n27 s0 → ∃ n32, n32 < 12 ∧ a1 = nI n32 ∧ (((v30 43 0 n32) = 0 → K57 (a1 + (1 : Int32)) v30) ∧ (¬ (v30 43 0 n32) = 0 → wp_X10_forgets a1 v30 (fun v35 => K57 (a1 + (1 : Int32)) v35)))
set_option maxRecDepth 20000 in
set_option maxHeartbeats 4000000 in
theorem aJ_X10_oneTick_114 {l : Launch} {G : Geo} {X : CT} (o : OK G X cX10_oneTick wsX10_oneTick RX10 5 3) {post : (St3 → Prop)} (rt : RV G X post) {K57 : Int32 → St3 → Prop} (hK57 : ∀ (a1 : Int32) (v : St3), K57 a1 v → J l G X 57 [(0, .ref (gA G 24 0)), (1, .int a1)] [] v) (a1 : Int32) (s0 : Int32) (s1 : Int32) (v : St3) (h : wB_X10_oneTick_114 post K57 a1 s0 s1 v) : J l G X 114 [(0, .ref (gA G 24 0)), (1, .int a1)] [.int s0, .int s1, .ref (gA G 74 0)] v := by
  unfold wB_X10_oneTick_114 at h
  obtain ⟨n27, hn28, hx29, h⟩ := h
  refine q_iast (m := 11) o rfl rfl (by decide) hn28 hx29 dX10_oneTick_114 (fun v30 e31 => ?_)
  have h := h v30 e31
  refine q_aload_n o dX10_oneTick_115 rfl ?_
  refine q_getR (q := 42) o sf_X10_oneTick_26 (by decide) dX10_oneTick_116 ?_
  refine q_iload_n o dX10_oneTick_119 rfl ?_
  obtain ⟨n32, hn33, hx34, h⟩ := h
  refine q_zald (m := 11) o rfl rfl (by decide) hn33 hx34 dX10_oneTick_120 ?_
  refine q_if_eq o 129 dX10_oneTick_121 (by decide) (fun c37 => ?_) (fun c37 => ?_)
  · have h := h.1 c37
    refine q_iinc o (y := (a1 + (1 : Int32))) (lv' := [(1, .int (a1 + (1 : Int32))), (0, .ref (gA G 24 0))]) dX10_oneTick_129 rfl rfl (by decide) rfl ?_
    refine q_goto o 57 dX10_oneTick_132 (by decide) ?_
    refine q_lv [1, 0] rfl ?_
    exact hK57 (a1 + (1 : Int32)) v30 h
  · have h := h.2 c37
    refine q_aload_n o dX10_oneTick_124 rfl ?_
    refine q_iload_n o dX10_oneTick_125 rfl ?_
    refine q_callVv o [.int a1] (ad_X10_forgets l G a1 v30 h) gX10_oneTick_X10_forgets rfl rfl rfl rfl (by decide) ⟨rfl, by decide, by decide, pd_X10_forgets⟩ (by decide) (by decide) rfl (Nat.le_of_ble_eq_true rfl) dX10_oneTick_126 (fun v35 h => ?_)
    refine q_iinc o (y := (a1 + (1 : Int32))) (lv' := [(1, .int (a1 + (1 : Int32))), (0, .ref (gA G 24 0))]) dX10_oneTick_129 rfl rfl (by decide) rfl ?_
    refine q_goto o 57 dX10_oneTick_132 (by decide) ?_
    refine q_lv [1, 0] rfl ?_
    exact hK57 (a1 + (1 : Int32)) v35 h
def wB_X10_oneTick_89 (post : (St3 → Prop)) (K57 : Int32 → St3 → Prop) (a1 : Int32) (s0 : Int32) (s1 : Int32) (v : St3) : Prop := ∃ n19, n19 < 12 ∧ s1 = nI n19 ∧ ∀ v22, v22 = up3 v 73 0 n19 s0 → ∃ n24, n24 < 12 ∧ a1 = nI n24 ∧ (((v22 43 0 n24) = 0 → wB_X10_oneTick_114 post K57 a1 (0 : Int32) a1 v22) ∧ (¬ (v22 43 0 n24) = 0 → wB_X10_oneTick_114 post K57 a1 (v22 42 0 n24) a1 v22))
set_option maxRecDepth 20000 in
set_option maxHeartbeats 4000000 in
theorem aJ_X10_oneTick_89 {l : Launch} {G : Geo} {X : CT} (o : OK G X cX10_oneTick wsX10_oneTick RX10 5 3) {post : (St3 → Prop)} (rt : RV G X post) {K57 : Int32 → St3 → Prop} (hK57 : ∀ (a1 : Int32) (v : St3), K57 a1 v → J l G X 57 [(0, .ref (gA G 24 0)), (1, .int a1)] [] v) (a1 : Int32) (s0 : Int32) (s1 : Int32) (v : St3) (h : wB_X10_oneTick_89 post K57 a1 s0 s1 v) : J l G X 89 [(0, .ref (gA G 24 0)), (1, .int a1)] [.int s0, .int s1, .ref (gA G 73 0)] v := by
  unfold wB_X10_oneTick_89 at h
  obtain ⟨n19, hn20, hx21, h⟩ := h
  refine q_iast (m := 11) o rfl rfl (by decide) hn20 hx21 dX10_oneTick_89 (fun v22 e23 => ?_)
  have h := h v22 e23
  refine q_aload_n o dX10_oneTick_90 rfl ?_
  refine q_getR (q := 73) o sf_X10_oneTick_117 (by decide) dX10_oneTick_91 ?_
  refine q_iload_n o dX10_oneTick_94 rfl ?_
  refine q_aload_n o dX10_oneTick_95 rfl ?_
  refine q_getR (q := 42) o sf_X10_oneTick_26 (by decide) dX10_oneTick_96 ?_
  refine q_iload_n o dX10_oneTick_99 rfl ?_
  obtain ⟨n24, hn25, hx26, h⟩ := h
  refine q_zald (m := 11) o rfl rfl (by decide) hn25 hx26 dX10_oneTick_100 ?_
  refine q_if_eq o 113 dX10_oneTick_101 (by decide) (fun c38 => ?_) (fun c38 => ?_)
  · have h := h.1 c38
    refine q_iconst o dX10_oneTick_113 (x := (0 : Int32)) (by decide) ?_
    exact aJ_X10_oneTick_114 o rt hK57 a1 (0 : Int32) a1 v22 h
  · have h := h.2 c38
    refine q_aload_n o dX10_oneTick_104 rfl ?_
    refine q_getR (q := 41) o sf_X10_oneTick_23 (by decide) dX10_oneTick_105 ?_
    refine q_iload_n o dX10_oneTick_108 rfl ?_
    refine q_iald (m := 11) o rfl rfl (by decide) hn25 hx26 dX10_oneTick_109 ?_
    refine q_goto o 114 dX10_oneTick_110 (by decide) ?_
    exact aJ_X10_oneTick_114 o rt hK57 a1 (v22 42 0 n24) a1 v22 h
def wB_X10_oneTick_57 (post : (St3 → Prop)) (K57 : Int32 → St3 → Prop) (a1 : Int32) (v : St3) : Prop := (((v 24 0 4) ≤ a1 → wL_X10_oneTick_137 post FU (1 : Int32) v) ∧ (¬ (v 24 0 4) ≤ a1 → ∃ n16, n16 < 12 ∧ a1 = nI n16 ∧ (((v 43 0 n16) = 0 → wB_X10_oneTick_89 post K57 a1 (0 : Int32) a1 v) ∧ (¬ (v 43 0 n16) = 0 → wB_X10_oneTick_89 post K57 a1 (v 41 0 n16) a1 v))))
def wL_X10_oneTick_57 (post : (St3 → Prop)) : Nat → Int32 → St3 → Prop
  | 0, _, _ => False
  | f + 1, a1, v => wB_X10_oneTick_57 post (wL_X10_oneTick_57 post f) a1 v
set_option maxRecDepth 20000 in
set_option maxHeartbeats 4000000 in
theorem aL_X10_oneTick_57 {l : Launch} {G : Geo} {X : CT} (o : OK G X cX10_oneTick wsX10_oneTick RX10 5 3) {post : (St3 → Prop)} (rt : RV G X post) : ∀ (f : Nat) (a1 : Int32) (v : St3), wL_X10_oneTick_57 post f a1 v → J l G X 57 [(0, .ref (gA G 24 0)), (1, .int a1)] [] v := by
  intro f
  induction f with
  | zero => intro _ _ h; exact False.elim h
  | succ f hK57 =>
  intro a1 v h
  have h : wB_X10_oneTick_57 post (wL_X10_oneTick_57 post f) a1 v := h
  unfold wB_X10_oneTick_57 at h
  refine q_iload_n o dX10_oneTick_57 rfl ?_
  refine q_aload_n o dX10_oneTick_58 rfl ?_
  refine q_getI o sf_X10_oneTick_136 (by decide) dX10_oneTick_59 ?_
  refine q_ic_ge o 135 dX10_oneTick_62 (by decide) (fun c40 => ?_) (fun c40 => ?_)
  · have h := h.1 c40
    refine q_iconst o dX10_oneTick_135 (x := (1 : Int32)) (by decide) ?_
    refine q_istore_n o (lv' := [(1, .int (1 : Int32)), (0, .ref (gA G 24 0))]) dX10_oneTick_136 (by decide) rfl ?_
    refine q_lv [1, 0] rfl ?_
    exact aL_X10_oneTick_137 o rt FU (1 : Int32) v h
  · have h := h.2 c40
    refine q_aload_n o dX10_oneTick_65 rfl ?_
    refine q_getR (q := 72) o sf_X10_oneTick_114 (by decide) dX10_oneTick_66 ?_
    refine q_iload_n o dX10_oneTick_69 rfl ?_
    refine q_aload_n o dX10_oneTick_70 rfl ?_
    refine q_getR (q := 42) o sf_X10_oneTick_26 (by decide) dX10_oneTick_71 ?_
    refine q_iload_n o dX10_oneTick_74 rfl ?_
    obtain ⟨n16, hn17, hx18, h⟩ := h
    refine q_zald (m := 11) o rfl rfl (by decide) hn17 hx18 dX10_oneTick_75 ?_
    refine q_if_eq o 88 dX10_oneTick_76 (by decide) (fun c39 => ?_) (fun c39 => ?_)
    · have h := h.1 c39
      refine q_iconst o dX10_oneTick_88 (x := (0 : Int32)) (by decide) ?_
      exact aJ_X10_oneTick_89 o rt hK57 a1 (0 : Int32) a1 v h
    · have h := h.2 c39
      refine q_aload_n o dX10_oneTick_79 rfl ?_
      refine q_getR (q := 40) o sf_X10_oneTick_20 (by decide) dX10_oneTick_80 ?_
      refine q_iload_n o dX10_oneTick_83 rfl ?_
      refine q_iald (m := 11) o rfl rfl (by decide) hn17 hx18 dX10_oneTick_84 ?_
      refine q_goto o 89 dX10_oneTick_85 (by decide) ?_
      exact aJ_X10_oneTick_89 o rt hK57 a1 (v 41 0 n16) a1 v h
def wB_X10_oneTick_17 (post : (St3 → Prop)) (K17 : Int32 → St3 → Prop) (a1 : Int32) (v : St3) : Prop := (((v 24 0 4) ≤ a1 → wL_X10_oneTick_57 post FU (0 : Int32) v) ∧ (¬ (v 24 0 4) ≤ a1 → ¬ (4 : Int32) = 0 ∧ ((¬ ((v 24 0 5) - (v 24 0 5) / (4 : Int32) * (4 : Int32)) = (1 : Int32) → wL_X10_oneTick_57 post FU (0 : Int32) v) ∧ (((v 24 0 5) - (v 24 0 5) / (4 : Int32) * (4 : Int32)) = (1 : Int32) → ∃ n42, n42 < 12 ∧ a1 = nI n42 ∧ (((v 43 0 n42) = 0 → K17 (a1 + (1 : Int32)) v) ∧ (¬ (v 43 0 n42) = 0 → wp_X10_opens a1 v (fun v45 => K17 (a1 + (1 : Int32)) v45)))))))
def wL_X10_oneTick_17 (post : (St3 → Prop)) : Nat → Int32 → St3 → Prop
  | 0, _, _ => False
  | f + 1, a1, v => wB_X10_oneTick_17 post (wL_X10_oneTick_17 post f) a1 v
set_option maxRecDepth 20000 in
set_option maxHeartbeats 4000000 in
theorem aL_X10_oneTick_17 {l : Launch} {G : Geo} {X : CT} (o : OK G X cX10_oneTick wsX10_oneTick RX10 5 3) {post : (St3 → Prop)} (rt : RV G X post) : ∀ (f : Nat) (a1 : Int32) (v : St3), wL_X10_oneTick_17 post f a1 v → J l G X 17 [(0, .ref (gA G 24 0)), (1, .int a1)] [] v := by
  intro f
  induction f with
  | zero => intro _ _ h; exact False.elim h
  | succ f hK17 =>
  intro a1 v h
  have h : wB_X10_oneTick_17 post (wL_X10_oneTick_17 post f) a1 v := h
  unfold wB_X10_oneTick_17 at h
  refine q_iload_n o dX10_oneTick_17 rfl ?_
  refine q_aload_n o dX10_oneTick_18 rfl ?_
  refine q_getI o sf_X10_oneTick_136 (by decide) dX10_oneTick_19 ?_
  refine q_ic_ge o 55 dX10_oneTick_22 (by decide) (fun c49 => ?_) (fun c49 => ?_)
  · have h := h.1 c49
    refine q_iconst o dX10_oneTick_55 (x := (0 : Int32)) (by decide) ?_
    refine q_istore_n o (lv' := [(1, .int (0 : Int32)), (0, .ref (gA G 24 0))]) dX10_oneTick_56 (by decide) rfl ?_
    refine q_lv [1, 0] rfl ?_
    exact aL_X10_oneTick_57 o rt FU (0 : Int32) v h
  · have h := h.2 c49
    refine q_aload_n o dX10_oneTick_25 rfl ?_
    refine q_getI o sf_X10_oneTick_202 (by decide) dX10_oneTick_26 ?_
    refine q_iconst o dX10_oneTick_29 (x := (4 : Int32)) (by decide) ?_
    obtain ⟨hz41, h⟩ := h
    refine q_irem o dX10_oneTick_30 hz41 ?_
    refine q_iconst o dX10_oneTick_31 (x := (1 : Int32)) (by decide) ?_
    refine q_ic_ne o 55 dX10_oneTick_32 (by decide) (fun c48 => ?_) (fun c48 => ?_)
    · have h := h.1 c48
      refine q_iconst o dX10_oneTick_55 (x := (0 : Int32)) (by decide) ?_
      refine q_istore_n o (lv' := [(1, .int (0 : Int32)), (0, .ref (gA G 24 0))]) dX10_oneTick_56 (by decide) rfl ?_
      refine q_lv [1, 0] rfl ?_
      exact aL_X10_oneTick_57 o rt FU (0 : Int32) v h
    · have h := h.2 c48
      refine q_aload_n o dX10_oneTick_35 rfl ?_
      refine q_getR (q := 42) o sf_X10_oneTick_26 (by decide) dX10_oneTick_36 ?_
      refine q_iload_n o dX10_oneTick_39 rfl ?_
      obtain ⟨n42, hn43, hx44, h⟩ := h
      refine q_zald (m := 11) o rfl rfl (by decide) hn43 hx44 dX10_oneTick_40 ?_
      refine q_if_eq o 49 dX10_oneTick_41 (by decide) (fun c47 => ?_) (fun c47 => ?_)
      · have h := h.1 c47
        refine q_iinc o (y := (a1 + (1 : Int32))) (lv' := [(1, .int (a1 + (1 : Int32))), (0, .ref (gA G 24 0))]) dX10_oneTick_49 rfl rfl (by decide) rfl ?_
        refine q_goto o 17 dX10_oneTick_52 (by decide) ?_
        refine q_lv [1, 0] rfl ?_
        exact hK17 (a1 + (1 : Int32)) v h
      · have h := h.2 c47
        refine q_aload_n o dX10_oneTick_44 rfl ?_
        refine q_iload_n o dX10_oneTick_45 rfl ?_
        refine q_callVv o [.int a1] (ad_X10_opens l G a1 v h) gX10_oneTick_X10_opens rfl rfl rfl rfl (by decide) ⟨rfl, by decide, by decide, pd_X10_opens⟩ (by decide) (by decide) rfl (Nat.le_of_ble_eq_true rfl) dX10_oneTick_46 (fun v45 h => ?_)
        refine q_iinc o (y := (a1 + (1 : Int32))) (lv' := [(1, .int (a1 + (1 : Int32))), (0, .ref (gA G 24 0))]) dX10_oneTick_49 rfl rfl (by decide) rfl ?_
        refine q_goto o 17 dX10_oneTick_52 (by decide) ?_
        refine q_lv [1, 0] rfl ?_
        exact hK17 (a1 + (1 : Int32)) v45 h
def wp_X10_oneTick (v : St3) (post : (St3 → Prop)) : Prop := ∀ v1, v1 = up3 v 24 0 5 ((v 24 0 5) + (1 : Int32)) → wp_X10_allCome (0 : Int32) v1 (fun v3 => wL_X10_oneTick_17 post FU (0 : Int32) v3)
set_option maxRecDepth 20000 in
set_option maxHeartbeats 4000000 in
theorem ad_X10_oneTick (l : Launch) (G : Geo) (v : St3) {post : (St3 → Prop)} (h : wp_X10_oneTick v post) : CV l G yX10_oneTick wsX10_oneTick 5 [.ref (gA G 24 0)] v post := by
  refine CV.of (cc := cX10_oneTick) (maxL := 3) (by decide) rfl (Nat.le_of_ble_eq_true rfl) (fun X o rt => ?_)
  unfold wp_X10_oneTick at h
  show J l G X 0 [(0, .ref (gA G 24 0))] [] v
  refine q_aload_n o dX10_oneTick_0 rfl ?_
  refine q_dup o dX10_oneTick_1 rfl ?_
  refine q_getI o sf_X10_oneTick_202 (by decide) dX10_oneTick_2 ?_
  refine q_iconst o dX10_oneTick_5 (x := (1 : Int32)) (by decide) ?_
  refine q_iadd o dX10_oneTick_6 ?_
  refine q_putI o sp_X10_oneTick_202 (by decide) dX10_oneTick_7 (fun v1 e2 => ?_)
  have h := h v1 e2
  refine q_aload_n o dX10_oneTick_10 rfl ?_
  refine q_iconst o dX10_oneTick_11 (x := (0 : Int32)) (by decide) ?_
  refine q_callVv o [.int (0 : Int32)] (ad_X10_allCome l G (0 : Int32) v1 h) gX10_oneTick_X10_allCome rfl rfl rfl rfl (by decide) ⟨rfl, by decide, by decide, pd_X10_allCome⟩ (by decide) (by decide) rfl (Nat.le_of_ble_eq_true rfl) dX10_oneTick_12 (fun v3 h => ?_)
  refine q_iconst o dX10_oneTick_15 (x := (0 : Int32)) (by decide) ?_
  refine q_istore_n o (lv' := [(1, .int (0 : Int32)), (0, .ref (gA G 24 0))]) dX10_oneTick_16 (by decide) rfl ?_
  refine q_lv [1, 0] rfl ?_
  exact aL_X10_oneTick_17 o rt FU (0 : Int32) v3 h
theorem pd_X10_oneTick : (parseMethodDescriptor yX10_oneTick.desc).map (fun d => d.parameters.length) = some 0 := by decide +kernel
-- PieceSwarmModel.tick(I)I
theorem inn_X10_tick_X10 : ∀ w ∈ wsX100, w ∈ wsX10_tick := by decide +kernel
theorem sp_X10_tick_120 : SP wsX10_tick RX10 120 24 0 := ⟨RX10, TX10, 45, tyX10, rfl, rfl, rfl, rfl, by decide, inn_X10_tick_X10, by decide +kernel, tyX10_ok, nmX10, rfl, by decide +kernel⟩
theorem sf_X10_tick_221 : SF wsX10_tick RX10 221 24 6 0 := ⟨RX10, TX10, 45, rfl, rfl, rfl, rfl, by decide, inn_X10_tick_X10, by decide +kernel⟩
def wB_X10_tick_24 (post : (Int32 → St3 → Prop)) (K24 : Int32 → Int32 → Int32 → St3 → Prop) (a1 : Int32) (a2 : Int32) (a3 : Int32) (v : St3) : Prop := ((a1 ≤ a3 → post ((v 24 0 6) - a2) v) ∧ (¬ a1 ≤ a3 → wp_X10_oneTick v (fun v5 => K24 a1 a2 (a3 + (1 : Int32)) v5)))
def wL_X10_tick_24 (post : (Int32 → St3 → Prop)) : Nat → Int32 → Int32 → Int32 → St3 → Prop
  | 0, _, _, _, _ => False
  | f + 1, a1, a2, a3, v => wB_X10_tick_24 post (wL_X10_tick_24 post f) a1 a2 a3 v
set_option maxRecDepth 20000 in
set_option maxHeartbeats 4000000 in
theorem aL_X10_tick_24 {l : Launch} {G : Geo} {X : CT} (o : OK G X cX10_tick wsX10_tick RX10 6 4) {post : (Int32 → St3 → Prop)} (rt : RI G X .int post) : ∀ (f : Nat) (a1 : Int32) (a2 : Int32) (a3 : Int32) (v : St3), wL_X10_tick_24 post f a1 a2 a3 v → J l G X 24 [(0, .ref (gA G 24 0)), (1, .int a1), (2, .int a2), (3, .int a3)] [] v := by
  intro f
  induction f with
  | zero => intro _ _ _ _ h; exact False.elim h
  | succ f hK24 =>
  intro a1 a2 a3 v h
  have h : wB_X10_tick_24 post (wL_X10_tick_24 post f) a1 a2 a3 v := h
  unfold wB_X10_tick_24 at h
  refine q_iload_n o dX10_tick_24 rfl ?_
  refine q_iload_n o dX10_tick_25 rfl ?_
  refine q_ic_ge o 39 dX10_tick_26 (by decide) (fun c7 => ?_) (fun c7 => ?_)
  · have h := h.1 c7
    refine q_aload_n o dX10_tick_39 rfl ?_
    refine q_getI o sf_X10_tick_221 (by decide) dX10_tick_40 ?_
    refine q_iload_n o dX10_tick_43 rfl ?_
    refine q_isub o dX10_tick_44 ?_
    exact q_iret o rt dX10_tick_45 h
  · have h := h.2 c7
    refine q_aload_n o dX10_tick_29 rfl ?_
    refine q_callVv o [] (ad_X10_oneTick l G v h) gX10_tick_X10_oneTick rfl rfl rfl rfl (by decide) ⟨rfl, by decide, by decide, pd_X10_oneTick⟩ (by decide) (by decide) rfl (Nat.le_of_ble_eq_true rfl) dX10_tick_30 (fun v5 h => ?_)
    refine q_iinc o (y := (a3 + (1 : Int32))) (lv' := [(3, .int (a3 + (1 : Int32))), (0, .ref (gA G 24 0)), (1, .int a1), (2, .int a2)]) dX10_tick_33 rfl rfl (by decide) rfl ?_
    refine q_goto o 24 dX10_tick_36 (by decide) ?_
    refine q_lv [1, 2, 3, 0] rfl ?_
    exact hK24 a1 a2 (a3 + (1 : Int32)) v5 h
def wp_X10_tick (a1 : Int32) (v : St3) (post : (Int32 → St3 → Prop)) : Prop := ∀ v1, v1 = up3 v 24 0 0 (0 : Int32) → wp_X10_in a1 (0 : Int32) (50 : Int32) v1 (fun r4 v3 => ((¬ r4 = 0 → wL_X10_tick_24 post FU a1 (v3 24 0 6) (0 : Int32) v3) ∧ (r4 = 0 → post (-1 : Int32) v3)))
set_option maxRecDepth 20000 in
set_option maxHeartbeats 4000000 in
theorem ad_X10_tick (l : Launch) (G : Geo) (a1 : Int32) (v : St3) {post : (Int32 → St3 → Prop)} (h : wp_X10_tick a1 v post) : CI l G yX10_tick wsX10_tick 6 [.ref (gA G 24 0), .int a1] v post := by
  refine CI.of (ty := .int) (cc := cX10_tick) (maxL := 4) (by decide) rfl (Nat.le_of_ble_eq_true rfl) (fun X o rt => ?_)
  unfold wp_X10_tick at h
  show J l G X 0 [(0, .ref (gA G 24 0)), (1, .int a1)] [] v
  refine q_aload_n o dX10_tick_0 rfl ?_
  refine q_iconst o dX10_tick_1 (x := (0 : Int32)) (by decide) ?_
  refine q_putI o sp_X10_tick_120 (by decide) dX10_tick_2 (fun v1 e2 => ?_)
  have h := h v1 e2
  refine q_iload_n o dX10_tick_5 rfl ?_
  refine q_iconst o dX10_tick_6 (x := (0 : Int32)) (by decide) ?_
  refine q_bipush o dX10_tick_7 (x := (50 : Int32)) (by decide) ?_
  refine q_callS o [.int a1, .int (0 : Int32), .int (50 : Int32)] (ad_X10_in l G a1 (0 : Int32) (50 : Int32) v1 h) gX10_tick_X10_in rfl ⟨by decide, by decide, pd_X10_in⟩ (by decide) (by decide) rfl (Nat.le_of_ble_eq_true rfl) dX10_tick_9 (fun r4 v3 h => ?_)
  refine q_if_ne o 17 dX10_tick_12 (by decide) (fun c8 => ?_) (fun c8 => ?_)
  · have h := h.1 c8
    refine q_aload_n o dX10_tick_17 rfl ?_
    refine q_getI o sf_X10_tick_221 (by decide) dX10_tick_18 ?_
    refine q_istore_n o (lv' := [(2, .int (v3 24 0 6)), (0, .ref (gA G 24 0)), (1, .int a1)]) dX10_tick_21 (by decide) rfl ?_
    refine q_iconst o dX10_tick_22 (x := (0 : Int32)) (by decide) ?_
    refine q_istore_n o (lv' := [(3, .int (0 : Int32)), (2, .int (v3 24 0 6)), (0, .ref (gA G 24 0)), (1, .int a1)]) dX10_tick_23 (by decide) rfl ?_
    refine q_lv [2, 3, 1, 0] rfl ?_
    exact aL_X10_tick_24 o rt FU a1 (v3 24 0 6) (0 : Int32) v3 h
  · have h := h.2 c8
    refine q_iconst o dX10_tick_15 (x := (-1 : Int32)) (by decide) ?_
    exact q_iret o rt dX10_tick_16 h
theorem pd_X10_tick : (parseMethodDescriptor yX10_tick.desc).map (fun d => d.parameters.length) = some 1 := by decide +kernel
-- PieceSwarmModel.about(II)I
theorem inn_X10_about_X10 : ∀ w ∈ wsX100, w ∈ wsX10_about := by decide +kernel
theorem sp_X10_about_120 : SP wsX10_about RX10 120 24 0 := ⟨RX10, TX10, 45, tyX10, rfl, rfl, rfl, rfl, by decide, inn_X10_about_X10, by decide +kernel, tyX10_ok, nmX10, rfl, by decide +kernel⟩
theorem sf_X10_about_16 : SF wsX10_about RX10 16 24 10 40 := ⟨RX10, TX10, 45, rfl, rfl, rfl, rfl, by decide, inn_X10_about_X10, by decide +kernel⟩
theorem sf_X10_about_26 : SF wsX10_about RX10 26 24 13 43 := ⟨RX10, TX10, 45, rfl, rfl, rfl, rfl, by decide, inn_X10_about_X10, by decide +kernel⟩
theorem sf_X10_about_33 : SF wsX10_about RX10 33 24 15 45 := ⟨RX10, TX10, 45, rfl, rfl, rfl, rfl, by decide, inn_X10_about_X10, by decide +kernel⟩
theorem sf_X10_about_36 : SF wsX10_about RX10 36 24 16 46 := ⟨RX10, TX10, 45, rfl, rfl, rfl, rfl, by decide, inn_X10_about_X10, by decide +kernel⟩
theorem sf_X10_about_39 : SF wsX10_about RX10 39 24 17 47 := ⟨RX10, TX10, 45, rfl, rfl, rfl, rfl, by decide, inn_X10_about_X10, by decide +kernel⟩
theorem sf_X10_about_42 : SF wsX10_about RX10 42 24 18 48 := ⟨RX10, TX10, 45, rfl, rfl, rfl, rfl, by decide, inn_X10_about_X10, by decide +kernel⟩
theorem sf_X10_about_51 : SF wsX10_about RX10 51 24 21 51 := ⟨RX10, TX10, 45, rfl, rfl, rfl, rfl, by decide, inn_X10_about_X10, by decide +kernel⟩
theorem sf_X10_about_7 : SF wsX10_about RX10 7 24 1 0 := ⟨RX10, TX10, 45, rfl, rfl, rfl, rfl, by decide, inn_X10_about_X10, by decide +kernel⟩
theorem sf_X10_about_45 : SF wsX10_about RX10 45 24 19 49 := ⟨RX10, TX10, 45, rfl, rfl, rfl, rfl, by decide, inn_X10_about_X10, by decide +kernel⟩
theorem sf_X10_about_69 : SF wsX10_about RX10 69 24 27 57 := ⟨RX10, TX10, 45, rfl, rfl, rfl, rfl, by decide, inn_X10_about_X10, by decide +kernel⟩
theorem sf_X10_about_136 : SF wsX10_about RX10 136 24 4 0 := ⟨RX10, TX10, 45, rfl, rfl, rfl, rfl, by decide, inn_X10_about_X10, by decide +kernel⟩
theorem sf_X10_about_63 : SF wsX10_about RX10 63 24 25 55 := ⟨RX10, TX10, 45, rfl, rfl, rfl, rfl, by decide, inn_X10_about_X10, by decide +kernel⟩
def wp_X10_about (a1 : Int32) (a2 : Int32) (v : St3) (post : (Int32 → St3 → Prop)) : Prop := ∀ v1, v1 = up3 v 24 0 0 (0 : Int32) → wp_X10_isPeer a1 v1 (fun r4 v3 => ((¬ r4 = 0 → ((a2 = nI 0 → ∃ n6, n6 < 12 ∧ a1 = nI n6 ∧ post (v3 40 0 n6) v3) ∧ (a2 = nI 1 → ∃ n9, n9 < 12 ∧ a1 = nI n9 ∧ (((v3 43 0 n9) = 0 → post (0 : Int32) v3) ∧ (¬ (v3 43 0 n9) = 0 → post (1 : Int32) v3))) ∧ (a2 = nI 2 → wp_X10_hasMany a1 v3 (fun r14 v13 => post r14 v13)) ∧ (a2 = nI 3 → wp_X10_holdsMany a1 v3 (fun r16 v15 => post r16 v15)) ∧ (a2 = nI 4 → ∃ n17, n17 < 12 ∧ a1 = nI n17 ∧ post (v3 45 0 n17) v3) ∧ (a2 = nI 5 → ∃ n20, n20 < 12 ∧ a1 = nI n20 ∧ post (v3 46 0 n20) v3) ∧ (a2 = nI 6 → ∃ n23, n23 < 12 ∧ a1 = nI n23 ∧ post (v3 47 0 n23) v3) ∧ (a2 = nI 7 → ∃ n26, n26 < 12 ∧ a1 = nI n26 ∧ post (v3 48 0 n26) v3) ∧ (a2 = nI 8 → wp_X10_count_51 ((24 : Int32) * a1) (v3 24 0 1) v3 (fun r30 v29 => post r30 v29)) ∧ (a2 = nI 9 → ∃ n31, n31 < 12 ∧ a1 = nI n31 ∧ post (v3 49 0 n31) v3) ∧ (a2 = nI 10 → wp_X10_comingTo a1 v3 (fun r35 v34 => post r35 v34)) ∧ (a2 = nI 11 → wp_X10_count_57 ((12 : Int32) * a1) (v3 24 0 4) v3 (fun r37 v36 => post r37 v36)) ∧ (a2 = nI 12 → wp_X10_openTo a1 v3 (fun r39 v38 => post r39 v38)) ∧ (a2 = nI 13 → wp_X10_count_55 ((12 : Int32) * a1) (v3 24 0 4) v3 (fun r41 v40 => post r41 v40)) ∧ ((a2 < 0 ∨ nI 14 ≤ a2) → post (-1 : Int32) v3))) ∧ (r4 = 0 → post (-1 : Int32) v3)))
set_option maxRecDepth 20000 in
set_option maxHeartbeats 4000000 in
theorem ad_X10_about (l : Launch) (G : Geo) (a1 : Int32) (a2 : Int32) (v : St3) {post : (Int32 → St3 → Prop)} (h : wp_X10_about a1 a2 v post) : CI l G yX10_about wsX10_about 4 [.ref (gA G 24 0), .int a1, .int a2] v post := by
  refine CI.of (ty := .int) (cc := cX10_about) (maxL := 3) (by decide) rfl (Nat.le_of_ble_eq_true rfl) (fun X o rt => ?_)
  unfold wp_X10_about at h
  show J l G X 0 [(0, .ref (gA G 24 0)), (1, .int a1), (2, .int a2)] [] v
  refine q_aload_n o dX10_about_0 rfl ?_
  refine q_iconst o dX10_about_1 (x := (0 : Int32)) (by decide) ?_
  refine q_putI o sp_X10_about_120 (by decide) dX10_about_2 (fun v1 e2 => ?_)
  have h := h v1 e2
  refine q_aload_n o dX10_about_5 rfl ?_
  refine q_iload_n o dX10_about_6 rfl ?_
  refine q_callV o [.int a1] (ad_X10_isPeer l G a1 v1 h) gX10_about_X10_isPeer rfl rfl rfl rfl (by decide) ⟨rfl, by decide, by decide, pd_X10_isPeer⟩ (by decide) (by decide) rfl (Nat.le_of_ble_eq_true rfl) dX10_about_7 (fun r4 v3 h => ?_)
  refine q_if_ne o 15 dX10_about_10 (by decide) (fun c42 => ?_) (fun c42 => ?_)
  · have h := h.1 c42
    refine q_iload_n o dX10_about_15 rfl ?_
    refine q_tab o [88, 95, 110, 116, 122, 129, 136, 143, 150, 167, 174, 180, 197, 203] 220 dX10_about_16 rfl rfl (by decide) (by decide +kernel) (by decide) (fun n0 hn0 c5 => ?_) (fun c5 => ?_)
    · match n0, hn0, c5 with
      | 0, _, c5 =>
        have h := h.1 c5
        change J l G X 88 [(0, .ref (gA G 24 0)), (1, .int a1), (2, .int a2)] [] v3
        refine q_aload_n o dX10_about_88 rfl ?_
        refine q_getR (q := 39) o sf_X10_about_16 (by decide) dX10_about_89 ?_
        refine q_iload_n o dX10_about_92 rfl ?_
        obtain ⟨n6, hn7, hx8, h⟩ := h
        refine q_iald (m := 11) o rfl rfl (by decide) hn7 hx8 dX10_about_93 ?_
        exact q_iret o rt dX10_about_94 h
      | 1, _, c5 =>
        have h := h.2.1 c5
        change J l G X 95 [(0, .ref (gA G 24 0)), (1, .int a1), (2, .int a2)] [] v3
        refine q_aload_n o dX10_about_95 rfl ?_
        refine q_getR (q := 42) o sf_X10_about_26 (by decide) dX10_about_96 ?_
        refine q_iload_n o dX10_about_99 rfl ?_
        obtain ⟨n9, hn10, hx11, h⟩ := h
        refine q_zald (m := 11) o rfl rfl (by decide) hn10 hx11 dX10_about_100 ?_
        refine q_if_eq o 108 dX10_about_101 (by decide) (fun c12 => ?_) (fun c12 => ?_)
        · have h := h.1 c12
          refine q_iconst o dX10_about_108 (x := (0 : Int32)) (by decide) ?_
          exact q_iret o rt dX10_about_109 h
        · have h := h.2 c12
          refine q_iconst o dX10_about_104 (x := (1 : Int32)) (by decide) ?_
          refine q_goto o 109 dX10_about_105 (by decide) ?_
          exact q_iret o rt dX10_about_109 h
      | 2, _, c5 =>
        have h := h.2.2.1 c5
        change J l G X 110 [(0, .ref (gA G 24 0)), (1, .int a1), (2, .int a2)] [] v3
        refine q_aload_n o dX10_about_110 rfl ?_
        refine q_iload_n o dX10_about_111 rfl ?_
        refine q_callV o [.int a1] (ad_X10_hasMany l G a1 v3 h) gX10_about_X10_hasMany rfl rfl rfl rfl (by decide) ⟨rfl, by decide, by decide, pd_X10_hasMany⟩ (by decide) (by decide) rfl (Nat.le_of_ble_eq_true rfl) dX10_about_112 (fun r14 v13 h => ?_)
        exact q_iret o rt dX10_about_115 h
      | 3, _, c5 =>
        have h := h.2.2.2.1 c5
        change J l G X 116 [(0, .ref (gA G 24 0)), (1, .int a1), (2, .int a2)] [] v3
        refine q_aload_n o dX10_about_116 rfl ?_
        refine q_iload_n o dX10_about_117 rfl ?_
        refine q_callV o [.int a1] (ad_X10_holdsMany l G a1 v3 h) gX10_about_X10_holdsMany rfl rfl rfl rfl (by decide) ⟨rfl, by decide, by decide, pd_X10_holdsMany⟩ (by decide) (by decide) rfl (Nat.le_of_ble_eq_true rfl) dX10_about_118 (fun r16 v15 h => ?_)
        exact q_iret o rt dX10_about_121 h
      | 4, _, c5 =>
        have h := h.2.2.2.2.1 c5
        change J l G X 122 [(0, .ref (gA G 24 0)), (1, .int a1), (2, .int a2)] [] v3
        refine q_aload_n o dX10_about_122 rfl ?_
        refine q_getR (q := 44) o sf_X10_about_33 (by decide) dX10_about_123 ?_
        refine q_iload_n o dX10_about_126 rfl ?_
        obtain ⟨n17, hn18, hx19, h⟩ := h
        refine q_iald (m := 11) o rfl rfl (by decide) hn18 hx19 dX10_about_127 ?_
        exact q_iret o rt dX10_about_128 h
      | 5, _, c5 =>
        have h := h.2.2.2.2.2.1 c5
        change J l G X 129 [(0, .ref (gA G 24 0)), (1, .int a1), (2, .int a2)] [] v3
        refine q_aload_n o dX10_about_129 rfl ?_
        refine q_getR (q := 45) o sf_X10_about_36 (by decide) dX10_about_130 ?_
        refine q_iload_n o dX10_about_133 rfl ?_
        obtain ⟨n20, hn21, hx22, h⟩ := h
        refine q_iald (m := 11) o rfl rfl (by decide) hn21 hx22 dX10_about_134 ?_
        exact q_iret o rt dX10_about_135 h
      | 6, _, c5 =>
        have h := h.2.2.2.2.2.2.1 c5
        change J l G X 136 [(0, .ref (gA G 24 0)), (1, .int a1), (2, .int a2)] [] v3
        refine q_aload_n o dX10_about_136 rfl ?_
        refine q_getR (q := 46) o sf_X10_about_39 (by decide) dX10_about_137 ?_
        refine q_iload_n o dX10_about_140 rfl ?_
        obtain ⟨n23, hn24, hx25, h⟩ := h
        refine q_iald (m := 11) o rfl rfl (by decide) hn24 hx25 dX10_about_141 ?_
        exact q_iret o rt dX10_about_142 h
      | 7, _, c5 =>
        have h := h.2.2.2.2.2.2.2.1 c5
        change J l G X 143 [(0, .ref (gA G 24 0)), (1, .int a1), (2, .int a2)] [] v3
        refine q_aload_n o dX10_about_143 rfl ?_
        refine q_getR (q := 47) o sf_X10_about_42 (by decide) dX10_about_144 ?_
        refine q_iload_n o dX10_about_147 rfl ?_
        obtain ⟨n26, hn27, hx28, h⟩ := h
        refine q_iald (m := 11) o rfl rfl (by decide) hn27 hx28 dX10_about_148 ?_
        exact q_iret o rt dX10_about_149 h
      | 8, _, c5 =>
        have h := h.2.2.2.2.2.2.2.2.1 c5
        change J l G X 150 [(0, .ref (gA G 24 0)), (1, .int a1), (2, .int a2)] [] v3
        refine q_aload_n o dX10_about_150 rfl ?_
        refine q_aload_n o dX10_about_151 rfl ?_
        refine q_getR (q := 50) o sf_X10_about_51 (by decide) dX10_about_152 ?_
        refine q_bipush o dX10_about_155 (x := (24 : Int32)) (by decide) ?_
        refine q_iload_n o dX10_about_157 rfl ?_
        refine q_imul o dX10_about_158 ?_
        refine q_aload_n o dX10_about_159 rfl ?_
        refine q_getI o sf_X10_about_7 (by decide) dX10_about_160 ?_
        refine q_callV o [.ref (gA G 51 0), .int ((24 : Int32) * a1), .int (v3 24 0 1)] (ad_X10_count_51 l G ((24 : Int32) * a1) (v3 24 0 1) v3 h) gX10_about_X10_count rfl rfl rfl rfl (by decide) ⟨rfl, by decide, by decide, pd_X10_count⟩ (by decide) (by decide) rfl (Nat.le_of_ble_eq_true rfl) dX10_about_163 (fun r30 v29 h => ?_)
        exact q_iret o rt dX10_about_166 h
      | 9, _, c5 =>
        have h := h.2.2.2.2.2.2.2.2.2.1 c5
        change J l G X 167 [(0, .ref (gA G 24 0)), (1, .int a1), (2, .int a2)] [] v3
        refine q_aload_n o dX10_about_167 rfl ?_
        refine q_getR (q := 48) o sf_X10_about_45 (by decide) dX10_about_168 ?_
        refine q_iload_n o dX10_about_171 rfl ?_
        obtain ⟨n31, hn32, hx33, h⟩ := h
        refine q_iald (m := 11) o rfl rfl (by decide) hn32 hx33 dX10_about_172 ?_
        exact q_iret o rt dX10_about_173 h
      | 10, _, c5 =>
        have h := h.2.2.2.2.2.2.2.2.2.2.1 c5
        change J l G X 174 [(0, .ref (gA G 24 0)), (1, .int a1), (2, .int a2)] [] v3
        refine q_aload_n o dX10_about_174 rfl ?_
        refine q_iload_n o dX10_about_175 rfl ?_
        refine q_callV o [.int a1] (ad_X10_comingTo l G a1 v3 h) gX10_about_X10_comingTo rfl rfl rfl rfl (by decide) ⟨rfl, by decide, by decide, pd_X10_comingTo⟩ (by decide) (by decide) rfl (Nat.le_of_ble_eq_true rfl) dX10_about_176 (fun r35 v34 h => ?_)
        exact q_iret o rt dX10_about_179 h
      | 11, _, c5 =>
        have h := h.2.2.2.2.2.2.2.2.2.2.2.1 c5
        change J l G X 180 [(0, .ref (gA G 24 0)), (1, .int a1), (2, .int a2)] [] v3
        refine q_aload_n o dX10_about_180 rfl ?_
        refine q_aload_n o dX10_about_181 rfl ?_
        refine q_getR (q := 56) o sf_X10_about_69 (by decide) dX10_about_182 ?_
        refine q_bipush o dX10_about_185 (x := (12 : Int32)) (by decide) ?_
        refine q_iload_n o dX10_about_187 rfl ?_
        refine q_imul o dX10_about_188 ?_
        refine q_aload_n o dX10_about_189 rfl ?_
        refine q_getI o sf_X10_about_136 (by decide) dX10_about_190 ?_
        refine q_callV o [.ref (gA G 57 0), .int ((12 : Int32) * a1), .int (v3 24 0 4)] (ad_X10_count_57 l G ((12 : Int32) * a1) (v3 24 0 4) v3 h) gX10_about_X10_count rfl rfl rfl rfl (by decide) ⟨rfl, by decide, by decide, pd_X10_count⟩ (by decide) (by decide) rfl (Nat.le_of_ble_eq_true rfl) dX10_about_193 (fun r37 v36 h => ?_)
        exact q_iret o rt dX10_about_196 h
      | 12, _, c5 =>
        have h := h.2.2.2.2.2.2.2.2.2.2.2.2.1 c5
        change J l G X 197 [(0, .ref (gA G 24 0)), (1, .int a1), (2, .int a2)] [] v3
        refine q_aload_n o dX10_about_197 rfl ?_
        refine q_iload_n o dX10_about_198 rfl ?_
        refine q_callV o [.int a1] (ad_X10_openTo l G a1 v3 h) gX10_about_X10_openTo rfl rfl rfl rfl (by decide) ⟨rfl, by decide, by decide, pd_X10_openTo⟩ (by decide) (by decide) rfl (Nat.le_of_ble_eq_true rfl) dX10_about_199 (fun r39 v38 h => ?_)
        exact q_iret o rt dX10_about_202 h
      | 13, _, c5 =>
        have h := h.2.2.2.2.2.2.2.2.2.2.2.2.2.1 c5
        change J l G X 203 [(0, .ref (gA G 24 0)), (1, .int a1), (2, .int a2)] [] v3
        refine q_aload_n o dX10_about_203 rfl ?_
        refine q_aload_n o dX10_about_204 rfl ?_
        refine q_getR (q := 54) o sf_X10_about_63 (by decide) dX10_about_205 ?_
        refine q_bipush o dX10_about_208 (x := (12 : Int32)) (by decide) ?_
        refine q_iload_n o dX10_about_210 rfl ?_
        refine q_imul o dX10_about_211 ?_
        refine q_aload_n o dX10_about_212 rfl ?_
        refine q_getI o sf_X10_about_136 (by decide) dX10_about_213 ?_
        refine q_callV o [.ref (gA G 55 0), .int ((12 : Int32) * a1), .int (v3 24 0 4)] (ad_X10_count_55 l G ((12 : Int32) * a1) (v3 24 0 4) v3 h) gX10_about_X10_count rfl rfl rfl rfl (by decide) ⟨rfl, by decide, by decide, pd_X10_count⟩ (by decide) (by decide) rfl (Nat.le_of_ble_eq_true rfl) dX10_about_216 (fun r41 v40 h => ?_)
        exact q_iret o rt dX10_about_219 h
      | (n0 + 14), hn0, _ => exact absurd hn0 (by show ¬ (n0 + 14 < 14); omega)
    · have h := h.2.2.2.2.2.2.2.2.2.2.2.2.2.2 c5
      refine q_iconst o dX10_about_220 (x := (-1 : Int32)) (by decide) ?_
      exact q_iret o rt dX10_about_221 h
  · have h := h.2 c42
    refine q_iconst o dX10_about_13 (x := (-1 : Int32)) (by decide) ?_
    exact q_iret o rt dX10_about_14 h
theorem pd_X10_about : (parseMethodDescriptor yX10_about.desc).map (fun d => d.parameters.length) = some 2 := by decide +kernel
