/-! rounds, and a tick -/
section TICK
variable {N K P L C : Nat} {x m : St3}
theorem round_inner (hC31 : C + 2 < 2 ^ 31) : ∀ (n i f1 f2 L : Nat) (x m : St3) (as : Bool), i + n = P → n < f1 → n < f2 → RR N K P L C x m → ∃ L' x' m' as', RR N K P L' C x' m' ∧ tu P m' ≤ tu P m ∧ (as' = true → as = true ∨ tu P m' + 1 ≤ tu P m) ∧ (∀ (m0 : St3) (post : St3 → Prop) (K71 : Int32 → Int32 → St3 → Prop) (r : Int32), K71 (bI as') (r + 1) (gl x' m0) → wL_X1_runRounds_85 post K71 f1 (bI as) r (nI i) (gl x m0)) ∧ (∀ (x0 : St3) (post : St3 → Prop) (K137 : Int32 → St3 → Prop), K137 (bI as') (gl x0 m') → wL_X10_oneTick_145 post K137 f2 (bI as) (nI i) (gl x0 m))
  | n, i, 0, _, _, _, _, _, _, hf, _, _ => absurd hf (by omega)
  | n, i, _ + 1, 0, _, _, _, _, _, _, hf, _ => absurd hf (by omega)
  | n, i, f1 + 1, f2 + 1, L, x, m, as, e, hf1, hf2, h => by
    obtain ⟨hQ, hU, hV0, hD⟩ := id h
    obtain ⟨⟨hW, hC, hM, hS, hH, hV, hG, hT, hLt, hR⟩, hz, iC, iR, iF, iH, iS, iO, iD, iN, iG, iM⟩ := id hQ
    obtain ⟨h1, h2, h3, h4, h5, h6, h7, h8⟩ := id hz
    by_cases q : i = P
    · refine ⟨L, x, m, as, h, Nat.le_refl _, fun w => Or.inl w, fun m0 post K71 r hp => ?_, fun x0 post K137 hp => ?_⟩
      · show wB_X1_runRounds_85 post _ _ (bI as) r (nI i) _
        unfold wB_X1_runRounds_85
        rw [show gl x m0 1 0 3 = nI P from hC.1]
        exact le2 (by omega) (by omega) (fun c => hp) (fun c => absurd c (by omega))
      · show wB_X10_oneTick_145 post _ _ (bI as) (nI i) _
        unfold wB_X10_oneTick_145
        rw [show gl x0 m 24 0 4 = nI P from h3]
        exact le2 (by omega) (by omega) (fun c => hp) (fun c => absurd c (by omega))
    · have hi : i < P := by omega
      have clsE : ∀ (m0 : St3) (post : St3 → Prop) (K71 : Int32 → Int32 → St3 → Prop) (r : Int32), (hr m i = false → wL_X1_runRounds_85 post K71 f1 (bI as) r (nI (i + 1)) (gl x m0)) → (hr m i = true → wp_X1_askOne (nI i) (gl x m0) (fun r4 v3 => ((r4 = 0 → wL_X1_runRounds_85 post K71 f1 (bI as) r (nI (i + 1)) v3) ∧ (¬ r4 = 0 → wL_X1_runRounds_85 post K71 f1 (1 : Int32) r (nI (i + 1)) v3)))) → wL_X1_runRounds_85 post K71 (f1 + 1) (bI as) r (nI i) (gl x m0) := by
        intro m0 post K71 r k1 k2
        show wB_X1_runRounds_85 post _ _ (bI as) r (nI i) _
        unfold wB_X1_runRounds_85
        rw [show gl x m0 1 0 3 = nI P from hC.1, nI_1]
        refine le2 (by omega) (by omega) (fun c => absurd c (by omega)) (fun c => S_isIn hC.2.1 (by omega) (bI_if (fun c2 => k1 ?_) (fun c2 => k2 ?_)))
        · simpa [hi] using c2
        · simpa [hi] using c2
      have refE : ∀ (x0 : St3) (post : St3 → Prop) (K137 : Int32 → St3 → Prop), (m 74 0 i ≤ 0 → wL_X10_oneTick_145 post K137 f2 (bI as) (nI (i + 1)) (gl x0 m)) → (¬ m 74 0 i ≤ 0 → wp_X10_asks (nI i) (gl x0 m) (fun r11 v10 => ((r11 = 0 → wL_X10_oneTick_145 post K137 f2 (bI as) (nI (i + 1)) v10) ∧ (¬ r11 = 0 → wL_X10_oneTick_145 post K137 f2 (1 : Int32) (nI (i + 1)) v10)))) → wL_X10_oneTick_145 post K137 (f2 + 1) (bI as) (nI i) (gl x0 m) := by
        intro x0 post K137 k1 k2
        show wB_X10_oneTick_145 post _ _ (bI as) (nI i) _
        unfold wB_X10_oneTick_145
        rw [show gl x0 m 24 0 4 = nI P from h3, nI_1]
        exact le2 (by omega) (by omega) (fun c => absurd c (by omega)) (fun c => ⟨i, by omega, rfl, fun c2 => k1 c2, fun c2 => k2 c2⟩)
      cases hh : hr m i with
      | false =>
        obtain ⟨L', x', m', as', j1, j2, j3, j4, j5⟩ := round_inner hC31 (n - 1) (i + 1) f1 f2 L x m as (by omega) (by omega) (by omega) h
        refine ⟨L', x', m', as', j1, j2, j3, fun m0 post K71 r hp => clsE m0 post K71 r (fun _ => j4 m0 post K71 r hp) (fun w => by rw [hh] at w; cases w), fun x0 post K137 hp => refE x0 post K137 (fun _ => j5 x0 post K137 hp) (fun w => ?_)⟩
        rw [(hV0 i hi).2.2 hh] at w
        exact absurd (by decide) w
      | true =>
        by_cases u2 : m 74 0 i ≤ 0
        · obtain ⟨L', x', m', as', j1, j2, j3, j4, j5⟩ := round_inner hC31 (n - 1) (i + 1) f1 f2 L x m as (by omega) (by omega) (by omega) h
          refine ⟨L', x', m', as', j1, j2, j3, fun m0 post K71 r hp => clsE m0 post K71 r (fun w => by rw [hh] at w; cases w) (fun _ => ?_), fun x0 post K137 hp => refE x0 post K137 (fun _ => j5 x0 post K137 hp) (fun w => absurd u2 w)⟩
          unfold wp_X1_askOne
          refine ⟨i, by omega, rfl, ?_⟩
          rw [show gl x m0 14 i 12 = m 74 0 i from (hU i hi hh).2]
          exact ⟨fun _ => ⟨fun _ => j4 m0 post K71 r hp, fun w => absurd rfl w⟩, fun w => absurd u2 w⟩
        · rcases ask_ok h hC31 hi hh u2 with ⟨k1, k2⟩ | ⟨x1, m1, k1, k2, k3, k4⟩
          · obtain ⟨L', x', m', as', j1, j2, j3, j4, j5⟩ := round_inner hC31 (n - 1) (i + 1) f1 f2 L x m as (by omega) (by omega) (by omega) h
            exact ⟨L', x', m', as', j1, j2, j3, fun m0 post K71 r hp => clsE m0 post K71 r (fun w => by rw [hh] at w; cases w) (fun _ => k1 m0 _ ⟨fun _ => j4 m0 post K71 r hp, fun w => absurd rfl w⟩), fun x0 post K137 hp => refE x0 post K137 (fun w => absurd w u2) (fun _ => k2 x0 _ ⟨fun _ => j5 x0 post K137 hp, fun w => absurd rfl w⟩)⟩
          · obtain ⟨L', x', m', as', j1, j2, j3, j4, j5⟩ := round_inner hC31 (n - 1) (i + 1) f1 f2 (L + 1) x1 m1 true (by omega) (by omega) (by omega) k1
            exact ⟨L', x', m', as', j1, by omega, fun _ => Or.inr (by omega), fun m0 post K71 r hp => clsE m0 post K71 r (fun w => by rw [hh] at w; cases w) (fun _ => k3 m0 _ ⟨fun w => absurd w (by decide), fun _ => j4 m0 post K71 r hp⟩), fun x0 post K137 hp => refE x0 post K137 (fun w => absurd w u2) (fun _ => k4 x0 _ ⟨fun w => absurd w (by decide), fun _ => j5 x0 post K137 hp⟩)⟩
theorem round_outer (hC31 : C + 2 < 2 ^ 31) : ∀ (T f1 f2 r L : Nat) (x m : St3), tu P m ≤ T → T + r ≤ 96 → T + 2 < f1 → T + 2 < f2 → RR N K P L C x m → ∃ L' x' m', RR N K P L' C x' m' ∧ (∀ (m0 : St3) (post : St3 → Prop), post (gl x' m0) → wL_X1_runRounds_71 post f1 (1 : Int32) (nI r) (gl x m0)) ∧ (∀ (x0 : St3) (post : St3 → Prop), wp_X10_allCome (1 : Int32) (gl x0 m') (fun v5 => post v5) → wL_X10_oneTick_137 post f2 (1 : Int32) (gl x0 m))
  | T, 0, _, _, _, _, _, _, _, hf, _, _ => absurd hf (by omega)
  | T, _ + 1, 0, _, _, _, _, _, _, _, hf, _ => absurd hf (by omega)
  | T, f1 + 1, f2 + 1, r, L, x, m, hT, hr0, hf1, hf2, h => by
    have h8 : P ≤ 12 := h.1.2.1.2.2.2.2.2.2.2
    obtain ⟨L', x', m', as', j1, j2, j3, j4, j5⟩ := round_inner hC31 P 0 FU FU L x m false (by omega) (fu P (by omega)) (fu P (by omega)) h
    have cls : ∀ (m0 : St3) (post : St3 → Prop), wL_X1_runRounds_71 post f1 (bI as') (nI (r + 1)) (gl x' m0) → wL_X1_runRounds_71 post (f1 + 1) (1 : Int32) (nI r) (gl x m0) := fun m0 post k => by
      show wB_X1_runRounds_71 post _ (1 : Int32) (nI r) _
      unfold wB_X1_runRounds_71
      refine ⟨fun w => absurd w (by decide), fun _ => ⟨fun w => ?_, fun _ => ?_⟩⟩
      · rw [show (96 : Int32) = nI 96 from rfl, nI_ltI (by omega) (by omega)] at w
        omega
      · have z := j4 m0 post (wL_X1_runRounds_71 post f1) (nI r) (by rw [nI_1]; exact k)
        exact z
    have ref : ∀ (x0 : St3) (post : St3 → Prop), wL_X10_oneTick_137 post f2 (bI as') (gl x0 m') → wL_X10_oneTick_137 post (f2 + 1) (1 : Int32) (gl x0 m) := fun x0 post k => by
      show wB_X10_oneTick_137 post _ (1 : Int32) _
      unfold wB_X10_oneTick_137
      exact ⟨fun w => absurd w (by decide), fun _ => j5 x0 post _ k⟩
    cases ha : as' with
    | false =>
      rw [ha] at cls ref
      obtain ⟨g1, rfl⟩ : ∃ g1, f1 = g1 + 1 := ⟨f1 - 1, by omega⟩
      obtain ⟨g2, rfl⟩ : ∃ g2, f2 = g2 + 1 := ⟨f2 - 1, by omega⟩
      refine ⟨L', x', m', j1, fun m0 post hp => cls m0 post ?_, fun x0 post hp => ref x0 post ?_⟩
      · show wB_X1_runRounds_71 post _ (0 : Int32) (nI (r + 1)) _
        unfold wB_X1_runRounds_71
        exact ⟨fun _ => hp, fun w => absurd rfl w⟩
      · show wB_X10_oneTick_137 post _ (0 : Int32) _
        unfold wB_X10_oneTick_137
        exact ⟨fun _ => hp, fun w => absurd rfl w⟩
    | true =>
      rw [ha] at cls ref
      have lt : tu P m' + 1 ≤ tu P m := by
        rcases j3 ha with w | w
        · cases w
        · exact w
      obtain ⟨L2, x2, m2, k1, k2, k3⟩ := round_outer hC31 (T - 1) f1 f2 (r + 1) L' x' m' (by omega) (by omega) (by omega) (by omega) j1
      exact ⟨L2, x2, m2, k1, fun m0 post hp => cls m0 post (k2 m0 post hp), fun x0 post hp => ref x0 post (k3 x0 post hp)⟩
/-- what each may send and ask, at the rounds' beginning -/
def uX (i : Nat) (x : St3) : St3 := fun k e j => if k = 14 ∧ e < i ∧ j = 11 then x 14 e 3 else if k = 14 ∧ e < i ∧ j = 12 then x 14 e 4 else x k e j
theorem uX_0 (x : St3) : uX 0 x = x := by
  funext k e j
  unfold uX
  rw [if_neg (by omega), if_neg (by omega)]
theorem uX_s (i : Nat) (x : St3) : up3 (up3 (uX i x) 14 i 11 (x 14 i 3)) 14 i 12 (x 14 i 4) = uX (i + 1) x := by
  funext k e j
  simp only [up3, uX]
  by_cases q : k = 14 ∧ e = i ∧ j = 12
  · rw [if_pos q, if_neg (by omega), if_pos (by omega), q.2.1]
  · rw [if_neg q]
    by_cases q2 : k = 14 ∧ e = i ∧ j = 11
    · rw [if_pos q2, if_pos (by omega), q2.2.1]
    · rw [if_neg q2]
      by_cases q3 : k = 14 ∧ e < i ∧ j = 11
      · rw [if_pos q3, if_pos (by omega)]
      · rw [if_neg q3]
        by_cases q4 : k = 14 ∧ e < i ∧ j = 12
        · rw [if_pos q4, if_neg (by omega), if_pos (by omega)]
        · rw [if_neg q4, if_neg (by omega), if_neg (by omega)]
theorem S_may0 {m0 : St3} {post : St3 → Prop} (hP : x 1 0 3 = nI P) (hP2 : P ≤ 12) (h : wL_X1_runRounds_71 post FU (1 : Int32) (0 : Int32) (gl (uX P x) m0)) : ∀ (n i f : Nat), i + n = P → n < f → wL_X1_runRounds_2 post f (nI i) (gl (uX i x) m0)
  | n, i, 0, _, hf => absurd hf (by omega)
  | n, i, f + 1, e, hf => by
    show wB_X1_runRounds_2 post _ (nI i) _
    unfold wB_X1_runRounds_2
    rw [show gl (uX i x) m0 1 0 3 = nI P from hP, nI_1]
    refine le2 (by omega) (by omega) (fun c => ?_) (fun c => ⟨i, by omega, rfl, ?_⟩)
    · rw [show i = P by omega]; exact h
    · intro v1 e1
      rw [gl_x rfl, show gl (uX i x) m0 14 i 3 = x 14 i 3 from by show uX i x 14 i 3 = _; simp [uX]] at e1
      subst e1
      intro v2 e2
      rw [gl_x rfl, show gl (up3 (uX i x) 14 i 11 (x 14 i 3)) m0 14 i 4 = x 14 i 4 from by show up3 (uX i x) 14 i 11 (x 14 i 3) 14 i 4 = _; simp [uX, up3], uX_s] at e2
      subst e2
      exact S_may0 hP hP2 h (n - 1) (i + 1) f (by omega) (by omega)
theorem SR.de {m' : St3} {T : Nat} (h : SR m m') (hD : De T L C m) : De T L C m' := by
  refine ⟨fun j hj => ?_, ?_⟩
  · obtain ⟨a1, a2, a3, a4, a5, a6, a7⟩ := h.1 j
    rw [a6, a7]; exact hD.1 j hj
  · rw [ct_cong (q := fun j => decide (m 70 0 j = nI T)) (fun j _ => by
      obtain ⟨a1, a2, a3, a4, a5, a6, a7⟩ := h.1 j
      rw [a6])]
    exact hD.2
/-- rounds begin -/
theorem rounds_ok (h : RQ (fun _ => true) N K P L C x m) (hC31 : C + 2 < 2 ^ 31) (hU : UL P m) (hE : De (C + 1) L C m) : ∃ L' x' m', RR N K P L' C x' m' ∧ (∀ (m0 : St3) (post : St3 → Prop), post (gl x' m0) → wp_X1_runRounds (gl x m0) post) ∧ (∀ (x0 : St3) (post : St3 → Prop), wp_X10_allCome (1 : Int32) (gl x0 m') (fun v5 => post v5) → wL_X10_oneTick_137 post FU (1 : Int32) (gl x0 m)) := by
  obtain ⟨⟨hW, hC, hM, hS, hH, hV, hG, hT, hLt, hR⟩, hz, iC, iR, iF, iH, iS, iO, iD, iN, iG, iM⟩ := id h
  obtain ⟨h1, h2, h3, h4, h5, h6, h7, h8⟩ := id hz
  have all : ∀ j, j < L → m 70 0 j = nI (C + 1) := fun j hj => by
    obtain ⟨a1, t, a2, a3, a4⟩ := hE.1 j hj
    rw [a4, show t = C + 1 by omega]
  have hL96 : L ≤ 96 := by
    have := hE.2
    rw [ct_all.mpr (fun j hj => by rw [decide_eq_true_eq]; exact all j hj)] at this
    exact this
  have uv : UV P m := fun e he => by
    obtain ⟨u1, u2⟩ := hU e he
    obtain ⟨⟨a, a1, a2, a3⟩, ⟨b, b1, b2, b3⟩, _⟩ := iG e he
    rw [u1, u2]
    cases hh : hr m e with
    | false => exact ⟨⟨0, by omega, rfl⟩, ⟨0, by omega, rfl⟩, fun _ => rfl⟩
    | true => exact ⟨⟨a, a2, a3⟩, ⟨b, b2, b3⟩, fun w => by cases w⟩
  have tle : tu P m ≤ 96 := by
    have := su_le (g := fun e => un (m 73 0 e)) (c := 8) (n := P) (fun e he => by
      obtain ⟨⟨u, hu, eu⟩, _⟩ := uv e he
      rw [eu, un_nI (by omega)]; exact hu)
    unfold tu
    omega
  have rr : RR N K P L C (uX P x) m := by
    refine ⟨⟨⟨hW, hC, hM.cong (fun e => ?_), hS, hH, hV, hG, hT, hLt, hR⟩, hz, iC, iR, iF, iH, iS, iO, iD, iN, iG, iM⟩, fun e he hh => ?_, uv, fun j hj => ?_, by omega, ?_⟩
    · simp [uX]
    · obtain ⟨u1, u2⟩ := hU e he
      obtain ⟨b1, b2, b3, _⟩ := hM.1 e (by omega)
      rw [u1, u2, hh]
      refine ⟨?_, ?_⟩
      · show uX P x 14 e 11 = _
        simp [uX, he, b2]
      · show uX P x 14 e 12 = _
        simp [uX, he, b3]
    · obtain ⟨a1, t, a2, a3, a4⟩ := hE.1 j hj
      exact ⟨t, a4, Or.inr ⟨a2, by omega, a1⟩⟩
    · rw [ct_zero.mpr (fun j hj => by
        rw [all j hj, decide_eq_false_iff_not, nI_eq (by omega) (by omega)]; omega)]
      omega
  obtain ⟨L', x', m', k1, k2, k3⟩ := round_outer hC31 96 FU FU 0 L (uX P x) m tle (by omega) (fu _ (by omega)) (fu _ (by omega)) rr
  refine ⟨L', x', m', k1, fun m0 post hp => ?_, k3⟩
  have z := S_may0 (P := P) (x := x) hC.1 h8 (k2 m0 post hp) P 0 FU (by omega) (fu P (by omega))
  rw [uX_0] at z
  exact z
theorem tick_ok (h : RX N K P L C x m) (hC31 : C + 10 < 2 ^ 31) : ∃ L' x' m', RX N K P L' (C + 1) x' m' ∧ (∀ (m0 : St3) (post : St3 → Prop), post (gl x' m0) → ∀ v3, v3 = up3 (gl x m0) 1 0 5 ((gl x m0 1 0 5) + (1 : Int32)) → wp_X0_takeDue v3 (fun v5 => ¬ (4 : Int32) = 0 ∧ ((¬ ((v5 1 0 5) - (v5 1 0 5) / (4 : Int32) * (4 : Int32)) = (1 : Int32) → wp_X1_dropStranded v5 (fun v8 => wp_X1_runRounds v8 (fun v10 => wp_X0_takeDue v10 (fun v12 => post v12)))) ∧ (((v5 1 0 5) - (v5 1 0 5) / (4 : Int32) * (4 : Int32)) = (1 : Int32) → wp_X4_openAll v5 (fun v14 => wp_X1_dropStranded v14 (fun v16 => wp_X1_runRounds v16 (fun v18 => wp_X0_takeDue v18 (fun v20 => post v20)))))))) ∧ (∀ (x0 : St3) (post : St3 → Prop), post (gl x0 m') → wp_X10_oneTick (gl x0 m) post) := by
  obtain ⟨hQ0, hDu⟩ := RX.q h
  obtain ⟨⟨hW, hC, hM, hS, hH, hV, hG, hT, hLt, hR⟩, hz, iC, iR, iF, iH, iS, iO, iD, iN, iG, iM⟩ := id hQ0
  obtain ⟨h1, h2, h3, h4, h5, h6, h7, h8⟩ := id hz
  have hL := hR.2.2.1
  have ec : m 24 0 5 + 1 = nI (C + 1) := by rw [iC, nI_1]
  have hQ1 : RQ (fun _ => true) N K P L (C + 1) (up3 x 1 0 5 (x 1 0 5 + 1)) (up3 m 24 0 5 (m 24 0 5 + 1)) := by
    refine ⟨⟨hW, ⟨hC.1, hC.2.1, ?_, hC.2.2.2⟩, hM, hS, hH, hV, hG, hT, hLt, hR⟩, hz, ec, iR, iF, iH, iS, iO, iD, iN, iG, iM⟩
    show x 1 0 5 + 1 = m 24 0 5 + 1
    rw [hC.2.2.1]
  have hDk : Dk 0 (C + 2) 0 0 L (C + 1) (up3 m 24 0 5 (m 24 0 5 + 1)) := by
    refine ⟨fun j hj => absurd hj (by omega), fun j _ hj => ?_, by rw [ct_begin]; exact hDu.2⟩
    obtain ⟨a1, t, a2, a3, a4⟩ := hDu.1 j hj
    refine ⟨t, a4, ?_⟩
    by_cases q : t = C + 1
    · exact Or.inl ⟨q, a1⟩
    · exact Or.inr ⟨by omega, by omega, a1⟩
  obtain ⟨L2, x2, m2, j1, j2, j3, j4⟩ := due_loop (N := N) (K := K) (P := P) (L := L) (C := C + 1) (fl := 0) (T := C + 2) (Or.inl rfl) (by omega) (by omega) L 0 0 FU FU _ _ (by omega) (by omega) (fu L (by omega)) (fu L (by omega)) (RQ_begin hQ1) hDk
  -- from an opened state on
  have tail : ∀ x3 m3, RQ (fun _ => true) N K P L2 (C + 1) x3 m3 → SR m2 m3 → ∃ L' x' m', RX N K P L' (C + 1) x' m' ∧ (∀ (m0 : St3) (post : St3 → Prop), post (gl x' m0) → wp_X1_dropStranded (gl x3 m0) (fun v8 => wp_X1_runRounds v8 (fun v10 => wp_X0_takeDue v10 (fun v12 => post v12)))) ∧ (∀ (x0 : St3) (post : St3 → Prop), post (gl x0 m') → wL_X10_oneTick_57 post FU (0 : Int32) (gl x0 m3)) := by
    intro x3 m3 q1 q2
    obtain ⟨x4, m4, s1, s2, s3, s4, s5⟩ := strand_loop (N := N) (K := K) (P := P) (L := L2) (C := C + 1) (al0 := fun _ => true) P 0 FU FU x3 m3 (by omega) (fu P (by omega)) (fu P (by omega)) q1 (fun e he => absurd he (by omega))
    obtain ⟨L5, x5, m5, t1, t2, t3⟩ := rounds_ok s1 (by omega) s3 (SR.de s2 (SR.de q2 j2))
    obtain ⟨tQ, tU, tV, tD⟩ := id t1
    have tL := tQ.1.2.2.2.2.2.2.2.2.2.2.2.1
    have hDk2 : Dk 1 (C + 1 + 2) 0 0 L5 (C + 1) m5 := by
      refine ⟨fun j hj => absurd hj (by omega), fun j _ hj => ?_, ?_⟩
      · obtain ⟨t, a1, a2⟩ := tD.1 j hj
        exact ⟨t, a1, a2⟩
      · rw [ct_begin]
        have := tD.2.2
        omega
    obtain ⟨L6, x6, m6, r1, r2, r3, r4⟩ := due_loop (N := N) (K := K) (P := P) (L := L5) (C := C + 1) (fl := 1) (T := C + 1 + 2) (Or.inr rfl) (by omega) (by omega) L5 0 0 FU FU _ _ (by omega) (by omega) (fu L5 (by omega)) (fu L5 (by omega)) (RQ_begin tQ) hDk2
    exact ⟨L6, x6, m6, RQ.x r1 r2, fun m0 post hp => s4 m0 _ (t2 m0 _ (r3 m0 post hp)), fun x0 post hp => s5 x0 post (t3 x0 post (r4 x0 post hp))⟩
  have x25 : ∀ m0, gl x2 m0 1 0 5 = nI (C + 1) := fun m0 => j1.1.2.1.2.2.1.trans j1.2.2.1
  have m25 : ∀ x0, gl x0 m2 24 0 5 = nI (C + 1) := fun x0 => j1.2.2.1
  by_cases c4 : nI (C + 1) - nI (C + 1) / (4 : Int32) * (4 : Int32) = (1 : Int32)
  · obtain ⟨x3, m3, q1, q2, q3, q4⟩ := open_loop (N := N) (K := K) (P := P) (L := L2) (C := C + 1) (al0 := fun _ => true) c4 P 0 FU FU x2 m2 (by omega) (fu P (by omega)) (fu P (by omega)) j1
    obtain ⟨L', x', m', k1, k2, k3⟩ := tail x3 m3 q1 q2
    refine ⟨L', x', m', k1, fun m0 post hp v3 e3 => ?_, fun x0 post hp => ?_⟩
    · rw [gl_x rfl] at e3
      subst e3
      refine j3 m0 _ ?_
      rw [x25 m0]
      exact ⟨by decide, fun w => absurd c4 w, fun _ => q3 m0 _ (k2 m0 post hp)⟩
    · unfold wp_X10_oneTick
      intro v1 e1
      rw [gl_m rfl] at e1
      subst e1
      exact j4 x0 _ (q4 x0 post (k3 x0 post hp))
  · obtain ⟨L', x', m', k1, k2, k3⟩ := tail x2 m2 j1 ⟨fun j => ⟨rfl, rfl, rfl, rfl, rfl, rfl, rfl⟩, rfl⟩
    refine ⟨L', x', m', k1, fun m0 post hp v3 e3 => ?_, fun x0 post hp => ?_⟩
    · rw [gl_x rfl] at e3
      subst e3
      refine j3 m0 _ ?_
      rw [x25 m0]
      exact ⟨by decide, fun _ => k2 m0 post hp, fun w => absurd w c4⟩
    · unfold wp_X10_oneTick
      intro v1 e1
      rw [gl_m rfl] at e1
      subst e1
      refine j4 x0 _ ?_
      show wB_X10_oneTick_17 post (wL_X10_oneTick_17 post 599) (0 : Int32) _
      unfold wB_X10_oneTick_17
      rw [m25 x0]
      exact ⟨fun _ => k3 x0 post hp, fun _ => ⟨by decide, fun _ => k3 x0 post hp, fun w => absurd w c4⟩⟩
theorem ticks_ok {T : Nat} (hT : T ≤ 50) : ∀ (n i f1 f2 L C : Nat) (x m : St3), i + n = T → n < f1 → n < f2 → RX N K P L C x m → C + 10 + n < 2 ^ 31 → ∃ L' x' m', RX N K P L' (C + n) x' m' ∧ (∀ (m0 : St3) (b : Int32) (post : Int32 → St3 → Prop), post (x' 1 0 6 - b) (gl x' m0) → wL_X9_tick_22 post f1 (nI T) b (nI i) (gl x m0)) ∧ (∀ (x0 : St3) (b : Int32) (post : Int32 → St3 → Prop), post (m' 24 0 6 - b) (gl x0 m') → wL_X10_tick_24 post f2 (nI T) b (nI i) (gl x0 m))
  | n, i, 0, _, _, _, _, _, _, hf, _, _, _ => absurd hf (by omega)
  | n, i, _ + 1, 0, _, _, _, _, _, _, hf, _, _ => absurd hf (by omega)
  | n, i, f1 + 1, f2 + 1, L, C, x, m, e, hf1, hf2, h, hC31 => by
    by_cases q : i = T
    · have q0 : n = 0 := by omega
      subst q0
      refine ⟨L, x, m, h, fun m0 b post hp => ?_, fun x0 b post hp => ?_⟩
      · show wB_X9_tick_22 post _ (nI T) b (nI i) _
        unfold wB_X9_tick_22
        exact le2 (by omega) (by omega) (fun c => hp) (fun c => absurd c (by omega))
      · show wB_X10_tick_24 post _ (nI T) b (nI i) _
        unfold wB_X10_tick_24
        exact le2 (by omega) (by omega) (fun c => hp) (fun c => absurd c (by omega))
    · obtain ⟨L1, x1, m1, k1, k2, k3⟩ := tick_ok h (by omega)
      obtain ⟨L', x', m', j1, j2, j3⟩ := ticks_ok hT (n - 1) (i + 1) f1 f2 L1 (C + 1) x1 m1 (by omega) (by omega) (by omega) k1 (by omega)
      rw [show C + 1 + (n - 1) = C + n by omega] at j1
      refine ⟨L', x', m', j1, fun m0 b post hp => ?_, fun x0 b post hp => ?_⟩
      · show wB_X9_tick_22 post _ (nI T) b (nI i) _
        unfold wB_X9_tick_22
        rw [nI_1 i]
        exact le2 (by omega) (by omega) (fun c => absurd c (by omega)) (fun c => k2 m0 _ (j2 m0 b post hp))
      · show wB_X10_tick_24 post _ (nI T) b (nI i) _
        unfold wB_X10_tick_24
        rw [nI_1 i]
        exact le2 (by omega) (by omega) (fun c => absurd c (by omega)) (fun c => k3 x0 _ (j3 x0 b post hp))
theorem A_tick {Q : Int32 → Int32 → St3 → Prop} {a : Int32} (h : RX N K P L C x m) (hC31 : C + 100 < 2 ^ 31) (hq : ∀ (r : Int32) (N' K' P' L' C' : Nat) (x' m' : St3), RX N' K' P' L' C' x' m' → C' ≤ C + 50 → Q r r (gl x' m')) : wp_X9_tick a (gl x m) (fun r1 v1 => wp_X10_tick a v1 (fun r2 v2 => Q r1 r2 v2)) := by
  have hq0 : ∀ r, Q r r (gl x (th m)) := fun r => hq r N K P L C x (th m) h (by omega)
  unfold wp_X9_tick
  refine S_isWithin (bI_fi (fun c => ?_) (fun c => ?_))
  · obtain ⟨n, n1, n2, rfl⟩ := within_t (lo := 0) (hi := 50) (by omega) c (by omega)
    obtain ⟨L', x', m', j1, j2, j3⟩ := ticks_ok (T := n) n2 n 0 FU FU L C x (th m) (by omega) (fu n (by omega)) (fu n (by omega)) h.th (by omega)
    refine j2 m (x 1 0 6) _ ?_
    unfold wp_X10_tick
    intro v1 e
    rw [th_gl] at e
    subst e
    refine M_in ?_
    rw [c]
    refine ⟨fun _ => j3 x' (m 24 0 6) _ ?_, fun w => absurd w (by decide)⟩
    have e1 : x 1 0 6 = m 24 0 6 := h.1.2.1.2.2.2.1
    have e2 : x' 1 0 6 = m' 24 0 6 := j1.1.2.1.2.2.2.1
    rw [e1, e2]
    exact hq _ N K P L' (C + n) x' m' j1 (by omega)
  · unfold wp_X10_tick
    intro v1 e
    rw [th_gl] at e
    subst e
    refine M_in ?_
    rw [c]
    exact ⟨fun w => absurd rfl w, fun _ => hq0 _⟩
end TICK
