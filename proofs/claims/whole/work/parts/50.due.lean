/-! one block is taken; all that is due -/
section DUE
variable {N K P L C : Nat} {x m : St3}
theorem take_ok {kept k : Nat} (h : RQ (al kept k) N K P L C x m) (hC31 : C < 2 ^ 31) (hk : k < L) (hkk : kept ≤ k) : ∃ x' m', RQ (al kept (k + 1)) N K P L C x' m' ∧ SR m m' ∧ (∀ (m0 : St3) (post : St3 → Prop), post (gl x' m0) → wp_X0_take (x 8 0 k) (x 7 0 k) (x 9 0 k) (x 10 0 k) (x 11 0 k) (gl x m0) post) ∧ (∀ (x0 : St3) (post : St3 → Prop), post (gl x0 m') → wp_X10_comes (nI k) (gl x0 m) post) := by
  obtain ⟨⟨hW, hC, hM, hS, hH, hV, hG, hT, hLt, hR⟩, hz, iC, iR, iF, iH, iS, iO, iD, iN, iG, iM⟩ := id h
  obtain ⟨h1, h2, h3, h4, h5, h6, h7, h8⟩ := id hz
  have hL := hR.2.2.1
  obtain ⟨d, g, p, b, q1, q2, q3, q4, q5, q6, q7, q8⟩ := iR k hk
  obtain ⟨r1, r2, r3, r4, r5, r6⟩ := hR.2.2.2 k (by omega)
  have x5 : x 8 0 k = nI d := r2.trans q5
  have x6 : x 7 0 k = nI g := r1.trans q6
  have x7 : x 9 0 k = nI p := r3.trans q7
  have x8 : x 10 0 k = nI b := r4.trans q8
  rw [x5, x6, x7, x8, r5]
  have ht := RQ_t1 h hk hkk q1 q2 q3 q4 q5 q7 q8
  -- the class, up to the question whether it is spare
  have cls : ∀ (m0 : St3) (post : St3 → Prop), wp_X0_isSpare d (nI g) (nI p) (nI b) (gl (t1X d g (4 * p + b) x) m0) (fun r14 v13 => ((r14 = 0 → wp_X6_put d (nI p) (nI b) (nI g) (m 69 0 k) v13 (fun v15 => wp_X6_heldOf d (nI p) v15 (fun r18 v17 => (((v17 5 0 1) ≤ r18 → wp_X6_sumOf d (nI p) (v17 5 0 1) v17 (fun r20 v19 => wp_X8_sumOf (nI p) v19 (fun r22 v21 => ((¬ r20 = r22 → wp_X0_fail (nI d) (nI p) v21 (fun v23 => post v23)) ∧ (r20 = r22 → wp_X0_complete d (nI p) v21 (fun v25 => post v25)))))) ∧ (¬ (v17 5 0 1) ≤ r18 → post v17))))) ∧ (¬ r14 = 0 → ∀ v29, v29 = up3 v13 14 d 9 ((v13 14 d 9) + (1 : Int32)) → post v29))) → wp_X0_take (nI d) (nI g) (nI p) (nI b) (m 69 0 k) (gl x m0) post := by
    intro m0 post hh
    unfold wp_X0_take
    refine ⟨d, by omega, rfl, S_noMore (by omega) (by omega) ?_⟩
    intro v1 e1
    rw [gl_x rfl] at e1
    subst e1
    refine ⟨g, by omega, rfl, ?_⟩
    intro v2 e2
    rw [gl_x rfl] at e2
    have e3 : v2 = gl (t1X d g (4 * p + b) x) m0 := by
      rw [e2]
      unfold t1X
      rw [show gl (ds d (4 * p + b) x) m0 14 d 7 = x 14 d 7 from rfl]
      rfl
    subst e3
    exact hh
  have ref : ∀ (x0 : St3) (post : St3 → Prop), wp_X10_isSpare (nI d) (nI g) (nI p) (nI b) (gl x0 (t1M d g m)) (fun r17 v16 => ((r17 = 0 → wp_X10_cell (nI d) (nI p) (nI b) v16 (fun r19 v18 => ∃ n20, n20 < 1152 ∧ r19 = nI n20 ∧ ∀ v23, v23 = up3 v18 52 0 n20 (1 : Int32) → wp_X10_cell (nI d) (nI p) (nI b) v23 (fun r26 v25 => ∃ n27, n27 < 1152 ∧ r26 = nI n27 ∧ ∀ v30, v30 = up3 v25 53 0 n27 (v25 69 0 k) → wp_X10_cell (nI d) (nI p) (nI b) v30 (fun r33 v32 => ∃ n34, n34 < 1152 ∧ r33 = nI n34 ∧ ∀ v37, v37 = up3 v32 54 0 n34 (nI g) → wp_X10_heldMany (nI d) (nI p) v37 (fun r40 v39 => (((v39 24 0 2) ≤ r40 → wL_X10_comes_156 post FU (nI d) (nI p) (0 : Int32) (0 : Int32) v39) ∧ (¬ (v39 24 0 2) ≤ r40 → post v39))))))) ∧ (¬ r17 = 0 → ∀ v66, v66 = up3 v16 47 0 d ((v16 47 0 d) + (1 : Int32)) → ∀ v68, v68 = up3 v66 24 0 9 ((v66 24 0 9) + (1 : Int32)) → post v68))) → wp_X10_comes (nI k) (gl x0 m) post := by
    intro x0 post hh
    unfold wp_X10_comes
    refine ⟨k, by omega, rfl, d, by omega, q5, ?_⟩
    intro v1 e1
    rw [gl_m rfl] at e1
    subst e1
    rw [show gl x0 m 65 0 k = nI d from q5, show gl x0 m 66 0 k = nI g from q6, show gl x0 m 67 0 k = nI p from q7, show gl x0 m 68 0 k = nI b from q8]
    refine M_two ⟨12 * d + g, by omega, rfl, ?_⟩
    intro v2 e2
    rw [gl_m rfl] at e2
    subst e2
    exact hh
  obtain ⟨⟨tW, tC, tM, tS, tH, tV, tG, tT, tLt, tR⟩, tz, jC, jR, jF, jH, jS, jO, jD, jN, jG, jM⟩ := id ht
  have sr1 : SR m (t1M d g m) := ⟨fun j => ⟨rfl, rfl, rfl, rfl, rfl, rfl, rfl⟩, rfl⟩
  cases hsp : sp K (t1M d g m) d g p b with
  | true =>
    have hs2 := RQ_sp (d := d) ht q1
    refine ⟨_, _, hs2, SR.tr sr1 ⟨fun j => ⟨rfl, rfl, rfl, rfl, rfl, rfl, rfl⟩, rfl⟩, fun m0 post hp' => cls m0 post ?_, fun x0 post hp' => ref x0 post ?_⟩
    · refine S_isSpare (v := gl (t1X d g (4 * p + b) x) m0) (m := t1M d g m) (N := N) (K := K) tS tH jF h5 h7 (by omega) (by omega) q3 q4 ?_
      rw [hsp]
      refine ⟨fun q => absurd q (by decide), fun _ => ?_⟩
      intro v1 e1
      rw [gl_x rfl] at e1
      subst e1
      exact hp'
    · refine M_isSpare (v := gl x0 (t1M d g m)) (N := N) (K := K) (P := P) tz (by omega) (by omega) (by omega) ?_
      rw [show sp K (gl x0 (t1M d g m)) d g p b = true from hsp]
      refine ⟨fun q => absurd q (by decide), fun _ => ?_⟩
      intro v1 e1
      rw [gl_m rfl] at e1
      subst e1
      intro v2 e2
      rw [gl_m rfl] at e2
      subst e2
      exact hp'
  | false =>
    have c0 : hs m d p = false := by
      unfold sp at hsp
      simp only [Bool.or_eq_false_iff] at hsp
      exact hsp.1.1
    have hpu := RQ_put (w := m 69 0 k) ht q1 q2 q3 q4
    obtain ⟨⟨uW, uC, uM, uS, uH, uV, uG, uT, uLt, uR⟩, uz, lC, lR, lF, lH, lS, lO, lD, lN, lG, lM⟩ := id hpu
    have sr2 : SR m (puM (96 * d + 4 * p + b) (nI g) (m 69 0 k) (t1M d g m)) := ⟨fun j => ⟨rfl, rfl, rfl, rfl, rfl, rfl, rfl⟩, rfl⟩
    have c1 : hs (puM (96 * d + 4 * p + b) (nI g) (m 69 0 k) (t1M d g m)) d p = false := c0
    have cls2 : ∀ (m0 : St3) (post : St3 → Prop), wp_X6_heldOf d (nI p) (gl (puX d (4 * p + b) (nI g) (m 69 0 k) (t1X d g (4 * p + b) x)) m0) (fun r18 v17 => (((v17 5 0 1) ≤ r18 → wp_X6_sumOf d (nI p) (v17 5 0 1) v17 (fun r20 v19 => wp_X8_sumOf (nI p) v19 (fun r22 v21 => ((¬ r20 = r22 → wp_X0_fail (nI d) (nI p) v21 (fun v23 => post v23)) ∧ (r20 = r22 → wp_X0_complete d (nI p) v21 (fun v25 => post v25)))))) ∧ (¬ (v17 5 0 1) ≤ r18 → post v17))) → wp_X0_take (nI d) (nI g) (nI p) (nI b) (m 69 0 k) (gl x m0) post := by
      intro m0 post hh
      refine cls m0 post (S_isSpare (v := gl (t1X d g (4 * p + b) x) m0) (m := t1M d g m) (N := N) (K := K) tS tH jF h5 h7 (by omega) (by omega) q3 q4 ?_)
      rw [hsp]
      refine ⟨fun _ => ?_, fun q => absurd rfl q⟩
      unfold wp_X6_put wp_X9_place
      rw [i4]
      refine ⟨_, by omega, rfl, ?_⟩
      intro v1 e1
      rw [gl_x rfl] at e1
      subst e1
      refine ⟨_, by omega, rfl, ?_⟩
      intro v2 e2
      rw [gl_x rfl] at e2
      subst e2
      exact hh
    have ref2 : ∀ (x0 : St3) (post : St3 → Prop), wp_X10_heldMany (nI d) (nI p) (gl x0 (puM (96 * d + 4 * p + b) (nI g) (m 69 0 k) (t1M d g m))) (fun r40 v39 => (((v39 24 0 2) ≤ r40 → wL_X10_comes_156 post FU (nI d) (nI p) (0 : Int32) (0 : Int32) v39) ∧ (¬ (v39 24 0 2) ≤ r40 → post v39))) → wp_X10_comes (nI k) (gl x0 m) post := by
      intro x0 post hh
      refine ref x0 post (M_isSpare (v := gl x0 (t1M d g m)) (N := N) (K := K) (P := P) tz (by omega) (by omega) (by omega) ?_)
      rw [show sp K (gl x0 (t1M d g m)) d g p b = false from hsp]
      refine ⟨fun _ => M_cell ⟨_, by omega, rfl, ?_⟩, fun q => absurd rfl q⟩
      intro v1 e1
      rw [gl_m rfl] at e1
      subst e1
      refine M_cell ⟨_, by omega, rfl, ?_⟩
      intro v2 e2
      rw [gl_m rfl] at e2
      subst e2
      refine M_cell ⟨_, by omega, rfl, ?_⟩
      intro v3 e3
      rw [gl_m rfl] at e3
      subst e3
      exact hh
    have hdle : hd K (puM (96 * d + 4 * p + b) (nI g) (m 69 0 k) (t1M d g m)) d p ≤ K := ct_le _ _
    have cls3 : ∀ (m0 : St3) (post : Int32 → St3 → Prop), post (nI (hd K (puM (96 * d + 4 * p + b) (nI g) (m 69 0 k) (t1M d g m)) d p)) (gl (puX d (4 * p + b) (nI g) (m 69 0 k) (t1X d g (4 * p + b) x)) m0) → wp_X6_heldOf d (nI p) (gl (puX d (4 * p + b) (nI g) (m 69 0 k) (t1X d g (4 * p + b) x)) m0) post := by
      intro m0 post hh
      refine S_heldOf (v := gl (puX d (4 * p + b) (nI g) (m 69 0 k) (t1X d g (4 * p + b) x)) m0) (m := puM (96 * d + 4 * p + b) (nI g) (m 69 0 k) (t1M d g m)) uS uH lF (by omega) (by omega) ?_
      rw [xh_ct q3 h7 c1]
      exact hh
    by_cases full : hd K (puM (96 * d + 4 * p + b) (nI g) (m 69 0 k) (t1M d g m)) d p = K
    · have ha := ct_all.mp full
      have fin : ∀ x' m', RQ (al kept (k + 1)) N K P L C x' m' → SR (puM (96 * d + 4 * p + b) (nI g) (m 69 0 k) (t1M d g m)) m' → (∀ (m0 : St3) (post : St3 → Prop), post (gl x' m0) → ((¬ sg (gt (puM (96 * d + 4 * p + b) (nI g) (m 69 0 k) (t1M d g m)) d p) 0 0 K = sm (m 24 0 3) (nI p) 0 0 K → wp_X0_fail (nI d) (nI p) (gl (puX d (4 * p + b) (nI g) (m 69 0 k) (t1X d g (4 * p + b) x)) m0) (fun v23 => post v23)) ∧ (sg (gt (puM (96 * d + 4 * p + b) (nI g) (m 69 0 k) (t1M d g m)) d p) 0 0 K = sm (m 24 0 3) (nI p) 0 0 K → wp_X0_complete d (nI p) (gl (puX d (4 * p + b) (nI g) (m 69 0 k) (t1X d g (4 * p + b) x)) m0) (fun v25 => post v25)))) → (∀ (x0 : St3) (post : St3 → Prop), post (gl x0 m') → ((sg (gt (puM (96 * d + 4 * p + b) (nI g) (m 69 0 k) (t1M d g m)) d p) 0 0 K = sm (m 24 0 3) (nI p) 0 0 K → ∃ n43, n43 < 288 ∧ (((24 : Int32) * nI d) + nI p) = nI n43 ∧ ∀ v46, v46 = up3 (gl x0 (puM (96 * d + 4 * p + b) (nI g) (m 69 0 k) (t1M d g m))) 50 0 n43 (1 : Int32) → wp_X10_isDone (nI d) v46 (fun r49 v48 => ((r49 = 0 → post v48) ∧ (¬ r49 = 0 → ∃ n50, n50 < 12 ∧ nI d = nI n50 ∧ ∀ v53, v53 = up3 v48 49 0 n50 (v48 24 0 5) → post v53)))) ∧ (¬ sg (gt (puM (96 * d + 4 * p + b) (nI g) (m 69 0 k) (t1M d g m)) d p) 0 0 K = sm (m 24 0 3) (nI p) 0 0 K → wp_X10_fails (nI d) (nI p) (gl x0 (puM (96 * d + 4 * p + b) (nI g) (m 69 0 k) (t1M d g m))) (fun v56 => post v56)))) → ∃ x' m', RQ (al kept (k + 1)) N K P L C x' m' ∧ SR m m' ∧ (∀ (m0 : St3) (post : St3 → Prop), post (gl x' m0) → wp_X0_take (nI d) (nI g) (nI p) (nI b) (m 69 0 k) (gl x m0) post) ∧ (∀ (x0 : St3) (post : St3 → Prop), post (gl x0 m') → wp_X10_comes (nI k) (gl x0 m) post) := by
        intro x' m' k1 k2 k3 k4
        refine ⟨x', m', k1, SR.tr sr2 k2, fun m0 post hp' => cls2 m0 post (cls3 m0 _ ?_), fun x0 post hp' => ref2 x0 post ?_⟩
        · rw [show gl (puX d (4 * p + b) (nI g) (m 69 0 k) (t1X d g (4 * p + b) x)) m0 5 0 1 = nI K from hW.2.1, full]
          refine ⟨fun _ => ?_, fun q => absurd ((nI_leI (by omega) (by omega)).mpr (Nat.le_refl _)) q⟩
          refine S_sumOf (v := gl (puX d (4 * p + b) (nI g) (m 69 0 k) (t1X d g (4 * p + b) x)) m0) (m := puM (96 * d + 4 * p + b) (nI g) (m 69 0 k) (t1M d g m)) uV (by omega) (by omega) h7 ?_
          refine S_sumOfW (v := gl (puX d (4 * p + b) (nI g) (m 69 0 k) (t1X d g (4 * p + b) x)) m0) (m := puM (96 * d + 4 * p + b) (nI g) (m 69 0 k) (t1M d g m)) uW h7 ?_
          exact k3 m0 post hp'
        · refine M_heldMany (v := gl x0 (puM (96 * d + 4 * p + b) (nI g) (m 69 0 k) (t1M d g m))) (N := N) (K := K) (P := P) (by omega) (by omega) uz ?_
          rw [show hd K (gl x0 (puM (96 * d + 4 * p + b) (nI g) (m 69 0 k) (t1M d g m))) d p = K from full, show gl x0 (puM (96 * d + 4 * p + b) (nI g) (m 69 0 k) (t1M d g m)) 24 0 2 = nI K from h2]
          refine ⟨fun _ => ?_, fun q => absurd ((nI_leI (by omega) (by omega)).mpr (Nat.le_refl _)) q⟩
          refine M_sum156 (v := gl x0 (puM (96 * d + 4 * p + b) (nI g) (m 69 0 k) (t1M d g m))) (K := K) (by omega) (by omega) h2 h7 ?_ K 0 FU 0 (by omega) (fu K (by omega)) rfl
          unfold wB_X10_comes_156
          rw [show gl x0 (puM (96 * d + 4 * p + b) (nI g) (m 69 0 k) (t1M d g m)) 24 0 2 = nI K from h2]
          refine ⟨fun _ => ?_, fun q => absurd ((nI_leI (by omega) (by omega)).mpr (Nat.le_refl _)) q⟩
          refine M_sumOf (v := gl x0 (puM (96 * d + 4 * p + b) (nI g) (m 69 0 k) (t1M d g m))) (N := N) (K := K) (P := P) uz ?_
          exact k4 x0 post hp'
      by_cases eq : sg (gt (puM (96 * d + 4 * p + b) (nI g) (m 69 0 k) (t1M d g m)) d p) 0 0 K = sm (m 24 0 3) (nI p) 0 0 K
      · obtain ⟨x', m', k1, k2, k3, k4⟩ := comp_ok hpu hC31 q1 q3 c1 ha
        exact fin x' m' k1 k2 (fun m0 post hp' => ⟨fun q => absurd eq q, fun _ => k3 m0 _ hp'⟩) (fun x0 post hp' => ⟨fun _ => k4 x0 post hp', fun q => absurd eq q⟩)
      · obtain ⟨x', m', k1, k2, k3, k4⟩ := fails_ok hpu q1 q3 c1 ha
        exact fin x' m' k1 k2 (fun m0 post hp' => ⟨fun _ => k3 m0 _ hp', fun q => absurd q eq⟩) (fun x0 post hp' => ⟨fun q => absurd q eq, fun _ => k4 x0 _ hp'⟩)
    · refine ⟨_, _, hpu, sr2, fun m0 post hp' => cls2 m0 post (cls3 m0 _ ?_), fun x0 post hp' => ref2 x0 post ?_⟩
      · rw [show gl (puX d (4 * p + b) (nI g) (m 69 0 k) (t1X d g (4 * p + b) x)) m0 5 0 1 = nI K from hW.2.1]
        exact le2 (by omega) (by omega) (fun c => absurd c (by omega)) (fun _ => hp')
      · refine M_heldMany (v := gl x0 (puM (96 * d + 4 * p + b) (nI g) (m 69 0 k) (t1M d g m))) (N := N) (K := K) (P := P) (by omega) (by omega) uz ?_
        rw [show hd K (gl x0 (puM (96 * d + 4 * p + b) (nI g) (m 69 0 k) (t1M d g m))) d p = hd K (puM (96 * d + 4 * p + b) (nI g) (m 69 0 k) (t1M d g m)) d p from rfl, show gl x0 (puM (96 * d + 4 * p + b) (nI g) (m 69 0 k) (t1M d g m)) 24 0 2 = nI K from h2]
        exact le2 (by omega) (by omega) (fun c => absurd c (by omega)) (fun _ => hp')
theorem due_loop {fl : Int32} {T : Nat} (hfl : fl = 0 ∨ fl = 1) (hC31 : C < 2 ^ 31) (hT31 : T < 2 ^ 31) : ∀ (n k kept f1 f2 : Nat) (x m : St3), k + n = L → kept ≤ k → n < f1 → n < f2 → RQ (al kept k) N K P L C x m → Dk fl T kept k L C m → ∃ kept' x' m', RQ (fun _ => true) N K P kept' C x' m' ∧ De T kept' C m' ∧ (∀ (m0 : St3) (post : St3 → Prop), post (gl x' m0) → wL_X0_takeDue_12 post f1 (nI kept) (nI k) (gl x m0)) ∧ (∀ (x0 : St3) (post : St3 → Prop), post (gl x0 m') → wL_X10_allCome_4 post f2 fl (nI kept) (nI k) (gl x0 m))
  | n, k, kept, 0, _, _, _, _, _, hf, _, _, _ => absurd hf (by omega)
  | n, k, kept, _ + 1, 0, _, _, _, _, _, hf, _, _ => absurd hf (by omega)
  | n, k, kept, f1 + 1, f2 + 1, x, m, e, hkk, hf1, hf2, h, hD => by
    obtain ⟨⟨hW, hC, hM, hS, hH, hV, hG, hT, hLt, hR⟩, hz, iC, iR, iF, iH, iS, iO, iD, iN, iG, iM⟩ := id h
    obtain ⟨h1, h2, h3, h4, h5, h6, h7, h8⟩ := id hz
    have hL := hR.2.2.1
    by_cases q : k = L
    · subst q
      refine ⟨kept, _, _, RQ_end h hkk, hD.fin hkk, fun m0 post hp => ?_, fun x0 post hp => ?_⟩
      · show wB_X0_takeDue_12 post _ (nI kept) (nI k) _
        unfold wB_X0_takeDue_12
        rw [show gl x m0 6 0 6 = nI k from hR.1]
        refine le2 (by omega) (by omega) (fun c => ?_) (fun c => absurd c (by omega))
        intro v1 e1
        rw [gl_x rfl] at e1
        subst e1
        exact hp
      · show wB_X10_allCome_4 post _ fl (nI kept) (nI k) _
        unfold wB_X10_allCome_4
        rw [show gl x0 m 24 0 34 = nI k from hR.2.1]
        refine le2 (by omega) (by omega) (fun c => ?_) (fun c => absurd c (by omega))
        intro v1 e1
        rw [gl_m rfl] at e1
        subst e1
        exact hp
    · have hk : k < L := by omega
      obtain ⟨t, u1, u2⟩ := hD.2.1 k (Nat.le_refl _) hk
      have x12 : x 12 0 k = nI t := ((hR.2.2.2 k (by omega)).2.2.2.2.2).trans u1
      have x15 : x 1 0 5 = nI C := hC.2.2.1.trans iC
      rcases u2 with ⟨u3, u4⟩ | ⟨u3, u4, u5⟩
      · obtain ⟨x1, m1, k1, k2, k3, k4⟩ := take_ok h hC31 hk hkk
        obtain ⟨kept', x', m', ha, hb, hc, hd⟩ := due_loop hfl hC31 hT31 (n - 1) (k + 1) kept f1 f2 x1 m1 (by omega) (by omega) (by omega) (by omega) k1 ((SR.dk k2 hD).skip hk hkk)
        refine ⟨kept', x', m', ha, hb, fun m0 post hp => ?_, fun x0 post hp => ?_⟩
        · show wB_X0_takeDue_12 post _ (nI kept) (nI k) _
          unfold wB_X0_takeDue_12
          rw [show gl x m0 6 0 6 = nI L from hR.1, nI_1 k]
          refine le2 (by omega) (by omega) (fun c => absurd c (by omega)) (fun c => ⟨k, by omega, rfl, fun c2 => ?_, fun _ => k3 m0 _ (hc m0 post hp)⟩)
          rw [show gl x m0 1 0 5 = nI C from x15, show gl x m0 12 0 k = nI t from x12, nI_ltI (by omega) (by omega)] at c2
          omega
        · show wB_X10_allCome_4 post _ fl (nI kept) (nI k) _
          unfold wB_X10_allCome_4
          rw [show gl x0 m 24 0 34 = nI L from hR.2.1, nI_1 k]
          refine le2 (by omega) (by omega) (fun c => absurd c (by omega)) (fun c => ⟨k, by omega, rfl, fun c2 => ?_, fun _ => ⟨fun c3 => absurd u4 c3, fun _ => k4 x0 _ (hd x0 post hp)⟩⟩)
          rw [show gl x0 m 70 0 k = nI t from u1, show gl x0 m 24 0 5 = nI C from iC, u3] at c2
          exact absurd rfl c2
      · obtain ⟨kept', x', m', ha, hb, hc, hd⟩ := due_loop hfl hC31 hT31 (n - 1) (k + 1) (kept + 1) f1 f2 _ _ (by omega) (by omega) (by omega) (by omega) (RQ_move h hk hkk) (hD.move hk hkk u1 u3 u4 u5)
        refine ⟨kept', x', m', ha, hb, fun m0 post hp => ?_, fun x0 post hp => ?_⟩
        · show wB_X0_takeDue_12 post _ (nI kept) (nI k) _
          unfold wB_X0_takeDue_12
          rw [show gl x m0 6 0 6 = nI L from hR.1, nI_1, nI_1]
          refine le2 (by omega) (by omega) (fun c => absurd c (by omega)) (fun c => ⟨k, by omega, rfl, fun _ => S_move (by omega) (by omega) (hc m0 post hp), fun c2 => ?_⟩)
          rw [show gl x m0 1 0 5 = nI C from x15, show gl x m0 12 0 k = nI t from x12, nI_ltI (by omega) (by omega)] at c2
          omega
        · show wB_X10_allCome_4 post _ fl (nI kept) (nI k) _
          unfold wB_X10_allCome_4
          rw [show gl x0 m 24 0 34 = nI L from hR.2.1, nI_1, nI_1]
          refine le2 (by omega) (by omega) (fun c => absurd c (by omega)) (fun c => ⟨k, by omega, rfl, fun _ => M_keep (by omega) (by omega) (Or.inl u5) (hd x0 post hp), fun c2 => ?_⟩)
          rw [show gl x0 m 70 0 k = nI t from u1, show gl x0 m 24 0 5 = nI C from iC, nI_eq (by omega) (by omega)] at c2
          omega
end DUE
