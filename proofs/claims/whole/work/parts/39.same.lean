section SAME2
variable {N K P L C : Nat} {x m : St3} {Q : Int32 → Int32 → St3 → Prop}
theorem A_from {a b c0 : Int32} (h : RX N K P L C x m) (hq : ∀ r, Q r r (gl x (th m))) : wp_X9_from a b c0 (gl x m) (fun r1 v1 => wp_X10_from a b c0 v1 (fun r2 v2 => Q r1 r2 v2)) := by
  obtain ⟨⟨hW, hC, hM, hS, hH, hV, hG, hT, hLt, hR⟩, hz, iC, iR, iF, iH, iS, iO, iD, iN, iG, iM, iU⟩ := id h
  obtain ⟨h1, h2, h3, h4, h5, h6, h7, h8⟩ := id hz
  unfold wp_X9_from wp_X10_from
  refine S_isMember (v := gl x m) (m := m) hC h8 (bI_if (fun c => ?_) (fun c => S_isBlock (v := gl x m) (m := m) hW h5 h7 (bI_fi (fun c2 => ?_) (fun c2 => ?_))))
  · intro v1 e
    rw [th_gl] at e
    subst e
    refine M_isPeer (v := gl x (th m)) hz ?_
    rw [c]
    exact ⟨fun _ => hq _, fun q => absurd rfl q⟩
  · have c3 := c2
    simp only [Bool.and_eq_true] at c2
    obtain ⟨d, hd0, rfl⟩ := (ib_t (by omega)).mp c
    obtain ⟨p, hp, rfl⟩ := (ib_t (by omega)).mp c2.1
    obtain ⟨b, hb, rfl⟩ := (ib_t (by omega)).mp c2.2
    unfold wp_X9_place
    rw [i4]
    refine ⟨d, by omega, rfl, _, by omega, rfl, ?_⟩
    intro v1 e
    rw [th_gl] at e
    subst e
    refine M_isPeer (v := gl x (th m)) hz ?_
    rw [c]
    refine ⟨fun q => absurd q (by decide), fun _ => M_isBlock (v := gl x (th m)) hz ?_⟩
    rw [c3]
    refine ⟨fun q => absurd q (by decide), fun _ => M_cell ⟨_, by omega, rfl, fun z => ?_, fun z => M_cell ⟨_, by omega, rfl, ?_⟩⟩⟩
    · rw [show gl x m 17 d (4 * p + b) = -1 from ?_]
      · exact hq _
      · show x 17 d (4 * p + b) = -1
        rw [hH d p b (by omega) (by omega) (by omega), if_neg]
        intro w
        have w3 := w.2.2
        unfold hl at w3
        rw [decide_eq_true_eq] at w3
        exact w3 z
    · rw [show gl x m 17 d (4 * p + b) = fr m d p b from ?_]
      · exact hq _
      · show x 17 d (4 * p + b) = fr m d p b
        rw [hH d p b (by omega) (by omega) (by omega), if_pos ⟨hp, hb, by unfold hl; rw [decide_eq_true_eq]; exact z⟩]
  · intro v1 e
    rw [th_gl] at e
    subst e
    refine M_isPeer (v := gl x (th m)) hz ?_
    rw [c]
    refine ⟨fun q => absurd q (by decide), fun _ => M_isBlock (v := gl x (th m)) hz ?_⟩
    rw [c2]
    exact ⟨fun _ => hq _, fun q => absurd rfl q⟩
theorem A_got {a b c0 : Int32} (h : RX N K P L C x m) (hq : ∀ r, Q r r (gl x (th m))) : wp_X9_got a b c0 (gl x m) (fun r1 v1 => wp_X10_got a b c0 v1 (fun r2 v2 => Q r1 r2 v2)) := by
  obtain ⟨⟨hW, hC, hM, hS, hH, hV, hG, hT, hLt, hR⟩, hz, iC, iR, iF, iH, iS, iO, iD, iN, iG, iM, iU⟩ := id h
  obtain ⟨h1, h2, h3, h4, h5, h6, h7, h8⟩ := id hz
  unfold wp_X9_got
  refine S_isMember (v := gl x m) (m := m) hC h8 (bI_if (fun c => ?_) (fun c => S_isBlock (v := gl x m) (m := m) hW h5 h7 (bI_fi (fun c2 => ?_) (fun c2 => ?_))))
  · unfold wp_X10_got
    intro v1 e
    rw [th_gl] at e
    subst e
    refine M_isPeer (v := gl x (th m)) hz ?_
    rw [c]
    exact ⟨fun _ => hq _, fun q => absurd rfl q⟩
  · have c3 := c2
    simp only [Bool.and_eq_true] at c2
    obtain ⟨d, hd0, rfl⟩ := (ib_t (by omega)).mp c
    obtain ⟨p, hp, rfl⟩ := (ib_t (by omega)).mp c2.1
    obtain ⟨b, hb, rfl⟩ := (ib_t (by omega)).mp c2.2
    have fin : ∀ r, r = (if hl m d p b then gt m d p b else 0) → wp_X10_got (nI d) (nI p) (nI b) (gl x m) (fun r2 v2 => Q r r2 v2) := by
      intro r er
      unfold wp_X10_got
      intro v1 e
      rw [th_gl] at e
      subst e
      refine M_isPeer (v := gl x (th m)) hz ?_
      rw [c]
      refine ⟨fun q => absurd q (by decide), fun _ => M_isBlock (v := gl x (th m)) hz ?_⟩
      rw [c3]
      refine ⟨fun q => absurd q (by decide), fun _ => M_cell ⟨_, by omega, rfl, fun z => ?_, fun z => M_cell ⟨_, by omega, rfl, ?_⟩⟩⟩
      · have w : hl m d p b = false := by unfold hl; rw [decide_eq_false_iff_not]; exact fun q => q z
        rw [w] at er
        rw [er]; exact hq _
      · have w : hl m d p b = true := by unfold hl; rw [decide_eq_true_eq]; exact z
        rw [w] at er
        rw [er]; exact hq _
    have gv64 : hl m d p b = true → wB_X9_got_64 (fun r1 v1 => wp_X10_got (nI d) (nI p) (nI b) v1 (fun r2 v2 => Q r1 r2 v2)) (nI p) (nI b) d (gl x m) := by
      intro w
      unfold wB_X9_got_64 wp_X9_place
      rw [i4]
      refine ⟨fun q => absurd q (by decide), fun _ => ⟨_, by omega, rfl, fin _ ?_⟩⟩
      rw [w]
      exact hV d p b (by omega) (by omega) (by omega)
    refine ⟨d, by omega, rfl, S_isIn ((hS d (by omega)).1) (by omega) (bI_fi (fun c4 => ?_) (fun c4 => S_holds (v := gl x m) (m := m) hS hH iF (by omega) (by omega) (by omega) (bI_if (fun c5 => ⟨fun _ => fin _ ?_, fun q => absurd rfl q⟩) (fun c5 => ?_))))⟩
    · have : hs m d p = true := by simpa [hp] using c4
      exact gv64 (iH d p b (by omega) hp hb this)
    · have w : hs m d p = false := by simpa [hp] using c4
      have : hl m d p b = false := by
        cases hz2 : hl m d p b with
        | false => rfl
        | true => simp [xh, w, hp, hb, hz2] at c5
      rw [this]; rfl
    · have : hl m d p b = true := by
        simp only [xh, Bool.and_eq_true, decide_eq_true_eq] at c5
        exact c5.2.2.2
      exact gv64 this
  · unfold wp_X10_got
    intro v1 e
    rw [th_gl] at e
    subst e
    refine M_isPeer (v := gl x (th m)) hz ?_
    rw [c]
    refine ⟨fun q => absurd q (by decide), fun _ => M_isBlock (v := gl x (th m)) hz ?_⟩
    rw [c2]
    exact ⟨fun _ => hq _, fun q => absurd rfl q⟩
theorem nr_sy {a b : Nat} (iS : Sy m) (ha : a < 12) (hb : b < 12) : nr m a b = nr m b a := by
  unfold nr
  rw [iS.1 a b ha hb]
  cases mt m b a <;> cases hr m a <;> cases hr m b <;> cases bn m a b <;> cases bn m b a <;> rfl
theorem nr_self {a : Nat} (iS : Sy m) (ha : a < 12) : nr m a a = false := by
  unfold nr
  rw [iS.2 a ha]; rfl
theorem te_ct {d p : Nat} (iS : Sy m) (hP : P ≤ 12) (hd0 : d < 12) : te P m d p = ct (fun i => nr m d i && tl m i p) P := by
  refine ct_cong (fun a ha => ?_)
  rw [nr_sy iS (by omega) hd0]
  by_cases q : a = d
  · subst q
    rw [nr_self iS (by omega)]; simp
  · simp [q]
theorem A_rare {a b : Int32} (h : RX N K P L C x m) (hq : ∀ r, Q r r (gl x (th m))) : wp_X9_rare a b (gl x m) (fun r1 v1 => wp_X10_rare a b v1 (fun r2 v2 => Q r1 r2 v2)) := by
  obtain ⟨⟨hW, hC, hM, hS, hH, hV, hG, hT, hLt, hR⟩, hz, iC, iR, iF, iH, iS, iO, iD, iN, iG, iM, iU⟩ := id h
  obtain ⟨h1, h2, h3, h4, h5, h6, h7, h8⟩ := id hz
  unfold wp_X9_rare wp_X10_rare
  have e0 : ib K 0 = true := (ib_t (by omega)).mpr ⟨0, by omega, rfl⟩
  refine S_isMember (v := gl x m) (m := m) hC h8 (bI_if (fun c => ?_) (fun c => S_isPiece (v := gl x m) (m := m) hW h5 (bI_fi (fun c2 => ?_) (fun c2 => ?_))))
  · intro v1 e
    rw [th_gl] at e
    subst e
    refine M_isPeer (v := gl x (th m)) hz ?_
    rw [c]
    exact ⟨fun _ => hq _, fun q => absurd rfl q⟩
  · obtain ⟨d, hd0, rfl⟩ := (ib_t (by omega)).mp c
    obtain ⟨p, hp, rfl⟩ := (ib_t (by omega)).mp c2
    refine S_nearTo (v := gl x m) (m := m) hC hT h8 hd0 (fun y hy => S_tellersAmong (v := gl x m) (m := m) hC hM hS h5 h8 hp hy (fun z hz3 => S_bitsM (n := P) (f := fun i => nr m d i && tl m i p) (hz3.ext (fun i _ => by
      by_cases q : i < P <;> simp [q])) (by omega) ?_))
    intro v1 e
    rw [th_gl] at e
    subst e
    refine M_isPeer (v := gl x (th m)) hz ?_
    rw [c]
    refine ⟨fun q => absurd q (by decide), fun _ => M_isBlock (v := gl x (th m)) hz ?_⟩
    rw [c2, e0]
    refine ⟨fun q => absurd q (by decide), fun _ => M_tellers (v := gl x (th m)) (by omega) (by omega) hz ?_⟩
    show Q _ (nI (te P m d p)) _
    rw [te_ct iS h8 (by omega)]
    exact hq _
  · intro v1 e
    rw [th_gl] at e
    subst e
    refine M_isPeer (v := gl x (th m)) hz ?_
    rw [c]
    refine ⟨fun q => absurd q (by decide), fun _ => M_isBlock (v := gl x (th m)) hz ?_⟩
    rw [c2]
    exact ⟨fun _ => hq _, fun q => absurd rfl q⟩
end SAME2
