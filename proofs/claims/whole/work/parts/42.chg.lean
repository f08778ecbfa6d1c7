/-! file, often, meet, join: class and reference agree, and the relation stays -/
theorem within_t {y : Int32} {lo hi : Nat} (hh : hi < 2 ^ 31) (h : decide (nI lo ≤ y ∧ y ≤ nI hi) = true) (hl : lo ≤ hi) : ∃ f, lo ≤ f ∧ f ≤ hi ∧ y = nI f := by
  rw [decide_eq_true_eq] at h
  obtain ⟨j, hj, rfl⟩ := nI_of (x := y) (by
    rw [Int32.lt_iff_toInt_lt, Int32.toInt_zero]
    have := h.1
    rw [Int32.le_iff_toInt_le, nI_toInt (by omega)] at this
    omega)
  have h1 := (nI_leI (by omega) hj).mp h.1
  have h2 := (nI_leI hj hh).mp h.2
  exact ⟨j, h1, h2, rfl⟩
section CHG
variable {N K P L C : Nat} {x m : St3} {Q : Int32 → Int32 → St3 → Prop}
theorem A_often {a b : Int32} (h : RX N K P L C x m) (hq : ∀ (r : Int32) (N' K' P' L' C' : Nat) (x' m' : St3), RX N' K' P' L' C' x' m' → C' ≤ C + 50 → Q r r (gl x' m')) : wp_X9_often a b (gl x m) (fun r1 v1 => wp_X10_often a b v1 (fun r2 v2 => Q r1 r2 v2)) := by
  obtain ⟨⟨hW, hC, hM, hS, hH, hV, hG, hT, hLt, hR⟩, hz, iC, iR, iF, iH, iS, iO, iD, iN, iG, iM, iU⟩ := id h
  obtain ⟨h1, h2, h3, h4, h5, h6, h7, h8⟩ := id hz
  have hq0 : ∀ r, Q r r (gl x (th m)) := fun r => hq r N K P L C x (th m) h (by omega)
  unfold wp_X9_often wp_X10_often
  refine S_isMember (v := gl x m) (m := m) hC h8 (bI_if (fun c => ?_) (fun c => S_isWithin (bI_if (fun c2 => ?_) (fun c2 => ?_))))
  · intro v1 e
    rw [th_gl] at e
    subst e
    refine M_isPeer (v := gl x (th m)) hz ?_
    rw [c]
    exact ⟨fun _ => hq0 _, fun q => absurd rfl q⟩
  · obtain ⟨d, hd0, rfl⟩ := (ib_t (by omega)).mp c
    intro v1 e
    rw [th_gl] at e
    subst e
    refine M_isPeer (v := gl x (th m)) hz ?_
    rw [c]
    refine ⟨fun q => absurd q (by decide), fun _ => ⟨d, by omega, rfl, fun _ => hq0 _, fun _ => M_in ?_⟩⟩
    rw [c2]
    exact ⟨fun q => absurd rfl q, fun _ => hq0 _⟩
  · obtain ⟨d, hd0, rfl⟩ := (ib_t (by omega)).mp c
    have hk := (hM.1 d (by omega)).1
    refine ⟨d, by omega, rfl, fun c3 => ?_, fun c3 => ?_⟩
    · have c4 : m 40 0 d = 3 := hk.symm.trans c3
      intro x1 ex
      rw [gl_x rfl] at ex
      subst ex
      intro v1 e
      rw [th_gl] at e
      subst e
      refine M_isPeer (v := gl (up3 x 14 d 5 b) (th m)) hz ?_
      rw [c]
      refine ⟨fun q => absurd q (by decide), fun _ => ⟨d, by omega, rfl, fun q => absurd c4 q, fun _ => M_in ?_⟩⟩
      rw [c2]
      refine ⟨fun _ => ?_, fun q => absurd q (by decide)⟩
      intro v2 e2
      rw [gl_m rfl] at e2
      subst e2
      obtain ⟨f, f1, f2, rfl⟩ := within_t (lo := 1) (hi := 100) (by omega) c2 (by omega)
      refine hq 1 N K P L C _ _ ⟨⟨hW, hC, ⟨fun e he => ?_, fun e he => ?_, fun e he he2 => ?_⟩, hS, hH, hV, hG, hT, hLt, hR⟩, hz, iC, iR, iF, iH, iS, iO, iD, iN, fun e he => ?_, iM, iU⟩ (by omega)
      · simpa [up3, th] using hM.1 e he
      · by_cases q : e = d
        · subst q
          simpa [up3, th] using (hM.2.1 e he).2
        · simpa [up3, th, q] using hM.2.1 e he
      · have q : ¬ e = d := by omega
        simpa [up3, th, q] using hM.2.2 e he he2
      · obtain ⟨g1, g2, g3, g4, g5⟩ := iG e he
        refine ⟨g1, g2, ?_, g4, g5⟩
        by_cases q : e = d
        · subst q
          exact ⟨f, f1, f2, by simp [up3]⟩
        · obtain ⟨u, u1, u2, u3⟩ := g3
          exact ⟨u, u1, u2, by simpa [up3, th, q] using u3⟩
    · have c4 : ¬ m 40 0 d = 3 := fun q => c3 (hk.trans q)
      intro v1 e
      rw [th_gl] at e
      subst e
      refine M_isPeer (v := gl x (th m)) hz ?_
      rw [c]
      exact ⟨fun q => absurd q (by decide), fun _ => ⟨d, by omega, rfl, fun _ => hq0 _, fun q => absurd q c4⟩⟩
theorem mt_up {a b e f : Nat} {m : St3} (ha : a < 12) (hb : b < 12) (he : e < 12) (hf : f < 12) : mt (up3 (up3 m 55 0 (12 * a + b) 1) 55 0 (12 * b + a) 1) e f = (mt m e f || decide (f = b) && decide (e = a) || decide (f = a) && decide (e = b)) := by
  unfold mt
  by_cases q : e = b ∧ f = a
  · rw [show 12 * e + f = 12 * b + a by omega]
    simp [up3, q.1, q.2]
  · by_cases q2 : e = a ∧ f = b
    · rw [show 12 * e + f = 12 * a + b by omega]
      simp only [up3]
      by_cases q3 : 12 * a + b = 12 * b + a
      · simp [q3, q2.1, q2.2]
      · simp [q3, q2.1, q2.2]
    · have n1 : ¬ 12 * e + f = 12 * b + a := by omega
      have n2 : ¬ 12 * e + f = 12 * a + b := by omega
      have e1 : (decide (f = b) && decide (e = a)) = false := by simp; omega
      have e2 : (decide (f = a) && decide (e = b)) = false := by simp; omega
      rw [e1, e2]
      simp [up3, n1, n2]
theorem A_meet {a b : Int32} (h : RX N K P L C x m) (hq : ∀ (r : Int32) (N' K' P' L' C' : Nat) (x' m' : St3), RX N' K' P' L' C' x' m' → C' ≤ C + 50 → Q r r (gl x' m')) : wp_X9_meet a b (gl x m) (fun r1 v1 => wp_X10_meet a b v1 (fun r2 v2 => Q r1 r2 v2)) := by
  obtain ⟨⟨hW, hC, hM, hS, hH, hV, hG, hT, hLt, hR⟩, hz, iC, iR, iF, iH, iS, iO, iD, iN, iG, iM, iU⟩ := id h
  obtain ⟨h1, h2, h3, h4, h5, h6, h7, h8⟩ := id hz
  have hq0 : ∀ r, Q r r (gl x (th m)) := fun r => hq r N K P L C x (th m) h (by omega)
  unfold wp_X9_meet wp_X10_meet
  refine S_areTwo (v := gl x m) (m := m) hC h8 (bI_if (fun c => ?_) (fun c => ?_))
  · intro v1 e
    rw [th_gl] at e
    subst e
    refine M_isTwo (v := gl x (th m)) hz ?_
    rw [c]
    exact ⟨fun _ => hq0 _, fun q => absurd rfl q⟩
  · have cc := c
    simp only [Bool.and_eq_true, decide_eq_true_eq] at c
    obtain ⟨⟨c1, c2⟩, c3⟩ := c
    obtain ⟨d, hd0, rfl⟩ := (ib_t (by omega)).mp c1
    obtain ⟨b, hb, rfl⟩ := (ib_t (by omega)).mp c2
    have hab : ¬ d = b := fun q => c3 (by rw [q])
    obtain ⟨t1, t2, t3, t4⟩ := hT.1 d (by omega)
    refine ⟨d, by omega, rfl, S_isIn t1 (by omega) (bI_if (fun c4 => ?_) (fun c4 => ?_))⟩
    · have c5 : mt m d b = false := by simpa [hb] using c4
      intro x1 e1
      rw [gl_x rfl] at e1
      subst e1
      refine ⟨b, by omega, rfl, ?_⟩
      intro x2 e2
      rw [gl_x rfl] at e2
      subst e2
      intro v1 e
      rw [th_gl] at e
      subst e
      refine M_isTwo (v := gl _ (th m)) hz ?_
      rw [cc]
      refine ⟨fun q => absurd q (by decide), fun _ => M_two ⟨_, by omega, rfl, fun _ => M_two ⟨_, by omega, rfl, ?_⟩, fun q => ?_⟩⟩
      · intro v3 e3
        rw [gl_m rfl] at e3
        subst e3
        refine M_two ⟨_, by omega, rfl, ?_⟩
        intro v4 e4
        rw [gl_m rfl] at e4
        subst e4
        refine hq 1 N K P L C _ _ ⟨⟨hW, hC, hM, hS, hH, hV, hG, ⟨fun e he => ?_, fun e he => ?_, fun e he he2 => ?_⟩, hLt, hR⟩, hz, iC, iR, iF, iH, ⟨fun e f he hf => ?_, fun e he => ?_⟩, fun e f he hf ho => ?_, iD, fun e he he2 => ?_, iG, iM, iU⟩ (by omega)
        · obtain ⟨s1, s2, s3, s4⟩ := hT.1 e he
          have key : ∀ j, 4 < j → up3 (up3 x 16 d 4 (gl x m 16 d 4 ||| 1 <<< (nI b &&& 31))) 16 b 4 (gl (up3 x 16 d 4 (gl x m 16 d 4 ||| 1 <<< (nI b &&& 31))) m 16 b 4 ||| 1 <<< (nI d &&& 31)) 16 e j = x 16 e j := fun j hj => by
            simp [up3, show ¬ j = 4 by omega]
          refine ⟨?_, by rw [key 5 (by omega)]; exact s2, by rw [key 6 (by omega)]; exact s3, by rw [key 7 (by omega)]; exact s4⟩
          have ex1 : gl x m 16 d 4 = x 16 d 4 := rfl
          have ex2 : gl (up3 x 16 d 4 (gl x m 16 d 4 ||| 1 <<< (nI b &&& 31))) m 16 b 4 = x 16 b 4 := by
            show up3 x 16 d 4 (gl x m 16 d 4 ||| 1 <<< (nI b &&& 31)) 16 b 4 = x 16 b 4
            simp [up3, show ¬ b = d by omega]
          rw [ex2, ex1]
          by_cases q : e = b
          · subst q
            rw [up3_at]
            refine (s1.or1 (n := d) (by omega)).ext (fun f hf => ?_)
            by_cases w : f < P
            · rw [show mt (up3 (up3 (th m) 55 0 (12 * d + e) 1) 55 0 (12 * e + d) 1) e f = _ from mt_up (by omega) (by omega) he (by omega)]
              show (decide (f < P) && mt m e f || decide (f = d)) = (decide (f < P) && (mt m e f || decide (f = e) && decide (e = d) || decide (f = d) && decide (e = e)))
              simp [w, show ¬ e = d by omega]
            · simp [w, show ¬ f = d by omega]
          · by_cases q2 : e = d
            · subst q2
              rw [up3_off (by omega), up3_at]
              refine (s1.or1 (n := b) (by omega)).ext (fun f hf => ?_)
              by_cases w : f < P
              · rw [show mt (up3 (up3 (th m) 55 0 (12 * e + b) 1) 55 0 (12 * b + e) 1) e f = _ from mt_up (by omega) (by omega) he (by omega)]
                show (decide (f < P) && mt m e f || decide (f = b)) = (decide (f < P) && (mt m e f || decide (f = b) && decide (e = e) || decide (f = e) && decide (e = b)))
                simp [w, q]
              · simp [w, show ¬ f = b by omega]
            · rw [up3_off (by omega), up3_off (by omega)]
              refine s1.ext (fun f hf => ?_)
              by_cases w : f < P
              · rw [show mt (up3 (up3 (th m) 55 0 (12 * d + b) 1) 55 0 (12 * b + d) 1) e f = _ from mt_up (by omega) (by omega) he (by omega)]
                show (decide (f < P) && mt m e f) = (decide (f < P) && (mt m e f || decide (f = b) && decide (e = d) || decide (f = d) && decide (e = b)))
                simp [w, q, q2]
              · simp [w]
        · simpa [up3, th] using hT.2.1 e he
        · simpa [up3] using hT.2.2 e he he2
        · rw [show mt (up3 (up3 (th m) 55 0 (12 * d + b) 1) 55 0 (12 * b + d) 1) e f = _ from mt_up (by omega) (by omega) he hf, show mt (up3 (up3 (th m) 55 0 (12 * d + b) 1) 55 0 (12 * b + d) 1) f e = _ from mt_up (by omega) (by omega) hf he]
          rw [show mt (th m) e f = mt (th m) f e from iS.1 e f he hf]
          cases mt (th m) f e <;> cases decide (f = b) <;> cases decide (e = d) <;> cases decide (f = d) <;> cases decide (e = b) <;> rfl
        · rw [show mt (up3 (up3 (th m) 55 0 (12 * d + b) 1) 55 0 (12 * b + d) 1) e e = _ from mt_up (by omega) (by omega) he he]
          rw [show mt (th m) e e = false from iS.2 e he]
          simp; omega
        · obtain ⟨o1, o2, o3, o4, o5⟩ := iO e f he hf ho
          refine ⟨?_, o2, o3, o4, o5⟩
          rw [show mt (up3 (up3 (th m) 55 0 (12 * d + b) 1) 55 0 (12 * b + d) 1) e f = _ from mt_up (by omega) (by omega) he hf]
          rw [show mt (th m) e f = true from o1]; rfl
        · obtain ⟨n1, n2, n3, n4, n5⟩ := iN e he he2
          refine ⟨n1, n2, fun f hf => ⟨?_, (n3 f hf).2⟩, n4, n5⟩
          rw [show mt (up3 (up3 (th m) 55 0 (12 * d + b) 1) 55 0 (12 * b + d) 1) e f = _ from mt_up (by omega) (by omega) he2 hf]
          rw [show mt (th m) e f = false from (n3 f hf).1]
          simp; omega
      · have : ¬ m 55 0 (12 * d + b) = 0 := q
        simp [mt, this] at c5
    · have c5 : mt m d b = true := by simpa [hb] using c4
      intro v1 e
      rw [th_gl] at e
      subst e
      refine M_isTwo (v := gl x (th m)) hz ?_
      rw [cc]
      refine ⟨fun q => absurd q (by decide), fun _ => M_two ⟨_, by omega, rfl, fun q => ?_, fun _ => hq0 _⟩⟩
      have : m 55 0 (12 * d + b) = 0 := q
      simp [mt, this] at c5
theorem hr_up {d e : Nat} {m : St3} {y : Int32} : hr (up3 m 43 0 d y) e = if e = d then decide (¬ y = 0) else hr m e := by
  unfold hr
  by_cases q : e = d
  · simp [up3, q]
  · simp [up3, q]
theorem A_join {a : Int32} (h : RX N K P L C x m) (hq : ∀ (r : Int32) (N' K' P' L' C' : Nat) (x' m' : St3), RX N' K' P' L' C' x' m' → C' ≤ C + 50 → Q r r (gl x' m')) : wp_X9_join a (gl x m) (fun r1 v1 => wp_X10_join a v1 (fun r2 v2 => Q r1 r2 v2)) := by
  obtain ⟨⟨hW, hC, hM, hS, hH, hV, hG, hT, hLt, hR⟩, hz, iC, iR, iF, iH, iS, iO, iD, iN, iG, iM, iU⟩ := id h
  obtain ⟨h1, h2, h3, h4, h5, h6, h7, h8⟩ := id hz
  have hq0 : ∀ r, Q r r (gl x (th m)) := fun r => hq r N K P L C x (th m) h (by omega)
  unfold wp_X9_join wp_X10_join
  refine S_isMember (v := gl x m) (m := m) hC h8 (bI_if (fun c => ?_) (fun c => ?_))
  · intro v1 e
    rw [th_gl] at e
    subst e
    refine M_isPeer (v := gl x (th m)) hz ?_
    rw [c]
    exact ⟨fun _ => hq0 _, fun q => absurd rfl q⟩
  · obtain ⟨d, hd0, rfl⟩ := (ib_t (by omega)).mp c
    refine S_isIn hC.2.1 (by omega) (bI_if (fun c2 => ?_) (fun c2 => ?_))
    · have c3 : hr m d = false := by simpa [hd0] using c2
      have c4 : m 43 0 d = 0 := by
        unfold hr at c3
        rw [decide_eq_false_iff_not] at c3
        exact Classical.byContradiction c3
      intro x1 e1
      rw [gl_x rfl] at e1
      subst e1
      intro v1 e
      rw [th_gl] at e
      subst e
      refine M_isPeer (v := gl _ (th m)) hz ?_
      rw [c]
      refine ⟨fun q => absurd q (by decide), fun _ => ⟨d, by omega, rfl, fun _ => ?_, fun q => absurd c4 q⟩⟩
      intro v3 e3
      rw [gl_m rfl] at e3
      subst e3
      refine hq 1 N K P L C _ _ ⟨⟨hW, ⟨hC.1, ?_, hC.2.2⟩, hM, hS, hH, hV, hG, hT, hLt, hR⟩, hz, iC, iR, iF, iH, iS, fun e f he hf ho => ?_, iD, iN, iG, iM, iU⟩ (by omega)
      · rw [up3_at]
        refine (hC.2.1.or1 (n := d) (by omega)).ext (fun e he => ?_)
        rw [hr_up]
        by_cases q : e = d
        · subst q
          simp [hd0]
        · rw [if_neg q]
          show (decide (e < P) && hr m e || decide (e = d)) = (decide (e < P) && hr m e)
          simp [q]
      · obtain ⟨o1, o2, o3, o4, o5⟩ := iO e f he hf ho
        refine ⟨o1, ?_, ?_, o4, o5⟩
        · rw [hr_up]
          split
          · decide
          · exact o2
        · rw [hr_up]
          split
          · decide
          · exact o3
    · have c3 : hr m d = true := by simpa [hd0] using c2
      have c4 : ¬ m 43 0 d = 0 := by
        unfold hr at c3
        rw [decide_eq_true_eq] at c3
        exact c3
      intro v1 e
      rw [th_gl] at e
      subst e
      refine M_isPeer (v := gl x (th m)) hz ?_
      rw [c]
      exact ⟨fun q => absurd q (by decide), fun _ => ⟨d, by omega, rfl, fun q => absurd q c4, fun _ => hq0 _⟩⟩
theorem A_file {a b s : Int32} (h : RX N K P L C x m) (hq : ∀ (r : Int32) (N' K' P' L' C' : Nat) (x' m' : St3), RX N' K' P' L' C' x' m' → C' ≤ C + 50 → Q r r (gl x' m')) : wp_X9_file a b s (gl x m) (fun r1 v1 => wp_X10_file a b s v1 (fun r2 v2 => Q r1 r2 v2)) := by
  obtain ⟨⟨hW, hC, hM, hS, hH, hV, hG, hT, hLt, hR⟩, hz, iC, iR, iF, iH, iS, iO, iD, iN, iG, iM, iU⟩ := id h
  obtain ⟨h1, h2, h3, h4, h5, h6, h7, h8⟩ := id hz
  have hq0 : ∀ r, Q r r (gl x (th m)) := fun r => hq r N K P L C x (th m) h (by omega)
  have hp0 : (m 24 0 4 ≤ 0 ↔ P = 0) := by
    rw [h3, show (0 : Int32) = nI 0 from rfl, nI_leI (by omega) (by omega)]; omega
  have hp1 : (0 < x 1 0 3 ↔ ¬ P = 0) := by
    rw [hC.1, show (0 : Int32) = nI 0 from rfl, nI_ltI (by omega) (by omega)]; omega
  unfold wp_X9_file
  have no : (decide ((1 : Int32) ≤ a ∧ a ≤ 24) && decide ((1 : Int32) ≤ b ∧ b ≤ 4) && decide (P = 0)) = false → wp_X10_file a b s (gl x m) (fun r2 v2 => Q 0 r2 v2) := by
    intro z
    unfold wp_X10_file
    intro v1 e
    rw [th_gl] at e
    subst e
    refine M_in (bI_if (fun _ => hq0 _) (fun c2 => M_in (bI_if (fun _ => hq0 _) (fun c3 => ⟨fun c4 => ?_, fun _ => hq0 _⟩))))
    have : P = 0 := hp0.mp c4
    rw [c2, c3] at z
    simp [this] at z
  refine ⟨fun c => no ?_, fun c => S_isWithin (bI_if (fun c2 => no ?_) (fun c2 => S_isWithin (bI_fi (fun c3 => ?_) (fun c3 => no ?_))))⟩
  · simp [hp1.mp c]
  · rw [c2]; rfl
  · have hP : P = 0 := Classical.byContradiction fun q => c (hp1.mpr q)
    subst hP
    obtain ⟨N', f1, f2, rfl⟩ := within_t (lo := 1) (hi := 24) (by omega) c2 (by omega)
    obtain ⟨K', f3, f4, rfl⟩ := within_t (lo := 1) (hi := 4) (by omega) c3 (by omega)
    have hL0 : L = 0 := by
      rcases Nat.eq_zero_or_pos L with q | q
      · exact q
      · obtain ⟨d, g, p, b, w, -⟩ := iR 0 q
        omega
    subst hL0
    unfold wp_X8_become
    intro x1 e1
    rw [gl_x rfl] at e1
    subst e1
    intro x2 e2
    rw [gl_x rfl] at e2
    subst e2
    intro x3 e3
    rw [gl_x rfl] at e3
    subst e3
    unfold wp_X10_file
    intro v1 e
    rw [th_gl] at e
    subst e
    refine M_in ?_
    rw [c2]
    refine ⟨fun q => absurd q (by decide), fun _ => M_in ?_⟩
    rw [c3]
    refine ⟨fun q => absurd q (by decide), fun _ => ⟨fun _ => ?_, fun q => absurd (hp0.mpr rfl) q⟩⟩
    intro v4 e4
    rw [gl_m rfl] at e4
    subst e4
    intro v5 e5
    rw [gl_m rfl] at e5
    subst e5
    intro v6 e6
    rw [gl_m rfl] at e6
    subst e6
    have fr : ∀ d p, d < 12 → p < 24 → hs m d p = false ∧ mk m d p = false := fun d p hd0 hp => (iN d (by omega) hd0).1 p hp
    have fl : ∀ d p b, d < 12 → p < 24 → b < 4 → hl m d p b = false := fun d p b hd0 hp hb => (iN d (by omega) hd0).2.1 p b hp hb
    refine hq 1 N' K' 0 0 C _ _ ⟨⟨⟨rfl, rfl, rfl⟩, hC, hM, fun d hd0 => ⟨?_, ?_⟩, fun d p b hd0 hp hb => ?_, hV, hG, hT, hLt, hR⟩, ⟨rfl, rfl, h3, f1, f2, f3, f4, by omega⟩, iC, fun j hj => absurd hj (by omega), fun d p b hd0 hp hb hl0 => ?_, fun d p b hd0 hp hb hs0 => ?_, iS, iO, fun d hd0 => absurd hd0 (by omega), iN, fun d hd0 => absurd hd0 (by omega), iM, iU⟩ (by omega)
    · refine (hS d hd0).1.ext (fun p hp => ?_)
      show (decide (p < N) && hs m d p) = (decide (p < N') && hs m d p)
      by_cases w : p < 24
      · simp [(fr d p hd0 w).1]
      · simp [show ¬ p < N by omega, show ¬ p < N' by omega]
    · refine (hS d hd0).2.ext (fun p hp => ?_)
      show (decide (p < N) && mk m d p) = (decide (p < N') && mk m d p)
      by_cases w : p < 24
      · simp [(fr d p hd0 w).2]
      · simp [show ¬ p < N by omega, show ¬ p < N' by omega]
    · have w := hH d p b hd0 hp hb
      rw [fl d p b hd0 hp hb] at w
      show x 17 d (4 * p + b) = if p < N' ∧ b < K' ∧ hl m d p b = true then _ else -1
      rw [fl d p b hd0 hp hb]
      simpa using w
    · have w : hl m d p b = true := hl0
      rw [fl d p b hd0 (by omega) (by omega)] at w
      cases w
    · have w : hs m d p = true := hs0
      rw [(fr d p hd0 (by omega)).1] at w
      cases w
  · rw [c2, c3]; rfl
end CHG
