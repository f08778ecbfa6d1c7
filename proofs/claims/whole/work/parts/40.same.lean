/-! count, about and pair: class and reference agree -/
section SAME3
variable {N K P L C : Nat} {x m : St3} {Q : Int32 → Int32 → St3 → Prop} {post : Int32 → St3 → Prop}
theorem M_cdone_L {v : St3} (hz : Sz N K P v) (h : post (nI (ct (fun d => hr v d && dn N v d) P)) v) : ∀ (n i f : Nat), i + n = P → n < f → wL_X10_count__94 post f (nI (ct (fun d => hr v d && dn N v d) i)) (nI i) v
  | n, i, 0, _, hf => absurd hf (by omega)
  | n, i, f + 1, e, hf => by
    have hz0 := hz
    obtain ⟨h1, h2, h3, h4, h5, h6, h7, h8⟩ := hz
    show wB_X10_count__94 post _ _ (nI i) v
    unfold wB_X10_count__94
    rw [h3, nI_1]
    have nx := M_cdone_L hz0 h (n - 1) (i + 1) f
    refine le2 (by omega) (by omega) (fun c => ?_) (fun c => ⟨i, by omega, rfl, fun c2 => ?_, fun c2 => M_isDone (by omega) hz0 (bI_if (fun c3 => ?_) (fun c3 => ?_))⟩)
    · rw [show i = P by omega]; exact h
    · rw [acc0 (by simp [hr, c2])]; exact nx (by omega) (by omega)
    · rw [acc0 (by simp [c3])]; exact nx (by omega) (by omega)
    · rw [acc1 (by simp [hr, c2, c3])]; exact nx (by omega) (by omega)
def cF (N P : Nat) (m : St3) (c : Nat) : Int32 := match c with
  | 0 => m 24 0 5
  | 1 => m 24 0 4
  | 2 => nI (ct (hr m) P)
  | 3 => nI (ct (fun d => hr m d && dn N m d) P)
  | 4 => m 24 0 1
  | 5 => m 24 0 2
  | 6 => m 24 0 6
  | 7 => m 24 0 34
  | 8 => m 24 0 7
  | 9 => m 24 0 8
  | 10 => m 24 0 9
  | _ => -1
theorem M_count {c : Nat} (hc : c < 11) (hz : Sz N K P m) (h : post (cF N P m c) (gl x (th m))) : wp_X10_count_ (nI c) (gl x m) post := by
  obtain ⟨h1, h2, h3, h4, h5, h6, h7, h8⟩ := id hz
  unfold wp_X10_count_
  intro v1 e
  rw [th_gl] at e
  subst e
  match c, hc, h with
  | 0, _, h =>
    refine ⟨fun q => ?_, fun q => ?_, fun q => ?_, fun q => ?_, fun q => ?_, fun q => ?_, fun q => ?_, fun q => ?_, fun q => ?_, fun q => ?_, fun q => ?_, fun q => ?_⟩
    · exact h
    · exact absurd q (by decide)
    · exact absurd q (by decide)
    · exact absurd q (by decide)
    · exact absurd q (by decide)
    · exact absurd q (by decide)
    · exact absurd q (by decide)
    · exact absurd q (by decide)
    · exact absurd q (by decide)
    · exact absurd q (by decide)
    · exact absurd q (by decide)
    · exact absurd q (by decide)
  | 1, _, h =>
    refine ⟨fun q => ?_, fun q => ?_, fun q => ?_, fun q => ?_, fun q => ?_, fun q => ?_, fun q => ?_, fun q => ?_, fun q => ?_, fun q => ?_, fun q => ?_, fun q => ?_⟩
    · exact absurd q (by decide)
    · exact h
    · exact absurd q (by decide)
    · exact absurd q (by decide)
    · exact absurd q (by decide)
    · exact absurd q (by decide)
    · exact absurd q (by decide)
    · exact absurd q (by decide)
    · exact absurd q (by decide)
    · exact absurd q (by decide)
    · exact absurd q (by decide)
    · exact absurd q (by decide)
  | 2, _, h =>
    refine ⟨fun q => ?_, fun q => ?_, fun q => ?_, fun q => ?_, fun q => ?_, fun q => ?_, fun q => ?_, fun q => ?_, fun q => ?_, fun q => ?_, fun q => ?_, fun q => ?_⟩
    · exact absurd q (by decide)
    · exact absurd q (by decide)
    · show wp_X10_count_43 (nI 0) (m 24 0 4) _ _
      rw [h3]
      refine M_c43_L (v := gl x (th m)) (s := 0) (m := P) (by omega) ?_ P 0 FU (by omega) (fu P (by omega))
      have e : ct (fun k => decide (¬ gl x (th m) 43 0 (0 + k) = 0)) P = ct (hr m) P := ct_cong (fun k hk => by rw [Nat.zero_add]; rfl)
      rw [e]; exact h
    · exact absurd q (by decide)
    · exact absurd q (by decide)
    · exact absurd q (by decide)
    · exact absurd q (by decide)
    · exact absurd q (by decide)
    · exact absurd q (by decide)
    · exact absurd q (by decide)
    · exact absurd q (by decide)
    · exact absurd q (by decide)
  | 3, _, h =>
    refine ⟨fun q => ?_, fun q => ?_, fun q => ?_, fun q => ?_, fun q => ?_, fun q => ?_, fun q => ?_, fun q => ?_, fun q => ?_, fun q => ?_, fun q => ?_, fun q => ?_⟩
    · exact absurd q (by decide)
    · exact absurd q (by decide)
    · exact absurd q (by decide)
    · exact M_cdone_L (v := gl x (th m)) hz h P 0 FU (by omega) (fu P (by omega))
    · exact absurd q (by decide)
    · exact absurd q (by decide)
    · exact absurd q (by decide)
    · exact absurd q (by decide)
    · exact absurd q (by decide)
    · exact absurd q (by decide)
    · exact absurd q (by decide)
    · exact absurd q (by decide)
  | 4, _, h =>
    refine ⟨fun q => ?_, fun q => ?_, fun q => ?_, fun q => ?_, fun q => ?_, fun q => ?_, fun q => ?_, fun q => ?_, fun q => ?_, fun q => ?_, fun q => ?_, fun q => ?_⟩
    · exact absurd q (by decide)
    · exact absurd q (by decide)
    · exact absurd q (by decide)
    · exact absurd q (by decide)
    · exact h
    · exact absurd q (by decide)
    · exact absurd q (by decide)
    · exact absurd q (by decide)
    · exact absurd q (by decide)
    · exact absurd q (by decide)
    · exact absurd q (by decide)
    · exact absurd q (by decide)
  | 5, _, h =>
    refine ⟨fun q => ?_, fun q => ?_, fun q => ?_, fun q => ?_, fun q => ?_, fun q => ?_, fun q => ?_, fun q => ?_, fun q => ?_, fun q => ?_, fun q => ?_, fun q => ?_⟩
    · exact absurd q (by decide)
    · exact absurd q (by decide)
    · exact absurd q (by decide)
    · exact absurd q (by decide)
    · exact absurd q (by decide)
    · exact h
    · exact absurd q (by decide)
    · exact absurd q (by decide)
    · exact absurd q (by decide)
    · exact absurd q (by decide)
    · exact absurd q (by decide)
    · exact absurd q (by decide)
  | 6, _, h =>
    refine ⟨fun q => ?_, fun q => ?_, fun q => ?_, fun q => ?_, fun q => ?_, fun q => ?_, fun q => ?_, fun q => ?_, fun q => ?_, fun q => ?_, fun q => ?_, fun q => ?_⟩
    · exact absurd q (by decide)
    · exact absurd q (by decide)
    · exact absurd q (by decide)
    · exact absurd q (by decide)
    · exact absurd q (by decide)
    · exact absurd q (by decide)
    · exact h
    · exact absurd q (by decide)
    · exact absurd q (by decide)
    · exact absurd q (by decide)
    · exact absurd q (by decide)
    · exact absurd q (by decide)
  | 7, _, h =>
    refine ⟨fun q => ?_, fun q => ?_, fun q => ?_, fun q => ?_, fun q => ?_, fun q => ?_, fun q => ?_, fun q => ?_, fun q => ?_, fun q => ?_, fun q => ?_, fun q => ?_⟩
    · exact absurd q (by decide)
    · exact absurd q (by decide)
    · exact absurd q (by decide)
    · exact absurd q (by decide)
    · exact absurd q (by decide)
    · exact absurd q (by decide)
    · exact absurd q (by decide)
    · exact h
    · exact absurd q (by decide)
    · exact absurd q (by decide)
    · exact absurd q (by decide)
    · exact absurd q (by decide)
  | 8, _, h =>
    refine ⟨fun q => ?_, fun q => ?_, fun q => ?_, fun q => ?_, fun q => ?_, fun q => ?_, fun q => ?_, fun q => ?_, fun q => ?_, fun q => ?_, fun q => ?_, fun q => ?_⟩
    · exact absurd q (by decide)
    · exact absurd q (by decide)
    · exact absurd q (by decide)
    · exact absurd q (by decide)
    · exact absurd q (by decide)
    · exact absurd q (by decide)
    · exact absurd q (by decide)
    · exact absurd q (by decide)
    · exact h
    · exact absurd q (by decide)
    · exact absurd q (by decide)
    · exact absurd q (by decide)
  | 9, _, h =>
    refine ⟨fun q => ?_, fun q => ?_, fun q => ?_, fun q => ?_, fun q => ?_, fun q => ?_, fun q => ?_, fun q => ?_, fun q => ?_, fun q => ?_, fun q => ?_, fun q => ?_⟩
    · exact absurd q (by decide)
    · exact absurd q (by decide)
    · exact absurd q (by decide)
    · exact absurd q (by decide)
    · exact absurd q (by decide)
    · exact absurd q (by decide)
    · exact absurd q (by decide)
    · exact absurd q (by decide)
    · exact absurd q (by decide)
    · exact h
    · exact absurd q (by decide)
    · exact absurd q (by decide)
  | 10, _, h =>
    refine ⟨fun q => ?_, fun q => ?_, fun q => ?_, fun q => ?_, fun q => ?_, fun q => ?_, fun q => ?_, fun q => ?_, fun q => ?_, fun q => ?_, fun q => ?_, fun q => ?_⟩
    · exact absurd q (by decide)
    · exact absurd q (by decide)
    · exact absurd q (by decide)
    · exact absurd q (by decide)
    · exact absurd q (by decide)
    · exact absurd q (by decide)
    · exact absurd q (by decide)
    · exact absurd q (by decide)
    · exact absurd q (by decide)
    · exact absurd q (by decide)
    · exact h
    · exact absurd q (by decide)
  | (c + 11), hc, _ => exact absurd hc (by omega)
theorem M_countD {a : Int32} (ha : a < 0 ∨ nI 11 ≤ a) (h : post (-1) (gl x (th m))) : wp_X10_count_ a (gl x m) post := by
  unfold wp_X10_count_
  intro v1 e
  rw [th_gl] at e
  subst e
  refine ⟨fun q => ?_, fun q => ?_, fun q => ?_, fun q => ?_, fun q => ?_, fun q => ?_, fun q => ?_, fun q => ?_, fun q => ?_, fun q => ?_, fun q => ?_, fun q => ?_⟩
  · subst q; exact absurd ha (by decide)
  · subst q; exact absurd ha (by decide)
  · subst q; exact absurd ha (by decide)
  · subst q; exact absurd ha (by decide)
  · subst q; exact absurd ha (by decide)
  · subst q; exact absurd ha (by decide)
  · subst q; exact absurd ha (by decide)
  · subst q; exact absurd ha (by decide)
  · subst q; exact absurd ha (by decide)
  · subst q; exact absurd ha (by decide)
  · subst q; exact absurd ha (by decide)
  · exact h
theorem A_count {a : Int32} (h : RX N K P L C x m) (hq : ∀ r, Q r r (gl x (th m))) : wp_X9_count a (gl x m) (fun r1 v1 => wp_X10_count_ a v1 (fun r2 v2 => Q r1 r2 v2)) := by
  obtain ⟨⟨hW, hC, hM, hS, hH, hV, hG, hT, hLt, hR⟩, hz, iC, iR, iF, iH, iS, iO, iD, iN, iG, iM, iU⟩ := id h
  obtain ⟨h1, h2, h3, h4, h5, h6, h7, h8⟩ := id hz
  unfold wp_X9_count
  have fin : ∀ (c : Nat) (r : Int32), c < 11 → r = cF N P m c → wp_X10_count_ (nI c) (gl x m) (fun r2 v2 => Q r r2 v2) := fun c r hc e => M_count hc hz (by rw [e]; exact hq _)
  refine ⟨fun q => ?_, fun q => ?_, fun q => ?_, fun q => ?_, fun q => ?_, fun q => ?_, fun q => ?_, fun q => ?_, fun q => ?_, fun q => ?_, fun q => ?_, fun q => M_countD q (hq _)⟩ <;> subst q
  · exact fin 0 _ (by omega) hC.2.2.1
  · exact fin 1 _ (by omega) (hC.1.trans h3.symm)
  · exact S_bitsM (n := P) (f := hr m) hC.2.1 (by omega) (fin 2 _ (by omega) rfl)
  · exact S_doneAndHere_L (v := gl x m) (m := m) hC hM iD h8 (fin 3 _ (by omega) rfl) P 0 FU (by omega) (fu P (by omega))
  · exact fin 4 _ (by omega) (hW.1.trans h1.symm)
  · exact fin 5 _ (by omega) (hW.2.1.trans h2.symm)
  · exact fin 6 _ (by omega) hC.2.2.2.1
  · exact fin 7 _ (by omega) (hR.1.trans hR.2.1.symm)
  · exact fin 8 _ (by omega) hC.2.2.2.2
  · exact S_failedInAll_L (v := gl x m) (m := m) hC hM h8 (fin 9 _ (by omega) iM.1.symm) P 0 FU (by omega) (fu P (by omega))
  · exact S_spareInAll_L (v := gl x m) (m := m) hC hM h8 (fin 10 _ (by omega) iM.2.symm) P 0 FU (by omega) (fu P (by omega))
theorem ot_op {a b : Nat} (iO : Op P m) (iS : Sy m) (ha : a < 12) (hb : b < 12) : ot m a b = (op m a b && !bn m a b && !bn m b a) := by
  unfold ot nr
  cases ho : op m a b with
  | false => simp
  | true =>
    obtain ⟨q1, q2, q3, q4, q5⟩ := iO a b ha hb ho
    have : ¬ a = b := fun e => by
      subst e
      rw [iS.2 a ha] at q1
      cases q1
    simp [this, q1, q2, q3]
def aF (N K P L : Nat) (m : St3) (d c : Nat) : Int32 := match c with
  | 0 => m 40 0 d
  | 1 => bI (hr m d)
  | 2 => nI (hm N m d)
  | 3 => nI (hh N K m d)
  | 4 => m 45 0 d
  | 5 => m 46 0 d
  | 6 => m 47 0 d
  | 7 => m 48 0 d
  | 8 => nI (ct (mk m d) N)
  | 9 => m 49 0 d
  | 10 => nI (ca L m d)
  | 11 => nI (ct (bn m d) P)
  | 12 => nI (ct (ot m d) P)
  | 13 => nI (ct (mt m d) P)
  | _ => -1
theorem M_about {d c : Nat} (hc : c < 14) (hz : Sz N K P m) (hL : m 24 0 34 = nI L) (hL2 : L ≤ 192) (hd0 : d < P) (h : post (aF N K P L m d c) (gl x (th m))) : wp_X10_about (nI d) (nI c) (gl x m) post := by
  obtain ⟨h1, h2, h3, h4, h5, h6, h7, h8⟩ := id hz
  unfold wp_X10_about
  intro v1 e
  rw [th_gl] at e
  subst e
  refine M_isPeer (v := gl x (th m)) hz ?_
  rw [(ib_t (by omega)).mpr ⟨d, hd0, rfl⟩]
  refine ⟨fun _ => ?_, fun q => absurd q (by decide)⟩
  match c, hc, h with
  | 0, _, h =>
    refine ⟨fun q => ?_, fun q => ?_, fun q => ?_, fun q => ?_, fun q => ?_, fun q => ?_, fun q => ?_, fun q => ?_, fun q => ?_, fun q => ?_, fun q => ?_, fun q => ?_, fun q => ?_, fun q => ?_, fun q => ?_⟩
    · exact ⟨d, by omega, rfl, h⟩
    · exact absurd q (by decide)
    · exact absurd q (by decide)
    · exact absurd q (by decide)
    · exact absurd q (by decide)
    · exact absurd q (by decide)
    · exact absurd q (by decide)
    · exact absurd q (by decide)
    · exact absurd q (by decide)
    · exact absurd q (by decide)
    · exact absurd q (by decide)
    · exact absurd q (by decide)
    · exact absurd q (by decide)
    · exact absurd q (by decide)
    · exact absurd q (by decide)
  | 1, _, h =>
    refine ⟨fun q => ?_, fun q => ?_, fun q => ?_, fun q => ?_, fun q => ?_, fun q => ?_, fun q => ?_, fun q => ?_, fun q => ?_, fun q => ?_, fun q => ?_, fun q => ?_, fun q => ?_, fun q => ?_, fun q => ?_⟩
    · exact absurd q (by decide)
    · refine ⟨d, by omega, rfl, fun z => ?_, fun z => ?_⟩
      · rw [show aF N K P L m d 1 = 0 by show bI (hr m d) = 0; rw [bI_0]; unfold hr; rw [decide_eq_false_iff_not]; exact fun w => w z] at h; exact h
      · rw [show aF N K P L m d 1 = 1 by show bI (hr m d) = 1; rw [show hr m d = true by unfold hr; rw [decide_eq_true_eq]; exact z]; rfl] at h; exact h
    · exact absurd q (by decide)
    · exact absurd q (by decide)
    · exact absurd q (by decide)
    · exact absurd q (by decide)
    · exact absurd q (by decide)
    · exact absurd q (by decide)
    · exact absurd q (by decide)
    · exact absurd q (by decide)
    · exact absurd q (by decide)
    · exact absurd q (by decide)
    · exact absurd q (by decide)
    · exact absurd q (by decide)
    · exact absurd q (by decide)
  | 2, _, h =>
    refine ⟨fun q => ?_, fun q => ?_, fun q => ?_, fun q => ?_, fun q => ?_, fun q => ?_, fun q => ?_, fun q => ?_, fun q => ?_, fun q => ?_, fun q => ?_, fun q => ?_, fun q => ?_, fun q => ?_, fun q => ?_⟩
    · exact absurd q (by decide)
    · exact absurd q (by decide)
    · exact M_hasMany (v := gl x (th m)) (by omega) hz h
    · exact absurd q (by decide)
    · exact absurd q (by decide)
    · exact absurd q (by decide)
    · exact absurd q (by decide)
    · exact absurd q (by decide)
    · exact absurd q (by decide)
    · exact absurd q (by decide)
    · exact absurd q (by decide)
    · exact absurd q (by decide)
    · exact absurd q (by decide)
    · exact absurd q (by decide)
    · exact absurd q (by decide)
  | 3, _, h =>
    refine ⟨fun q => ?_, fun q => ?_, fun q => ?_, fun q => ?_, fun q => ?_, fun q => ?_, fun q => ?_, fun q => ?_, fun q => ?_, fun q => ?_, fun q => ?_, fun q => ?_, fun q => ?_, fun q => ?_, fun q => ?_⟩
    · exact absurd q (by decide)
    · exact absurd q (by decide)
    · exact absurd q (by decide)
    · exact M_holdsMany (v := gl x (th m)) (by omega) hz h
    · exact absurd q (by decide)
    · exact absurd q (by decide)
    · exact absurd q (by decide)
    · exact absurd q (by decide)
    · exact absurd q (by decide)
    · exact absurd q (by decide)
    · exact absurd q (by decide)
    · exact absurd q (by decide)
    · exact absurd q (by decide)
    · exact absurd q (by decide)
    · exact absurd q (by decide)
  | 4, _, h =>
    refine ⟨fun q => ?_, fun q => ?_, fun q => ?_, fun q => ?_, fun q => ?_, fun q => ?_, fun q => ?_, fun q => ?_, fun q => ?_, fun q => ?_, fun q => ?_, fun q => ?_, fun q => ?_, fun q => ?_, fun q => ?_⟩
    · exact absurd q (by decide)
    · exact absurd q (by decide)
    · exact absurd q (by decide)
    · exact absurd q (by decide)
    · exact ⟨d, by omega, rfl, h⟩
    · exact absurd q (by decide)
    · exact absurd q (by decide)
    · exact absurd q (by decide)
    · exact absurd q (by decide)
    · exact absurd q (by decide)
    · exact absurd q (by decide)
    · exact absurd q (by decide)
    · exact absurd q (by decide)
    · exact absurd q (by decide)
    · exact absurd q (by decide)
  | 5, _, h =>
    refine ⟨fun q => ?_, fun q => ?_, fun q => ?_, fun q => ?_, fun q => ?_, fun q => ?_, fun q => ?_, fun q => ?_, fun q => ?_, fun q => ?_, fun q => ?_, fun q => ?_, fun q => ?_, fun q => ?_, fun q => ?_⟩
    · exact absurd q (by decide)
    · exact absurd q (by decide)
    · exact absurd q (by decide)
    · exact absurd q (by decide)
    · exact absurd q (by decide)
    · exact ⟨d, by omega, rfl, h⟩
    · exact absurd q (by decide)
    · exact absurd q (by decide)
    · exact absurd q (by decide)
    · exact absurd q (by decide)
    · exact absurd q (by decide)
    · exact absurd q (by decide)
    · exact absurd q (by decide)
    · exact absurd q (by decide)
    · exact absurd q (by decide)
  | 6, _, h =>
    refine ⟨fun q => ?_, fun q => ?_, fun q => ?_, fun q => ?_, fun q => ?_, fun q => ?_, fun q => ?_, fun q => ?_, fun q => ?_, fun q => ?_, fun q => ?_, fun q => ?_, fun q => ?_, fun q => ?_, fun q => ?_⟩
    · exact absurd q (by decide)
    · exact absurd q (by decide)
    · exact absurd q (by decide)
    · exact absurd q (by decide)
    · exact absurd q (by decide)
    · exact absurd q (by decide)
    · exact ⟨d, by omega, rfl, h⟩
    · exact absurd q (by decide)
    · exact absurd q (by decide)
    · exact absurd q (by decide)
    · exact absurd q (by decide)
    · exact absurd q (by decide)
    · exact absurd q (by decide)
    · exact absurd q (by decide)
    · exact absurd q (by decide)
  | 7, _, h =>
    refine ⟨fun q => ?_, fun q => ?_, fun q => ?_, fun q => ?_, fun q => ?_, fun q => ?_, fun q => ?_, fun q => ?_, fun q => ?_, fun q => ?_, fun q => ?_, fun q => ?_, fun q => ?_, fun q => ?_, fun q => ?_⟩
    · exact absurd q (by decide)
    · exact absurd q (by decide)
    · exact absurd q (by decide)
    · exact absurd q (by decide)
    · exact absurd q (by decide)
    · exact absurd q (by decide)
    · exact absurd q (by decide)
    · exact ⟨d, by omega, rfl, h⟩
    · exact absurd q (by decide)
    · exact absurd q (by decide)
    · exact absurd q (by decide)
    · exact absurd q (by decide)
    · exact absurd q (by decide)
    · exact absurd q (by decide)
    · exact absurd q (by decide)
  | 8, _, h =>
    refine ⟨fun q => ?_, fun q => ?_, fun q => ?_, fun q => ?_, fun q => ?_, fun q => ?_, fun q => ?_, fun q => ?_, fun q => ?_, fun q => ?_, fun q => ?_, fun q => ?_, fun q => ?_, fun q => ?_, fun q => ?_⟩
    · exact absurd q (by decide)
    · exact absurd q (by decide)
    · exact absurd q (by decide)
    · exact absurd q (by decide)
    · exact absurd q (by decide)
    · exact absurd q (by decide)
    · exact absurd q (by decide)
    · exact absurd q (by decide)
    · show wp_X10_count_51 ((24 : Int32) * nI d) (m 24 0 1) _ _
      rw [h1, show (24 : Int32) * nI d = nI (24 * d) from pk_mul 24 d]
      exact M_c51_L (v := gl x (th m)) (s := 24 * d) (m := N) (by omega) h N 0 FU (by omega) (fu N (by omega))
    · exact absurd q (by decide)
    · exact absurd q (by decide)
    · exact absurd q (by decide)
    · exact absurd q (by decide)
    · exact absurd q (by decide)
    · exact absurd q (by decide)
  | 9, _, h =>
    refine ⟨fun q => ?_, fun q => ?_, fun q => ?_, fun q => ?_, fun q => ?_, fun q => ?_, fun q => ?_, fun q => ?_, fun q => ?_, fun q => ?_, fun q => ?_, fun q => ?_, fun q => ?_, fun q => ?_, fun q => ?_⟩
    · exact absurd q (by decide)
    · exact absurd q (by decide)
    · exact absurd q (by decide)
    · exact absurd q (by decide)
    · exact absurd q (by decide)
    · exact absurd q (by decide)
    · exact absurd q (by decide)
    · exact absurd q (by decide)
    · exact absurd q (by decide)
    · exact ⟨d, by omega, rfl, h⟩
    · exact absurd q (by decide)
    · exact absurd q (by decide)
    · exact absurd q (by decide)
    · exact absurd q (by decide)
    · exact absurd q (by decide)
  | 10, _, h =>
    refine ⟨fun q => ?_, fun q => ?_, fun q => ?_, fun q => ?_, fun q => ?_, fun q => ?_, fun q => ?_, fun q => ?_, fun q => ?_, fun q => ?_, fun q => ?_, fun q => ?_, fun q => ?_, fun q => ?_, fun q => ?_⟩
    · exact absurd q (by decide)
    · exact absurd q (by decide)
    · exact absurd q (by decide)
    · exact absurd q (by decide)
    · exact absurd q (by decide)
    · exact absurd q (by decide)
    · exact absurd q (by decide)
    · exact absurd q (by decide)
    · exact absurd q (by decide)
    · exact absurd q (by decide)
    · exact M_comingTo (v := gl x (th m)) hL (by omega) h
    · exact absurd q (by decide)
    · exact absurd q (by decide)
    · exact absurd q (by decide)
    · exact absurd q (by decide)
  | 11, _, h =>
    refine ⟨fun q => ?_, fun q => ?_, fun q => ?_, fun q => ?_, fun q => ?_, fun q => ?_, fun q => ?_, fun q => ?_, fun q => ?_, fun q => ?_, fun q => ?_, fun q => ?_, fun q => ?_, fun q => ?_, fun q => ?_⟩
    · exact absurd q (by decide)
    · exact absurd q (by decide)
    · exact absurd q (by decide)
    · exact absurd q (by decide)
    · exact absurd q (by decide)
    · exact absurd q (by decide)
    · exact absurd q (by decide)
    · exact absurd q (by decide)
    · exact absurd q (by decide)
    · exact absurd q (by decide)
    · exact absurd q (by decide)
    · show wp_X10_count_57 ((12 : Int32) * nI d) (m 24 0 4) _ _
      rw [h3, show (12 : Int32) * nI d = nI (12 * d) from pk_mul 12 d]
      exact M_c57_L (v := gl x (th m)) (s := 12 * d) (m := P) (by omega) h P 0 FU (by omega) (fu P (by omega))
    · exact absurd q (by decide)
    · exact absurd q (by decide)
    · exact absurd q (by decide)
  | 12, _, h =>
    refine ⟨fun q => ?_, fun q => ?_, fun q => ?_, fun q => ?_, fun q => ?_, fun q => ?_, fun q => ?_, fun q => ?_, fun q => ?_, fun q => ?_, fun q => ?_, fun q => ?_, fun q => ?_, fun q => ?_, fun q => ?_⟩
    · exact absurd q (by decide)
    · exact absurd q (by decide)
    · exact absurd q (by decide)
    · exact absurd q (by decide)
    · exact absurd q (by decide)
    · exact absurd q (by decide)
    · exact absurd q (by decide)
    · exact absurd q (by decide)
    · exact absurd q (by decide)
    · exact absurd q (by decide)
    · exact absurd q (by decide)
    · exact absurd q (by decide)
    · exact M_openTo_L (v := gl x (th m)) (by omega) h3 h8 h P 0 FU (by omega) (fu P (by omega))
    · exact absurd q (by decide)
    · exact absurd q (by decide)
  | 13, _, h =>
    refine ⟨fun q => ?_, fun q => ?_, fun q => ?_, fun q => ?_, fun q => ?_, fun q => ?_, fun q => ?_, fun q => ?_, fun q => ?_, fun q => ?_, fun q => ?_, fun q => ?_, fun q => ?_, fun q => ?_, fun q => ?_⟩
    · exact absurd q (by decide)
    · exact absurd q (by decide)
    · exact absurd q (by decide)
    · exact absurd q (by decide)
    · exact absurd q (by decide)
    · exact absurd q (by decide)
    · exact absurd q (by decide)
    · exact absurd q (by decide)
    · exact absurd q (by decide)
    · exact absurd q (by decide)
    · exact absurd q (by decide)
    · exact absurd q (by decide)
    · exact absurd q (by decide)
    · show wp_X10_count_55 ((12 : Int32) * nI d) (m 24 0 4) _ _
      rw [h3, show (12 : Int32) * nI d = nI (12 * d) from pk_mul 12 d]
      exact M_c55_L (v := gl x (th m)) (s := 12 * d) (m := P) (by omega) h P 0 FU (by omega) (fu P (by omega))
    · exact absurd q (by decide)
  | (c + 14), hc, _ => exact absurd hc (by omega)
theorem M_aboutD {a b : Int32} (hz : Sz N K P m) (hb : b < 0 ∨ nI 14 ≤ b) (h : post (-1) (gl x (th m))) : wp_X10_about a b (gl x m) post := by
  unfold wp_X10_about
  intro v1 e
  rw [th_gl] at e
  subst e
  refine M_isPeer (v := gl x (th m)) hz (bI_fi (fun _ => ?_) (fun _ => h))
  refine ⟨fun q => ?_, fun q => ?_, fun q => ?_, fun q => ?_, fun q => ?_, fun q => ?_, fun q => ?_, fun q => ?_, fun q => ?_, fun q => ?_, fun q => ?_, fun q => ?_, fun q => ?_, fun q => ?_, fun q => ?_⟩
  · subst q; exact absurd hb (by decide)
  · subst q; exact absurd hb (by decide)
  · subst q; exact absurd hb (by decide)
  · subst q; exact absurd hb (by decide)
  · subst q; exact absurd hb (by decide)
  · subst q; exact absurd hb (by decide)
  · subst q; exact absurd hb (by decide)
  · subst q; exact absurd hb (by decide)
  · subst q; exact absurd hb (by decide)
  · subst q; exact absurd hb (by decide)
  · subst q; exact absurd hb (by decide)
  · subst q; exact absurd hb (by decide)
  · subst q; exact absurd hb (by decide)
  · subst q; exact absurd hb (by decide)
  · exact h
theorem M_aboutN {a b : Int32} (hz : Sz N K P m) (c : ib P a = false) (h : post (-1) (gl x (th m))) : wp_X10_about a b (gl x m) post := by
  unfold wp_X10_about
  intro v1 e
  rw [th_gl] at e
  subst e
  refine M_isPeer (v := gl x (th m)) hz ?_
  rw [c]
  exact ⟨fun q => absurd rfl q, fun _ => h⟩
theorem A_about {a b : Int32} (h : RX N K P L C x m) (hq : ∀ r, Q r r (gl x (th m))) : wp_X9_about a b (gl x m) (fun r1 v1 => wp_X10_about a b v1 (fun r2 v2 => Q r1 r2 v2)) := by
  obtain ⟨⟨hW, hC, hM, hS, hH, hV, hG, hT, hLt, hR⟩, hz, iC, iR, iF, iH, iS, iO, iD, iN, iG, iM, iU⟩ := id h
  obtain ⟨h1, h2, h3, h4, h5, h6, h7, h8⟩ := id hz
  unfold wp_X9_about
  refine S_isMember (v := gl x m) (m := m) hC h8 (bI_fi (fun c => ?_) (fun c => M_aboutN hz c (hq _)))
  obtain ⟨d, hd0, rfl⟩ := (ib_t (by omega)).mp c
  have fin : ∀ (c : Nat) (r : Int32), c < 14 → r = aF N K P L m d c → wp_X10_about (nI d) (nI c) (gl x m) (fun r2 v2 => Q r r2 v2) := fun c r hc e => M_about hc hz hR.2.1 hR.2.2.1 hd0 (by rw [e]; exact hq _)
  obtain ⟨m1, m2, m3, m4, m5, m6, m7⟩ := hM.1 d (by omega)
  obtain ⟨m8, m9⟩ := hM.2.1 d hd0
  obtain ⟨t1, t2, t3, t4⟩ := hT.1 d (by omega)
  refine ⟨d, by omega, rfl, fun q => ?_, fun q => ?_, fun q => ?_, fun q => ?_, fun q => ?_, fun q => ?_, fun q => ?_, fun q => ?_, fun q => ?_, fun q => ?_, fun q => ?_, fun q => ?_, fun q => ?_, fun q => ?_, fun q => M_aboutD hz q (hq _)⟩ <;> subst q
  · exact fin 0 _ (by omega) m1
  · refine S_isIn hC.2.1 (by omega) (S_oneIf (fin 1 _ (by omega) ?_))
    simp [hd0, aF]
  · exact S_bitsM (n := N) (f := hs m d) (hS d (by omega)).1 (by omega) (fin 2 _ (by omega) rfl)
  · exact S_heldInAll (v := gl x m) (m := m) hS hH iF h5 h7 (by omega) (fin 3 _ (by omega) rfl)
  · exact fin 4 _ (by omega) m4
  · exact fin 5 _ (by omega) m5
  · exact fin 6 _ (by omega) m6
  · exact fin 7 _ (by omega) m7
  · exact S_bitsM (n := N) (f := mk m d) (hS d (by omega)).2 (by omega) (fin 8 _ (by omega) rfl)
  · exact fin 9 _ (by omega) m9
  · exact fin 10 _ (by omega) (GN1.a hG (by omega))
  · exact S_bitsM (n := P) (f := bn m d) t2 (by omega) (fin 11 _ (by omega) rfl)
  · refine S_bitsM (n := P) (f := ot m d) (t4.ext (fun b hb => ?_)) (by omega) (fin 12 _ (by omega) rfl)
    by_cases w : b < P
    · rw [ot_op iO iS (by omega) (by omega)]
      simp [w]
    · simp [w]
  · exact S_bitsM (n := P) (f := mt m d) t1 (by omega) (fin 13 _ (by omega) rfl)
def pF (N P : Nat) (m : St3) (a b c : Nat) : Int32 := match c with
  | 0 => bI (mt m a b)
  | 1 => bI (nr m a b)
  | 2 => bI (wn N m b a)
  | 3 => bI (ot m a b)
  | 4 => lt N m a b
  | 5 => m 59 0 (12 * a + b)
  | 6 => m 58 0 (12 * a + b)
  | 7 => bI (bn m a b)
  | 8 => bI (decide (m 62 0 a = nI b) && ot m a b)
  | _ => -1
theorem bI_w {b : Bool} {v : St3} (h : post (bI b) v) : (bI b = 0 → post 0 v) ∧ (¬ bI b = 0 → post 1 v) := bI_if (fun c => by rw [c] at h; exact h) (fun c => by rw [c] at h; exact h)
theorem dI_w {y : Int32} {v : St3} (h : post (bI (decide (¬ y = 0))) v) : (y = 0 → post 0 v) ∧ (¬ y = 0 → post 1 v) := ⟨fun c => by rw [show decide (¬ y = 0) = false by simp [c]] at h; exact h, fun c => by rw [show decide (¬ y = 0) = true by simp [c]] at h; exact h⟩
theorem M_pair {a b c : Nat} (hc : c < 9) (hz : Sz N K P m) (ha : a < P) (hb : b < P) (hab : ¬ a = b) (h : post (pF N P m a b c) (gl x (th m))) : wp_X10_pair (nI a) (nI b) (nI c) (gl x m) post := by
  obtain ⟨h1, h2, h3, h4, h5, h6, h7, h8⟩ := id hz
  unfold wp_X10_pair
  intro v1 e
  rw [th_gl] at e
  subst e
  refine M_isTwo (v := gl x (th m)) hz ?_
  rw [(ib_t (by omega)).mpr ⟨a, ha, rfl⟩, (ib_t (by omega)).mpr ⟨b, hb, rfl⟩, show decide (¬ nI a = nI b) = true by simp only [decide_eq_true_eq]; intro q; exact hab (nI_inj (by omega) (by omega) q)]
  refine ⟨fun _ => ?_, fun q => absurd q (by decide)⟩
  match c, hc, h with
  | 0, _, h =>
    refine ⟨fun q => ?_, fun q => ?_, fun q => ?_, fun q => ?_, fun q => ?_, fun q => ?_, fun q => ?_, fun q => ?_, fun q => ?_, fun q => ?_⟩
    · exact M_two ⟨_, by omega, rfl, dI_w h⟩
    · exact absurd q (by decide)
    · exact absurd q (by decide)
    · exact absurd q (by decide)
    · exact absurd q (by decide)
    · exact absurd q (by decide)
    · exact absurd q (by decide)
    · exact absurd q (by decide)
    · exact absurd q (by decide)
    · exact absurd q (by decide)
  | 1, _, h =>
    refine ⟨fun q => ?_, fun q => ?_, fun q => ?_, fun q => ?_, fun q => ?_, fun q => ?_, fun q => ?_, fun q => ?_, fun q => ?_, fun q => ?_⟩
    · exact absurd q (by decide)
    · exact M_isNear (by omega) (by omega) (bI_w h)
    · exact absurd q (by decide)
    · exact absurd q (by decide)
    · exact absurd q (by decide)
    · exact absurd q (by decide)
    · exact absurd q (by decide)
    · exact absurd q (by decide)
    · exact absurd q (by decide)
    · exact absurd q (by decide)
  | 2, _, h =>
    refine ⟨fun q => ?_, fun q => ?_, fun q => ?_, fun q => ?_, fun q => ?_, fun q => ?_, fun q => ?_, fun q => ?_, fun q => ?_, fun q => ?_⟩
    · exact absurd q (by decide)
    · exact absurd q (by decide)
    · exact M_wants (v := gl x (th m)) (by omega) (by omega) hz (bI_w h)
    · exact absurd q (by decide)
    · exact absurd q (by decide)
    · exact absurd q (by decide)
    · exact absurd q (by decide)
    · exact absurd q (by decide)
    · exact absurd q (by decide)
    · exact absurd q (by decide)
  | 3, _, h =>
    refine ⟨fun q => ?_, fun q => ?_, fun q => ?_, fun q => ?_, fun q => ?_, fun q => ?_, fun q => ?_, fun q => ?_, fun q => ?_, fun q => ?_⟩
    · exact absurd q (by decide)
    · exact absurd q (by decide)
    · exact absurd q (by decide)
    · exact M_isOpenTo (by omega) (by omega) (bI_w h)
    · exact absurd q (by decide)
    · exact absurd q (by decide)
    · exact absurd q (by decide)
    · exact absurd q (by decide)
    · exact absurd q (by decide)
    · exact absurd q (by decide)
  | 4, _, h =>
    refine ⟨fun q => ?_, fun q => ?_, fun q => ?_, fun q => ?_, fun q => ?_, fun q => ?_, fun q => ?_, fun q => ?_, fun q => ?_, fun q => ?_⟩
    · exact absurd q (by decide)
    · exact absurd q (by decide)
    · exact absurd q (by decide)
    · exact absurd q (by decide)
    · exact M_late (v := gl x (th m)) (by omega) (by omega) hz h
    · exact absurd q (by decide)
    · exact absurd q (by decide)
    · exact absurd q (by decide)
    · exact absurd q (by decide)
    · exact absurd q (by decide)
  | 5, _, h =>
    refine ⟨fun q => ?_, fun q => ?_, fun q => ?_, fun q => ?_, fun q => ?_, fun q => ?_, fun q => ?_, fun q => ?_, fun q => ?_, fun q => ?_⟩
    · exact absurd q (by decide)
    · exact absurd q (by decide)
    · exact absurd q (by decide)
    · exact absurd q (by decide)
    · exact absurd q (by decide)
    · exact M_two ⟨_, by omega, rfl, h⟩
    · exact absurd q (by decide)
    · exact absurd q (by decide)
    · exact absurd q (by decide)
    · exact absurd q (by decide)
  | 6, _, h =>
    refine ⟨fun q => ?_, fun q => ?_, fun q => ?_, fun q => ?_, fun q => ?_, fun q => ?_, fun q => ?_, fun q => ?_, fun q => ?_, fun q => ?_⟩
    · exact absurd q (by decide)
    · exact absurd q (by decide)
    · exact absurd q (by decide)
    · exact absurd q (by decide)
    · exact absurd q (by decide)
    · exact absurd q (by decide)
    · exact M_two ⟨_, by omega, rfl, h⟩
    · exact absurd q (by decide)
    · exact absurd q (by decide)
    · exact absurd q (by decide)
  | 7, _, h =>
    refine ⟨fun q => ?_, fun q => ?_, fun q => ?_, fun q => ?_, fun q => ?_, fun q => ?_, fun q => ?_, fun q => ?_, fun q => ?_, fun q => ?_⟩
    · exact absurd q (by decide)
    · exact absurd q (by decide)
    · exact absurd q (by decide)
    · exact absurd q (by decide)
    · exact absurd q (by decide)
    · exact absurd q (by decide)
    · exact absurd q (by decide)
    · exact M_two ⟨_, by omega, rfl, dI_w h⟩
    · exact absurd q (by decide)
    · exact absurd q (by decide)
  | 8, _, h =>
    refine ⟨fun q => ?_, fun q => ?_, fun q => ?_, fun q => ?_, fun q => ?_, fun q => ?_, fun q => ?_, fun q => ?_, fun q => ?_, fun q => ?_⟩
    · exact absurd q (by decide)
    · exact absurd q (by decide)
    · exact absurd q (by decide)
    · exact absurd q (by decide)
    · exact absurd q (by decide)
    · exact absurd q (by decide)
    · exact absurd q (by decide)
    · exact absurd q (by decide)
    · refine ⟨a, by omega, rfl, fun z => ?_, fun z => M_isOpenTo (v := gl x (th m)) (by omega) (by omega) (bI_w ?_)⟩
      · have z2 : ¬ m 62 0 a = nI b := z
        rw [show pF N P m a b 8 = 0 by show bI (decide (m 62 0 a = nI b) && ot m a b) = 0; simp [z2, bI]] at h; exact h
      · have z2 : m 62 0 a = nI b := z
        rw [show pF N P m a b 8 = bI (ot m a b) by show bI (decide (m 62 0 a = nI b) && ot m a b) = bI (ot m a b); simp [z2]] at h; exact h
    · exact absurd q (by decide)
  | (c + 9), hc, _ => exact absurd hc (by omega)
theorem M_pairD {a b c : Int32} (hz : Sz N K P m) (hb : c < 0 ∨ nI 9 ≤ c) (h : post (-1) (gl x (th m))) : wp_X10_pair a b c (gl x m) post := by
  unfold wp_X10_pair
  intro v1 e
  rw [th_gl] at e
  subst e
  refine M_isTwo (v := gl x (th m)) hz (bI_fi (fun _ => ?_) (fun _ => h))
  refine ⟨fun q => ?_, fun q => ?_, fun q => ?_, fun q => ?_, fun q => ?_, fun q => ?_, fun q => ?_, fun q => ?_, fun q => ?_, fun q => ?_⟩
  · subst q; exact absurd hb (by decide)
  · subst q; exact absurd hb (by decide)
  · subst q; exact absurd hb (by decide)
  · subst q; exact absurd hb (by decide)
  · subst q; exact absurd hb (by decide)
  · subst q; exact absurd hb (by decide)
  · subst q; exact absurd hb (by decide)
  · subst q; exact absurd hb (by decide)
  · subst q; exact absurd hb (by decide)
  · exact h
theorem M_pairN {a b c : Int32} (hz : Sz N K P m) (z : (ib P a && ib P b && decide (¬ a = b)) = false) (h : post (-1) (gl x (th m))) : wp_X10_pair a b c (gl x m) post := by
  unfold wp_X10_pair
  intro v1 e
  rw [th_gl] at e
  subst e
  refine M_isTwo (v := gl x (th m)) hz ?_
  rw [z]
  exact ⟨fun q => absurd rfl q, fun _ => h⟩
theorem A_pair {a b c0 : Int32} (h : RX N K P L C x m) (hq : ∀ r, Q r r (gl x (th m))) : wp_X9_pair a b c0 (gl x m) (fun r1 v1 => wp_X10_pair a b c0 v1 (fun r2 v2 => Q r1 r2 v2)) := by
  obtain ⟨⟨hW, hC, hM, hS, hH, hV, hG, hT, hLt, hR⟩, hz, iC, iR, iF, iH, iS, iO, iD, iN, iG, iM, iU⟩ := id h
  obtain ⟨h1, h2, h3, h4, h5, h6, h7, h8⟩ := id hz
  unfold wp_X9_pair
  refine S_areTwo (v := gl x m) (m := m) hC h8 (bI_fi (fun c => ?_) (fun c => M_pairN hz c (hq _)))
  simp only [Bool.and_eq_true, decide_eq_true_eq] at c
  obtain ⟨⟨c1, c2⟩, c3⟩ := c
  obtain ⟨d, hd0, rfl⟩ := (ib_t (by omega)).mp c1
  obtain ⟨b, hb, rfl⟩ := (ib_t (by omega)).mp c2
  have hab : ¬ d = b := fun q => c3 (by rw [q])
  have fin : ∀ (c : Nat) (r : Int32), c < 9 → r = pF N P m d b c → wp_X10_pair (nI d) (nI b) (nI c) (gl x m) (fun r2 v2 => Q r r2 v2) := fun c r hc e => M_pair hc hz hd0 hb hab (by rw [e]; exact hq _)
  obtain ⟨t1, t2, t3, t4⟩ := hT.1 d (by omega)
  obtain ⟨l1, l2, l3, l4⟩ := hLt d b (by omega) (by omega)
  have e9 := (hT.2.1 d hd0).2
  have eo : (decide (b < P) && op m d b && !bn m d b && !bn m b d) = ot m d b := by
    rw [ot_op iO iS (by omega) (by omega)]
    simp [hb]
  refine ⟨d, by omega, rfl, fun q => ?_, fun q => ?_, fun q => ?_, fun q => ?_, fun q => ?_, fun q => ?_, fun q => ?_, fun q => ?_, fun q => ?_, fun q => M_pairD hz q (hq _)⟩ <;> subst q
  · exact S_isIn t1 (by omega) (S_oneIf (fin 0 _ (by omega) (by simp [hb, pF])))
  · exact S_nearTo (v := gl x m) (m := m) hC hT h8 hd0 (fun y hy => S_isIn hy (by omega) (S_oneIf (fin 1 _ (by omega) (by simp [hb, pF]))))
  · exact S_wantersOf (v := gl x m) (m := m) hC hM hS hT h8 h5 hd0 (fun y hy => S_isIn hy (by omega) (S_oneIf (fin 2 _ (by omega) (by simp [hb, pF]))))
  · exact S_isIn t4 (by omega) (S_oneIf (fin 3 _ (by omega) (by rw [eo]; rfl)))
  · exact S_late (v := gl x m) (m := m) hM hLt iD hd0 h8 (by omega) (fin 4 _ (by omega) rfl)
  · exact ⟨b, by omega, rfl, fin 5 _ (by omega) l3⟩
  · exact ⟨b, by omega, rfl, fin 6 _ (by omega) l4⟩
  · exact S_isIn t2 (by omega) (S_oneIf (fin 7 _ (by omega) (by simp [hb, pF])))
  · refine ⟨fun z => S_oneIf (b := false) (fin 8 _ (by omega) ?_), fun z => S_isIn t4 (by omega) ?_⟩
    · have z2 : ¬ m 62 0 d = nI b := fun w => z (e9.trans w)
      simp [pF, z2]
    · have z2 : m 62 0 d = nI b := e9.symm.trans z
      rw [eo]
      refine bI_if (fun c4 => S_oneIf (b := false) (fin 8 _ (by omega) ?_)) (fun c4 => S_oneIf (b := true) (fin 8 _ (by omega) ?_))
      · simp [pF, c4]
      · simp [pF, z2, c4]
end SAME3
