/-! one leaves -/
def clb (i d j : Nat) : Bool := decide (j / 12 = d ∧ j % 12 < i ∨ j % 12 = d ∧ j / 12 < i)
def clr (i d : Nat) (m : St3) : St3 := fun k e j => if k = 56 ∧ e = 0 ∧ clb i d j = true then 0 else m k e j
theorem clr_0 (d : Nat) (m : St3) : clr 0 d m = m := by
  funext a b c
  unfold clr
  rw [if_neg (by simp [clb])]
theorem clr_s {d i : Nat} (hd : d < 12) (hi : i < 12) (m : St3) : up3 (up3 (clr i d m) 56 0 (12 * d + i) 0) 56 0 (12 * i + d) 0 = clr (i + 1) d m := by
  funext a b c
  simp only [up3, clr]
  by_cases q : a = 56 ∧ b = 0
  · obtain ⟨rfl, rfl⟩ := q
    by_cases c1 : c = 12 * i + d
    · rw [if_pos ⟨rfl, rfl, c1⟩, if_pos ⟨rfl, rfl, by unfold clb; rw [decide_eq_true_eq]; omega⟩]
    · rw [if_neg (by omega)]
      by_cases c2 : c = 12 * d + i
      · rw [if_pos ⟨rfl, rfl, c2⟩, if_pos ⟨rfl, rfl, by unfold clb; rw [decide_eq_true_eq]; omega⟩]
      · rw [if_neg (by omega), show clb i d c = clb (i + 1) d c by unfold clb; rw [decide_eq_decide]; omega]
  · rw [if_neg (fun z => q ⟨z.1, z.2.1⟩), if_neg (fun z => q ⟨z.1, z.2.1⟩), if_neg (fun z => q ⟨z.1, z.2.1⟩), if_neg (fun z => q ⟨z.1, z.2.1⟩)]
theorem clr_op {P d a b : Nat} {m : St3} (ha : a < 12) (hb : b < 12) : op (clr P d m) a b = (op m a b && !(decide (a = d ∧ b < P) || decide (b = d ∧ a < P))) := by
  unfold op clr
  by_cases q : clb P d (12 * a + b) = true
  · rw [if_pos ⟨rfl, rfl, q⟩]
    unfold clb at q
    rw [decide_eq_true_eq] at q
    rw [show (decide (a = d ∧ b < P) || decide (b = d ∧ a < P)) = true by rw [Bool.or_eq_true, decide_eq_true_eq, decide_eq_true_eq]; omega]
    simp
  · rw [if_neg (fun z => q z.2.2)]
    unfold clb at q
    rw [decide_eq_true_eq] at q
    have w1 : ¬ (a = d ∧ b < P) := by omega
    have w2 : ¬ (b = d ∧ a < P) := by omega
    simp [w1, w2]
def opX (i d : Nat) (x : St3) : St3 := fun k e j => if k = 16 ∧ j = 7 ∧ e < i then x 16 e 7 &&& (((1 : Int32) <<< (nI d &&& 31)) ^^^ (-1)) else x k e j
theorem opX_0 (d : Nat) (x : St3) : opX 0 d x = x := by
  funext a b c
  unfold opX
  rw [if_neg (by omega)]
theorem opX_s (i d : Nat) (x : St3) : up3 (opX i d x) 16 i 7 (x 16 i 7 &&& (((1 : Int32) <<< (nI d &&& 31)) ^^^ (-1))) = opX (i + 1) d x := by
  funext a b c
  simp only [up3, opX]
  by_cases q : a = 16 ∧ b = i ∧ c = 7
  · rw [if_pos q, if_pos (by omega), q.2.1]
  · rw [if_neg q]
    by_cases w : a = 16 ∧ c = 7 ∧ b < i
    · rw [if_pos w, if_pos (by omega)]
    · rw [if_neg w, if_neg (by omega)]
section LEAVE
variable {N K P L C : Nat} {x m : St3}
theorem S_lg29 {m0 : St3} {d : Nat} {post : St3 → Prop} (hP : x 1 0 3 = nI P) (hP2 : P ≤ 12) (h : wp_X2_loseParcelsOf (nI d) (gl (opX P d x) m0) post) : ∀ (n i f : Nat), i + n = P → n < f → wL_X2_letGo_29 post f (nI d) (nI i) (gl (opX i d x) m0)
  | n, i, 0, _, hf => absurd hf (by omega)
  | n, i, f + 1, e, hf => by
    show wB_X2_letGo_29 post _ (nI d) (nI i) _
    unfold wB_X2_letGo_29
    rw [show gl (opX i d x) m0 1 0 3 = nI P from hP, nI_1]
    refine le2 (by omega) (by omega) (fun c => ?_) (fun c => ⟨i, by omega, rfl, ?_⟩)
    · rw [show i = P by omega]; exact h
    · intro v1 e1
      rw [gl_x rfl, show gl (opX i d x) m0 16 i 7 = x 16 i 7 from if_neg (by omega), opX_s] at e1
      subst e1
      exact S_lg29 hP hP2 h (n - 1) (i + 1) f (by omega) (by omega)
theorem M_lv103 {x0 : St3} {d : Nat} {post : Int32 → St3 → Prop} (hP : m 24 0 4 = nI P) (hP2 : P ≤ 12) (hd0 : d < 12) (h : post 1 (gl x0 (clr P d m))) : ∀ (n i f : Nat), i + n = P → n < f → wL_X10_leave_103 post f (nI d) (nI i) (gl x0 (clr i d m))
  | n, i, 0, _, hf => absurd hf (by omega)
  | n, i, f + 1, e, hf => by
    show wB_X10_leave_103 post _ (nI d) (nI i) _
    unfold wB_X10_leave_103
    rw [show gl x0 (clr i d m) 24 0 4 = nI P from hP, nI_1]
    refine le2 (by omega) (by omega) (fun c => ?_) (fun c => M_two ⟨12 * d + i, by omega, rfl, ?_⟩)
    · rw [show i = P by omega]; exact h
    · intro v1 e1
      rw [gl_m rfl] at e1
      subst e1
      refine M_two ⟨12 * i + d, by omega, rfl, ?_⟩
      intro v2 e2
      rw [gl_m rfl, clr_s hd0 (by omega)] at e2
      subst e2
      exact M_lv103 hP hP2 hd0 h (n - 1) (i + 1) f (by omega) (by omega)
/-- what the reference's state will be -/
def gh (P d n : Nat) (m : St3) : St3 := up3 (clr P d m) 24 0 7 (m 24 0 7 + nI n)
theorem gh_mv {d n kept k : Nat} : mvM kept k (gh P d n m) = gh P d n (mvM kept k m) := by
  funext a b c
  by_cases q : a = 56
  · subst q; rfl
  · by_cases q2 : a = 24
    · subst q2; rfl
    · have e1 : ∀ (m : St3) b c, gh P d n m a b c = m a b c := fun m b c => by simp [gh, up3, clr, q, q2]
      rw [e1]
      simp only [mvM, up3]
      rw [e1]
      rfl
theorem gh_end {d n kept : Nat} : up3 (gh P d n m) 24 0 34 (nI kept) = clr P d (up3 (up3 m 24 0 7 (m 24 0 7 + nI n)) 24 0 34 (nI kept)) := by
  funext a b c
  by_cases q : a = 56
  · subst q; rfl
  · simp [gh, up3, clr, q]
def Dk (fl : Int32) (T kept k L C : Nat) (m : St3) : Prop := (∀ j, j < kept → m 71 0 j = 0 ∧ ∃ t, C < t ∧ t ≤ T ∧ m 70 0 j = nI t) ∧ (∀ j, k ≤ j → j < L → ∃ t, m 70 0 j = nI t ∧ (t = C ∧ m 71 0 j = fl ∨ C < t ∧ t ≤ T ∧ m 71 0 j = 0)) ∧ ct (fun j => al kept k j && decide (m 70 0 j = nI T)) L ≤ 96
theorem Dk.skip {fl : Int32} {T kept k : Nat} (h : Dk fl T kept k L C m) (hk : k < L) (hkk : kept ≤ k) : Dk fl T kept (k + 1) L C m := by
  refine ⟨h.1, fun j a b => h.2.1 j (by omega) b, Nat.le_trans ?_ h.2.2⟩
  rw [ct_take hk hkk]; omega
theorem Dk.move {fl : Int32} {T kept k t : Nat} (h : Dk fl T kept k L C m) (hk : k < L) (hkk : kept ≤ k) (e : m 70 0 k = nI t) (t1 : C < t) (t2 : t ≤ T) (e2 : m 71 0 k = 0) : Dk fl T (kept + 1) (k + 1) L C (mvM kept k m) := by
  have a6 : ∀ j, mvM kept k m 70 0 j = if j = kept then m 70 0 k else m 70 0 j := fun j => mvM_at.2.2.2.2.2.1
  have a7 : ∀ j, mvM kept k m 71 0 j = if j = kept then m 71 0 k else m 71 0 j := fun j => mvM_at.2.2.2.2.2.2
  refine ⟨fun j hj => ?_, fun j a b => ?_, ?_⟩
  · rw [a6, a7]
    by_cases q : j = kept
    · rw [if_pos q, if_pos q]; exact ⟨e2, t, t1, t2, e⟩
    · rw [if_neg q, if_neg q]; exact h.1 j (by omega)
  · rw [a6, a7, if_neg (by omega), if_neg (by omega)]
    exact h.2.1 j (by omega) b
  · rw [ct_move hk hkk (f := fun j => decide (m 70 0 j = nI T))]
    · exact h.2.2
    · show decide (mvM kept k m 70 0 kept = nI T) = _
      rw [a6, if_pos rfl]
    · intro j q
      rw [a6, if_neg q]
theorem Dk.fin {fl : Int32} {T kept : Nat} (h : Dk fl T kept L L C m) (hk : kept ≤ L) : De T kept C m := by
  refine ⟨h.1, ?_⟩
  have := h.2.2
  rwa [ct_end hk] at this
theorem leave_loop {d : Nat} (hd0 : d < P) : ∀ (n k kept f1 f2 : Nat) (x m : St3), k + n = L → kept ≤ k → n < f1 → n < f2 → RQ (al kept k) N K P L C x (gh P d (k - kept) m) → Dk 0 (C + 2) kept k L C m → (∀ j, k ≤ j → j < L → ∃ t, C < t ∧ t ≤ C + 2 ∧ m 70 0 j = nI t ∧ m 71 0 j = 0) → ∃ kept' x' m', RX N K P kept' C x' m' ∧ (∀ (m0 : St3) (post : St3 → Prop), post (gl x' m0) → wL_X2_loseParcelsOf_4 post f1 (nI d) (nI kept) (nI k) (gl x m0)) ∧ (∀ (x0 : St3) (post : Int32 → St3 → Prop), post 1 (gl x0 m') → wL_X10_leave_35 post f2 (nI d) (nI kept) (nI k) (gl x0 m))
  | n, k, kept, 0, _, _, _, _, _, hf, _, _, _, _ => absurd hf (by omega)
  | n, k, kept, _ + 1, 0, _, _, _, _, _, hf, _, _, _ => absurd hf (by omega)
  | n, k, kept, f1 + 1, f2 + 1, x, m, e, hkk, hf1, hf2, h, hD, hE => by
    obtain ⟨⟨hW, hC, hM, hS, hH, hV, hG, hT, hLt, hR⟩, hz, iC, iR, iF, iH, iS, iO, iD, iN, iG, iM⟩ := id h
    obtain ⟨h1, h2, h3, h4, h5, h6, h7, h8⟩ := id hz
    have hL := hR.2.2.1
    by_cases q : k = L
    · have q0 : n = 0 := by omega
      subst q
      refine ⟨kept, up3 x 6 0 6 (nI kept), up3 (gh P d (k - kept) m) 24 0 34 (nI kept), RQ.x (RQ_end h hkk) (hD.fin hkk), fun m0 post hp => ?_, fun x0 post hp => ?_⟩
      · show wB_X2_loseParcelsOf_4 post _ (nI d) (nI kept) (nI k) _
        unfold wB_X2_loseParcelsOf_4
        rw [show gl x m0 6 0 6 = nI k from hR.1]
        refine le2 (by omega) (by omega) (fun c => ?_) (fun c => absurd c (by omega))
        intro v1 e1
        rw [gl_x rfl] at e1
        subst e1
        exact hp
      · show wB_X10_leave_35 post _ (nI d) (nI kept) (nI k) _
        unfold wB_X10_leave_35
        rw [show gl x0 m 24 0 34 = nI k from hR.2.1]
        refine le2 (by omega) (by omega) (fun c => ?_) (fun c => absurd c (by omega))
        intro v1 e1
        rw [gl_m rfl, pk_sub hkk] at e1
        subst e1
        intro v2 e2
        rw [gl_m rfl] at e2
        subst e2
        have z := M_lv103 (x0 := x0) (d := d) (post := post) (P := P) (m := up3 (up3 m 24 0 7 (m 24 0 7 + nI (k - kept))) 24 0 34 (nI kept)) h3 h8 (by omega) (by rw [← gh_end]; exact hp) P 0 FU (by omega) (fu P (by omega))
        rw [clr_0] at z
        exact z
    · have hk : k < L := by omega
      obtain ⟨t, g, p, b, q1, q2, q3, q4, q5, q6, q7, q8⟩ := iR k hk
      obtain ⟨r1, r2, r3, r4, r5, r6⟩ := hR.2.2.2 k (by omega)
      have q5 : m 65 0 k = nI t := q5
      have q6 : m 66 0 k = nI g := q6
      have q7 : m 67 0 k = nI p := q7
      have q8 : m 68 0 k = nI b := q8
      have x5 : x 8 0 k = nI t := r2.trans q5
      have x6 : x 7 0 k = nI g := r1.trans q6
      have x7 : x 9 0 k = nI p := r3.trans q7
      have x8 : x 10 0 k = nI b := r4.trans q8
      by_cases s : t = d ∨ g = d
      · have h' : RQ (al kept (k + 1)) N K P L C (up3 (ds t (4 * p + b) x) 1 0 7 (x 1 0 7 + 1)) (gh P d (k + 1 - kept) m) := by
          refine ⟨⟨hW, ⟨hC.1, hC.2.1, hC.2.2.1, hC.2.2.2.1, ?_⟩, hM, hS.cong (fun e => ds_S e), hH, hV, GN_take hG hk hL hkk (by omega) (by omega) (by omega) q5 q7 q8, hT, hLt, hR⟩, hz, iC, iR, iF, iH, iS, iO, iD, iN, iG, iM⟩
          show x 1 0 7 + 1 = m 24 0 7 + nI (k + 1 - kept)
          rw [show k + 1 - kept = (k - kept) + 1 by omega, ← nI_1, ← Int32.add_assoc]
          congr 1
          exact hC.2.2.2.2
        obtain ⟨kept', x', m', ha, hb, hc⟩ := leave_loop hd0 (n - 1) (k + 1) kept f1 f2 _ m (by omega) (by omega) (by omega) (by omega) h' (hD.skip hk hkk) (fun j a b => hE j (by omega) b)
        refine ⟨kept', x', m', ha, fun m0 post hp => ?_, fun x0 post hp => ?_⟩
        · show wB_X2_loseParcelsOf_4 post _ (nI d) (nI kept) (nI k) _
          have lose : wB_X2_loseParcelsOf_41 post (wL_X2_loseParcelsOf_4 post f1) (nI d) (nI kept) (nI k) (gl x m0) := by
            unfold wB_X2_loseParcelsOf_41
            refine ⟨k, by omega, rfl, t, by omega, x5, ?_⟩
            rw [show gl x m0 9 0 k = nI p from x7, show gl x m0 10 0 k = nI b from x8, nI_1]
            refine S_noMore (by omega) (by omega) ?_
            intro v1 e1
            rw [gl_x rfl] at e1
            subst e1
            exact hb m0 post hp
          unfold wB_X2_loseParcelsOf_4
          rw [show gl x m0 6 0 6 = nI L from hR.1]
          refine le2 (by omega) (by omega) (fun c => absurd c (by omega)) (fun c => ⟨k, by omega, rfl, fun _ => lose, fun c2 => ⟨fun c3 => ?_, fun _ => lose⟩⟩)
          rcases s with s | s
          · exact absurd (x5.trans (by rw [s])) c2
          · exact absurd (x6.trans (by rw [s])) c3
        · show wB_X10_leave_35 post _ (nI d) (nI kept) (nI k) _
          unfold wB_X10_leave_35
          rw [show gl x0 m 24 0 34 = nI L from hR.2.1, nI_1]
          refine le2 (by omega) (by omega) (fun c => absurd c (by omega)) (fun c => ⟨k, by omega, rfl, fun _ => hc x0 post hp, fun c2 => ⟨fun c3 => ?_, fun _ => hc x0 post hp⟩⟩)
          rcases s with s | s
          · exact absurd (q5.trans (by rw [s])) c2
          · exact absurd (q6.trans (by rw [s])) c3
      · have s1 : ¬ nI t = nI d := fun z => s (Or.inl (nI_inj (by omega) (by omega) z))
        have s2 : ¬ nI g = nI d := fun z => s (Or.inr (nI_inj (by omega) (by omega) z))
        have h' := RQ_move h hk hkk
        rw [gh_mv, show k - kept = k + 1 - (kept + 1) by omega] at h'
        obtain ⟨tt, u1, u2, u3, u4⟩ := hE k (Nat.le_refl _) hk
        obtain ⟨kept', x', m', ha, hb, hc⟩ := leave_loop hd0 (n - 1) (k + 1) (kept + 1) f1 f2 _ _ (by omega) (by omega) (by omega) (by omega) h' (hD.move hk hkk u3 u1 u2 u4) (fun j a b => by
          have a6 : mvM kept k m 70 0 j = if j = kept then m 70 0 k else m 70 0 j := mvM_at.2.2.2.2.2.1
          have a7 : mvM kept k m 71 0 j = if j = kept then m 71 0 k else m 71 0 j := mvM_at.2.2.2.2.2.2
          rw [a6, a7, if_neg (by omega), if_neg (by omega)]
          exact hE j (by omega) b)
        refine ⟨kept', x', m', ha, fun m0 post hp => ?_, fun x0 post hp => ?_⟩
        · show wB_X2_loseParcelsOf_4 post _ (nI d) (nI kept) (nI k) _
          unfold wB_X2_loseParcelsOf_4
          rw [show gl x m0 6 0 6 = nI L from hR.1]
          refine le2 (by omega) (by omega) (fun c => absurd c (by omega)) (fun c => ⟨k, by omega, rfl, fun c2 => absurd (x5.symm.trans c2) s1, fun _ => ⟨fun _ => ?_, fun c2 => absurd (x6.symm.trans c2) s2⟩⟩)
          refine S_move (by omega) (by omega) ?_
          rw [nI_1, nI_1]
          exact hb m0 post hp
        · show wB_X10_leave_35 post _ (nI d) (nI kept) (nI k) _
          unfold wB_X10_leave_35
          rw [show gl x0 m 24 0 34 = nI L from hR.2.1]
          refine le2 (by omega) (by omega) (fun c => absurd c (by omega)) (fun c => ⟨k, by omega, rfl, fun c2 => absurd (q5.symm.trans c2) s1, fun _ => ⟨fun _ => ?_, fun c2 => absurd (q6.symm.trans c2) s2⟩⟩)
          refine M_keep (by omega) (by omega) (Or.inl u4) ?_
          rw [nI_1, nI_1]
          exact hc x0 post hp
theorem A_leave {Q : Int32 → Int32 → St3 → Prop} {a : Int32} (h : RX N K P L C x m) (hq : ∀ (r : Int32) (N' K' P' L' C' : Nat) (x' m' : St3), RX N' K' P' L' C' x' m' → C' ≤ C + 50 → Q r r (gl x' m')) : wp_X9_leave a (gl x m) (fun r1 v1 => wp_X10_leave a v1 (fun r2 v2 => Q r1 r2 v2)) := by
  obtain ⟨⟨hW, hC, hM, hS, hH, hV, hG, hT, hLt, hR⟩, hz, iC, iR, iF, iH, iS, iO, iD, iN, iG, iM, iU⟩ := id h
  obtain ⟨h1, h2, h3, h4, h5, h6, h7, h8⟩ := id hz
  have hL := hR.2.2.1
  have hq0 : ∀ r, Q r r (gl x (th m)) := fun r => hq r N K P L C x (th m) h (by omega)
  unfold wp_X9_leave
  refine S_isMember (v := gl x m) (m := m) hC h8 (bI_if (fun c => ?_) (fun c => ?_))
  · unfold wp_X10_leave
    intro v1 e
    rw [th_gl] at e
    subst e
    refine M_isPeer (v := gl x (th m)) hz ?_
    rw [c]
    exact ⟨fun _ => hq0 _, fun q => absurd rfl q⟩
  · obtain ⟨d, hd0, rfl⟩ := (ib_t (by omega)).mp c
    refine S_isIn hC.2.1 (by omega) (bI_fi (fun c2 => ?_) (fun c2 => ?_))
    · have c3 : hr m d = true := by simpa [hd0] using c2
      have c4 : ¬ m 43 0 d = 0 := by
        unfold hr at c3
        rw [decide_eq_true_eq] at c3
        exact c3
      have h0 : RQ (al 0 0) N K P L C (opX P d (up3 (up3 x 1 0 4 (x 1 0 4 &&& (((1 : Int32) <<< (nI d &&& 31)) ^^^ (-1)))) 16 d 7 0)) (gh P d (0 - 0) (up3 (th m) 43 0 d 0)) := by
        refine RQ_begin ⟨⟨hW, ⟨hC.1, ?_, hC.2.2.1, hC.2.2.2.1, ?_⟩, hM, hS, hH, hV, hG, ⟨fun e he => ⟨?_, ?_, ?_, ?_⟩, ?_⟩, hLt, hR⟩, hz, iC, iR, iF, iH, iS, fun e f he hf ho => ?_, iD, iN, iG, iM⟩
        · refine (hC.2.1.off (n := d) (by omega)).ext (fun e he => ?_)
          rw [show hr (gh P d (0 - 0) (up3 (th m) 43 0 d 0)) e = hr (up3 (th m) 43 0 d 0) e from rfl, hr_up]
          by_cases q : e = d
          · subst q; simp
          · rw [if_neg q]
            show (decide (e < P) && hr m e && !decide (e = d)) = (decide (e < P) && hr m e)
            simp [q]
        · show x 1 0 7 = m 24 0 7 + nI 0
          rw [show nI 0 = 0 from rfl, Int32.add_zero]
          exact hC.2.2.2.2
        · rw [show opX P d (up3 (up3 x 1 0 4 (x 1 0 4 &&& (((1 : Int32) <<< (nI d &&& 31)) ^^^ (-1)))) 16 d 7 0) 16 e 4 = x 16 e 4 from u_j rfl]
          exact (hT.1 e he).1
        · rw [show opX P d (up3 (up3 x 1 0 4 (x 1 0 4 &&& (((1 : Int32) <<< (nI d &&& 31)) ^^^ (-1)))) 16 d 7 0) 16 e 5 = x 16 e 5 from u_j rfl]
          exact (hT.1 e he).2.1
        · rw [show opX P d (up3 (up3 x 1 0 4 (x 1 0 4 &&& (((1 : Int32) <<< (nI d &&& 31)) ^^^ (-1)))) 16 d 7 0) 16 e 6 = x 16 e 6 from u_j rfl]
          exact (hT.1 e he).2.2.1
        · have t4 := (hT.1 e he).2.2.2
          have eo : ∀ b, b < 12 → op (gh P d (0 - 0) (up3 (th m) 43 0 d 0)) e b = (op m e b && !(decide (e = d ∧ b < P) || decide (b = d ∧ e < P))) := fun b hb => clr_op (m := up3 (th m) 43 0 d 0) he hb
          have tail : ∀ b, b < 32 → ∀ y, y = (op m e b && !(decide (e = d ∧ b < P) || decide (b = d ∧ e < P))) → (decide (b < P) && op (gh P d (0 - 0) (up3 (th m) 43 0 d 0)) e b && !bn m e b && !bn m b e) = (decide (b < P) && y && !bn m e b && !bn m b e) := by
            intro b hb y ey
            by_cases q : b < P
            · rw [eo b (by omega), ey]
            · simp [q]
          by_cases q : e < P
          · rw [show opX P d (up3 (up3 x 1 0 4 (x 1 0 4 &&& (((1 : Int32) <<< (nI d &&& 31)) ^^^ (-1)))) 16 d 7 0) 16 e 7 = (up3 x 16 d 7 0) 16 e 7 &&& (((1 : Int32) <<< (nI d &&& 31)) ^^^ (-1)) from if_pos ⟨rfl, rfl, q⟩]
            by_cases q2 : e = d
            · subst q2
              rw [up3_at]
              refine ((Msk.none).off (n := e) (by omega)).ext (fun b hb => ?_)
              refine Eq.trans ?_ (tail b hb _ rfl).symm
              by_cases q3 : b < P <;> simp [q3]
            · rw [show (up3 x 16 d 7 0) 16 e 7 = x 16 e 7 from if_neg (fun z => q2 z.2.1)]
              refine (t4.off (n := d) (by omega)).ext (fun b hb => ?_)
              refine Eq.trans ?_ (tail b hb _ rfl).symm
              by_cases q3 : b = d
              · simp [q3, q]
              · simp [q3, q2]
          · rw [show opX P d (up3 (up3 x 1 0 4 (x 1 0 4 &&& (((1 : Int32) <<< (nI d &&& 31)) ^^^ (-1)))) 16 d 7 0) 16 e 7 = (up3 x 16 d 7 0) 16 e 7 from if_neg (fun z => q z.2.2), show (up3 x 16 d 7 0) 16 e 7 = x 16 e 7 from if_neg (fun z => q (by omega))]
            refine t4.ext (fun b hb => ?_)
            refine Eq.trans ?_ (tail b hb _ rfl).symm
            simp [q, show ¬ e = d by omega]
        · refine ⟨fun e he => ?_, fun e he he2 => ?_⟩
          · rw [show opX P d (up3 (up3 x 1 0 4 (x 1 0 4 &&& (((1 : Int32) <<< (nI d &&& 31)) ^^^ (-1)))) 16 d 7 0) 16 e 8 = x 16 e 8 from u_j rfl, show opX P d (up3 (up3 x 1 0 4 (x 1 0 4 &&& (((1 : Int32) <<< (nI d &&& 31)) ^^^ (-1)))) 16 d 7 0) 16 e 9 = x 16 e 9 from u_j rfl]
            exact hT.2.1 e he
          · rw [show opX P d (up3 (up3 x 1 0 4 (x 1 0 4 &&& (((1 : Int32) <<< (nI d &&& 31)) ^^^ (-1)))) 16 d 7 0) 16 e 8 = x 16 e 8 from u_j rfl, show opX P d (up3 (up3 x 1 0 4 (x 1 0 4 &&& (((1 : Int32) <<< (nI d &&& 31)) ^^^ (-1)))) 16 d 7 0) 16 e 9 = x 16 e 9 from u_j rfl]
            exact hT.2.2 e he he2
        · have ho' : (op m e f && !(decide (e = d ∧ f < P) || decide (f = d ∧ e < P))) = true := by
            exact (clr_op (P := P) (d := d) (m := up3 (th m) 43 0 d 0) he hf).symm.trans ho
          simp only [Bool.and_eq_true, Bool.not_eq_true', Bool.or_eq_false_iff, decide_eq_false_iff_not] at ho'
          obtain ⟨o1, o2, o3, o4, o5⟩ := iO e f he hf ho'.1
          refine ⟨o1, ?_, ?_, o4, o5⟩
          · rw [show hr (gh P d (0 - 0) (up3 (th m) 43 0 d 0)) e = hr (up3 (th m) 43 0 d 0) e from rfl, hr_up, if_neg (fun z => ho'.2.1 ⟨z, o5⟩)]
            exact o2
          · rw [show hr (gh P d (0 - 0) (up3 (th m) 43 0 d 0)) f = hr (up3 (th m) 43 0 d 0) f from rfl, hr_up, if_neg (fun z => ho'.2.2 ⟨z, o4⟩)]
            exact o3
      have hE : ∀ j, 0 ≤ j → j < L → ∃ t, C < t ∧ t ≤ C + 2 ∧ m 70 0 j = nI t ∧ m 71 0 j = 0 := fun j _ hj => by
        obtain ⟨u1, t, u2, u3, u4⟩ := iU.1 j hj
        exact ⟨t, u2, u3, u4, u1⟩
      obtain ⟨kept', x', m', ha, hb, hc⟩ := leave_loop hd0 L 0 0 FU FU _ _ (by omega) (by omega) (fu L (by omega)) (fu L (by omega)) h0 ⟨fun j hj => absurd hj (by omega), fun j a b => by
        obtain ⟨t, u2, u3, u4, u1⟩ := hE j a b
        exact ⟨t, u4, Or.inr ⟨u2, u3, u1⟩⟩, by rw [ct_begin]; exact iU.2⟩ hE
      unfold wp_X2_letGo
      intro v1 e1
      rw [gl_x rfl] at e1
      subst e1
      refine ⟨d, by omega, rfl, ?_⟩
      intro v2 e2
      rw [gl_x rfl] at e2
      subst e2
      have fin := S_lg29 (m0 := m) (d := d) (P := P) (x := up3 (up3 x 1 0 4 (x 1 0 4 &&& (((1 : Int32) <<< (nI d &&& 31)) ^^^ (-1)))) 16 d 7 0) (post := fun v5 => wp_X10_leave (nI d) v5 (fun r2 v2 => Q 1 r2 v2)) hC.1 h8 ?_ P 0 FU (by omega) (fu P (by omega))
      · rw [opX_0] at fin
        exact fin
      · refine hb m _ ?_
        unfold wp_X10_leave
        intro v1 e
        rw [th_gl] at e
        subst e
        refine M_isPeer (v := gl _ (th m)) hz ?_
        rw [c]
        refine ⟨fun q => absurd q (by decide), fun _ => ⟨d, by omega, rfl, fun _ => ?_, fun q => absurd q c4⟩⟩
        intro v3 e3
        rw [gl_m rfl] at e3
        subst e3
        exact hc _ _ (hq 1 N K P kept' C x' m' ha (by omega))
    · have c3 : hr m d = false := by simpa [hd0] using c2
      have c4 : m 43 0 d = 0 := by
        unfold hr at c3
        rw [decide_eq_false_iff_not] at c3
        exact Classical.byContradiction c3
      unfold wp_X10_leave
      intro v1 e
      rw [th_gl] at e
      subst e
      refine M_isPeer (v := gl x (th m)) hz ?_
      rw [c]
      exact ⟨fun q => absurd q (by decide), fun _ => ⟨d, by omega, rfl, fun q => absurd c4 q, fun _ => hq0 _⟩⟩
end LEAVE
