/-! a piece is complete, or it fails -/
theorem up3_comm {v : St3} {k i j k' i' j' : Nat} {y y' : Int32} (h : Nat.beq k k' = false) : up3 (up3 v k i j y) k' i' j' y' = up3 (up3 v k' i' j' y') k i j y := by
  have hk : ¬ k = k' := fun z => by rw [z] at h; simp at h
  funext a b c
  simp only [up3]
  by_cases q : a = k ∧ b = i ∧ c = j
  · have : ¬ (a = k' ∧ b = i' ∧ c = j') := fun z => hk (q.1.symm.trans z.1)
    rw [if_neg this, if_pos q, if_pos q]
  · rw [if_neg q, if_neg q]
theorem GN.cong {a : Nat → Bool} {L : Nat} {v w m : St3} (h : GN a L v m) (e1 : ∀ d c, w 19 d c = v 19 d c) (e2 : ∀ d, w 15 d 5 = v 15 d 5) : GN a L w m :=
  ⟨fun d p b hd0 hp hb => by rw [e1]; exact h.1 d p b hd0 hp hb, fun d hd0 => by rw [e2]; exact h.2 d hd0⟩
section COME2
variable {N K P L C : Nat} {x m : St3} {a : Nat → Bool}
theorem comp_keep {d p : Nat} {y : Int32} (h : RQ a N K P L C x m) (hd0 : d < P) (hp : p < N) (c0 : hs m d p = false) (ha : ∀ b, b < K → hl m d p b = true) (hy : y = -1 ↔ dn N (up3 m 50 0 (24 * d + p) 1) d = false) : RQ a N K P L C (up3 (up3 x 15 d 3 (x 15 d 3 ||| ((1 : Int32) <<< (nI p &&& 31)))) 14 d 6 y) (up3 (up3 m 50 0 (24 * d + p) 1) 49 0 d y) := by
  obtain ⟨⟨hW, hC, hM, hS, hH, hV, hG, hT, hLt, hR⟩, hz, iC, iR, iF, iH, iS, iO, iD, iN, iG, iM⟩ := id h
  obtain ⟨h1, h2, h3, h4, h5, h6, h7, h8⟩ := id hz
  have ehs : ∀ e q, q < 24 → hs (up3 (up3 m 50 0 (24 * d + p) 1) 49 0 d y) e q = (decide (e = d ∧ q = p) || hs m e q) := fun e q hq => by
    unfold hs
    show decide (¬ (if 50 = 50 ∧ 0 = 0 ∧ 24 * e + q = 24 * d + p then (1 : Int32) else m 50 0 (24 * e + q)) = 0) = _
    by_cases s : e = d ∧ q = p
    · obtain ⟨rfl, rfl⟩ := s
      simp
    · rw [if_neg (by omega)]; simp [s]
  have x6 : ∀ e, (up3 (up3 x 15 d 3 (x 15 d 3 ||| ((1 : Int32) <<< (nI p &&& 31)))) 14 d 6 y) 14 e 6 = if e = d then y else x 14 e 6 := fun e => by simp [up3]
  have x3 : ∀ e, (up3 (up3 x 15 d 3 (x 15 d 3 ||| ((1 : Int32) <<< (nI p &&& 31)))) 14 d 6 y) 15 e 3 = if e = d then x 15 d 3 ||| ((1 : Int32) <<< (nI p &&& 31)) else x 15 e 3 := fun e => by simp [up3]
  have m9 : ∀ e, (up3 (up3 m 50 0 (24 * d + p) 1) 49 0 d y) 49 0 e = if e = d then y else m 49 0 e := fun e => by simp [up3]
  refine ⟨⟨hW, hC, ⟨fun e he => ?_, fun e he => ?_, fun e he he2 => ?_⟩, fun e he => ⟨?_, ?_⟩, hH, hV, hG.cong (fun e c => rfl) (fun e => show (up3 x 15 d 3 (x 15 d 3 ||| ((1 : Int32) <<< (nI p &&& 31)))) 15 e 5 = x 15 e 5 from u_j rfl), hT, hLt, hR⟩, hz, iC, iR, fun e q c he hq hc u1 u2 => ?_, fun e q c he hq hc u1 => ?_, iS, iO, fun e he => ?_, fun e he he2 => ?_, iG, iM⟩
  · obtain ⟨b1, b2, b3, b4, b5, b6, b7⟩ := hM.1 e he
    exact ⟨Eq.trans (u_j rfl) b1, Eq.trans (u_j rfl) b2, Eq.trans (u_j rfl) b3, Eq.trans (u_j rfl) b4, Eq.trans (u_j rfl) b5, Eq.trans (u_j rfl) b6, Eq.trans (u_j rfl) b7⟩
  · obtain ⟨b1, b2⟩ := hM.2.1 e he
    refine ⟨Eq.trans (u_j rfl) b1, ?_⟩
    rw [x6, m9]
    split
    · rfl
    · exact b2
  · obtain ⟨b1, b2⟩ := hM.2.2 e he he2
    refine ⟨Eq.trans (u_j rfl) b1, ?_⟩
    rw [x6, if_neg (by omega)]
    exact b2
  · rw [x3]
    by_cases q : e = d
    · subst q
      rw [if_pos rfl]
      refine ((hS e he).1.or1 (n := p) (by omega)).ext (fun q hq => ?_)
      by_cases w : q < N
      · rw [ehs e q (by omega)]
        simp [w, Bool.or_comm]
      · simp [w]; omega
    · rw [if_neg q]
      refine (hS e he).1.ext (fun r hr0 => ?_)
      by_cases w : r < N
      · rw [ehs e r (by omega)]
        simp [q]
      · simp [w]
  · rw [show (up3 (up3 x 15 d 3 (x 15 d 3 ||| ((1 : Int32) <<< (nI p &&& 31)))) 14 d 6 y) 15 e 4 = x 15 e 4 from Eq.trans (show _ = up3 x 15 d 3 (x 15 d 3 ||| ((1 : Int32) <<< (nI p &&& 31))) 15 e 4 from rfl) (u_j rfl)]
    exact (hS e he).2
  · rw [ehs e q (by omega)] at u2
    simp only [Bool.or_eq_false_iff] at u2
    exact iF e q c he hq hc u1 u2.2
  · rw [ehs e q (by omega)] at u1
    simp only [Bool.or_eq_true, decide_eq_true_eq] at u1
    rcases u1 with ⟨rfl, rfl⟩ | u1
    · exact ha c hc
    · exact iH e q c he hq hc u1
  · rw [m9]
    by_cases q : e = d
    · subst q
      rw [if_pos rfl]
      exact hy
    · rw [if_neg q]
      have : dn N (up3 (up3 m 50 0 (24 * d + p) 1) 49 0 d y) e = dn N m e := by
        unfold dn hm
        rw [ct_cong (q := hs m e) (fun r hr0 => by rw [ehs e r (by omega)]; simp [q])]
      rw [this]
      exact iD e he
  · obtain ⟨n1, n2, n3, n4⟩ := iN e he he2
    refine ⟨fun q hq => ⟨?_, (n1 q hq).2⟩, n2, n3, n4⟩
    rw [ehs e q hq, (n1 q hq).1]; simp; omega
theorem comp_ok {d p : Nat} (h : RQ a N K P L C x m) (hC31 : C < 2 ^ 31) (hd0 : d < P) (hp : p < N) (c0 : hs m d p = false) (ha : ∀ b, b < K → hl m d p b = true) : ∃ x' m', RQ a N K P L C x' m' ∧ SR m m' ∧ (∀ (m0 : St3) (post : St3 → Prop), post (gl x' m0) → wp_X0_complete d (nI p) (gl x m0) post) ∧ (∀ (x0 : St3) (post : St3 → Prop), post (gl x0 m') → ∃ n43, n43 < 288 ∧ (((24 : Int32) * nI d) + nI p) = nI n43 ∧ ∀ v46, v46 = up3 (gl x0 m) 50 0 n43 (1 : Int32) → wp_X10_isDone (nI d) v46 (fun r49 v48 => ((r49 = 0 → post v48) ∧ (¬ r49 = 0 → ∃ n50, n50 < 12 ∧ nI d = nI n50 ∧ ∀ v53, v53 = up3 v48 49 0 n50 (v48 24 0 5) → post v53)))) := by
  obtain ⟨⟨hW, hC, hM, hS, hH, hV, hG, hT, hLt, hR⟩, hz, iC, iR, iF, iH, iS, iO, iD, iN, iG, iM⟩ := id h
  obtain ⟨h1, h2, h3, h4, h5, h6, h7, h8⟩ := id hz
  have ehs : ∀ q, q < 24 → hs (up3 m 50 0 (24 * d + p) 1) d q = (decide (q = p) || hs m d q) := fun q hq => by
    unfold hs
    show decide (¬ (if 50 = 50 ∧ 0 = 0 ∧ 24 * d + q = 24 * d + p then (1 : Int32) else m 50 0 (24 * d + q)) = 0) = _
    by_cases s : q = p
    · subst s
      simp
    · rw [if_neg (by omega)]; simp [s]
  have nd : dn N m d = false := by
    unfold dn
    rw [decide_eq_false_iff_not]
    intro q
    have := ct_all.mp q p hp
    rw [c0] at this; cases this
  have old : m 49 0 d = -1 := (iD d hd0).mpr nd
  have oldx : x 14 d 6 = -1 := ((hM.2.1 d hd0).2).trans old
  have hmask : Msk (x 15 d 3 ||| ((1 : Int32) <<< (nI p &&& 31))) (fun q => decide (q < N) && hs (up3 m 50 0 (24 * d + p) 1) d q) := by
    refine ((hS d (by omega)).1.or1 (n := p) (by omega)).ext (fun q hq => ?_)
    by_cases w : q < N
    · rw [ehs q (by omega)]
      simp [w, Bool.or_comm]
    · simp [w]; omega
  have full : Msk (((1 : Int32) <<< (nI N &&& 31)) - 1) (fun q => decide (q < N)) := fun q hq => b_low N (by omega) q hq
  have iff : (x 15 d 3 ||| ((1 : Int32) <<< (nI p &&& 31))) = (((1 : Int32) <<< (nI N &&& 31)) - 1) ↔ dn N (up3 m 50 0 (24 * d + p) 1) d = true := by
    unfold dn
    rw [decide_eq_true_eq]
    constructor
    · intro e
      refine ct_all.mpr (fun q hq => ?_)
      have w1 := hmask q (by omega)
      rw [e, full q (by omega)] at w1
      simp [hq] at w1
      exact w1
    · intro e
      refine Msk.eq hmask (full.ext (fun q hq => ?_))
      by_cases w : q < N
      · rw [show hs (up3 m 50 0 (24 * d + p) 1) d q = true from ct_all.mp e q w]
        simp
      · simp [w]
  have sxa : ∀ m0, gl (up3 x 15 d 3 (x 15 d 3 ||| ((1 : Int32) <<< (nI p &&& 31)))) m0 15 d 3 = x 15 d 3 ||| ((1 : Int32) <<< (nI p &&& 31)) := fun m0 => by
    show up3 x 15 d 3 _ 15 d 3 = _
    exact up3_at _ _ _ _ _
  cases hdn : dn N (up3 m 50 0 (24 * d + p) 1) d with
  | false =>
    have k := comp_keep (y := -1) h hd0 hp c0 ha (by rw [hdn]; simp)
    rw [show up3 (up3 x 15 d 3 (x 15 d 3 ||| ((1 : Int32) <<< (nI p &&& 31)))) 14 d 6 (-1) = up3 x 15 d 3 (x 15 d 3 ||| ((1 : Int32) <<< (nI p &&& 31))) from by
      rw [← oldx]; exact up3_self (up3 x 15 d 3 (x 15 d 3 ||| ((1 : Int32) <<< (nI p &&& 31)))) 14 d 6] at k
    rw [show up3 (up3 m 50 0 (24 * d + p) 1) 49 0 d (-1) = up3 m 50 0 (24 * d + p) 1 from by
      rw [← old]; exact up3_self (up3 m 50 0 (24 * d + p) 1) 49 0 d] at k
    refine ⟨_, _, k, ⟨fun j => ⟨rfl, rfl, rfl, rfl, rfl, rfl, rfl⟩, rfl⟩, fun m0 post hp' => ?_, fun x0 post hp' => ?_⟩
    · unfold wp_X0_complete wp_X8_allPieces
      intro v1 e1
      rw [gl_x rfl, show gl x m0 15 d 3 = x 15 d 3 from rfl] at e1
      subst e1
      rw [sxa m0, show gl (up3 x 15 d 3 (x 15 d 3 ||| ((1 : Int32) <<< (nI p &&& 31)))) m0 5 0 0 = nI N from hW.1]
      refine ⟨fun _ => hp', fun q => ?_⟩
      rw [iff, hdn] at q
      cases q
    · rw [i24]
      refine ⟨_, by omega, rfl, ?_⟩
      intro v1 e1
      rw [gl_m rfl] at e1
      subst e1
      refine M_isDone (N := N) (K := K) (P := P) (v := gl x0 (up3 m 50 0 (24 * d + p) 1)) (by omega) hz ?_
      rw [show dn N (gl x0 (up3 m 50 0 (24 * d + p) 1)) d = false from hdn]
      exact ⟨fun _ => hp', fun q => absurd rfl q⟩
  | true =>
    have k := comp_keep (y := nI C) h hd0 hp c0 ha (by rw [hdn]; simp; exact nI_m1 hC31)
    refine ⟨_, _, k, ⟨fun j => ⟨rfl, rfl, rfl, rfl, rfl, rfl, rfl⟩, rfl⟩, fun m0 post hp' => ?_, fun x0 post hp' => ?_⟩
    · unfold wp_X0_complete wp_X8_allPieces
      intro v1 e1
      rw [gl_x rfl, show gl x m0 15 d 3 = x 15 d 3 from rfl] at e1
      subst e1
      rw [sxa m0, show gl (up3 x 15 d 3 (x 15 d 3 ||| ((1 : Int32) <<< (nI p &&& 31)))) m0 5 0 0 = nI N from hW.1]
      refine ⟨fun q => absurd (iff.mpr hdn) q, fun _ => ?_⟩
      intro v2 e2
      rw [gl_x rfl] at e2
      subst e2
      rw [show gl (up3 x 15 d 3 (x 15 d 3 ||| ((1 : Int32) <<< (nI p &&& 31)))) m0 1 0 5 = nI C from hC.2.2.1.trans iC]
      exact hp'
    · rw [i24]
      refine ⟨_, by omega, rfl, ?_⟩
      intro v1 e1
      rw [gl_m rfl] at e1
      subst e1
      refine M_isDone (N := N) (K := K) (P := P) (v := gl x0 (up3 m 50 0 (24 * d + p) 1)) (by omega) hz ?_
      rw [show dn N (gl x0 (up3 m 50 0 (24 * d + p) 1)) d = true from hdn]
      refine ⟨fun q => absurd q (by decide), fun _ => ⟨d, by omega, rfl, ?_⟩⟩
      intro v2 e2
      rw [gl_m rfl, show gl x0 (up3 m 50 0 (24 * d + p) 1) 24 0 5 = nI C from iC] at e2
      subst e2
      exact hp'
/-- a piece is dropped -/
def drX (i d p : Nat) (x : St3) : St3 := fun k e j => if k = 17 ∧ e = d ∧ 4 * p ≤ j ∧ j < 4 * p + i then -1 else x k e j
def drM (i d p : Nat) (m : St3) : St3 := fun k e j => if k = 52 ∧ e = 0 ∧ 96 * d + 4 * p ≤ j ∧ j < 96 * d + 4 * p + i then 0 else m k e j
theorem drX_s (i d p : Nat) (x : St3) : up3 (drX i d p x) 17 d (4 * p + i) (-1) = drX (i + 1) d p x := by
  funext a b c
  simp only [up3, drX]
  by_cases q : a = 17 ∧ b = d ∧ c = 4 * p + i
  · rw [if_pos q, if_pos (by omega)]
  · rw [if_neg q]
    by_cases w : a = 17 ∧ b = d ∧ 4 * p ≤ c ∧ c < 4 * p + i
    · rw [if_pos w, if_pos (by omega)]
    · rw [if_neg w, if_neg (by omega)]
theorem drM_s (i d p : Nat) (m : St3) : up3 (drM i d p m) 52 0 (96 * d + 4 * p + i) 0 = drM (i + 1) d p m := by
  funext a b c
  simp only [up3, drM]
  by_cases q : a = 52 ∧ b = 0 ∧ c = 96 * d + 4 * p + i
  · rw [if_pos q, if_pos (by omega)]
  · rw [if_neg q]
    by_cases w : a = 52 ∧ b = 0 ∧ 96 * d + 4 * p ≤ c ∧ c < 96 * d + 4 * p + i
    · rw [if_pos w, if_pos (by omega)]
    · rw [if_neg w, if_neg (by omega)]
theorem drX_0 (d p : Nat) (x : St3) : drX 0 d p x = x := by
  funext a b c
  unfold drX
  rw [if_neg (by omega)]
theorem drM_0 (d p : Nat) (x : St3) : drM 0 d p x = x := by
  funext a b c
  unfold drM
  rw [if_neg (by omega)]
theorem S_drop_L {m0 : St3} {d p : Nat} {post : St3 → Prop} (hp : p < 24) (h : post (gl (drX 4 d p x) m0)) : ∀ (n i f : Nat), i + n = 4 → n < f → wL_X6_drop_2 post f d (nI p) (nI i) (gl (drX i d p x) m0)
  | n, i, 0, _, hf => absurd hf (by omega)
  | n, i, f + 1, e, hf => by
    show wB_X6_drop_2 post _ d (nI p) (nI i) _
    unfold wB_X6_drop_2 wp_X9_place
    rw [i4, nI_1, show (4 : Int32) = nI 4 from rfl]
    refine le2 (by omega) (by omega) (fun c => ?_) (fun c => ⟨_, by omega, rfl, ?_⟩)
    · rw [show i = 4 by omega]; exact h
    · intro v1 e1
      rw [gl_x rfl, drX_s] at e1
      subst e1
      exact S_drop_L hp h (n - 1) (i + 1) f (by omega) (by omega)
theorem S_drop {m0 : St3} {d p : Nat} {post : St3 → Prop} (hp : p < 24) (h : post (gl (drX 4 d p x) m0)) : wp_X6_drop d (nI p) (gl x m0) post := by
  have := S_drop_L hp h 4 0 FU (by omega) (fu 4 (by omega))
  rw [drX_0] at this
  exact this
theorem M_drop_L {x0 : St3} {d p : Nat} {post : St3 → Prop} (hd0 : d < 12) (hp : p < 24) (hK : m 24 0 2 = nI K) (hK2 : K ≤ 4) (h : post (gl x0 (drM K d p m))) : ∀ (n i f : Nat), i + n = K → n < f → wL_X10_dropPiece_2 post f (nI d) (nI p) (nI i) (gl x0 (drM i d p m))
  | n, i, 0, _, hf => absurd hf (by omega)
  | n, i, f + 1, e, hf => by
    show wB_X10_dropPiece_2 post _ (nI d) (nI p) (nI i) _
    unfold wB_X10_dropPiece_2
    rw [show gl x0 (drM i d p m) 24 0 2 = nI K from hK, nI_1]
    refine le2 (by omega) (by omega) (fun c => ?_) (fun c => M_cell ⟨_, by omega, rfl, ?_⟩)
    · rw [show i = K by omega]; exact h
    · intro v1 e1
      rw [gl_m rfl, drM_s] at e1
      subst e1
      exact M_drop_L hd0 hp hK hK2 h (n - 1) (i + 1) f (by omega) (by omega)
theorem M_drop {x0 : St3} {d p : Nat} {post : St3 → Prop} (hd0 : d < 12) (hp : p < 24) (hK : m 24 0 2 = nI K) (hK2 : K ≤ 4) (h : post (gl x0 (drM K d p m))) : wp_X10_dropPiece (nI d) (nI p) (gl x0 m) post := by
  have := M_drop_L hd0 hp hK hK2 h K 0 FU (by omega) (fu K (by omega))
  rw [drM_0] at this
  exact this
theorem RQ_drop {d p : Nat} (h : RQ a N K P L C x m) (hd0 : d < P) (hp : p < N) (c0 : hs m d p = false) : RQ a N K P L C (drX 4 d p x) (drM K d p m) := by
  obtain ⟨⟨hW, hC, hM, hS, hH, hV, hG, hT, hLt, hR⟩, hz, iC, iR, iF, iH, iS, iO, iD, iN, iG, iM⟩ := id h
  obtain ⟨h1, h2, h3, h4, h5, h6, h7, h8⟩ := id hz
  have ehl : ∀ e q c, q < 24 → c < 4 → hl (drM K d p m) e q c = (hl m e q c && !decide (e = d ∧ q = p ∧ c < K)) := fun e q c hq hc => by
    unfold hl
    show decide (¬ (if 52 = 52 ∧ 0 = 0 ∧ 96 * d + 4 * p ≤ 96 * e + 4 * q + c ∧ 96 * e + 4 * q + c < 96 * d + 4 * p + K then (0 : Int32) else m 52 0 (96 * e + 4 * q + c)) = 0) = _
    by_cases s : e = d ∧ q = p ∧ c < K
    · rw [if_pos (by omega)]
      simp [s]
    · rw [if_neg (by omega)]; simp [s]
  refine ⟨⟨hW, hC, hM, hS, fun e q c he hq hc => ?_, hV, hG, hT, hLt, hR⟩, hz, iC, iR, fun e q c he hq hc u1 u2 => ?_, fun e q c he hq hc u1 => ?_, iS, iO, iD, fun e he he2 => ?_, iG, iM⟩
  · rw [ehl e q c hq hc]
    show (if 17 = 17 ∧ e = d ∧ 4 * p ≤ 4 * q + c ∧ 4 * q + c < 4 * p + 4 then (-1 : Int32) else x 17 e (4 * q + c)) = if _ then fr m e q c else -1
    by_cases s : e = d ∧ q = p
    · rw [if_pos (by omega)]
      by_cases w : c < K
      · rw [if_neg (by simp [s, w])]
      · rw [if_neg (fun z => w z.2.1)]
    · rw [if_neg (by omega), hH e q c he hq hc]
      have : ¬ (e = d ∧ q = p ∧ c < K) := fun z => s ⟨z.1, z.2.1⟩
      simp [this]
  · rw [ehl e q c (by omega) (by omega)] at u1
    simp only [Bool.and_eq_true] at u1
    exact iF e q c he hq hc u1.1 u2
  · have u1 : hs m e q = true := u1
    rw [ehl e q c (by omega) (by omega), iH e q c he hq hc u1]
    have : ¬ (e = d ∧ q = p ∧ c < K) := fun z => by
      rw [z.1, z.2.1, c0] at u1; cases u1
    simp [this]
  · obtain ⟨n1, n2, n3, n4⟩ := iN e he he2
    refine ⟨n1, fun q c hq hc => ?_, n3, n4⟩
    rw [ehl e q c hq hc, n2 q c hq hc]; rfl
theorem RQ_mark {d p : Nat} (h : RQ a N K P L C x m) (hd0 : d < P) (hp : p < N) : RQ a N K P L C (up3 x 15 d 4 (x 15 d 4 ||| ((1 : Int32) <<< (nI p &&& 31)))) (up3 m 51 0 (24 * d + p) 1) := by
  obtain ⟨⟨hW, hC, hM, hS, hH, hV, hG, hT, hLt, hR⟩, hz, iC, iR, iF, iH, iS, iO, iD, iN, iG, iM⟩ := id h
  obtain ⟨h1, h2, h3, h4, h5, h6, h7, h8⟩ := id hz
  have emk : ∀ e q, q < 24 → mk (up3 m 51 0 (24 * d + p) 1) e q = (decide (e = d ∧ q = p) || mk m e q) := fun e q hq => by
    unfold mk
    show decide (¬ (if 51 = 51 ∧ 0 = 0 ∧ 24 * e + q = 24 * d + p then (1 : Int32) else m 51 0 (24 * e + q)) = 0) = _
    by_cases s : e = d ∧ q = p
    · obtain ⟨rfl, rfl⟩ := s
      simp
    · rw [if_neg (by omega)]; simp [s]
  refine ⟨⟨hW, hC, hM, fun e he => ⟨?_, ?_⟩, hH, hV, hG.cong (fun e c => rfl) (fun e => u_j rfl), hT, hLt, hR⟩, hz, iC, iR, iF, iH, iS, iO, iD, fun e he he2 => ?_, iG, iM⟩
  · rw [show up3 x 15 d 4 (x 15 d 4 ||| ((1 : Int32) <<< (nI p &&& 31))) 15 e 3 = x 15 e 3 from u_j rfl]
    exact (hS e he).1
  · by_cases q : e = d
    · subst q
      rw [up3_at]
      refine ((hS e he).2.or1 (n := p) (by omega)).ext (fun q hq => ?_)
      by_cases w : q < N
      · rw [emk e q (by omega)]
        simp [w, Bool.or_comm]
      · simp [w]; omega
    · rw [show up3 x 15 d 4 (x 15 d 4 ||| ((1 : Int32) <<< (nI p &&& 31))) 15 e 4 = x 15 e 4 from if_neg (fun z => q z.2.1)]
      refine (hS e he).2.ext (fun r hr0 => ?_)
      by_cases w : r < N
      · rw [emk e r (by omega)]
        simp [q]
      · simp [w]
  · obtain ⟨n1, n2, n3, n4⟩ := iN e he he2
    refine ⟨fun q hq => ⟨(n1 q hq).1, ?_⟩, n2, n3, n4⟩
    rw [emk e q hq, (n1 q hq).2]; simp; omega
end COME2
