/-! a piece fails; one block is taken; all that is due -/
theorem Msk.ex (f : Nat → Bool) : ∃ y, Msk y f := by
  have : ∀ n, n ≤ 32 → ∃ y, Msk y (fun i => decide (i < n) && f i) := by
    intro n
    induction n with
    | zero => exact fun _ => ⟨0, Msk.none.ext (fun i _ => by simp)⟩
    | succ n ih =>
      intro hn
      obtain ⟨y, hy⟩ := ih (by omega)
      cases hf : f n with
      | false =>
        refine ⟨y, hy.ext (fun i _ => ?_)⟩
        by_cases q : i = n
        · subst q; simp [hf]
        · rw [show decide (i < n + 1) = decide (i < n) by rw [decide_eq_decide]; omega]
      | true =>
        refine ⟨_, (hy.or1 (n := n) (by omega)).ext (fun i _ => ?_)⟩
        by_cases q : i = n
        · subst q; simp [hf]
        · rw [show decide (i < n + 1) = decide (i < n) by rw [decide_eq_decide]; omega]; simp [q]
  obtain ⟨y, hy⟩ := this 32 (Nat.le_refl _)
  exact ⟨y, hy.ext (fun i hi => by simp [hi])⟩
section COME3
variable {N K P L C : Nat} {x m : St3} {a : Nat → Bool}
theorem RQ_failed {d : Nat} (h : RQ a N K P L C x m) (hd0 : d < P) : RQ a N K P L C (up3 x 14 d 10 (x 14 d 10 + 1)) (up3 (up3 m 48 0 d (m 48 0 d + 1)) 24 0 8 (m 24 0 8 + 1)) := by
  obtain ⟨⟨hW, hC, hM, hS, hH, hV, hG, hT, hLt, hR⟩, hz, iC, iR, iF, iH, iS, iO, iD, iN, iG, iM⟩ := id h
  have xe : ∀ e, up3 x 14 d 10 (x 14 d 10 + 1) 14 e 10 = if e = d then x 14 d 10 + 1 else x 14 e 10 := fun e => by simp [up3]
  have me : ∀ e, (up3 (up3 m 48 0 d (m 48 0 d + 1)) 24 0 8 (m 24 0 8 + 1)) 48 0 e = if e = d then m 48 0 e + 1 else m 48 0 e := fun e => by
    by_cases q : e = d <;> simp [up3, q]
  refine ⟨⟨hW, hC, ⟨fun e he => ?_, fun e he => ?_, fun e he he2 => ?_⟩, hS, hH, hV, hG, hT, hLt, hR⟩, hz, iC, iR, iF, iH, iS, iO, iD, fun e he he2 => ?_, iG, ?_, iM.2⟩
  · obtain ⟨b1, b2, b3, b4, b5, b6, b7⟩ := hM.1 e he
    refine ⟨Eq.trans (u_j rfl) b1, Eq.trans (u_j rfl) b2, Eq.trans (u_j rfl) b3, Eq.trans (u_j rfl) b4, Eq.trans (u_j rfl) b5, Eq.trans (u_j rfl) b6, ?_⟩
    rw [xe, me]
    by_cases q : e = d
    · subst q; rw [if_pos rfl, if_pos rfl, b7]
    · rw [if_neg q, if_neg q, b7]
  · obtain ⟨b1, b2⟩ := hM.2.1 e he
    exact ⟨Eq.trans (u_j rfl) b1, Eq.trans (u_j rfl) b2⟩
  · obtain ⟨b1, b2⟩ := hM.2.2 e he he2
    exact ⟨Eq.trans (u_j rfl) b1, Eq.trans (u_j rfl) b2⟩
  · obtain ⟨n1, n2, n3, n4, n5, n6⟩ := iN e he he2
    refine ⟨n1, n2, n3, n4, ?_, n6⟩
    rw [me, if_neg (by omega)]; exact n5
  · show m 24 0 8 + 1 = _
    rw [si_cong (g := fun e => if e = d then m 48 0 e + 1 else m 48 0 e) (fun k _ => me k), iM.1, si_up (f := fun e => m 48 0 e) hd0]
theorem RQ_doubt {d o : Nat} (h : RQ a N K P L C x m) (hd0 : d < 12) (ho : o < 12) : RQ a N K P L C (up3 x 23 d o (x 23 d o + 1)) (up3 m 58 0 (12 * d + o) (m 58 0 (12 * d + o) + 1)) := by
  obtain ⟨⟨hW, hC, hM, hS, hH, hV, hG, hT, hLt, hR⟩, hz, iC, iR, iF, iH, iS, iO, iD, iN, iG, iM⟩ := id h
  refine ⟨⟨hW, hC, hM, hS, hH, hV, hG, hT, fun e f he hf => ?_, hR⟩, hz, iC, iR, iF, iH, iS, iO, iD, iN, iG, iM⟩
  obtain ⟨l1, l2, l3, l4⟩ := hLt e f he hf
  refine ⟨l1, l2, l3, ?_⟩
  show (if 23 = 23 ∧ e = d ∧ f = o then x 23 d o + 1 else x 23 e f) = if 58 = 58 ∧ 0 = 0 ∧ 12 * e + f = 12 * d + o then m 58 0 (12 * d + o) + 1 else m 58 0 (12 * e + f)
  by_cases q : e = d ∧ f = o
  · obtain ⟨rfl, rfl⟩ := q
    rw [if_pos ⟨rfl, rfl, rfl⟩, if_pos ⟨rfl, rfl, rfl⟩, l4]
  · rw [if_neg (fun z => q z.2), if_neg (by omega), l4]
def bnX (d o : Nat) (x : St3) : St3 := up3 (up3 (up3 (up3 x 16 d 5 (x 16 d 5 ||| ((1 : Int32) <<< (nI o &&& 31)))) 16 o 6 (x 16 o 6 ||| ((1 : Int32) <<< (nI d &&& 31)))) 16 d 7 (x 16 d 7 &&& (((1 : Int32) <<< (nI o &&& 31)) ^^^ (-1)))) 16 o 7 ((if o = d then x 16 d 7 &&& (((1 : Int32) <<< (nI o &&& 31)) ^^^ (-1)) else x 16 o 7) &&& (((1 : Int32) <<< (nI d &&& 31)) ^^^ (-1)))
theorem S_ban {m0 : St3} {d o : Nat} {post : St3 → Prop} (hd0 : d < 12) (ho : o < 12) (h : post (gl (bnX d o x) m0)) : wp_X0_ban (nI d) (nI o) (gl x m0) post := by
  unfold wp_X0_ban
  refine ⟨d, hd0, rfl, o, ho, rfl, ?_⟩
  intro v1 e1; rw [gl_x rfl, show gl x m0 16 d 5 = x 16 d 5 from rfl] at e1; subst e1
  intro v2 e2; rw [gl_x rfl, show gl (up3 x 16 d 5 (x 16 d 5 ||| ((1 : Int32) <<< (nI o &&& 31)))) m0 16 o 6 = x 16 o 6 from u_j (v := x) rfl] at e2; subst e2
  intro v3 e3
  rw [gl_x rfl, show gl (up3 (up3 x 16 d 5 (x 16 d 5 ||| ((1 : Int32) <<< (nI o &&& 31)))) 16 o 6 (x 16 o 6 ||| ((1 : Int32) <<< (nI d &&& 31)))) m0 16 d 7 = x 16 d 7 from Eq.trans (u_j (v := up3 x 16 d 5 (x 16 d 5 ||| ((1 : Int32) <<< (nI o &&& 31)))) rfl) (u_j (v := x) rfl)] at e3
  subst e3
  intro v4 e4
  rw [gl_x rfl] at e4
  subst e4
  have e : gl (up3 (up3 (up3 x 16 d 5 (x 16 d 5 ||| ((1 : Int32) <<< (nI o &&& 31)))) 16 o 6 (x 16 o 6 ||| ((1 : Int32) <<< (nI d &&& 31)))) 16 d 7 (x 16 d 7 &&& (((1 : Int32) <<< (nI o &&& 31)) ^^^ (-1)))) m0 16 o 7 = if o = d then x 16 d 7 &&& (((1 : Int32) <<< (nI o &&& 31)) ^^^ (-1)) else x 16 o 7 := by
    show (up3 (up3 (up3 x 16 d 5 (x 16 d 5 ||| ((1 : Int32) <<< (nI o &&& 31)))) 16 o 6 (x 16 o 6 ||| ((1 : Int32) <<< (nI d &&& 31)))) 16 d 7 (x 16 d 7 &&& (((1 : Int32) <<< (nI o &&& 31)) ^^^ (-1)))) 16 o 7 = _
    by_cases q : o = d <;> simp [up3, q]
  rw [e]
  exact h
theorem bnX_16 {d o e : Nat} : bnX d o x 16 e 4 = x 16 e 4 ∧ bnX d o x 16 e 5 = (if e = d then x 16 d 5 ||| ((1 : Int32) <<< (nI o &&& 31)) else x 16 e 5) ∧ bnX d o x 16 e 6 = (if e = o then x 16 o 6 ||| ((1 : Int32) <<< (nI d &&& 31)) else x 16 e 6) ∧ bnX d o x 16 e 7 = (if e = o then (if o = d then x 16 d 7 &&& (((1 : Int32) <<< (nI o &&& 31)) ^^^ (-1)) else x 16 o 7) &&& (((1 : Int32) <<< (nI d &&& 31)) ^^^ (-1)) else if e = d then x 16 d 7 &&& (((1 : Int32) <<< (nI o &&& 31)) ^^^ (-1)) else x 16 e 7) ∧ bnX d o x 16 e 8 = x 16 e 8 ∧ bnX d o x 16 e 9 = x 16 e 9 := by
  simp [bnX, up3]
theorem RQ_ban {d o : Nat} (h : RQ a N K P L C x m) (hd0 : d < P) (ho : o < P) : RQ a N K P L C (bnX d o x) (up3 m 57 0 (12 * d + o) 1) := by
  obtain ⟨⟨hW, hC, hM, hS, hH, hV, hG, hT, hLt, hR⟩, hz, iC, iR, iF, iH, iS, iO, iD, iN, iG, iM⟩ := id h
  obtain ⟨h1, h2, h3, h4, h5, h6, h7, h8⟩ := id hz
  have eb : ∀ e f, e < 12 → f < 12 → bn (up3 m 57 0 (12 * d + o) 1) e f = (decide (e = d ∧ f = o) || bn m e f) := fun e f he hf => by
    unfold bn
    show decide (¬ (if 57 = 57 ∧ 0 = 0 ∧ 12 * e + f = 12 * d + o then (1 : Int32) else m 57 0 (12 * e + f)) = 0) = _
    by_cases s : e = d ∧ f = o
    · obtain ⟨rfl, rfl⟩ := s
      simp
    · rw [if_neg (by omega)]; simp [s]
  refine ⟨⟨hW, hC, hM, hS, hH, hV, hG, ⟨fun e he => ?_, fun e he => ?_, fun e he he2 => ?_⟩, hLt, hR⟩, hz, iC, iR, iF, iH, iS, iO, iD, fun e he he2 => ?_, iG, iM⟩
  · obtain ⟨t1, t2, t3, t4⟩ := hT.1 e he
    obtain ⟨a1, a2, a3, a4, a5, a6⟩ := bnX_16 (x := x) (d := d) (o := o) (e := e)
    refine ⟨?_, ?_, ?_, ?_⟩
    · rw [a1]; exact t1
    · rw [a2]
      by_cases q : e = d
      · subst q
        rw [if_pos rfl]
        refine (t2.or1 (n := o) (by omega)).ext (fun b hb => ?_)
        by_cases w : b < P
        · rw [eb e b he (by omega)]
          simp [w, Bool.or_comm]
        · simp [w]; omega
      · rw [if_neg q]
        refine t2.ext (fun b hb => ?_)
        by_cases w : b < P
        · rw [eb e b he (by omega)]
          simp [q]
        · simp [w]
    · rw [a3]
      by_cases q : e = o
      · subst q
        rw [if_pos rfl]
        refine (t3.or1 (n := d) (by omega)).ext (fun b hb => ?_)
        by_cases w : b < P
        · rw [eb b e (by omega) he]
          simp [w, Bool.or_comm]
        · simp [w]; omega
      · rw [if_neg q]
        refine t3.ext (fun b hb => ?_)
        by_cases w : b < P
        · rw [eb b e (by omega) he]
          simp [q]
        · simp [w]
    · have fin : ∀ b, b < 32 → (decide (b < P) && op m e b && !bn m e b && !bn m b e && !(decide (e = d ∧ b = o) || decide (b = d ∧ e = o))) = (decide (b < P) && op (up3 m 57 0 (12 * d + o) 1) e b && !bn (up3 m 57 0 (12 * d + o) 1) e b && !bn (up3 m 57 0 (12 * d + o) 1) b e) := fun b hb => by
        by_cases w : b < P
        · rw [eb e b he (by omega), eb b e (by omega) he]
          show _ = (decide (b < P) && op m e b && !(decide (e = d ∧ b = o) || bn m e b) && !(decide (b = d ∧ e = o) || bn m b e))
          cases op m e b <;> cases bn m e b <;> cases bn m b e <;> cases decide (e = d ∧ b = o) <;> cases decide (b = d ∧ e = o) <;> simp
        · simp [w]
      rw [a4]
      by_cases q : e = o
      · subst q
        rw [if_pos rfl]
        by_cases q2 : e = d
        · subst q2
          rw [if_pos rfl]
          refine ((t4.off (n := e) (by omega)).off (n := e) (by omega)).ext (fun b hb => ?_)
          rw [← fin b hb]
          by_cases w : b = e <;> simp [w]
        · rw [if_neg q2]
          refine (t4.off (n := d) (by omega)).ext (fun b hb => ?_)
          rw [← fin b hb]
          by_cases w : b = d <;> simp [w, q2]
      · rw [if_neg q]
        by_cases q2 : e = d
        · subst q2
          rw [if_pos rfl]
          refine (t4.off (n := o) (by omega)).ext (fun b hb => ?_)
          rw [← fin b hb]
          by_cases w : b = o <;> simp [w, q]
        · rw [if_neg q2]
          refine t4.ext (fun b hb => ?_)
          rw [← fin b hb]
          simp [q, q2]
  · obtain ⟨a1, a2, a3, a4, a5, a6⟩ := bnX_16 (x := x) (d := d) (o := o) (e := e)
    rw [a5, a6]; exact hT.2.1 e he
  · obtain ⟨a1, a2, a3, a4, a5, a6⟩ := bnX_16 (x := x) (d := d) (o := o) (e := e)
    rw [a5, a6]; exact hT.2.2 e he he2
  · obtain ⟨n1, n2, n3, n4⟩ := iN e he he2
    refine ⟨n1, n2, fun f hf => ⟨(n3 f hf).1, ?_, ?_⟩, n4⟩
    · rw [eb e f he2 hf, (n3 f hf).2.1]; simp; omega
    · rw [eb f e hf he2, (n3 f hf).2.2]; simp; omega
/-- all blocks of the piece came from one -/
def o1 (K : Nat) (m : St3) (d p : Nat) : Bool := !an (fun b => decide (¬ fr m d p b = fr m d p 0)) K
theorem M_25 {v : St3} {d p : Nat} {post : St3 → Prop} (hd0 : d < 12) (hp : p < 24) (hK : v 24 0 2 = nI K) (hK2 : K ≤ 4) (h : wL_X10_fails_79 post FU (nI d) (nI p) (bI (o1 K v d p)) (0 : Int32) v) : ∀ (n i f : Nat), i + n = K → n < f → wL_X10_fails_25 post f (nI d) (nI p) (bI (o1 i v d p)) (nI i) v
  | n, i, 0, _, hf => absurd hf (by omega)
  | n, i, f + 1, e, hf => by
    show wB_X10_fails_25 post _ (nI d) (nI p) _ (nI i) v
    unfold wB_X10_fails_25
    rw [hK, nI_1]
    refine le2 (by omega) (by omega) (fun c => ?_) (fun c => bI_if (fun c2 => ?_) (fun c2 => M_cell ⟨_, by omega, rfl, ?_⟩))
    · rw [show i = K by omega]; exact h
    · have : o1 (i + 1) v d p = false := by unfold o1 at c2 ⊢; rw [an_s]; simp at c2 ⊢; simp [c2]
      have nx := M_25 hd0 hp hK hK2 h (n - 1) (i + 1) f (by omega) (by omega)
      rw [this] at nx
      exact nx
    · rw [show (0 : Int32) = nI 0 from rfl]
      refine M_cell ⟨_, by omega, rfl, fun c3 => ?_, fun c3 => ?_⟩
      · have : o1 (i + 1) v d p = false := by unfold o1; rw [an_s]; simp [show ¬ fr v d p i = fr v d p 0 from c3]
        have nx := M_25 hd0 hp hK hK2 h (n - 1) (i + 1) f (by omega) (by omega)
        rw [this] at nx
        exact nx
      · have : o1 (i + 1) v d p = true := by unfold o1 at c2 ⊢; rw [an_s]; simp at c2 ⊢; simp [c2, show fr v d p i = fr v d p 0 from c3]
        have nx := M_25 hd0 hp hK hK2 h (n - 1) (i + 1) f (by omega) (by omega)
        rw [this] at nx
        exact nx
theorem M_94 {v : St3} {d p o : Nat} {y : Int32} {post : St3 → Prop} {K79 : Int32 → Int32 → Int32 → Int32 → St3 → Prop} (hd0 : d < 12) (hp : p < 24) (ho : o < 12) (hK : v 24 0 2 = nI K) (hK2 : K ≤ 4) (h0 : an (fun b => decide (fr v d p b = nI o)) K = false → K79 (nI d) (nI p) y (nI (o + 1)) v) (h1 : an (fun b => decide (fr v d p b = nI o)) K = true → wB_X10_fails_158 post K79 (nI d) (nI p) y (nI o) 1 (up3 v 58 0 (12 * d + o) (v 58 0 (12 * d + o) + 1))) : ∀ (n i f : Nat), i + n = K → n < f → wL_X10_fails_94 post K79 f (nI d) (nI p) y (nI o) (bI (an (fun b => decide (fr v d p b = nI o)) i)) (nI i) v
  | n, i, 0, _, hf => absurd hf (by omega)
  | n, i, f + 1, e, hf => by
    show wB_X10_fails_94 post _ _ (nI d) (nI p) y (nI o) _ (nI i) v
    unfold wB_X10_fails_94
    rw [hK, nI_1]
    have nx : ∀ z, an (fun b => decide (fr v d p b = nI o)) (i + 1) = z → i < K → wL_X10_fails_94 post K79 f (nI d) (nI p) y (nI o) (bI z) (nI (i + 1)) v := fun z hz hi => by
      rw [← hz]; exact M_94 hd0 hp ho hK hK2 h0 h1 (n - 1) (i + 1) f (by omega) (by omega)
    refine le2 (by omega) (by omega) (fun c => ?_) (fun c => bI_fi (fun c2 => nx true (by rw [an_s, c2]; rfl) c) (fun c2 => M_cell ⟨_, by omega, rfl, fun c3 => nx false ?_ c, fun c3 => nx true ?_ c⟩))
    · rw [show i = K by omega]
      refine bI_if (fun c2 => ?_) (fun c2 => M_two ⟨_, by omega, rfl, ?_⟩)
      · rw [c2]
        unfold wB_X10_fails_158
        rw [nI_1]
        exact ⟨fun _ => h0 c2, fun q => absurd rfl q⟩
      · intro v1 e1
        subst e1
        rw [c2]
        exact h1 c2
    · rw [an_s, c2]; simp [show ¬ fr v d p i = nI o from c3]
    · rw [an_s, c2]; simp [show fr v d p i = nI o from c3]
/-- the reference counts a failure first, the class last -/
def fx (d : Nat) (x : St3) : St3 := up3 x 14 d 10 (x 14 d 10 + 1)
theorem fx_23 {d e f : Nat} {y : Int32} : fx d (up3 x 23 e f y) = up3 (fx d x) 23 e f y := up3_comm (v := x) rfl
theorem fx_bn {d e f : Nat} : fx d (bnX e f x) = bnX e f (fx d x) := by
  funext k i j
  by_cases q : k = 14
  · subst q; rfl
  · by_cases q2 : k = 16
    · subst q2; rfl
    · simp [fx, bnX, up3, q, q2]
theorem fail_loop {d p : Nat} {y : Int32} (hd0 : d < P) (hp : p < N) : ∀ (n i f1 f2 : Nat) (x m : St3), i + n = P → n < f1 → n < f2 → RQ a N K P L C (fx d x) m → hs m d p = false → (∀ b, b < K → hl m d p b = true) → Msk y (gs K m d p) → ∃ x' m', RQ a N K P L C x' m' ∧ SR m m' ∧ (∀ (m0 : St3) (post : St3 → Prop), post (gl x' m0) → wL_X0_fail_23 post f1 (nI d) (nI p) d y (nI i) (gl x m0)) ∧ (∀ (x0 : St3) (post : St3 → Prop), post (gl x0 m') → wL_X10_fails_79 post f2 (nI d) (nI p) (bI (o1 K m d p)) (nI i) (gl x0 m))
  | n, i, 0, _, _, _, _, hf, _, _, _, _, _ => absurd hf (by omega)
  | n, i, _ + 1, 0, _, _, _, _, hf, _, _, _, _ => absurd hf (by omega)
  | n, i, f1 + 1, f2 + 1, x, m, e, hf1, hf2, h, c0, ha, hy => by
    obtain ⟨⟨hW, hC, hM, hS, hH, hV, hG, hT, hLt, hR⟩, hz, iC, iR, iF, iH, iS, iO, iD, iN, iG, iM⟩ := id h
    obtain ⟨h1, h2, h3, h4, h5, h6, h7, h8⟩ := id hz
    by_cases q : i = P
    · have k := RQ_mark (RQ_drop h hd0 hp c0) hd0 hp
      have ex : up3 (drX 4 d p (fx d x)) 15 d 4 (drX 4 d p (fx d x) 15 d 4 ||| ((1 : Int32) <<< (nI p &&& 31))) = up3 (up3 (drX 4 d p x) 15 d 4 (drX 4 d p x 15 d 4 ||| ((1 : Int32) <<< (nI p &&& 31)))) 14 d 10 (x 14 d 10 + 1) := by
        funext k i j
        by_cases q : k = 14
        · subst q; rfl
        · by_cases q2 : k = 15
          · subst q2; rfl
          · simp [fx, drX, up3, q, q2]
      rw [ex] at k
      refine ⟨_, _, k, ⟨fun j => ⟨rfl, rfl, rfl, rfl, rfl, rfl, rfl⟩, rfl⟩, fun m0 post hp' => ?_, fun x0 post hp' => ?_⟩
      · show wB_X0_fail_23 post _ (nI d) (nI p) d y (nI i) _
        unfold wB_X0_fail_23
        rw [show gl x m0 1 0 3 = nI P from hC.1]
        refine le2 (by omega) (by omega) (fun c => ?_) (fun c => absurd c (by omega))
        refine S_drop (by omega) ?_
        intro v1 e1
        rw [gl_x rfl] at e1
        subst e1
        intro v2 e2
        rw [gl_x rfl] at e2
        subst e2
        exact hp'
      · show wB_X10_fails_79 post _ (nI d) (nI p) _ (nI i) _
        unfold wB_X10_fails_79
        rw [show gl x0 m 24 0 4 = nI P from h3]
        refine le2 (by omega) (by omega) (fun c => ?_) (fun c => absurd c (by omega))
        refine M_drop (by omega) (by omega) h2 h7 ?_
        rw [i24]
        refine ⟨_, by omega, rfl, ?_⟩
        intro v1 e1
        rw [gl_m rfl] at e1
        subst e1
        exact hp'
    · have hi : i < P := by omega
      have egs : ∀ j, gs K m d p j = an (fun b => decide (fr m d p b = nI j)) K := fun j => an_cong (fun b hb => by rw [ha b hb]; rfl)
      cases hg : an (fun b => decide (fr m d p b = nI i)) K with
      | false =>
        obtain ⟨x', m', k1, k2, k3, k4⟩ := fail_loop hd0 hp (n - 1) (i + 1) f1 f2 x m (by omega) (by omega) (by omega) h c0 ha hy
        refine ⟨x', m', k1, k2, fun m0 post hp' => ?_, fun x0 post hp' => ?_⟩
        · show wB_X0_fail_23 post _ (nI d) (nI p) d y (nI i) _
          unfold wB_X0_fail_23
          rw [show gl x m0 1 0 3 = nI P from hC.1, nI_1]
          refine le2 (by omega) (by omega) (fun c => absurd c (by omega)) (fun c => S_isIn hy (by omega) ?_)
          rw [egs, hg]
          exact ⟨fun _ => k3 m0 post hp', fun q => absurd rfl q⟩
        · show wB_X10_fails_79 post _ (nI d) (nI p) _ (nI i) _
          unfold wB_X10_fails_79
          rw [show gl x0 m 24 0 4 = nI P from h3]
          refine le2 (by omega) (by omega) (fun c => absurd c (by omega)) (fun c => ?_)
          exact M_94 (v := gl x0 m) (K := K) (by omega) (by omega) (by omega) h2 h7 (fun _ => k4 x0 post hp') (fun q => by
            have q' : an (fun b => decide (fr m d p b = nI i)) K = true := q
            rw [hg] at q'; cases q') K 0 FU (by omega) (fu K (by omega))
      | true =>
        have hd1 := RQ_doubt (d := d) (o := i) h (by omega) (by omega)
        rw [show fx d x 23 d i = x 23 d i from rfl, ← fx_23] at hd1
        have iff : y = (1 : Int32) <<< (nI i &&& 31) ↔ o1 K m d p = true := by
          have one : Msk ((1 : Int32) <<< (nI i &&& 31)) (fun j => decide (j = i)) := fun j hj => b_one i (by omega) j hj
          obtain ⟨b0, hb0, e0⟩ := an_t.mp hg
          rw [decide_eq_true_eq] at e0
          constructor
          · intro ey
            unfold o1
            rw [Bool.not_eq_true', an_f]
            have all : ∀ b, b < K → fr m d p b = nI i := fun b hb => by
              obtain ⟨g', hg', e'⟩ := iF d p b (by omega) hp hb (ha b hb) c0
              have w := hy g' (by omega)
              rw [ey, one g' (by omega), egs, an_t.mpr ⟨b, hb, by rw [decide_eq_true_eq]; exact e'⟩] at w
              rw [decide_eq_true_eq] at w
              rw [e', w]
            intro b hb
            rw [all b hb, all 0 (by omega)]
            simp
          · intro eo
            unfold o1 at eo
            rw [Bool.not_eq_true', an_f] at eo
            have all : ∀ b, b < K → fr m d p b = nI i := fun b hb => by
              have w1 := eo b hb
              have w2 := eo b0 hb0
              simp at w1 w2
              rw [w1, ← w2, e0]
            refine Msk.eq hy (one.ext (fun j hj => ?_))
            rw [egs]
            by_cases w : j = i
            · subst w
              rw [hg]; simp
            · rw [decide_eq_false w]
              symm
              rw [an_f]
              intro b hb
              rw [all b hb, decide_eq_false_iff_not]
              intro z
              exact w (nI_inj (by omega) (by omega) z).symm
        cases ho1 : o1 K m d p with
        | false =>
          obtain ⟨x', m', k1, k2, k3, k4⟩ := fail_loop hd0 hp (n - 1) (i + 1) f1 f2 _ _ (by omega) (by omega) (by omega) hd1 c0 ha hy
          refine ⟨x', m', k1, SR.tr ⟨fun j => ⟨rfl, rfl, rfl, rfl, rfl, rfl, rfl⟩, rfl⟩ k2, fun m0 post hp' => ?_, fun x0 post hp' => ?_⟩
          · show wB_X0_fail_23 post _ (nI d) (nI p) d y (nI i) _
            unfold wB_X0_fail_23
            rw [show gl x m0 1 0 3 = nI P from hC.1, nI_1]
            refine le2 (by omega) (by omega) (fun c => absurd c (by omega)) (fun c => S_isIn hy (by omega) ?_)
            rw [egs, hg]
            refine ⟨fun q => absurd q (by decide), fun _ => ⟨i, by omega, rfl, ?_⟩⟩
            intro v1 e1
            rw [gl_x rfl] at e1
            subst e1
            refine ⟨fun _ => k3 m0 post hp', fun q => ?_⟩
            rw [iff, ho1] at q; cases q
          · show wB_X10_fails_79 post _ (nI d) (nI p) _ (nI i) _
            unfold wB_X10_fails_79
            rw [show gl x0 m 24 0 4 = nI P from h3]
            refine le2 (by omega) (by omega) (fun c => absurd c (by omega)) (fun c => ?_)
            refine M_94 (v := gl x0 m) (K := K) (by omega) (by omega) (by omega) h2 h7 (fun q => ?_) (fun _ => ?_) K 0 FU (by omega) (fu K (by omega))
            · have q' : an (fun b => decide (fr m d p b = nI i)) K = false := q
              rw [hg] at q'; cases q'
            · unfold wB_X10_fails_158
              rw [nI_1]
              refine ⟨fun q => absurd q (by decide), fun _ => ⟨fun _ => ?_, fun q => absurd rfl q⟩⟩
              rw [gl_m rfl]
              have k5 := k4 x0 post hp'
              rw [show o1 K (up3 m 58 0 (12 * d + i) (m 58 0 (12 * d + i) + 1)) d p = false from ho1] at k5
              exact k5
        | true =>
          have hd2 := RQ_ban (d := d) (o := i) hd1 hd0 hi
          rw [← fx_bn] at hd2
          obtain ⟨x', m', k1, k2, k3, k4⟩ := fail_loop hd0 hp (n - 1) (i + 1) f1 f2 _ _ (by omega) (by omega) (by omega) hd2 c0 ha hy
          refine ⟨x', m', k1, SR.tr ⟨fun j => ⟨rfl, rfl, rfl, rfl, rfl, rfl, rfl⟩, rfl⟩ k2, fun m0 post hp' => ?_, fun x0 post hp' => ?_⟩
          · show wB_X0_fail_23 post _ (nI d) (nI p) d y (nI i) _
            unfold wB_X0_fail_23
            rw [show gl x m0 1 0 3 = nI P from hC.1, nI_1]
            refine le2 (by omega) (by omega) (fun c => absurd c (by omega)) (fun c => S_isIn hy (by omega) ?_)
            rw [egs, hg]
            refine ⟨fun q => absurd q (by decide), fun _ => ⟨i, by omega, rfl, ?_⟩⟩
            intro v1 e1
            rw [gl_x rfl] at e1
            subst e1
            refine ⟨fun q => absurd (iff.mpr ho1) q, fun _ => S_ban (by omega) (by omega) (k3 m0 post hp')⟩
          · show wB_X10_fails_79 post _ (nI d) (nI p) _ (nI i) _
            unfold wB_X10_fails_79
            rw [show gl x0 m 24 0 4 = nI P from h3]
            refine le2 (by omega) (by omega) (fun c => absurd c (by omega)) (fun c => ?_)
            refine M_94 (v := gl x0 m) (K := K) (by omega) (by omega) (by omega) h2 h7 (fun q => ?_) (fun _ => ?_) K 0 FU (by omega) (fu K (by omega))
            · have q' : an (fun b => decide (fr m d p b = nI i)) K = false := q
              rw [hg] at q'; cases q'
            · unfold wB_X10_fails_158
              rw [nI_1]
              refine ⟨fun q => absurd q (by decide), fun _ => ⟨fun q => absurd q (by decide), fun _ => M_two ⟨_, by omega, rfl, ?_⟩⟩⟩
              intro v1 e1
              rw [gl_m rfl, gl_m rfl] at e1
              subst e1
              have k5 := k4 x0 post hp'
              rw [show o1 K (up3 (up3 m 58 0 (12 * d + i) (m 58 0 (12 * d + i) + 1)) 57 0 (12 * d + i) 1) d p = true from ho1] at k5
              exact k5
theorem fails_ok {d p : Nat} (h : RQ a N K P L C x m) (hd0 : d < P) (hp : p < N) (c0 : hs m d p = false) (ha : ∀ b, b < K → hl m d p b = true) : ∃ x' m', RQ a N K P L C x' m' ∧ SR m m' ∧ (∀ (m0 : St3) (post : St3 → Prop), post (gl x' m0) → wp_X0_fail (nI d) (nI p) (gl x m0) post) ∧ (∀ (x0 : St3) (post : St3 → Prop), post (gl x0 m') → wp_X10_fails (nI d) (nI p) (gl x0 m) post) := by
  obtain ⟨⟨hW, hC, hM, hS, hH, hV, hG, hT, hLt, hR⟩, hz, iC, iR, iF, iH, iS, iO, iD, iN, iG, iM⟩ := id h
  obtain ⟨h1, h2, h3, h4, h5, h6, h7, h8⟩ := id hz
  have key : ∀ y, Msk y (gs K m d p) → _ := fun y hy => fail_loop (a := a) (N := N) (K := K) (P := P) (L := L) (C := C) (d := d) (p := p) (y := y) hd0 hp P 0 FU FU x _ (by omega) (fu P (by omega)) (fu P (by omega)) (RQ_failed h hd0) c0 ha hy
  -- the mask is one number
  have ex : ∃ y, Msk y (gs K m d p) ∧ ∀ (m0 : St3) (post : Int32 → St3 → Prop), post y (gl x m0) → wp_X6_giversOf d (nI p) (gl x m0) post := by
    have w : ∃ y, Msk y (gs K m d p) := Msk.ex _
    obtain ⟨y, hy⟩ := w
    exact ⟨y, hy, fun m0 post hp' => S_giversOf (v := gl x m0) (m := m) hH iF (by omega) h5 h7 hp c0 (fun z hz' => by rw [Msk.eq hz' hy]; exact hp')⟩
  obtain ⟨y, hy, hrun⟩ := ex
  obtain ⟨x', m', k1, k2, k3, k4⟩ := key y hy
  refine ⟨x', m', k1, SR.tr ⟨fun j => ⟨rfl, rfl, rfl, rfl, rfl, rfl, rfl⟩, rfl⟩ k2, fun m0 post hp' => ?_, fun x0 post hp' => ?_⟩
  · unfold wp_X0_fail
    exact ⟨d, by omega, rfl, hrun m0 _ (k3 m0 post hp')⟩
  · unfold wp_X10_fails
    refine ⟨d, by omega, rfl, ?_⟩
    intro v1 e1
    rw [gl_m rfl] at e1
    subst e1
    intro v2 e2
    rw [gl_m rfl] at e2
    subst e2
    have z := M_25 (v := gl x0 (up3 (up3 m 48 0 d (m 48 0 d + 1)) 24 0 8 (m 24 0 8 + 1))) (K := K) (d := d) (p := p) (post := post) (by omega) (by omega) h2 h7 (k4 x0 post hp') (K - 1) 1 FU (by omega) (fu _ (by omega))
    rw [show o1 1 (gl x0 (up3 (up3 m 48 0 d (m 48 0 d + 1)) 24 0 8 (m 24 0 8 + 1))) d p = true from by unfold o1; rw [Bool.not_eq_true', an_f]; intro b hb; rw [show b = 0 by omega]; simp] at z
    exact z
end COME3
