/-! what is stranded is dropped; what each may send and ask -/
def un (y : Int32) : Nat := y.toInt.toNat
theorem un_nI {n : Nat} (h : n < 2 ^ 31) : un (nI n) = n := by
  unfold un
  rw [nI_toInt h]
  omega
def far (m : St3) (d p b : Nat) : Bool := hl m d p b && !nr m d (un (fr m d p b))
/-- what a call leaves besides the road -/
def SQ (m m' : St3) : Prop := SR m m' ∧ ∀ j, m' 73 0 j = m 73 0 j ∧ m' 74 0 j = m 74 0 j ∧ m' 43 0 j = m 43 0 j ∧ m' 41 0 j = m 41 0 j ∧ m' 42 0 j = m 42 0 j
theorem SQ.tr {m m' m2 : St3} (h : SQ m m') (h2 : SQ m' m2) : SQ m m2 := by
  refine ⟨h.1.tr h2.1, fun j => ?_⟩
  obtain ⟨a1, a2, a3, a4, a5⟩ := h.2 j
  obtain ⟨b1, b2, b3, b4, b5⟩ := h2.2 j
  exact ⟨b1.trans a1, b2.trans a2, b3.trans a3, b4.trans a4, b5.trans a5⟩
theorem SQ_hr {m m' : St3} (h : SQ m m') (d : Nat) : hr m' d = hr m d := by
  unfold hr
  rw [(h.2 d).2.2.1]
section FORGET
variable {N K P L C : Nat} {x m : St3} {al0 : Nat → Bool}
theorem M_46 {v : St3} {d p : Nat} {post : St3 → Prop} {K2 : Int32 → Int32 → St3 → Prop} (hd0 : d < 12) (hp : p < 24) (hK : v 24 0 2 = nI K) (hK2 : K ≤ 4) (hF : ∀ b, b < K → hl v d p b = true → ∃ g, g < 12 ∧ fr v d p b = nI g) (h0 : an (far v d p) K = false → K2 (nI d) (nI (p + 1)) v) (h1 : an (far v d p) K = true → wp_X10_dropPiece (nI d) (nI p) v (fun v4 => K2 (nI d) (nI (p + 1)) v4)) : ∀ (n i f : Nat), i + n = K → n < f → wL_X10_forgets_46 post K2 f (nI d) (nI p) (bI (an (far v d p) i)) (nI i) v
  | n, i, 0, _, hf => absurd hf (by omega)
  | n, i, f + 1, e, hf => by
    show wB_X10_forgets_46 post _ _ (nI d) (nI p) _ (nI i) v
    unfold wB_X10_forgets_46
    rw [hK, nI_1, nI_1]
    have nx : ∀ z, an (far v d p) (i + 1) = z → i < K → wL_X10_forgets_46 post K2 f (nI d) (nI p) (bI z) (nI (i + 1)) v := fun z hz hi => by
      rw [← hz]; exact M_46 hd0 hp hK hK2 hF h0 h1 (n - 1) (i + 1) f (by omega) (by omega)
    refine le2 (by omega) (by omega) (fun c => ?_) (fun c => bI_fi (fun c2 => nx true (by rw [an_s, c2]; rfl) c) (fun c2 => M_cell ⟨_, by omega, rfl, fun c3 => nx false ?_ c, fun c3 => M_cell ⟨_, by omega, rfl, ?_⟩⟩))
    · rw [show i = K by omega]
      exact bI_if h0 h1
    · rw [an_s, c2]
      simp [far, hl, c3]
    · have c4 : hl v d p i = true := by unfold hl; rw [decide_eq_true_eq]; exact c3
      obtain ⟨g, hg, eg⟩ := hF i c c4
      rw [show v 54 0 (96 * d + 4 * p + i) = nI g from eg]
      have ef : far v d p i = !nr v d g := by
        unfold far
        rw [c4, eg, un_nI (by omega)]; rfl
      refine M_isNear hd0 hg (bI_fi (fun c5 => nx false ?_ c) (fun c5 => nx true ?_ c))
      · rw [an_s, c2, ef, c5]; rfl
      · rw [an_s, c2, ef, c5]; rfl
theorem far_mask {d p : Nat} {y w : Int32} (iN : Fh P m) (iS : Sy m) (hF : Fr N K m) (hP : P ≤ 12) (hd0 : d < 12) (hp : p < N) (c0 : hs m d p = false) (hy : Msk y (gs K m d p)) (hw : Msk w (fun b => decide (b < P) && nr m d b)) : (y &&& (w ^^^ (-1 : Int32))) = 0 ↔ an (far m d p) K = false := by
  rw [(hy.and hw.not).z, an_f]
  have nrP : ∀ g, g < 12 → (decide (g < P) && nr m d g) = nr m d g := fun g hg => by
    by_cases q : g < P
    · simp [q]
    · have : nr m d g = false := by
        unfold nr
        rw [iS.1 d g hd0 hg, ((iN g (by omega) hg).2.2.1 d hd0).1]; rfl
      simp [q, this]
  constructor
  · intro h b hb
    cases hlb : hl m d p b with
    | false => unfold far; rw [hlb]; rfl
    | true =>
      obtain ⟨g, hg, e⟩ := hF d p b hd0 hp hb hlb c0
      have w1 := h g (by omega)
      rw [show gs K m d p g = true from an_t.mpr ⟨b, hb, by simp [hlb, e]⟩, nrP g hg] at w1
      unfold far
      rw [hlb, e, un_nI (by omega)]
      exact w1
  · intro h g hg
    cases hgs : gs K m d p g with
    | false => rfl
    | true =>
      obtain ⟨b, hb, e⟩ := an_t.mp hgs
      have e2 : hl m d p b = true ∧ fr m d p b = nI g := by simpa using e
      obtain ⟨g', hg', e'⟩ := hF d p b hd0 hp hb e2.1 c0
      have : g = g' := nI_inj (by omega) (by omega) (e2.2.symm.trans e')
      subst this
      have w1 := h b hb
      unfold far at w1
      rw [e2.1, e2.2, un_nI (by omega)] at w1
      show (true && !(decide (g < P) && nr m d g)) = false
      rw [nrP g hg']
      exact w1
theorem forget_loop {d : Nat} {w mk0 : Int32} (hd0 : d < P) : ∀ (n p f1 f2 : Nat) (x m : St3), p + n = N → n < f1 → n < f2 → RQ al0 N K P L C x m → Msk w (fun b => decide (b < P) && nr m d b) → Msk mk0 (fun p => (decide (p < N) && mk m d p) && !(decide (p < N) && hs m d p)) → ∃ x' m', RQ al0 N K P L C x' m' ∧ SQ m m' ∧ (∀ (m0 : St3) (post : St3 → Prop), post (gl x' m0) → wL_X1_dropStrandedOf_15 post f1 d w mk0 (nI p) (gl x m0)) ∧ (∀ (x0 : St3) (post : St3 → Prop), post (gl x0 m') → wL_X10_forgets_2 post f2 (nI d) (nI p) (gl x0 m))
  | n, p, 0, _, _, _, _, hf, _, _, _, _ => absurd hf (by omega)
  | n, p, _ + 1, 0, _, _, _, _, hf, _, _, _ => absurd hf (by omega)
  | n, p, f1 + 1, f2 + 1, x, m, e, hf1, hf2, h, hw, hk => by
    obtain ⟨⟨hW, hC, hM, hS, hH, hV, hG, hT, hLt, hR⟩, hz, iC, iR, iF, iH, iS, iO, iD, iN, iG, iM⟩ := id h
    obtain ⟨h1, h2, h3, h4, h5, h6, h7, h8⟩ := id hz
    have sf0 : SQ m m := ⟨⟨fun j => ⟨rfl, rfl, rfl, rfl, rfl, rfl, rfl⟩, rfl⟩, fun j => ⟨rfl, rfl, rfl, rfl, rfl⟩⟩
    by_cases q : p = N
    · refine ⟨x, m, h, sf0, fun m0 post hp => ?_, fun x0 post hp => ?_⟩
      · show wB_X1_dropStrandedOf_15 post _ d w mk0 (nI p) _
        unfold wB_X1_dropStrandedOf_15
        rw [show gl x m0 5 0 0 = nI N from hW.1]
        exact le2 (by omega) (by omega) (fun c => hp) (fun c => absurd c (by omega))
      · show wB_X10_forgets_2 post _ (nI d) (nI p) _
        unfold wB_X10_forgets_2
        rw [show gl x0 m 24 0 1 = nI N from h1]
        exact le2 (by omega) (by omega) (fun c => hp) (fun c => absurd c (by omega))
    · have hp : p < N := by omega
      have clsE : ∀ (m0 : St3) (post : St3 → Prop), ((mk m d p && !hs m d p) = false → wL_X1_dropStrandedOf_15 post f1 d w mk0 (nI (p + 1)) (gl x m0)) → ((mk m d p && !hs m d p) = true → (an (far m d p) K = false → wL_X1_dropStrandedOf_15 post f1 d w mk0 (nI (p + 1)) (gl x m0)) ∧ (an (far m d p) K = true → wL_X1_dropStrandedOf_15 post f1 d w mk0 (nI (p + 1)) (gl (drX 4 d p x) m0))) → wL_X1_dropStrandedOf_15 post (f1 + 1) d w mk0 (nI p) (gl x m0) := by
        intro m0 post k1 k2
        show wB_X1_dropStrandedOf_15 post _ d w mk0 (nI p) _
        unfold wB_X1_dropStrandedOf_15
        rw [show gl x m0 5 0 0 = nI N from hW.1, nI_1]
        have e0 : ((decide (p < N) && mk m d p) && !(decide (p < N) && hs m d p)) = (mk m d p && !hs m d p) := by simp [hp]
        refine le2 (by omega) (by omega) (fun c => absurd c (by omega)) (fun c => S_isIn hk (by omega) ?_)
        rw [e0]
        refine bI_if k1 (fun c2 => ?_)
        have c3 : hs m d p = false := by
          simp only [Bool.and_eq_true, Bool.not_eq_true'] at c2
          exact c2.2
        refine S_giversOf (v := gl x m0) (m := m) (N := N) (K := K) hH iF (by omega) h5 h7 hp c3 (fun y hy => ?_)
        have iff := far_mask iN iS iF h8 (by omega) hp c3 hy hw
        refine ⟨fun z => (k2 c2).1 (iff.mp z), fun z => S_drop (by omega) ((k2 c2).2 ?_)⟩
        cases ha : an (far m d p) K with
        | true => rfl
        | false => exact absurd (iff.mpr ha) z
      have refE : ∀ (x0 : St3) (post : St3 → Prop), ((mk m d p && !hs m d p) = false → wL_X10_forgets_2 post f2 (nI d) (nI (p + 1)) (gl x0 m)) → ((mk m d p && !hs m d p) = true → (an (far m d p) K = false → wL_X10_forgets_2 post f2 (nI d) (nI (p + 1)) (gl x0 m)) ∧ (an (far m d p) K = true → wL_X10_forgets_2 post f2 (nI d) (nI (p + 1)) (gl x0 (drM K d p m)))) → wL_X10_forgets_2 post (f2 + 1) (nI d) (nI p) (gl x0 m) := by
        intro x0 post k1 k2
        show wB_X10_forgets_2 post _ (nI d) (nI p) _
        unfold wB_X10_forgets_2
        rw [show gl x0 m 24 0 1 = nI N from h1, i24, nI_1]
        refine le2 (by omega) (by omega) (fun c => absurd c (by omega)) (fun c => ⟨_, by omega, rfl, fun c2 => k1 ?_, fun c2 => ⟨fun c3 => ?_, fun c3 => k1 ?_⟩⟩)
        · rw [show hs m d p = true from by unfold hs; rw [decide_eq_true_eq]; exact c2]; simp
        · have a1 : hs m d p = false := by unfold hs; rw [decide_eq_false_iff_not]; exact fun z => z c2
          have a2 : mk m d p = true := by unfold mk; rw [decide_eq_true_eq]; exact c3
          have k3 := k2 (by rw [a1, a2]; rfl)
          exact M_46 (v := gl x0 m) (K := K) (by omega) (by omega) h2 h7 (fun b hb hlb => iF d p b (by omega) hp hb hlb a1) (fun z => k3.1 z) (fun z => M_drop (by omega) (by omega) h2 h7 (k3.2 z)) K 0 FU (by omega) (fu K (by omega))
        · rw [show mk m d p = false from by unfold mk; rw [decide_eq_false_iff_not]; exact fun z => z c3]; rfl
      cases hb : (mk m d p && !hs m d p) with
      | false =>
        obtain ⟨x', m', k1, k2, k3, k4⟩ := forget_loop hd0 (n - 1) (p + 1) f1 f2 x m (by omega) (by omega) (by omega) h hw hk
        exact ⟨x', m', k1, k2, fun m0 post hp' => clsE m0 post (fun _ => k3 m0 post hp') (fun q => by rw [hb] at q; cases q), fun x0 post hp' => refE x0 post (fun _ => k4 x0 post hp') (fun q => by rw [hb] at q; cases q)⟩
      | true =>
        cases hfar : an (far m d p) K with
        | false =>
          obtain ⟨x', m', k1, k2, k3, k4⟩ := forget_loop hd0 (n - 1) (p + 1) f1 f2 x m (by omega) (by omega) (by omega) h hw hk
          exact ⟨x', m', k1, k2, fun m0 post hp' => clsE m0 post (fun q => by rw [hb] at q; cases q) (fun _ => ⟨fun _ => k3 m0 post hp', fun q => by rw [hfar] at q; cases q⟩), fun x0 post hp' => refE x0 post (fun q => by rw [hb] at q; cases q) (fun _ => ⟨fun _ => k4 x0 post hp', fun q => by rw [hfar] at q; cases q⟩)⟩
        | true =>
          have c3 : hs m d p = false := by
            simp only [Bool.and_eq_true, Bool.not_eq_true'] at hb
            exact hb.2
          obtain ⟨x', m', k1, k2, k3, k4⟩ := forget_loop hd0 (n - 1) (p + 1) f1 f2 (drX 4 d p x) (drM K d p m) (by omega) (by omega) (by omega) (RQ_drop h hd0 hp c3) hw hk
          exact ⟨x', m', k1, SQ.tr ⟨⟨fun j => ⟨rfl, rfl, rfl, rfl, rfl, rfl, rfl⟩, rfl⟩, fun j => ⟨rfl, rfl, rfl, rfl, rfl⟩⟩ k2, fun m0 post hp' => clsE m0 post (fun q => by rw [hb] at q; cases q) (fun _ => ⟨fun q => (by rw [hfar] at q; cases q), fun _ => k3 m0 post hp'⟩), fun x0 post hp' => refE x0 post (fun q => by rw [hb] at q; cases q) (fun _ => ⟨fun q => (by rw [hfar] at q; cases q), fun _ => k4 x0 post hp'⟩)⟩
def UL (i : Nat) (m : St3) : Prop := ∀ e, e < i → m 73 0 e = (if hr m e then m 41 0 e else 0) ∧ m 74 0 e = (if hr m e then m 42 0 e else 0)
theorem strand_loop : ∀ (n i f1 f2 : Nat) (x m : St3), i + n = P → n < f1 → n < f2 → RQ al0 N K P L C x m → UL i m → ∃ x' m', RQ al0 N K P L C x' m' ∧ SR m m' ∧ UL P m' ∧ (∀ (m0 : St3) (post : St3 → Prop), post (gl x' m0) → wL_X1_dropStranded_2 post f1 (nI i) (gl x m0)) ∧ (∀ (x0 : St3) (post : St3 → Prop), wL_X10_oneTick_137 post FU (1 : Int32) (gl x0 m') → wL_X10_oneTick_57 post f2 (nI i) (gl x0 m))
  | n, i, 0, _, _, _, _, hf, _, _, _ => absurd hf (by omega)
  | n, i, _ + 1, 0, _, _, _, _, hf, _, _ => absurd hf (by omega)
  | n, i, f1 + 1, f2 + 1, x, m, e, hf1, hf2, h, hU => by
    obtain ⟨⟨hW, hC, hM, hS, hH, hV, hG, hT, hLt, hR⟩, hz, iC, iR, iF, iH, iS, iO, iD, iN, iG, iM⟩ := id h
    obtain ⟨h1, h2, h3, h4, h5, h6, h7, h8⟩ := id hz
    by_cases q : i = P
    · refine ⟨x, m, h, ⟨fun j => ⟨rfl, rfl, rfl, rfl, rfl, rfl, rfl⟩, rfl⟩, by rw [← q]; exact hU, fun m0 post hp => ?_, fun x0 post hp => ?_⟩
      · show wB_X1_dropStranded_2 post _ (nI i) _
        unfold wB_X1_dropStranded_2
        rw [show gl x m0 1 0 3 = nI P from hC.1]
        exact le2 (by omega) (by omega) (fun c => hp) (fun c => absurd c (by omega))
      · show wB_X10_oneTick_57 post _ (nI i) _
        unfold wB_X10_oneTick_57
        rw [show gl x0 m 24 0 4 = nI P from h3]
        exact le2 (by omega) (by omega) (fun c => hp) (fun c => absurd c (by omega))
    · have hi : i < P := by omega
      -- the reference's two rows
      have h' : ∀ y z, RQ al0 N K P L C x (up3 (up3 m 73 0 i y) 74 0 i z) := fun y z => h
      have r73 : ∀ y z e, (up3 (up3 m 73 0 i y) 74 0 i z) 73 0 e = if e = i then y else m 73 0 e := fun y z e => by simp [up3]
      have r74 : ∀ y z e, (up3 (up3 m 73 0 i y) 74 0 i z) 74 0 e = if e = i then z else m 74 0 e := fun y z e => by simp [up3]
      cases hh : hr m i with
      | false =>
        have c0 : m 43 0 i = 0 := by
          unfold hr at hh
          rw [decide_eq_false_iff_not] at hh
          exact Classical.byContradiction hh
        have hU' : UL (i + 1) (up3 (up3 m 73 0 i 0) 74 0 i 0) := fun e he => by
          rw [r73, r74]
          show _ = (if hr m e = true then m 41 0 e else 0) ∧ _ = (if hr m e = true then m 42 0 e else 0)
          by_cases w : e = i
          · subst w; simp [hh]
          · rw [if_neg w, if_neg w]; exact hU e (by omega)
        obtain ⟨x', m', k1, k2, k3, k4, k5⟩ := strand_loop (n - 1) (i + 1) f1 f2 x _ (by omega) (by omega) (by omega) (h' 0 0) hU'
        refine ⟨x', m', k1, SR.tr ⟨fun j => ⟨rfl, rfl, rfl, rfl, rfl, rfl, rfl⟩, rfl⟩ k2, k3, fun m0 post hp => ?_, fun x0 post hp => ?_⟩
        · show wB_X1_dropStranded_2 post _ (nI i) _
          unfold wB_X1_dropStranded_2
          rw [show gl x m0 1 0 3 = nI P from hC.1, nI_1]
          refine le2 (by omega) (by omega) (fun c => absurd c (by omega)) (fun c => S_isIn hC.2.1 (by omega) ?_)
          rw [show (decide (i < P) && hr m i) = false by rw [hh]; simp]
          exact ⟨fun _ => k4 m0 post hp, fun q => absurd rfl q⟩
        · show wB_X10_oneTick_57 post _ (nI i) _
          unfold wB_X10_oneTick_57 wB_X10_oneTick_89 wB_X10_oneTick_114
          rw [show gl x0 m 24 0 4 = nI P from h3, nI_1]
          refine le2 (by omega) (by omega) (fun c => absurd c (by omega)) (fun c => ⟨i, by omega, rfl, fun _ => ⟨i, by omega, rfl, ?_⟩, fun q => absurd c0 q⟩)
          intro v1 e1
          rw [gl_m rfl] at e1
          subst e1
          refine ⟨i, by omega, rfl, fun _ => ⟨i, by omega, rfl, ?_⟩, fun q => absurd c0 q⟩
          intro v2 e2
          rw [gl_m rfl] at e2
          subst e2
          exact ⟨i, by omega, rfl, fun _ => k5 x0 post hp, fun q => absurd c0 q⟩
      | true =>
        have c0 : ¬ m 43 0 i = 0 := by
          unfold hr at hh
          rw [decide_eq_true_eq] at hh
          exact hh
        obtain ⟨w, hw⟩ := Msk.ex (fun b => decide (b < P) && nr m i b)
        obtain ⟨x1, m1, j1, j2, j3, j4⟩ := forget_loop (w := w) (mk0 := x 15 i 4 &&& (x 15 i 3 ^^^ (-1 : Int32))) hi N 0 FU FU x (up3 (up3 m 73 0 i (m 41 0 i)) 74 0 i (m 42 0 i)) (by omega) (fu N (by omega)) (fu N (by omega)) (h' (m 41 0 i) (m 42 0 i)) hw ((hS i (by omega)).2.and (hS i (by omega)).1.not)
        have hU' : UL (i + 1) m1 := fun e he => by
          obtain ⟨a1, a2, a3, a4, a5⟩ := j2.2 e
          rw [a1, a2, a4, a5, SQ_hr j2 e, r73, r74]
          show _ = (if hr m e = true then m 41 0 e else 0) ∧ _ = (if hr m e = true then m 42 0 e else 0)
          by_cases w : e = i
          · subst w; simp [hh]
          · rw [if_neg w, if_neg w]; exact hU e (by omega)
        obtain ⟨x', m', k1, k2, k3, k4, k5⟩ := strand_loop (n - 1) (i + 1) f1 f2 x1 m1 (by omega) (by omega) (by omega) j1 hU'
        refine ⟨x', m', k1, SR.tr (SR.tr ⟨fun j => ⟨rfl, rfl, rfl, rfl, rfl, rfl, rfl⟩, rfl⟩ j2.1) k2, k3, fun m0 post hp => ?_, fun x0 post hp => ?_⟩
        · show wB_X1_dropStranded_2 post _ (nI i) _
          unfold wB_X1_dropStranded_2
          rw [show gl x m0 1 0 3 = nI P from hC.1, nI_1]
          refine le2 (by omega) (by omega) (fun c => absurd c (by omega)) (fun c => S_isIn hC.2.1 (by omega) ?_)
          rw [show (decide (i < P) && hr m i) = true by rw [hh]; simp [hi]]
          refine ⟨fun q => absurd q (by decide), fun _ => ⟨i, by omega, rfl, S_nearTo (v := gl x m0) (m := m) (P := P) hC hT h8 hi (fun w2 hw2 => ?_)⟩⟩
          rw [Msk.eq hw2 hw]
          exact j3 m0 _ (k4 m0 post hp)
        · show wB_X10_oneTick_57 post _ (nI i) _
          unfold wB_X10_oneTick_57 wB_X10_oneTick_89 wB_X10_oneTick_114
          rw [show gl x0 m 24 0 4 = nI P from h3, nI_1]
          refine le2 (by omega) (by omega) (fun c => absurd c (by omega)) (fun c => ⟨i, by omega, rfl, fun q => absurd q c0, fun _ => ⟨i, by omega, rfl, ?_⟩⟩)
          intro v1 e1
          rw [gl_m rfl] at e1
          subst e1
          refine ⟨i, by omega, rfl, fun q => absurd q c0, fun _ => ⟨i, by omega, rfl, ?_⟩⟩
          intro v2 e2
          rw [gl_m rfl] at e2
          subst e2
          exact ⟨i, by omega, rfl, fun q => absurd q c0, fun _ => j4 x0 _ (k5 x0 post hp)⟩
end FORGET
