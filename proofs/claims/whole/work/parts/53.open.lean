/-! opening keeps the relation -/
section OPEN3
variable {N K P L C : Nat} {x m : St3} {al0 : Nat → Bool}
theorem oX_16 {a e : Nat} {t c y : Int32} : oX a t c y x 16 e 4 = x 16 e 4 ∧ oX a t c y x 16 e 5 = x 16 e 5 ∧ oX a t c y x 16 e 6 = x 16 e 6 ∧ oX a t c y x 16 e 7 = (if e = a then y else x 16 e 7) ∧ oX a t c y x 16 e 8 = (if e = a then t else x 16 e 8) ∧ oX a t c y x 16 e 9 = (if e = a then c else x 16 e 9) := by
  simp [oX, zX, up3]
theorem w0_t {a b : Nat} (h : w0 N P m a b = true) : b < P ∧ nr m a b = true := by
  unfold w0 wn at h
  simp only [Bool.and_eq_true, decide_eq_true_eq] at h
  exact ⟨h.1, h.2.1.1⟩
theorem nr_t {a b : Nat} (h : nr m a b = true) : mt m a b = true ∧ hr m a = true ∧ hr m b = true ∧ bn m a b = false ∧ bn m b a = false := by
  unfold nr at h
  simp only [Bool.and_eq_true, Bool.not_eq_true'] at h
  exact ⟨h.1.1.1.1, h.1.1.1.2, h.1.1.2, h.1.2, h.2⟩
theorem opens_keep {a : Nat} {O S : Nat → Bool} {t c y : Int32} (h : RQ al0 N K P L C x m) (ha : a < P) (hO : ∀ b, O b = true → w0 N P m a b = true) (hy : Msk y O) (ht : t = -1 ∨ ∃ d, d < P ∧ t = nI d) (hc : c = -1 ∨ ∃ d, d < P ∧ c = nI d) : RQ al0 N K P L C (oX a t c y x) (mF a P O S t c m) := by
  obtain ⟨⟨hW, hC, hM, hS, hH, hV, hG, hT, hLt, hR⟩, hz, iC, iR, iF, iH, iS, iO, iD, iN, iG, iM⟩ := id h
  obtain ⟨h1, h2, h3, h4, h5, h6, h7, h8⟩ := id hz
  have eo : ∀ e f, e < 12 → f < 12 → op (mF a P O S t c m) e f = if e = a ∧ f < P then O f else op m e f := fun e f he hf => by
    unfold op
    show decide (¬ (if 56 = 56 ∧ 0 = 0 ∧ 12 * a ≤ 12 * e + f ∧ 12 * e + f < 12 * a + P then bI (O (12 * e + f - 12 * a)) else m 56 0 (12 * e + f)) = 0) = _
    by_cases q : e = a ∧ f < P
    · rw [if_pos (by omega), if_pos q, show 12 * e + f - 12 * a = f by omega]
      cases O f <;> simp [bI]
    · rw [if_neg (by omega), if_neg q]
  have m62 : ∀ e, mF a P O S t c m 62 0 e = if e = a then c else m 62 0 e := fun e => by simp [mF]
  have m63 : ∀ e, mF a P O S t c m 63 0 e = if e = a then t else m 63 0 e := fun e => by simp [mF]
  have m61 : ∀ e f, e < 12 → f < 12 → mF a P O S t c m 61 0 (12 * e + f) = if e = a ∧ f < P then 0 else m 61 0 (12 * e + f) := fun e f he hf => by
    show (if (61 = 60 ∨ 61 = 61) ∧ 0 = 0 ∧ 12 * a ≤ 12 * e + f ∧ 12 * e + f < 12 * a + P then (0 : Int32) else m 61 0 (12 * e + f)) = _
    by_cases q : e = a ∧ f < P
    · rw [if_pos (by omega), if_pos q]
    · rw [if_neg (by omega), if_neg q]
  have m60 : ∀ e f, e < 12 → f < 12 → mF a P O S t c m 60 0 (12 * e + f) = if e = a ∧ f < P then 0 else m 60 0 (12 * e + f) := fun e f he hf => by
    show (if (60 = 60 ∨ 60 = 61) ∧ 0 = 0 ∧ 12 * a ≤ 12 * e + f ∧ 12 * e + f < 12 * a + P then (0 : Int32) else m 60 0 (12 * e + f)) = _
    by_cases q : e = a ∧ f < P
    · rw [if_pos (by omega), if_pos q]
    · rw [if_neg (by omega), if_neg q]
  refine ⟨⟨hW, hC, hM, hS, hH, hV, hG, ⟨fun e he => ?_, fun e he => ?_, fun e he he2 => ?_⟩, fun e f he hf => ?_, hR⟩, hz, iC, iR, iF, iH, iS, fun e f he hf ho => ?_, iD, fun e he he2 => ?_, fun e he => ?_, iM⟩
  · obtain ⟨t1, t2, t3, t4⟩ := hT.1 e he
    obtain ⟨a1, a2, a3, a4, a5, a6⟩ := oX_16 (x := x) (a := a) (e := e) (t := t) (c := c) (y := y)
    rw [a1, a2, a3, a4]
    refine ⟨t1, t2, t3, ?_⟩
    by_cases q : e = a
    · subst q
      rw [if_pos rfl]
      refine hy.ext (fun b hb => ?_)
      by_cases w : b < P
      · rw [eo e b he (by omega), if_pos ⟨rfl, w⟩]
        show O b = (decide (b < P) && O b && !bn m e b && !bn m b e)
        cases hb0 : O b with
        | false => simp
        | true =>
          obtain ⟨n1, n2, n3, n4, n5⟩ := nr_t (w0_t (hO b hb0)).2
          simp [w, n4, n5]
      · cases hb0 : O b with
        | false => simp [w]
        | true => exact absurd (w0_t (hO b hb0)).1 w
    · rw [if_neg q]
      refine t4.ext (fun b hb => ?_)
      by_cases w : b < P
      · rw [eo e b he (by omega), if_neg (fun z => q z.1)]
        rfl
      · simp [w]
  · obtain ⟨a1, a2, a3, a4, a5, a6⟩ := oX_16 (x := x) (a := a) (e := e) (t := t) (c := c) (y := y)
    rw [a5, a6, m62, m63]
    by_cases q : e = a
    · simp [q]
    · rw [if_neg q, if_neg q, if_neg q, if_neg q]; exact hT.2.1 e he
  · obtain ⟨a1, a2, a3, a4, a5, a6⟩ := oX_16 (x := x) (a := a) (e := e) (t := t) (c := c) (y := y)
    rw [a5, a6, if_neg (by omega), if_neg (by omega)]
    exact hT.2.2 e he he2
  · obtain ⟨l1, l2, l3, l4⟩ := hLt e f he hf
    have x20 : oX a t c y x 20 e f = if e = a then 0 else x 20 e f := by simp [oX, zX, up3, hf]
    have x21 : oX a t c y x 21 e f = if e = a then 0 else x 21 e f := by simp [oX, zX, up3, hf]
    rw [x20, x21, m61 e f he hf, m60 e f he hf]
    refine ⟨?_, ?_, l3, l4⟩
    · by_cases q : e = a
      · rw [if_pos q]
        by_cases w : f < P
        · rw [if_pos ⟨q, w⟩]
        · rw [if_neg (fun z => w z.2)]
          exact ((iN f (by omega) hf).2.2.2.2.2 e he).1.symm
      · rw [if_neg q, if_neg (fun z => q z.1)]; exact l1
    · by_cases q : e = a
      · rw [if_pos q]
        by_cases w : f < P
        · rw [if_pos ⟨q, w⟩]
        · rw [if_neg (fun z => w z.2)]
          exact ((iN f (by omega) hf).2.2.2.2.2 e he).2.symm
      · rw [if_neg q, if_neg (fun z => q z.1)]; exact l2
  · rw [eo e f he hf] at ho
    by_cases q : e = a ∧ f < P
    · rw [if_pos q] at ho
      obtain ⟨rfl, q2⟩ := q
      obtain ⟨n1, n2, n3, n4, n5⟩ := nr_t (w0_t (hO f ho)).2
      exact ⟨n1, n2, n3, ha, q2⟩
    · rw [if_neg q] at ho
      exact iO e f he hf ho
  · obtain ⟨n1, n2, n3, n4, n5, n6⟩ := iN e he he2
    refine ⟨n1, n2, n3, n4, n5, fun f hf => ?_⟩
    rw [m61 f e hf he2, m60 f e hf he2, if_neg (by omega), if_neg (by omega)]
    exact n6 f hf
  · obtain ⟨g1, g2, g3, g4, g5⟩ := iG e he
    refine ⟨g1, g2, g3, ?_, ?_⟩
    · rw [m62]
      split
      · exact hc
      · exact g4
    · rw [m63]
      split
      · exact ht
      · exact g5
theorem opens_ok {a : Nat} (h : RQ al0 N K P L C x m) (ha : a < P) : ∃ x' m', RQ al0 N K P L C x' m' ∧ SR m m' ∧ (∀ (m0 : St3) (post : St3 → Prop), post (gl x' m0) → wp_X4_openAnew (nI a) (gl x m0) post) ∧ (∀ (x0 : St3) (post : St3 → Prop), post (gl x0 m') → wp_X10_opens (nI a) (gl x0 m) post) := by
  obtain ⟨⟨hW, hC, hM, hS, hH, hV, hG, hT, hLt, hR⟩, hz, iC, iR, iF, iH, iS, iO, iD, iN, iG, iM⟩ := id h
  obtain ⟨h1, h2, h3, h4, h5, h6, h7, h8⟩ := id hz
  obtain ⟨g1, g2, g3, g4, g5⟩ := iG a ha
  have x8 : x 16 a 8 = m 63 0 a := (hT.2.1 a ha).1
  have exT : ∃ T, T ≤ P ∧ m 63 0 a + 1 = nI T ∧ ∀ i, i < P → (nI i ≤ m 63 0 a ↔ i < T) := by
    rcases g5 with g | ⟨c, hc, g⟩
    · refine ⟨0, by omega, by rw [g]; decide, fun i hi => ?_⟩
      rw [g, Int32.le_iff_toInt_le, nI_toInt (by omega), show ((-1 : Int32)).toInt = -1 from by decide]
      omega
    · refine ⟨c + 1, by omega, by rw [g, nI_1], fun i hi => ?_⟩
      rw [g, nI_leI (by omega) (by omega)]
      omega
  obtain ⟨T, hT0, hT1, hT2⟩ := exT
  have sub : ∀ b, opn N P m a (w0 N P m a) 3 (fun _ => false) b = true → w0 N P m a b = true := opn_sub 3 _ (fun b hb => by cases hb)
  obtain ⟨y, hy⟩ := Msk.ex (fun b => opn N P m a (w0 N P m a) 3 (fun _ => false) b || decide (nx (fun b => w0 N P m a b && !opn N P m a (w0 N P m a) 3 (fun _ => false) b) T P = some b))
  have k := opens_keep (S := fun b => w0 N P m a b && !opn N P m a (w0 N P m a) 3 (fun _ => false) b) (t := tN (nx (fun b => w0 N P m a b && !opn N P m a (w0 N P m a) 3 (fun _ => false) b) T P) (m 63 0 a)) (c := eI (nx (fun b => w0 N P m a b && !opn N P m a (w0 N P m a) 3 (fun _ => false) b) T P)) h ha (fun b hb => by
    simp only [Bool.or_eq_true, decide_eq_true_eq] at hb
    rcases hb with hb | hb
    · exact sub b hb
    · have := (nx_lt hT0 hb).2
      simp only [Bool.and_eq_true] at this
      exact this.1) hy (by
    cases ho : nx (fun b => w0 N P m a b && !opn N P m a (w0 N P m a) 3 (fun _ => false) b) T P with
    | none => exact g5
    | some d => exact Or.inr ⟨d, (nx_lt hT0 ho).1, rfl⟩) (by
    cases ho : nx (fun b => w0 N P m a b && !opn N P m a (w0 N P m a) 3 (fun _ => false) b) T P with
    | none => exact Or.inl rfl
    | some d => exact Or.inr ⟨d, (nx_lt hT0 ho).1, rfl⟩)
  refine ⟨_, _, k, ⟨fun j => ⟨rfl, rfl, rfl, rfl, rfl, rfl, rfl⟩, rfl⟩, fun m0 post hp => ?_, fun x0 post hp => M_opens hz iS ha hT0 hT1 hp⟩
  have run : ∀ w, Msk w (w0 N P m a) → wL_X4_openAnew_42 post FU a a w (0 : Int32) (0 : Int32) (gl x m0) := fun w hw => by
    refine S_o42 (N := N) (m := m) (W := w0 N P m a) (R := opn N P m a (w0 N P m a) 3 (fun _ => false)) hC hM hLt iD h8 ha hT0 (by rw [x8]; exact hT2) hw (fun y2 hy2 => ?_) 3 0 FU 0 (fun _ => false) (by omega) (fu 3 (by omega)) (Msk.none.ext (fun b _ => rfl)) rfl
    rw [Msk.eq hy2 hy, x8]
    exact hp
  unfold wp_X4_openAnew
  refine ⟨a, by omega, rfl, ?_⟩
  unfold wp_X3_opensToNobody
  have k2 : gl x m0 14 a 2 = m 40 0 a := (hM.1 a (by omega)).1
  rw [k2]
  have none : (m 40 0 a = 2 ∨ m 40 0 a = 5) → Msk 0 (w0 N P m a) := fun q => Msk.none.ext (fun b _ => by
    unfold w0
    rcases q with q | q <;> rw [q] <;> simp)
  refine ⟨fun c => ⟨fun q => absurd q (by decide), fun _ => run 0 (none (Or.inl c))⟩, fun c => ⟨fun c2 => ⟨fun _ => ?_, fun q => absurd rfl q⟩, fun c2 => ⟨fun q => absurd q (by decide), fun _ => run 0 (none (Or.inr c2))⟩⟩⟩
  refine S_wantersOf (v := gl x m0) (m := m) (N := N) (P := P) hC hM hS hT h8 h5 ha (fun w hw => run w (hw.ext (fun b hb => ?_)))
  unfold w0
  simp [c, c2]
theorem open_loop (hc4 : nI C - nI C / (4 : Int32) * (4 : Int32) = (1 : Int32)) : ∀ (n i f1 f2 : Nat) (x m : St3), i + n = P → n < f1 → n < f2 → RQ al0 N K P L C x m → ∃ x' m', RQ al0 N K P L C x' m' ∧ SR m m' ∧ (∀ (m0 : St3) (post : St3 → Prop), post (gl x' m0) → wL_X4_openAll_2 post f1 (nI i) (gl x m0)) ∧ (∀ (x0 : St3) (post : St3 → Prop), wL_X10_oneTick_57 post FU (0 : Int32) (gl x0 m') → wL_X10_oneTick_17 post f2 (nI i) (gl x0 m))
  | n, i, 0, _, _, _, _, hf, _, _ => absurd hf (by omega)
  | n, i, _ + 1, 0, _, _, _, _, hf, _ => absurd hf (by omega)
  | n, i, f1 + 1, f2 + 1, x, m, e, hf1, hf2, h => by
    obtain ⟨⟨hW, hC, hM, hS, hH, hV, hG, hT, hLt, hR⟩, hz, iC, iR, iF, iH, iS, iO, iD, iN, iG, iM⟩ := id h
    obtain ⟨h1, h2, h3, h4, h5, h6, h7, h8⟩ := id hz
    by_cases q : i = P
    · refine ⟨x, m, h, ⟨fun j => ⟨rfl, rfl, rfl, rfl, rfl, rfl, rfl⟩, rfl⟩, fun m0 post hp => ?_, fun x0 post hp => ?_⟩
      · show wB_X4_openAll_2 post _ (nI i) _
        unfold wB_X4_openAll_2
        rw [show gl x m0 1 0 3 = nI P from hC.1]
        exact le2 (by omega) (by omega) (fun c => hp) (fun c => absurd c (by omega))
      · show wB_X10_oneTick_17 post _ (nI i) _
        unfold wB_X10_oneTick_17
        rw [show gl x0 m 24 0 4 = nI P from h3]
        exact le2 (by omega) (by omega) (fun c => hp) (fun c => absurd c (by omega))
    · have hi : i < P := by omega
      have clsE : ∀ (m0 : St3) (post : St3 → Prop), (hr m i = false → wL_X4_openAll_2 post f1 (nI (i + 1)) (gl x m0)) → (hr m i = true → wp_X4_openAnew (nI i) (gl x m0) (fun v3 => wL_X4_openAll_2 post f1 (nI (i + 1)) v3)) → wL_X4_openAll_2 post (f1 + 1) (nI i) (gl x m0) := by
        intro m0 post k1 k2
        show wB_X4_openAll_2 post _ (nI i) _
        unfold wB_X4_openAll_2
        rw [show gl x m0 1 0 3 = nI P from hC.1, nI_1]
        refine le2 (by omega) (by omega) (fun c => absurd c (by omega)) (fun c => S_isIn hC.2.1 (by omega) (bI_if (fun c2 => k1 ?_) (fun c2 => k2 ?_)))
        · simpa [hi] using c2
        · simpa [hi] using c2
      have refE : ∀ (x0 : St3) (post : St3 → Prop), (hr m i = false → wL_X10_oneTick_17 post f2 (nI (i + 1)) (gl x0 m)) → (hr m i = true → wp_X10_opens (nI i) (gl x0 m) (fun v3 => wL_X10_oneTick_17 post f2 (nI (i + 1)) v3)) → wL_X10_oneTick_17 post (f2 + 1) (nI i) (gl x0 m) := by
        intro x0 post k1 k2
        show wB_X10_oneTick_17 post _ (nI i) _
        unfold wB_X10_oneTick_17
        rw [show gl x0 m 24 0 4 = nI P from h3, show gl x0 m 24 0 5 = nI C from iC, nI_1]
        refine le2 (by omega) (by omega) (fun c => absurd c (by omega)) (fun c => ⟨by decide, fun q => absurd hc4 q, fun _ => ⟨i, by omega, rfl, fun c2 => k1 ?_, fun c2 => k2 ?_⟩⟩)
        · unfold hr; rw [decide_eq_false_iff_not]; intro z; exact z c2
        · unfold hr; rw [decide_eq_true_eq]; exact c2
      cases hh : hr m i with
      | false =>
        obtain ⟨x', m', k1, k2, k3, k4⟩ := open_loop hc4 (n - 1) (i + 1) f1 f2 x m (by omega) (by omega) (by omega) h
        exact ⟨x', m', k1, k2, fun m0 post hp => clsE m0 post (fun _ => k3 m0 post hp) (fun q => by rw [hh] at q; cases q), fun x0 post hp => refE x0 post (fun _ => k4 x0 post hp) (fun q => by rw [hh] at q; cases q)⟩
      | true =>
        obtain ⟨x1, m1, j1, j2, j3, j4⟩ := opens_ok h hi
        obtain ⟨x', m', k1, k2, k3, k4⟩ := open_loop hc4 (n - 1) (i + 1) f1 f2 x1 m1 (by omega) (by omega) (by omega) j1
        exact ⟨x', m', k1, SR.tr j2 k2, fun m0 post hp => clsE m0 post (fun q => by rw [hh] at q; cases q) (fun _ => j3 m0 _ (k3 m0 post hp)), fun x0 post hp => refE x0 post (fun q => by rw [hh] at q; cases q) (fun _ => j4 x0 _ (k4 x0 post hp))⟩
end OPEN3
