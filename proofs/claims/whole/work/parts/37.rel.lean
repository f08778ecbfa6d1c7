/-! the rest of what the class's reading methods answer -/
section SREAD3
variable {N K P L : Nat} {v m : St3} {post : Int32 → St3 → Prop}
theorem S_wantersOf_L {x y0 : Int32} {f0 g0 : Nat → Bool} (hC : GC P v m) (hS : GS N v m) (hP : P ≤ 12) (hN : N ≤ 24) (hx : Msk x (fun p => decide (p < N) && f0 p)) (hy0 : Msk y0 g0) (h : ∀ z, Msk z (fun i => decide (i < P) && g0 i && an (fun p => f0 p && !hs m i p) N) → post z v) : ∀ (n i f : Nat) (z : Int32), i + n = P → n < f → Msk z (fun j => decide (j < i) && g0 j && an (fun p => f0 p && !hs m j p) N) → wL_X2_wantersOf_22 post f x y0 z (nI i) v
  | n, i, 0, z, _, hf, _ => absurd hf (by omega)
  | n, i, f + 1, z, e, hf, hz => by
    show wB_X2_wantersOf_22 post _ x y0 z (nI i) v
    unfold wB_X2_wantersOf_22
    rw [hC.1, nI_1]
    have stop : i < P → (g0 i && an (fun p => f0 p && !hs m i p) N) = false → wL_X2_wantersOf_22 post f x y0 z (nI (i + 1)) v := fun c w =>
      S_wantersOf_L hC hS hP hN hx hy0 h (n - 1) (i + 1) f z (by omega) (by omega) (hz.ext (fun j _ => by
        by_cases q : j = i
        · subst q
          rw [Bool.and_assoc, Bool.and_assoc, w]; simp
        · rw [show decide (j < i) = decide (j < i + 1) by congr 1; apply propext; constructor <;> intro <;> omega]))
    refine le2 (by omega) (by omega) (fun c => ?_) (fun c => S_isIn hy0 (by omega) (bI_if (fun c2 => stop c (by simp [c2])) (fun c2 => ⟨i, by omega, rfl, ?_⟩)))
    · exact h z (by rw [show P = i by omega]; exact hz)
    · have hk := hx.and (hS i (by omega)).1.not
      rw [hk.z]
      have ea : an (fun p => f0 p && !hs m i p) N = false ↔ ∀ j, j < 32 → ((decide (j < N) && f0 j) && !(decide (j < N) && hs m i j)) = false := by
        rw [an_f]
        constructor
        · intro q j hj
          by_cases w : j < N
          · have := q j w
            simpa [w] using this
          · simp [w]
        · intro q j hj
          have := q j (by omega)
          simpa [hj] using this
      refine ⟨fun c3 => stop c (by rw [ea.mpr c3]; simp), fun c3 => ?_⟩
      have c4 : an (fun p => f0 p && !hs m i p) N = true := by
        cases hw : an (fun p => f0 p && !hs m i p) N with
        | true => rfl
        | false => exact absurd (ea.mp hw) c3
      exact S_wantersOf_L hC hS hP hN hx hy0 h (n - 1) (i + 1) f _ (by omega) (by omega) ((hz.or1 (n := i) (by omega)).ext (fun j _ => by
        by_cases q : j = i
        · subst q
          simp only [c2, c4]
          simp
        · rw [show decide (j < i + 1) = decide (j < i) by congr 1; apply propext; constructor <;> intro <;> omega]
          simp [q]))
theorem S_wantersOf {a : Nat} (hC : GC P v m) (hM : GM P v m) (hS : GS N v m) (hT : GT P v m) (hP : P ≤ 12) (hN : N ≤ 24) (ha : a < P) (h : ∀ z, Msk z (fun b => decide (b < P) && wn N m b a) → post z v) : wp_X2_wantersOf (nI a) v post := by
  unfold wp_X2_wantersOf
  refine ⟨a, by omega, rfl, S_toldPieces hM hS hN (by omega) (fun x hx => S_nearTo hC hT hP ha (fun y hy => ?_))⟩
  refine S_wantersOf_L hC hS hP hN hx hy (fun z hz => h z (hz.ext (fun i _ => ?_))) P 0 FU 0 (by omega) (fu P (by omega)) (Msk.none.ext (fun j _ => by simp))
  by_cases q : i < P
  · simp [q, wn]
  · simp [q]
theorem S_had_L {x : Int32} {but : Option Nat} (hC : GC P v m) (hS : GS N v m) (hP : P ≤ 12) (hu : ∀ n, but = some n → n < 12) (h : ∀ z, Msk z (fun p => decide (p < N) && an (fun d => oN but (fun o => decide (¬ d = o)) && hr m d && hs m d p) P) → post z v) : ∀ (n i f : Nat) (z : Int32), i + n = P → n < f → Msk z (fun p => decide (p < N) && an (fun d => oN but (fun o => decide (¬ d = o)) && hr m d && hs m d p) i) → wL_X2_hadByOthersThan_4 post f (eI but) z (nI i) v
  | n, i, 0, z, _, hf, _ => absurd hf (by omega)
  | n, i, f + 1, z, e, hf, hz => by
    show wB_X2_hadByOthersThan_4 post _ (eI but) z (nI i) v
    unfold wB_X2_hadByOthersThan_4
    rw [hC.1, nI_1]
    have k2 : oN but (fun o => decide (¬ i = o)) = true ↔ ¬ nI i = eI but := by
      cases but with
      | none => simp [oN, eI, nI_m1 (show i < 2 ^ 31 by omega)]
      | some o =>
        have ho := hu o rfl
        simp only [eI, oN, decide_eq_true_eq]
        rw [nI_eq (by omega) (by omega)]
    have stop : i < P → (oN but (fun o => decide (¬ i = o)) && hr m i) = false → wL_X2_hadByOthersThan_4 post f (eI but) z (nI (i + 1)) v := fun c w =>
      S_had_L (x := x) hC hS hP hu h (n - 1) (i + 1) f z (by omega) (by omega) (hz.ext (fun p _ => by rw [an_s, w]; simp))
    refine le2 (by omega) (by omega) (fun c => ?_) (fun c => ⟨fun c2 => stop c ?_, fun c2 => S_isIn hC.2.1 (by omega) (bI_if (fun c3 => stop c ?_) (fun c3 => ⟨i, by omega, rfl, ?_⟩))⟩)
    · exact h z (by rw [show P = i by omega]; exact hz)
    · have : oN but (fun o => decide (¬ i = o)) = false := by rw [← Bool.not_eq_true]; intro q; exact k2.mp q c2
      rw [this]; rfl
    · have : hr m i = false := by simpa [c] using c3
      rw [this]; simp
    · have c4 : hr m i = true := by simpa [c] using c3
      exact S_had_L (x := x) hC hS hP hu h (n - 1) (i + 1) f _ (by omega) (by omega) ((hz.orm (hS i (by omega)).1).ext (fun p _ => by
        rw [an_s, k2.mpr c2, c4]
        cases decide (p < N) <;> simp))
theorem S_had {but : Option Nat} (hC : GC P v m) (hS : GS N v m) (hP : P ≤ 12) (hu : ∀ n, but = some n → n < 12) (h : ∀ z, Msk z (fun p => decide (p < N) && an (fun d => oN but (fun o => decide (¬ d = o)) && hr m d && hs m d p) P) → post z v) : wp_X2_hadByOthersThan (eI but) v post :=
  S_had_L (x := 0) hC hS hP hu h P 0 FU 0 (by omega) (fu P (by omega)) (Msk.none.ext (fun p _ => by simp [an_0]))
/-- done, by the tick in which it became so -/
def Dn (N P : Nat) (m : St3) : Prop := ∀ d, d < P → (m 49 0 d = -1 ↔ dn N m d = false)
theorem S_done {d : Nat} (hM : GM P v m) (hD : Dn N P m) (hd0 : d < P) (h : post (bI (dn N m d)) v) : wp_X3_isDone d v post :=
  S_isDone (by rw [(hM.2.1 d hd0).2]; exact hD d hd0) h
theorem S_doneAndHere_L (hC : GC P v m) (hM : GM P v m) (hD : Dn N P m) (hP : P ≤ 12) (h : post (nI (ct (fun d => hr m d && dn N m d) P)) v) : ∀ (n i f : Nat), i + n = P → n < f → wL_X2_doneAndHere_4 post f (nI (ct (fun d => hr m d && dn N m d) i)) (nI i) v
  | n, i, 0, _, hf => absurd hf (by omega)
  | n, i, f + 1, e, hf => by
    show wB_X2_doneAndHere_4 post _ _ (nI i) v
    unfold wB_X2_doneAndHere_4
    rw [hC.1, nI_1]
    have nx := S_doneAndHere_L hC hM hD hP h (n - 1) (i + 1) f
    refine le2 (by omega) (by omega) (fun c => ?_) (fun c => S_isIn hC.2.1 (by omega) (bI_if (fun c2 => S_oneIf (b := false) ?_) (fun c2 => ⟨i, by omega, rfl, S_done hM hD c (bI_if (fun c3 => S_oneIf (b := false) ?_) (fun c3 => S_oneIf (b := true) ?_))⟩)))
    · rw [show i = P by omega]; exact h
    · have : hr m i = false := by simpa [c] using c2
      rw [bI_f, acc0 (by simp [this])]; exact nx (by omega) (by omega)
    · rw [bI_f, acc0 (by simp [c3])]; exact nx (by omega) (by omega)
    · have : hr m i = true := by simpa [c] using c2
      rw [bI_t, acc1 (by simp [this, c3])]; exact nx (by omega) (by omega)
/-- a sum that wraps -/
def si (g : Nat → Int32) : Nat → Int32
  | 0 => 0
  | n + 1 => si g n + g n
theorem si_s (g : Nat → Int32) (n : Nat) : si g (n + 1) = si g n + g n := rfl
theorem si_cong {f g : Nat → Int32} : ∀ {n : Nat}, (∀ k, k < n → f k = g k) → si f n = si g n
  | 0, _ => rfl
  | n + 1, h => by rw [si_s, si_s, si_cong (fun k hk => h k (by omega)), h n (by omega)]
theorem S_failedInAll_L (hC : GC P v m) (hM : GM P v m) (hP : P ≤ 12) (h : post (si (fun d => m 48 0 d) P) v) : ∀ (n i f : Nat), i + n = P → n < f → wL_X2_failedInAll_4 post f (si (fun d => m 48 0 d) i) (nI i) v
  | n, i, 0, _, hf => absurd hf (by omega)
  | n, i, f + 1, e, hf => by
    show wB_X2_failedInAll_4 post _ _ (nI i) v
    unfold wB_X2_failedInAll_4
    rw [hC.1, nI_1]
    refine le2 (by omega) (by omega) (fun c => ?_) (fun c => ⟨i, by omega, rfl, ?_⟩)
    · rw [show i = P by omega]; exact h
    · rw [(hM.1 i (by omega)).2.2.2.2.2.2]
      exact S_failedInAll_L hC hM hP h (n - 1) (i + 1) f (by omega) (by omega)
theorem S_spareInAll_L (hC : GC P v m) (hM : GM P v m) (hP : P ≤ 12) (h : post (si (fun d => m 47 0 d) P) v) : ∀ (n i f : Nat), i + n = P → n < f → wL_X2_spareInAll_4 post f (si (fun d => m 47 0 d) i) (nI i) v
  | n, i, 0, _, hf => absurd hf (by omega)
  | n, i, f + 1, e, hf => by
    show wB_X2_spareInAll_4 post _ _ (nI i) v
    unfold wB_X2_spareInAll_4
    rw [hC.1, nI_1]
    refine le2 (by omega) (by omega) (fun c => ?_) (fun c => ⟨i, by omega, rfl, ?_⟩)
    · rw [show i = P by omega]; exact h
    · rw [(hM.1 i (by omega)).2.2.2.2.2.1]
      exact S_spareInAll_L hC hM hP h (n - 1) (i + 1) f (by omega) (by omega)
theorem S_heldInAll_L {d : Nat} (hS : GS N v m) (hH : GH N K v m) (hF : Fr N K m) (hd0 : d < 12) (h : post (nI (su (fun p => ct (xh N K m d p) 4) 24)) v) : ∀ (n i f : Nat), i + n = 24 → n < f → wL_X6_heldInAll_4 post f d (nI (su (fun p => ct (xh N K m d p) 4) i)) (nI i) v
  | n, i, 0, _, hf => absurd hf (by omega)
  | n, i, f + 1, e, hf => by
    show wB_X6_heldInAll_4 post _ d _ (nI i) v
    unfold wB_X6_heldInAll_4
    rw [nI_1, show (24 : Int32) = nI 24 from rfl]
    refine le2 (by omega) (by omega) (fun c => ?_) (fun c => S_heldOf hS hH hF hd0 (by omega) ?_)
    · rw [show i = 24 by omega]; exact h
    · rw [nI_add]
      exact S_heldInAll_L hS hH hF hd0 h (n - 1) (i + 1) f (by omega) (by omega)
theorem su_cut {g : Nat → Nat} {N : Nat} : ∀ n, (∀ k, N ≤ k → k < N + n → g k = 0) → su g (N + n) = su g N
  | 0, _ => rfl
  | n + 1, h => by
    show su g (N + n + 1) = _
    rw [su_s, su_cut n (fun k h1 h2 => h k h1 (by omega)), h (N + n) (by omega) (by omega)]
    rfl
theorem S_heldInAll {d : Nat} (hS : GS N v m) (hH : GH N K v m) (hF : Fr N K m) (hN : N ≤ 24) (hK : K ≤ 4) (hd0 : d < 12) (h : post (nI (hh N K m d)) v) : wp_X6_heldInAll d v post := by
  refine S_heldInAll_L hS hH hF hd0 ?_ 24 0 FU (by omega) (fu 24 (by omega))
  have e : su (fun p => ct (xh N K m d p) 4) 24 = hh N K m d := by
    rw [show 24 = N + (24 - N) by omega, su_cut (24 - N) (fun k h1 h2 => xh_0 (by omega))]
    refine su_cong (fun p hp => ?_)
    cases hz : hs m d p with
    | false => simp [xh_ct hp hK hz]
    | true => rw [xh_0 (by rw [hz]; simp)]; simp
  rw [e]; exact h
theorem S_isMember {x : Int32} (hC : GC P v m) (hP : P ≤ 12) (h : post (bI (ib P x)) v) : wp_X2_isMember x v post := by
  unfold wp_X2_isMember
  rw [hC.1]
  refine ⟨fun c => ?_, fun c => ⟨fun c2 => ?_, fun c2 => ?_⟩⟩
  · rw [show ib P x = false by unfold ib; simp; rw [Int32.lt_iff_toInt_lt, Int32.toInt_zero] at c; omega] at h; exact h
  · rw [show ib P x = false by unfold ib; simp; rw [Int32.le_iff_toInt_le, nI_toInt (by omega)] at c2; omega] at h; exact h
  · rw [show ib P x = true by unfold ib; simp; rw [Int32.lt_iff_toInt_lt, Int32.toInt_zero] at c; rw [Int32.le_iff_toInt_le, nI_toInt (by omega)] at c2; omega] at h; exact h
theorem S_areTwo {x y : Int32} (hC : GC P v m) (hP : P ≤ 12) (h : post (bI (ib P x && ib P y && decide (¬ x = y))) v) : wp_X2_areTwo x y v post := by
  unfold wp_X2_areTwo
  refine S_isMember hC hP (bI_if (fun c => ?_) (fun c => S_isMember hC hP (bI_if (fun c2 => ?_) (fun c2 => ⟨fun c3 => ?_, fun c3 => ?_⟩))))
  · rw [c] at h; exact h
  · rw [c, c2] at h; exact h
  · rw [c, c2, show decide (¬ x = y) = false by simp [c3]] at h; exact h
  · rw [c, c2, show decide (¬ x = y) = true by simp [c3]] at h; exact h
theorem S_isPiece {x : Int32} (hW : GW N K v m) (hN : N ≤ 24) (h : post (bI (ib N x)) v) : wp_X8_isPiece x v post := by
  unfold wp_X8_isPiece
  rw [hW.1]
  refine ⟨fun c => ?_, fun c => ⟨fun c2 => ?_, fun c2 => ?_⟩⟩
  · rw [show ib N x = false by unfold ib; simp; rw [Int32.lt_iff_toInt_lt, Int32.toInt_zero] at c; omega] at h; exact h
  · rw [show ib N x = false by unfold ib; simp; rw [Int32.le_iff_toInt_le, nI_toInt (by omega)] at c2; omega] at h; exact h
  · rw [show ib N x = true by unfold ib; simp; rw [Int32.lt_iff_toInt_lt, Int32.toInt_zero] at c; rw [Int32.le_iff_toInt_le, nI_toInt (by omega)] at c2; omega] at h; exact h
theorem S_isBlock {x y : Int32} (hW : GW N K v m) (hN : N ≤ 24) (hK : K ≤ 4) (h : post (bI (ib N x && ib K y)) v) : wp_X8_isBlock x y v post := by
  unfold wp_X8_isBlock
  refine S_isPiece hW hN (bI_if (fun c => ?_) (fun c => ?_))
  · rw [c] at h; exact h
  · rw [c, Bool.true_and] at h
    rw [hW.2.1]
    refine ⟨fun c => ?_, fun c => ⟨fun c2 => ?_, fun c2 => ?_⟩⟩
    · rw [show ib K y = false by unfold ib; simp; rw [Int32.lt_iff_toInt_lt, Int32.toInt_zero] at c; omega] at h; exact h
    · rw [show ib K y = false by unfold ib; simp; rw [Int32.le_iff_toInt_le, nI_toInt (by omega)] at c2; omega] at h; exact h
    · rw [show ib K y = true by unfold ib; simp; rw [Int32.lt_iff_toInt_lt, Int32.toInt_zero] at c; rw [Int32.le_iff_toInt_le, nI_toInt (by omega)] at c2; omega] at h; exact h
theorem S_isWithin {x a b : Int32} (h : post (bI (decide (a ≤ x ∧ x ≤ b))) v) : wp_X9_isWithin x a b v post := M_in (v := v) h
theorem S_valueOf {x y : Int32} (hW : GW N K v m) (h : post (vl (m 24 0 3) x y) v) : wp_X8_valueOf x y v post := by
  unfold wp_X8_valueOf
  rw [hW.2.2]
  intro z e
  subst e
  exact h
theorem S_sumOfW_L {x : Int32} (hW : GW N K v m) (hK2 : K ≤ 4) (h : post (sm (m 24 0 3) x 0 0 K) v) : ∀ (n i f : Nat) (s : Int32), i + n = K → n < f → sm (m 24 0 3) x s i n = sm (m 24 0 3) x 0 0 K → wL_X8_sumOf_4 post f x s (nI i) v
  | n, i, 0, s, _, hf, _ => absurd hf (by omega)
  | n, i, f + 1, s, e, hf, hq => by
    show wB_X8_sumOf_4 post _ x s (nI i) v
    unfold wB_X8_sumOf_4 wp_X9_sumWith
    rw [hW.2.1, nI_1]
    refine le2 (by omega) (by omega) (fun c => ?_) (fun c => S_valueOf hW ?_)
    · have : n = 0 := by omega
      subst this
      rw [← hq] at h; exact h
    · obtain ⟨n, rfl⟩ : ∃ k, n = k + 1 := ⟨n - 1, by omega⟩
      exact S_sumOfW_L hW hK2 h n (i + 1) f _ (by omega) (by omega) (by rw [← hq]; rfl)
theorem S_sumOfW {x : Int32} (hW : GW N K v m) (hK2 : K ≤ 4) (h : post (sm (m 24 0 3) x 0 0 K) v) : wp_X8_sumOf x v post :=
  S_sumOfW_L hW hK2 h K 0 FU 0 (by omega) (fu K (by omega)) rfl
theorem S_late {a b : Nat} (hM : GM P v m) (hLt : GL v m) (hD : Dn N P m) (ha : a < P) (hP : P ≤ 12) (hb : b < 12) (h : post (lt N m a b) v) : wp_X3_lateNumberOf a (nI b) v post := by
  unfold wp_X3_lateNumberOf
  obtain ⟨l1, l2, -⟩ := hLt a b (by omega) hb
  refine S_done hM hD ha (bI_if (fun c => ⟨b, hb, rfl, ?_⟩) (fun c => ⟨b, hb, rfl, ?_⟩))
  · rw [l1]
    rw [show lt N m a b = m 61 0 (12 * a + b) by simp [lt, c]] at h; exact h
  · rw [l2]
    rw [show lt N m a b = m 60 0 (12 * a + b) by simp [lt, c]] at h; exact h
end SREAD3
