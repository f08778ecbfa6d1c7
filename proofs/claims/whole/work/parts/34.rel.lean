/-! how the class's cells stand to the reference's, and what the class's reading methods answer -/
def GW (N K : Nat) (v m : St3) : Prop := v 5 0 0 = nI N ∧ v 5 0 1 = nI K ∧ v 5 0 2 = m 24 0 3
def GC (P : Nat) (v m : St3) : Prop := v 1 0 3 = nI P ∧ Msk (v 1 0 4) (fun d => decide (d < P) && hr m d) ∧ v 1 0 5 = m 24 0 5 ∧ v 1 0 6 = m 24 0 6 ∧ v 1 0 7 = m 24 0 7
def GM (P : Nat) (v m : St3) : Prop := (∀ d, d < 12 → v 14 d 2 = m 40 0 d ∧ v 14 d 3 = m 41 0 d ∧ v 14 d 4 = m 42 0 d ∧ v 14 d 7 = m 45 0 d ∧ v 14 d 8 = m 46 0 d ∧ v 14 d 9 = m 47 0 d ∧ v 14 d 10 = m 48 0 d) ∧ (∀ d, d < P → v 14 d 5 = m 44 0 d ∧ v 14 d 6 = m 49 0 d) ∧ (∀ d, P ≤ d → d < 12 → v 14 d 5 = 2 ∧ v 14 d 6 = -1)
def GS (N : Nat) (v m : St3) : Prop := ∀ d, d < 12 → Msk (v 15 d 3) (fun p => decide (p < N) && hs m d p) ∧ Msk (v 15 d 4) (fun p => decide (p < N) && mk m d p)
def GH (N K : Nat) (v m : St3) : Prop := ∀ d p b, d < 12 → p < 24 → b < 4 → v 17 d (4 * p + b) = if p < N ∧ b < K ∧ hl m d p b = true then fr m d p b else -1
def GV (v m : St3) : Prop := ∀ d p b, d < 12 → p < 24 → b < 4 → v 18 d (4 * p + b) = gt m d p b
/-- entries k of the road of which al holds are under way -/
def GN (al : Nat → Bool) (L : Nat) (v m : St3) : Prop := (∀ d p b, d < 12 → p < 24 → b < 4 → v 19 d (4 * p + b) = nI (ct (fun k => al k && decide (m 65 0 k = nI d ∧ m 67 0 k = nI p ∧ m 68 0 k = nI b)) L)) ∧ ∀ d, d < 12 → v 15 d 5 = nI (ct (fun k => al k && decide (m 65 0 k = nI d)) L)
def GT (P : Nat) (v m : St3) : Prop := (∀ a, a < 12 → Msk (v 16 a 4) (fun b => decide (b < P) && mt m a b) ∧ Msk (v 16 a 5) (fun b => decide (b < P) && bn m a b) ∧ Msk (v 16 a 6) (fun b => decide (b < P) && bn m b a) ∧ Msk (v 16 a 7) (fun b => decide (b < P) && op m a b && !bn m a b && !bn m b a)) ∧ (∀ a, a < P → v 16 a 8 = m 63 0 a ∧ v 16 a 9 = m 62 0 a) ∧ (∀ a, P ≤ a → a < 12 → v 16 a 8 = -1 ∧ v 16 a 9 = -1)
def GL (v m : St3) : Prop := ∀ a b, a < 12 → b < 12 → v 20 a b = m 61 0 (12 * a + b) ∧ v 21 a b = m 60 0 (12 * a + b) ∧ v 22 a b = m 59 0 (12 * a + b) ∧ v 23 a b = m 58 0 (12 * a + b)
def GR (L : Nat) (v m : St3) : Prop := v 6 0 6 = nI L ∧ m 24 0 34 = nI L ∧ L ≤ 192 ∧ ∀ j, j < 192 → v 7 0 j = m 66 0 j ∧ v 8 0 j = m 65 0 j ∧ v 9 0 j = m 67 0 j ∧ v 10 0 j = m 68 0 j ∧ v 11 0 j = m 69 0 j ∧ v 12 0 j = m 70 0 j
section SREAD
variable {N K P : Nat} {v m : St3} {post : Int32 → St3 → Prop}
theorem S_isIn {x : Int32} {n : Nat} {f : Nat → Bool} (hx : Msk x f) (hn : n < 32) (h : post (bI (f n)) v) : wp_X9_isIn x (nI n) v post := by
  unfold wp_X9_isIn
  rw [isIn_iff hn, hx n hn]
  cases hf : f n with
  | false => rw [hf] at h; exact ⟨fun _ => h, fun q => by cases q⟩
  | true => rw [hf] at h; exact ⟨fun q => absurd rfl q, fun _ => h⟩
theorem S_oneIf {b : Bool} (h : post (bI b) v) : wp_X9_oneIf (bI b) v post := by
  unfold wp_X9_oneIf
  exact bI_if (fun c => by rw [c] at h; exact h) (fun c => by rw [c] at h; exact h)
def xh (N K : Nat) (m : St3) (d p b : Nat) : Bool := !(decide (p < N) && hs m d p) && decide (p < N ∧ b < K ∧ hl m d p b = true)
/-- whom a held block came from is a peer -/
def Fr (N K : Nat) (m : St3) : Prop := ∀ d p b, d < 12 → p < N → b < K → hl m d p b = true → hs m d p = false → ∃ g, g < 12 ∧ fr m d p b = nI g
theorem GH.at {d p b : Nat} (hH : GH N K v m) (hF : Fr N K m) (hd0 : d < 12) (hp : p < 24) (hb : b < 4) (hs0 : (decide (p < N) && hs m d p) = false) : v 17 d (4 * p + b) = -1 ↔ xh N K m d p b = false := by
  rw [hH d p b hd0 hp hb]
  unfold xh
  rw [hs0]
  by_cases c : p < N ∧ b < K ∧ hl m d p b = true
  · rw [if_pos c]
    have hs1 : hs m d p = false := by
      have := c.1
      simpa [this] using hs0
    obtain ⟨g, hg, e⟩ := hF d p b hd0 c.1 c.2.1 c.2.2 hs1
    simp [e, nI_m1 (show g < 2 ^ 31 by omega), c]
  · rw [if_neg c]
    simp [c]
theorem S_holds {d p b : Nat} (hS : GS N v m) (hH : GH N K v m) (hF : Fr N K m) (hd0 : d < 12) (hp : p < 24) (hb : b < 4) (h : post (bI (xh N K m d p b)) v) : wp_X6_holds d (nI p) (nI b) v post := by
  unfold wp_X6_holds wp_X9_place
  refine S_isIn (hS d hd0).1 (by omega) (bI_fi (fun c => ?_) (fun c => ?_))
  · rw [show xh N K m d p b = false by simp only [xh, c]; rfl] at h; exact h
  · rw [i4]
    have k := GH.at hH hF hd0 hp hb c
    refine ⟨_, by omega, rfl, fun c2 => ?_, fun c2 => ?_⟩
    · rw [k.mp c2] at h; exact h
    · have : xh N K m d p b = true := by
        cases hx : xh N K m d p b with
        | true => rfl
        | false => exact absurd (k.mpr hx) c2
      rw [this] at h; exact h
theorem S_heldOf_L {d p : Nat} (hS : GS N v m) (hH : GH N K v m) (hF : Fr N K m) (hd0 : d < 12) (hp : p < 24) (h : post (nI (ct (xh N K m d p) 4)) v) : ∀ (n i f : Nat), i + n = 4 → n < f → wL_X6_heldOf_4 post f d (nI p) (nI (ct (xh N K m d p) i)) (nI i) v
  | n, i, 0, _, hf => absurd hf (by omega)
  | n, i, f + 1, e, hf => by
    show wB_X6_heldOf_4 post _ d (nI p) _ (nI i) v
    unfold wB_X6_heldOf_4
    rw [nI_1, show (4 : Int32) = nI 4 from rfl]
    refine le2 (by omega) (by omega) (fun c => ?_) (fun c => S_holds hS hH hF hd0 hp (by omega) (S_oneIf ?_))
    · rw [show i = 4 by omega]; exact h
    · have nx := S_heldOf_L hS hH hF hd0 hp h (n - 1) (i + 1) f (by omega) (by omega)
      cases hx : xh N K m d p i with
      | false => rw [bI_f, acc0 hx]; exact nx
      | true => rw [bI_t, acc1 hx]; exact nx
theorem xh_ct {d p : Nat} (hp : p < N) (hK : K ≤ 4) (c : hs m d p = false) : ct (xh N K m d p) 4 = hd K m d p := by
  have e1 : ∀ b, xh N K m d p b = (decide (b < K) && hl m d p b) := by
    intro b
    unfold xh
    rw [c]
    cases hl m d p b <;> simp [hp]
  have e2 : ∀ n, n ≤ 4 - K → ct (xh N K m d p) (K + n) = hd K m d p := by
    intro n
    induction n with
    | zero =>
      intro _
      exact ct_cong (fun k hk => by rw [e1]; simp [show k < K by omega])
    | succ n ih =>
      intro hn
      rw [← Nat.add_assoc, ct_succ, ih (by omega), e1]
      simp [show ¬ K + n < K by omega]
  have := e2 (4 - K) (Nat.le_refl _)
  rwa [show K + (4 - K) = 4 by omega] at this
theorem xh_0 {d p : Nat} (c : ¬ (p < N ∧ hs m d p = false)) : ct (xh N K m d p) 4 = 0 := by
  apply ct_zero.mpr
  intro b _
  unfold xh
  by_cases q : p < N
  · have : hs m d p = true := by
      cases hz : hs m d p with
      | true => rfl
      | false => exact absurd ⟨q, hz⟩ c
    simp [q, this]
  · simp [q]
theorem S_heldOf {d p : Nat} (hS : GS N v m) (hH : GH N K v m) (hF : Fr N K m) (hd0 : d < 12) (hp : p < 24) (h : post (nI (ct (xh N K m d p) 4)) v) : wp_X6_heldOf d (nI p) v post :=
  S_heldOf_L hS hH hF hd0 hp h 4 0 FU (by omega) (fu 4 (by omega))
theorem S_isDone {d : Nat} {b : Bool} (hb : v 14 d 6 = -1 ↔ b = false) (h : post (bI b) v) : wp_X3_isDone d v post := by
  unfold wp_X3_isDone
  cases b with
  | false => exact ⟨fun _ => h, fun q => absurd (hb.mpr rfl) q⟩
  | true => exact ⟨fun q => absurd (hb.mp q) (by decide), fun _ => h⟩
theorem S_toldPieces {d : Nat} (hM : GM P v m) (hS : GS N v m) (hN : N ≤ 24) (hd0 : d < 12) (h : ∀ x, Msk x (fun p => decide (p < N) && tl m d p) → post x v) : wp_X3_toldPieces d v post := by
  unfold wp_X3_toldPieces
  rw [(hM.1 d hd0).1]
  refine ⟨fun c => h _ ((hS d hd0).1.ext (fun p hp => by simp [tl, c])), fun c => h _ (fun p hp => ?_)⟩
  rw [b_and, (hS d hd0).1 p hp]
  by_cases q : p < N
  · rw [b_even p (by omega)]
    simp [tl, c, q]
  · simp [q]
theorem S_nearTo {a : Nat} (hC : GC P v m) (hT : GT P v m) (hP : P ≤ 12) (ha : a < P) (h : ∀ x, Msk x (fun b => decide (b < P) && nr m a b) → post x v) : wp_X2_nearTo (nI a) v post := by
  unfold wp_X2_nearTo
  have t := hT.1 a (by omega)
  refine ⟨a, by omega, rfl, S_isIn hC.2.1 (by omega) (bI_if (fun c => ?_) (fun c => ?_))⟩
  · refine h 0 (Msk.none.ext (fun b hb => ?_))
    have : hr m a = false := by simpa [ha] using c
    simp [nr, this]
  · refine h _ ((((hC.2.1.and t.1).and t.2.1.not).and t.2.2.1.not).ext (fun b hb => ?_))
    have : hr m a = true := by simpa [ha] using c
    by_cases q : b < P <;> simp [nr, this, q]
    cases mt m a b <;> cases hr m b <;> cases bn m a b <;> cases bn m b a <;> rfl
theorem S_tellersAmong_L {p : Nat} {x : Int32} {f0 : Nat → Bool} (hC : GC P v m) (hM : GM P v m) (hS : GS N v m) (hN : N ≤ 24) (hP : P ≤ 12) (hp : p < N) (hx : Msk x f0) (h : ∀ y, Msk y (fun i => decide (i < P) && f0 i && tl m i p) → post y v) : ∀ (n i f : Nat) (y : Int32), i + n = P → n < f → Msk y (fun j => decide (j < i) && f0 j && tl m j p) → wL_X2_tellersAmong_5 post f x (nI p) y (nI i) v
  | n, i, 0, y, _, hf, _ => absurd hf (by omega)
  | n, i, f + 1, y, e, hf, hy => by
    show wB_X2_tellersAmong_5 post _ x (nI p) y (nI i) v
    unfold wB_X2_tellersAmong_5
    rw [hC.1, nI_1]
    have stop : i < P → (f0 i && tl m i p) = false → wL_X2_tellersAmong_5 post f x (nI p) y (nI (i + 1)) v := fun c z =>
      S_tellersAmong_L hC hM hS hN hP hp hx h (n - 1) (i + 1) f y (by omega) (by omega) (hy.ext (fun j _ => by
        by_cases q : j = i
        · subst q
          rw [Bool.and_assoc, Bool.and_assoc, z]; simp
        · rw [show decide (j < i) = decide (j < i + 1) by congr 1; apply propext; constructor <;> intro <;> omega]))
    refine le2 (by omega) (by omega) (fun c => ?_) (fun c => S_isIn hx (by omega) (bI_if (fun c2 => stop c (by simp [c2])) (fun c2 => ⟨i, by omega, rfl, ?_⟩)))
    · exact h y (by rw [show P = i by omega]; exact hy)
    · refine S_toldPieces hM hS hN (by omega) (fun t ht => S_isIn ht (by omega) (bI_if (fun c3 => stop c ?_) (fun c3 => ?_)))
      · have : tl m i p = false := by simpa [hp] using c3
        simp [this]
      · have c4 : tl m i p = true := by simpa [hp] using c3
        exact S_tellersAmong_L hC hM hS hN hP hp hx h (n - 1) (i + 1) f _ (by omega) (by omega) ((hy.or1 (n := i) (by omega)).ext (fun j _ => by
          by_cases q : j = i
          · subst q
            simp [c2, c4]
          · rw [show decide (j < i + 1) = decide (j < i) by congr 1; apply propext; constructor <;> intro <;> omega]
            simp [q]))
theorem S_tellersAmong {p : Nat} {x : Int32} {f0 : Nat → Bool} (hC : GC P v m) (hM : GM P v m) (hS : GS N v m) (hN : N ≤ 24) (hP : P ≤ 12) (hp : p < N) (hx : Msk x f0) (h : ∀ y, Msk y (fun i => decide (i < P) && f0 i && tl m i p) → post y v) : wp_X2_tellersAmong x (nI p) v post :=
  S_tellersAmong_L hC hM hS hN hP hp hx h P 0 FU 0 (by omega) (fu P (by omega)) (Msk.none.ext (fun j _ => by simp))
end SREAD
