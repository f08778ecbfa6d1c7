/-! class and reference in one store; the relation that every call keeps -/
def gl (x m : St3) : St3 := fun k i j => bif Nat.blt k 24 then x k i j else m k i j
theorem gl_x {x m : St3} {k i j : Nat} {y : Int32} (h : Nat.blt k 24 = true) : up3 (gl x m) k i j y = gl (up3 x k i j y) m := by
  funext a b c
  simp only [up3, gl]
  by_cases q : a = k ∧ b = i ∧ c = j
  · rw [if_pos q, if_pos q, q.1, h]; rfl
  · rw [if_neg q, if_neg q]
theorem gl_m {x m : St3} {k i j : Nat} {y : Int32} (h : Nat.blt k 24 = false) : up3 (gl x m) k i j y = gl x (up3 m k i j y) := by
  funext a b c
  simp only [up3, gl]
  by_cases q : a = k ∧ b = i ∧ c = j
  · rw [if_pos q, if_pos q, q.1, h]; rfl
  · rw [if_neg q, if_neg q]
theorem gl_self (v : St3) : gl v v = v := by
  funext a b c
  unfold gl
  cases Nat.blt a 24 <;> rfl
def Hb (N K : Nat) (m : St3) : Prop := ∀ d p b, d < 12 → p < N → b < K → hs m d p = true → hl m d p b = true
def Sy (m : St3) : Prop := (∀ a b, a < 12 → b < 12 → mt m a b = mt m b a) ∧ ∀ a, a < 12 → mt m a a = false
def Op (P : Nat) (m : St3) : Prop := ∀ a b, a < 12 → b < 12 → op m a b = true → mt m a b = true ∧ hr m a = true ∧ hr m b = true ∧ a < P ∧ b < P
def Fh (P : Nat) (m : St3) : Prop := ∀ d, P ≤ d → d < 12 → (∀ p, p < 24 → hs m d p = false ∧ mk m d p = false) ∧ (∀ p b, p < 24 → b < 4 → hl m d p b = false) ∧ (∀ b, b < 12 → mt m d b = false ∧ bn m d b = false ∧ bn m b d = false) ∧ m 47 0 d = 0 ∧ m 48 0 d = 0 ∧ ∀ a, a < 12 → m 61 0 (12 * a + d) = 0 ∧ m 60 0 (12 * a + d) = 0
def Rg (P : Nat) (m : St3) : Prop := ∀ d, d < P → (∃ u, 1 ≤ u ∧ u ≤ 8 ∧ m 41 0 d = nI u) ∧ (∃ u, 1 ≤ u ∧ u ≤ 8 ∧ m 42 0 d = nI u) ∧ (∃ u, 1 ≤ u ∧ u ≤ 100 ∧ m 44 0 d = nI u) ∧ (m 62 0 d = -1 ∨ ∃ c, c < P ∧ m 62 0 d = nI c) ∧ (m 63 0 d = -1 ∨ ∃ c, c < P ∧ m 63 0 d = nI c)
def Sm (P : Nat) (m : St3) : Prop := m 24 0 8 = si (fun d => m 48 0 d) P ∧ m 24 0 9 = si (fun d => m 47 0 d) P
def De (T L C : Nat) (m : St3) : Prop := (∀ j, j < L → m 71 0 j = 0 ∧ ∃ t, C < t ∧ t ≤ T ∧ m 70 0 j = nI t) ∧ ct (fun j => decide (m 70 0 j = nI T)) L ≤ 96
def Du (L C : Nat) (m : St3) : Prop := De (C + 2) L C m
def Iv (N K P L C : Nat) (m : St3) : Prop := Sz N K P m ∧ m 24 0 5 = nI C ∧ Rd N K P L m ∧ Fr N K m ∧ Hb N K m ∧ Sy m ∧ Op P m ∧ Dn N P m ∧ Fh P m ∧ Rg P m ∧ Sm P m ∧ Du L C m
def Gx (N K P L : Nat) (x m : St3) : Prop := GW N K x m ∧ GC P x m ∧ GM P x m ∧ GS N x m ∧ GH N K x m ∧ GV x m ∧ GN1 L x m ∧ GT P x m ∧ GL x m ∧ GR L x m
def RX (N K P L C : Nat) (x m : St3) : Prop := Gx N K P L x m ∧ Iv N K P L C m
/-- the reference's calls begin so -/
def th (m : St3) : St3 := up3 m 24 0 0 0
theorem th_gl (x m : St3) : up3 (gl x m) 24 0 0 (0 : Int32) = gl x (th m) := gl_m rfl
theorem RX.th {N K P L C : Nat} {x m : St3} (h : RX N K P L C x m) : RX N K P L C x (th m) := h
section SAME
variable {N K P L C : Nat} {x m : St3} {Q : Int32 → Int32 → St3 → Prop}
theorem A_value {a b : Int32} (h : RX N K P L C x m) (hq : ∀ r, Q r r (gl x (th m))) : wp_X9_value a b (gl x m) (fun r1 v1 => wp_X10_value a b v1 (fun r2 v2 => Q r1 r2 v2)) := by
  obtain ⟨⟨hW, hC, hM, hS, hH, hV, hG, hT, hLt, hR⟩, hz, hI⟩ := id h
  obtain ⟨h1, h2, h3, h4, h5, h6, h7, h8⟩ := id hz
  unfold wp_X9_value wp_X10_value
  refine S_isBlock (v := gl x m) (m := m) hW h5 h7 (bI_if (fun c => ?_) (fun c => S_valueOf (v := gl x m) (m := m) hW ?_))
  · intro v1 e
    rw [th_gl] at e
    subst e
    refine M_isBlock (v := gl x (th m)) hz ?_
    rw [c]
    exact ⟨fun _ => hq _, fun q => absurd rfl q⟩
  · intro v1 e
    rw [th_gl] at e
    subst e
    refine M_isBlock (v := gl x (th m)) hz ?_
    rw [c]
    exact ⟨fun q => absurd q (by decide), fun _ => M_valueOf (v := gl x (th m)) (hq _)⟩
theorem A_sum {a : Int32} (h : RX N K P L C x m) (hq : ∀ r, Q r r (gl x (th m))) : wp_X9_sum a (gl x m) (fun r1 v1 => wp_X10_sum a v1 (fun r2 v2 => Q r1 r2 v2)) := by
  obtain ⟨⟨hW, hC, hM, hS, hH, hV, hG, hT, hLt, hR⟩, hz, hI⟩ := id h
  obtain ⟨h1, h2, h3, h4, h5, h6, h7, h8⟩ := id hz
  unfold wp_X9_sum wp_X10_sum
  have e0 : ib K 0 = true := (ib_t (by omega)).mpr ⟨0, by omega, rfl⟩
  refine S_isPiece (v := gl x m) (m := m) hW h5 (bI_if (fun c => ?_) (fun c => S_sumOfW (v := gl x m) (m := m) hW h7 ?_))
  · intro v1 e
    rw [th_gl] at e
    subst e
    refine M_isBlock (v := gl x (th m)) hz ?_
    rw [c]
    exact ⟨fun _ => hq _, fun q => absurd rfl q⟩
  · intro v1 e
    rw [th_gl] at e
    subst e
    refine M_isBlock (v := gl x (th m)) hz ?_
    rw [c, e0]
    exact ⟨fun q => absurd q (by decide), fun _ => M_sumOf (v := gl x (th m)) hz (hq _)⟩
theorem hd_K {d p : Nat} (hI : Hb N K m) (hd0 : d < 12) (hp : p < N) (c : hs m d p = true) : hd K m d p = K := ct_all.mpr (fun b hb => hI d p b hd0 hp hb c)
theorem A_held {a b : Int32} (h : RX N K P L C x m) (hq : ∀ r, Q r r (gl x (th m))) : wp_X9_held a b (gl x m) (fun r1 v1 => wp_X10_held a b v1 (fun r2 v2 => Q r1 r2 v2)) := by
  obtain ⟨⟨hW, hC, hM, hS, hH, hV, hG, hT, hLt, hR⟩, hz, iC, iR, iF, iH, iS, iO, iD, iN, iG, iM, iU⟩ := id h
  obtain ⟨h1, h2, h3, h4, h5, h6, h7, h8⟩ := id hz
  unfold wp_X9_held wp_X10_held
  have e0 : ib K 0 = true := (ib_t (by omega)).mpr ⟨0, by omega, rfl⟩
  refine S_isMember (v := gl x m) (m := m) hC h8 (bI_if (fun c => ?_) (fun c => S_isPiece (v := gl x m) (m := m) hW h5 (bI_fi (fun c2 => ?_) (fun c2 => ?_))))
  · intro v1 e
    rw [th_gl] at e
    subst e
    refine M_isPeer (v := gl x (th m)) hz ?_
    rw [c]
    exact ⟨fun _ => hq _, fun q => absurd rfl q⟩
  · obtain ⟨d, hd0, rfl⟩ := (ib_t (by omega)).mp c
    obtain ⟨p, hp, rfl⟩ := (ib_t (by omega)).mp c2
    have fin : ∀ r, r = nI (hd K m d p) → ∀ v1, v1 = up3 (gl x m) 24 0 0 (0 : Int32) → wp_X10_isPeer (nI d) v1 (fun r4 v3 => ((r4 = 0 → Q r (-1 : Int32) v3) ∧ (¬ r4 = 0 → wp_X10_isBlock (nI p) (0 : Int32) v3 (fun r6 v5 => ((r6 = 0 → Q r (-1 : Int32) v5) ∧ (¬ r6 = 0 → wp_X10_heldMany (nI d) (nI p) v5 (fun r8 v7 => Q r r8 v7))))))) := by
      intro r er v1 e
      rw [th_gl] at e
      subst e
      refine M_isPeer (v := gl x (th m)) hz ?_
      rw [c]
      refine ⟨fun q => absurd q (by decide), fun _ => M_isBlock (v := gl x (th m)) hz ?_⟩
      rw [c2, e0]
      refine ⟨fun q => absurd q (by decide), fun _ => M_heldMany (v := gl x (th m)) (by omega) (by omega) hz ?_⟩
      rw [er]
      exact hq _
    refine ⟨d, by omega, rfl, S_isIn ((hS d (by omega)).1) (by omega) (bI_if (fun c3 => S_heldOf (v := gl x m) (m := m) hS hH iF (by omega) (by omega) (fin _ ?_)) (fun c3 => fin _ ?_))⟩
    · have : hs m d p = false := by simpa [hp] using c3
      rw [xh_ct hp h7 this]
    · have : hs m d p = true := by simpa [hp] using c3
      rw [hd_K iH (by omega) hp this]
      exact hW.2.1
  · intro v1 e
    rw [th_gl] at e
    subst e
    refine M_isPeer (v := gl x (th m)) hz ?_
    rw [c]
    refine ⟨fun q => absurd q (by decide), fun _ => M_isBlock (v := gl x (th m)) hz ?_⟩
    rw [c2]
    exact ⟨fun _ => hq _, fun q => absurd rfl q⟩
end SAME
