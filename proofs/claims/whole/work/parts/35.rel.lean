/-! more of what the class's reading methods answer -/
theorem an_s (p : Nat → Bool) (n : Nat) : an p (n + 1) = (an p n || p n) := by
  unfold an
  rw [ct_succ]
  cases p n <;> simp
theorem an_0 (p : Nat → Bool) : an p 0 = false := rfl
theorem an_cong {p q : Nat → Bool} {n : Nat} (h : ∀ k, k < n → p k = q k) : an p n = an q n := by unfold an; rw [ct_cong h]
theorem fst_cut {f g : Nat → Bool} {K : Nat} : ∀ (n i : Nat), i ≤ K → K ≤ i + n → (∀ b, b < K → f b = g b) → (∀ b, K ≤ b → b < i + n → f b = false) → fst f i n = fst g i (K - i)
  | 0, i, h1, h2, _, _ => by rw [show K - i = 0 by omega]; rfl
  | n + 1, i, h1, h2, h3, h4 => by
    rcases Nat.lt_or_ge i K with q | q
    · obtain ⟨k, hk⟩ : ∃ k, K - i = k + 1 := ⟨K - i - 1, by omega⟩
      rw [hk, fst_s, fst_s, h3 i q]
      have := fst_cut n (i + 1) q (by omega) h3 (fun b c1 c2 => h4 b c1 (by omega))
      rw [show K - (i + 1) = k by omega] at this
      rw [this]
    · have e : i = K := by omega
      subst e
      rw [Nat.sub_self]
      have z : ∀ (n j : Nat), i ≤ j → (∀ b, j ≤ b → b < j + n → f b = false) → fst f j n = none := by
        intro n
        induction n with
        | zero => intro j _ _; rfl
        | succ n ih =>
          intro j hj hz
          rw [fst_s, hz j (Nat.le_refl _) (by omega)]
          exact ih (j + 1) (by omega) (fun b c1 c2 => hz b (by omega) (by omega))
      exact z (n + 1) i (Nat.le_refl _) (fun b c1 c2 => h4 b c1 c2)
theorem fst_cong {f g : Nat → Bool} : ∀ (n i : Nat), (∀ b, i ≤ b → b < i + n → f b = g b) → fst f i n = fst g i n
  | 0, _, _ => rfl
  | n + 1, i, h => by rw [fst_s, fst_s, h i (Nat.le_refl _) (by omega), fst_cong n (i + 1) (fun b c1 c2 => h b (by omega) (by omega))]
theorem fst_t {f : Nat → Bool} : ∀ {n i k : Nat}, fst f i n = some k → f k = true ∧ i ≤ k ∧ k < i + n
  | 0, i, k, h => by cases h
  | n + 1, i, k, h => by
    rw [fst_s] at h
    split at h
    · rename_i z
      cases h
      exact ⟨z, Nat.le_refl _, by omega⟩
    · obtain ⟨a, b, c⟩ := fst_t h
      exact ⟨a, by omega, by omega⟩
theorem fst_n {f : Nat → Bool} : ∀ {n i : Nat}, fst f i n = none → ∀ b, i ≤ b → b < i + n → f b = false
  | 0, i, _, b, h1, h2 => absurd h2 (by omega)
  | n + 1, i, h, b, h1, h2 => by
    rw [fst_s] at h
    split at h
    · cases h
    · rename_i z
      rcases Nat.eq_or_lt_of_le h1 with q | q
      · subst q; simpa using z
      · exact fst_n h b q (by omega)
section SREAD2
variable {N K P L : Nat} {v m : St3} {post : Int32 → St3 → Prop}
/-- who gave a held block of a piece -/
def gs (K : Nat) (m : St3) (d p g : Nat) : Bool := an (fun b => hl m d p b && decide (fr m d p b = nI g)) K
theorem S_giversOf_L {d p : Nat} (hH : GH N K v m) (hF : Fr N K m) (hd0 : d < 12) (hN : N ≤ 24) (hp : p < N) (hs0 : hs m d p = false) (h : ∀ y, Msk y (fun g => an (fun b => xh N K m d p b && decide (fr m d p b = nI g)) 4) → post y v) : ∀ (n i f : Nat) (y : Int32), i + n = 4 → n < f → Msk y (fun g => an (fun b => xh N K m d p b && decide (fr m d p b = nI g)) i) → wL_X6_giversOf_4 post f d (nI p) y (nI i) v
  | n, i, 0, y, _, hf, _ => absurd hf (by omega)
  | n, i, f + 1, y, e, hf, hy => by
    show wB_X6_giversOf_4 post _ d (nI p) y (nI i) v
    unfold wB_X6_giversOf_4 wp_X9_place
    rw [nI_1, i4, show (4 : Int32) = nI 4 from rfl]
    refine le2 (by omega) (by omega) (fun c => ?_) (fun c => ?_)
    · exact h y (by rw [show (4 : Nat) = i by omega]; exact hy)
    · have hz : (decide (p < N) && hs m d p) = false := by simp [hs0]
      have k := GH.at hH hF hd0 (by omega) (show i < 4 by omega) hz
      refine ⟨_, by omega, rfl, fun c2 => ?_, fun c2 => ?_⟩
      · exact S_giversOf_L hH hF hd0 hN hp hs0 h (n - 1) (i + 1) f y (by omega) (by omega) (hy.ext (fun g _ => by rw [an_s, k.mp c2]; simp))
      · have c3 : xh N K m d p i = true := by
          cases hx : xh N K m d p i with
          | true => rfl
          | false => exact absurd (k.mpr hx) c2
        have c4 : p < N ∧ i < K ∧ hl m d p i = true := by
          simp only [xh, Bool.and_eq_true, decide_eq_true_eq] at c3
          exact c3.2
        obtain ⟨g, hg, eg⟩ := hF d p i hd0 c4.1 c4.2.1 c4.2.2 hs0
        rw [hH d p i hd0 (by omega) (by omega), if_pos c4, eg]
        exact S_giversOf_L hH hF hd0 hN hp hs0 h (n - 1) (i + 1) f _ (by omega) (by omega) ((hy.or1 (n := g) (by omega)).ext (fun j hj => by
          rw [an_s, c3, eg, Bool.true_and]
          congr 2
          rw [nI_eq (by omega) (by omega)]
          apply propext
          exact eq_comm))
theorem gs_xh {d p g : Nat} (hp : p < N) (hK : K ≤ 4) (hs0 : hs m d p = false) : an (fun b => xh N K m d p b && decide (fr m d p b = nI g)) 4 = gs K m d p g := by
  have e1 : ∀ b, xh N K m d p b = (decide (b < K) && hl m d p b) := by
    intro b
    unfold xh
    rw [hs0]
    cases hl m d p b <;> simp [hp]
  have e2 : ∀ n, n ≤ 4 - K → an (fun b => xh N K m d p b && decide (fr m d p b = nI g)) (K + n) = gs K m d p g := by
    intro n
    induction n with
    | zero => intro _; exact an_cong (fun k hk => by rw [e1]; simp [show k < K by omega])
    | succ n ih =>
      intro hn
      rw [← Nat.add_assoc, an_s, ih (by omega), e1]
      simp [show ¬ K + n < K by omega]
  have := e2 (4 - K) (Nat.le_refl _)
  rwa [show K + (4 - K) = 4 by omega] at this
theorem S_giversOf {d p : Nat} (hH : GH N K v m) (hF : Fr N K m) (hd0 : d < 12) (hN : N ≤ 24) (hK : K ≤ 4) (hp : p < N) (hs0 : hs m d p = false) (h : ∀ y, Msk y (gs K m d p) → post y v) : wp_X6_giversOf d (nI p) v post :=
  S_giversOf_L hH hF hd0 hN hp hs0 (fun y hy => h y (hy.ext (fun g _ => gs_xh hp hK hs0))) 4 0 FU 0 (by omega) (fu 4 (by omega)) (Msk.none.ext (fun g _ => rfl))
theorem xh_fst {d p : Nat} (hp : p < N) (hK : K ≤ 4) (hs0 : hs m d p = false) : fst (xh N K m d p) 0 4 = fst (hl m d p) 0 K := by
  have e1 : ∀ b, xh N K m d p b = (decide (b < K) && hl m d p b) := by
    intro b
    unfold xh
    rw [hs0]
    cases hl m d p b <;> simp [hp]
  exact fst_cut 4 0 (Nat.zero_le _) (by omega) (fun b hb => by rw [e1]; simp [hb]) (fun b hb _ => by rw [e1]; simp [show ¬ b < K by omega])
theorem S_firstGiver_L {d p : Nat} {x : Int32} (hH : GH N K v m) (hF : Fr N K m) (hd0 : d < 12) (hN : N ≤ 24) (hp : p < N) (hs0 : hs m d p = false) (h : post x v) (hx : x = (match fst (xh N K m d p) 0 4 with | some b => fr m d p b | none => -1)) : ∀ (n i f : Nat), i + n = 4 → n < f → fst (xh N K m d p) i n = fst (xh N K m d p) 0 4 → wL_X6_firstGiver_2 post f d (nI p) (nI i) v
  | n, i, 0, _, hf, _ => absurd hf (by omega)
  | n, i, f + 1, e, hf, hq => by
    show wB_X6_firstGiver_2 post _ d (nI p) (nI i) v
    unfold wB_X6_firstGiver_2 wp_X9_place
    rw [nI_1, i4, show (4 : Int32) = nI 4 from rfl]
    refine le2 (by omega) (by omega) (fun c => ?_) (fun c => ?_)
    · have : n = 0 := by omega
      subst this
      rw [← hq] at hx
      rw [show (-1 : Int32) = x from hx.symm]; exact h
    · obtain ⟨n, rfl⟩ : ∃ k, n = k + 1 := ⟨n - 1, by omega⟩
      have hz : (decide (p < N) && hs m d p) = false := by simp [hs0]
      have k := GH.at hH hF hd0 (by omega) (show i < 4 by omega) hz
      refine ⟨_, by omega, rfl, fun c2 => ?_, fun c2 => ?_⟩
      · exact S_firstGiver_L hH hF hd0 hN hp hs0 h hx n (i + 1) f (by omega) (by omega) (by rw [← hq, fst_s, k.mp c2]; simp)
      · have c3 : xh N K m d p i = true := by
          cases hx : xh N K m d p i with
          | true => rfl
          | false => exact absurd (k.mpr hx) c2
        have c4 : p < N ∧ i < K ∧ hl m d p i = true := by
          simp only [xh, Bool.and_eq_true, decide_eq_true_eq] at c3
          exact c3.2
        rw [hH d p i hd0 (by omega) (by omega), if_pos c4]
        rw [fst_s, c3] at hq
        rw [← hq] at hx
        rw [show fr m d p i = x from hx.symm]; exact h
theorem S_firstGiver {d p : Nat} (hH : GH N K v m) (hF : Fr N K m) (hd0 : d < 12) (hN : N ≤ 24) (hK : K ≤ 4) (hp : p < N) (hs0 : hs m d p = false) (h : post (match fst (hl m d p) 0 K with | some b => fr m d p b | none => -1) v) : wp_X6_firstGiver d (nI p) v post :=
  S_firstGiver_L hH hF hd0 hN hp hs0 h (by rw [xh_fst hp hK hs0]) 4 0 FU (by omega) (fu 4 (by omega)) rfl
theorem S_rfirst_L {d p : Nat} {x : Int32} (hR : GR L v m) (h : post x v) (hx : x = (match rd1 L m d p with | some k => m 66 0 k | none => -1)) : ∀ (n i f : Nat), i + n = L → n < f → fst (fun k => decide (m 65 0 k = nI d ∧ m 67 0 k = nI p)) i n = rd1 L m d p → wL_X5_firstGiver_2 post f (nI d) (nI p) (nI i) v
  | n, i, 0, _, hf, _ => absurd hf (by omega)
  | n, i, f + 1, e, hf, hq => by
    have hL := hR.2.2.1
    show wB_X5_firstGiver_2 post _ (nI d) (nI p) (nI i) v
    unfold wB_X5_firstGiver_2
    rw [hR.1]
    refine le2 (by omega) (by omega) (fun c => ?_) (fun c => ?_)
    · have : n = 0 := by omega
      subst this
      rw [← hq] at hx
      rw [show (-1 : Int32) = x from hx.symm]; exact h
    · obtain ⟨n, rfl⟩ : ∃ k, n = k + 1 := ⟨n - 1, by omega⟩
      obtain ⟨r7, r8, r9, r10, r11, r12⟩ := hR.2.2.2 i (by omega)
      have stop : ¬ (m 65 0 i = nI d ∧ m 67 0 i = nI p) → wL_X5_firstGiver_2 post f (nI d) (nI p) (nI i + 1) v := fun z => by
        rw [nI_1]
        exact S_rfirst_L hR h hx n (i + 1) f (by omega) (by omega) (by rw [← hq, fst_s]; simp [z])
      refine ⟨i, by omega, rfl, ?_⟩
      rw [r7, r8, r9]
      refine ⟨fun c2 => stop (fun q => c2 q.1), fun c2 => ⟨fun c3 => stop (fun q => c3 q.2), fun c3 => ?_⟩⟩
      rw [fst_s] at hq
      simp only [c2, c3, and_self, decide_true, if_true] at hq
      rw [← hq] at hx
      rw [show m 66 0 i = x from hx.symm]; exact h
theorem S_rfirst {d p : Nat} (hR : GR L v m) (h : post (match rd1 L m d p with | some k => m 66 0 k | none => -1) v) : wp_X5_firstGiver (nI d) (nI p) v post :=
  S_rfirst_L hR h rfl L 0 FU (by omega) (fu L (by have := hR.2.2.1; omega)) rfl
theorem S_rof_L {d p b : Nat} {x : Int32} (hR : GR L v m) (h : post x v) (hx : x = (match fst (fun k => decide (m 65 0 k = nI d ∧ m 67 0 k = nI p ∧ m 68 0 k = nI b)) 0 L with | some k => m 66 0 k | none => -1)) : ∀ (n i f : Nat), i + n = L → n < f → fst (fun k => decide (m 65 0 k = nI d ∧ m 67 0 k = nI p ∧ m 68 0 k = nI b)) i n = fst (fun k => decide (m 65 0 k = nI d ∧ m 67 0 k = nI p ∧ m 68 0 k = nI b)) 0 L → wL_X5_firstGiverOf_3 post f (nI d) (nI p) (nI b) (nI i) v
  | n, i, 0, _, hf, _ => absurd hf (by omega)
  | n, i, f + 1, e, hf, hq => by
    have hL := hR.2.2.1
    show wB_X5_firstGiverOf_3 post _ (nI d) (nI p) (nI b) (nI i) v
    unfold wB_X5_firstGiverOf_3
    rw [hR.1]
    refine le2 (by omega) (by omega) (fun c => ?_) (fun c => ?_)
    · have : n = 0 := by omega
      subst this
      rw [← hq] at hx
      rw [show (-1 : Int32) = x from hx.symm]; exact h
    · obtain ⟨n, rfl⟩ : ∃ k, n = k + 1 := ⟨n - 1, by omega⟩
      obtain ⟨r7, r8, r9, r10, r11, r12⟩ := hR.2.2.2 i (by omega)
      have stop : ¬ (m 65 0 i = nI d ∧ m 67 0 i = nI p ∧ m 68 0 i = nI b) → wL_X5_firstGiverOf_3 post f (nI d) (nI p) (nI b) (nI i + 1) v := fun z => by
        rw [nI_1]
        exact S_rof_L hR h hx n (i + 1) f (by omega) (by omega) (by rw [← hq, fst_s]; simp [z])
      refine ⟨i, by omega, rfl, ?_⟩
      rw [r7, r8, r9, r10]
      refine ⟨fun c2 => stop (fun q => c2 q.1), fun c2 => ⟨fun c3 => stop (fun q => c3 q.2.1), fun c3 => ⟨fun c4 => stop (fun q => c4 q.2.2), fun c4 => ?_⟩⟩⟩
      rw [fst_s] at hq
      simp only [c2, c3, c4, and_self, decide_true, if_true] at hq
      rw [← hq] at hx
      rw [show m 66 0 i = x from hx.symm]; exact h
theorem S_rof {d p b : Nat} (hR : GR L v m) (h : post (match fst (fun k => decide (m 65 0 k = nI d ∧ m 67 0 k = nI p ∧ m 68 0 k = nI b)) 0 L with | some k => m 66 0 k | none => -1) v) : wp_X5_firstGiverOf (nI d) (nI p) (nI b) v post :=
  S_rof_L hR h rfl L 0 FU (by omega) (fu L (by have := hR.2.2.1; omega)) rfl
abbrev GN1 (L : Nat) (v m : St3) : Prop := GN (fun _ => true) L v m
theorem GN1.c {d p b : Nat} (h : GN1 L v m) (hd0 : d < 12) (hp : p < 24) (hb : b < 4) : v 19 d (4 * p + b) = nI (cm L m d p b) := by
  rw [h.1 d p b hd0 hp hb]; simp [cm]
theorem GN1.a {d : Nat} (h : GN1 L v m) (hd0 : d < 12) : v 15 d 5 = nI (ca L m d) := by
  rw [h.2 d hd0]; simp [ca]
theorem S_firstUnasked_L {d p : Nat} (hS : GS N v m) (hH : GH N K v m) (hF : Fr N K m) (hG : GN1 L v m) (hL : L ≤ 192) (hd0 : d < 12) (hN : N ≤ 24) (hK : K ≤ 4) (hp : p < N) (hs0 : hs m d p = false) (h : post (eI (nb K L m d p)) v) : ∀ (n i f : Nat), i + n = K → n < f → fst (fun b => !hl m d p b && decide (cm L m d p b = 0)) i n = nb K L m d p → wL_X6_firstUnasked_2 post f d (nI p) (nI K) (nI i) v
  | n, i, 0, _, hf, _ => absurd hf (by omega)
  | n, i, f + 1, e, hf, hq => by
    show wB_X6_firstUnasked_2 post _ d (nI p) (nI K) (nI i) v
    unfold wB_X6_firstUnasked_2 wp_X9_place
    rw [i4]
    refine le2 (by omega) (by omega) (fun c => ?_) (fun c => ?_)
    · have : n = 0 := by omega
      subst this
      rw [← hq] at h; exact h
    · obtain ⟨n, rfl⟩ : ∃ k, n = k + 1 := ⟨n - 1, by omega⟩
      have ex : xh N K m d p i = hl m d p i := by
        unfold xh
        rw [hs0]
        cases hl m d p i <;> simp [hp, c]
      have stop : (!hl m d p i && decide (cm L m d p i = 0)) = false → wL_X6_firstUnasked_2 post f d (nI p) (nI K) (nI i + 1) v := fun z => by
        rw [nI_1]
        exact S_firstUnasked_L hS hH hF hG hL hd0 hN hK hp hs0 h n (i + 1) f (by omega) (by omega) (by rw [← hq, fst_s, z]; simp)
      refine S_holds hS hH hF hd0 (by omega) (by omega) ?_
      rw [ex]
      refine bI_fi (fun c2 => stop (by simp [c2])) (fun c2 => ⟨_, by omega, rfl, ?_⟩)
      rw [hG.c hd0 (by omega) (by omega)]
      have hle := ct_le (fun k => decide (m 65 0 k = nI d ∧ m 67 0 k = nI p ∧ m 68 0 k = nI i)) L
      refine ne2 (b := 0) (by unfold cm; omega) (by omega) (fun c3 => stop (by simp [c3])) (fun c3 => ?_)
      have z : (!hl m d p i && decide (cm L m d p i = 0)) = true := by simp [c2, c3]
      rw [fst_s, z] at hq
      rw [← hq] at h
      simpa [eI] using h
theorem S_firstUnasked {d p : Nat} (hS : GS N v m) (hH : GH N K v m) (hF : Fr N K m) (hG : GN1 L v m) (hL : L ≤ 192) (hd0 : d < 12) (hN : N ≤ 24) (hK : K ≤ 4) (hp : p < N) (hs0 : hs m d p = false) (h : post (eI (nb K L m d p)) v) : wp_X6_firstUnasked d (nI p) (nI K) v post :=
  S_firstUnasked_L hS hH hF hG hL hd0 hN hK hp hs0 h K 0 FU (by omega) (fu K (by omega)) rfl
/-- what is under way goes to peers, of pieces and blocks that there are -/
def Rd (N K P L : Nat) (m : St3) : Prop := ∀ j, j < L → ∃ d g p b, d < P ∧ g < P ∧ p < N ∧ b < K ∧ m 65 0 j = nI d ∧ m 66 0 j = nI g ∧ m 67 0 j = nI p ∧ m 68 0 j = nI b
theorem Rd.z {d p b : Nat} (h : Rd N K P L m) (hK : K ≤ 4) (hb : K ≤ b) (hb2 : b < 2 ^ 31) : cm L m d p b = 0 := by
  apply ct_zero.mpr
  intro k hk
  obtain ⟨d', g, p', b', h1, h2, h3, h4, h5, h6, h7, h8⟩ := h k hk
  rw [h8]
  simp only [decide_eq_false_iff_not]
  intro q
  have := nI_inj (by omega) (by omega) q.2.2
  omega
theorem S_isBegun_L {d p : Nat} (hS : GS N v m) (hH : GH N K v m) (hF : Fr N K m) (hG : GN1 L v m) (hL : L ≤ 192) (hd0 : d < 12) (hN : N ≤ 24) (hp : p < N) (h : post (bI (an (fun b => xh N K m d p b || decide (¬ cm L m d p b = 0)) 4)) v) : ∀ (n i f : Nat), i + n = 4 → n < f → an (fun b => xh N K m d p b || decide (¬ cm L m d p b = 0)) i = false → wL_X6_isBegun_2 post f d (nI p) (nI i) v
  | n, i, 0, _, hf, _ => absurd hf (by omega)
  | n, i, f + 1, e, hf, hq => by
    show wB_X6_isBegun_2 post _ d (nI p) (nI i) v
    unfold wB_X6_isBegun_2 wp_X9_place
    rw [nI_1, i4, show (4 : Int32) = nI 4 from rfl]
    refine le2 (by omega) (by omega) (fun c => ?_) (fun c => ?_)
    · rw [show (4 : Nat) = i by omega, hq] at h; exact h
    · have yes : (xh N K m d p i || decide (¬ cm L m d p i = 0)) = true → post 1 v := fun z => by
        rw [show an (fun b => xh N K m d p b || decide (¬ cm L m d p b = 0)) 4 = true from an_t.mpr ⟨i, by omega, z⟩] at h
        exact h
      refine S_holds hS hH hF hd0 (by omega) (by omega) (bI_fi (fun c2 => yes (by simp [c2])) (fun c2 => ⟨_, by omega, rfl, ?_⟩))
      rw [hG.c hd0 (by omega) (by omega)]
      have hle := ct_le (fun k => decide (m 65 0 k = nI d ∧ m 67 0 k = nI p ∧ m 68 0 k = nI i)) L
      refine le2 (b := 0) (by unfold cm; omega) (by omega) (fun c3 => ?_) (fun c3 => yes (by simp; omega))
      exact S_isBegun_L hS hH hF hG hL hd0 hN hp h (n - 1) (i + 1) f (by omega) (by omega) (by
        rw [an_s, hq, c2, show cm L m d p i = 0 by omega]; simp)
theorem S_isBegun {d p : Nat} (hS : GS N v m) (hH : GH N K v m) (hF : Fr N K m) (hG : GN1 L v m) (hL : L ≤ 192) (hrd : Rd N K P L m) (hd0 : d < 12) (hN : N ≤ 24) (hK : K ≤ 4) (hp : p < N) (hs0 : hs m d p = false) (h : post (bI (bg K L m d p)) v) : wp_X6_isBegun d (nI p) v post := by
  refine S_isBegun_L hS hH hF hG hL hd0 hN hp ?_ 4 0 FU (by omega) (fu 4 (by omega)) rfl
  have e : an (fun b => xh N K m d p b || decide (¬ cm L m d p b = 0)) 4 = bg K L m d p := by
    have e1 : ∀ b, xh N K m d p b = (decide (b < K) && hl m d p b) := by
      intro b
      unfold xh
      rw [hs0]
      cases hl m d p b <;> simp [hp]
    rw [Bool.eq_iff_iff, an_t]
    unfold bg
    rw [Bool.or_eq_true, an_t, decide_eq_true_eq]
    constructor
    · rintro ⟨b, hb, q⟩
      rw [e1] at q
      simp only [Bool.or_eq_true, Bool.and_eq_true, decide_eq_true_eq] at q
      rcases q with ⟨q1, q2⟩ | q
      · left
        intro z
        have := ct_zero.mp z b q1
        rw [this] at q2
        cases q2
      · right
        refine ⟨b, ?_, by simpa using q⟩
        rcases Nat.lt_or_ge b K with w | w
        · exact w
        · exact absurd (hrd.z hK w (by omega)) q
    · intro q
      rcases q with q | ⟨b, hb, q⟩
      · apply Classical.byContradiction
        intro no
        apply q
        apply ct_zero.mpr
        intro b hb
        cases hz : hl m d p b with
        | false => rfl
        | true => exact absurd ⟨b, by omega, by rw [e1]; simp [hb, hz]⟩ no
      · exact ⟨b, by omega, by simp at q; simp [q]⟩
  rw [e]; exact h
end SREAD2
