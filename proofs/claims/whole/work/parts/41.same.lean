/-! alone and bound: class and reference agree -/
section SAME4
variable {N K P L C : Nat} {x m : St3} {Q : Int32 → Int32 → St3 → Prop} {post : Int32 → St3 → Prop}
def aln (N P : Nat) (m : St3) (o : Option Nat) (p : Nat) : Bool := oN o (fun d => hs m d p) && decide (ow P m p o = 0)
theorem M_alone_52 {v : St3} {p : Nat} {o : Option Nat} {y : Int32} {K24 : Int32 → Int32 → Int32 → St3 → Prop} (hz : Sz N K P v) (hp : p < 24) (hu : ∀ n, o = some n → n < 12) (h0 : ¬ ow P v p o = 0 → K24 (eI o) (y + 0) (nI (p + 1)) v) (h1 : ow P v p o = 0 → K24 (eI o) (y + 1) (nI (p + 1)) v) : wB_X10_alone_52 post K24 (eI o) (nI p) y v := by
  unfold wB_X10_alone_52
  rw [nI_1]
  have hP : P ≤ 12 := hz.2.2.2.2.2.2.2
  have hle := ct_le (fun d => oN o (fun q => decide (¬ d = q)) && hr v d && hs v d p) P
  exact M_owners hp hu hz (ne2 (b := 0) (by unfold ow; omega) (by omega) h0 h1)
theorem M_alone_L {v : St3} {o : Option Nat} (hz : Sz N K P v) (hu : ∀ n, o = some n → n < 12) (h : post (nI (ct (aln N P v o) N)) v) : ∀ (n i f : Nat), i + n = N → n < f → wL_X10_alone_24 post f (eI o) (nI (ct (aln N P v o) i)) (nI i) v
  | n, i, 0, _, hf => absurd hf (by omega)
  | n, i, f + 1, e, hf => by
    have hz0 := hz
    obtain ⟨h1, h2, h3, h4, h5, h6, h7, h8⟩ := hz
    show wB_X10_alone_24 post _ (eI o) _ (nI i) v
    unfold wB_X10_alone_24
    rw [h1]
    have nx := M_alone_L hz0 hu h (n - 1) (i + 1) f
    refine le2 (by omega) (by omega) (fun c => ?_) (fun c => ?_)
    · rw [show i = N by omega]; exact h
    · refine ⟨fun c2 => ?_, fun c2 => ?_⟩
      · have e2 : o = none := (eI_m1 hu).mp c2
        subst e2
        refine M_alone_52 hz0 (by omega) hu (fun c3 => ?_) (fun c3 => ?_)
        · rw [acc0 (by simp [aln, c3])]; exact nx (by omega) (by omega)
        · rw [acc1 (by simp [aln, oN, c3])]; exact nx (by omega) (by omega)
      · cases o with
        | none => exact absurd rfl c2
        | some d =>
          have hd0 := hu d rfl
          show ∃ n6, n6 < 288 ∧ (24 : Int32) * nI d + nI i = nI n6 ∧ _
          rw [i24]
          refine ⟨_, by omega, rfl, fun c3 => ?_, fun c3 => M_alone_52 hz0 (by omega) hu (fun c4 => ?_) (fun c4 => ?_)⟩
          · rw [acc0 (by simp [aln, oN, hs, c3]), nI_1]; exact nx (by omega) (by omega)
          · rw [acc0 (by simp [aln, c4])]; exact nx (by omega) (by omega)
          · rw [acc1 (by simp [aln, oN, hs, c3, c4])]; exact nx (by omega) (by omega)
theorem M_alone {o : Option Nat} (hz : Sz N K P m) (hu : ∀ n, o = some n → n < P) (h : post (nI (ct (aln N P m o) N)) (gl x (th m))) : wp_X10_alone (eI o) (gl x m) post := by
  obtain ⟨h1, h2, h3, h4, h5, h6, h7, h8⟩ := id hz
  have hu2 : ∀ n, o = some n → n < 12 := fun n e => by have := hu n e; omega
  unfold wp_X10_alone
  intro v1 e
  rw [th_gl] at e
  subst e
  refine ⟨fun c => ?_, fun c => ?_⟩
  · exact M_alone_L (v := gl x (th m)) hz hu2 h N 0 FU (by omega) (fu N (by omega))
  · cases o with
    | none => exact absurd rfl c
    | some d =>
      refine M_isPeer (v := gl x (th m)) hz ?_
      rw [show ib P (eI (some d)) = true from (ib_t (by omega)).mpr ⟨d, hu d rfl, rfl⟩]
      exact ⟨fun _ => M_alone_L (v := gl x (th m)) hz hu2 h N 0 FU (by omega) (fu N (by omega)), fun q => absurd q (by decide)⟩
theorem had_ow {o : Option Nat} {p : Nat} : an (fun d => oN o (fun q => decide (¬ d = q)) && hr m d && hs m d p) P = !decide (ow P m p o = 0) := by
  unfold an ow
  congr 1
theorem A_alone {a : Int32} (h : RX N K P L C x m) (hq : ∀ r, Q r r (gl x (th m))) : wp_X9_alone a (gl x m) (fun r1 v1 => wp_X10_alone a v1 (fun r2 v2 => Q r1 r2 v2)) := by
  obtain ⟨⟨hW, hC, hM, hS, hH, hV, hG, hT, hLt, hR⟩, hz, iC, iR, iF, iH, iS, iO, iD, iN, iG, iM, iU⟩ := id h
  obtain ⟨h1, h2, h3, h4, h5, h6, h7, h8⟩ := id hz
  unfold wp_X9_alone
  refine ⟨fun c => S_isMember (v := gl x m) (m := m) hC h8 (bI_fi (fun c2 => ?_) (fun c2 => ?_)), fun c => ?_⟩
  · obtain ⟨d, hd0, rfl⟩ := (ib_t (by omega)).mp c2
    refine ⟨d, by omega, rfl, S_had (v := gl x m) (m := m) (but := some d) hC hS h8 (fun n e => by cases e; omega) (fun y hy => ?_)⟩
    refine S_bitsM (n := N) (f := aln N P m (some d)) (((hS d (by omega)).1.and hy.not).ext (fun p hp => ?_)) (by omega) ?_
    · rw [had_ow]
      unfold aln oN
      by_cases w : p < N <;> simp [w]
    · exact M_alone (o := some d) hz (fun n e => by cases e; exact hd0) (hq _)
  · unfold wp_X10_alone
    intro v1 e
    rw [th_gl] at e
    subst e
    refine ⟨fun q => absurd q c, fun _ => M_isPeer (v := gl x (th m)) hz ?_⟩
    rw [c2]
    exact ⟨fun q => absurd rfl q, fun _ => hq _⟩
  · subst c
    unfold wp_X8_allPieces
    rw [show gl x m 5 0 0 = nI N from hW.1]
    refine S_had (v := gl x m) (m := m) (but := none) hC hS h8 (fun n e => by cases e) (fun y hy => ?_)
    have ha : Msk (((1 : Int32) <<< (nI N &&& 31)) - 1) (fun p => decide (p < N)) := fun i hi => b_low N (by omega) i hi
    refine S_bitsM (n := N) (f := aln N P m none) ((ha.and hy.not).ext (fun p hp => ?_)) (by omega) ?_
    · rw [had_ow]
      unfold aln oN
      by_cases w : p < N <;> simp [w]
    · exact M_alone (o := none) hz (fun n e => by cases e) (hq _)
/-- cut up to whole numbers -/
def sh (a b : Int32) : Int32 := (a + b - 1) / b
def mx (a b : Int32) : Int32 := if a < b then b else a
def bare (N K L : Nat) (m : St3) (d : Nat) : Bool := decide (hm N m d = 0) && decide (hh N K m d = 0) && decide (ca L m d = 0)
def bF (N K L : Nat) (m : St3) (s : Nat) (A : Int32) : Nat → Nat → Int32 → Int32 → Int32 → Int32
  | _, 0, o, u, g => if o = 0 then -1 else mx g (sh (A * o) u)
  | i, n + 1, o, u, g => if i = s then bF N K L m s A (i + 1) n o u g else if hr m i then (if bare N K L m i then bF N K L m s A (i + 1) n (o + 1) (u + m 41 0 i) (mx g (sh A (m 42 0 i))) else -1) else bF N K L m s A (i + 1) n o u g
theorem bF_gl {s : Nat} {A : Int32} : ∀ (n i : Nat) (o u g : Int32), bF N K L (gl x (th m)) s A i n o u g = bF N K L m s A i n o u g
  | 0, i, o, u, g => rfl
  | n + 1, i, o, u, g => by
    rw [bF, bF, bF_gl n, bF_gl n]
    rfl
theorem S_isBare {v : St3} {d : Nat} (hS : GS N v m) (hH : GH N K v m) (hF : Fr N K m) (hG : GN1 L v m) (hL : L ≤ 192) (hN : N ≤ 24) (hK : K ≤ 4) (hd0 : d < 12) (h : post (bI (bare N K L m d)) v) : wp_X6_isBare d v post := by
  unfold wp_X6_isBare
  have k1 : v 15 d 3 = 0 ↔ hm N m d = 0 := by
    rw [(hS d hd0).1.z, hm, ct_zero]
    constructor
    · intro q p hp
      have := q p (by omega)
      simpa [hp] using this
    · intro q p hp
      by_cases w : p < N
      · simp [q p w]
      · simp [w]
  have hle := ct_le (fun k => decide (m 65 0 k = nI d)) L
  have k2 : v 15 d 5 = 0 ↔ ca L m d = 0 := by
    rw [hG.a hd0]
    exact nI_eq (b := 0) (by unfold ca; omega) (by omega)
  have hle2 : hh N K m d ≤ N * K := su_le (fun p _ => by
    split
    · omega
    · exact ct_le _ _)
  have hle3 : N * K ≤ 24 * 4 := Nat.mul_le_mul hN hK
  refine ⟨fun c => ?_, fun c => ⟨fun c2 => ?_, fun c2 => S_heldInAll hS hH hF hN hK hd0 (ne2 (b := 0) (by omega) (by omega) (fun c3 => ?_) (fun c3 => ?_))⟩⟩
  · rw [show bare N K L m d = false by simp [bare, show ¬ hm N m d = 0 from fun q => c (k1.mpr q)]] at h; exact h
  · rw [show bare N K L m d = false by simp [bare, show ¬ ca L m d = 0 from fun q => c2 (k2.mpr q)]] at h; exact h
  · rw [show bare N K L m d = false by simp [bare, c3]] at h; exact h
  · rw [show bare N K L m d = true by simp [bare, k1.mp c, k2.mp c2, c3]] at h; exact h
theorem S_cutUp {v : St3} {a : Int32} {u : Nat} (hu : 1 ≤ u) (hu2 : u < 2 ^ 31) (h : post (sh a (nI u)) v) : wp_X9_cutUp a (nI u) v post := by
  unfold wp_X9_cutUp
  have k : 0 < nI u := by rw [show (0 : Int32) = nI 0 from rfl]; exact nI_lt (by omega) hu2
  exact ⟨fun _ => ⟨nI_ne0 (by omega) hu2, h⟩, fun q => absurd k q⟩
theorem M_share {v : St3} {a : Int32} {u : Nat} (hu : 1 ≤ u) (hu2 : u < 2 ^ 31) (h : post (sh a (nI u)) v) : wp_X10_share a (nI u) v post := by
  unfold wp_X10_share
  exact ⟨nI_ne0 (by omega) hu2, h⟩
theorem mx_le {a b : Int32} : (b ≤ a → mx a b = a) ∧ (¬ b ≤ a → mx a b = b) := by
  unfold mx
  have e : a < b ↔ ¬ b ≤ a := by rw [Int32.lt_iff_toInt_lt, Int32.le_iff_toInt_le]; omega
  exact ⟨fun c => if_neg (fun q => e.mp q c), fun c => if_pos (e.mpr c)⟩
theorem S_bound_L {v : St3} {s : Nat} {A R : Int32} (hC : GC P v m) (hM : GM P v m) (hS : GS N v m) (hH : GH N K v m) (hF : Fr N K m) (hG : GN1 L v m) (hL : L ≤ 192) (hN : N ≤ 24) (hK : K ≤ 4) (hP : P ≤ 12) (hRg : Rg P m) (hs0 : s < 12) (h : post R v) : ∀ (n i f o u : Nat) (g : Int32), i + n = P → n < f → o ≤ i → 1 ≤ u → u ≤ 8 + 8 * i → bF N K L m s A i n (nI o) (nI u) g = R → wL_X9_bound_101 post f (nI s) A (nI o) (nI u) g (nI i) v
  | n, i, 0, o, u, g, _, hf, _, _, _, _ => absurd hf (by omega)
  | n, i, f + 1, o, u, g, e, hf, ho, hu, hu2, hq => by
    show wB_X9_bound_101 post _ (nI s) A (nI o) (nI u) g (nI i) v
    unfold wB_X9_bound_101
    rw [hC.1]
    refine le2 (by omega) (by omega) (fun c => ?_) (fun c => ?_)
    · have : n = 0 := by omega
      subst this
      refine ⟨fun c2 => S_cutUp hu (by omega) ?_, fun c2 => ?_⟩
      · rw [bF, if_neg c2] at hq
        unfold mx at hq
        rw [hq]; exact h
      · rw [bF, if_pos c2] at hq
        rw [hq]; exact h
    · obtain ⟨n, rfl⟩ : ∃ k, n = k + 1 := ⟨n - 1, by omega⟩
      rw [bF] at hq
      refine eq2 (by omega) (by omega) (fun c2 => ?_) (fun c2 => S_isIn hC.2.1 (by omega) (bI_fi (fun c3 => ⟨i, by omega, rfl, S_isBare hS hH hF hG hL hN hK (by omega) (bI_fi (fun c4 => ?_) (fun c4 => ?_))⟩) (fun c3 => ?_)))
      · rw [if_pos c2] at hq
        rw [nI_1]
        exact S_bound_L hC hM hS hH hF hG hL hN hK hP hRg hs0 h n (i + 1) f o u g (by omega) (by omega) (by omega) hu (by omega) hq
      · have c5 : hr m i = true := by simpa [c] using c3
        rw [if_neg c2, c5, if_pos rfl, c4, if_pos rfl] at hq
        obtain ⟨⟨u1, w1, w2, w3⟩, ⟨u2, w4, w5, w6⟩, -⟩ := hRg i c
        obtain ⟨m1, m2, m3, -⟩ := hM.1 i (by omega)
        rw [m2, m3, w6, w3]
        refine S_cutUp w4 (by omega) ?_
        rw [nI_1, nI_1, nI_add]
        rw [w3, w6, nI_add, nI_1] at hq
        unfold mx at hq
        exact S_bound_L hC hM hS hH hF hG hL hN hK hP hRg hs0 h n (i + 1) f (o + 1) (u + u1) _ (by omega) (by omega) (by omega) (by omega) (by omega) hq
      · have c5 : hr m i = true := by simpa [c] using c3
        rw [if_neg c2, c5, if_pos rfl, c4, if_neg (by decide)] at hq
        rw [hq]; exact h
      · have c5 : hr m i = false := by simpa [c] using c3
        rw [if_neg c2, c5, if_neg (by decide)] at hq
        rw [nI_1]
        exact S_bound_L hC hM hS hH hF hG hL hN hK hP hRg hs0 h n (i + 1) f o u g (by omega) (by omega) (by omega) hu (by omega) hq
theorem M_bound_L {v : St3} {s : Nat} {A R : Int32} (hz : Sz N K P v) (hL0 : v 24 0 34 = nI L) (hL : L ≤ 192) (hRg : Rg P v) (hs0 : s < 12) (h : post R v) : ∀ (n i f o u : Nat) (g : Int32), i + n = P → n < f → o ≤ i → 1 ≤ u → u ≤ 8 + 8 * i → bF N K L v s A i n (nI o) (nI u) g = R → wL_X10_bound__67 post f (nI s) A g (nI o) (nI u) (nI i) v
  | n, i, 0, o, u, g, _, hf, _, _, _, _ => absurd hf (by omega)
  | n, i, f + 1, o, u, g, e, hf, ho, hu, hu2, hq => by
    have hz0 := hz
    obtain ⟨h1, h2, h3, h4, h5, h6, h7, h8⟩ := hz
    show wB_X10_bound__67 post _ (nI s) A g (nI o) (nI u) (nI i) v
    unfold wB_X10_bound__67
    rw [h3]
    refine le2 (by omega) (by omega) (fun c => ?_) (fun c => ?_)
    · have : n = 0 := by omega
      subst this
      refine ⟨fun c2 => M_share hu (by omega) ⟨fun c3 => ?_, fun c3 => M_share hu (by omega) ?_⟩, fun c2 => ?_⟩
      · rw [bF, if_neg c2, mx_le.1 c3] at hq
        rw [hq]; exact h
      · rw [bF, if_neg c2, mx_le.2 c3] at hq
        rw [hq]; exact h
      · rw [bF, if_pos c2] at hq
        rw [hq]; exact h
    · obtain ⟨n, rfl⟩ : ∃ k, n = k + 1 := ⟨n - 1, by omega⟩
      rw [bF] at hq
      refine eq2 (by omega) (by omega) (fun c2 => ?_) (fun c2 => ⟨i, by omega, rfl, fun c3 => ?_, fun c3 => ?_⟩)
      · rw [if_pos c2] at hq
        rw [nI_1]
        exact M_bound_L hz0 hL0 hL hRg hs0 h n (i + 1) f o u g (by omega) (by omega) (by omega) hu (by omega) hq
      · have c5 : hr v i = true := by simp [hr, c3]
        rw [if_neg c2, c5, if_pos rfl] at hq
        have hle1 := ct_le (hs v i) N
        have hle2 : hh N K v i ≤ N * K := su_le (fun p _ => by
          split
          · omega
          · exact ct_le _ _)
        have hle3 : N * K ≤ 24 * 4 := Nat.mul_le_mul h5 h7
        have hle4 := ct_le (fun k => decide (v 65 0 k = nI i)) L
        have key : ∀ (k : Nat) (A B : Prop), k < 2 ^ 31 → (¬ k = 0 → A) → (k = 0 → B) → ((0 < nI k → A) ∧ (¬ 0 < nI k → B)) := by
          intro k A B hk f g
          have e0 : 0 < nI k ↔ ¬ k = 0 := by
            rw [show (0 : Int32) = nI 0 from rfl, nI_ltI (by omega) hk]; omega
          exact ⟨fun q => f (e0.mp q), fun q => g (Classical.byContradiction fun w => q (e0.mpr w))⟩
        refine M_hasMany (by omega) hz0 (key _ _ _ (by unfold hm; omega) (fun c4 => ?_) (fun c4 => M_holdsMany (by omega) hz0 (key _ _ _ (by omega) (fun c5 => ?_) (fun c5 => M_comingTo hL0 (by omega) (le2 (b := 0) (by unfold ca; omega) (by omega) (fun c6 => ?_) (fun c6 => ?_))))))
        · rw [show bare N K L v i = false by simp [bare, c4], if_neg (by decide)] at hq
          rw [hq]; exact h
        · rw [show bare N K L v i = false by simp [bare, c5], if_neg (by decide)] at hq
          rw [hq]; exact h
        · rw [show bare N K L v i = true by simp [bare, c4, c5]; omega, if_pos rfl] at hq
          obtain ⟨⟨u1, w1, w2, w3⟩, ⟨u2, w4, w5, w6⟩, -⟩ := hRg i c
          rw [w3, w6]
          rw [w3, w6, nI_add, nI_1] at hq
          refine M_share w4 (by omega) ⟨fun c7 => ?_, fun c7 => ?_⟩
          · rw [mx_le.1 c7] at hq
            rw [nI_1, nI_1, nI_add]
            exact M_bound_L hz0 hL0 hL hRg hs0 h n (i + 1) f (o + 1) (u + u1) _ (by omega) (by omega) (by omega) (by omega) (by omega) hq
          · rw [mx_le.2 c7] at hq
            rw [w6]
            refine M_share w4 (by omega) ?_
            rw [nI_1, nI_1, nI_add]
            exact M_bound_L hz0 hL0 hL hRg hs0 h n (i + 1) f (o + 1) (u + u1) _ (by omega) (by omega) (by omega) (by omega) (by omega) hq
        · rw [show bare N K L v i = false by simp [bare]; intros; omega, if_neg (by decide)] at hq
          rw [hq]; exact h
      · have c5 : hr v i = false := by simp [hr, c3]
        rw [if_neg c2, c5, if_neg (by decide)] at hq
        rw [nI_1]
        exact M_bound_L hz0 hL0 hL hRg hs0 h n (i + 1) f o u g (by omega) (by omega) (by omega) hu (by omega) hq
theorem A_bound {a : Int32} (h : RX N K P L C x m) (hq : ∀ r, Q r r (gl x (th m))) : wp_X9_bound a (gl x m) (fun r1 v1 => wp_X10_bound_ a v1 (fun r2 v2 => Q r1 r2 v2)) := by
  obtain ⟨⟨hW, hC, hM, hS, hH, hV, hG, hT, hLt, hR⟩, hz, iC, iR, iF, iH, iS, iO, iD, iN, iG, iM, iU⟩ := id h
  obtain ⟨h1, h2, h3, h4, h5, h6, h7, h8⟩ := id hz
  unfold wp_X9_bound
  refine S_isMember (v := gl x m) (m := m) hC h8 (bI_if (fun c => ?_) (fun c => ?_))
  · unfold wp_X10_bound_
    intro v1 e
    rw [th_gl] at e
    subst e
    refine M_isPeer (v := gl x (th m)) hz ?_
    rw [c]
    exact ⟨fun _ => hq _, fun q => absurd rfl q⟩
  · obtain ⟨d, hd0, rfl⟩ := (ib_t (by omega)).mp c
    obtain ⟨⟨u1, w1, w2, w3⟩, -⟩ := iG d hd0
    have fin : ∀ R, (hr m d = false → R = -1) → (dn N m d = false → R = -1) → (hr m d = true → dn N m d = true → R = bF N K L m d (nI N * nI K) 0 P (nI 0) (nI u1) (sh (nI N * nI K) (nI u1))) → wp_X10_bound_ (nI d) (gl x m) (fun r2 v2 => Q R r2 v2) := by
      intro R r1 r2 r3
      unfold wp_X10_bound_
      intro v1 e
      rw [th_gl] at e
      subst e
      refine M_isPeer (v := gl x (th m)) hz ?_
      rw [c]
      refine ⟨fun q => absurd q (by decide), fun _ => ⟨d, by omega, rfl, fun z => ?_, fun z => M_isDone (v := gl x (th m)) (by omega) hz (bI_fi (fun z2 => ?_) (fun z2 => ?_))⟩⟩
      · rw [r1 (by unfold hr; rw [decide_eq_false_iff_not]; exact fun w => w z)]
        exact hq _
      · have z1 : hr m d = true := by unfold hr; rw [decide_eq_true_eq]; exact z
        show wp_X10_share (m 24 0 1 * m 24 0 2) (m 41 0 d) _ _
        rw [h1, h2, w3]
        refine M_share w1 (by omega) ?_
        show wL_X10_bound__67 _ FU (nI d) (m 24 0 1 * m 24 0 2) _ (nI 0) (m 41 0 d) (nI 0) _
        rw [h1, h2, w3]
        exact M_bound_L (v := gl x (th m)) hz hR.2.1 hR.2.2.1 iG (by omega) (by rw [r3 z1 z2, bF_gl]; exact hq _) P 0 FU 0 u1 _ (by omega) (fu P (by omega)) (by omega) w1 (by omega) rfl
      · rw [r2 z2]
        exact hq _
    refine S_isIn hC.2.1 (by omega) (bI_if (fun c2 => fin _ (fun _ => rfl) (fun _ => rfl) (fun z => ?_)) (fun c2 => ⟨d, by omega, rfl, S_done (v := gl x m) (m := m) hM iD hd0 (bI_fi (fun c3 => ?_) (fun c3 => fin _ (fun _ => rfl) (fun _ => rfl) (fun _ z => ?_)))⟩))
    · have : hr m d = false := by simpa [hd0] using c2
      rw [this] at z; cases z
    · have c4 : hr m d = true := by simpa [hd0] using c2
      rw [show gl x m 5 0 0 = nI N from hW.1, show gl x m 5 0 1 = nI K from hW.2.1, show gl x m 14 d 3 = nI u1 from ((hM.1 d (by omega)).2.1).trans w3]
      refine S_cutUp w1 (by omega) ?_
      exact S_bound_L (v := gl x m) (m := m) hC hM hS hH iF hG hR.2.2.1 h5 h7 h8 iG (by omega) (fin _ (fun z => by rw [c4] at z; cases z) (fun z => by rw [c3] at z; cases z) (fun _ _ => rfl)) P 0 FU 0 u1 _ (by omega) (fu P (by omega)) (by omega) w1 (by omega) rfl
    · rw [c3] at z; cases z
end SAME4
