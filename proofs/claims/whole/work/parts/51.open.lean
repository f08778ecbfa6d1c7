/-! each opens anew -/
theorem pick_cong {ok ok' : Nat → Bool} {g : Nat → Nat → Bool} : ∀ {n i : Nat} {b : Option Nat}, (∀ k, i ≤ k → k < i + n → ok k = ok' k) → pick ok g b i n = pick ok' g b i n
  | 0, _, _, _ => rfl
  | n + 1, i, b, h => by
    rw [pick_s, pick_s, h i (Nat.le_refl _) (by omega)]
    exact pick_cong (fun k h1 h2 => h k (by omega) (by omega))
/-- who of a set has the greatest late number -/
def pk (N P : Nat) (m : St3) (a : Nat) (S : Nat → Bool) : Option Nat := pick S (fun b c => decide (¬ lt N m a b ≤ lt N m a c)) none 0 P
/-- n more are opened, besides O, out of W -/
def opn (N P : Nat) (m : St3) (a : Nat) (W : Nat → Bool) : Nat → (Nat → Bool) → Nat → Bool
  | 0, O => O
  | n + 1, O => match pk N P m a (fun b => W b && !O b) with
    | none => O
    | some c => opn N P m a W n (fun b => O b || decide (b = c))
theorem opn_none {N P : Nat} {m : St3} {a : Nat} {W O : Nat → Bool} (h : pk N P m a (fun b => W b && !O b) = none) : ∀ n, opn N P m a W n O = O
  | 0 => rfl
  | n + 1 => by simp [opn, h]
theorem opn_some {N P : Nat} {m : St3} {a c n : Nat} {W O : Nat → Bool} (h : pk N P m a (fun b => W b && !O b) = some c) : opn N P m a W (n + 1) O = opn N P m a W n (fun b => O b || decide (b = c)) := by simp [opn, h]
theorem opn_sub {N P : Nat} {m : St3} {a : Nat} {W : Nat → Bool} : ∀ (n : Nat) (O : Nat → Bool), (∀ b, O b = true → W b = true) → ∀ b, opn N P m a W n O b = true → W b = true
  | 0, O, h, b, hb => h b hb
  | n + 1, O, h, b, hb => by
    cases hp : pk N P m a (fun b => W b && !O b) with
    | none => rw [opn_none hp] at hb; exact h b hb
    | some c =>
      rw [opn_some hp] at hb
      refine opn_sub n _ (fun e he => ?_) b hb
      simp only [Bool.or_eq_true, decide_eq_true_eq] at he
      rcases he with he | he
      · exact h e he
      · subst he
        have := (pick_lt hp).2
        simp only [Bool.and_eq_true] at this
        exact this.1
/-- the next of a set by turns, from T on -/
def nx (S : Nat → Bool) (T P : Nat) : Option Nat := match fst S T (P - T) with
  | some b => some b
  | none => fst S 0 T
section OPEN
variable {N K P L C : Nat} {x m : St3}
theorem S_latest_L {v : St3} {a : Nat} {s : Int32} {S : Nat → Bool} {post : Int32 → St3 → Prop} (hC : GC P v m) (hM : GM P v m) (hLt : GL v m) (hD : Dn N P m) (hP : P ≤ 12) (ha : a < P) (hs0 : Msk s S) (h : post (eI (pk N P m a S)) v) : ∀ (n i f : Nat) (b : Option Nat), i + n = P → n < f → (∀ c, b = some c → c < P) → pick S (fun b c => decide (¬ lt N m a b ≤ lt N m a c)) b i n = pk N P m a S → wL_X4_latest_5 post f a s (eI b) (nI i) v
  | n, i, 0, _, _, hf, _, _ => absurd hf (by omega)
  | n, i, f + 1, b, e, hf, hb, hp => by
    show wB_X4_latest_5 post _ a s (eI b) (nI i) v
    unfold wB_X4_latest_5
    rw [hC.1, nI_1]
    have nxt : ∀ b', i < P → (∀ c, b' = some c → c < P) → (if S i && oN b (fun c => decide (¬ lt N m a i ≤ lt N m a c)) then some i else b) = b' → wL_X4_latest_5 post f a s (eI b') (nI (i + 1)) v := fun b' hi hb' eb => by
      obtain ⟨n', rfl⟩ : ∃ n', n = n' + 1 := ⟨n - 1, by omega⟩
      rw [pick_s, eb] at hp
      exact S_latest_L hC hM hLt hD hP ha hs0 h n' (i + 1) f b' (by omega) (by omega) hb' hp
    refine le2 (by omega) (by omega) (fun c => ?_) (fun c => S_isIn hs0 (by omega) (bI_if (fun c2 => nxt b c hb (by simp [c2])) (fun c2 => ?_)))
    · have : n = 0 := by omega
      subst this
      rw [show b = pk N P m a S from hp]; exact h
    · cases b with
      | none =>
        refine ⟨fun _ => nxt (some i) c (fun d hd => by cases hd; exact c) (by simp [c2, oN]), fun q => absurd rfl q⟩
      | some d =>
        have hd0 := hb d rfl
        refine ⟨fun q => absurd q (nI_m1 (by omega)), fun _ => S_late hM hLt hD ha hP (by omega) (S_late hM hLt hD ha hP (by omega) ⟨fun c3 => nxt (some d) c hb (by simp [c2, oN, c3]), fun c3 => nxt (some i) c (fun d hd => by cases hd; exact c) (by simp [c2, oN, c3])⟩)⟩
theorem S_latest {v : St3} {a : Nat} {s : Int32} {S : Nat → Bool} {post : Int32 → St3 → Prop} (hC : GC P v m) (hM : GM P v m) (hLt : GL v m) (hD : Dn N P m) (hP : P ≤ 12) (ha : a < P) (hs0 : Msk s S) (h : post (eI (pk N P m a S)) v) : wp_X4_latest a s v post :=
  S_latest_L hC hM hLt hD hP ha hs0 h P 0 FU none (by omega) (fu P (by omega)) (fun c hc => by cases hc) rfl
theorem S_next_L {v : St3} {s t : Int32} {T : Nat} {S : Nat → Bool} {post : Int32 → St3 → Prop} (hC : GC P v m) (hP : P ≤ 12) (hT : T ≤ P) (ht : ∀ i, i < P → (nI i ≤ t ↔ i < T)) (hs0 : Msk s S) (h : post (eI (nx S T P)) v) : ∀ (n i f : Nat), i + n = P → n < f → (∀ k, T ≤ k → k < i → S k = false) → wL_X4_nextByTurns_5 post f t s (eI (fst S 0 (min i T))) (nI i) v
  | n, i, 0, _, hf, _ => absurd hf (by omega)
  | n, i, f + 1, e, hf, hn => by
    show wB_X4_nextByTurns_5 post _ t s _ (nI i) v
    unfold wB_X4_nextByTurns_5
    rw [hC.1, nI_1]
    have fs : ∀ n i, fst S i (n + 1) = match fst S i n with | some b => some b | none => if S (i + n) then some (i + n) else none := by
      intro n
      induction n with
      | zero => intro i; simp [fst]
      | succ n ih =>
        intro i
        rw [fst_s, ih (i + 1)]
        by_cases q : S i = true
        · simp [fst, q]
        · simp [fst, q]
          rw [show i + 1 + n = i + (n + 1) by omega]
    have lt12 : ∀ c, fst S 0 (min i T) = some c → c < 12 := fun c hc => by
      have := fst_t hc
      omega
    refine le2 (by omega) (by omega) (fun c => ?_) (fun c => S_isIn hs0 (by omega) (bI_fi (fun c2 => ⟨fun c3 => ?_, fun c3 => ?_⟩) (fun c2 => ?_)))
    · have : i = P := by omega
      subst this
      rw [show nx S T i = fst S 0 T from by
        unfold nx
        cases hf0 : fst S T (i - T) with
        | none => rfl
        | some b =>
          obtain ⟨w1, w2, w3⟩ := fst_t hf0
          rw [hn b w2 (by omega)] at w1; cases w1] at h
      rw [show min i T = T by omega]
      exact h
    · have hi := (ht i c).mp c3
      have nxt := S_next_L hC hP hT ht hs0 h (n - 1) (i + 1) f (by omega) (by omega) (fun k k1 k2 => hn k k1 (by omega))
      rw [show min (i + 1) T = i + 1 by omega, fs i 0] at nxt
      rw [show min i T = i by omega] at lt12 ⊢
      cases hf0 : fst S 0 i with
      | none =>
        rw [hf0] at nxt
        simp only [Nat.zero_add, c2, if_true] at nxt
        exact ⟨fun q => absurd rfl q, fun _ => nxt⟩
      | some b =>
        rw [hf0] at nxt
        exact ⟨fun _ => nxt, fun q => absurd q (nI_m1 (by have := lt12 b hf0; omega))⟩
    · have hi : T ≤ i := Nat.le_of_not_lt (fun q => c3 ((ht i c).mpr q))
      have : nx S T P = some i := by
        unfold nx
        have w : fst S T (P - T) = some i := by
          cases hf0 : fst S T (P - T) with
          | none =>
            have := fst_n hf0 i hi (by omega)
            rw [c2] at this; cases this
          | some b =>
            obtain ⟨w1, w2, w3⟩ := fst_t hf0
            rcases Nat.lt_trichotomy b i with q | q | q
            · rw [hn b w2 q] at w1; cases w1
            · rw [q]
            · have hmin : ∀ n j, fst S j n = some b → j ≤ i → i < b → False := by
                intro n
                induction n with
                | zero => intro j hj; cases hj
                | succ n ih =>
                  intro j hj h1 h2
                  rw [fst_s] at hj
                  by_cases q0 : S j = true
                  · rw [if_pos q0] at hj
                    cases hj; omega
                  · rw [if_neg q0] at hj
                    by_cases q1 : j = i
                    · subst q1; exact q0 c2
                    · exact ih (j + 1) hj (by omega) h2
              exact absurd (hmin _ _ hf0 hi q) id
        rw [w]
      rw [this] at h
      exact h
    · have nxt := S_next_L hC hP hT ht hs0 h (n - 1) (i + 1) f (by omega) (by omega) (fun k k1 k2 => by
        by_cases q : k = i
        · rw [q]; exact c2
        · exact hn k k1 (by omega))
      by_cases q : i < T
      · rw [show min (i + 1) T = i + 1 by omega, fs i 0] at nxt
        rw [show min i T = i by omega]
        cases hf0 : fst S 0 i with
        | none =>
          rw [hf0] at nxt
          simp only [Nat.zero_add, c2] at nxt
          exact nxt
        | some b => rw [hf0] at nxt; exact nxt
      · rw [show min (i + 1) T = T by omega] at nxt
        rw [show min i T = T by omega]
        exact nxt
theorem S_setOf {v : St3} {o : Option Nat} {post : Int32 → St3 → Prop} (ho : ∀ c, o = some c → c < 12) (h : ∀ y, Msk y (fun b => decide (o = some b)) → post y v) : wp_X4_setOf (eI o) v post := by
  unfold wp_X4_setOf
  cases o with
  | none => exact ⟨fun q => absurd rfl q, fun _ => h 0 (Msk.none.ext (fun i _ => by simp))⟩
  | some c =>
    have := ho c rfl
    refine ⟨fun _ => h _ (fun i hi => ?_), fun q => absurd q (nI_m1 (by omega))⟩
    rw [show eI (some c) = nI c from rfl, b_one c (by omega) i hi]
    simp [eq_comm]
/-- the reference's rows while it opens -/
def oS (a i : Nat) (O S : Nat → Bool) (m : St3) : St3 := fun k e j => if k = 56 ∧ e = 0 ∧ 12 * a ≤ j ∧ j < 12 * a + i then bI (O (j - 12 * a)) else if k = 72 ∧ e = 0 ∧ j < i then bI (S j) else m k e j
theorem oS_0 (a : Nat) (O S : Nat → Bool) (m : St3) : oS a 0 O S m = m := by
  funext k e j
  unfold oS
  rw [if_neg (by omega), if_neg (by omega)]
theorem oS_s {a i : Nat} {W : Nat → Bool} : up3 (up3 (oS a i (fun _ => false) W m) 56 0 (12 * a + i) 0) 72 0 i (bI (W i)) = oS a (i + 1) (fun _ => false) W m := by
  funext k e j
  simp only [up3, oS]
  by_cases q : k = 72 ∧ e = 0 ∧ j = i
  · rw [if_pos q, if_neg (by omega), if_pos (by omega), q.2.2]
  · rw [if_neg q]
    by_cases q2 : k = 56 ∧ e = 0 ∧ j = 12 * a + i
    · rw [if_pos q2, if_pos (by omega)]; rfl
    · rw [if_neg q2]
      by_cases q3 : k = 56 ∧ e = 0 ∧ 12 * a ≤ j ∧ j < 12 * a + i
      · rw [if_pos q3, if_pos (by omega)]
      · rw [if_neg q3]
        by_cases q4 : k = 72 ∧ e = 0 ∧ j < i
        · rw [if_pos q4, if_neg (by omega), if_pos (by omega)]
        · rw [if_neg q4, if_neg (by omega), if_neg (by omega)]
theorem oS_b {a b i : Nat} {O S : Nat → Bool} (hb : b < i) : up3 (up3 (oS a i O S m) 56 0 (12 * a + b) 1) 72 0 b 0 = oS a i (fun c => O c || decide (c = b)) (fun c => S c && !decide (c = b)) m := by
  funext k e j
  simp only [up3, oS]
  by_cases q : k = 72 ∧ e = 0 ∧ j = b
  · rw [if_pos q, if_neg (by omega), if_pos (by omega), q.2.2]; simp [bI]
  · rw [if_neg q]
    by_cases q2 : k = 56 ∧ e = 0 ∧ j = 12 * a + b
    · rw [if_pos q2, if_pos (by omega), show j - 12 * a = b by omega]; simp [bI]
    · rw [if_neg q2]
      by_cases q3 : k = 56 ∧ e = 0 ∧ 12 * a ≤ j ∧ j < 12 * a + i
      · rw [if_pos q3, if_pos q3]; simp [show ¬ j - 12 * a = b by omega]
      · rw [if_neg q3, if_neg q3]
        by_cases q4 : k = 72 ∧ e = 0 ∧ j < i
        · rw [if_pos q4, if_pos q4]; simp [show ¬ j = b by omega]
        · rw [if_neg q4, if_neg q4]
/-- whom a may open to -/
def w0 (N P : Nat) (m : St3) (a b : Nat) : Bool := decide (b < P) && (wn N m b a && !(decide (m 40 0 a = 2) || decide (m 40 0 a = 5)))
theorem M_o10 {x0 : St3} {a : Nat} {post : St3 → Prop} (hz : Sz N K P m) (iS : Sy m) (ha : a < P) (h : wL_X10_opens_82 post FU (nI a) (3 : Int32) (gl x0 (oS a P (fun _ => false) (w0 N P m a) m))) : ∀ (n i f : Nat), i + n = P → n < f → wL_X10_opens_10 post f (nI a) (3 : Int32) (nI i) (gl x0 (oS a i (fun _ => false) (w0 N P m a) m))
  | n, i, 0, _, hf => absurd hf (by omega)
  | n, i, f + 1, e, hf => by
    obtain ⟨h1, h2, h3, h4, h5, h6, h7, h8⟩ := id hz
    show wB_X10_opens_10 post _ (nI a) (3 : Int32) (nI i) _
    unfold wB_X10_opens_10
    rw [show gl x0 (oS a i (fun _ => false) (w0 N P m a) m) 24 0 4 = nI P from h3, nI_1]
    have nxt := M_o10 (x0 := x0) (post := post) hz iS ha h (n - 1) (i + 1) f
    refine le2 (by omega) (by omega) (fun c => ?_) (fun c => M_two ⟨_, by omega, rfl, ?_⟩)
    · rw [show i = P by omega]; exact h
    · intro v1 e1
      rw [gl_m rfl] at e1
      subst e1
      have nx2 : ∀ z, w0 N P m a i = z → ∀ v2, v2 = up3 (gl x0 (up3 (oS a i (fun _ => false) (w0 N P m a) m) 56 0 (12 * a + i) 0)) 72 0 i (bI z) → wL_X10_opens_10 post f (nI a) (3 : Int32) (nI (i + 1)) v2 := fun z hz0 v2 e2 => by
        rw [gl_m rfl, ← hz0, oS_s] at e2
        subst e2
        exact nxt (by omega) (by omega)
      refine eq2 (by omega) (by omega) (fun c2 => ⟨i, by omega, rfl, fun v2 e2 => nx2 false ?_ v2 e2⟩) (fun c2 => M_wants (v := gl x0 (up3 (oS a i (fun _ => false) (w0 N P m a) m) 56 0 (12 * a + i) 0)) (N := N) (K := K) (P := P) (by omega) (by omega) hz ?_)
      · subst c2
        unfold w0 wn
        rw [nr_self iS (by omega)]; simp
      · rw [show wn N (gl x0 (up3 (oS a i (fun _ => false) (w0 N P m a) m) 56 0 (12 * a + i) 0)) i a = wn N m i a from rfl]
        refine bI_if (fun c3 => ⟨i, by omega, rfl, fun v2 e2 => nx2 false (by simp [w0, c3]) v2 e2⟩) (fun c3 => ⟨a, by omega, rfl, fun c4 => ⟨i, by omega, rfl, fun v2 e2 => nx2 false ?_ v2 e2⟩, fun c4 => ⟨fun c5 => ⟨i, by omega, rfl, fun v2 e2 => nx2 false ?_ v2 e2⟩, fun c5 => ⟨i, by omega, rfl, fun v2 e2 => nx2 true ?_ v2 e2⟩⟩⟩)
        · unfold w0; rw [show m 40 0 a = 2 from c4]; simp
        · unfold w0; rw [show m 40 0 a = 5 from c5]; simp
        · unfold w0
          rw [c3, show decide (m 40 0 a = 2) = false from decide_eq_false c4, show decide (m 40 0 a = 5) = false from decide_eq_false c5]
          simp [c]
theorem M_o92 {v : St3} {a : Nat} {y : Int32} {S : Nat → Bool} {post : St3 → Prop} {K82 : Int32 → Int32 → St3 → Prop} (hz : Sz N K P v) (ha : a < P) (hS : ∀ b, b < P → v 72 0 b = bI (S b)) (h0 : pk N P v a S = none → ∀ v63, v63 = up3 v 62 0 a (-1 : Int32) → wL_X10_opens_183 post FU (nI a) (0 : Int32) v63) (h1 : ∀ b, pk N P v a S = some b → K82 (nI a) (y + (-1 : Int32)) (up3 (up3 v 56 0 (12 * a + b) 1) 72 0 b 0)) : ∀ (n i f : Nat) (b : Option Nat), i + n = P → n < f → (∀ c, b = some c → c < P) → pick S (fun b c => decide (¬ lt N v a b ≤ lt N v a c)) b i n = pk N P v a S → wL_X10_opens_92 post K82 f (nI a) y (eI b) (nI i) v
  | n, i, 0, _, _, hf, _, _ => absurd hf (by omega)
  | n, i, f + 1, b, e, hf, hb, hp => by
    obtain ⟨g1, g2, g3, g4, g5, g6, g7, g8⟩ := id hz
    show wB_X10_opens_92 post _ _ (nI a) y (eI b) (nI i) v
    unfold wB_X10_opens_92
    rw [g3, nI_1]
    have nxt : ∀ b', i < P → (∀ c, b' = some c → c < P) → (if S i && oN b (fun c => decide (¬ lt N v a i ≤ lt N v a c)) then some i else b) = b' → wL_X10_opens_92 post K82 f (nI a) y (eI b') (nI (i + 1)) v := fun b' hi hb' eb => by
      obtain ⟨n', rfl⟩ : ∃ n', n = n' + 1 := ⟨n - 1, by omega⟩
      rw [pick_s, eb] at hp
      exact M_o92 hz ha hS h0 h1 n' (i + 1) f b' (by omega) (by omega) hb' hp
    refine le2 (by omega) (by omega) (fun c => ?_) (fun c => ⟨i, by omega, rfl, ?_⟩)
    · have : n = 0 := by omega
      subst this
      have hp : b = pk N P v a S := hp
      cases b with
      | none => exact ⟨fun q => absurd rfl q, fun _ => ⟨a, by omega, rfl, h0 hp.symm⟩⟩
      | some d =>
        have hd0 := hb d rfl
        refine ⟨fun _ => M_two ⟨_, by omega, rfl, ?_⟩, fun q => absurd q (nI_m1 (by omega))⟩
        intro v1 e1
        subst e1
        refine ⟨d, by omega, rfl, ?_⟩
        intro v2 e2
        subst e2
        exact h1 d hp.symm
    · rw [hS i c]
      refine bI_if (fun c2 => nxt b c hb (by simp [c2])) (fun c2 => ?_)
      cases b with
      | none =>
        refine ⟨fun _ => nxt (some i) c (fun d hd => by cases hd; exact c) (by simp [c2, oN]), fun q => absurd rfl q⟩
      | some d =>
        have hd0 := hb d rfl
        refine ⟨fun q => absurd q (nI_m1 (by omega)), fun _ => M_late (by omega) (by omega) hz (M_late (by omega) (by omega) hz ⟨fun c3 => nxt (some d) c hb (by simp [c2, oN, c3]), fun c3 => nxt (some i) c (fun d hd => by cases hd; exact c) (by simp [c2, oN, c3])⟩)⟩
theorem M_o82 {x0 : St3} {a : Nat} {W : Nat → Bool} {post : St3 → Prop} (hz : Sz N K P m) (ha : a < P) (R : Nat → Bool) (h : ∀ v63, v63 = up3 (gl x0 (oS a P R (fun b => W b && !R b) m)) 62 0 a (-1 : Int32) → wL_X10_opens_183 post FU (nI a) (0 : Int32) v63) : ∀ (n f : Nat) (O : Nat → Bool), n < f → n < 2 ^ 31 → opn N P m a W n O = R → wL_X10_opens_82 post f (nI a) (nI n) (gl x0 (oS a P O (fun b => W b && !O b) m))
  | n, 0, _, hf, _, _ => absurd hf (by omega)
  | 0, f + 1, O, hf, hn, hR => by
    obtain ⟨g1, g2, g3, g4, g5, g6, g7, g8⟩ := id hz
    show wB_X10_opens_82 post _ (nI a) (nI 0) _
    unfold wB_X10_opens_82
    have hR : O = R := hR
    subst hR
    exact ⟨fun _ => ⟨a, by omega, rfl, h⟩, fun q => absurd (by decide) q⟩
  | n + 1, f + 1, O, hf, hn, hR => by
    obtain ⟨g1, g2, g3, g4, g5, g6, g7, g8⟩ := id hz
    show wB_X10_opens_82 post _ (nI a) (nI (n + 1)) _
    unfold wB_X10_opens_82
    refine ⟨fun q => ?_, fun _ => ?_⟩
    · rw [show (0 : Int32) = nI 0 from rfl, nI_leI (by omega) (by omega)] at q
      omega
    · refine M_o92 (v := gl x0 (oS a P O (fun b => W b && !O b) m)) (N := N) (K := K) (P := P) (S := fun b => W b && !O b) hz ha (fun b hb => ?_) (fun hp => ?_) (fun b hp => ?_) P 0 FU none (by omega) (fu P (by omega)) (fun c hc => by cases hc) rfl
      · show (if 72 = 56 ∧ 0 = 0 ∧ 12 * a ≤ b ∧ b < 12 * a + P then bI (O (b - 12 * a)) else if 72 = 72 ∧ 0 = 0 ∧ b < P then bI (W b && !O b) else m 72 0 b) = _
        rw [if_neg (by omega), if_pos ⟨rfl, rfl, hb⟩]
      · have hp : pk N P m a (fun b => W b && !O b) = none := hp
        rw [opn_none hp] at hR
        subst hR
        exact h
      · have hp : pk N P m a (fun b => W b && !O b) = some b := hp
        rw [opn_some hp] at hR
        have nxt := M_o82 hz ha R h n f _ (by omega) (by omega) hR
        rw [gl_m rfl, gl_m rfl, oS_b (pick_lt hp).1, show nI (n + 1) + (-1 : Int32) = nI n from by rw [← nI_1, Int32.add_assoc]; exact Int32.add_zero _]
        have : (fun b_1 => W b_1 && !(O b_1 || decide (b_1 = b))) = (fun c => (W c && !O c) && !decide (c = b)) := by
          funext c
          cases W c <;> cases O c <;> simp
        rw [this] at nxt
        exact nxt
end OPEN
