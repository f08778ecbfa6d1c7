/-! who asks what of whom: both sides' readings -/
def ob (y : Int32) : Option Nat := if y = -1 then none else some (un y)
theorem ob_e {y : Int32} (h : y = -1 ∨ ∃ g, g < 12 ∧ y = nI g) : eI (ob y) = y ∧ ∀ n, ob y = some n → n < 12 := by
  rcases h with rfl | ⟨g, hg, rfl⟩
  · refine ⟨by simp [ob, eI], fun n hn => ?_⟩
    simp [ob] at hn
  · have : ¬ nI g = -1 := nI_m1 (by omega)
    refine ⟨by simp [ob, this, eI, un_nI (show g < 2 ^ 31 by omega)], fun n hn => ?_⟩
    simp [ob, this, un_nI (show g < 2 ^ 31 by omega)] at hn
    omega
theorem pick_none {ok : Nat → Bool} {g : Nat → Nat → Bool} : ∀ {n i : Nat}, pick ok g none i n = none ↔ ∀ k, i ≤ k → k < i + n → ok k = false
  | 0, i => ⟨fun _ k h1 h2 => absurd h2 (by omega), fun _ => rfl⟩
  | n + 1, i => by
    rw [pick_s]
    have some_ne : ∀ (n i b : Nat), ¬ pick ok g (some b) i n = none := by
      intro n
      induction n with
      | zero => intro i b h; cases h
      | succ n ih =>
        intro i b h
        rw [pick_s] at h
        split at h
        · exact ih _ _ h
        · exact ih _ _ h
    cases hk : ok i with
    | true =>
      simp only [oN, Bool.and_true, if_true]
      constructor
      · intro h; exact absurd h (some_ne _ _ _)
      · intro h
        have := h i (Nat.le_refl _) (by omega)
        rw [hk] at this; cases this
    | false =>
      simp only [Bool.false_and, Bool.false_eq_true, if_false]
      rw [pick_none]
      constructor
      · intro h k h1 h2
        by_cases q : k = i
        · rw [q]; exact hk
        · exact h k (by omega) (by omega)
      · intro h k h1 h2
        exact h k (by omega) (by omega)
/-- what each may still send and ask -/
def GU (P : Nat) (v m : St3) : Prop := ∀ e, e < P → hr m e = true → v 14 e 11 = m 73 0 e ∧ v 14 e 12 = m 74 0 e
theorem gv_nr {m : St3} {g d : Nat} (h : gv m g d = true) : nr m g d = true ∧ op m g d = true ∧ hr m g = true ∧ hr m d = true ∧ ¬ m 73 0 g ≤ 0 ∧ ¬ g = d := by
  unfold gv at h
  simp only [Bool.and_eq_true, decide_eq_true_eq] at h
  obtain ⟨n1, n2, n3, n4, n5⟩ := nr_t h.1.1.2
  exact ⟨h.1.1.2, h.1.2, n2, n3, h.2, h.1.1.1⟩
section ASK
variable {N K P L C : Nat} {v m : St3} {post : Int32 → St3 → Prop}
theorem S_giversTo_L {d : Nat} {w : Int32} (hQ : RQ (fun _ => true) N K P L C v m) (hU : GU P v m) (hd0 : d < P) (hw : Msk w (fun b => decide (b < P) && nr m d b)) (h : ∀ y, Msk y (fun g => decide (g < P) && gv m g d) → post y v) : ∀ (n i f : Nat) (y : Int32), i + n = P → n < f → Msk y (fun g => decide (g < i) && gv m g d) → wL_X1_giversTo_14 post f (nI d) w y (nI i) v
  | n, i, 0, _, _, hf, _ => absurd hf (by omega)
  | n, i, f + 1, y, e, hf, hy => by
    obtain ⟨⟨hW, hC, hM, hS, hH, hV, hG, hT, hLt, hR⟩, hz, iC, iR, iF, iH, iS, iO, iD, iN, iG, iM⟩ := id hQ
    obtain ⟨h1, h2, h3, h4, h5, h6, h7, h8⟩ := id hz
    show wB_X1_giversTo_14 post _ (nI d) w y (nI i) v
    unfold wB_X1_giversTo_14
    rw [hC.1, nI_1]
    have nsy : ∀ g, g < 12 → nr m g d = nr m d g := fun g hg => nr_sy iS hg (by omega)
    have nxt : ∀ y', i < P → Msk y' (fun g => decide (g < i + 1) && gv m g d) → wL_X1_giversTo_14 post f (nI d) w y' (nI (i + 1)) v := fun y' hi hy' => S_giversTo_L hQ hU hd0 hw h (n - 1) (i + 1) f y' (by omega) (by omega) hy'
    have no : i < P → gv m i d = false → wL_X1_giversTo_14 post f (nI d) w y (nI (i + 1)) v := fun hi hz0 => nxt y hi (hy.ext (fun j _ => by
      by_cases q : j = i
      · subst q; rw [hz0]; simp
      · rw [show decide (j < i) = decide (j < i + 1) by rw [decide_eq_decide]; omega]))
    refine ⟨fun c => h y (hy.ext (fun g hg => ?_)), fun c => le2 (by omega) (by omega) (fun c2 => h y (by rw [show P = i by omega]; exact hy)) (fun c2 => ⟨i, by omega, rfl, S_isIn hw (by omega) (bI_if (fun c3 => no c2 ?_) (fun c3 => ?_))⟩)⟩
    · have w0 := hw.z.mp c
      have : g < P → gv m g d = false := fun q => by
        have w1 := w0 g hg
        simp only [q, decide_true, Bool.true_and] at w1
        unfold gv
        rw [nsy g (by omega), w1]; simp
      by_cases q : g < P
      · rw [this q]; simp
      · simp [q, show ¬ g < i by omega]
    · have c4 : nr m d i = false := by simpa [c2] using c3
      unfold gv
      rw [nsy i (by omega), c4]; simp
    · have c4 : nr m d i = true := by simpa [c2] using c3
      have c4' : nr m i d = true := by rw [nsy i (by omega)]; exact c4
      obtain ⟨n1, n2, n3, n4, n5⟩ := nr_t c4'
      refine S_isIn (hT.1 i (by omega)).2.2.2 (by omega) ?_
      rw [show (decide (d < P) && op m i d && !bn m i d && !bn m d i) = op m i d by simp [hd0, n4, n5]]
      have ne : ¬ i = d := fun z => by
        rw [z, nr_self iS (by omega)] at c4'; cases c4'
      refine bI_if (fun c5 => no c2 (by simp [gv, c5])) (fun c5 => ?_)
      rw [(hU i c2 n2).1]
      refine ⟨fun c6 => no c2 (by simp [gv, c6]), fun c6 => nxt _ c2 ((hy.or1 (n := i) (by omega)).ext (fun j _ => ?_))⟩
      by_cases q : j = i
      · subst q
        simp [gv, c4', c5, c6, ne]
      · rw [show decide (j < i + 1) = decide (j < i) by rw [decide_eq_decide]; omega]; simp [q]
theorem S_giversTo {d : Nat} (hQ : RQ (fun _ => true) N K P L C v m) (hU : GU P v m) (hd0 : d < P) (h : ∀ y, Msk y (fun g => decide (g < P) && gv m g d) → post y v) : wp_X1_giversTo (nI d) v post := by
  obtain ⟨⟨hW, hC, hM, hS, hH, hV, hG, hT, hLt, hR⟩, hz, iC, iR, iF, iH, iS, iO, iD, iN, iG, iM⟩ := id hQ
  obtain ⟨h1, h2, h3, h4, h5, h6, h7, h8⟩ := id hz
  unfold wp_X1_giversTo
  refine S_nearTo hC hT h8 hd0 (fun w hw => S_giversTo_L hQ hU hd0 hw h P 0 FU 0 (by omega) (fu P (by omega)) (Msk.none.ext (fun i _ => by simp)))
theorem bd_ok {d p : Nat} (iF : Fr N K m) (iR : Rd N K P L m) (hP : P ≤ 12) (hd0 : d < 12) (hp : p < N) (c0 : hs m d p = false) : bd K L m d p = -1 ∨ ∃ g, g < 12 ∧ bd K L m d p = nI g := by
  unfold bd
  cases mk m d p with
  | false => exact Or.inl rfl
  | true =>
    simp only [if_true]
    cases hf : fst (hl m d p) 0 K with
    | some b =>
      obtain ⟨w1, w2, w3⟩ := fst_t hf
      exact Or.inr (iF d p b hd0 hp (by omega) w1 c0)
    | none =>
      simp only
      cases hr0 : rd1 L m d p with
      | none => exact Or.inl rfl
      | some k =>
        obtain ⟨w1, w2, w3⟩ := fst_t hr0
        obtain ⟨d', g, p', b', q1, q2, q3, q4, q5, q6, q7, q8⟩ := iR k (by omega)
        exact Or.inr ⟨g, by omega, q6⟩
theorem S_may {d p : Nat} {s : Int32} (hQ : RQ (fun _ => true) N K P L C v m) (hd0 : d < P) (hp : p < N) (c0 : hs m d p = false) (hs0 : Msk s (fun g => decide (g < P) && gv m g d)) (h : ∀ y, Msk y (fun g => decide (g < P) && gok m d p (ob (bd K L m d p)) none g) → post y v) : wp_X1_giversThatMayBe (nI d) (nI p) s v post := by
  obtain ⟨⟨hW, hC, hM, hS, hH, hV, hG, hT, hLt, hR⟩, hz, iC, iR, iF, iH, iS, iO, iD, iN, iG, iM⟩ := id hQ
  obtain ⟨h1, h2, h3, h4, h5, h6, h7, h8⟩ := id hz
  have hb := bd_ok iF iR h8 (show d < 12 by omega) hp c0
  unfold wp_X1_giversThatMayBe
  refine S_tellersAmong hC hM hS h5 h8 hp hs0 (fun t ht => ⟨d, by omega, rfl, S_isIn (hS d (by omega)).2 (by omega) ?_⟩)
  have ht' : Msk t (fun g => decide (g < P) && (gv m g d && tl m g p)) := ht.ext (fun g _ => by
    cases decide (g < P) <;> simp)
  have free : bd K L m d p = -1 → post t v := fun q => h t (ht'.ext (fun g _ => by
    simp [gok, q, ob, oN]))
  have bound : ∀ r, bd K L m d p = r → ¬ r = -1 → post (t &&& ((1 : Int32) <<< (r &&& 31))) v := fun r er hr0 => by
    rcases hb with hb | ⟨g0, hg0, hb⟩
    · exact absurd (er.symm.trans hb) hr0
    · have e2 : r = nI g0 := er.symm.trans hb
      subst e2
      have e3 : ob (bd K L m d p) = some g0 := by
        rw [hb]; simp [ob, hr0, un_nI (show g0 < 2 ^ 31 by omega)]
      have one : Msk ((1 : Int32) <<< (nI g0 &&& 31)) (fun j => decide (j = g0)) := fun j hj => b_one g0 (by omega) j hj
      refine h _ ((ht'.and one).ext (fun g _ => ?_))
      rw [e3]
      simp [gok, oN, Bool.and_assoc]
  rw [show (decide (p < N) && mk m d p) = mk m d p by simp [hp]]
  refine bI_fi (fun c => S_firstGiver hH iF (by omega) h5 h7 hp c0 ?_) (fun c => free (by simp [bd, c]))
  cases hf : fst (hl m d p) 0 K with
  | some b =>
    have e : bd K L m d p = fr m d p b := by simp [bd, c, hf]
    have hne : ¬ fr m d p b = -1 := by
      obtain ⟨w1, w2, w3⟩ := fst_t hf
      obtain ⟨g, hg, eg⟩ := iF d p b (by omega) hp (by omega) w1 c0
      rw [eg]; exact nI_m1 (by omega)
    exact ⟨fun _ => ⟨fun _ => bound _ e hne, fun q => absurd q hne⟩, fun q => absurd q hne⟩
  | none =>
    refine ⟨fun q => absurd rfl q, fun _ => S_rfirst hR ?_⟩
    have e : bd K L m d p = (match rd1 L m d p with | some k => m 66 0 k | none => -1) := by simp only [bd, c, hf, if_true]; cases rd1 L m d p <;> rfl
    exact ⟨fun q => bound _ e q, fun q => free (e.trans q)⟩
theorem S_readiest_L {s : Int32} {F : Nat → Bool} (hC : GC P v m) (hU : GU P v m) (hP : P ≤ 12) (hF : ∀ g, g < P → F g = true → hr m g = true) (hs0 : Msk s (fun g => decide (g < P) && F g)) (h : post (eI (pick F (ggt m) none 0 P)) v) : ∀ (n i f : Nat) (b : Option Nat), i + n = P → n < f → (∀ c, b = some c → c < P ∧ F c = true) → pick F (ggt m) b i n = pick F (ggt m) none 0 P → wL_X1_readiest_4 post f s (eI b) (nI i) v
  | n, i, 0, _, _, hf, _, _ => absurd hf (by omega)
  | n, i, f + 1, b, e, hf, hb, hp => by
    show wB_X1_readiest_4 post _ s (eI b) (nI i) v
    unfold wB_X1_readiest_4
    rw [hC.1, nI_1]
    have nxt : ∀ b', i < P → (∀ c, b' = some c → c < P ∧ F c = true) → (if F i && oN b (ggt m i) then some i else b) = b' → wL_X1_readiest_4 post f s (eI b') (nI (i + 1)) v := fun b' hi hb' eb => by
      obtain ⟨n', rfl⟩ : ∃ n', n = n' + 1 := ⟨n - 1, by omega⟩
      rw [pick_s, eb] at hp
      exact S_readiest_L hC hU hP hF hs0 h n' (i + 1) f b' (by omega) (by omega) hb' hp
    refine le2 (by omega) (by omega) (fun c => ?_) (fun c => S_isIn hs0 (by omega) ?_)
    · have : n = 0 := by omega
      subst this
      rw [show b = pick F (ggt m) none 0 P from hp]; exact h
    · rw [show (decide (i < P) && F i) = F i by simp [c]]
      refine bI_if (fun c2 => nxt b c hb (by simp [c2])) (fun c2 => ?_)
      cases b with
      | none =>
        refine ⟨fun _ => nxt (some i) c (fun d hd => by cases hd; exact ⟨c, c2⟩) (by simp [c2, oN]), fun q => absurd rfl q⟩
      | some d =>
        obtain ⟨hd0, hd1⟩ := hb d rfl
        refine ⟨fun q => absurd q (nI_m1 (by omega)), fun _ => ⟨i, by omega, rfl, d, by omega, rfl, ?_⟩⟩
        rw [(hU i c (hF i c c2)).1, (hU d hd0 (hF d hd0 hd1)).1]
        exact ⟨fun c3 => nxt (some d) c hb (by simp [c2, oN, ggt, c3]), fun c3 => nxt (some i) c (fun d hd => by cases hd; exact ⟨c, c2⟩) (by simp [c2, oN, ggt, c3])⟩
theorem S_readiest {s : Int32} {F : Nat → Bool} (hC : GC P v m) (hU : GU P v m) (hP : P ≤ 12) (hF : ∀ g, g < P → F g = true → hr m g = true) (hs0 : Msk s (fun g => decide (g < P) && F g)) (h : post (eI (pick F (ggt m) none 0 P)) v) : wp_X1_readiest s v post :=
  S_readiest_L hC hU hP hF hs0 h P 0 FU none (by omega) (fu P (by omega)) (fun c hc => by cases hc) rfl
theorem gok_hr {d p g : Nat} {o1 o2 : Option Nat} (h : gok m d p o1 o2 g = true) : gv m g d = true := by
  unfold gok at h
  simp only [Bool.and_eq_true] at h
  exact h.1.1.1
theorem mask_gvr {d p : Nat} {y : Int32} {o1 o2 : Option Nat} (hP : P ≤ 12) (hy : Msk y (fun g => decide (g < P) && gok m d p o1 o2 g)) : y = 0 ↔ gvr P m d p o1 o2 = none := by
  rw [hy.z]
  unfold gvr
  rw [pick_none]
  constructor
  · intro h k _ hk
    have := h k (by omega)
    simpa [show k < P by omega] using this
  · intro h k hk
    by_cases q : k < P
    · simp [h k (by omega) (by omega)]
    · simp [q]
/-- a piece that may be asked for, and its rank -/
def okp (K P L : Nat) (m : St3) (d p : Nat) : Bool := !hs m d p && (nb K L m d p).isSome && (gvr P m d p (ob (bd K L m d p)) none).isSome
def rk (K P L : Nat) (m : St3) (d p : Nat) : Nat := if bg K L m d p then te P m d p else te P m d p + 13
def pp (N K P L : Nat) (m : St3) (d : Nat) : Option Nat := pick (okp K P L m d) (fun p q => decide (rk K P L m d p < rk K P L m d q)) none 0 N
theorem te_le {d p : Nat} (hP : P ≤ 12) : te P m d p ≤ 12 := Nat.le_trans (ct_le _ _) hP
theorem nb_m1 {d p : Nat} (hK : K ≤ 4) : eI (nb K L m d p) = -1 ↔ nb K L m d p = none := eI_m1 (fun n hn => by
  have := fst_t hn
  omega)
theorem gvr_m1 {d p : Nat} {o1 o2 : Option Nat} (hP : P ≤ 12) : eI (gvr P m d p o1 o2) = -1 ↔ gvr P m d p o1 o2 = none := eI_m1 (fun n hn => by
  have := (pick_lt hn).1
  omega)
theorem isSome_f {o : Option Nat} : o.isSome = false ↔ o = none := by cases o <;> simp
theorem isSome_t {o : Option Nat} : o.isSome = true ↔ ¬ o = none := by cases o <;> simp
theorem S_pick_L {d : Nat} {s w : Int32} (hQ : RQ (fun _ => true) N K P L C v m) (hd0 : d < P) (hs0 : Msk s (fun g => decide (g < P) && gv m g d)) (hw : Msk w (fun b => decide (b < P) && nr m d b)) (h : post (eI (pp N K P L m d)) v) : ∀ (n i f : Nat) (b : Option Nat) (r : Int32), i + n = N → n < f → (∀ c, b = some c → c < N ∧ r = nI (rk K P L m d c)) → pick (okp K P L m d) (fun p q => decide (rk K P L m d p < rk K P L m d q)) b i n = pp N K P L m d → wL_X1_pickPiece_32 post f (nI d) s d w (eI b) r (nI i) v
  | n, i, 0, _, _, _, hf, _, _ => absurd hf (by omega)
  | n, i, f + 1, b, r, e, hf, hb, hp => by
    obtain ⟨⟨hW, hC, hM, hS, hH, hV, hG, hT, hLt, hR⟩, hz, iC, iR, iF, iH, iS, iO, iD, iN, iG, iM⟩ := id hQ
    obtain ⟨h1, h2, h3, h4, h5, h6, h7, h8⟩ := id hz
    have hL := hR.2.2.1
    show wB_X1_pickPiece_32 post _ (nI d) s d w (eI b) r (nI i) v
    unfold wB_X1_pickPiece_32
    rw [hW.1, nI_1]
    have nxt : ∀ b' r', i < N → (∀ c, b' = some c → c < N ∧ r' = nI (rk K P L m d c)) → (if okp K P L m d i && oN b (fun q => decide (rk K P L m d i < rk K P L m d q)) then some i else b) = b' → wL_X1_pickPiece_32 post f (nI d) s d w (eI b') r' (nI (i + 1)) v := fun b' r' hi hb' eb => by
      obtain ⟨n', rfl⟩ : ∃ n', n = n' + 1 := ⟨n - 1, by omega⟩
      rw [pick_s, eb] at hp
      exact S_pick_L hQ hd0 hs0 hw h n' (i + 1) f b' r' (by omega) (by omega) hb' hp
    have skip : i < N → okp K P L m d i = false → wL_X1_pickPiece_32 post f (nI d) s d w (eI b) r (nI (i + 1)) v := fun hi hk => nxt b r hi hb (by rw [hk]; simp)
    refine le2 (by omega) (by omega) (fun c => ?_) (fun c => S_isIn (hS d (by omega)).1 (by omega) ?_)
    · have : n = 0 := by omega
      subst this
      rw [show b = pp N K P L m d from hp]; exact h
    · rw [show (decide (i < N) && hs m d i) = hs m d i by simp [c]]
      refine bI_fi (fun c2 => skip c (by simp [okp, c2])) (fun c2 => ?_)
      rw [hW.2.1]
      refine S_firstUnasked hS hH iF hG hL (by omega) h5 h7 c c2 ⟨fun c3 => skip c ?_, fun c3 => S_may hQ hd0 c c2 hs0 (fun y hy => ⟨fun c4 => ?_, fun c4 => skip c ?_⟩)⟩
      · rw [nb_m1 h7] at c3
        simp [okp, c3]
      · have a1 : okp K P L m d i = true := by
          rw [nb_m1 h7] at c3
          rw [mask_gvr h8 hy] at c4
          simp [okp, c2, isSome_t.mpr c3, isSome_t.mpr c4]
        refine S_tellersAmong hC hM hS h5 h8 c hw (fun t ht => ?_)
        have ht' : Msk t (fun g => decide (g < P) && (nr m d g && tl m g i)) := ht.ext (fun g _ => by
          cases decide (g < P) <;> simp)
        refine S_bitsM ht' (by omega) ?_
        rw [← te_ct iS h8 (by omega)]
        have fin : ∀ r', r' = nI (rk K P L m d i) → wB_X1_pickPiece_128 post (wL_X1_pickPiece_32 post f) (nI d) s d w (eI b) r (nI i) r' v := fun r' er => by
          unfold wB_X1_pickPiece_128
          rw [nI_1, er]
          have rki : rk K P L m d i < 2 ^ 31 := by
            have := te_le (m := m) (d := d) (p := i) h8
            unfold rk; split <;> omega
          cases b with
          | none => exact ⟨fun _ => nxt (some i) _ c (fun d hd => by cases hd; exact ⟨c, rfl⟩) (by simp [a1, oN]), fun q => absurd rfl q⟩
          | some q =>
            obtain ⟨hq0, hq1⟩ := hb q rfl
            have rkq : rk K P L m d q < 2 ^ 31 := by
              have := te_le (m := m) (d := d) (p := q) h8
              unfold rk; split <;> omega
            refine ⟨fun z => absurd z (nI_m1 (by omega)), fun _ => ?_⟩
            have hq2 := hb
            rw [hq1]
            refine le2 rkq rki (fun c5 => nxt (some q) _ c (fun d hd => by cases hd; exact ⟨hq0, rfl⟩) ?_) (fun c5 => nxt (some i) _ c (fun d hd => by cases hd; exact ⟨c, rfl⟩) ?_)
            · rw [a1]; simp [oN]; omega
            · rw [a1]; simp [oN]; omega
        refine S_isBegun hS hH iF hG hL iR (by omega) h5 h7 c c2 (bI_if (fun c5 => fin _ ?_) (fun c5 => fin _ ?_))
        · rw [show (13 : Int32) = nI 13 from rfl, nI_add]; simp [rk, c5]
        · simp [rk, c5]
      · rw [mask_gvr h8 hy] at c4
        simp [okp, c4]
theorem S_pick {d : Nat} {s : Int32} (hQ : RQ (fun _ => true) N K P L C v m) (hd0 : d < P) (hs0 : Msk s (fun g => decide (g < P) && gv m g d)) (h : post (eI (pp N K P L m d)) v) : wp_X1_pickPiece (nI d) s v post := by
  obtain ⟨⟨hW, hC, hM, hS, hH, hV, hG, hT, hLt, hR⟩, hz, iC, iR, iF, iH, iS, iO, iD, iN, iG, iM⟩ := id hQ
  obtain ⟨h1, h2, h3, h4, h5, h6, h7, h8⟩ := id hz
  unfold wp_X1_pickPiece
  exact ⟨d, by omega, rfl, S_nearTo hC hT h8 hd0 (fun w hw => S_pick_L hQ hd0 hs0 hw h N 0 FU none 0 (by omega) (fu N (by omega)) (fun c hc => by cases hc) rfl)⟩
end ASK
