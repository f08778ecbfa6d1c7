/-! a block comes: it is counted, it is spare, or it is put -/
section COME
variable {N K P L C : Nat} {x m : St3} {a : Nat → Bool}
def t1X (d g c : Nat) (x : St3) : St3 := up3 (up3 (ds d c x) 14 d 7 (x 14 d 7 + 1)) 20 d g (x 20 d g + 1)
def t1M (d g : Nat) (m : St3) : St3 := up3 (up3 m 45 0 d (m 45 0 d + 1)) 61 0 (12 * d + g) (m 61 0 (12 * d + g) + 1)
theorem t1X_14 {d g c e : Nat} : t1X d g c x 14 e 2 = x 14 e 2 ∧ t1X d g c x 14 e 3 = x 14 e 3 ∧ t1X d g c x 14 e 4 = x 14 e 4 ∧ t1X d g c x 14 e 7 = (if e = d then x 14 d 7 + 1 else x 14 e 7) ∧ t1X d g c x 14 e 8 = x 14 e 8 ∧ t1X d g c x 14 e 9 = x 14 e 9 ∧ t1X d g c x 14 e 10 = x 14 e 10 ∧ t1X d g c x 14 e 5 = x 14 e 5 ∧ t1X d g c x 14 e 6 = x 14 e 6 := by
  by_cases q : e = d <;> simp [t1X, ds, up3, q]
theorem RQ_t1 {kept k d g p b : Nat} (h : RQ (al kept k) N K P L C x m) (hk : k < L) (hkk : kept ≤ k) (hd0 : d < P) (hg : g < P) (hp : p < N) (hb : b < K) (e1 : m 65 0 k = nI d) (e2 : m 67 0 k = nI p) (e3 : m 68 0 k = nI b) : RQ (al kept (k + 1)) N K P L C (t1X d g (4 * p + b) x) (t1M d g m) := by
  obtain ⟨⟨hW, hC, hM, hS, hH, hV, hG, hT, hLt, hR⟩, hz, iC, iR, iF, iH, iS, iO, iD, iN, iG, iM⟩ := id h
  obtain ⟨h1, h2, h3, h4, h5, h6, h7, h8⟩ := id hz
  have hL := hR.2.2.1
  refine ⟨⟨hW, hC, ⟨fun e he => ?_, fun e he => ?_, fun e he he2 => ?_⟩, hS.cong (fun e => ds_S e), hH, hV, GN_take hG hk hL hkk (by omega) (by omega) (by omega) e1 e2 e3, hT, fun e f he hf => ?_, hR⟩, hz, iC, iR, iF, iH, iS, iO, iD, fun e he he2 => ?_, iG, iM⟩
  · obtain ⟨a1, a2, a3, a4, a5, a6, a7, a8, a9⟩ := t1X_14 (x := x) (d := d) (g := g) (c := 4 * p + b) (e := e)
    obtain ⟨b1, b2, b3, b4, b5, b6, b7⟩ := hM.1 e he
    refine ⟨a1.trans b1, a2.trans b2, a3.trans b3, a4.trans ?_, a5.trans b5, a6.trans b6, a7.trans b7⟩
    show _ = if 45 = 45 ∧ 0 = 0 ∧ e = d then m 45 0 d + 1 else m 45 0 e
    by_cases q : e = d
    · subst q; rw [if_pos rfl, if_pos ⟨rfl, rfl, rfl⟩, b4]
    · rw [if_neg q, if_neg (fun z => q z.2.2), b4]
  · obtain ⟨a1, a2, a3, a4, a5, a6, a7, a8, a9⟩ := t1X_14 (x := x) (d := d) (g := g) (c := 4 * p + b) (e := e)
    obtain ⟨b1, b2⟩ := hM.2.1 e he
    exact ⟨a8.trans b1, a9.trans b2⟩
  · obtain ⟨a1, a2, a3, a4, a5, a6, a7, a8, a9⟩ := t1X_14 (x := x) (d := d) (g := g) (c := 4 * p + b) (e := e)
    obtain ⟨b1, b2⟩ := hM.2.2 e he he2
    exact ⟨a8.trans b1, a9.trans b2⟩
  · obtain ⟨l1, l2, l3, l4⟩ := hLt e f he hf
    refine ⟨?_, l2, l3, l4⟩
    show (if 20 = 20 ∧ e = d ∧ f = g then x 20 d g + 1 else x 20 e f) = if 61 = 61 ∧ 0 = 0 ∧ 12 * e + f = 12 * d + g then m 61 0 (12 * d + g) + 1 else m 61 0 (12 * e + f)
    by_cases q : e = d ∧ f = g
    · obtain ⟨rfl, rfl⟩ := q
      rw [if_pos ⟨rfl, rfl, rfl⟩, if_pos ⟨rfl, rfl, rfl⟩, l1]
    · rw [if_neg (fun z => q z.2), if_neg (by omega), l1]
  · obtain ⟨n1, n2, n3, n4, n5, n6⟩ := iN e he he2
    refine ⟨n1, n2, n3, n4, n5, fun f hf => ⟨?_, (n6 f hf).2⟩⟩
    show (if 61 = 61 ∧ 0 = 0 ∧ 12 * f + e = 12 * d + g then m 61 0 (12 * d + g) + 1 else m 61 0 (12 * f + e)) = 0
    rw [if_neg (by omega)]
    exact (n6 f hf).1
/-- nothing of the road is touched -/
def SR (m m' : St3) : Prop := (∀ j, m' 65 0 j = m 65 0 j ∧ m' 66 0 j = m 66 0 j ∧ m' 67 0 j = m 67 0 j ∧ m' 68 0 j = m 68 0 j ∧ m' 69 0 j = m 69 0 j ∧ m' 70 0 j = m 70 0 j ∧ m' 71 0 j = m 71 0 j) ∧ m' 24 0 34 = m 24 0 34
theorem SR.tr {m m' m2 : St3} (h : SR m m') (h2 : SR m' m2) : SR m m2 := by
  refine ⟨fun j => ?_, h2.2.trans h.2⟩
  obtain ⟨a1, a2, a3, a4, a5, a6, a7⟩ := h.1 j
  obtain ⟨b1, b2, b3, b4, b5, b6, b7⟩ := h2.1 j
  exact ⟨b1.trans a1, b2.trans a2, b3.trans a3, b4.trans a4, b5.trans a5, b6.trans a6, b7.trans a7⟩
theorem SR.dk {m' : St3} {fl : Int32} {T kept k : Nat} (h : SR m m') (hD : Dk fl T kept k L C m) : Dk fl T kept k L C m' := by
  refine ⟨fun j hj => ?_, fun j u w => ?_, ?_⟩
  · obtain ⟨a1, a2, a3, a4, a5, a6, a7⟩ := h.1 j
    rw [a6, a7]; exact hD.1 j hj
  · obtain ⟨a1, a2, a3, a4, a5, a6, a7⟩ := h.1 j
    rw [a6, a7]; exact hD.2.1 j u w
  · rw [ct_cong (q := fun j => al kept k j && decide (m 70 0 j = nI T)) (fun j _ => by
      obtain ⟨a1, a2, a3, a4, a5, a6, a7⟩ := h.1 j
      rw [a6])]
    exact hD.2.2
/-- the block is spare -/
def sp (K : Nat) (m : St3) (d g p b : Nat) : Bool := hs m d p || hl m d p b || (mk m d p && an (fun c => hl m d p c && decide (¬ fr m d p c = nI g)) K)
theorem S_isSpare {v : St3} {d g p b : Nat} {post : Int32 → St3 → Prop} (hS : GS N v m) (hH : GH N K v m) (hF : Fr N K m) (hN : N ≤ 24) (hK : K ≤ 4) (hd0 : d < 12) (hg : g < 12) (hp : p < N) (hb : b < K) (h : post (bI (sp K m d g p b)) v) : wp_X0_isSpare d (nI g) (nI p) (nI b) v post := by
  unfold wp_X0_isSpare
  refine S_isIn (hS d hd0).1 (by omega) (bI_fi (fun c => ?_) (fun c => ?_))
  · have c' : hs m d p = true := by simpa [hp] using c
    rw [show sp K m d g p b = true by simp [sp, c']] at h
    exact h
  · have c' : hs m d p = false := by simpa [hp] using c
    have ex : xh N K m d p b = hl m d p b := by simp [xh, hp, hb, c']
    refine S_holds hS hH hF hd0 (by omega) (by omega) ?_
    rw [ex]
    refine bI_if (fun c2 => S_isIn (hS d hd0).2 (by omega) (bI_if (fun c3 => ?_) (fun c3 => S_giversOf hH hF hd0 hN hK hp c' (fun y hy => ?_)))) (fun c2 => ?_)
    · have c4 : mk m d p = false := by simpa [hp] using c3
      rw [show sp K m d g p b = false by simp [sp, c', c2, c4]] at h
      exact h
    · have c4 : mk m d p = true := by simpa [hp] using c3
      have es : sp K m d g p b = an (fun c => hl m d p c && decide (¬ fr m d p c = nI g)) K := by simp [sp, c', c2, c4]
      rw [es] at h
      have hz := (hy.off (n := g) (by omega)).z
      refine ⟨fun z => ?_, fun z => ?_⟩
      · have w := hz.mp z
        rw [show an (fun c => hl m d p c && decide (¬ fr m d p c = nI g)) K = false from an_f.mpr (fun c hc => by
          cases hlc : hl m d p c with
          | false => rfl
          | true =>
            obtain ⟨g', hg', e'⟩ := hF d p c hd0 hp hc hlc c'
            have w2 := w g' (by omega)
            have : gs K m d p g' = true := an_t.mpr ⟨c, hc, by simp [hlc, e']⟩
            rw [this] at w2
            have : g' = g := by simpa using w2
            subst this
            simp [e'])] at h
        exact h
      · have : ∃ i, i < 32 ∧ ¬ (gs K m d p i && !decide (i = g)) = false := by
          apply Classical.byContradiction
          intro q
          apply z
          apply hz.mpr
          intro i hi
          apply Classical.byContradiction
          intro q2
          exact q ⟨i, hi, q2⟩
        obtain ⟨i, hi, w⟩ := this
        have w1 : gs K m d p i = true ∧ ¬ i = g := by simpa using w
        obtain ⟨c, hc, w2⟩ := an_t.mp w1.1
        have w3 : hl m d p c = true ∧ fr m d p c = nI i := by simpa using w2
        rw [show an (fun c => hl m d p c && decide (¬ fr m d p c = nI g)) K = true from an_t.mpr ⟨c, hc, by
          have : ¬ nI i = nI g := fun z => w1.2 (nI_inj (by omega) (by omega) z)
          simp [w3.1, w3.2, this]⟩] at h
        exact h
    · rw [show sp K m d g p b = true by simp [sp, c2]] at h
      exact h
theorem M_isSpare_L {v : St3} {d g p : Nat} {post : Int32 → St3 → Prop} (hd0 : d < 12) (hp : p < 24) (hK : v 24 0 2 = nI K) (hK2 : K ≤ 4) (h : post (bI (mk v d p && an (fun c => hl v d p c && decide (¬ fr v d p c = nI g)) K)) v) : ∀ (n i f : Nat), i + n = K → n < f → (∀ c, c < i → (hl v d p c && decide (¬ fr v d p c = nI g)) = false) → wL_X10_isSpare_34 post f (nI d) (nI g) (nI p) (nI i) v
  | n, i, 0, _, hf, _ => absurd hf (by omega)
  | n, i, f + 1, e, hf, hc => by
    show wB_X10_isSpare_34 post _ (nI d) (nI g) (nI p) (nI i) v
    unfold wB_X10_isSpare_34
    rw [hK, i24, nI_1]
    have nx : (hl v d p i && decide (¬ fr v d p i = nI g)) = false → i < K → wL_X10_isSpare_34 post f (nI d) (nI g) (nI p) (nI (i + 1)) v := fun z hi => M_isSpare_L hd0 hp hK hK2 h (n - 1) (i + 1) f (by omega) (by omega) (fun c hc' => by
      rcases Nat.lt_or_ge c i with w | w
      · exact hc c w
      · rw [show c = i by omega]; exact z)
    refine le2 (by omega) (by omega) (fun c => ?_) (fun c => ⟨_, by omega, rfl, fun c2 => ?_, fun c2 => M_cell ⟨_, by omega, rfl, fun c3 => nx (by simp [hl, c3]) c, fun c3 => M_cell ⟨_, by omega, rfl, fun c4 => nx (by simp [fr, c4]) c, fun c4 => ?_⟩⟩⟩)
    · rw [show an (fun c => hl v d p c && decide (¬ fr v d p c = nI g)) K = false from an_f.mpr (fun k hk => hc k (by omega)), Bool.and_false] at h
      exact h
    · rw [show mk v d p = false by simp [mk, c2]] at h
      exact h
    · rw [show mk v d p = true by simp [mk, c2], show an (fun c => hl v d p c && decide (¬ fr v d p c = nI g)) K = true from an_t.mpr ⟨i, c, by simp [hl, fr, c3, c4]⟩] at h
      exact h
theorem M_isSpare {v : St3} {d g p b : Nat} {post : Int32 → St3 → Prop} (hz : Sz N K P v) (hd0 : d < 12) (hp : p < 24) (hb : b < 4) (h : post (bI (sp K v d g p b)) v) : wp_X10_isSpare (nI d) (nI g) (nI p) (nI b) v post := by
  obtain ⟨h1, h2, h3, h4, h5, h6, h7, h8⟩ := id hz
  unfold wp_X10_isSpare
  rw [i24]
  refine ⟨_, by omega, rfl, fun c => ?_, fun c => M_cell ⟨_, by omega, rfl, fun c2 => ?_, fun c2 => ?_⟩⟩
  · rw [show sp K v d g p b = true by simp [sp, hs, c]] at h; exact h
  · refine M_isSpare_L hd0 hp h2 h7 ?_ K 0 FU (by omega) (fu K (by omega)) (fun c hc => absurd hc (by omega))
    rw [show sp K v d g p b = (mk v d p && an (fun c => hl v d p c && decide (¬ fr v d p c = nI g)) K) by simp [sp, hs, hl, c, c2]] at h
    exact h
  · rw [show sp K v d g p b = true by simp [sp, hl, c2]] at h; exact h
theorem si_up {f : Nat → Int32} {d : Nat} {y : Int32} : ∀ {n : Nat}, d < n → si (fun e => if e = d then f e + y else f e) n = si f n + y
  | 0, h => absurd h (by omega)
  | n + 1, h => by
    rw [si_s, si_s]
    by_cases q : d = n
    · subst q
      rw [if_pos rfl, si_cong (g := f) (fun k hk => by rw [if_neg (by omega)]), Int32.add_assoc]
    · rw [if_neg (fun z => q z.symm), si_up (by omega), Int32.add_assoc, Int32.add_assoc, Int32.add_comm y]
theorem RQ_sp {d : Nat} (h : RQ a N K P L C x m) (hd0 : d < P) : RQ a N K P L C (up3 x 14 d 9 (x 14 d 9 + 1)) (up3 (up3 m 47 0 d (m 47 0 d + 1)) 24 0 9 (m 24 0 9 + 1)) := by
  obtain ⟨⟨hW, hC, hM, hS, hH, hV, hG, hT, hLt, hR⟩, hz, iC, iR, iF, iH, iS, iO, iD, iN, iG, iM⟩ := id h
  have xe : ∀ e, up3 x 14 d 9 (x 14 d 9 + 1) 14 e 9 = if e = d then x 14 d 9 + 1 else x 14 e 9 := fun e => by simp [up3]
  have me : ∀ e, (up3 (up3 m 47 0 d (m 47 0 d + 1)) 24 0 9 (m 24 0 9 + 1)) 47 0 e = if e = d then m 47 0 e + 1 else m 47 0 e := fun e => by
    by_cases q : e = d <;> simp [up3, q]
  refine ⟨⟨hW, hC, ⟨fun e he => ?_, fun e he => ?_, fun e he he2 => ?_⟩, hS, hH, hV, hG, hT, hLt, hR⟩, hz, iC, iR, iF, iH, iS, iO, iD, fun e he he2 => ?_, iG, iM.1, ?_⟩
  · obtain ⟨b1, b2, b3, b4, b5, b6, b7⟩ := hM.1 e he
    refine ⟨Eq.trans (u_j rfl) b1, Eq.trans (u_j rfl) b2, Eq.trans (u_j rfl) b3, Eq.trans (u_j rfl) b4, Eq.trans (u_j rfl) b5, ?_, Eq.trans (u_j rfl) b7⟩
    rw [xe, me]
    by_cases q : e = d
    · subst q; rw [if_pos rfl, if_pos rfl, b6]
    · rw [if_neg q, if_neg q, b6]
  · obtain ⟨b1, b2⟩ := hM.2.1 e he
    exact ⟨Eq.trans (u_j rfl) b1, Eq.trans (u_j rfl) b2⟩
  · obtain ⟨b1, b2⟩ := hM.2.2 e he he2
    exact ⟨Eq.trans (u_j rfl) b1, Eq.trans (u_j rfl) b2⟩
  · obtain ⟨n1, n2, n3, n4, n5, n6⟩ := iN e he he2
    refine ⟨n1, n2, n3, ?_, n5, n6⟩
    rw [me, if_neg (by omega)]; exact n4
  · show m 24 0 9 + 1 = _
    rw [si_cong (g := fun e => if e = d then m 47 0 e + 1 else m 47 0 e) (fun k _ => me k), iM.2, si_up (f := fun e => m 47 0 e) hd0]
def puX (d c : Nat) (g w : Int32) (x : St3) : St3 := up3 (up3 x 17 d c g) 18 d c w
def puM (c : Nat) (g w : Int32) (m : St3) : St3 := up3 (up3 (up3 m 52 0 c 1) 53 0 c w) 54 0 c g
theorem RQ_put {d g p b : Nat} {w : Int32} (h : RQ a N K P L C x m) (hd0 : d < P) (hg : g < P) (hp : p < N) (hb : b < K) : RQ a N K P L C (puX d (4 * p + b) (nI g) w x) (puM (96 * d + 4 * p + b) (nI g) w m) := by
  obtain ⟨⟨hW, hC, hM, hS, hH, hV, hG, hT, hLt, hR⟩, hz, iC, iR, iF, iH, iS, iO, iD, iN, iG, iM⟩ := id h
  obtain ⟨h1, h2, h3, h4, h5, h6, h7, h8⟩ := id hz
  have ehl : ∀ e q c, q < 24 → c < 4 → hl (puM (96 * d + 4 * p + b) (nI g) w m) e q c = (decide (e = d ∧ q = p ∧ c = b) || hl m e q c) := fun e q c hq hc => by
    unfold hl
    show decide (¬ (if 52 = 52 ∧ 0 = 0 ∧ 96 * e + 4 * q + c = 96 * d + 4 * p + b then (1 : Int32) else m 52 0 (96 * e + 4 * q + c)) = 0) = _
    by_cases s : e = d ∧ q = p ∧ c = b
    · obtain ⟨rfl, rfl, rfl⟩ := s
      simp
    · rw [if_neg (by omega)]; simp [s]
  have efr : ∀ e q c, q < 24 → c < 4 → fr (puM (96 * d + 4 * p + b) (nI g) w m) e q c = if e = d ∧ q = p ∧ c = b then nI g else fr m e q c := fun e q c hq hc => by
    unfold fr
    show (if 54 = 54 ∧ 0 = 0 ∧ 96 * e + 4 * q + c = 96 * d + 4 * p + b then nI g else m 54 0 (96 * e + 4 * q + c)) = _
    by_cases s : e = d ∧ q = p ∧ c = b
    · rw [if_pos s, if_pos (by omega)]
    · rw [if_neg s, if_neg (by omega)]
  have egt : ∀ e q c, q < 24 → c < 4 → gt (puM (96 * d + 4 * p + b) (nI g) w m) e q c = if e = d ∧ q = p ∧ c = b then w else gt m e q c := fun e q c hq hc => by
    unfold gt
    show (if 53 = 53 ∧ 0 = 0 ∧ 96 * e + 4 * q + c = 96 * d + 4 * p + b then w else m 53 0 (96 * e + 4 * q + c)) = _
    by_cases s : e = d ∧ q = p ∧ c = b
    · rw [if_pos s, if_pos (by omega)]
    · rw [if_neg s, if_neg (by omega)]
  refine ⟨⟨hW, hC, hM, hS, fun e q c he hq hc => ?_, fun e q c he hq hc => ?_, hG, hT, hLt, hR⟩, hz, iC, iR, fun e q c he hq hc u1 u2 => ?_, fun e q c he hq hc u1 => ?_, iS, iO, iD, fun e he he2 => ?_, iG, iM⟩
  · rw [ehl e q c hq hc, efr e q c hq hc]
    show (if 17 = 17 ∧ e = d ∧ 4 * q + c = 4 * p + b then nI g else x 17 e (4 * q + c)) = _
    by_cases s : e = d ∧ q = p ∧ c = b
    · rw [if_pos (by omega), if_pos s]
      simp [s, hp, hb]
    · rw [if_neg (by omega), if_neg s, hH e q c he hq hc]
      simp [s]
  · rw [egt e q c hq hc]
    show (if 18 = 18 ∧ e = d ∧ 4 * q + c = 4 * p + b then w else x 18 e (4 * q + c)) = _
    by_cases s : e = d ∧ q = p ∧ c = b
    · rw [if_pos (by omega), if_pos s]
    · rw [if_neg (by omega), if_neg s, hV e q c he hq hc]
  · rw [efr e q c (by omega) (by omega)]
    rw [ehl e q c (by omega) (by omega)] at u1
    by_cases s : e = d ∧ q = p ∧ c = b
    · rw [if_pos s]; exact ⟨g, by omega, rfl⟩
    · rw [if_neg s]
      simp only [s, decide_false, Bool.false_or] at u1
      exact iF e q c he hq hc u1 u2
  · rw [ehl e q c (by omega) (by omega), iH e q c he hq hc u1, Bool.or_true]
  · obtain ⟨n1, n2, n3, n4⟩ := iN e he he2
    refine ⟨n1, fun q c hq hc => ?_, n3, n4⟩
    rw [ehl e q c hq hc, n2 q c hq hc]
    simp; omega
/-- the sum of what is held -/
def sg (f : Nat → Int32) : Int32 → Nat → Nat → Int32
  | s, _, 0 => s
  | s, i, n + 1 => sg f (s * 69069 + f i) (i + 1) n
theorem S_sumOf_L {v : St3} {d p : Nat} {post : Int32 → St3 → Prop} (hV : GV v m) (hd0 : d < 12) (hp : p < 24) (hK : K ≤ 4) (h : post (sg (gt m d p) 0 0 K) v) : ∀ (n i f : Nat) (s : Int32), i + n = K → n < f → sg (gt m d p) s i n = sg (gt m d p) 0 0 K → wL_X6_sumOf_5 post f d (nI p) (nI K) s (nI i) v
  | n, i, 0, s, _, hf, _ => absurd hf (by omega)
  | n, i, f + 1, s, e, hf, es => by
    show wB_X6_sumOf_5 post _ d (nI p) (nI K) s (nI i) v
    unfold wB_X6_sumOf_5 wp_X9_place wp_X9_sumWith
    rw [i4, nI_1]
    refine le2 (by omega) (by omega) (fun c => ?_) (fun c => ⟨_, by omega, rfl, ?_⟩)
    · have : n = 0 := by omega
      subst this
      rw [show s = sg (gt m d p) 0 0 K from es]; exact h
    · rw [hV d p i hd0 hp (by omega)]
      obtain ⟨n', rfl⟩ : ∃ n', n = n' + 1 := ⟨n - 1, by omega⟩
      exact S_sumOf_L hV hd0 hp hK h n' (i + 1) f _ (by omega) (by omega) es
theorem S_sumOf {v : St3} {d p : Nat} {post : Int32 → St3 → Prop} (hV : GV v m) (hd0 : d < 12) (hp : p < 24) (hK : K ≤ 4) (h : post (sg (gt m d p) 0 0 K) v) : wp_X6_sumOf d (nI p) (nI K) v post :=
  S_sumOf_L hV hd0 hp hK h K 0 FU 0 (by omega) (fu K (by omega)) rfl
theorem M_sum156 {v : St3} {d p : Nat} {post : St3 → Prop} (hd0 : d < 12) (hp : p < 24) (hK : v 24 0 2 = nI K) (hK2 : K ≤ 4) (h : wB_X10_comes_156 post (wL_X10_comes_156 post 0) (nI d) (nI p) (sg (gt v d p) 0 0 K) (nI K) v) : ∀ (n i f : Nat) (s : Int32), i + n = K → n < f → sg (gt v d p) s i n = sg (gt v d p) 0 0 K → wL_X10_comes_156 post f (nI d) (nI p) s (nI i) v
  | n, i, 0, s, _, hf, _ => absurd hf (by omega)
  | n, i, f + 1, s, e, hf, es => by
    show wB_X10_comes_156 post _ (nI d) (nI p) s (nI i) v
    by_cases c : i = K
    · have : n = 0 := by omega
      subst this c
      unfold wB_X10_comes_156 at h ⊢
      rw [hK] at h ⊢
      rw [show s = sg (gt v d p) 0 0 i from es]
      refine ⟨h.1, fun q => absurd ((nI_leI (by omega) (by omega)).mpr (Nat.le_refl _)) q⟩
    · unfold wB_X10_comes_156
      rw [hK, nI_1]
      refine le2 (by omega) (by omega) (fun c => absurd c (by omega)) (fun c => M_cell ⟨_, by omega, rfl, ?_⟩)
      obtain ⟨n', rfl⟩ : ∃ n', n = n' + 1 := ⟨n - 1, by omega⟩
      exact M_sum156 hd0 hp hK hK2 h n' (i + 1) f _ (by omega) (by omega) es
end COME
