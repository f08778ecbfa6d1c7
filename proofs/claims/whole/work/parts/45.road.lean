/-! the road: what is under way, one by one -/
theorem u_j {v : St3} {k i c a b j : Nat} {y : Int32} (h : Nat.beq j c = false) : up3 v k i c y a b j = v a b j := if_neg (fun z => by rw [z.2.2] at h; simp at h)
theorem GS.cong {N : Nat} {v w m : St3} (h : GS N v m) (e : ∀ d, w 15 d 3 = v 15 d 3 ∧ w 15 d 4 = v 15 d 4) : GS N w m := fun d hd0 => by
  rw [(e d).1, (e d).2]; exact h d hd0
theorem GM.cong {P : Nat} {v w m : St3} (h : GM P v m) (e : ∀ d, w 14 d 2 = v 14 d 2 ∧ w 14 d 3 = v 14 d 3 ∧ w 14 d 4 = v 14 d 4 ∧ w 14 d 5 = v 14 d 5 ∧ w 14 d 6 = v 14 d 6 ∧ w 14 d 7 = v 14 d 7 ∧ w 14 d 8 = v 14 d 8 ∧ w 14 d 9 = v 14 d 9 ∧ w 14 d 10 = v 14 d 10) : GM P w m := by
  refine ⟨fun d hd0 => ?_, fun d hd0 => ?_, fun d hd0 hd1 => ?_⟩ <;> obtain ⟨a1, a2, a3, a4, a5, a6, a7, a8, a9⟩ := e d
  · rw [a1, a2, a3, a6, a7, a8, a9]; exact h.1 d hd0
  · rw [a4, a5]; exact h.2.1 d hd0
  · rw [a4, a5]; exact h.2.2 d hd0 hd1
theorem GT.cong {P : Nat} {v w m : St3} (h : GT P v m) (e : ∀ d, w 16 d 4 = v 16 d 4 ∧ w 16 d 5 = v 16 d 5 ∧ w 16 d 6 = v 16 d 6 ∧ w 16 d 7 = v 16 d 7 ∧ w 16 d 8 = v 16 d 8 ∧ w 16 d 9 = v 16 d 9) : GT P w m := by
  refine ⟨fun d hd0 => ?_, fun d hd0 => ?_, fun d hd0 hd1 => ?_⟩ <;> obtain ⟨a1, a2, a3, a4, a5, a6⟩ := e d
  · rw [a1, a2, a3, a4]; exact h.1 d hd0
  · rw [a5, a6]; exact h.2.1 d hd0
  · rw [a5, a6]; exact h.2.2 d hd0 hd1
def al (kept k : Nat) : Nat → Bool := fun j => decide (j < kept) || decide (k ≤ j)
def Gq (a : Nat → Bool) (N K P L : Nat) (x m : St3) : Prop := GW N K x m ∧ GC P x m ∧ GM P x m ∧ GS N x m ∧ GH N K x m ∧ GV x m ∧ GN a L x m ∧ GT P x m ∧ GL x m ∧ GR L x m
def Ip (N K P L C : Nat) (m : St3) : Prop := Sz N K P m ∧ m 24 0 5 = nI C ∧ Rd N K P L m ∧ Fr N K m ∧ Hb N K m ∧ Sy m ∧ Op P m ∧ Dn N P m ∧ Fh P m ∧ Rg P m ∧ Sm P m
def RQ (a : Nat → Bool) (N K P L C : Nat) (x m : St3) : Prop := Gq a N K P L x m ∧ Ip N K P L C m
theorem RX.q {N K P L C : Nat} {x m : St3} (h : RX N K P L C x m) : RQ (fun _ => true) N K P L C x m ∧ Du L C m := by
  obtain ⟨g, hz, iC, iR, iF, iH, iS, iO, iD, iN, iG, iM, iU⟩ := h
  exact ⟨⟨g, hz, iC, iR, iF, iH, iS, iO, iD, iN, iG, iM⟩, iU⟩
theorem RQ.x {N K P L C : Nat} {x m : St3} (h : RQ (fun _ => true) N K P L C x m) (iU : Du L C m) : RX N K P L C x m := by
  obtain ⟨g, hz, iC, iR, iF, iH, iS, iO, iD, iN, iG, iM⟩ := h
  exact ⟨g, hz, iC, iR, iF, iH, iS, iO, iD, iN, iG, iM, iU⟩
theorem ct_drop {f g : Nat → Bool} {k : Nat} (hf : f k = true) (hg : g k = false) (h : ∀ j, ¬ j = k → f j = g j) : ∀ {n : Nat}, k < n → ct f n = ct g n + 1
  | 0, q => absurd q (by omega)
  | n + 1, q => by
    rw [ct_succ, ct_succ]
    by_cases e : k = n
    · subst e
      rw [hf, hg, ct_cong (fun j hj => h j (by omega))]
      simp
    · rw [ct_drop hf hg h (show k < n by omega), h n (fun z => e z.symm)]
      omega
theorem ct_mono {f g : Nat → Bool} : ∀ {n : Nat}, (∀ j, j < n → f j = true → g j = true) → ct f n ≤ ct g n
  | 0, _ => Nat.le_refl _
  | n + 1, h => by
    have ih := ct_mono (f := f) (g := g) (n := n) (fun j hj => h j (by omega))
    rw [ct_succ, ct_succ]
    have := h n (by omega)
    cases hf : f n with
    | false => simp; split <;> omega
    | true => rw [this hf]; simp; exact ih
/-- of those that al holds, entry k goes to place kept -/
theorem ct_move {f g : Nat → Bool} {kept k n : Nat} (hk : k < n) (hkk : kept ≤ k) (h1 : g kept = f k) (h2 : ∀ j, ¬ j = kept → g j = f j) : ct (fun j => al (kept + 1) (k + 1) j && g j) n = ct (fun j => al kept k j && f j) n := by
  have key : ∀ n, ct (fun j => al (kept + 1) (k + 1) j && g j) n = ct (fun j => al kept k j && f j) n + (if k < n then 0 else if kept < n then (if f k then 1 else 0) else 0) := by
    intro n
    induction n with
    | zero => simp [ct]
    | succ n ih =>
      rw [ct_succ, ct_succ]
      rcases Nat.lt_trichotomy n kept with q | q | q
      · rw [show (al (kept + 1) (k + 1) n && g n) = (al kept k n && f n) by rw [h2 n (by omega)]; simp [al, q, show n < kept + 1 by omega]]
        simp [show ¬ k < n by omega, show ¬ kept < n by omega] at ih
        simp [show ¬ k < n + 1 by omega, show ¬ kept < n + 1 by omega]
        omega
      · subst q
        simp [show ¬ k < n by omega] at ih
        rw [show (al (n + 1) (k + 1) n && g n) = f k by rw [h1]; simp [al]]
        by_cases e : k = n
        · subst e
          rw [show (al k k k && f k) = f k by simp [al]]
          simp
          omega
        · rw [show (al n k n && f n) = false by simp [al]; omega]
          simp [show ¬ k < n + 1 by omega]
          omega
      · rw [h2 n (by omega)]
        rcases Nat.lt_trichotomy n k with q2 | q2 | q2
        · simp [show ¬ k < n by omega, show kept < n by omega] at ih
          rw [show al (kept + 1) (k + 1) n = false by simp [al]; omega, show al kept k n = false by simp [al]; omega]
          simp [show ¬ k < n + 1 by omega, show kept < n + 1 by omega]
          omega
        · subst q2
          simp [show kept < n by omega] at ih
          rw [show al (kept + 1) (n + 1) n = false by simp [al]; omega, show al kept n n = true by simp [al]]
          simp
          omega
        · simp [show k < n by omega] at ih
          rw [show al (kept + 1) (k + 1) n = true by simp [al]; omega, show al kept k n = true by simp [al]; omega]
          simp [show k < n + 1 by omega]
          omega
  have := key n
  simp [hk] at this
  exact this
theorem ct_take {f : Nat → Bool} {kept k n : Nat} (hk : k < n) (hkk : kept ≤ k) : ct (fun j => al kept k j && f j) n = ct (fun j => al kept (k + 1) j && f j) n + (if f k then 1 else 0) := by
  cases hf : f k with
  | false =>
    simp
    refine ct_cong (fun j hj => ?_)
    by_cases e : j = k
    · subst e; simp [hf]
    · rw [show al kept k j = al kept (k + 1) j by unfold al; congr 1; rw [decide_eq_decide]; omega]
  | true =>
    simp
    refine ct_drop (k := k) (by simp [al, hf]) (by simp [al]; omega) (fun j e => ?_) hk
    rw [show al kept k j = al kept (k + 1) j by unfold al; congr 1; rw [decide_eq_decide]; omega]
theorem ct_end {f : Nat → Bool} {kept : Nat} : ∀ {n : Nat}, kept ≤ n → ct (fun j => al kept n j && f j) n = ct f kept := by
  intro n hn
  have : ∀ i, kept + i ≤ n → ct (fun j => al kept n j && f j) (kept + i) = ct f kept := by
    intro i
    induction i with
    | zero => exact fun _ => ct_cong (fun j hj => by rw [show al kept n j = true by simp [al]; omega]; rfl)
    | succ i ih =>
      intro hi
      rw [← Nat.add_assoc, ct_succ, ih (by omega)]
      simp [al]; omega
  have := this (n - kept) (by omega)
  rwa [show kept + (n - kept) = n by omega] at this
theorem ct_begin {f : Nat → Bool} {n : Nat} : ct (fun j => al 0 0 j && f j) n = ct f n := ct_cong (fun j hj => by simp [al])
def mvX (kept k : Nat) (x : St3) : St3 := up3 (up3 (up3 (up3 (up3 (up3 x 7 0 kept (x 7 0 k)) 8 0 kept (x 8 0 k)) 9 0 kept (x 9 0 k)) 10 0 kept (x 10 0 k)) 11 0 kept (x 11 0 k)) 12 0 kept (x 12 0 k)
def mvM (kept k : Nat) (m : St3) : St3 := up3 (up3 (up3 (up3 (up3 (up3 (up3 m 65 0 kept (m 65 0 k)) 66 0 kept (m 66 0 k)) 67 0 kept (m 67 0 k)) 68 0 kept (m 68 0 k)) 69 0 kept (m 69 0 k)) 70 0 kept (m 70 0 k)) 71 0 kept (m 71 0 k)
theorem S_move {x m0 : St3} {kept k : Nat} {post : St3 → Prop} (hk : k < 192) (hn : kept < 192) (h : post (gl (mvX kept k x) m0)) : wp_X5_move (nI k) (nI kept) (gl x m0) post := by
  unfold wp_X5_move
  refine ⟨k, hk, rfl, kept, hn, rfl, ?_⟩
  intro v1 e1; rw [gl_x rfl] at e1; subst e1
  intro v2 e2; rw [gl_x rfl] at e2; subst e2
  intro v3 e3; rw [gl_x rfl] at e3; subst e3
  intro v4 e4; rw [gl_x rfl] at e4; subst e4
  intro v5 e5; rw [gl_x rfl] at e5; subst e5
  intro v6 e6; rw [gl_x rfl] at e6; subst e6
  exact h
theorem M_keep {x0 m : St3} {kept k : Nat} {post : St3 → Prop} (hk : k < 400) (hn : kept < 400) (hb : m 71 0 k = 0 ∨ m 71 0 k = 1) (h : post (gl x0 (mvM kept k m))) : wp_X10_keep (nI kept) (nI k) (gl x0 m) post := by
  unfold wp_X10_keep
  refine ⟨k, hk, rfl, kept, hn, rfl, ?_⟩
  intro v1 e1; rw [gl_m rfl] at e1; subst e1
  intro v2 e2; rw [gl_m rfl] at e2; subst e2
  intro v3 e3; rw [gl_m rfl] at e3; subst e3
  intro v4 e4; rw [gl_m rfl] at e4; subst e4
  intro v5 e5; rw [gl_m rfl] at e5; subst e5
  intro v6 e6; rw [gl_m rfl] at e6; subst e6
  refine ⟨hb, ?_⟩
  intro v7 e7; rw [gl_m rfl] at e7; subst e7
  exact h
theorem mvM_at {kept k j : Nat} {m : St3} : mvM kept k m 65 0 j = (if j = kept then m 65 0 k else m 65 0 j) ∧ mvM kept k m 66 0 j = (if j = kept then m 66 0 k else m 66 0 j) ∧ mvM kept k m 67 0 j = (if j = kept then m 67 0 k else m 67 0 j) ∧ mvM kept k m 68 0 j = (if j = kept then m 68 0 k else m 68 0 j) ∧ mvM kept k m 69 0 j = (if j = kept then m 69 0 k else m 69 0 j) ∧ mvM kept k m 70 0 j = (if j = kept then m 70 0 k else m 70 0 j) ∧ mvM kept k m 71 0 j = (if j = kept then m 71 0 k else m 71 0 j) := by
  by_cases q : j = kept <;> simp [mvM, up3, q]
theorem mvX_at {kept k j : Nat} {x : St3} : mvX kept k x 7 0 j = (if j = kept then x 7 0 k else x 7 0 j) ∧ mvX kept k x 8 0 j = (if j = kept then x 8 0 k else x 8 0 j) ∧ mvX kept k x 9 0 j = (if j = kept then x 9 0 k else x 9 0 j) ∧ mvX kept k x 10 0 j = (if j = kept then x 10 0 k else x 10 0 j) ∧ mvX kept k x 11 0 j = (if j = kept then x 11 0 k else x 11 0 j) ∧ mvX kept k x 12 0 j = (if j = kept then x 12 0 k else x 12 0 j) := by
  by_cases q : j = kept <;> simp [mvX, up3, q]
section ROAD
variable {N K P L C : Nat} {x m : St3}
theorem RQ_move {kept k : Nat} (h : RQ (al kept k) N K P L C x m) (hk : k < L) (hkk : kept ≤ k) : RQ (al (kept + 1) (k + 1)) N K P L C (mvX kept k x) (mvM kept k m) := by
  obtain ⟨⟨hW, hC, hM, hS, hH, hV, hG, hT, hLt, hR⟩, hz, iC, iR, iF, iH, iS, iO, iD, iN, iG, iM⟩ := id h
  refine ⟨⟨hW, hC, hM, hS, hH, hV, ⟨fun d p b hd0 hp hb => ?_, fun d hd0 => ?_⟩, hT, hLt, ⟨hR.1, hR.2.1, hR.2.2.1, fun j hj => ?_⟩⟩, hz, iC, fun j hj => ?_, iF, iH, iS, iO, iD, iN, iG, iM⟩
  · show x 19 d (4 * p + b) = _
    rw [hG.1 d p b hd0 hp hb]
    congr 1
    refine (ct_move hk hkk ?_ (fun j e => ?_)).symm
    · show decide (mvM kept k m 65 0 kept = nI d ∧ mvM kept k m 67 0 kept = nI p ∧ mvM kept k m 68 0 kept = nI b) = decide (m 65 0 k = nI d ∧ m 67 0 k = nI p ∧ m 68 0 k = nI b)
      obtain ⟨a1, a2, a3, a4, a5, a6, a7⟩ := mvM_at (kept := kept) (k := k) (j := kept) (m := m)
      rw [a1, a3, a4, if_pos rfl, if_pos rfl, if_pos rfl]
    · obtain ⟨a1, a2, a3, a4, a5, a6, a7⟩ := mvM_at (kept := kept) (k := k) (j := j) (m := m)
      rw [a1, a3, a4, if_neg e, if_neg e, if_neg e]
  · show x 15 d 5 = _
    rw [hG.2 d hd0]
    congr 1
    refine (ct_move hk hkk ?_ (fun j e => ?_)).symm
    · show decide (mvM kept k m 65 0 kept = nI d) = decide (m 65 0 k = nI d)
      rw [mvM_at.1, if_pos rfl]
    · rw [mvM_at.1, if_neg e]
  · obtain ⟨a1, a2, a3, a4, a5, a6, a7⟩ := mvM_at (kept := kept) (k := k) (j := j) (m := m)
    obtain ⟨b1, b2, b3, b4, b5, b6⟩ := mvX_at (kept := kept) (k := k) (j := j) (x := x)
    rw [a1, a2, a3, a4, a5, a6, b1, b2, b3, b4, b5, b6]
    by_cases e : j = kept
    · simp only [if_pos e]
      exact hR.2.2.2 k (by have := hR.2.2.1; omega)
    · simp only [if_neg e]
      exact hR.2.2.2 j hj
  · obtain ⟨a1, a2, a3, a4, a5, a6, a7⟩ := mvM_at (kept := kept) (k := k) (j := j) (m := m)
    rw [a1, a2, a3, a4]
    by_cases e : j = kept
    · simp only [if_pos e]; exact iR k hk
    · simp only [if_neg e]; exact iR j hj
/-- one block less is awaited -/
def ds (d c : Nat) (x : St3) : St3 := up3 (up3 x 19 d c (x 19 d c - 1)) 15 d 5 (x 15 d 5 - 1)
theorem ds_S {d c : Nat} (e : Nat) : ds d c x 15 e 3 = x 15 e 3 ∧ ds d c x 15 e 4 = x 15 e 4 := ⟨u_j rfl, u_j rfl⟩
theorem S_noMore {m0 : St3} {d p b : Nat} {post : St3 → Prop} (hp : p < 24) (hb : b < 4) (h : post (gl (ds d (4 * p + b) x) m0)) : wp_X6_expectNoMore d (nI p) (nI b) (gl x m0) post := by
  unfold wp_X6_expectNoMore wp_X9_place
  rw [i4]
  refine ⟨4 * p + b, by omega, rfl, ?_⟩
  intro v1 e1; rw [gl_x rfl] at e1; subst e1
  intro v2 e2; rw [gl_x rfl] at e2; subst e2
  exact h
theorem GN_take {kept k d p b : Nat} (h : GN (al kept k) L x m) (hk : k < L) (hL : L ≤ 192) (hkk : kept ≤ k) (hd0 : d < 12) (hp : p < 24) (hb : b < 4) (e1 : m 65 0 k = nI d) (e2 : m 67 0 k = nI p) (e3 : m 68 0 k = nI b) : GN (al kept (k + 1)) L (ds d (4 * p + b) x) m := by
  have lim : ∀ f : Nat → Bool, ct f L ≤ 192 := fun f => Nat.le_trans (ct_le f L) hL
  refine ⟨fun e q c he hq hc => ?_, fun e he => ?_⟩
  · have w := h.1 e q c he hq hc
    rw [ct_take hk hkk] at w
    have z : (decide (m 65 0 k = nI e ∧ m 67 0 k = nI q ∧ m 68 0 k = nI c) = true) ↔ (e = d ∧ q = p ∧ c = b) := by
      rw [e1, e2, e3, decide_eq_true_eq, nI_eq (by omega) (by omega), nI_eq (by omega) (by omega), nI_eq (by omega) (by omega)]
      omega
    have ev : ds d (4 * p + b) x 19 e (4 * q + c) = if e = d ∧ 4 * q + c = 4 * p + b then x 19 d (4 * p + b) - 1 else x 19 e (4 * q + c) := by
      show (up3 x 19 d (4 * p + b) (x 19 d (4 * p + b) - 1)) 19 e (4 * q + c) = _
      simp [up3]
    rw [ev]
    by_cases s : e = d ∧ q = p ∧ c = b
    · obtain ⟨rfl, rfl, rfl⟩ := s
      rw [if_pos ⟨rfl, rfl⟩, w, if_pos (z.mpr ⟨rfl, rfl, rfl⟩), n1m (by omega)]
      rfl
    · rw [if_neg (by omega), w, if_neg (fun y => s (z.mp y))]
      rfl
  · have w := h.2 e he
    rw [ct_take hk hkk] at w
    have z : (decide (m 65 0 k = nI e) = true) ↔ e = d := by
      rw [e1, decide_eq_true_eq, nI_eq (by omega) (by omega)]
      omega
    have ev : ds d (4 * p + b) x 15 e 5 = if e = d then x 15 d 5 - 1 else x 15 e 5 := by
      simp [ds, up3]
    rw [ev]
    by_cases s : e = d
    · subst s
      rw [if_pos rfl, w, if_pos (z.mpr rfl), n1m (by omega)]
      rfl
    · rw [if_neg s, w, if_neg (fun y => s (z.mp y))]
      rfl
theorem RQ_end {kept : Nat} (h : RQ (al kept L) N K P L C x m) (hk : kept ≤ L) : RQ (fun _ => true) N K P kept C (up3 x 6 0 6 (nI kept)) (up3 m 24 0 34 (nI kept)) := by
  obtain ⟨⟨hW, hC, hM, hS, hH, hV, hG, hT, hLt, hR⟩, hz, iC, iR, iF, iH, iS, iO, iD, iN, iG, iM⟩ := id h
  have hL := hR.2.2.1
  refine ⟨⟨hW, hC, hM, hS, hH, hV, ⟨fun d p b hd0 hp hb => ?_, fun d hd0 => ?_⟩, hT, hLt, ⟨rfl, rfl, by omega, hR.2.2.2⟩⟩, hz, iC, fun j hj => iR j (by omega), iF, iH, iS, iO, iD, iN, iG, iM⟩
  · show x 19 d (4 * p + b) = _
    rw [hG.1 d p b hd0 hp hb, ct_end hk]
    congr 1
  · show x 15 d 5 = _
    rw [hG.2 d hd0, ct_end hk]
    congr 1
theorem RQ_begin (h : RQ (fun _ => true) N K P L C x m) : RQ (al 0 0) N K P L C x m := by
  have e : al 0 0 = fun _ => true := by funext j; simp [al]
  rw [e]; exact h
end ROAD
