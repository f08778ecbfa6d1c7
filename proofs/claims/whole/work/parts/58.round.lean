/-! a peer's turn to ask -/
def UV (P : Nat) (m : St3) : Prop := ∀ e, e < P → (∃ u, u ≤ 8 ∧ m 73 0 e = nI u) ∧ (∃ u, u ≤ 8 ∧ m 74 0 e = nI u) ∧ (hr m e = false → m 74 0 e = 0)
def tu (P : Nat) (m : St3) : Nat := su (fun e => un (m 73 0 e)) P
def Dr (P L C : Nat) (m : St3) : Prop := (∀ j, j < L → ∃ t, m 70 0 j = nI t ∧ (t = C ∧ m 71 0 j = 1 ∨ C < t ∧ t ≤ C + 2 ∧ m 71 0 j = 0)) ∧ L + tu P m ≤ 192 ∧ ct (fun j => decide (m 70 0 j = nI (C + 2))) L + tu P m ≤ 96
def RR (N K P L C : Nat) (x m : St3) : Prop := RQ (fun _ => true) N K P L C x m ∧ GU P x m ∧ UV P m ∧ Dr P L C m
theorem su_dec {f f' : Nat → Nat} {g : Nat} (h1 : f g = f' g + 1) (h2 : ∀ e, ¬ e = g → f e = f' e) : ∀ {n : Nat}, g < n → su f n = su f' n + 1
  | 0, h => absurd h (by omega)
  | n + 1, h => by
    rw [su_s, su_s]
    by_cases q : g = n
    · subst q
      rw [su_cong (g := f') (fun k hk => h2 k (by omega)), h1]; omega
    · rw [su_dec h1 h2 (by omega), h2 n (fun z => q z.symm)]; omega
theorem su_ge {f : Nat → Nat} {g : Nat} : ∀ {n : Nat}, g < n → f g ≤ su f n
  | 0, h => absurd h (by omega)
  | n + 1, h => by
    rw [su_s]
    by_cases q : g = n
    · subst q; omega
    · have := su_ge (f := f) (show g < n by omega)
      omega
section ROUND
variable {N K P L C : Nat} {x m : St3}
theorem sM_row {g d p b j : Nat} {w t fl : Int32} : sM g d p b L w t fl m 65 0 j = (if j = L then nI d else m 65 0 j) ∧ sM g d p b L w t fl m 66 0 j = (if j = L then nI g else m 66 0 j) ∧ sM g d p b L w t fl m 67 0 j = (if j = L then nI p else m 67 0 j) ∧ sM g d p b L w t fl m 68 0 j = (if j = L then nI b else m 68 0 j) ∧ sM g d p b L w t fl m 69 0 j = (if j = L then w else m 69 0 j) ∧ sM g d p b L w t fl m 70 0 j = (if j = L then t else m 70 0 j) ∧ sM g d p b L w t fl m 71 0 j = (if j = L then fl else m 71 0 j) := by
  simp [sM, up3]
theorem sX_row {g d p b j : Nat} {w t : Int32} : sX g d p b L w t x 7 0 j = (if j = L then nI g else x 7 0 j) ∧ sX g d p b L w t x 8 0 j = (if j = L then nI d else x 8 0 j) ∧ sX g d p b L w t x 9 0 j = (if j = L then nI p else x 9 0 j) ∧ sX g d p b L w t x 10 0 j = (if j = L then nI b else x 10 0 j) ∧ sX g d p b L w t x 11 0 j = (if j = L then w else x 11 0 j) ∧ sX g d p b L w t x 12 0 j = (if j = L then t else x 12 0 j) := by
  simp [sX, up3]
theorem sM_p {g d p b e : Nat} {w t fl : Int32} : sM g d p b L w t fl m 73 0 e = (if e = g then m 73 0 g - 1 else m 73 0 e) ∧ sM g d p b L w t fl m 74 0 e = (if e = d then m 74 0 d - 1 else m 74 0 e) ∧ sM g d p b L w t fl m 46 0 e = (if e = g then m 46 0 g + 1 else m 46 0 e) := by
  simp [sM, up3]
theorem send_keep {g d p b : Nat} {kd w : Int32} (h : RR N K P L C x m) (hC31 : C + 2 < 2 ^ 31) (hg : g < P) (hd0 : d < P) (hp : p < N) (hb : b < K) (u1 : ¬ m 73 0 g ≤ 0) (u2 : ¬ m 74 0 d ≤ 0) (r2 : hr m d = true) : RR N K P (L + 1) C (sX g d p b L w (sdu kd C) x) (sM g d p b L w (sdu kd C) (if kd = 4 then 0 else 1) m) ∧ tu P (sM g d p b L w (sdu kd C) (if kd = 4 then 0 else 1) m) + 1 = tu P m := by
  obtain ⟨hQ, hU, hV0, hD⟩ := h
  obtain ⟨⟨hW, hC, hM, hS, hH, hV, hG, hT, hLt, hR⟩, hz, iC, iR, iF, iH, iS, iO, iD, iN, iG, iM⟩ := id hQ
  obtain ⟨h1, h2, h3, h4, h5, h6, h7, h8⟩ := id hz
  obtain ⟨⟨u, hu, eu⟩, _, _⟩ := hV0 g hg
  obtain ⟨_, ⟨u', hu', eu'⟩, _⟩ := hV0 d hd0
  have up1 : 1 ≤ u := by
    rw [eu, show (0 : Int32) = nI 0 from rfl, nI_leI (by omega) (by omega)] at u1
    omega
  have up2 : 1 ≤ u' := by
    rw [eu', show (0 : Int32) = nI 0 from rfl, nI_leI (by omega) (by omega)] at u2
    omega
  have e73 : m 73 0 g - 1 = nI (u - 1) := by rw [eu, n1m up1]
  have e74 : m 74 0 d - 1 = nI (u' - 1) := by rw [eu', n1m up2]
  have etu : tu P (sM g d p b L w (sdu kd C) (if kd = 4 then 0 else 1) m) + 1 = tu P m := by
    unfold tu
    symm
    refine su_dec (g := g) ?_ (fun e he => ?_) hg
    · rw [sM_p.1, if_pos rfl, e73, eu, un_nI (by omega), un_nI (by omega)]; omega
    · rw [sM_p.1, if_neg he]
  have tup : 1 ≤ tu P m := by omega
  have hL : L < 192 := by have := hD.2.1; omega
  refine ⟨⟨⟨⟨hW, ⟨hC.1, hC.2.1, hC.2.2.1, ?_, hC.2.2.2.2⟩, ⟨fun e he => ?_, fun e he => ?_, fun e he he2 => ?_⟩, hS.cong (fun e => ⟨?_, ?_⟩), hH, hV, ⟨fun e q c he hq hc => ?_, fun e he => ?_⟩, hT, fun e f he hf => ?_, ⟨rfl, rfl, by omega, fun j hj => ?_⟩⟩, hz, iC, fun j hj => ?_, iF, iH, iS, iO, iD, fun e he he2 => ?_, iG, iM⟩, fun e he hh => ?_, fun e he => ⟨?_, ?_, fun hh => ?_⟩, fun j hj => ?_, ?_, ?_⟩, etu⟩
  · show x 1 0 6 + 1 = m 24 0 6 + 1
    rw [hC.2.2.2.1]
  · obtain ⟨b1, b2, b3, b4, b5, b6, b7⟩ := hM.1 e he
    obtain ⟨a2, a3, a4, a5, a6, a7, a8, a9, a10, a11, a12⟩ := sX_14 (x := x) (L := L) (g := g) (d := d) (p := p) (b := b) (e := e) (w := w) (t := sdu kd C)
    refine ⟨a2.trans b1, a3.trans b2, a4.trans b3, a7.trans b4, ?_, a9.trans b6, a10.trans b7⟩
    rw [a8, sM_p.2.2]
    by_cases q : e = g
    · subst q; rw [if_pos rfl, if_pos rfl, b5]
    · rw [if_neg q, if_neg q, b5]
  · obtain ⟨a2, a3, a4, a5, a6, a7, a8, a9, a10, a11, a12⟩ := sX_14 (x := x) (L := L) (g := g) (d := d) (p := p) (b := b) (e := e) (w := w) (t := sdu kd C)
    obtain ⟨b1, b2⟩ := hM.2.1 e he
    exact ⟨a5.trans b1, a6.trans b2⟩
  · obtain ⟨a2, a3, a4, a5, a6, a7, a8, a9, a10, a11, a12⟩ := sX_14 (x := x) (L := L) (g := g) (d := d) (p := p) (b := b) (e := e) (w := w) (t := sdu kd C)
    obtain ⟨b1, b2⟩ := hM.2.2 e he he2
    exact ⟨a5.trans b1, a6.trans b2⟩
  · simp [sX, up3]
  · simp [sX, up3]
  · have ex : sX g d p b L w (sdu kd C) x 19 e (4 * q + c) = if e = d ∧ 4 * q + c = 4 * p + b then x 19 d (4 * p + b) + 1 else x 19 e (4 * q + c) := by simp [sX, up3]
    have old := hG.1 e q c he hq hc
    rw [ct_succ, ct_cong (q := fun k => true && decide (m 65 0 k = nI e ∧ m 67 0 k = nI q ∧ m 68 0 k = nI c)) (fun k hk => by
      obtain ⟨a1, a2, a3, a4, a5, a6, a7⟩ := sM_row (m := m) (L := L) (g := g) (d := d) (p := p) (b := b) (j := k) (w := w) (t := sdu kd C) (fl := if kd = 4 then 0 else 1)
      rw [a1, a3, a4, if_neg (by omega), if_neg (by omega), if_neg (by omega)])]
    obtain ⟨a1, a2, a3, a4, a5, a6, a7⟩ := sM_row (m := m) (L := L) (g := g) (d := d) (p := p) (b := b) (j := L) (w := w) (t := sdu kd C) (fl := if kd = 4 then 0 else 1)
    rw [a1, a3, a4, if_pos rfl, if_pos rfl, if_pos rfl, ex]
    have iff : (true && decide (nI d = nI e ∧ nI p = nI q ∧ nI b = nI c)) = true ↔ e = d ∧ 4 * q + c = 4 * p + b := by
      rw [Bool.true_and, decide_eq_true_eq, nI_eq (by omega) (by omega), nI_eq (by omega) (by omega), nI_eq (by omega) (by omega)]
      omega
    by_cases s : e = d ∧ 4 * q + c = 4 * p + b
    · rw [if_pos s, if_pos (iff.mpr s), ← nI_1, ← old, s.1, s.2]
    · rw [if_neg s, if_neg (fun z => s (iff.mp z)), old, Nat.add_zero]
  · have ex : sX g d p b L w (sdu kd C) x 15 e 5 = if e = d then x 15 d 5 + 1 else x 15 e 5 := by simp [sX, up3]
    have old := hG.2 e he
    rw [ct_succ, ct_cong (q := fun k => true && decide (m 65 0 k = nI e)) (fun k hk => by
      obtain ⟨a1, a2, a3, a4, a5, a6, a7⟩ := sM_row (m := m) (L := L) (g := g) (d := d) (p := p) (b := b) (j := k) (w := w) (t := sdu kd C) (fl := if kd = 4 then 0 else 1)
      rw [a1, if_neg (by omega)])]
    obtain ⟨a1, a2, a3, a4, a5, a6, a7⟩ := sM_row (m := m) (L := L) (g := g) (d := d) (p := p) (b := b) (j := L) (w := w) (t := sdu kd C) (fl := if kd = 4 then 0 else 1)
    rw [a1, if_pos rfl, ex]
    have iff : (true && decide (nI d = nI e)) = true ↔ e = d := by
      rw [Bool.true_and, decide_eq_true_eq, nI_eq (by omega) (by omega)]
      omega
    by_cases s : e = d
    · rw [if_pos s, if_pos (iff.mpr s), ← nI_1, ← old, s]
    · rw [if_neg s, if_neg (fun z => s (iff.mp z)), old, Nat.add_zero]
  · obtain ⟨l1, l2, l3, l4⟩ := hLt e f he hf
    refine ⟨l1, ?_, ?_, l4⟩
    · have a1 : sX g d p b L w (sdu kd C) x 21 e f = if e = g ∧ f = d then x 21 g d + 1 else x 21 e f := by simp [sX, up3]
      have a2 : sM g d p b L w (sdu kd C) (if kd = 4 then 0 else 1) m 60 0 (12 * e + f) = if 12 * e + f = 12 * g + d then m 60 0 (12 * g + d) + 1 else m 60 0 (12 * e + f) := by simp [sM, up3]
      rw [a1, a2]
      by_cases q : e = g ∧ f = d
      · rw [if_pos q, if_pos (by omega), ← q.1, ← q.2, l2]
      · rw [if_neg q, if_neg (by omega), l2]
    · have a1 : sX g d p b L w (sdu kd C) x 22 e f = if e = g ∧ f = d then x 22 g d + 1 else x 22 e f := by simp [sX, up3]
      have a2 : sM g d p b L w (sdu kd C) (if kd = 4 then 0 else 1) m 59 0 (12 * e + f) = if 12 * e + f = 12 * g + d then m 59 0 (12 * g + d) + 1 else m 59 0 (12 * e + f) := by simp [sM, up3]
      rw [a1, a2]
      by_cases q : e = g ∧ f = d
      · rw [if_pos q, if_pos (by omega), ← q.1, ← q.2, l3]
      · rw [if_neg q, if_neg (by omega), l3]
  · obtain ⟨a1, a2, a3, a4, a5, a6, a7⟩ := sM_row (m := m) (L := L) (g := g) (d := d) (p := p) (b := b) (j := j) (w := w) (t := sdu kd C) (fl := if kd = 4 then 0 else 1)
    obtain ⟨b1, b2, b3, b4, b5, b6⟩ := sX_row (x := x) (L := L) (g := g) (d := d) (p := p) (b := b) (j := j) (w := w) (t := sdu kd C)
    rw [a1, a2, a3, a4, a5, a6, b1, b2, b3, b4, b5, b6]
    by_cases q : j = L
    · simp [q]
    · simp only [if_neg q]; exact hR.2.2.2 j hj
  · obtain ⟨a1, a2, a3, a4, a5, a6, a7⟩ := sM_row (m := m) (L := L) (g := g) (d := d) (p := p) (b := b) (j := j) (w := w) (t := sdu kd C) (fl := if kd = 4 then 0 else 1)
    rw [a1, a2, a3, a4]
    by_cases q : j = L
    · simp only [if_pos q]; exact ⟨d, g, p, b, hd0, hg, hp, hb, rfl, rfl, rfl, rfl⟩
    · simp only [if_neg q]; exact iR j (by omega)
  · obtain ⟨n1, n2, n3, n4, n5, n6⟩ := iN e he he2
    refine ⟨n1, n2, n3, n4, n5, fun f hf => ⟨(n6 f hf).1, ?_⟩⟩
    have a2 : sM g d p b L w (sdu kd C) (if kd = 4 then 0 else 1) m 60 0 (12 * f + e) = if 12 * f + e = 12 * g + d then m 60 0 (12 * g + d) + 1 else m 60 0 (12 * f + e) := by simp [sM, up3]
    rw [a2, if_neg (by omega)]
    exact (n6 f hf).2
  · obtain ⟨a2, a3, a4, a5, a6, a7, a8, a9, a10, a11, a12⟩ := sX_14 (x := x) (L := L) (g := g) (d := d) (p := p) (b := b) (e := e) (w := w) (t := sdu kd C)
    obtain ⟨o1, o2⟩ := hU e he hh
    rw [a11, a12, sM_p.1, sM_p.2.1]
    refine ⟨?_, ?_⟩
    · by_cases q : e = g
      · rw [if_pos q, if_pos q, ← q, o1]
      · rw [if_neg q, if_neg q, o1]
    · by_cases q : e = d
      · rw [if_pos q, if_pos q, ← q, o2]
      · rw [if_neg q, if_neg q, o2]
  · rw [sM_p.1]
    by_cases q : e = g
    · rw [if_pos q, e73]; exact ⟨u - 1, by omega, rfl⟩
    · rw [if_neg q]; exact (hV0 e he).1
  · rw [sM_p.2.1]
    by_cases q : e = d
    · rw [if_pos q, e74]; exact ⟨u' - 1, by omega, rfl⟩
    · rw [if_neg q]; exact (hV0 e he).2.1
  · have hh : hr m e = false := hh
    rw [sM_p.2.1]
    by_cases q : e = d
    · rw [q, r2] at hh; cases hh
    · rw [if_neg q]; exact (hV0 e he).2.2 hh
  · obtain ⟨a1, a2, a3, a4, a5, a6, a7⟩ := sM_row (m := m) (L := L) (g := g) (d := d) (p := p) (b := b) (j := j) (w := w) (t := sdu kd C) (fl := if kd = 4 then 0 else 1)
    rw [a6, a7]
    by_cases q : j = L
    · rw [if_pos q, if_pos q]
      by_cases k4 : kd = 4
      · exact ⟨C + 2, if_pos k4, Or.inr ⟨by omega, by omega, if_pos k4⟩⟩
      · exact ⟨C, if_neg k4, Or.inl ⟨rfl, if_neg k4⟩⟩
    · rw [if_neg q, if_neg q]; exact hD.1 j (by omega)
  · have := hD.2.1
    omega
  · have := hD.2.2
    rw [ct_succ, ct_cong (q := fun k => decide (m 70 0 k = nI (C + 2))) (fun k hk => by
      obtain ⟨a1, a2, a3, a4, a5, a6, a7⟩ := sM_row (m := m) (L := L) (g := g) (d := d) (p := p) (b := b) (j := k) (w := w) (t := sdu kd C) (fl := if kd = 4 then 0 else 1)
      rw [a6, if_neg (by omega)])]
    have q1 : ∀ c : Bool, (if c = true then 1 else 0) ≤ 1 := by intro c; cases c <;> decide
    have := q1 (decide (sM g d p b L w (sdu kd C) (if kd = 4 then 0 else 1) m 70 0 L = nI (C + 2)))
    omega
/-- both send the block alike -/
theorem send_ok {g d p b : Nat} (h : RR N K P L C x m) (hC31 : C + 2 < 2 ^ 31) (hg : gv m g d = true) (hgP : g < P) (hd0 : d < P) (hp : p < N) (hb : b < K) (u2 : ¬ m 74 0 d ≤ 0) : ∃ x' m', RR N K P (L + 1) C x' m' ∧ tu P m' + 1 = tu P m ∧ L < 192 ∧ (∀ (m0 : St3) (post : Int32 → St3 → Prop), post 1 (gl x' m0) → wp_X1_send (nI g) (nI d) (nI p) (nI b) (gl x m0) post) ∧ (∀ (x0 : St3) (post : St3 → Prop), post (gl x0 m') → wp_X10_sends (nI g) (nI d) (nI p) (nI b) (gl x0 m) post) := by
  obtain ⟨hQ, hU, hV0, hD⟩ := id h
  obtain ⟨⟨hW, hC, hM, hS, hH, hV, hG, hT, hLt, hR⟩, hz, iC, iR, iF, iH, iS, iO, iD, iN, iG, iM⟩ := id hQ
  obtain ⟨h1, h2, h3, h4, h5, h6, h7, h8⟩ := id hz
  obtain ⟨w1, w2, w3, w4, w5, w6⟩ := gv_nr hg
  obtain ⟨k1, k2⟩ := send_keep (kd := m 40 0 g) (w := sv (m 24 0 3) (m 40 0 g) (m 46 0 g) (m 44 0 g) p b) h hC31 hgP hd0 hp hb w5 u2 w4
  have hL : L < 192 := by have := hD.2.1; omega
  obtain ⟨g1, g2, ⟨o, o1, o2, o3⟩, g4, g5⟩ := iG g hgP
  obtain ⟨b1, b2, b3, b4, b5, b6, b7⟩ := hM.1 g (by omega)
  have on : ¬ m 44 0 g ≤ 0 ∧ ¬ m 44 0 g = 0 := by
    rw [o3, show (0 : Int32) = nI 0 from rfl, nI_leI (by omega) (by omega), nI_eq (by omega) (by omega)]
    omega
  refine ⟨_, _, k1, k2, hL, fun m0 post hp' => ?_, fun x0 post hp' => ?_⟩
  · refine S_send (C := C) (by omega) (by omega) (by omega) (by omega) hL hR.1 b1 (hM.2.1 g hgP).1 on.1 on.2 (hC.2.2.1.trans iC) hW.2.2 ?_
    rw [b5]
    exact hp'
  · exact M_sends (by omega) (by omega) (by omega) hR.2.1 rfl rfl on.2 iC hp'
theorem ask_ok {d : Nat} (h : RR N K P L C x m) (hC31 : C + 2 < 2 ^ 31) (hd0 : d < P) (hh : hr m d = true) (u2 : ¬ m 74 0 d ≤ 0) : ((∀ (m0 : St3) (post : Int32 → St3 → Prop), post 0 (gl x m0) → wp_X1_askOne (nI d) (gl x m0) post) ∧ (∀ (x0 : St3) (post : Int32 → St3 → Prop), post 0 (gl x0 m) → wp_X10_asks (nI d) (gl x0 m) post)) ∨ ∃ x' m', RR N K P (L + 1) C x' m' ∧ tu P m' + 1 = tu P m ∧ (∀ (m0 : St3) (post : Int32 → St3 → Prop), post 1 (gl x' m0) → wp_X1_askOne (nI d) (gl x m0) post) ∧ (∀ (x0 : St3) (post : Int32 → St3 → Prop), post 1 (gl x0 m') → wp_X10_asks (nI d) (gl x0 m) post) := by
  obtain ⟨hQ, hU, hV0, hD⟩ := id h
  obtain ⟨⟨hW, hC, hM, hS, hH, hV, hG, hT, hLt, hR⟩, hz, iC, iR, iF, iH, iS, iO, iD, iN, iG, iM⟩ := id hQ
  obtain ⟨h1, h2, h3, h4, h5, h6, h7, h8⟩ := id hz
  have hL192 := hR.2.2.1
  have x12 : x 14 d 12 = m 74 0 d := (hU d hd0 hh).2
  -- the class, at a giver
  have go : ∀ (m0 : St3) (post : Int32 → St3 → Prop) (g p : Nat), g < P → gv m g d = true → p < N → hs m d p = false → L < 192 → (∀ s, Msk s (fun g => decide (g < P) && gv m g d) → wp_X1_pickPiece (nI d) s (gl x m0) (fun r11 v10 => ((¬ r11 = (-1 : Int32) → wp_X6_firstUnasked d r11 (v10 5 0 1) v10 (fun r13 v12 => wp_X1_giversThatMayBe (nI d) r11 s v12 (fun r15 v14 => wp_X1_readiest r15 v14 (fun r17 v16 => wp_X1_send r17 (nI d) r11 r13 v16 (fun r19 v18 => ((r19 = 0 ∨ r19 = 1) ∧ post r19 v18)))))) ∧ (r11 = (-1 : Int32) → wp_X1_askAtEnd (nI d) s v10 (fun r22 v21 => ((r22 = 0 ∨ r22 = 1) ∧ post r22 v21)))))) → wp_X1_askOne (nI d) (gl x m0) post := by
    intro m0 post g p hgP hg hp c0 hL k
    unfold wp_X1_askOne
    refine ⟨d, by omega, rfl, fun q => absurd (x12.symm ▸ q) u2, fun _ => S_done (v := gl x m0) (m := m) (N := N) hM iD hd0 ?_⟩
    rw [show dn N m d = false from by
      unfold dn
      rw [decide_eq_false_iff_not]
      intro q
      have := ct_all.mp q p hp
      rw [c0] at this; cases this]
    refine ⟨fun q => absurd rfl q, fun _ => ?_⟩
    unfold wp_X5_hasRoom
    rw [show gl x m0 6 0 6 = nI L from hR.1, show (192 : Int32) = nI 192 from rfl]
    refine le2 (by omega) (by omega) (fun c => absurd c (by omega)) (fun _ => ⟨fun _ => S_giversTo (v := gl x m0) (m := m) hQ hU hd0 (fun s hs0 => ⟨fun _ => k s hs0, fun q => ?_⟩), fun q => absurd q (by decide)⟩)
    have := hs0.z.mp q g (by omega)
    rw [hg] at this
    simp [hgP] at this
  have room : ∀ g, g < P → gv m g d = true → L < 192 := fun g hgP hg => by
    obtain ⟨w1, w2, w3, w4, w5, w6⟩ := gv_nr hg
    obtain ⟨⟨u, hu, eu⟩, _, _⟩ := hV0 g hgP
    have : 1 ≤ un (m 73 0 g) := by
      rw [eu, show (0 : Int32) = nI 0 from rfl, nI_leI (by omega) (by omega)] at w5
      rw [eu, un_nI (by omega)]
      omega
    have := su_ge (f := fun e => un (m 73 0 e)) hgP
    have := hD.2.1
    unfold tu at this
    simp only at *
    omega
  cases hpp : pp N K P L m d with
  | some p =>
    obtain ⟨hp, okk⟩ := pick_lt hpp
    unfold okp at okk
    simp only [Bool.and_eq_true, Bool.not_eq_true'] at okk
    obtain ⟨⟨c0, c1⟩, c2⟩ := okk
    cases hnb : nb K L m d p with
    | none => rw [hnb] at c1; cases c1
    | some b =>
      cases hgv : gvr P m d p (ob (bd K L m d p)) none with
      | none => rw [hgv] at c2; cases c2
      | some g =>
        obtain ⟨hgP, gk⟩ := pick_lt hgv
        have hg := gok_hr gk
        have hb : b < K := by have := fst_t hnb; omega
        obtain ⟨x', m', k1, k2, k3, k4, k5⟩ := send_ok h hC31 hg hgP hd0 hp hb u2
        refine Or.inr ⟨x', m', k1, k2, fun m0 post hp' => go m0 post g p hgP hg hp c0 k3 (fun s hs0 => S_pick (v := gl x m0) (m := m) hQ hd0 hs0 ?_), fun x0 post hp' => M_asks (v := gl x0 m) (N := N) (K := K) (P := P) (L := L) hz hR.2.1 (by omega) iR iF (by omega) (fun q => ?_) (fun p' q => ?_) (fun p' b' q _ _ => ?_)⟩
        · rw [hpp]
          refine ⟨fun _ => ?_, fun q => absurd q (nI_m1 (by omega))⟩
          rw [show gl x m0 5 0 1 = nI K from hW.2.1]
          refine S_firstUnasked (v := gl x m0) (m := m) hS hH iF hG hL192 (by omega) h5 h7 hp c0 ?_
          rw [hnb]
          refine S_may (v := gl x m0) (m := m) hQ hd0 hp c0 hs0 (fun y hy => S_readiest (v := gl x m0) (m := m) hC hU h8 (fun j hj hg0 => (gv_nr (gok_hr hg0)).2.2.1) hy ?_)
          rw [show pick (gok m d p (ob (bd K L m d p)) none) (ggt m) none 0 P = some g from hgv]
          exact k4 m0 _ ⟨Or.inr rfl, hp'⟩
        · have q : pp N K P L m d = none := q
          rw [hpp] at q; cases q
        · have q : pp N K P L m d = some p' := q
          rw [hpp] at q
          cases q
          rw [show gvr P (gl x0 m) d p (ob (bd K L (gl x0 m) d p)) none = some g from hgv, show nb K L (gl x0 m) d p = some b from hnb]
          exact k5 x0 _ hp'
        · have q : pp N K P L m d = none := q
          rw [hpp] at q; cases q
  | none =>
    cases hse : se N K P L m d with
    | some p =>
      obtain ⟨w1, w2, w3⟩ := fst_t hse
      cases hfb : fb K P L m d p with
      | none => rw [hfb] at w1; cases w1
      | some b =>
        obtain ⟨y1, y2, y3⟩ := fst_t hfb
        obtain ⟨e1, e2, e3, e4, e5⟩ := eb2_t y1
        cases hgv : gvr P m d p none (so L m d p b) with
        | none => exact absurd hgv e5
        | some g =>
          obtain ⟨hgP, gk⟩ := pick_lt hgv
          have hg := gok_hr gk
          obtain ⟨x', m', k1, k2, k3, k4, k5⟩ := send_ok h hC31 hg hgP hd0 (show p < N by omega) (show b < K by omega) u2
          refine Or.inr ⟨x', m', k1, k2, fun m0 post hp' => go m0 post g p hgP hg (by omega) e1 k3 (fun s hs0 => S_pick (v := gl x m0) (m := m) hQ hd0 hs0 ?_), fun x0 post hp' => M_asks (v := gl x0 m) (N := N) (K := K) (P := P) (L := L) hz hR.2.1 (by omega) iR iF (by omega) (fun _ q => ?_) (fun p' q => ?_) (fun p' b' _ q1 q2 => ?_)⟩
          · rw [hpp]
            refine ⟨fun q => absurd rfl q, fun _ => S_end (v := gl x m0) (m := m) hQ hU hd0 hs0 (fun q => ?_) (fun p' b' q1 q2 => ?_)⟩
            · rw [hse] at q; cases q
            · rw [hse] at q1
              cases q1
              rw [hfb] at q2
              cases q2
              rw [hgv]
              exact k4 m0 _ ⟨Or.inr rfl, Or.inr rfl, hp'⟩
          · have q : se N K P L m d = none := q
            rw [hse] at q; cases q
          · have q : pp N K P L m d = some p' := q
            rw [hpp] at q; cases q
          · have q1 : se N K P L m d = some p' := q1
            rw [hse] at q1
            cases q1
            have q2 : fb K P L m d p = some b' := q2
            rw [hfb] at q2
            cases q2
            rw [show gvr P (gl x0 m) d p none (so L (gl x0 m) d p b) = some g from hgv]
            exact k5 x0 _ hp'
    | none =>
      refine Or.inl ⟨fun m0 post hp' => ?_, fun x0 post hp' => M_asks (v := gl x0 m) (N := N) (K := K) (P := P) (L := L) hz hR.2.1 (by omega) iR iF (by omega) (fun _ _ => hp') (fun p' q => ?_) (fun p' b' _ q1 q2 => ?_)⟩
      · unfold wp_X1_askOne
        refine ⟨d, by omega, rfl, fun _ => hp', fun _ => S_done (v := gl x m0) (m := m) (N := N) hM iD hd0 (bI_fi (fun _ => hp') (fun _ => ?_))⟩
        unfold wp_X5_hasRoom
        refine ⟨fun _ => ⟨fun q => absurd rfl q, fun _ => hp'⟩, fun _ => ⟨fun _ => S_giversTo (v := gl x m0) (m := m) hQ hU hd0 (fun s hs0 => ⟨fun _ => S_pick (v := gl x m0) (m := m) hQ hd0 hs0 ?_, fun _ => hp'⟩), fun q => absurd q (by decide)⟩⟩
        rw [hpp]
        refine ⟨fun q => absurd rfl q, fun _ => S_end (v := gl x m0) (m := m) hQ hU hd0 hs0 (fun _ => ⟨Or.inl rfl, hp'⟩) (fun p' b' q1 q2 => ?_)⟩
        rw [hse] at q1; cases q1
      · have q : pp N K P L m d = some p' := q
        rw [hpp] at q; cases q
      · have q1 : se N K P L m d = some p' := q1
        rw [hse] at q1; cases q1
end ROUND
