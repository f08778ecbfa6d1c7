/-! one block is sent -/
def sv (sd kd s o : Int32) (p b : Nat) : Int32 := if kd = 3 ∧ (s + 1) - (s + 1) / o * o = 0 then vl sd (nI p) (nI b) ^^^ 1 else vl sd (nI p) (nI b)
def sdu (kd : Int32) (C : Nat) : Int32 := if kd = 4 then nI (C + 2) else nI C
def sX (g d p b L : Nat) (w t : Int32) (x : St3) : St3 := up3 (up3 (up3 (up3 (up3 (up3 (up3 (up3 (up3 (up3 (up3 (up3 (up3 (up3 (up3 x 14 g 11 (x 14 g 11 - 1)) 14 g 8 (x 14 g 8 + 1)) 22 g d (x 22 g d + 1)) 21 g d (x 21 g d + 1)) 14 d 12 (x 14 d 12 - 1)) 19 d (4 * p + b) (x 19 d (4 * p + b) + 1)) 15 d 5 (x 15 d 5 + 1)) 1 0 6 (x 1 0 6 + 1)) 7 0 L (nI g)) 8 0 L (nI d)) 9 0 L (nI p)) 10 0 L (nI b)) 11 0 L w) 12 0 L t) 6 0 6 (nI (L + 1))
def sM (g d p b L : Nat) (w t fl : Int32) (m : St3) : St3 := up3 (up3 (up3 (up3 (up3 (up3 (up3 (up3 (up3 (up3 (up3 (up3 (up3 (up3 m 73 0 g (m 73 0 g - 1)) 74 0 d (m 74 0 d - 1)) 46 0 g (m 46 0 g + 1)) 24 0 6 (m 24 0 6 + 1)) 59 0 (12 * g + d) (m 59 0 (12 * g + d) + 1)) 60 0 (12 * g + d) (m 60 0 (12 * g + d) + 1)) 65 0 L (nI d)) 66 0 L (nI g)) 67 0 L (nI p)) 68 0 L (nI b)) 69 0 L w) 70 0 L t) 71 0 L fl) 24 0 34 (nI (L + 1))
def s8 (g d p b : Nat) (x : St3) : St3 := up3 (up3 (up3 (up3 (up3 (up3 (up3 (up3 x 14 g 11 (x 14 g 11 - 1)) 14 g 8 (x 14 g 8 + 1)) 22 g d (x 22 g d + 1)) 21 g d (x 21 g d + 1)) 14 d 12 (x 14 d 12 - 1)) 19 d (4 * p + b) (x 19 d (4 * p + b) + 1)) 15 d 5 (x 15 d 5 + 1)) 1 0 6 (x 1 0 6 + 1)
section SEND
variable {N K P L C : Nat} {x m : St3}
theorem sX_14 {g d p b e : Nat} {w t : Int32} : sX g d p b L w t x 14 e 2 = x 14 e 2 ∧ sX g d p b L w t x 14 e 3 = x 14 e 3 ∧ sX g d p b L w t x 14 e 4 = x 14 e 4 ∧ sX g d p b L w t x 14 e 5 = x 14 e 5 ∧ sX g d p b L w t x 14 e 6 = x 14 e 6 ∧ sX g d p b L w t x 14 e 7 = x 14 e 7 ∧ sX g d p b L w t x 14 e 8 = (if e = g then x 14 g 8 + 1 else x 14 e 8) ∧ sX g d p b L w t x 14 e 9 = x 14 e 9 ∧ sX g d p b L w t x 14 e 10 = x 14 e 10 ∧ sX g d p b L w t x 14 e 11 = (if e = g then x 14 g 11 - 1 else x 14 e 11) ∧ sX g d p b L w t x 14 e 12 = (if e = d then x 14 d 12 - 1 else x 14 e 12) := by
  simp [sX, up3]
theorem S_add {m0 : St3} {g d p b : Nat} {w t : Int32} {post : St3 → Prop} (hL : L < 192) (e1 : x 6 0 6 = nI L) (h : post (gl (up3 (up3 (up3 (up3 (up3 (up3 (up3 x 7 0 L (nI g)) 8 0 L (nI d)) 9 0 L (nI p)) 10 0 L (nI b)) 11 0 L w) 12 0 L t) 6 0 6 (nI (L + 1))) m0)) : wp_X5_add (nI g) (nI d) (nI p) (nI b) w t (gl x m0) post := by
  unfold wp_X5_add wp_X5_hasRoom
  rw [show gl x m0 6 0 6 = nI L from e1, show (192 : Int32) = nI 192 from rfl]
  refine le2 (by omega) (by omega) (fun c => absurd c (by omega)) (fun c => ⟨fun _ => ⟨L, hL, e1, ?_⟩, fun q => absurd q (by decide)⟩)
  intro v1 q1; rw [gl_x rfl] at q1; subst q1
  refine ⟨L, hL, e1, ?_⟩
  intro v2 q2; rw [gl_x rfl] at q2; subst q2
  refine ⟨L, hL, e1, ?_⟩
  intro v3 q3; rw [gl_x rfl] at q3; subst q3
  refine ⟨L, hL, e1, ?_⟩
  intro v4 q4; rw [gl_x rfl] at q4; subst q4
  refine ⟨L, hL, e1, ?_⟩
  intro v5 q5; rw [gl_x rfl] at q5; subst q5
  refine ⟨L, hL, e1, ?_⟩
  intro v6 q6; rw [gl_x rfl] at q6; subst q6
  intro v7 q7
  rw [gl_x rfl, show gl (up3 (up3 (up3 (up3 (up3 (up3 x 7 0 L (nI g)) 8 0 L (nI d)) 9 0 L (nI p)) 10 0 L (nI b)) 11 0 L w) 12 0 L t) m0 6 0 6 = nI L from e1, nI_1] at q7
  subst q7
  exact h
theorem s8_14 {g d p b e : Nat} : s8 g d p b x 14 e 2 = x 14 e 2 ∧ s8 g d p b x 14 e 5 = x 14 e 5 ∧ s8 g d p b x 14 g 8 = x 14 g 8 + 1 := by
  simp [s8, up3]
theorem S_send8 {m0 : St3} {g d p b : Nat} {sd kd o : Int32} {post : Int32 → St3 → Prop} (hL : L < 192) (e1 : x 6 0 6 = nI L) (e2 : x 14 g 2 = kd) (e3 : x 14 g 5 = o) (ho : ¬ o ≤ 0) (ho2 : ¬ o = 0) (e4 : x 1 0 5 = nI C) (e5 : x 5 0 2 = sd) (h : post 1 (gl (sX g d p b L (sv sd kd (x 14 g 8) o p b) (sdu kd C) x) m0)) : wp_X8_valueOf (nI p) (nI b) (gl (s8 g d p b x) m0) (fun r22 v21 => ((¬ (v21 14 g 2) = (4 : Int32) → wB_X1_send_156 post (nI g) (nI d) (nI p) (nI b) g r22 (0 : Int32) (v21 1 0 5) v21) ∧ ((v21 14 g 2) = (4 : Int32) → wB_X1_send_156 post (nI g) (nI d) (nI p) (nI b) g r22 (2 : Int32) (v21 1 0 5) v21))) := by
  obtain ⟨a1, a2, a3⟩ := s8_14 (x := x) (g := g) (d := d) (p := p) (b := b) (e := g)
  unfold wp_X8_valueOf
  intro z ez
  have ev : (z ^^^ ushr z (15 : Int32)) = vl sd (nI p) (nI b) := by
    rw [ez, show gl (s8 g d p b x) m0 5 0 2 = sd from e5]; rfl
  rw [ev]
  have part : ∀ s0, nI C + s0 = sdu kd C → wB_X1_send_156 post (nI g) (nI d) (nI p) (nI b) g (vl sd (nI p) (nI b)) s0 (gl (s8 g d p b x) m0 1 0 5) (gl (s8 g d p b x) m0) := fun s0 es => by
    unfold wB_X1_send_156 wp_X3_nowSendsFalse
    rw [show gl (s8 g d p b x) m0 14 g 2 = kd from a1.trans e2, show gl (s8 g d p b x) m0 14 g 5 = o from a2.trans e3, show gl (s8 g d p b x) m0 14 g 8 = x 14 g 8 + 1 from a3, show gl (s8 g d p b x) m0 1 0 5 = nI C from e4, es]
    have no : ¬ (kd = 3 ∧ (x 14 g 8 + 1) - (x 14 g 8 + 1) / o * o = 0) → wp_X5_add (nI g) (nI d) (nI p) (nI b) (vl sd (nI p) (nI b)) (sdu kd C) (gl (s8 g d p b x) m0) (fun v25 => post (1 : Int32) v25) := fun q => by
      refine S_add hL e1 ?_
      unfold sv at h
      rw [if_neg q] at h
      exact h
    refine ⟨fun c => ⟨fun _ => no (fun q => c q.1), fun q => absurd rfl q⟩, fun c => ⟨fun q => absurd q ho, fun _ => ⟨ho2, fun c2 => ⟨fun _ => no (fun q => c2 q.2), fun q => absurd rfl q⟩, fun c2 => ⟨fun q => absurd q (by decide), fun _ => ?_⟩⟩⟩⟩
    refine S_add hL e1 ?_
    unfold sv at h
    rw [if_pos ⟨c, c2⟩] at h
    exact h
  rw [show gl (s8 g d p b x) m0 14 g 2 = kd from a1.trans e2]
  refine ⟨fun c => part 0 ?_, fun c => part 2 ?_⟩
  · unfold sdu; rw [if_neg c, Int32.add_zero]
  · unfold sdu; rw [if_pos c, show (2 : Int32) = nI 2 from rfl, nI_add]
theorem S_send {m0 : St3} {g d p b : Nat} {sd kd o : Int32} {post : Int32 → St3 → Prop} (hg : g < 12) (hd0 : d < 12) (hp : p < 24) (hb : b < 4) (hL : L < 192) (e1 : x 6 0 6 = nI L) (e2 : x 14 g 2 = kd) (e3 : x 14 g 5 = o) (ho : ¬ o ≤ 0) (ho2 : ¬ o = 0) (e4 : x 1 0 5 = nI C) (e5 : x 5 0 2 = sd) (h : post 1 (gl (sX g d p b L (sv sd kd (x 14 g 8) o p b) (sdu kd C) x) m0)) : wp_X1_send (nI g) (nI d) (nI p) (nI b) (gl x m0) post := by
  unfold wp_X1_send
  refine ⟨fun q => absurd q (nI_m1 (by omega)), fun _ => ⟨fun _ => ⟨g, hg, rfl, d, hd0, rfl, ?_⟩, fun q => absurd q (nI_m1 (by omega))⟩⟩
  intro v1 q1
  rw [gl_x rfl, show gl x m0 14 g 11 = x 14 g 11 from rfl] at q1
  subst q1
  intro v2 q2
  rw [gl_x rfl, show gl (up3 x 14 g 11 (x 14 g 11 - 1)) m0 14 g 8 = x 14 g 8 from u_j (v := x) rfl] at q2
  subst q2
  intro v3 q3
  rw [gl_x rfl] at q3
  subst q3
  intro v4 q4
  rw [gl_x rfl] at q4
  subst q4
  intro v5 q5
  rw [gl_x rfl] at q5
  have q5' : v5 = gl (up3 (up3 (up3 (up3 (up3 x 14 g 11 (x 14 g 11 - 1)) 14 g 8 (x 14 g 8 + 1)) 22 g d (x 22 g d + 1)) 21 g d (x 21 g d + 1)) 14 d 12 (x 14 d 12 - 1)) m0 := by
    rw [q5]
    congr 2
    congr 1
    show up3 (up3 x 14 g 11 (x 14 g 11 - 1)) 14 g 8 (x 14 g 8 + 1) 14 d 12 = x 14 d 12
    simp [up3]
  subst q5'
  unfold wp_X6_expect wp_X9_place
  rw [i4]
  refine ⟨4 * p + b, by omega, rfl, ?_⟩
  intro v6 q6
  rw [gl_x rfl] at q6
  subst q6
  intro v7 q7
  rw [gl_x rfl] at q7
  subst q7
  intro v8 q8
  rw [gl_x rfl] at q8
  subst q8
  exact S_send8 hL e1 e2 e3 ho ho2 e4 e5 h
theorem M_sends {x0 : St3} {g d p b : Nat} {kd o : Int32} {post : St3 → Prop} (hg : g < 12) (hd0 : d < 12) (hL : L < 400) (e1 : m 24 0 34 = nI L) (e2 : m 40 0 g = kd) (e3 : m 44 0 g = o) (ho2 : ¬ o = 0) (e4 : m 24 0 5 = nI C) (h : post (gl x0 (sM g d p b L (sv (m 24 0 3) kd (m 46 0 g) o p b) (sdu kd C) (if kd = 4 then 0 else 1) m))) : wp_X10_sends (nI g) (nI d) (nI p) (nI b) (gl x0 m) post := by
  unfold wp_X10_sends
  refine ⟨g, hg, rfl, ?_⟩
  intro v1 q1; rw [gl_m rfl] at q1; subst q1
  refine ⟨d, hd0, rfl, ?_⟩
  intro v2 q2; rw [gl_m rfl] at q2; subst q2
  intro v3 q3; rw [gl_m rfl] at q3; subst q3
  intro v4 q4; rw [gl_m rfl] at q4; subst q4
  refine M_two ⟨12 * g + d, by omega, rfl, ?_⟩
  intro v5 q5; rw [gl_m rfl] at q5; subst q5
  refine M_two ⟨12 * g + d, by omega, rfl, ?_⟩
  intro v6 q6; rw [gl_m rfl] at q6; subst q6
  refine ⟨L, hL, e1, ?_⟩
  intro v7 q7; rw [gl_m rfl] at q7; subst q7
  refine ⟨L, hL, e1, ?_⟩
  intro v8 q8; rw [gl_m rfl] at q8; subst q8
  refine ⟨L, hL, e1, ?_⟩
  intro v9 q9; rw [gl_m rfl] at q9; subst q9
  refine ⟨L, hL, e1, ?_⟩
  intro v10 q10; rw [gl_m rfl] at q10; subst q10
  have fin : ∀ s0, vl (m 24 0 3) (nI p) (nI b) ^^^ s0 = sv (m 24 0 3) kd (m 46 0 g) o p b → wB_X10_sends_155 post (nI g) s0 (vl (m 24 0 3) (nI p) (nI b)) (nI L) (gl x0 (up3 (up3 (up3 (up3 (up3 (up3 (up3 (up3 (up3 (up3 m 73 0 g (m 73 0 g - 1)) 74 0 d (m 74 0 d - 1)) 46 0 g (m 46 0 g + 1)) 24 0 6 (m 24 0 6 + 1)) 59 0 (12 * g + d) (m 59 0 (12 * g + d) + 1)) 60 0 (12 * g + d) (m 60 0 (12 * g + d) + 1)) 65 0 L (nI d)) 66 0 L (nI g)) 67 0 L (nI p)) 68 0 L (nI b))) := fun s0 es => by
    unfold wB_X10_sends_155 wB_X10_sends_188
    refine ⟨L, hL, rfl, ?_⟩
    intro v11 q11; rw [gl_m rfl, es] at q11; subst q11
    refine ⟨g, hg, rfl, fun c => ⟨L, hL, e1, ?_⟩, fun c => ⟨L, hL, e1, ?_⟩⟩
    · have c' : ¬ kd = 4 := fun q => c (e2.trans q)
      intro v12 q12; rw [gl_m rfl] at q12; subst q12
      refine ⟨g, hg, rfl, fun q => absurd (e2.symm.trans q) c', fun _ => ⟨L, hL, e1, ?_⟩⟩
      intro v13 q13; rw [gl_m rfl] at q13; subst q13
      intro v14 q14; rw [gl_m rfl] at q14; subst q14
      unfold sM at h
      rw [show sdu kd C = m 24 0 5 from (if_neg c').trans e4.symm, if_neg c', show nI (L + 1) = m 24 0 34 + 1 from by rw [e1, nI_1]] at h
      exact h
    · have c' : kd = 4 := e2.symm.trans c
      intro v12 q12; rw [gl_m rfl] at q12; subst q12
      refine ⟨g, hg, rfl, fun _ => ⟨L, hL, e1, ?_⟩, fun q => absurd c q⟩
      intro v13 q13; rw [gl_m rfl] at q13; subst q13
      intro v14 q14; rw [gl_m rfl] at q14; subst q14
      unfold sM at h
      rw [show sdu kd C = m 24 0 5 + 2 from by unfold sdu; rw [if_pos c', e4, show (2 : Int32) = nI 2 from rfl, nI_add], if_pos c', show nI (L + 1) = m 24 0 34 + 1 from by rw [e1, nI_1]] at h
      exact h
  unfold wp_X10_valueOf
  intro z ez
  have ev : (z ^^^ ushr z (15 : Int32)) = vl (m 24 0 3) (nI p) (nI b) := by rw [ez]; rfl
  rw [ev]
  have conv : ∀ A O : Int32, A = m 46 0 g + 1 → O = o → (A - A / O * O = 0 ↔ (m 46 0 g + 1) - (m 46 0 g + 1) / o * o = 0) := by
    intro A O q1 q2
    rw [q1, q2]
  have a46 : up3 (up3 (up3 m 73 0 g (m 73 0 g - 1)) 74 0 d (m 74 0 d - 1)) 46 0 g (m 46 0 g + 1) 46 0 g = m 46 0 g + 1 := up3_at _ 46 0 g _
  have f0 : ¬ (kd = 3 ∧ (m 46 0 g + 1) - (m 46 0 g + 1) / o * o = 0) → _ := fun q => fin 0 (by
      unfold sv
      rw [if_neg q]
      exact Int32.xor_zero)
  have f1 : (kd = 3 ∧ (m 46 0 g + 1) - (m 46 0 g + 1) / o * o = 0) → _ := fun q => fin 1 (by
      unfold sv
      rw [if_pos q])
  rw [← e1] at f0 f1
  refine ⟨fun c => f0 (fun q => c (e2.trans q.1)), fun c => ⟨fun q => ho2 (e3.symm.trans q), fun c2 => f0 (fun q => c2 ((conv _ _ ?_ e3).mpr q.2)), fun c2 => f1 ⟨e2.symm.trans c, (conv _ _ ?_ e3).mp c2⟩⟩⟩
  · exact a46
  · exact a46
end SEND
