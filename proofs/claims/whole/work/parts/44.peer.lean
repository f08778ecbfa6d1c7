theorem up3_self (v : St3) (k i j : Nat) : up3 v k i j (v k i j) = v := by
  funext a b c
  simp only [up3]
  split
  · rename_i q
    rw [q.1, q.2.1, q.2.2]
  · rfl
section PEER2
variable {N K P L C : Nat} {x m : St3} {Q : Int32 → Int32 → St3 → Prop}
def pX (K P n : Nat) (s kd : Int32) (u w : Nat) (D y : Int32) (x : St3) : St3 := up3 (up3 (up3 (up3 (sdX K P n 0 s (up3 (up3 (up3 x 14 P 2 kd) 14 P 3 (nI u)) 14 P 4 (nI w))) 15 P 3 y) 14 P 6 D) 1 0 4 (x 1 0 4 ||| ((1 : Int32) <<< (nI P &&& 31)))) 1 0 3 (nI (P + 1))
def pM (K P n : Nat) (kd : Int32) (u w : Nat) (D : Int32) (m : St3) : St3 := sdM K P n 0 n (up3 (up3 (up3 (up3 (up3 (up3 (up3 (up3 (up3 (th m) 24 0 4 (nI (P + 1))) 40 0 P kd) 41 0 P (nI u)) 42 0 P (nI w)) 43 0 P 1) 44 0 P 2) 49 0 P D) 62 0 P (-1)) 63 0 P (-1))
theorem dec52_at {n e p b : Nat} (hp : p < 24) (hb : b < 4) : dec52 K P n 0 (96 * e + 4 * p + b) = true ↔ e = P ∧ p < n ∧ b < K := by
  rw [dec52_iff]
  unfold c52
  constructor
  · intro w
    have : e = P := by omega
    subst this
    omega
  · rintro ⟨rfl, w2, w3⟩
    omega
theorem pM_hs {n e p : Nat} {kd D : Int32} {u w : Nat} (hn : n ≤ 24) (hp : p < 24) : hs (pM K P n kd u w D m) e p = (decide (e = P ∧ p < n) || hs m e p) := by
  unfold hs
  show decide (¬ (if 50 = 50 ∧ 0 = 0 ∧ 24 * P ≤ 24 * e + p ∧ 24 * e + p < 24 * P + n then (1 : Int32) else m 50 0 (24 * e + p)) = 0) = _
  by_cases q : e = P ∧ p < n
  · rw [if_pos ⟨rfl, rfl, by omega, by omega⟩]
    simp [q]
  · rw [if_neg (by omega)]
    simp [q]
theorem pM_hl {n e p b : Nat} {kd D : Int32} {u w : Nat} (hp : p < 24) (hb : b < 4) : hl (pM K P n kd u w D m) e p b = (decide (e = P ∧ p < n ∧ b < K) || hl m e p b) := by
  unfold hl
  show decide (¬ (if 52 = 52 ∧ 0 = 0 ∧ dec52 K P n 0 (96 * e + 4 * p + b) = true then (1 : Int32) else m 52 0 (96 * e + 4 * p + b)) = 0) = _
  by_cases q : e = P ∧ p < n ∧ b < K
  · rw [if_pos ⟨rfl, rfl, (dec52_at hp hb).mpr q⟩]
    simp [q]
  · rw [if_neg (fun z => q ((dec52_at hp hb).mp z.2.2))]
    simp [q]
theorem pM_gt {n e p b : Nat} {kd D : Int32} {u w : Nat} (hp : p < 24) (hb : b < 4) : gt (pM K P n kd u w D m) e p b = if e = P ∧ p < n ∧ b < K then vl (m 24 0 3) (nI p) (nI b) else gt m e p b := by
  unfold gt
  show (if 53 = 53 ∧ 0 = 0 ∧ dec52 K P n 0 (96 * e + 4 * p + b) = true then vl (m 24 0 3) (nI ((96 * e + 4 * p + b - 96 * P) / 4)) (nI ((96 * e + 4 * p + b - 96 * P) % 4)) else m 53 0 (96 * e + 4 * p + b)) = _
  by_cases q : e = P ∧ p < n ∧ b < K
  · rw [if_pos ⟨rfl, rfl, (dec52_at hp hb).mpr q⟩, if_pos q, q.1, show (96 * P + 4 * p + b - 96 * P) / 4 = p by omega, show (96 * P + 4 * p + b - 96 * P) % 4 = b by omega]
  · rw [if_neg (fun z => q ((dec52_at hp hb).mp z.2.2)), if_neg q]
theorem pM_fr {n e p b : Nat} {kd D : Int32} {u w : Nat} (hp : p < 24) (hb : b < 4) : fr (pM K P n kd u w D m) e p b = if e = P ∧ p < n ∧ b < K then -1 else fr m e p b := by
  unfold fr
  show (if 54 = 54 ∧ 0 = 0 ∧ dec52 K P n 0 (96 * e + 4 * p + b) = true then (-1 : Int32) else m 54 0 (96 * e + 4 * p + b)) = _
  by_cases q : e = P ∧ p < n ∧ b < K
  · rw [if_pos ⟨rfl, rfl, (dec52_at hp hb).mpr q⟩, if_pos q]
  · rw [if_neg (fun z => q ((dec52_at hp hb).mp z.2.2)), if_neg q]
theorem pM_hr {n e : Nat} {kd D : Int32} {u w : Nat} : hr (pM K P n kd u w D m) e = (decide (e = P) || hr m e) := by
  unfold hr
  show decide (¬ (if 43 = 43 ∧ 0 = 0 ∧ e = P then (1 : Int32) else m 43 0 e) = 0) = _
  by_cases q : e = P
  · rw [if_pos ⟨rfl, rfl, q⟩]; simp [q]
  · rw [if_neg (by omega)]; simp [q]
theorem pM_1 {n e : Nat} {kd D : Int32} {u w : Nat} : pM K P n kd u w D m 40 0 e = (if e = P then kd else m 40 0 e) ∧ pM K P n kd u w D m 41 0 e = (if e = P then nI u else m 41 0 e) ∧ pM K P n kd u w D m 42 0 e = (if e = P then nI w else m 42 0 e) ∧ pM K P n kd u w D m 44 0 e = (if e = P then 2 else m 44 0 e) ∧ pM K P n kd u w D m 49 0 e = (if e = P then D else m 49 0 e) ∧ pM K P n kd u w D m 62 0 e = (if e = P then -1 else m 62 0 e) ∧ pM K P n kd u w D m 63 0 e = (if e = P then -1 else m 63 0 e) := by
  by_cases q : e = P <;> simp [pM, sdM, up3, th, q]
theorem pX_14 {n e : Nat} {s kd D y : Int32} {u w : Nat} : pX K P n s kd u w D y x 14 e 2 = (if e = P then kd else x 14 e 2) ∧ pX K P n s kd u w D y x 14 e 3 = (if e = P then nI u else x 14 e 3) ∧ pX K P n s kd u w D y x 14 e 4 = (if e = P then nI w else x 14 e 4) ∧ pX K P n s kd u w D y x 14 e 6 = (if e = P then D else x 14 e 6) ∧ pX K P n s kd u w D y x 14 e 5 = x 14 e 5 ∧ pX K P n s kd u w D y x 14 e 7 = x 14 e 7 ∧ pX K P n s kd u w D y x 14 e 8 = x 14 e 8 ∧ pX K P n s kd u w D y x 14 e 9 = x 14 e 9 ∧ pX K P n s kd u w D y x 14 e 10 = x 14 e 10 := by
  by_cases q : e = P <;> simp [pX, sdX, up3, q]
theorem pX_15 {n e : Nat} {s kd D y : Int32} {u w : Nat} : pX K P n s kd u w D y x 15 e 3 = (if e = P then y else x 15 e 3) ∧ pX K P n s kd u w D y x 15 e 4 = x 15 e 4 ∧ pX K P n s kd u w D y x 15 e 5 = x 15 e 5 := by
  by_cases q : e = P <;> simp [pX, sdX, up3, q]
theorem pX_18 {n e p b : Nat} {s kd D y : Int32} {u w : Nat} (hp : p < 24) (hb : b < 4) : pX K P n s kd u w D y x 18 e (4 * p + b) = if e = P ∧ p < n ∧ b < K then vl s (nI p) (nI b) else x 18 e (4 * p + b) := by
  show (if 18 = 18 ∧ e = P ∧ dec52 K 0 n 0 (4 * p + b) = true then vl s (nI ((4 * p + b) / 4)) (nI ((4 * p + b) % 4)) else x 18 e (4 * p + b)) = _
  have k : dec52 K 0 n 0 (4 * p + b) = true ↔ p < n ∧ b < K := by
    have := dec52_at (K := K) (P := 0) (n := n) (e := 0) hp hb
    simpa using this
  by_cases q : e = P ∧ p < n ∧ b < K
  · rw [if_pos ⟨rfl, q.1, k.mpr q.2⟩, if_pos q, show (4 * p + b) / 4 = p by omega, show (4 * p + b) % 4 = b by omega]
  · rw [if_neg (fun z => q ⟨z.2.1, k.mp z.2.2⟩), if_neg q]
theorem peer_keep {n : Nat} {kd D y : Int32} {u w : Nat} (h : RX N K P L C x m) (hP : P < 12) (hu : 1 ≤ u) (hu2 : u ≤ 8) (hw : 1 ≤ w) (hw2 : w ≤ 8) (hn : (n = N ∧ D = 0) ∨ (n = 0 ∧ D = -1)) (hy : Msk y (fun p => decide (p < n))) : RX N K (P + 1) L C (pX K P n (m 24 0 3) kd u w D y x) (pM K P n kd u w D m) := by
  obtain ⟨⟨hW, hC, hM, hS, hH, hV, hG, hT, hLt, hR⟩, hz, iC, iR, iF, iH, iS, iO, iD, iN, iG, iM, iU⟩ := id h
  obtain ⟨h1, h2, h3, h4, h5, h6, h7, h8⟩ := id hz
  have hnN : n ≤ N := by rcases hn with q | q <;> omega
  obtain ⟨f1, f2, f3, f4, f5⟩ := iN P (Nat.le_refl _) hP
  refine ⟨⟨hW, ⟨rfl, ?_, hC.2.2⟩, ⟨fun e he => ?_, fun e he => ?_, fun e he he2 => ?_⟩, fun e he => ⟨?_, ?_⟩, fun e p b he hp hb => ?_, fun e p b he hp hb => ?_, ⟨hG.1, fun e he => ?_⟩, ⟨fun e he => ?_, fun e he => ?_, fun e he he2 => ?_⟩, hLt, hR⟩, ⟨h1, h2, rfl, h4, h5, h6, h7, by omega⟩, iC, fun j hj => ?_, fun e p b he hp hb a1 a2 => ?_, fun e p b he hp hb a1 => ?_, iS, fun e f he hf ho => ?_, fun e he => ?_, fun e he he2 => ?_, fun e he => ?_, ⟨?_, ?_⟩, iU⟩
  · -- here
    show Msk (x 1 0 4 ||| ((1 : Int32) <<< (nI P &&& 31))) _
    refine (hC.2.1.or1 (n := P) (by omega)).ext (fun e he => ?_)
    rw [pM_hr]
    by_cases q : e = P
    · subst q; simp
    · rw [show decide (e < P + 1) = decide (e < P) by congr 1; apply propext; constructor <;> intro <;> omega]
      simp [q]
  · obtain ⟨a1, a2, a3, a4, a5, a6, a7, a8, a9⟩ := pX_14 (K := K) (P := P) (x := x) (n := n) (e := e) (s := m 24 0 3) (kd := kd) (D := D) (y := y) (u := u) (w := w)
    obtain ⟨b1, b2, b3, b4, b5, b6, b7⟩ := pM_1 (K := K) (P := P) (m := m) (n := n) (e := e) (kd := kd) (D := D) (u := u) (w := w)
    obtain ⟨m1, m2, m3, m4, m5, m6, m7⟩ := hM.1 e he
    rw [a1, a2, a3, a6, a7, a8, a9, b1, b2, b3]
    refine ⟨?_, ?_, ?_, m4, m5, m6, m7⟩ <;> split <;> first | rfl | assumption
  · obtain ⟨a1, a2, a3, a4, a5, a6, a7, a8, a9⟩ := pX_14 (K := K) (P := P) (x := x) (n := n) (e := e) (s := m 24 0 3) (kd := kd) (D := D) (y := y) (u := u) (w := w)
    obtain ⟨b1, b2, b3, b4, b5, b6, b7⟩ := pM_1 (K := K) (P := P) (m := m) (n := n) (e := e) (kd := kd) (D := D) (u := u) (w := w)
    rw [a4, a5, b4, b5]
    by_cases q : e = P
    · subst q
      rw [if_pos rfl, if_pos rfl, if_pos rfl]
      exact ⟨(hM.2.2 e (Nat.le_refl _) hP).1, rfl⟩
    · rw [if_neg q, if_neg q, if_neg q]
      exact hM.2.1 e (by omega)
  · obtain ⟨a1, a2, a3, a4, a5, a6, a7, a8, a9⟩ := pX_14 (K := K) (P := P) (x := x) (n := n) (e := e) (s := m 24 0 3) (kd := kd) (D := D) (y := y) (u := u) (w := w)
    rw [a4, a5, if_neg (by omega)]
    exact hM.2.2 e (by omega) he2
  · rw [pX_15.1]
    by_cases q : e = P
    · subst q
      rw [if_pos rfl]
      refine hy.ext (fun p hp => ?_)
      by_cases w2 : p < N
      · rw [pM_hs (by omega) (by omega), (f1 p (by omega)).1]
        simp [w2]
      · simp [w2, show ¬ p < n by omega]
    · rw [if_neg q]
      refine (hS e he).1.ext (fun p hp => ?_)
      by_cases w2 : p < N
      · rw [pM_hs (by omega) (by omega)]
        simp [q]
      · simp [w2]
  · rw [pX_15.2.1]
    exact (hS e he).2
  · rw [pM_hl hp hb, pM_fr hp hb]
    show x 17 e (4 * p + b) = _
    rw [hH e p b he hp hb]
    by_cases q : e = P ∧ p < n ∧ b < K
    · have q1 := q.1
      subst q1
      rw [f2 p b hp hb]
      simp [q, show p < N by omega]
    · simp [q]
  · rw [pM_gt hp hb, pX_18 hp hb]
    split
    · rfl
    · exact hV e p b he hp hb
  · rw [pX_15.2.2]
    exact hG.2 e he
  · obtain ⟨t1, t2, t3, t4⟩ := hT.1 e he
    have fz : ∀ f : Nat → Bool, (∀ b, b = P → f b = false) → ∀ b, (decide (b < P) && f b) = (decide (b < P + 1) && f b) := fun f hf b => by
      by_cases q : b = P
      · rw [hf b q]; simp
      · rw [show decide (b < P + 1) = decide (b < P) by congr 1; apply propext; constructor <;> intro <;> omega]
    refine ⟨t1.ext (fun b hb => fz (fun b => mt m e b) (fun b q => ?_) b), t2.ext (fun b hb => fz (fun b => bn m e b) (fun b q => ?_) b), t3.ext (fun b hb => fz (fun b => bn m b e) (fun b q => ?_) b), t4.ext (fun b hb => ?_)⟩
    · subst q
      rw [iS.1 e b he hP]
      exact (f3 e he).1
    · subst q; exact (f3 e he).2.2
    · subst q; exact (f3 e he).2.1
    · have := fz (fun b => op m e b && !bn m e b && !bn m b e) (fun b q => by
        subst q
        cases ho : op m e b with
        | false => rfl
        | true =>
          have := (iO e b he hP ho).2.2.2.2
          omega) b
      rw [← Bool.and_assoc, ← Bool.and_assoc, ← Bool.and_assoc, ← Bool.and_assoc] at this
      exact this
  · obtain ⟨b1, b2, b3, b4, b5, b6, b7⟩ := pM_1 (K := K) (P := P) (m := m) (n := n) (e := e) (kd := kd) (D := D) (u := u) (w := w)
    rw [b6, b7]
    show x 16 e 8 = _ ∧ x 16 e 9 = _
    by_cases q : e = P
    · subst q
      rw [if_pos rfl, if_pos rfl]
      exact hT.2.2 e (Nat.le_refl _) hP
    · rw [if_neg q, if_neg q]
      exact hT.2.1 e (by omega)
  · exact hT.2.2 e (by omega) he2
  · obtain ⟨d, g, p, b, q1, q2, q3⟩ := iR j hj
    exact ⟨d, g, p, b, by omega, by omega, q3⟩
  · rw [pM_hl (by omega) (by omega)] at a1
    rw [pM_hs (by omega) (by omega)] at a2
    rw [pM_fr (by omega) (by omega)]
    simp only [Bool.or_eq_false_iff, decide_eq_false_iff_not] at a2
    have q : ¬ (e = P ∧ p < n ∧ b < K) := fun z => a2.1 ⟨z.1, z.2.1⟩
    rw [if_neg q]
    simp only [q, decide_false, Bool.false_or] at a1
    exact iF e p b he hp hb a1 a2.2
  · rw [pM_hs (by omega) (by omega)] at a1
    rw [pM_hl (by omega) (by omega)]
    simp only [Bool.or_eq_true, decide_eq_true_eq] at a1
    rcases a1 with a1 | a1
    · simp [a1, hb]
    · rw [iH e p b he hp hb a1]; simp
  · obtain ⟨o1, o2, o3, o4, o5⟩ := iO e f he hf ho
    refine ⟨o1, ?_, ?_, by omega, by omega⟩
    · rw [pM_hr, o2]; simp
    · rw [pM_hr, o3]; simp
  · obtain ⟨b1, b2, b3, b4, b5, b6, b7⟩ := pM_1 (K := K) (P := P) (m := m) (n := n) (e := e) (kd := kd) (D := D) (u := u) (w := w)
    rw [b5]
    have ec : hm N (pM K P n kd u w D m) e = ct (fun p => decide (e = P ∧ p < n) || hs m e p) N := ct_cong (fun p hp => pM_hs (by omega) (by omega))
    unfold dn
    rw [ec]
    by_cases q : e = P
    · subst q
      rw [if_pos rfl]
      rcases hn with ⟨q1, q2⟩ | ⟨q1, q2⟩
      · subst q1
        rw [q2, show ct (fun p => decide (e = e ∧ p < n) || hs m e p) n = n from ct_all.mpr (fun p hp => by simp [hp])]
        simp
      · subst q1
        rw [q2, show ct (fun p => decide (e = e ∧ p < 0) || hs m e p) N = 0 from ct_zero.mpr (fun p hp => by simp [(f1 p (by omega)).1])]
        simp; omega
    · rw [if_neg q, show ct (fun p => decide (e = P ∧ p < n) || hs m e p) N = hm N m e from ct_cong (fun p hp => by simp [q])]
      exact iD e (by omega)
  · obtain ⟨n1, n2, n3, n4, n5⟩ := iN e (by omega) he2
    refine ⟨fun p hp => ⟨?_, (n1 p hp).2⟩, fun p b hp hb => ?_, n3, n4, n5⟩
    · rw [pM_hs (by omega) hp, (n1 p hp).1]; simp; omega
    · rw [pM_hl hp hb, n2 p b hp hb]; simp; omega
  · obtain ⟨b1, b2, b3, b4, b5, b6, b7⟩ := pM_1 (K := K) (P := P) (m := m) (n := n) (e := e) (kd := kd) (D := D) (u := u) (w := w)
    rw [b2, b3, b4, b6, b7]
    by_cases q : e = P
    · rw [if_pos q, if_pos q, if_pos q, if_pos q, if_pos q]
      exact ⟨⟨u, hu, hu2, rfl⟩, ⟨w, hw, hw2, rfl⟩, ⟨2, by omega, by omega, rfl⟩, Or.inl rfl, Or.inl rfl⟩
    · rw [if_neg q, if_neg q, if_neg q, if_neg q, if_neg q]
      obtain ⟨g1, g2, g3, g4, g5⟩ := iG e (by omega)
      refine ⟨g1, g2, g3, ?_, ?_⟩
      · rcases g4 with g | ⟨c, g, g'⟩
        · exact Or.inl g
        · exact Or.inr ⟨c, by omega, g'⟩
      · rcases g5 with g | ⟨c, g, g'⟩
        · exact Or.inl g
        · exact Or.inr ⟨c, by omega, g'⟩
  · show m 24 0 8 = si (fun d => m 48 0 d) P + m 48 0 P
    rw [f5.1, iM.1]; simp
  · show m 24 0 9 = si (fun d => m 47 0 d) P + m 47 0 P
    rw [f4, iM.2]; simp
theorem A_peer {a b c0 : Int32} (h : RX N K P L C x m) (hq : ∀ (r : Int32) (N' K' P' L' C' : Nat) (x' m' : St3), RX N' K' P' L' C' x' m' → C' ≤ C + 50 → Q r r (gl x' m')) : wp_X9_peer a b c0 (gl x m) (fun r1 v1 => wp_X10_peer a b c0 v1 (fun r2 v2 => Q r1 r2 v2)) := by
  obtain ⟨⟨hW, hC, hM, hS, hH, hV, hG, hT, hLt, hR⟩, hz, iC, iR, iF, iH, iS, iO, iD, iN, iG, iM, iU⟩ := id h
  obtain ⟨h1, h2, h3, h4, h5, h6, h7, h8⟩ := id hz
  have hq0 : ∀ r, Q r r (gl x (th m)) := fun r => hq r N K P L C x (th m) h (by omega)
  have hp12 : (m 24 0 4 = 12 ↔ P = 12) := by
    rw [h3, show (12 : Int32) = nI 12 from rfl, nI_eq (by omega) (by omega)]
  have hx12 : (x 1 0 3 < 12 ↔ P < 12) := by
    rw [hC.1, show (12 : Int32) = nI 12 from rfl, nI_ltI (by omega) (by omega)]
  have no : (decide ((0 : Int32) ≤ a ∧ a ≤ 5) && decide ((1 : Int32) ≤ b ∧ b ≤ 8) && decide ((1 : Int32) ≤ c0 ∧ c0 ≤ 8) && decide (P < 12)) = false → wp_X10_peer a b c0 (gl x m) (fun r2 v2 => Q (-1) r2 v2) := by
    intro z
    unfold wp_X10_peer
    intro v1 e
    rw [th_gl] at e
    subst e
    refine ⟨fun _ => hq0 _, fun c1 => M_in (bI_if (fun _ => hq0 _) (fun c2 => M_in (bI_if (fun _ => hq0 _) (fun c3 => M_in (bI_fi (fun c4 => ?_) (fun _ => hq0 _))))))⟩
    have : ¬ P = 12 := fun q => c1 (hp12.mpr q)
    rw [c2, c3, c4] at z
    simp at z
    omega
  have n34 : wp_X10_peer a b c0 (gl x m) (fun r2 v2 => Q (-1) r2 v2) → wB_X9_peer_34 (fun r1 v1 => wp_X10_peer a b c0 v1 (fun r2 v2 => Q r1 r2 v2)) a b c0 0 (gl x m) := by
    intro z
    unfold wB_X9_peer_34
    exact ⟨fun _ => z, fun q => absurd rfl q⟩
  unfold wp_X9_peer
  refine S_isWithin (bI_if (fun c2 => n34 (no ?_)) (fun c2 => S_isWithin (bI_if (fun c3 => n34 (no ?_)) (fun c3 => S_isWithin (bI_if (fun c4 => n34 (no ?_)) (fun c4 => ?_))))))
  · rw [c2]; rfl
  · rw [c2, c3]; rfl
  · rw [c2, c3, c4]; rfl
  · unfold wB_X9_peer_34
    refine ⟨fun q => absurd q (by decide), fun _ => ⟨fun c5 => ?_, fun c5 => no ?_⟩⟩
    · have hP : P < 12 := hx12.mp c5
      obtain ⟨u, u1, u2, rfl⟩ := within_t (lo := 1) (hi := 8) (by omega) c3 (by omega)
      obtain ⟨w, w1, w2, rfl⟩ := within_t (lo := 1) (hi := 8) (by omega) c4 (by omega)
      obtain ⟨f1, f2, f3, f4, f5⟩ := iN P (Nat.le_refl _) hP
      -- the reference, from where the class has ended
      have ref : ∀ x', (¬ a = 1 → Q (nI P) (nI P) (gl x' (pM K P 0 a u w (-1) m))) → (a = 1 → Q (nI P) (nI P) (gl x' (pM K P N a u w 0 m))) → wp_X10_peer a (nI u) (nI w) (gl x' m) (fun r2 v2 => Q (nI P) r2 v2) := by
        intro x' z1 z2
        unfold wp_X10_peer
        intro v1 e
        rw [th_gl] at e
        subst e
        refine ⟨fun q => absurd (hp12.mp q) (by omega), fun _ => M_in ?_⟩
        rw [c2]
        refine ⟨fun q => absurd q (by decide), fun _ => M_in ?_⟩
        rw [c3]
        refine ⟨fun q => absurd q (by decide), fun _ => M_in ?_⟩
        rw [c4]
        refine ⟨fun _ => ?_, fun q => absurd q (by decide)⟩
        rw [show gl x' (th m) 24 0 4 = nI P from h3]
        intro v2 e2
        rw [gl_m rfl, nI_1] at e2
        subst e2
        refine ⟨P, hP, rfl, ?_⟩
        intro v3 e3
        rw [gl_m rfl] at e3
        subst e3
        intro v4 e4
        rw [gl_m rfl] at e4
        subst e4
        intro v5 e5
        rw [gl_m rfl] at e5
        subst e5
        intro v6 e6
        rw [gl_m rfl] at e6
        subst e6
        intro v7 e7
        rw [gl_m rfl] at e7
        subst e7
        refine ⟨fun c6 => ?_, fun c6 => ?_⟩
        · intro v8 e8
          rw [gl_m rfl] at e8
          subst e8
          intro v9 e9
          rw [gl_m rfl] at e9
          subst e9
          intro v10 e10
          rw [gl_m rfl] at e10
          subst e10
          refine M_nofill c6 ?_ 0 FU (fu 0 (by omega))
          have z3 := z1 c6
          unfold pM at z3
          rw [sdM_0] at z3
          exact z3
        · intro v8 e8
          rw [gl_m rfl] at e8
          subst e8
          intro v9 e9
          rw [gl_m rfl] at e9
          subst e9
          intro v10 e10
          rw [gl_m rfl] at e10
          subst e10
          have z3 := z2 c6
          subst c6
          have z4 := M_fill (x := x') (m0 := up3 (up3 (up3 (up3 (up3 (up3 (up3 (up3 (up3 (th m) 24 0 4 (nI (P + 1))) 40 0 P 1) 41 0 P (nI u)) 42 0 P (nI w)) 43 0 P 1) 44 0 P 2) 49 0 P 0) 62 0 P (-1)) 63 0 P (-1)) (post := fun r2 v2 => Q (nI P) r2 v2) h1 h5 h2 h7 hP z3 N 0 FU (by omega) (fu N (by omega))
          rw [sdM_0] at z4
          exact z4
      unfold wp_X2_takeIn
      rw [show gl x m 1 0 3 = nI P from hC.1]
      refine ⟨P, hP, rfl, ?_⟩
      intro x1 e1
      rw [gl_x rfl] at e1
      subst e1
      intro x2 e2
      rw [gl_x rfl] at e2
      subst e2
      intro x3 e3
      rw [gl_x rfl] at e3
      subst e3
      refine ⟨fun c6 => ?_, fun c6 => ?_⟩
      · unfold wB_X2_takeIn_56
        intro x4 e4
        rw [gl_x rfl] at e4
        subst e4
        intro x5 e5
        rw [gl_x rfl] at e5
        rw [show gl (up3 (up3 (up3 (up3 x 14 P 2 a) 14 P 3 (nI u)) 14 P 4 (nI w)) 1 0 4 (gl (up3 (up3 (up3 x 14 P 2 a) 14 P 3 (nI u)) 14 P 4 (nI w)) m 1 0 4 ||| 1 <<< (nI P &&& 31))) m 1 0 3 + 1 = nI (P + 1) from by
          show x 1 0 3 + 1 = nI (P + 1)
          rw [hC.1, nI_1]] at e5
        subst e5
        refine ref _ (fun _ => ?_) (fun q => absurd q c6)
        have hy : Msk (x 15 P 3) (fun p => decide (p < 0)) := (hS P hP).1.ext (fun p hp => by
          by_cases w3 : p < N
          · rw [(f1 p (by omega)).1]; simp
          · simp [w3])
        have kk := peer_keep (kd := a) (u := u) (w := w) (n := 0) (D := -1) h hP u1 u2 w1 w2 (Or.inr ⟨rfl, rfl⟩) hy
        have es : pX K P 0 (m 24 0 3) a u w (-1) (x 15 P 3) x = up3 (up3 (up3 (up3 (up3 x 14 P 2 a) 14 P 3 (nI u)) 14 P 4 (nI w)) 1 0 4 (x 1 0 4 ||| 1 <<< (nI P &&& 31))) 1 0 3 (nI (P + 1)) := by
          unfold pX
          rw [sdX_0]
          congr 1
          congr 1
          rw [show up3 (up3 (up3 (up3 x 14 P 2 a) 14 P 3 (nI u)) 14 P 4 (nI w)) 15 P 3 (x 15 P 3) = up3 (up3 (up3 x 14 P 2 a) 14 P 3 (nI u)) 14 P 4 (nI w) from up3_self _ 15 P 3]
          have ed : (up3 (up3 (up3 x 14 P 2 a) 14 P 3 (nI u)) 14 P 4 (nI w)) 14 P 6 = -1 := by
            simp [up3]
            exact (hM.2.2 P (Nat.le_refl _) hP).2
          rw [← ed]
          exact up3_self _ 14 P 6
        rw [es] at kk
        exact hq (nI P) N K (P + 1) L C _ _ kk (by omega)
      · subst c6
        refine S_fill (s := m 24 0 3) hW.1 h5 hW.2.1 hW.2.2 h7 hP ?_
        intro x4 e4
        rw [gl_x rfl] at e4
        subst e4
        unfold wB_X2_takeIn_56
        intro x5 e5
        rw [gl_x rfl] at e5
        subst e5
        intro x6 e6
        rw [gl_x rfl] at e6
        have e7 : x6 = gl (pX K P N (m 24 0 3) 1 u w 0 (((1 : Int32) <<< (nI N &&& 31)) - 1) x) m := by
          rw [e6]
          unfold pX
          congr 1
          show up3 _ 1 0 3 (x 1 0 3 + 1) = up3 _ 1 0 3 (nI (P + 1))
          rw [hC.1, nI_1]
          rfl
        subst e7
        refine ref _ (fun q => absurd rfl q) (fun _ => ?_)
        exact hq (nI P) N K (P + 1) L C _ _ (peer_keep h hP u1 u2 w1 w2 (Or.inl ⟨rfl, rfl⟩) (fun i hi => b_low N (by omega) i hi)) (by omega)
    · have : ¬ P < 12 := fun q => c5 (hx12.mpr q)
      simp [this]
end PEER2
