/-! peer: class and reference agree, and the relation stays -/
def c52 (K d p b j : Nat) : Prop := 96 * d ≤ j ∧ j < 96 * d + 96 ∧ ((j - 96 * d) / 4 < p ∧ (j - 96 * d) % 4 < K ∨ (j - 96 * d) / 4 = p ∧ (j - 96 * d) % 4 < b)
def dec52 (K d p b j : Nat) : Bool := Nat.ble (96 * d) j && Nat.blt j (96 * d + 96) && ((Nat.blt ((j - 96 * d) / 4) p && Nat.blt ((j - 96 * d) % 4) K) || (Nat.beq ((j - 96 * d) / 4) p && Nat.blt ((j - 96 * d) % 4) b))
theorem blt_iff {a b : Nat} : Nat.blt a b = true ↔ a < b := by unfold Nat.blt; rw [Nat.ble_eq]; omega
theorem beq_iff {a b : Nat} : Nat.beq a b = true ↔ a = b := ⟨Nat.eq_of_beq_eq_true, fun e => by subst e; exact Nat.beq_refl a⟩
theorem dec52_iff {K d p b j : Nat} : dec52 K d p b j = true ↔ c52 K d p b j := by
  unfold dec52 c52
  simp only [Bool.and_eq_true, Bool.or_eq_true, Nat.ble_eq, blt_iff, beq_iff]
  constructor <;> intro h <;> omega
/-- the reference's rows of a seed, filled up to block b of piece p, h pieces had -/
def sdM (K d p b h : Nat) (m : St3) : St3 := fun k i j =>
  if k = 50 ∧ i = 0 ∧ 24 * d ≤ j ∧ j < 24 * d + h then 1
  else if k = 52 ∧ i = 0 ∧ dec52 K d p b j = true then 1
  else if k = 53 ∧ i = 0 ∧ dec52 K d p b j = true then vl (m 24 0 3) (nI ((j - 96 * d) / 4)) (nI ((j - 96 * d) % 4))
  else if k = 54 ∧ i = 0 ∧ dec52 K d p b j = true then -1
  else m k i j
theorem sdM_0 (K d : Nat) (m : St3) : sdM K d 0 0 0 m = m := by
  funext k i j
  have : ¬ dec52 K d 0 0 j = true := by rw [dec52_iff]; unfold c52; omega
  simp only [sdM, this]
  simp
  omega
theorem sdM_h (K d p : Nat) (m : St3) : up3 (sdM K d p 0 p m) 50 0 (24 * d + p) 1 = sdM K d p 0 (p + 1) m := by
  funext k i j
  simp only [up3, sdM]
  by_cases q : k = 50 ∧ i = 0 ∧ j = 24 * d + p
  · rw [if_pos q, if_pos ⟨q.1, q.2.1, by omega, by omega⟩]
  · rw [if_neg q]
    have e : (k = 50 ∧ i = 0 ∧ 24 * d ≤ j ∧ j < 24 * d + p) = (k = 50 ∧ i = 0 ∧ 24 * d ≤ j ∧ j < 24 * d + (p + 1)) := by
      apply propext
      constructor <;> intro h <;> omega
    simp only [e]
theorem sdM_b {K d p b h : Nat} {m : St3} (hb : b < 4) (hp : p < 24) : up3 (up3 (up3 (sdM K d p b h m) 52 0 (96 * d + 4 * p + b) 1) 53 0 (96 * d + 4 * p + b) (vl (m 24 0 3) (nI p) (nI b))) 54 0 (96 * d + 4 * p + b) (-1) = sdM K d p (b + 1) h m := by
  funext k i j
  simp only [up3, sdM]
  by_cases q : j = 96 * d + 4 * p + b
  · subst q
    have c1 : dec52 K d p (b + 1) (96 * d + 4 * p + b) = true := by rw [dec52_iff]; unfold c52; omega
    have e1 : (96 * d + 4 * p + b - 96 * d) / 4 = p := by omega
    have e2 : (96 * d + 4 * p + b - 96 * d) % 4 = b := by omega
    rw [e1, e2, c1]
    by_cases k54 : k = 54
    · subst k54
      by_cases hi : i = 0 <;> simp [hi]
    · by_cases k53 : k = 53
      · subst k53
        by_cases hi : i = 0 <;> simp [hi]
      · by_cases k52 : k = 52
        · subst k52
          by_cases hi : i = 0 <;> simp [hi]
        · simp [k54, k53, k52]
  · have e : dec52 K d p b j = dec52 K d p (b + 1) j := by
      rw [Bool.eq_iff_iff, dec52_iff, dec52_iff]
      unfold c52
      constructor <;> intro w <;> omega
    simp [q, e]
theorem sdM_K {K d p h : Nat} {m : St3} : sdM K d p K h m = sdM K d (p + 1) 0 h m := by
  funext k i j
  have e : dec52 K d p K j = dec52 K d (p + 1) 0 j := by
    rw [Bool.eq_iff_iff, dec52_iff, dec52_iff]
    unfold c52
    constructor <;> intro w <;> omega
  simp only [sdM, e]
/-- the class's row of values of a seed -/
def sdX (K d p b : Nat) (s : Int32) (x : St3) : St3 := fun k i j =>
  if k = 18 ∧ i = d ∧ dec52 K 0 p b j = true then vl s (nI (j / 4)) (nI (j % 4)) else x k i j
theorem sdX_0 (K d : Nat) (s : Int32) (x : St3) : sdX K d 0 0 s x = x := by
  funext k i j
  have : ¬ dec52 K 0 0 0 j = true := by rw [dec52_iff]; unfold c52; omega
  simp [sdX, this]
theorem sdX_b {K d p b : Nat} {s : Int32} {x : St3} (hb : b < 4) (hp : p < 24) : up3 (sdX K d p b s x) 18 d (4 * p + b) (vl s (nI p) (nI b)) = sdX K d p (b + 1) s x := by
  funext k i j
  simp only [up3, sdX]
  by_cases q : j = 4 * p + b
  · subst q
    have c1 : dec52 K 0 p (b + 1) (4 * p + b) = true := by rw [dec52_iff]; unfold c52; omega
    rw [show (4 * p + b) / 4 = p by omega, show (4 * p + b) % 4 = b by omega, c1]
    by_cases k18 : k = 18 ∧ i = d
    · simp [k18.1, k18.2]
    · have n1 : ¬ (k = 18 ∧ i = d ∧ True) := fun w => k18 ⟨w.1, w.2.1⟩
      have n2 : ¬ (k = 18 ∧ i = d ∧ 4 * p + b = 4 * p + b) := fun w => k18 ⟨w.1, w.2.1⟩
      have n3 : ¬ (k = 18 ∧ i = d ∧ dec52 K 0 p b (4 * p + b) = true) := fun w => k18 ⟨w.1, w.2.1⟩
      have n4 : ¬ (k = 18 ∧ i = d ∧ true = true) := fun w => k18 ⟨w.1, w.2.1⟩
      rw [if_neg n2, if_neg n3, if_neg n4]
  · have e : dec52 K 0 p b j = dec52 K 0 p (b + 1) j := by
      rw [Bool.eq_iff_iff, dec52_iff, dec52_iff]
      unfold c52
      constructor <;> intro w <;> omega
    have n2 : ¬ (k = 18 ∧ i = d ∧ j = 4 * p + b) := fun w => q w.2.2
    rw [if_neg n2, e]
theorem sdX_K {K d p : Nat} {s : Int32} {x : St3} : sdX K d p K s x = sdX K d (p + 1) 0 s x := by
  funext k i j
  have e : dec52 K 0 p K j = dec52 K 0 (p + 1) 0 j := by
    rw [Bool.eq_iff_iff, dec52_iff, dec52_iff]
    unfold c52
    constructor <;> intro w <;> omega
  simp only [sdX, e]
section PEER
variable {N K P L C : Nat} {x m : St3}
theorem M_fill_in {d p : Nat} {post : Int32 → St3 → Prop} {K137 : Int32 → Int32 → Int32 → St3 → Prop} {y : Int32} {m0 : St3} (hK : m0 24 0 2 = nI K) (hK2 : K ≤ 4) (hd0 : d < 12) (hp : p < 24) (h : K137 y (nI d) (nI (p + 1)) (gl x (sdM K d (p + 1) 0 (p + 1) m0))) : ∀ (n i f : Nat), i + n = K → n < f → wL_X10_peer_168 post K137 f y (nI d) (nI p) (nI i) (gl x (sdM K d p i (p + 1) m0))
  | n, i, 0, _, hf => absurd hf (by omega)
  | n, i, f + 1, e, hf => by
    show wB_X10_peer_168 post K137 _ y (nI d) (nI p) (nI i) (gl x (sdM K d p i (p + 1) m0))
    unfold wB_X10_peer_168
    rw [show gl x (sdM K d p i (p + 1) m0) 24 0 2 = nI K from hK, nI_1, nI_1]
    refine le2 (by omega) (by omega) (fun c => ?_) (fun c => M_cell ⟨_, by omega, rfl, ?_⟩)
    · rw [show i = K by omega, sdM_K]; exact h
    · intro v1 e1
      rw [gl_m rfl] at e1
      subst e1
      refine M_cell (M_valueOf ⟨_, by omega, rfl, ?_⟩)
      intro v2 e2
      rw [gl_m rfl] at e2
      subst e2
      refine M_cell ⟨_, by omega, rfl, ?_⟩
      intro v3 e3
      rw [gl_m rfl] at e3
      subst e3
      have := M_fill_in (post := post) hK hK2 hd0 hp h (n - 1) (i + 1) f (by omega) (by omega)
      rw [← sdM_b (by omega) hp] at this
      exact this
theorem M_fill {d : Nat} {post : Int32 → St3 → Prop} {m0 : St3} (hN : m0 24 0 1 = nI N) (hN2 : N ≤ 24) (hK : m0 24 0 2 = nI K) (hK2 : K ≤ 4) (hd0 : d < 12) (h : post (nI d) (gl x (sdM K d N 0 N m0))) : ∀ (n i f : Nat), i + n = N → n < f → wL_X10_peer_137 post f 1 (nI d) (nI i) (gl x (sdM K d i 0 i m0))
  | n, i, 0, _, hf => absurd hf (by omega)
  | n, i, f + 1, e, hf => by
    show wB_X10_peer_137 post _ 1 (nI d) (nI i) (gl x (sdM K d i 0 i m0))
    unfold wB_X10_peer_137
    rw [show gl x (sdM K d i 0 i m0) 24 0 1 = nI N from hN, i24]
    refine le2 (by omega) (by omega) (fun c => ?_) (fun c => ⟨fun q => absurd rfl q, fun _ => ⟨_, by omega, rfl, ?_⟩⟩)
    · rw [show i = N by omega]; exact h
    · intro v1 e1
      rw [gl_m rfl, sdM_h] at e1
      subst e1
      exact M_fill_in hK hK2 hd0 (by omega) (M_fill hN hN2 hK hK2 hd0 h (n - 1) (i + 1) f (by omega) (by omega)) K 0 FU (by omega) (fu K (by omega))
theorem M_nofill {d : Nat} {y : Int32} {post : Int32 → St3 → Prop} {v : St3} (hy : ¬ y = 1) (h : post (nI d) v) : ∀ (i f : Nat), 0 < f → wL_X10_peer_137 post f y (nI d) (nI i) v
  | i, 0, hf => absurd hf (by omega)
  | i, f + 1, _ => by
    show wB_X10_peer_137 post _ y (nI d) (nI i) v
    unfold wB_X10_peer_137
    exact ⟨fun _ => h, fun _ => ⟨fun _ => h, fun q => absurd q hy⟩⟩
theorem S_fill_in {d p : Nat} {post : St3 → Prop} {K2 : Nat → Int32 → St3 → Prop} {x0 m0 : St3} {s : Int32} (hK : x0 5 0 1 = nI K) (hs0 : x0 5 0 2 = s) (hK2 : K ≤ 4) (hd0 : d < 12) (hp : p < 24) (h : K2 d (nI (p + 1)) (gl (sdX K d (p + 1) 0 s x0) m0)) : ∀ (n i f : Nat), i + n = K → n < f → wL_X6_fillFrom_12 post K2 f d (nI p) (nI i) (gl (sdX K d p i s x0) m0)
  | n, i, 0, _, hf => absurd hf (by omega)
  | n, i, f + 1, e, hf => by
    show wB_X6_fillFrom_12 post K2 _ d (nI p) (nI i) (gl (sdX K d p i s x0) m0)
    unfold wB_X6_fillFrom_12 wp_X9_place wp_X8_valueOf
    rw [show gl (sdX K d p i s x0) m0 5 0 1 = nI K from hK, nI_1, nI_1, i4]
    refine le2 (by omega) (by omega) (fun c => ?_) (fun c => ?_)
    · rw [show i = K by omega, sdX_K]; exact h
    · intro y ey
      have ey2 : y = (s + 4 * nI p + nI i) * 1103515245 + 12345 := by rw [← hs0]; exact ey
      subst ey2
      refine ⟨_, by omega, rfl, ?_⟩
      intro v1 e1
      rw [gl_x rfl] at e1
      subst e1
      have := S_fill_in (post := post) hK hs0 hK2 hd0 hp h (n - 1) (i + 1) f (by omega) (by omega)
      rw [← sdX_b (by omega) hp] at this
      exact this
theorem S_fill_L {d : Nat} {post : St3 → Prop} {x0 m0 : St3} {s : Int32} (hN : x0 5 0 0 = nI N) (hN2 : N ≤ 24) (hK : x0 5 0 1 = nI K) (hs0 : x0 5 0 2 = s) (hK2 : K ≤ 4) (hd0 : d < 12) (h : post (gl (up3 (sdX K d N 0 s x0) 15 d 3 (((1 : Int32) <<< (nI N &&& 31)) - 1)) m0)) : ∀ (n i f : Nat), i + n = N → n < f → wL_X6_fillFrom_2 post f d (nI i) (gl (sdX K d i 0 s x0) m0)
  | n, i, 0, _, hf => absurd hf (by omega)
  | n, i, f + 1, e, hf => by
    show wB_X6_fillFrom_2 post _ d (nI i) (gl (sdX K d i 0 s x0) m0)
    unfold wB_X6_fillFrom_2 wp_X8_allPieces
    rw [show gl (sdX K d i 0 s x0) m0 5 0 0 = nI N from hN]
    refine le2 (by omega) (by omega) (fun c => ?_) (fun c => ?_)
    · intro v1 e1
      rw [gl_x rfl] at e1
      subst e1
      rw [show i = N by omega]; exact h
    · exact S_fill_in hK hs0 hK2 hd0 (by omega) (S_fill_L hN hN2 hK hs0 hK2 hd0 h (n - 1) (i + 1) f (by omega) (by omega)) K 0 FU (by omega) (fu K (by omega))
theorem S_fill {d : Nat} {post : St3 → Prop} {x0 m0 : St3} {s : Int32} (hN : x0 5 0 0 = nI N) (hN2 : N ≤ 24) (hK : x0 5 0 1 = nI K) (hs0 : x0 5 0 2 = s) (hK2 : K ≤ 4) (hd0 : d < 12) (h : post (gl (up3 (sdX K d N 0 s x0) 15 d 3 (((1 : Int32) <<< (nI N &&& 31)) - 1)) m0)) : wp_X6_fillFrom d (gl x0 m0) post := by
  have := S_fill_L (post := post) hN hN2 hK hs0 hK2 hd0 h N 0 FU (by omega) (fu N (by omega))
  rw [sdX_0] at this
  exact this
end PEER
