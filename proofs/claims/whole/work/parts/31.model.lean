/-! the reference's readings, and what its reading methods answer -/
def hr (m : St3) (d : Nat) : Bool := decide (¬ m 43 0 d = 0)
def hs (m : St3) (d p : Nat) : Bool := decide (¬ m 50 0 (24 * d + p) = 0)
def mk (m : St3) (d p : Nat) : Bool := decide (¬ m 51 0 (24 * d + p) = 0)
def hl (m : St3) (d p b : Nat) : Bool := decide (¬ m 52 0 (96 * d + 4 * p + b) = 0)
def gt (m : St3) (d p b : Nat) : Int32 := m 53 0 (96 * d + 4 * p + b)
def fr (m : St3) (d p b : Nat) : Int32 := m 54 0 (96 * d + 4 * p + b)
def mt (m : St3) (a b : Nat) : Bool := decide (¬ m 55 0 (12 * a + b) = 0)
def op (m : St3) (a b : Nat) : Bool := decide (¬ m 56 0 (12 * a + b) = 0)
def bn (m : St3) (a b : Nat) : Bool := decide (¬ m 57 0 (12 * a + b) = 0)
def nr (m : St3) (a b : Nat) : Bool := mt m a b && hr m a && hr m b && !bn m a b && !bn m b a
def tl (m : St3) (a p : Nat) : Bool := hs m a p && (decide (¬ m 40 0 a = 5) || decide (p % 2 = 0))
def wn (N : Nat) (m : St3) (b a : Nat) : Bool := nr m a b && an (fun p => tl m a p && !hs m b p) N
def hm (N : Nat) (m : St3) (d : Nat) : Nat := ct (hs m d) N
def dn (N : Nat) (m : St3) (d : Nat) : Bool := decide (hm N m d = N)
def hd (K : Nat) (m : St3) (d p : Nat) : Nat := ct (hl m d p) K
def cm (L : Nat) (m : St3) (d p b : Nat) : Nat := ct (fun k => decide (m 65 0 k = nI d ∧ m 67 0 k = nI p ∧ m 68 0 k = nI b)) L
def lt (N : Nat) (m : St3) (a b : Nat) : Int32 := if dn N m a then m 60 0 (12 * a + b) else m 61 0 (12 * a + b)
def vl (x p b : Int32) : Int32 := ((x + 4 * p + b) * 1103515245 + 12345) ^^^ ushr ((x + 4 * p + b) * 1103515245 + 12345) 15
def sm (x : Int32) (p : Int32) : Int32 → Nat → Nat → Int32
  | s, _, 0 => s
  | s, i, n + 1 => sm x p (s * 69069 + vl x p (nI i)) (i + 1) n
/-- the numbers of a state that a tick leaves -/
def Sz (N K P : Nat) (m : St3) : Prop := m 24 0 1 = nI N ∧ m 24 0 2 = nI K ∧ m 24 0 4 = nI P ∧ 1 ≤ N ∧ N ≤ 24 ∧ 1 ≤ K ∧ K ≤ 4 ∧ P ≤ 12
section MREAD
variable {N K P : Nat} {v : St3} {post : Int32 → St3 → Prop}
theorem M_in {x a b : Int32} (h : post (bI (decide (a ≤ x ∧ x ≤ b))) v) : wp_X10_in x a b v post := by
  unfold wp_X10_in
  have e1 : x < a ↔ ¬ a ≤ x := by rw [Int32.lt_iff_toInt_lt, Int32.le_iff_toInt_le]; omega
  have e2 : b < x ↔ ¬ x ≤ b := by rw [Int32.lt_iff_toInt_lt, Int32.le_iff_toInt_le]; omega
  refine ⟨fun c => ?_, fun c => ⟨fun c2 => ?_, fun c2 => ?_⟩⟩
  · rw [show decide (a ≤ x ∧ x ≤ b) = false by simp [e1.mp c]] at h; exact h
  · rw [show decide (a ≤ x ∧ x ≤ b) = false by simp [e2.mp c2]] at h; exact h
  · have c3 : a ≤ x := Classical.byContradiction fun q => c (e1.mpr q)
    have c4 : x ≤ b := Classical.byContradiction fun q => c2 (e2.mpr q)
    rw [show decide (a ≤ x ∧ x ≤ b) = true by simp [c3, c4]] at h; exact h
theorem M_two {a b : Nat} (h : post (nI (12 * a + b)) v) : wp_X10_two (nI a) (nI b) v post := by
  unfold wp_X10_two; rw [i12]; exact h
theorem M_cell {d p b : Nat} (h : post (nI (96 * d + 4 * p + b)) v) : wp_X10_cell (nI d) (nI p) (nI b) v post := by
  unfold wp_X10_cell; rw [i96]; exact h
theorem M_isNear {a b : Nat} (ha : a < 12) (hb : b < 12) (h : post (bI (nr v a b)) v) : wp_X10_isNear (nI a) (nI b) v post := by
  unfold wp_X10_isNear wp_X10_two
  rw [i12, i12]
  refine ⟨_, by omega, rfl, fun c => ?_, fun c => ⟨_, ha, rfl, fun c1 => ?_, fun c1 => ⟨_, hb, rfl, fun c2 => ?_, fun c2 => ⟨_, by omega, rfl, fun c3 => ?_, fun c3 => ⟨_, by omega, rfl, fun c4 => ?_, fun c4 => ?_⟩⟩⟩⟩⟩ <;> simp_all [nr, mt, hr, bn, bI]
theorem M_tells {a p : Nat} (ha : a < 12) (hp : p < 24) (h : post (bI (tl v a p)) v) : wp_X10_tells (nI a) (nI p) v post := by
  unfold wp_X10_tells
  rw [i24, show (2 : Int32) = nI 2 from rfl, pk_rem (by omega) (by omega) (by omega)]
  have e : nI (p % 2) = 0 ↔ p % 2 = 0 := nI_eq (b := 0) (by omega) (by omega)
  refine ⟨_, by omega, rfl, fun c => ?_, fun c => ⟨_, ha, rfl, fun c2 => ?_, fun c2 => ⟨by decide, fun c3 => ?_, fun c3 => ?_⟩⟩⟩
  · simp_all [tl, hs, bI]
  · simp_all [tl, hs, bI]
  · rw [e] at c3; simp_all [tl, hs, bI]
  · rw [e] at c3; simp_all [tl, hs, bI]
theorem M_wants_L {a b : Nat} (ha : a < 12) (hb : b < 12) (hN : v 24 0 1 = nI N) (hN2 : N ≤ 24) (h : post (bI (an (fun p => tl v a p && !hs v b p) N)) v) : ∀ (n i f : Nat), i + n = N → n < f → (∀ k, k < i → (tl v a k && !hs v b k) = false) → wL_X10_wants_13 post f (nI b) (nI a) (nI i) v
  | n, i, 0, _, hf, _ => absurd hf (by omega)
  | n, i, f + 1, e, hf, q => by
    show wB_X10_wants_13 post _ (nI b) (nI a) (nI i) v
    unfold wB_X10_wants_13
    rw [hN]
    refine le2 (by omega) (by omega) (fun c => ?_) (fun c => ?_)
    · rw [show an (fun p => tl v a p && !hs v b p) N = false from an_f.mpr (fun k hk => q k (by omega))] at h; exact h
    · have nx : (tl v a i && !hs v b i) = false → wL_X10_wants_13 post f (nI b) (nI a) (nI i + 1) v := fun z => by
        rw [nI_1]
        exact M_wants_L ha hb hN hN2 h (n - 1) (i + 1) f (by omega) (by omega) (fun k hk => by
          rcases Nat.lt_or_ge k i with w | w
          · exact q k w
          · rw [show k = i by omega]; exact z)
      refine M_tells ha (by omega) (bI_if (fun z => nx (by simp [z])) (fun z => ?_))
      rw [i24]
      refine ⟨_, by omega, rfl, fun c2 => nx (by simp [hs, c2]), fun c2 => ?_⟩
      rw [show an (fun p => tl v a p && !hs v b p) N = true from an_t.mpr ⟨i, c, by simp [z, hs, c2]⟩] at h; exact h
theorem M_wants {a b : Nat} (ha : a < 12) (hb : b < 12) (hz : Sz N K P v) (h : post (bI (wn N v b a)) v) : wp_X10_wants (nI b) (nI a) v post := by
  unfold wp_X10_wants
  obtain ⟨h1, h2, h3, h4, h5, h6, h7, h8⟩ := hz
  refine M_isNear ha hb (bI_fi (fun c => ?_) (fun c => ?_))
  · rw [show (0 : Int32) = nI 0 from rfl]
    refine M_wants_L ha hb h1 h5 ?_ N 0 FU (by omega) (fu N (by omega)) (fun k hk => absurd hk (by omega))
    rw [show wn N v b a = an (fun p => tl v a p && !hs v b p) N by simp [wn, c]] at h
    exact h
  · rw [show wn N v b a = false by simp [wn, c]] at h
    exact h
theorem acc0 {p : Nat → Bool} {i : Nat} (h : p i = false) : nI (ct p i) + (0 : Int32) = nI (ct p (i + 1)) := by
  rw [ct_succ, h, show (0 : Int32) = nI 0 from rfl, nI_add]; rfl
theorem acc1 {p : Nat → Bool} {i : Nat} (h : p i = true) : nI (ct p i) + (1 : Int32) = nI (ct p (i + 1)) := by
  rw [ct_succ, h, show (1 : Int32) = nI 1 from rfl, nI_add]; rfl
theorem M_hasMany_L {d : Nat} (hd : d < 12) (hN : v 24 0 1 = nI N) (hN2 : N ≤ 24) (h : post (nI (hm N v d)) v) : ∀ (n i f : Nat), i + n = N → n < f → wL_X10_hasMany_4 post f (nI d) (nI (ct (hs v d) i)) (nI i) v
  | n, i, 0, _, hf => absurd hf (by omega)
  | n, i, f + 1, e, hf => by
    show wB_X10_hasMany_4 post _ (nI d) (nI (ct (hs v d) i)) (nI i) v
    unfold wB_X10_hasMany_4
    rw [hN, i24, nI_1]
    refine le2 (by omega) (by omega) (fun c => ?_) (fun c => ⟨_, by omega, rfl, fun c2 => ?_, fun c2 => ?_⟩)
    · rw [show i = N by omega]; exact h
    · rw [acc0 (by simp [hs, c2])]; exact M_hasMany_L hd hN hN2 h (n - 1) (i + 1) f (by omega) (by omega)
    · rw [acc1 (by simp [hs, c2])]; exact M_hasMany_L hd hN hN2 h (n - 1) (i + 1) f (by omega) (by omega)
theorem M_hasMany {d : Nat} (hd : d < 12) (hz : Sz N K P v) (h : post (nI (hm N v d)) v) : wp_X10_hasMany (nI d) v post := by
  obtain ⟨h1, h2, h3, h4, h5, h6, h7, h8⟩ := hz
  exact M_hasMany_L hd h1 h5 h N 0 FU (by omega) (fu N (by omega))
theorem M_isDone {d : Nat} (hd : d < 12) (hz : Sz N K P v) (h : post (bI (dn N v d)) v) : wp_X10_isDone (nI d) v post := by
  unfold wp_X10_isDone
  have hz0 := hz
  obtain ⟨h1, h2, h3, h4, h5, h6, h7, h8⟩ := hz
  have hle := ct_le (hs v d) N
  refine M_hasMany hd hz0 ?_
  rw [h1]
  refine ne2 (by unfold hm; omega) (by omega) (fun c => ?_) (fun c => ?_)
  · rw [show dn N v d = false by simp [dn, c]] at h; exact h
  · rw [show dn N v d = true by simp [dn, c]] at h; exact h
theorem M_heldMany_L {d p : Nat} (hd0 : d < 12) (hp : p < 24) (hK : v 24 0 2 = nI K) (hK2 : K ≤ 4) (h : post (nI (hd K v d p)) v) : ∀ (n i f : Nat), i + n = K → n < f → wL_X10_heldMany_5 post f (nI d) (nI p) (nI (ct (hl v d p) i)) (nI i) v
  | n, i, 0, _, hf => absurd hf (by omega)
  | n, i, f + 1, e, hf => by
    show wB_X10_heldMany_5 post _ (nI d) (nI p) (nI (ct (hl v d p) i)) (nI i) v
    unfold wB_X10_heldMany_5 wp_X10_cell
    rw [hK, i96, nI_1]
    refine le2 (by omega) (by omega) (fun c => ?_) (fun c => ⟨_, by omega, rfl, fun c2 => ?_, fun c2 => ?_⟩)
    · rw [show i = K by omega]; exact h
    · rw [acc0 (by simp [hl, c2])]; exact M_heldMany_L hd0 hp hK hK2 h (n - 1) (i + 1) f (by omega) (by omega)
    · rw [acc1 (by simp [hl, c2])]; exact M_heldMany_L hd0 hp hK hK2 h (n - 1) (i + 1) f (by omega) (by omega)
theorem M_heldMany {d p : Nat} (hd0 : d < 12) (hp : p < 24) (hz : Sz N K P v) (h : post (nI (hd K v d p)) v) : wp_X10_heldMany (nI d) (nI p) v post := by
  obtain ⟨h1, h2, h3, h4, h5, h6, h7, h8⟩ := hz
  exact M_heldMany_L hd0 hp h2 h7 h K 0 FU (by omega) (fu K (by omega))
theorem M_coming_L {L d p b : Nat} (hL : v 24 0 34 = nI L) (hL2 : L ≤ 400) (h : post (nI (cm L v d p b)) v) : ∀ (n i f : Nat), i + n = L → n < f → wL_X10_coming_6 post f (nI d) (nI p) (nI b) (nI (ct (fun k => decide (v 65 0 k = nI d ∧ v 67 0 k = nI p ∧ v 68 0 k = nI b)) i)) (nI i) v
  | n, i, 0, _, hf => absurd hf (by omega)
  | n, i, f + 1, e, hf => by
    show wB_X10_coming_6 post _ (nI d) (nI p) (nI b) _ (nI i) v
    unfold wB_X10_coming_6
    rw [hL, nI_1]
    refine le2 (by omega) (by omega) (fun c => ?_) (fun c => ⟨i, by omega, rfl, fun c2 => ?_, fun c2 => ⟨fun c3 => ?_, fun c3 => ⟨fun c4 => ?_, fun c4 => ?_⟩⟩⟩)
    · rw [show i = L by omega]; exact h
    · rw [acc0 (by simp [c2])]; exact M_coming_L hL hL2 h (n - 1) (i + 1) f (by omega) (by omega)
    · rw [acc0 (by simp [c3])]; exact M_coming_L hL hL2 h (n - 1) (i + 1) f (by omega) (by omega)
    · rw [acc0 (by simp [c4])]; exact M_coming_L hL hL2 h (n - 1) (i + 1) f (by omega) (by omega)
    · rw [acc1 (by simp [c2, c3, c4])]; exact M_coming_L hL hL2 h (n - 1) (i + 1) f (by omega) (by omega)
theorem M_coming {L d p b : Nat} (hL : v 24 0 34 = nI L) (hL2 : L ≤ 400) (h : post (nI (cm L v d p b)) v) : wp_X10_coming (nI d) (nI p) (nI b) v post :=
  M_coming_L hL hL2 h L 0 FU (by omega) (fu L (by omega))
theorem M_late {a b : Nat} (ha : a < 12) (hb : b < 12) (hz : Sz N K P v) (h : post (lt N v a b) v) : wp_X10_late (nI a) (nI b) v post := by
  unfold wp_X10_late wp_X10_two
  refine M_isDone ha hz (bI_if (fun c => ?_) (fun c => ?_))
  · rw [i12]
    refine ⟨_, by omega, rfl, ?_⟩
    rw [show lt N v a b = v 61 0 (12 * a + b) by simp [lt, c]] at h; exact h
  · rw [i12]
    refine ⟨_, by omega, rfl, ?_⟩
    rw [show lt N v a b = v 60 0 (12 * a + b) by simp [lt, c]] at h; exact h
def gv (m : St3) (g d : Nat) : Bool := decide (¬ g = d) && nr m g d && op m g d && decide (¬ m 73 0 g ≤ 0)
theorem M_isGiver {g d : Nat} (hg : g < 12) (hd0 : d < 12) (h : post (bI (gv v g d)) v) : wp_X10_isGiver (nI g) (nI d) v post := by
  unfold wp_X10_isGiver wp_X10_two
  refine eq2 (by omega) (by omega) (fun c => ?_) (fun c => ?_)
  · rw [show gv v g d = false by simp [gv, c]] at h; exact h
  · refine M_isNear hg hd0 (bI_if (fun c2 => ?_) (fun c2 => ?_))
    · rw [show gv v g d = false by simp [gv, c2]] at h; exact h
    · rw [i12]
      refine ⟨_, by omega, rfl, fun c3 => ?_, fun c3 => ⟨_, hg, rfl, fun c4 => ?_, fun c4 => ?_⟩⟩
      · rw [show gv v g d = false by simp [gv, op, c3]] at h; exact h
      · rw [show gv v g d = false by simp [gv, c4]] at h; exact h
      · rw [show gv v g d = true by simp [gv, op, c, c2, c3, c4]] at h; exact h
/-- who may send piece p to d: only that one, but not that one -/
def gok (m : St3) (d p : Nat) (only but : Option Nat) (g : Nat) : Bool := gv m g d && tl m g p && oN only (fun o => decide (g = o)) && oN but (fun o => decide (¬ g = o))
def ggt (m : St3) (g c : Nat) : Bool := decide (¬ m 73 0 g ≤ m 73 0 c)
def gvr (P : Nat) (m : St3) (d p : Nat) (only but : Option Nat) : Option Nat := pick (gok m d p only but) (ggt m) none 0 P
end MREAD
