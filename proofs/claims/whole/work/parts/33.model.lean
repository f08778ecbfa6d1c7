/-! the rest of what the reference's reading methods answer -/
section MREAD3
variable {N K P : Nat} {v : St3} {post : Int32 → St3 → Prop}
/-- from whom a marked piece must come -/
def rd1 (L : Nat) (m : St3) (d p : Nat) : Option Nat := fst (fun k => decide (m 65 0 k = nI d ∧ m 67 0 k = nI p)) 0 L
def bd (K L : Nat) (m : St3) (d p : Nat) : Int32 := if mk m d p then (match fst (hl m d p) 0 K with | some b => fr m d p b | none => (match rd1 L m d p with | some k => m 66 0 k | none => -1)) else -1
theorem M_bound_65 {L d p : Nat} {x : Int32} (hL : v 24 0 34 = nI L) (hL2 : L ≤ 400) (h : post x v) (hx : x = (match rd1 L v d p with | some k => v 66 0 k | none => -1)) : ∀ (n i f : Nat), i + n = L → n < f → fst (fun k => decide (v 65 0 k = nI d ∧ v 67 0 k = nI p)) i n = rd1 L v d p → wL_X10_bound_65 post f (nI d) (nI p) (nI i) v
  | n, i, 0, _, hf, _ => absurd hf (by omega)
  | n, i, f + 1, e, hf, hq => by
    show wB_X10_bound_65 post _ (nI d) (nI p) (nI i) v
    unfold wB_X10_bound_65
    rw [hL]
    refine le2 (by omega) (by omega) (fun c => ?_) (fun c => ?_)
    · have : n = 0 := by omega
      subst this
      rw [← hq] at hx
      rw [show (-1 : Int32) = x from hx.symm]; exact h
    · obtain ⟨n, rfl⟩ : ∃ k, n = k + 1 := ⟨n - 1, by omega⟩
      have stop : ¬ (v 65 0 i = nI d ∧ v 67 0 i = nI p) → wL_X10_bound_65 post f (nI d) (nI p) (nI i + 1) v := fun z => by
        rw [nI_1]
        exact M_bound_65 hL hL2 h hx n (i + 1) f (by omega) (by omega) (by rw [← hq, fst_s]; simp [z])
      refine ⟨i, by omega, rfl, fun c2 => stop (fun q => c2 q.1), fun c2 => ⟨fun c3 => stop (fun q => c3 q.2), fun c3 => ?_⟩⟩
      rw [fst_s] at hq
      simp only [c2, c3, and_self, decide_true, if_true] at hq
      rw [← hq] at hx
      rw [show v 66 0 i = x from hx.symm]; exact h
theorem M_bound_19 {L d p : Nat} {x : Int32} (hd0 : d < 12) (hp : p < 24) (hK : v 24 0 2 = nI K) (hK2 : K ≤ 4) (hL : v 24 0 34 = nI L) (hL2 : L ≤ 400) (h : post x v) (hx : x = (match fst (hl v d p) 0 K with | some b => fr v d p b | none => (match rd1 L v d p with | some k => v 66 0 k | none => -1))) : ∀ (n i f : Nat), i + n = K → n < f → fst (hl v d p) i n = fst (hl v d p) 0 K → wL_X10_bound_19 post f (nI d) (nI p) (nI i) v
  | n, i, 0, _, hf, _ => absurd hf (by omega)
  | n, i, f + 1, e, hf, hq => by
    show wB_X10_bound_19 post _ (nI d) (nI p) (nI i) v
    unfold wB_X10_bound_19 wp_X10_cell
    rw [hK, i96]
    refine le2 (by omega) (by omega) (fun c => ?_) (fun c => ?_)
    · have : n = 0 := by omega
      subst this
      rw [← hq] at hx
      exact M_bound_65 hL hL2 h hx L 0 FU (by omega) (fu L (by omega)) rfl
    · obtain ⟨n, rfl⟩ : ∃ k, n = k + 1 := ⟨n - 1, by omega⟩
      refine ⟨_, by omega, rfl, fun c2 => ?_, fun c2 => ⟨_, by omega, rfl, ?_⟩⟩
      · rw [nI_1]
        exact M_bound_19 hd0 hp hK hK2 hL hL2 h hx n (i + 1) f (by omega) (by omega) (by rw [← hq, fst_s]; simp [hl, c2])
      · rw [fst_s] at hq
        simp only [hl, c2, not_false_eq_true, decide_true, if_true] at hq
        rw [← hq] at hx
        rw [show v 54 0 (96 * d + 4 * p + i) = x from hx.symm]; exact h
theorem M_bound {L d p : Nat} {z : Int32} (hd0 : d < 12) (hp : p < 24) (hz : Sz N K P v) (hL : v 24 0 34 = nI L) (hL2 : L ≤ 400) (h : post (bd K L v d p) v) : wp_X10_bound (nI d) (nI p) z v post := by
  obtain ⟨h1, h2, h3, h4, h5, h6, h7, h8⟩ := hz
  unfold wp_X10_bound
  rw [i24]
  refine ⟨_, by omega, rfl, fun c => ?_, fun c => ?_⟩
  · exact M_bound_19 hd0 hp h2 h7 hL hL2 h (by simp [bd, mk, c]) K 0 FU (by omega) (fu K (by omega)) rfl
  · rw [show bd K L v d p = -1 by simp [bd, mk, c]] at h; exact h
theorem M_senderOf_L {L d p b k : Nat} (hL2 : L ≤ 400) (hk : fst (fun k => decide (v 65 0 k = nI d ∧ v 67 0 k = nI p ∧ v 68 0 k = nI b)) 0 L = some k) (h : post (v 66 0 k) v) : ∀ (n i f : Nat), i + n = L → n < f → fst (fun k => decide (v 65 0 k = nI d ∧ v 67 0 k = nI p ∧ v 68 0 k = nI b)) i n = some k → wL_X10_senderOf_3 post f (nI d) (nI p) (nI b) (nI i) v
  | n, i, 0, _, hf, _ => absurd hf (by omega)
  | 0, i, f + 1, _, _, hq => by simp [fst] at hq
  | n + 1, i, f + 1, e, hf, hq => by
    show wB_X10_senderOf_3 post _ (nI d) (nI p) (nI b) (nI i) v
    unfold wB_X10_senderOf_3
    have stop : ¬ (v 65 0 i = nI d ∧ v 67 0 i = nI p ∧ v 68 0 i = nI b) → wL_X10_senderOf_3 post f (nI d) (nI p) (nI b) (nI i + 1) v := fun z => by
      rw [nI_1]
      exact M_senderOf_L hL2 hk h n (i + 1) f (by omega) (by omega) (by rw [← hq, fst_s]; simp [z])
    refine ⟨i, by omega, rfl, fun c => stop (fun q => c q.1), fun c => ⟨fun c2 => stop (fun q => c2 q.2.1), fun c2 => ⟨fun c3 => ?_, fun c3 => stop (fun q => c3 q.2.2)⟩⟩⟩
    rw [fst_s] at hq
    simp only [c, c2, c3, and_self, decide_true, if_true] at hq
    cases hq
    exact h
theorem M_senderOf {L d p b k : Nat} (hL2 : L ≤ 400) (hk : fst (fun k => decide (v 65 0 k = nI d ∧ v 67 0 k = nI p ∧ v 68 0 k = nI b)) 0 L = some k) (h : post (v 66 0 k) v) : wp_X10_senderOf (nI d) (nI p) (nI b) v post :=
  M_senderOf_L hL2 hk h L 0 FU (by omega) (fu L (by omega)) hk
/-- a sum over the first n -/
def su (g : Nat → Nat) : Nat → Nat
  | 0 => 0
  | n + 1 => su g n + g n
theorem su_s (g : Nat → Nat) (n : Nat) : su g (n + 1) = su g n + g n := rfl
theorem su_cong {f g : Nat → Nat} : ∀ {n : Nat}, (∀ k, k < n → f k = g k) → su f n = su g n
  | 0, _ => rfl
  | n + 1, h => by rw [su_s, su_s, su_cong (fun k hk => h k (by omega)), h n (by omega)]
theorem su_le {g : Nat → Nat} {c : Nat} : ∀ {n : Nat}, (∀ k, k < n → g k ≤ c) → su g n ≤ n * c
  | 0, _ => by simp [su]
  | n + 1, h => by
    have h1 := su_le (n := n) (fun k hk => h k (by omega))
    have h2 := h n (by omega)
    rw [su_s, Nat.succ_mul]; omega
def hh (N K : Nat) (m : St3) (d : Nat) : Nat := su (fun p => if hs m d p then 0 else hd K m d p) N
theorem M_holdsMany_L {d : Nat} (hd0 : d < 12) (hz : Sz N K P v) (h : post (nI (hh N K v d)) v) : ∀ (n i f : Nat), i + n = N → n < f → wL_X10_holdsMany_4 post f (nI d) (nI (su (fun p => if hs v d p then 0 else hd K v d p) i)) (nI i) v
  | n, i, 0, _, hf => absurd hf (by omega)
  | n, i, f + 1, e, hf => by
    have hz0 := hz
    obtain ⟨h1, h2, h3, h4, h5, h6, h7, h8⟩ := hz
    show wB_X10_holdsMany_4 post _ (nI d) _ (nI i) v
    unfold wB_X10_holdsMany_4
    rw [h1, i24, nI_1]
    have nx := M_holdsMany_L hd0 hz0 h (n - 1) (i + 1) f
    refine le2 (by omega) (by omega) (fun c => ?_) (fun c => ⟨_, by omega, rfl, fun c2 => ?_, fun c2 => ?_⟩)
    · rw [show i = N by omega]; exact h
    · refine M_heldMany hd0 (by omega) hz0 ?_
      rw [nI_add]
      rw [su_s, show hs v d i = false by simp [hs, c2]] at nx
      exact nx (by omega) (by omega)
    · rw [show (0 : Int32) = nI 0 from rfl, nI_add]
      rw [su_s, show hs v d i = true by simp [hs, c2]] at nx
      exact nx (by omega) (by omega)
theorem M_holdsMany {d : Nat} (hd0 : d < 12) (hz : Sz N K P v) (h : post (nI (hh N K v d)) v) : wp_X10_holdsMany (nI d) v post :=
  M_holdsMany_L hd0 hz h N 0 FU (by omega) (fu N (by have := hz.2.2.2.2.1; omega))
theorem M_c51_L {s m : Nat} (hs : s + m ≤ 288) (h : post (nI (ct (fun k => decide (¬ v 51 0 (s + k) = 0)) m)) v) : ∀ (n i f : Nat), i + n = m → n < f → wL_X10_count_51_6 post f (nI s) (nI m) (nI (ct (fun k => decide (¬ v 51 0 (s + k) = 0)) i)) (nI i) v
  | n, i, 0, _, hf => absurd hf (by omega)
  | n, i, f + 1, e, hf => by
    show wB_X10_count_51_6 post _ (nI s) (nI m) _ (nI i) v
    unfold wB_X10_count_51_6
    rw [nI_add, nI_1]
    refine le2 (by omega) (by omega) (fun c => ?_) (fun c => ⟨_, by omega, rfl, fun c2 => ?_, fun c2 => ?_⟩)
    · rw [show i = m by omega]; exact h
    · rw [acc0 (by simp [c2])]; exact M_c51_L hs h (n - 1) (i + 1) f (by omega) (by omega)
    · rw [acc1 (by simp [c2])]; exact M_c51_L hs h (n - 1) (i + 1) f (by omega) (by omega)
theorem M_c57_L {s m : Nat} (hs : s + m ≤ 144) (h : post (nI (ct (fun k => decide (¬ v 57 0 (s + k) = 0)) m)) v) : ∀ (n i f : Nat), i + n = m → n < f → wL_X10_count_57_6 post f (nI s) (nI m) (nI (ct (fun k => decide (¬ v 57 0 (s + k) = 0)) i)) (nI i) v
  | n, i, 0, _, hf => absurd hf (by omega)
  | n, i, f + 1, e, hf => by
    show wB_X10_count_57_6 post _ (nI s) (nI m) _ (nI i) v
    unfold wB_X10_count_57_6
    rw [nI_add, nI_1]
    refine le2 (by omega) (by omega) (fun c => ?_) (fun c => ⟨_, by omega, rfl, fun c2 => ?_, fun c2 => ?_⟩)
    · rw [show i = m by omega]; exact h
    · rw [acc0 (by simp [c2])]; exact M_c57_L hs h (n - 1) (i + 1) f (by omega) (by omega)
    · rw [acc1 (by simp [c2])]; exact M_c57_L hs h (n - 1) (i + 1) f (by omega) (by omega)
theorem M_c55_L {s m : Nat} (hs : s + m ≤ 144) (h : post (nI (ct (fun k => decide (¬ v 55 0 (s + k) = 0)) m)) v) : ∀ (n i f : Nat), i + n = m → n < f → wL_X10_count_55_6 post f (nI s) (nI m) (nI (ct (fun k => decide (¬ v 55 0 (s + k) = 0)) i)) (nI i) v
  | n, i, 0, _, hf => absurd hf (by omega)
  | n, i, f + 1, e, hf => by
    show wB_X10_count_55_6 post _ (nI s) (nI m) _ (nI i) v
    unfold wB_X10_count_55_6
    rw [nI_add, nI_1]
    refine le2 (by omega) (by omega) (fun c => ?_) (fun c => ⟨_, by omega, rfl, fun c2 => ?_, fun c2 => ?_⟩)
    · rw [show i = m by omega]; exact h
    · rw [acc0 (by simp [c2])]; exact M_c55_L hs h (n - 1) (i + 1) f (by omega) (by omega)
    · rw [acc1 (by simp [c2])]; exact M_c55_L hs h (n - 1) (i + 1) f (by omega) (by omega)
theorem M_c43_L {s m : Nat} (hs : s + m ≤ 12) (h : post (nI (ct (fun k => decide (¬ v 43 0 (s + k) = 0)) m)) v) : ∀ (n i f : Nat), i + n = m → n < f → wL_X10_count_43_6 post f (nI s) (nI m) (nI (ct (fun k => decide (¬ v 43 0 (s + k) = 0)) i)) (nI i) v
  | n, i, 0, _, hf => absurd hf (by omega)
  | n, i, f + 1, e, hf => by
    show wB_X10_count_43_6 post _ (nI s) (nI m) _ (nI i) v
    unfold wB_X10_count_43_6
    rw [nI_add, nI_1]
    refine le2 (by omega) (by omega) (fun c => ?_) (fun c => ⟨_, by omega, rfl, fun c2 => ?_, fun c2 => ?_⟩)
    · rw [show i = m by omega]; exact h
    · rw [acc0 (by simp [c2])]; exact M_c43_L hs h (n - 1) (i + 1) f (by omega) (by omega)
    · rw [acc1 (by simp [c2])]; exact M_c43_L hs h (n - 1) (i + 1) f (by omega) (by omega)
def ca (L : Nat) (m : St3) (d : Nat) : Nat := ct (fun k => decide (m 65 0 k = nI d)) L
theorem M_comingTo_L {L d : Nat} (hL : v 24 0 34 = nI L) (hL2 : L ≤ 400) (h : post (nI (ca L v d)) v) : ∀ (n i f : Nat), i + n = L → n < f → wL_X10_comingTo_4 post f (nI d) (nI (ct (fun k => decide (v 65 0 k = nI d)) i)) (nI i) v
  | n, i, 0, _, hf => absurd hf (by omega)
  | n, i, f + 1, e, hf => by
    show wB_X10_comingTo_4 post _ (nI d) _ (nI i) v
    unfold wB_X10_comingTo_4
    rw [hL, nI_1]
    refine le2 (by omega) (by omega) (fun c => ?_) (fun c => ⟨i, by omega, rfl, fun c2 => ?_, fun c2 => ?_⟩)
    · rw [show i = L by omega]; exact h
    · rw [acc0 (by simp [c2])]; exact M_comingTo_L hL hL2 h (n - 1) (i + 1) f (by omega) (by omega)
    · rw [acc1 (by simp [c2])]; exact M_comingTo_L hL hL2 h (n - 1) (i + 1) f (by omega) (by omega)
theorem M_comingTo {L d : Nat} (hL : v 24 0 34 = nI L) (hL2 : L ≤ 400) (h : post (nI (ca L v d)) v) : wp_X10_comingTo (nI d) v post :=
  M_comingTo_L hL hL2 h L 0 FU (by omega) (fu L (by omega))
def ot (m : St3) (a b : Nat) : Bool := decide (¬ a = b) && op m a b && nr m a b
theorem M_isOpenTo {a b : Nat} (ha : a < 12) (hb : b < 12) (h : post (bI (ot v a b)) v) : wp_X10_isOpenTo (nI a) (nI b) v post := by
  unfold wp_X10_isOpenTo wp_X10_two
  refine eq2 (by omega) (by omega) (fun c => ?_) (fun c => ?_)
  · rw [show ot v a b = false by simp [ot, c]] at h; exact h
  · rw [i12]
    refine ⟨_, by omega, rfl, fun c2 => ?_, fun c2 => M_isNear ha hb (bI_if (fun c3 => ?_) (fun c3 => ?_))⟩
    · rw [show ot v a b = false by simp [ot, op, c2]] at h; exact h
    · rw [show ot v a b = false by simp [ot, c3]] at h; exact h
    · rw [show ot v a b = true by simp [ot, op, c, c2, c3]] at h; exact h
theorem M_openTo_L {a : Nat} (ha : a < 12) (hP : v 24 0 4 = nI P) (hP2 : P ≤ 12) (h : post (nI (ct (ot v a) P)) v) : ∀ (n i f : Nat), i + n = P → n < f → wL_X10_openTo_4 post f (nI a) (nI (ct (ot v a) i)) (nI i) v
  | n, i, 0, _, hf => absurd hf (by omega)
  | n, i, f + 1, e, hf => by
    show wB_X10_openTo_4 post _ (nI a) _ (nI i) v
    unfold wB_X10_openTo_4
    rw [hP, nI_1]
    refine le2 (by omega) (by omega) (fun c => ?_) (fun c => M_isOpenTo ha (by omega) (bI_if (fun c2 => ?_) (fun c2 => ?_)))
    · rw [show i = P by omega]; exact h
    · rw [acc0 c2]; exact M_openTo_L ha hP hP2 h (n - 1) (i + 1) f (by omega) (by omega)
    · rw [acc1 c2]; exact M_openTo_L ha hP hP2 h (n - 1) (i + 1) f (by omega) (by omega)
def ow (P : Nat) (m : St3) (p : Nat) (but : Option Nat) : Nat := ct (fun d => oN but (fun o => decide (¬ d = o)) && hr m d && hs m d p) P
theorem M_owners_L {p : Nat} {but : Option Nat} (hp : p < 24) (hu : ∀ n, but = some n → n < 12) (hP : v 24 0 4 = nI P) (hP2 : P ≤ 12) (h : post (nI (ow P v p but)) v) : ∀ (n i f : Nat), i + n = P → n < f → wL_X10_owners_5 post f (nI p) (eI but) (nI (ct (fun d => oN but (fun o => decide (¬ d = o)) && hr v d && hs v d p) i)) (nI i) v
  | n, i, 0, _, hf => absurd hf (by omega)
  | n, i, f + 1, e, hf => by
    show wB_X10_owners_5 post _ (nI p) (eI but) _ (nI i) v
    unfold wB_X10_owners_5
    rw [hP, i24, nI_1]
    have k2 : oN but (fun o => decide (¬ i = o)) = true ↔ ¬ nI i = eI but := by
      cases but with
      | none => simp [oN, eI, nI_m1 (show i < 2 ^ 31 by omega)]
      | some o =>
        have ho := hu o rfl
        simp only [eI, oN, decide_eq_true_eq]
        rw [nI_eq (by omega) (by omega)]
    have nx := M_owners_L hp hu hP hP2 h (n - 1) (i + 1) f
    refine le2 (by omega) (by omega) (fun c => ?_) (fun c => ⟨fun c2 => ?_, fun c2 => ⟨i, by omega, rfl, fun c3 => ?_, fun c3 => ⟨_, by omega, rfl, fun c4 => ?_, fun c4 => ?_⟩⟩⟩)
    · rw [show i = P by omega]; exact h
    · rw [acc0 (by
        have : oN but (fun o => decide (¬ i = o)) = false := by rw [← Bool.not_eq_true]; intro q; exact k2.mp q c2
        show (oN but (fun o => decide (¬ i = o)) && hr v i && hs v i p) = false
        rw [this]; rfl)]; exact nx (by omega) (by omega)
    · rw [acc0 (by simp [hr, c3])]; exact nx (by omega) (by omega)
    · rw [acc0 (by simp [hs, c4])]; exact nx (by omega) (by omega)
    · rw [acc1 (by rw [k2.mpr c2]; simp [hr, hs, c3, c4])]; exact nx (by omega) (by omega)
theorem M_owners {p : Nat} {but : Option Nat} (hp : p < 24) (hu : ∀ n, but = some n → n < 12) (hz : Sz N K P v) (h : post (nI (ow P v p but)) v) : wp_X10_owners (nI p) (eI but) v post := by
  obtain ⟨h1, h2, h3, h4, h5, h6, h7, h8⟩ := hz
  exact M_owners_L hp hu h3 h8 h P 0 FU (by omega) (fu P (by omega))
theorem M_valueOf {x y : Int32} (h : post (vl (v 24 0 3) x y) v) : wp_X10_valueOf x y v post := by
  unfold wp_X10_valueOf
  intro z e
  subst e
  exact h
theorem M_sumOf_L {x : Int32} (hK : v 24 0 2 = nI K) (hK2 : K ≤ 4) (h : post (sm (v 24 0 3) x 0 0 K) v) : ∀ (n i f : Nat) (s : Int32), i + n = K → n < f → sm (v 24 0 3) x s i n = sm (v 24 0 3) x 0 0 K → wL_X10_sumOf_4 post f x s (nI i) v
  | n, i, 0, s, _, hf, _ => absurd hf (by omega)
  | n, i, f + 1, s, e, hf, hq => by
    show wB_X10_sumOf_4 post _ x s (nI i) v
    unfold wB_X10_sumOf_4
    rw [hK, nI_1]
    refine le2 (by omega) (by omega) (fun c => ?_) (fun c => M_valueOf ?_)
    · have : n = 0 := by omega
      subst this
      rw [← hq] at h; exact h
    · obtain ⟨n, rfl⟩ : ∃ k, n = k + 1 := ⟨n - 1, by omega⟩
      exact M_sumOf_L hK hK2 h n (i + 1) f _ (by omega) (by omega) (by rw [← hq]; rfl)
theorem M_sumOf {x : Int32} (hz : Sz N K P v) (h : post (sm (v 24 0 3) x 0 0 K) v) : wp_X10_sumOf x v post := by
  obtain ⟨h1, h2, h3, h4, h5, h6, h7, h8⟩ := hz
  exact M_sumOf_L h2 h7 h K 0 FU 0 (by omega) (fu K (by omega)) rfl
theorem in_below {x : Int32} {n : Nat} (hn : n < 2 ^ 31) : (0 ≤ x ∧ x ≤ nI n - 1) ↔ (∃ j : Nat, j < n ∧ x = nI j) ∨ (n = 0 ∧ 0 ≤ x ∧ x ≤ nI n - 1) := by
  constructor
  · intro ⟨h1, h2⟩
    rcases Nat.eq_zero_or_pos n with q | q
    · exact Or.inr ⟨q, h1, h2⟩
    · rw [n1m q] at h2
      obtain ⟨j, hj, rfl⟩ := nI_of (x := x) (by rw [Int32.lt_iff_toInt_lt]; rw [Int32.le_iff_toInt_le] at h1; omega)
      rw [nI_leI hj (by omega)] at h2
      exact Or.inl ⟨j, by omega, rfl⟩
  · intro h
    rcases h with ⟨j, hj, rfl⟩ | ⟨_, h⟩
    · rw [n1m (by omega)]
      exact ⟨nI_pos' (by omega), nI_le (by omega) (by omega)⟩
    · exact h
/-- is x one of the first n numbers -/
def ib (n : Nat) (x : Int32) : Bool := decide (0 ≤ x.toInt ∧ x.toInt < n)
theorem ib_t {n : Nat} {x : Int32} (hn : n < 2 ^ 31) : ib n x = true ↔ ∃ j : Nat, j < n ∧ x = nI j := by
  unfold ib
  rw [decide_eq_true_eq]
  constructor
  · intro ⟨h1, h2⟩
    obtain ⟨j, hj, rfl⟩ := nI_of (x := x) (by rw [Int32.lt_iff_toInt_lt, Int32.toInt_zero]; omega)
    rw [nI_toInt hj] at h2
    exact ⟨j, by omega, rfl⟩
  · rintro ⟨j, hj, rfl⟩
    rw [nI_toInt (by omega)]
    omega
theorem ib_in {n : Nat} {x : Int32} (hn : n < 2 ^ 31) : decide (0 ≤ x ∧ x ≤ nI n - 1) = ib n x := by
  unfold ib
  congr 1
  rw [Int32.le_iff_toInt_le, Int32.le_iff_toInt_le, Int32.toInt_zero]
  have e : (nI n - 1).toInt = (n : Int) - 1 := by
    rcases Nat.eq_zero_or_pos n with q | q
    · subst q; decide
    · rw [n1m q, nI_toInt (by omega)]; omega
  rw [e]
  apply propext
  constructor <;> intro h <;> omega
theorem M_isPeer {x : Int32} (hz : Sz N K P v) (h : post (bI (ib P x)) v) : wp_X10_isPeer x v post := by
  obtain ⟨h1, h2, h3, h4, h5, h6, h7, h8⟩ := hz
  unfold wp_X10_isPeer
  rw [h3]
  refine M_in ?_
  rw [ib_in (by omega)]
  exact ⟨bI_01 _, h⟩
theorem M_isBlock {x y : Int32} (hz : Sz N K P v) (h : post (bI (ib N x && ib K y)) v) : wp_X10_isBlock x y v post := by
  obtain ⟨h1, h2, h3, h4, h5, h6, h7, h8⟩ := hz
  unfold wp_X10_isBlock
  rw [h1]
  refine M_in ?_
  rw [ib_in (by omega)]
  refine bI_if (fun c => ?_) (fun c => M_in ?_)
  · rw [c] at h; exact h
  · rw [h2, ib_in (by omega)]
    refine bI_if (fun c2 => ?_) (fun c2 => ?_)
    · rw [c, c2] at h; exact h
    · rw [c, c2] at h; exact h
theorem M_isTwo {x y : Int32} (hz : Sz N K P v) (h : post (bI (ib P x && ib P y && decide (¬ x = y))) v) : wp_X10_isTwo x y v post := by
  unfold wp_X10_isTwo
  refine M_isPeer hz (bI_if (fun c => ?_) (fun c => M_isPeer hz (bI_if (fun c2 => ?_) (fun c2 => ⟨fun c3 => ?_, fun c3 => ?_⟩))))
  · rw [c] at h; exact h
  · rw [c, c2] at h; exact h
  · rw [c, c2, show decide (¬ x = y) = false by simp [c3]] at h; exact h
  · rw [c, c2, show decide (¬ x = y) = true by simp [c3]] at h; exact h
end MREAD3
