/-! more of what the reference's reading methods answer -/
theorem eI_m1 {o : Option Nat} (h : ∀ n, o = some n → n < 12) : eI o = -1 ↔ o = none := by
  cases o with
  | none => simp [eI]
  | some n => simp [eI, nI_m1 (Nat.lt_trans (h n rfl) (by decide))]
theorem pick_ok {ok : Nat → Bool} {gt : Nat → Nat → Bool} : ∀ {n i : Nat} {b : Option Nat} {c : Nat}, pick ok gt b i n = some c → b = some c ∨ (ok c = true ∧ i ≤ c ∧ c < i + n)
  | 0, i, b, c, h => Or.inl h
  | n + 1, i, b, c, h => by
    have h2 : pick ok gt (if ok i && oN b (gt i) then some i else b) (i + 1) n = some c := h
    rcases pick_ok h2 with q | ⟨q1, q2, q3⟩
    · split at q
      · rename_i z
        cases q
        simp only [Bool.and_eq_true] at z
        exact Or.inr ⟨z.1, by omega, by omega⟩
      · exact Or.inl q
    · exact Or.inr ⟨q1, by omega, by omega⟩
theorem pick_lt {ok : Nat → Bool} {gt : Nat → Nat → Bool} {n c : Nat} (h : pick ok gt none 0 n = some c) : c < n ∧ ok c = true := by
  rcases pick_ok h with q | ⟨q1, q2, q3⟩
  · cases q
  · exact ⟨by omega, q1⟩
section MREAD2
variable {N K P : Nat} {v : St3} {post : Int32 → St3 → Prop}
theorem M_giver_46 {d p i : Nat} {only but b : Option Nat} {K6 : Int32 → Int32 → Int32 → Int32 → Int32 → Int32 → St3 → Prop} (hi : i < 12) (hb : ∀ n, b = some n → n < 12) (hu : ∀ n, but = some n → n < 12)
    (h : K6 (nI d) (nI p) (eI only) (eI but) (eI (if (oN but (fun o => decide (¬ i = o)) && oN b (ggt v i)) then some i else b)) (nI (i + 1)) v) : wB_X10_giver_46 post K6 (nI d) (nI p) (eI only) (eI but) (eI b) (nI i) v := by
  unfold wB_X10_giver_46
  rw [nI_1]
  have k2 : oN but (fun o => decide (¬ i = o)) = true ↔ ¬ nI i = eI but := by
    cases but with
    | none => simp [oN, eI, nI_m1 (show i < 2 ^ 31 by omega)]
    | some o =>
      have ho := hu o rfl
      simp only [eI, oN, decide_eq_true_eq]
      rw [nI_eq (by omega) (by omega)]
  refine ⟨fun c => ⟨fun c2 => ?_, fun c2 => ?_⟩, fun c => ?_⟩
  · have e : b = none := (eI_m1 hb).mp c2
    subst e
    rw [k2.mpr c] at h
    simpa [oN, show eI (some i) = nI i from rfl] using h
  · cases b with
    | none => exact absurd rfl c2
    | some x =>
      refine ⟨i, hi, rfl, x, hb x rfl, rfl, fun c3 => ?_, fun c3 => ?_⟩
      · rw [k2.mpr c, oN_s, show ggt v i x = false by simp [ggt, c3]] at h
        simpa using h
      · rw [k2.mpr c, oN_s, show ggt v i x = true by simp [ggt, c3]] at h
        simpa [eI] using h
  · have z : oN but (fun o => decide (¬ i = o)) = false := by
      rw [← Bool.not_eq_true]
      intro q
      exact k2.mp q c
    rw [z] at h
    simpa using h
theorem M_giver_L {d p : Nat} {only but : Option Nat} (hd0 : d < 12) (hp : p < 24) (hP : v 24 0 4 = nI P) (hP2 : P ≤ 12) (ho : ∀ n, only = some n → n < 12) (hu : ∀ n, but = some n → n < 12) (h : post (eI (gvr P v d p only but)) v) : ∀ (n i f : Nat) (b : Option Nat), i + n = P → n < f → (∀ n, b = some n → n < 12) → pick (gok v d p only but) (ggt v) b i n = gvr P v d p only but → wL_X10_giver_6 post f (nI d) (nI p) (eI only) (eI but) (eI b) (nI i) v
  | n, i, 0, b, _, hf, _, _ => absurd hf (by omega)
  | n, i, f + 1, b, e, hf, hb, hq => by
    show wB_X10_giver_6 post _ (nI d) (nI p) (eI only) (eI but) (eI b) (nI i) v
    unfold wB_X10_giver_6
    rw [hP]
    refine le2 (by omega) (by omega) (fun c => ?_) (fun c => ?_)
    · have : n = 0 := by omega
      subst this
      rw [show b = gvr P v d p only but from hq]; exact h
    · obtain ⟨n, rfl⟩ : ∃ k, n = k + 1 := ⟨n - 1, by omega⟩
      have stop : gok v d p only but i = false → wL_X10_giver_6 post f (nI d) (nI p) (eI only) (eI but) (eI b) (nI i + 1) v := fun z => by
        rw [nI_1]
        exact M_giver_L hd0 hp hP hP2 ho hu h n (i + 1) f b (by omega) (by omega) hb (by rw [← hq, pick_s, z]; simp)
      refine M_isGiver (by omega) hd0 (bI_if (fun c2 => stop (by simp [gok, c2])) (fun c2 => ?_))
      refine M_tells (by omega) hp (bI_if (fun c3 => stop (by simp [gok, c3])) (fun c3 => ?_))
      have go : oN only (fun o => decide (i = o)) = true → wB_X10_giver_46 post (wL_X10_giver_6 post f) (nI d) (nI p) (eI only) (eI but) (eI b) (nI i) v := fun z => by
        refine M_giver_46 (by omega) hb hu ?_
        refine M_giver_L hd0 hp hP hP2 ho hu h n (i + 1) f _ (by omega) (by omega) ?_ ?_
        · intro w hw
          split at hw
          · cases hw; omega
          · exact hb w hw
        · rw [← hq, pick_s, gok, c2, c3, z]
          simp only [Bool.true_and]
      refine ⟨fun c4 => ?_, fun c4 => ⟨fun c5 => ?_, fun c5 => ?_⟩⟩
      · have e2 : only = none := (eI_m1 ho).mp c4
        subst e2
        exact go rfl
      · cases only with
        | none => exact absurd rfl c4
        | some o => exact stop (by
            have : ¬ i = o := fun q => c5 (by rw [q]; rfl)
            simp [gok, oN, this])
      · cases only with
        | none => exact absurd rfl c4
        | some o => exact go (by
            have ho2 := ho o rfl
            have : i = o := nI_inj (by omega) (by omega) c5
            simp [oN, this])
theorem M_giver {d p : Nat} {only but : Option Nat} (hd0 : d < 12) (hp : p < 24) (hz : Sz N K P v) (ho : ∀ n, only = some n → n < 12) (hu : ∀ n, but = some n → n < 12) (h : post (eI (gvr P v d p only but)) v) : wp_X10_giver (nI d) (nI p) (eI only) (eI but) v post := by
  obtain ⟨h1, h2, h3, h4, h5, h6, h7, h8⟩ := hz
  exact M_giver_L hd0 hp h3 h8 ho hu h P 0 FU none (by omega) (fu P (by omega)) (fun n q => by cases q) rfl
/-- the first block that is neither held nor coming -/
def nb (K L : Nat) (m : St3) (d p : Nat) : Option Nat := fst (fun b => !hl m d p b && decide (cm L m d p b = 0)) 0 K
theorem M_nextBlock_L {L d p : Nat} (hd0 : d < 12) (hp : p < 24) (hK : v 24 0 2 = nI K) (hK2 : K ≤ 4) (hL : v 24 0 34 = nI L) (hL2 : L ≤ 400) (h : post (eI (nb K L v d p)) v) : ∀ (n i f : Nat), i + n = K → n < f → fst (fun b => !hl v d p b && decide (cm L v d p b = 0)) i n = nb K L v d p → wL_X10_nextBlock_2 post f (nI d) (nI p) (nI i) v
  | n, i, 0, _, hf, _ => absurd hf (by omega)
  | n, i, f + 1, e, hf, hq => by
    show wB_X10_nextBlock_2 post _ (nI d) (nI p) (nI i) v
    unfold wB_X10_nextBlock_2 wp_X10_cell
    rw [hK, i96]
    refine le2 (by omega) (by omega) (fun c => ?_) (fun c => ?_)
    · have : n = 0 := by omega
      subst this
      rw [← hq] at h; exact h
    · obtain ⟨n, rfl⟩ : ∃ k, n = k + 1 := ⟨n - 1, by omega⟩
      have stop : (!hl v d p i && decide (cm L v d p i = 0)) = false → wL_X10_nextBlock_2 post f (nI d) (nI p) (nI i + 1) v := fun z => by
        rw [nI_1]
        exact M_nextBlock_L hd0 hp hK hK2 hL hL2 h n (i + 1) f (by omega) (by omega) (by rw [← hq, fst_s, z]; simp)
      refine ⟨_, by omega, rfl, fun c2 => stop (by simp [hl, c2]), fun c2 => ?_⟩
      refine M_coming hL hL2 ?_
      have hle := ct_le (fun k => decide (v 65 0 k = nI d ∧ v 67 0 k = nI p ∧ v 68 0 k = nI i)) L
      refine ne2 (b := 0) (by unfold cm; omega) (by omega) (fun c3 => stop (by simp [c3])) (fun c3 => ?_)
      have z : (!hl v d p i && decide (cm L v d p i = 0)) = true := by simp [hl, c2, c3]
      rw [fst_s, z] at hq
      rw [← hq] at h
      simpa [eI] using h
theorem M_nextBlock {L d p : Nat} (hd0 : d < 12) (hp : p < 24) (hz : Sz N K P v) (hL : v 24 0 34 = nI L) (hL2 : L ≤ 400) (h : post (eI (nb K L v d p)) v) : wp_X10_nextBlock (nI d) (nI p) v post := by
  obtain ⟨h1, h2, h3, h4, h5, h6, h7, h8⟩ := hz
  exact M_nextBlock_L hd0 hp h2 h7 hL hL2 h K 0 FU (by omega) (fu K (by omega)) rfl
def bg (K L : Nat) (m : St3) (d p : Nat) : Bool := decide (¬ hd K m d p = 0) || an (fun b => decide (¬ cm L m d p b = 0)) K
theorem M_isBegun_L {L d p : Nat} {z : Bool} (hK : v 24 0 2 = nI K) (hK2 : K ≤ 4) (hL : v 24 0 34 = nI L) (hL2 : L ≤ 400) (h : post (bI (z || an (fun b => decide (¬ cm L v d p b = 0)) K)) v) : ∀ (n i f : Nat), i + n = K → n < f → wL_X10_isBegun_18 post f (nI d) (nI p) (bI (z || an (fun b => decide (¬ cm L v d p b = 0)) i)) (nI i) v
  | n, i, 0, _, hf => absurd hf (by omega)
  | n, i, f + 1, e, hf => by
    show wB_X10_isBegun_18 post _ (nI d) (nI p) _ (nI i) v
    unfold wB_X10_isBegun_18
    rw [hK, nI_1]
    have hs1 : ∀ b : Bool, b = decide (¬ cm L v d p i = 0) → an (fun b => decide (¬ cm L v d p b = 0)) (i + 1) = (an (fun b => decide (¬ cm L v d p b = 0)) i || b) := by
      intro b hb
      unfold an
      rw [ct_succ, ← hb]
      cases b <;> simp
    refine le2 (by omega) (by omega) (fun c => ⟨bI_01 _, ?_⟩) (fun c => bI_fi (fun c2 => ?_) (fun c2 => ?_))
    · rw [show i = K by omega]; exact h
    · have := M_isBegun_L (z := z) hK hK2 hL hL2 h (n - 1) (i + 1) f (by omega) (by omega)
      rw [hs1 _ rfl, ← Bool.or_assoc, c2] at this
      simpa [bI] using this
    · refine M_coming hL hL2 ?_
      have hle := ct_le (fun k => decide (v 65 0 k = nI d ∧ v 67 0 k = nI p ∧ v 68 0 k = nI i)) L
      have nx := M_isBegun_L (z := z) hK hK2 hL hL2 h (n - 1) (i + 1) f (by omega) (by omega)
      refine le2 (b := 0) (by unfold cm; omega) (by omega) (fun c3 => ?_) (fun c3 => ?_)
      · rw [hs1 false (by simp; omega), ← Bool.or_assoc, c2] at nx
        simpa [bI] using nx
      · rw [hs1 true (by simp; omega), ← Bool.or_assoc, c2] at nx
        simpa [bI] using nx
theorem M_isBegun {L d p : Nat} (hd0 : d < 12) (hp : p < 24) (hz : Sz N K P v) (hL : v 24 0 34 = nI L) (hL2 : L ≤ 400) (h : post (bI (bg K L v d p)) v) : wp_X10_isBegun (nI d) (nI p) v post := by
  have hz0 := hz
  obtain ⟨h1, h2, h3, h4, h5, h6, h7, h8⟩ := hz
  unfold wp_X10_isBegun
  have hle := ct_le (hl v d p) K
  refine M_heldMany hd0 hp hz0 (le2 (b := 0) (by unfold hd; omega) (by omega) (fun c => ?_) (fun c => ?_))
  · refine M_isBegun_L (z := false) h2 h7 hL hL2 ?_ K 0 FU (by omega) (fu K (by omega))
    rw [show bg K L v d p = (false || an (fun b => decide (¬ cm L v d p b = 0)) K) by rw [bg, show decide (¬ hd K v d p = 0) = false by simp; omega]] at h
    exact h
  · refine M_isBegun_L (z := true) h2 h7 hL hL2 ?_ K 0 FU (by omega) (fu K (by omega))
    rw [show bg K L v d p = (true || an (fun b => decide (¬ cm L v d p b = 0)) K) by rw [bg, show decide (¬ hd K v d p = 0) = true by simp; omega]] at h
    exact h
def te (P : Nat) (m : St3) (d p : Nat) : Nat := ct (fun a => decide (¬ a = d) && nr m a d && tl m a p) P
theorem M_tellers_L {d p : Nat} (hd0 : d < 12) (hp : p < 24) (hP : v 24 0 4 = nI P) (hP2 : P ≤ 12) (h : post (nI (te P v d p)) v) : ∀ (n i f : Nat), i + n = P → n < f → wL_X10_tellers_5 post f (nI d) (nI p) (nI (ct (fun a => decide (¬ a = d) && nr v a d && tl v a p) i)) (nI i) v
  | n, i, 0, _, hf => absurd hf (by omega)
  | n, i, f + 1, e, hf => by
    show wB_X10_tellers_5 post _ (nI d) (nI p) _ (nI i) v
    unfold wB_X10_tellers_5
    rw [hP, nI_1]
    have nx := M_tellers_L hd0 hp hP hP2 h (n - 1) (i + 1) f
    refine le2 (by omega) (by omega) (fun c => ?_) (fun c => eq2 (by omega) (by omega) (fun c2 => ?_) (fun c2 => M_isNear (by omega) hd0 (bI_if (fun c3 => ?_) (fun c3 => M_tells (by omega) hp (bI_if (fun c4 => ?_) (fun c4 => ?_))))))
    · rw [show i = P by omega]; exact h
    · rw [acc0 (by simp [c2])]; exact nx (by omega) (by omega)
    · rw [acc0 (by simp [c3])]; exact nx (by omega) (by omega)
    · rw [acc0 (by simp [c4])]; exact nx (by omega) (by omega)
    · rw [acc1 (by simp [c2, c3, c4])]; exact nx (by omega) (by omega)
theorem M_tellers {d p : Nat} (hd0 : d < 12) (hp : p < 24) (hz : Sz N K P v) (h : post (nI (te P v d p)) v) : wp_X10_tellers (nI d) (nI p) v post := by
  obtain ⟨h1, h2, h3, h4, h5, h6, h7, h8⟩ := hz
  exact M_tellers_L hd0 hp h3 h8 h P 0 FU (by omega) (fu P (by omega))
end MREAD2
