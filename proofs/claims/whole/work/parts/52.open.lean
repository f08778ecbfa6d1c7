/-! each opens anew: by turns, and all of them -/
theorem fst_eq {f : Nat → Bool} {k : Nat} (hk : f k = true) : ∀ {n i : Nat}, i ≤ k → k < i + n → (∀ j, i ≤ j → j < k → f j = false) → fst f i n = some k
  | 0, i, h1, h2, _ => absurd h2 (by omega)
  | n + 1, i, h1, h2, h => by
    rw [fst_s]
    by_cases q : i = k
    · subst q; rw [if_pos hk]
    · rw [if_neg (by rw [h i (Nat.le_refl _) (by omega)]; decide)]
      exact fst_eq hk (by omega) (by omega) (fun j j1 j2 => h j (by omega) j2)
theorem fst_none {f : Nat → Bool} : ∀ {n i : Nat}, (∀ j, i ≤ j → j < i + n → f j = false) → fst f i n = none
  | 0, _, _ => rfl
  | n + 1, i, h => by
    rw [fst_s, if_neg (by rw [h i (Nat.le_refl _) (by omega)]; decide)]
    exact fst_none (fun j j1 j2 => h j (by omega) (by omega))
theorem nx_hit {S : Nat → Bool} {T P k : Nat} (hT : T ≤ P) (hk : k < P) (h1 : S ((T + k) % P) = true) (h2 : ∀ j, j < k → S ((T + j) % P) = false) : nx S T P = some ((T + k) % P) := by
  unfold nx
  by_cases q : T + k < P
  · rw [Nat.mod_eq_of_lt q] at h1 ⊢
    rw [fst_eq h1 (by omega) (by omega) (fun j j1 j2 => by
      have := h2 (j - T) (by omega)
      rwa [show T + (j - T) = j by omega, Nat.mod_eq_of_lt (by omega)] at this)]
  · have e : (T + k) % P = T + k - P := by rw [Nat.mod_eq_sub_mod (by omega), Nat.mod_eq_of_lt (by omega)]
    rw [e] at h1 ⊢
    rw [fst_none (fun j j1 j2 => by
      have := h2 (j - T) (by omega)
      rwa [show T + (j - T) = j by omega, Nat.mod_eq_of_lt (by omega)] at this)]
    exact fst_eq h1 (by omega) (by omega) (fun j j1 j2 => by
      have := h2 (P - T + j) (by omega)
      rwa [show T + (P - T + j) = P + j by omega, Nat.add_mod_left, Nat.mod_eq_of_lt (by omega)] at this)
theorem nx_no {S : Nat → Bool} {T P : Nat} (hT : T ≤ P) (h2 : ∀ j, j < P → S ((T + j) % P) = false) : nx S T P = none := by
  unfold nx
  rw [fst_none (fun j j1 j2 => by
      have := h2 (j - T) (by omega)
      rwa [show T + (j - T) = j by omega, Nat.mod_eq_of_lt (by omega)] at this)]
  exact fst_none (fun j j1 j2 => by
      have := h2 (P - T + j) (by omega)
      rwa [show T + (P - T + j) = P + j by omega, Nat.add_mod_left, Nat.mod_eq_of_lt (by omega)] at this)
theorem nx_lt {S : Nat → Bool} {T P c : Nat} (hT : T ≤ P) (h : nx S T P = some c) : c < P ∧ S c = true := by
  unfold nx at h
  cases hf : fst S T (P - T) with
  | none =>
    rw [hf] at h
    obtain ⟨w1, w2, w3⟩ := fst_t h
    exact ⟨by omega, w1⟩
  | some b =>
    rw [hf] at h
    cases h
    obtain ⟨w1, w2, w3⟩ := fst_t hf
    exact ⟨by omega, w1⟩
section OPEN2
variable {N K P L C : Nat} {x m : St3}
theorem M_o183 {x0 : St3} {a T : Nat} {S : Nat → Bool} {post : St3 → Prop} (hP : m 24 0 4 = nI P) (hP2 : P ≤ 12) (ha : a < P) (hT : T ≤ P) (ht : m 63 0 a + 1 = nI T) (hS : ∀ b, b < P → m 72 0 b = bI (S b)) (h : wB_X10_opens_241 post (nI a) (gl x0 (up3 m 62 0 a (eI (nx S T P))))) : ∀ (n k f : Nat), k + n = P → n + 1 < f → (∀ j, j < k → S ((T + j) % P) = false) → wL_X10_opens_183 post f (nI a) (nI k) (gl x0 (up3 m 62 0 a (-1)))
  | n, k, 0, _, hf, _ => absurd hf (by omega)
  | n, k, f + 1, e, hf, hj => by
    show wB_X10_opens_183 post _ (nI a) (nI k) _
    unfold wB_X10_opens_183
    rw [show gl x0 (up3 m 62 0 a (-1)) 24 0 4 = nI P from hP]
    refine le2 (by omega) (by omega) (fun c => ?_) (fun c => ⟨a, by omega, rfl, ?_⟩)
    · rw [nx_no hT (fun j hj' => hj j (by omega))] at h
      exact h
    · rw [show gl x0 (up3 m 62 0 a (-1)) 62 0 a = -1 from up3_at m 62 0 a (-1), show gl x0 (up3 m 62 0 a (-1)) 63 0 a = m 63 0 a from rfl, ht, nI_add]
      refine ⟨fun q => absurd rfl q, fun _ => ⟨fun q => ?_, ?_⟩⟩
      · rw [show (0 : Int32) = nI 0 from rfl, nI_eq (by omega) (by omega)] at q
        omega
      · intro x38 e38
        rw [pk_rem (by omega) (by omega) (by omega)] at e38
        have hlt : (T + k) % P < P := Nat.mod_lt _ (by omega)
        refine ⟨(T + k) % P, by omega, e38, ?_⟩
        rw [show gl x0 (up3 m 62 0 a (-1)) 72 0 ((T + k) % P) = bI (S ((T + k) % P)) from hS _ hlt, nI_1]
        refine bI_if (fun c2 => ?_) (fun c2 => ?_)
        · exact M_o183 hP hP2 ha hT ht hS h (n - 1) (k + 1) f (by omega) (by omega) (fun j hj' => by
            by_cases q : j = k
            · rw [q]; exact c2
            · exact hj j (by omega))
        · intro v1 e1
          rw [gl_m rfl, e38] at e1
          have e2 : v1 = gl x0 (up3 m 62 0 a (eI (nx S T P))) := by
            rw [e1, nx_hit hT c c2 hj]
            congr 1
            funext k' i' j'
            simp only [up3]
            by_cases q : k' = 62 ∧ i' = 0 ∧ j' = a
            · rw [if_pos q, if_pos q]; rfl
            · rw [if_neg q, if_neg q, if_neg q]
          subst e2
          obtain ⟨f', rfl⟩ : ∃ f', f = f' + 1 := ⟨f - 1, by omega⟩
          show wB_X10_opens_183 post _ (nI a) (nI (k + 1)) _
          unfold wB_X10_opens_183
          rw [show gl x0 (up3 m 62 0 a (eI (nx S T P))) 24 0 4 = nI P from hP]
          refine le2 (by omega) (by omega) (fun _ => h) (fun _ => ⟨a, by omega, rfl, fun _ => h, fun q => ?_⟩)
          rw [show gl x0 (up3 m 62 0 a (eI (nx S T P))) 62 0 a = eI (nx S T P) from up3_at m 62 0 a _, nx_hit hT c c2 hj] at q
          exact absurd q (nI_m1 (by omega))
def zM (a i : Nat) (m : St3) : St3 := fun k e j => if (k = 60 ∨ k = 61) ∧ e = 0 ∧ 12 * a ≤ j ∧ j < 12 * a + i then 0 else m k e j
theorem zM_0 (a : Nat) (m : St3) : zM a 0 m = m := by
  funext k e j
  unfold zM
  rw [if_neg (by omega)]
theorem zM_s (a i : Nat) (m : St3) : up3 (up3 (zM a i m) 60 0 (12 * a + i) 0) 61 0 (12 * a + i) 0 = zM a (i + 1) m := by
  funext k e j
  simp only [up3, zM]
  by_cases q : k = 61 ∧ e = 0 ∧ j = 12 * a + i
  · rw [if_pos q, if_pos (by omega)]
  · rw [if_neg q]
    by_cases q2 : k = 60 ∧ e = 0 ∧ j = 12 * a + i
    · rw [if_pos q2, if_pos (by omega)]
    · rw [if_neg q2]
      by_cases q3 : (k = 60 ∨ k = 61) ∧ e = 0 ∧ 12 * a ≤ j ∧ j < 12 * a + i
      · rw [if_pos q3, if_pos (by omega)]
      · rw [if_neg q3, if_neg (by omega)]
theorem M_o282 {x0 : St3} {a : Nat} {post : St3 → Prop} (hP : m 24 0 4 = nI P) (hP2 : P ≤ 12) (ha : a < P) (h : post (gl x0 (zM a P m))) : ∀ (n i f : Nat), i + n = P → n < f → wL_X10_opens_282 post f (nI a) (nI i) (gl x0 (zM a i m))
  | n, i, 0, _, hf => absurd hf (by omega)
  | n, i, f + 1, e, hf => by
    show wB_X10_opens_282 post _ (nI a) (nI i) _
    unfold wB_X10_opens_282
    rw [show gl x0 (zM a i m) 24 0 4 = nI P from hP, nI_1]
    refine le2 (by omega) (by omega) (fun c => ?_) (fun c => M_two ⟨_, by omega, rfl, ?_⟩)
    · rw [show i = P by omega]; exact h
    · intro v1 e1
      rw [gl_m rfl] at e1
      subst e1
      refine M_two ⟨_, by omega, rfl, ?_⟩
      intro v2 e2
      rw [gl_m rfl, zM_s] at e2
      subst e2
      exact M_o282 hP hP2 ha h (n - 1) (i + 1) f (by omega) (by omega)
def mF (a P : Nat) (O S : Nat → Bool) (t c : Int32) (m : St3) : St3 := fun k e j => if k = 56 ∧ e = 0 ∧ 12 * a ≤ j ∧ j < 12 * a + P then bI (O (j - 12 * a)) else if k = 72 ∧ e = 0 ∧ j < P then bI (S j) else if k = 62 ∧ e = 0 ∧ j = a then c else if k = 63 ∧ e = 0 ∧ j = a then t else if (k = 60 ∨ k = 61) ∧ e = 0 ∧ 12 * a ≤ j ∧ j < 12 * a + P then 0 else m k e j
def tN (o : Option Nat) (t : Int32) : Int32 := match o with
  | none => t
  | some c => nI c
theorem mF_none {a : Nat} {R S : Nat → Bool} : zM a P (up3 (oS a P R S m) 62 0 a (-1)) = mF a P (fun b => R b || decide ((none : Option Nat) = some b)) S (m 63 0 a) (-1) m := by
  funext k e j
  simp only [zM, up3, oS, mF]
  by_cases q : k = 56
  · subst q; simp
  · by_cases q2 : k = 72
    · subst q2; simp
    · by_cases q3 : k = 62
      · subst q3; simp
      · by_cases q4 : k = 63
        · subst q4
          by_cases q5 : e = 0 ∧ j = a
          · simp [q5.1, q5.2]
          · simp [q5]
        · simp [q, q2, q3, q4]
theorem mF_some {a c : Nat} {R S : Nat → Bool} (hc : c < P) : zM a P (up3 (up3 (up3 (oS a P R S m) 62 0 a (nI c)) 56 0 (12 * a + c) 1) 63 0 a (nI c)) = mF a P (fun b => R b || decide (some c = some b)) S (nI c) (nI c) m := by
  funext k e j
  simp only [zM, up3, oS, mF]
  by_cases q : k = 56
  · subst q
    by_cases q5 : e = 0
    · subst q5
      by_cases q6 : j = 12 * a + c
      · subst q6
        simp [hc, bI]
      · by_cases q7 : 12 * a ≤ j ∧ j < 12 * a + P
        · simp [q6, q7, show ¬ c = j - 12 * a by omega]
        · simp [q6, q7]
    · simp [q5]
  · by_cases q2 : k = 72
    · subst q2; simp
    · by_cases q3 : k = 62
      · subst q3; simp
      · by_cases q4 : k = 63
        · subst q4; simp
        · simp [q, q2, q3, q4]
/-- the reference opens -/
theorem M_opens {x0 : St3} {a T : Nat} {post : St3 → Prop} (hz : Sz N K P m) (iS : Sy m) (ha : a < P) (hT : T ≤ P) (ht : m 63 0 a + 1 = nI T) (h : post (gl x0 (mF a P (fun b => opn N P m a (w0 N P m a) 3 (fun _ => false) b || decide (nx (fun b => w0 N P m a b && !opn N P m a (w0 N P m a) 3 (fun _ => false) b) T P = some b)) (fun b => w0 N P m a b && !opn N P m a (w0 N P m a) 3 (fun _ => false) b) (tN (nx (fun b => w0 N P m a b && !opn N P m a (w0 N P m a) 3 (fun _ => false) b) T P) (m 63 0 a)) (eI (nx (fun b => w0 N P m a b && !opn N P m a (w0 N P m a) 3 (fun _ => false) b) T P)) m))) : wp_X10_opens (nI a) (gl x0 m) post := by
  obtain ⟨g1, g2, g3, g4, g5, g6, g7, g8⟩ := id hz
  unfold wp_X10_opens
  have z := M_o10 (x0 := x0) (post := post) hz iS ha ?_ P 0 FU (by omega) (fu P (by omega))
  · rw [oS_0] at z
    exact z
  · have z2 := M_o82 (x0 := x0) (W := w0 N P m a) (post := post) hz ha (opn N P m a (w0 N P m a) 3 (fun _ => false)) ?_ 3 FU (fun _ => false) (fu 3 (by omega)) (by omega) rfl
    · rw [show (fun b => w0 N P m a b && !(fun _ => false) b) = w0 N P m a from by funext b; simp] at z2
      exact z2
    · intro v1 e1
      rw [gl_m rfl] at e1
      subst e1
      refine M_o183 (m := oS a P (opn N P m a (w0 N P m a) 3 (fun _ => false)) (fun b => w0 N P m a b && !opn N P m a (w0 N P m a) 3 (fun _ => false) b) m) g3 g8 ha hT ht (S := fun b => w0 N P m a b && !opn N P m a (w0 N P m a) 3 (fun _ => false) b) (fun b hb => ?_) ?_ P 0 FU (by omega) (fu _ (by omega)) (fun j hj => absurd hj (by omega))
      · show (if 72 = 56 ∧ 0 = 0 ∧ 12 * a ≤ b ∧ b < 12 * a + P then _ else if 72 = 72 ∧ 0 = 0 ∧ b < P then bI (w0 N P m a b && !opn N P m a (w0 N P m a) 3 (fun _ => false) b) else m 72 0 b) = _
        rw [if_neg (by omega), if_pos ⟨rfl, rfl, hb⟩]
      · unfold wB_X10_opens_241
        refine ⟨a, by omega, rfl, ?_⟩
        cases ho : nx (fun b => w0 N P m a b && !opn N P m a (w0 N P m a) 3 (fun _ => false) b) T P with
        | none =>
          rw [ho] at h
          refine ⟨fun _ => ?_, fun q => absurd (up3_at _ 62 0 a _) q⟩
          have z3 := M_o282 (x0 := x0) (post := post) (m := up3 (oS a P (opn N P m a (w0 N P m a) 3 (fun _ => false)) (fun b => w0 N P m a b && !opn N P m a (w0 N P m a) 3 (fun _ => false) b) m) 62 0 a (eI none)) g3 g8 ha (by rw [show eI none = -1 from rfl, mF_none]; exact h) P 0 FU (by omega) (fu P (by omega))
          rw [zM_0] at z3
          exact z3
        | some c =>
          have hc := (nx_lt hT ho).1
          rw [ho] at h
          rw [show gl x0 (up3 (oS a P (opn N P m a (w0 N P m a) 3 (fun _ => false)) (fun b => w0 N P m a b && !opn N P m a (w0 N P m a) 3 (fun _ => false) b) m) 62 0 a (eI (some c))) 62 0 a = nI c from up3_at _ 62 0 a _]
          refine ⟨fun q => absurd q (nI_m1 (by omega)), fun _ => M_two ⟨_, by omega, rfl, ?_⟩⟩
          intro v2 e2
          rw [gl_m rfl] at e2
          subst e2
          intro v3 e3
          rw [gl_m rfl] at e3
          subst e3
          have z3 := M_o282 (x0 := x0) (post := post) (m := up3 (up3 (up3 (oS a P (opn N P m a (w0 N P m a) 3 (fun _ => false)) (fun b => w0 N P m a b && !opn N P m a (w0 N P m a) 3 (fun _ => false) b) m) 62 0 a (nI c)) 56 0 (12 * a + c) 1) 63 0 a (nI c)) g3 g8 ha (by rw [mF_some hc]; exact h) P 0 FU (by omega) (fu P (by omega))
          rw [zM_0] at z3
          rw [show gl x0 (up3 (up3 (oS a P (opn N P m a (w0 N P m a) 3 (fun _ => false)) (fun b => w0 N P m a b && !opn N P m a (w0 N P m a) 3 (fun _ => false) b) m) 62 0 a (eI (some c))) 56 0 (12 * a + c) 1) 62 0 a = nI c from up3_at _ 62 0 a _]
          exact z3
/-! the class -/
def zX (a i : Nat) (x : St3) : St3 := fun k e j => if (k = 20 ∨ k = 21) ∧ e = a ∧ j < i then 0 else x k e j
theorem zX_0 (a : Nat) (x : St3) : zX a 0 x = x := by
  funext k e j
  unfold zX
  rw [if_neg (by omega)]
theorem zX_s (a i : Nat) (x : St3) : up3 (up3 (zX a i x) 20 a i 0) 21 a i 0 = zX a (i + 1) x := by
  funext k e j
  simp only [up3, zX]
  by_cases q : k = 21 ∧ e = a ∧ j = i
  · rw [if_pos q, if_pos (by omega)]
  · rw [if_neg q]
    by_cases q2 : k = 20 ∧ e = a ∧ j = i
    · rw [if_pos q2, if_pos (by omega)]
    · rw [if_neg q2]
      by_cases q3 : (k = 20 ∨ k = 21) ∧ e = a ∧ j < i
      · rw [if_pos q3, if_pos (by omega)]
      · rw [if_neg q3, if_neg (by omega)]
theorem S_forget_L {m0 : St3} {a : Nat} {post : St3 → Prop} (h : post (gl (zX a 12 x) m0)) : ∀ (n i f : Nat), i + n = 12 → n < f → wL_X7_forgetLate_2 post f a (nI i) (gl (zX a i x) m0)
  | n, i, 0, _, hf => absurd hf (by omega)
  | n, i, f + 1, e, hf => by
    show wB_X7_forgetLate_2 post _ a (nI i) _
    unfold wB_X7_forgetLate_2
    rw [show (12 : Int32) = nI 12 from rfl, nI_1]
    refine le2 (by omega) (by omega) (fun c => ?_) (fun c => ⟨i, by omega, rfl, ?_⟩)
    · rw [show i = 12 by omega]; exact h
    · intro v1 e1
      rw [gl_x rfl] at e1
      subst e1
      intro v2 e2
      rw [gl_x rfl, zX_s] at e2
      subst e2
      exact S_forget_L h (n - 1) (i + 1) f (by omega) (by omega)
theorem S_forget {m0 : St3} {a : Nat} {post : St3 → Prop} (h : post (gl (zX a 12 x) m0)) : wp_X7_forgetLate a (gl x m0) post := by
  have z := S_forget_L h 12 0 FU (by omega) (fu 12 (by omega))
  rw [zX_0] at z
  exact z
def oX (a : Nat) (t c y : Int32) (x : St3) : St3 := zX a 12 (up3 (up3 (up3 x 16 a 8 t) 16 a 9 c) 16 a 7 y)
theorem S_o42 {m0 : St3} {a T : Nat} {w : Int32} {W R : Nat → Bool} {post : St3 → Prop} (hC : GC P x m) (hM : GM P x m) (hLt : GL x m) (hD : Dn N P m) (hP : P ≤ 12) (ha : a < P) (hT : T ≤ P) (ht : ∀ i, i < P → (nI i ≤ x 16 a 8 ↔ i < T)) (hw : Msk w W) (h : ∀ y, Msk y (fun b => R b || decide (nx (fun b => W b && !R b) T P = some b)) → post (gl (oX a (tN (nx (fun b => W b && !R b) T P) (x 16 a 8)) (eI (nx (fun b => W b && !R b) T P)) y x) m0)) : ∀ (n i f : Nat) (y : Int32) (O : Nat → Bool), i + n = 3 → n < f → Msk y O → opn N P m a W n O = R → wL_X4_openAnew_42 post f a a w y (nI i) (gl x m0)
  | n, i, 0, _, _, _, hf, _, _ => absurd hf (by omega)
  | n, i, f + 1, y, O, e, hf, hy, hR => by
    show wB_X4_openAnew_42 post _ a a w y (nI i) _
    unfold wB_X4_openAnew_42
    rw [show (3 : Int32) = nI 3 from rfl, nI_1]
    have hset : Msk (w &&& (y ^^^ (-1 : Int32))) (fun b => W b && !O b) := hw.and hy.not
    refine le2 (by omega) (by omega) (fun c => ?_) (fun c => ?_)
    · have : n = 0 := by omega
      subst this
      have hR : O = R := hR
      subst hR
      have lt12 : ∀ c, nx (fun b => W b && !O b) T P = some c → c < 12 := fun c hc => by
        have := (nx_lt hT hc).1
        omega
      have z := S_next_L (v := gl x m0) (m := m) (P := P) (s := w &&& (y ^^^ (-1 : Int32))) (t := x 16 a 8) (T := T) (S := fun b => W b && !O b) (post := fun r9 v8 => ((r9 = (-1 : Int32) → ∀ v10, v10 = up3 v8 16 a 9 r9 → wp_X4_setOf r9 v10 (fun r13 v12 => ∀ v14, v14 = up3 v12 16 a 7 (y ||| r13) → wp_X7_forgetLate a v14 (fun v16 => post v16))) ∧ (¬ r9 = (-1 : Int32) → ∀ v18, v18 = up3 v8 16 a 8 r9 → ∀ v20, v20 = up3 v18 16 a 9 r9 → wp_X4_setOf r9 v20 (fun r23 v22 => ∀ v24, v24 = up3 v22 16 a 7 (y ||| r23) → wp_X7_forgetLate a v24 (fun v26 => post v26))))) hC hP hT ht hset ?_ P 0 FU (by omega) (fu P (by omega)) (fun k k1 k2 => absurd k2 (by omega))
      · rw [show min 0 T = 0 by omega] at z
        exact z
      · cases ho : nx (fun b => W b && !O b) T P with
        | none =>
          rw [ho] at h lt12
          refine ⟨fun _ => ?_, fun q => absurd rfl q⟩
          intro v1 e1
          rw [gl_x rfl] at e1
          subst e1
          refine S_setOf lt12 (fun r hr0 => ?_)
          intro v2 e2
          rw [gl_x rfl] at e2
          subst e2
          refine S_forget ?_
          have z := h (y ||| r) (hy.orm hr0)
          unfold oX tN at z
          rw [show up3 x 16 a 8 (x 16 a 8) = x from up3_self x 16 a 8] at z
          exact z
        | some b =>
          rw [ho] at h lt12
          have hb12 := lt12 b rfl
          refine ⟨fun q => absurd q (nI_m1 (by omega)), fun _ => ?_⟩
          intro v0 e0
          rw [gl_x rfl] at e0
          subst e0
          intro v1 e1
          rw [gl_x rfl] at e1
          subst e1
          refine S_setOf lt12 (fun r hr0 => ?_)
          intro v2 e2
          rw [gl_x rfl] at e2
          subst e2
          refine S_forget ?_
          exact h (y ||| r) (hy.orm hr0)
    · refine S_latest (v := gl x m0) (m := m) hC hM hLt hD hP ha hset (S_setOf (fun c hc => by have := (pick_lt hc).1; omega) (fun r hr0 => ?_))
      obtain ⟨n', rfl⟩ : ∃ n', n = n' + 1 := ⟨n - 1, by omega⟩
      cases hp : pk N P m a (fun b => W b && !O b) with
      | none =>
        rw [hp] at hr0
        rw [opn_none hp] at hR
        refine S_o42 hC hM hLt hD hP ha hT ht hw h n' (i + 1) f _ O (by omega) (by omega) ((hy.orm hr0).ext (fun b hb => by simp)) ?_
        rw [opn_none hp]; exact hR
      | some c =>
        rw [hp] at hr0
        rw [opn_some hp] at hR
        exact S_o42 hC hM hLt hD hP ha hT ht hw h n' (i + 1) f _ _ (by omega) (by omega) ((hy.orm hr0).ext (fun b hb => by simp [eq_comm])) hR
end OPEN2
