/-! who asks what of whom: the last blocks, and the reference -/
def so (L : Nat) (m : St3) (d p b : Nat) : Option Nat := match fst (fun k => decide (m 65 0 k = nI d ∧ m 67 0 k = nI p ∧ m 68 0 k = nI b)) 0 L with
  | some k => some (un (m 66 0 k))
  | none => none
def eb2 (P L : Nat) (m : St3) (d p b : Nat) : Bool := !hs m d p && !mk m d p && !hl m d p b && decide (cm L m d p b = 1) && (gvr P m d p none (so L m d p b)).isSome
def fb (K P L : Nat) (m : St3) (d p : Nat) : Option Nat := fst (eb2 P L m d p) 0 K
def se (N K P L : Nat) (m : St3) (d : Nat) : Option Nat := fst (fun p => (fb K P L m d p).isSome) 0 N
section ASK2
variable {N K P L C : Nat} {v m : St3} {post : Int32 → St3 → Prop}
theorem so_ok {d p b : Nat} (iR : Rd N K P L m) (hP : P ≤ 12) (h : cm L m d p b = 1) : ∃ k g, fst (fun k => decide (m 65 0 k = nI d ∧ m 67 0 k = nI p ∧ m 68 0 k = nI b)) 0 L = some k ∧ k < L ∧ m 66 0 k = nI g ∧ g < 12 ∧ so L m d p b = some g := by
  cases hf : fst (fun k => decide (m 65 0 k = nI d ∧ m 67 0 k = nI p ∧ m 68 0 k = nI b)) 0 L with
  | none =>
    have z : cm L m d p b = 0 := ct_zero.mpr (fun k hk => fst_n hf k (by omega) (by omega))
    omega
  | some k =>
    obtain ⟨w1, w2, w3⟩ := fst_t hf
    obtain ⟨d', g, p', b', q1, q2, q3, q4, q5, q6, q7, q8⟩ := iR k (by omega)
    refine ⟨k, g, rfl, by omega, q6, by omega, ?_⟩
    unfold so
    rw [hf]
    simp only
    rw [q6, un_nI (by omega)]
theorem eb2_t {d p b : Nat} (h : eb2 P L m d p b = true) : hs m d p = false ∧ mk m d p = false ∧ hl m d p b = false ∧ cm L m d p b = 1 ∧ ¬ gvr P m d p none (so L m d p b) = none := by
  unfold eb2 at h
  simp only [Bool.and_eq_true, Bool.not_eq_true', decide_eq_true_eq] at h
  exact ⟨h.1.1.1.1, h.1.1.1.2, h.1.1.2, h.1.2, isSome_t.mp h.2⟩
theorem fst_go {f : Nat → Bool} {n i : Nat} (h : f i = false) : fst f i (n + 1) = fst f (i + 1) n := by
  rw [fst_s, h]; simp
theorem fst_hit {f : Nat → Bool} {n i : Nat} (h : f i = true) : fst f i (n + 1) = some i := by
  rw [fst_s, h]; simp
theorem S_71 {d p : Nat} {s ap t : Int32} {K27 : Int32 → Int32 → Nat → Int32 → Int32 → St3 → Prop} (hQ : RQ (fun _ => true) N K P L C v m) (hU : GU P v m) (hd0 : d < P) (hp : p < N) (ht : ((hs m d p || mk m d p) = true ∧ t = 0) ∨ (hs m d p = false ∧ mk m d p = false ∧ Msk t (fun g => decide (g < P) && (gv m g d && tl m g p)))) (hn : fb K P L m d p = none → K27 (nI d) s d ap (nI (p + 1)) v) (hs0 : ∀ b, fb K P L m d p = some b → wp_X1_send (eI (gvr P m d p none (so L m d p b))) (nI d) (nI p) (nI b) v (fun r20 v19 => ((r20 = 0 ∨ r20 = 1) ∧ post r20 v19))) : ∀ (n i f : Nat), i + n = K → n < f → fst (eb2 P L m d p) i n = fb K P L m d p → wL_X1_askAtEnd_71 post K27 f (nI d) s d ap (nI p) t (nI i) v
  | n, i, 0, _, hf, _ => absurd hf (by omega)
  | n, i, f + 1, e, hf, hfs => by
    obtain ⟨⟨hW, hC, hM, hS, hH, hV, hG, hT, hLt, hR⟩, hz, iC, iR, iF, iH, iS, iO, iD, iN, iG, iM⟩ := id hQ
    obtain ⟨h1, h2, h3, h4, h5, h6, h7, h8⟩ := id hz
    have hL := hR.2.2.1
    show wB_X1_askAtEnd_71 post _ _ (nI d) s d ap (nI p) t (nI i) v
    unfold wB_X1_askAtEnd_71 wB_X1_askAtEnd_158 wp_X9_place
    rw [hW.2.1, i4, nI_1, nI_1]
    have none0 : t = 0 → fb K P L m d p = none := fun q => fst_none (fun b _ hb => by
      cases he : eb2 P L m d p b with
      | false => rfl
      | true =>
        obtain ⟨u1, u2, u3, u4, u5⟩ := eb2_t he
        rcases ht with ⟨w1, w2⟩ | ⟨w1, w2, w3⟩
        · rw [u1, u2] at w1; cases w1
        · refine absurd ?_ u5
          unfold gvr
          rw [pick_none]
          intro k k1 k2
          have := w3.z.mp q k (by omega)
          simp only [show k < P by omega, decide_true, Bool.true_and] at this
          unfold gok
          rw [this]; rfl)
    refine ⟨fun c => hn (none0 c), fun c => le2 (by omega) (by omega) (fun c2 => hn ?_) (fun c2 => ?_)⟩
    · have : n = 0 := by omega
      subst this
      exact hfs.symm
    · rcases ht with ⟨w1, w2⟩ | ⟨w1, w2, w3⟩
      · exact absurd w2 c
      · obtain ⟨n', rfl⟩ : ∃ n', n = n' + 1 := ⟨n - 1, by omega⟩
        have nxt : eb2 P L m d p i = false → wL_X1_askAtEnd_71 post K27 f (nI d) s d ap (nI p) t (nI (i + 1)) v := fun z => by
          rw [fst_go z] at hfs
          exact S_71 hQ hU hd0 hp (Or.inr ⟨w1, w2, w3⟩) hn hs0 n' (i + 1) f (by omega) (by omega) hfs
        refine S_holds hS hH iF (by omega) (by omega) (by omega) ?_
        rw [show xh N K m d p i = hl m d p i by simp [xh, hp, c2, w1]]
        refine bI_fi (fun c3 => nxt (by simp [eb2, c3])) (fun c3 => ⟨_, by omega, rfl, ?_⟩)
        rw [GN1.c hG (by omega) (by omega) (by omega)]
        have cle : cm L m d p i ≤ 192 := Nat.le_trans (ct_le _ _) hL
        have ceq : nI (cm L m d p i) = 1 ↔ cm L m d p i = 1 := by
          rw [n1]; exact nI_eq (by omega) (by omega)
        refine ⟨fun c4 => ?_, fun c4 => nxt ?_⟩
        rotate_left
        · rw [ceq] at c4
          simp [eb2, c4]
        rw [ceq] at c4
        obtain ⟨k, g, g1, g2, g3, g4, g5⟩ := so_ok iR h8 c4
        refine S_rof hR ?_
        rw [g1]
        simp only
        rw [g3]
        have one : Msk ((((1 : Int32) <<< (nI g &&& 31)) ^^^ (-1 : Int32))) (fun j => !decide (j = g)) := fun j hj => by
          rw [b_not _ hj, b_one g (by omega) j hj]
        have ms : Msk (t &&& (((1 : Int32) <<< (nI g &&& 31)) ^^^ (-1 : Int32))) (fun j => decide (j < P) && gok m d p none (some g) j) := (w3.and one).ext (fun j _ => by
          simp [gok, oN, Bool.and_assoc])
        refine ⟨fun _ => ⟨fun c5 => nxt ?_, fun c5 => ?_⟩, fun q => absurd q (nI_m1 (by omega))⟩
        · rw [mask_gvr h8 ms] at c5
          unfold eb2
          rw [g5, c5]; simp
        · refine S_readiest hC hU h8 (fun j hj hg0 => (gv_nr (gok_hr hg0)).2.2.1) ms ?_
          have hit : fb K P L m d p = some i := by
            rw [← hfs]
            apply fst_hit
            rw [mask_gvr h8 ms] at c5
            unfold eb2
            rw [g5, w1, w2, c3, c4, isSome_t.mpr c5]; rfl
          have z := hs0 i hit
          rw [g5] at z
          exact z
theorem S_end_L {d : Nat} {s ap : Int32} (hQ : RQ (fun _ => true) N K P L C v m) (hU : GU P v m) (hd0 : d < P) (hsm : Msk s (fun g => decide (g < P) && gv m g d)) (hap : Msk ap (fun p => (decide (p < N) && hs m d p) || (decide (p < N) && mk m d p))) (hn : se N K P L m d = none → post 0 v) (hs0 : ∀ p b, se N K P L m d = some p → fb K P L m d p = some b → wp_X1_send (eI (gvr P m d p none (so L m d p b))) (nI d) (nI p) (nI b) v (fun r20 v19 => ((r20 = 0 ∨ r20 = 1) ∧ post r20 v19))) : ∀ (n i f : Nat), i + n = N → n < f → fst (fun p => (fb K P L m d p).isSome) i n = se N K P L m d → wL_X1_askAtEnd_27 post f (nI d) s d ap (nI i) v
  | n, i, 0, _, hf, _ => absurd hf (by omega)
  | n, i, f + 1, e, hf, hfs => by
    obtain ⟨⟨hW, hC, hM, hS, hH, hV, hG, hT, hLt, hR⟩, hz, iC, iR, iF, iH, iS, iO, iD, iN, iG, iM⟩ := id hQ
    obtain ⟨h1, h2, h3, h4, h5, h6, h7, h8⟩ := id hz
    show wB_X1_askAtEnd_27 post _ (nI d) s d ap (nI i) v
    unfold wB_X1_askAtEnd_27
    rw [hW.1]
    refine le2 (by omega) (by omega) (fun c => hn ?_) (fun c => ?_)
    · have : n = 0 := by omega
      subst this
      exact hfs.symm
    · obtain ⟨n', rfl⟩ : ∃ n', n = n' + 1 := ⟨n - 1, by omega⟩
      have inner : ∀ t, (((hs m d i || mk m d i) = true ∧ t = 0) ∨ (hs m d i = false ∧ mk m d i = false ∧ Msk t (fun g => decide (g < P) && (gv m g d && tl m g i)))) → wL_X1_askAtEnd_71 post (wL_X1_askAtEnd_27 post f) FU (nI d) s d ap (nI i) t (0 : Int32) v := fun t ht => by
        refine S_71 hQ hU hd0 c ht (fun z => ?_) (fun b z => ?_) K 0 FU (by omega) (fu K (by omega)) rfl
        · rw [fst_go (by rw [z]; rfl)] at hfs
          exact S_end_L hQ hU hd0 hsm hap hn hs0 n' (i + 1) f (by omega) (by omega) hfs
        · rw [fst_hit (by rw [z]; rfl)] at hfs
          exact hs0 i b hfs.symm z
      refine S_isIn hap (by omega) ?_
      rw [show ((decide (i < N) && hs m d i) || (decide (i < N) && mk m d i)) = (hs m d i || mk m d i) by simp [c]]
      refine bI_if (fun c2 => S_tellersAmong hC hM hS h5 h8 c hsm (fun t ht => inner t (Or.inr ?_))) (fun c2 => inner 0 (Or.inl ⟨c2, rfl⟩))
      simp only [Bool.or_eq_false_iff] at c2
      exact ⟨c2.1, c2.2, ht.ext (fun g _ => by cases decide (g < P) <;> simp)⟩
theorem S_end {d : Nat} {s : Int32} (hQ : RQ (fun _ => true) N K P L C v m) (hU : GU P v m) (hd0 : d < P) (hsm : Msk s (fun g => decide (g < P) && gv m g d)) (hn : se N K P L m d = none → post 0 v) (hs0 : ∀ p b, se N K P L m d = some p → fb K P L m d p = some b → wp_X1_send (eI (gvr P m d p none (so L m d p b))) (nI d) (nI p) (nI b) v (fun r20 v19 => ((r20 = 0 ∨ r20 = 1) ∧ post r20 v19))) : wp_X1_askAtEnd (nI d) s v post := by
  obtain ⟨⟨hW, hC, hM, hS, hH, hV, hG, hT, hLt, hR⟩, hz, iC, iR, iF, iH, iS, iO, iD, iN, iG, iM⟩ := id hQ
  obtain ⟨h1, h2, h3, h4, h5, h6, h7, h8⟩ := id hz
  unfold wp_X1_askAtEnd
  exact ⟨d, by omega, rfl, S_end_L hQ hU hd0 hsm ((hS d (by omega)).1.orm (hS d (by omega)).2) hn hs0 N 0 FU (by omega) (fu N (by omega)) rfl⟩
/-! the reference -/
theorem M_181 {d p : Nat} {K169 : Int32 → Int32 → St3 → Prop} (hz : Sz N K P v) (hL0 : v 24 0 34 = nI L) (hL : L ≤ 400) (iR : Rd N K P L v) (hd0 : d < 12) (hp : p < N) (hn : fb K P L v d p = none → K169 (nI d) (nI (p + 1)) v) (hs0 : ∀ b, fb K P L v d p = some b → wp_X10_sends (eI (gvr P v d p none (so L v d p b))) (nI d) (nI p) (nI b) v (fun v15 => post (1 : Int32) v15)) : ∀ (n i f : Nat), i + n = K → n < f → fst (eb2 P L v d p) i n = fb K P L v d p → wL_X10_asks_181 post K169 f (nI d) (nI p) (nI i) v
  | n, i, 0, _, hf, _ => absurd hf (by omega)
  | n, i, f + 1, e, hf, hfs => by
    obtain ⟨h1, h2, h3, h4, h5, h6, h7, h8⟩ := id hz
    show wB_X10_asks_181 post _ _ (nI d) (nI p) (nI i) v
    unfold wB_X10_asks_181
    rw [h2, i24, nI_1, nI_1]
    refine le2 (by omega) (by omega) (fun c => hn ?_) (fun c => ?_)
    · have : n = 0 := by omega
      subst this
      exact hfs.symm
    · obtain ⟨n', rfl⟩ : ∃ n', n = n' + 1 := ⟨n - 1, by omega⟩
      have nxt : eb2 P L v d p i = false → wL_X10_asks_181 post K169 f (nI d) (nI p) (nI (i + 1)) v := fun z => by
        rw [fst_go z] at hfs
        exact M_181 hz hL0 hL iR hd0 hp hn hs0 n' (i + 1) f (by omega) (by omega) hfs
      refine ⟨_, by omega, rfl, fun c2 => nxt (by simp [eb2, hs, c2]), fun c2 => ⟨fun c3 => nxt (by simp [eb2, mk, c3]), fun c3 => M_cell ⟨_, by omega, rfl, fun c4 => nxt (by simp [eb2, hl, c4]), fun c4 => M_coming hL0 hL ?_⟩⟩⟩
      rw [n1]
      have cle : cm L v d p i ≤ 400 := Nat.le_trans (ct_le _ _) hL
      refine eq2 (by omega) (by omega) (fun c5 => ?_) (fun c5 => nxt (by simp [eb2, c5]))
      obtain ⟨k, g, g1, g2, g3, g4, g5⟩ := so_ok iR h8 c5
      refine M_senderOf hL g1 ?_
      rw [g3]
      refine M_giver (only := none) (but := some g) hd0 (by omega) hz (fun n hn => by cases hn) (fun n hn => by cases hn; exact g4) ⟨fun c6 => ?_, fun c6 => nxt ?_⟩
      · have c7 : ¬ gvr P v d p none (some g) = none := fun z => c6 ((gvr_m1 h8).mpr z)
        have hit : fb K P L v d p = some i := by
          rw [← hfs]
          apply fst_hit
          unfold eb2
          rw [g5, isSome_t.mpr c7]
          simp [hs, mk, hl, c2, c3, c4, c5]
        have z := hs0 i hit
        rw [g5] at z
        exact z
      · unfold eb2
        rw [g5, (gvr_m1 h8).mp c6]; simp
theorem M_169 {d : Nat} (hz : Sz N K P v) (hL0 : v 24 0 34 = nI L) (hL : L ≤ 400) (iR : Rd N K P L v) (hd0 : d < 12) (hn : se N K P L v d = none → post 0 v) (hs0 : ∀ p b, se N K P L v d = some p → fb K P L v d p = some b → wp_X10_sends (eI (gvr P v d p none (so L v d p b))) (nI d) (nI p) (nI b) v (fun v15 => post (1 : Int32) v15)) : ∀ (n i f : Nat), i + n = N → n < f → fst (fun p => (fb K P L v d p).isSome) i n = se N K P L v d → wL_X10_asks_169 post f (nI d) (nI i) v
  | n, i, 0, _, hf, _ => absurd hf (by omega)
  | n, i, f + 1, e, hf, hfs => by
    obtain ⟨h1, h2, h3, h4, h5, h6, h7, h8⟩ := id hz
    show wB_X10_asks_169 post _ (nI d) (nI i) v
    unfold wB_X10_asks_169
    rw [h1]
    refine le2 (by omega) (by omega) (fun c => hn ?_) (fun c => ?_)
    · have : n = 0 := by omega
      subst this
      exact hfs.symm
    · obtain ⟨n', rfl⟩ : ∃ n', n = n' + 1 := ⟨n - 1, by omega⟩
      refine M_181 hz hL0 hL iR hd0 c (fun z => ?_) (fun b z => ?_) K 0 FU (by omega) (fu K (by omega)) rfl
      · rw [fst_go (by rw [z]; rfl)] at hfs
        exact M_169 hz hL0 hL iR hd0 hn hs0 n' (i + 1) f (by omega) (by omega) hfs
      · rw [fst_hit (by rw [z]; rfl)] at hfs
        exact hs0 i b hfs.symm z
theorem M_asks_L {d : Nat} (hz : Sz N K P v) (hL0 : v 24 0 34 = nI L) (hL : L ≤ 400) (iR : Rd N K P L v) (iF : Fr N K v) (hd0 : d < 12) (hn : pp N K P L v d = none → wL_X10_asks_169 post FU (nI d) (0 : Int32) v) (hs0 : ∀ p, pp N K P L v d = some p → wp_X10_sends (eI (gvr P v d p (ob (bd K L v d p)) none)) (nI d) (nI p) (eI (nb K L v d p)) v (fun v15 => post (1 : Int32) v15)) : ∀ (n i f : Nat) (b : Option Nat) (t g : Int32), i + n = N → n < f → (∀ c, b = some c → c < N ∧ t = nI (te P v d c) ∧ g = bI (bg K L v d c)) → pick (okp K P L v d) (fun p q => decide (rk K P L v d p < rk K P L v d q)) b i n = pp N K P L v d → wL_X10_asks_10 post f (nI d) (eI b) t g (nI i) v
  | n, i, 0, _, _, _, _, hf, _, _ => absurd hf (by omega)
  | n, i, f + 1, b, t, g, e, hf, hb, hp => by
    obtain ⟨h1, h2, h3, h4, h5, h6, h7, h8⟩ := id hz
    show wB_X10_asks_10 post _ (nI d) (eI b) t g (nI i) v
    unfold wB_X10_asks_10
    rw [h1, i24, nI_1]
    have nxt : ∀ b' t' g', i < N → (∀ c, b' = some c → c < N ∧ t' = nI (te P v d c) ∧ g' = bI (bg K L v d c)) → (if okp K P L v d i && oN b (fun q => decide (rk K P L v d i < rk K P L v d q)) then some i else b) = b' → wL_X10_asks_10 post f (nI d) (eI b') t' g' (nI (i + 1)) v := fun b' t' g' hi hb' eb => by
      obtain ⟨n', rfl⟩ : ∃ n', n = n' + 1 := ⟨n - 1, by omega⟩
      rw [pick_s, eb] at hp
      exact M_asks_L hz hL0 hL iR iF hd0 hn hs0 n' (i + 1) f b' t' g' (by omega) (by omega) hb' hp
    have skip : i < N → okp K P L v d i = false → wL_X10_asks_10 post f (nI d) (eI b) t g (nI (i + 1)) v := fun hi hk => nxt b t g hi hb (by rw [hk]; simp)
    refine le2 (by omega) (by omega) (fun c => ?_) (fun c => ⟨_, by omega, rfl, fun c2 => skip c (by simp [okp, hs, c2]), fun c2 => M_nextBlock hd0 (by omega) hz hL0 hL ⟨fun c3 => skip c ?_, fun c3 => M_bound hd0 (by omega) hz hL0 hL ?_⟩⟩)
    · have : n = 0 := by omega
      subst this
      have hp : b = pp N K P L v d := hp
      cases b with
      | none => exact ⟨fun _ => hn hp.symm, fun q => absurd rfl q⟩
      | some p =>
        obtain ⟨hp0, _, _⟩ := hb p rfl
        refine ⟨fun q => absurd q (nI_m1 (by omega)), fun _ => M_bound hd0 (by omega) hz hL0 hL ?_⟩
        have okk : okp K P L v d p = true := (pick_lt hp.symm).2
        have c0 : hs v d p = false := by
          unfold okp at okk
          simp only [Bool.and_eq_true, Bool.not_eq_true'] at okk
          exact okk.1.1
        obtain ⟨o1, o2⟩ := ob_e (bd_ok iF iR h8 hd0 hp0 c0)
        rw [← o1]
        refine M_giver (only := ob (bd K L v d p)) (but := none) hd0 (by omega) hz o2 (fun n hn => by cases hn) (M_nextBlock hd0 (by omega) hz hL0 hL ?_)
        exact hs0 p hp.symm
    · rw [nb_m1 h7] at c3
      simp [okp, c3]
    · have c0 : hs v d i = false := by simp [hs, c2]
      obtain ⟨o1, o2⟩ := ob_e (bd_ok iF iR h8 hd0 c c0)
      rw [← o1]
      refine M_giver (only := ob (bd K L v d i)) (but := none) hd0 (by omega) hz o2 (fun n hn => by cases hn) ⟨fun c4 => M_isBegun hd0 (by omega) hz hL0 hL (M_tellers hd0 (by omega) hz ?_), fun c4 => skip c ?_⟩
      · have a1 : okp K P L v d i = true := by
          rw [nb_m1 h7] at c3
          have c5 : ¬ gvr P v d i (ob (bd K L v d i)) none = none := fun z => c4 ((gvr_m1 h8).mpr z)
          simp [okp, c0, isSome_t.mpr c3, isSome_t.mpr c5]
        have new : wL_X10_asks_10 post f (nI d) (nI i) (nI (te P v d i)) (bI (bg K L v d i)) (nI (i + 1)) v ∨ True := Or.inr trivial
        have ti := te_le (m := v) (d := d) (p := i) h8
        cases b with
        | none => exact ⟨fun _ => nxt (some i) _ _ c (fun d hd => by cases hd; exact ⟨c, rfl, rfl⟩) (by simp [a1, oN]), fun q => absurd rfl q⟩
        | some q =>
          obtain ⟨hq0, hq1, hq2⟩ := hb q rfl
          have tq := te_le (m := v) (d := d) (p := q) h8
          refine ⟨fun z => absurd z (nI_m1 (by omega)), fun _ => ?_⟩
          have take : rk K P L v d i < rk K P L v d q → wL_X10_asks_10 post f (nI d) (nI i) (nI (te P v d i)) (bI (bg K L v d i)) (nI (i + 1)) v := fun z => nxt (some i) _ _ c (fun d hd => by cases hd; exact ⟨c, rfl, rfl⟩) (by simp [a1, oN, z])
          have keep : ¬ rk K P L v d i < rk K P L v d q → wL_X10_asks_10 post f (nI d) (nI q) t g (nI (i + 1)) v := fun z => nxt (some q) t g c hb (by rw [a1]; simp [oN, z])
          unfold wB_X10_asks_101
          rw [nI_1]
          rw [hq1, hq2] at keep ⊢
          cases bq : bg K L v d q with
          | false =>
            rw [bq] at keep
            refine ⟨fun _ => ?_, fun z => absurd rfl z⟩
            cases bi : bg K L v d i with
            | false =>
              rw [bi] at take
              refine ⟨fun z => absurd rfl z, fun _ => ⟨fun z => take ?_, fun z => keep ?_⟩⟩
              · rw [nI_ltI (by omega) (by omega)] at z
                simp [rk, bq, bi]; omega
              · rw [nI_ltI (by omega) (by omega)] at z
                simp [rk, bq, bi]; omega
            | true =>
              rw [bi] at take
              exact ⟨fun _ => take (by simp [rk, bq, bi]; omega), fun z => absurd z (by decide)⟩
          | true =>
            rw [bq] at keep
            refine ⟨fun z => absurd z (by decide), fun _ => ?_⟩
            cases bi : bg K L v d i with
            | false => exact ⟨fun _ => keep (by simp [rk, bq, bi]; omega), fun z => absurd rfl z⟩
            | true =>
              rw [bi] at take
              refine ⟨fun z => absurd z (by decide), fun _ => ⟨fun z => absurd rfl z, fun _ => ⟨fun z => take ?_, fun z => keep ?_⟩⟩⟩
              · rw [nI_ltI (by omega) (by omega)] at z
                simp [rk, bq, bi]; omega
              · rw [nI_ltI (by omega) (by omega)] at z
                simp [rk, bq, bi]; omega
      · rw [gvr_m1 h8] at c4
        simp [okp, c4]
theorem M_asks {d : Nat} (hz : Sz N K P v) (hL0 : v 24 0 34 = nI L) (hL : L ≤ 400) (iR : Rd N K P L v) (iF : Fr N K v) (hd0 : d < 12) (h0 : pp N K P L v d = none → se N K P L v d = none → post 0 v) (h1 : ∀ p, pp N K P L v d = some p → wp_X10_sends (eI (gvr P v d p (ob (bd K L v d p)) none)) (nI d) (nI p) (eI (nb K L v d p)) v (fun v15 => post (1 : Int32) v15)) (h2 : ∀ p b, pp N K P L v d = none → se N K P L v d = some p → fb K P L v d p = some b → wp_X10_sends (eI (gvr P v d p none (so L v d p b))) (nI d) (nI p) (nI b) v (fun v15 => post (1 : Int32) v15)) : wp_X10_asks (nI d) v post := by
  have h5 := hz.2.2.2.2.1
  exact M_asks_L hz hL0 hL iR iF hd0 (fun z => M_169 hz hL0 hL iR hd0 (h0 z) (fun p b a1 a2 => h2 p b z a1 a2) N 0 FU (by omega) (fu N (by omega)) rfl) h1 N 0 FU none 0 0 (by omega) (fu N (by omega)) (fun c hc => by cases hc) rfl
end ASK2
