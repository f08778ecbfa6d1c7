/-! Member(), Crowd(), PieceSwarm() -/
/-- a member's ten cells: b 0 itself, b 1 its store with b 2, b 3, b 4, b 5 its ties with b 6 .. b 9 -/
def memL (G : Geo) (b : Nat → Nat) : va_W := [(b 0, .inr (3, [.ref (b 1), .ref (b 5), .int 0, .int 0, .int 0, .int 2, .int (-1), .int 0, .int 0, .int 0, .int 0, .int 0, .int 0])), (b 1, .inr (6, [.ref (b 2), .ref (b 3), .ref (b 4), .int 0, .int 0, .int 0])), (b 2, mI G 96), (b 3, zI G 96), (b 4, zI G 96), (b 5, .inr (7, [.ref (b 6), .ref (b 7), .ref (b 8), .ref (b 9), .int 0, .int 0, .int 0, .int 0, .int (-1), .int (-1)])), (b 6, zI G 12), (b 7, zI G 12), (b 8, zI G 12), (b 9, zI G 12)]
theorem in_X3_init_X3 : ∀ w ∈ wsX30, w ∈ wsX3_init := by decide +kernel
theorem in_X3_init_X6 : ∀ w ∈ wsX60, w ∈ wsX3_init := by decide +kernel
theorem in_X3_init_X7 : ∀ w ∈ wsX70, w ∈ wsX3_init := by decide +kernel
theorem ff_X3_init_12 : FF wsX3_init RX3 12 3 0 true (.object "PieceSwarm$Store") := ⟨RX3, TX3, 13, tyX3, rfl, by decide, in_X3_init_X3, by decide +kernel, tyX3_ok, nmX3, rfl, by decide +kernel, rfl⟩
theorem ff_X3_init_21 : FF wsX3_init RX3 21 3 1 true (.object "PieceSwarm$Ties") := ⟨RX3, TX3, 13, tyX3, rfl, by decide, in_X3_init_X3, by decide +kernel, tyX3_ok, nmX3, rfl, by decide +kernel, rfl⟩
theorem ff_X3_init_25 : FF wsX3_init RX3 25 3 5 false .int := ⟨RX3, TX3, 13, tyX3, rfl, by decide, in_X3_init_X3, by decide +kernel, tyX3_ok, nmX3, rfl, by decide +kernel, rfl⟩
theorem ff_X3_init_29 : FF wsX3_init RX3 29 3 6 false .int := ⟨RX3, TX3, 13, tyX3, rfl, by decide, in_X3_init_X3, by decide +kernel, tyX3_ok, nmX3, rfl, by decide +kernel, rfl⟩
set_option maxHeartbeats 4000000 in
set_option maxRecDepth 100000 in
/-- Member() -/
theorem cm_X3 (l : Launch) (G : Geo) (h : Nat) : CM l G yX3_init wsX3_init 2 9 352 [.ref h] [(h, .inr (3, [.null, .null, .int 0, .int 0, .int 0, .int 0, .int 0, .int 0, .int 0, .int 0, .int 0, .int 0, .int 0]))] (fun Lm => ∃ b : Nat → Nat, b 0 = h ∧ Lm = memL G b) := by
  refine CM.of (cc := cX3_init) (maxL := 1) (by decide) rfl rfl (Nat.le_of_ble_eq_true rfl) ?_
  intro A X o hi rt
  refine k_aload_n o dX3_init_0 rfl ?_
  refine k_obj o (by decide +kernel) (by decide +kernel) (by decide +kernel) (by decide) dX3_init_1 ?_
  refine k_aload_n o dX3_init_4 rfl ?_
  refine k_new o (ci := 6) [.null, .null, .null, .int 0, .int 0, .int 0] rfl in_X3_init_X6 tyX6_ok (by decide +kernel) (by decide +kernel) (by decide +kernel) (by decide +kernel) (Nat.le_of_ble_eq_true rfl) (Nat.le_of_ble_eq_true rfl) dX3_init_5 (fun qs => ?_)
  refine k_dup o dX3_init_8 rfl ?_
  refine k_init o [] (cm_X6 l G qs) gX3_init_X6_init rfl (by decide +kernel) (by decide +kernel) (by decide +kernel) rfl (by decide +kernel) (by decide) (by decide) (Nat.le_of_ble_eq_true rfl) (Nat.le_of_ble_eq_true rfl) rfl (Nat.le_of_ble_eq_true rfl) dX3_init_9 ?_
  rintro _ ⟨s1, s2, s3, rfl⟩
  refine k_putF o hi ff_X3_init_12 rfl rfl (q0 := 0) rfl (Nat.le_of_ble_eq_true rfl) dX3_init_12 (L' := [(h, .inr (3, [.ref qs, .null, .int 0, .int 0, .int 0, .int 0, .int 0, .int 0, .int 0, .int 0, .int 0, .int 0, .int 0])), (qs, .inr (6, [.ref s1, .ref s2, .ref s3, .int 0, .int 0, .int 0])), (s1, mI G 96), (s2, zI G 96), (s3, zI G 96)]) rfl ?_
  refine k_aload_n o dX3_init_15 rfl ?_
  refine k_new o (ci := 7) [.null, .null, .null, .null, .int 0, .int 0, .int 0, .int 0, .int 0, .int 0] rfl in_X3_init_X7 tyX7_ok (by decide +kernel) (by decide +kernel) (by decide +kernel) (by decide +kernel) (Nat.le_of_ble_eq_true rfl) (Nat.le_of_ble_eq_true rfl) dX3_init_16 (fun qt => ?_)
  refine k_dup o dX3_init_19 rfl ?_
  refine k_init o [] (cm_X7 l G qt) gX3_init_X7_init rfl (by decide +kernel) (by decide +kernel) (by decide +kernel) rfl (by decide +kernel) (by decide) (by decide) (Nat.le_of_ble_eq_true rfl) (Nat.le_of_ble_eq_true rfl) rfl (Nat.le_of_ble_eq_true rfl) dX3_init_20 ?_
  rintro _ ⟨t1, t2, t3, t4, rfl⟩
  refine k_putF o hi ff_X3_init_21 rfl rfl (q0 := 0) rfl (Nat.le_of_ble_eq_true rfl) dX3_init_23 (L' := (h, .inr (3, [.ref qs, .ref qt, .int 0, .int 0, .int 0, .int 0, .int 0, .int 0, .int 0, .int 0, .int 0, .int 0, .int 0])) :: (memL G (fun j => ([h, qs, s1, s2, s3, qt, t1, t2, t3, t4] : List Nat).getD j 0)).tail) rfl ?_
  refine k_aload_n o dX3_init_26 rfl ?_
  refine k_iconst o dX3_init_27 (x := 2) (by decide) ?_
  refine k_put o ff_X3_init_25 (q0 := 0) rfl (Nat.le_of_ble_eq_true rfl) dX3_init_28 (L' := (h, .inr (3, [.ref qs, .ref qt, .int 0, .int 0, .int 0, .int 2, .int 0, .int 0, .int 0, .int 0, .int 0, .int 0, .int 0])) :: (memL G (fun j => ([h, qs, s1, s2, s3, qt, t1, t2, t3, t4] : List Nat).getD j 0)).tail) rfl ?_
  refine k_aload_n o dX3_init_31 rfl ?_
  refine k_iconst o dX3_init_32 (x := -1) (by decide) ?_
  refine k_put o ff_X3_init_29 (q0 := 0) rfl (Nat.le_of_ble_eq_true rfl) dX3_init_33 (L' := memL G (fun j => ([h, qs, s1, s2, s3, qt, t1, t2, t3, t4] : List Nat).getD j 0)) rfl ?_
  exact k_ret o rt (Nat.le_of_ble_eq_true rfl) (Nat.le_of_ble_eq_true rfl) dX3_init_36 ⟨_, rfl, rfl⟩
/-- the members made so far -/
def membs (G : Geo) (a : Nat → Nat → Nat) : Nat → va_W
  | 0 => []
  | i + 1 => membs G a i ++ memL G (a i)
theorem membs_cong (G : Geo) {a a' : Nat → Nat → Nat} : ∀ i : Nat, (∀ d, d < i → a d = a' d) → membs G a i = membs G a' i
  | 0, _ => rfl
  | i + 1, h => by
    show membs G a i ++ memL G (a i) = membs G a' i ++ memL G (a' i)
    rw [membs_cong G i (fun d hd => h d (by omega)), h i (by omega)]
/-- the crowd's own ten cells; t: itself, the file, the road with its six rows, the members' row, which holds f -/
def crowB (G : Geo) (c wh rd r1 r2 r3 r4 r5 r6 mr : Nat) (f : Nat → Option Nat) : va_W := [(c, .inr (2, [.ref wh, .ref mr, .ref rd, .int 0, .int 0, .int 0, .int 0, .int 0])), (wh, .inr (8, [.int 1, .int 1, .int 0])), (rd, .inr (5, [.ref r1, .ref r2, .ref r3, .ref r4, .ref r5, .ref r6, .int 0])), (r1, zI G 192), (r2, zI G 192), (r3, zI G 192), (r4, zI G 192), (r5, zI G 192), (r6, zI G 192), (mr, .inl (G.2.2.2.2, 12, .inr (.inr (.inr (.inr f)))))]
def CrowL (G : Geo) (c : Nat) (Lm : va_W) : Prop := ∃ (wh rd r1 r2 r3 r4 r5 r6 mr : Nat) (a : Nat → Nat → Nat), Lm = crowB G c wh rd r1 r2 r3 r4 r5 r6 mr (fun j => some (a j 0)) ++ membs G a 12
theorem in_X2_init_X2 : ∀ w ∈ wsX20, w ∈ wsX2_init := by decide +kernel
theorem in_X2_init_X8 : ∀ w ∈ wsX80, w ∈ wsX2_init := by decide +kernel
theorem in_X2_init_X5 : ∀ w ∈ wsX50, w ∈ wsX2_init := by decide +kernel
theorem in_X2_init_X3 : ∀ w ∈ wsX30, w ∈ wsX2_init := by decide +kernel
theorem ff_X2_init_12 : FF wsX2_init RX2 12 2 0 true (.object "PieceSwarm$Whole") := ⟨RX2, TX2, 8, tyX2, rfl, by decide, in_X2_init_X2, by decide +kernel, tyX2_ok, nmX2, rfl, by decide +kernel, rfl⟩
theorem ff_X2_init_21 : FF wsX2_init RX2 21 2 2 true (.object "PieceSwarm$Road") := ⟨RX2, TX2, 8, tyX2, rfl, by decide, in_X2_init_X2, by decide +kernel, tyX2_ok, nmX2, rfl, by decide +kernel, rfl⟩
theorem ff_X2_init_27 : FF wsX2_init RX2 27 2 1 true (.array (.object "PieceSwarm$Member")) := ⟨RX2, TX2, 8, tyX2, rfl, by decide, in_X2_init_X2, by decide +kernel, tyX2_ok, nmX2, rfl, by decide +kernel, rfl⟩
set_option maxHeartbeats 4000000 in
set_option maxRecDepth 100000 in
theorem cm_X2_loop {l : Launch} {A : Nat → Prop} {G : Geo} {X : CT} {h wh rd r1 r2 r3 r4 r5 r6 mr : Nat} (o : OKC A G X cX2_init wsX2_init RX2 3 2 129 5554) (rt : RC A G X 129 5554 (CrowL G h)) : ∀ (n i : Nat) (a : Nat → Nat → Nat) (f : Nat → Option Nat), i + n = 12 → (∀ j, j < i → f j = some (a j 0)) → JC l A G X (9 + 10 * i) (1174 + 365 * i) 37 [(1, .int (nI i)), (0, .ref h)] [] (crowB G h wh rd r1 r2 r3 r4 r5 r6 mr f ++ membs G a i)
  | n, i, a, f, e, hf => by
    refine k_iload_n o dX2_init_37 rfl ?_
    refine k_bipush o dX2_init_38 (x := nI 12) (by decide) ?_
    refine k_ic_ge o 62 dX2_init_40 (by decide) (fun c => ?_) (fun c => ?_)
    · have hi : i = 12 := by
        rw [nI_leI (by omega) (by omega)] at c
        omega
      subst hi
      refine k_same 9 rfl (cell_congQ (g := fun j => some (a j 0)) hf) (L' := crowB G h wh rd r1 r2 r3 r4 r5 r6 mr (fun j => some (a j 0)) ++ membs G a 12) rfl ?_
      exact k_ret o rt (by omega) (by omega) dX2_init_62 ⟨wh, rd, r1, r2, r3, r4, r5, r6, mr, a, rfl⟩
    · have hi : i < 12 := by
        rw [nI_leI (by omega) (by omega)] at c
        omega
      refine k_aload_n o dX2_init_43 rfl ?_
      refine k_get o ff_X2_init_27 (q0 := 0) rfl (v := .ref mr) rfl dX2_init_44 ?_
      refine k_iload_n o dX2_init_47 rfl ?_
      refine k_new o (ci := 3) [.null, .null, .int 0, .int 0, .int 0, .int 0, .int 0, .int 0, .int 0, .int 0, .int 0, .int 0, .int 0] rfl in_X2_init_X3 tyX3_ok (by decide +kernel) (by decide +kernel) (by decide +kernel) (by decide +kernel) (by omega) (by omega) dX2_init_48 (fun q => ?_)
      refine k_dup o dX2_init_51 rfl ?_
      refine k_init o [] (cm_X3 l G q) gX2_init_X3_init rfl (by decide +kernel) (by decide +kernel) (by decide +kernel) rfl (by decide +kernel) (by decide) (by decide) (by omega) (by omega) rfl (Nat.le_of_ble_eq_true rfl) dX2_init_52 ?_
      rintro _ ⟨b, hb0, rfl⟩
      have hpos : ((crowB G h wh rd r1 r2 r3 r4 r5 r6 mr f ++ membs G a i) ++ memL G b)[(crowB G h wh rd r1 r2 r3 r4 r5 r6 mr f ++ membs G a i).length]? = some (q, .inr (3, [.ref (b 1), .ref (b 5), .int 0, .int 0, .int 0, .int 2, .int (-1), .int 0, .int 0, .int 0, .int 0, .int 0, .int 0])) := by
        rw [List.getElem?_append_right (Nat.le_refl _), Nat.sub_self, ← hb0]
        rfl
      refine k_aast o (q0 := 9) (i := i) rfl hpos hi (by decide) rfl dX2_init_55 (L' := crowB G h wh rd r1 r2 r3 r4 r5 r6 mr (va_up f i (some q)) ++ membs G a i ++ memL G b) rfl ?_
      refine k_iinc o (y := nI (i + 1)) dX2_init_56 rfl (nI_1 i) (by decide) (lv' := [(1, .int (nI (i + 1))), (0, .ref h)]) rfl ?_
      refine k_goto o 37 dX2_init_59 (by decide) ?_
      refine k_widen (k' := 9 + 10 * (i + 1)) (w' := 1174 + 365 * (i + 1)) (by omega) (by omega) ?_
      have nx := cm_X2_loop (l := l) (wh := wh) (rd := rd) (r1 := r1) (r2 := r2) (r3 := r3) (r4 := r4) (r5 := r5) (r6 := r6) (mr := mr) o rt (n - 1) (i + 1) (fun d => if d = i then b else a d) (va_up f i (some q)) (by omega) (fun j hj => by
        unfold va_up
        by_cases c2 : j = i
        · rw [if_pos c2, if_pos c2, hb0]
        · rw [if_neg c2, if_neg c2]; exact hf j (by omega))
      have e2 : membs G (fun d => if d = i then b else a d) (i + 1) = membs G a i ++ memL G b := by
        show membs G (fun d => if d = i then b else a d) i ++ memL G (if i = i then b else a i) = _
        rw [if_pos rfl, membs_cong G i (fun d hd => by rw [if_neg (by omega)])]
      rw [e2, ← List.append_assoc] at nx
      exact nx
termination_by n => n
decreasing_by omega
set_option maxHeartbeats 4000000 in
set_option maxRecDepth 100000 in
/-- Crowd() -/
theorem cm_X2 (l : Launch) (G : Geo) (h : Nat) : CM l G yX2_init wsX2_init 3 129 5554 [.ref h] [(h, .inr (2, [.null, .null, .null, .int 0, .int 0, .int 0, .int 0, .int 0]))] (CrowL G h) := by
  refine CM.of (cc := cX2_init) (maxL := 2) (by decide) rfl rfl (Nat.le_of_ble_eq_true rfl) ?_
  intro A X o hi rt
  refine k_aload_n o dX2_init_0 rfl ?_
  refine k_obj o (by decide +kernel) (by decide +kernel) (by decide +kernel) (by decide) dX2_init_1 ?_
  refine k_aload_n o dX2_init_4 rfl ?_
  refine k_new o (ci := 8) [.int 0, .int 0, .int 0] rfl in_X2_init_X8 tyX8_ok (by decide +kernel) (by decide +kernel) (by decide +kernel) (by decide +kernel) (Nat.le_of_ble_eq_true rfl) (Nat.le_of_ble_eq_true rfl) dX2_init_5 (fun wh => ?_)
  refine k_dup o dX2_init_8 rfl ?_
  refine k_init o [] (cm_X8 l G wh) gX2_init_X8_init rfl (by decide +kernel) (by decide +kernel) (by decide +kernel) rfl (by decide +kernel) (by decide) (by decide) (Nat.le_of_ble_eq_true rfl) (Nat.le_of_ble_eq_true rfl) rfl (Nat.le_of_ble_eq_true rfl) dX2_init_9 ?_
  rintro _ rfl
  refine k_putF o hi ff_X2_init_12 rfl rfl (q0 := 0) rfl (Nat.le_of_ble_eq_true rfl) dX2_init_12 (L' := [(h, .inr (2, [.ref wh, .null, .null, .int 0, .int 0, .int 0, .int 0, .int 0])), (wh, .inr (8, [.int 1, .int 1, .int 0]))]) rfl ?_
  refine k_aload_n o dX2_init_15 rfl ?_
  refine k_new o (ci := 5) [.null, .null, .null, .null, .null, .null, .int 0] rfl in_X2_init_X5 tyX5_ok (by decide +kernel) (by decide +kernel) (by decide +kernel) (by decide +kernel) (Nat.le_of_ble_eq_true rfl) (Nat.le_of_ble_eq_true rfl) dX2_init_16 (fun rd => ?_)
  refine k_dup o dX2_init_19 rfl ?_
  refine k_init o [] (cm_X5 l G rd) gX2_init_X5_init rfl (by decide +kernel) (by decide +kernel) (by decide +kernel) rfl (by decide +kernel) (by decide) (by decide) (Nat.le_of_ble_eq_true rfl) (Nat.le_of_ble_eq_true rfl) rfl (Nat.le_of_ble_eq_true rfl) dX2_init_20 ?_
  rintro _ ⟨r1, r2, r3, r4, r5, r6, rfl⟩
  refine k_putF o hi ff_X2_init_21 rfl rfl (q0 := 0) rfl (Nat.le_of_ble_eq_true rfl) dX2_init_23 (L' := [(h, .inr (2, [.ref wh, .null, .ref rd, .int 0, .int 0, .int 0, .int 0, .int 0])), (wh, .inr (8, [.int 1, .int 1, .int 0])), (rd, .inr (5, [.ref r1, .ref r2, .ref r3, .ref r4, .ref r5, .ref r6, .int 0])), (r1, zI G 192), (r2, zI G 192), (r3, zI G 192), (r4, zI G 192), (r5, zI G 192), (r6, zI G 192)]) rfl ?_
  refine k_aload_n o dX2_init_26 rfl ?_
  refine k_bipush o dX2_init_27 (x := nI 12) (by decide) ?_
  refine k_newM o 12 (by decide +kernel) rfl (by decide) (Nat.le_of_ble_eq_true rfl) (Nat.le_of_ble_eq_true rfl) dX2_init_29 (fun mr => ?_)
  refine k_putF o hi ff_X2_init_27 rfl rfl (q0 := 0) rfl (Nat.le_of_ble_eq_true rfl) dX2_init_32 (L' := crowB G h wh rd r1 r2 r3 r4 r5 r6 mr (fun _ => none) ++ membs G (fun _ _ => 0) 0) rfl ?_
  refine k_iconst o dX2_init_35 (x := 0) (by decide) ?_
  refine k_istore_n o dX2_init_36 (by decide) (lv' := [(1, .int (nI 0)), (0, .ref h)]) rfl ?_
  exact cm_X2_loop o rt 12 0 (fun _ _ => 0) (fun _ => none) rfl (fun j hj => absurd hj (Nat.not_lt_zero _))
/-- the class's cells -/
def FaceL (G : Geo) (x : Nat) (Lm : va_W) : Prop := ∃ (c ar op as : Nat) (Lc : va_W), CrowL G c Lc ∧ Lm = ((x, .inr (9, [.ref c, .ref ar, .ref op, .ref as])) :: Lc) ++ [(ar, .inr (0, [.ref c]))] ++ [(op, .inr (4, [.ref c]))] ++ [(as, .inr (1, [.ref c]))]
theorem in_X9_init_X9 : ∀ w ∈ wsX90, w ∈ wsX9_init := by decide +kernel
theorem in_X9_init_X2 : ∀ w ∈ wsX20, w ∈ wsX9_init := by decide +kernel
theorem in_X9_init_X0 : ∀ w ∈ wsX00, w ∈ wsX9_init := by decide +kernel
theorem in_X9_init_X4 : ∀ w ∈ wsX40, w ∈ wsX9_init := by decide +kernel
theorem in_X9_init_X1 : ∀ w ∈ wsX10, w ∈ wsX9_init := by decide +kernel
theorem ff_X9_init_10 : FF wsX9_init RX9 10 9 0 true (.object "PieceSwarm$Crowd") := ⟨RX9, TX9, 4, tyX9, rfl, by decide, in_X9_init_X9, by decide +kernel, tyX9_ok, nmX9, rfl, by decide +kernel, rfl⟩
theorem ff_X9_init_21 : FF wsX9_init RX9 21 9 1 true (.object "PieceSwarm$Arrival") := ⟨RX9, TX9, 4, tyX9, rfl, by decide, in_X9_init_X9, by decide +kernel, tyX9_ok, nmX9, rfl, by decide +kernel, rfl⟩
theorem ff_X9_init_28 : FF wsX9_init RX9 28 9 2 true (.object "PieceSwarm$Opening") := ⟨RX9, TX9, 4, tyX9, rfl, by decide, in_X9_init_X9, by decide +kernel, tyX9_ok, nmX9, rfl, by decide +kernel, rfl⟩
theorem ff_X9_init_35 : FF wsX9_init RX9 35 9 3 true (.object "PieceSwarm$Asking") := ⟨RX9, TX9, 4, tyX9, rfl, by decide, in_X9_init_X9, by decide +kernel, tyX9_ok, nmX9, rfl, by decide +kernel, rfl⟩
set_option maxHeartbeats 4000000 in
set_option maxRecDepth 100000 in
/-- PieceSwarm() -/
theorem cm_X9 (l : Launch) (G : Geo) (h : Nat) : CM l G yX9_init wsX9_init 4 133 5565 [.ref h] [(h, .inr (9, [.null, .null, .null, .null]))] (FaceL G h) := by
  refine CM.of (cc := cX9_init) (maxL := 1) (by decide) rfl rfl (Nat.le_of_ble_eq_true rfl) ?_
  intro A X o hi rt
  refine k_aload_n o dX9_init_0 rfl ?_
  refine k_obj o (by decide +kernel) (by decide +kernel) (by decide +kernel) (by decide) dX9_init_1 ?_
  refine k_aload_n o dX9_init_4 rfl ?_
  refine k_new o (ci := 2) [.null, .null, .null, .int 0, .int 0, .int 0, .int 0, .int 0] rfl in_X9_init_X2 tyX2_ok (by decide +kernel) (by decide +kernel) (by decide +kernel) (by decide +kernel) (Nat.le_of_ble_eq_true rfl) (Nat.le_of_ble_eq_true rfl) dX9_init_5 (fun c => ?_)
  refine k_dup o dX9_init_8 rfl ?_
  refine k_init o [] (cm_X2 l G c) gX9_init_X2_init rfl (by decide +kernel) (by decide +kernel) (by decide +kernel) rfl (by decide +kernel) (by decide) (by decide) (Nat.le_of_ble_eq_true rfl) (Nat.le_of_ble_eq_true rfl) rfl (Nat.le_of_ble_eq_true rfl) dX9_init_9 ?_
  intro Lc hLc
  refine k_putF o hi ff_X9_init_10 rfl rfl (q0 := 0) rfl (Nat.le_of_ble_eq_true rfl) dX9_init_12 (L' := (h, .inr (9, [.ref c, .null, .null, .null])) :: Lc) rfl ?_
  refine k_aload_n o dX9_init_15 rfl ?_
  refine k_new o (ci := 0) [.null] rfl in_X9_init_X0 tyX0_ok (by decide +kernel) (by decide +kernel) (by decide +kernel) (by decide +kernel) (Nat.le_of_ble_eq_true rfl) (Nat.le_of_ble_eq_true rfl) dX9_init_16 (fun ar => ?_)
  refine k_dup o dX9_init_19 rfl ?_
  refine k_aload_n o dX9_init_20 rfl ?_
  refine k_get o ff_X9_init_10 (q0 := 0) rfl (v := .ref c) rfl dX9_init_21 ?_
  refine k_init o [.ref c] (cm_X0 l G ar c) gX9_init_X0_init rfl (by decide +kernel) (by decide +kernel) (by decide +kernel) rfl ⟨by decide +kernel, by decide +kernel, (by decide +kernel : (parseMethodDescriptor yX0_init.desc).map (fun d => d.parameters.length) = some 1)⟩ (by decide) (by decide) (Nat.le_of_ble_eq_true rfl) (Nat.le_of_ble_eq_true rfl) rfl (Nat.le_of_ble_eq_true rfl) dX9_init_24 ?_
  rintro _ rfl
  refine k_putF o hi ff_X9_init_21 rfl rfl (q0 := 0) rfl (Nat.le_of_ble_eq_true rfl) dX9_init_27 (L' := ((h, .inr (9, [.ref c, .ref ar, .null, .null])) :: Lc) ++ [(ar, .inr (0, [.ref c]))]) rfl ?_
  refine k_aload_n o dX9_init_30 rfl ?_
  refine k_new o (ci := 4) [.null] rfl in_X9_init_X4 tyX4_ok (by decide +kernel) (by decide +kernel) (by decide +kernel) (by decide +kernel) (Nat.le_of_ble_eq_true rfl) (Nat.le_of_ble_eq_true rfl) dX9_init_31 (fun op => ?_)
  refine k_dup o dX9_init_34 rfl ?_
  refine k_aload_n o dX9_init_35 rfl ?_
  refine k_get o ff_X9_init_10 (q0 := 0) rfl (v := .ref c) rfl dX9_init_36 ?_
  refine k_init o [.ref c] (cm_X4 l G op c) gX9_init_X4_init rfl (by decide +kernel) (by decide +kernel) (by decide +kernel) rfl ⟨by decide +kernel, by decide +kernel, (by decide +kernel : (parseMethodDescriptor yX4_init.desc).map (fun d => d.parameters.length) = some 1)⟩ (by decide) (by decide) (Nat.le_of_ble_eq_true rfl) (Nat.le_of_ble_eq_true rfl) rfl (Nat.le_of_ble_eq_true rfl) dX9_init_39 ?_
  rintro _ rfl
  refine k_putF o hi ff_X9_init_28 rfl rfl (q0 := 0) rfl (Nat.le_of_ble_eq_true rfl) dX9_init_42 (L' := ((h, .inr (9, [.ref c, .ref ar, .ref op, .null])) :: Lc) ++ [(ar, .inr (0, [.ref c]))] ++ [(op, .inr (4, [.ref c]))]) rfl ?_
  refine k_aload_n o dX9_init_45 rfl ?_
  refine k_new o (ci := 1) [.null] rfl in_X9_init_X1 tyX1_ok (by decide +kernel) (by decide +kernel) (by decide +kernel) (by decide +kernel) (Nat.le_of_ble_eq_true rfl) (Nat.le_of_ble_eq_true rfl) dX9_init_46 (fun as => ?_)
  refine k_dup o dX9_init_49 rfl ?_
  refine k_aload_n o dX9_init_50 rfl ?_
  refine k_get o ff_X9_init_10 (q0 := 0) rfl (v := .ref c) rfl dX9_init_51 ?_
  refine k_init o [.ref c] (cm_X1 l G as c) gX9_init_X1_init rfl (by decide +kernel) (by decide +kernel) (by decide +kernel) rfl ⟨by decide +kernel, by decide +kernel, (by decide +kernel : (parseMethodDescriptor yX1_init.desc).map (fun d => d.parameters.length) = some 1)⟩ (by decide) (by decide) (Nat.le_of_ble_eq_true rfl) (Nat.le_of_ble_eq_true rfl) rfl (Nat.le_of_ble_eq_true rfl) dX9_init_54 ?_
  rintro _ rfl
  refine k_putF o hi ff_X9_init_35 rfl rfl (q0 := 0) rfl (Nat.le_of_ble_eq_true rfl) dX9_init_57 (L' := ((h, .inr (9, [.ref c, .ref ar, .ref op, .ref as])) :: Lc) ++ [(ar, .inr (0, [.ref c]))] ++ [(op, .inr (4, [.ref c]))] ++ [(as, .inr (1, [.ref c]))]) rfl ?_
  exact k_ret o rt (Nat.le_of_ble_eq_true rfl) (Nat.le_of_ble_eq_true rfl) dX9_init_60 ⟨c, ar, op, as, Lc, hLc, rfl⟩
