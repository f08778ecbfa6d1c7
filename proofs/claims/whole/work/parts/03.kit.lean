theorem kL_lt (k : Nat) : kL k < 2000 := by
  unfold kL
  cases h : kLs[k]? with
  | none => simp
  | some x =>
    have h1 : ∀ x ∈ kLs, x < 2000 := by decide +kernel
    exact h1 x (List.mem_of_getElem? h)
/-- what the tables say of field j of object kind k, named by entry idx of the class own: q 0 a whole number, else the kind referred to -/
def SF (Ts : List Cond) (own : String) (idx k j q : Nat) : Prop := ∃ (C : String) (T : u_T) (N : Nat), kL k = 0 ∧ Nat.beq k 13 = false ∧ (kF k)[j]? = some q ∧ vwCl[kC k]? = some (C, T, N) ∧ j < N ∧ (∀ w ∈ u_ws C T N, w ∈ Ts) ∧ Cond.fieldLink own idx (T j).1 (T j).2.1 (T j).2.2.1 ∈ Ts
/-- and what may be written there -/
def SP (Ts : List Cond) (own : String) (idx k j : Nat) : Prop := ∃ (C : String) (T : u_T) (N : Nat) (ty0 : Nat → FieldType), kL k = 0 ∧ Nat.beq k 13 = false ∧ (kF k)[j]? = some 0 ∧ vwCl[kC k]? = some (C, T, N) ∧ j < N ∧ (∀ w ∈ u_ws C T N, w ∈ Ts) ∧ Cond.fieldLink own idx (T j).1 (T j).2.1 (T j).2.2.1 ∈ Ts ∧ (∀ a, a < N → parseFieldDescriptor (T a).2.2.1 = some (ty0 a)) ∧ (∀ a, a < N → ∀ b, b < N → a ≠ b → (T a).2.1 ≠ (T b).2.1) ∧ (T j).2.2.2 = false ∧ parseFieldDescriptor (T j).2.2.1 = some .int
def PreW (G : Geo) (v : St3) (U : State) : Prop := Apart G ∧ va_P (gD G) vwCl (wl G v) U.heap ∧ va_K (gD G) vwCl (gT G) U ∧ NW U
abbrev rL (n : Nat) : Room := { frames := n, cells := 0, slots := 0, locals := 36 * n }
def CI (l : Launch) (G : Geo) (y : MethodName) (ws : List Cond) (n : Nat) (as : List Value) (v : St3) (post : Int32 → St3 → Prop) : Prop :=
  Met l y ws (rL n) (va_Pc as (PreW G v)) (va_Qi post (fun u t => va_P (gD G) vwCl (wl G u) t.heap) (AG G)) 0 0 (AG G)
def CV (l : Launch) (G : Geo) (y : MethodName) (ws : List Cond) (n : Nat) (as : List Value) (v : St3) (post : St3 → Prop) : Prop :=
  Met l y ws (rL n) (va_Pc as (PreW G v)) (va_Qv post (fun u t => va_P (gD G) vwCl (wl G u) t.heap) (AG G)) 0 0 (AG G)
theorem PreW.blind {G : Geo} {v : St3} {as : List Value} : FrameBlind (va_Pc as (PreW G v)) := fun a U g mk q => by
  obtain ⟨e, hA, hP, hK, hN⟩ := q
  exact ⟨e, hA, hP, va_K.moved (u := U) (U := U.calling g mk a) (Vm.Alike.refl U.vm) hK, fun w hw => va_Nw.same rfl rfl (hN w hw)⟩
def RI (G : Geo) (X : CT) (ty : FieldType) (post : Int32 → St3 → Prop) : Prop := (xM X).sig.returnType = some ty ∧ (xM X).locks = false ∧ xQ X = MQ (xb X) (va_Qi post (fun u t => va_P (gD G) vwCl (wl G u) t.heap) (AG G)) (xa X) (xs X) (xk X) (xw X) (AG G)
def RV (G : Geo) (X : CT) (post : St3 → Prop) : Prop := (xM X).sig.returnType = none ∧ (xM X).locks = false ∧ xQ X = MQ (xb X) (va_Qv post (fun u t => va_P (gD G) vwCl (wl G u) t.heap) (AG G)) (xa X) (xs X) (xk X) (xw X) (AG G)
theorem CI.of {l : Launch} {G : Geo} {y : MethodName} {ws ws' : List Cond} {n : Nat} {as : List Value} {v : St3} {post : Int32 → St3 → Prop} {cc : ByteArray} {maxL : Nat} {ty : FieldType} (hy : plainName y.cls = true) (hw : ws = Cond.code y cc maxL (some ty) :: ws') (hlen : (lg_sl as).length ≤ maxL)
    (body : ∀ X : CT, OK G X cc ws y.cls n maxL → RI G X ty post → J l G X 0 (lv_args 0 as) [] v) : CI l G y ws n as v post := by
  refine Met.ofW (cc := cc) (maxL := maxL) (ret := some ty) hy hw ?_
  intro p e s m args below meth c s₁ B hml hv
  obtain ⟨rfl, hA, hP, hK, hN⟩ := hv
  have hJ := body (p, e, (headSpec ws (rL n)).room, s, m, as.toArray, below, meth, c, maxL, 0, 0, MQ below (va_Qi post (fun u t => va_P (gD G) vwCl (wl G u) t.heap) (AG G)) as.toArray s 0 0 (AG G))
    ⟨B.exec, B.bytes, hml, findClass_of_methodNamed B.named, atoms_spec (ws := ws) B.pre, hK, hA, hN, ⟨Nat.le_refl _, Nat.le_refl _⟩, rfl, ⟨Nat.zero_le _, Nat.zero_le _⟩⟩ ⟨B.returns, B.notSynchronized, rfl⟩
  rw [lg_entry_eq]
  exact hJ s.heap [] _ (lv_entry as hlen) hP va_S.rf
theorem CV.of {l : Launch} {G : Geo} {y : MethodName} {ws ws' : List Cond} {n : Nat} {as : List Value} {v : St3} {post : St3 → Prop} {cc : ByteArray} {maxL : Nat} (hy : plainName y.cls = true) (hw : ws = Cond.code y cc maxL none :: ws') (hlen : (lg_sl as).length ≤ maxL)
    (body : ∀ X : CT, OK G X cc ws y.cls n maxL → RV G X post → J l G X 0 (lv_args 0 as) [] v) : CV l G y ws n as v post := by
  refine Met.ofW (cc := cc) (maxL := maxL) (ret := none) hy hw ?_
  intro p e s m args below meth c s₁ B hml hv
  obtain ⟨rfl, hA, hP, hK, hN⟩ := hv
  have hJ := body (p, e, (headSpec ws (rL n)).room, s, m, as.toArray, below, meth, c, maxL, 0, 0, MQ below (va_Qv post (fun u t => va_P (gD G) vwCl (wl G u) t.heap) (AG G)) as.toArray s 0 0 (AG G))
    ⟨B.exec, B.bytes, hml, findClass_of_methodNamed B.named, atoms_spec (ws := ws) B.pre, hK, hA, hN, ⟨Nat.le_refl _, Nat.le_refl _⟩, rfl, ⟨Nat.zero_le _, Nat.zero_le _⟩⟩ ⟨B.returns, B.notSynchronized, rfl⟩
  rw [lg_entry_eq]
  exact hJ s.heap [] _ (lv_entry as hlen) hP va_S.rf
section ROWS2
variable {l : Launch} {G : Geo} {X : CT} {cc : ByteArray} {Ts : List Cond} {own : String} {n nL : Nat} {pc : Nat} {lv : List (Nat × Value)} {st : List Value} {v : St3}
theorem q_top {x : Int32} (k : ∀ y : Int32, y = x → J l G X pc lv (.int y :: st) v) : J l G X pc lv (.int x :: st) v := k x rfl
theorem q_getI (o : OK G X cc Ts own n nL) {idx k i j : Nat} (f : SF Ts own idx k j 0) (hi : i < cnt k) (d : decode cc pc = .ok (.getfield idx, 3)) (kk : J l G X (pc + 3) lv (.int (v k i j) :: st) v) : J l G X pc lv (.ref (gA G k i) :: st) v := fun H locs ls hl hP hS => by
  obtain ⟨C, T, N, h1, h2, h3, h4, h5, h6, h7⟩ := f
  obtain ⟨q0, -, hq⟩ := wl_at G v hi
  rw [cE_obj h1 h2] at hq
  exact va_get (D := gD G) o.1 o.2.1 o.2.2.2.2.1 h6 o.2.2.2.1 o.2.2.2.2.2.1 hP q0 hq h4 j h5 (o.2.2.2.2.1 _ h7) (fun _ h9 => h9) (v := .int (v k i j)) (by rw [fl_get, h3]; simp [fv]) d (kk H locs ls hl hP hS)
theorem q_getR (o : OK G X cc Ts own n nL) {idx k i j q : Nat} (f : SF Ts own idx k j (q + 1)) (hi : i < cnt k) (d : decode cc pc = .ok (.getfield idx, 3)) (kk : J l G X (pc + 3) lv (.ref (gA G (q + 1) i) :: st) v) : J l G X pc lv (.ref (gA G k i) :: st) v := fun H locs ls hl hP hS => by
  obtain ⟨C, T, N, h1, h2, h3, h4, h5, h6, h7⟩ := f
  obtain ⟨q0, -, hq⟩ := wl_at G v hi
  rw [cE_obj h1 h2] at hq
  exact va_get (D := gD G) o.1 o.2.1 o.2.2.2.2.1 h6 o.2.2.2.1 o.2.2.2.2.2.1 hP q0 hq h4 j h5 (o.2.2.2.2.1 _ h7) (fun _ h9 => h9) (v := .ref (gA G (q + 1) i)) (by rw [fl_get, h3]; simp [fv]) d (kk H locs ls hl hP hS)
theorem q_putI (o : OK G X cc Ts own n nL) {idx k i j : Nat} {x : Int32} (f : SP Ts own idx k j) (hi : i < cnt k) (d : decode cc pc = .ok (.putfield idx, 3)) (kk : ∀ u : St3, u = up3 v k i j x → J l G X (pc + 3) lv st u) : J l G X pc lv (.int x :: .ref (gA G k i) :: st) v := fun H locs ls hl hP hS => by
  obtain ⟨C, T, N, ty0, h1, h2, h3, h4, h5, h6, h7, h8, h9, h10, h11⟩ := f
  obtain ⟨q0, hc, hq⟩ := wl_at G v hi
  rw [cE_obj h1 h2] at hq
  have hlt : j < (kF k).length := (List.getElem?_eq_some_iff.mp h3).1
  refine va_put (D := gD G) o.1 o.2.1 o.2.2.2.2.1 h6 ty0 h8 h9 o.2.2.2.1 o.2.2.2.2.2.1 hP (o.2.2.2.2.2.2.1.D v) hS q0 hq h4 j h5 (o.2.2.2.2.1 _ h7) (fun _ h9 => h9) h10 (v := .int x) h11 rfl rfl (by rw [fl_len]; exact hlt) d (fun H1 locs1 hP1 hD1 hS1 => ?_)
  rw [fl_set G v k i j (kF k) x h3, ← cE_obj (v := up3 v k i j x) (i := i) (G := G) h1 h2, wl_set hc (fun a b hab => up3_off hab)] at hP1
  exact kk _ rfl H1 locs1 ls hl hP1 hS1
theorem q_iald (o : OK G X cc Ts own n nL) {k i m a : Nat} {x : Int32} (hL : kL k = m + 1) (hz : kZ k = false) (hi : i < cnt k) (ha : a < m + 1) (hx : x = nI a) (d : decode cc pc = .ok (.iaload, 1)) (kk : J l G X (pc + 1) lv (.int (v k i a) :: st) v) : J l G X pc lv (.int x :: .ref (gA G k i) :: st) v := fun H locs ls hl hP hS => by
  obtain ⟨q0, -, hq⟩ := wl_at G v hi
  rw [cE_arr hL, hz, cond_false] at hq
  have hb := kL_lt k
  subst hx
  refine va_iald (D := gD G) o.1 o.2.1 o.2.2.2.2.2.1 hP q0 0 hq rfl (vp_in_nI ha (by omega)) d ?_
  rw [nI_clamp (by omega)]
  exact kk H locs ls hl hP hS
theorem q_zald (o : OK G X cc Ts own n nL) {k i m a : Nat} {x : Int32} (hL : kL k = m + 1) (hz : kZ k = true) (hi : i < cnt k) (ha : a < m + 1) (hx : x = nI a) (d : decode cc pc = .ok (.baload, 1)) (kk : J l G X (pc + 1) lv (.int (v k i a) :: st) v) : J l G X pc lv (.int x :: .ref (gA G k i) :: st) v := fun H locs ls hl hP hS => by
  obtain ⟨q0, -, hq⟩ := wl_at G v hi
  rw [cE_arr hL, hz, cond_true] at hq
  have hb := kL_lt k
  subst hx
  refine va_zald (D := gD G) o.1 o.2.1 o.2.2.2.2.2.1 hP q0 1 hq rfl (vp_in_nI ha (by omega)) d ?_
  rw [nI_clamp (by omega)]
  exact kk H locs ls hl hP hS
theorem q_iast (o : OK G X cc Ts own n nL) {k i m a : Nat} {x y : Int32} (hL : kL k = m + 1) (hz : kZ k = false) (hi : i < cnt k) (ha : a < m + 1) (hx : x = nI a) (d : decode cc pc = .ok (.iastore, 1)) (kk : ∀ u : St3, u = up3 v k i a y → J l G X (pc + 1) lv st u) : J l G X pc lv (.int y :: .int x :: .ref (gA G k i) :: st) v := fun H locs ls hl hP hS => by
  obtain ⟨q0, hc, hq⟩ := wl_at G v hi
  have hq1 := hq
  rw [cE_arr hL, hz, cond_false] at hq
  have hb := kL_lt k
  subst hx
  refine va_iast (D := gD G) o.1 o.2.1 o.2.2.2.2.2.1 hP (o.2.2.2.2.2.2.1.D v) hS q0 0 hq rfl (vp_in_nI ha (by omega)) d (fun H1 locs1 hP1 hD1 hS1 => ?_)
  rw [nI_clamp (by omega), ← up3_row] at hP1
  have e : cE G (up3 v k i a y) k i = .inl (G.2.2.1, m + 1, .inl (up3 v k i a y k i)) := by rw [cE_arr hL, hz, cond_false]
  rw [← e, wl_set hc (fun a b hab => up3_off hab)] at hP1
  exact kk _ rfl H1 locs1 ls hl hP1 hS1
theorem nar_z {x : Int32} (h : x = 0 ∨ x = 1) : vp_nar .boolean x = x := by rcases h with rfl | rfl <;> rfl
theorem nar_z2 {x : Int32} (h : x = 0 ∨ x = 1) : narrow .boolean (.int x) = .int x := by rcases h with rfl | rfl <;> rfl
theorem q_zast (o : OK G X cc Ts own n nL) {k i m a : Nat} {x y : Int32} (hL : kL k = m + 1) (hz : kZ k = true) (hi : i < cnt k) (ha : a < m + 1) (hx : x = nI a) (hy : y = 0 ∨ y = 1) (d : decode cc pc = .ok (.bastore, 1)) (kk : ∀ u : St3, u = up3 v k i a y → J l G X (pc + 1) lv st u) : J l G X pc lv (.int y :: .int x :: .ref (gA G k i) :: st) v := fun H locs ls hl hP hS => by
  obtain ⟨q0, hc, hq⟩ := wl_at G v hi
  rw [cE_arr hL, hz, cond_true] at hq
  have hb := kL_lt k
  subst hx
  refine va_zast (D := gD G) o.1 o.2.1 o.2.2.2.2.2.1 hP (o.2.2.2.2.2.2.1.D v) hS q0 1 hq rfl (vp_in_nI ha (by omega)) d (fun H1 locs1 hP1 hD1 hS1 => ?_)
  rw [nI_clamp (by omega), nar_z hy, ← up3_row] at hP1
  have e : cE G (up3 v k i a y) k i = .inl (G.2.2.2.1, m + 1, .inl (up3 v k i a y k i)) := by rw [cE_arr hL, hz, cond_true]
  rw [← e, wl_set hc (fun a b hab => up3_off hab)] at hP1
  exact kk _ rfl H1 locs1 ls hl hP1 hS1
theorem q_mald (o : OK G X cc Ts own n nL) {a : Nat} {x : Int32} (ha : a < 12) (hx : x = nI a) (d : decode cc pc = .ok (.aaload, 1)) (kk : J l G X (pc + 1) lv (.ref (gA G 14 a) :: st) v) : J l G X pc lv (.int x :: .ref (gA G 13 0) :: st) v := fun H locs ls hl hP hS => by
  obtain ⟨q0, -, hq⟩ := wl_at G v (k := 13) (i := 0) (by decide)
  subst hx
  refine va_aldq (D := gD G) (C := "PieceSwarm$Member") o.1 o.2.1 o.2.2.2.2.2.1 hP q0 2 hq rfl (vp_in_nI ha (by omega)) d ?_
  rw [nI_clamp (by omega)]
  exact kk H locs ls hl hP hS
theorem q_iret (o : OK G X cc Ts own n nL) {post : Int32 → St3 → Prop} (rt : RI G X .int post) {x : Int32} (d : decode cc pc = .ok (.ireturn, 1)) (h : post x v) : J l G X pc lv [.int x] v := fun H locs ls hl hP hS => by
  rw [rt.2.2]
  exact W.iret o.1 o.2.1 rt.1 (fun t ht hW => ⟨⟨x, v, rfl, h, by show va_P (gD G) vwCl (wl G v) t.heap; rw [ht]; exact hP⟩, hS.F ht⟩) hS.2.2 d (hlocks := rt.2.1)
theorem q_zret (o : OK G X cc Ts own n nL) {post : Int32 → St3 → Prop} (rt : RI G X .boolean post) {x : Int32} (d : decode cc pc = .ok (.ireturn, 1)) (hz : x = 0 ∨ x = 1) (h : post x v) : J l G X pc lv [.int x] v := fun H locs ls hl hP hS => by
  rw [rt.2.2]
  exact W.zret o.1 o.2.1 rt.1 (nar_z2 hz) (fun t ht hW => ⟨⟨x, v, rfl, h, by show va_P (gD G) vwCl (wl G v) t.heap; rw [ht]; exact hP⟩, hS.F ht⟩) hS.2.2 d (hlocks := rt.2.1)
theorem q_vret (o : OK G X cc Ts own n nL) {post : St3 → Prop} (rt : RV G X post) (d : decode cc pc = .ok (.return_, 1)) (h : post v) : J l G X pc lv [] v := fun H locs ls hl hP hS => by
  rw [rt.2.2]
  exact W.vret o.1 o.2.1 rt.1 (fun t ht hW => ⟨⟨v, rfl, h, by show va_P (gD G) vwCl (wl G v) t.heap; rw [ht]; exact hP⟩, hS.F ht⟩) hS.2.2 d (hlocks := rt.2.1)
variable {y : MethodName} {ws ws' : List Cond} {bytes : ByteArray} {maxL nc : Nat} {ret : Option FieldType} {idx : Nat} {st0 : List Value}
theorem q_callV (o : OK G X cc Ts own n nL) {post : Int32 → St3 → Prop} (As : List Value) {k i : Nat} {C : String} {T : u_T} {N : Nat} (hM : CI l G y ws nc (.ref (gA G k i) :: As) v post) (hg : GoodIn Ts (wsV own idx C y ws)) (hw : ws = Cond.code y bytes maxL ret :: ws') (h1 : kL k = 0) (h2 : Nat.beq k 13 = false) (h3 : vwCl[kC k]? = some (C, T, N)) (hi : i < cnt k)
    (hd : y.cls = C ∧ y.cls ≠ "java/lang/invoke/MethodHandle" ∧ y.cls ≠ "java/lang/invoke/VarHandle" ∧ (parseMethodDescriptor y.desc).map (fun d => d.parameters.length) = some As.length) (hm : maxL ≤ 17) (hn : nc + 1 ≤ n) (hst : st0 = As.reverse ++ .ref (gA G k i) :: st) (hcat : (st.map fun v => v.category).sum ≤ 8) (d : decode cc pc = .ok (.invokevirtual idx, 3))
    (kk : ∀ (r : Int32) (u : St3), post r u → J l G X (pc + 3) lv (.int r :: st) u) : J l G X pc lv st0 v := fun H locs ls hl hP hS => by
  subst hst
  obtain ⟨hx, hb, hml, hown, hts, hK, hA, hN, hR, hnL, hkw⟩ := o
  obtain ⟨q0, -, hq⟩ := wl_at G v hi
  rw [cE_obj h1 h2] at hq
  refine va_calli (va_runV (As := As) (rest := st) (nL := xn X) ⟨hx, hb, hml, hown, hts⟩ hM (cwV As.length hts hg hw rfl rfl hd ⟨Nat.le_trans hn hR.1, by have := hR.2; show 8 + (maxL + 11) + 36 * nc ≤ _; omega⟩) ⟨PreW.blind, va_recv hK hP h3 hq, fun U hU hW => ⟨rfl, hA, by rw [hU]; exact hP, va_K.moved hW.alike hK, fun w hw => va_Nw.warmM hW (hN w hw)⟩⟩ rfl rfl hl.1 rfl (lv_room hcat) d hkw) hS (fun q _ h => h) (fun q h => h) (fun r u t H1 locs1 ht hvm hp hB hz1 hk1 hS1 => ?_)
  rw [ht] at hB
  exact kk r u hp H1 locs1 ls hl hB hS1
theorem q_callVv (o : OK G X cc Ts own n nL) {post : St3 → Prop} (As : List Value) {k i : Nat} {C : String} {T : u_T} {N : Nat} (hM : CV l G y ws nc (.ref (gA G k i) :: As) v post) (hg : GoodIn Ts (wsV own idx C y ws)) (hw : ws = Cond.code y bytes maxL ret :: ws') (h1 : kL k = 0) (h2 : Nat.beq k 13 = false) (h3 : vwCl[kC k]? = some (C, T, N)) (hi : i < cnt k)
    (hd : y.cls = C ∧ y.cls ≠ "java/lang/invoke/MethodHandle" ∧ y.cls ≠ "java/lang/invoke/VarHandle" ∧ (parseMethodDescriptor y.desc).map (fun d => d.parameters.length) = some As.length) (hm : maxL ≤ 17) (hn : nc + 1 ≤ n) (hst : st0 = As.reverse ++ .ref (gA G k i) :: st) (hcat : (st.map fun v => v.category).sum ≤ 8) (d : decode cc pc = .ok (.invokevirtual idx, 3))
    (kk : ∀ (u : St3), post u → J l G X (pc + 3) lv st u) : J l G X pc lv st0 v := fun H locs ls hl hP hS => by
  subst hst
  obtain ⟨hx, hb, hml, hown, hts, hK, hA, hN, hR, hnL, hkw⟩ := o
  obtain ⟨q0, -, hq⟩ := wl_at G v hi
  rw [cE_obj h1 h2] at hq
  refine va_callv (va_runV (As := As) (rest := st) (nL := xn X) ⟨hx, hb, hml, hown, hts⟩ hM (cwV As.length hts hg hw rfl rfl hd ⟨Nat.le_trans hn hR.1, by have := hR.2; show 8 + (maxL + 11) + 36 * nc ≤ _; omega⟩) ⟨PreW.blind, va_recv hK hP h3 hq, fun U hU hW => ⟨rfl, hA, by rw [hU]; exact hP, va_K.moved hW.alike hK, fun w hw => va_Nw.warmM hW (hN w hw)⟩⟩ rfl rfl hl.1 rfl (lv_room hcat) d hkw) hS (fun q _ h => h) (fun q h => h) (fun u t H1 locs1 ht hvm hp hB hz1 hk1 hS1 => ?_)
  rw [ht] at hB
  exact kk u hp H1 locs1 ls hl hB hS1
theorem q_callS (o : OK G X cc Ts own n nL) {post : Int32 → St3 → Prop} (As : List Value) (hM : CI l G y ws nc As v post) (hg : GoodIn Ts (va_wsS own idx y ws)) (hw : ws = Cond.code y bytes maxL ret :: ws')
    (hd : y.cls ≠ "java/lang/invoke/MethodHandle" ∧ y.cls ≠ "java/lang/invoke/VarHandle" ∧ (parseMethodDescriptor y.desc).map (fun d => d.parameters.length) = some As.length) (hm : maxL ≤ 17) (hn : nc + 1 ≤ n) (hst : st0 = As.reverse ++ st) (hcat : (st.map fun v => v.category).sum ≤ 8) (d : decode cc pc = .ok (.invokestatic idx, 3))
    (kk : ∀ (r : Int32) (u : St3), post r u → J l G X (pc + 3) lv (.int r :: st) u) : J l G X pc lv st0 v := fun H locs ls hl hP hS => by
  subst hst
  obtain ⟨hx, hb, hml, hown, hts, hK, hA, hN, hR, hnL, hkw⟩ := o
  refine va_calli (va_runS (As := As) (rest := st) (nL := xn X) ⟨hx, hb, hml, hown, hts⟩ hM (va_cwS As.length hts hg hw rfl rfl hd ⟨Nat.le_trans hn hR.1, by have := hR.2; show 8 + (maxL + 11) + 36 * nc ≤ _; omega⟩) ⟨PreW.blind, fun U hU hW => ⟨rfl, hA, by rw [hU]; exact hP, va_K.moved hW.alike hK, fun w hw => va_Nw.warmM hW (hN w hw)⟩⟩ rfl rfl hl.1 rfl (lv_room hcat) d hkw) hS (fun q _ h => h) (fun q h => h) (fun r u t H1 locs1 ht hvm hp hB hz1 hk1 hS1 => ?_)
  rw [ht] at hB
  exact kk r u hp H1 locs1 ls hl hB hS1
theorem q_callN (o : OK G X cc Ts own n nL) {post : Int32 → St3 → Prop} (As : List Value) (hM : CI l G y ws nc As v post) (hg : GoodIn Ts ws) (hw : ws = Cond.code y bytes maxL ret :: ws') (hnl : (own, idx, y) ∈ nestL) (hini : Cond.initialized y.cls ∈ Ts) (hsta : Cond.static y ∈ Ts)
    (hd : y.cls ≠ "java/lang/invoke/MethodHandle" ∧ y.cls ≠ "java/lang/invoke/VarHandle" ∧ (parseMethodDescriptor y.desc).map (fun d => d.parameters.length) = some As.length) (hm : maxL ≤ 17) (hn : nc + 1 ≤ n) (hst : st0 = As.reverse ++ st) (hcat : (st.map fun v => v.category).sum ≤ 8) (d : decode cc pc = .ok (.invokestatic idx, 3))
    (kk : ∀ (r : Int32) (u : St3), post r u → J l G X (pc + 3) lv (.int r :: st) u) : J l G X pc lv st0 v := fun H locs ls hl hP hS => by
  subst hst
  obtain ⟨hx, hb, hml, hown, hts, hK, hA, hN, hR, hnL, hkw⟩ := o
  refine va_calli (va_runSN (As := As) (rest := st) (nL := xn X) ⟨hx, hb, hml, hown, hts⟩ hM ⟨va_cnB As.length hts hg hw rfl rfl (hN _ hnl) (hts _ hini) hd ⟨Nat.le_trans hn hR.1, by have := hR.2; show 8 + (maxL + 11) + 36 * nc ≤ _; omega⟩, hts _ hsta, trivial⟩ ⟨PreW.blind, fun U hU hW => ⟨rfl, hA, by rw [hU]; exact hP, va_K.moved hW.alike hK, fun w hw => va_Nw.warmM hW (hN w hw)⟩⟩ rfl rfl hl.1 rfl (lv_room hcat) d hkw) hS (fun q _ h => h) (fun q h => h) (fun r u t H1 locs1 ht hvm hp hB hz1 hk1 hS1 => ?_)
  rw [ht] at hB
  exact kk r u hp H1 locs1 ls hl hB hS1
theorem q_max (o : OK G X cc Ts own n nL) {x y : Int32} (h1 : Cond.methodLink own idx Lib.Math.max.name ∈ Ts) (h2 : Cond.static Lib.Math.max.name ∈ Ts) (h3 : Cond.initialized "java/lang/Math" ∈ Ts) (h4 : Cond.code Lib.Math.max.name Lib.Math.max.code 2 (some .int) ∈ Ts) (hn : 1 ≤ n) (hcat : (st.map fun v => v.category).sum ≤ 8) (d : decode cc pc = .ok (.invokestatic idx, 3))
    (kk : J l G X (pc + 3) lv (.int (if x < y then y else x) :: st) v) : J l G X pc lv (.int y :: .int x :: st) v := fun H locs ls hl hP hS => by
  obtain ⟨hx, hb, hml, hown, hts, hK, hA, hN, hR, hnL, hkw⟩ := o
  exact va_mmax hx hb (by rw [hml]; exact hl.1.symm) hown (hts _ h1) (hts _ h2) (hts _ h3) (hts _ h4) (Nat.le_trans hn hR.1) (by have := hR.2; omega) hkw.1 hkw.2 d (kk H locs ls hl hP hS)
theorem q_tab (o : OK G X cc Ts own n nL) {x : Int32} {dflt lo hi : Int} {offs : Array Int} {len : Nat} (tg : List Nat) (dt : Nat) (d : decode cc pc = .ok (.tableswitch dflt lo hi offs, len)) (hlo : lo = 0) (hhi : hi + 1 = (tg.length : Int)) (hsm : tg.length < 2 ^ 31) (htg : ∀ a, a < tg.length → offs[a]? = some ((tg.getD a 0 : Int) - (pc : Int))) (hdt : (pc : Int) + dflt = (dt : Int))
    (kk : ∀ a : Nat, a < tg.length → x = nI a → J l G X (tg.getD a 0) lv st v) (kd : (x < 0 ∨ nI tg.length ≤ x) → J l G X dt lv st v) : J l G X pc lv (.int x :: st) v := fun H locs ls hl hP hS => by
  subst hlo
  rcases pk_ix x hsm with hx | hx | ⟨a, ha, rfl⟩
  · exact lv_tableOut o.1 o.2.1 d (Or.inl (by rw [Int32.lt_iff_toInt_lt, Int32.toInt_zero] at hx; exact hx)) hdt (kd (Or.inl hx) H locs ls hl hP hS)
  · exact lv_tableOut o.1 o.2.1 d (Or.inr (by rw [Int32.le_iff_toInt_le, nI_toInt hsm] at hx; omega)) hdt (kd (Or.inr hx) H locs ls hl hP hS)
  · have e := nI_toInt (n := a) (by omega)
    exact lv_tableIn o.1 o.2.1 d (by rw [e]; omega) (by rw [e]; omega) (off := (tg.getD a 0 : Int) - (pc : Int)) (by rw [e, Int.sub_zero, Int.toNat_natCast]; exact htg a ha) (by omega) (kk a ha rfl H locs ls hl hP hS)
end ROWS2
