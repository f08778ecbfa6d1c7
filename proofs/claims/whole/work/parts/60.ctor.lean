/-! constructors: worlds that grow. L: the cells that are there; k, w: how many cells and slots were made -/
abbrev rM (n mc ms : Nat) : Room := { frames := n, cells := mc, slots := ms, locals := 36 * n }
def PreC (G : Geo) (L : va_W) (sz : Nat) (U : State) : Prop := U.heap.size = sz ∧ va_P (gD G) vwCl L U.heap ∧ va_D (fun _ => True) L ∧ va_K (gD G) vwCl (gT G) U ∧ va_AO "PieceSwarm$Member" U
theorem PreC.blind {G : Geo} {L : va_W} {sz : Nat} {as : List Value} : FrameBlind (va_Pc as (PreC G L sz)) := fun a U g mk q => by
  obtain ⟨e, h1, h2, h3, h4, h5⟩ := q
  exact ⟨e, h1, h2, h3, va_K.moved (u := U) (U := U.calling g mk a) (Vm.Alike.refl U.vm) h4, va_AO.moved (u := U) (U := U.calling g mk a) (Vm.Alike.refl U.vm) h5⟩
def CM (l : Launch) (G : Geo) (y : MethodName) (ws : List Cond) (n mc ms : Nat) (as : List Value) (L : va_W) (post : va_W → Prop) : Prop :=
  ∀ sz : Nat, Met l y ws (rM n mc ms) (va_Pc as (PreC G L sz)) (va_Qv post (fun Lm t => va_P (gD G) vwCl Lm t.heap ∧ va_D (va_A L sz) Lm) (va_A L sz)) mc ms (va_A L sz)
def JC (l : Launch) (A : Nat → Prop) (G : Geo) (X : CT) (k w : Nat) (pc : Nat) (lv : List (Nat × Value)) (st : List Value) (L : va_W) : Prop :=
  ∀ (H : Heap) (locs : List Loc) (ls : Array Slot), lv_has ls (xn X) lv → va_P (gD G) vwCl L H → va_D A L → va_S A (xs X).heap H locs → W (xp X) l (xe X) (xR X) (xs X) (xm X) (xa X) (xb X) (xM X) (xc X) H locs k w (xQ X) (F0 (xm X) pc ls st)
def OKC (A : Nat → Prop) (G : Geo) (X : CT) (cc : ByteArray) (Ts : List Cond) (own : String) (n nL mc ms : Nat) : Prop :=
  (xp X).tables.exec = Jvm.exec ∧ (xc X).code = cc ∧ (xc X).maxLocals = xn X ∧ (xs X).vm.findClass own = some (xm X).cls ∧ (∀ w ∈ Ts, w.before (xa X) (xs X) = true) ∧ va_K (gD G) vwCl (gT G) (xs X) ∧ va_AO "PieceSwarm$Member" (xs X) ∧ (n ≤ (xR X).frames ∧ 36 * n ≤ (xR X).locals) ∧ xn X = nL ∧ (mc ≤ (xR X).cells ∧ ms ≤ (xR X).slots) ∧ ∀ q : Nat, (xs X).heap.size ≤ q → A q
def RC (A : Nat → Prop) (G : Geo) (X : CT) (mc ms : Nat) (post : va_W → Prop) : Prop := (xM X).sig.returnType = none ∧ (xM X).locks = false ∧ xQ X = MQ (xb X) (va_Qv post (fun Lm t => va_P (gD G) vwCl Lm t.heap ∧ va_D A Lm) A) (xa X) (xs X) mc ms A
theorem CM.of {l : Launch} {G : Geo} {y : MethodName} {ws ws' : List Cond} {n mc ms : Nat} {as : List Value} {L : va_W} {post : va_W → Prop} {cc : ByteArray} {maxL : Nat} (hy : plainName y.cls = true) (hi : y.name = "<init>") (hw : ws = Cond.code y cc maxL none :: ws') (hlen : (lg_sl as).length ≤ maxL)
    (body : ∀ (A : Nat → Prop) (X : CT), OKC A G X cc ws y.cls n maxL mc ms → (xM X).name = "<init>" → RC A G X mc ms post → JC l A G X 0 0 0 (lv_args 0 as) [] L) : CM l G y ws n mc ms as L post := by
  intro sz
  refine Met.ofW (cc := cc) (maxL := maxL) (ret := none) hy hw ?_
  intro p e s m args below meth c s₁ B hml hv
  obtain ⟨rfl, hsz, hP, hD, hK, hO⟩ := hv
  subst hsz
  have hnm : meth.name = "<init>" := (name_of_methodNamed B.named B.method).1.trans hi
  have hJ := body (va_A L s.heap.size) (p, e, (headSpec ws (rM n mc ms)).room, s, m, as.toArray, below, meth, c, maxL, 0, 0, MQ below (va_Qv post (fun Lm t => va_P (gD G) vwCl Lm t.heap ∧ va_D (va_A L s.heap.size) Lm) (va_A L s.heap.size)) as.toArray s mc ms (va_A L s.heap.size))
    ⟨B.exec, B.bytes, hml, findClass_of_methodNamed B.named, atoms_spec (ws := ws) B.pre, hK, hO, ⟨Nat.le_refl _, Nat.le_refl _⟩, rfl, ⟨Nat.le_refl _, Nat.le_refl _⟩, fun q h => Or.inr h⟩ hnm ⟨B.returns, B.notSynchronized, rfl⟩
  rw [lg_entry_eq]
  exact hJ s.heap [] _ (lv_entry as hlen) hP hD.self va_S.rf
/-- what the tables say of a field: entry idx of the own class names field j of the class ci -/
def FF (Ts : List Cond) (own : String) (idx ci j : Nat) (fin : Bool) (ty : FieldType) : Prop := ∃ (C : String) (T : u_T) (N : Nat) (ty0 : Nat → FieldType), vwCl[ci]? = some (C, T, N) ∧ j < N ∧ (∀ w ∈ u_ws C T N, w ∈ Ts) ∧ Cond.fieldLink own idx (T j).1 (T j).2.1 (T j).2.2.1 ∈ Ts ∧ (∀ a, a < N → parseFieldDescriptor (T a).2.2.1 = some (ty0 a)) ∧ (∀ a, a < N → ∀ b, b < N → a ≠ b → (T a).2.1 ≠ (T b).2.1) ∧ (T j).2.2.2 = fin ∧ parseFieldDescriptor (T j).2.2.1 = some ty ∧ (T j).1 = own
/-- rows of ints, of truths -/
abbrev zI (G : Geo) (n : Nat) : va_E := .inl (G.2.2.1, n, .inl (fun _ => 0))
abbrev zZ (G : Geo) (n : Nat) : va_E := .inl (G.2.2.2.1, n, .inl (fun _ => 0))
section CROWS
variable {l : Launch} {A : Nat → Prop} {G : Geo} {X : CT} {cc : ByteArray} {Ts : List Cond} {own : String} {n nL mc ms k w : Nat} {pc : Nat} {lv : List (Nat × Value)} {st : List Value} {L L' : va_W}
theorem k_iconst (o : OKC A G X cc Ts own n nL mc ms) {z : Int} (d : decode cc pc = .ok (.iconst z, 1)) {x : Int32} (hx : Int32.ofInt z = x) (kk : JC l A G X k w (pc + 1) lv (.int x :: st) L) : JC l A G X k w pc lv st L := fun H locs ls hl hP hD hS => lv_iconst o.1 o.2.1 d hx (kk H locs ls hl hP hD hS)
theorem k_bipush (o : OKC A G X cc Ts own n nL mc ms) {z : Int} (d : decode cc pc = .ok (.bipush z, 2)) {x : Int32} (hx : (Int8.ofInt z).toInt32 = x) (kk : JC l A G X k w (pc + 2) lv (.int x :: st) L) : JC l A G X k w pc lv st L := fun H locs ls hl hP hD hS => lv_bipush o.1 o.2.1 d hx (kk H locs ls hl hP hD hS)
theorem k_sipush (o : OKC A G X cc Ts own n nL mc ms) {z : Int} (d : decode cc pc = .ok (.sipush z, 3)) {x : Int32} (hx : (Int16.ofInt z).toInt32 = x) (kk : JC l A G X k w (pc + 3) lv (.int x :: st) L) : JC l A G X k w pc lv st L := fun H locs ls hl hP hD hS => lv_sipush o.1 o.2.1 d hx (kk H locs ls hl hP hD hS)
theorem k_iload_n (o : OKC A G X cc Ts own n nL mc ms) {i : Fin 4} {x : Int32} (d : decode cc pc = .ok (.iload_n i, 1)) (h : lk lv (i : Nat) = some (.int x)) (kk : JC l A G X k w (pc + 1) lv (.int x :: st) L) : JC l A G X k w pc lv st L := fun H locs ls hl hP hD hS => lv_iload_n o.1 o.2.1 d rfl (lk_at hl h) (kk H locs ls hl hP hD hS)
theorem k_aload_n (o : OKC A G X cc Ts own n nL mc ms) {i : Fin 4} {x : Nat} (d : decode cc pc = .ok (.aload_n i, 1)) (h : lk lv (i : Nat) = some (.ref x)) (kk : JC l A G X k w (pc + 1) lv (.ref x :: st) L) : JC l A G X k w pc lv st L := fun H locs ls hl hP hD hS => lv_aload_n o.1 o.2.1 d rfl (lk_at hl h) (kk H locs ls hl hP hD hS)
theorem k_istore_n (o : OKC A G X cc Ts own n nL mc ms) {i : Fin 4} {x : Int32} {lv' : List (Nat × Value)} (d : decode cc pc = .ok (.istore_n i, 1)) (hn : (i : Nat) < nL) (h : lset lv (i : Nat) (.int x) = lv') (kk : JC l A G X k w (pc + 1) lv' st L) : JC l A G X k w pc lv (.int x :: st) L := fun H locs ls hl hP hD hS => lv_istore_n o.1 o.2.1 d rfl hl (by rw [o.2.2.2.2.2.2.2.2.1]; exact hn) h (fun ls' hl' => kk H locs ls' hl' hP hD hS)
theorem k_astore_n (o : OKC A G X cc Ts own n nL mc ms) {i : Fin 4} {x : Nat} {lv' : List (Nat × Value)} (d : decode cc pc = .ok (.astore_n i, 1)) (hn : (i : Nat) < nL) (h : lset lv (i : Nat) (.ref x) = lv') (kk : JC l A G X k w (pc + 1) lv' st L) : JC l A G X k w pc lv (.ref x :: st) L := fun H locs ls hl hP hD hS => lv_astore_n o.1 o.2.1 d rfl hl (by rw [o.2.2.2.2.2.2.2.2.1]; exact hn) h (fun ls' hl' => kk H locs ls' hl' hP hD hS)
theorem k_iinc (o : OKC A G X cc Ts own n nL mc ms) {i : Nat} {z : Int} {x y : Int32} {lv' : List (Nat × Value)} (d : decode cc pc = .ok (.iinc i z, 3)) (hk : lk lv i = some (.int x)) (hy : x + Int32.ofInt z = y) (hn : i < nL) (h : lset lv i (.int y) = lv') (kk : JC l A G X k w (pc + 3) lv' st L) : JC l A G X k w pc lv st L := fun H locs ls hl hP hD hS => by
  obtain ⟨a, ha⟩ := lk_mem hk
  exact lv_iinc o.1 o.2.1 d hl ha hy (by rw [o.2.2.2.2.2.2.2.2.1]; exact hn) h (fun ls' hl' => kk H locs ls' hl' hP hD hS)
theorem k_goto (o : OKC A G X cc Ts own n nL mc ms) {off : Int} (tgt : Nat) (d : decode cc pc = .ok (.goto off, 3)) (ht : (pc : Int) + off = (tgt : Int)) (kk : JC l A G X k w tgt lv st L) : JC l A G X k w pc lv st L := fun H locs ls hl hP hD hS => lv_goto o.1 o.2.1 d ht (kk H locs ls hl hP hD hS)
theorem k_ic_ge (o : OKC A G X cc Ts own n nL mc ms) {x y : Int32} {off : Int} (tgt : Nat) (d : decode cc pc = .ok (.if_icmp .ge off, 3)) (ht : (pc : Int) + off = (tgt : Int)) (kt : y ≤ x → JC l A G X k w tgt lv st L) (kf : ¬ y ≤ x → JC l A G X k w (pc + 3) lv st L) : JC l A G X k w pc lv (.int y :: .int x :: st) L := fun H locs ls hl hP hD hS => lv_icmp_ge o.1 o.2.1 d ht (fun c => kt c H locs ls hl hP hD hS) (fun c => kf c H locs ls hl hP hD hS)
theorem k_dup (o : OKC A G X cc Ts own n nL mc ms) {a : Value} (d : decode cc pc = .ok (.dup, 1)) (ha : a.category = 1) (kk : JC l A G X k w (pc + 1) lv (a :: a :: st) L) : JC l A G X k w pc lv (a :: st) L := fun H locs ls hl hP hD hS => lv_dup o.1 o.2.1 d ha (kk H locs ls hl hP hD hS)
theorem k_lv (ks : List Nat) {lv' : List (Nat × Value)} (h : lv_pick lv ks = lv') (kk : JC l A G X k w pc lv' st L) : JC l A G X k w pc lv st L := fun H locs ls hl hP hD hS => kk H locs ls (lv_sub hl ks h) hP hD hS
theorem k_widen {k' w' : Nat} (h1 : k ≤ k') (h2 : w ≤ w') (kk : JC l A G X k' w' pc lv st L) : JC l A G X k w pc lv st L := fun H locs ls hl hP hD hS => W.widen h1 h2 (kk H locs ls hl hP hD hS)
theorem k_obj (o : OKC A G X cc Ts own n nL mc ms) {idx a : Nat} (h1 : Cond.methodLink own idx objectInit ∈ Ts) (h2 : Cond.instanceMethod objectInit ∈ Ts) (h3 : Cond.code objectInit ⟨#[0xb1]⟩ 1 none ∈ Ts) (hn : 1 ≤ n) (d : decode cc pc = .ok (.invokespecial idx, 3)) (kk : JC l A G X k w (pc + 3) lv [] L) : JC l A G X k w pc lv [.ref a] L := fun H locs ls hl hP hD hS => by
  obtain ⟨hx, hb, hml, hown, hts, hK, hO, hR, hnL, hkw, hA⟩ := o
  refine W.objInit (rest := []) hx hb hown (hts _ h1) (hts _ h2) (hts _ h3) rfl (by rw [hml]; exact hl.1) rfl d (Nat.le_trans hn hR.1) ?_ ?_
  · have h8 := lv_room (m := xm X) (pc := pc) (ls := ls) (rest := [.ref a]) (st := []) (Nat.zero_le _)
    have := hR.2
    omega
  · exact W.eq (g2 := F0 (xm X) (pc + 3) ls []) rfl (kk H locs ls hl hP hD hS)
theorem k_get (o : OKC A G X cc Ts own n nL mc ms) {idx ci j q0 a : Nat} {fs : List Value} {v : Value} {fin : Bool} {ty : FieldType} (f : FF Ts own idx ci j fin ty) (he : L[q0]? = some (a, .inr (ci, fs))) (hv : fs[j]? = some v) (d : decode cc pc = .ok (.getfield idx, 3)) (kk : JC l A G X k w (pc + 3) lv (v :: st) L) : JC l A G X k w pc lv (.ref a :: st) L := fun H locs ls hl hP hD hS => by
  obtain ⟨C, T, N, ty0, h1, h2, h3, h4, h5, h6, h7, h8, h9⟩ := f
  exact va_get (D := gD G) o.1 o.2.1 o.2.2.2.2.1 h3 o.2.2.2.1 o.2.2.2.2.2.1 hP q0 he h1 j h2 (o.2.2.2.2.1 _ h4) (fun _ h9 => h9) (v := v) hv d (kk H locs ls hl hP hD hS)
theorem k_put (o : OKC A G X cc Ts own n nL mc ms) {idx ci j q0 a : Nat} {fs : List Value} {x : Int32} (f : FF Ts own idx ci j false .int) (he : L[q0]? = some (a, .inr (ci, fs))) (hj : j < fs.length) (d : decode cc pc = .ok (.putfield idx, 3)) (hL : L.set q0 (a, .inr (ci, fs.set j (.int x))) = L') (kk : JC l A G X k w (pc + 3) lv st L') : JC l A G X k w pc lv (.int x :: .ref a :: st) L := fun H locs ls hl hP hD hS => by
  obtain ⟨C, T, N, ty0, h1, h2, h3, h4, h5, h6, h7, h8, h9⟩ := f
  refine va_put (D := gD G) o.1 o.2.1 o.2.2.2.2.1 h3 ty0 h5 h6 o.2.2.2.1 o.2.2.2.2.2.1 hP hD hS q0 he h1 j h2 (o.2.2.2.2.1 _ h4) (fun _ h9 => h9) h7 (v := .int x) h8 rfl rfl hj d (fun H1 locs1 hP1 hD1 hS1 => ?_)
  rw [hL] at hP1 hD1
  exact kk H1 locs1 ls hl hP1 hD1 hS1
theorem k_putF (o : OKC A G X cc Ts own n nL mc ms) (hi : (xM X).name = "<init>") {idx ci j q0 a q : Nat} {fs : List Value} {ty : FieldType} (f : FF Ts own idx ci j true ty) (hn : narrow ty (.ref q) = .ref q) (hf : fits ty (.ref q) = true) (he : L[q0]? = some (a, .inr (ci, fs))) (hj : j < fs.length) (d : decode cc pc = .ok (.putfield idx, 3)) (hL : L.set q0 (a, .inr (ci, fs.set j (.ref q))) = L') (kk : JC l A G X k w (pc + 3) lv st L') : JC l A G X k w pc lv (.ref q :: .ref a :: st) L := fun H locs ls hl hP hD hS => by
  obtain ⟨C, T, N, ty0, h1, h2, h3, h4, h5, h6, h7, h8, h9⟩ := f
  refine va_putF (D := gD G) o.1 o.2.1 o.2.2.2.2.1 h3 ty0 h5 h6 o.2.2.2.1 o.2.2.2.2.2.1 hP hD hS q0 he h1 j h2 (o.2.2.2.2.1 _ h4) (fun _ h9 => h9) h7 hi h9 (v := .ref q) h8 hn hf hj d (fun H1 locs1 hP1 hD1 hS1 => ?_)
  rw [hL] at hP1 hD1
  exact kk H1 locs1 ls hl hP1 hD1 hS1
theorem k_new (o : OKC A G X cc Ts own n nL mc ms) {idx ci N : Nat} {C : String} {T : u_T} {ty0 : Nat → FieldType} (fs : List Value) (h1 : vwCl[ci]? = some (C, T, N)) (h2 : ∀ w ∈ u_ws C T N, w ∈ Ts) (h3 : ∀ a, a < N → parseFieldDescriptor (T a).2.2.1 = some (ty0 a)) (h4 : Cond.classLink own idx C ∈ Ts) (h5 : Cond.instantiable C N ∈ Ts) (h6 : Cond.initialized C ∈ Ts) (hfs : ∀ j, j < N → defaultValue (ty0 j) = vp_V fs j) (hk : k + 1 ≤ mc) (hw : w + N ≤ ms) (d : decode cc pc = .ok (.new idx, 3)) (kk : ∀ q : Nat, JC l A G X (k + 1) (w + N) (pc + 3) lv (.ref q :: st) (L ++ [(q, .inr (ci, fs))])) : JC l A G X k w pc lv st L := fun H locs ls hl hP hD hS => by
  obtain ⟨hx, hb, hml, hown, hts, hK, hO, hR, hnL, hkw, hA⟩ := o
  exact va_new (D := gD G) (ci := ci) (fs := fs) hx hb hts h2 ty0 h3 hown (hts _ h4) (hts _ h5) (hts _ h6) hK hP hD hS hA h1 hfs (Nat.le_trans hk hkw.1) (Nat.le_trans hw hkw.2) d (fun q H1 hP1 hD1 hS1 => kk q H1 locs ls hl hP1 hD1 hS1)
theorem nI_nn {N : Nat} (h : N < 2 ^ 31) : ¬ nI N < 0 := by
  intro q
  rw [Int32.lt_iff_toInt_lt, nI_toInt h, Int32.toInt_zero] at q
  omega
theorem k_newI (o : OKC A G X cc Ts own n nL mc ms) (N : Nat) {x : Int32} (h1 : Cond.arrayClass .int ∈ Ts) (hx : x = nI N) (hN : N < 2000) (hk : k + 1 ≤ mc) (hw : w + N ≤ ms) (d : decode cc pc = .ok (.newarray .int, 2)) (kk : ∀ q : Nat, JC l A G X (k + 1) (w + N) (pc + 2) lv (.ref q :: st) (L ++ [(q, zI G N)])) : JC l A G X k w pc lv (.int x :: st) L := fun H locs ls hl hP hD hS => by
  subst hx
  obtain ⟨hx, hb, hml, hown, hts, hK, hO, hR, hnL, hkw, hA⟩ := o
  refine va_newa (D := gD G) (atype := .int) (ty := .int) (N' := N) (a0 := (N, .inl (fun _ => 0))) hx hb (hts _ h1) rfl hK hP hD hS hA (fun cA => rfl) (nI_nn (by omega)) (nI_clamp (by omega)) (by show N * 4 ≤ _; omega) (Nat.le_trans hk hkw.1) (Nat.le_trans hw hkw.2) d (fun q cA H1 hK1 hP1 hD1 hS1 => ?_)
  have e1 := (hK1.2 3 (cA, .int) rfl).2
  have e2 := (hK.2 0 (G.2.2.1, .int) rfl).2
  have e : cA = G.2.2.1 := Option.some.inj (e1.symm.trans e2)
  rw [e] at hP1 hD1
  exact kk q H1 locs ls hl hP1 hD1 hS1
theorem k_newZ (o : OKC A G X cc Ts own n nL mc ms) (N : Nat) {x : Int32} (h1 : Cond.arrayClass .boolean ∈ Ts) (hx : x = nI N) (hN : N < 2000) (hk : k + 1 ≤ mc) (hw : w + N ≤ ms) (d : decode cc pc = .ok (.newarray .boolean, 2)) (kk : ∀ q : Nat, JC l A G X (k + 1) (w + N) (pc + 2) lv (.ref q :: st) (L ++ [(q, zZ G N)])) : JC l A G X k w pc lv (.int x :: st) L := fun H locs ls hl hP hD hS => by
  subst hx
  obtain ⟨hx, hb, hml, hown, hts, hK, hO, hR, hnL, hkw, hA⟩ := o
  refine va_newa (D := gD G) (atype := .boolean) (ty := .boolean) (N' := N) (a0 := (N, .inl (fun _ => 0))) hx hb (hts _ h1) rfl hK hP hD hS hA (fun cA => rfl) (nI_nn (by omega)) (nI_clamp (by omega)) (by show N * 1 ≤ _; omega) (Nat.le_trans hk hkw.1) (Nat.le_trans hw hkw.2) d (fun q cA H1 hK1 hP1 hD1 hS1 => ?_)
  have e1 := (hK1.2 3 (cA, .boolean) rfl).2
  have e2 := (hK.2 1 (G.2.2.2.1, .boolean) rfl).2
  have e : cA = G.2.2.2.1 := Option.some.inj (e1.symm.trans e2)
  rw [e] at hP1 hD1
  exact kk q H1 locs ls hl hP1 hD1 hS1
theorem k_newM (o : OKC A G X cc Ts own n nL mc ms) (N : Nat) {x : Int32} {idx : Nat} (h1 : Cond.classLink own idx "PieceSwarm$Member" ∈ Ts) (hx : x = nI N) (hN : N < 2000) (hk : k + 1 ≤ mc) (hw : w + N ≤ ms) (d : decode cc pc = .ok (.anewarray idx, 3)) (kk : ∀ q : Nat, JC l A G X (k + 1) (w + N) (pc + 3) lv (.ref q :: st) (L ++ [(q, .inl (G.2.2.2.2, N, .inr (.inr (.inr (.inr (fun _ => none))))))])) : JC l A G X k w pc lv (.int x :: st) L := fun H locs ls hl hP hD hS => by
  subst hx
  obtain ⟨hx, hb, hml, hown, hts, hK, hO, hR, hnL, hkw, hA⟩ := o
  refine va_newq (D := gD G) (C := "PieceSwarm$Member") (N' := N) hx hb hown (hts _ h1) hO hK hP hD hS hA (nI_nn (by omega)) (nI_clamp (by omega)) (by omega) (Nat.le_trans hk hkw.1) (Nat.le_trans hw hkw.2) d (fun q cA H1 hK1 hP1 hD1 hS1 => ?_)
  obtain ⟨_, _, -, -, -, e1⟩ := (hK1.2 3 (cA, .object "PieceSwarm$Member") rfl).2
  obtain ⟨_, _, -, -, -, e2⟩ := (hK.2 2 (G.2.2.2.2, .object "PieceSwarm$Member") rfl).2
  have e : cA = G.2.2.2.2 := Option.some.inj (e1.symm.trans e2)
  rw [e] at hP1 hD1
  exact kk q H1 locs ls hl hP1 hD1 hS1
theorem k_alenI (o : OKC A G X cc Ts own n nL mc ms) {q0 a N : Nat} {f : Nat → Int32} (he : L[q0]? = some (a, .inl (G.2.2.1, N, .inl f))) (d : decode cc pc = .ok (.arraylength, 1)) (kk : JC l A G X k w (pc + 1) lv (.int (nI N) :: st) L) : JC l A G X k w pc lv (.ref a :: st) L := fun H locs ls hl hP hD hS =>
  va_alen (D := gD G) o.1 o.2.1 o.2.2.2.2.2.1 hP q0 0 he (ty := .int) rfl (v := nI N) rfl d (kk H locs ls hl hP hD hS)
theorem k_iast (o : OKC A G X cc Ts own n nL mc ms) {q0 a N i : Nat} {x y : Int32} {f : Nat → Int32} (he : L[q0]? = some (a, .inl (G.2.2.1, N, .inl f))) (hi : i < N) (hN : N < 2000) (hx : x = nI i) (d : decode cc pc = .ok (.iastore, 1)) (hL : L.set q0 (a, .inl (G.2.2.1, N, .inl (upd f i y))) = L') (kk : JC l A G X k w (pc + 1) lv st L') : JC l A G X k w pc lv (.int y :: .int x :: .ref a :: st) L := fun H locs ls hl hP hD hS => by
  subst hx
  refine va_iast (D := gD G) o.1 o.2.1 o.2.2.2.2.2.1 hP hD hS q0 0 he rfl (vp_in_nI hi (by omega)) d (fun H1 locs1 hP1 hD1 hS1 => ?_)
  rw [nI_clamp (by omega), hL] at hP1 hD1
  exact kk H1 locs1 ls hl hP1 hD1 hS1
theorem k_aast (o : OKC A G X cc Ts own n nL mc ms) {q0 qk a N i v : Nat} {x : Int32} {vs : List Value} {f : Nat → Option Nat} (he : L[q0]? = some (a, .inl (G.2.2.2.2, N, .inr (.inr (.inr (.inr f)))))) (hv : L[qk]? = some (v, .inr (3, vs))) (hi : i < N) (hN : N < 2000) (hx : x = nI i) (d : decode cc pc = .ok (.aastore, 1)) (hL : L.set q0 (a, .inl (G.2.2.2.2, N, .inr (.inr (.inr (.inr (va_up f i (some v))))))) = L') (kk : JC l A G X k w (pc + 1) lv st L') : JC l A G X k w pc lv (.ref v :: .int x :: .ref a :: st) L := fun H locs ls hl hP hD hS => by
  subst hx
  refine va_astq (D := gD G) (r := (RX3, TX3, 13)) o.1 o.2.1 o.2.2.2.2.2.1 hP hD hS q0 2 qk 3 he rfl hv rfl (vp_in_nI hi (by omega)) d (fun H1 locs1 hP1 hD1 hS1 => ?_)
  rw [nI_clamp (by omega), hL] at hP1 hD1
  exact kk H1 locs1 ls hl hP1 hD1 hS1
theorem k_same (q0 : Nat) {a : Nat} {cA : ClassId} {x y : vp_A} (he : L[q0]? = some (a, .inl (cA, x))) (hxy : vp_cell cA x = vp_cell cA y) (hL : L.set q0 (a, .inl (cA, y)) = L') (kk : JC l A G X k w pc lv st L') : JC l A G X k w pc lv st L := fun H locs ls hl hP hD hS => by
  have hP1 : va_P (gD G) vwCl (L.set q0 (a, .inl (cA, y))) H := hP.set hD he (by
    have h := hP q0 _ he
    show H[a]? = some (vp_cell cA y)
    rw [← hxy]
    exact h) (fun _ _ => rfl)
  have hD1 : va_D A (L.set q0 (a, .inl (cA, y))) := hD.set he
  rw [hL] at hP1 hD1
  exact kk H locs ls hl hP1 hD1 hS
theorem k_init (o : OKC A G X cc Ts own n nL mc ms) {y : MethodName} {ws ws' : List Cond} {bytes : ByteArray} {maxL nc mc' ms' idx q : Nat} {st0 : List Value} {e0 : va_E} {L0 : va_W} {post : va_W → Prop} (As : List Value) (hM : CM l G y ws nc mc' ms' (.ref q :: As) [(q, e0)] post) (hg : GoodIn Ts ws) (hw : ws = Cond.code y bytes maxL none :: ws') (h1 : Cond.initialized y.cls ∈ Ts) (h2 : Cond.methodLink own idx y ∈ Ts) (h3 : Cond.instanceMethod y ∈ Ts) (hy : y.name = "<init>")
    (hd : y.cls ≠ "java/lang/invoke/MethodHandle" ∧ y.cls ≠ "java/lang/invoke/VarHandle" ∧ (parseMethodDescriptor y.desc).map (fun d => d.parameters.length) = some As.length) (hm : maxL ≤ 17) (hn : nc + 1 ≤ n) (hk : k + mc' ≤ mc) (hs : w + ms' ≤ ms) (hst : st0 = As.reverse ++ .ref q :: st) (hcat : (st.map fun v => v.category).sum ≤ 8) (d : decode cc pc = .ok (.invokespecial idx, 3))
    (kk : ∀ Lm : va_W, post Lm → JC l A G X (k + mc') (w + ms') (pc + 3) lv st (L0 ++ Lm)) : JC l A G X k w pc lv st0 (L0 ++ [(q, e0)]) := fun H locs ls hl hP hD hS => by
  subst hst
  obtain ⟨hx, hb, hml, hown, hts, hK, hO, hR, hnL, hkw, hA⟩ := o
  have hl0 : ∀ (i : Nat) (x : Nat × va_E), L0[i]? = some x → (L0 ++ [(q, e0)])[i]? = some x := fun i x hi => by
    rw [List.getElem?_append_left (List.getElem?_eq_some_iff.mp hi).1]; exact hi
  have hq0 : (L0 ++ [(q, e0)])[L0.length]? = some (q, e0) := by
    rw [List.getElem?_append_right (Nat.le_refl _), Nat.sub_self]; rfl
  have hone : ∀ (i : Nat) (x : Nat × va_E), [(q, e0)][i]? = some x → x = (q, e0) ∧ i = 0 := fun i x hi => by
    have hz : i < 1 := (List.getElem?_eq_some_iff.mp hi).1
    rw [show i = 0 by omega] at hi
    exact ⟨(Option.some.inj hi).symm, by omega⟩
  have hPc : va_P (gD G) vwCl [(q, e0)] H := fun i x hi => by
    obtain ⟨rfl, -⟩ := hone i x hi
    exact hP _ _ hq0
  have hDc : va_D (fun _ => True) [(q, e0)] := ⟨fun i j x z hi hj _ => by rw [(hone i x hi).2, (hone j z hj).2], fun _ _ _ => trivial⟩
  have hFc : ∀ z, va_A [(q, e0)] H.size z → A z := fun z hz => by
    rcases hz with ⟨i, e, hi⟩ | hz
    · have := (hone i _ hi).1
      rw [show z = q from congrArg Prod.fst this]
      exact hD.2 _ _ hq0
    · exact hA z (Nat.le_trans hS.1 hz)
  have hap : ∀ (i : Nat) (x : Nat × va_E), L0[i]? = some x → x.1 < H.size ∧ ¬ va_A [(q, e0)] H.size x.1 := fun i x hi => by
    have hlt := (hP i x (hl0 i x hi)).lt
    refine ⟨hlt, fun hz => ?_⟩
    rcases hz with ⟨j, e, hj⟩ | hz
    · have e1 : x.1 = q := congrArg Prod.fst (hone j _ hj).1
      have := hD.1 i L0.length x (q, e0) (hl0 i x hi) hq0 e1
      have := (List.getElem?_eq_some_iff.mp hi).1
      omega
    · omega
  refine va_callv (va_runI (As := As) (rest := st) (nL := xn X) ⟨hx, hb, hml, hown, hts⟩ (hM H.size) (cwI As.length hts hg hw rfl rfl (hts _ h1) (hts _ h2) (hts _ h3) hy hd ⟨Nat.le_trans hn hR.1, by have := hR.2; show 8 + (maxL + 11) + 36 * nc ≤ _; omega⟩) ⟨PreC.blind, fun U hU hW => ⟨rfl, by rw [hU], by rw [hU]; exact hPc, hDc, va_K.moved hW.alike hK, va_AO.moved hW.alike hO⟩⟩ rfl rfl hl.1 rfl (lv_room hcat) d ⟨Nat.le_trans hk hkw.1, Nat.le_trans hs hkw.2⟩) hS (fun z _ h => hFc z h) hFc (fun Lm t H1 locs1 ht hvm hp hB hz1 hk1 hS1 => ?_)
  rw [ht] at hB
  refine kk Lm hp H1 locs1 ls hl (va_P.app (fun i x hi => ?_) hB.1) (va_D.app ⟨fun i j x z hi hj e => hD.1 i j x z (hl0 i x hi) (hl0 j z hj) e, fun i x hi => hD.2 i x (hl0 i x hi)⟩ (hB.2.weaken (fun i x _ h => hFc x.1 h)) (fun i j x z hi hj e => ?_)) hS1
  · obtain ⟨g1, g2⟩ := hap i x hi
    exact (hP i x (hl0 i x hi)).kept (hk1 x.1 g1 g2)
  · exact (hap i x hi).2 (by rw [e]; exact hB.2.2 j z hj)
theorem k_ret (o : OKC A G X cc Ts own n nL mc ms) {post : va_W → Prop} (rt : RC A G X mc ms post) (hk : k ≤ mc) (hw : w ≤ ms) (d : decode cc pc = .ok (.return_, 1)) (h : post L) : JC l A G X k w pc lv [] L := fun H locs ls hl hP hD hS => by
  rw [rt.2.2]
  refine W.widen hk hw ?_
  exact W.vret o.1 o.2.1 rt.1 (fun t ht hW => ⟨⟨L, rfl, h, by show va_P (gD G) vwCl L t.heap ∧ va_D A L; rw [ht]; exact ⟨hP, hD⟩⟩, hS.F ht⟩) hS.2.2 d (hlocks := rt.2.1)
end CROWS
