/-! the walk's own small kit: a world of fixed shape, whose whole numbers alone change: v k i j is what stands in cell (k, i) at place j -/
abbrev St3 : Type := Nat → Nat → Nat → Int32
def up3 (v : St3) (k i j : Nat) (x : Int32) : St3 := fun a b c => if a = k ∧ b = i ∧ c = j then x else v a b c
theorem up3_row (v : St3) (k i j : Nat) (x : Int32) : up3 v k i j x k i = upd (v k i) j x := by
  funext c
  simp [up3, upd]
theorem up3_off {v : St3} {k i j a b : Nat} {x : Int32} (h : ¬ (a = k ∧ b = i)) : up3 v k i j x a b = v a b := by
  funext c
  simp only [up3]
  rw [if_neg]
  intro q
  exact h ⟨q.1, q.2.1⟩
theorem up3_at (v : St3) (k i j : Nat) (x : Int32) : up3 v k i j x k i j = x := by simp [up3]
abbrev Geo : Type := va_G × (Nat → Nat → Nat) × ClassId × ClassId × ClassId
abbrev gD (G : Geo) : va_G := G.1
abbrev gA (G : Geo) : Nat → Nat → Nat := G.2.1
def gT (G : Geo) : List (ClassId × FieldType) := [(G.2.2.1, .int), (G.2.2.2.1, .boolean), (G.2.2.2.2, .object "PieceSwarm$Member")]
/-- how many cells of a kind there are -/
def cnt (k : Nat) : Nat := bif (Nat.ble 14 k && Nat.ble k 23) then 12 else bif (Nat.ble k 24 || (Nat.ble 40 k && Nat.ble k 63) || (Nat.ble 65 k && Nat.ble k 74)) then 1 else 0
/-- an object kind's fields: 0 a whole number, else the kind that it refers to -/
def kFs : List (List Nat) := [[1, 2, 3, 4], [5, 13, 6, 0, 0, 0, 0, 0], [1], [1], [1], [0, 0, 0], [7, 8, 9, 10, 11, 12, 0], [], [], [], [], [], [], [], [15, 16, 0, 0, 0, 0, 0, 0, 0, 0, 0, 0, 0], [17, 18, 19, 0, 0, 0], [20, 21, 22, 23, 0, 0, 0, 0, 0, 0], [], [], [], [], [], [], [], [0, 0, 0, 0, 0, 0, 0, 0, 0, 0, 40, 41, 42, 43, 44, 45, 46, 47, 48, 49, 50, 51, 52, 53, 54, 55, 56, 57, 58, 59, 60, 61, 62, 63, 0, 65, 66, 67, 68, 69, 70, 71, 72, 73, 74]]
def kF (k : Nat) : List Nat := (kFs[k]?).getD []
/-- an object kind's class, by its place in vwCl -/
def kCs : List Nat := [9, 2, 0, 4, 1, 8, 5, 0, 0, 0, 0, 0, 0, 0, 3, 6, 7, 0, 0, 0, 0, 0, 0, 0, 10]
def kC (k : Nat) : Nat := (kCs[k]?).getD 0
/-- an array kind's length -/
def kLs : List Nat := [0, 0, 0, 0, 0, 0, 0, 192, 192, 192, 192, 192, 192, 0, 0, 0, 0, 96, 96, 96, 12, 12, 12, 12, 0, 0, 0, 0, 0, 0, 0, 0, 0, 0, 0, 0, 0, 0, 0, 0, 12, 12, 12, 12, 12, 12, 12, 12, 12, 12, 288, 288, 1152, 1152, 1152, 144, 144, 144, 144, 144, 144, 144, 12, 12, 0, 400, 400, 400, 400, 400, 400, 400, 12, 12, 12]
def kL (k : Nat) : Nat := (kLs[k]?).getD 0
/-- is it an array of truths -/
def kZ (k : Nat) : Bool := Nat.beq k 43 || Nat.beq k 50 || Nat.beq k 51 || Nat.beq k 52 || Nat.beq k 55 || Nat.beq k 56 || Nat.beq k 57 || Nat.beq k 71 || Nat.beq k 72
def fl (G : Geo) (v : St3) (k i : Nat) : Nat → List Nat → List Value
  | _, [] => []
  | j, 0 :: r => .int (v k i j) :: fl G v k i (j + 1) r
  | j, (q + 1) :: r => .ref (gA G (q + 1) i) :: fl G v k i (j + 1) r
def fv (G : Geo) (v : St3) (k i j : Nat) (q : Nat) : Value := match q with
  | 0 => .int (v k i j)
  | q + 1 => .ref (gA G (q + 1) i)
theorem fl_get (G : Geo) (v : St3) (k i : Nat) : ∀ (fs : List Nat) (j0 j : Nat), (fl G v k i j0 fs)[j]? = (fs[j]?).map (fv G v k i (j0 + j))
  | [], j0, j => by simp [fl]
  | 0 :: r, j0, 0 => by simp [fl, fv]
  | (q + 1) :: r, j0, 0 => by simp [fl, fv]
  | 0 :: r, j0, j + 1 => by
    simp only [fl, List.getElem?_cons_succ]
    rw [fl_get G v k i r (j0 + 1) j, show j0 + 1 + j = j0 + (j + 1) by omega]
  | (q + 1) :: r, j0, j + 1 => by
    simp only [fl, List.getElem?_cons_succ]
    rw [fl_get G v k i r (j0 + 1) j, show j0 + 1 + j = j0 + (j + 1) by omega]
theorem fl_len (G : Geo) (v : St3) (k i : Nat) : ∀ (fs : List Nat) (j0 : Nat), (fl G v k i j0 fs).length = fs.length
  | [], _ => rfl
  | 0 :: r, j0 => by simp [fl, fl_len G v k i r (j0 + 1)]
  | (q + 1) :: r, j0 => by simp [fl, fl_len G v k i r (j0 + 1)]
theorem fl_set (G : Geo) (v : St3) (k i j : Nat) (fs : List Nat) (x : Int32) (h : fs[j]? = some 0) : (fl G v k i 0 fs).set j (.int x) = fl G (up3 v k i j x) k i 0 fs := by
  apply List.ext_getElem?
  intro m
  have hl : j < fs.length := (List.getElem?_eq_some_iff.mp h).1
  by_cases hm : m = j
  · subst hm
    rw [List.getElem?_set_self (by rw [fl_len]; exact hl), fl_get, h]
    simp [fv, up3]
  · rw [List.getElem?_set_ne (Ne.symm hm), fl_get, fl_get]
    cases hq : fs[m]? with
    | none => rfl
    | some q =>
      cases q with
      | zero => simp [fv, up3, hm]
      | succ q => simp [fv]
theorem fl_off {G : Geo} {v v' : St3} {k i : Nat} (h : v' k i = v k i) (fs : List Nat) : fl G v' k i 0 fs = fl G v k i 0 fs := by
  apply List.ext_getElem?
  intro m
  rw [fl_get, fl_get]
  cases hq : fs[m]? with
  | none => rfl
  | some q =>
    cases q with
    | zero => simp [fv, h]
    | succ q => simp [fv]
def cE (G : Geo) (v : St3) (k i : Nat) : va_E := match kL k with
  | n + 1 => .inl (bif kZ k then G.2.2.2.1 else G.2.2.1, n + 1, .inl (v k i))
  | 0 => bif Nat.beq k 13 then .inl (G.2.2.2.2, 12, .inr (.inr (.inr (.inr (fun j => some (gA G 14 j)))))) else .inr (kC k, fl G v k i 0 (kF k))
theorem cE_obj {G : Geo} {v : St3} {k i : Nat} (h : kL k = 0) (h13 : Nat.beq k 13 = false) : cE G v k i = .inr (kC k, fl G v k i 0 (kF k)) := by
  simp only [cE, h, h13, cond_false]
theorem cE_arr {G : Geo} {v : St3} {k i n : Nat} (h : kL k = n + 1) : cE G v k i = .inl (bif kZ k then G.2.2.2.1 else G.2.2.1, n + 1, .inl (v k i)) := by
  simp only [cE, h]
theorem cE_off {G : Geo} {v v' : St3} {k i : Nat} (h : v' k i = v k i) : cE G v' k i = cE G v k i := by
  simp only [cE, h, fl_off h]
def cellsL : List (Nat × Nat) := (List.range 75).flatMap (fun k => (List.range (cnt k)).map (fun i => (k, i)))
theorem cellsL_mem {k i : Nat} (h : i < cnt k) : (k, i) ∈ cellsL := by
  have hk : k < 75 := by
    rcases Nat.lt_or_ge k 75 with q | q
    · exact q
    · exfalso
      have : cnt k = 0 := by
        have e1 : Nat.ble k 23 = false := by rw [← Bool.not_eq_true, Nat.ble_eq]; omega
        have e2 : Nat.ble k 24 = false := by rw [← Bool.not_eq_true, Nat.ble_eq]; omega
        have e3 : Nat.ble k 63 = false := by rw [← Bool.not_eq_true, Nat.ble_eq]; omega
        have e4 : Nat.ble k 74 = false := by rw [← Bool.not_eq_true, Nat.ble_eq]; omega
        simp [cnt, e1, e2, e3, e4]
      omega
  exact List.mem_flatMap.mpr ⟨k, List.mem_range.mpr hk, List.mem_map.mpr ⟨i, List.mem_range.mpr h, rfl⟩⟩
theorem cellsL_inv {k i : Nat} (h : (k, i) ∈ cellsL) : i < cnt k := by
  obtain ⟨k', -, h2⟩ := List.mem_flatMap.mp h
  obtain ⟨i', h3, h4⟩ := List.mem_map.mp h2
  cases h4
  exact List.mem_range.mp h3
def wl (G : Geo) (v : St3) : va_W := cellsL.map (fun q => (gA G q.1 q.2, cE G v q.1 q.2))
theorem wl_at (G : Geo) (v : St3) {k i : Nat} (h : i < cnt k) : ∃ q0 : Nat, cellsL[q0]? = some (k, i) ∧ (wl G v)[q0]? = some (gA G k i, cE G v k i) := by
  obtain ⟨q0, hq⟩ := List.getElem?_of_mem (cellsL_mem h)
  exact ⟨q0, hq, by simp [wl, List.getElem?_map, hq]⟩
/-- the cells that a method may write -/
def AG (G : Geo) : Nat → Prop := fun q => ∃ k i : Nat, i < cnt k ∧ q = gA G k i
def Apart (G : Geo) : Prop := ∀ k i k' i' : Nat, i < cnt k → i' < cnt k' → gA G k i = gA G k' i' → k = k' ∧ i = i'
theorem cellsL_inj : ∀ (i j : Nat) (p : Nat × Nat), cellsL[i]? = some p → cellsL[j]? = some p → i = j := by
  have hn : cellsL.Nodup := by decide +kernel
  intro i j p hi hj
  exact (List.getElem?_inj (List.getElem?_eq_some_iff.mp hi).1 hn).mp (hi.trans hj.symm)
theorem wl_inv {G : Geo} {v : St3} {n : Nat} {q : Nat × va_E} (h : (wl G v)[n]? = some q) : ∃ k i : Nat, cellsL[n]? = some (k, i) ∧ i < cnt k ∧ q = (gA G k i, cE G v k i) := by
  simp only [wl, List.getElem?_map] at h
  cases hc : cellsL[n]? with
  | none => rw [hc] at h; cases h
  | some p =>
    rw [hc] at h
    obtain ⟨k, i⟩ := p
    exact ⟨k, i, rfl, cellsL_inv (List.mem_of_getElem? hc), (Option.some.inj h).symm⟩
theorem Apart.D {G : Geo} (h : Apart G) (v : St3) : va_D (AG G) (wl G v) := by
  refine ⟨fun a b p q hp hq e => ?_, fun n q hq => ?_⟩
  · obtain ⟨k, i, c1, l1, rfl⟩ := wl_inv hp
    obtain ⟨k', i', c2, l2, rfl⟩ := wl_inv hq
    obtain ⟨rfl, rfl⟩ := h k i k' i' l1 l2 e
    exact cellsL_inj a b _ c1 c2
  · obtain ⟨k, i, -, l1, rfl⟩ := wl_inv hq
    exact ⟨k, i, l1, rfl⟩
theorem wl_set {G : Geo} {v v' : St3} {k i q0 : Nat} (hc : cellsL[q0]? = some (k, i)) (hoff : ∀ a b : Nat, ¬ (a = k ∧ b = i) → v' a b = v a b) : (wl G v).set q0 (gA G k i, cE G v' k i) = wl G v' := by
  have hl : q0 < cellsL.length := (List.getElem?_eq_some_iff.mp hc).1
  apply List.ext_getElem?
  intro m
  by_cases hm : m = q0
  · subst hm
    rw [List.getElem?_set_self (by simpa [wl] using hl)]
    simp [wl, List.getElem?_map, hc]
  · rw [List.getElem?_set_ne (Ne.symm hm)]
    simp only [wl, List.getElem?_map]
    cases hq : cellsL[m]? with
    | none => rfl
    | some p =>
      obtain ⟨a, b⟩ := p
      have hne : ¬ (a = k ∧ b = i) := by
        rintro ⟨rfl, rfl⟩
        exact hm (cellsL_inj m q0 _ hq hc)
      simp only [Option.map_some]
      rw [cE_off (hoff a b hne)]
/-- words of calls of a nest mate's private methods -/
def nestL : List (String × Nat × MethodName) := [(RX8, 28, yX9_sumWith), (RX6, 30, yX9_place), (RX0, 121, yX9_isIn), (RX6, 44, yX9_isIn), (RX6, 51, yX9_oneIf), (RX6, 65, yX9_sumWith), (RX4, 24, yX9_isIn), (RX2, 69, yX9_isIn), (RX1, 24, yX9_isIn), (RX1, 158, yX9_place), (RX2, 132, yX9_oneIf)]
def NW (U : State) : Prop := ∀ q ∈ nestL, va_Nw (.methodLinkNest q.1 q.2.1 q.2.2 "PieceSwarm") U
abbrev CT : Type := Program × Env × Room × State × MethodId × Array Value × List Frame × Method × Code × Nat × Nat × Nat × (State → Prop)
abbrev xp (X : CT) : Program := X.1
abbrev xe (X : CT) : Env := X.2.1
abbrev xR (X : CT) : Room := X.2.2.1
abbrev xs (X : CT) : State := X.2.2.2.1
abbrev xm (X : CT) : MethodId := X.2.2.2.2.1
abbrev xa (X : CT) : Array Value := X.2.2.2.2.2.1
abbrev xb (X : CT) : List Frame := X.2.2.2.2.2.2.1
abbrev xM (X : CT) : Method := X.2.2.2.2.2.2.2.1
abbrev xc (X : CT) : Code := X.2.2.2.2.2.2.2.2.1
abbrev xn (X : CT) : Nat := X.2.2.2.2.2.2.2.2.2.1
abbrev xk (X : CT) : Nat := X.2.2.2.2.2.2.2.2.2.2.1
abbrev xw (X : CT) : Nat := X.2.2.2.2.2.2.2.2.2.2.2.1
abbrev xQ (X : CT) : State → Prop := X.2.2.2.2.2.2.2.2.2.2.2.2
def J (l : Launch) (G : Geo) (X : CT) (pc : Nat) (lv : List (Nat × Value)) (st : List Value) (v : St3) : Prop :=
  ∀ (H : Heap) (locs : List Loc) (ls : Array Slot), lv_has ls (xn X) lv → va_P (gD G) vwCl (wl G v) H → va_S (AG G) (xs X).heap H locs → W (xp X) l (xe X) (xR X) (xs X) (xm X) (xa X) (xb X) (xM X) (xc X) H locs (xk X) (xw X) (xQ X) (F0 (xm X) pc ls st)
def OK (G : Geo) (X : CT) (cc : ByteArray) (Ts : List Cond) (own : String) (n : Nat) (nL : Nat) : Prop :=
  (xp X).tables.exec = Jvm.exec ∧ (xc X).code = cc ∧ (xc X).maxLocals = xn X ∧ (xs X).vm.findClass own = some (xm X).cls ∧ (∀ w ∈ Ts, w.before (xa X) (xs X) = true) ∧ va_K (gD G) vwCl (gT G) (xs X) ∧ Apart G ∧ NW (xs X) ∧ (n ≤ (xR X).frames ∧ 36 * n ≤ (xR X).locals) ∧ xn X = nL ∧ (xk X ≤ (xR X).cells ∧ xw X ≤ (xR X).slots)
/-- the value of a place among the listed ones -/
def lk : List (Nat × Value) → Nat → Option Value
  | [], _ => none
  | q :: r, i => bif Nat.beq q.1 i then some q.2 else lk r i
theorem lk_at {ls : Array Slot} {n : Nat} : ∀ {lv : List (Nat × Value)} {i : Nat} {x : Value}, lv_has ls n lv → lk lv i = some x → ls[i]? = some (.val x)
  | [], i, x, _, e => by simp [lk] at e
  | q :: r, i, x, h, e => by
    simp only [lk] at e
    cases hb : Nat.beq q.1 i with
    | true =>
      rw [hb, cond_true] at e
      have := Nat.eq_of_beq_eq_true hb
      subst this
      cases e
      exact h.2.2 q List.mem_cons_self
    | false =>
      rw [hb, cond_false] at e
      exact lk_at (lv := r) ⟨h.1, h.2.1, fun q' hq => h.2.2 q' (List.mem_cons_of_mem _ hq)⟩ e
theorem lk_mem {lv : List (Nat × Value)} {i : Nat} {x : Value} (e : lk lv i = some x) : ∃ k : Nat, lv[k]? = some (i, x) := by
  have h : (i, x) ∈ lv := by
    induction lv with
    | nil => simp [lk] at e
    | cons q r ih =>
      simp only [lk] at e
      cases hb : Nat.beq q.1 i with
      | true =>
        rw [hb, cond_true] at e
        have := Nat.eq_of_beq_eq_true hb
        subst this
        cases e
        exact List.mem_cons_self
      | false =>
        rw [hb, cond_false] at e
        exact List.mem_cons_of_mem _ (ih e)
  exact List.getElem?_of_mem h
section ROWS
variable {l : Launch} {G : Geo} {X : CT} {cc : ByteArray} {Ts : List Cond} {own : String} {n nL : Nat} {pc : Nat} {lv : List (Nat × Value)} {st : List Value} {v : St3}
theorem q_lv (ks : List Nat) {lv' : List (Nat × Value)} (h : lv_pick lv ks = lv') (k : J l G X pc lv' st v) : J l G X pc lv st v := fun H locs ls hl hP hS => k H locs ls (lv_sub hl ks h) hP hS
theorem q_iconst (o : OK G X cc Ts own n nL) {z : Int} (d : decode cc pc = .ok (.iconst z, 1)) {x : Int32} (hx : Int32.ofInt z = x) (k : J l G X (pc + 1) lv (.int x :: st) v) : J l G X pc lv st v := fun H locs ls hl hP hS => lv_iconst o.1 o.2.1 d hx (k H locs ls hl hP hS)
theorem q_bipush (o : OK G X cc Ts own n nL) {z : Int} (d : decode cc pc = .ok (.bipush z, 2)) {x : Int32} (hx : (Int8.ofInt z).toInt32 = x) (k : J l G X (pc + 2) lv (.int x :: st) v) : J l G X pc lv st v := fun H locs ls hl hP hS => lv_bipush o.1 o.2.1 d hx (k H locs ls hl hP hS)
theorem q_sipush (o : OK G X cc Ts own n nL) {z : Int} (d : decode cc pc = .ok (.sipush z, 3)) {x : Int32} (hx : (Int16.ofInt z).toInt32 = x) (k : J l G X (pc + 3) lv (.int x :: st) v) : J l G X pc lv st v := fun H locs ls hl hP hS => lv_sipush o.1 o.2.1 d hx (k H locs ls hl hP hS)
theorem q_ldc (o : OK G X cc Ts own n nL) {idx : Nat} {x : Int32} (hc : Cond.constant own idx x ∈ Ts) (d : decode cc pc = .ok (.ldc idx, 2)) (k : J l G X (pc + 2) lv (.int x :: st) v) : J l G X pc lv st v := fun H locs ls hl hP hS => lv_ldc o.1 o.2.1 o.2.2.2.1 (o.2.2.2.2.1 _ hc) d (k H locs ls hl hP hS)
theorem q_ldcw (o : OK G X cc Ts own n nL) {idx : Nat} {x : Int32} (hc : Cond.constant own idx x ∈ Ts) (d : decode cc pc = .ok (.ldc_w idx, 3)) (k : J l G X (pc + 3) lv (.int x :: st) v) : J l G X pc lv st v := fun H locs ls hl hP hS => lv_ldcw o.1 o.2.1 o.2.2.2.1 (o.2.2.2.2.1 _ hc) d (k H locs ls hl hP hS)
theorem q_iload (o : OK G X cc Ts own n nL) {i : Nat} {x : Int32} (d : decode cc pc = .ok (.iload i, 2)) (h : lk lv i = some (.int x)) (k : J l G X (pc + 2) lv (.int x :: st) v) : J l G X pc lv st v := fun H locs ls hl hP hS => lv_iload o.1 o.2.1 d (lk_at hl h) (k H locs ls hl hP hS)
theorem q_iload_n (o : OK G X cc Ts own n nL) {i : Fin 4} {x : Int32} (d : decode cc pc = .ok (.iload_n i, 1)) (h : lk lv (i : Nat) = some (.int x)) (k : J l G X (pc + 1) lv (.int x :: st) v) : J l G X pc lv st v := fun H locs ls hl hP hS => lv_iload_n o.1 o.2.1 d rfl (lk_at hl h) (k H locs ls hl hP hS)
theorem q_aload (o : OK G X cc Ts own n nL) {i : Nat} {x : Nat} (d : decode cc pc = .ok (.aload i, 2)) (h : lk lv i = some (.ref x)) (k : J l G X (pc + 2) lv (.ref x :: st) v) : J l G X pc lv st v := fun H locs ls hl hP hS => lv_aload o.1 o.2.1 d (lk_at hl h) (k H locs ls hl hP hS)
theorem q_aload_n (o : OK G X cc Ts own n nL) {i : Fin 4} {x : Nat} (d : decode cc pc = .ok (.aload_n i, 1)) (h : lk lv (i : Nat) = some (.ref x)) (k : J l G X (pc + 1) lv (.ref x :: st) v) : J l G X pc lv st v := fun H locs ls hl hP hS => lv_aload_n o.1 o.2.1 d rfl (lk_at hl h) (k H locs ls hl hP hS)
abbrev lset (lv : List (Nat × Value)) (i : Nat) (x : Value) : List (Nat × Value) := (i, x) :: lv.filter (fun q => !(q.1 == i) && !(q.1 + 1 == i && q.2.category == 2))
theorem q_istore (o : OK G X cc Ts own n nL) {i : Nat} {x : Int32} {lv' : List (Nat × Value)} (d : decode cc pc = .ok (.istore i, 2)) (hn : i < nL) (h : lset lv i (.int x) = lv') (k : J l G X (pc + 2) lv' st v) : J l G X pc lv (.int x :: st) v := fun H locs ls hl hP hS => lv_istore o.1 o.2.1 d hl (by rw [o.2.2.2.2.2.2.2.2.2.1]; exact hn) h (fun ls' hl' => k H locs ls' hl' hP hS)
theorem q_istore_n (o : OK G X cc Ts own n nL) {i : Fin 4} {x : Int32} {lv' : List (Nat × Value)} (d : decode cc pc = .ok (.istore_n i, 1)) (hn : (i : Nat) < nL) (h : lset lv (i : Nat) (.int x) = lv') (k : J l G X (pc + 1) lv' st v) : J l G X pc lv (.int x :: st) v := fun H locs ls hl hP hS => lv_istore_n o.1 o.2.1 d rfl hl (by rw [o.2.2.2.2.2.2.2.2.2.1]; exact hn) h (fun ls' hl' => k H locs ls' hl' hP hS)
theorem q_astore (o : OK G X cc Ts own n nL) {i : Nat} {x : Nat} {lv' : List (Nat × Value)} (d : decode cc pc = .ok (.astore i, 2)) (hn : i < nL) (h : lset lv i (.ref x) = lv') (k : J l G X (pc + 2) lv' st v) : J l G X pc lv (.ref x :: st) v := fun H locs ls hl hP hS => lv_astore o.1 o.2.1 d hl (by rw [o.2.2.2.2.2.2.2.2.2.1]; exact hn) h (fun ls' hl' => k H locs ls' hl' hP hS)
theorem q_astore_n (o : OK G X cc Ts own n nL) {i : Fin 4} {x : Nat} {lv' : List (Nat × Value)} (d : decode cc pc = .ok (.astore_n i, 1)) (hn : (i : Nat) < nL) (h : lset lv (i : Nat) (.ref x) = lv') (k : J l G X (pc + 1) lv' st v) : J l G X pc lv (.ref x :: st) v := fun H locs ls hl hP hS => lv_astore_n o.1 o.2.1 d rfl hl (by rw [o.2.2.2.2.2.2.2.2.2.1]; exact hn) h (fun ls' hl' => k H locs ls' hl' hP hS)
theorem q_iinc (o : OK G X cc Ts own n nL) {i : Nat} {z : Int} {x y : Int32} {lv' : List (Nat × Value)} (d : decode cc pc = .ok (.iinc i z, 3)) (hk : lk lv i = some (.int x)) (hy : x + Int32.ofInt z = y) (hn : i < nL) (h : lset lv i (.int y) = lv') (k : J l G X (pc + 3) lv' st v) : J l G X pc lv st v := fun H locs ls hl hP hS => by
  obtain ⟨a, ha⟩ := lk_mem hk
  exact lv_iinc o.1 o.2.1 d hl ha hy (by rw [o.2.2.2.2.2.2.2.2.2.1]; exact hn) h (fun ls' hl' => k H locs ls' hl' hP hS)
theorem q_iadd (o : OK G X cc Ts own n nL) {x y : Int32} (d : decode cc pc = .ok (.iadd, 1)) (k : J l G X (pc + 1) lv (.int (x + y) :: st) v) : J l G X pc lv (.int y :: .int x :: st) v := fun H locs ls hl hP hS => lv_iadd o.1 o.2.1 d (k H locs ls hl hP hS)
theorem q_isub (o : OK G X cc Ts own n nL) {x y : Int32} (d : decode cc pc = .ok (.isub, 1)) (k : J l G X (pc + 1) lv (.int (x - y) :: st) v) : J l G X pc lv (.int y :: .int x :: st) v := fun H locs ls hl hP hS => lv_isub o.1 o.2.1 d (k H locs ls hl hP hS)
theorem q_imul (o : OK G X cc Ts own n nL) {x y : Int32} (d : decode cc pc = .ok (.imul, 1)) (k : J l G X (pc + 1) lv (.int (x * y) :: st) v) : J l G X pc lv (.int y :: .int x :: st) v := fun H locs ls hl hP hS => lv_imul o.1 o.2.1 d (k H locs ls hl hP hS)
theorem q_iand (o : OK G X cc Ts own n nL) {x y : Int32} (d : decode cc pc = .ok (.iand, 1)) (k : J l G X (pc + 1) lv (.int (x &&& y) :: st) v) : J l G X pc lv (.int y :: .int x :: st) v := fun H locs ls hl hP hS => lv_iand o.1 o.2.1 d (k H locs ls hl hP hS)
theorem q_ior (o : OK G X cc Ts own n nL) {x y : Int32} (d : decode cc pc = .ok (.ior, 1)) (k : J l G X (pc + 1) lv (.int (x ||| y) :: st) v) : J l G X pc lv (.int y :: .int x :: st) v := fun H locs ls hl hP hS => lv_ior o.1 o.2.1 d (k H locs ls hl hP hS)
theorem q_ixor (o : OK G X cc Ts own n nL) {x y : Int32} (d : decode cc pc = .ok (.ixor, 1)) (k : J l G X (pc + 1) lv (.int (x ^^^ y) :: st) v) : J l G X pc lv (.int y :: .int x :: st) v := fun H locs ls hl hP hS => lv_ixor o.1 o.2.1 d (k H locs ls hl hP hS)
theorem q_idiv (o : OK G X cc Ts own n nL) {x y : Int32} (d : decode cc pc = .ok (.idiv, 1)) (hne : ¬ y = 0) (k : J l G X (pc + 1) lv (.int (x / y) :: st) v) : J l G X pc lv (.int y :: .int x :: st) v := fun H locs ls hl hP hS => lv_idiv o.1 o.2.1 d hne (k H locs ls hl hP hS)
theorem q_irem (o : OK G X cc Ts own n nL) {x y : Int32} (d : decode cc pc = .ok (.irem, 1)) (hne : ¬ y = 0) (k : J l G X (pc + 1) lv (.int (x - x / y * y) :: st) v) : J l G X pc lv (.int y :: .int x :: st) v := fun H locs ls hl hP hS => lv_irem o.1 o.2.1 d hne (k H locs ls hl hP hS)
theorem q_ishl (o : OK G X cc Ts own n nL) {x y : Int32} (d : decode cc pc = .ok (.ishl, 1)) (k : J l G X (pc + 1) lv (.int (x <<< (y &&& 31)) :: st) v) : J l G X pc lv (.int y :: .int x :: st) v := fun H locs ls hl hP hS => lv_ishl o.1 o.2.1 d (k H locs ls hl hP hS)
def ushr (x y : Int32) : Int32 := (x.toUInt32 >>> (y.toUInt32 &&& Int32.toUInt32 31)).toInt32
theorem q_iushr (o : OK G X cc Ts own n nL) {x y : Int32} (d : decode cc pc = .ok (.iushr, 1)) (k : J l G X (pc + 1) lv (.int (ushr x y) :: st) v) : J l G X pc lv (.int y :: .int x :: st) v := fun H locs ls hl hP hS => lv_iushr o.1 o.2.1 d rfl (k H locs ls hl hP hS)
theorem q_dup (o : OK G X cc Ts own n nL) {a : Value} (d : decode cc pc = .ok (.dup, 1)) (ha : a.category = 1) (k : J l G X (pc + 1) lv (a :: a :: st) v) : J l G X pc lv (a :: st) v := fun H locs ls hl hP hS => lv_dup o.1 o.2.1 d ha (k H locs ls hl hP hS)
theorem q_dup2 (o : OK G X cc Ts own n nL) {a b : Value} (d : decode cc pc = .ok (.dup2, 1)) (ha : a.category = 1) (hb : b.category = 1) (k : J l G X (pc + 1) lv (a :: b :: a :: b :: st) v) : J l G X pc lv (a :: b :: st) v := fun H locs ls hl hP hS => lv_dup2_11 o.1 o.2.1 d ha hb (k H locs ls hl hP hS)
theorem q_goto (o : OK G X cc Ts own n nL) {off : Int} (tgt : Nat) (d : decode cc pc = .ok (.goto off, 3)) (ht : (pc : Int) + off = (tgt : Int)) (k : J l G X tgt lv st v) : J l G X pc lv st v := fun H locs ls hl hP hS => lv_goto o.1 o.2.1 d ht (k H locs ls hl hP hS)
theorem q_if_eq (o : OK G X cc Ts own n nL) {x : Int32} {off : Int} (tgt : Nat) (d : decode cc pc = .ok (.ifCond .eq off, 3)) (ht : (pc : Int) + off = (tgt : Int)) (kt : x = 0 → J l G X tgt lv st v) (kf : ¬ x = 0 → J l G X (pc + 3) lv st v) : J l G X pc lv (.int x :: st) v := fun H locs ls hl hP hS => lv_if_eq o.1 o.2.1 d ht (fun c => kt c H locs ls hl hP hS) (fun c => kf c H locs ls hl hP hS)
theorem q_if_ne (o : OK G X cc Ts own n nL) {x : Int32} {off : Int} (tgt : Nat) (d : decode cc pc = .ok (.ifCond .ne off, 3)) (ht : (pc : Int) + off = (tgt : Int)) (kt : ¬ x = 0 → J l G X tgt lv st v) (kf : x = 0 → J l G X (pc + 3) lv st v) : J l G X pc lv (.int x :: st) v := fun H locs ls hl hP hS => lv_if_ne o.1 o.2.1 d ht (fun c => kt c H locs ls hl hP hS) (fun c => kf c H locs ls hl hP hS)
theorem q_if_lt (o : OK G X cc Ts own n nL) {x : Int32} {off : Int} (tgt : Nat) (d : decode cc pc = .ok (.ifCond .lt off, 3)) (ht : (pc : Int) + off = (tgt : Int)) (kt : x < 0 → J l G X tgt lv st v) (kf : ¬ x < 0 → J l G X (pc + 3) lv st v) : J l G X pc lv (.int x :: st) v := fun H locs ls hl hP hS => lv_if_lt o.1 o.2.1 d ht (fun c => kt c H locs ls hl hP hS) (fun c => kf c H locs ls hl hP hS)
theorem q_if_ge (o : OK G X cc Ts own n nL) {x : Int32} {off : Int} (tgt : Nat) (d : decode cc pc = .ok (.ifCond .ge off, 3)) (ht : (pc : Int) + off = (tgt : Int)) (kt : 0 ≤ x → J l G X tgt lv st v) (kf : ¬ 0 ≤ x → J l G X (pc + 3) lv st v) : J l G X pc lv (.int x :: st) v := fun H locs ls hl hP hS => lv_if_ge o.1 o.2.1 d ht (fun c => kt c H locs ls hl hP hS) (fun c => kf c H locs ls hl hP hS)
theorem q_if_gt (o : OK G X cc Ts own n nL) {x : Int32} {off : Int} (tgt : Nat) (d : decode cc pc = .ok (.ifCond .gt off, 3)) (ht : (pc : Int) + off = (tgt : Int)) (kt : 0 < x → J l G X tgt lv st v) (kf : ¬ 0 < x → J l G X (pc + 3) lv st v) : J l G X pc lv (.int x :: st) v := fun H locs ls hl hP hS => lv_if_gt o.1 o.2.1 d ht (fun c => kt c H locs ls hl hP hS) (fun c => kf c H locs ls hl hP hS)
theorem q_if_le (o : OK G X cc Ts own n nL) {x : Int32} {off : Int} (tgt : Nat) (d : decode cc pc = .ok (.ifCond .le off, 3)) (ht : (pc : Int) + off = (tgt : Int)) (kt : x ≤ 0 → J l G X tgt lv st v) (kf : ¬ x ≤ 0 → J l G X (pc + 3) lv st v) : J l G X pc lv (.int x :: st) v := fun H locs ls hl hP hS => lv_if_le o.1 o.2.1 d ht (fun c => kt c H locs ls hl hP hS) (fun c => kf c H locs ls hl hP hS)
theorem q_ic_eq (o : OK G X cc Ts own n nL) {x y : Int32} {off : Int} (tgt : Nat) (d : decode cc pc = .ok (.if_icmp .eq off, 3)) (ht : (pc : Int) + off = (tgt : Int)) (kt : x = y → J l G X tgt lv st v) (kf : ¬ x = y → J l G X (pc + 3) lv st v) : J l G X pc lv (.int y :: .int x :: st) v := fun H locs ls hl hP hS => lv_icmp_eq o.1 o.2.1 d ht (fun c => kt c H locs ls hl hP hS) (fun c => kf c H locs ls hl hP hS)
theorem q_ic_ne (o : OK G X cc Ts own n nL) {x y : Int32} {off : Int} (tgt : Nat) (d : decode cc pc = .ok (.if_icmp .ne off, 3)) (ht : (pc : Int) + off = (tgt : Int)) (kt : ¬ x = y → J l G X tgt lv st v) (kf : x = y → J l G X (pc + 3) lv st v) : J l G X pc lv (.int y :: .int x :: st) v := fun H locs ls hl hP hS => lv_icmp_ne o.1 o.2.1 d ht (fun c => kt c H locs ls hl hP hS) (fun c => kf c H locs ls hl hP hS)
theorem q_ic_lt (o : OK G X cc Ts own n nL) {x y : Int32} {off : Int} (tgt : Nat) (d : decode cc pc = .ok (.if_icmp .lt off, 3)) (ht : (pc : Int) + off = (tgt : Int)) (kt : x < y → J l G X tgt lv st v) (kf : ¬ x < y → J l G X (pc + 3) lv st v) : J l G X pc lv (.int y :: .int x :: st) v := fun H locs ls hl hP hS => lv_icmp_lt o.1 o.2.1 d ht (fun c => kt c H locs ls hl hP hS) (fun c => kf c H locs ls hl hP hS)
theorem q_ic_ge (o : OK G X cc Ts own n nL) {x y : Int32} {off : Int} (tgt : Nat) (d : decode cc pc = .ok (.if_icmp .ge off, 3)) (ht : (pc : Int) + off = (tgt : Int)) (kt : y ≤ x → J l G X tgt lv st v) (kf : ¬ y ≤ x → J l G X (pc + 3) lv st v) : J l G X pc lv (.int y :: .int x :: st) v := fun H locs ls hl hP hS => lv_icmp_ge o.1 o.2.1 d ht (fun c => kt c H locs ls hl hP hS) (fun c => kf c H locs ls hl hP hS)
theorem q_ic_gt (o : OK G X cc Ts own n nL) {x y : Int32} {off : Int} (tgt : Nat) (d : decode cc pc = .ok (.if_icmp .gt off, 3)) (ht : (pc : Int) + off = (tgt : Int)) (kt : y < x → J l G X tgt lv st v) (kf : ¬ y < x → J l G X (pc + 3) lv st v) : J l G X pc lv (.int y :: .int x :: st) v := fun H locs ls hl hP hS => lv_icmp_gt o.1 o.2.1 d ht (fun c => kt c H locs ls hl hP hS) (fun c => kf c H locs ls hl hP hS)
theorem q_ic_le (o : OK G X cc Ts own n nL) {x y : Int32} {off : Int} (tgt : Nat) (d : decode cc pc = .ok (.if_icmp .le off, 3)) (ht : (pc : Int) + off = (tgt : Int)) (kt : x ≤ y → J l G X tgt lv st v) (kf : ¬ x ≤ y → J l G X (pc + 3) lv st v) : J l G X pc lv (.int y :: .int x :: st) v := fun H locs ls hl hP hS => lv_icmp_le o.1 o.2.1 d ht (fun c => kt c H locs ls hl hP hS) (fun c => kf c H locs ls hl hP hS)
end ROWS
