/-! THE CLAIM OUT OF ONE WALK OF THE LAW'S BODY. Your part is whole_start (and what it stands on); all else here is the same for every law, but numbers. -/
def R_law : String := "PieceSwarmLaw"
def lw_P (b : Addr) (xs : List Int32) (args : Array Value) (s : State) : Prop := args = #[.ref b] ∧ s.IntsAt b xs ∧ xs.length ≤ 2048 ∧ (Jvm.Cond.and given_1 narrow_1).before args s = true
def lw_Q (_ : Array Value) (s : State) (o : Outcome) (t : State) : Prop := o = .returned (some (.int 1)) ∧ Framed s o t [] 600000 7302250
def lw_Z (below : List Frame) (a : Array Value) (s : State) : State → Prop := fun t => ∃ o, t.status = .running ∧ Ended t below o ∧ lw_Q a s o t
/-- the law's own end, with 1 on the stack, nothing written that was there before, its room as the claim has it -/
theorem lw_ret {p : Program} {l : Launch} {e : Env} {s : State} {m : MethodId} {below : List Frame} {meth : Method} {c : Code} {b : Nat} (hx : p.tables.exec = Jvm.exec) (hb : c.code = code) (hr : meth.sig.returnType = ret) (hlocks : meth.locks = false) {pc : Nat} {H : Heap} {ls : Array Slot} (hdg : decode code pc = .ok (.ireturn, 1)) : W p l e room_1 s m #[Value.ref b] below meth c H [] 600000 7302250 (lw_Z below #[Value.ref b] s) (F0 m pc ls [.int 1]) := by
  intro T hT X
  obtain ⟨fs, hret, hrun, hended, hW, hframe⟩ := X.leave (v := some (.int 1)) (hlocks := hlocks) (fun h => by rw [hr] at h; cases h)
  have hmeth' : T.vm.method? m = some meth := X.method'
  refine ⟨T.setFrames fs, ?_, .returned (some (.int 1)), hrun, hended, rfl, ⟨_, rfl⟩, hW, hframe⟩
  jvm_step X.here [X.here.top, hx, hb, hdg, hmeth', hr, ret, narrow_b1]
  (try refine ⟨rfl, ?_⟩); (try refine ⟨rfl, ?_⟩)
  first | (intro acts; rw [hret _ acts rfl rfl rfl]) | rw [hret _ _ rfl rfl rfl]
  exact Steps.refl _
/-- what holds at the law's entry: the machine, the code, the tables' words (any of lw_tbl by 'hts w (by decide +kernel)'), the script of L ints xs at the cell b, what the Statement gives of the start (any of its parts by flat_of_before) -/
def lw_At (p : Program) (s : State) (m : MethodId) (meth : Method) (c : Code) (b L : Nat) (xs : Nat → Int32) : Prop :=
  p.tables.exec = Jvm.exec ∧ c.code = code ∧ meth.sig.returnType = ret ∧ c.maxLocals = 4 ∧ s.vm.findClass R_law = some m.cls ∧ (∀ w ∈ lw_tbl, w.before #[Value.ref b] s = true) ∧ va_X b L xs s s.heap ∧ b < s.heap.size ∧ meth.locks = false ∧ (Jvm.Cond.and given_1 narrow_1).before #[Value.ref b] s = true
/-- the classes' numbers and slots, the rows' classes -/
theorem known {s : State} {args : Array Value} (hts : ∀ w ∈ lw_tbl, w.before args s = true) : ∃ (D : va_G) (cI cZ cM : ClassId), ∀ g0 : Nat → Nat → Nat, va_K D vwCl (gT (D, g0, cI, cZ, cM)) s := by
  have hk : ∀ k : Nat, ∃ d : ClassId × (Nat → Nat), ∀ q : vw_C, vwCl[k]? = some q → u_Kn s q.1 q.2.1 q.2.2 d.1 d.2 := by
    intro k
    have one : ∀ {C : String} {T : u_T} {N : Nat}, (∀ w ∈ u_ws C T N, w ∈ lw_tbl) → Cond.instantiable C N ∈ lw_tbl → vwCl[k]? = some (C, T, N) → ∃ d : ClassId × (Nat → Nat), ∀ q : vw_C, vwCl[k]? = some q → u_Kn s q.1 q.2.1 q.2.2 d.1 d.2 := by
      intro C T N hin hi e
      obtain ⟨cC, iS, h⟩ := u_known hts hin (hts _ hi)
      refine ⟨(cC, iS), fun q hq => ?_⟩
      have e2 := Option.some.inj (e.symm.trans hq)
      subst e2
      exact h
    match k, @one with
    | 0, one => exact one (fun w h => (lx_0 w h).1) inst_0 rfl
    | 1, one => exact one (fun w h => (lx_1 w h).1) inst_1 rfl
    | 2, one => exact one (fun w h => (lx_2 w h).1) inst_2 rfl
    | 3, one => exact one (fun w h => (lx_3 w h).1) inst_3 rfl
    | 4, one => exact one (fun w h => (lx_4 w h).1) inst_4 rfl
    | 5, one => exact one (fun w h => (lx_5 w h).1) inst_5 rfl
    | 6, one => exact one (fun w h => (lx_6 w h).1) inst_6 rfl
    | 7, one => exact one (fun w h => (lx_7 w h).1) inst_7 rfl
    | 8, one => exact one (fun w h => (lx_8 w h).1) inst_8 rfl
    | 9, one => exact one (fun w h => (lx_9 w h).1) inst_9 rfl
    | 10, one => exact one (fun w h => (lx_10 w h).1) inst_10 rfl
    | k + 11, _ =>
      refine ⟨((0 : Nat), fun _ => 0), fun q hq => ?_⟩
      have := (List.getElem?_eq_some_iff.mp hq).1
      have e : vwCl.length = 11 := rfl
      omega
  obtain ⟨f, hf⟩ := Classical.skolem.mp hk
  obtain ⟨cI, kI, coI, a1, a2, a3⟩ := Cond.arrayClass_spec (hts _ arrI_in)
  obtain ⟨cZ, kZ, coZ, b1, b2, b3⟩ := Cond.arrayClass_spec (hts _ arrZ_in)
  obtain ⟨coM, cM, kM, d1, d2, d3, d4, d5⟩ := Cond.arrayOver_spec (hts _ over_in)
  refine ⟨(fun k => (f k).1, fun k => (f k).2), cI, cZ, cM, fun g0 => ⟨fun k q hq => hf k q hq, fun k q hq => ?_⟩⟩
  match k, hq with
  | 0, hq =>
    cases hq
    exact ⟨fun n z => ⟨fun k h => (by cases h), kI, a2, coI, a3⟩, a1⟩
  | 1, hq =>
    cases hq
    exact ⟨fun n z => ⟨fun k h => (by cases h), kZ, b2, coZ, b3⟩, b1⟩
  | 2, hq =>
    cases hq
    exact ⟨fun n z => ⟨fun k h => (by cases h), kM, d3, coM, d4⟩, kM, coM, d3, d4, d1, d5⟩
  | k + 3, hq =>
    have h3 := (List.getElem?_eq_some_iff.mp hq).1
    exact absurd (show k + 3 < 3 from h3) (by omega)
set_option maxHeartbeats 4000000 in
set_option maxRecDepth 100000 in
/-- the law from its entry -/
theorem law_start {p : Program} {e : Env} {s : State} {m : MethodId} {below : List Frame} {meth : Method} {c : Code} (l : Launch) {b Ln : Nat} {ys : Nat → Int32} (hL : Ln ≤ 2048) (C0 : lw_At p s m meth c b Ln ys) : W p l e room_1 s m #[Value.ref b] below meth c s.heap [] 0 0 (lw_Z below #[Value.ref b] s) (entryFrame m ([Value.ref b] : List Value).toArray 4) := by
  obtain ⟨hx, hb, hr, hml, hown, hts, hX, hbl, hlocks, hgv⟩ := id C0
  obtain ⟨D, cI, cZ, cM, hK⟩ := known hts
  have hO : va_AO "PieceSwarm$Member" s := va_AO.of (hts _ over_in)
  have hN : NW s := fun q hq => va_Nw.of rfl (hts _ (nest_in _ (List.mem_map.mpr ⟨q, hq, rfl⟩)))
  obtain ⟨X, hXe⟩ : ∃ X : CT, X = (p, e, room_1, s, m, #[Value.ref b], below, meth, c, 4, 600000, 7302250, lw_Z below #[Value.ref b] s) := ⟨_, rfl⟩
  obtain ⟨G0, hG0⟩ : ∃ G : Geo, G = (D, (fun _ _ => 0), cI, cZ, cM) := ⟨_, rfl⟩
  have o : OKC (fun q : Nat => s.heap.size ≤ q) G0 X cL_law lw_tbl RL 9 4 600000 7302250 := by
    subst hXe
    subst hG0
    exact ⟨hx, hb, hml, hown, hts, hK _, hO, ⟨Nat.le_of_ble_eq_true rfl, Nat.le_of_ble_eq_true rfl⟩, rfl, ⟨Nat.le_refl _, Nat.le_refl _⟩, fun q h => h⟩
  have main : JC l (fun q : Nat => s.heap.size ≤ q) G0 X 0 0 0 [(0, .ref b)] [] [] := by
    refine k_new o (ci := 9) [.null, .null, .null, .null] rfl (fun w h => (lx_9 w h).1) tyX9_ok lk_9 inst_9 ini_9 (by decide +kernel) (Nat.le_of_ble_eq_true rfl) (Nat.le_of_ble_eq_true rfl) dL_law_0 (fun x => ?_)
    refine k_dup o dL_law_3 rfl ?_
    refine k_init o [] (cm_X9 l G0 x) gw_X9_init rfl ini_9 ml_9 im_9 rfl (by decide +kernel) (by decide) (by decide) (Nat.le_of_ble_eq_true rfl) (Nat.le_of_ble_eq_true rfl) rfl (Nat.le_of_ble_eq_true rfl) dL_law_4 ?_
    intro Lx hLx
    refine k_astore_n o dL_law_7 (by decide) (lv' := [(1, .ref x), (0, .ref b)]) rfl ?_
    refine k_new o (ci := 10) [.int 0, .int 0, .int 0, .int 0, .int 0, .int 0, .int 0, .int 0, .int 0, .int 0, .null, .null, .null, .null, .null, .null, .null, .null, .null, .null, .null, .null, .null, .null, .null, .null, .null, .null, .null, .null, .null, .null, .null, .null, .int 0, .null, .null, .null, .null, .null, .null, .null, .null, .null, .null] rfl (fun w h => (lx_10 w h).1) tyX10_ok lk_10 inst_10 ini_10 (by decide +kernel) (Nat.le_of_ble_eq_true rfl) (Nat.le_of_ble_eq_true rfl) dL_law_8 (fun mm => ?_)
    refine k_dup o dL_law_11 rfl ?_
    refine k_init o [] (cm_X10 l G0 mm) gw_X10_init rfl ini_10 ml_10 im_10 rfl (by decide +kernel) (by decide) (by decide) (Nat.le_of_ble_eq_true rfl) (Nat.le_of_ble_eq_true rfl) rfl (Nat.le_of_ble_eq_true rfl) dL_law_12 ?_
    rintro _ ⟨bb, rfl, rfl⟩
    refine k_astore_n o dL_law_15 (by decide) (lv' := [(2, .ref (bb 24)), (1, .ref x), (0, .ref b)]) rfl ?_
    refine k_iconst o dL_law_16 (x := nI 0) (by decide) ?_
    refine k_istore_n o dL_law_17 (by decide) (lv' := [(3, .int (nI 0)), (2, .ref (bb 24)), (1, .ref x), (0, .ref b)]) rfl ?_
    obtain ⟨c1, ar, op1, as1, _, ⟨wh, rd, r1, r2, r3, r4, r5, r6, mr, a, rfl⟩, rfl⟩ := hLx
    intro H locs ls hl hP hD hS
    subst hG0
    obtain ⟨G, hG⟩ : ∃ G : Geo, G = (D, geoA [x, c1, ar, op1, as1, wh, rd, r1, r2, r3, r4, r5, r6, mr] a bb, cI, cZ, cM) := ⟨_, rfl⟩
    have hps := all_pos D (fun _ _ => 0) cI cZ cM x c1 ar op1 as1 wh rd r1 r2 r3 r4 r5 r6 mr a bb
    rw [← hG] at hps
    have hP0 : va_P (gD G) vwCl ((allF (D, (fun _ _ => 0), cI, cZ, cM) x c1 ar op1 as1 wh rd r1 r2 r3 r4 r5 r6 mr a ++ [(ar, .inr (0, [.ref c1]))] ++ [(op1, .inr (4, [.ref c1]))] ++ [(as1, .inr (1, [.ref c1]))]) ++ modL (D, (fun _ _ => 0), cI, cZ, cM) bb) H := by
      rw [hG]
      exact hP
    have hP1 : va_P (gD G) vwCl (wl G v0) H := wl_P psF hps hP0
    have hD1 : va_D (fun q : Nat => s.heap.size ≤ q) (wl G v0) := wl_D psF hps psF_inj hD
    have hAp : Apart G := Apart.of hD1
    have hAG : ∀ q : Nat, AG G q → s.heap.size ≤ q := fun q h => AG.of hD1 h
    have E : LE G X b Ln ys := by
      subst hXe
      subst hG
      exact ⟨⟨hx, hb, hml, hown, hts, hK _, hAp, hN, ⟨Nat.le_of_ble_eq_true rfl, Nat.le_of_ble_eq_true rfl⟩, rfl, ⟨Nat.le_refl _, Nat.le_refl _⟩⟩, hX, hbl, fun h => absurd (hAG b h) (Nat.not_le.mpr hbl), hL⟩
    have fin : ∀ (j : Nat) (v : St3), J l G X 701 (LV G b j) [.int 1] v := by
      intro j v H1 locs1 ls1 hl1 hP2 hS2
      subst hXe
      exact va_forget (fun q hq => hAG _ (hS2.2.2 q hq)) (lw_ret hx hb hr hlocks dL_law_701)
    have lp := law_loop (l := l) E fin (Ln + 1) 0 1 1 0 0 0 v0 v0 (Nat.zero_le _) (by omega) RXv0 (Nat.le_refl _)
    rw [gl_self] at lp
    have hS1 : va_S (AG G) (xs X).heap H [] := by
      subst hXe
      exact ⟨hS.1, fun q h1 h2 => hS.2.1 q h1 (fun h3 => absurd h1 (Nat.not_lt.mpr h3)), fun q h => absurd h List.not_mem_nil⟩
    have hl2 : lv_has ls (xn X) (LV G b 0) := by
      subst hG
      exact hl
    have fw := lp H [] ls hl2 hP1 hS1
    subst hXe
    exact va_forget (fun q hq => hS.2.2 q hq) (W.widen (Nat.le_of_ble_eq_true rfl) (Nat.le_of_ble_eq_true rfl) fw)
  have hl := lv_entry ([.ref b]) (n := 4) (Nat.le_of_ble_eq_true rfl)
  rw [lg_entry_eq]
  subst hXe
  exact main s.heap [] _ hl (fun k q h => by simp at h) ⟨fun i j p q h => by simp at h, fun k q h => by simp at h⟩ va_S.rf
