/-! the first state: where its cells lie, what they hold, and that it stands in the relation -/
def v0 : St3 := fun k _ j => bif Nat.beq k 17 then -1 else bif Nat.beq k 5 then (bif Nat.ble j 1 then 1 else 0) else bif Nat.beq k 14 then (bif Nat.beq j 5 then 2 else bif Nat.beq j 6 then -1 else 0) else bif Nat.beq k 16 then (bif Nat.ble 8 j then -1 else 0) else bif Nat.beq k 24 then (bif (Nat.beq j 1 || Nat.beq j 2) then 1 else 0) else 0
def geoA (base : List Nat) (a : Nat → Nat → Nat) (b : Nat → Nat) (k i : Nat) : Nat := bif Nat.ble 24 k then b k else bif Nat.ble 14 k then a i ((([0, 1, 5, 2, 3, 4, 6, 7, 8, 9] : List Nat)[k - 14]?).getD 0) else (base[k]?).getD 0
def whereL : List Nat := [0, 1, 131, 132, 133, 2, 3, 4, 5, 6, 7, 8, 9, 10] ++ ([0, 1, 5, 2, 3, 4, 6, 7, 8, 9].flatMap (fun t => (List.range 12).map (fun i => 11 + 10 * i + t))) ++ (List.range 35).map (fun t => 134 + t)
theorem P_of_D {D : va_G} {cl : List vw_C} {ws ws' : va_W} {H : Heap} (h : va_P D cl ws H) (is : List Nat) (hs : is.map (fun i => ws[i]?) = ws'.map some) : va_P D cl ws' H := fun k q hq => by
  have h1 : (is.map (fun i => ws[i]?))[k]? = some (some q) := by rw [hs, List.getElem?_map, hq]; rfl
  rw [List.getElem?_map] at h1
  cases hi : is[k]? with
  | none => rw [hi] at h1; cases h1
  | some i => rw [hi] at h1; exact h i q (Option.some.inj h1)
theorem Apart.of {G : Geo} {v : St3} {A : Nat → Prop} (h : va_D A (wl G v)) : Apart G := fun k i k' i' h1 h2 e => by
  obtain ⟨q, c1, w1⟩ := wl_at G v h1
  obtain ⟨q', c2, w2⟩ := wl_at G v h2
  have := h.1 q q' _ _ w1 w2 e
  subst this
  have e2 := Option.some.inj (c1.symm.trans c2)
  exact ⟨congrArg Prod.fst e2, congrArg Prod.snd e2⟩
theorem AG.of {G : Geo} {v : St3} {A : Nat → Prop} (h : va_D A (wl G v)) {q : Nat} (hq : AG G q) : A q := by
  obtain ⟨k, i, hi, rfl⟩ := hq
  obtain ⟨q0, -, w⟩ := wl_at G v hi
  exact h.2 q0 _ w
theorem hs0 (d p : Nat) : hs v0 d p = false := rfl
theorem mk0 (d p : Nat) : mk v0 d p = false := rfl
theorem hl0 (d p b : Nat) : hl v0 d p b = false := rfl
theorem mt0 (a b : Nat) : mt v0 a b = false := rfl
theorem op0 (a b : Nat) : op v0 a b = false := rfl
theorem bn0 (a b : Nat) : bn v0 a b = false := rfl
theorem hr0 (d : Nat) : hr v0 d = false := rfl
theorem mz {f : Nat → Bool} (h : ∀ i, f i = false) : Msk 0 f := Msk.none.ext (fun i _ => (h i).symm)
theorem RXv0 : RX 1 1 0 0 0 v0 v0 := by
  refine ⟨⟨⟨rfl, rfl, rfl⟩, ⟨rfl, mz (fun i => by simp), rfl, rfl, rfl⟩, ⟨fun d _ => ⟨rfl, rfl, rfl, rfl, rfl, rfl, rfl⟩, fun d h => absurd h (Nat.not_lt_zero _), fun d _ _ => ⟨rfl, rfl⟩⟩, fun d _ => ⟨mz (fun i => by rw [hs0]; simp), mz (fun i => by rw [mk0]; simp)⟩, fun d p b _ _ _ => ?_, fun d p b _ _ _ => rfl, ⟨fun d p b _ _ _ => rfl, fun d _ => rfl⟩, ⟨fun a _ => ⟨mz (fun i => by simp), mz (fun i => by simp), mz (fun i => by simp), mz (fun i => by simp)⟩, fun a h => absurd h (Nat.not_lt_zero _), fun a _ _ => ⟨rfl, rfl⟩⟩, fun a b _ _ => ⟨rfl, rfl, rfl, rfl⟩, ⟨rfl, rfl, by decide, fun j _ => ⟨rfl, rfl, rfl, rfl, rfl, rfl⟩⟩⟩, ⟨⟨rfl, rfl, rfl, by decide, by decide, by decide, by decide, by decide⟩, rfl, fun j h => absurd h (Nat.not_lt_zero _), fun d p b _ _ _ h => ?_, fun d p b _ _ _ h => ?_, ⟨fun a b _ _ => rfl, fun a _ => rfl⟩, fun a b _ _ h => ?_, fun d h => absurd h (Nat.not_lt_zero _), fun d _ _ => ⟨fun p _ => ⟨rfl, rfl⟩, fun p b _ _ => rfl, fun b _ => ⟨rfl, rfl, rfl⟩, rfl, rfl, fun a _ => ⟨rfl, rfl⟩⟩, fun d h => absurd h (Nat.not_lt_zero _), ⟨rfl, rfl⟩, ⟨fun j h => absurd h (Nat.not_lt_zero _), by decide⟩⟩⟩
  · rw [hl0, if_neg (fun c => by cases c.2.2)]; rfl
  · rw [hl0] at h; cases h
  · rw [hs0] at h; cases h
  · rw [op0] at h; cases h
