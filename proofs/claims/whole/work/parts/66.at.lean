/-- all cells in the order in which they are made -/
abbrev allF (G : Geo) (x c ar op as wh rd r1 r2 r3 r4 r5 r6 mr : Nat) (a : Nat → Nat → Nat) : va_W := (x, .inr (9, [.ref c, .ref ar, .ref op, .ref as])) :: (crowB G c wh rd r1 r2 r3 r4 r5 r6 mr (fun j => some (a j 0)) ++ membs G a 12)
theorem membs_len (G : Geo) (a : Nat → Nat → Nat) : ∀ n : Nat, (membs G a n).length = 10 * n
  | 0 => rfl
  | n + 1 => by
    show (membs G a n ++ memL G (a n)).length = _
    rw [List.length_append, membs_len G a n]
    show 10 * n + 10 = _
    omega
theorem membs_get (G : Geo) (a : Nat → Nat → Nat) {d t : Nat} (ht : t < 10) : ∀ n : Nat, d < n → (membs G a n)[10 * d + t]? = (memL G (a d))[t]?
  | 0, h => absurd h (Nat.not_lt_zero _)
  | n + 1, h => by
    show (membs G a n ++ memL G (a n))[10 * d + t]? = _
    by_cases q : d = n
    · subst q
      rw [List.getElem?_append_right (by rw [membs_len]; omega), membs_len, Nat.add_sub_cancel_left]
    · rw [List.getElem?_append_left (by rw [membs_len]; omega)]
      exact membs_get G a ht n (by omega)
section FIRST
variable {F M : va_W} {ca co cs : Nat × va_E}
theorem fa_aF (hF : F.length = 131) {p : Nat} (hp : p < 131) : ((F ++ [ca] ++ [co] ++ [cs]) ++ M)[p]? = F[p]? := by
  rw [List.getElem?_append_left (by simp [hF]; omega), List.getElem?_append_left (by simp [hF]; omega), List.getElem?_append_left (by simp [hF]; omega), List.getElem?_append_left (by omega)]
theorem fa_a131 (hF : F.length = 131) : ((F ++ [ca] ++ [co] ++ [cs]) ++ M)[131]? = some ca := by
  rw [List.getElem?_append_left (by simp [hF]), List.getElem?_append_left (by simp [hF]), List.getElem?_append_left (by simp [hF]), List.getElem?_append_right (by omega), hF]
  rfl
theorem fa_a132 (hF : F.length = 131) : ((F ++ [ca] ++ [co] ++ [cs]) ++ M)[132]? = some co := by
  rw [List.getElem?_append_left (by simp [hF]), List.getElem?_append_left (by simp [hF]), List.getElem?_append_right (by simp [hF])]
  simp [hF]
theorem fa_a133 (hF : F.length = 131) : ((F ++ [ca] ++ [co] ++ [cs]) ++ M)[133]? = some cs := by
  rw [List.getElem?_append_left (by simp [hF]), List.getElem?_append_right (by simp [hF])]
  simp [hF]
theorem fa_aM (hF : F.length = 131) (t : Nat) : ((F ++ [ca] ++ [co] ++ [cs]) ++ M)[134 + t]? = M[t]? := by
  rw [List.getElem?_append_right (by simp [hF])]
  simp [hF]
end FIRST
section WL
variable {G : Geo} {v : St3} {L : va_W} {A : Nat → Prop} {H : Heap}
theorem wl_P (ps : Nat → Nat → Nat) (hpos : ∀ k i : Nat, i < cnt k → L[ps k i]? = some (gA G k i, cE G v k i)) (h : va_P (gD G) vwCl L H) : va_P (gD G) vwCl (wl G v) H := fun n q hq => by
  obtain ⟨k, i, -, l1, rfl⟩ := wl_inv hq
  exact h _ _ (hpos k i l1)
theorem wl_D (ps : Nat → Nat → Nat) (hpos : ∀ k i : Nat, i < cnt k → L[ps k i]? = some (gA G k i, cE G v k i)) (hinj : ∀ p ∈ cellsL, ∀ q ∈ cellsL, ps p.1 p.2 = ps q.1 q.2 → p = q) (h : va_D A L) : va_D A (wl G v) := by
  refine ⟨fun a b p q hp hq e => ?_, fun n q hq => ?_⟩
  · obtain ⟨k, i, c1, l1, rfl⟩ := wl_inv hp
    obtain ⟨k', i', c2, l2, rfl⟩ := wl_inv hq
    have e1 := h.1 _ _ _ _ (hpos k i l1) (hpos k' i' l2) e
    have e2 := hinj (k, i) (cellsL_mem l1) (k', i') (cellsL_mem l2) e1
    rw [← e2] at c2
    exact cellsL_inj a b _ c1 c2
  · obtain ⟨k, i, -, l1, rfl⟩ := wl_inv hq
    exact h.2 _ _ (hpos k i l1)
end WL
/-- where cell i of kind k stands among all -/
def psF (k i : Nat) : Nat := bif Nat.ble 24 k then (bif Nat.beq k 24 then 134 else bif Nat.ble k 63 then 134 + (k - 39) else 134 + (k - 40)) else bif Nat.ble 14 k then 11 + (10 * i + (([0, 1, 5, 2, 3, 4, 6, 7, 8, 9] : List Nat)[k - 14]?).getD 0) else (([0, 1, 131, 132, 133, 2, 3, 4, 5, 6, 7, 8, 9, 10] : List Nat)[k]?).getD 0
theorem psF_inj : ∀ p ∈ cellsL, ∀ q ∈ cellsL, psF p.1 p.2 = psF q.1 q.2 → p = q := by decide +kernel
theorem pc_1 (D : va_G) (g0 : Nat → Nat → Nat) (cI cZ cM : ClassId) (x c ar op as wh rd r1 r2 r3 r4 r5 r6 mr : Nat) (a : Nat → Nat → Nat) (b : Nat → Nat) : (crowB (D, g0, cI, cZ, cM) c wh rd r1 r2 r3 r4 r5 r6 mr (fun j => some (a j 0)))[0]? = some (gA (D, geoA [x, c, ar, op, as, wh, rd, r1, r2, r3, r4, r5, r6, mr] a b, cI, cZ, cM) 1 0, cE (D, geoA [x, c, ar, op, as, wh, rd, r1, r2, r3, r4, r5, r6, mr] a b, cI, cZ, cM) v0 1 0) := rfl
theorem pc_5 (D : va_G) (g0 : Nat → Nat → Nat) (cI cZ cM : ClassId) (x c ar op as wh rd r1 r2 r3 r4 r5 r6 mr : Nat) (a : Nat → Nat → Nat) (b : Nat → Nat) : (crowB (D, g0, cI, cZ, cM) c wh rd r1 r2 r3 r4 r5 r6 mr (fun j => some (a j 0)))[1]? = some (gA (D, geoA [x, c, ar, op, as, wh, rd, r1, r2, r3, r4, r5, r6, mr] a b, cI, cZ, cM) 5 0, cE (D, geoA [x, c, ar, op, as, wh, rd, r1, r2, r3, r4, r5, r6, mr] a b, cI, cZ, cM) v0 5 0) := rfl
theorem pc_6 (D : va_G) (g0 : Nat → Nat → Nat) (cI cZ cM : ClassId) (x c ar op as wh rd r1 r2 r3 r4 r5 r6 mr : Nat) (a : Nat → Nat → Nat) (b : Nat → Nat) : (crowB (D, g0, cI, cZ, cM) c wh rd r1 r2 r3 r4 r5 r6 mr (fun j => some (a j 0)))[2]? = some (gA (D, geoA [x, c, ar, op, as, wh, rd, r1, r2, r3, r4, r5, r6, mr] a b, cI, cZ, cM) 6 0, cE (D, geoA [x, c, ar, op, as, wh, rd, r1, r2, r3, r4, r5, r6, mr] a b, cI, cZ, cM) v0 6 0) := rfl
theorem pc_7 (D : va_G) (g0 : Nat → Nat → Nat) (cI cZ cM : ClassId) (x c ar op as wh rd r1 r2 r3 r4 r5 r6 mr : Nat) (a : Nat → Nat → Nat) (b : Nat → Nat) : (crowB (D, g0, cI, cZ, cM) c wh rd r1 r2 r3 r4 r5 r6 mr (fun j => some (a j 0)))[3]? = some (gA (D, geoA [x, c, ar, op, as, wh, rd, r1, r2, r3, r4, r5, r6, mr] a b, cI, cZ, cM) 7 0, cE (D, geoA [x, c, ar, op, as, wh, rd, r1, r2, r3, r4, r5, r6, mr] a b, cI, cZ, cM) v0 7 0) := rfl
theorem pc_8 (D : va_G) (g0 : Nat → Nat → Nat) (cI cZ cM : ClassId) (x c ar op as wh rd r1 r2 r3 r4 r5 r6 mr : Nat) (a : Nat → Nat → Nat) (b : Nat → Nat) : (crowB (D, g0, cI, cZ, cM) c wh rd r1 r2 r3 r4 r5 r6 mr (fun j => some (a j 0)))[4]? = some (gA (D, geoA [x, c, ar, op, as, wh, rd, r1, r2, r3, r4, r5, r6, mr] a b, cI, cZ, cM) 8 0, cE (D, geoA [x, c, ar, op, as, wh, rd, r1, r2, r3, r4, r5, r6, mr] a b, cI, cZ, cM) v0 8 0) := rfl
theorem pc_9 (D : va_G) (g0 : Nat → Nat → Nat) (cI cZ cM : ClassId) (x c ar op as wh rd r1 r2 r3 r4 r5 r6 mr : Nat) (a : Nat → Nat → Nat) (b : Nat → Nat) : (crowB (D, g0, cI, cZ, cM) c wh rd r1 r2 r3 r4 r5 r6 mr (fun j => some (a j 0)))[5]? = some (gA (D, geoA [x, c, ar, op, as, wh, rd, r1, r2, r3, r4, r5, r6, mr] a b, cI, cZ, cM) 9 0, cE (D, geoA [x, c, ar, op, as, wh, rd, r1, r2, r3, r4, r5, r6, mr] a b, cI, cZ, cM) v0 9 0) := rfl
theorem pc_10 (D : va_G) (g0 : Nat → Nat → Nat) (cI cZ cM : ClassId) (x c ar op as wh rd r1 r2 r3 r4 r5 r6 mr : Nat) (a : Nat → Nat → Nat) (b : Nat → Nat) : (crowB (D, g0, cI, cZ, cM) c wh rd r1 r2 r3 r4 r5 r6 mr (fun j => some (a j 0)))[6]? = some (gA (D, geoA [x, c, ar, op, as, wh, rd, r1, r2, r3, r4, r5, r6, mr] a b, cI, cZ, cM) 10 0, cE (D, geoA [x, c, ar, op, as, wh, rd, r1, r2, r3, r4, r5, r6, mr] a b, cI, cZ, cM) v0 10 0) := rfl
theorem pc_11 (D : va_G) (g0 : Nat → Nat → Nat) (cI cZ cM : ClassId) (x c ar op as wh rd r1 r2 r3 r4 r5 r6 mr : Nat) (a : Nat → Nat → Nat) (b : Nat → Nat) : (crowB (D, g0, cI, cZ, cM) c wh rd r1 r2 r3 r4 r5 r6 mr (fun j => some (a j 0)))[7]? = some (gA (D, geoA [x, c, ar, op, as, wh, rd, r1, r2, r3, r4, r5, r6, mr] a b, cI, cZ, cM) 11 0, cE (D, geoA [x, c, ar, op, as, wh, rd, r1, r2, r3, r4, r5, r6, mr] a b, cI, cZ, cM) v0 11 0) := rfl
theorem pc_12 (D : va_G) (g0 : Nat → Nat → Nat) (cI cZ cM : ClassId) (x c ar op as wh rd r1 r2 r3 r4 r5 r6 mr : Nat) (a : Nat → Nat → Nat) (b : Nat → Nat) : (crowB (D, g0, cI, cZ, cM) c wh rd r1 r2 r3 r4 r5 r6 mr (fun j => some (a j 0)))[8]? = some (gA (D, geoA [x, c, ar, op, as, wh, rd, r1, r2, r3, r4, r5, r6, mr] a b, cI, cZ, cM) 12 0, cE (D, geoA [x, c, ar, op, as, wh, rd, r1, r2, r3, r4, r5, r6, mr] a b, cI, cZ, cM) v0 12 0) := rfl
theorem pc_13 (D : va_G) (g0 : Nat → Nat → Nat) (cI cZ cM : ClassId) (x c ar op as wh rd r1 r2 r3 r4 r5 r6 mr : Nat) (a : Nat → Nat → Nat) (b : Nat → Nat) : (crowB (D, g0, cI, cZ, cM) c wh rd r1 r2 r3 r4 r5 r6 mr (fun j => some (a j 0)))[9]? = some (gA (D, geoA [x, c, ar, op, as, wh, rd, r1, r2, r3, r4, r5, r6, mr] a b, cI, cZ, cM) 13 0, cE (D, geoA [x, c, ar, op, as, wh, rd, r1, r2, r3, r4, r5, r6, mr] a b, cI, cZ, cM) v0 13 0) := rfl
theorem pm_14 (D : va_G) (g0 : Nat → Nat → Nat) (cI cZ cM : ClassId) (x c ar op as wh rd r1 r2 r3 r4 r5 r6 mr : Nat) (a : Nat → Nat → Nat) (b : Nat → Nat) (i : Nat) : (memL (D, g0, cI, cZ, cM) (a i))[0]? = some (gA (D, geoA [x, c, ar, op, as, wh, rd, r1, r2, r3, r4, r5, r6, mr] a b, cI, cZ, cM) 14 i, cE (D, geoA [x, c, ar, op, as, wh, rd, r1, r2, r3, r4, r5, r6, mr] a b, cI, cZ, cM) v0 14 i) := rfl
theorem pm_15 (D : va_G) (g0 : Nat → Nat → Nat) (cI cZ cM : ClassId) (x c ar op as wh rd r1 r2 r3 r4 r5 r6 mr : Nat) (a : Nat → Nat → Nat) (b : Nat → Nat) (i : Nat) : (memL (D, g0, cI, cZ, cM) (a i))[1]? = some (gA (D, geoA [x, c, ar, op, as, wh, rd, r1, r2, r3, r4, r5, r6, mr] a b, cI, cZ, cM) 15 i, cE (D, geoA [x, c, ar, op, as, wh, rd, r1, r2, r3, r4, r5, r6, mr] a b, cI, cZ, cM) v0 15 i) := rfl
theorem pm_17 (D : va_G) (g0 : Nat → Nat → Nat) (cI cZ cM : ClassId) (x c ar op as wh rd r1 r2 r3 r4 r5 r6 mr : Nat) (a : Nat → Nat → Nat) (b : Nat → Nat) (i : Nat) : (memL (D, g0, cI, cZ, cM) (a i))[2]? = some (gA (D, geoA [x, c, ar, op, as, wh, rd, r1, r2, r3, r4, r5, r6, mr] a b, cI, cZ, cM) 17 i, cE (D, geoA [x, c, ar, op, as, wh, rd, r1, r2, r3, r4, r5, r6, mr] a b, cI, cZ, cM) v0 17 i) := rfl
theorem pm_18 (D : va_G) (g0 : Nat → Nat → Nat) (cI cZ cM : ClassId) (x c ar op as wh rd r1 r2 r3 r4 r5 r6 mr : Nat) (a : Nat → Nat → Nat) (b : Nat → Nat) (i : Nat) : (memL (D, g0, cI, cZ, cM) (a i))[3]? = some (gA (D, geoA [x, c, ar, op, as, wh, rd, r1, r2, r3, r4, r5, r6, mr] a b, cI, cZ, cM) 18 i, cE (D, geoA [x, c, ar, op, as, wh, rd, r1, r2, r3, r4, r5, r6, mr] a b, cI, cZ, cM) v0 18 i) := rfl
theorem pm_19 (D : va_G) (g0 : Nat → Nat → Nat) (cI cZ cM : ClassId) (x c ar op as wh rd r1 r2 r3 r4 r5 r6 mr : Nat) (a : Nat → Nat → Nat) (b : Nat → Nat) (i : Nat) : (memL (D, g0, cI, cZ, cM) (a i))[4]? = some (gA (D, geoA [x, c, ar, op, as, wh, rd, r1, r2, r3, r4, r5, r6, mr] a b, cI, cZ, cM) 19 i, cE (D, geoA [x, c, ar, op, as, wh, rd, r1, r2, r3, r4, r5, r6, mr] a b, cI, cZ, cM) v0 19 i) := rfl
theorem pm_16 (D : va_G) (g0 : Nat → Nat → Nat) (cI cZ cM : ClassId) (x c ar op as wh rd r1 r2 r3 r4 r5 r6 mr : Nat) (a : Nat → Nat → Nat) (b : Nat → Nat) (i : Nat) : (memL (D, g0, cI, cZ, cM) (a i))[5]? = some (gA (D, geoA [x, c, ar, op, as, wh, rd, r1, r2, r3, r4, r5, r6, mr] a b, cI, cZ, cM) 16 i, cE (D, geoA [x, c, ar, op, as, wh, rd, r1, r2, r3, r4, r5, r6, mr] a b, cI, cZ, cM) v0 16 i) := rfl
theorem pm_20 (D : va_G) (g0 : Nat → Nat → Nat) (cI cZ cM : ClassId) (x c ar op as wh rd r1 r2 r3 r4 r5 r6 mr : Nat) (a : Nat → Nat → Nat) (b : Nat → Nat) (i : Nat) : (memL (D, g0, cI, cZ, cM) (a i))[6]? = some (gA (D, geoA [x, c, ar, op, as, wh, rd, r1, r2, r3, r4, r5, r6, mr] a b, cI, cZ, cM) 20 i, cE (D, geoA [x, c, ar, op, as, wh, rd, r1, r2, r3, r4, r5, r6, mr] a b, cI, cZ, cM) v0 20 i) := rfl
theorem pm_21 (D : va_G) (g0 : Nat → Nat → Nat) (cI cZ cM : ClassId) (x c ar op as wh rd r1 r2 r3 r4 r5 r6 mr : Nat) (a : Nat → Nat → Nat) (b : Nat → Nat) (i : Nat) : (memL (D, g0, cI, cZ, cM) (a i))[7]? = some (gA (D, geoA [x, c, ar, op, as, wh, rd, r1, r2, r3, r4, r5, r6, mr] a b, cI, cZ, cM) 21 i, cE (D, geoA [x, c, ar, op, as, wh, rd, r1, r2, r3, r4, r5, r6, mr] a b, cI, cZ, cM) v0 21 i) := rfl
theorem pm_22 (D : va_G) (g0 : Nat → Nat → Nat) (cI cZ cM : ClassId) (x c ar op as wh rd r1 r2 r3 r4 r5 r6 mr : Nat) (a : Nat → Nat → Nat) (b : Nat → Nat) (i : Nat) : (memL (D, g0, cI, cZ, cM) (a i))[8]? = some (gA (D, geoA [x, c, ar, op, as, wh, rd, r1, r2, r3, r4, r5, r6, mr] a b, cI, cZ, cM) 22 i, cE (D, geoA [x, c, ar, op, as, wh, rd, r1, r2, r3, r4, r5, r6, mr] a b, cI, cZ, cM) v0 22 i) := rfl
theorem pm_23 (D : va_G) (g0 : Nat → Nat → Nat) (cI cZ cM : ClassId) (x c ar op as wh rd r1 r2 r3 r4 r5 r6 mr : Nat) (a : Nat → Nat → Nat) (b : Nat → Nat) (i : Nat) : (memL (D, g0, cI, cZ, cM) (a i))[9]? = some (gA (D, geoA [x, c, ar, op, as, wh, rd, r1, r2, r3, r4, r5, r6, mr] a b, cI, cZ, cM) 23 i, cE (D, geoA [x, c, ar, op, as, wh, rd, r1, r2, r3, r4, r5, r6, mr] a b, cI, cZ, cM) v0 23 i) := rfl
theorem pr_24 (D : va_G) (g0 : Nat → Nat → Nat) (cI cZ cM : ClassId) (x c ar op as wh rd r1 r2 r3 r4 r5 r6 mr : Nat) (a : Nat → Nat → Nat) (b : Nat → Nat) : (modL (D, g0, cI, cZ, cM) b)[0]? = some (gA (D, geoA [x, c, ar, op, as, wh, rd, r1, r2, r3, r4, r5, r6, mr] a b, cI, cZ, cM) 24 0, cE (D, geoA [x, c, ar, op, as, wh, rd, r1, r2, r3, r4, r5, r6, mr] a b, cI, cZ, cM) v0 24 0) := rfl
theorem pr_40 (D : va_G) (g0 : Nat → Nat → Nat) (cI cZ cM : ClassId) (x c ar op as wh rd r1 r2 r3 r4 r5 r6 mr : Nat) (a : Nat → Nat → Nat) (b : Nat → Nat) : (modL (D, g0, cI, cZ, cM) b)[1]? = some (gA (D, geoA [x, c, ar, op, as, wh, rd, r1, r2, r3, r4, r5, r6, mr] a b, cI, cZ, cM) 40 0, cE (D, geoA [x, c, ar, op, as, wh, rd, r1, r2, r3, r4, r5, r6, mr] a b, cI, cZ, cM) v0 40 0) := rfl
theorem pr_41 (D : va_G) (g0 : Nat → Nat → Nat) (cI cZ cM : ClassId) (x c ar op as wh rd r1 r2 r3 r4 r5 r6 mr : Nat) (a : Nat → Nat → Nat) (b : Nat → Nat) : (modL (D, g0, cI, cZ, cM) b)[2]? = some (gA (D, geoA [x, c, ar, op, as, wh, rd, r1, r2, r3, r4, r5, r6, mr] a b, cI, cZ, cM) 41 0, cE (D, geoA [x, c, ar, op, as, wh, rd, r1, r2, r3, r4, r5, r6, mr] a b, cI, cZ, cM) v0 41 0) := rfl
theorem pr_42 (D : va_G) (g0 : Nat → Nat → Nat) (cI cZ cM : ClassId) (x c ar op as wh rd r1 r2 r3 r4 r5 r6 mr : Nat) (a : Nat → Nat → Nat) (b : Nat → Nat) : (modL (D, g0, cI, cZ, cM) b)[3]? = some (gA (D, geoA [x, c, ar, op, as, wh, rd, r1, r2, r3, r4, r5, r6, mr] a b, cI, cZ, cM) 42 0, cE (D, geoA [x, c, ar, op, as, wh, rd, r1, r2, r3, r4, r5, r6, mr] a b, cI, cZ, cM) v0 42 0) := rfl
theorem pr_43 (D : va_G) (g0 : Nat → Nat → Nat) (cI cZ cM : ClassId) (x c ar op as wh rd r1 r2 r3 r4 r5 r6 mr : Nat) (a : Nat → Nat → Nat) (b : Nat → Nat) : (modL (D, g0, cI, cZ, cM) b)[4]? = some (gA (D, geoA [x, c, ar, op, as, wh, rd, r1, r2, r3, r4, r5, r6, mr] a b, cI, cZ, cM) 43 0, cE (D, geoA [x, c, ar, op, as, wh, rd, r1, r2, r3, r4, r5, r6, mr] a b, cI, cZ, cM) v0 43 0) := rfl
theorem pr_44 (D : va_G) (g0 : Nat → Nat → Nat) (cI cZ cM : ClassId) (x c ar op as wh rd r1 r2 r3 r4 r5 r6 mr : Nat) (a : Nat → Nat → Nat) (b : Nat → Nat) : (modL (D, g0, cI, cZ, cM) b)[5]? = some (gA (D, geoA [x, c, ar, op, as, wh, rd, r1, r2, r3, r4, r5, r6, mr] a b, cI, cZ, cM) 44 0, cE (D, geoA [x, c, ar, op, as, wh, rd, r1, r2, r3, r4, r5, r6, mr] a b, cI, cZ, cM) v0 44 0) := rfl
theorem pr_45 (D : va_G) (g0 : Nat → Nat → Nat) (cI cZ cM : ClassId) (x c ar op as wh rd r1 r2 r3 r4 r5 r6 mr : Nat) (a : Nat → Nat → Nat) (b : Nat → Nat) : (modL (D, g0, cI, cZ, cM) b)[6]? = some (gA (D, geoA [x, c, ar, op, as, wh, rd, r1, r2, r3, r4, r5, r6, mr] a b, cI, cZ, cM) 45 0, cE (D, geoA [x, c, ar, op, as, wh, rd, r1, r2, r3, r4, r5, r6, mr] a b, cI, cZ, cM) v0 45 0) := rfl
theorem pr_46 (D : va_G) (g0 : Nat → Nat → Nat) (cI cZ cM : ClassId) (x c ar op as wh rd r1 r2 r3 r4 r5 r6 mr : Nat) (a : Nat → Nat → Nat) (b : Nat → Nat) : (modL (D, g0, cI, cZ, cM) b)[7]? = some (gA (D, geoA [x, c, ar, op, as, wh, rd, r1, r2, r3, r4, r5, r6, mr] a b, cI, cZ, cM) 46 0, cE (D, geoA [x, c, ar, op, as, wh, rd, r1, r2, r3, r4, r5, r6, mr] a b, cI, cZ, cM) v0 46 0) := rfl
theorem pr_47 (D : va_G) (g0 : Nat → Nat → Nat) (cI cZ cM : ClassId) (x c ar op as wh rd r1 r2 r3 r4 r5 r6 mr : Nat) (a : Nat → Nat → Nat) (b : Nat → Nat) : (modL (D, g0, cI, cZ, cM) b)[8]? = some (gA (D, geoA [x, c, ar, op, as, wh, rd, r1, r2, r3, r4, r5, r6, mr] a b, cI, cZ, cM) 47 0, cE (D, geoA [x, c, ar, op, as, wh, rd, r1, r2, r3, r4, r5, r6, mr] a b, cI, cZ, cM) v0 47 0) := rfl
theorem pr_48 (D : va_G) (g0 : Nat → Nat → Nat) (cI cZ cM : ClassId) (x c ar op as wh rd r1 r2 r3 r4 r5 r6 mr : Nat) (a : Nat → Nat → Nat) (b : Nat → Nat) : (modL (D, g0, cI, cZ, cM) b)[9]? = some (gA (D, geoA [x, c, ar, op, as, wh, rd, r1, r2, r3, r4, r5, r6, mr] a b, cI, cZ, cM) 48 0, cE (D, geoA [x, c, ar, op, as, wh, rd, r1, r2, r3, r4, r5, r6, mr] a b, cI, cZ, cM) v0 48 0) := rfl
theorem pr_49 (D : va_G) (g0 : Nat → Nat → Nat) (cI cZ cM : ClassId) (x c ar op as wh rd r1 r2 r3 r4 r5 r6 mr : Nat) (a : Nat → Nat → Nat) (b : Nat → Nat) : (modL (D, g0, cI, cZ, cM) b)[10]? = some (gA (D, geoA [x, c, ar, op, as, wh, rd, r1, r2, r3, r4, r5, r6, mr] a b, cI, cZ, cM) 49 0, cE (D, geoA [x, c, ar, op, as, wh, rd, r1, r2, r3, r4, r5, r6, mr] a b, cI, cZ, cM) v0 49 0) := rfl
theorem pr_50 (D : va_G) (g0 : Nat → Nat → Nat) (cI cZ cM : ClassId) (x c ar op as wh rd r1 r2 r3 r4 r5 r6 mr : Nat) (a : Nat → Nat → Nat) (b : Nat → Nat) : (modL (D, g0, cI, cZ, cM) b)[11]? = some (gA (D, geoA [x, c, ar, op, as, wh, rd, r1, r2, r3, r4, r5, r6, mr] a b, cI, cZ, cM) 50 0, cE (D, geoA [x, c, ar, op, as, wh, rd, r1, r2, r3, r4, r5, r6, mr] a b, cI, cZ, cM) v0 50 0) := rfl
theorem pr_51 (D : va_G) (g0 : Nat → Nat → Nat) (cI cZ cM : ClassId) (x c ar op as wh rd r1 r2 r3 r4 r5 r6 mr : Nat) (a : Nat → Nat → Nat) (b : Nat → Nat) : (modL (D, g0, cI, cZ, cM) b)[12]? = some (gA (D, geoA [x, c, ar, op, as, wh, rd, r1, r2, r3, r4, r5, r6, mr] a b, cI, cZ, cM) 51 0, cE (D, geoA [x, c, ar, op, as, wh, rd, r1, r2, r3, r4, r5, r6, mr] a b, cI, cZ, cM) v0 51 0) := rfl
theorem pr_52 (D : va_G) (g0 : Nat → Nat → Nat) (cI cZ cM : ClassId) (x c ar op as wh rd r1 r2 r3 r4 r5 r6 mr : Nat) (a : Nat → Nat → Nat) (b : Nat → Nat) : (modL (D, g0, cI, cZ, cM) b)[13]? = some (gA (D, geoA [x, c, ar, op, as, wh, rd, r1, r2, r3, r4, r5, r6, mr] a b, cI, cZ, cM) 52 0, cE (D, geoA [x, c, ar, op, as, wh, rd, r1, r2, r3, r4, r5, r6, mr] a b, cI, cZ, cM) v0 52 0) := rfl
theorem pr_53 (D : va_G) (g0 : Nat → Nat → Nat) (cI cZ cM : ClassId) (x c ar op as wh rd r1 r2 r3 r4 r5 r6 mr : Nat) (a : Nat → Nat → Nat) (b : Nat → Nat) : (modL (D, g0, cI, cZ, cM) b)[14]? = some (gA (D, geoA [x, c, ar, op, as, wh, rd, r1, r2, r3, r4, r5, r6, mr] a b, cI, cZ, cM) 53 0, cE (D, geoA [x, c, ar, op, as, wh, rd, r1, r2, r3, r4, r5, r6, mr] a b, cI, cZ, cM) v0 53 0) := rfl
theorem pr_54 (D : va_G) (g0 : Nat → Nat → Nat) (cI cZ cM : ClassId) (x c ar op as wh rd r1 r2 r3 r4 r5 r6 mr : Nat) (a : Nat → Nat → Nat) (b : Nat → Nat) : (modL (D, g0, cI, cZ, cM) b)[15]? = some (gA (D, geoA [x, c, ar, op, as, wh, rd, r1, r2, r3, r4, r5, r6, mr] a b, cI, cZ, cM) 54 0, cE (D, geoA [x, c, ar, op, as, wh, rd, r1, r2, r3, r4, r5, r6, mr] a b, cI, cZ, cM) v0 54 0) := rfl
theorem pr_55 (D : va_G) (g0 : Nat → Nat → Nat) (cI cZ cM : ClassId) (x c ar op as wh rd r1 r2 r3 r4 r5 r6 mr : Nat) (a : Nat → Nat → Nat) (b : Nat → Nat) : (modL (D, g0, cI, cZ, cM) b)[16]? = some (gA (D, geoA [x, c, ar, op, as, wh, rd, r1, r2, r3, r4, r5, r6, mr] a b, cI, cZ, cM) 55 0, cE (D, geoA [x, c, ar, op, as, wh, rd, r1, r2, r3, r4, r5, r6, mr] a b, cI, cZ, cM) v0 55 0) := rfl
theorem pr_56 (D : va_G) (g0 : Nat → Nat → Nat) (cI cZ cM : ClassId) (x c ar op as wh rd r1 r2 r3 r4 r5 r6 mr : Nat) (a : Nat → Nat → Nat) (b : Nat → Nat) : (modL (D, g0, cI, cZ, cM) b)[17]? = some (gA (D, geoA [x, c, ar, op, as, wh, rd, r1, r2, r3, r4, r5, r6, mr] a b, cI, cZ, cM) 56 0, cE (D, geoA [x, c, ar, op, as, wh, rd, r1, r2, r3, r4, r5, r6, mr] a b, cI, cZ, cM) v0 56 0) := rfl
theorem pr_57 (D : va_G) (g0 : Nat → Nat → Nat) (cI cZ cM : ClassId) (x c ar op as wh rd r1 r2 r3 r4 r5 r6 mr : Nat) (a : Nat → Nat → Nat) (b : Nat → Nat) : (modL (D, g0, cI, cZ, cM) b)[18]? = some (gA (D, geoA [x, c, ar, op, as, wh, rd, r1, r2, r3, r4, r5, r6, mr] a b, cI, cZ, cM) 57 0, cE (D, geoA [x, c, ar, op, as, wh, rd, r1, r2, r3, r4, r5, r6, mr] a b, cI, cZ, cM) v0 57 0) := rfl
theorem pr_58 (D : va_G) (g0 : Nat → Nat → Nat) (cI cZ cM : ClassId) (x c ar op as wh rd r1 r2 r3 r4 r5 r6 mr : Nat) (a : Nat → Nat → Nat) (b : Nat → Nat) : (modL (D, g0, cI, cZ, cM) b)[19]? = some (gA (D, geoA [x, c, ar, op, as, wh, rd, r1, r2, r3, r4, r5, r6, mr] a b, cI, cZ, cM) 58 0, cE (D, geoA [x, c, ar, op, as, wh, rd, r1, r2, r3, r4, r5, r6, mr] a b, cI, cZ, cM) v0 58 0) := rfl
theorem pr_59 (D : va_G) (g0 : Nat → Nat → Nat) (cI cZ cM : ClassId) (x c ar op as wh rd r1 r2 r3 r4 r5 r6 mr : Nat) (a : Nat → Nat → Nat) (b : Nat → Nat) : (modL (D, g0, cI, cZ, cM) b)[20]? = some (gA (D, geoA [x, c, ar, op, as, wh, rd, r1, r2, r3, r4, r5, r6, mr] a b, cI, cZ, cM) 59 0, cE (D, geoA [x, c, ar, op, as, wh, rd, r1, r2, r3, r4, r5, r6, mr] a b, cI, cZ, cM) v0 59 0) := rfl
theorem pr_60 (D : va_G) (g0 : Nat → Nat → Nat) (cI cZ cM : ClassId) (x c ar op as wh rd r1 r2 r3 r4 r5 r6 mr : Nat) (a : Nat → Nat → Nat) (b : Nat → Nat) : (modL (D, g0, cI, cZ, cM) b)[21]? = some (gA (D, geoA [x, c, ar, op, as, wh, rd, r1, r2, r3, r4, r5, r6, mr] a b, cI, cZ, cM) 60 0, cE (D, geoA [x, c, ar, op, as, wh, rd, r1, r2, r3, r4, r5, r6, mr] a b, cI, cZ, cM) v0 60 0) := rfl
theorem pr_61 (D : va_G) (g0 : Nat → Nat → Nat) (cI cZ cM : ClassId) (x c ar op as wh rd r1 r2 r3 r4 r5 r6 mr : Nat) (a : Nat → Nat → Nat) (b : Nat → Nat) : (modL (D, g0, cI, cZ, cM) b)[22]? = some (gA (D, geoA [x, c, ar, op, as, wh, rd, r1, r2, r3, r4, r5, r6, mr] a b, cI, cZ, cM) 61 0, cE (D, geoA [x, c, ar, op, as, wh, rd, r1, r2, r3, r4, r5, r6, mr] a b, cI, cZ, cM) v0 61 0) := rfl
theorem pr_62 (D : va_G) (g0 : Nat → Nat → Nat) (cI cZ cM : ClassId) (x c ar op as wh rd r1 r2 r3 r4 r5 r6 mr : Nat) (a : Nat → Nat → Nat) (b : Nat → Nat) : (modL (D, g0, cI, cZ, cM) b)[23]? = some (gA (D, geoA [x, c, ar, op, as, wh, rd, r1, r2, r3, r4, r5, r6, mr] a b, cI, cZ, cM) 62 0, cE (D, geoA [x, c, ar, op, as, wh, rd, r1, r2, r3, r4, r5, r6, mr] a b, cI, cZ, cM) v0 62 0) := rfl
theorem pr_63 (D : va_G) (g0 : Nat → Nat → Nat) (cI cZ cM : ClassId) (x c ar op as wh rd r1 r2 r3 r4 r5 r6 mr : Nat) (a : Nat → Nat → Nat) (b : Nat → Nat) : (modL (D, g0, cI, cZ, cM) b)[24]? = some (gA (D, geoA [x, c, ar, op, as, wh, rd, r1, r2, r3, r4, r5, r6, mr] a b, cI, cZ, cM) 63 0, cE (D, geoA [x, c, ar, op, as, wh, rd, r1, r2, r3, r4, r5, r6, mr] a b, cI, cZ, cM) v0 63 0) := rfl
theorem pr_65 (D : va_G) (g0 : Nat → Nat → Nat) (cI cZ cM : ClassId) (x c ar op as wh rd r1 r2 r3 r4 r5 r6 mr : Nat) (a : Nat → Nat → Nat) (b : Nat → Nat) : (modL (D, g0, cI, cZ, cM) b)[25]? = some (gA (D, geoA [x, c, ar, op, as, wh, rd, r1, r2, r3, r4, r5, r6, mr] a b, cI, cZ, cM) 65 0, cE (D, geoA [x, c, ar, op, as, wh, rd, r1, r2, r3, r4, r5, r6, mr] a b, cI, cZ, cM) v0 65 0) := rfl
theorem pr_66 (D : va_G) (g0 : Nat → Nat → Nat) (cI cZ cM : ClassId) (x c ar op as wh rd r1 r2 r3 r4 r5 r6 mr : Nat) (a : Nat → Nat → Nat) (b : Nat → Nat) : (modL (D, g0, cI, cZ, cM) b)[26]? = some (gA (D, geoA [x, c, ar, op, as, wh, rd, r1, r2, r3, r4, r5, r6, mr] a b, cI, cZ, cM) 66 0, cE (D, geoA [x, c, ar, op, as, wh, rd, r1, r2, r3, r4, r5, r6, mr] a b, cI, cZ, cM) v0 66 0) := rfl
theorem pr_67 (D : va_G) (g0 : Nat → Nat → Nat) (cI cZ cM : ClassId) (x c ar op as wh rd r1 r2 r3 r4 r5 r6 mr : Nat) (a : Nat → Nat → Nat) (b : Nat → Nat) : (modL (D, g0, cI, cZ, cM) b)[27]? = some (gA (D, geoA [x, c, ar, op, as, wh, rd, r1, r2, r3, r4, r5, r6, mr] a b, cI, cZ, cM) 67 0, cE (D, geoA [x, c, ar, op, as, wh, rd, r1, r2, r3, r4, r5, r6, mr] a b, cI, cZ, cM) v0 67 0) := rfl
theorem pr_68 (D : va_G) (g0 : Nat → Nat → Nat) (cI cZ cM : ClassId) (x c ar op as wh rd r1 r2 r3 r4 r5 r6 mr : Nat) (a : Nat → Nat → Nat) (b : Nat → Nat) : (modL (D, g0, cI, cZ, cM) b)[28]? = some (gA (D, geoA [x, c, ar, op, as, wh, rd, r1, r2, r3, r4, r5, r6, mr] a b, cI, cZ, cM) 68 0, cE (D, geoA [x, c, ar, op, as, wh, rd, r1, r2, r3, r4, r5, r6, mr] a b, cI, cZ, cM) v0 68 0) := rfl
theorem pr_69 (D : va_G) (g0 : Nat → Nat → Nat) (cI cZ cM : ClassId) (x c ar op as wh rd r1 r2 r3 r4 r5 r6 mr : Nat) (a : Nat → Nat → Nat) (b : Nat → Nat) : (modL (D, g0, cI, cZ, cM) b)[29]? = some (gA (D, geoA [x, c, ar, op, as, wh, rd, r1, r2, r3, r4, r5, r6, mr] a b, cI, cZ, cM) 69 0, cE (D, geoA [x, c, ar, op, as, wh, rd, r1, r2, r3, r4, r5, r6, mr] a b, cI, cZ, cM) v0 69 0) := rfl
theorem pr_70 (D : va_G) (g0 : Nat → Nat → Nat) (cI cZ cM : ClassId) (x c ar op as wh rd r1 r2 r3 r4 r5 r6 mr : Nat) (a : Nat → Nat → Nat) (b : Nat → Nat) : (modL (D, g0, cI, cZ, cM) b)[30]? = some (gA (D, geoA [x, c, ar, op, as, wh, rd, r1, r2, r3, r4, r5, r6, mr] a b, cI, cZ, cM) 70 0, cE (D, geoA [x, c, ar, op, as, wh, rd, r1, r2, r3, r4, r5, r6, mr] a b, cI, cZ, cM) v0 70 0) := rfl
theorem pr_71 (D : va_G) (g0 : Nat → Nat → Nat) (cI cZ cM : ClassId) (x c ar op as wh rd r1 r2 r3 r4 r5 r6 mr : Nat) (a : Nat → Nat → Nat) (b : Nat → Nat) : (modL (D, g0, cI, cZ, cM) b)[31]? = some (gA (D, geoA [x, c, ar, op, as, wh, rd, r1, r2, r3, r4, r5, r6, mr] a b, cI, cZ, cM) 71 0, cE (D, geoA [x, c, ar, op, as, wh, rd, r1, r2, r3, r4, r5, r6, mr] a b, cI, cZ, cM) v0 71 0) := rfl
theorem pr_72 (D : va_G) (g0 : Nat → Nat → Nat) (cI cZ cM : ClassId) (x c ar op as wh rd r1 r2 r3 r4 r5 r6 mr : Nat) (a : Nat → Nat → Nat) (b : Nat → Nat) : (modL (D, g0, cI, cZ, cM) b)[32]? = some (gA (D, geoA [x, c, ar, op, as, wh, rd, r1, r2, r3, r4, r5, r6, mr] a b, cI, cZ, cM) 72 0, cE (D, geoA [x, c, ar, op, as, wh, rd, r1, r2, r3, r4, r5, r6, mr] a b, cI, cZ, cM) v0 72 0) := rfl
theorem pr_73 (D : va_G) (g0 : Nat → Nat → Nat) (cI cZ cM : ClassId) (x c ar op as wh rd r1 r2 r3 r4 r5 r6 mr : Nat) (a : Nat → Nat → Nat) (b : Nat → Nat) : (modL (D, g0, cI, cZ, cM) b)[33]? = some (gA (D, geoA [x, c, ar, op, as, wh, rd, r1, r2, r3, r4, r5, r6, mr] a b, cI, cZ, cM) 73 0, cE (D, geoA [x, c, ar, op, as, wh, rd, r1, r2, r3, r4, r5, r6, mr] a b, cI, cZ, cM) v0 73 0) := rfl
theorem pr_74 (D : va_G) (g0 : Nat → Nat → Nat) (cI cZ cM : ClassId) (x c ar op as wh rd r1 r2 r3 r4 r5 r6 mr : Nat) (a : Nat → Nat → Nat) (b : Nat → Nat) : (modL (D, g0, cI, cZ, cM) b)[34]? = some (gA (D, geoA [x, c, ar, op, as, wh, rd, r1, r2, r3, r4, r5, r6, mr] a b, cI, cZ, cM) 74 0, cE (D, geoA [x, c, ar, op, as, wh, rd, r1, r2, r3, r4, r5, r6, mr] a b, cI, cZ, cM) v0 74 0) := rfl
theorem allF_len (D : va_G) (g0 : Nat → Nat → Nat) (cI cZ cM : ClassId) (x c ar op as wh rd r1 r2 r3 r4 r5 r6 mr : Nat) (a : Nat → Nat → Nat) : (allF (D, g0, cI, cZ, cM) x c ar op as wh rd r1 r2 r3 r4 r5 r6 mr a).length = 131 := by
  rw [List.length_cons, List.length_append, membs_len]
  rfl
theorem fa_cr (D : va_G) (g0 : Nat → Nat → Nat) (cI cZ cM : ClassId) (x c ar op as wh rd r1 r2 r3 r4 r5 r6 mr : Nat) (a : Nat → Nat → Nat) (b : Nat → Nat) {p : Nat} {y : Nat × va_E} (hp : p < 10) (h : (crowB (D, g0, cI, cZ, cM) c wh rd r1 r2 r3 r4 r5 r6 mr (fun j => some (a j 0)))[p]? = some y) : ((allF (D, g0, cI, cZ, cM) x c ar op as wh rd r1 r2 r3 r4 r5 r6 mr a ++ [(ar, .inr (0, [.ref c]))] ++ [(op, .inr (4, [.ref c]))] ++ [(as, .inr (1, [.ref c]))]) ++ modL (D, g0, cI, cZ, cM) b)[p + 1]? = some y := by
  rw [fa_aF (allF_len D g0 cI cZ cM x c ar op as wh rd r1 r2 r3 r4 r5 r6 mr a) (by omega), List.getElem?_cons_succ, List.getElem?_append_left (show p < 10 from hp)]
  exact h
theorem fa_mb (D : va_G) (g0 : Nat → Nat → Nat) (cI cZ cM : ClassId) (x c ar op as wh rd r1 r2 r3 r4 r5 r6 mr : Nat) (a : Nat → Nat → Nat) (b : Nat → Nat) {i t : Nat} {y : Nat × va_E} (hi : i < 12) (ht : t < 10) (h : (memL (D, g0, cI, cZ, cM) (a i))[t]? = some y) : ((allF (D, g0, cI, cZ, cM) x c ar op as wh rd r1 r2 r3 r4 r5 r6 mr a ++ [(ar, .inr (0, [.ref c]))] ++ [(op, .inr (4, [.ref c]))] ++ [(as, .inr (1, [.ref c]))]) ++ modL (D, g0, cI, cZ, cM) b)[11 + (10 * i + t)]? = some y := by
  rw [fa_aF (allF_len D g0 cI cZ cM x c ar op as wh rd r1 r2 r3 r4 r5 r6 mr a) (by omega), show 11 + (10 * i + t) = (10 + (10 * i + t)) + 1 by omega, List.getElem?_cons_succ, List.getElem?_append_right (show 10 ≤ 10 + (10 * i + t) by omega), show 10 + (10 * i + t) - (crowB (D, g0, cI, cZ, cM) c wh rd r1 r2 r3 r4 r5 r6 mr (fun j => some (a j 0))).length = 10 * i + t from Nat.add_sub_cancel_left 10 _, membs_get (D, g0, cI, cZ, cM) a ht 12 hi]
  exact h
theorem all_pos (D : va_G) (g0 : Nat → Nat → Nat) (cI cZ cM : ClassId) (x c ar op as wh rd r1 r2 r3 r4 r5 r6 mr : Nat) (a : Nat → Nat → Nat) (b : Nat → Nat) : ∀ k i : Nat, i < cnt k → ((allF (D, g0, cI, cZ, cM) x c ar op as wh rd r1 r2 r3 r4 r5 r6 mr a ++ [(ar, .inr (0, [.ref c]))] ++ [(op, .inr (4, [.ref c]))] ++ [(as, .inr (1, [.ref c]))]) ++ modL (D, g0, cI, cZ, cM) b)[psF k i]? = some (gA (D, geoA [x, c, ar, op, as, wh, rd, r1, r2, r3, r4, r5, r6, mr] a b, cI, cZ, cM) k i, cE (D, geoA [x, c, ar, op, as, wh, rd, r1, r2, r3, r4, r5, r6, mr] a b, cI, cZ, cM) v0 k i)
  | 0, 0, _ => (fa_aF (allF_len D g0 cI cZ cM x c ar op as wh rd r1 r2 r3 r4 r5 r6 mr a) (p := 0) (by decide)).trans rfl
  | 0, i + 1, h => absurd (show i + 1 < 1 from h) (by omega)
  | 1, 0, _ => fa_cr D g0 cI cZ cM x c ar op as wh rd r1 r2 r3 r4 r5 r6 mr a b (p := 0) (by decide) (pc_1 D g0 cI cZ cM x c ar op as wh rd r1 r2 r3 r4 r5 r6 mr a b)
  | 1, i + 1, h => absurd (show i + 1 < 1 from h) (by omega)
  | 2, 0, _ => fa_a131 (allF_len D g0 cI cZ cM x c ar op as wh rd r1 r2 r3 r4 r5 r6 mr a)
  | 2, i + 1, h => absurd (show i + 1 < 1 from h) (by omega)
  | 3, 0, _ => fa_a132 (allF_len D g0 cI cZ cM x c ar op as wh rd r1 r2 r3 r4 r5 r6 mr a)
  | 3, i + 1, h => absurd (show i + 1 < 1 from h) (by omega)
  | 4, 0, _ => fa_a133 (allF_len D g0 cI cZ cM x c ar op as wh rd r1 r2 r3 r4 r5 r6 mr a)
  | 4, i + 1, h => absurd (show i + 1 < 1 from h) (by omega)
  | 5, 0, _ => fa_cr D g0 cI cZ cM x c ar op as wh rd r1 r2 r3 r4 r5 r6 mr a b (p := 1) (by decide) (pc_5 D g0 cI cZ cM x c ar op as wh rd r1 r2 r3 r4 r5 r6 mr a b)
  | 5, i + 1, h => absurd (show i + 1 < 1 from h) (by omega)
  | 6, 0, _ => fa_cr D g0 cI cZ cM x c ar op as wh rd r1 r2 r3 r4 r5 r6 mr a b (p := 2) (by decide) (pc_6 D g0 cI cZ cM x c ar op as wh rd r1 r2 r3 r4 r5 r6 mr a b)
  | 6, i + 1, h => absurd (show i + 1 < 1 from h) (by omega)
  | 7, 0, _ => fa_cr D g0 cI cZ cM x c ar op as wh rd r1 r2 r3 r4 r5 r6 mr a b (p := 3) (by decide) (pc_7 D g0 cI cZ cM x c ar op as wh rd r1 r2 r3 r4 r5 r6 mr a b)
  | 7, i + 1, h => absurd (show i + 1 < 1 from h) (by omega)
  | 8, 0, _ => fa_cr D g0 cI cZ cM x c ar op as wh rd r1 r2 r3 r4 r5 r6 mr a b (p := 4) (by decide) (pc_8 D g0 cI cZ cM x c ar op as wh rd r1 r2 r3 r4 r5 r6 mr a b)
  | 8, i + 1, h => absurd (show i + 1 < 1 from h) (by omega)
  | 9, 0, _ => fa_cr D g0 cI cZ cM x c ar op as wh rd r1 r2 r3 r4 r5 r6 mr a b (p := 5) (by decide) (pc_9 D g0 cI cZ cM x c ar op as wh rd r1 r2 r3 r4 r5 r6 mr a b)
  | 9, i + 1, h => absurd (show i + 1 < 1 from h) (by omega)
  | 10, 0, _ => fa_cr D g0 cI cZ cM x c ar op as wh rd r1 r2 r3 r4 r5 r6 mr a b (p := 6) (by decide) (pc_10 D g0 cI cZ cM x c ar op as wh rd r1 r2 r3 r4 r5 r6 mr a b)
  | 10, i + 1, h => absurd (show i + 1 < 1 from h) (by omega)
  | 11, 0, _ => fa_cr D g0 cI cZ cM x c ar op as wh rd r1 r2 r3 r4 r5 r6 mr a b (p := 7) (by decide) (pc_11 D g0 cI cZ cM x c ar op as wh rd r1 r2 r3 r4 r5 r6 mr a b)
  | 11, i + 1, h => absurd (show i + 1 < 1 from h) (by omega)
  | 12, 0, _ => fa_cr D g0 cI cZ cM x c ar op as wh rd r1 r2 r3 r4 r5 r6 mr a b (p := 8) (by decide) (pc_12 D g0 cI cZ cM x c ar op as wh rd r1 r2 r3 r4 r5 r6 mr a b)
  | 12, i + 1, h => absurd (show i + 1 < 1 from h) (by omega)
  | 13, 0, _ => fa_cr D g0 cI cZ cM x c ar op as wh rd r1 r2 r3 r4 r5 r6 mr a b (p := 9) (by decide) (pc_13 D g0 cI cZ cM x c ar op as wh rd r1 r2 r3 r4 r5 r6 mr a b)
  | 13, i + 1, h => absurd (show i + 1 < 1 from h) (by omega)
  | 14, i, h => fa_mb D g0 cI cZ cM x c ar op as wh rd r1 r2 r3 r4 r5 r6 mr a b (show i < 12 from h) (by decide) (pm_14 D g0 cI cZ cM x c ar op as wh rd r1 r2 r3 r4 r5 r6 mr a b i)
  | 15, i, h => fa_mb D g0 cI cZ cM x c ar op as wh rd r1 r2 r3 r4 r5 r6 mr a b (show i < 12 from h) (by decide) (pm_15 D g0 cI cZ cM x c ar op as wh rd r1 r2 r3 r4 r5 r6 mr a b i)
  | 16, i, h => fa_mb D g0 cI cZ cM x c ar op as wh rd r1 r2 r3 r4 r5 r6 mr a b (show i < 12 from h) (by decide) (pm_16 D g0 cI cZ cM x c ar op as wh rd r1 r2 r3 r4 r5 r6 mr a b i)
  | 17, i, h => fa_mb D g0 cI cZ cM x c ar op as wh rd r1 r2 r3 r4 r5 r6 mr a b (show i < 12 from h) (by decide) (pm_17 D g0 cI cZ cM x c ar op as wh rd r1 r2 r3 r4 r5 r6 mr a b i)
  | 18, i, h => fa_mb D g0 cI cZ cM x c ar op as wh rd r1 r2 r3 r4 r5 r6 mr a b (show i < 12 from h) (by decide) (pm_18 D g0 cI cZ cM x c ar op as wh rd r1 r2 r3 r4 r5 r6 mr a b i)
  | 19, i, h => fa_mb D g0 cI cZ cM x c ar op as wh rd r1 r2 r3 r4 r5 r6 mr a b (show i < 12 from h) (by decide) (pm_19 D g0 cI cZ cM x c ar op as wh rd r1 r2 r3 r4 r5 r6 mr a b i)
  | 20, i, h => fa_mb D g0 cI cZ cM x c ar op as wh rd r1 r2 r3 r4 r5 r6 mr a b (show i < 12 from h) (by decide) (pm_20 D g0 cI cZ cM x c ar op as wh rd r1 r2 r3 r4 r5 r6 mr a b i)
  | 21, i, h => fa_mb D g0 cI cZ cM x c ar op as wh rd r1 r2 r3 r4 r5 r6 mr a b (show i < 12 from h) (by decide) (pm_21 D g0 cI cZ cM x c ar op as wh rd r1 r2 r3 r4 r5 r6 mr a b i)
  | 22, i, h => fa_mb D g0 cI cZ cM x c ar op as wh rd r1 r2 r3 r4 r5 r6 mr a b (show i < 12 from h) (by decide) (pm_22 D g0 cI cZ cM x c ar op as wh rd r1 r2 r3 r4 r5 r6 mr a b i)
  | 23, i, h => fa_mb D g0 cI cZ cM x c ar op as wh rd r1 r2 r3 r4 r5 r6 mr a b (show i < 12 from h) (by decide) (pm_23 D g0 cI cZ cM x c ar op as wh rd r1 r2 r3 r4 r5 r6 mr a b i)
  | 24, 0, _ => (fa_aM (allF_len D g0 cI cZ cM x c ar op as wh rd r1 r2 r3 r4 r5 r6 mr a) 0).trans (pr_24 D g0 cI cZ cM x c ar op as wh rd r1 r2 r3 r4 r5 r6 mr a b)
  | 24, i + 1, h => absurd (show i + 1 < 1 from h) (by omega)
  | 25, i, h => absurd (show i < 0 from h) (Nat.not_lt_zero _)
  | 26, i, h => absurd (show i < 0 from h) (Nat.not_lt_zero _)
  | 27, i, h => absurd (show i < 0 from h) (Nat.not_lt_zero _)
  | 28, i, h => absurd (show i < 0 from h) (Nat.not_lt_zero _)
  | 29, i, h => absurd (show i < 0 from h) (Nat.not_lt_zero _)
  | 30, i, h => absurd (show i < 0 from h) (Nat.not_lt_zero _)
  | 31, i, h => absurd (show i < 0 from h) (Nat.not_lt_zero _)
  | 32, i, h => absurd (show i < 0 from h) (Nat.not_lt_zero _)
  | 33, i, h => absurd (show i < 0 from h) (Nat.not_lt_zero _)
  | 34, i, h => absurd (show i < 0 from h) (Nat.not_lt_zero _)
  | 35, i, h => absurd (show i < 0 from h) (Nat.not_lt_zero _)
  | 36, i, h => absurd (show i < 0 from h) (Nat.not_lt_zero _)
  | 37, i, h => absurd (show i < 0 from h) (Nat.not_lt_zero _)
  | 38, i, h => absurd (show i < 0 from h) (Nat.not_lt_zero _)
  | 39, i, h => absurd (show i < 0 from h) (Nat.not_lt_zero _)
  | 40, 0, _ => (fa_aM (allF_len D g0 cI cZ cM x c ar op as wh rd r1 r2 r3 r4 r5 r6 mr a) 1).trans (pr_40 D g0 cI cZ cM x c ar op as wh rd r1 r2 r3 r4 r5 r6 mr a b)
  | 40, i + 1, h => absurd (show i + 1 < 1 from h) (by omega)
  | 41, 0, _ => (fa_aM (allF_len D g0 cI cZ cM x c ar op as wh rd r1 r2 r3 r4 r5 r6 mr a) 2).trans (pr_41 D g0 cI cZ cM x c ar op as wh rd r1 r2 r3 r4 r5 r6 mr a b)
  | 41, i + 1, h => absurd (show i + 1 < 1 from h) (by omega)
  | 42, 0, _ => (fa_aM (allF_len D g0 cI cZ cM x c ar op as wh rd r1 r2 r3 r4 r5 r6 mr a) 3).trans (pr_42 D g0 cI cZ cM x c ar op as wh rd r1 r2 r3 r4 r5 r6 mr a b)
  | 42, i + 1, h => absurd (show i + 1 < 1 from h) (by omega)
  | 43, 0, _ => (fa_aM (allF_len D g0 cI cZ cM x c ar op as wh rd r1 r2 r3 r4 r5 r6 mr a) 4).trans (pr_43 D g0 cI cZ cM x c ar op as wh rd r1 r2 r3 r4 r5 r6 mr a b)
  | 43, i + 1, h => absurd (show i + 1 < 1 from h) (by omega)
  | 44, 0, _ => (fa_aM (allF_len D g0 cI cZ cM x c ar op as wh rd r1 r2 r3 r4 r5 r6 mr a) 5).trans (pr_44 D g0 cI cZ cM x c ar op as wh rd r1 r2 r3 r4 r5 r6 mr a b)
  | 44, i + 1, h => absurd (show i + 1 < 1 from h) (by omega)
  | 45, 0, _ => (fa_aM (allF_len D g0 cI cZ cM x c ar op as wh rd r1 r2 r3 r4 r5 r6 mr a) 6).trans (pr_45 D g0 cI cZ cM x c ar op as wh rd r1 r2 r3 r4 r5 r6 mr a b)
  | 45, i + 1, h => absurd (show i + 1 < 1 from h) (by omega)
  | 46, 0, _ => (fa_aM (allF_len D g0 cI cZ cM x c ar op as wh rd r1 r2 r3 r4 r5 r6 mr a) 7).trans (pr_46 D g0 cI cZ cM x c ar op as wh rd r1 r2 r3 r4 r5 r6 mr a b)
  | 46, i + 1, h => absurd (show i + 1 < 1 from h) (by omega)
  | 47, 0, _ => (fa_aM (allF_len D g0 cI cZ cM x c ar op as wh rd r1 r2 r3 r4 r5 r6 mr a) 8).trans (pr_47 D g0 cI cZ cM x c ar op as wh rd r1 r2 r3 r4 r5 r6 mr a b)
  | 47, i + 1, h => absurd (show i + 1 < 1 from h) (by omega)
  | 48, 0, _ => (fa_aM (allF_len D g0 cI cZ cM x c ar op as wh rd r1 r2 r3 r4 r5 r6 mr a) 9).trans (pr_48 D g0 cI cZ cM x c ar op as wh rd r1 r2 r3 r4 r5 r6 mr a b)
  | 48, i + 1, h => absurd (show i + 1 < 1 from h) (by omega)
  | 49, 0, _ => (fa_aM (allF_len D g0 cI cZ cM x c ar op as wh rd r1 r2 r3 r4 r5 r6 mr a) 10).trans (pr_49 D g0 cI cZ cM x c ar op as wh rd r1 r2 r3 r4 r5 r6 mr a b)
  | 49, i + 1, h => absurd (show i + 1 < 1 from h) (by omega)
  | 50, 0, _ => (fa_aM (allF_len D g0 cI cZ cM x c ar op as wh rd r1 r2 r3 r4 r5 r6 mr a) 11).trans (pr_50 D g0 cI cZ cM x c ar op as wh rd r1 r2 r3 r4 r5 r6 mr a b)
  | 50, i + 1, h => absurd (show i + 1 < 1 from h) (by omega)
  | 51, 0, _ => (fa_aM (allF_len D g0 cI cZ cM x c ar op as wh rd r1 r2 r3 r4 r5 r6 mr a) 12).trans (pr_51 D g0 cI cZ cM x c ar op as wh rd r1 r2 r3 r4 r5 r6 mr a b)
  | 51, i + 1, h => absurd (show i + 1 < 1 from h) (by omega)
  | 52, 0, _ => (fa_aM (allF_len D g0 cI cZ cM x c ar op as wh rd r1 r2 r3 r4 r5 r6 mr a) 13).trans (pr_52 D g0 cI cZ cM x c ar op as wh rd r1 r2 r3 r4 r5 r6 mr a b)
  | 52, i + 1, h => absurd (show i + 1 < 1 from h) (by omega)
  | 53, 0, _ => (fa_aM (allF_len D g0 cI cZ cM x c ar op as wh rd r1 r2 r3 r4 r5 r6 mr a) 14).trans (pr_53 D g0 cI cZ cM x c ar op as wh rd r1 r2 r3 r4 r5 r6 mr a b)
  | 53, i + 1, h => absurd (show i + 1 < 1 from h) (by omega)
  | 54, 0, _ => (fa_aM (allF_len D g0 cI cZ cM x c ar op as wh rd r1 r2 r3 r4 r5 r6 mr a) 15).trans (pr_54 D g0 cI cZ cM x c ar op as wh rd r1 r2 r3 r4 r5 r6 mr a b)
  | 54, i + 1, h => absurd (show i + 1 < 1 from h) (by omega)
  | 55, 0, _ => (fa_aM (allF_len D g0 cI cZ cM x c ar op as wh rd r1 r2 r3 r4 r5 r6 mr a) 16).trans (pr_55 D g0 cI cZ cM x c ar op as wh rd r1 r2 r3 r4 r5 r6 mr a b)
  | 55, i + 1, h => absurd (show i + 1 < 1 from h) (by omega)
  | 56, 0, _ => (fa_aM (allF_len D g0 cI cZ cM x c ar op as wh rd r1 r2 r3 r4 r5 r6 mr a) 17).trans (pr_56 D g0 cI cZ cM x c ar op as wh rd r1 r2 r3 r4 r5 r6 mr a b)
  | 56, i + 1, h => absurd (show i + 1 < 1 from h) (by omega)
  | 57, 0, _ => (fa_aM (allF_len D g0 cI cZ cM x c ar op as wh rd r1 r2 r3 r4 r5 r6 mr a) 18).trans (pr_57 D g0 cI cZ cM x c ar op as wh rd r1 r2 r3 r4 r5 r6 mr a b)
  | 57, i + 1, h => absurd (show i + 1 < 1 from h) (by omega)
  | 58, 0, _ => (fa_aM (allF_len D g0 cI cZ cM x c ar op as wh rd r1 r2 r3 r4 r5 r6 mr a) 19).trans (pr_58 D g0 cI cZ cM x c ar op as wh rd r1 r2 r3 r4 r5 r6 mr a b)
  | 58, i + 1, h => absurd (show i + 1 < 1 from h) (by omega)
  | 59, 0, _ => (fa_aM (allF_len D g0 cI cZ cM x c ar op as wh rd r1 r2 r3 r4 r5 r6 mr a) 20).trans (pr_59 D g0 cI cZ cM x c ar op as wh rd r1 r2 r3 r4 r5 r6 mr a b)
  | 59, i + 1, h => absurd (show i + 1 < 1 from h) (by omega)
  | 60, 0, _ => (fa_aM (allF_len D g0 cI cZ cM x c ar op as wh rd r1 r2 r3 r4 r5 r6 mr a) 21).trans (pr_60 D g0 cI cZ cM x c ar op as wh rd r1 r2 r3 r4 r5 r6 mr a b)
  | 60, i + 1, h => absurd (show i + 1 < 1 from h) (by omega)
  | 61, 0, _ => (fa_aM (allF_len D g0 cI cZ cM x c ar op as wh rd r1 r2 r3 r4 r5 r6 mr a) 22).trans (pr_61 D g0 cI cZ cM x c ar op as wh rd r1 r2 r3 r4 r5 r6 mr a b)
  | 61, i + 1, h => absurd (show i + 1 < 1 from h) (by omega)
  | 62, 0, _ => (fa_aM (allF_len D g0 cI cZ cM x c ar op as wh rd r1 r2 r3 r4 r5 r6 mr a) 23).trans (pr_62 D g0 cI cZ cM x c ar op as wh rd r1 r2 r3 r4 r5 r6 mr a b)
  | 62, i + 1, h => absurd (show i + 1 < 1 from h) (by omega)
  | 63, 0, _ => (fa_aM (allF_len D g0 cI cZ cM x c ar op as wh rd r1 r2 r3 r4 r5 r6 mr a) 24).trans (pr_63 D g0 cI cZ cM x c ar op as wh rd r1 r2 r3 r4 r5 r6 mr a b)
  | 63, i + 1, h => absurd (show i + 1 < 1 from h) (by omega)
  | 64, i, h => absurd (show i < 0 from h) (Nat.not_lt_zero _)
  | 65, 0, _ => (fa_aM (allF_len D g0 cI cZ cM x c ar op as wh rd r1 r2 r3 r4 r5 r6 mr a) 25).trans (pr_65 D g0 cI cZ cM x c ar op as wh rd r1 r2 r3 r4 r5 r6 mr a b)
  | 65, i + 1, h => absurd (show i + 1 < 1 from h) (by omega)
  | 66, 0, _ => (fa_aM (allF_len D g0 cI cZ cM x c ar op as wh rd r1 r2 r3 r4 r5 r6 mr a) 26).trans (pr_66 D g0 cI cZ cM x c ar op as wh rd r1 r2 r3 r4 r5 r6 mr a b)
  | 66, i + 1, h => absurd (show i + 1 < 1 from h) (by omega)
  | 67, 0, _ => (fa_aM (allF_len D g0 cI cZ cM x c ar op as wh rd r1 r2 r3 r4 r5 r6 mr a) 27).trans (pr_67 D g0 cI cZ cM x c ar op as wh rd r1 r2 r3 r4 r5 r6 mr a b)
  | 67, i + 1, h => absurd (show i + 1 < 1 from h) (by omega)
  | 68, 0, _ => (fa_aM (allF_len D g0 cI cZ cM x c ar op as wh rd r1 r2 r3 r4 r5 r6 mr a) 28).trans (pr_68 D g0 cI cZ cM x c ar op as wh rd r1 r2 r3 r4 r5 r6 mr a b)
  | 68, i + 1, h => absurd (show i + 1 < 1 from h) (by omega)
  | 69, 0, _ => (fa_aM (allF_len D g0 cI cZ cM x c ar op as wh rd r1 r2 r3 r4 r5 r6 mr a) 29).trans (pr_69 D g0 cI cZ cM x c ar op as wh rd r1 r2 r3 r4 r5 r6 mr a b)
  | 69, i + 1, h => absurd (show i + 1 < 1 from h) (by omega)
  | 70, 0, _ => (fa_aM (allF_len D g0 cI cZ cM x c ar op as wh rd r1 r2 r3 r4 r5 r6 mr a) 30).trans (pr_70 D g0 cI cZ cM x c ar op as wh rd r1 r2 r3 r4 r5 r6 mr a b)
  | 70, i + 1, h => absurd (show i + 1 < 1 from h) (by omega)
  | 71, 0, _ => (fa_aM (allF_len D g0 cI cZ cM x c ar op as wh rd r1 r2 r3 r4 r5 r6 mr a) 31).trans (pr_71 D g0 cI cZ cM x c ar op as wh rd r1 r2 r3 r4 r5 r6 mr a b)
  | 71, i + 1, h => absurd (show i + 1 < 1 from h) (by omega)
  | 72, 0, _ => (fa_aM (allF_len D g0 cI cZ cM x c ar op as wh rd r1 r2 r3 r4 r5 r6 mr a) 32).trans (pr_72 D g0 cI cZ cM x c ar op as wh rd r1 r2 r3 r4 r5 r6 mr a b)
  | 72, i + 1, h => absurd (show i + 1 < 1 from h) (by omega)
  | 73, 0, _ => (fa_aM (allF_len D g0 cI cZ cM x c ar op as wh rd r1 r2 r3 r4 r5 r6 mr a) 33).trans (pr_73 D g0 cI cZ cM x c ar op as wh rd r1 r2 r3 r4 r5 r6 mr a b)
  | 73, i + 1, h => absurd (show i + 1 < 1 from h) (by omega)
  | 74, 0, _ => (fa_aM (allF_len D g0 cI cZ cM x c ar op as wh rd r1 r2 r3 r4 r5 r6 mr a) 34).trans (pr_74 D g0 cI cZ cM x c ar op as wh rd r1 r2 r3 r4 r5 r6 mr a b)
  | 74, i + 1, h => absurd (show i + 1 < 1 from h) (by omega)
  | k + 75, i, h => absurd (cellsL_mem h) (fun q => by
      obtain ⟨k2, h1, h2⟩ := List.mem_flatMap.mp q
      obtain ⟨i2, -, h4⟩ := List.mem_map.mp h2
      have := List.mem_range.mp h1
      have := congrArg Prod.fst h4
      simp only at this
      omega)
