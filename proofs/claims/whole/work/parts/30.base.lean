/-! plain facts: bits of a whole number, counts, turns of a loop -/
def bt (x : Int32) (i : Nat) : Bool := x.toBitVec.getLsbD i
theorem b_ext {x y : Int32} (h : ∀ i, i < 32 → bt x i = bt y i) : x = y := Int32.toBitVec_inj.mp (BitVec.eq_of_getLsbD_eq (fun i hi => h i hi))
theorem b_or (x y : Int32) (i : Nat) : bt (x ||| y) i = (bt x i || bt y i) := by unfold bt; rw [Int32.toBitVec_or, BitVec.getLsbD_or]
theorem b_and (x y : Int32) (i : Nat) : bt (x &&& y) i = (bt x i && bt y i) := by unfold bt; rw [Int32.toBitVec_and, BitVec.getLsbD_and]
theorem b_xor (x y : Int32) (i : Nat) : bt (x ^^^ y) i = (bt x i ^^ bt y i) := by unfold bt; rw [Int32.toBitVec_xor, BitVec.getLsbD_xor]
theorem b_m1 : ∀ i, i < 32 → bt (-1) i = true := by decide +kernel
theorem b_0 (i : Nat) : bt 0 i = false := BitVec.getLsbD_zero
theorem s_l : ∀ n, n < 32 → ((nI n &&& 31).toBitVec.smod 32).toNat = n := by decide +kernel
theorem s_u : ∀ n, n < 32 → (((nI n).toUInt32 &&& Int32.toUInt32 31).toBitVec % 32).toNat = n := by decide +kernel
theorem b_one : ∀ n, n < 32 → ∀ i, i < 32 → bt ((1 : Int32) <<< (nI n &&& 31)) i = decide (i = n) := by decide +kernel
theorem b_low : ∀ n, n < 32 → ∀ i, i < 32 → bt (((1 : Int32) <<< (nI n &&& 31)) - 1) i = decide (i < n) := by decide +kernel
theorem b_even : ∀ i, i < 24 → bt 5592405 i = decide (i % 2 = 0) := by decide +kernel
theorem b_not (x : Int32) {i : Nat} (hi : i < 32) : bt (x ^^^ (-1)) i = !bt x i := by rw [b_xor, b_m1 i hi]; cases bt x i <;> rfl
theorem b_1 : ∀ i, i < 32 → bt 1 i = decide (i = 0) := by decide +kernel
theorem b_ushr (n : Nat) (hn : n < 32) (x : Int32) (i : Nat) : bt (ushr x (nI n)) i = bt x (n + i) := by
  unfold bt ushr
  show ((x.toUInt32 >>> ((nI n).toUInt32 &&& Int32.toUInt32 31)).toBitVec).getLsbD i = _
  rw [UInt32.toBitVec_shiftRight, BitVec.ushiftRight_eq', BitVec.getLsbD_ushiftRight, s_u n hn]
  rfl
theorem and1 (y : Int32) : (y &&& 1) = 1 ↔ bt y 0 = true := by
  constructor
  · intro h
    have e : bt (y &&& 1) 0 = bt 1 0 := by rw [h]
    rw [b_and, b_1 0 (by decide)] at e
    simpa using e
  · intro h
    apply b_ext
    intro i hi
    rw [b_and, b_1 i hi]
    by_cases q : i = 0
    · subst q; simp [h]
    · simp [q]
theorem isIn_iff {x : Int32} {n : Nat} (hn : n < 32) : ((ushr x (nI n)) &&& (1 : Int32)) = (1 : Int32) ↔ bt x n = true := by
  rw [and1, b_ushr n hn, Nat.add_zero]
/-- a number whose bits are f -/
def Msk (x : Int32) (f : Nat → Bool) : Prop := ∀ i, i < 32 → bt x i = f i
theorem Msk.eq {x y : Int32} {f : Nat → Bool} (h : Msk x f) (g : Msk y f) : x = y := b_ext fun i hi => (h i hi).trans (g i hi).symm
theorem Msk.z {x : Int32} {f : Nat → Bool} (h : Msk x f) : x = 0 ↔ ∀ i, i < 32 → f i = false := by
  constructor
  · intro e i hi
    rw [← h i hi, e, b_0]
  · intro e
    exact b_ext fun i hi => by rw [h i hi, e i hi, b_0]
theorem Msk.or1 {x : Int32} {f : Nat → Bool} {n : Nat} (h : Msk x f) (hn : n < 32) : Msk (x ||| ((1 : Int32) <<< (nI n &&& 31))) (fun i => f i || decide (i = n)) := fun i hi => by rw [b_or, h i hi, b_one n hn i hi]
theorem Msk.off {x : Int32} {f : Nat → Bool} {n : Nat} (h : Msk x f) (hn : n < 32) : Msk (x &&& (((1 : Int32) <<< (nI n &&& 31)) ^^^ (-1))) (fun i => f i && !decide (i = n)) := fun i hi => by rw [b_and, h i hi, b_not _ hi, b_one n hn i hi]
theorem Msk.ext {x : Int32} {f g : Nat → Bool} (h : Msk x f) (e : ∀ i, i < 32 → f i = g i) : Msk x g := fun i hi => (h i hi).trans (e i hi)
theorem Msk.none : Msk 0 (fun _ => false) := fun i _ => b_0 i
theorem Msk.and {x y : Int32} {f g : Nat → Bool} (h : Msk x f) (k : Msk y g) : Msk (x &&& y) (fun i => f i && g i) := fun i hi => by rw [b_and, h i hi, k i hi]
theorem Msk.orm {x y : Int32} {f g : Nat → Bool} (h : Msk x f) (k : Msk y g) : Msk (x ||| y) (fun i => f i || g i) := fun i hi => by rw [b_or, h i hi, k i hi]
theorem Msk.not {x : Int32} {f : Nat → Bool} (h : Msk x f) : Msk (x ^^^ (-1)) (fun i => !f i) := fun i hi => by rw [b_not _ hi, h i hi]
def bI (b : Bool) : Int32 := bif b then 1 else 0
theorem bI_t : bI true = 1 := rfl
theorem bI_f : bI false = 0 := rfl
theorem bI_0 {b : Bool} : bI b = 0 ↔ b = false := by cases b <;> decide
theorem bI_1 {b : Bool} : ¬ bI b = 0 ↔ b = true := by cases b <;> decide
theorem bI_01 (b : Bool) : bI b = 0 ∨ bI b = 1 := by cases b <;> decide
theorem bI_if {b : Bool} {A B : Prop} (f : b = false → A) (g : b = true → B) : (bI b = 0 → A) ∧ (¬ bI b = 0 → B) := ⟨fun h => f (bI_0.mp h), fun h => g (bI_1.mp h)⟩
theorem bI_fi {b : Bool} {A B : Prop} (g : b = true → B) (f : b = false → A) : (¬ bI b = 0 → B) ∧ (bI b = 0 → A) := ⟨fun h => g (bI_1.mp h), fun h => f (bI_0.mp h)⟩
/-- of a place or none -/
def eI (o : Option Nat) : Int32 := match o with
  | none => -1
  | some n => nI n
theorem nI_m1 {n : Nat} (h : n < 2 ^ 31) : ¬ nI n = -1 := by
  intro e
  have a := nI_toInt h
  rw [e, show ((-1 : Int32)).toInt = -1 from by decide] at a
  omega
theorem m1_nI {n : Nat} (h : n < 2 ^ 31) : ¬ (-1 : Int32) = nI n := fun e => nI_m1 h e.symm
theorem nI_inj {a b : Nat} (ha : a < 2 ^ 31) (hb : b < 2 ^ 31) (h : nI a = nI b) : a = b := (nI_eq ha hb).mp h
theorem le2 {a b : Nat} {A B : Prop} (ha : a < 2 ^ 31) (hb : b < 2 ^ 31) (f : a ≤ b → A) (g : b < a → B) : (nI a ≤ nI b → A) ∧ (¬ nI a ≤ nI b → B) :=
  ⟨fun h => f ((nI_leI ha hb).mp h), fun h => g (Nat.lt_of_not_le fun q => h ((nI_leI ha hb).mpr q))⟩
theorem eq2 {a b : Nat} {A B : Prop} (ha : a < 2 ^ 31) (hb : b < 2 ^ 31) (f : a = b → A) (g : ¬ a = b → B) : (nI a = nI b → A) ∧ (¬ nI a = nI b → B) :=
  ⟨fun h => f ((nI_eq ha hb).mp h), fun h => g (fun q => h (by rw [q]))⟩
theorem ne2 {a b : Nat} {A B : Prop} (ha : a < 2 ^ 31) (hb : b < 2 ^ 31) (g : ¬ a = b → B) (f : a = b → A) : (¬ nI a = nI b → B) ∧ (nI a = nI b → A) :=
  ⟨fun h => g (fun q => h (by rw [q])), fun h => f ((nI_eq ha hb).mp h)⟩
theorem i12 (a b : Nat) : (12 : Int32) * nI a + nI b = nI (12 * a + b) := by rw [show (12 : Int32) = nI 12 from rfl, pk_mul, nI_add]
theorem i24 (a b : Nat) : (24 : Int32) * nI a + nI b = nI (24 * a + b) := by rw [show (24 : Int32) = nI 24 from rfl, pk_mul, nI_add]
theorem i96 (a b c : Nat) : (96 : Int32) * nI a + (4 : Int32) * nI b + nI c = nI (96 * a + 4 * b + c) := by rw [show (96 : Int32) = nI 96 from rfl, show (4 : Int32) = nI 4 from rfl, pk_mul, pk_mul, nI_add, nI_add]
theorem i4 (a b : Nat) : nI a * (4 : Int32) + nI b = nI (4 * a + b) := by rw [show (4 : Int32) = nI 4 from rfl, pk_mul, nI_add, Nat.mul_comm]
theorem n0 : (0 : Int32) = nI 0 := rfl
theorem n1 : (1 : Int32) = nI 1 := rfl
theorem n1m {n : Nat} (h : 0 < n) : nI n - (1 : Int32) = nI (n - 1) := by
  rw [show (1 : Int32) = nI 1 from rfl]
  exact pk_sub h
/-- how many of the first n -/
def ct (p : Nat → Bool) : Nat → Nat
  | 0 => 0
  | n + 1 => ct p n + (if p n then 1 else 0)
theorem ct_succ (p : Nat → Bool) (n : Nat) : ct p (n + 1) = ct p n + (if p n then 1 else 0) := rfl
theorem ct_le (p : Nat → Bool) : ∀ n, ct p n ≤ n
  | 0 => Nat.le_refl _
  | n + 1 => by
    have h := ct_le p n
    rw [ct_succ]
    split <;> omega
theorem ct_cong {p q : Nat → Bool} : ∀ {n : Nat}, (∀ k, k < n → p k = q k) → ct p n = ct q n
  | 0, _ => rfl
  | n + 1, h => by
    rw [ct_succ, ct_succ, ct_cong (fun k hk => h k (by omega)), h n (by omega)]
theorem ct_zero {p : Nat → Bool} : ∀ {n : Nat}, ct p n = 0 ↔ ∀ k, k < n → p k = false
  | 0 => ⟨fun _ k hk => absurd hk (Nat.not_lt_zero k), fun _ => rfl⟩
  | n + 1 => by
    have h := ct_zero (p := p) (n := n)
    rw [ct_succ]
    constructor
    · intro e k hk
      have e1 : ct p n = 0 := by omega
      have e2 : p n = false := by
        cases hp : p n with
        | false => rfl
        | true => rw [hp] at e; simp at e
      rcases Nat.lt_or_ge k n with q | q
      · exact h.mp e1 k q
      · rw [show k = n by omega]; exact e2
    · intro a
      rw [h.mpr (fun k hk => a k (by omega)), a n (by omega)]
      rfl
theorem ct_not (p : Nat → Bool) : ∀ n, ct p n + ct (fun k => !p k) n = n
  | 0 => rfl
  | n + 1 => by
    have h := ct_not p n
    rw [ct_succ, ct_succ]
    cases hp : p n <;> simp <;> omega
theorem ct_all {p : Nat → Bool} {n : Nat} : ct p n = n ↔ ∀ k, k < n → p k = true := by
  have h := ct_not p n
  constructor
  · intro e k hk
    have z : ct (fun k => !p k) n = 0 := by omega
    have := ct_zero.mp z k hk
    simpa using this
  · intro a
    have z : ct (fun k => !p k) n = 0 := ct_zero.mpr (fun k hk => by simp [a k hk])
    omega
/-- is there one among the first n -/
def an (p : Nat → Bool) (n : Nat) : Bool := !(ct p n == 0)
theorem an_t {p : Nat → Bool} {n : Nat} : an p n = true ↔ ∃ k, k < n ∧ p k = true := by
  unfold an
  constructor
  · intro h
    apply Classical.byContradiction
    intro q
    have z : ct p n = 0 := ct_zero.mpr (fun k hk => by
      cases hp : p k with
      | false => rfl
      | true => exact absurd ⟨k, hk, hp⟩ q)
    rw [z] at h
    simp at h
  · intro ⟨k, hk, hp⟩
    simp only [Bool.not_eq_true', beq_eq_false_iff_ne, ne_eq]
    intro z
    rw [ct_zero.mp z k hk] at hp
    cases hp
theorem an_f {p : Nat → Bool} {n : Nat} : an p n = false ↔ ∀ k, k < n → p k = false := by
  unfold an
  rw [← ct_zero]
  simp
/-- the first of those from i on, before i + n -/
def fst (p : Nat → Bool) : Nat → Nat → Option Nat
  | _, 0 => none
  | i, n + 1 => if p i then some i else fst p (i + 1) n
/-- none, or one of which f holds -/
def oN (o : Option Nat) (f : Nat → Bool) : Bool := match o with
  | none => true
  | some c => f c
theorem oN_n (f : Nat → Bool) : oN none f = true := rfl
theorem oN_s (c : Nat) (f : Nat → Bool) : oN (some c) f = f c := rfl
/-- the best of those from i on: ok, and above the best so far -/
def pick (ok : Nat → Bool) (gt : Nat → Nat → Bool) : Option Nat → Nat → Nat → Option Nat
  | b, _, 0 => b
  | b, i, n + 1 => pick ok gt (if ok i && oN b (gt i) then some i else b) (i + 1) n
theorem pick_s (ok : Nat → Bool) (gt : Nat → Nat → Bool) (b : Option Nat) (i n : Nat) : pick ok gt b i (n + 1) = pick ok gt (if ok i && oN b (gt i) then some i else b) (i + 1) n := rfl
theorem fst_s (p : Nat → Bool) (i n : Nat) : fst p i (n + 1) = if p i then some i else fst p (i + 1) n := rfl
theorem fu (n : Nat) (h : n < 600) : n < FU := h
