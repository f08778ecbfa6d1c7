/-! Integer.bitCount counts the bits -/
theorem nx_and (a b : Nat) : nI a &&& nI b = nI (a &&& b) := by
  apply Int32.toBitVec_inj.1
  show BitVec.ofNat 32 a &&& BitVec.ofNat 32 b = BitVec.ofNat 32 (a &&& b)
  apply BitVec.eq_of_getLsbD_eq
  intro i hi
  simp [hi]
theorem of32 (x : Int32) : ∃ n, n < 2 ^ 32 ∧ x = nI n := ⟨x.toBitVec.toNat, x.toBitVec.isLt, Int32.toBitVec_inj.mp (by show _ = BitVec.ofNat 32 _; simp)⟩
theorem nx_ush {n : Nat} (hn : n < 2 ^ 32) {k : Nat} (hk : k < 32) : ushr (nI n) (nI k) = nI (n / 2 ^ k) := pk_ushrN hn (nI k) k (s_u k hk)
theorem bt_nI {n i : Nat} (hi : i < 32) : bt (nI n) i = n.testBit i := by
  unfold bt
  show (BitVec.ofNat 32 n).getLsbD i = _
  rw [BitVec.getLsbD_ofNat]
  simp [hi]
theorem and256 {u r w s : Nat} (hr : r < 256) (hs : s < 256) : (256 * u + r) &&& (256 * w + s) = 256 * (u &&& w) + (r &&& s) := by
  have h1 : r < 2 ^ 8 := hr
  have h2 : s < 2 ^ 8 := hs
  have h3 : (r &&& s) < 2 ^ 8 := Nat.and_lt_two_pow r h2
  apply Nat.eq_of_testBit_eq
  intro i
  have e : (256 : Nat) = 2 ^ 8 := rfl
  rw [Nat.testBit_and, e, Nat.testBit_two_pow_mul_add _ h1, Nat.testBit_two_pow_mul_add _ h2, Nat.testBit_two_pow_mul_add _ h3]
  split
  · rw [Nat.testBit_and]
  · rw [Nat.testBit_and]
theorem byt (X : Nat) (h : X < 2 ^ 32) : ∃ a b c d, a < 256 ∧ b < 256 ∧ c < 256 ∧ d < 256 ∧ X = 256 * (256 * (256 * d + c) + b) + a :=
  ⟨X % 256, X / 256 % 256, X / 65536 % 256, X / 16777216, by omega, by omega, by omega, by omega, by omega⟩
theorem t1 : ∀ a, a < 256 → ∀ t, t < 2 → (128 * t + a / 2) &&& 85 = (a / 2) &&& 85 := by decide +kernel
theorem t1a : ∀ a, a < 256 → (a / 2) &&& 85 ≤ a := by decide +kernel
theorem t2 : ∀ a, a < 256 → ∀ t, t < 4 → (64 * t + a / 4) &&& 51 = (a / 4) &&& 51 := by decide +kernel
def f1 (a : Nat) : Nat := a - ((a / 2) &&& 85)
def f2 (c : Nat) : Nat := (c &&& 51) + ((c / 4) &&& 51)
theorem t3 : ∀ a, a < 256 → f2 (f1 a) ≤ 68 ∧ f2 (f1 a) % 16 ≤ 4 ∧ f2 (f1 a) / 16 ≤ 4 ∧ (f2 (f1 a) + f2 (f1 a) / 16) % 16 = ct (fun i => a.testBit i) 8 := by decide +kernel
theorem f1_lt {a : Nat} (h : a < 256) : f1 a < 256 := by unfold f1; omega
theorem s1_b {a b c d : Nat} (ha : a < 256) (hb : b < 256) (hc : c < 256) (hd : d < 256) : (256 * (256 * (256 * d + c) + b) + a) / 2 &&& 1431655765 = 256 * (256 * (256 * ((d / 2) &&& 85) + ((c / 2) &&& 85)) + ((b / 2) &&& 85)) + ((a / 2) &&& 85) := by
  have key : ∀ (q r M : Nat), r < 256 → ((256 * q + r) / 2) &&& (256 * M + 85) = 256 * ((q / 2) &&& M) + ((r / 2) &&& 85) := by
    intro q r M hr
    rw [show (256 * q + r) / 2 = 256 * (q / 2) + (128 * (q % 2) + r / 2) by omega, and256 (by omega) (by omega), t1 r hr (q % 2) (by omega)]
  rw [show (1431655765 : Nat) = 256 * (256 * (256 * 85 + 85) + 85) + 85 from rfl, key _ _ _ ha, key _ _ _ hb, key _ _ _ hc]
theorem s2_b {a b c d : Nat} (ha : a < 256) (hb : b < 256) (hc : c < 256) (hd : d < 256) : (256 * (256 * (256 * d + c) + b) + a) / 4 &&& 858993459 = 256 * (256 * (256 * ((d / 4) &&& 51) + ((c / 4) &&& 51)) + ((b / 4) &&& 51)) + ((a / 4) &&& 51) := by
  have key : ∀ (q r M : Nat), r < 256 → ((256 * q + r) / 4) &&& (256 * M + 51) = 256 * ((q / 4) &&& M) + ((r / 4) &&& 51) := by
    intro q r M hr
    rw [show (256 * q + r) / 4 = 256 * (q / 4) + (64 * (q % 4) + r / 4) by omega, and256 (by omega) (by omega), t2 r hr (q % 4) (by omega)]
  rw [show (858993459 : Nat) = 256 * (256 * (256 * 51 + 51) + 51) + 51 from rfl, key _ _ _ ha, key _ _ _ hb, key _ _ _ hc]
theorem s2_a {a b c d : Nat} (ha : a < 256) (hb : b < 256) (hc : c < 256) (hd : d < 256) : (256 * (256 * (256 * d + c) + b) + a) &&& 858993459 = 256 * (256 * (256 * (d &&& 51) + (c &&& 51)) + (b &&& 51)) + (a &&& 51) := by
  rw [show (858993459 : Nat) = 256 * (256 * (256 * 51 + 51) + 51) + 51 from rfl, and256 ha (by omega), and256 hb (by omega), and256 hc (by omega)]
theorem and15 (a : Nat) : a &&& 15 = a % 16 := Nat.and_two_pow_sub_one_eq_mod a 4
theorem and63 (a : Nat) : a &&& 63 = a % 64 := Nat.and_two_pow_sub_one_eq_mod a 6
theorem s3_a {a b c d : Nat} (ha : a < 256) (hb : b < 256) (hc : c < 256) (hd : d < 256) : (256 * (256 * (256 * d + c) + b) + a) &&& 252645135 = 256 * (256 * (256 * (d % 16) + c % 16) + b % 16) + a % 16 := by
  rw [show (252645135 : Nat) = 256 * (256 * (256 * 15 + 15) + 15) + 15 from rfl, and256 ha (by omega), and256 hb (by omega), and256 hc (by omega), and15, and15, and15, and15]
theorem ct_split (p : Nat → Bool) (m : Nat) : ∀ n, ct p (m + n) = ct p m + ct (fun k => p (m + k)) n
  | 0 => rfl
  | n + 1 => by
    have h := ct_split p m n
    show ct p (m + n + 1) = _
    rw [ct_succ, ct_succ, h, Nat.add_assoc]
theorem tb8 (q r : Nat) (hr : r < 256) (i : Nat) : (256 * q + r).testBit i = if i < 8 then r.testBit i else q.testBit (i - 8) := Nat.testBit_two_pow_mul_add q (i := 8) hr i
theorem ct8 (q r : Nat) (hr : r < 256) (n : Nat) : ct (fun i => (256 * q + r).testBit i) (8 + n) = ct (fun i => r.testBit i) 8 + ct (fun i => q.testBit i) n := by
  rw [ct_split]
  congr 1
  · exact ct_cong (fun k hk => by rw [tb8 q r hr, if_pos hk])
  · exact ct_cong (fun k hk => by rw [tb8 q r hr, if_neg (by omega), Nat.add_sub_cancel_left])
theorem ct_pop {X : Nat} {a b c d : Nat} (ha : a < 256) (hb : b < 256) (hc : c < 256) (hd : d < 256) (h : X = 256 * (256 * (256 * d + c) + b) + a) : ct (fun i => X.testBit i) 32 = ct (fun i => a.testBit i) 8 + (ct (fun i => b.testBit i) 8 + (ct (fun i => c.testBit i) 8 + ct (fun i => d.testBit i) 8)) := by
  subst h
  rw [show 32 = 8 + 24 from rfl, ct8 _ _ ha, show 24 = 8 + 16 from rfl, ct8 _ _ hb, show 16 = 8 + 8 from rfl, ct8 _ _ hc]
theorem fin4 {pa pb pc pd : Nat} (h1 : pa ≤ 8) (h2 : pb ≤ 8) (h3 : pc ≤ 8) (h4 : pd ≤ 8) : (256 * (256 * (256 * pd + pc) + pb) + pa + (256 * (256 * pd + pc) + pb) + (256 * (256 * (256 * pd + pc) + pb) + pa + (256 * (256 * pd + pc) + pb)) / 65536) % 64 = pa + (pb + (pc + pd)) := by
  have e : (256 * (256 * (256 * pd + pc) + pb) + pa + (256 * (256 * pd + pc) + pb)) / 65536 = pc + pd + 256 * pd := by omega
  rw [e]
  omega
theorem S_bits {x : Int32} {v : St3} {post : Int32 → St3 → Prop} (h : post (nI (ct (bt x) 32)) v) : wp_J6_bitCount_0f7a4 x v post := by
  obtain ⟨X, hX, rfl⟩ := of32 x
  obtain ⟨a, b, c, d, ha, hb, hc, hd, e⟩ := byt X hX
  unfold wp_J6_bitCount_0f7a4
  have q1 := s1_b ha hb hc hd
  rw [← e] at q1
  have g1 := t1a a ha
  have g2 := t1a b hb
  have g3 := t1a c hc
  have g4 := t1a d hd
  have k1 : nI X - (ushr (nI X) (1 : Int32) &&& (1431655765 : Int32)) = nI (256 * (256 * (256 * f1 d + f1 c) + f1 b) + f1 a) := by
    rw [show (1 : Int32) = nI 1 from rfl, nx_ush hX (by decide), show (1431655765 : Int32) = nI 1431655765 from rfl, nx_and, show X / 2 ^ 1 = X / 2 from rfl, q1, pk_sub (by omega)]
    congr 1
    unfold f1
    omega
  have hf := f1_lt ha
  have hg := f1_lt hb
  have hi := f1_lt hc
  have hj := f1_lt hd
  rw [k1]
  obtain ⟨u1, u2, u3, u4⟩ := t3 a ha
  obtain ⟨u5, u6, u7, u8⟩ := t3 b hb
  obtain ⟨u9, u10, u11, u12⟩ := t3 c hc
  obtain ⟨u13, u14, u15, u16⟩ := t3 d hd
  have k2 : (nI (256 * (256 * (256 * f1 d + f1 c) + f1 b) + f1 a) &&& (858993459 : Int32)) + (ushr (nI (256 * (256 * (256 * f1 d + f1 c) + f1 b) + f1 a)) (2 : Int32) &&& (858993459 : Int32)) = nI (256 * (256 * (256 * f2 (f1 d) + f2 (f1 c)) + f2 (f1 b)) + f2 (f1 a)) := by
    rw [show (2 : Int32) = nI 2 from rfl, nx_ush (by omega) (by decide), show (858993459 : Int32) = nI 858993459 from rfl, nx_and, nx_and, nI_add, show ∀ z : Nat, z / 2 ^ 2 = z / 4 from fun _ => rfl, s2_a hf hg hi hj, s2_b hf hg hi hj]
    congr 1
    unfold f2
    omega
  intro x1 e1
  rw [k2] at e1
  subst e1
  generalize hA : f2 (f1 a) = A at *
  generalize hB : f2 (f1 b) = B at *
  generalize hC : f2 (f1 c) = C at *
  generalize hD : f2 (f1 d) = D at *
  have hp := ct_le (fun i => a.testBit i) 8
  have hq := ct_le (fun i => b.testBit i) 8
  have hr := ct_le (fun i => c.testBit i) 8
  have hs := ct_le (fun i => d.testBit i) 8
  have hT : ct (bt (nI X)) 32 = ct (fun i => a.testBit i) 8 + (ct (fun i => b.testBit i) 8 + (ct (fun i => c.testBit i) 8 + ct (fun i => d.testBit i) 8)) := by
    rw [← ct_pop ha hb hc hd e]
    exact ct_cong (fun k hk => bt_nI hk)
  generalize ct (fun i => a.testBit i) 8 = pa at *
  generalize ct (fun i => b.testBit i) 8 = pb at *
  generalize ct (fun i => c.testBit i) 8 = pc at *
  generalize ct (fun i => d.testBit i) 8 = pd at *
  have k3 : (nI (256 * (256 * (256 * D + C) + B) + A) + ushr (nI (256 * (256 * (256 * D + C) + B) + A)) (4 : Int32)) &&& (252645135 : Int32) = nI (256 * (256 * (256 * pd + pc) + pb) + pa) := by
    rw [show (4 : Int32) = nI 4 from rfl, nx_ush (by omega) (by decide), nI_add, show (252645135 : Int32) = nI 252645135 from rfl, nx_and, show ∀ z : Nat, z / 2 ^ 4 = z / 16 from fun _ => rfl]
    rw [show 256 * (256 * (256 * D + C) + B) + A + (256 * (256 * (256 * D + C) + B) + A) / 16 = 256 * (256 * (256 * (D + D / 16) + (C + C / 16 + 16 * (D % 16))) + (B + B / 16 + 16 * (C % 16))) + (A + A / 16 + 16 * (B % 16)) by omega]
    rw [s3_a (by omega) (by omega) (by omega) (by omega)]
    congr 1
    omega
  intro x3 e3
  rw [k3] at e3
  subst e3
  rw [hT] at h
  have k4 : nI (256 * (256 * (256 * pd + pc) + pb) + pa) + ushr (nI (256 * (256 * (256 * pd + pc) + pb) + pa)) (8 : Int32) = nI (256 * (256 * (256 * pd + pc) + pb) + pa + (256 * (256 * pd + pc) + pb)) := by
    rw [show (8 : Int32) = nI 8 from rfl, nx_ush (by omega) (by decide), nI_add]
    congr 1
    rw [show ∀ z : Nat, z / 2 ^ 8 = z / 256 from fun _ => rfl]
    omega
  rw [k4]
  rw [show (16 : Int32) = nI 16 from rfl, nx_ush (by omega) (by decide), nI_add, show (63 : Int32) = nI 63 from rfl, nx_and, and63, show ∀ z : Nat, z / 2 ^ 16 = z / 65536 from fun _ => rfl]
  rw [fin4 hp hq hr hs]
  exact h
/-- .. of a set -/
theorem S_bitsM {x : Int32} {f : Nat → Bool} {n : Nat} {v : St3} {post : Int32 → St3 → Prop} (hx : Msk x (fun i => decide (i < n) && f i)) (hn : n ≤ 32) (h : post (nI (ct f n)) v) : wp_J6_bitCount_0f7a4 x v post := by
  refine S_bits ?_
  rw [show ct (bt x) 32 = ct f n from ?_]
  · exact h
  · rw [ct_cong (q := fun i => decide (i < n) && f i) (fun k hk => hx k hk), show 32 = n + (32 - n) by omega, ct_split]
    rw [show ct (fun i => decide (i < n) && f i) n = ct f n from ct_cong (fun k hk => by simp [hk])]
    have z : ct (fun k => decide (n + k < n) && f (n + k)) (32 - n) = 0 := ct_zero.mpr (fun k hk => by simp; intro q; omega)
    rw [z]
    rfl
