/-! the law's cases -/
section LAWROWS
variable {l : Launch} {G : Geo} {X : CT} {cc : ByteArray} {Ts : List Cond} {own : String} {n nL : Nat} {pc : Nat} {lv : List (Nat × Value)} {st : List Value} {v : St3}
theorem q_sld (o : OK G X cc Ts own n nL) {b Ln : Nat} {ys : Nat → Int32} (hX : va_X b Ln ys (xs X) (xs X).heap) (hbl : b < (xs X).heap.size) (hbA : ¬ AG G b) (hL : Ln < 2 ^ 31) (a : Nat) (ha : a < Ln) {i : Int32} (hi : i = nI a) (d : decode cc pc = .ok (.iaload, 1)) (kk : J l G X (pc + 1) lv (.int (ys a) :: st) v) : J l G X pc lv (.int i :: .ref b :: st) v := fun H locs ls hl hP hS => by
  subst hi
  refine va_sld o.1 o.2.1 hX hbl hbA hS (vp_in_nI ha hL) d ?_
  rw [nI_clamp (by omega)]
  exact kk H locs ls hl hP hS
theorem q_slen (o : OK G X cc Ts own n nL) {b Ln : Nat} {ys : Nat → Int32} (hX : va_X b Ln ys (xs X) (xs X).heap) (hbl : b < (xs X).heap.size) (hbA : ¬ AG G b) (d : decode cc pc = .ok (.arraylength, 1)) (kk : J l G X (pc + 1) lv (.int (nI Ln) :: st) v) : J l G X pc lv (.ref b :: st) v := fun H locs ls hl hP hS => va_slen o.1 o.2.1 hX hbl hbA hS d (kk H locs ls hl hP hS)
end LAWROWS
/-- the law's locals -/
abbrev LV (G : Geo) (b j : Nat) : List (Nat × Value) := [(3, .int (nI (4 * j))), (2, .ref (gA G 24 0)), (1, .ref (gA G 0 0)), (0, .ref b)]
/-- what stands through the whole loop -/
def LE (G : Geo) (X : CT) (b Ln : Nat) (ys : Nat → Int32) : Prop := OK G X cL_law lw_tbl RL 9 4 ∧ va_X b Ln ys (xs X) (xs X).heap ∧ b < (xs X).heap.size ∧ ¬ AG G b ∧ Ln ≤ 2048
theorem n4 (j t : Nat) : nI (4 * j) + nI t = nI (4 * j + t) := nI_add _ _
set_option maxHeartbeats 4000000 in
set_option maxRecDepth 100000 in
theorem lc_file {l : Launch} {G : Geo} {X : CT} {b Ln j N K P L C : Nat} {ys : Nat → Int32} {x m : St3} (E : LE G X b Ln ys) (hj : 4 * j + 4 ≤ Ln) (h : RX N K P L C x m) (nx : ∀ (N' K' P' L' C' : Nat) (x' m' : St3), RX N' K' P' L' C' x' m' → C' ≤ C + 50 → J l G X 694 (LV G b j) [] (gl x' m')) : J l G X 120 (LV G b j) [] (gl x m) := by
  obtain ⟨o, hX, hbl, hbA, hL⟩ := E
  refine q_aload_n o dL_law_120 rfl ?_
  refine q_aload_n o dL_law_121 rfl ?_
  refine q_iload_n o dL_law_122 rfl ?_
  refine q_iconst o dL_law_123 (x := nI 1) (by decide) ?_
  refine q_iadd o dL_law_124 ?_
  refine q_sld o hX hbl hbA (by omega) (4 * j + 1) (by omega) (n4 j 1) dL_law_125 ?_
  refine q_aload_n o dL_law_126 rfl ?_
  refine q_iload_n o dL_law_127 rfl ?_
  refine q_iconst o dL_law_128 (x := nI 2) (by decide) ?_
  refine q_iadd o dL_law_129 ?_
  refine q_sld o hX hbl hbA (by omega) (4 * j + 2) (by omega) (n4 j 2) dL_law_130 ?_
  refine q_aload_n o dL_law_131 rfl ?_
  refine q_iload_n o dL_law_132 rfl ?_
  refine q_iconst o dL_law_133 (x := nI 3) (by decide) ?_
  refine q_iadd o dL_law_134 ?_
  refine q_sld o hX hbl hbA (by omega) (4 * j + 3) (by omega) (n4 j 3) dL_law_135 ?_
  refine q_callV o [.int (ys (4 * j + 1)), .int (ys (4 * j + 2)), .int (ys (4 * j + 3))] (ad_X9_file l G (ys (4 * j + 1)) (ys (4 * j + 2)) (ys (4 * j + 3)) _ (A_file (Q := fun r1 r2 v2 => r1 = r2 ∧ J l G X 694 (LV G b j) [] v2) h (fun r N1 K1 P1 L1 C1 x1 m1 k1 k2 => ⟨rfl, nx _ _ _ _ _ _ _ k1 k2⟩))) gL_law_X9_file rfl rfl rfl rfl (by decide) ⟨rfl, by decide, by decide, (by decide +kernel : (parseMethodDescriptor yX9_file.desc).map (fun d => d.parameters.length) = some 3)⟩ (by decide) (by decide) rfl (Nat.le_of_ble_eq_true rfl) dL_law_136 (fun r1 v1 h1 => ?_)
  refine q_aload_n o dL_law_139 rfl ?_
  refine q_aload_n o dL_law_140 rfl ?_
  refine q_iload_n o dL_law_141 rfl ?_
  refine q_iconst o dL_law_142 (x := nI 1) (by decide) ?_
  refine q_iadd o dL_law_143 ?_
  refine q_sld o hX hbl hbA (by omega) (4 * j + 1) (by omega) (n4 j 1) dL_law_144 ?_
  refine q_aload_n o dL_law_145 rfl ?_
  refine q_iload_n o dL_law_146 rfl ?_
  refine q_iconst o dL_law_147 (x := nI 2) (by decide) ?_
  refine q_iadd o dL_law_148 ?_
  refine q_sld o hX hbl hbA (by omega) (4 * j + 2) (by omega) (n4 j 2) dL_law_149 ?_
  refine q_aload_n o dL_law_150 rfl ?_
  refine q_iload_n o dL_law_151 rfl ?_
  refine q_iconst o dL_law_152 (x := nI 3) (by decide) ?_
  refine q_iadd o dL_law_153 ?_
  refine q_sld o hX hbl hbA (by omega) (4 * j + 3) (by omega) (n4 j 3) dL_law_154 ?_
  refine q_callV o [.int (ys (4 * j + 1)), .int (ys (4 * j + 2)), .int (ys (4 * j + 3))] (ad_X10_file l G (ys (4 * j + 1)) (ys (4 * j + 2)) (ys (4 * j + 3)) _ h1) gL_law_X10_file rfl rfl rfl rfl (by decide) ⟨rfl, by decide, by decide, (by decide +kernel : (parseMethodDescriptor yX10_file.desc).map (fun d => d.parameters.length) = some 3)⟩ (by decide) (by decide) rfl (Nat.le_of_ble_eq_true rfl) dL_law_155 (fun r2 v2 h2 => ?_)
  exact q_ic_eq o 694 dL_law_158 (by decide) (fun _ => h2.2) (fun c => absurd h2.1 c)
set_option maxHeartbeats 4000000 in
set_option maxRecDepth 100000 in
theorem lc_value {l : Launch} {G : Geo} {X : CT} {b Ln j N K P L C : Nat} {ys : Nat → Int32} {x m : St3} (E : LE G X b Ln ys) (hj : 4 * j + 4 ≤ Ln) (h : RX N K P L C x m) (nx : ∀ (N' K' P' L' C' : Nat) (x' m' : St3), RX N' K' P' L' C' x' m' → C' ≤ C + 50 → J l G X 694 (LV G b j) [] (gl x' m')) : J l G X 163 (LV G b j) [] (gl x m) := by
  obtain ⟨o, hX, hbl, hbA, hL⟩ := E
  refine q_aload_n o dL_law_163 rfl ?_
  refine q_aload_n o dL_law_164 rfl ?_
  refine q_iload_n o dL_law_165 rfl ?_
  refine q_iconst o dL_law_166 (x := nI 1) (by decide) ?_
  refine q_iadd o dL_law_167 ?_
  refine q_sld o hX hbl hbA (by omega) (4 * j + 1) (by omega) (n4 j 1) dL_law_168 ?_
  refine q_aload_n o dL_law_169 rfl ?_
  refine q_iload_n o dL_law_170 rfl ?_
  refine q_iconst o dL_law_171 (x := nI 2) (by decide) ?_
  refine q_iadd o dL_law_172 ?_
  refine q_sld o hX hbl hbA (by omega) (4 * j + 2) (by omega) (n4 j 2) dL_law_173 ?_
  refine q_callV o [.int (ys (4 * j + 1)), .int (ys (4 * j + 2))] (ad_X9_value l G (ys (4 * j + 1)) (ys (4 * j + 2)) _ (A_value (Q := fun r1 r2 v2 => r1 = r2 ∧ J l G X 694 (LV G b j) [] v2) h (fun r => ⟨rfl, nx _ _ _ _ _ _ _ h.th (by omega)⟩))) gL_law_X9_value rfl rfl rfl rfl (by decide) ⟨rfl, by decide, by decide, (by decide +kernel : (parseMethodDescriptor yX9_value.desc).map (fun d => d.parameters.length) = some 2)⟩ (by decide) (by decide) rfl (Nat.le_of_ble_eq_true rfl) dL_law_174 (fun r1 v1 h1 => ?_)
  refine q_aload_n o dL_law_177 rfl ?_
  refine q_aload_n o dL_law_178 rfl ?_
  refine q_iload_n o dL_law_179 rfl ?_
  refine q_iconst o dL_law_180 (x := nI 1) (by decide) ?_
  refine q_iadd o dL_law_181 ?_
  refine q_sld o hX hbl hbA (by omega) (4 * j + 1) (by omega) (n4 j 1) dL_law_182 ?_
  refine q_aload_n o dL_law_183 rfl ?_
  refine q_iload_n o dL_law_184 rfl ?_
  refine q_iconst o dL_law_185 (x := nI 2) (by decide) ?_
  refine q_iadd o dL_law_186 ?_
  refine q_sld o hX hbl hbA (by omega) (4 * j + 2) (by omega) (n4 j 2) dL_law_187 ?_
  refine q_callV o [.int (ys (4 * j + 1)), .int (ys (4 * j + 2))] (ad_X10_value l G (ys (4 * j + 1)) (ys (4 * j + 2)) _ h1) gL_law_X10_value rfl rfl rfl rfl (by decide) ⟨rfl, by decide, by decide, (by decide +kernel : (parseMethodDescriptor yX10_value.desc).map (fun d => d.parameters.length) = some 2)⟩ (by decide) (by decide) rfl (Nat.le_of_ble_eq_true rfl) dL_law_188 (fun r2 v2 h2 => ?_)
  exact q_ic_eq o 694 dL_law_191 (by decide) (fun _ => h2.2) (fun c => absurd h2.1 c)
set_option maxHeartbeats 4000000 in
set_option maxRecDepth 100000 in
theorem lc_sum {l : Launch} {G : Geo} {X : CT} {b Ln j N K P L C : Nat} {ys : Nat → Int32} {x m : St3} (E : LE G X b Ln ys) (hj : 4 * j + 4 ≤ Ln) (h : RX N K P L C x m) (nx : ∀ (N' K' P' L' C' : Nat) (x' m' : St3), RX N' K' P' L' C' x' m' → C' ≤ C + 50 → J l G X 694 (LV G b j) [] (gl x' m')) : J l G X 196 (LV G b j) [] (gl x m) := by
  obtain ⟨o, hX, hbl, hbA, hL⟩ := E
  refine q_aload_n o dL_law_196 rfl ?_
  refine q_aload_n o dL_law_197 rfl ?_
  refine q_iload_n o dL_law_198 rfl ?_
  refine q_iconst o dL_law_199 (x := nI 1) (by decide) ?_
  refine q_iadd o dL_law_200 ?_
  refine q_sld o hX hbl hbA (by omega) (4 * j + 1) (by omega) (n4 j 1) dL_law_201 ?_
  refine q_callV o [.int (ys (4 * j + 1))] (ad_X9_sum l G (ys (4 * j + 1)) _ (A_sum (Q := fun r1 r2 v2 => r1 = r2 ∧ J l G X 694 (LV G b j) [] v2) h (fun r => ⟨rfl, nx _ _ _ _ _ _ _ h.th (by omega)⟩))) gL_law_X9_sum rfl rfl rfl rfl (by decide) ⟨rfl, by decide, by decide, (by decide +kernel : (parseMethodDescriptor yX9_sum.desc).map (fun d => d.parameters.length) = some 1)⟩ (by decide) (by decide) rfl (Nat.le_of_ble_eq_true rfl) dL_law_202 (fun r1 v1 h1 => ?_)
  refine q_aload_n o dL_law_205 rfl ?_
  refine q_aload_n o dL_law_206 rfl ?_
  refine q_iload_n o dL_law_207 rfl ?_
  refine q_iconst o dL_law_208 (x := nI 1) (by decide) ?_
  refine q_iadd o dL_law_209 ?_
  refine q_sld o hX hbl hbA (by omega) (4 * j + 1) (by omega) (n4 j 1) dL_law_210 ?_
  refine q_callV o [.int (ys (4 * j + 1))] (ad_X10_sum l G (ys (4 * j + 1)) _ h1) gL_law_X10_sum rfl rfl rfl rfl (by decide) ⟨rfl, by decide, by decide, (by decide +kernel : (parseMethodDescriptor yX10_sum.desc).map (fun d => d.parameters.length) = some 1)⟩ (by decide) (by decide) rfl (Nat.le_of_ble_eq_true rfl) dL_law_211 (fun r2 v2 h2 => ?_)
  exact q_ic_eq o 694 dL_law_214 (by decide) (fun _ => h2.2) (fun c => absurd h2.1 c)
set_option maxHeartbeats 4000000 in
set_option maxRecDepth 100000 in
theorem lc_peer {l : Launch} {G : Geo} {X : CT} {b Ln j N K P L C : Nat} {ys : Nat → Int32} {x m : St3} (E : LE G X b Ln ys) (hj : 4 * j + 4 ≤ Ln) (h : RX N K P L C x m) (nx : ∀ (N' K' P' L' C' : Nat) (x' m' : St3), RX N' K' P' L' C' x' m' → C' ≤ C + 50 → J l G X 694 (LV G b j) [] (gl x' m')) : J l G X 219 (LV G b j) [] (gl x m) := by
  obtain ⟨o, hX, hbl, hbA, hL⟩ := E
  refine q_aload_n o dL_law_219 rfl ?_
  refine q_aload_n o dL_law_220 rfl ?_
  refine q_iload_n o dL_law_221 rfl ?_
  refine q_iconst o dL_law_222 (x := nI 1) (by decide) ?_
  refine q_iadd o dL_law_223 ?_
  refine q_sld o hX hbl hbA (by omega) (4 * j + 1) (by omega) (n4 j 1) dL_law_224 ?_
  refine q_aload_n o dL_law_225 rfl ?_
  refine q_iload_n o dL_law_226 rfl ?_
  refine q_iconst o dL_law_227 (x := nI 2) (by decide) ?_
  refine q_iadd o dL_law_228 ?_
  refine q_sld o hX hbl hbA (by omega) (4 * j + 2) (by omega) (n4 j 2) dL_law_229 ?_
  refine q_aload_n o dL_law_230 rfl ?_
  refine q_iload_n o dL_law_231 rfl ?_
  refine q_iconst o dL_law_232 (x := nI 3) (by decide) ?_
  refine q_iadd o dL_law_233 ?_
  refine q_sld o hX hbl hbA (by omega) (4 * j + 3) (by omega) (n4 j 3) dL_law_234 ?_
  refine q_callV o [.int (ys (4 * j + 1)), .int (ys (4 * j + 2)), .int (ys (4 * j + 3))] (ad_X9_peer l G (ys (4 * j + 1)) (ys (4 * j + 2)) (ys (4 * j + 3)) _ (A_peer (Q := fun r1 r2 v2 => r1 = r2 ∧ J l G X 694 (LV G b j) [] v2) h (fun r N1 K1 P1 L1 C1 x1 m1 k1 k2 => ⟨rfl, nx _ _ _ _ _ _ _ k1 k2⟩))) gL_law_X9_peer rfl rfl rfl rfl (by decide) ⟨rfl, by decide, by decide, (by decide +kernel : (parseMethodDescriptor yX9_peer.desc).map (fun d => d.parameters.length) = some 3)⟩ (by decide) (by decide) rfl (Nat.le_of_ble_eq_true rfl) dL_law_235 (fun r1 v1 h1 => ?_)
  refine q_aload_n o dL_law_238 rfl ?_
  refine q_aload_n o dL_law_239 rfl ?_
  refine q_iload_n o dL_law_240 rfl ?_
  refine q_iconst o dL_law_241 (x := nI 1) (by decide) ?_
  refine q_iadd o dL_law_242 ?_
  refine q_sld o hX hbl hbA (by omega) (4 * j + 1) (by omega) (n4 j 1) dL_law_243 ?_
  refine q_aload_n o dL_law_244 rfl ?_
  refine q_iload_n o dL_law_245 rfl ?_
  refine q_iconst o dL_law_246 (x := nI 2) (by decide) ?_
  refine q_iadd o dL_law_247 ?_
  refine q_sld o hX hbl hbA (by omega) (4 * j + 2) (by omega) (n4 j 2) dL_law_248 ?_
  refine q_aload_n o dL_law_249 rfl ?_
  refine q_iload_n o dL_law_250 rfl ?_
  refine q_iconst o dL_law_251 (x := nI 3) (by decide) ?_
  refine q_iadd o dL_law_252 ?_
  refine q_sld o hX hbl hbA (by omega) (4 * j + 3) (by omega) (n4 j 3) dL_law_253 ?_
  refine q_callV o [.int (ys (4 * j + 1)), .int (ys (4 * j + 2)), .int (ys (4 * j + 3))] (ad_X10_peer l G (ys (4 * j + 1)) (ys (4 * j + 2)) (ys (4 * j + 3)) _ h1) gL_law_X10_peer rfl rfl rfl rfl (by decide) ⟨rfl, by decide, by decide, (by decide +kernel : (parseMethodDescriptor yX10_peer.desc).map (fun d => d.parameters.length) = some 3)⟩ (by decide) (by decide) rfl (Nat.le_of_ble_eq_true rfl) dL_law_254 (fun r2 v2 h2 => ?_)
  exact q_ic_eq o 694 dL_law_257 (by decide) (fun _ => h2.2) (fun c => absurd h2.1 c)
set_option maxHeartbeats 4000000 in
set_option maxRecDepth 100000 in
theorem lc_often {l : Launch} {G : Geo} {X : CT} {b Ln j N K P L C : Nat} {ys : Nat → Int32} {x m : St3} (E : LE G X b Ln ys) (hj : 4 * j + 4 ≤ Ln) (h : RX N K P L C x m) (nx : ∀ (N' K' P' L' C' : Nat) (x' m' : St3), RX N' K' P' L' C' x' m' → C' ≤ C + 50 → J l G X 694 (LV G b j) [] (gl x' m')) : J l G X 262 (LV G b j) [] (gl x m) := by
  obtain ⟨o, hX, hbl, hbA, hL⟩ := E
  refine q_aload_n o dL_law_262 rfl ?_
  refine q_aload_n o dL_law_263 rfl ?_
  refine q_iload_n o dL_law_264 rfl ?_
  refine q_iconst o dL_law_265 (x := nI 1) (by decide) ?_
  refine q_iadd o dL_law_266 ?_
  refine q_sld o hX hbl hbA (by omega) (4 * j + 1) (by omega) (n4 j 1) dL_law_267 ?_
  refine q_aload_n o dL_law_268 rfl ?_
  refine q_iload_n o dL_law_269 rfl ?_
  refine q_iconst o dL_law_270 (x := nI 2) (by decide) ?_
  refine q_iadd o dL_law_271 ?_
  refine q_sld o hX hbl hbA (by omega) (4 * j + 2) (by omega) (n4 j 2) dL_law_272 ?_
  refine q_callV o [.int (ys (4 * j + 1)), .int (ys (4 * j + 2))] (ad_X9_often l G (ys (4 * j + 1)) (ys (4 * j + 2)) _ (A_often (Q := fun r1 r2 v2 => r1 = r2 ∧ J l G X 694 (LV G b j) [] v2) h (fun r N1 K1 P1 L1 C1 x1 m1 k1 k2 => ⟨rfl, nx _ _ _ _ _ _ _ k1 k2⟩))) gL_law_X9_often rfl rfl rfl rfl (by decide) ⟨rfl, by decide, by decide, (by decide +kernel : (parseMethodDescriptor yX9_often.desc).map (fun d => d.parameters.length) = some 2)⟩ (by decide) (by decide) rfl (Nat.le_of_ble_eq_true rfl) dL_law_273 (fun r1 v1 h1 => ?_)
  refine q_aload_n o dL_law_276 rfl ?_
  refine q_aload_n o dL_law_277 rfl ?_
  refine q_iload_n o dL_law_278 rfl ?_
  refine q_iconst o dL_law_279 (x := nI 1) (by decide) ?_
  refine q_iadd o dL_law_280 ?_
  refine q_sld o hX hbl hbA (by omega) (4 * j + 1) (by omega) (n4 j 1) dL_law_281 ?_
  refine q_aload_n o dL_law_282 rfl ?_
  refine q_iload_n o dL_law_283 rfl ?_
  refine q_iconst o dL_law_284 (x := nI 2) (by decide) ?_
  refine q_iadd o dL_law_285 ?_
  refine q_sld o hX hbl hbA (by omega) (4 * j + 2) (by omega) (n4 j 2) dL_law_286 ?_
  refine q_callV o [.int (ys (4 * j + 1)), .int (ys (4 * j + 2))] (ad_X10_often l G (ys (4 * j + 1)) (ys (4 * j + 2)) _ h1) gL_law_X10_often rfl rfl rfl rfl (by decide) ⟨rfl, by decide, by decide, (by decide +kernel : (parseMethodDescriptor yX10_often.desc).map (fun d => d.parameters.length) = some 2)⟩ (by decide) (by decide) rfl (Nat.le_of_ble_eq_true rfl) dL_law_287 (fun r2 v2 h2 => ?_)
  exact q_ic_eq o 694 dL_law_290 (by decide) (fun _ => h2.2) (fun c => absurd h2.1 c)
set_option maxHeartbeats 4000000 in
set_option maxRecDepth 100000 in
theorem lc_meet {l : Launch} {G : Geo} {X : CT} {b Ln j N K P L C : Nat} {ys : Nat → Int32} {x m : St3} (E : LE G X b Ln ys) (hj : 4 * j + 4 ≤ Ln) (h : RX N K P L C x m) (nx : ∀ (N' K' P' L' C' : Nat) (x' m' : St3), RX N' K' P' L' C' x' m' → C' ≤ C + 50 → J l G X 694 (LV G b j) [] (gl x' m')) : J l G X 295 (LV G b j) [] (gl x m) := by
  obtain ⟨o, hX, hbl, hbA, hL⟩ := E
  refine q_aload_n o dL_law_295 rfl ?_
  refine q_aload_n o dL_law_296 rfl ?_
  refine q_iload_n o dL_law_297 rfl ?_
  refine q_iconst o dL_law_298 (x := nI 1) (by decide) ?_
  refine q_iadd o dL_law_299 ?_
  refine q_sld o hX hbl hbA (by omega) (4 * j + 1) (by omega) (n4 j 1) dL_law_300 ?_
  refine q_aload_n o dL_law_301 rfl ?_
  refine q_iload_n o dL_law_302 rfl ?_
  refine q_iconst o dL_law_303 (x := nI 2) (by decide) ?_
  refine q_iadd o dL_law_304 ?_
  refine q_sld o hX hbl hbA (by omega) (4 * j + 2) (by omega) (n4 j 2) dL_law_305 ?_
  refine q_callV o [.int (ys (4 * j + 1)), .int (ys (4 * j + 2))] (ad_X9_meet l G (ys (4 * j + 1)) (ys (4 * j + 2)) _ (A_meet (Q := fun r1 r2 v2 => r1 = r2 ∧ J l G X 694 (LV G b j) [] v2) h (fun r N1 K1 P1 L1 C1 x1 m1 k1 k2 => ⟨rfl, nx _ _ _ _ _ _ _ k1 k2⟩))) gL_law_X9_meet rfl rfl rfl rfl (by decide) ⟨rfl, by decide, by decide, (by decide +kernel : (parseMethodDescriptor yX9_meet.desc).map (fun d => d.parameters.length) = some 2)⟩ (by decide) (by decide) rfl (Nat.le_of_ble_eq_true rfl) dL_law_306 (fun r1 v1 h1 => ?_)
  refine q_aload_n o dL_law_309 rfl ?_
  refine q_aload_n o dL_law_310 rfl ?_
  refine q_iload_n o dL_law_311 rfl ?_
  refine q_iconst o dL_law_312 (x := nI 1) (by decide) ?_
  refine q_iadd o dL_law_313 ?_
  refine q_sld o hX hbl hbA (by omega) (4 * j + 1) (by omega) (n4 j 1) dL_law_314 ?_
  refine q_aload_n o dL_law_315 rfl ?_
  refine q_iload_n o dL_law_316 rfl ?_
  refine q_iconst o dL_law_317 (x := nI 2) (by decide) ?_
  refine q_iadd o dL_law_318 ?_
  refine q_sld o hX hbl hbA (by omega) (4 * j + 2) (by omega) (n4 j 2) dL_law_319 ?_
  refine q_callV o [.int (ys (4 * j + 1)), .int (ys (4 * j + 2))] (ad_X10_meet l G (ys (4 * j + 1)) (ys (4 * j + 2)) _ h1) gL_law_X10_meet rfl rfl rfl rfl (by decide) ⟨rfl, by decide, by decide, (by decide +kernel : (parseMethodDescriptor yX10_meet.desc).map (fun d => d.parameters.length) = some 2)⟩ (by decide) (by decide) rfl (Nat.le_of_ble_eq_true rfl) dL_law_320 (fun r2 v2 h2 => ?_)
  exact q_ic_eq o 694 dL_law_323 (by decide) (fun _ => h2.2) (fun c => absurd h2.1 c)
set_option maxHeartbeats 4000000 in
set_option maxRecDepth 100000 in
theorem lc_leave {l : Launch} {G : Geo} {X : CT} {b Ln j N K P L C : Nat} {ys : Nat → Int32} {x m : St3} (E : LE G X b Ln ys) (hj : 4 * j + 4 ≤ Ln) (h : RX N K P L C x m) (nx : ∀ (N' K' P' L' C' : Nat) (x' m' : St3), RX N' K' P' L' C' x' m' → C' ≤ C + 50 → J l G X 694 (LV G b j) [] (gl x' m')) : J l G X 328 (LV G b j) [] (gl x m) := by
  obtain ⟨o, hX, hbl, hbA, hL⟩ := E
  refine q_aload_n o dL_law_328 rfl ?_
  refine q_aload_n o dL_law_329 rfl ?_
  refine q_iload_n o dL_law_330 rfl ?_
  refine q_iconst o dL_law_331 (x := nI 1) (by decide) ?_
  refine q_iadd o dL_law_332 ?_
  refine q_sld o hX hbl hbA (by omega) (4 * j + 1) (by omega) (n4 j 1) dL_law_333 ?_
  refine q_callV o [.int (ys (4 * j + 1))] (ad_X9_leave l G (ys (4 * j + 1)) _ (A_leave (Q := fun r1 r2 v2 => r1 = r2 ∧ J l G X 694 (LV G b j) [] v2) h (fun r N1 K1 P1 L1 C1 x1 m1 k1 k2 => ⟨rfl, nx _ _ _ _ _ _ _ k1 k2⟩))) gL_law_X9_leave rfl rfl rfl rfl (by decide) ⟨rfl, by decide, by decide, (by decide +kernel : (parseMethodDescriptor yX9_leave.desc).map (fun d => d.parameters.length) = some 1)⟩ (by decide) (by decide) rfl (Nat.le_of_ble_eq_true rfl) dL_law_334 (fun r1 v1 h1 => ?_)
  refine q_aload_n o dL_law_337 rfl ?_
  refine q_aload_n o dL_law_338 rfl ?_
  refine q_iload_n o dL_law_339 rfl ?_
  refine q_iconst o dL_law_340 (x := nI 1) (by decide) ?_
  refine q_iadd o dL_law_341 ?_
  refine q_sld o hX hbl hbA (by omega) (4 * j + 1) (by omega) (n4 j 1) dL_law_342 ?_
  refine q_callV o [.int (ys (4 * j + 1))] (ad_X10_leave l G (ys (4 * j + 1)) _ h1) gL_law_X10_leave rfl rfl rfl rfl (by decide) ⟨rfl, by decide, by decide, (by decide +kernel : (parseMethodDescriptor yX10_leave.desc).map (fun d => d.parameters.length) = some 1)⟩ (by decide) (by decide) rfl (Nat.le_of_ble_eq_true rfl) dL_law_343 (fun r2 v2 h2 => ?_)
  exact q_ic_eq o 694 dL_law_346 (by decide) (fun _ => h2.2) (fun c => absurd h2.1 c)
set_option maxHeartbeats 4000000 in
set_option maxRecDepth 100000 in
theorem lc_join {l : Launch} {G : Geo} {X : CT} {b Ln j N K P L C : Nat} {ys : Nat → Int32} {x m : St3} (E : LE G X b Ln ys) (hj : 4 * j + 4 ≤ Ln) (h : RX N K P L C x m) (nx : ∀ (N' K' P' L' C' : Nat) (x' m' : St3), RX N' K' P' L' C' x' m' → C' ≤ C + 50 → J l G X 694 (LV G b j) [] (gl x' m')) : J l G X 351 (LV G b j) [] (gl x m) := by
  obtain ⟨o, hX, hbl, hbA, hL⟩ := E
  refine q_aload_n o dL_law_351 rfl ?_
  refine q_aload_n o dL_law_352 rfl ?_
  refine q_iload_n o dL_law_353 rfl ?_
  refine q_iconst o dL_law_354 (x := nI 1) (by decide) ?_
  refine q_iadd o dL_law_355 ?_
  refine q_sld o hX hbl hbA (by omega) (4 * j + 1) (by omega) (n4 j 1) dL_law_356 ?_
  refine q_callV o [.int (ys (4 * j + 1))] (ad_X9_join l G (ys (4 * j + 1)) _ (A_join (Q := fun r1 r2 v2 => r1 = r2 ∧ J l G X 694 (LV G b j) [] v2) h (fun r N1 K1 P1 L1 C1 x1 m1 k1 k2 => ⟨rfl, nx _ _ _ _ _ _ _ k1 k2⟩))) gL_law_X9_join rfl rfl rfl rfl (by decide) ⟨rfl, by decide, by decide, (by decide +kernel : (parseMethodDescriptor yX9_join.desc).map (fun d => d.parameters.length) = some 1)⟩ (by decide) (by decide) rfl (Nat.le_of_ble_eq_true rfl) dL_law_357 (fun r1 v1 h1 => ?_)
  refine q_aload_n o dL_law_360 rfl ?_
  refine q_aload_n o dL_law_361 rfl ?_
  refine q_iload_n o dL_law_362 rfl ?_
  refine q_iconst o dL_law_363 (x := nI 1) (by decide) ?_
  refine q_iadd o dL_law_364 ?_
  refine q_sld o hX hbl hbA (by omega) (4 * j + 1) (by omega) (n4 j 1) dL_law_365 ?_
  refine q_callV o [.int (ys (4 * j + 1))] (ad_X10_join l G (ys (4 * j + 1)) _ h1) gL_law_X10_join rfl rfl rfl rfl (by decide) ⟨rfl, by decide, by decide, (by decide +kernel : (parseMethodDescriptor yX10_join.desc).map (fun d => d.parameters.length) = some 1)⟩ (by decide) (by decide) rfl (Nat.le_of_ble_eq_true rfl) dL_law_366 (fun r2 v2 h2 => ?_)
  exact q_ic_eq o 694 dL_law_369 (by decide) (fun _ => h2.2) (fun c => absurd h2.1 c)
set_option maxHeartbeats 4000000 in
set_option maxRecDepth 100000 in
theorem lc_tick {l : Launch} {G : Geo} {X : CT} {b Ln j N K P L C : Nat} {ys : Nat → Int32} {x m : St3} (E : LE G X b Ln ys) (hj : 4 * j + 4 ≤ Ln) (h : RX N K P L C x m) (hC : C + 100 < 2 ^ 31) (nx : ∀ (N' K' P' L' C' : Nat) (x' m' : St3), RX N' K' P' L' C' x' m' → C' ≤ C + 50 → J l G X 694 (LV G b j) [] (gl x' m')) : J l G X 374 (LV G b j) [] (gl x m) := by
  obtain ⟨o, hX, hbl, hbA, hL⟩ := E
  refine q_aload_n o dL_law_374 rfl ?_
  refine q_aload_n o dL_law_375 rfl ?_
  refine q_iload_n o dL_law_376 rfl ?_
  refine q_iconst o dL_law_377 (x := nI 1) (by decide) ?_
  refine q_iadd o dL_law_378 ?_
  refine q_sld o hX hbl hbA (by omega) (4 * j + 1) (by omega) (n4 j 1) dL_law_379 ?_
  refine q_callV o [.int (ys (4 * j + 1))] (ad_X9_tick l G (ys (4 * j + 1)) _ (A_tick (Q := fun r1 r2 v2 => r1 = r2 ∧ J l G X 694 (LV G b j) [] v2) h hC (fun r N1 K1 P1 L1 C1 x1 m1 k1 k2 => ⟨rfl, nx _ _ _ _ _ _ _ k1 k2⟩))) gL_law_X9_tick rfl rfl rfl rfl (by decide) ⟨rfl, by decide, by decide, (by decide +kernel : (parseMethodDescriptor yX9_tick.desc).map (fun d => d.parameters.length) = some 1)⟩ (by decide) (by decide) rfl (Nat.le_of_ble_eq_true rfl) dL_law_380 (fun r1 v1 h1 => ?_)
  refine q_aload_n o dL_law_383 rfl ?_
  refine q_aload_n o dL_law_384 rfl ?_
  refine q_iload_n o dL_law_385 rfl ?_
  refine q_iconst o dL_law_386 (x := nI 1) (by decide) ?_
  refine q_iadd o dL_law_387 ?_
  refine q_sld o hX hbl hbA (by omega) (4 * j + 1) (by omega) (n4 j 1) dL_law_388 ?_
  refine q_callV o [.int (ys (4 * j + 1))] (ad_X10_tick l G (ys (4 * j + 1)) _ h1) gL_law_X10_tick rfl rfl rfl rfl (by decide) ⟨rfl, by decide, by decide, (by decide +kernel : (parseMethodDescriptor yX10_tick.desc).map (fun d => d.parameters.length) = some 1)⟩ (by decide) (by decide) rfl (Nat.le_of_ble_eq_true rfl) dL_law_389 (fun r2 v2 h2 => ?_)
  exact q_ic_eq o 694 dL_law_392 (by decide) (fun _ => h2.2) (fun c => absurd h2.1 c)
set_option maxHeartbeats 4000000 in
set_option maxRecDepth 100000 in
theorem lc_about {l : Launch} {G : Geo} {X : CT} {b Ln j N K P L C : Nat} {ys : Nat → Int32} {x m : St3} (E : LE G X b Ln ys) (hj : 4 * j + 4 ≤ Ln) (h : RX N K P L C x m) (nx : ∀ (N' K' P' L' C' : Nat) (x' m' : St3), RX N' K' P' L' C' x' m' → C' ≤ C + 50 → J l G X 694 (LV G b j) [] (gl x' m')) : J l G X 397 (LV G b j) [] (gl x m) := by
  obtain ⟨o, hX, hbl, hbA, hL⟩ := E
  refine q_aload_n o dL_law_397 rfl ?_
  refine q_aload_n o dL_law_398 rfl ?_
  refine q_iload_n o dL_law_399 rfl ?_
  refine q_iconst o dL_law_400 (x := nI 1) (by decide) ?_
  refine q_iadd o dL_law_401 ?_
  refine q_sld o hX hbl hbA (by omega) (4 * j + 1) (by omega) (n4 j 1) dL_law_402 ?_
  refine q_aload_n o dL_law_403 rfl ?_
  refine q_iload_n o dL_law_404 rfl ?_
  refine q_iconst o dL_law_405 (x := nI 2) (by decide) ?_
  refine q_iadd o dL_law_406 ?_
  refine q_sld o hX hbl hbA (by omega) (4 * j + 2) (by omega) (n4 j 2) dL_law_407 ?_
  refine q_callV o [.int (ys (4 * j + 1)), .int (ys (4 * j + 2))] (ad_X9_about l G (ys (4 * j + 1)) (ys (4 * j + 2)) _ (A_about (Q := fun r1 r2 v2 => r1 = r2 ∧ J l G X 694 (LV G b j) [] v2) h (fun r => ⟨rfl, nx _ _ _ _ _ _ _ h.th (by omega)⟩))) gL_law_X9_about rfl rfl rfl rfl (by decide) ⟨rfl, by decide, by decide, (by decide +kernel : (parseMethodDescriptor yX9_about.desc).map (fun d => d.parameters.length) = some 2)⟩ (by decide) (by decide) rfl (Nat.le_of_ble_eq_true rfl) dL_law_408 (fun r1 v1 h1 => ?_)
  refine q_aload_n o dL_law_411 rfl ?_
  refine q_aload_n o dL_law_412 rfl ?_
  refine q_iload_n o dL_law_413 rfl ?_
  refine q_iconst o dL_law_414 (x := nI 1) (by decide) ?_
  refine q_iadd o dL_law_415 ?_
  refine q_sld o hX hbl hbA (by omega) (4 * j + 1) (by omega) (n4 j 1) dL_law_416 ?_
  refine q_aload_n o dL_law_417 rfl ?_
  refine q_iload_n o dL_law_418 rfl ?_
  refine q_iconst o dL_law_419 (x := nI 2) (by decide) ?_
  refine q_iadd o dL_law_420 ?_
  refine q_sld o hX hbl hbA (by omega) (4 * j + 2) (by omega) (n4 j 2) dL_law_421 ?_
  refine q_callV o [.int (ys (4 * j + 1)), .int (ys (4 * j + 2))] (ad_X10_about l G (ys (4 * j + 1)) (ys (4 * j + 2)) _ h1) gL_law_X10_about rfl rfl rfl rfl (by decide) ⟨rfl, by decide, by decide, (by decide +kernel : (parseMethodDescriptor yX10_about.desc).map (fun d => d.parameters.length) = some 2)⟩ (by decide) (by decide) rfl (Nat.le_of_ble_eq_true rfl) dL_law_422 (fun r2 v2 h2 => ?_)
  exact q_ic_eq o 694 dL_law_425 (by decide) (fun _ => h2.2) (fun c => absurd h2.1 c)
set_option maxHeartbeats 4000000 in
set_option maxRecDepth 100000 in
theorem lc_held {l : Launch} {G : Geo} {X : CT} {b Ln j N K P L C : Nat} {ys : Nat → Int32} {x m : St3} (E : LE G X b Ln ys) (hj : 4 * j + 4 ≤ Ln) (h : RX N K P L C x m) (nx : ∀ (N' K' P' L' C' : Nat) (x' m' : St3), RX N' K' P' L' C' x' m' → C' ≤ C + 50 → J l G X 694 (LV G b j) [] (gl x' m')) : J l G X 430 (LV G b j) [] (gl x m) := by
  obtain ⟨o, hX, hbl, hbA, hL⟩ := E
  refine q_aload_n o dL_law_430 rfl ?_
  refine q_aload_n o dL_law_431 rfl ?_
  refine q_iload_n o dL_law_432 rfl ?_
  refine q_iconst o dL_law_433 (x := nI 1) (by decide) ?_
  refine q_iadd o dL_law_434 ?_
  refine q_sld o hX hbl hbA (by omega) (4 * j + 1) (by omega) (n4 j 1) dL_law_435 ?_
  refine q_aload_n o dL_law_436 rfl ?_
  refine q_iload_n o dL_law_437 rfl ?_
  refine q_iconst o dL_law_438 (x := nI 2) (by decide) ?_
  refine q_iadd o dL_law_439 ?_
  refine q_sld o hX hbl hbA (by omega) (4 * j + 2) (by omega) (n4 j 2) dL_law_440 ?_
  refine q_callV o [.int (ys (4 * j + 1)), .int (ys (4 * j + 2))] (ad_X9_held l G (ys (4 * j + 1)) (ys (4 * j + 2)) _ (A_held (Q := fun r1 r2 v2 => r1 = r2 ∧ J l G X 694 (LV G b j) [] v2) h (fun r => ⟨rfl, nx _ _ _ _ _ _ _ h.th (by omega)⟩))) gL_law_X9_held rfl rfl rfl rfl (by decide) ⟨rfl, by decide, by decide, (by decide +kernel : (parseMethodDescriptor yX9_held.desc).map (fun d => d.parameters.length) = some 2)⟩ (by decide) (by decide) rfl (Nat.le_of_ble_eq_true rfl) dL_law_441 (fun r1 v1 h1 => ?_)
  refine q_aload_n o dL_law_444 rfl ?_
  refine q_aload_n o dL_law_445 rfl ?_
  refine q_iload_n o dL_law_446 rfl ?_
  refine q_iconst o dL_law_447 (x := nI 1) (by decide) ?_
  refine q_iadd o dL_law_448 ?_
  refine q_sld o hX hbl hbA (by omega) (4 * j + 1) (by omega) (n4 j 1) dL_law_449 ?_
  refine q_aload_n o dL_law_450 rfl ?_
  refine q_iload_n o dL_law_451 rfl ?_
  refine q_iconst o dL_law_452 (x := nI 2) (by decide) ?_
  refine q_iadd o dL_law_453 ?_
  refine q_sld o hX hbl hbA (by omega) (4 * j + 2) (by omega) (n4 j 2) dL_law_454 ?_
  refine q_callV o [.int (ys (4 * j + 1)), .int (ys (4 * j + 2))] (ad_X10_held l G (ys (4 * j + 1)) (ys (4 * j + 2)) _ h1) gL_law_X10_held rfl rfl rfl rfl (by decide) ⟨rfl, by decide, by decide, (by decide +kernel : (parseMethodDescriptor yX10_held.desc).map (fun d => d.parameters.length) = some 2)⟩ (by decide) (by decide) rfl (Nat.le_of_ble_eq_true rfl) dL_law_455 (fun r2 v2 h2 => ?_)
  exact q_ic_eq o 694 dL_law_458 (by decide) (fun _ => h2.2) (fun c => absurd h2.1 c)
set_option maxHeartbeats 4000000 in
set_option maxRecDepth 100000 in
theorem lc_from {l : Launch} {G : Geo} {X : CT} {b Ln j N K P L C : Nat} {ys : Nat → Int32} {x m : St3} (E : LE G X b Ln ys) (hj : 4 * j + 4 ≤ Ln) (h : RX N K P L C x m) (nx : ∀ (N' K' P' L' C' : Nat) (x' m' : St3), RX N' K' P' L' C' x' m' → C' ≤ C + 50 → J l G X 694 (LV G b j) [] (gl x' m')) : J l G X 463 (LV G b j) [] (gl x m) := by
  obtain ⟨o, hX, hbl, hbA, hL⟩ := E
  refine q_aload_n o dL_law_463 rfl ?_
  refine q_aload_n o dL_law_464 rfl ?_
  refine q_iload_n o dL_law_465 rfl ?_
  refine q_iconst o dL_law_466 (x := nI 1) (by decide) ?_
  refine q_iadd o dL_law_467 ?_
  refine q_sld o hX hbl hbA (by omega) (4 * j + 1) (by omega) (n4 j 1) dL_law_468 ?_
  refine q_aload_n o dL_law_469 rfl ?_
  refine q_iload_n o dL_law_470 rfl ?_
  refine q_iconst o dL_law_471 (x := nI 2) (by decide) ?_
  refine q_iadd o dL_law_472 ?_
  refine q_sld o hX hbl hbA (by omega) (4 * j + 2) (by omega) (n4 j 2) dL_law_473 ?_
  refine q_aload_n o dL_law_474 rfl ?_
  refine q_iload_n o dL_law_475 rfl ?_
  refine q_iconst o dL_law_476 (x := nI 3) (by decide) ?_
  refine q_iadd o dL_law_477 ?_
  refine q_sld o hX hbl hbA (by omega) (4 * j + 3) (by omega) (n4 j 3) dL_law_478 ?_
  refine q_callV o [.int (ys (4 * j + 1)), .int (ys (4 * j + 2)), .int (ys (4 * j + 3))] (ad_X9_from l G (ys (4 * j + 1)) (ys (4 * j + 2)) (ys (4 * j + 3)) _ (A_from (Q := fun r1 r2 v2 => r1 = r2 ∧ J l G X 694 (LV G b j) [] v2) h (fun r => ⟨rfl, nx _ _ _ _ _ _ _ h.th (by omega)⟩))) gL_law_X9_from rfl rfl rfl rfl (by decide) ⟨rfl, by decide, by decide, (by decide +kernel : (parseMethodDescriptor yX9_from.desc).map (fun d => d.parameters.length) = some 3)⟩ (by decide) (by decide) rfl (Nat.le_of_ble_eq_true rfl) dL_law_479 (fun r1 v1 h1 => ?_)
  refine q_aload_n o dL_law_482 rfl ?_
  refine q_aload_n o dL_law_483 rfl ?_
  refine q_iload_n o dL_law_484 rfl ?_
  refine q_iconst o dL_law_485 (x := nI 1) (by decide) ?_
  refine q_iadd o dL_law_486 ?_
  refine q_sld o hX hbl hbA (by omega) (4 * j + 1) (by omega) (n4 j 1) dL_law_487 ?_
  refine q_aload_n o dL_law_488 rfl ?_
  refine q_iload_n o dL_law_489 rfl ?_
  refine q_iconst o dL_law_490 (x := nI 2) (by decide) ?_
  refine q_iadd o dL_law_491 ?_
  refine q_sld o hX hbl hbA (by omega) (4 * j + 2) (by omega) (n4 j 2) dL_law_492 ?_
  refine q_aload_n o dL_law_493 rfl ?_
  refine q_iload_n o dL_law_494 rfl ?_
  refine q_iconst o dL_law_495 (x := nI 3) (by decide) ?_
  refine q_iadd o dL_law_496 ?_
  refine q_sld o hX hbl hbA (by omega) (4 * j + 3) (by omega) (n4 j 3) dL_law_497 ?_
  refine q_callV o [.int (ys (4 * j + 1)), .int (ys (4 * j + 2)), .int (ys (4 * j + 3))] (ad_X10_from l G (ys (4 * j + 1)) (ys (4 * j + 2)) (ys (4 * j + 3)) _ h1) gL_law_X10_from rfl rfl rfl rfl (by decide) ⟨rfl, by decide, by decide, (by decide +kernel : (parseMethodDescriptor yX10_from.desc).map (fun d => d.parameters.length) = some 3)⟩ (by decide) (by decide) rfl (Nat.le_of_ble_eq_true rfl) dL_law_498 (fun r2 v2 h2 => ?_)
  exact q_ic_eq o 694 dL_law_501 (by decide) (fun _ => h2.2) (fun c => absurd h2.1 c)
set_option maxHeartbeats 4000000 in
set_option maxRecDepth 100000 in
theorem lc_got {l : Launch} {G : Geo} {X : CT} {b Ln j N K P L C : Nat} {ys : Nat → Int32} {x m : St3} (E : LE G X b Ln ys) (hj : 4 * j + 4 ≤ Ln) (h : RX N K P L C x m) (nx : ∀ (N' K' P' L' C' : Nat) (x' m' : St3), RX N' K' P' L' C' x' m' → C' ≤ C + 50 → J l G X 694 (LV G b j) [] (gl x' m')) : J l G X 506 (LV G b j) [] (gl x m) := by
  obtain ⟨o, hX, hbl, hbA, hL⟩ := E
  refine q_aload_n o dL_law_506 rfl ?_
  refine q_aload_n o dL_law_507 rfl ?_
  refine q_iload_n o dL_law_508 rfl ?_
  refine q_iconst o dL_law_509 (x := nI 1) (by decide) ?_
  refine q_iadd o dL_law_510 ?_
  refine q_sld o hX hbl hbA (by omega) (4 * j + 1) (by omega) (n4 j 1) dL_law_511 ?_
  refine q_aload_n o dL_law_512 rfl ?_
  refine q_iload_n o dL_law_513 rfl ?_
  refine q_iconst o dL_law_514 (x := nI 2) (by decide) ?_
  refine q_iadd o dL_law_515 ?_
  refine q_sld o hX hbl hbA (by omega) (4 * j + 2) (by omega) (n4 j 2) dL_law_516 ?_
  refine q_aload_n o dL_law_517 rfl ?_
  refine q_iload_n o dL_law_518 rfl ?_
  refine q_iconst o dL_law_519 (x := nI 3) (by decide) ?_
  refine q_iadd o dL_law_520 ?_
  refine q_sld o hX hbl hbA (by omega) (4 * j + 3) (by omega) (n4 j 3) dL_law_521 ?_
  refine q_callV o [.int (ys (4 * j + 1)), .int (ys (4 * j + 2)), .int (ys (4 * j + 3))] (ad_X9_got l G (ys (4 * j + 1)) (ys (4 * j + 2)) (ys (4 * j + 3)) _ (A_got (Q := fun r1 r2 v2 => r1 = r2 ∧ J l G X 694 (LV G b j) [] v2) h (fun r => ⟨rfl, nx _ _ _ _ _ _ _ h.th (by omega)⟩))) gL_law_X9_got rfl rfl rfl rfl (by decide) ⟨rfl, by decide, by decide, (by decide +kernel : (parseMethodDescriptor yX9_got.desc).map (fun d => d.parameters.length) = some 3)⟩ (by decide) (by decide) rfl (Nat.le_of_ble_eq_true rfl) dL_law_522 (fun r1 v1 h1 => ?_)
  refine q_aload_n o dL_law_525 rfl ?_
  refine q_aload_n o dL_law_526 rfl ?_
  refine q_iload_n o dL_law_527 rfl ?_
  refine q_iconst o dL_law_528 (x := nI 1) (by decide) ?_
  refine q_iadd o dL_law_529 ?_
  refine q_sld o hX hbl hbA (by omega) (4 * j + 1) (by omega) (n4 j 1) dL_law_530 ?_
  refine q_aload_n o dL_law_531 rfl ?_
  refine q_iload_n o dL_law_532 rfl ?_
  refine q_iconst o dL_law_533 (x := nI 2) (by decide) ?_
  refine q_iadd o dL_law_534 ?_
  refine q_sld o hX hbl hbA (by omega) (4 * j + 2) (by omega) (n4 j 2) dL_law_535 ?_
  refine q_aload_n o dL_law_536 rfl ?_
  refine q_iload_n o dL_law_537 rfl ?_
  refine q_iconst o dL_law_538 (x := nI 3) (by decide) ?_
  refine q_iadd o dL_law_539 ?_
  refine q_sld o hX hbl hbA (by omega) (4 * j + 3) (by omega) (n4 j 3) dL_law_540 ?_
  refine q_callV o [.int (ys (4 * j + 1)), .int (ys (4 * j + 2)), .int (ys (4 * j + 3))] (ad_X10_got l G (ys (4 * j + 1)) (ys (4 * j + 2)) (ys (4 * j + 3)) _ h1) gL_law_X10_got rfl rfl rfl rfl (by decide) ⟨rfl, by decide, by decide, (by decide +kernel : (parseMethodDescriptor yX10_got.desc).map (fun d => d.parameters.length) = some 3)⟩ (by decide) (by decide) rfl (Nat.le_of_ble_eq_true rfl) dL_law_541 (fun r2 v2 h2 => ?_)
  exact q_ic_eq o 694 dL_law_544 (by decide) (fun _ => h2.2) (fun c => absurd h2.1 c)
set_option maxHeartbeats 4000000 in
set_option maxRecDepth 100000 in
theorem lc_rare {l : Launch} {G : Geo} {X : CT} {b Ln j N K P L C : Nat} {ys : Nat → Int32} {x m : St3} (E : LE G X b Ln ys) (hj : 4 * j + 4 ≤ Ln) (h : RX N K P L C x m) (nx : ∀ (N' K' P' L' C' : Nat) (x' m' : St3), RX N' K' P' L' C' x' m' → C' ≤ C + 50 → J l G X 694 (LV G b j) [] (gl x' m')) : J l G X 549 (LV G b j) [] (gl x m) := by
  obtain ⟨o, hX, hbl, hbA, hL⟩ := E
  refine q_aload_n o dL_law_549 rfl ?_
  refine q_aload_n o dL_law_550 rfl ?_
  refine q_iload_n o dL_law_551 rfl ?_
  refine q_iconst o dL_law_552 (x := nI 1) (by decide) ?_
  refine q_iadd o dL_law_553 ?_
  refine q_sld o hX hbl hbA (by omega) (4 * j + 1) (by omega) (n4 j 1) dL_law_554 ?_
  refine q_aload_n o dL_law_555 rfl ?_
  refine q_iload_n o dL_law_556 rfl ?_
  refine q_iconst o dL_law_557 (x := nI 2) (by decide) ?_
  refine q_iadd o dL_law_558 ?_
  refine q_sld o hX hbl hbA (by omega) (4 * j + 2) (by omega) (n4 j 2) dL_law_559 ?_
  refine q_callV o [.int (ys (4 * j + 1)), .int (ys (4 * j + 2))] (ad_X9_rare l G (ys (4 * j + 1)) (ys (4 * j + 2)) _ (A_rare (Q := fun r1 r2 v2 => r1 = r2 ∧ J l G X 694 (LV G b j) [] v2) h (fun r => ⟨rfl, nx _ _ _ _ _ _ _ h.th (by omega)⟩))) gL_law_X9_rare rfl rfl rfl rfl (by decide) ⟨rfl, by decide, by decide, (by decide +kernel : (parseMethodDescriptor yX9_rare.desc).map (fun d => d.parameters.length) = some 2)⟩ (by decide) (by decide) rfl (Nat.le_of_ble_eq_true rfl) dL_law_560 (fun r1 v1 h1 => ?_)
  refine q_aload_n o dL_law_563 rfl ?_
  refine q_aload_n o dL_law_564 rfl ?_
  refine q_iload_n o dL_law_565 rfl ?_
  refine q_iconst o dL_law_566 (x := nI 1) (by decide) ?_
  refine q_iadd o dL_law_567 ?_
  refine q_sld o hX hbl hbA (by omega) (4 * j + 1) (by omega) (n4 j 1) dL_law_568 ?_
  refine q_aload_n o dL_law_569 rfl ?_
  refine q_iload_n o dL_law_570 rfl ?_
  refine q_iconst o dL_law_571 (x := nI 2) (by decide) ?_
  refine q_iadd o dL_law_572 ?_
  refine q_sld o hX hbl hbA (by omega) (4 * j + 2) (by omega) (n4 j 2) dL_law_573 ?_
  refine q_callV o [.int (ys (4 * j + 1)), .int (ys (4 * j + 2))] (ad_X10_rare l G (ys (4 * j + 1)) (ys (4 * j + 2)) _ h1) gL_law_X10_rare rfl rfl rfl rfl (by decide) ⟨rfl, by decide, by decide, (by decide +kernel : (parseMethodDescriptor yX10_rare.desc).map (fun d => d.parameters.length) = some 2)⟩ (by decide) (by decide) rfl (Nat.le_of_ble_eq_true rfl) dL_law_574 (fun r2 v2 h2 => ?_)
  exact q_ic_eq o 694 dL_law_577 (by decide) (fun _ => h2.2) (fun c => absurd h2.1 c)
set_option maxHeartbeats 4000000 in
set_option maxRecDepth 100000 in
theorem lc_pair {l : Launch} {G : Geo} {X : CT} {b Ln j N K P L C : Nat} {ys : Nat → Int32} {x m : St3} (E : LE G X b Ln ys) (hj : 4 * j + 4 ≤ Ln) (h : RX N K P L C x m) (nx : ∀ (N' K' P' L' C' : Nat) (x' m' : St3), RX N' K' P' L' C' x' m' → C' ≤ C + 50 → J l G X 694 (LV G b j) [] (gl x' m')) : J l G X 582 (LV G b j) [] (gl x m) := by
  obtain ⟨o, hX, hbl, hbA, hL⟩ := E
  refine q_aload_n o dL_law_582 rfl ?_
  refine q_aload_n o dL_law_583 rfl ?_
  refine q_iload_n o dL_law_584 rfl ?_
  refine q_iconst o dL_law_585 (x := nI 1) (by decide) ?_
  refine q_iadd o dL_law_586 ?_
  refine q_sld o hX hbl hbA (by omega) (4 * j + 1) (by omega) (n4 j 1) dL_law_587 ?_
  refine q_aload_n o dL_law_588 rfl ?_
  refine q_iload_n o dL_law_589 rfl ?_
  refine q_iconst o dL_law_590 (x := nI 2) (by decide) ?_
  refine q_iadd o dL_law_591 ?_
  refine q_sld o hX hbl hbA (by omega) (4 * j + 2) (by omega) (n4 j 2) dL_law_592 ?_
  refine q_aload_n o dL_law_593 rfl ?_
  refine q_iload_n o dL_law_594 rfl ?_
  refine q_iconst o dL_law_595 (x := nI 3) (by decide) ?_
  refine q_iadd o dL_law_596 ?_
  refine q_sld o hX hbl hbA (by omega) (4 * j + 3) (by omega) (n4 j 3) dL_law_597 ?_
  refine q_callV o [.int (ys (4 * j + 1)), .int (ys (4 * j + 2)), .int (ys (4 * j + 3))] (ad_X9_pair l G (ys (4 * j + 1)) (ys (4 * j + 2)) (ys (4 * j + 3)) _ (A_pair (Q := fun r1 r2 v2 => r1 = r2 ∧ J l G X 694 (LV G b j) [] v2) h (fun r => ⟨rfl, nx _ _ _ _ _ _ _ h.th (by omega)⟩))) gL_law_X9_pair rfl rfl rfl rfl (by decide) ⟨rfl, by decide, by decide, (by decide +kernel : (parseMethodDescriptor yX9_pair.desc).map (fun d => d.parameters.length) = some 3)⟩ (by decide) (by decide) rfl (Nat.le_of_ble_eq_true rfl) dL_law_598 (fun r1 v1 h1 => ?_)
  refine q_aload_n o dL_law_601 rfl ?_
  refine q_aload_n o dL_law_602 rfl ?_
  refine q_iload_n o dL_law_603 rfl ?_
  refine q_iconst o dL_law_604 (x := nI 1) (by decide) ?_
  refine q_iadd o dL_law_605 ?_
  refine q_sld o hX hbl hbA (by omega) (4 * j + 1) (by omega) (n4 j 1) dL_law_606 ?_
  refine q_aload_n o dL_law_607 rfl ?_
  refine q_iload_n o dL_law_608 rfl ?_
  refine q_iconst o dL_law_609 (x := nI 2) (by decide) ?_
  refine q_iadd o dL_law_610 ?_
  refine q_sld o hX hbl hbA (by omega) (4 * j + 2) (by omega) (n4 j 2) dL_law_611 ?_
  refine q_aload_n o dL_law_612 rfl ?_
  refine q_iload_n o dL_law_613 rfl ?_
  refine q_iconst o dL_law_614 (x := nI 3) (by decide) ?_
  refine q_iadd o dL_law_615 ?_
  refine q_sld o hX hbl hbA (by omega) (4 * j + 3) (by omega) (n4 j 3) dL_law_616 ?_
  refine q_callV o [.int (ys (4 * j + 1)), .int (ys (4 * j + 2)), .int (ys (4 * j + 3))] (ad_X10_pair l G (ys (4 * j + 1)) (ys (4 * j + 2)) (ys (4 * j + 3)) _ h1) gL_law_X10_pair rfl rfl rfl rfl (by decide) ⟨rfl, by decide, by decide, (by decide +kernel : (parseMethodDescriptor yX10_pair.desc).map (fun d => d.parameters.length) = some 3)⟩ (by decide) (by decide) rfl (Nat.le_of_ble_eq_true rfl) dL_law_617 (fun r2 v2 h2 => ?_)
  exact q_ic_eq o 694 dL_law_620 (by decide) (fun _ => h2.2) (fun c => absurd h2.1 c)
set_option maxHeartbeats 4000000 in
set_option maxRecDepth 100000 in
theorem lc_alone {l : Launch} {G : Geo} {X : CT} {b Ln j N K P L C : Nat} {ys : Nat → Int32} {x m : St3} (E : LE G X b Ln ys) (hj : 4 * j + 4 ≤ Ln) (h : RX N K P L C x m) (nx : ∀ (N' K' P' L' C' : Nat) (x' m' : St3), RX N' K' P' L' C' x' m' → C' ≤ C + 50 → J l G X 694 (LV G b j) [] (gl x' m')) : J l G X 625 (LV G b j) [] (gl x m) := by
  obtain ⟨o, hX, hbl, hbA, hL⟩ := E
  refine q_aload_n o dL_law_625 rfl ?_
  refine q_aload_n o dL_law_626 rfl ?_
  refine q_iload_n o dL_law_627 rfl ?_
  refine q_iconst o dL_law_628 (x := nI 1) (by decide) ?_
  refine q_iadd o dL_law_629 ?_
  refine q_sld o hX hbl hbA (by omega) (4 * j + 1) (by omega) (n4 j 1) dL_law_630 ?_
  refine q_callV o [.int (ys (4 * j + 1))] (ad_X9_alone l G (ys (4 * j + 1)) _ (A_alone (Q := fun r1 r2 v2 => r1 = r2 ∧ J l G X 694 (LV G b j) [] v2) h (fun r => ⟨rfl, nx _ _ _ _ _ _ _ h.th (by omega)⟩))) gL_law_X9_alone rfl rfl rfl rfl (by decide) ⟨rfl, by decide, by decide, (by decide +kernel : (parseMethodDescriptor yX9_alone.desc).map (fun d => d.parameters.length) = some 1)⟩ (by decide) (by decide) rfl (Nat.le_of_ble_eq_true rfl) dL_law_631 (fun r1 v1 h1 => ?_)
  refine q_aload_n o dL_law_634 rfl ?_
  refine q_aload_n o dL_law_635 rfl ?_
  refine q_iload_n o dL_law_636 rfl ?_
  refine q_iconst o dL_law_637 (x := nI 1) (by decide) ?_
  refine q_iadd o dL_law_638 ?_
  refine q_sld o hX hbl hbA (by omega) (4 * j + 1) (by omega) (n4 j 1) dL_law_639 ?_
  refine q_callV o [.int (ys (4 * j + 1))] (ad_X10_alone l G (ys (4 * j + 1)) _ h1) gL_law_X10_alone rfl rfl rfl rfl (by decide) ⟨rfl, by decide, by decide, (by decide +kernel : (parseMethodDescriptor yX10_alone.desc).map (fun d => d.parameters.length) = some 1)⟩ (by decide) (by decide) rfl (Nat.le_of_ble_eq_true rfl) dL_law_640 (fun r2 v2 h2 => ?_)
  exact q_ic_eq o 694 dL_law_643 (by decide) (fun _ => h2.2) (fun c => absurd h2.1 c)
set_option maxHeartbeats 4000000 in
set_option maxRecDepth 100000 in
theorem lc_bound {l : Launch} {G : Geo} {X : CT} {b Ln j N K P L C : Nat} {ys : Nat → Int32} {x m : St3} (E : LE G X b Ln ys) (hj : 4 * j + 4 ≤ Ln) (h : RX N K P L C x m) (nx : ∀ (N' K' P' L' C' : Nat) (x' m' : St3), RX N' K' P' L' C' x' m' → C' ≤ C + 50 → J l G X 694 (LV G b j) [] (gl x' m')) : J l G X 648 (LV G b j) [] (gl x m) := by
  obtain ⟨o, hX, hbl, hbA, hL⟩ := E
  refine q_aload_n o dL_law_648 rfl ?_
  refine q_aload_n o dL_law_649 rfl ?_
  refine q_iload_n o dL_law_650 rfl ?_
  refine q_iconst o dL_law_651 (x := nI 1) (by decide) ?_
  refine q_iadd o dL_law_652 ?_
  refine q_sld o hX hbl hbA (by omega) (4 * j + 1) (by omega) (n4 j 1) dL_law_653 ?_
  refine q_callV o [.int (ys (4 * j + 1))] (ad_X9_bound l G (ys (4 * j + 1)) _ (A_bound (Q := fun r1 r2 v2 => r1 = r2 ∧ J l G X 694 (LV G b j) [] v2) h (fun r => ⟨rfl, nx _ _ _ _ _ _ _ h.th (by omega)⟩))) gL_law_X9_bound rfl rfl rfl rfl (by decide) ⟨rfl, by decide, by decide, (by decide +kernel : (parseMethodDescriptor yX9_bound.desc).map (fun d => d.parameters.length) = some 1)⟩ (by decide) (by decide) rfl (Nat.le_of_ble_eq_true rfl) dL_law_654 (fun r1 v1 h1 => ?_)
  refine q_aload_n o dL_law_657 rfl ?_
  refine q_aload_n o dL_law_658 rfl ?_
  refine q_iload_n o dL_law_659 rfl ?_
  refine q_iconst o dL_law_660 (x := nI 1) (by decide) ?_
  refine q_iadd o dL_law_661 ?_
  refine q_sld o hX hbl hbA (by omega) (4 * j + 1) (by omega) (n4 j 1) dL_law_662 ?_
  refine q_callV o [.int (ys (4 * j + 1))] (ad_X10_bound_ l G (ys (4 * j + 1)) _ h1) gL_law_X10_bound_ rfl rfl rfl rfl (by decide) ⟨rfl, by decide, by decide, (by decide +kernel : (parseMethodDescriptor yX10_bound_.desc).map (fun d => d.parameters.length) = some 1)⟩ (by decide) (by decide) rfl (Nat.le_of_ble_eq_true rfl) dL_law_663 (fun r2 v2 h2 => ?_)
  exact q_ic_eq o 694 dL_law_666 (by decide) (fun _ => h2.2) (fun c => absurd h2.1 c)
set_option maxHeartbeats 4000000 in
set_option maxRecDepth 100000 in
theorem lc_count {l : Launch} {G : Geo} {X : CT} {b Ln j N K P L C : Nat} {ys : Nat → Int32} {x m : St3} (E : LE G X b Ln ys) (hj : 4 * j + 4 ≤ Ln) (h : RX N K P L C x m) (nx : ∀ (N' K' P' L' C' : Nat) (x' m' : St3), RX N' K' P' L' C' x' m' → C' ≤ C + 50 → J l G X 694 (LV G b j) [] (gl x' m')) : J l G X 671 (LV G b j) [] (gl x m) := by
  obtain ⟨o, hX, hbl, hbA, hL⟩ := E
  refine q_aload_n o dL_law_671 rfl ?_
  refine q_aload_n o dL_law_672 rfl ?_
  refine q_iload_n o dL_law_673 rfl ?_
  refine q_iconst o dL_law_674 (x := nI 1) (by decide) ?_
  refine q_iadd o dL_law_675 ?_
  refine q_sld o hX hbl hbA (by omega) (4 * j + 1) (by omega) (n4 j 1) dL_law_676 ?_
  refine q_callV o [.int (ys (4 * j + 1))] (ad_X9_count l G (ys (4 * j + 1)) _ (A_count (Q := fun r1 r2 v2 => r1 = r2 ∧ J l G X 694 (LV G b j) [] v2) h (fun r => ⟨rfl, nx _ _ _ _ _ _ _ h.th (by omega)⟩))) gL_law_X9_count rfl rfl rfl rfl (by decide) ⟨rfl, by decide, by decide, (by decide +kernel : (parseMethodDescriptor yX9_count.desc).map (fun d => d.parameters.length) = some 1)⟩ (by decide) (by decide) rfl (Nat.le_of_ble_eq_true rfl) dL_law_677 (fun r1 v1 h1 => ?_)
  refine q_aload_n o dL_law_680 rfl ?_
  refine q_aload_n o dL_law_681 rfl ?_
  refine q_iload_n o dL_law_682 rfl ?_
  refine q_iconst o dL_law_683 (x := nI 1) (by decide) ?_
  refine q_iadd o dL_law_684 ?_
  refine q_sld o hX hbl hbA (by omega) (4 * j + 1) (by omega) (n4 j 1) dL_law_685 ?_
  refine q_callV o [.int (ys (4 * j + 1))] (ad_X10_count_ l G (ys (4 * j + 1)) _ h1) gL_law_X10_count_ rfl rfl rfl rfl (by decide) ⟨rfl, by decide, by decide, (by decide +kernel : (parseMethodDescriptor yX10_count_.desc).map (fun d => d.parameters.length) = some 1)⟩ (by decide) (by decide) rfl (Nat.le_of_ble_eq_true rfl) dL_law_686 (fun r2 v2 h2 => ?_)
  exact q_ic_eq o 694 dL_law_689 (by decide) (fun _ => h2.2) (fun c => absurd h2.1 c)
theorem s4 {a Ln : Nat} (hL : Ln ≤ 2048) (ha : a ≤ 4096) : nI Ln - 4 < nI a ↔ Ln < a + 4 := by
  rcases Nat.lt_or_ge Ln 4 with q | q
  · have e : nI Ln - 4 < 0 := by
      rcases (show Ln = 0 ∨ Ln = 1 ∨ Ln = 2 ∨ Ln = 3 by omega) with rfl | rfl | rfl | rfl <;> decide
    refine ⟨fun _ => by omega, fun _ => ?_⟩
    rw [Int32.lt_iff_toInt_lt, Int32.toInt_zero] at e
    rw [Int32.lt_iff_toInt_lt, nI_toInt (n := a) (by omega)]
    omega
  · have e : nI Ln - 4 = nI (Ln - 4) := by
      have e1 : nI (Ln - 4) + nI 4 = nI Ln := by rw [nI_add, Nat.sub_add_cancel q]
      rw [← e1]
      show nI (Ln - 4) + nI 4 - nI 4 = _
      exact Int32.add_sub_cancel _ _
    rw [e, nI_ltI (by omega) (by omega)]
    omega
set_option maxHeartbeats 4000000 in
set_option maxRecDepth 100000 in
/-- the law's loop -/
theorem law_loop {l : Launch} {G : Geo} {X : CT} {b Ln : Nat} {ys : Nat → Int32} (E : LE G X b Ln ys) (fin : ∀ (j : Nat) (v : St3), J l G X 701 (LV G b j) [.int 1] v) : ∀ (n j N K P L C : Nat) (x m : St3), 4 * j ≤ Ln → Ln < 4 * j + 4 * n → RX N K P L C x m → C ≤ 50 * j → J l G X 18 (LV G b j) [] (gl x m)
  | 0, j, _, _, _, _, _, _, _, hj, hn, _, _ => absurd hn (by omega)
  | n + 1, j, N, K, P, L, C, x, m, hj, hn, h, hC => by
    obtain ⟨o, hX, hbl, hbA, hL⟩ := id E
    refine q_iload_n o dL_law_18 rfl ?_
    refine q_aload_n o dL_law_19 rfl ?_
    refine q_slen o hX hbl hbA dL_law_20 ?_
    refine q_iconst o dL_law_21 (x := 4) (by decide) ?_
    refine q_isub o dL_law_22 ?_
    refine q_ic_gt o 700 dL_law_23 (by decide) (fun c => ?_) (fun c => ?_)
    · refine q_iconst o dL_law_700 (x := 1) (by decide) ?_
      exact fin j _
    · rw [s4 hL (by omega)] at c
      have hj4 : 4 * j + 4 ≤ Ln := by omega
      have nx : ∀ (N' K' P' L' C' : Nat) (x' m' : St3), RX N' K' P' L' C' x' m' → C' ≤ C + 50 → J l G X 694 (LV G b j) [] (gl x' m') := fun N' K' P' L' C' x' m' k1 k2 => by
        refine q_iinc o (y := nI (4 * (j + 1))) dL_law_694 rfl (by rw [show 4 * (j + 1) = 4 * j + 4 by omega]; exact n4 j 4) (by decide) (lv' := LV G b (j + 1)) rfl ?_
        refine q_goto o 18 dL_law_697 (by decide) ?_
        exact law_loop E fin n (j + 1) N' K' P' L' C' x' m' (by omega) (by omega) k1 (by omega)
      refine q_aload_n o dL_law_26 rfl ?_
      refine q_iload_n o dL_law_27 rfl ?_
      refine q_sld o hX hbl hbA (by omega) (4 * j) (by omega) rfl dL_law_28 ?_
      refine q_bipush o dL_law_29 (x := 31) (by decide) ?_
      refine q_iand o dL_law_31 ?_
      refine q_tab o [120, 163, 196, 219, 262, 295, 328, 351, 374, 397, 430, 463, 506, 549, 582, 625, 648, 671] 694 dL_law_32 rfl rfl (by decide) (by decide +kernel) (by decide) (fun a ha _ => ?_) (fun _ => nx N K P L C x m h (by omega))
      rcases (show a = 0 ∨ a = 1 ∨ a = 2 ∨ a = 3 ∨ a = 4 ∨ a = 5 ∨ a = 6 ∨ a = 7 ∨ a = 8 ∨ a = 9 ∨ a = 10 ∨ a = 11 ∨ a = 12 ∨ a = 13 ∨ a = 14 ∨ a = 15 ∨ a = 16 ∨ a = 17 by have := ha; simp only [List.length_cons, List.length_nil] at this; omega) with rfl | rfl | rfl | rfl | rfl | rfl | rfl | rfl | rfl | rfl | rfl | rfl | rfl | rfl | rfl | rfl | rfl | rfl
      · exact lc_file E hj4 h nx
      · exact lc_value E hj4 h nx
      · exact lc_sum E hj4 h nx
      · exact lc_peer E hj4 h nx
      · exact lc_often E hj4 h nx
      · exact lc_meet E hj4 h nx
      · exact lc_leave E hj4 h nx
      · exact lc_join E hj4 h nx
      · exact lc_tick E hj4 h (by omega) nx
      · exact lc_about E hj4 h nx
      · exact lc_held E hj4 h nx
      · exact lc_from E hj4 h nx
      · exact lc_got E hj4 h nx
      · exact lc_rare E hj4 h nx
      · exact lc_pair E hj4 h nx
      · exact lc_alone E hj4 h nx
      · exact lc_bound E hj4 h nx
      · exact lc_count E hj4 h nx
