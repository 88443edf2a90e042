/-! the law's loop -/
theorem r_sl {X : Fr} {cc : ByteArray} {own : String} {d : Nat} {S : St} {pc : Nat} {lv st : List Value} {b L i : Nat} {f : Nat → Int32} (c : Nat) (h : Ok X cc own d) (hX : va_X b L f (xs X) (xs X).heap) (hbl : b < (xs X).heap.size) (hbA : ¬ fA (xw X) b) (hL : L ≤ 3072) (hi : i + c < L) (dg : decode cc pc = .ok (.iaload, 1)) (k : Wx X S (pc + 1) lv (.int (f (i + c)) :: st)) : Wx X S pc lv (.int (nI i + nI c) :: .ref b :: st) := by
  intro H locs ls hP hS hl
  rw [nI_add]
  refine va_sld h.1 h.2.1 hX hbl hbA hS (vp_in_nI hi (by omega)) dg ?_
  rw [ncl (by omega)]
  exact k H locs ls hP hS hl
theorem r_sl0 {X : Fr} {cc : ByteArray} {own : String} {d : Nat} {S : St} {pc : Nat} {lv st : List Value} {b L i : Nat} {f : Nat → Int32} (h : Ok X cc own d) (hX : va_X b L f (xs X) (xs X).heap) (hbl : b < (xs X).heap.size) (hbA : ¬ fA (xw X) b) (hL : L ≤ 3072) (hi : i < L) (dg : decode cc pc = .ok (.iaload, 1)) (k : Wx X S (pc + 1) lv (.int (f i) :: st)) : Wx X S pc lv (.int (nI i) :: .ref b :: st) := by
  intro H locs ls hP hS hl
  refine va_sld h.1 h.2.1 hX hbl hbA hS (vp_in_nI hi (by omega)) dg ?_
  rw [ncl (by omega)]
  exact k H locs ls hP hS hl
theorem r_slen {X : Fr} {cc : ByteArray} {own : String} {d : Nat} {S : St} {pc : Nat} {lv st : List Value} {b L : Nat} {f : Nat → Int32} (h : Ok X cc own d) (hX : va_X b L f (xs X) (xs X).heap) (hbl : b < (xs X).heap.size) (hbA : ¬ fA (xw X) b) (dg : decode cc pc = .ok (.arraylength, 1)) (k : Wx X S (pc + 1) lv (.int (nI L) :: st)) : Wx X S pc lv (.ref b :: st) := fun H locs ls hP hS hl => va_slen h.1 h.2.1 hX hbl hbA hS dg (k H locs ls hP hS hl)
set_option maxRecDepth 100000 in
set_option maxHeartbeats 4000000 in
theorem law_point {X : Fr} {b L i : Nat} {f : Nat → Int32} {S : St} (h : Ok X cL_law RL 2000) (hX : va_X b L f (xs X) (xs X).heap) (hbl : b < (xs X).heap.size) (hbA : ¬ fA (xw X) b) (hL : L ≤ 3072) (hi : i + 6 ≤ L) (hI : Inv S) (k : ∀ T, Inv T → Wx X T 905 [.ref b, .ref (aD (xw X) 0), .ref (aD (xw X) 23), .int (nI i)] []) : Wx X S 124 [.ref b, .ref (aD (xw X) 0), .ref (aD (xw X) 23), .int (nI i)] [] := by
  refine r_aload_n 1 h dL_law_124 rfl rfl ?_
  refine r_aload_n 0 h dL_law_125 rfl rfl ?_
  refine r_iload_n 3 h dL_law_126 rfl rfl ?_
  refine r_iconst 1 h dL_law_127 (by decide) ?_
  refine r_iadd h dL_law_128 ?_
  show Wx _ _ 129 _ _
  refine r_sl 1 h hX hbl hbA hL (by omega) dL_law_129 ?_
  refine r_aload_n 0 h dL_law_130 rfl rfl ?_
  refine r_iload_n 3 h dL_law_131 rfl rfl ?_
  refine r_iconst 2 h dL_law_132 (by decide) ?_
  refine r_iadd h dL_law_133 ?_
  refine r_sl 2 h hX hbl hbA hL (by omega) dL_law_134 ?_
  show Wx _ _ 135 _ _
  refine r_aload_n 0 h dL_law_135 rfl rfl ?_
  refine r_iload_n 3 h dL_law_136 rfl rfl ?_
  refine r_iconst 3 h dL_law_137 (by decide) ?_
  refine r_iadd h dL_law_138 ?_
  refine r_sl 3 h hX hbl hbA hL (by omega) dL_law_139 ?_
  refine cV3 h (mX6_point _ _ _ (f (i + 1)) (f (i + 2)) (f (i + 3))) kX6_point lm_L_13 (by decide) 0 (pl_0 _ _) rfl (Nat.le_of_ble_eq_true rfl) dL_law_140 ?_
  show Wx _ _ 143 _ _
  refine r_aload_n 2 h dL_law_143 rfl rfl ?_
  refine r_aload_n 0 h dL_law_144 rfl rfl ?_
  refine r_iload_n 3 h dL_law_145 rfl rfl ?_
  refine r_iconst 1 h dL_law_146 (by decide) ?_
  refine r_iadd h dL_law_147 ?_
  refine r_sl 1 h hX hbl hbA hL (by omega) dL_law_148 ?_
  show Wx _ _ 149 _ _
  refine r_aload_n 0 h dL_law_149 rfl rfl ?_
  refine r_iload_n 3 h dL_law_150 rfl rfl ?_
  refine r_iconst 2 h dL_law_151 (by decide) ?_
  refine r_iadd h dL_law_152 ?_
  refine r_sl 2 h hX hbl hbA hL (by omega) dL_law_153 ?_
  refine r_aload_n 0 h dL_law_154 rfl rfl ?_
  show Wx _ _ 155 _ _
  refine r_iload_n 3 h dL_law_155 rfl rfl ?_
  refine r_iconst 3 h dL_law_156 (by decide) ?_
  refine r_iadd h dL_law_157 ?_
  refine r_sl 3 h hX hbl hbA hL (by omega) dL_law_158 ?_
  refine cV3 h (mX7_point _ _ _ (f (i + 1)) (f (i + 2)) (f (i + 3))) kX7_point lm_L_17 (by decide) 23 (pl_23 _ _) rfl (Nat.le_of_ble_eq_true rfl) dL_law_159 ?_
  refine r_icmp_eq_t 905 h dL_law_162 (by decide) (op_point hI (f (i + 1)) (f (i + 2)) (f (i + 3))).1 ?_
  exact k _ (op_point hI (f (i + 1)) (f (i + 2)) (f (i + 3))).2
set_option maxRecDepth 100000 in
set_option maxHeartbeats 4000000 in
theorem law_take {X : Fr} {b L i : Nat} {f : Nat → Int32} {S : St} (h : Ok X cL_law RL 2000) (hX : va_X b L f (xs X) (xs X).heap) (hbl : b < (xs X).heap.size) (hbA : ¬ fA (xw X) b) (hL : L ≤ 3072) (hi : i + 6 ≤ L) (hI : Inv S) (k : ∀ T, Inv T → Wx X T 905 [.ref b, .ref (aD (xw X) 0), .ref (aD (xw X) 23), .int (nI i)] []) : Wx X S 167 [.ref b, .ref (aD (xw X) 0), .ref (aD (xw X) 23), .int (nI i)] [] := by
  refine r_aload_n 1 h dL_law_167 rfl rfl ?_
  refine r_aload_n 0 h dL_law_168 rfl rfl ?_
  refine r_iload_n 3 h dL_law_169 rfl rfl ?_
  refine r_iconst 1 h dL_law_170 (by decide) ?_
  refine r_iadd h dL_law_171 ?_
  show Wx _ _ 172 _ _
  refine r_sl 1 h hX hbl hbA hL (by omega) dL_law_172 ?_
  refine cV1 h (mX6_take _ _ _ (f (i + 1)) hI.1.1) kX6_take lm_L_18 (by decide) 0 (pl_0 _ _) rfl (Nat.le_of_ble_eq_true rfl) dL_law_173 ?_
  refine r_aload_n 2 h dL_law_176 rfl rfl ?_
  refine r_aload_n 0 h dL_law_177 rfl rfl ?_
  refine r_iload_n 3 h dL_law_178 rfl rfl ?_
  refine r_iconst 1 h dL_law_179 (by decide) ?_
  show Wx _ _ 180 _ _
  refine r_iadd h dL_law_180 ?_
  refine r_sl 1 h hX hbl hbA hL (by omega) dL_law_181 ?_
  refine cV1 h (mX7_take _ _ _ (f (i + 1))) kX7_take lm_L_22 (by decide) 23 (pl_23 _ _) rfl (Nat.le_of_ble_eq_true rfl) dL_law_182 ?_
  refine r_icmp_eq_t 905 h dL_law_185 (by decide) (op_take hI (f (i + 1))).1 ?_
  exact k _ (op_take hI (f (i + 1))).2
set_option maxRecDepth 100000 in
set_option maxHeartbeats 4000000 in
theorem law_move {X : Fr} {b L i : Nat} {f : Nat → Int32} {S : St} (h : Ok X cL_law RL 2000) (hX : va_X b L f (xs X) (xs X).heap) (hbl : b < (xs X).heap.size) (hbA : ¬ fA (xw X) b) (hL : L ≤ 3072) (hi : i + 6 ≤ L) (hI : Inv S) (k : ∀ T, Inv T → Wx X T 905 [.ref b, .ref (aD (xw X) 0), .ref (aD (xw X) 23), .int (nI i)] []) : Wx X S 190 [.ref b, .ref (aD (xw X) 0), .ref (aD (xw X) 23), .int (nI i)] [] := by
  refine r_aload_n 1 h dL_law_190 rfl rfl ?_
  refine r_aload_n 0 h dL_law_191 rfl rfl ?_
  refine r_iload_n 3 h dL_law_192 rfl rfl ?_
  refine r_iconst 1 h dL_law_193 (by decide) ?_
  refine r_iadd h dL_law_194 ?_
  show Wx _ _ 195 _ _
  refine r_sl 1 h hX hbl hbA hL (by omega) dL_law_195 ?_
  refine r_aload_n 0 h dL_law_196 rfl rfl ?_
  refine r_iload_n 3 h dL_law_197 rfl rfl ?_
  refine r_iconst 2 h dL_law_198 (by decide) ?_
  refine r_iadd h dL_law_199 ?_
  refine r_sl 2 h hX hbl hbA hL (by omega) dL_law_200 ?_
  show Wx _ _ 201 _ _
  refine r_aload_n 0 h dL_law_201 rfl rfl ?_
  refine r_iload_n 3 h dL_law_202 rfl rfl ?_
  refine r_iconst 3 h dL_law_203 (by decide) ?_
  refine r_iadd h dL_law_204 ?_
  refine r_sl 3 h hX hbl hbA hL (by omega) dL_law_205 ?_
  refine cV3 h (mX6_move _ _ _ (f (i + 1)) (f (i + 2)) (f (i + 3)) hI.1.1) kX6_move lm_L_23 (by decide) 0 (pl_0 _ _) rfl (Nat.le_of_ble_eq_true rfl) dL_law_206 ?_
  show Wx _ _ 209 _ _
  refine r_aload_n 2 h dL_law_209 rfl rfl ?_
  refine r_aload_n 0 h dL_law_210 rfl rfl ?_
  refine r_iload_n 3 h dL_law_211 rfl rfl ?_
  refine r_iconst 1 h dL_law_212 (by decide) ?_
  refine r_iadd h dL_law_213 ?_
  refine r_sl 1 h hX hbl hbA hL (by omega) dL_law_214 ?_
  show Wx _ _ 215 _ _
  refine r_aload_n 0 h dL_law_215 rfl rfl ?_
  refine r_iload_n 3 h dL_law_216 rfl rfl ?_
  refine r_iconst 2 h dL_law_217 (by decide) ?_
  refine r_iadd h dL_law_218 ?_
  refine r_sl 2 h hX hbl hbA hL (by omega) dL_law_219 ?_
  refine r_aload_n 0 h dL_law_220 rfl rfl ?_
  show Wx _ _ 221 _ _
  refine r_iload_n 3 h dL_law_221 rfl rfl ?_
  refine r_iconst 3 h dL_law_222 (by decide) ?_
  refine r_iadd h dL_law_223 ?_
  refine r_sl 3 h hX hbl hbA hL (by omega) dL_law_224 ?_
  refine cV3 h (mX7_move _ _ _ (f (i + 1)) (f (i + 2)) (f (i + 3))) kX7_move lm_L_26 (by decide) 23 (pl_23 _ _) rfl (Nat.le_of_ble_eq_true rfl) dL_law_225 ?_
  refine r_icmp_eq_t 905 h dL_law_228 (by decide) (op_move hI (f (i + 1)) (f (i + 2)) (f (i + 3))).1 ?_
  exact k _ (op_move hI (f (i + 1)) (f (i + 2)) (f (i + 3))).2
set_option maxRecDepth 100000 in
set_option maxHeartbeats 4000000 in
theorem law_weigh {X : Fr} {b L i : Nat} {f : Nat → Int32} {S : St} (h : Ok X cL_law RL 2000) (hX : va_X b L f (xs X) (xs X).heap) (hbl : b < (xs X).heap.size) (hbA : ¬ fA (xw X) b) (hL : L ≤ 3072) (hi : i + 6 ≤ L) (hI : Inv S) (k : ∀ T, Inv T → Wx X T 905 [.ref b, .ref (aD (xw X) 0), .ref (aD (xw X) 23), .int (nI i)] []) : Wx X S 233 [.ref b, .ref (aD (xw X) 0), .ref (aD (xw X) 23), .int (nI i)] [] := by
  refine r_aload_n 1 h dL_law_233 rfl rfl ?_
  refine r_aload_n 0 h dL_law_234 rfl rfl ?_
  refine r_iload_n 3 h dL_law_235 rfl rfl ?_
  refine r_iconst 1 h dL_law_236 (by decide) ?_
  refine r_iadd h dL_law_237 ?_
  show Wx _ _ 238 _ _
  refine r_sl 1 h hX hbl hbA hL (by omega) dL_law_238 ?_
  refine r_aload_n 0 h dL_law_239 rfl rfl ?_
  refine r_iload_n 3 h dL_law_240 rfl rfl ?_
  refine r_iconst 2 h dL_law_241 (by decide) ?_
  refine r_iadd h dL_law_242 ?_
  refine r_sl 2 h hX hbl hbA hL (by omega) dL_law_243 ?_
  show Wx _ _ 244 _ _
  refine cV2 h (mX6_weigh _ _ _ (f (i + 1)) (f (i + 2))) kX6_weigh lm_L_27 (by decide) 0 (pl_0 _ _) rfl (Nat.le_of_ble_eq_true rfl) dL_law_244 ?_
  refine r_aload_n 2 h dL_law_247 rfl rfl ?_
  refine r_aload_n 0 h dL_law_248 rfl rfl ?_
  refine r_iload_n 3 h dL_law_249 rfl rfl ?_
  refine r_iconst 1 h dL_law_250 (by decide) ?_
  refine r_iadd h dL_law_251 ?_
  show Wx _ _ 252 _ _
  refine r_sl 1 h hX hbl hbA hL (by omega) dL_law_252 ?_
  refine r_aload_n 0 h dL_law_253 rfl rfl ?_
  refine r_iload_n 3 h dL_law_254 rfl rfl ?_
  refine r_iconst 2 h dL_law_255 (by decide) ?_
  refine r_iadd h dL_law_256 ?_
  refine r_sl 2 h hX hbl hbA hL (by omega) dL_law_257 ?_
  show Wx _ _ 258 _ _
  refine cV2 h (mX7_weigh _ _ _ (f (i + 1)) (f (i + 2))) kX7_weigh lm_L_31 (by decide) 23 (pl_23 _ _) rfl (Nat.le_of_ble_eq_true rfl) dL_law_258 ?_
  refine r_icmp_eq_t 905 h dL_law_261 (by decide) (op_weigh hI (f (i + 1)) (f (i + 2))).1 ?_
  exact k _ (op_weigh hI (f (i + 1)) (f (i + 2))).2
set_option maxRecDepth 100000 in
set_option maxHeartbeats 4000000 in
theorem law_pace {X : Fr} {b L i : Nat} {f : Nat → Int32} {S : St} (h : Ok X cL_law RL 2000) (hX : va_X b L f (xs X) (xs X).heap) (hbl : b < (xs X).heap.size) (hbA : ¬ fA (xw X) b) (hL : L ≤ 3072) (hi : i + 6 ≤ L) (hI : Inv S) (k : ∀ T, Inv T → Wx X T 905 [.ref b, .ref (aD (xw X) 0), .ref (aD (xw X) 23), .int (nI i)] []) : Wx X S 266 [.ref b, .ref (aD (xw X) 0), .ref (aD (xw X) 23), .int (nI i)] [] := by
  refine r_aload_n 1 h dL_law_266 rfl rfl ?_
  refine r_aload_n 0 h dL_law_267 rfl rfl ?_
  refine r_iload_n 3 h dL_law_268 rfl rfl ?_
  refine r_iconst 1 h dL_law_269 (by decide) ?_
  refine r_iadd h dL_law_270 ?_
  show Wx _ _ 271 _ _
  refine r_sl 1 h hX hbl hbA hL (by omega) dL_law_271 ?_
  refine r_aload_n 0 h dL_law_272 rfl rfl ?_
  refine r_iload_n 3 h dL_law_273 rfl rfl ?_
  refine r_iconst 2 h dL_law_274 (by decide) ?_
  refine r_iadd h dL_law_275 ?_
  refine r_sl 2 h hX hbl hbA hL (by omega) dL_law_276 ?_
  show Wx _ _ 277 _ _
  refine r_aload_n 0 h dL_law_277 rfl rfl ?_
  refine r_iload_n 3 h dL_law_278 rfl rfl ?_
  refine r_iconst 3 h dL_law_279 (by decide) ?_
  refine r_iadd h dL_law_280 ?_
  refine r_sl 3 h hX hbl hbA hL (by omega) dL_law_281 ?_
  refine cV3 h (mX6_pace _ _ _ (f (i + 1)) (f (i + 2)) (f (i + 3))) kX6_pace lm_L_32 (by decide) 0 (pl_0 _ _) rfl (Nat.le_of_ble_eq_true rfl) dL_law_282 ?_
  show Wx _ _ 285 _ _
  refine r_aload_n 2 h dL_law_285 rfl rfl ?_
  refine r_aload_n 0 h dL_law_286 rfl rfl ?_
  refine r_iload_n 3 h dL_law_287 rfl rfl ?_
  refine r_iconst 1 h dL_law_288 (by decide) ?_
  refine r_iadd h dL_law_289 ?_
  refine r_sl 1 h hX hbl hbA hL (by omega) dL_law_290 ?_
  show Wx _ _ 291 _ _
  refine r_aload_n 0 h dL_law_291 rfl rfl ?_
  refine r_iload_n 3 h dL_law_292 rfl rfl ?_
  refine r_iconst 2 h dL_law_293 (by decide) ?_
  refine r_iadd h dL_law_294 ?_
  refine r_sl 2 h hX hbl hbA hL (by omega) dL_law_295 ?_
  refine r_aload_n 0 h dL_law_296 rfl rfl ?_
  show Wx _ _ 297 _ _
  refine r_iload_n 3 h dL_law_297 rfl rfl ?_
  refine r_iconst 3 h dL_law_298 (by decide) ?_
  refine r_iadd h dL_law_299 ?_
  refine r_sl 3 h hX hbl hbA hL (by omega) dL_law_300 ?_
  refine cV3 h (mX7_pace _ _ _ (f (i + 1)) (f (i + 2)) (f (i + 3))) kX7_pace lm_L_35 (by decide) 23 (pl_23 _ _) rfl (Nat.le_of_ble_eq_true rfl) dL_law_301 ?_
  refine r_icmp_eq_t 905 h dL_law_304 (by decide) (op_pace hI (f (i + 1)) (f (i + 2)) (f (i + 3))).1 ?_
  exact k _ (op_pace hI (f (i + 1)) (f (i + 2)) (f (i + 3))).2
set_option maxRecDepth 100000 in
set_option maxHeartbeats 4000000 in
theorem law_at {X : Fr} {b L i : Nat} {f : Nat → Int32} {S : St} (h : Ok X cL_law RL 2000) (hX : va_X b L f (xs X) (xs X).heap) (hbl : b < (xs X).heap.size) (hbA : ¬ fA (xw X) b) (hL : L ≤ 3072) (hi : i + 6 ≤ L) (hI : Inv S) (k : ∀ T, Inv T → Wx X T 905 [.ref b, .ref (aD (xw X) 0), .ref (aD (xw X) 23), .int (nI i)] []) : Wx X S 309 [.ref b, .ref (aD (xw X) 0), .ref (aD (xw X) 23), .int (nI i)] [] := by
  refine r_aload_n 1 h dL_law_309 rfl rfl ?_
  refine r_aload_n 0 h dL_law_310 rfl rfl ?_
  refine r_iload_n 3 h dL_law_311 rfl rfl ?_
  refine r_iconst 1 h dL_law_312 (by decide) ?_
  refine r_iadd h dL_law_313 ?_
  show Wx _ _ 314 _ _
  refine r_sl 1 h hX hbl hbA hL (by omega) dL_law_314 ?_
  refine r_aload_n 0 h dL_law_315 rfl rfl ?_
  refine r_iload_n 3 h dL_law_316 rfl rfl ?_
  refine r_iconst 2 h dL_law_317 (by decide) ?_
  refine r_iadd h dL_law_318 ?_
  refine r_sl 2 h hX hbl hbA hL (by omega) dL_law_319 ?_
  show Wx _ _ 320 _ _
  refine cV2 h (mX6_at _ _ _ (f (i + 1)) (f (i + 2))) kX6_at lm_L_36 (by decide) 0 (pl_0 _ _) rfl (Nat.le_of_ble_eq_true rfl) dL_law_320 ?_
  refine r_aload_n 2 h dL_law_323 rfl rfl ?_
  refine r_aload_n 0 h dL_law_324 rfl rfl ?_
  refine r_iload_n 3 h dL_law_325 rfl rfl ?_
  refine r_iconst 1 h dL_law_326 (by decide) ?_
  refine r_iadd h dL_law_327 ?_
  show Wx _ _ 328 _ _
  refine r_sl 1 h hX hbl hbA hL (by omega) dL_law_328 ?_
  refine r_aload_n 0 h dL_law_329 rfl rfl ?_
  refine r_iload_n 3 h dL_law_330 rfl rfl ?_
  refine r_iconst 2 h dL_law_331 (by decide) ?_
  refine r_iadd h dL_law_332 ?_
  refine r_sl 2 h hX hbl hbA hL (by omega) dL_law_333 ?_
  show Wx _ _ 334 _ _
  refine cV2 h (mX7_at _ _ _ (f (i + 1)) (f (i + 2))) kX7_at lm_L_39 (by decide) 23 (pl_23 _ _) rfl (Nat.le_of_ble_eq_true rfl) dL_law_334 ?_
  refine r_icmp_eq_t 905 h dL_law_337 (by decide) (op_at hI (f (i + 1)) (f (i + 2))).1 ?_
  exact k _ (op_at hI (f (i + 1)) (f (i + 2))).2
set_option maxRecDepth 100000 in
set_option maxHeartbeats 4000000 in
theorem law_kernel {X : Fr} {b L i : Nat} {f : Nat → Int32} {S : St} (h : Ok X cL_law RL 2000) (hX : va_X b L f (xs X) (xs X).heap) (hbl : b < (xs X).heap.size) (hbA : ¬ fA (xw X) b) (hL : L ≤ 3072) (hi : i + 6 ≤ L) (hI : Inv S) (k : ∀ T, Inv T → Wx X T 905 [.ref b, .ref (aD (xw X) 0), .ref (aD (xw X) 23), .int (nI i)] []) : Wx X S 342 [.ref b, .ref (aD (xw X) 0), .ref (aD (xw X) 23), .int (nI i)] [] := by
  refine r_aload_n 1 h dL_law_342 rfl rfl ?_
  refine r_aload_n 0 h dL_law_343 rfl rfl ?_
  refine r_iload_n 3 h dL_law_344 rfl rfl ?_
  refine r_iconst 1 h dL_law_345 (by decide) ?_
  refine r_iadd h dL_law_346 ?_
  show Wx _ _ 347 _ _
  refine r_sl 1 h hX hbl hbA hL (by omega) dL_law_347 ?_
  refine r_aload_n 0 h dL_law_348 rfl rfl ?_
  refine r_iload_n 3 h dL_law_349 rfl rfl ?_
  refine r_iconst 2 h dL_law_350 (by decide) ?_
  refine r_iadd h dL_law_351 ?_
  refine r_sl 2 h hX hbl hbA hL (by omega) dL_law_352 ?_
  show Wx _ _ 353 _ _
  refine r_aload_n 0 h dL_law_353 rfl rfl ?_
  refine r_iload_n 3 h dL_law_354 rfl rfl ?_
  refine r_iconst 3 h dL_law_355 (by decide) ?_
  refine r_iadd h dL_law_356 ?_
  refine r_sl 3 h hX hbl hbA hL (by omega) dL_law_357 ?_
  refine cV3 h (mX6_kernel _ _ _ (f (i + 1)) (f (i + 2)) (f (i + 3))) kX6_kernel lm_L_40 (by decide) 0 (pl_0 _ _) rfl (Nat.le_of_ble_eq_true rfl) dL_law_358 ?_
  show Wx _ _ 361 _ _
  refine r_aload_n 2 h dL_law_361 rfl rfl ?_
  refine r_aload_n 0 h dL_law_362 rfl rfl ?_
  refine r_iload_n 3 h dL_law_363 rfl rfl ?_
  refine r_iconst 1 h dL_law_364 (by decide) ?_
  refine r_iadd h dL_law_365 ?_
  refine r_sl 1 h hX hbl hbA hL (by omega) dL_law_366 ?_
  show Wx _ _ 367 _ _
  refine r_aload_n 0 h dL_law_367 rfl rfl ?_
  refine r_iload_n 3 h dL_law_368 rfl rfl ?_
  refine r_iconst 2 h dL_law_369 (by decide) ?_
  refine r_iadd h dL_law_370 ?_
  refine r_sl 2 h hX hbl hbA hL (by omega) dL_law_371 ?_
  refine r_aload_n 0 h dL_law_372 rfl rfl ?_
  show Wx _ _ 373 _ _
  refine r_iload_n 3 h dL_law_373 rfl rfl ?_
  refine r_iconst 3 h dL_law_374 (by decide) ?_
  refine r_iadd h dL_law_375 ?_
  refine r_sl 3 h hX hbl hbA hL (by omega) dL_law_376 ?_
  refine cV3 h (mX7_kernel _ _ _ (f (i + 1)) (f (i + 2)) (f (i + 3))) kX7_kernel lm_L_43 (by decide) 23 (pl_23 _ _) rfl (Nat.le_of_ble_eq_true rfl) dL_law_377 ?_
  refine r_icmp_eq_t 905 h dL_law_380 (by decide) (op_kernel hI (f (i + 1)) (f (i + 2)) (f (i + 3))).1 ?_
  exact k _ (op_kernel hI (f (i + 1)) (f (i + 2)) (f (i + 3))).2
set_option maxRecDepth 100000 in
set_option maxHeartbeats 4000000 in
theorem law_capacity {X : Fr} {b L i : Nat} {f : Nat → Int32} {S : St} (h : Ok X cL_law RL 2000) (hX : va_X b L f (xs X) (xs X).heap) (hbl : b < (xs X).heap.size) (hbA : ¬ fA (xw X) b) (hL : L ≤ 3072) (hi : i + 6 ≤ L) (hI : Inv S) (k : ∀ T, Inv T → Wx X T 905 [.ref b, .ref (aD (xw X) 0), .ref (aD (xw X) 23), .int (nI i)] []) : Wx X S 385 [.ref b, .ref (aD (xw X) 0), .ref (aD (xw X) 23), .int (nI i)] [] := by
  refine r_aload_n 1 h dL_law_385 rfl rfl ?_
  refine r_aload_n 0 h dL_law_386 rfl rfl ?_
  refine r_iload_n 3 h dL_law_387 rfl rfl ?_
  refine r_iconst 1 h dL_law_388 (by decide) ?_
  refine r_iadd h dL_law_389 ?_
  show Wx _ _ 390 _ _
  refine r_sl 1 h hX hbl hbA hL (by omega) dL_law_390 ?_
  refine cV1 h (mX6_capacity _ _ _ (f (i + 1))) kX6_capacity lm_L_44 (by decide) 0 (pl_0 _ _) rfl (Nat.le_of_ble_eq_true rfl) dL_law_391 ?_
  refine r_aload_n 2 h dL_law_394 rfl rfl ?_
  refine r_aload_n 0 h dL_law_395 rfl rfl ?_
  refine r_iload_n 3 h dL_law_396 rfl rfl ?_
  refine r_iconst 1 h dL_law_397 (by decide) ?_
  show Wx _ _ 398 _ _
  refine r_iadd h dL_law_398 ?_
  refine r_sl 1 h hX hbl hbA hL (by omega) dL_law_399 ?_
  refine cV1 h (mX7_capacity _ _ _ (f (i + 1))) kX7_capacity lm_L_47 (by decide) 23 (pl_23 _ _) rfl (Nat.le_of_ble_eq_true rfl) dL_law_400 ?_
  refine r_icmp_eq_t 905 h dL_law_403 (by decide) (op_capacity hI (f (i + 1))).1 ?_
  exact k _ (op_capacity hI (f (i + 1))).2
set_option maxRecDepth 100000 in
set_option maxHeartbeats 4000000 in
theorem law_sum {X : Fr} {b L i : Nat} {f : Nat → Int32} {S : St} (h : Ok X cL_law RL 2000) (hX : va_X b L f (xs X) (xs X).heap) (hbl : b < (xs X).heap.size) (hbA : ¬ fA (xw X) b) (hL : L ≤ 3072) (hi : i + 6 ≤ L) (hI : Inv S) (k : ∀ T, Inv T → Wx X T 905 [.ref b, .ref (aD (xw X) 0), .ref (aD (xw X) 23), .int (nI i)] []) : Wx X S 408 [.ref b, .ref (aD (xw X) 0), .ref (aD (xw X) 23), .int (nI i)] [] := by
  refine r_aload_n 1 h dL_law_408 rfl rfl ?_
  refine r_aload_n 0 h dL_law_409 rfl rfl ?_
  refine r_iload_n 3 h dL_law_410 rfl rfl ?_
  refine r_iconst 1 h dL_law_411 (by decide) ?_
  refine r_iadd h dL_law_412 ?_
  show Wx _ _ 413 _ _
  refine r_sl 1 h hX hbl hbA hL (by omega) dL_law_413 ?_
  refine r_aload_n 0 h dL_law_414 rfl rfl ?_
  refine r_iload_n 3 h dL_law_415 rfl rfl ?_
  refine r_iconst 2 h dL_law_416 (by decide) ?_
  refine r_iadd h dL_law_417 ?_
  refine r_sl 2 h hX hbl hbA hL (by omega) dL_law_418 ?_
  show Wx _ _ 419 _ _
  refine cV2 h (mX6_sum _ _ _ (f (i + 1)) (f (i + 2))) kX6_sum lm_L_48 (by decide) 0 (pl_0 _ _) rfl (Nat.le_of_ble_eq_true rfl) dL_law_419 ?_
  refine r_aload_n 2 h dL_law_422 rfl rfl ?_
  refine r_aload_n 0 h dL_law_423 rfl rfl ?_
  refine r_iload_n 3 h dL_law_424 rfl rfl ?_
  refine r_iconst 1 h dL_law_425 (by decide) ?_
  refine r_iadd h dL_law_426 ?_
  show Wx _ _ 427 _ _
  refine r_sl 1 h hX hbl hbA hL (by omega) dL_law_427 ?_
  refine r_aload_n 0 h dL_law_428 rfl rfl ?_
  refine r_iload_n 3 h dL_law_429 rfl rfl ?_
  refine r_iconst 2 h dL_law_430 (by decide) ?_
  refine r_iadd h dL_law_431 ?_
  refine r_sl 2 h hX hbl hbA hL (by omega) dL_law_432 ?_
  show Wx _ _ 433 _ _
  refine cV2 h (mX7_sum _ _ _ (f (i + 1)) (f (i + 2))) kX7_sum lm_L_52 (by decide) 23 (pl_23 _ _) rfl (Nat.le_of_ble_eq_true rfl) dL_law_433 ?_
  refine r_lc_eq_t 905 h dL_law_436 dL_law_437 (by decide) (op_sum hI (f (i + 1)) (f (i + 2))).1 ?_
  exact k _ (op_sum hI (f (i + 1)) (f (i + 2))).2
set_option maxRecDepth 100000 in
set_option maxHeartbeats 4000000 in
theorem law_across {X : Fr} {b L i : Nat} {f : Nat → Int32} {S : St} (h : Ok X cL_law RL 2000) (hX : va_X b L f (xs X) (xs X).heap) (hbl : b < (xs X).heap.size) (hbA : ¬ fA (xw X) b) (hL : L ≤ 3072) (hi : i + 6 ≤ L) (hI : Inv S) (k : ∀ T, Inv T → Wx X T 905 [.ref b, .ref (aD (xw X) 0), .ref (aD (xw X) 23), .int (nI i)] []) : Wx X S 442 [.ref b, .ref (aD (xw X) 0), .ref (aD (xw X) 23), .int (nI i)] [] := by
  refine r_aload_n 1 h dL_law_442 rfl rfl ?_
  refine r_aload_n 0 h dL_law_443 rfl rfl ?_
  refine r_iload_n 3 h dL_law_444 rfl rfl ?_
  refine r_iconst 1 h dL_law_445 (by decide) ?_
  refine r_iadd h dL_law_446 ?_
  show Wx _ _ 447 _ _
  refine r_sl 1 h hX hbl hbA hL (by omega) dL_law_447 ?_
  refine r_aload_n 0 h dL_law_448 rfl rfl ?_
  refine r_iload_n 3 h dL_law_449 rfl rfl ?_
  refine r_iconst 2 h dL_law_450 (by decide) ?_
  refine r_iadd h dL_law_451 ?_
  refine r_sl 2 h hX hbl hbA hL (by omega) dL_law_452 ?_
  show Wx _ _ 453 _ _
  refine r_aload_n 0 h dL_law_453 rfl rfl ?_
  refine r_iload_n 3 h dL_law_454 rfl rfl ?_
  refine r_iconst 3 h dL_law_455 (by decide) ?_
  refine r_iadd h dL_law_456 ?_
  refine r_sl 3 h hX hbl hbA hL (by omega) dL_law_457 ?_
  refine r_aload_n 0 h dL_law_458 rfl rfl ?_
  show Wx _ _ 459 _ _
  refine r_iload_n 3 h dL_law_459 rfl rfl ?_
  refine r_iconst 4 h dL_law_460 (by decide) ?_
  refine r_iadd h dL_law_461 ?_
  refine r_sl 4 h hX hbl hbA hL (by omega) dL_law_462 ?_
  refine r_aload_n 0 h dL_law_463 rfl rfl ?_
  refine r_iload_n 3 h dL_law_464 rfl rfl ?_
  show Wx _ _ 465 _ _
  refine r_iconst 5 h dL_law_465 (by decide) ?_
  refine r_iadd h dL_law_466 ?_
  refine r_sl 5 h hX hbl hbA hL (by omega) dL_law_467 ?_
  refine cV5 h (mX6_across _ _ _ (f (i + 1)) (f (i + 2)) (f (i + 3)) (f (i + 4)) (f (i + 5))) kX6_across lm_L_53 (by decide) 0 (pl_0 _ _) rfl (Nat.le_of_ble_eq_true rfl) dL_law_468 ?_
  refine r_aload_n 2 h dL_law_471 rfl rfl ?_
  refine r_aload_n 0 h dL_law_472 rfl rfl ?_
  show Wx _ _ 473 _ _
  refine r_iload_n 3 h dL_law_473 rfl rfl ?_
  refine r_iconst 1 h dL_law_474 (by decide) ?_
  refine r_iadd h dL_law_475 ?_
  refine r_sl 1 h hX hbl hbA hL (by omega) dL_law_476 ?_
  refine r_aload_n 0 h dL_law_477 rfl rfl ?_
  refine r_iload_n 3 h dL_law_478 rfl rfl ?_
  show Wx _ _ 479 _ _
  refine r_iconst 2 h dL_law_479 (by decide) ?_
  refine r_iadd h dL_law_480 ?_
  refine r_sl 2 h hX hbl hbA hL (by omega) dL_law_481 ?_
  refine r_aload_n 0 h dL_law_482 rfl rfl ?_
  refine r_iload_n 3 h dL_law_483 rfl rfl ?_
  refine r_iconst 3 h dL_law_484 (by decide) ?_
  show Wx _ _ 485 _ _
  refine r_iadd h dL_law_485 ?_
  refine r_sl 3 h hX hbl hbA hL (by omega) dL_law_486 ?_
  refine r_aload_n 0 h dL_law_487 rfl rfl ?_
  refine r_iload_n 3 h dL_law_488 rfl rfl ?_
  refine r_iconst 4 h dL_law_489 (by decide) ?_
  refine r_iadd h dL_law_490 ?_
  show Wx _ _ 491 _ _
  refine r_sl 4 h hX hbl hbA hL (by omega) dL_law_491 ?_
  refine r_aload_n 0 h dL_law_492 rfl rfl ?_
  refine r_iload_n 3 h dL_law_493 rfl rfl ?_
  refine r_iconst 5 h dL_law_494 (by decide) ?_
  refine r_iadd h dL_law_495 ?_
  refine r_sl 5 h hX hbl hbA hL (by omega) dL_law_496 ?_
  show Wx _ _ 497 _ _
  refine r_callP (rest := [.long (acR S (f (i + 1)) (f (i + 2)) (f (i + 3)) (f (i + 4)) (f (i + 5)))]) h (mX7_across _ _ (acT S (f (i + 1)) (f (i + 2)) (f (i + 3)) (f (i + 4)) (f (i + 5))) (f (i + 1)) (f (i + 2)) (f (i + 3)) (f (i + 4)) (f (i + 5)) (gaN_80 (Inv_p (op_across hI (f (i + 1)) (f (i + 2)) (f (i + 3)) (f (i + 4)) (f (i + 5))).2) _ _ _ _)) kX7_across lm_L_57 (by decide) 23 (pl_23 _ _) rfl rfl rfl (Nat.le_of_ble_eq_true rfl) dL_law_497 (fun v T hT => ?_)
  obtain ⟨rfl, hT⟩ := hT
  show Wx X T 500 _ [.long _, .long _]
  refine r_lc_eq_t 905 h dL_law_500 dL_law_501 (by decide) (op_across hI (f (i + 1)) (f (i + 2)) (f (i + 3)) (f (i + 4)) (f (i + 5))).1 ?_
  exact k _ (Inv_m hT (op_across hI (f (i + 1)) (f (i + 2)) (f (i + 3)) (f (i + 4)) (f (i + 5))).2)
set_option maxRecDepth 100000 in
set_option maxHeartbeats 4000000 in
theorem law_order {X : Fr} {b L i : Nat} {f : Nat → Int32} {S : St} (h : Ok X cL_law RL 2000) (hX : va_X b L f (xs X) (xs X).heap) (hbl : b < (xs X).heap.size) (hbA : ¬ fA (xw X) b) (hL : L ≤ 3072) (hi : i + 6 ≤ L) (hI : Inv S) (k : ∀ T, Inv T → Wx X T 905 [.ref b, .ref (aD (xw X) 0), .ref (aD (xw X) 23), .int (nI i)] []) : Wx X S 506 [.ref b, .ref (aD (xw X) 0), .ref (aD (xw X) 23), .int (nI i)] [] := by
  refine r_aload_n 1 h dL_law_506 rfl rfl ?_
  refine r_aload_n 0 h dL_law_507 rfl rfl ?_
  refine r_iload_n 3 h dL_law_508 rfl rfl ?_
  refine r_iconst 1 h dL_law_509 (by decide) ?_
  refine r_iadd h dL_law_510 ?_
  show Wx _ _ 511 _ _
  refine r_sl 1 h hX hbl hbA hL (by omega) dL_law_511 ?_
  refine r_aload_n 0 h dL_law_512 rfl rfl ?_
  refine r_iload_n 3 h dL_law_513 rfl rfl ?_
  refine r_iconst 2 h dL_law_514 (by decide) ?_
  refine r_iadd h dL_law_515 ?_
  refine r_sl 2 h hX hbl hbA hL (by omega) dL_law_516 ?_
  show Wx _ _ 517 _ _
  refine r_aload_n 0 h dL_law_517 rfl rfl ?_
  refine r_iload_n 3 h dL_law_518 rfl rfl ?_
  refine r_iconst 3 h dL_law_519 (by decide) ?_
  refine r_iadd h dL_law_520 ?_
  refine r_sl 3 h hX hbl hbA hL (by omega) dL_law_521 ?_
  refine r_aload_n 0 h dL_law_522 rfl rfl ?_
  show Wx _ _ 523 _ _
  refine r_iload_n 3 h dL_law_523 rfl rfl ?_
  refine r_iconst 4 h dL_law_524 (by decide) ?_
  refine r_iadd h dL_law_525 ?_
  refine r_sl 4 h hX hbl hbA hL (by omega) dL_law_526 ?_
  refine r_i2l h dL_law_527 ?_
  refine r_bipush 32 h dL_law_528 (by decide) ?_
  show Wx _ _ 530 _ _
  refine r_lshl h dL_law_530 ?_
  refine r_aload_n 0 h dL_law_531 rfl rfl ?_
  refine r_iload_n 3 h dL_law_532 rfl rfl ?_
  refine r_iconst 5 h dL_law_533 (by decide) ?_
  refine r_iadd h dL_law_534 ?_
  refine r_sl 5 h hX hbl hbA hL (by omega) dL_law_535 ?_
  show Wx _ _ 536 _ _
  refine r_i2l h dL_law_536 ?_
  refine r_ldc2 h lc_L_58 dL_law_537 ?_
  refine r_land h dL_law_540 ?_
  refine r_lor h dL_law_541 ?_
  refine cV4 h (mX6_order _ _ _ (f (i + 1)) (f (i + 2)) (f (i + 3)) (((f (i + 4)).toInt64 <<< ((32 : Int32).toInt64 &&& 63)) ||| ((f (i + 5)).toInt64 &&& 4294967295))) kX6_order lm_L_60 (by decide) 0 (pl_0 _ _) rfl (Nat.le_of_ble_eq_true rfl) dL_law_542 ?_
  refine r_aload_n 2 h dL_law_545 rfl rfl ?_
  show Wx _ _ 546 _ _
  refine r_aload_n 0 h dL_law_546 rfl rfl ?_
  refine r_iload_n 3 h dL_law_547 rfl rfl ?_
  refine r_iconst 1 h dL_law_548 (by decide) ?_
  refine r_iadd h dL_law_549 ?_
  refine r_sl 1 h hX hbl hbA hL (by omega) dL_law_550 ?_
  refine r_aload_n 0 h dL_law_551 rfl rfl ?_
  show Wx _ _ 552 _ _
  refine r_iload_n 3 h dL_law_552 rfl rfl ?_
  refine r_iconst 2 h dL_law_553 (by decide) ?_
  refine r_iadd h dL_law_554 ?_
  refine r_sl 2 h hX hbl hbA hL (by omega) dL_law_555 ?_
  refine r_aload_n 0 h dL_law_556 rfl rfl ?_
  refine r_iload_n 3 h dL_law_557 rfl rfl ?_
  show Wx _ _ 558 _ _
  refine r_iconst 3 h dL_law_558 (by decide) ?_
  refine r_iadd h dL_law_559 ?_
  refine r_sl 3 h hX hbl hbA hL (by omega) dL_law_560 ?_
  refine r_aload_n 0 h dL_law_561 rfl rfl ?_
  refine r_iload_n 3 h dL_law_562 rfl rfl ?_
  refine r_iconst 4 h dL_law_563 (by decide) ?_
  show Wx _ _ 564 _ _
  refine r_iadd h dL_law_564 ?_
  refine r_sl 4 h hX hbl hbA hL (by omega) dL_law_565 ?_
  refine r_i2l h dL_law_566 ?_
  refine r_bipush 32 h dL_law_567 (by decide) ?_
  refine r_lshl h dL_law_569 ?_
  refine r_aload_n 0 h dL_law_570 rfl rfl ?_
  show Wx _ _ 571 _ _
  refine r_iload_n 3 h dL_law_571 rfl rfl ?_
  refine r_iconst 5 h dL_law_572 (by decide) ?_
  refine r_iadd h dL_law_573 ?_
  refine r_sl 5 h hX hbl hbA hL (by omega) dL_law_574 ?_
  refine r_i2l h dL_law_575 ?_
  refine r_ldc2 h lc_L_58 dL_law_576 ?_
  show Wx _ _ 579 _ _
  refine r_land h dL_law_579 ?_
  refine r_lor h dL_law_580 ?_
  refine r_callP (rest := [.int (odR S (f (i + 1)) (f (i + 2)) (f (i + 3)) (((f (i + 4)).toInt64 <<< ((32 : Int32).toInt64 &&& 63)) ||| ((f (i + 5)).toInt64 &&& 4294967295)))]) h (mX7_order _ _ (odT S (f (i + 1)) (f (i + 2)) (f (i + 3)) (((f (i + 4)).toInt64 <<< ((32 : Int32).toInt64 &&& 63)) ||| ((f (i + 5)).toInt64 &&& 4294967295))) (f (i + 1)) (f (i + 2)) (f (i + 3)) (((f (i + 4)).toInt64 <<< ((32 : Int32).toInt64 &&& 63)) ||| ((f (i + 5)).toInt64 &&& 4294967295)) (gaN_80 (Inv_p (op_order hI (f (i + 1)) (f (i + 2)) (f (i + 3)) (((f (i + 4)).toInt64 <<< ((32 : Int32).toInt64 &&& 63)) ||| ((f (i + 5)).toInt64 &&& 4294967295))).2) _ _ _ _) (fun z => by rw [gaE_4]; exact z)) kX7_order lm_L_64 (by decide) 23 (pl_23 _ _) rfl rfl rfl (Nat.le_of_ble_eq_true rfl) dL_law_581 (fun v T hT => ?_)
  obtain ⟨rfl, hT⟩ := hT
  show Wx X T 584 _ [.int _, .int _]
  refine r_icmp_eq_t 905 h dL_law_584 (by decide) (op_order hI (f (i + 1)) (f (i + 2)) (f (i + 3)) (((f (i + 4)).toInt64 <<< ((32 : Int32).toInt64 &&& 63)) ||| ((f (i + 5)).toInt64 &&& 4294967295))).1 ?_
  exact k _ (Inv_m hT (op_order hI (f (i + 1)) (f (i + 2)) (f (i + 3)) (((f (i + 4)).toInt64 <<< ((32 : Int32).toInt64 &&& 63)) ||| ((f (i + 5)).toInt64 &&& 4294967295))).2)
set_option maxRecDepth 100000 in
set_option maxHeartbeats 4000000 in
theorem law_way {X : Fr} {b L i : Nat} {f : Nat → Int32} {S : St} (h : Ok X cL_law RL 2000) (hX : va_X b L f (xs X) (xs X).heap) (hbl : b < (xs X).heap.size) (hbA : ¬ fA (xw X) b) (hL : L ≤ 3072) (hi : i + 6 ≤ L) (hI : Inv S) (k : ∀ T, Inv T → Wx X T 905 [.ref b, .ref (aD (xw X) 0), .ref (aD (xw X) 23), .int (nI i)] []) : Wx X S 589 [.ref b, .ref (aD (xw X) 0), .ref (aD (xw X) 23), .int (nI i)] [] := by
  refine r_aload_n 1 h dL_law_589 rfl rfl ?_
  refine r_aload_n 0 h dL_law_590 rfl rfl ?_
  refine r_iload_n 3 h dL_law_591 rfl rfl ?_
  refine r_iconst 1 h dL_law_592 (by decide) ?_
  refine r_iadd h dL_law_593 ?_
  show Wx _ _ 594 _ _
  refine r_sl 1 h hX hbl hbA hL (by omega) dL_law_594 ?_
  refine r_aload_n 0 h dL_law_595 rfl rfl ?_
  refine r_iload_n 3 h dL_law_596 rfl rfl ?_
  refine r_iconst 2 h dL_law_597 (by decide) ?_
  refine r_iadd h dL_law_598 ?_
  refine r_sl 2 h hX hbl hbA hL (by omega) dL_law_599 ?_
  show Wx _ _ 600 _ _
  refine r_aload_n 0 h dL_law_600 rfl rfl ?_
  refine r_iload_n 3 h dL_law_601 rfl rfl ?_
  refine r_iconst 3 h dL_law_602 (by decide) ?_
  refine r_iadd h dL_law_603 ?_
  refine r_sl 3 h hX hbl hbA hL (by omega) dL_law_604 ?_
  refine r_aload_n 0 h dL_law_605 rfl rfl ?_
  show Wx _ _ 606 _ _
  refine r_iload_n 3 h dL_law_606 rfl rfl ?_
  refine r_iconst 4 h dL_law_607 (by decide) ?_
  refine r_iadd h dL_law_608 ?_
  refine r_sl 4 h hX hbl hbA hL (by omega) dL_law_609 ?_
  refine r_aload_n 0 h dL_law_610 rfl rfl ?_
  refine r_iload_n 3 h dL_law_611 rfl rfl ?_
  show Wx _ _ 612 _ _
  refine r_iconst 5 h dL_law_612 (by decide) ?_
  refine r_iadd h dL_law_613 ?_
  refine r_sl 5 h hX hbl hbA hL (by omega) dL_law_614 ?_
  refine cV5 h (mX6_way _ _ _ (f (i + 1)) (f (i + 2)) (f (i + 3)) (f (i + 4)) (f (i + 5))) kX6_way lm_L_65 (by decide) 0 (pl_0 _ _) rfl (Nat.le_of_ble_eq_true rfl) dL_law_615 ?_
  refine r_aload_n 2 h dL_law_618 rfl rfl ?_
  refine r_aload_n 0 h dL_law_619 rfl rfl ?_
  show Wx _ _ 620 _ _
  refine r_iload_n 3 h dL_law_620 rfl rfl ?_
  refine r_iconst 1 h dL_law_621 (by decide) ?_
  refine r_iadd h dL_law_622 ?_
  refine r_sl 1 h hX hbl hbA hL (by omega) dL_law_623 ?_
  refine r_aload_n 0 h dL_law_624 rfl rfl ?_
  refine r_iload_n 3 h dL_law_625 rfl rfl ?_
  show Wx _ _ 626 _ _
  refine r_iconst 2 h dL_law_626 (by decide) ?_
  refine r_iadd h dL_law_627 ?_
  refine r_sl 2 h hX hbl hbA hL (by omega) dL_law_628 ?_
  refine r_aload_n 0 h dL_law_629 rfl rfl ?_
  refine r_iload_n 3 h dL_law_630 rfl rfl ?_
  refine r_iconst 3 h dL_law_631 (by decide) ?_
  show Wx _ _ 632 _ _
  refine r_iadd h dL_law_632 ?_
  refine r_sl 3 h hX hbl hbA hL (by omega) dL_law_633 ?_
  refine r_aload_n 0 h dL_law_634 rfl rfl ?_
  refine r_iload_n 3 h dL_law_635 rfl rfl ?_
  refine r_iconst 4 h dL_law_636 (by decide) ?_
  refine r_iadd h dL_law_637 ?_
  show Wx _ _ 638 _ _
  refine r_sl 4 h hX hbl hbA hL (by omega) dL_law_638 ?_
  refine r_aload_n 0 h dL_law_639 rfl rfl ?_
  refine r_iload_n 3 h dL_law_640 rfl rfl ?_
  refine r_iconst 5 h dL_law_641 (by decide) ?_
  refine r_iadd h dL_law_642 ?_
  refine r_sl 5 h hX hbl hbA hL (by omega) dL_law_643 ?_
  show Wx _ _ 644 _ _
  refine r_callP (rest := [.int (wyR S (f (i + 1)) (f (i + 2)) (f (i + 3)) (f (i + 4)) (f (i + 5)))]) h (mX7_way _ _ (wyT S (f (i + 1)) (f (i + 2)) (f (i + 3)) (f (i + 4)) (f (i + 5))) (f (i + 1)) (f (i + 2)) (f (i + 3)) (f (i + 4)) (f (i + 5)) (gaN_80 (Inv_p (op_way hI (f (i + 1)) (f (i + 2)) (f (i + 3)) (f (i + 4)) (f (i + 5))).2) _ _ _ _)) kX7_way lm_L_69 (by decide) 23 (pl_23 _ _) rfl rfl rfl (Nat.le_of_ble_eq_true rfl) dL_law_644 (fun v T hT => ?_)
  obtain ⟨rfl, hT⟩ := hT
  show Wx X T 647 _ [.int _, .int _]
  refine r_icmp_eq_t 905 h dL_law_647 (by decide) (op_way hI (f (i + 1)) (f (i + 2)) (f (i + 3)) (f (i + 4)) (f (i + 5))).1 ?_
  exact k _ (Inv_m hT (op_way hI (f (i + 1)) (f (i + 2)) (f (i + 3)) (f (i + 4)) (f (i + 5))).2)
set_option maxRecDepth 100000 in
set_option maxHeartbeats 4000000 in
theorem law_box {X : Fr} {b L i : Nat} {f : Nat → Int32} {S : St} (h : Ok X cL_law RL 2000) (hX : va_X b L f (xs X) (xs X).heap) (hbl : b < (xs X).heap.size) (hbA : ¬ fA (xw X) b) (hL : L ≤ 3072) (hi : i + 6 ≤ L) (hI : Inv S) (k : ∀ T, Inv T → Wx X T 905 [.ref b, .ref (aD (xw X) 0), .ref (aD (xw X) 23), .int (nI i)] []) : Wx X S 652 [.ref b, .ref (aD (xw X) 0), .ref (aD (xw X) 23), .int (nI i)] [] := by
  refine r_aload_n 1 h dL_law_652 rfl rfl ?_
  refine r_aload_n 0 h dL_law_653 rfl rfl ?_
  refine r_iload_n 3 h dL_law_654 rfl rfl ?_
  refine r_iconst 1 h dL_law_655 (by decide) ?_
  refine r_iadd h dL_law_656 ?_
  show Wx _ _ 657 _ _
  refine r_sl 1 h hX hbl hbA hL (by omega) dL_law_657 ?_
  refine r_aload_n 0 h dL_law_658 rfl rfl ?_
  refine r_iload_n 3 h dL_law_659 rfl rfl ?_
  refine r_iconst 2 h dL_law_660 (by decide) ?_
  refine r_iadd h dL_law_661 ?_
  refine r_sl 2 h hX hbl hbA hL (by omega) dL_law_662 ?_
  show Wx _ _ 663 _ _
  refine r_aload_n 0 h dL_law_663 rfl rfl ?_
  refine r_iload_n 3 h dL_law_664 rfl rfl ?_
  refine r_iconst 3 h dL_law_665 (by decide) ?_
  refine r_iadd h dL_law_666 ?_
  refine r_sl 3 h hX hbl hbA hL (by omega) dL_law_667 ?_
  refine r_aload_n 0 h dL_law_668 rfl rfl ?_
  show Wx _ _ 669 _ _
  refine r_iload_n 3 h dL_law_669 rfl rfl ?_
  refine r_iconst 4 h dL_law_670 (by decide) ?_
  refine r_iadd h dL_law_671 ?_
  refine r_sl 4 h hX hbl hbA hL (by omega) dL_law_672 ?_
  refine cV4 h (mX6_box _ _ _ (f (i + 1)) (f (i + 2)) (f (i + 3)) (f (i + 4))) kX6_box lm_L_70 (by decide) 0 (pl_0 _ _) rfl (Nat.le_of_ble_eq_true rfl) dL_law_673 ?_
  refine r_aload_n 2 h dL_law_676 rfl rfl ?_
  show Wx _ _ 677 _ _
  refine r_aload_n 0 h dL_law_677 rfl rfl ?_
  refine r_iload_n 3 h dL_law_678 rfl rfl ?_
  refine r_iconst 1 h dL_law_679 (by decide) ?_
  refine r_iadd h dL_law_680 ?_
  refine r_sl 1 h hX hbl hbA hL (by omega) dL_law_681 ?_
  refine r_aload_n 0 h dL_law_682 rfl rfl ?_
  show Wx _ _ 683 _ _
  refine r_iload_n 3 h dL_law_683 rfl rfl ?_
  refine r_iconst 2 h dL_law_684 (by decide) ?_
  refine r_iadd h dL_law_685 ?_
  refine r_sl 2 h hX hbl hbA hL (by omega) dL_law_686 ?_
  refine r_aload_n 0 h dL_law_687 rfl rfl ?_
  refine r_iload_n 3 h dL_law_688 rfl rfl ?_
  show Wx _ _ 689 _ _
  refine r_iconst 3 h dL_law_689 (by decide) ?_
  refine r_iadd h dL_law_690 ?_
  refine r_sl 3 h hX hbl hbA hL (by omega) dL_law_691 ?_
  refine r_aload_n 0 h dL_law_692 rfl rfl ?_
  refine r_iload_n 3 h dL_law_693 rfl rfl ?_
  refine r_iconst 4 h dL_law_694 (by decide) ?_
  show Wx _ _ 695 _ _
  refine r_iadd h dL_law_695 ?_
  refine r_sl 4 h hX hbl hbA hL (by omega) dL_law_696 ?_
  refine cV4 h (mX7_box _ _ _ (f (i + 1)) (f (i + 2)) (f (i + 3)) (f (i + 4))) kX7_box lm_L_74 (by decide) 23 (pl_23 _ _) rfl (Nat.le_of_ble_eq_true rfl) dL_law_697 ?_
  refine r_icmp_eq_t 905 h dL_law_700 (by decide) (op_box hI (f (i + 1)) (f (i + 2)) (f (i + 3)) (f (i + 4))).1 ?_
  exact k _ (op_box hI (f (i + 1)) (f (i + 2)) (f (i + 3)) (f (i + 4))).2
set_option maxRecDepth 100000 in
set_option maxHeartbeats 4000000 in
theorem law_moment {X : Fr} {b L i : Nat} {f : Nat → Int32} {S : St} (h : Ok X cL_law RL 2000) (hX : va_X b L f (xs X) (xs X).heap) (hbl : b < (xs X).heap.size) (hbA : ¬ fA (xw X) b) (hL : L ≤ 3072) (hi : i + 6 ≤ L) (hI : Inv S) (k : ∀ T, Inv T → Wx X T 905 [.ref b, .ref (aD (xw X) 0), .ref (aD (xw X) 23), .int (nI i)] []) : Wx X S 705 [.ref b, .ref (aD (xw X) 0), .ref (aD (xw X) 23), .int (nI i)] [] := by
  refine r_aload_n 1 h dL_law_705 rfl rfl ?_
  refine r_aload_n 0 h dL_law_706 rfl rfl ?_
  refine r_iload_n 3 h dL_law_707 rfl rfl ?_
  refine r_iconst 1 h dL_law_708 (by decide) ?_
  refine r_iadd h dL_law_709 ?_
  show Wx _ _ 710 _ _
  refine r_sl 1 h hX hbl hbA hL (by omega) dL_law_710 ?_
  refine r_aload_n 0 h dL_law_711 rfl rfl ?_
  refine r_iload_n 3 h dL_law_712 rfl rfl ?_
  refine r_iconst 2 h dL_law_713 (by decide) ?_
  refine r_iadd h dL_law_714 ?_
  refine r_sl 2 h hX hbl hbA hL (by omega) dL_law_715 ?_
  show Wx _ _ 716 _ _
  refine r_aload_n 0 h dL_law_716 rfl rfl ?_
  refine r_iload_n 3 h dL_law_717 rfl rfl ?_
  refine r_iconst 3 h dL_law_718 (by decide) ?_
  refine r_iadd h dL_law_719 ?_
  refine r_sl 3 h hX hbl hbA hL (by omega) dL_law_720 ?_
  refine r_aload_n 0 h dL_law_721 rfl rfl ?_
  show Wx _ _ 722 _ _
  refine r_iload_n 3 h dL_law_722 rfl rfl ?_
  refine r_iconst 4 h dL_law_723 (by decide) ?_
  refine r_iadd h dL_law_724 ?_
  refine r_sl 4 h hX hbl hbA hL (by omega) dL_law_725 ?_
  refine r_aload_n 0 h dL_law_726 rfl rfl ?_
  refine r_iload_n 3 h dL_law_727 rfl rfl ?_
  show Wx _ _ 728 _ _
  refine r_iconst 5 h dL_law_728 (by decide) ?_
  refine r_iadd h dL_law_729 ?_
  refine r_sl 5 h hX hbl hbA hL (by omega) dL_law_730 ?_
  refine cV5 h (mX6_moment _ _ _ (f (i + 1)) (f (i + 2)) (f (i + 3)) (f (i + 4)) (f (i + 5))) kX6_moment lm_L_75 (by decide) 0 (pl_0 _ _) rfl (Nat.le_of_ble_eq_true rfl) dL_law_731 ?_
  refine r_aload_n 2 h dL_law_734 rfl rfl ?_
  refine r_aload_n 0 h dL_law_735 rfl rfl ?_
  show Wx _ _ 736 _ _
  refine r_iload_n 3 h dL_law_736 rfl rfl ?_
  refine r_iconst 1 h dL_law_737 (by decide) ?_
  refine r_iadd h dL_law_738 ?_
  refine r_sl 1 h hX hbl hbA hL (by omega) dL_law_739 ?_
  refine r_aload_n 0 h dL_law_740 rfl rfl ?_
  refine r_iload_n 3 h dL_law_741 rfl rfl ?_
  show Wx _ _ 742 _ _
  refine r_iconst 2 h dL_law_742 (by decide) ?_
  refine r_iadd h dL_law_743 ?_
  refine r_sl 2 h hX hbl hbA hL (by omega) dL_law_744 ?_
  refine r_aload_n 0 h dL_law_745 rfl rfl ?_
  refine r_iload_n 3 h dL_law_746 rfl rfl ?_
  refine r_iconst 3 h dL_law_747 (by decide) ?_
  show Wx _ _ 748 _ _
  refine r_iadd h dL_law_748 ?_
  refine r_sl 3 h hX hbl hbA hL (by omega) dL_law_749 ?_
  refine r_aload_n 0 h dL_law_750 rfl rfl ?_
  refine r_iload_n 3 h dL_law_751 rfl rfl ?_
  refine r_iconst 4 h dL_law_752 (by decide) ?_
  refine r_iadd h dL_law_753 ?_
  show Wx _ _ 754 _ _
  refine r_sl 4 h hX hbl hbA hL (by omega) dL_law_754 ?_
  refine r_aload_n 0 h dL_law_755 rfl rfl ?_
  refine r_iload_n 3 h dL_law_756 rfl rfl ?_
  refine r_iconst 5 h dL_law_757 (by decide) ?_
  refine r_iadd h dL_law_758 ?_
  refine r_sl 5 h hX hbl hbA hL (by omega) dL_law_759 ?_
  show Wx _ _ 760 _ _
  refine cV5 h (mX7_moment _ _ _ (f (i + 1)) (f (i + 2)) (f (i + 3)) (f (i + 4)) (f (i + 5))) kX7_moment lm_L_78 (by decide) 23 (pl_23 _ _) rfl (Nat.le_of_ble_eq_true rfl) dL_law_760 ?_
  refine r_lc_eq_t 905 h dL_law_763 dL_law_764 (by decide) (op_moment hI (f (i + 1)) (f (i + 2)) (f (i + 3)) (f (i + 4)) (f (i + 5))).1 ?_
  exact k _ (op_moment hI (f (i + 1)) (f (i + 2)) (f (i + 3)) (f (i + 4)) (f (i + 5))).2
set_option maxRecDepth 100000 in
set_option maxHeartbeats 4000000 in
theorem law_leaf {X : Fr} {b L i : Nat} {f : Nat → Int32} {S : St} (h : Ok X cL_law RL 2000) (hX : va_X b L f (xs X) (xs X).heap) (hbl : b < (xs X).heap.size) (hbA : ¬ fA (xw X) b) (hL : L ≤ 3072) (hi : i + 6 ≤ L) (hI : Inv S) (k : ∀ T, Inv T → Wx X T 905 [.ref b, .ref (aD (xw X) 0), .ref (aD (xw X) 23), .int (nI i)] []) : Wx X S 769 [.ref b, .ref (aD (xw X) 0), .ref (aD (xw X) 23), .int (nI i)] [] := by
  refine r_aload_n 1 h dL_law_769 rfl rfl ?_
  refine r_aload_n 0 h dL_law_770 rfl rfl ?_
  refine r_iload_n 3 h dL_law_771 rfl rfl ?_
  refine r_iconst 1 h dL_law_772 (by decide) ?_
  refine r_iadd h dL_law_773 ?_
  show Wx _ _ 774 _ _
  refine r_sl 1 h hX hbl hbA hL (by omega) dL_law_774 ?_
  refine r_aload_n 0 h dL_law_775 rfl rfl ?_
  refine r_iload_n 3 h dL_law_776 rfl rfl ?_
  refine r_iconst 2 h dL_law_777 (by decide) ?_
  refine r_iadd h dL_law_778 ?_
  refine r_sl 2 h hX hbl hbA hL (by omega) dL_law_779 ?_
  show Wx _ _ 780 _ _
  refine cV2 h (mX6_leaf _ _ _ (f (i + 1)) (f (i + 2))) kX6_leaf lm_L_79 (by decide) 0 (pl_0 _ _) rfl (Nat.le_of_ble_eq_true rfl) dL_law_780 ?_
  refine r_aload_n 2 h dL_law_783 rfl rfl ?_
  refine r_aload_n 0 h dL_law_784 rfl rfl ?_
  refine r_iload_n 3 h dL_law_785 rfl rfl ?_
  refine r_iconst 1 h dL_law_786 (by decide) ?_
  refine r_iadd h dL_law_787 ?_
  show Wx _ _ 788 _ _
  refine r_sl 1 h hX hbl hbA hL (by omega) dL_law_788 ?_
  refine r_aload_n 0 h dL_law_789 rfl rfl ?_
  refine r_iload_n 3 h dL_law_790 rfl rfl ?_
  refine r_iconst 2 h dL_law_791 (by decide) ?_
  refine r_iadd h dL_law_792 ?_
  refine r_sl 2 h hX hbl hbA hL (by omega) dL_law_793 ?_
  show Wx _ _ 794 _ _
  refine cV2 h (mX7_leaf _ _ _ (f (i + 1)) (f (i + 2))) kX7_leaf lm_L_82 (by decide) 23 (pl_23 _ _) rfl (Nat.le_of_ble_eq_true rfl) dL_law_794 ?_
  refine r_icmp_eq_t 905 h dL_law_797 (by decide) (op_leaf hI (f (i + 1)) (f (i + 2))).1 ?_
  exact k _ (op_leaf hI (f (i + 1)) (f (i + 2))).2
set_option maxRecDepth 100000 in
set_option maxHeartbeats 4000000 in
theorem law_nearest {X : Fr} {b L i : Nat} {f : Nat → Int32} {S : St} (h : Ok X cL_law RL 2000) (hX : va_X b L f (xs X) (xs X).heap) (hbl : b < (xs X).heap.size) (hbA : ¬ fA (xw X) b) (hL : L ≤ 3072) (hi : i + 6 ≤ L) (hI : Inv S) (k : ∀ T, Inv T → Wx X T 905 [.ref b, .ref (aD (xw X) 0), .ref (aD (xw X) 23), .int (nI i)] []) : Wx X S 802 [.ref b, .ref (aD (xw X) 0), .ref (aD (xw X) 23), .int (nI i)] [] := by
  refine r_aload_n 1 h dL_law_802 rfl rfl ?_
  refine r_aload_n 0 h dL_law_803 rfl rfl ?_
  refine r_iload_n 3 h dL_law_804 rfl rfl ?_
  refine r_iconst 1 h dL_law_805 (by decide) ?_
  refine r_iadd h dL_law_806 ?_
  show Wx _ _ 807 _ _
  refine r_sl 1 h hX hbl hbA hL (by omega) dL_law_807 ?_
  refine r_aload_n 0 h dL_law_808 rfl rfl ?_
  refine r_iload_n 3 h dL_law_809 rfl rfl ?_
  refine r_iconst 2 h dL_law_810 (by decide) ?_
  refine r_iadd h dL_law_811 ?_
  refine r_sl 2 h hX hbl hbA hL (by omega) dL_law_812 ?_
  show Wx _ _ 813 _ _
  refine r_aload_n 0 h dL_law_813 rfl rfl ?_
  refine r_iload_n 3 h dL_law_814 rfl rfl ?_
  refine r_iconst 3 h dL_law_815 (by decide) ?_
  refine r_iadd h dL_law_816 ?_
  refine r_sl 3 h hX hbl hbA hL (by omega) dL_law_817 ?_
  refine cV3 h (mX6_nearest _ _ _ (f (i + 1)) (f (i + 2)) (f (i + 3))) kX6_nearest lm_L_83 (by decide) 0 (pl_0 _ _) rfl (Nat.le_of_ble_eq_true rfl) dL_law_818 ?_
  show Wx _ _ 821 _ _
  refine r_aload_n 2 h dL_law_821 rfl rfl ?_
  refine r_aload_n 0 h dL_law_822 rfl rfl ?_
  refine r_iload_n 3 h dL_law_823 rfl rfl ?_
  refine r_iconst 1 h dL_law_824 (by decide) ?_
  refine r_iadd h dL_law_825 ?_
  refine r_sl 1 h hX hbl hbA hL (by omega) dL_law_826 ?_
  show Wx _ _ 827 _ _
  refine r_aload_n 0 h dL_law_827 rfl rfl ?_
  refine r_iload_n 3 h dL_law_828 rfl rfl ?_
  refine r_iconst 2 h dL_law_829 (by decide) ?_
  refine r_iadd h dL_law_830 ?_
  refine r_sl 2 h hX hbl hbA hL (by omega) dL_law_831 ?_
  refine r_aload_n 0 h dL_law_832 rfl rfl ?_
  show Wx _ _ 833 _ _
  refine r_iload_n 3 h dL_law_833 rfl rfl ?_
  refine r_iconst 3 h dL_law_834 (by decide) ?_
  refine r_iadd h dL_law_835 ?_
  refine r_sl 3 h hX hbl hbA hL (by omega) dL_law_836 ?_
  refine cV3 h (mX7_nearest _ _ _ (f (i + 1)) (f (i + 2)) (f (i + 3))) kX7_nearest lm_L_86 (by decide) 23 (pl_23 _ _) rfl (Nat.le_of_ble_eq_true rfl) dL_law_837 ?_
  refine r_icmp_eq_t 905 h dL_law_840 (by decide) (op_nearest hI (f (i + 1)) (f (i + 2)) (f (i + 3))).1 ?_
  exact k _ (op_nearest hI (f (i + 1)) (f (i + 2)) (f (i + 3))).2
set_option maxRecDepth 100000 in
set_option maxHeartbeats 4000000 in
theorem law_step {X : Fr} {b L i : Nat} {f : Nat → Int32} {S : St} (h : Ok X cL_law RL 2000) (hX : va_X b L f (xs X) (xs X).heap) (hbl : b < (xs X).heap.size) (hbA : ¬ fA (xw X) b) (hL : L ≤ 3072) (hi : i + 6 ≤ L) (hI : Inv S) (k : ∀ T, Inv T → Wx X T 905 [.ref b, .ref (aD (xw X) 0), .ref (aD (xw X) 23), .int (nI i)] []) : Wx X S 845 [.ref b, .ref (aD (xw X) 0), .ref (aD (xw X) 23), .int (nI i)] [] := by
  refine r_aload_n 1 h dL_law_845 rfl rfl ?_
  refine r_aload_n 0 h dL_law_846 rfl rfl ?_
  refine r_iload_n 3 h dL_law_847 rfl rfl ?_
  refine r_iconst 1 h dL_law_848 (by decide) ?_
  refine r_iadd h dL_law_849 ?_
  show Wx _ _ 850 _ _
  refine r_sl 1 h hX hbl hbA hL (by omega) dL_law_850 ?_
  refine cV1 h (mX6_step _ _ _ (f (i + 1)) hI.1.1) kX6_step lm_L_87 (by decide) 0 (pl_0 _ _) rfl (Nat.le_of_ble_eq_true rfl) dL_law_851 ?_
  refine r_aload_n 2 h dL_law_854 rfl rfl ?_
  refine r_aload_n 0 h dL_law_855 rfl rfl ?_
  refine r_iload_n 3 h dL_law_856 rfl rfl ?_
  refine r_iconst 1 h dL_law_857 (by decide) ?_
  show Wx _ _ 858 _ _
  refine r_iadd h dL_law_858 ?_
  refine r_sl 1 h hX hbl hbA hL (by omega) dL_law_859 ?_
  refine cV1 h (mX7_step _ _ _ (f (i + 1))) kX7_step lm_L_90 (by decide) 23 (pl_23 _ _) rfl (Nat.le_of_ble_eq_true rfl) dL_law_860 ?_
  refine r_icmp_eq_t 905 h dL_law_863 (by decide) (op_step hI (f (i + 1))).1 ?_
  exact k _ (op_step hI (f (i + 1))).2
set_option maxRecDepth 100000 in
set_option maxHeartbeats 4000000 in
theorem law_count {X : Fr} {b L i : Nat} {f : Nat → Int32} {S : St} (h : Ok X cL_law RL 2000) (hX : va_X b L f (xs X) (xs X).heap) (hbl : b < (xs X).heap.size) (hbA : ¬ fA (xw X) b) (hL : L ≤ 3072) (hi : i + 6 ≤ L) (hI : Inv S) (k : ∀ T, Inv T → Wx X T 905 [.ref b, .ref (aD (xw X) 0), .ref (aD (xw X) 23), .int (nI i)] []) : Wx X S 868 [.ref b, .ref (aD (xw X) 0), .ref (aD (xw X) 23), .int (nI i)] [] := by
  refine r_aload_n 1 h dL_law_868 rfl rfl ?_
  refine r_aload_n 0 h dL_law_869 rfl rfl ?_
  refine r_iload_n 3 h dL_law_870 rfl rfl ?_
  refine r_iconst 1 h dL_law_871 (by decide) ?_
  refine r_iadd h dL_law_872 ?_
  show Wx _ _ 873 _ _
  refine r_sl 1 h hX hbl hbA hL (by omega) dL_law_873 ?_
  refine cV1 h (mX6_count _ _ _ (f (i + 1))) kX6_count lm_L_91 (by decide) 0 (pl_0 _ _) rfl (Nat.le_of_ble_eq_true rfl) dL_law_874 ?_
  refine r_aload_n 2 h dL_law_877 rfl rfl ?_
  refine r_aload_n 0 h dL_law_878 rfl rfl ?_
  refine r_iload_n 3 h dL_law_879 rfl rfl ?_
  refine r_iconst 1 h dL_law_880 (by decide) ?_
  show Wx _ _ 881 _ _
  refine r_iadd h dL_law_881 ?_
  refine r_sl 1 h hX hbl hbA hL (by omega) dL_law_882 ?_
  refine cV1 h (mX7_count _ _ _ (f (i + 1))) kX7_count lm_L_94 (by decide) 23 (pl_23 _ _) rfl (Nat.le_of_ble_eq_true rfl) dL_law_883 ?_
  refine r_icmp_eq_t 905 h dL_law_886 (by decide) (op_count hI (f (i + 1))).1 ?_
  exact k _ (op_count hI (f (i + 1))).2
set_option maxRecDepth 100000 in
set_option maxHeartbeats 4000000 in
theorem law_digest {X : Fr} {b L i : Nat} {f : Nat → Int32} {S : St} (h : Ok X cL_law RL 2000) (hX : va_X b L f (xs X) (xs X).heap) (hbl : b < (xs X).heap.size) (hbA : ¬ fA (xw X) b) (hL : L ≤ 3072) (hi : i + 6 ≤ L) (hI : Inv S) (k : ∀ T, Inv T → Wx X T 905 [.ref b, .ref (aD (xw X) 0), .ref (aD (xw X) 23), .int (nI i)] []) : Wx X S 891 [.ref b, .ref (aD (xw X) 0), .ref (aD (xw X) 23), .int (nI i)] [] := by
  refine r_aload_n 1 h dL_law_891 rfl rfl ?_
  refine cV0 h (mX6_digest _ _ _) kX6_digest lm_L_95 (by decide) 0 (pl_0 _ _) rfl (Nat.le_of_ble_eq_true rfl) dL_law_892 ?_
  refine r_aload_n 2 h dL_law_895 rfl rfl ?_
  refine cV0 h (mX7_digest _ _ _) kX7_digest lm_L_99 (by decide) 23 (pl_23 _ _) rfl (Nat.le_of_ble_eq_true rfl) dL_law_896 ?_
  refine r_lc_eq_t 905 h dL_law_899 dL_law_900 (by decide) (op_digest hI).1 ?_
  exact k _ (op_digest hI).2
set_option maxRecDepth 100000 in
set_option maxHeartbeats 4000000 in
theorem law_one {X : Fr} {b L i : Nat} {f : Nat → Int32} {S : St} (h : Ok X cL_law RL 2000) (hX : va_X b L f (xs X) (xs X).heap) (hbl : b < (xs X).heap.size) (hbA : ¬ fA (xw X) b) (hL : L ≤ 3072) (hi : i + 6 ≤ L) (hI : Inv S) (k : ∀ T, Inv T → Wx X T 905 [.ref b, .ref (aD (xw X) 0), .ref (aD (xw X) 23), .int (nI i)] []) : Wx X S 27 [.ref b, .ref (aD (xw X) 0), .ref (aD (xw X) 23), .int (nI i)] [] := by
  refine r_aload_n 0 h dL_law_27 rfl rfl ?_
  refine r_iload_n 3 h dL_law_28 rfl rfl ?_
  refine r_sl0 h hX hbl hbA hL (by omega) dL_law_29 ?_
  refine r_bipush 31 h dL_law_30 (by decide) ?_
  refine r_iand h dL_law_32 ?_
  show Wx _ _ 33 _ _
  refine r_sw19 905 124 167 190 233 266 309 342 385 408 442 506 589 652 705 769 802 845 868 891 h dL_law_33 (by decide) (by decide) (by decide) (by decide) (by decide) (by decide) (by decide) (by decide) (by decide) (by decide) (by decide) (by decide) (by decide) (by decide) (by decide) (by decide) (by decide) (by decide) (by decide) (by decide) (fun _ => ?_) (fun _ => ?_) (fun _ => ?_) (fun _ => ?_) (fun _ => ?_) (fun _ => ?_) (fun _ => ?_) (fun _ => ?_) (fun _ => ?_) (fun _ => ?_) (fun _ => ?_) (fun _ => ?_) (fun _ => ?_) (fun _ => ?_) (fun _ => ?_) (fun _ => ?_) (fun _ => ?_) (fun _ => ?_) (fun _ => ?_) (fun _ => ?_)
  · exact k S hI
  · exact law_point h hX hbl hbA hL hi hI k
  · exact law_take h hX hbl hbA hL hi hI k
  · exact law_move h hX hbl hbA hL hi hI k
  · exact law_weigh h hX hbl hbA hL hi hI k
  · exact law_pace h hX hbl hbA hL hi hI k
  · exact law_at h hX hbl hbA hL hi hI k
  · exact law_kernel h hX hbl hbA hL hi hI k
  · exact law_capacity h hX hbl hbA hL hi hI k
  · exact law_sum h hX hbl hbA hL hi hI k
  · exact law_across h hX hbl hbA hL hi hI k
  · exact law_order h hX hbl hbA hL hi hI k
  · exact law_way h hX hbl hbA hL hi hI k
  · exact law_box h hX hbl hbA hL hi hI k
  · exact law_moment h hX hbl hbA hL hi hI k
  · exact law_leaf h hX hbl hbA hL hi hI k
  · exact law_nearest h hX hbl hbA hL hi hI k
  · exact law_step h hX hbl hbA hL hi hI k
  · exact law_count h hX hbl hbA hL hi hI k
  · exact law_digest h hX hbl hbA hL hi hI k
theorem sub6 {L : Nat} (hL : L ≤ 3072) : (nI L - 6).toInt = (L : Int) - 6 := pk_sub_toInt (a := L) (b := 6) (by omega) (by omega)
theorem end6 {L i : Nat} (hL : L ≤ 3072) (hi : i ≤ 4000) : nI L - 6 < nI i ↔ L < i + 6 := by
  rw [Int32.lt_iff_toInt_lt, sub6 hL, nI_toInt (by omega)]; omega
set_option maxRecDepth 100000 in
set_option maxHeartbeats 4000000 in
theorem law_loop {X : Fr} {b L : Nat} {f : Nat → Int32} (h : Ok X cL_law RL 2000) (hX : va_X b L f (xs X) (xs X).heap) (hbl : b < (xs X).heap.size) (hbA : ¬ fA (xw X) b) (hL : L ≤ 3072) (hret : ∀ (S : St) (lv : List Value), Wx X S 912 lv [.int 1]) : ∀ (n i : Nat) (S : St), Inv S → L ≤ i + 6 * n → i ≤ L + 6 → Wx X S 18 [.ref b, .ref (aD (xw X) 0), .ref (aD (xw X) 23), .int (nI i)] [] := by
  intro n
  induction n with
  | zero =>
    intro i S hI hn hi
    refine r_iload_n 3 h dL_law_18 rfl rfl ?_
    refine r_aload_n 0 h dL_law_19 rfl rfl ?_
    refine r_slen h hX hbl hbA dL_law_20 ?_
    refine r_bipush 6 h dL_law_21 (by decide) ?_
    refine r_isub h dL_law_23 ?_
    refine r_icmp_gt_t 911 h dL_law_24 (by decide) ((end6 hL (by omega)).mpr (by omega)) ?_
    refine r_iconst 1 h dL_law_911 (by decide) ?_
    exact hret S _
  | succ n ih =>
    intro i S hI hn hi
    refine r_iload_n 3 h dL_law_18 rfl rfl ?_
    refine r_aload_n 0 h dL_law_19 rfl rfl ?_
    refine r_slen h hX hbl hbA dL_law_20 ?_
    refine r_bipush 6 h dL_law_21 (by decide) ?_
    refine r_isub h dL_law_23 ?_
    refine r_icmp_gt 911 h dL_law_24 (by decide) (fun c24 => ?_) (fun c24 => ?_)
    · refine r_iconst 1 h dL_law_911 (by decide) ?_
      exact hret S _
    · have hi6 : i + 6 ≤ L := by
        rcases Nat.lt_or_ge L (i + 6) with z | z
        · exact absurd ((end6 hL (by omega)).mpr z) c24
        · exact z
      refine law_one h hX hbl hbA hL hi6 hI (fun T hT => ?_)
      refine r_iinc 6 h dL_law_905 (by decide) rfl ?_
      show Wx X T 908 [.ref b, .ref (aD (xw X) 0), .ref (aD (xw X) 23), .int (nI i + nI 6)] []
      rw [nI_add]
      refine r_goto 18 h dL_law_908 (by decide) ?_
      exact ih (i + 6) T hT (by omega) (by omega)
