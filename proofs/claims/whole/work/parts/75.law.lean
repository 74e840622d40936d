/-! THE LAW: one step of the script, by its 27 kinds -/
def muL : zM := (RL, cL_law, 4, wsL_law, ret, false)
def QL : zQ := fun r _ _ _ _ => r = some (.int 1)
theorem and31 (x : Int32) : ∃ v : Nat, v < 32 ∧ x &&& nI 31 = nI v := by
  refine ⟨x.toBitVec.toNat % 32, Nat.mod_lt _ (by decide), ?_⟩
  apply Int32.toBitVec_inj.1
  apply BitVec.eq_of_toNat_eq
  rw [Int32.toBitVec_and, BitVec.toNat_and]
  show x.toBitVec.toNat &&& 31 = (x.toBitVec.toNat % 32) % 2 ^ 32
  rw [show (31 : Nat) = 2 ^ 5 - 1 from rfl, Nat.and_two_pow_sub_one_eq_mod]
  omega
section LAW
variable {p : Program} {e : Env} {s : State} {m : MethodId} {args : Array Value} {below : List Frame} {meth : Method} {c : Code} {G : zG} {n : Nat} {T : zTT} {I : zII} {R : zRR}
theorem l_arg {M : zM} {P : zP} {Q : zQ} {k w pc q : Nat} {ls : List (Nat × Value)} {st : List Value} {kc : Int} {b L0 i : Nat} (j : Nat) {xs : Nat → Int32} (hX : va_X b L0 xs s s.heap) (hbl : b < s.heap.size) (hG : G.2.2 = s.heap.size) (hL0 : L0 ≤ 3072) (hj : i + j < L0) (hk : Int32.ofInt kc = nI j) (h0 : zg ls 0 = some (.ref b)) (h3 : zg ls 3 = some (.int (nI i))) (hd0 : decode M.2.1 pc = .ok (.aload_n 0, 1)) (hd1 : decode M.2.1 (pc + 1) = .ok (.iload_n 3, 1)) (hd2 : decode M.2.1 (pc + 2) = .ok (.iconst kc, 1)) (hd3 : decode M.2.1 (pc + 3) = .ok (.iadd, 1)) (hd4 : decode M.2.1 (pc + 4) = .ok (.iaload, 1)) (hq : pc + 5 = q) (kk : z_L p e s m args below meth c G M P Q n T I R k w q ls (.int (xs (i + j)) :: st)) : z_L p e s m args below meth c G M P Q n T I R k w pc ls st := by
  subst hq
  refine l_aload_n (q := pc + 1) hd0 rfl h0 rfl ?_
  refine l_iload_n (q := pc + 2) hd1 rfl h3 rfl ?_
  refine l_iconst (q := pc + 3) hd2 hk rfl ?_
  refine l_iaddE (q := pc + 4) (v := nI (i + j)) hd3 (nI_add _ _) rfl ?_
  exact l_sld (i + j) hX hbl hG rfl hj (by omega) hd4 rfl kk
variable {b L0 i x d : Nat} {xs : Nat → Int32}
theorem law_room (hX : va_X b L0 xs s s.heap) (hbl : b < s.heap.size) (hG : G.2.2 = s.heap.size) (hL0 : L0 ≤ 3072) (hi : i + 6 ≤ L0) (hm : d = x + 595) (hT7 : T x = some (.inl 7)) (hT8 : T d = some (.inl 8)) (hS : LSt T x d I R) (kk : ∀ (I' : zII) (R' : zRR), LSt T x d I' R' → z_L p e s m args below meth c G muL (10, 600000, 7302250) QL n T I' R' 603 8847 967 [(0, .ref b), (1, .ref x), (2, .ref d), (3, .int (nI i))] []) : z_L p e s m args below meth c G muL (10, 600000, 7302250) QL n T I R 603 8847 156 [(0, .ref b), (1, .ref x), (2, .ref d), (3, .int (nI i))] [] := by
  obtain ⟨a, A, h7, h8⟩ := ag_room (G := G) (n := n) hm hS (xs (i + 1)) (xs (i + 2))
  refine l_aload_n (q := 157) dL_law_156 rfl rfl rfl ?_
  refine l_arg (q := 162) 1 hX hbl hG hL0 (by omega) (by rfl) rfl rfl dL_law_157 dL_law_158 dL_law_159 dL_law_160 dL_law_161 rfl ?_
  refine l_arg (q := 167) 2 hX hbl hG hL0 (by omega) (by rfl) rfl rfl dL_law_162 dL_law_163 dL_law_164 dL_law_165 dL_law_166 rfl ?_
  refine l_invV' (q := 170) (ci := 7) h7 hT7 rfl gL_law_X7_room rfl hy_X7_room rfl rfl rfl rfl (Nat.le_of_ble_eq_true rfl) (by decide) dL_law_167 rfl (l_rvR fun I1 R1 hA => ?_)
  refine l_aload_n (q := 171) dL_law_170 rfl rfl rfl ?_
  refine l_arg (q := 176) 1 hX hbl hG hL0 (by omega) (by rfl) rfl rfl dL_law_171 dL_law_172 dL_law_173 dL_law_174 dL_law_175 rfl ?_
  refine l_arg (q := 181) 2 hX hbl hG hL0 (by omega) (by rfl) rfl rfl dL_law_176 dL_law_177 dL_law_178 dL_law_179 dL_law_180 rfl ?_
  refine l_invV' (q := 184) (ci := 8) (h8 I1 R1 hA) hT8 rfl gL_law_X8_room rfl hy_X8_room rfl rfl rfl rfl (Nat.le_of_ble_eq_true rfl) (by decide) dL_law_181 rfl (l_rvR fun I2 R2 hB => ?_)
  exact l_icmp_eq (tgt := 967) (q := 187) dL_law_184 (by decide) rfl (fun _ => kk I2 R2 hB) (fun h => absurd rfl h)
theorem law_door (hX : va_X b L0 xs s s.heap) (hbl : b < s.heap.size) (hG : G.2.2 = s.heap.size) (hL0 : L0 ≤ 3072) (hi : i + 6 ≤ L0) (hm : d = x + 595) (hT7 : T x = some (.inl 7)) (hT8 : T d = some (.inl 8)) (hS : LSt T x d I R) (kk : ∀ (I' : zII) (R' : zRR), LSt T x d I' R' → z_L p e s m args below meth c G muL (10, 600000, 7302250) QL n T I' R' 603 8847 967 [(0, .ref b), (1, .ref x), (2, .ref d), (3, .int (nI i))] []) : z_L p e s m args below meth c G muL (10, 600000, 7302250) QL n T I R 603 8847 189 [(0, .ref b), (1, .ref x), (2, .ref d), (3, .int (nI i))] [] := by
  obtain ⟨a, A, h7, h8⟩ := ag_door (G := G) (n := n) hm hS (xs (i + 1)) (xs (i + 2)) (xs (i + 3)) (xs (i + 4)) (xs (i + 5))
  refine l_aload_n (q := 190) dL_law_189 rfl rfl rfl ?_
  refine l_arg (q := 195) 1 hX hbl hG hL0 (by omega) (by rfl) rfl rfl dL_law_190 dL_law_191 dL_law_192 dL_law_193 dL_law_194 rfl ?_
  refine l_arg (q := 200) 2 hX hbl hG hL0 (by omega) (by rfl) rfl rfl dL_law_195 dL_law_196 dL_law_197 dL_law_198 dL_law_199 rfl ?_
  refine l_arg (q := 205) 3 hX hbl hG hL0 (by omega) (by rfl) rfl rfl dL_law_200 dL_law_201 dL_law_202 dL_law_203 dL_law_204 rfl ?_
  refine l_arg (q := 210) 4 hX hbl hG hL0 (by omega) (by rfl) rfl rfl dL_law_205 dL_law_206 dL_law_207 dL_law_208 dL_law_209 rfl ?_
  refine l_arg (q := 215) 5 hX hbl hG hL0 (by omega) (by rfl) rfl rfl dL_law_210 dL_law_211 dL_law_212 dL_law_213 dL_law_214 rfl ?_
  refine l_invV' (q := 218) (ci := 7) h7 hT7 rfl gL_law_X7_door rfl hy_X7_door rfl rfl rfl rfl (Nat.le_of_ble_eq_true rfl) (by decide) dL_law_215 rfl (l_rvR fun I1 R1 hA => ?_)
  refine l_aload_n (q := 219) dL_law_218 rfl rfl rfl ?_
  refine l_arg (q := 224) 1 hX hbl hG hL0 (by omega) (by rfl) rfl rfl dL_law_219 dL_law_220 dL_law_221 dL_law_222 dL_law_223 rfl ?_
  refine l_arg (q := 229) 2 hX hbl hG hL0 (by omega) (by rfl) rfl rfl dL_law_224 dL_law_225 dL_law_226 dL_law_227 dL_law_228 rfl ?_
  refine l_arg (q := 234) 3 hX hbl hG hL0 (by omega) (by rfl) rfl rfl dL_law_229 dL_law_230 dL_law_231 dL_law_232 dL_law_233 rfl ?_
  refine l_arg (q := 239) 4 hX hbl hG hL0 (by omega) (by rfl) rfl rfl dL_law_234 dL_law_235 dL_law_236 dL_law_237 dL_law_238 rfl ?_
  refine l_arg (q := 244) 5 hX hbl hG hL0 (by omega) (by rfl) rfl rfl dL_law_239 dL_law_240 dL_law_241 dL_law_242 dL_law_243 rfl ?_
  refine l_invV' (q := 247) (ci := 8) (h8 I1 R1 hA) hT8 rfl gL_law_X8_door rfl hy_X8_door rfl rfl rfl rfl (Nat.le_of_ble_eq_true rfl) (by decide) dL_law_244 rfl (l_rvR fun I2 R2 hB => ?_)
  exact l_icmp_eq (tgt := 967) (q := 250) dL_law_247 (by decide) rfl (fun _ => kk I2 R2 hB) (fun h => absurd rfl h)
theorem law_open (hX : va_X b L0 xs s s.heap) (hbl : b < s.heap.size) (hG : G.2.2 = s.heap.size) (hL0 : L0 ≤ 3072) (hi : i + 6 ≤ L0) (hm : d = x + 595) (hT7 : T x = some (.inl 7)) (hT8 : T d = some (.inl 8)) (hS : LSt T x d I R) (kk : ∀ (I' : zII) (R' : zRR), LSt T x d I' R' → z_L p e s m args below meth c G muL (10, 600000, 7302250) QL n T I' R' 603 8847 967 [(0, .ref b), (1, .ref x), (2, .ref d), (3, .int (nI i))] []) : z_L p e s m args below meth c G muL (10, 600000, 7302250) QL n T I R 603 8847 252 [(0, .ref b), (1, .ref x), (2, .ref d), (3, .int (nI i))] [] := by
  obtain ⟨a, A, h7, h8⟩ := ag_open (G := G) (n := n) hm hS (xs (i + 1)) (xs (i + 2))
  refine l_aload_n (q := 253) dL_law_252 rfl rfl rfl ?_
  refine l_arg (q := 258) 1 hX hbl hG hL0 (by omega) (by rfl) rfl rfl dL_law_253 dL_law_254 dL_law_255 dL_law_256 dL_law_257 rfl ?_
  refine l_arg (q := 263) 2 hX hbl hG hL0 (by omega) (by rfl) rfl rfl dL_law_258 dL_law_259 dL_law_260 dL_law_261 dL_law_262 rfl ?_
  refine l_invV' (q := 266) (ci := 7) h7 hT7 rfl gL_law_X7_open rfl hy_X7_open rfl rfl rfl rfl (Nat.le_of_ble_eq_true rfl) (by decide) dL_law_263 rfl (l_rvR fun I1 R1 hA => ?_)
  refine l_aload_n (q := 267) dL_law_266 rfl rfl rfl ?_
  refine l_arg (q := 272) 1 hX hbl hG hL0 (by omega) (by rfl) rfl rfl dL_law_267 dL_law_268 dL_law_269 dL_law_270 dL_law_271 rfl ?_
  refine l_arg (q := 277) 2 hX hbl hG hL0 (by omega) (by rfl) rfl rfl dL_law_272 dL_law_273 dL_law_274 dL_law_275 dL_law_276 rfl ?_
  refine l_invV' (q := 280) (ci := 8) (h8 I1 R1 hA) hT8 rfl gL_law_X8_open rfl hy_X8_open rfl rfl rfl rfl (Nat.le_of_ble_eq_true rfl) (by decide) dL_law_277 rfl (l_rvR fun I2 R2 hB => ?_)
  exact l_icmp_eq (tgt := 967) (q := 283) dL_law_280 (by decide) rfl (fun _ => kk I2 R2 hB) (fun h => absurd rfl h)
theorem law_refusal (hX : va_X b L0 xs s s.heap) (hbl : b < s.heap.size) (hG : G.2.2 = s.heap.size) (hL0 : L0 ≤ 3072) (hi : i + 6 ≤ L0) (hm : d = x + 595) (hT7 : T x = some (.inl 7)) (hT8 : T d = some (.inl 8)) (hS : LSt T x d I R) (kk : ∀ (I' : zII) (R' : zRR), LSt T x d I' R' → z_L p e s m args below meth c G muL (10, 600000, 7302250) QL n T I' R' 603 8847 967 [(0, .ref b), (1, .ref x), (2, .ref d), (3, .int (nI i))] []) : z_L p e s m args below meth c G muL (10, 600000, 7302250) QL n T I R 603 8847 285 [(0, .ref b), (1, .ref x), (2, .ref d), (3, .int (nI i))] [] := by
  obtain ⟨a, A, h7, h8⟩ := ag_refusal (G := G) (n := n) hm hS (xs (i + 1)) (xs (i + 2))
  refine l_aload_n (q := 286) dL_law_285 rfl rfl rfl ?_
  refine l_arg (q := 291) 1 hX hbl hG hL0 (by omega) (by rfl) rfl rfl dL_law_286 dL_law_287 dL_law_288 dL_law_289 dL_law_290 rfl ?_
  refine l_arg (q := 296) 2 hX hbl hG hL0 (by omega) (by rfl) rfl rfl dL_law_291 dL_law_292 dL_law_293 dL_law_294 dL_law_295 rfl ?_
  refine l_invV' (q := 299) (ci := 7) h7 hT7 rfl gL_law_X7_refusal rfl hy_X7_refusal rfl rfl rfl rfl (Nat.le_of_ble_eq_true rfl) (by decide) dL_law_296 rfl (l_rvR fun I1 R1 hA => ?_)
  refine l_aload_n (q := 300) dL_law_299 rfl rfl rfl ?_
  refine l_arg (q := 305) 1 hX hbl hG hL0 (by omega) (by rfl) rfl rfl dL_law_300 dL_law_301 dL_law_302 dL_law_303 dL_law_304 rfl ?_
  refine l_arg (q := 310) 2 hX hbl hG hL0 (by omega) (by rfl) rfl rfl dL_law_305 dL_law_306 dL_law_307 dL_law_308 dL_law_309 rfl ?_
  refine l_invV' (q := 313) (ci := 8) (h8 I1 R1 hA) hT8 rfl gL_law_X8_refusal rfl hy_X8_refusal rfl rfl rfl rfl (Nat.le_of_ble_eq_true rfl) (by decide) dL_law_310 rfl (l_rvR fun I2 R2 hB => ?_)
  exact l_icmp_eq (tgt := 967) (q := 316) dL_law_313 (by decide) rfl (fun _ => kk I2 R2 hB) (fun h => absurd rfl h)
theorem law_lock (hX : va_X b L0 xs s s.heap) (hbl : b < s.heap.size) (hG : G.2.2 = s.heap.size) (hL0 : L0 ≤ 3072) (hi : i + 6 ≤ L0) (hm : d = x + 595) (hT7 : T x = some (.inl 7)) (hT8 : T d = some (.inl 8)) (hS : LSt T x d I R) (kk : ∀ (I' : zII) (R' : zRR), LSt T x d I' R' → z_L p e s m args below meth c G muL (10, 600000, 7302250) QL n T I' R' 603 8847 967 [(0, .ref b), (1, .ref x), (2, .ref d), (3, .int (nI i))] []) : z_L p e s m args below meth c G muL (10, 600000, 7302250) QL n T I R 603 8847 318 [(0, .ref b), (1, .ref x), (2, .ref d), (3, .int (nI i))] [] := by
  obtain ⟨a, A, h7, h8⟩ := ag_lock (G := G) (n := n) hm hS (xs (i + 1)) (xs (i + 2))
  refine l_aload_n (q := 319) dL_law_318 rfl rfl rfl ?_
  refine l_arg (q := 324) 1 hX hbl hG hL0 (by omega) (by rfl) rfl rfl dL_law_319 dL_law_320 dL_law_321 dL_law_322 dL_law_323 rfl ?_
  refine l_arg (q := 329) 2 hX hbl hG hL0 (by omega) (by rfl) rfl rfl dL_law_324 dL_law_325 dL_law_326 dL_law_327 dL_law_328 rfl ?_
  refine l_invV' (q := 332) (ci := 7) h7 hT7 rfl gL_law_X7_lock rfl hy_X7_lock rfl rfl rfl rfl (Nat.le_of_ble_eq_true rfl) (by decide) dL_law_329 rfl (l_rvR fun I1 R1 hA => ?_)
  refine l_aload_n (q := 333) dL_law_332 rfl rfl rfl ?_
  refine l_arg (q := 338) 1 hX hbl hG hL0 (by omega) (by rfl) rfl rfl dL_law_333 dL_law_334 dL_law_335 dL_law_336 dL_law_337 rfl ?_
  refine l_arg (q := 343) 2 hX hbl hG hL0 (by omega) (by rfl) rfl rfl dL_law_338 dL_law_339 dL_law_340 dL_law_341 dL_law_342 rfl ?_
  refine l_invV' (q := 346) (ci := 8) (h8 I1 R1 hA) hT8 rfl gL_law_X8_lock rfl hy_X8_lock rfl rfl rfl rfl (Nat.le_of_ble_eq_true rfl) (by decide) dL_law_343 rfl (l_rvR fun I2 R2 hB => ?_)
  exact l_icmp_eq (tgt := 967) (q := 349) dL_law_346 (by decide) rfl (fun _ => kk I2 R2 hB) (fun h => absurd rfl h)
theorem law_set (hX : va_X b L0 xs s s.heap) (hbl : b < s.heap.size) (hG : G.2.2 = s.heap.size) (hL0 : L0 ≤ 3072) (hi : i + 6 ≤ L0) (hm : d = x + 595) (hT7 : T x = some (.inl 7)) (hT8 : T d = some (.inl 8)) (hS : LSt T x d I R) (kk : ∀ (I' : zII) (R' : zRR), LSt T x d I' R' → z_L p e s m args below meth c G muL (10, 600000, 7302250) QL n T I' R' 603 8847 967 [(0, .ref b), (1, .ref x), (2, .ref d), (3, .int (nI i))] []) : z_L p e s m args below meth c G muL (10, 600000, 7302250) QL n T I R 603 8847 351 [(0, .ref b), (1, .ref x), (2, .ref d), (3, .int (nI i))] [] := by
  obtain ⟨a, A, h7, h8⟩ := ag_set (G := G) (n := n) hm hS (xs (i + 1)) (xs (i + 2))
  refine l_aload_n (q := 352) dL_law_351 rfl rfl rfl ?_
  refine l_arg (q := 357) 1 hX hbl hG hL0 (by omega) (by rfl) rfl rfl dL_law_352 dL_law_353 dL_law_354 dL_law_355 dL_law_356 rfl ?_
  refine l_arg (q := 362) 2 hX hbl hG hL0 (by omega) (by rfl) rfl rfl dL_law_357 dL_law_358 dL_law_359 dL_law_360 dL_law_361 rfl ?_
  refine l_invV' (q := 365) (ci := 7) h7 hT7 rfl gL_law_X7_set rfl hy_X7_set rfl rfl rfl rfl (Nat.le_of_ble_eq_true rfl) (by decide) dL_law_362 rfl (l_rvR fun I1 R1 hA => ?_)
  refine l_aload_n (q := 366) dL_law_365 rfl rfl rfl ?_
  refine l_arg (q := 371) 1 hX hbl hG hL0 (by omega) (by rfl) rfl rfl dL_law_366 dL_law_367 dL_law_368 dL_law_369 dL_law_370 rfl ?_
  refine l_arg (q := 376) 2 hX hbl hG hL0 (by omega) (by rfl) rfl rfl dL_law_371 dL_law_372 dL_law_373 dL_law_374 dL_law_375 rfl ?_
  refine l_invV' (q := 379) (ci := 8) (h8 I1 R1 hA) hT8 rfl gL_law_X8_set rfl hy_X8_set rfl rfl rfl rfl (Nat.le_of_ble_eq_true rfl) (by decide) dL_law_376 rfl (l_rvR fun I2 R2 hB => ?_)
  exact l_icmp_eq (tgt := 967) (q := 382) dL_law_379 (by decide) rfl (fun _ => kk I2 R2 hB) (fun h => absurd rfl h)
theorem law_roomOf (hX : va_X b L0 xs s s.heap) (hbl : b < s.heap.size) (hG : G.2.2 = s.heap.size) (hL0 : L0 ≤ 3072) (hi : i + 6 ≤ L0) (hm : d = x + 595) (hT7 : T x = some (.inl 7)) (hT8 : T d = some (.inl 8)) (hS : LSt T x d I R) (kk : ∀ (I' : zII) (R' : zRR), LSt T x d I' R' → z_L p e s m args below meth c G muL (10, 600000, 7302250) QL n T I' R' 603 8847 967 [(0, .ref b), (1, .ref x), (2, .ref d), (3, .int (nI i))] []) : z_L p e s m args below meth c G muL (10, 600000, 7302250) QL n T I R 603 8847 384 [(0, .ref b), (1, .ref x), (2, .ref d), (3, .int (nI i))] [] := by
  obtain ⟨a, A, h7, h8⟩ := ag_roomOf (G := G) (n := n) hm hS (xs (i + 1)) (xs (i + 2))
  refine l_aload_n (q := 385) dL_law_384 rfl rfl rfl ?_
  refine l_arg (q := 390) 1 hX hbl hG hL0 (by omega) (by rfl) rfl rfl dL_law_385 dL_law_386 dL_law_387 dL_law_388 dL_law_389 rfl ?_
  refine l_arg (q := 395) 2 hX hbl hG hL0 (by omega) (by rfl) rfl rfl dL_law_390 dL_law_391 dL_law_392 dL_law_393 dL_law_394 rfl ?_
  refine l_invV' (q := 398) (ci := 7) h7 hT7 rfl gL_law_X7_roomOf rfl hy_X7_roomOf rfl rfl rfl rfl (Nat.le_of_ble_eq_true rfl) (by decide) dL_law_395 rfl (l_rvR fun I1 R1 hA => ?_)
  refine l_aload_n (q := 399) dL_law_398 rfl rfl rfl ?_
  refine l_arg (q := 404) 1 hX hbl hG hL0 (by omega) (by rfl) rfl rfl dL_law_399 dL_law_400 dL_law_401 dL_law_402 dL_law_403 rfl ?_
  refine l_arg (q := 409) 2 hX hbl hG hL0 (by omega) (by rfl) rfl rfl dL_law_404 dL_law_405 dL_law_406 dL_law_407 dL_law_408 rfl ?_
  refine l_invV' (q := 412) (ci := 8) (h8 I1 R1 hA) hT8 rfl gL_law_X8_roomOf rfl hy_X8_roomOf rfl rfl rfl rfl (Nat.le_of_ble_eq_true rfl) (by decide) dL_law_409 rfl (l_rvR fun I2 R2 hB => ?_)
  exact l_icmp_eq (tgt := 967) (q := 415) dL_law_412 (by decide) rfl (fun _ => kk I2 R2 hB) (fun h => absurd rfl h)
theorem law_doorOf (hX : va_X b L0 xs s s.heap) (hbl : b < s.heap.size) (hG : G.2.2 = s.heap.size) (hL0 : L0 ≤ 3072) (hi : i + 6 ≤ L0) (hm : d = x + 595) (hT7 : T x = some (.inl 7)) (hT8 : T d = some (.inl 8)) (hS : LSt T x d I R) (kk : ∀ (I' : zII) (R' : zRR), LSt T x d I' R' → z_L p e s m args below meth c G muL (10, 600000, 7302250) QL n T I' R' 603 8847 967 [(0, .ref b), (1, .ref x), (2, .ref d), (3, .int (nI i))] []) : z_L p e s m args below meth c G muL (10, 600000, 7302250) QL n T I R 603 8847 417 [(0, .ref b), (1, .ref x), (2, .ref d), (3, .int (nI i))] [] := by
  obtain ⟨a, A, h7, h8⟩ := ag_doorOf (G := G) (n := n) hm hS (xs (i + 1)) (xs (i + 2))
  refine l_aload_n (q := 418) dL_law_417 rfl rfl rfl ?_
  refine l_arg (q := 423) 1 hX hbl hG hL0 (by omega) (by rfl) rfl rfl dL_law_418 dL_law_419 dL_law_420 dL_law_421 dL_law_422 rfl ?_
  refine l_arg (q := 428) 2 hX hbl hG hL0 (by omega) (by rfl) rfl rfl dL_law_423 dL_law_424 dL_law_425 dL_law_426 dL_law_427 rfl ?_
  refine l_invV' (q := 431) (ci := 7) h7 hT7 rfl gL_law_X7_doorOf rfl hy_X7_doorOf rfl rfl rfl rfl (Nat.le_of_ble_eq_true rfl) (by decide) dL_law_428 rfl (l_rvR fun I1 R1 hA => ?_)
  refine l_aload_n (q := 432) dL_law_431 rfl rfl rfl ?_
  refine l_arg (q := 437) 1 hX hbl hG hL0 (by omega) (by rfl) rfl rfl dL_law_432 dL_law_433 dL_law_434 dL_law_435 dL_law_436 rfl ?_
  refine l_arg (q := 442) 2 hX hbl hG hL0 (by omega) (by rfl) rfl rfl dL_law_437 dL_law_438 dL_law_439 dL_law_440 dL_law_441 rfl ?_
  refine l_invV' (q := 445) (ci := 8) (h8 I1 R1 hA) hT8 rfl gL_law_X8_doorOf rfl hy_X8_doorOf rfl rfl rfl rfl (Nat.le_of_ble_eq_true rfl) (by decide) dL_law_442 rfl (l_rvR fun I2 R2 hB => ?_)
  exact l_icmp_eq (tgt := 967) (q := 448) dL_law_445 (by decide) rfl (fun _ => kk I2 R2 hB) (fun h => absurd rfl h)
theorem law_count (hX : va_X b L0 xs s s.heap) (hbl : b < s.heap.size) (hG : G.2.2 = s.heap.size) (hL0 : L0 ≤ 3072) (hi : i + 6 ≤ L0) (hm : d = x + 595) (hT7 : T x = some (.inl 7)) (hT8 : T d = some (.inl 8)) (hS : LSt T x d I R) (kk : ∀ (I' : zII) (R' : zRR), LSt T x d I' R' → z_L p e s m args below meth c G muL (10, 600000, 7302250) QL n T I' R' 603 8847 967 [(0, .ref b), (1, .ref x), (2, .ref d), (3, .int (nI i))] []) : z_L p e s m args below meth c G muL (10, 600000, 7302250) QL n T I R 603 8847 450 [(0, .ref b), (1, .ref x), (2, .ref d), (3, .int (nI i))] [] := by
  obtain ⟨a, A, h7, h8⟩ := ag_count (G := G) (n := n) hm hS (xs (i + 1))
  refine l_aload_n (q := 451) dL_law_450 rfl rfl rfl ?_
  refine l_arg (q := 456) 1 hX hbl hG hL0 (by omega) (by rfl) rfl rfl dL_law_451 dL_law_452 dL_law_453 dL_law_454 dL_law_455 rfl ?_
  refine l_invV' (q := 459) (ci := 7) h7 hT7 rfl gL_law_X7_count rfl hy_X7_count rfl rfl rfl rfl (Nat.le_of_ble_eq_true rfl) (by decide) dL_law_456 rfl (l_rvR fun I1 R1 hA => ?_)
  refine l_aload_n (q := 460) dL_law_459 rfl rfl rfl ?_
  refine l_arg (q := 465) 1 hX hbl hG hL0 (by omega) (by rfl) rfl rfl dL_law_460 dL_law_461 dL_law_462 dL_law_463 dL_law_464 rfl ?_
  refine l_invV' (q := 468) (ci := 8) (h8 I1 R1 hA) hT8 rfl gL_law_X8_count rfl hy_X8_count rfl rfl rfl rfl (Nat.le_of_ble_eq_true rfl) (by decide) dL_law_465 rfl (l_rvR fun I2 R2 hB => ?_)
  exact l_icmp_eq (tgt := 967) (q := 471) dL_law_468 (by decide) rfl (fun _ => kk I2 R2 hB) (fun h => absurd rfl h)
theorem law_undo (hX : va_X b L0 xs s s.heap) (hbl : b < s.heap.size) (hG : G.2.2 = s.heap.size) (hL0 : L0 ≤ 3072) (hi : i + 6 ≤ L0) (hm : d = x + 595) (hT7 : T x = some (.inl 7)) (hT8 : T d = some (.inl 8)) (hS : LSt T x d I R) (kk : ∀ (I' : zII) (R' : zRR), LSt T x d I' R' → z_L p e s m args below meth c G muL (10, 600000, 7302250) QL n T I' R' 603 8847 967 [(0, .ref b), (1, .ref x), (2, .ref d), (3, .int (nI i))] []) : z_L p e s m args below meth c G muL (10, 600000, 7302250) QL n T I R 603 8847 473 [(0, .ref b), (1, .ref x), (2, .ref d), (3, .int (nI i))] [] := by
  obtain ⟨a, A, h7, h8⟩ := ag_undo (G := G) (n := n) hm hS
  refine l_aload_n (q := 474) dL_law_473 rfl rfl rfl ?_
  refine l_invV' (q := 477) (ci := 7) h7 hT7 rfl gL_law_X7_undo rfl hy_X7_undo rfl rfl rfl rfl (Nat.le_of_ble_eq_true rfl) (by decide) dL_law_474 rfl (l_rvR fun I1 R1 hA => ?_)
  refine l_aload_n (q := 478) dL_law_477 rfl rfl rfl ?_
  refine l_invV' (q := 481) (ci := 8) (h8 I1 R1 hA) hT8 rfl gL_law_X8_undo rfl hy_X8_undo rfl rfl rfl rfl (Nat.le_of_ble_eq_true rfl) (by decide) dL_law_478 rfl (l_rvR fun I2 R2 hB => ?_)
  exact l_icmp_eq (tgt := 967) (q := 484) dL_law_481 (by decide) rfl (fun _ => kk I2 R2 hB) (fun h => absurd rfl h)
theorem law_sound (hX : va_X b L0 xs s s.heap) (hbl : b < s.heap.size) (hG : G.2.2 = s.heap.size) (hL0 : L0 ≤ 3072) (hi : i + 6 ≤ L0) (hm : d = x + 595) (hT7 : T x = some (.inl 7)) (hT8 : T d = some (.inl 8)) (hS : LSt T x d I R) (kk : ∀ (I' : zII) (R' : zRR), LSt T x d I' R' → z_L p e s m args below meth c G muL (10, 600000, 7302250) QL n T I' R' 603 8847 967 [(0, .ref b), (1, .ref x), (2, .ref d), (3, .int (nI i))] []) : z_L p e s m args below meth c G muL (10, 600000, 7302250) QL n T I R 603 8847 486 [(0, .ref b), (1, .ref x), (2, .ref d), (3, .int (nI i))] [] := by
  obtain ⟨a, A, h7, h8⟩ := ag_sound (G := G) (n := n) hm hS (xs (i + 1)) (xs (i + 2)) (xs (i + 3)) (xs (i + 4))
  refine l_aload_n (q := 487) dL_law_486 rfl rfl rfl ?_
  refine l_arg (q := 492) 1 hX hbl hG hL0 (by omega) (by rfl) rfl rfl dL_law_487 dL_law_488 dL_law_489 dL_law_490 dL_law_491 rfl ?_
  refine l_arg (q := 497) 2 hX hbl hG hL0 (by omega) (by rfl) rfl rfl dL_law_492 dL_law_493 dL_law_494 dL_law_495 dL_law_496 rfl ?_
  refine l_arg (q := 502) 3 hX hbl hG hL0 (by omega) (by rfl) rfl rfl dL_law_497 dL_law_498 dL_law_499 dL_law_500 dL_law_501 rfl ?_
  refine l_arg (q := 507) 4 hX hbl hG hL0 (by omega) (by rfl) rfl rfl dL_law_502 dL_law_503 dL_law_504 dL_law_505 dL_law_506 rfl ?_
  refine l_invV' (q := 510) (ci := 7) h7 hT7 rfl gL_law_X7_sound rfl hy_X7_sound rfl rfl rfl rfl (Nat.le_of_ble_eq_true rfl) (by decide) dL_law_507 rfl (l_rvR fun I1 R1 hA => ?_)
  refine l_aload_n (q := 511) dL_law_510 rfl rfl rfl ?_
  refine l_arg (q := 516) 1 hX hbl hG hL0 (by omega) (by rfl) rfl rfl dL_law_511 dL_law_512 dL_law_513 dL_law_514 dL_law_515 rfl ?_
  refine l_arg (q := 521) 2 hX hbl hG hL0 (by omega) (by rfl) rfl rfl dL_law_516 dL_law_517 dL_law_518 dL_law_519 dL_law_520 rfl ?_
  refine l_arg (q := 526) 3 hX hbl hG hL0 (by omega) (by rfl) rfl rfl dL_law_521 dL_law_522 dL_law_523 dL_law_524 dL_law_525 rfl ?_
  refine l_arg (q := 531) 4 hX hbl hG hL0 (by omega) (by rfl) rfl rfl dL_law_526 dL_law_527 dL_law_528 dL_law_529 dL_law_530 rfl ?_
  refine l_invV' (q := 534) (ci := 8) (h8 I1 R1 hA) hT8 rfl gL_law_X8_sound rfl hy_X8_sound rfl rfl rfl rfl (Nat.le_of_ble_eq_true rfl) (by decide) dL_law_531 rfl (l_rvR fun I2 R2 hB => ?_)
  exact l_icmp_eq (tgt := 967) (q := 537) dL_law_534 (by decide) rfl (fun _ => kk I2 R2 hB) (fun h => absurd rfl h)
theorem law_planDoor (hX : va_X b L0 xs s s.heap) (hbl : b < s.heap.size) (hG : G.2.2 = s.heap.size) (hL0 : L0 ≤ 3072) (hi : i + 6 ≤ L0) (hm : d = x + 595) (hT7 : T x = some (.inl 7)) (hT8 : T d = some (.inl 8)) (hS : LSt T x d I R) (kk : ∀ (I' : zII) (R' : zRR), LSt T x d I' R' → z_L p e s m args below meth c G muL (10, 600000, 7302250) QL n T I' R' 603 8847 967 [(0, .ref b), (1, .ref x), (2, .ref d), (3, .int (nI i))] []) : z_L p e s m args below meth c G muL (10, 600000, 7302250) QL n T I R 603 8847 539 [(0, .ref b), (1, .ref x), (2, .ref d), (3, .int (nI i))] [] := by
  obtain ⟨a, A, h7, h8⟩ := ag_planDoor (G := G) (n := n) hm hS (xs (i + 1)) (xs (i + 2)) (xs (i + 3))
  refine l_aload_n (q := 540) dL_law_539 rfl rfl rfl ?_
  refine l_arg (q := 545) 1 hX hbl hG hL0 (by omega) (by rfl) rfl rfl dL_law_540 dL_law_541 dL_law_542 dL_law_543 dL_law_544 rfl ?_
  refine l_arg (q := 550) 2 hX hbl hG hL0 (by omega) (by rfl) rfl rfl dL_law_545 dL_law_546 dL_law_547 dL_law_548 dL_law_549 rfl ?_
  refine l_arg (q := 555) 3 hX hbl hG hL0 (by omega) (by rfl) rfl rfl dL_law_550 dL_law_551 dL_law_552 dL_law_553 dL_law_554 rfl ?_
  refine l_invV' (q := 558) (ci := 7) h7 hT7 rfl gL_law_X7_planDoor rfl hy_X7_planDoor rfl rfl rfl rfl (Nat.le_of_ble_eq_true rfl) (by decide) dL_law_555 rfl (l_rvR fun I1 R1 hA => ?_)
  refine l_aload_n (q := 559) dL_law_558 rfl rfl rfl ?_
  refine l_arg (q := 564) 1 hX hbl hG hL0 (by omega) (by rfl) rfl rfl dL_law_559 dL_law_560 dL_law_561 dL_law_562 dL_law_563 rfl ?_
  refine l_arg (q := 569) 2 hX hbl hG hL0 (by omega) (by rfl) rfl rfl dL_law_564 dL_law_565 dL_law_566 dL_law_567 dL_law_568 rfl ?_
  refine l_arg (q := 574) 3 hX hbl hG hL0 (by omega) (by rfl) rfl rfl dL_law_569 dL_law_570 dL_law_571 dL_law_572 dL_law_573 rfl ?_
  refine l_invV' (q := 577) (ci := 8) (h8 I1 R1 hA) hT8 rfl gL_law_X8_planDoor rfl hy_X8_planDoor rfl rfl rfl rfl (Nat.le_of_ble_eq_true rfl) (by decide) dL_law_574 rfl (l_rvR fun I2 R2 hB => ?_)
  exact l_icmp_eq (tgt := 967) (q := 580) dL_law_577 (by decide) rfl (fun _ => kk I2 R2 hB) (fun h => absurd rfl h)
theorem law_cancel (hX : va_X b L0 xs s s.heap) (hbl : b < s.heap.size) (hG : G.2.2 = s.heap.size) (hL0 : L0 ≤ 3072) (hi : i + 6 ≤ L0) (hm : d = x + 595) (hT7 : T x = some (.inl 7)) (hT8 : T d = some (.inl 8)) (hS : LSt T x d I R) (kk : ∀ (I' : zII) (R' : zRR), LSt T x d I' R' → z_L p e s m args below meth c G muL (10, 600000, 7302250) QL n T I' R' 603 8847 967 [(0, .ref b), (1, .ref x), (2, .ref d), (3, .int (nI i))] []) : z_L p e s m args below meth c G muL (10, 600000, 7302250) QL n T I R 603 8847 582 [(0, .ref b), (1, .ref x), (2, .ref d), (3, .int (nI i))] [] := by
  obtain ⟨a, A, h7, h8⟩ := ag_cancel (G := G) (n := n) hm hS (xs (i + 1))
  refine l_aload_n (q := 583) dL_law_582 rfl rfl rfl ?_
  refine l_arg (q := 588) 1 hX hbl hG hL0 (by omega) (by rfl) rfl rfl dL_law_583 dL_law_584 dL_law_585 dL_law_586 dL_law_587 rfl ?_
  refine l_invV' (q := 591) (ci := 7) h7 hT7 rfl gL_law_X7_cancel rfl hy_X7_cancel rfl rfl rfl rfl (Nat.le_of_ble_eq_true rfl) (by decide) dL_law_588 rfl (l_rvR fun I1 R1 hA => ?_)
  refine l_aload_n (q := 592) dL_law_591 rfl rfl rfl ?_
  refine l_arg (q := 597) 1 hX hbl hG hL0 (by omega) (by rfl) rfl rfl dL_law_592 dL_law_593 dL_law_594 dL_law_595 dL_law_596 rfl ?_
  refine l_invV' (q := 600) (ci := 8) (h8 I1 R1 hA) hT8 rfl gL_law_X8_cancel rfl hy_X8_cancel rfl rfl rfl rfl (Nat.le_of_ble_eq_true rfl) (by decide) dL_law_597 rfl (l_rvR fun I2 R2 hB => ?_)
  exact l_icmp_eq (tgt := 967) (q := 603) dL_law_600 (by decide) rfl (fun _ => kk I2 R2 hB) (fun h => absurd rfl h)
theorem law_plan (hX : va_X b L0 xs s s.heap) (hbl : b < s.heap.size) (hG : G.2.2 = s.heap.size) (hL0 : L0 ≤ 3072) (hi : i + 6 ≤ L0) (hm : d = x + 595) (hT7 : T x = some (.inl 7)) (hT8 : T d = some (.inl 8)) (hS : LSt T x d I R) (kk : ∀ (I' : zII) (R' : zRR), LSt T x d I' R' → z_L p e s m args below meth c G muL (10, 600000, 7302250) QL n T I' R' 603 8847 967 [(0, .ref b), (1, .ref x), (2, .ref d), (3, .int (nI i))] []) : z_L p e s m args below meth c G muL (10, 600000, 7302250) QL n T I R 603 8847 605 [(0, .ref b), (1, .ref x), (2, .ref d), (3, .int (nI i))] [] := by
  obtain ⟨a, A, h7, h8⟩ := ag_plan (G := G) (n := n) hm hS (xs (i + 1)) (xs (i + 2))
  refine l_aload_n (q := 606) dL_law_605 rfl rfl rfl ?_
  refine l_arg (q := 611) 1 hX hbl hG hL0 (by omega) (by rfl) rfl rfl dL_law_606 dL_law_607 dL_law_608 dL_law_609 dL_law_610 rfl ?_
  refine l_arg (q := 616) 2 hX hbl hG hL0 (by omega) (by rfl) rfl rfl dL_law_611 dL_law_612 dL_law_613 dL_law_614 dL_law_615 rfl ?_
  refine l_invV' (q := 619) (ci := 7) h7 hT7 rfl gL_law_X7_plan rfl hy_X7_plan rfl rfl rfl rfl (Nat.le_of_ble_eq_true rfl) (by decide) dL_law_616 rfl (l_rvR fun I1 R1 hA => ?_)
  refine l_aload_n (q := 620) dL_law_619 rfl rfl rfl ?_
  refine l_arg (q := 625) 1 hX hbl hG hL0 (by omega) (by rfl) rfl rfl dL_law_620 dL_law_621 dL_law_622 dL_law_623 dL_law_624 rfl ?_
  refine l_arg (q := 630) 2 hX hbl hG hL0 (by omega) (by rfl) rfl rfl dL_law_625 dL_law_626 dL_law_627 dL_law_628 dL_law_629 rfl ?_
  refine l_invV' (q := 633) (ci := 8) (h8 I1 R1 hA) hT8 rfl gL_law_X8_plan rfl hy_X8_plan rfl rfl rfl rfl (Nat.le_of_ble_eq_true rfl) (by decide) dL_law_630 rfl (l_rvR fun I2 R2 hB => ?_)
  exact l_icmp_eq (tgt := 967) (q := 636) dL_law_633 (by decide) rfl (fun _ => kk I2 R2 hB) (fun h => absurd rfl h)
theorem law_pass (hX : va_X b L0 xs s s.heap) (hbl : b < s.heap.size) (hG : G.2.2 = s.heap.size) (hL0 : L0 ≤ 3072) (hi : i + 6 ≤ L0) (hm : d = x + 595) (hT7 : T x = some (.inl 7)) (hT8 : T d = some (.inl 8)) (hS : LSt T x d I R) (kk : ∀ (I' : zII) (R' : zRR), LSt T x d I' R' → z_L p e s m args below meth c G muL (10, 600000, 7302250) QL n T I' R' 603 8847 967 [(0, .ref b), (1, .ref x), (2, .ref d), (3, .int (nI i))] []) : z_L p e s m args below meth c G muL (10, 600000, 7302250) QL n T I R 603 8847 638 [(0, .ref b), (1, .ref x), (2, .ref d), (3, .int (nI i))] [] := by
  obtain ⟨a, A, h7, h8⟩ := ag_pass (G := G) (n := n) hm hS (xs (i + 1))
  refine l_aload_n (q := 639) dL_law_638 rfl rfl rfl ?_
  refine l_arg (q := 644) 1 hX hbl hG hL0 (by omega) (by rfl) rfl rfl dL_law_639 dL_law_640 dL_law_641 dL_law_642 dL_law_643 rfl ?_
  refine l_invV' (q := 647) (ci := 7) h7 hT7 rfl gL_law_X7_pass rfl hy_X7_pass rfl rfl rfl rfl (Nat.le_of_ble_eq_true rfl) (by decide) dL_law_644 rfl (l_rvR fun I1 R1 hA => ?_)
  refine l_aload_n (q := 648) dL_law_647 rfl rfl rfl ?_
  refine l_arg (q := 653) 1 hX hbl hG hL0 (by omega) (by rfl) rfl rfl dL_law_648 dL_law_649 dL_law_650 dL_law_651 dL_law_652 rfl ?_
  refine l_invV' (q := 656) (ci := 8) (h8 I1 R1 hA) hT8 rfl gL_law_X8_pass rfl hy_X8_pass rfl rfl rfl rfl (Nat.le_of_ble_eq_true rfl) (by decide) dL_law_653 rfl (l_rvR fun I2 R2 hB => ?_)
  exact l_icmp_eq (tgt := 967) (q := 659) dL_law_656 (by decide) rfl (fun _ => kk I2 R2 hB) (fun h => absurd rfl h)
theorem law_way (hX : va_X b L0 xs s s.heap) (hbl : b < s.heap.size) (hG : G.2.2 = s.heap.size) (hL0 : L0 ≤ 3072) (hi : i + 6 ≤ L0) (hm : d = x + 595) (hT7 : T x = some (.inl 7)) (hT8 : T d = some (.inl 8)) (hS : LSt T x d I R) (kk : ∀ (I' : zII) (R' : zRR), LSt T x d I' R' → z_L p e s m args below meth c G muL (10, 600000, 7302250) QL n T I' R' 603 8847 967 [(0, .ref b), (1, .ref x), (2, .ref d), (3, .int (nI i))] []) : z_L p e s m args below meth c G muL (10, 600000, 7302250) QL n T I R 603 8847 661 [(0, .ref b), (1, .ref x), (2, .ref d), (3, .int (nI i))] [] := by
  obtain ⟨a, A, h7, h8⟩ := ag_way (G := G) (n := n) hm hS (xs (i + 1)) (xs (i + 2))
  refine l_aload_n (q := 662) dL_law_661 rfl rfl rfl ?_
  refine l_arg (q := 667) 1 hX hbl hG hL0 (by omega) (by rfl) rfl rfl dL_law_662 dL_law_663 dL_law_664 dL_law_665 dL_law_666 rfl ?_
  refine l_arg (q := 672) 2 hX hbl hG hL0 (by omega) (by rfl) rfl rfl dL_law_667 dL_law_668 dL_law_669 dL_law_670 dL_law_671 rfl ?_
  refine l_invV' (q := 675) (ci := 7) h7 hT7 rfl gL_law_X7_way rfl hy_X7_way rfl rfl rfl rfl (Nat.le_of_ble_eq_true rfl) (by decide) dL_law_672 rfl (l_rvR fun I1 R1 hA => ?_)
  refine l_aload_n (q := 676) dL_law_675 rfl rfl rfl ?_
  refine l_arg (q := 681) 1 hX hbl hG hL0 (by omega) (by rfl) rfl rfl dL_law_676 dL_law_677 dL_law_678 dL_law_679 dL_law_680 rfl ?_
  refine l_arg (q := 686) 2 hX hbl hG hL0 (by omega) (by rfl) rfl rfl dL_law_681 dL_law_682 dL_law_683 dL_law_684 dL_law_685 rfl ?_
  refine l_invV' (q := 689) (ci := 8) (h8 I1 R1 hA) hT8 rfl gL_law_X8_way rfl hy_X8_way rfl rfl rfl rfl (Nat.le_of_ble_eq_true rfl) (by decide) dL_law_686 rfl (l_rvR fun I2 R2 hB => ?_)
  exact l_icmp_eq (tgt := 967) (q := 692) dL_law_689 (by decide) rfl (fun _ => kk I2 R2 hB) (fun h => absurd rfl h)
theorem law_tail (hX : va_X b L0 xs s s.heap) (hbl : b < s.heap.size) (hG : G.2.2 = s.heap.size) (hL0 : L0 ≤ 3072) (hi : i + 6 ≤ L0) (hm : d = x + 595) (hT7 : T x = some (.inl 7)) (hT8 : T d = some (.inl 8)) (hS : LSt T x d I R) (kk : ∀ (I' : zII) (R' : zRR), LSt T x d I' R' → z_L p e s m args below meth c G muL (10, 600000, 7302250) QL n T I' R' 603 8847 967 [(0, .ref b), (1, .ref x), (2, .ref d), (3, .int (nI i))] []) : z_L p e s m args below meth c G muL (10, 600000, 7302250) QL n T I R 603 8847 694 [(0, .ref b), (1, .ref x), (2, .ref d), (3, .int (nI i))] [] := by
  obtain ⟨a, A, h7, h8⟩ := ag_tail (G := G) (n := n) hm hS (xs (i + 1))
  refine l_aload_n (q := 695) dL_law_694 rfl rfl rfl ?_
  refine l_arg (q := 700) 1 hX hbl hG hL0 (by omega) (by rfl) rfl rfl dL_law_695 dL_law_696 dL_law_697 dL_law_698 dL_law_699 rfl ?_
  refine l_invV' (q := 703) (ci := 7) h7 hT7 rfl gL_law_X7_tail rfl hy_X7_tail rfl rfl rfl rfl (Nat.le_of_ble_eq_true rfl) (by decide) dL_law_700 rfl (l_rvR fun I1 R1 hA => ?_)
  refine l_aload_n (q := 704) dL_law_703 rfl rfl rfl ?_
  refine l_arg (q := 709) 1 hX hbl hG hL0 (by omega) (by rfl) rfl rfl dL_law_704 dL_law_705 dL_law_706 dL_law_707 dL_law_708 rfl ?_
  refine l_invV' (q := 712) (ci := 8) (h8 I1 R1 hA) hT8 rfl gL_law_X8_tail rfl hy_X8_tail rfl rfl rfl rfl (Nat.le_of_ble_eq_true rfl) (by decide) dL_law_709 rfl (l_rvR fun I2 R2 hB => ?_)
  exact l_icmp_eq (tgt := 967) (q := 715) dL_law_712 (by decide) rfl (fun _ => kk I2 R2 hB) (fun h => absurd rfl h)
theorem law_tailWith (hX : va_X b L0 xs s s.heap) (hbl : b < s.heap.size) (hG : G.2.2 = s.heap.size) (hL0 : L0 ≤ 3072) (hi : i + 6 ≤ L0) (hm : d = x + 595) (hT7 : T x = some (.inl 7)) (hT8 : T d = some (.inl 8)) (hS : LSt T x d I R) (kk : ∀ (I' : zII) (R' : zRR), LSt T x d I' R' → z_L p e s m args below meth c G muL (10, 600000, 7302250) QL n T I' R' 603 8847 967 [(0, .ref b), (1, .ref x), (2, .ref d), (3, .int (nI i))] []) : z_L p e s m args below meth c G muL (10, 600000, 7302250) QL n T I R 603 8847 717 [(0, .ref b), (1, .ref x), (2, .ref d), (3, .int (nI i))] [] := by
  obtain ⟨a, A, h7, h8⟩ := ag_tailWith (G := G) (n := n) hm hS (xs (i + 1)) (xs (i + 2)) (xs (i + 3))
  refine l_aload_n (q := 718) dL_law_717 rfl rfl rfl ?_
  refine l_arg (q := 723) 1 hX hbl hG hL0 (by omega) (by rfl) rfl rfl dL_law_718 dL_law_719 dL_law_720 dL_law_721 dL_law_722 rfl ?_
  refine l_arg (q := 728) 2 hX hbl hG hL0 (by omega) (by rfl) rfl rfl dL_law_723 dL_law_724 dL_law_725 dL_law_726 dL_law_727 rfl ?_
  refine l_arg (q := 733) 3 hX hbl hG hL0 (by omega) (by rfl) rfl rfl dL_law_728 dL_law_729 dL_law_730 dL_law_731 dL_law_732 rfl ?_
  refine l_invV' (q := 736) (ci := 7) h7 hT7 rfl gL_law_X7_tailWith rfl hy_X7_tailWith rfl rfl rfl rfl (Nat.le_of_ble_eq_true rfl) (by decide) dL_law_733 rfl (l_rvR fun I1 R1 hA => ?_)
  refine l_aload_n (q := 737) dL_law_736 rfl rfl rfl ?_
  refine l_arg (q := 742) 1 hX hbl hG hL0 (by omega) (by rfl) rfl rfl dL_law_737 dL_law_738 dL_law_739 dL_law_740 dL_law_741 rfl ?_
  refine l_arg (q := 747) 2 hX hbl hG hL0 (by omega) (by rfl) rfl rfl dL_law_742 dL_law_743 dL_law_744 dL_law_745 dL_law_746 rfl ?_
  refine l_arg (q := 752) 3 hX hbl hG hL0 (by omega) (by rfl) rfl rfl dL_law_747 dL_law_748 dL_law_749 dL_law_750 dL_law_751 rfl ?_
  refine l_invV' (q := 755) (ci := 8) (h8 I1 R1 hA) hT8 rfl gL_law_X8_tailWith rfl hy_X8_tailWith rfl rfl rfl rfl (Nat.le_of_ble_eq_true rfl) (by decide) dL_law_752 rfl (l_rvR fun I2 R2 hB => ?_)
  exact l_icmp_eq (tgt := 967) (q := 758) dL_law_755 (by decide) rfl (fun _ => kk I2 R2 hB) (fun h => absurd rfl h)
theorem law_bestDoor (hX : va_X b L0 xs s s.heap) (hbl : b < s.heap.size) (hG : G.2.2 = s.heap.size) (hL0 : L0 ≤ 3072) (hi : i + 6 ≤ L0) (hm : d = x + 595) (hT7 : T x = some (.inl 7)) (hT8 : T d = some (.inl 8)) (hS : LSt T x d I R) (kk : ∀ (I' : zII) (R' : zRR), LSt T x d I' R' → z_L p e s m args below meth c G muL (10, 600000, 7302250) QL n T I' R' 603 8847 967 [(0, .ref b), (1, .ref x), (2, .ref d), (3, .int (nI i))] []) : z_L p e s m args below meth c G muL (10, 600000, 7302250) QL n T I R 603 8847 760 [(0, .ref b), (1, .ref x), (2, .ref d), (3, .int (nI i))] [] := by
  obtain ⟨a, A, h7, h8⟩ := ag_bestDoor (G := G) (n := n) hm hS (xs (i + 1)) (xs (i + 2))
  refine l_aload_n (q := 761) dL_law_760 rfl rfl rfl ?_
  refine l_arg (q := 766) 1 hX hbl hG hL0 (by omega) (by rfl) rfl rfl dL_law_761 dL_law_762 dL_law_763 dL_law_764 dL_law_765 rfl ?_
  refine l_arg (q := 771) 2 hX hbl hG hL0 (by omega) (by rfl) rfl rfl dL_law_766 dL_law_767 dL_law_768 dL_law_769 dL_law_770 rfl ?_
  refine l_invV' (q := 774) (ci := 7) h7 hT7 rfl gL_law_X7_bestDoor rfl hy_X7_bestDoor rfl rfl rfl rfl (Nat.le_of_ble_eq_true rfl) (by decide) dL_law_771 rfl (l_rvR fun I1 R1 hA => ?_)
  refine l_aload_n (q := 775) dL_law_774 rfl rfl rfl ?_
  refine l_arg (q := 780) 1 hX hbl hG hL0 (by omega) (by rfl) rfl rfl dL_law_775 dL_law_776 dL_law_777 dL_law_778 dL_law_779 rfl ?_
  refine l_arg (q := 785) 2 hX hbl hG hL0 (by omega) (by rfl) rfl rfl dL_law_780 dL_law_781 dL_law_782 dL_law_783 dL_law_784 rfl ?_
  refine l_invV' (q := 788) (ci := 8) (h8 I1 R1 hA) hT8 rfl gL_law_X8_bestDoor rfl hy_X8_bestDoor rfl rfl rfl rfl (Nat.le_of_ble_eq_true rfl) (by decide) dL_law_785 rfl (l_rvR fun I2 R2 hB => ?_)
  exact l_icmp_eq (tgt := 967) (q := 791) dL_law_788 (by decide) rfl (fun _ => kk I2 R2 hB) (fun h => absurd rfl h)
theorem law_rise (hX : va_X b L0 xs s s.heap) (hbl : b < s.heap.size) (hG : G.2.2 = s.heap.size) (hL0 : L0 ≤ 3072) (hi : i + 6 ≤ L0) (hm : d = x + 595) (hT7 : T x = some (.inl 7)) (hT8 : T d = some (.inl 8)) (hS : LSt T x d I R) (kk : ∀ (I' : zII) (R' : zRR), LSt T x d I' R' → z_L p e s m args below meth c G muL (10, 600000, 7302250) QL n T I' R' 603 8847 967 [(0, .ref b), (1, .ref x), (2, .ref d), (3, .int (nI i))] []) : z_L p e s m args below meth c G muL (10, 600000, 7302250) QL n T I R 603 8847 793 [(0, .ref b), (1, .ref x), (2, .ref d), (3, .int (nI i))] [] := by
  obtain ⟨a, A, h7, h8⟩ := ag_rise (G := G) (n := n) hm hS (xs (i + 1))
  refine l_aload_n (q := 794) dL_law_793 rfl rfl rfl ?_
  refine l_arg (q := 799) 1 hX hbl hG hL0 (by omega) (by rfl) rfl rfl dL_law_794 dL_law_795 dL_law_796 dL_law_797 dL_law_798 rfl ?_
  refine l_invV' (q := 802) (ci := 7) h7 hT7 rfl gL_law_X7_rise rfl hy_X7_rise rfl rfl rfl rfl (Nat.le_of_ble_eq_true rfl) (by decide) dL_law_799 rfl (l_rvR fun I1 R1 hA => ?_)
  refine l_aload_n (q := 803) dL_law_802 rfl rfl rfl ?_
  refine l_arg (q := 808) 1 hX hbl hG hL0 (by omega) (by rfl) rfl rfl dL_law_803 dL_law_804 dL_law_805 dL_law_806 dL_law_807 rfl ?_
  refine l_invV' (q := 811) (ci := 8) (h8 I1 R1 hA) hT8 rfl gL_law_X8_rise rfl hy_X8_rise rfl rfl rfl rfl (Nat.le_of_ble_eq_true rfl) (by decide) dL_law_808 rfl (l_rvR fun I2 R2 hB => ?_)
  exact l_icmp_eq (tgt := 967) (q := 814) dL_law_811 (by decide) rfl (fun _ => kk I2 R2 hB) (fun h => absurd rfl h)
theorem law_peak (hX : va_X b L0 xs s s.heap) (hbl : b < s.heap.size) (hG : G.2.2 = s.heap.size) (hL0 : L0 ≤ 3072) (hi : i + 6 ≤ L0) (hm : d = x + 595) (hT7 : T x = some (.inl 7)) (hT8 : T d = some (.inl 8)) (hS : LSt T x d I R) (kk : ∀ (I' : zII) (R' : zRR), LSt T x d I' R' → z_L p e s m args below meth c G muL (10, 600000, 7302250) QL n T I' R' 603 8847 967 [(0, .ref b), (1, .ref x), (2, .ref d), (3, .int (nI i))] []) : z_L p e s m args below meth c G muL (10, 600000, 7302250) QL n T I R 603 8847 816 [(0, .ref b), (1, .ref x), (2, .ref d), (3, .int (nI i))] [] := by
  obtain ⟨a, A, h7, h8⟩ := ag_peak (G := G) (n := n) hm hS (xs (i + 1)) (xs (i + 2))
  refine l_aload_n (q := 817) dL_law_816 rfl rfl rfl ?_
  refine l_arg (q := 822) 1 hX hbl hG hL0 (by omega) (by rfl) rfl rfl dL_law_817 dL_law_818 dL_law_819 dL_law_820 dL_law_821 rfl ?_
  refine l_arg (q := 827) 2 hX hbl hG hL0 (by omega) (by rfl) rfl rfl dL_law_822 dL_law_823 dL_law_824 dL_law_825 dL_law_826 rfl ?_
  refine l_invV' (q := 830) (ci := 7) h7 hT7 rfl gL_law_X7_peak rfl hy_X7_peak rfl rfl rfl rfl (Nat.le_of_ble_eq_true rfl) (by decide) dL_law_827 rfl (l_rvR fun I1 R1 hA => ?_)
  refine l_aload_n (q := 831) dL_law_830 rfl rfl rfl ?_
  refine l_arg (q := 836) 1 hX hbl hG hL0 (by omega) (by rfl) rfl rfl dL_law_831 dL_law_832 dL_law_833 dL_law_834 dL_law_835 rfl ?_
  refine l_arg (q := 841) 2 hX hbl hG hL0 (by omega) (by rfl) rfl rfl dL_law_836 dL_law_837 dL_law_838 dL_law_839 dL_law_840 rfl ?_
  refine l_invV' (q := 844) (ci := 8) (h8 I1 R1 hA) hT8 rfl gL_law_X8_peak rfl hy_X8_peak rfl rfl rfl rfl (Nat.le_of_ble_eq_true rfl) (by decide) dL_law_841 rfl (l_rvR fun I2 R2 hB => ?_)
  exact l_icmp_eq (tgt := 967) (q := 847) dL_law_844 (by decide) rfl (fun _ => kk I2 R2 hB) (fun h => absurd rfl h)
theorem law_quiet (hX : va_X b L0 xs s s.heap) (hbl : b < s.heap.size) (hG : G.2.2 = s.heap.size) (hL0 : L0 ≤ 3072) (hi : i + 6 ≤ L0) (hm : d = x + 595) (hT7 : T x = some (.inl 7)) (hT8 : T d = some (.inl 8)) (hS : LSt T x d I R) (kk : ∀ (I' : zII) (R' : zRR), LSt T x d I' R' → z_L p e s m args below meth c G muL (10, 600000, 7302250) QL n T I' R' 603 8847 967 [(0, .ref b), (1, .ref x), (2, .ref d), (3, .int (nI i))] []) : z_L p e s m args below meth c G muL (10, 600000, 7302250) QL n T I R 603 8847 849 [(0, .ref b), (1, .ref x), (2, .ref d), (3, .int (nI i))] [] := by
  obtain ⟨a, A, h7, h8⟩ := ag_quiet (G := G) (n := n) hm hS
  refine l_aload_n (q := 850) dL_law_849 rfl rfl rfl ?_
  refine l_invV' (q := 853) (ci := 7) h7 hT7 rfl gL_law_X7_quiet rfl hy_X7_quiet rfl rfl rfl rfl (Nat.le_of_ble_eq_true rfl) (by decide) dL_law_850 rfl (l_rvR fun I1 R1 hA => ?_)
  refine l_aload_n (q := 854) dL_law_853 rfl rfl rfl ?_
  refine l_invV' (q := 857) (ci := 8) (h8 I1 R1 hA) hT8 rfl gL_law_X8_quiet rfl hy_X8_quiet rfl rfl rfl rfl (Nat.le_of_ble_eq_true rfl) (by decide) dL_law_854 rfl (l_rvR fun I2 R2 hB => ?_)
  exact l_icmp_eq (tgt := 967) (q := 860) dL_law_857 (by decide) rfl (fun _ => kk I2 R2 hB) (fun h => absurd rfl h)
theorem law_fell (hX : va_X b L0 xs s s.heap) (hbl : b < s.heap.size) (hG : G.2.2 = s.heap.size) (hL0 : L0 ≤ 3072) (hi : i + 6 ≤ L0) (hm : d = x + 595) (hT7 : T x = some (.inl 7)) (hT8 : T d = some (.inl 8)) (hS : LSt T x d I R) (kk : ∀ (I' : zII) (R' : zRR), LSt T x d I' R' → z_L p e s m args below meth c G muL (10, 600000, 7302250) QL n T I' R' 603 8847 967 [(0, .ref b), (1, .ref x), (2, .ref d), (3, .int (nI i))] []) : z_L p e s m args below meth c G muL (10, 600000, 7302250) QL n T I R 603 8847 862 [(0, .ref b), (1, .ref x), (2, .ref d), (3, .int (nI i))] [] := by
  obtain ⟨a, A, h7, h8⟩ := ag_fell (G := G) (n := n) hm hS (xs (i + 1)) (xs (i + 2))
  refine l_aload_n (q := 863) dL_law_862 rfl rfl rfl ?_
  refine l_arg (q := 868) 1 hX hbl hG hL0 (by omega) (by rfl) rfl rfl dL_law_863 dL_law_864 dL_law_865 dL_law_866 dL_law_867 rfl ?_
  refine l_arg (q := 873) 2 hX hbl hG hL0 (by omega) (by rfl) rfl rfl dL_law_868 dL_law_869 dL_law_870 dL_law_871 dL_law_872 rfl ?_
  refine l_invV' (q := 876) (ci := 7) h7 hT7 rfl gL_law_X7_fell rfl hy_X7_fell rfl rfl rfl rfl (Nat.le_of_ble_eq_true rfl) (by decide) dL_law_873 rfl (l_rvR fun I1 R1 hA => ?_)
  refine l_aload_n (q := 877) dL_law_876 rfl rfl rfl ?_
  refine l_arg (q := 882) 1 hX hbl hG hL0 (by omega) (by rfl) rfl rfl dL_law_877 dL_law_878 dL_law_879 dL_law_880 dL_law_881 rfl ?_
  refine l_arg (q := 887) 2 hX hbl hG hL0 (by omega) (by rfl) rfl rfl dL_law_882 dL_law_883 dL_law_884 dL_law_885 dL_law_886 rfl ?_
  refine l_invV' (q := 890) (ci := 8) (h8 I1 R1 hA) hT8 rfl gL_law_X8_fell rfl hy_X8_fell rfl rfl rfl rfl (Nat.le_of_ble_eq_true rfl) (by decide) dL_law_887 rfl (l_rvR fun I2 R2 hB => ?_)
  exact l_icmp_eq (tgt := 967) (q := 893) dL_law_890 (by decide) rfl (fun _ => kk I2 R2 hB) (fun h => absurd rfl h)
theorem law_type (hX : va_X b L0 xs s s.heap) (hbl : b < s.heap.size) (hG : G.2.2 = s.heap.size) (hL0 : L0 ≤ 3072) (hi : i + 6 ≤ L0) (hm : d = x + 595) (hT7 : T x = some (.inl 7)) (hT8 : T d = some (.inl 8)) (hS : LSt T x d I R) (kk : ∀ (I' : zII) (R' : zRR), LSt T x d I' R' → z_L p e s m args below meth c G muL (10, 600000, 7302250) QL n T I' R' 603 8847 967 [(0, .ref b), (1, .ref x), (2, .ref d), (3, .int (nI i))] []) : z_L p e s m args below meth c G muL (10, 600000, 7302250) QL n T I R 603 8847 895 [(0, .ref b), (1, .ref x), (2, .ref d), (3, .int (nI i))] [] := by
  obtain ⟨a, A, h7, h8⟩ := ag_type (G := G) (n := n) hm hS (xs (i + 1))
  refine l_aload_n (q := 896) dL_law_895 rfl rfl rfl ?_
  refine l_arg (q := 901) 1 hX hbl hG hL0 (by omega) (by rfl) rfl rfl dL_law_896 dL_law_897 dL_law_898 dL_law_899 dL_law_900 rfl ?_
  refine l_invV' (q := 904) (ci := 7) h7 hT7 rfl gL_law_X7_type rfl hy_X7_type rfl rfl rfl rfl (Nat.le_of_ble_eq_true rfl) (by decide) dL_law_901 rfl (l_rvR fun I1 R1 hA => ?_)
  refine l_aload_n (q := 905) dL_law_904 rfl rfl rfl ?_
  refine l_arg (q := 910) 1 hX hbl hG hL0 (by omega) (by rfl) rfl rfl dL_law_905 dL_law_906 dL_law_907 dL_law_908 dL_law_909 rfl ?_
  refine l_invV' (q := 913) (ci := 8) (h8 I1 R1 hA) hT8 rfl gL_law_X8_type rfl hy_X8_type rfl rfl rfl rfl (Nat.le_of_ble_eq_true rfl) (by decide) dL_law_910 rfl (l_rvR fun I2 R2 hB => ?_)
  exact l_icmp_eq (tgt := 967) (q := 916) dL_law_913 (by decide) rfl (fun _ => kk I2 R2 hB) (fun h => absurd rfl h)
theorem law_clearText (hX : va_X b L0 xs s s.heap) (hbl : b < s.heap.size) (hG : G.2.2 = s.heap.size) (hL0 : L0 ≤ 3072) (hi : i + 6 ≤ L0) (hm : d = x + 595) (hT7 : T x = some (.inl 7)) (hT8 : T d = some (.inl 8)) (hS : LSt T x d I R) (kk : ∀ (I' : zII) (R' : zRR), LSt T x d I' R' → z_L p e s m args below meth c G muL (10, 600000, 7302250) QL n T I' R' 603 8847 967 [(0, .ref b), (1, .ref x), (2, .ref d), (3, .int (nI i))] []) : z_L p e s m args below meth c G muL (10, 600000, 7302250) QL n T I R 603 8847 918 [(0, .ref b), (1, .ref x), (2, .ref d), (3, .int (nI i))] [] := by
  obtain ⟨a, A, h7, h8⟩ := ag_clearText (G := G) (n := n) hm hS
  refine l_aload_n (q := 919) dL_law_918 rfl rfl rfl ?_
  refine l_invV' (q := 922) (ci := 7) h7 hT7 rfl gL_law_X7_clearText rfl hy_X7_clearText rfl rfl rfl rfl (Nat.le_of_ble_eq_true rfl) (by decide) dL_law_919 rfl (l_rvR fun I1 R1 hA => ?_)
  refine l_aload_n (q := 923) dL_law_922 rfl rfl rfl ?_
  refine l_invV' (q := 926) (ci := 8) (h8 I1 R1 hA) hT8 rfl gL_law_X8_clearText rfl hy_X8_clearText rfl rfl rfl rfl (Nat.le_of_ble_eq_true rfl) (by decide) dL_law_923 rfl (l_rvR fun I2 R2 hB => ?_)
  exact l_icmp_eq (tgt := 967) (q := 929) dL_law_926 (by decide) rfl (fun _ => kk I2 R2 hB) (fun h => absurd rfl h)
theorem law_fault (hX : va_X b L0 xs s s.heap) (hbl : b < s.heap.size) (hG : G.2.2 = s.heap.size) (hL0 : L0 ≤ 3072) (hi : i + 6 ≤ L0) (hm : d = x + 595) (hT7 : T x = some (.inl 7)) (hT8 : T d = some (.inl 8)) (hS : LSt T x d I R) (kk : ∀ (I' : zII) (R' : zRR), LSt T x d I' R' → z_L p e s m args below meth c G muL (10, 600000, 7302250) QL n T I' R' 603 8847 967 [(0, .ref b), (1, .ref x), (2, .ref d), (3, .int (nI i))] []) : z_L p e s m args below meth c G muL (10, 600000, 7302250) QL n T I R 603 8847 931 [(0, .ref b), (1, .ref x), (2, .ref d), (3, .int (nI i))] [] := by
  obtain ⟨a, A, h7, h8⟩ := ag_fault (G := G) (n := n) hm hS (xs (i + 1))
  refine l_aload_n (q := 932) dL_law_931 rfl rfl rfl ?_
  refine l_arg (q := 937) 1 hX hbl hG hL0 (by omega) (by rfl) rfl rfl dL_law_932 dL_law_933 dL_law_934 dL_law_935 dL_law_936 rfl ?_
  refine l_invV' (q := 940) (ci := 7) h7 hT7 rfl gL_law_X7_fault rfl hy_X7_fault rfl rfl rfl rfl (Nat.le_of_ble_eq_true rfl) (by decide) dL_law_937 rfl (l_rvR fun I1 R1 hA => ?_)
  refine l_aload_n (q := 941) dL_law_940 rfl rfl rfl ?_
  refine l_arg (q := 946) 1 hX hbl hG hL0 (by omega) (by rfl) rfl rfl dL_law_941 dL_law_942 dL_law_943 dL_law_944 dL_law_945 rfl ?_
  refine l_invV' (q := 949) (ci := 8) (h8 I1 R1 hA) hT8 rfl gL_law_X8_fault rfl hy_X8_fault rfl rfl rfl rfl (Nat.le_of_ble_eq_true rfl) (by decide) dL_law_946 rfl (l_rvR fun I2 R2 hB => ?_)
  exact l_icmp_eq (tgt := 967) (q := 952) dL_law_949 (by decide) rfl (fun _ => kk I2 R2 hB) (fun h => absurd rfl h)
theorem law_load (hX : va_X b L0 xs s s.heap) (hbl : b < s.heap.size) (hG : G.2.2 = s.heap.size) (hL0 : L0 ≤ 3072) (hi : i + 6 ≤ L0) (hm : d = x + 595) (hT7 : T x = some (.inl 7)) (hT8 : T d = some (.inl 8)) (hS : LSt T x d I R) (kk : ∀ (I' : zII) (R' : zRR), LSt T x d I' R' → z_L p e s m args below meth c G muL (10, 600000, 7302250) QL n T I' R' 603 8847 967 [(0, .ref b), (1, .ref x), (2, .ref d), (3, .int (nI i))] []) : z_L p e s m args below meth c G muL (10, 600000, 7302250) QL n T I R 603 8847 954 [(0, .ref b), (1, .ref x), (2, .ref d), (3, .int (nI i))] [] := by
  obtain ⟨a, A, h7, h8⟩ := ag_load (G := G) (n := n) hm hS
  refine l_aload_n (q := 955) dL_law_954 rfl rfl rfl ?_
  refine l_invV' (q := 958) (ci := 7) h7 hT7 rfl gL_law_X7_load rfl hy_X7_load rfl rfl rfl rfl (Nat.le_of_ble_eq_true rfl) (by decide) dL_law_955 rfl (l_rvR fun I1 R1 hA => ?_)
  refine l_aload_n (q := 959) dL_law_958 rfl rfl rfl ?_
  refine l_invV' (q := 962) (ci := 8) (h8 I1 R1 hA) hT8 rfl gL_law_X8_load rfl hy_X8_load rfl rfl rfl rfl (Nat.le_of_ble_eq_true rfl) (by decide) dL_law_959 rfl (l_rvR fun I2 R2 hB => ?_)
  exact l_icmp_eq (tgt := 967) (q := 965) dL_law_962 (by decide) rfl (fun _ => kk I2 R2 hB) (fun h => absurd rfl h)
end LAW
