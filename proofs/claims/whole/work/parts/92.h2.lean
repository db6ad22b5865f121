/-! THE LAW -/
section
variable {X : qX} {G : qG} {cc : ByteArray} {nL kc ks pc pc' d : Nat} {own : String} {lv : List (Option Value)} {st : List Value} {h : List va_E}
theorem y_sld {b L k : Nat} {xs : Nat → Int32} (C : qC X G cc nL own d) (hd : qd cc pc (.iaload) 1 pc') (hX : va_X b L xs X.2.2.2.2.1 X.2.2.2.2.1.heap) (hbl : b < X.2.2.2.2.1.heap.size) (hbA : ¬ qA G b) (hk : k < L) (hL : L < 2 ^ 31) (kk : Y X G nL kc ks pc' lv (.int (xs k) :: st) h) : Y X G nL kc ks pc lv (.int (nI k) :: .ref b :: st) h := by
  obtain ⟨hd, rfl⟩ := hd
  intro H locs ls e bS c
  refine va_sld C.1 C.2.1 hX hbl hbA bS (vp_in_nI hk hL) hd ?_
  rw [nI_clamp (by omega)]
  exact kk H locs ls e bS c
theorem y_slen {b L : Nat} {xs : Nat → Int32} (C : qC X G cc nL own d) (hd : qd cc pc (.arraylength) 1 pc') (hX : va_X b L xs X.2.2.2.2.1 X.2.2.2.2.1.heap) (hbl : b < X.2.2.2.2.1.heap.size) (hbA : ¬ qA G b) (kk : Y X G nL kc ks pc' lv (.int (nI L) :: st) h) : Y X G nL kc ks pc lv (.ref b :: st) h := by
  obtain ⟨hd, rfl⟩ := hd
  exact fun H locs ls e bS c => va_slen C.1 C.2.1 hX hbl hbA bS hd (kk H locs ls e bS c)
end
theorem sub6 {L : Nat} (h : L ≤ 384) : (nI L - nI 6).toInt = (L : Int) - 6 := by
  by_cases c : 6 ≤ L
  · rw [pk_sub c, nI_int (by omega)]
    omega
  · rcases (by omega : L = 0 ∨ L = 1 ∨ L = 2 ∨ L = 3 ∨ L = 4 ∨ L = 5) with rfl | rfl | rfl | rfl | rfl | rfl <;> decide
theorem gt6 {L n : Nat} (h : L ≤ 384) (hn : n < 1000) : nI L - nI 6 < nI n ↔ L < n + 6 := by
  rw [Int32.lt_iff_toInt_lt, sub6 h, nI_int (by omega)]
  omega
theorem and63 (x : Int32) : ∃ k, k < 64 ∧ x &&& nI 63 = nI k := by
  refine ⟨x.toBitVec.toNat &&& 63, Nat.lt_of_le_of_lt Nat.and_le_right (by decide), ?_⟩
  unfold nI
  apply Int32.toBitVec_inj.mp
  apply BitVec.eq_of_toNat_eq
  simp
  try omega
theorem lg_self (r : Int64) : lg_cmp r r = 0 := by
  unfold lg_cmp
  simp
section
variable {X : qX} {G : qG} {h : List va_E} {b L n : Nat} {xs : Nat → Int32} {i : Nat → Nat} {A : Nat → Nat → Nat} {B : Nat → Nat → Int32}
theorem Inv.o (V : Inv G h i A B) : h[0]? = some (dcl G (i 3)) := by
  obtain ⟨_, _, _, _, _, _, I, _⟩ := V
  exact I.o
theorem lc_0 (hL : L ≤ 384) (hX : va_X b L xs X.2.2.2.2.1 X.2.2.2.2.1.heap) (hbl : b < X.2.2.2.2.1.heap.size) (hbA : ¬ qA G b) (C : qC X G cL_law 4 RL 100) (hRc : 136 ≤ X.2.2.2.1.cells ∧ 3965 ≤ X.2.2.2.1.slots) (V : Inv G h i A B) (hn : n + 6 ≤ L) (NX : ∀ h2 i' A' B', Inv G h2 i' A' B' → Y X G 4 136 3965 1298 [some (.ref b), some (qr G 0), some (qr G 122), some (.int (nI n))] [] h2) : Y X G 4 136 3965 196 [some (.ref b), some (qr G 0), some (qr G 122), some (.int (nI n))] [] h := by
  obtain ⟨r, h1, h2, fs, i', A', B', d1, d2, hd1, hd2, hc, hm, ho, V'⟩ := pr_row (l := X.2.1) V (x1 := xs (n + 1)) (x2 := xs (n + 2)) (x3 := xs (n + 3))
  refine y_aload_n C D_L_law_196 rfl ?_
  refine y_aload_n C D_L_law_197 rfl ?_
  refine y_iload_n C D_L_law_198 rfl ?_
  refine y_iconst C D_L_law_199 ki_1 ?_
  refine z_iadd C D_L_law_200 ?_
  refine y_sld C D_L_law_201 hX hbl hbA (by omega) (by omega) ?_
  refine y_aload_n C D_L_law_202 rfl ?_
  refine y_iload_n C D_L_law_203 rfl ?_
  refine y_iconst C D_L_law_204 ki_2 ?_
  refine z_iadd C D_L_law_205 ?_
  refine y_sld C D_L_law_206 hX hbl hbA (by omega) (by omega) ?_
  refine y_aload_n C D_L_law_207 rfl ?_
  refine y_iload_n C D_L_law_208 rfl ?_
  refine y_iconst C D_L_law_209 ki_3 ?_
  refine z_iadd C D_L_law_210 ?_
  refine y_sld C D_L_law_211 hX hbl hbA (by omega) (by omega) ?_
  refine z_callV C D_L_law_212 lk_L_13 hc V.o rfl rfl (by omega) (Nat.le_of_ble_eq_true rfl) hRc ?_
  refine y_aload_n C D_L_law_215 rfl ?_
  refine y_aload_n C D_L_law_216 rfl ?_
  refine y_iload_n C D_L_law_217 rfl ?_
  refine y_iconst C D_L_law_218 ki_1 ?_
  refine z_iadd C D_L_law_219 ?_
  refine y_sld C D_L_law_220 hX hbl hbA (by omega) (by omega) ?_
  refine y_aload_n C D_L_law_221 rfl ?_
  refine y_iload_n C D_L_law_222 rfl ?_
  refine y_iconst C D_L_law_223 ki_2 ?_
  refine z_iadd C D_L_law_224 ?_
  refine y_sld C D_L_law_225 hX hbl hbA (by omega) (by omega) ?_
  refine y_aload_n C D_L_law_226 rfl ?_
  refine y_iload_n C D_L_law_227 rfl ?_
  refine y_iconst C D_L_law_228 ki_3 ?_
  refine z_iadd C D_L_law_229 ?_
  refine y_sld C D_L_law_230 hX hbl hbA (by omega) (by omega) ?_
  refine z_callV C D_L_law_231 lk_L_17 hm ho rfl rfl (by omega) (Nat.le_of_ble_eq_true rfl) hRc ?_
  refine y_icmp_eq C D_L_law_234 Iff.rfl (fun _ => ?_) (fun q => absurd rfl q)
  exact NX _ _ _ _ V'
theorem lc_1 (hL : L ≤ 384) (hX : va_X b L xs X.2.2.2.2.1 X.2.2.2.2.1.heap) (hbl : b < X.2.2.2.2.1.heap.size) (hbA : ¬ qA G b) (C : qC X G cL_law 4 RL 100) (hRc : 136 ≤ X.2.2.2.1.cells ∧ 3965 ≤ X.2.2.2.1.slots) (V : Inv G h i A B) (hn : n + 6 ≤ L) (NX : ∀ h2 i' A' B', Inv G h2 i' A' B' → Y X G 4 136 3965 1298 [some (.ref b), some (qr G 0), some (qr G 122), some (.int (nI n))] [] h2) : Y X G 4 136 3965 239 [some (.ref b), some (qr G 0), some (qr G 122), some (.int (nI n))] [] h := by
  obtain ⟨r, h1, h2, fs, i', A', B', d1, d2, hd1, hd2, hc, hm, ho, V'⟩ := pr_set (l := X.2.1) V (x1 := xs (n + 1)) (x2 := xs (n + 2)) (x3 := xs (n + 3))
  refine y_aload_n C D_L_law_239 rfl ?_
  refine y_aload_n C D_L_law_240 rfl ?_
  refine y_iload_n C D_L_law_241 rfl ?_
  refine y_iconst C D_L_law_242 ki_1 ?_
  refine z_iadd C D_L_law_243 ?_
  refine y_sld C D_L_law_244 hX hbl hbA (by omega) (by omega) ?_
  refine y_aload_n C D_L_law_245 rfl ?_
  refine y_iload_n C D_L_law_246 rfl ?_
  refine y_iconst C D_L_law_247 ki_2 ?_
  refine z_iadd C D_L_law_248 ?_
  refine y_sld C D_L_law_249 hX hbl hbA (by omega) (by omega) ?_
  refine y_aload_n C D_L_law_250 rfl ?_
  refine y_iload_n C D_L_law_251 rfl ?_
  refine y_iconst C D_L_law_252 ki_3 ?_
  refine z_iadd C D_L_law_253 ?_
  refine y_sld C D_L_law_254 hX hbl hbA (by omega) (by omega) ?_
  refine z_callV C D_L_law_255 lk_L_18 hc V.o rfl rfl (by omega) (Nat.le_of_ble_eq_true rfl) hRc ?_
  refine y_aload_n C D_L_law_258 rfl ?_
  refine y_aload_n C D_L_law_259 rfl ?_
  refine y_iload_n C D_L_law_260 rfl ?_
  refine y_iconst C D_L_law_261 ki_1 ?_
  refine z_iadd C D_L_law_262 ?_
  refine y_sld C D_L_law_263 hX hbl hbA (by omega) (by omega) ?_
  refine y_aload_n C D_L_law_264 rfl ?_
  refine y_iload_n C D_L_law_265 rfl ?_
  refine y_iconst C D_L_law_266 ki_2 ?_
  refine z_iadd C D_L_law_267 ?_
  refine y_sld C D_L_law_268 hX hbl hbA (by omega) (by omega) ?_
  refine y_aload_n C D_L_law_269 rfl ?_
  refine y_iload_n C D_L_law_270 rfl ?_
  refine y_iconst C D_L_law_271 ki_3 ?_
  refine z_iadd C D_L_law_272 ?_
  refine y_sld C D_L_law_273 hX hbl hbA (by omega) (by omega) ?_
  refine z_callV C D_L_law_274 lk_L_21 hm ho rfl rfl (by omega) (Nat.le_of_ble_eq_true rfl) hRc ?_
  refine y_icmp_eq C D_L_law_277 Iff.rfl (fun _ => ?_) (fun q => absurd rfl q)
  exact NX _ _ _ _ V'
theorem lc_2 (hL : L ≤ 384) (hX : va_X b L xs X.2.2.2.2.1 X.2.2.2.2.1.heap) (hbl : b < X.2.2.2.2.1.heap.size) (hbA : ¬ qA G b) (C : qC X G cL_law 4 RL 100) (hRc : 136 ≤ X.2.2.2.1.cells ∧ 3965 ≤ X.2.2.2.1.slots) (V : Inv G h i A B) (hn : n + 6 ≤ L) (NX : ∀ h2 i' A' B', Inv G h2 i' A' B' → Y X G 4 136 3965 1298 [some (.ref b), some (qr G 0), some (qr G 122), some (.int (nI n))] [] h2) : Y X G 4 136 3965 282 [some (.ref b), some (qr G 0), some (qr G 122), some (.int (nI n))] [] h := by
  obtain ⟨r, h1, h2, fs, i', A', B', d1, d2, hd1, hd2, hc, hm, ho, V'⟩ := pr_copy (l := X.2.1) V (x1 := xs (n + 1)) (x2 := xs (n + 2)) (x3 := xs (n + 3)) (x4 := xs (n + 4)) (x5 := xs (n + 5))
  refine y_aload_n C D_L_law_282 rfl ?_
  refine y_aload_n C D_L_law_283 rfl ?_
  refine y_iload_n C D_L_law_284 rfl ?_
  refine y_iconst C D_L_law_285 ki_1 ?_
  refine z_iadd C D_L_law_286 ?_
  refine y_sld C D_L_law_287 hX hbl hbA (by omega) (by omega) ?_
  refine y_aload_n C D_L_law_288 rfl ?_
  refine y_iload_n C D_L_law_289 rfl ?_
  refine y_iconst C D_L_law_290 ki_2 ?_
  refine z_iadd C D_L_law_291 ?_
  refine y_sld C D_L_law_292 hX hbl hbA (by omega) (by omega) ?_
  refine y_aload_n C D_L_law_293 rfl ?_
  refine y_iload_n C D_L_law_294 rfl ?_
  refine y_iconst C D_L_law_295 ki_3 ?_
  refine z_iadd C D_L_law_296 ?_
  refine y_sld C D_L_law_297 hX hbl hbA (by omega) (by omega) ?_
  refine y_aload_n C D_L_law_298 rfl ?_
  refine y_iload_n C D_L_law_299 rfl ?_
  refine y_iconst C D_L_law_300 ki_4 ?_
  refine z_iadd C D_L_law_301 ?_
  refine y_sld C D_L_law_302 hX hbl hbA (by omega) (by omega) ?_
  refine y_aload_n C D_L_law_303 rfl ?_
  refine y_iload_n C D_L_law_304 rfl ?_
  refine y_iconst C D_L_law_305 ki_5 ?_
  refine z_iadd C D_L_law_306 ?_
  refine y_sld C D_L_law_307 hX hbl hbA (by omega) (by omega) ?_
  refine z_callV C D_L_law_308 lk_L_22 hc V.o rfl rfl (by omega) (Nat.le_of_ble_eq_true rfl) hRc ?_
  refine y_aload_n C D_L_law_311 rfl ?_
  refine y_aload_n C D_L_law_312 rfl ?_
  refine y_iload_n C D_L_law_313 rfl ?_
  refine y_iconst C D_L_law_314 ki_1 ?_
  refine z_iadd C D_L_law_315 ?_
  refine y_sld C D_L_law_316 hX hbl hbA (by omega) (by omega) ?_
  refine y_aload_n C D_L_law_317 rfl ?_
  refine y_iload_n C D_L_law_318 rfl ?_
  refine y_iconst C D_L_law_319 ki_2 ?_
  refine z_iadd C D_L_law_320 ?_
  refine y_sld C D_L_law_321 hX hbl hbA (by omega) (by omega) ?_
  refine y_aload_n C D_L_law_322 rfl ?_
  refine y_iload_n C D_L_law_323 rfl ?_
  refine y_iconst C D_L_law_324 ki_3 ?_
  refine z_iadd C D_L_law_325 ?_
  refine y_sld C D_L_law_326 hX hbl hbA (by omega) (by omega) ?_
  refine y_aload_n C D_L_law_327 rfl ?_
  refine y_iload_n C D_L_law_328 rfl ?_
  refine y_iconst C D_L_law_329 ki_4 ?_
  refine z_iadd C D_L_law_330 ?_
  refine y_sld C D_L_law_331 hX hbl hbA (by omega) (by omega) ?_
  refine y_aload_n C D_L_law_332 rfl ?_
  refine y_iload_n C D_L_law_333 rfl ?_
  refine y_iconst C D_L_law_334 ki_5 ?_
  refine z_iadd C D_L_law_335 ?_
  refine y_sld C D_L_law_336 hX hbl hbA (by omega) (by omega) ?_
  refine z_callV C D_L_law_337 lk_L_26 hm ho rfl rfl (by omega) (Nat.le_of_ble_eq_true rfl) hRc ?_
  refine y_icmp_eq C D_L_law_340 Iff.rfl (fun _ => ?_) (fun q => absurd rfl q)
  exact NX _ _ _ _ V'
theorem lc_3 (hL : L ≤ 384) (hX : va_X b L xs X.2.2.2.2.1 X.2.2.2.2.1.heap) (hbl : b < X.2.2.2.2.1.heap.size) (hbA : ¬ qA G b) (C : qC X G cL_law 4 RL 100) (hRc : 136 ≤ X.2.2.2.1.cells ∧ 3965 ≤ X.2.2.2.1.slots) (V : Inv G h i A B) (hn : n + 6 ≤ L) (NX : ∀ h2 i' A' B', Inv G h2 i' A' B' → Y X G 4 136 3965 1298 [some (.ref b), some (qr G 0), some (qr G 122), some (.int (nI n))] [] h2) : Y X G 4 136 3965 345 [some (.ref b), some (qr G 0), some (qr G 122), some (.int (nI n))] [] h := by
  obtain ⟨r, h1, h2, fs, i', A', B', d1, d2, hd1, hd2, hc, hm, ho, V'⟩ := pr_drop (l := X.2.1) V (x1 := xs (n + 1))
  refine y_aload_n C D_L_law_345 rfl ?_
  refine y_aload_n C D_L_law_346 rfl ?_
  refine y_iload_n C D_L_law_347 rfl ?_
  refine y_iconst C D_L_law_348 ki_1 ?_
  refine z_iadd C D_L_law_349 ?_
  refine y_sld C D_L_law_350 hX hbl hbA (by omega) (by omega) ?_
  refine z_callV C D_L_law_351 lk_L_27 hc V.o rfl rfl (by omega) (Nat.le_of_ble_eq_true rfl) hRc ?_
  refine y_aload_n C D_L_law_354 rfl ?_
  refine y_aload_n C D_L_law_355 rfl ?_
  refine y_iload_n C D_L_law_356 rfl ?_
  refine y_iconst C D_L_law_357 ki_1 ?_
  refine z_iadd C D_L_law_358 ?_
  refine y_sld C D_L_law_359 hX hbl hbA (by omega) (by omega) ?_
  refine z_callV C D_L_law_360 lk_L_31 hm ho rfl rfl (by omega) (Nat.le_of_ble_eq_true rfl) hRc ?_
  refine y_icmp_eq C D_L_law_363 Iff.rfl (fun _ => ?_) (fun q => absurd rfl q)
  exact NX _ _ _ _ V'
theorem lc_4 (hL : L ≤ 384) (hX : va_X b L xs X.2.2.2.2.1 X.2.2.2.2.1.heap) (hbl : b < X.2.2.2.2.1.heap.size) (hbA : ¬ qA G b) (C : qC X G cL_law 4 RL 100) (hRc : 136 ≤ X.2.2.2.1.cells ∧ 3965 ≤ X.2.2.2.1.slots) (V : Inv G h i A B) (hn : n + 6 ≤ L) (NX : ∀ h2 i' A' B', Inv G h2 i' A' B' → Y X G 4 136 3965 1298 [some (.ref b), some (qr G 0), some (qr G 122), some (.int (nI n))] [] h2) : Y X G 4 136 3965 368 [some (.ref b), some (qr G 0), some (qr G 122), some (.int (nI n))] [] h := by
  obtain ⟨r, h1, h2, fs, i', A', B', d1, d2, hd1, hd2, hc, hm, ho, V'⟩ := pr_feed (l := X.2.1) V (x1 := xs (n + 1))
  refine y_aload_n C D_L_law_368 rfl ?_
  refine y_aload_n C D_L_law_369 rfl ?_
  refine y_iload_n C D_L_law_370 rfl ?_
  refine y_iconst C D_L_law_371 ki_1 ?_
  refine z_iadd C D_L_law_372 ?_
  refine y_sld C D_L_law_373 hX hbl hbA (by omega) (by omega) ?_
  refine z_callV C D_L_law_374 lk_L_32 hc V.o rfl rfl (by omega) (Nat.le_of_ble_eq_true rfl) hRc ?_
  refine y_aload_n C D_L_law_377 rfl ?_
  refine y_aload_n C D_L_law_378 rfl ?_
  refine y_iload_n C D_L_law_379 rfl ?_
  refine y_iconst C D_L_law_380 ki_1 ?_
  refine z_iadd C D_L_law_381 ?_
  refine y_sld C D_L_law_382 hX hbl hbA (by omega) (by omega) ?_
  refine z_callV C D_L_law_383 lk_L_35 hm ho rfl rfl (by omega) (Nat.le_of_ble_eq_true rfl) hRc ?_
  refine y_icmp_eq C D_L_law_386 Iff.rfl (fun _ => ?_) (fun q => absurd rfl q)
  exact NX _ _ _ _ V'
theorem lc_5 (hL : L ≤ 384) (hX : va_X b L xs X.2.2.2.2.1 X.2.2.2.2.1.heap) (hbl : b < X.2.2.2.2.1.heap.size) (hbA : ¬ qA G b) (C : qC X G cL_law 4 RL 100) (hRc : 136 ≤ X.2.2.2.1.cells ∧ 3965 ≤ X.2.2.2.1.slots) (V : Inv G h i A B) (hn : n + 6 ≤ L) (NX : ∀ h2 i' A' B', Inv G h2 i' A' B' → Y X G 4 136 3965 1298 [some (.ref b), some (qr G 0), some (qr G 122), some (.int (nI n))] [] h2) : Y X G 4 136 3965 391 [some (.ref b), some (qr G 0), some (qr G 122), some (.int (nI n))] [] h := by
  obtain ⟨r, h1, h2, fs, i', A', B', d1, d2, hd1, hd2, hc, hm, ho, V'⟩ := pr_yard (l := X.2.1) V 
  refine y_aload_n C D_L_law_391 rfl ?_
  refine z_callV C D_L_law_392 lk_L_36 hc V.o rfl rfl (by omega) (Nat.le_of_ble_eq_true rfl) hRc ?_
  refine y_aload_n C D_L_law_395 rfl ?_
  refine z_callV C D_L_law_396 lk_L_40 hm ho rfl rfl (by omega) (Nat.le_of_ble_eq_true rfl) hRc ?_
  refine y_icmp_eq C D_L_law_399 Iff.rfl (fun _ => ?_) (fun q => absurd rfl q)
  exact NX _ _ _ _ V'
theorem lc_6 (hL : L ≤ 384) (hX : va_X b L xs X.2.2.2.2.1 X.2.2.2.2.1.heap) (hbl : b < X.2.2.2.2.1.heap.size) (hbA : ¬ qA G b) (C : qC X G cL_law 4 RL 100) (hRc : 136 ≤ X.2.2.2.1.cells ∧ 3965 ≤ X.2.2.2.1.slots) (V : Inv G h i A B) (hn : n + 6 ≤ L) (NX : ∀ h2 i' A' B', Inv G h2 i' A' B' → Y X G 4 136 3965 1298 [some (.ref b), some (qr G 0), some (qr G 122), some (.int (nI n))] [] h2) : Y X G 4 136 3965 404 [some (.ref b), some (qr G 0), some (qr G 122), some (.int (nI n))] [] h := by
  obtain ⟨r, h1, h2, fs, i', A', B', d1, d2, hd1, hd2, hc, hm, ho, V'⟩ := pr_fault (l := X.2.1) V 
  refine y_aload_n C D_L_law_404 rfl ?_
  refine z_callV C D_L_law_405 lk_L_41 hc V.o rfl rfl (by omega) (Nat.le_of_ble_eq_true rfl) hRc ?_
  refine y_aload_n C D_L_law_408 rfl ?_
  refine z_callV C D_L_law_409 lk_L_44 hm ho rfl rfl (by omega) (Nat.le_of_ble_eq_true rfl) hRc ?_
  refine y_icmp_eq C D_L_law_412 Iff.rfl (fun _ => ?_) (fun q => absurd rfl q)
  exact NX _ _ _ _ V'
theorem lc_7 (hL : L ≤ 384) (hX : va_X b L xs X.2.2.2.2.1 X.2.2.2.2.1.heap) (hbl : b < X.2.2.2.2.1.heap.size) (hbA : ¬ qA G b) (C : qC X G cL_law 4 RL 100) (hRc : 136 ≤ X.2.2.2.1.cells ∧ 3965 ≤ X.2.2.2.1.slots) (V : Inv G h i A B) (hn : n + 6 ≤ L) (NX : ∀ h2 i' A' B', Inv G h2 i' A' B' → Y X G 4 136 3965 1298 [some (.ref b), some (qr G 0), some (qr G 122), some (.int (nI n))] [] h2) : Y X G 4 136 3965 417 [some (.ref b), some (qr G 0), some (qr G 122), some (.int (nI n))] [] h := by
  obtain ⟨r, h1, h2, fs, i', A', B', d1, d2, hd1, hd2, hc, hm, ho, V'⟩ := pr_undo (l := X.2.1) V 
  refine y_aload_n C D_L_law_417 rfl ?_
  refine z_callV C D_L_law_418 lk_L_45 hc V.o rfl rfl (by omega) (Nat.le_of_ble_eq_true rfl) hRc ?_
  refine y_aload_n C D_L_law_421 rfl ?_
  refine z_callV C D_L_law_422 lk_L_48 hm ho rfl rfl (by omega) (Nat.le_of_ble_eq_true rfl) hRc ?_
  refine y_icmp_eq C D_L_law_425 Iff.rfl (fun _ => ?_) (fun q => absurd rfl q)
  exact NX _ _ _ _ V'
theorem lc_8 (hL : L ≤ 384) (hX : va_X b L xs X.2.2.2.2.1 X.2.2.2.2.1.heap) (hbl : b < X.2.2.2.2.1.heap.size) (hbA : ¬ qA G b) (C : qC X G cL_law 4 RL 100) (hRc : 136 ≤ X.2.2.2.1.cells ∧ 3965 ≤ X.2.2.2.1.slots) (V : Inv G h i A B) (hn : n + 6 ≤ L) (NX : ∀ h2 i' A' B', Inv G h2 i' A' B' → Y X G 4 136 3965 1298 [some (.ref b), some (qr G 0), some (qr G 122), some (.int (nI n))] [] h2) : Y X G 4 136 3965 430 [some (.ref b), some (qr G 0), some (qr G 122), some (.int (nI n))] [] h := by
  obtain ⟨r, h1, h2, fs, i', A', B', d1, d2, hd1, hd2, hc, hm, ho, V'⟩ := pr_years (l := X.2.1) V (x1 := xs (n + 1))
  refine y_aload_n C D_L_law_430 rfl ?_
  refine y_aload_n C D_L_law_431 rfl ?_
  refine y_iload_n C D_L_law_432 rfl ?_
  refine y_iconst C D_L_law_433 ki_1 ?_
  refine z_iadd C D_L_law_434 ?_
  refine y_sld C D_L_law_435 hX hbl hbA (by omega) (by omega) ?_
  refine z_callV C D_L_law_436 lk_L_49 hc V.o rfl rfl (by omega) (Nat.le_of_ble_eq_true rfl) hRc ?_
  refine y_aload_n C D_L_law_439 rfl ?_
  refine y_aload_n C D_L_law_440 rfl ?_
  refine y_iload_n C D_L_law_441 rfl ?_
  refine y_iconst C D_L_law_442 ki_1 ?_
  refine z_iadd C D_L_law_443 ?_
  refine y_sld C D_L_law_444 hX hbl hbA (by omega) (by omega) ?_
  refine z_callV C D_L_law_445 lk_L_52 hm ho rfl rfl (by omega) (Nat.le_of_ble_eq_true rfl) hRc ?_
  refine y_icmp_eq C D_L_law_448 Iff.rfl (fun _ => ?_) (fun q => absurd rfl q)
  exact NX _ _ _ _ V'
theorem lc_9 (hL : L ≤ 384) (hX : va_X b L xs X.2.2.2.2.1 X.2.2.2.2.1.heap) (hbl : b < X.2.2.2.2.1.heap.size) (hbA : ¬ qA G b) (C : qC X G cL_law 4 RL 100) (hRc : 136 ≤ X.2.2.2.1.cells ∧ 3965 ≤ X.2.2.2.1.slots) (V : Inv G h i A B) (hn : n + 6 ≤ L) (NX : ∀ h2 i' A' B', Inv G h2 i' A' B' → Y X G 4 136 3965 1298 [some (.ref b), some (qr G 0), some (qr G 122), some (.int (nI n))] [] h2) : Y X G 4 136 3965 453 [some (.ref b), some (qr G 0), some (qr G 122), some (.int (nI n))] [] h := by
  obtain ⟨r, h1, h2, fs, i', A', B', d1, d2, hd1, hd2, hc, hm, ho, V'⟩ := pr_supper (l := X.2.1) V (x1 := xs (n + 1))
  refine y_aload_n C D_L_law_453 rfl ?_
  refine y_aload_n C D_L_law_454 rfl ?_
  refine y_iload_n C D_L_law_455 rfl ?_
  refine y_iconst C D_L_law_456 ki_1 ?_
  refine z_iadd C D_L_law_457 ?_
  refine y_sld C D_L_law_458 hX hbl hbA (by omega) (by omega) ?_
  refine z_callV C D_L_law_459 lk_L_53 hc V.o rfl rfl (by omega) (Nat.le_of_ble_eq_true rfl) hRc ?_
  refine y_aload_n C D_L_law_462 rfl ?_
  refine y_aload_n C D_L_law_463 rfl ?_
  refine y_iload_n C D_L_law_464 rfl ?_
  refine y_iconst C D_L_law_465 ki_1 ?_
  refine z_iadd C D_L_law_466 ?_
  refine y_sld C D_L_law_467 hX hbl hbA (by omega) (by omega) ?_
  refine z_callV C D_L_law_468 lk_L_56 hm ho rfl rfl (by omega) (Nat.le_of_ble_eq_true rfl) hRc ?_
  refine y_icmp_eq C D_L_law_471 Iff.rfl (fun _ => ?_) (fun q => absurd rfl q)
  exact NX _ _ _ _ V'
theorem lc_10 (hL : L ≤ 384) (hX : va_X b L xs X.2.2.2.2.1 X.2.2.2.2.1.heap) (hbl : b < X.2.2.2.2.1.heap.size) (hbA : ¬ qA G b) (C : qC X G cL_law 4 RL 100) (hRc : 136 ≤ X.2.2.2.1.cells ∧ 3965 ≤ X.2.2.2.1.slots) (V : Inv G h i A B) (hn : n + 6 ≤ L) (NX : ∀ h2 i' A' B', Inv G h2 i' A' B' → Y X G 4 136 3965 1298 [some (.ref b), some (qr G 0), some (qr G 122), some (.int (nI n))] [] h2) : Y X G 4 136 3965 476 [some (.ref b), some (qr G 0), some (qr G 122), some (.int (nI n))] [] h := by
  obtain ⟨r, h1, h2, fs, i', A', B', d1, d2, hd1, hd2, hc, hm, ho, V'⟩ := pr_fever (l := X.2.1) V (x1 := xs (n + 1))
  refine y_aload_n C D_L_law_476 rfl ?_
  refine y_aload_n C D_L_law_477 rfl ?_
  refine y_iload_n C D_L_law_478 rfl ?_
  refine y_iconst C D_L_law_479 ki_1 ?_
  refine z_iadd C D_L_law_480 ?_
  refine y_sld C D_L_law_481 hX hbl hbA (by omega) (by omega) ?_
  refine z_callV C D_L_law_482 lk_L_57 hc V.o rfl rfl (by omega) (Nat.le_of_ble_eq_true rfl) hRc ?_
  refine y_aload_n C D_L_law_485 rfl ?_
  refine y_aload_n C D_L_law_486 rfl ?_
  refine y_iload_n C D_L_law_487 rfl ?_
  refine y_iconst C D_L_law_488 ki_1 ?_
  refine z_iadd C D_L_law_489 ?_
  refine y_sld C D_L_law_490 hX hbl hbA (by omega) (by omega) ?_
  refine z_callV C D_L_law_491 lk_L_60 hm ho rfl rfl (by omega) (Nat.le_of_ble_eq_true rfl) hRc ?_
  refine y_icmp_eq C D_L_law_494 Iff.rfl (fun _ => ?_) (fun q => absurd rfl q)
  exact NX _ _ _ _ V'
theorem lc_11 (hL : L ≤ 384) (hX : va_X b L xs X.2.2.2.2.1 X.2.2.2.2.1.heap) (hbl : b < X.2.2.2.2.1.heap.size) (hbA : ¬ qA G b) (C : qC X G cL_law 4 RL 100) (hRc : 136 ≤ X.2.2.2.1.cells ∧ 3965 ≤ X.2.2.2.1.slots) (V : Inv G h i A B) (hn : n + 6 ≤ L) (NX : ∀ h2 i' A' B', Inv G h2 i' A' B' → Y X G 4 136 3965 1298 [some (.ref b), some (qr G 0), some (qr G 122), some (.int (nI n))] [] h2) : Y X G 4 136 3965 499 [some (.ref b), some (qr G 0), some (qr G 122), some (.int (nI n))] [] h := by
  obtain ⟨r, h1, h2, fs, i', A', B', d1, d2, hd1, hd2, hc, hm, ho, V'⟩ := pr_tell (l := X.2.1) V (x1 := xs (n + 1)) (x2 := xs (n + 2))
  refine y_aload_n C D_L_law_499 rfl ?_
  refine y_aload_n C D_L_law_500 rfl ?_
  refine y_iload_n C D_L_law_501 rfl ?_
  refine y_iconst C D_L_law_502 ki_1 ?_
  refine z_iadd C D_L_law_503 ?_
  refine y_sld C D_L_law_504 hX hbl hbA (by omega) (by omega) ?_
  refine y_aload_n C D_L_law_505 rfl ?_
  refine y_iload_n C D_L_law_506 rfl ?_
  refine y_iconst C D_L_law_507 ki_2 ?_
  refine z_iadd C D_L_law_508 ?_
  refine y_sld C D_L_law_509 hX hbl hbA (by omega) (by omega) ?_
  refine z_callV C D_L_law_510 lk_L_61 hc V.o rfl rfl (by omega) (Nat.le_of_ble_eq_true rfl) hRc ?_
  refine y_aload_n C D_L_law_513 rfl ?_
  refine y_aload_n C D_L_law_514 rfl ?_
  refine y_iload_n C D_L_law_515 rfl ?_
  refine y_iconst C D_L_law_516 ki_1 ?_
  refine z_iadd C D_L_law_517 ?_
  refine y_sld C D_L_law_518 hX hbl hbA (by omega) (by omega) ?_
  refine y_aload_n C D_L_law_519 rfl ?_
  refine y_iload_n C D_L_law_520 rfl ?_
  refine y_iconst C D_L_law_521 ki_2 ?_
  refine z_iadd C D_L_law_522 ?_
  refine y_sld C D_L_law_523 hX hbl hbA (by omega) (by omega) ?_
  refine z_callV C D_L_law_524 lk_L_65 hm ho rfl rfl (by omega) (Nat.le_of_ble_eq_true rfl) hRc ?_
  refine y_icmp_eq C D_L_law_527 Iff.rfl (fun _ => ?_) (fun q => absurd rfl q)
  exact NX _ _ _ _ V'
theorem lc_12 (hL : L ≤ 384) (hX : va_X b L xs X.2.2.2.2.1 X.2.2.2.2.1.heap) (hbl : b < X.2.2.2.2.1.heap.size) (hbA : ¬ qA G b) (C : qC X G cL_law 4 RL 100) (hRc : 136 ≤ X.2.2.2.1.cells ∧ 3965 ≤ X.2.2.2.1.slots) (V : Inv G h i A B) (hn : n + 6 ≤ L) (NX : ∀ h2 i' A' B', Inv G h2 i' A' B' → Y X G 4 136 3965 1298 [some (.ref b), some (qr G 0), some (qr G 122), some (.int (nI n))] [] h2) : Y X G 4 136 3965 532 [some (.ref b), some (qr G 0), some (qr G 122), some (.int (nI n))] [] h := by
  obtain ⟨r, h1, h2, fs, i', A', B', d1, d2, hd1, hd2, hc, hm, ho, V'⟩ := pr_bury (l := X.2.1) V (x1 := xs (n + 1)) (x2 := xs (n + 2))
  refine y_aload_n C D_L_law_532 rfl ?_
  refine y_aload_n C D_L_law_533 rfl ?_
  refine y_iload_n C D_L_law_534 rfl ?_
  refine y_iconst C D_L_law_535 ki_1 ?_
  refine z_iadd C D_L_law_536 ?_
  refine y_sld C D_L_law_537 hX hbl hbA (by omega) (by omega) ?_
  refine y_aload_n C D_L_law_538 rfl ?_
  refine y_iload_n C D_L_law_539 rfl ?_
  refine y_iconst C D_L_law_540 ki_2 ?_
  refine z_iadd C D_L_law_541 ?_
  refine y_sld C D_L_law_542 hX hbl hbA (by omega) (by omega) ?_
  refine z_callV C D_L_law_543 lk_L_66 hc V.o rfl rfl (by omega) (Nat.le_of_ble_eq_true rfl) hRc ?_
  refine y_aload_n C D_L_law_546 rfl ?_
  refine y_aload_n C D_L_law_547 rfl ?_
  refine y_iload_n C D_L_law_548 rfl ?_
  refine y_iconst C D_L_law_549 ki_1 ?_
  refine z_iadd C D_L_law_550 ?_
  refine y_sld C D_L_law_551 hX hbl hbA (by omega) (by omega) ?_
  refine y_aload_n C D_L_law_552 rfl ?_
  refine y_iload_n C D_L_law_553 rfl ?_
  refine y_iconst C D_L_law_554 ki_2 ?_
  refine z_iadd C D_L_law_555 ?_
  refine y_sld C D_L_law_556 hX hbl hbA (by omega) (by omega) ?_
  refine z_callV C D_L_law_557 lk_L_69 hm ho rfl rfl (by omega) (Nat.le_of_ble_eq_true rfl) hRc ?_
  refine y_icmp_eq C D_L_law_560 Iff.rfl (fun _ => ?_) (fun q => absurd rfl q)
  exact NX _ _ _ _ V'
theorem lc_13 (hL : L ≤ 384) (hX : va_X b L xs X.2.2.2.2.1 X.2.2.2.2.1.heap) (hbl : b < X.2.2.2.2.1.heap.size) (hbA : ¬ qA G b) (C : qC X G cL_law 4 RL 100) (hRc : 136 ≤ X.2.2.2.1.cells ∧ 3965 ≤ X.2.2.2.1.slots) (V : Inv G h i A B) (hn : n + 6 ≤ L) (NX : ∀ h2 i' A' B', Inv G h2 i' A' B' → Y X G 4 136 3965 1298 [some (.ref b), some (qr G 0), some (qr G 122), some (.int (nI n))] [] h2) : Y X G 4 136 3965 565 [some (.ref b), some (qr G 0), some (qr G 122), some (.int (nI n))] [] h := by
  obtain ⟨r, h1, h2, fs, i', A', B', d1, d2, hd1, hd2, hc, hm, ho, V'⟩ := pr_sleeper (l := X.2.1) V (x1 := xs (n + 1)) (x2 := xs (n + 2))
  refine y_aload_n C D_L_law_565 rfl ?_
  refine y_aload_n C D_L_law_566 rfl ?_
  refine y_iload_n C D_L_law_567 rfl ?_
  refine y_iconst C D_L_law_568 ki_1 ?_
  refine z_iadd C D_L_law_569 ?_
  refine y_sld C D_L_law_570 hX hbl hbA (by omega) (by omega) ?_
  refine y_aload_n C D_L_law_571 rfl ?_
  refine y_iload_n C D_L_law_572 rfl ?_
  refine y_iconst C D_L_law_573 ki_2 ?_
  refine z_iadd C D_L_law_574 ?_
  refine y_sld C D_L_law_575 hX hbl hbA (by omega) (by omega) ?_
  refine z_callV C D_L_law_576 lk_L_70 hc V.o rfl rfl (by omega) (Nat.le_of_ble_eq_true rfl) hRc ?_
  refine y_aload_n C D_L_law_579 rfl ?_
  refine y_aload_n C D_L_law_580 rfl ?_
  refine y_iload_n C D_L_law_581 rfl ?_
  refine y_iconst C D_L_law_582 ki_1 ?_
  refine z_iadd C D_L_law_583 ?_
  refine y_sld C D_L_law_584 hX hbl hbA (by omega) (by omega) ?_
  refine y_aload_n C D_L_law_585 rfl ?_
  refine y_iload_n C D_L_law_586 rfl ?_
  refine y_iconst C D_L_law_587 ki_2 ?_
  refine z_iadd C D_L_law_588 ?_
  refine y_sld C D_L_law_589 hX hbl hbA (by omega) (by omega) ?_
  refine z_callV C D_L_law_590 lk_L_73 hm ho rfl rfl (by omega) (Nat.le_of_ble_eq_true rfl) hRc ?_
  refine y_icmp_eq C D_L_law_593 Iff.rfl (fun _ => ?_) (fun q => absurd rfl q)
  exact NX _ _ _ _ V'
theorem lc_14 (hL : L ≤ 384) (hX : va_X b L xs X.2.2.2.2.1 X.2.2.2.2.1.heap) (hbl : b < X.2.2.2.2.1.heap.size) (hbA : ¬ qA G b) (C : qC X G cL_law 4 RL 100) (hRc : 136 ≤ X.2.2.2.1.cells ∧ 3965 ≤ X.2.2.2.1.slots) (V : Inv G h i A B) (hn : n + 6 ≤ L) (NX : ∀ h2 i' A' B', Inv G h2 i' A' B' → Y X G 4 136 3965 1298 [some (.ref b), some (qr G 0), some (qr G 122), some (.int (nI n))] [] h2) : Y X G 4 136 3965 598 [some (.ref b), some (qr G 0), some (qr G 122), some (.int (nI n))] [] h := by
  obtain ⟨r, h1, h2, fs, i', A', B', d1, d2, hd1, hd2, hc, hm, ho, V'⟩ := pr_memory (l := X.2.1) V (x1 := xs (n + 1)) (x2 := xs (n + 2))
  refine y_aload_n C D_L_law_598 rfl ?_
  refine y_aload_n C D_L_law_599 rfl ?_
  refine y_iload_n C D_L_law_600 rfl ?_
  refine y_iconst C D_L_law_601 ki_1 ?_
  refine z_iadd C D_L_law_602 ?_
  refine y_sld C D_L_law_603 hX hbl hbA (by omega) (by omega) ?_
  refine y_aload_n C D_L_law_604 rfl ?_
  refine y_iload_n C D_L_law_605 rfl ?_
  refine y_iconst C D_L_law_606 ki_2 ?_
  refine z_iadd C D_L_law_607 ?_
  refine y_sld C D_L_law_608 hX hbl hbA (by omega) (by omega) ?_
  refine z_callV C D_L_law_609 lk_L_74 hc V.o rfl rfl (by omega) (Nat.le_of_ble_eq_true rfl) hRc ?_
  refine y_aload_n C D_L_law_612 rfl ?_
  refine y_aload_n C D_L_law_613 rfl ?_
  refine y_iload_n C D_L_law_614 rfl ?_
  refine y_iconst C D_L_law_615 ki_1 ?_
  refine z_iadd C D_L_law_616 ?_
  refine y_sld C D_L_law_617 hX hbl hbA (by omega) (by omega) ?_
  refine y_aload_n C D_L_law_618 rfl ?_
  refine y_iload_n C D_L_law_619 rfl ?_
  refine y_iconst C D_L_law_620 ki_2 ?_
  refine z_iadd C D_L_law_621 ?_
  refine y_sld C D_L_law_622 hX hbl hbA (by omega) (by omega) ?_
  refine z_callV C D_L_law_623 lk_L_77 hm ho rfl rfl (by omega) (Nat.le_of_ble_eq_true rfl) hRc ?_
  refine y_icmp_eq C D_L_law_626 Iff.rfl (fun _ => ?_) (fun q => absurd rfl q)
  exact NX _ _ _ _ V'
theorem lc_15 (hL : L ≤ 384) (hX : va_X b L xs X.2.2.2.2.1 X.2.2.2.2.1.heap) (hbl : b < X.2.2.2.2.1.heap.size) (hbA : ¬ qA G b) (C : qC X G cL_law 4 RL 100) (hRc : 136 ≤ X.2.2.2.1.cells ∧ 3965 ≤ X.2.2.2.1.slots) (V : Inv G h i A B) (hn : n + 6 ≤ L) (NX : ∀ h2 i' A' B', Inv G h2 i' A' B' → Y X G 4 136 3965 1298 [some (.ref b), some (qr G 0), some (qr G 122), some (.int (nI n))] [] h2) : Y X G 4 136 3965 631 [some (.ref b), some (qr G 0), some (qr G 122), some (.int (nI n))] [] h := by
  obtain ⟨r, h1, h2, fs, i', A', B', d1, d2, hd1, hd2, hc, hm, ho, V'⟩ := pr_grave (l := X.2.1) V (x1 := xs (n + 1)) (x2 := xs (n + 2))
  refine y_aload_n C D_L_law_631 rfl ?_
  refine y_aload_n C D_L_law_632 rfl ?_
  refine y_iload_n C D_L_law_633 rfl ?_
  refine y_iconst C D_L_law_634 ki_1 ?_
  refine z_iadd C D_L_law_635 ?_
  refine y_sld C D_L_law_636 hX hbl hbA (by omega) (by omega) ?_
  refine y_aload_n C D_L_law_637 rfl ?_
  refine y_iload_n C D_L_law_638 rfl ?_
  refine y_iconst C D_L_law_639 ki_2 ?_
  refine z_iadd C D_L_law_640 ?_
  refine y_sld C D_L_law_641 hX hbl hbA (by omega) (by omega) ?_
  refine z_callV C D_L_law_642 lk_L_78 hc V.o rfl rfl (by omega) (Nat.le_of_ble_eq_true rfl) hRc ?_
  refine y_aload_n C D_L_law_645 rfl ?_
  refine y_aload_n C D_L_law_646 rfl ?_
  refine y_iload_n C D_L_law_647 rfl ?_
  refine y_iconst C D_L_law_648 ki_1 ?_
  refine z_iadd C D_L_law_649 ?_
  refine y_sld C D_L_law_650 hX hbl hbA (by omega) (by omega) ?_
  refine y_aload_n C D_L_law_651 rfl ?_
  refine y_iload_n C D_L_law_652 rfl ?_
  refine y_iconst C D_L_law_653 ki_2 ?_
  refine z_iadd C D_L_law_654 ?_
  refine y_sld C D_L_law_655 hX hbl hbA (by omega) (by omega) ?_
  refine z_callV C D_L_law_656 lk_L_81 hm ho rfl rfl (by omega) (Nat.le_of_ble_eq_true rfl) hRc ?_
  refine y_icmp_eq C D_L_law_659 Iff.rfl (fun _ => ?_) (fun q => absurd rfl q)
  exact NX _ _ _ _ V'
theorem lc_16 (hL : L ≤ 384) (hX : va_X b L xs X.2.2.2.2.1 X.2.2.2.2.1.heap) (hbl : b < X.2.2.2.2.1.heap.size) (hbA : ¬ qA G b) (C : qC X G cL_law 4 RL 100) (hRc : 136 ≤ X.2.2.2.1.cells ∧ 3965 ≤ X.2.2.2.1.slots) (V : Inv G h i A B) (hn : n + 6 ≤ L) (NX : ∀ h2 i' A' B', Inv G h2 i' A' B' → Y X G 4 136 3965 1298 [some (.ref b), some (qr G 0), some (qr G 122), some (.int (nI n))] [] h2) : Y X G 4 136 3965 664 [some (.ref b), some (qr G 0), some (qr G 122), some (.int (nI n))] [] h := by
  obtain ⟨r, h1, h2, fs, i', A', B', d1, d2, hd1, hd2, hc, hm, ho, V'⟩ := pr_ahead (l := X.2.1) V (x1 := xs (n + 1))
  refine y_aload_n C D_L_law_664 rfl ?_
  refine y_aload_n C D_L_law_665 rfl ?_
  refine y_iload_n C D_L_law_666 rfl ?_
  refine y_iconst C D_L_law_667 ki_1 ?_
  refine z_iadd C D_L_law_668 ?_
  refine y_sld C D_L_law_669 hX hbl hbA (by omega) (by omega) ?_
  refine z_callV C D_L_law_670 lk_L_82 hc V.o rfl rfl (by omega) (Nat.le_of_ble_eq_true rfl) hRc ?_
  refine y_aload_n C D_L_law_673 rfl ?_
  refine y_aload_n C D_L_law_674 rfl ?_
  refine y_iload_n C D_L_law_675 rfl ?_
  refine y_iconst C D_L_law_676 ki_1 ?_
  refine z_iadd C D_L_law_677 ?_
  refine y_sld C D_L_law_678 hX hbl hbA (by omega) (by omega) ?_
  refine z_callV C D_L_law_679 lk_L_85 hm ho rfl rfl (by omega) (Nat.le_of_ble_eq_true rfl) hRc ?_
  refine y_icmp_eq C D_L_law_682 Iff.rfl (fun _ => ?_) (fun q => absurd rfl q)
  exact NX _ _ _ _ V'
theorem lc_17 (hL : L ≤ 384) (hX : va_X b L xs X.2.2.2.2.1 X.2.2.2.2.1.heap) (hbl : b < X.2.2.2.2.1.heap.size) (hbA : ¬ qA G b) (C : qC X G cL_law 4 RL 100) (hRc : 136 ≤ X.2.2.2.1.cells ∧ 3965 ≤ X.2.2.2.1.slots) (V : Inv G h i A B) (hn : n + 6 ≤ L) (NX : ∀ h2 i' A' B', Inv G h2 i' A' B' → Y X G 4 136 3965 1298 [some (.ref b), some (qr G 0), some (qr G 122), some (.int (nI n))] [] h2) : Y X G 4 136 3965 687 [some (.ref b), some (qr G 0), some (qr G 122), some (.int (nI n))] [] h := by
  obtain ⟨r, h1, h2, fs, i', A', B', d1, d2, hd1, hd2, hc, hm, ho, V'⟩ := pr_dug (l := X.2.1) V (x1 := xs (n + 1))
  refine y_aload_n C D_L_law_687 rfl ?_
  refine y_aload_n C D_L_law_688 rfl ?_
  refine y_iload_n C D_L_law_689 rfl ?_
  refine y_iconst C D_L_law_690 ki_1 ?_
  refine z_iadd C D_L_law_691 ?_
  refine y_sld C D_L_law_692 hX hbl hbA (by omega) (by omega) ?_
  refine z_callV C D_L_law_693 lk_L_86 hc V.o rfl rfl (by omega) (Nat.le_of_ble_eq_true rfl) hRc ?_
  refine y_aload_n C D_L_law_696 rfl ?_
  refine y_aload_n C D_L_law_697 rfl ?_
  refine y_iload_n C D_L_law_698 rfl ?_
  refine y_iconst C D_L_law_699 ki_1 ?_
  refine z_iadd C D_L_law_700 ?_
  refine y_sld C D_L_law_701 hX hbl hbA (by omega) (by omega) ?_
  refine z_callV C D_L_law_702 lk_L_89 hm ho rfl rfl (by omega) (Nat.le_of_ble_eq_true rfl) hRc ?_
  refine y_icmp_eq C D_L_law_705 Iff.rfl (fun _ => ?_) (fun q => absurd rfl q)
  exact NX _ _ _ _ V'
theorem lc_18 (hL : L ≤ 384) (hX : va_X b L xs X.2.2.2.2.1 X.2.2.2.2.1.heap) (hbl : b < X.2.2.2.2.1.heap.size) (hbA : ¬ qA G b) (C : qC X G cL_law 4 RL 100) (hRc : 136 ≤ X.2.2.2.1.cells ∧ 3965 ≤ X.2.2.2.1.slots) (V : Inv G h i A B) (hn : n + 6 ≤ L) (NX : ∀ h2 i' A' B', Inv G h2 i' A' B' → Y X G 4 136 3965 1298 [some (.ref b), some (qr G 0), some (qr G 122), some (.int (nI n))] [] h2) : Y X G 4 136 3965 710 [some (.ref b), some (qr G 0), some (qr G 122), some (.int (nI n))] [] h := by
  obtain ⟨r, h1, h2, fs, i', A', B', d1, d2, hd1, hd2, hc, hm, ho, V'⟩ := pr_firstDug (l := X.2.1) V 
  refine y_aload_n C D_L_law_710 rfl ?_
  refine z_callV C D_L_law_711 lk_L_90 hc V.o rfl rfl (by omega) (Nat.le_of_ble_eq_true rfl) hRc ?_
  refine y_aload_n C D_L_law_714 rfl ?_
  refine z_callV C D_L_law_715 lk_L_93 hm ho rfl rfl (by omega) (Nat.le_of_ble_eq_true rfl) hRc ?_
  refine y_icmp_eq C D_L_law_718 Iff.rfl (fun _ => ?_) (fun q => absurd rfl q)
  exact NX _ _ _ _ V'
theorem lc_19 (hL : L ≤ 384) (hX : va_X b L xs X.2.2.2.2.1 X.2.2.2.2.1.heap) (hbl : b < X.2.2.2.2.1.heap.size) (hbA : ¬ qA G b) (C : qC X G cL_law 4 RL 100) (hRc : 136 ≤ X.2.2.2.1.cells ∧ 3965 ≤ X.2.2.2.1.slots) (V : Inv G h i A B) (hn : n + 6 ≤ L) (NX : ∀ h2 i' A' B', Inv G h2 i' A' B' → Y X G 4 136 3965 1298 [some (.ref b), some (qr G 0), some (qr G 122), some (.int (nI n))] [] h2) : Y X G 4 136 3965 723 [some (.ref b), some (qr G 0), some (qr G 122), some (.int (nI n))] [] h := by
  obtain ⟨r, h1, h2, fs, i', A', B', d1, d2, hd1, hd2, hc, hm, ho, V'⟩ := pr_suppers (l := X.2.1) V (x1 := xs (n + 1)) (x2 := xs (n + 2)) (x3 := xs (n + 3))
  refine y_aload_n C D_L_law_723 rfl ?_
  refine y_aload_n C D_L_law_724 rfl ?_
  refine y_iload_n C D_L_law_725 rfl ?_
  refine y_iconst C D_L_law_726 ki_1 ?_
  refine z_iadd C D_L_law_727 ?_
  refine y_sld C D_L_law_728 hX hbl hbA (by omega) (by omega) ?_
  refine y_aload_n C D_L_law_729 rfl ?_
  refine y_iload_n C D_L_law_730 rfl ?_
  refine y_iconst C D_L_law_731 ki_2 ?_
  refine z_iadd C D_L_law_732 ?_
  refine y_sld C D_L_law_733 hX hbl hbA (by omega) (by omega) ?_
  refine y_aload_n C D_L_law_734 rfl ?_
  refine y_iload_n C D_L_law_735 rfl ?_
  refine y_iconst C D_L_law_736 ki_3 ?_
  refine z_iadd C D_L_law_737 ?_
  refine y_sld C D_L_law_738 hX hbl hbA (by omega) (by omega) ?_
  refine z_callV C D_L_law_739 lk_L_94 hc V.o rfl rfl (by omega) (Nat.le_of_ble_eq_true rfl) hRc ?_
  refine y_aload_n C D_L_law_742 rfl ?_
  refine y_aload_n C D_L_law_743 rfl ?_
  refine y_iload_n C D_L_law_744 rfl ?_
  refine y_iconst C D_L_law_745 ki_1 ?_
  refine z_iadd C D_L_law_746 ?_
  refine y_sld C D_L_law_747 hX hbl hbA (by omega) (by omega) ?_
  refine y_aload_n C D_L_law_748 rfl ?_
  refine y_iload_n C D_L_law_749 rfl ?_
  refine y_iconst C D_L_law_750 ki_2 ?_
  refine z_iadd C D_L_law_751 ?_
  refine y_sld C D_L_law_752 hX hbl hbA (by omega) (by omega) ?_
  refine y_aload_n C D_L_law_753 rfl ?_
  refine y_iload_n C D_L_law_754 rfl ?_
  refine y_iconst C D_L_law_755 ki_3 ?_
  refine z_iadd C D_L_law_756 ?_
  refine y_sld C D_L_law_757 hX hbl hbA (by omega) (by omega) ?_
  refine z_callV C D_L_law_758 lk_L_97 hm ho rfl rfl (by omega) (Nat.le_of_ble_eq_true rfl) hRc ?_
  refine y_icmp_eq C D_L_law_761 Iff.rfl (fun _ => ?_) (fun q => absurd rfl q)
  exact NX _ _ _ _ V'
theorem lc_20 (hL : L ≤ 384) (hX : va_X b L xs X.2.2.2.2.1 X.2.2.2.2.1.heap) (hbl : b < X.2.2.2.2.1.heap.size) (hbA : ¬ qA G b) (C : qC X G cL_law 4 RL 100) (hRc : 136 ≤ X.2.2.2.1.cells ∧ 3965 ≤ X.2.2.2.1.slots) (V : Inv G h i A B) (hn : n + 6 ≤ L) (NX : ∀ h2 i' A' B', Inv G h2 i' A' B' → Y X G 4 136 3965 1298 [some (.ref b), some (qr G 0), some (qr G 122), some (.int (nI n))] [] h2) : Y X G 4 136 3965 766 [some (.ref b), some (qr G 0), some (qr G 122), some (.int (nI n))] [] h := by
  obtain ⟨r, h1, h2, fs, i', A', B', d1, d2, hd1, hd2, hc, hm, ho, V'⟩ := pr_bound (l := X.2.1) V (x1 := xs (n + 1))
  refine y_aload_n C D_L_law_766 rfl ?_
  refine y_aload_n C D_L_law_767 rfl ?_
  refine y_iload_n C D_L_law_768 rfl ?_
  refine y_iconst C D_L_law_769 ki_1 ?_
  refine z_iadd C D_L_law_770 ?_
  refine y_sld C D_L_law_771 hX hbl hbA (by omega) (by omega) ?_
  refine z_callV C D_L_law_772 lk_L_98 hc V.o rfl rfl (by omega) (Nat.le_of_ble_eq_true rfl) hRc ?_
  refine y_aload_n C D_L_law_775 rfl ?_
  refine y_aload_n C D_L_law_776 rfl ?_
  refine y_iload_n C D_L_law_777 rfl ?_
  refine y_iconst C D_L_law_778 ki_1 ?_
  refine z_iadd C D_L_law_779 ?_
  refine y_sld C D_L_law_780 hX hbl hbA (by omega) (by omega) ?_
  refine z_callV C D_L_law_781 lk_L_101 hm ho rfl rfl (by omega) (Nat.le_of_ble_eq_true rfl) hRc ?_
  refine y_icmp_eq C D_L_law_784 Iff.rfl (fun _ => ?_) (fun q => absurd rfl q)
  exact NX _ _ _ _ V'
theorem lc_21 (hL : L ≤ 384) (hX : va_X b L xs X.2.2.2.2.1 X.2.2.2.2.1.heap) (hbl : b < X.2.2.2.2.1.heap.size) (hbA : ¬ qA G b) (C : qC X G cL_law 4 RL 100) (hRc : 136 ≤ X.2.2.2.1.cells ∧ 3965 ≤ X.2.2.2.1.slots) (V : Inv G h i A B) (hn : n + 6 ≤ L) (NX : ∀ h2 i' A' B', Inv G h2 i' A' B' → Y X G 4 136 3965 1298 [some (.ref b), some (qr G 0), some (qr G 122), some (.int (nI n))] [] h2) : Y X G 4 136 3965 789 [some (.ref b), some (qr G 0), some (qr G 122), some (.int (nI n))] [] h := by
  obtain ⟨r, h1, h2, fs, i', A', B', d1, d2, hd1, hd2, hc, hm, ho, V'⟩ := pr_forgets (l := X.2.1) V (x1 := xs (n + 1)) (x2 := xs (n + 2))
  refine y_aload_n C D_L_law_789 rfl ?_
  refine y_aload_n C D_L_law_790 rfl ?_
  refine y_iload_n C D_L_law_791 rfl ?_
  refine y_iconst C D_L_law_792 ki_1 ?_
  refine z_iadd C D_L_law_793 ?_
  refine y_sld C D_L_law_794 hX hbl hbA (by omega) (by omega) ?_
  refine y_aload_n C D_L_law_795 rfl ?_
  refine y_iload_n C D_L_law_796 rfl ?_
  refine y_iconst C D_L_law_797 ki_2 ?_
  refine z_iadd C D_L_law_798 ?_
  refine y_sld C D_L_law_799 hX hbl hbA (by omega) (by omega) ?_
  refine z_callV C D_L_law_800 lk_L_102 hc V.o rfl rfl (by omega) (Nat.le_of_ble_eq_true rfl) hRc ?_
  refine y_aload_n C D_L_law_803 rfl ?_
  refine y_aload_n C D_L_law_804 rfl ?_
  refine y_iload_n C D_L_law_805 rfl ?_
  refine y_iconst C D_L_law_806 ki_1 ?_
  refine z_iadd C D_L_law_807 ?_
  refine y_sld C D_L_law_808 hX hbl hbA (by omega) (by omega) ?_
  refine y_aload_n C D_L_law_809 rfl ?_
  refine y_iload_n C D_L_law_810 rfl ?_
  refine y_iconst C D_L_law_811 ki_2 ?_
  refine z_iadd C D_L_law_812 ?_
  refine y_sld C D_L_law_813 hX hbl hbA (by omega) (by omega) ?_
  refine z_callV C D_L_law_814 lk_L_105 hm ho rfl rfl (by omega) (Nat.le_of_ble_eq_true rfl) hRc ?_
  refine y_icmp_eq C D_L_law_817 Iff.rfl (fun _ => ?_) (fun q => absurd rfl q)
  exact NX _ _ _ _ V'
theorem lc_22 (hL : L ≤ 384) (hX : va_X b L xs X.2.2.2.2.1 X.2.2.2.2.1.heap) (hbl : b < X.2.2.2.2.1.heap.size) (hbA : ¬ qA G b) (C : qC X G cL_law 4 RL 100) (hRc : 136 ≤ X.2.2.2.1.cells ∧ 3965 ≤ X.2.2.2.1.slots) (V : Inv G h i A B) (hn : n + 6 ≤ L) (NX : ∀ h2 i' A' B', Inv G h2 i' A' B' → Y X G 4 136 3965 1298 [some (.ref b), some (qr G 0), some (qr G 122), some (.int (nI n))] [] h2) : Y X G 4 136 3965 822 [some (.ref b), some (qr G 0), some (qr G 122), some (.int (nI n))] [] h := by
  obtain ⟨r, h1, h2, fs, i', A', B', d1, d2, hd1, hd2, hc, hm, ho, V'⟩ := pr_most (l := X.2.1) V (x1 := xs (n + 1)) (x2 := xs (n + 2))
  refine y_aload_n C D_L_law_822 rfl ?_
  refine y_aload_n C D_L_law_823 rfl ?_
  refine y_iload_n C D_L_law_824 rfl ?_
  refine y_iconst C D_L_law_825 ki_1 ?_
  refine z_iadd C D_L_law_826 ?_
  refine y_sld C D_L_law_827 hX hbl hbA (by omega) (by omega) ?_
  refine y_aload_n C D_L_law_828 rfl ?_
  refine y_iload_n C D_L_law_829 rfl ?_
  refine y_iconst C D_L_law_830 ki_2 ?_
  refine z_iadd C D_L_law_831 ?_
  refine y_sld C D_L_law_832 hX hbl hbA (by omega) (by omega) ?_
  refine z_callV C D_L_law_833 lk_L_106 hc V.o rfl rfl (by omega) (Nat.le_of_ble_eq_true rfl) hRc ?_
  refine y_aload_n C D_L_law_836 rfl ?_
  refine y_aload_n C D_L_law_837 rfl ?_
  refine y_iload_n C D_L_law_838 rfl ?_
  refine y_iconst C D_L_law_839 ki_1 ?_
  refine z_iadd C D_L_law_840 ?_
  refine y_sld C D_L_law_841 hX hbl hbA (by omega) (by omega) ?_
  refine y_aload_n C D_L_law_842 rfl ?_
  refine y_iload_n C D_L_law_843 rfl ?_
  refine y_iconst C D_L_law_844 ki_2 ?_
  refine z_iadd C D_L_law_845 ?_
  refine y_sld C D_L_law_846 hX hbl hbA (by omega) (by omega) ?_
  refine z_callV C D_L_law_847 lk_L_109 hm ho rfl rfl (by omega) (Nat.le_of_ble_eq_true rfl) hRc ?_
  refine y_icmp_eq C D_L_law_850 Iff.rfl (fun _ => ?_) (fun q => absurd rfl q)
  exact NX _ _ _ _ V'
theorem lc_23 (hL : L ≤ 384) (hX : va_X b L xs X.2.2.2.2.1 X.2.2.2.2.1.heap) (hbl : b < X.2.2.2.2.1.heap.size) (hbA : ¬ qA G b) (C : qC X G cL_law 4 RL 100) (hRc : 136 ≤ X.2.2.2.1.cells ∧ 3965 ≤ X.2.2.2.1.slots) (V : Inv G h i A B) (hn : n + 6 ≤ L) (NX : ∀ h2 i' A' B', Inv G h2 i' A' B' → Y X G 4 136 3965 1298 [some (.ref b), some (qr G 0), some (qr G 122), some (.int (nI n))] [] h2) : Y X G 4 136 3965 855 [some (.ref b), some (qr G 0), some (qr G 122), some (.int (nI n))] [] h := by
  obtain ⟨r, h1, h2, fs, i', A', B', d1, d2, hd1, hd2, hc, hm, ho, V'⟩ := pr_pair (l := X.2.1) V (x1 := xs (n + 1)) (x2 := xs (n + 2))
  refine y_aload_n C D_L_law_855 rfl ?_
  refine y_aload_n C D_L_law_856 rfl ?_
  refine y_iload_n C D_L_law_857 rfl ?_
  refine y_iconst C D_L_law_858 ki_1 ?_
  refine z_iadd C D_L_law_859 ?_
  refine y_sld C D_L_law_860 hX hbl hbA (by omega) (by omega) ?_
  refine y_aload_n C D_L_law_861 rfl ?_
  refine y_iload_n C D_L_law_862 rfl ?_
  refine y_iconst C D_L_law_863 ki_2 ?_
  refine z_iadd C D_L_law_864 ?_
  refine y_sld C D_L_law_865 hX hbl hbA (by omega) (by omega) ?_
  refine z_callV C D_L_law_866 lk_L_110 hc V.o rfl rfl (by omega) (Nat.le_of_ble_eq_true rfl) hRc ?_
  refine y_aload_n C D_L_law_869 rfl ?_
  refine y_aload_n C D_L_law_870 rfl ?_
  refine y_iload_n C D_L_law_871 rfl ?_
  refine y_iconst C D_L_law_872 ki_1 ?_
  refine z_iadd C D_L_law_873 ?_
  refine y_sld C D_L_law_874 hX hbl hbA (by omega) (by omega) ?_
  refine y_aload_n C D_L_law_875 rfl ?_
  refine y_iload_n C D_L_law_876 rfl ?_
  refine y_iconst C D_L_law_877 ki_2 ?_
  refine z_iadd C D_L_law_878 ?_
  refine y_sld C D_L_law_879 hX hbl hbA (by omega) (by omega) ?_
  refine z_callV C D_L_law_880 lk_L_113 hm ho rfl rfl (by omega) (Nat.le_of_ble_eq_true rfl) hRc ?_
  refine y_icmp_eq C D_L_law_883 Iff.rfl (fun _ => ?_) (fun q => absurd rfl q)
  exact NX _ _ _ _ V'
theorem lc_24 (hL : L ≤ 384) (hX : va_X b L xs X.2.2.2.2.1 X.2.2.2.2.1.heap) (hbl : b < X.2.2.2.2.1.heap.size) (hbA : ¬ qA G b) (C : qC X G cL_law 4 RL 100) (hRc : 136 ≤ X.2.2.2.1.cells ∧ 3965 ≤ X.2.2.2.1.slots) (V : Inv G h i A B) (hn : n + 6 ≤ L) (NX : ∀ h2 i' A' B', Inv G h2 i' A' B' → Y X G 4 136 3965 1298 [some (.ref b), some (qr G 0), some (qr G 122), some (.int (nI n))] [] h2) : Y X G 4 136 3965 888 [some (.ref b), some (qr G 0), some (qr G 122), some (.int (nI n))] [] h := by
  obtain ⟨r, h1, h2, fs, i', A', B', d1, d2, hd1, hd2, hc, hm, ho, V'⟩ := pr_who (l := X.2.1) V (x1 := xs (n + 1)) (x2 := xs (n + 2)) (x3 := xs (n + 3)) (x4 := xs (n + 4))
  refine y_aload_n C D_L_law_888 rfl ?_
  refine y_aload_n C D_L_law_889 rfl ?_
  refine y_iload_n C D_L_law_890 rfl ?_
  refine y_iconst C D_L_law_891 ki_1 ?_
  refine z_iadd C D_L_law_892 ?_
  refine y_sld C D_L_law_893 hX hbl hbA (by omega) (by omega) ?_
  refine y_aload_n C D_L_law_894 rfl ?_
  refine y_iload_n C D_L_law_895 rfl ?_
  refine y_iconst C D_L_law_896 ki_2 ?_
  refine z_iadd C D_L_law_897 ?_
  refine y_sld C D_L_law_898 hX hbl hbA (by omega) (by omega) ?_
  refine y_aload_n C D_L_law_899 rfl ?_
  refine y_iload_n C D_L_law_900 rfl ?_
  refine y_iconst C D_L_law_901 ki_3 ?_
  refine z_iadd C D_L_law_902 ?_
  refine y_sld C D_L_law_903 hX hbl hbA (by omega) (by omega) ?_
  refine y_aload_n C D_L_law_904 rfl ?_
  refine y_iload_n C D_L_law_905 rfl ?_
  refine y_iconst C D_L_law_906 ki_4 ?_
  refine z_iadd C D_L_law_907 ?_
  refine y_sld C D_L_law_908 hX hbl hbA (by omega) (by omega) ?_
  refine z_callV C D_L_law_909 lk_L_114 hc V.o rfl rfl (by omega) (Nat.le_of_ble_eq_true rfl) hRc ?_
  refine y_aload_n C D_L_law_912 rfl ?_
  refine y_aload_n C D_L_law_913 rfl ?_
  refine y_iload_n C D_L_law_914 rfl ?_
  refine y_iconst C D_L_law_915 ki_1 ?_
  refine z_iadd C D_L_law_916 ?_
  refine y_sld C D_L_law_917 hX hbl hbA (by omega) (by omega) ?_
  refine y_aload_n C D_L_law_918 rfl ?_
  refine y_iload_n C D_L_law_919 rfl ?_
  refine y_iconst C D_L_law_920 ki_2 ?_
  refine z_iadd C D_L_law_921 ?_
  refine y_sld C D_L_law_922 hX hbl hbA (by omega) (by omega) ?_
  refine y_aload_n C D_L_law_923 rfl ?_
  refine y_iload_n C D_L_law_924 rfl ?_
  refine y_iconst C D_L_law_925 ki_3 ?_
  refine z_iadd C D_L_law_926 ?_
  refine y_sld C D_L_law_927 hX hbl hbA (by omega) (by omega) ?_
  refine y_aload_n C D_L_law_928 rfl ?_
  refine y_iload_n C D_L_law_929 rfl ?_
  refine y_iconst C D_L_law_930 ki_4 ?_
  refine z_iadd C D_L_law_931 ?_
  refine y_sld C D_L_law_932 hX hbl hbA (by omega) (by omega) ?_
  refine z_callV C D_L_law_933 lk_L_118 hm ho rfl rfl (by omega) (Nat.le_of_ble_eq_true rfl) hRc ?_
  refine y_icmp_eq C D_L_law_936 Iff.rfl (fun _ => ?_) (fun q => absurd rfl q)
  exact NX _ _ _ _ V'
theorem lc_25 (hL : L ≤ 384) (hX : va_X b L xs X.2.2.2.2.1 X.2.2.2.2.1.heap) (hbl : b < X.2.2.2.2.1.heap.size) (hbA : ¬ qA G b) (C : qC X G cL_law 4 RL 100) (hRc : 136 ≤ X.2.2.2.1.cells ∧ 3965 ≤ X.2.2.2.1.slots) (V : Inv G h i A B) (hn : n + 6 ≤ L) (NX : ∀ h2 i' A' B', Inv G h2 i' A' B' → Y X G 4 136 3965 1298 [some (.ref b), some (qr G 0), some (qr G 122), some (.int (nI n))] [] h2) : Y X G 4 136 3965 941 [some (.ref b), some (qr G 0), some (qr G 122), some (.int (nI n))] [] h := by
  obtain ⟨r, h1, h2, fs, i', A', B', d1, d2, hd1, hd2, hc, hm, ho, V'⟩ := pr_whispered (l := X.2.1) V (x1 := xs (n + 1)) (x2 := xs (n + 2)) (x3 := xs (n + 3)) (x4 := xs (n + 4))
  refine y_aload_n C D_L_law_941 rfl ?_
  refine y_aload_n C D_L_law_942 rfl ?_
  refine y_iload_n C D_L_law_943 rfl ?_
  refine y_iconst C D_L_law_944 ki_1 ?_
  refine z_iadd C D_L_law_945 ?_
  refine y_sld C D_L_law_946 hX hbl hbA (by omega) (by omega) ?_
  refine y_aload_n C D_L_law_947 rfl ?_
  refine y_iload_n C D_L_law_948 rfl ?_
  refine y_iconst C D_L_law_949 ki_2 ?_
  refine z_iadd C D_L_law_950 ?_
  refine y_sld C D_L_law_951 hX hbl hbA (by omega) (by omega) ?_
  refine y_aload_n C D_L_law_952 rfl ?_
  refine y_iload_n C D_L_law_953 rfl ?_
  refine y_iconst C D_L_law_954 ki_3 ?_
  refine z_iadd C D_L_law_955 ?_
  refine y_sld C D_L_law_956 hX hbl hbA (by omega) (by omega) ?_
  refine y_aload_n C D_L_law_957 rfl ?_
  refine y_iload_n C D_L_law_958 rfl ?_
  refine y_iconst C D_L_law_959 ki_4 ?_
  refine z_iadd C D_L_law_960 ?_
  refine y_sld C D_L_law_961 hX hbl hbA (by omega) (by omega) ?_
  refine z_callV C D_L_law_962 lk_L_119 hc V.o rfl rfl (by omega) (Nat.le_of_ble_eq_true rfl) hRc ?_
  refine y_aload_n C D_L_law_965 rfl ?_
  refine y_aload_n C D_L_law_966 rfl ?_
  refine y_iload_n C D_L_law_967 rfl ?_
  refine y_iconst C D_L_law_968 ki_1 ?_
  refine z_iadd C D_L_law_969 ?_
  refine y_sld C D_L_law_970 hX hbl hbA (by omega) (by omega) ?_
  refine y_aload_n C D_L_law_971 rfl ?_
  refine y_iload_n C D_L_law_972 rfl ?_
  refine y_iconst C D_L_law_973 ki_2 ?_
  refine z_iadd C D_L_law_974 ?_
  refine y_sld C D_L_law_975 hX hbl hbA (by omega) (by omega) ?_
  refine y_aload_n C D_L_law_976 rfl ?_
  refine y_iload_n C D_L_law_977 rfl ?_
  refine y_iconst C D_L_law_978 ki_3 ?_
  refine z_iadd C D_L_law_979 ?_
  refine y_sld C D_L_law_980 hX hbl hbA (by omega) (by omega) ?_
  refine y_aload_n C D_L_law_981 rfl ?_
  refine y_iload_n C D_L_law_982 rfl ?_
  refine y_iconst C D_L_law_983 ki_4 ?_
  refine z_iadd C D_L_law_984 ?_
  refine y_sld C D_L_law_985 hX hbl hbA (by omega) (by omega) ?_
  refine z_callV C D_L_law_986 lk_L_122 hm ho rfl rfl (by omega) (Nat.le_of_ble_eq_true rfl) hRc ?_
  refine y_icmp_eq C D_L_law_989 Iff.rfl (fun _ => ?_) (fun q => absurd rfl q)
  exact NX _ _ _ _ V'
theorem lc_26 (hL : L ≤ 384) (hX : va_X b L xs X.2.2.2.2.1 X.2.2.2.2.1.heap) (hbl : b < X.2.2.2.2.1.heap.size) (hbA : ¬ qA G b) (C : qC X G cL_law 4 RL 100) (hRc : 136 ≤ X.2.2.2.1.cells ∧ 3965 ≤ X.2.2.2.1.slots) (V : Inv G h i A B) (hn : n + 6 ≤ L) (NX : ∀ h2 i' A' B', Inv G h2 i' A' B' → Y X G 4 136 3965 1298 [some (.ref b), some (qr G 0), some (qr G 122), some (.int (nI n))] [] h2) : Y X G 4 136 3965 994 [some (.ref b), some (qr G 0), some (qr G 122), some (.int (nI n))] [] h := by
  obtain ⟨r, h1, h2, fs, i', A', B', d1, d2, hd1, hd2, hc, hm, ho, V'⟩ := pr_cheese (l := X.2.1) V (x1 := xs (n + 1))
  refine y_aload_n C D_L_law_994 rfl ?_
  refine y_aload_n C D_L_law_995 rfl ?_
  refine y_iload_n C D_L_law_996 rfl ?_
  refine y_iconst C D_L_law_997 ki_1 ?_
  refine z_iadd C D_L_law_998 ?_
  refine y_sld C D_L_law_999 hX hbl hbA (by omega) (by omega) ?_
  refine z_callV C D_L_law_1000 lk_L_123 hc V.o rfl rfl (by omega) (Nat.le_of_ble_eq_true rfl) hRc ?_
  refine y_aload_n C D_L_law_1003 rfl ?_
  refine y_aload_n C D_L_law_1004 rfl ?_
  refine y_iload_n C D_L_law_1005 rfl ?_
  refine y_iconst C D_L_law_1006 ki_1 ?_
  refine z_iadd C D_L_law_1007 ?_
  refine y_sld C D_L_law_1008 hX hbl hbA (by omega) (by omega) ?_
  refine z_callV C D_L_law_1009 lk_L_126 hm ho rfl rfl (by omega) (Nat.le_of_ble_eq_true rfl) hRc ?_
  refine y_icmp_eq C D_L_law_1012 Iff.rfl (fun _ => ?_) (fun q => absurd rfl q)
  exact NX _ _ _ _ V'
theorem lc_27 (hL : L ≤ 384) (hX : va_X b L xs X.2.2.2.2.1 X.2.2.2.2.1.heap) (hbl : b < X.2.2.2.2.1.heap.size) (hbA : ¬ qA G b) (C : qC X G cL_law 4 RL 100) (hRc : 136 ≤ X.2.2.2.1.cells ∧ 3965 ≤ X.2.2.2.1.slots) (V : Inv G h i A B) (hn : n + 6 ≤ L) (NX : ∀ h2 i' A' B', Inv G h2 i' A' B' → Y X G 4 136 3965 1298 [some (.ref b), some (qr G 0), some (qr G 122), some (.int (nI n))] [] h2) : Y X G 4 136 3965 1017 [some (.ref b), some (qr G 0), some (qr G 122), some (.int (nI n))] [] h := by
  obtain ⟨r, h1, h2, fs, i', A', B', d1, d2, hd1, hd2, hc, hm, ho, V'⟩ := pr_awake (l := X.2.1) V (x1 := xs (n + 1)) (x2 := xs (n + 2)) (x3 := xs (n + 3))
  refine y_aload_n C D_L_law_1017 rfl ?_
  refine y_aload_n C D_L_law_1018 rfl ?_
  refine y_iload_n C D_L_law_1019 rfl ?_
  refine y_iconst C D_L_law_1020 ki_1 ?_
  refine z_iadd C D_L_law_1021 ?_
  refine y_sld C D_L_law_1022 hX hbl hbA (by omega) (by omega) ?_
  refine y_aload_n C D_L_law_1023 rfl ?_
  refine y_iload_n C D_L_law_1024 rfl ?_
  refine y_iconst C D_L_law_1025 ki_2 ?_
  refine z_iadd C D_L_law_1026 ?_
  refine y_sld C D_L_law_1027 hX hbl hbA (by omega) (by omega) ?_
  refine y_aload_n C D_L_law_1028 rfl ?_
  refine y_iload_n C D_L_law_1029 rfl ?_
  refine y_iconst C D_L_law_1030 ki_3 ?_
  refine z_iadd C D_L_law_1031 ?_
  refine y_sld C D_L_law_1032 hX hbl hbA (by omega) (by omega) ?_
  refine z_callV C D_L_law_1033 lk_L_127 hc V.o rfl rfl (by omega) (Nat.le_of_ble_eq_true rfl) hRc ?_
  refine y_aload_n C D_L_law_1036 rfl ?_
  refine y_aload_n C D_L_law_1037 rfl ?_
  refine y_iload_n C D_L_law_1038 rfl ?_
  refine y_iconst C D_L_law_1039 ki_1 ?_
  refine z_iadd C D_L_law_1040 ?_
  refine y_sld C D_L_law_1041 hX hbl hbA (by omega) (by omega) ?_
  refine y_aload_n C D_L_law_1042 rfl ?_
  refine y_iload_n C D_L_law_1043 rfl ?_
  refine y_iconst C D_L_law_1044 ki_2 ?_
  refine z_iadd C D_L_law_1045 ?_
  refine y_sld C D_L_law_1046 hX hbl hbA (by omega) (by omega) ?_
  refine y_aload_n C D_L_law_1047 rfl ?_
  refine y_iload_n C D_L_law_1048 rfl ?_
  refine y_iconst C D_L_law_1049 ki_3 ?_
  refine z_iadd C D_L_law_1050 ?_
  refine y_sld C D_L_law_1051 hX hbl hbA (by omega) (by omega) ?_
  refine z_callV C D_L_law_1052 lk_L_131 hm ho rfl rfl (by omega) (Nat.le_of_ble_eq_true rfl) hRc ?_
  refine y_lcmp C D_L_law_1055 ?_
  refine y_if_eq C D_L_law_1056 Iff.rfl (fun _ => ?_) (fun q => absurd (lg_self _) q)
  exact NX _ _ _ _ V'
theorem lc_28 (hL : L ≤ 384) (hX : va_X b L xs X.2.2.2.2.1 X.2.2.2.2.1.heap) (hbl : b < X.2.2.2.2.1.heap.size) (hbA : ¬ qA G b) (C : qC X G cL_law 4 RL 100) (hRc : 136 ≤ X.2.2.2.1.cells ∧ 3965 ≤ X.2.2.2.1.slots) (V : Inv G h i A B) (hn : n + 6 ≤ L) (NX : ∀ h2 i' A' B', Inv G h2 i' A' B' → Y X G 4 136 3965 1298 [some (.ref b), some (qr G 0), some (qr G 122), some (.int (nI n))] [] h2) : Y X G 4 136 3965 1061 [some (.ref b), some (qr G 0), some (qr G 122), some (.int (nI n))] [] h := by
  obtain ⟨r, h1, h2, fs, i', A', B', d1, d2, hd1, hd2, hc, hm, ho, V'⟩ := pr_drawn (l := X.2.1) V (x1 := xs (n + 1)) (x2 := xs (n + 2)) (x3 := xs (n + 3))
  refine y_aload_n C D_L_law_1061 rfl ?_
  refine y_aload_n C D_L_law_1062 rfl ?_
  refine y_iload_n C D_L_law_1063 rfl ?_
  refine y_iconst C D_L_law_1064 ki_1 ?_
  refine z_iadd C D_L_law_1065 ?_
  refine y_sld C D_L_law_1066 hX hbl hbA (by omega) (by omega) ?_
  refine y_aload_n C D_L_law_1067 rfl ?_
  refine y_iload_n C D_L_law_1068 rfl ?_
  refine y_iconst C D_L_law_1069 ki_2 ?_
  refine z_iadd C D_L_law_1070 ?_
  refine y_sld C D_L_law_1071 hX hbl hbA (by omega) (by omega) ?_
  refine y_aload_n C D_L_law_1072 rfl ?_
  refine y_iload_n C D_L_law_1073 rfl ?_
  refine y_iconst C D_L_law_1074 ki_3 ?_
  refine z_iadd C D_L_law_1075 ?_
  refine y_sld C D_L_law_1076 hX hbl hbA (by omega) (by omega) ?_
  refine z_callV C D_L_law_1077 lk_L_132 hc V.o rfl rfl (by omega) (Nat.le_of_ble_eq_true rfl) hRc ?_
  refine y_aload_n C D_L_law_1080 rfl ?_
  refine y_aload_n C D_L_law_1081 rfl ?_
  refine y_iload_n C D_L_law_1082 rfl ?_
  refine y_iconst C D_L_law_1083 ki_1 ?_
  refine z_iadd C D_L_law_1084 ?_
  refine y_sld C D_L_law_1085 hX hbl hbA (by omega) (by omega) ?_
  refine y_aload_n C D_L_law_1086 rfl ?_
  refine y_iload_n C D_L_law_1087 rfl ?_
  refine y_iconst C D_L_law_1088 ki_2 ?_
  refine z_iadd C D_L_law_1089 ?_
  refine y_sld C D_L_law_1090 hX hbl hbA (by omega) (by omega) ?_
  refine y_aload_n C D_L_law_1091 rfl ?_
  refine y_iload_n C D_L_law_1092 rfl ?_
  refine y_iconst C D_L_law_1093 ki_3 ?_
  refine z_iadd C D_L_law_1094 ?_
  refine y_sld C D_L_law_1095 hX hbl hbA (by omega) (by omega) ?_
  refine z_callV C D_L_law_1096 lk_L_135 hm ho rfl rfl (by omega) (Nat.le_of_ble_eq_true rfl) hRc ?_
  refine y_icmp_eq C D_L_law_1099 Iff.rfl (fun _ => ?_) (fun q => absurd rfl q)
  exact NX _ _ _ _ V'
theorem lc_29 (hL : L ≤ 384) (hX : va_X b L xs X.2.2.2.2.1 X.2.2.2.2.1.heap) (hbl : b < X.2.2.2.2.1.heap.size) (hbA : ¬ qA G b) (C : qC X G cL_law 4 RL 100) (hRc : 136 ≤ X.2.2.2.1.cells ∧ 3965 ≤ X.2.2.2.1.slots) (V : Inv G h i A B) (hn : n + 6 ≤ L) (NX : ∀ h2 i' A' B', Inv G h2 i' A' B' → Y X G 4 136 3965 1298 [some (.ref b), some (qr G 0), some (qr G 122), some (.int (nI n))] [] h2) : Y X G 4 136 3965 1104 [some (.ref b), some (qr G 0), some (qr G 122), some (.int (nI n))] [] h := by
  obtain ⟨r, h1, h2, fs, i', A', B', d1, d2, hd1, hd2, hc, hm, ho, V'⟩ := pr_image (l := X.2.1) V (x1 := xs (n + 1))
  refine y_aload_n C D_L_law_1104 rfl ?_
  refine y_aload_n C D_L_law_1105 rfl ?_
  refine y_iload_n C D_L_law_1106 rfl ?_
  refine y_iconst C D_L_law_1107 ki_1 ?_
  refine z_iadd C D_L_law_1108 ?_
  refine y_sld C D_L_law_1109 hX hbl hbA (by omega) (by omega) ?_
  refine z_callV C D_L_law_1110 lk_L_136 hc V.o rfl rfl (by omega) (Nat.le_of_ble_eq_true rfl) hRc ?_
  refine y_aload_n C D_L_law_1113 rfl ?_
  refine y_aload_n C D_L_law_1114 rfl ?_
  refine y_iload_n C D_L_law_1115 rfl ?_
  refine y_iconst C D_L_law_1116 ki_1 ?_
  refine z_iadd C D_L_law_1117 ?_
  refine y_sld C D_L_law_1118 hX hbl hbA (by omega) (by omega) ?_
  refine z_callV C D_L_law_1119 lk_L_139 hm ho rfl rfl (by omega) (Nat.le_of_ble_eq_true rfl) hRc ?_
  refine y_icmp_eq C D_L_law_1122 Iff.rfl (fun _ => ?_) (fun q => absurd rfl q)
  exact NX _ _ _ _ V'
theorem lc_30 (hL : L ≤ 384) (hX : va_X b L xs X.2.2.2.2.1 X.2.2.2.2.1.heap) (hbl : b < X.2.2.2.2.1.heap.size) (hbA : ¬ qA G b) (C : qC X G cL_law 4 RL 100) (hRc : 136 ≤ X.2.2.2.1.cells ∧ 3965 ≤ X.2.2.2.1.slots) (V : Inv G h i A B) (hn : n + 6 ≤ L) (NX : ∀ h2 i' A' B', Inv G h2 i' A' B' → Y X G 4 136 3965 1298 [some (.ref b), some (qr G 0), some (qr G 122), some (.int (nI n))] [] h2) : Y X G 4 136 3965 1127 [some (.ref b), some (qr G 0), some (qr G 122), some (.int (nI n))] [] h := by
  obtain ⟨r, h1, h2, fs, i', A', B', d1, d2, hd1, hd2, hc, hm, ho, V'⟩ := pr_restore (l := X.2.1) V (x1 := xs (n + 1))
  refine y_aload_n C D_L_law_1127 rfl ?_
  refine y_aload_n C D_L_law_1128 rfl ?_
  refine y_iload_n C D_L_law_1129 rfl ?_
  refine y_iconst C D_L_law_1130 ki_1 ?_
  refine z_iadd C D_L_law_1131 ?_
  refine y_sld C D_L_law_1132 hX hbl hbA (by omega) (by omega) ?_
  refine z_callV C D_L_law_1133 lk_L_140 hc V.o rfl rfl (by omega) (Nat.le_of_ble_eq_true rfl) hRc ?_
  refine y_aload_n C D_L_law_1136 rfl ?_
  refine y_aload_n C D_L_law_1137 rfl ?_
  refine y_iload_n C D_L_law_1138 rfl ?_
  refine y_iconst C D_L_law_1139 ki_1 ?_
  refine z_iadd C D_L_law_1140 ?_
  refine y_sld C D_L_law_1141 hX hbl hbA (by omega) (by omega) ?_
  refine z_callV C D_L_law_1142 lk_L_143 hm ho rfl rfl (by omega) (Nat.le_of_ble_eq_true rfl) hRc ?_
  refine y_icmp_eq C D_L_law_1145 Iff.rfl (fun _ => ?_) (fun q => absurd rfl q)
  exact NX _ _ _ _ V'
theorem lc_31 (hL : L ≤ 384) (hX : va_X b L xs X.2.2.2.2.1 X.2.2.2.2.1.heap) (hbl : b < X.2.2.2.2.1.heap.size) (hbA : ¬ qA G b) (C : qC X G cL_law 4 RL 100) (hRc : 136 ≤ X.2.2.2.1.cells ∧ 3965 ≤ X.2.2.2.1.slots) (V : Inv G h i A B) (hn : n + 6 ≤ L) (NX : ∀ h2 i' A' B', Inv G h2 i' A' B' → Y X G 4 136 3965 1298 [some (.ref b), some (qr G 0), some (qr G 122), some (.int (nI n))] [] h2) : Y X G 4 136 3965 1150 [some (.ref b), some (qr G 0), some (qr G 122), some (.int (nI n))] [] h := by
  obtain ⟨r, h1, h2, fs, i', A', B', d1, d2, hd1, hd2, hc, hm, ho, V'⟩ := pr_kind (l := X.2.1) V (x1 := xs (n + 1))
  refine y_aload_n C D_L_law_1150 rfl ?_
  refine y_aload_n C D_L_law_1151 rfl ?_
  refine y_iload_n C D_L_law_1152 rfl ?_
  refine y_iconst C D_L_law_1153 ki_1 ?_
  refine z_iadd C D_L_law_1154 ?_
  refine y_sld C D_L_law_1155 hX hbl hbA (by omega) (by omega) ?_
  refine z_callV C D_L_law_1156 lk_L_144 hc V.o rfl rfl (by omega) (Nat.le_of_ble_eq_true rfl) hRc ?_
  refine y_aload_n C D_L_law_1159 rfl ?_
  refine y_aload_n C D_L_law_1160 rfl ?_
  refine y_iload_n C D_L_law_1161 rfl ?_
  refine y_iconst C D_L_law_1162 ki_1 ?_
  refine z_iadd C D_L_law_1163 ?_
  refine y_sld C D_L_law_1164 hX hbl hbA (by omega) (by omega) ?_
  refine z_callV C D_L_law_1165 lk_L_147 hm ho rfl rfl (by omega) (Nat.le_of_ble_eq_true rfl) hRc ?_
  refine y_icmp_eq C D_L_law_1168 Iff.rfl (fun _ => ?_) (fun q => absurd rfl q)
  exact NX _ _ _ _ V'
theorem lc_32 (hL : L ≤ 384) (hX : va_X b L xs X.2.2.2.2.1 X.2.2.2.2.1.heap) (hbl : b < X.2.2.2.2.1.heap.size) (hbA : ¬ qA G b) (C : qC X G cL_law 4 RL 100) (hRc : 136 ≤ X.2.2.2.1.cells ∧ 3965 ≤ X.2.2.2.1.slots) (V : Inv G h i A B) (hn : n + 6 ≤ L) (NX : ∀ h2 i' A' B', Inv G h2 i' A' B' → Y X G 4 136 3965 1298 [some (.ref b), some (qr G 0), some (qr G 122), some (.int (nI n))] [] h2) : Y X G 4 136 3965 1173 [some (.ref b), some (qr G 0), some (qr G 122), some (.int (nI n))] [] h := by
  obtain ⟨r, h1, h2, fs, i', A', B', d1, d2, hd1, hd2, hc, hm, ho, V'⟩ := pr_as (l := X.2.1) V (x1 := xs (n + 1)) (x2 := xs (n + 2))
  refine y_aload_n C D_L_law_1173 rfl ?_
  refine y_aload_n C D_L_law_1174 rfl ?_
  refine y_iload_n C D_L_law_1175 rfl ?_
  refine y_iconst C D_L_law_1176 ki_1 ?_
  refine z_iadd C D_L_law_1177 ?_
  refine y_sld C D_L_law_1178 hX hbl hbA (by omega) (by omega) ?_
  refine y_aload_n C D_L_law_1179 rfl ?_
  refine y_iload_n C D_L_law_1180 rfl ?_
  refine y_iconst C D_L_law_1181 ki_2 ?_
  refine z_iadd C D_L_law_1182 ?_
  refine y_sld C D_L_law_1183 hX hbl hbA (by omega) (by omega) ?_
  refine z_callV C D_L_law_1184 lk_L_148 hc V.o rfl rfl (by omega) (Nat.le_of_ble_eq_true rfl) hRc ?_
  refine y_aload_n C D_L_law_1187 rfl ?_
  refine y_aload_n C D_L_law_1188 rfl ?_
  refine y_iload_n C D_L_law_1189 rfl ?_
  refine y_iconst C D_L_law_1190 ki_1 ?_
  refine z_iadd C D_L_law_1191 ?_
  refine y_sld C D_L_law_1192 hX hbl hbA (by omega) (by omega) ?_
  refine y_aload_n C D_L_law_1193 rfl ?_
  refine y_iload_n C D_L_law_1194 rfl ?_
  refine y_iconst C D_L_law_1195 ki_2 ?_
  refine z_iadd C D_L_law_1196 ?_
  refine y_sld C D_L_law_1197 hX hbl hbA (by omega) (by omega) ?_
  refine z_callV C D_L_law_1198 lk_L_151 hm ho rfl rfl (by omega) (Nat.le_of_ble_eq_true rfl) hRc ?_
  refine y_icmp_eq C D_L_law_1201 Iff.rfl (fun _ => ?_) (fun q => absurd rfl q)
  exact NX _ _ _ _ V'
theorem lc_33 (hL : L ≤ 384) (hX : va_X b L xs X.2.2.2.2.1 X.2.2.2.2.1.heap) (hbl : b < X.2.2.2.2.1.heap.size) (hbA : ¬ qA G b) (C : qC X G cL_law 4 RL 100) (hRc : 136 ≤ X.2.2.2.1.cells ∧ 3965 ≤ X.2.2.2.1.slots) (V : Inv G h i A B) (hn : n + 6 ≤ L) (NX : ∀ h2 i' A' B', Inv G h2 i' A' B' → Y X G 4 136 3965 1298 [some (.ref b), some (qr G 0), some (qr G 122), some (.int (nI n))] [] h2) : Y X G 4 136 3965 1206 [some (.ref b), some (qr G 0), some (qr G 122), some (.int (nI n))] [] h := by
  obtain ⟨r, h1, h2, fs, i', A', B', d1, d2, hd1, hd2, hc, hm, ho, V'⟩ := pr_ask (l := X.2.1) V (x1 := xs (n + 1)) (x2 := xs (n + 2))
  refine y_aload_n C D_L_law_1206 rfl ?_
  refine y_aload_n C D_L_law_1207 rfl ?_
  refine y_iload_n C D_L_law_1208 rfl ?_
  refine y_iconst C D_L_law_1209 ki_1 ?_
  refine z_iadd C D_L_law_1210 ?_
  refine y_sld C D_L_law_1211 hX hbl hbA (by omega) (by omega) ?_
  refine y_aload_n C D_L_law_1212 rfl ?_
  refine y_iload_n C D_L_law_1213 rfl ?_
  refine y_iconst C D_L_law_1214 ki_2 ?_
  refine z_iadd C D_L_law_1215 ?_
  refine y_sld C D_L_law_1216 hX hbl hbA (by omega) (by omega) ?_
  refine z_callV C D_L_law_1217 lk_L_152 hc V.o rfl rfl (by omega) (Nat.le_of_ble_eq_true rfl) hRc ?_
  refine y_aload_n C D_L_law_1220 rfl ?_
  refine y_aload_n C D_L_law_1221 rfl ?_
  refine y_iload_n C D_L_law_1222 rfl ?_
  refine y_iconst C D_L_law_1223 ki_1 ?_
  refine z_iadd C D_L_law_1224 ?_
  refine y_sld C D_L_law_1225 hX hbl hbA (by omega) (by omega) ?_
  refine y_aload_n C D_L_law_1226 rfl ?_
  refine y_iload_n C D_L_law_1227 rfl ?_
  refine y_iconst C D_L_law_1228 ki_2 ?_
  refine z_iadd C D_L_law_1229 ?_
  refine y_sld C D_L_law_1230 hX hbl hbA (by omega) (by omega) ?_
  refine z_callV C D_L_law_1231 lk_L_155 hm ho rfl rfl (by omega) (Nat.le_of_ble_eq_true rfl) hRc ?_
  refine y_icmp_eq C D_L_law_1234 Iff.rfl (fun _ => ?_) (fun q => absurd rfl q)
  exact NX _ _ _ _ V'
theorem lc_34 (hL : L ≤ 384) (hX : va_X b L xs X.2.2.2.2.1 X.2.2.2.2.1.heap) (hbl : b < X.2.2.2.2.1.heap.size) (hbA : ¬ qA G b) (C : qC X G cL_law 4 RL 100) (hRc : 136 ≤ X.2.2.2.1.cells ∧ 3965 ≤ X.2.2.2.1.slots) (V : Inv G h i A B) (hn : n + 6 ≤ L) (NX : ∀ h2 i' A' B', Inv G h2 i' A' B' → Y X G 4 136 3965 1298 [some (.ref b), some (qr G 0), some (qr G 122), some (.int (nI n))] [] h2) : Y X G 4 136 3965 1239 [some (.ref b), some (qr G 0), some (qr G 122), some (.int (nI n))] [] h := by
  obtain ⟨r, h1, h2, fs, i', A', B', d1, d2, hd1, hd2, hc, hm, ho, V'⟩ := pr_trace (l := X.2.1) V (x1 := xs (n + 1))
  refine y_aload_n C D_L_law_1239 rfl ?_
  refine y_aload_n C D_L_law_1240 rfl ?_
  refine y_iload_n C D_L_law_1241 rfl ?_
  refine y_iconst C D_L_law_1242 ki_1 ?_
  refine z_iadd C D_L_law_1243 ?_
  refine y_sld C D_L_law_1244 hX hbl hbA (by omega) (by omega) ?_
  refine z_callV C D_L_law_1245 lk_L_156 hc V.o rfl rfl (by omega) (Nat.le_of_ble_eq_true rfl) hRc ?_
  refine y_aload_n C D_L_law_1248 rfl ?_
  refine y_aload_n C D_L_law_1249 rfl ?_
  refine y_iload_n C D_L_law_1250 rfl ?_
  refine y_iconst C D_L_law_1251 ki_1 ?_
  refine z_iadd C D_L_law_1252 ?_
  refine y_sld C D_L_law_1253 hX hbl hbA (by omega) (by omega) ?_
  refine z_callV C D_L_law_1254 lk_L_159 hm ho rfl rfl (by omega) (Nat.le_of_ble_eq_true rfl) hRc ?_
  refine y_icmp_eq C D_L_law_1257 Iff.rfl (fun _ => ?_) (fun q => absurd rfl q)
  exact NX _ _ _ _ V'
theorem lc_35 (hL : L ≤ 384) (hX : va_X b L xs X.2.2.2.2.1 X.2.2.2.2.1.heap) (hbl : b < X.2.2.2.2.1.heap.size) (hbA : ¬ qA G b) (C : qC X G cL_law 4 RL 100) (hRc : 136 ≤ X.2.2.2.1.cells ∧ 3965 ≤ X.2.2.2.1.slots) (V : Inv G h i A B) (hn : n + 6 ≤ L) (NX : ∀ h2 i' A' B', Inv G h2 i' A' B' → Y X G 4 136 3965 1298 [some (.ref b), some (qr G 0), some (qr G 122), some (.int (nI n))] [] h2) : Y X G 4 136 3965 1262 [some (.ref b), some (qr G 0), some (qr G 122), some (.int (nI n))] [] h := by
  obtain ⟨r, h1, h2, fs, i', A', B', d1, d2, hd1, hd2, hc, hm, ho, V'⟩ := pr_count (l := X.2.1) V (x1 := xs (n + 1))
  refine y_aload_n C D_L_law_1262 rfl ?_
  refine y_aload_n C D_L_law_1263 rfl ?_
  refine y_iload_n C D_L_law_1264 rfl ?_
  refine y_iconst C D_L_law_1265 ki_1 ?_
  refine z_iadd C D_L_law_1266 ?_
  refine y_sld C D_L_law_1267 hX hbl hbA (by omega) (by omega) ?_
  refine z_callV C D_L_law_1268 lk_L_160 hc V.o rfl rfl (by omega) (Nat.le_of_ble_eq_true rfl) hRc ?_
  refine y_aload_n C D_L_law_1271 rfl ?_
  refine y_aload_n C D_L_law_1272 rfl ?_
  refine y_iload_n C D_L_law_1273 rfl ?_
  refine y_iconst C D_L_law_1274 ki_1 ?_
  refine z_iadd C D_L_law_1275 ?_
  refine y_sld C D_L_law_1276 hX hbl hbA (by omega) (by omega) ?_
  refine z_callV C D_L_law_1277 lk_L_163 hm ho rfl rfl (by omega) (Nat.le_of_ble_eq_true rfl) hRc ?_
  refine y_icmp_eq C D_L_law_1280 Iff.rfl (fun _ => ?_) (fun q => absurd rfl q)
  exact NX _ _ _ _ V'
theorem lc_36 (hL : L ≤ 384) (hX : va_X b L xs X.2.2.2.2.1 X.2.2.2.2.1.heap) (hbl : b < X.2.2.2.2.1.heap.size) (hbA : ¬ qA G b) (C : qC X G cL_law 4 RL 100) (hRc : 136 ≤ X.2.2.2.1.cells ∧ 3965 ≤ X.2.2.2.1.slots) (V : Inv G h i A B) (hn : n + 6 ≤ L) (NX : ∀ h2 i' A' B', Inv G h2 i' A' B' → Y X G 4 136 3965 1298 [some (.ref b), some (qr G 0), some (qr G 122), some (.int (nI n))] [] h2) : Y X G 4 136 3965 1285 [some (.ref b), some (qr G 0), some (qr G 122), some (.int (nI n))] [] h := by
  obtain ⟨r, h1, h2, fs, i', A', B', d1, d2, hd1, hd2, hc, hm, ho, V'⟩ := pr_status (l := X.2.1) V 
  refine y_aload_n C D_L_law_1285 rfl ?_
  refine z_callV C D_L_law_1286 lk_L_164 hc V.o rfl rfl (by omega) (Nat.le_of_ble_eq_true rfl) hRc ?_
  refine y_aload_n C D_L_law_1289 rfl ?_
  refine z_callV C D_L_law_1290 lk_L_167 hm ho rfl rfl (by omega) (Nat.le_of_ble_eq_true rfl) hRc ?_
  refine y_icmp_eq C D_L_law_1293 Iff.rfl (fun _ => ?_) (fun q => absurd rfl q)
  exact NX _ _ _ _ V'
end
