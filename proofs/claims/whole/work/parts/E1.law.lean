section SCR
variable {l : Launch} {K : cK} {M : MI} {d kc ks pc n : Nat} {lo : List (Nat × Value)} {st : List Value} {h : cH} {Q : Option Value → cH → Prop}
theorem g_slen (hd : dc M pc .arraylength 1 n) (kk : GL l K M d kc ks n lo (.int (nI K.2.2.2.2.1) :: st) h Q) : GL l K M d kc ks pc lo (.retAddr 24 :: st) h Q := by
  intro p e R s m args below meth c H locs cells slots mc ms ls hB h1 h2 h3 h4 h5 h6 h7 h8 h9 h10
  obtain ⟨hdg, rfl⟩ := hd
  have hU := hB.2.2.2.2.2.2.2.2.1
  obtain ⟨scr, x1, x2, x3, x4, x5⟩ := hU.2.2.2.2.2.2.2.1
  have hlt := hU.2.2.2.2.2.2.2.2
  exact W.alen hB.1 hB.2.1 (by rw [h7.2.2 _ hlt]; exact x1) x2 (show scr.slots.size.toInt32 = nI K.2.2.2.2.1 by rw [x4]; rfl) rfl rfl hdg (kk p e R s m args below meth c H locs cells slots mc ms ls hB h1 h2 h3 h4 h5 h6 h7 h8 h9 h10)
theorem g_sld {i : Int32} (j : Nat) (hi : i = nI j) (hj : j < K.2.2.2.2.1) (hN : K.2.2.2.2.1 ≤ 3072) (hd : dc M pc .iaload 1 n) (kk : GL l K M d kc ks n lo (.int (K.2.2.2.2.2 j) :: st) h Q) : GL l K M d kc ks pc lo (.int i :: .retAddr 24 :: st) h Q := by
  subst hi
  intro p e R s m args below meth c H locs cells slots mc ms ls hB h1 h2 h3 h4 h5 h6 h7 h8 h9 h10
  obtain ⟨hdg, rfl⟩ := hd
  have hU := hB.2.2.2.2.2.2.2.2.1
  obtain ⟨scr, x1, x2, x3, x4, x5⟩ := hU.2.2.2.2.2.2.2.1
  have hlt := hU.2.2.2.2.2.2.2.2
  have e1 : (nI j).toNatClampNeg = j := nI_clamp (by omega)
  exact W.iald (v := .int (K.2.2.2.2.2 j)) hB.1 hB.2.1 (by rw [h7.2.2 _ hlt]; exact x1) x2 x3 (by rw [x4]; exact vp_nI hj (by omega)) (by rw [e1]; exact x5 j hj) rfl rfl hdg (kk p e R s m args below meth c H locs cells slots mc ms ls hB h1 h2 h3 h4 h5 h6 h7 h8 h9 h10)
theorem g_callV_4k {kc1 ks1 kc2 ks2 : Nat} (hk1 : kc1 + kc2 ≤ kc) (hk2 : ks1 + ks2 ≤ ks) {Y : MI} {ix b d1 : Nat} {v0 v1 v2 v3 : Value} {Q1 : Option Value → cH → Prop} (hY : okV Y) (hl : ml M.1.cls ix Y 4) (hb : (h[b]?).map (fun e => match e with | .inr o => (classes[o.1]?).map (fun r => r.1) | _ => none) = some (some Y.1.cls)) (hc : CC l K Y d1 kc1 ks1 (.ref b :: [v0, v1, v2, v3]) h Q1) (hd1 : d1 + 1 ≤ d) (hW : (st.map fun v => v.category).sum ≤ 8) (hd : dc M pc (.invokevirtual ix) 3 n) (kk : ∀ (r : Option Value) (h1 : cH), Q1 r h1 → GL l K M d kc2 ks2 n lo (r.toList ++ st) h1 Q) : GL l K M d kc ks pc lo (v3 :: v2 :: v1 :: v0 :: .ref b :: st) h Q :=
  g_room (Nat.le_refl d) hk1 hk2 (g_callV0 (as := [v0, v1, v2, v3]) (kc := kc2) (ks := ks2) hY hl hb hc hd1 hW hd kk)
end SCR
theorem lw_car {l : Launch} {K : cK} {d kc ks : Nat} {I : wI} {L : wL} {R : wR} {dy : cH} {Q : Option Value → cH → Prop} (hd : 91 ≤ d) (i : Nat) (hi : i + 6 ≤ K.2.2.2.2.1) (hN : K.2.2.2.2.1 ≤ 3072) (h : REL I L R dy) (kk : ∀ (I2 : wI) (L2 : wL) (R2 : wR) (dz : cH), REL I2 L2 R2 (dy ++ dz) → GL l K m13_law d kc ks 1275 [(0, .retAddr 24), (1, .ref 0), (2, .ref 74), (3, .int (nI i))] [] (hp I2 L2 R2 (dy ++ dz)) Q) : GL l K m13_law d (kc + 7) (ks + 855) 196 [(0, .retAddr 24), (1, .ref 0), (2, .ref 74), (3, .int (nI i))] [] (hp I L R dy) Q := by
  refine g_room (d2 := d) (kc2 := kc) (ks2 := ks) (Nat.le_refl d) (by omega) (by omega) ?_
  refine g_aload_n d13_law_196 rfl ?_
  refine g_sload_n d13_law_197 rfl ?_
  refine g_iload_n d13_law_198 rfl ?_
  refine g_iconstv (nI 1) d13_law_199 rfl ?_
  refine g_iaddN d13_law_200 ?_
  refine g_sld (i + 1) rfl (by omega) hN d13_law_201 ?_
  refine g_sload_n d13_law_202 rfl ?_
  refine g_iload_n d13_law_203 rfl ?_
  refine g_iconstv (nI 2) d13_law_204 rfl ?_
  refine g_iaddN d13_law_205 ?_
  refine g_sld (i + 2) rfl (by omega) hN d13_law_206 ?_
  refine g_sload_n d13_law_207 rfl ?_
  refine g_iload_n d13_law_208 rfl ?_
  refine g_iconstv (nI 3) d13_law_209 rfl ?_
  refine g_iaddN d13_law_210 ?_
  refine g_sld (i + 3) rfl (by omega) hN d13_law_211 ?_
  refine g_sload_n d13_law_212 rfl ?_
  refine g_iload_n d13_law_213 rfl ?_
  refine g_iconstv (nI 4) d13_law_214 rfl ?_
  refine g_iaddN d13_law_215 ?_
  refine g_sld (i + 4) rfl (by omega) hN d13_law_216 ?_
  refine g_callV_4 vm11_car ml13_13 c_0 (p_car h (K.2.2.2.2.2 (i + 1)) (K.2.2.2.2.2 (i + 2)) (K.2.2.2.2.2 (i + 3)) (K.2.2.2.2.2 (i + 4)) l K) (by omega) (Nat.le_of_ble_eq_true rfl) d13_law_217 (fun r h1 hx => ?_)
  obtain ⟨v, I1, L1, R1, dz, ⟨x, rfl⟩, rfl, rfl, hM⟩ := hx
  refine g_st [.int x] rfl ?_
  refine g_aload_n d13_law_220 rfl ?_
  refine g_sload_n d13_law_221 rfl ?_
  refine g_iload_n d13_law_222 rfl ?_
  refine g_iconstv (nI 1) d13_law_223 rfl ?_
  refine g_iaddN d13_law_224 ?_
  refine g_sld (i + 1) rfl (by omega) hN d13_law_225 ?_
  refine g_sload_n d13_law_226 rfl ?_
  refine g_iload_n d13_law_227 rfl ?_
  refine g_iconstv (nI 2) d13_law_228 rfl ?_
  refine g_iaddN d13_law_229 ?_
  refine g_sld (i + 2) rfl (by omega) hN d13_law_230 ?_
  refine g_sload_n d13_law_231 rfl ?_
  refine g_iload_n d13_law_232 rfl ?_
  refine g_iconstv (nI 3) d13_law_233 rfl ?_
  refine g_iaddN d13_law_234 ?_
  refine g_sld (i + 3) rfl (by omega) hN d13_law_235 ?_
  refine g_sload_n d13_law_236 rfl ?_
  refine g_iload_n d13_law_237 rfl ?_
  refine g_iconstv (nI 4) d13_law_238 rfl ?_
  refine g_iaddN d13_law_239 ?_
  refine g_sld (i + 4) rfl (by omega) hN d13_law_240 ?_
  refine g_callV_4 vm12_car ml13_17 c_74 hM (by omega) (Nat.le_of_ble_eq_true rfl) d13_law_241 (fun r h2 hx => ?_)
  obtain ⟨rfl, I2, L2, R2, rfl, hR⟩ := hx
  refine g_st [.int x, .int x] rfl ?_
  refine g_icmp_eq 1275 d13_law_244 rfl (fun _ => ?_) (fun c => absurd rfl c)
  exact kk I2 L2 R2 dz hR
theorem lw_put {l : Launch} {K : cK} {d kc ks : Nat} {I : wI} {L : wL} {R : wR} {dy : cH} {Q : Option Value → cH → Prop} (hd : 91 ≤ d) (i : Nat) (hi : i + 6 ≤ K.2.2.2.2.1) (hN : K.2.2.2.2.1 ≤ 3072) (h : REL I L R dy) (kk : ∀ (I2 : wI) (L2 : wL) (R2 : wR) (dz : cH), REL I2 L2 R2 (dy ++ dz) → GL l K m13_law d kc ks 1275 [(0, .retAddr 24), (1, .ref 0), (2, .ref 74), (3, .int (nI i))] [] (hp I2 L2 R2 (dy ++ dz)) Q) : GL l K m13_law d (kc + 7) (ks + 855) 249 [(0, .retAddr 24), (1, .ref 0), (2, .ref 74), (3, .int (nI i))] [] (hp I L R dy) Q := by
  refine g_room (d2 := d) (kc2 := kc) (ks2 := ks) (Nat.le_refl d) (by omega) (by omega) ?_
  refine g_aload_n d13_law_249 rfl ?_
  refine g_sload_n d13_law_250 rfl ?_
  refine g_iload_n d13_law_251 rfl ?_
  refine g_iconstv (nI 1) d13_law_252 rfl ?_
  refine g_iaddN d13_law_253 ?_
  refine g_sld (i + 1) rfl (by omega) hN d13_law_254 ?_
  refine g_sload_n d13_law_255 rfl ?_
  refine g_iload_n d13_law_256 rfl ?_
  refine g_iconstv (nI 2) d13_law_257 rfl ?_
  refine g_iaddN d13_law_258 ?_
  refine g_sld (i + 2) rfl (by omega) hN d13_law_259 ?_
  refine g_sload_n d13_law_260 rfl ?_
  refine g_iload_n d13_law_261 rfl ?_
  refine g_iconstv (nI 3) d13_law_262 rfl ?_
  refine g_iaddN d13_law_263 ?_
  refine g_sld (i + 3) rfl (by omega) hN d13_law_264 ?_
  refine g_callV_3 vm11_put ml13_18 c_0 (p_put h (K.2.2.2.2.2 (i + 1)) (K.2.2.2.2.2 (i + 2)) (K.2.2.2.2.2 (i + 3)) l K) (by omega) (Nat.le_of_ble_eq_true rfl) d13_law_265 (fun r h1 hx => ?_)
  obtain ⟨v, I1, L1, R1, dz, ⟨x, rfl⟩, rfl, rfl, hM⟩ := hx
  refine g_st [.int x] rfl ?_
  refine g_aload_n d13_law_268 rfl ?_
  refine g_sload_n d13_law_269 rfl ?_
  refine g_iload_n d13_law_270 rfl ?_
  refine g_iconstv (nI 1) d13_law_271 rfl ?_
  refine g_iaddN d13_law_272 ?_
  refine g_sld (i + 1) rfl (by omega) hN d13_law_273 ?_
  refine g_sload_n d13_law_274 rfl ?_
  refine g_iload_n d13_law_275 rfl ?_
  refine g_iconstv (nI 2) d13_law_276 rfl ?_
  refine g_iaddN d13_law_277 ?_
  refine g_sld (i + 2) rfl (by omega) hN d13_law_278 ?_
  refine g_sload_n d13_law_279 rfl ?_
  refine g_iload_n d13_law_280 rfl ?_
  refine g_iconstv (nI 3) d13_law_281 rfl ?_
  refine g_iaddN d13_law_282 ?_
  refine g_sld (i + 3) rfl (by omega) hN d13_law_283 ?_
  refine g_callV_3 vm12_put ml13_22 c_74 hM (by omega) (Nat.le_of_ble_eq_true rfl) d13_law_284 (fun r h2 hx => ?_)
  obtain ⟨rfl, I2, L2, R2, rfl, hR⟩ := hx
  refine g_st [.int x, .int x] rfl ?_
  refine g_icmp_eq 1275 d13_law_287 rfl (fun _ => ?_) (fun c => absurd rfl c)
  exact kk I2 L2 R2 dz hR
theorem lw_fact {l : Launch} {K : cK} {d kc ks : Nat} {I : wI} {L : wL} {R : wR} {dy : cH} {Q : Option Value → cH → Prop} (hd : 91 ≤ d) (i : Nat) (hi : i + 6 ≤ K.2.2.2.2.1) (hN : K.2.2.2.2.1 ≤ 3072) (h : REL I L R dy) (kk : ∀ (I2 : wI) (L2 : wL) (R2 : wR) (dz : cH), REL I2 L2 R2 (dy ++ dz) → GL l K m13_law d kc ks 1275 [(0, .retAddr 24), (1, .ref 0), (2, .ref 74), (3, .int (nI i))] [] (hp I2 L2 R2 (dy ++ dz)) Q) : GL l K m13_law d (kc + 7) (ks + 855) 292 [(0, .retAddr 24), (1, .ref 0), (2, .ref 74), (3, .int (nI i))] [] (hp I L R dy) Q := by
  refine g_room (d2 := d) (kc2 := kc) (ks2 := ks) (Nat.le_refl d) (by omega) (by omega) ?_
  refine g_aload_n d13_law_292 rfl ?_
  refine g_sload_n d13_law_293 rfl ?_
  refine g_iload_n d13_law_294 rfl ?_
  refine g_iconstv (nI 1) d13_law_295 rfl ?_
  refine g_iaddN d13_law_296 ?_
  refine g_sld (i + 1) rfl (by omega) hN d13_law_297 ?_
  refine g_sload_n d13_law_298 rfl ?_
  refine g_iload_n d13_law_299 rfl ?_
  refine g_iconstv (nI 2) d13_law_300 rfl ?_
  refine g_iaddN d13_law_301 ?_
  refine g_sld (i + 2) rfl (by omega) hN d13_law_302 ?_
  refine g_callV_2 vm11_fact ml13_23 c_0 (p_fact h (K.2.2.2.2.2 (i + 1)) (K.2.2.2.2.2 (i + 2)) l K) (by omega) (Nat.le_of_ble_eq_true rfl) d13_law_303 (fun r h1 hx => ?_)
  obtain ⟨v, I1, L1, R1, dz, ⟨x, rfl⟩, rfl, rfl, hM⟩ := hx
  refine g_st [.int x] rfl ?_
  refine g_aload_n d13_law_306 rfl ?_
  refine g_sload_n d13_law_307 rfl ?_
  refine g_iload_n d13_law_308 rfl ?_
  refine g_iconstv (nI 1) d13_law_309 rfl ?_
  refine g_iaddN d13_law_310 ?_
  refine g_sld (i + 1) rfl (by omega) hN d13_law_311 ?_
  refine g_sload_n d13_law_312 rfl ?_
  refine g_iload_n d13_law_313 rfl ?_
  refine g_iconstv (nI 2) d13_law_314 rfl ?_
  refine g_iaddN d13_law_315 ?_
  refine g_sld (i + 2) rfl (by omega) hN d13_law_316 ?_
  refine g_callV_2 vm12_fact ml13_27 c_74 hM (by omega) (Nat.le_of_ble_eq_true rfl) d13_law_317 (fun r h2 hx => ?_)
  obtain ⟨rfl, I2, L2, R2, rfl, hR⟩ := hx
  refine g_st [.int x, .int x] rfl ?_
  refine g_icmp_eq 1275 d13_law_320 rfl (fun _ => ?_) (fun c => absurd rfl c)
  exact kk I2 L2 R2 dz hR
theorem lw_terms {l : Launch} {K : cK} {d kc ks : Nat} {I : wI} {L : wL} {R : wR} {dy : cH} {Q : Option Value → cH → Prop} (hd : 91 ≤ d) (i : Nat) (hi : i + 6 ≤ K.2.2.2.2.1) (hN : K.2.2.2.2.1 ≤ 3072) (h : REL I L R dy) (kk : ∀ (I2 : wI) (L2 : wL) (R2 : wR) (dz : cH), REL I2 L2 R2 (dy ++ dz) → GL l K m13_law d kc ks 1275 [(0, .retAddr 24), (1, .ref 0), (2, .ref 74), (3, .int (nI i))] [] (hp I2 L2 R2 (dy ++ dz)) Q) : GL l K m13_law d (kc + 7) (ks + 855) 325 [(0, .retAddr 24), (1, .ref 0), (2, .ref 74), (3, .int (nI i))] [] (hp I L R dy) Q := by
  refine g_room (d2 := d) (kc2 := kc) (ks2 := ks) (Nat.le_refl d) (by omega) (by omega) ?_
  refine g_aload_n d13_law_325 rfl ?_
  refine g_sload_n d13_law_326 rfl ?_
  refine g_iload_n d13_law_327 rfl ?_
  refine g_iconstv (nI 1) d13_law_328 rfl ?_
  refine g_iaddN d13_law_329 ?_
  refine g_sld (i + 1) rfl (by omega) hN d13_law_330 ?_
  refine g_sload_n d13_law_331 rfl ?_
  refine g_iload_n d13_law_332 rfl ?_
  refine g_iconstv (nI 2) d13_law_333 rfl ?_
  refine g_iaddN d13_law_334 ?_
  refine g_sld (i + 2) rfl (by omega) hN d13_law_335 ?_
  refine g_callV_2 vm11_terms ml13_28 c_0 (p_terms h (K.2.2.2.2.2 (i + 1)) (K.2.2.2.2.2 (i + 2)) l K) (by omega) (Nat.le_of_ble_eq_true rfl) d13_law_336 (fun r h1 hx => ?_)
  obtain ⟨v, I1, L1, R1, dz, ⟨x, rfl⟩, rfl, rfl, hM⟩ := hx
  refine g_st [.int x] rfl ?_
  refine g_aload_n d13_law_339 rfl ?_
  refine g_sload_n d13_law_340 rfl ?_
  refine g_iload_n d13_law_341 rfl ?_
  refine g_iconstv (nI 1) d13_law_342 rfl ?_
  refine g_iaddN d13_law_343 ?_
  refine g_sld (i + 1) rfl (by omega) hN d13_law_344 ?_
  refine g_sload_n d13_law_345 rfl ?_
  refine g_iload_n d13_law_346 rfl ?_
  refine g_iconstv (nI 2) d13_law_347 rfl ?_
  refine g_iaddN d13_law_348 ?_
  refine g_sld (i + 2) rfl (by omega) hN d13_law_349 ?_
  refine g_callV_2 vm12_terms ml13_31 c_74 hM (by omega) (Nat.le_of_ble_eq_true rfl) d13_law_350 (fun r h2 hx => ?_)
  obtain ⟨rfl, I2, L2, R2, rfl, hR⟩ := hx
  refine g_st [.int x, .int x] rfl ?_
  refine g_icmp_eq 1275 d13_law_353 rfl (fun _ => ?_) (fun c => absurd rfl c)
  exact kk I2 L2 R2 dz hR
theorem lw_feed {l : Launch} {K : cK} {d kc ks : Nat} {I : wI} {L : wL} {R : wR} {dy : cH} {Q : Option Value → cH → Prop} (hd : 91 ≤ d) (i : Nat) (hi : i + 6 ≤ K.2.2.2.2.1) (hN : K.2.2.2.2.1 ≤ 3072) (h : REL I L R dy) (kk : ∀ (I2 : wI) (L2 : wL) (R2 : wR) (dz : cH), REL I2 L2 R2 (dy ++ dz) → GL l K m13_law d kc ks 1275 [(0, .retAddr 24), (1, .ref 0), (2, .ref 74), (3, .int (nI i))] [] (hp I2 L2 R2 (dy ++ dz)) Q) : GL l K m13_law d (kc + 7) (ks + 855) 358 [(0, .retAddr 24), (1, .ref 0), (2, .ref 74), (3, .int (nI i))] [] (hp I L R dy) Q := by
  refine g_room (d2 := d) (kc2 := kc) (ks2 := ks) (Nat.le_refl d) (by omega) (by omega) ?_
  refine g_aload_n d13_law_358 rfl ?_
  refine g_sload_n d13_law_359 rfl ?_
  refine g_iload_n d13_law_360 rfl ?_
  refine g_iconstv (nI 1) d13_law_361 rfl ?_
  refine g_iaddN d13_law_362 ?_
  refine g_sld (i + 1) rfl (by omega) hN d13_law_363 ?_
  refine g_sload_n d13_law_364 rfl ?_
  refine g_iload_n d13_law_365 rfl ?_
  refine g_iconstv (nI 2) d13_law_366 rfl ?_
  refine g_iaddN d13_law_367 ?_
  refine g_sld (i + 2) rfl (by omega) hN d13_law_368 ?_
  refine g_sload_n d13_law_369 rfl ?_
  refine g_iload_n d13_law_370 rfl ?_
  refine g_iconstv (nI 3) d13_law_371 rfl ?_
  refine g_iaddN d13_law_372 ?_
  refine g_sld (i + 3) rfl (by omega) hN d13_law_373 ?_
  refine g_sload_n d13_law_374 rfl ?_
  refine g_iload_n d13_law_375 rfl ?_
  refine g_iconstv (nI 4) d13_law_376 rfl ?_
  refine g_iaddN d13_law_377 ?_
  refine g_sld (i + 4) rfl (by omega) hN d13_law_378 ?_
  refine g_sload_n d13_law_379 rfl ?_
  refine g_iload_n d13_law_380 rfl ?_
  refine g_iconstv (nI 5) d13_law_381 rfl ?_
  refine g_iaddN d13_law_382 ?_
  refine g_sld (i + 5) rfl (by omega) hN d13_law_383 ?_
  refine g_callV_5 vm11_feed ml13_32 c_0 (p_feed h (K.2.2.2.2.2 (i + 1)) (K.2.2.2.2.2 (i + 2)) (K.2.2.2.2.2 (i + 3)) (K.2.2.2.2.2 (i + 4)) (K.2.2.2.2.2 (i + 5)) l K) (by omega) (Nat.le_of_ble_eq_true rfl) d13_law_384 (fun r h1 hx => ?_)
  obtain ⟨v, I1, L1, R1, dz, ⟨x, rfl⟩, rfl, rfl, hM⟩ := hx
  refine g_st [.int x] rfl ?_
  refine g_aload_n d13_law_387 rfl ?_
  refine g_sload_n d13_law_388 rfl ?_
  refine g_iload_n d13_law_389 rfl ?_
  refine g_iconstv (nI 1) d13_law_390 rfl ?_
  refine g_iaddN d13_law_391 ?_
  refine g_sld (i + 1) rfl (by omega) hN d13_law_392 ?_
  refine g_sload_n d13_law_393 rfl ?_
  refine g_iload_n d13_law_394 rfl ?_
  refine g_iconstv (nI 2) d13_law_395 rfl ?_
  refine g_iaddN d13_law_396 ?_
  refine g_sld (i + 2) rfl (by omega) hN d13_law_397 ?_
  refine g_sload_n d13_law_398 rfl ?_
  refine g_iload_n d13_law_399 rfl ?_
  refine g_iconstv (nI 3) d13_law_400 rfl ?_
  refine g_iaddN d13_law_401 ?_
  refine g_sld (i + 3) rfl (by omega) hN d13_law_402 ?_
  refine g_sload_n d13_law_403 rfl ?_
  refine g_iload_n d13_law_404 rfl ?_
  refine g_iconstv (nI 4) d13_law_405 rfl ?_
  refine g_iaddN d13_law_406 ?_
  refine g_sld (i + 4) rfl (by omega) hN d13_law_407 ?_
  refine g_sload_n d13_law_408 rfl ?_
  refine g_iload_n d13_law_409 rfl ?_
  refine g_iconstv (nI 5) d13_law_410 rfl ?_
  refine g_iaddN d13_law_411 ?_
  refine g_sld (i + 5) rfl (by omega) hN d13_law_412 ?_
  refine g_callV_5 vm12_feed ml13_36 c_74 hM (by omega) (Nat.le_of_ble_eq_true rfl) d13_law_413 (fun r h2 hx => ?_)
  obtain ⟨rfl, I2, L2, R2, rfl, hR⟩ := hx
  refine g_st [.int x, .int x] rfl ?_
  refine g_icmp_eq 1275 d13_law_416 rfl (fun _ => ?_) (fun c => absurd rfl c)
  exact kk I2 L2 R2 dz hR
theorem lw_end {l : Launch} {K : cK} {d kc ks : Nat} {I : wI} {L : wL} {R : wR} {dy : cH} {Q : Option Value → cH → Prop} (hd : 91 ≤ d) (i : Nat) (hi : i + 6 ≤ K.2.2.2.2.1) (hN : K.2.2.2.2.1 ≤ 3072) (h : REL I L R dy) (kk : ∀ (I2 : wI) (L2 : wL) (R2 : wR) (dz : cH), REL I2 L2 R2 (dy ++ dz) → GL l K m13_law d kc ks 1275 [(0, .retAddr 24), (1, .ref 0), (2, .ref 74), (3, .int (nI i))] [] (hp I2 L2 R2 (dy ++ dz)) Q) : GL l K m13_law d (kc + 7) (ks + 855) 421 [(0, .retAddr 24), (1, .ref 0), (2, .ref 74), (3, .int (nI i))] [] (hp I L R dy) Q := by
  refine g_room (d2 := d) (kc2 := kc) (ks2 := ks) (Nat.le_refl d) (by omega) (by omega) ?_
  refine g_aload_n d13_law_421 rfl ?_
  refine g_sload_n d13_law_422 rfl ?_
  refine g_iload_n d13_law_423 rfl ?_
  refine g_iconstv (nI 1) d13_law_424 rfl ?_
  refine g_iaddN d13_law_425 ?_
  refine g_sld (i + 1) rfl (by omega) hN d13_law_426 ?_
  refine g_callV_1 vm11_end ml13_37 c_0 (p_end h (K.2.2.2.2.2 (i + 1)) l K) (by omega) (Nat.le_of_ble_eq_true rfl) d13_law_427 (fun r h1 hx => ?_)
  obtain ⟨v, I1, L1, R1, dz, ⟨x, rfl⟩, rfl, rfl, hM⟩ := hx
  refine g_st [.int x] rfl ?_
  refine g_aload_n d13_law_430 rfl ?_
  refine g_sload_n d13_law_431 rfl ?_
  refine g_iload_n d13_law_432 rfl ?_
  refine g_iconstv (nI 1) d13_law_433 rfl ?_
  refine g_iaddN d13_law_434 ?_
  refine g_sld (i + 1) rfl (by omega) hN d13_law_435 ?_
  refine g_callV_1 vm12_end ml13_41 c_74 hM (by omega) (Nat.le_of_ble_eq_true rfl) d13_law_436 (fun r h2 hx => ?_)
  obtain ⟨rfl, I2, L2, R2, rfl, hR⟩ := hx
  refine g_st [.int x, .int x] rfl ?_
  refine g_icmp_eq 1275 d13_law_439 rfl (fun _ => ?_) (fun c => absurd rfl c)
  exact kk I2 L2 R2 dz hR
theorem lw_row {l : Launch} {K : cK} {d kc ks : Nat} {I : wI} {L : wL} {R : wR} {dy : cH} {Q : Option Value → cH → Prop} (hd : 91 ≤ d) (i : Nat) (hi : i + 6 ≤ K.2.2.2.2.1) (hN : K.2.2.2.2.1 ≤ 3072) (h : REL I L R dy) (kk : ∀ (I2 : wI) (L2 : wL) (R2 : wR) (dz : cH), REL I2 L2 R2 (dy ++ dz) → GL l K m13_law d kc ks 1275 [(0, .retAddr 24), (1, .ref 0), (2, .ref 74), (3, .int (nI i))] [] (hp I2 L2 R2 (dy ++ dz)) Q) : GL l K m13_law d (kc + 7) (ks + 855) 444 [(0, .retAddr 24), (1, .ref 0), (2, .ref 74), (3, .int (nI i))] [] (hp I L R dy) Q := by
  refine g_room (d2 := d) (kc2 := kc) (ks2 := ks) (Nat.le_refl d) (by omega) (by omega) ?_
  refine g_aload_n d13_law_444 rfl ?_
  refine g_callV_0 vm11_row ml13_42 c_0 (p_row h  l K) (by omega) (Nat.le_of_ble_eq_true rfl) d13_law_445 (fun r h1 hx => ?_)
  obtain ⟨v, I1, L1, R1, dz, ⟨x, rfl⟩, rfl, rfl, hM⟩ := hx
  refine g_st [.int x] rfl ?_
  refine g_aload_n d13_law_448 rfl ?_
  refine g_callV_0 vm12_row ml13_46 c_74 hM (by omega) (Nat.le_of_ble_eq_true rfl) d13_law_449 (fun r h2 hx => ?_)
  obtain ⟨rfl, I2, L2, R2, rfl, hR⟩ := hx
  refine g_st [.int x, .int x] rfl ?_
  refine g_icmp_eq 1275 d13_law_452 rfl (fun _ => ?_) (fun c => absurd rfl c)
  exact kk I2 L2 R2 dz hR
theorem lw_tar {l : Launch} {K : cK} {d kc ks : Nat} {I : wI} {L : wL} {R : wR} {dy : cH} {Q : Option Value → cH → Prop} (hd : 91 ≤ d) (i : Nat) (hi : i + 6 ≤ K.2.2.2.2.1) (hN : K.2.2.2.2.1 ≤ 3072) (h : REL I L R dy) (kk : ∀ (I2 : wI) (L2 : wL) (R2 : wR) (dz : cH), REL I2 L2 R2 (dy ++ dz) → GL l K m13_law d kc ks 1275 [(0, .retAddr 24), (1, .ref 0), (2, .ref 74), (3, .int (nI i))] [] (hp I2 L2 R2 (dy ++ dz)) Q) : GL l K m13_law d (kc + 7) (ks + 855) 457 [(0, .retAddr 24), (1, .ref 0), (2, .ref 74), (3, .int (nI i))] [] (hp I L R dy) Q := by
  refine g_room (d2 := d) (kc2 := kc) (ks2 := ks) (Nat.le_refl d) (by omega) (by omega) ?_
  refine g_aload_n d13_law_457 rfl ?_
  refine g_callV_0 vm11_tar ml13_47 c_0 (p_tar h  l K) (by omega) (Nat.le_of_ble_eq_true rfl) d13_law_458 (fun r h1 hx => ?_)
  obtain ⟨v, I1, L1, R1, dz, ⟨x, rfl⟩, rfl, rfl, hM⟩ := hx
  refine g_st [.int x] rfl ?_
  refine g_aload_n d13_law_461 rfl ?_
  refine g_callV_0 vm12_tar ml13_50 c_74 hM (by omega) (Nat.le_of_ble_eq_true rfl) d13_law_462 (fun r h2 hx => ?_)
  obtain ⟨rfl, I2, L2, R2, rfl, hR⟩ := hx
  refine g_st [.int x, .int x] rfl ?_
  refine g_icmp_eq 1275 d13_law_465 rfl (fun _ => ?_) (fun c => absurd rfl c)
  exact kk I2 L2 R2 dz hR
theorem lw_law {l : Launch} {K : cK} {d kc ks : Nat} {I : wI} {L : wL} {R : wR} {dy : cH} {Q : Option Value → cH → Prop} (hd : 91 ≤ d) (i : Nat) (hi : i + 6 ≤ K.2.2.2.2.1) (hN : K.2.2.2.2.1 ≤ 3072) (h : REL I L R dy) (kk : ∀ (I2 : wI) (L2 : wL) (R2 : wR) (dz : cH), REL I2 L2 R2 (dy ++ dz) → GL l K m13_law d kc ks 1275 [(0, .retAddr 24), (1, .ref 0), (2, .ref 74), (3, .int (nI i))] [] (hp I2 L2 R2 (dy ++ dz)) Q) : GL l K m13_law d (kc + 7) (ks + 855) 470 [(0, .retAddr 24), (1, .ref 0), (2, .ref 74), (3, .int (nI i))] [] (hp I L R dy) Q := by
  obtain ⟨kc1, ks1, q1, q2, hp_⟩ := p_law h 
  refine g_aload_n d13_law_470 rfl ?_
  refine g_callV_0k (kc1 := kc1) (ks1 := ks1) (kc2 := kc) (ks2 := ks) (by omega) (by omega) vm11_law ml13_51 c_0 (hp_ l K) (by omega) (Nat.le_of_ble_eq_true rfl) d13_law_471 (fun r h1 hx => ?_)
  obtain ⟨v, I1, L1, R1, dz, ⟨x, rfl⟩, rfl, rfl, hM⟩ := hx
  refine g_st [.int x] rfl ?_
  refine g_aload_n d13_law_474 rfl ?_
  refine g_callV_0 vm12_law ml13_54 c_74 hM (by omega) (Nat.le_of_ble_eq_true rfl) d13_law_475 (fun r h2 hx => ?_)
  obtain ⟨rfl, I2, L2, R2, rfl, hR⟩ := hx
  refine g_st [.int x, .int x] rfl ?_
  refine g_icmp_eq 1275 d13_law_478 rfl (fun _ => ?_) (fun c => absurd rfl c)
  exact kk I2 L2 R2 dz hR
theorem lw_habit {l : Launch} {K : cK} {d kc ks : Nat} {I : wI} {L : wL} {R : wR} {dy : cH} {Q : Option Value → cH → Prop} (hd : 91 ≤ d) (i : Nat) (hi : i + 6 ≤ K.2.2.2.2.1) (hN : K.2.2.2.2.1 ≤ 3072) (h : REL I L R dy) (kk : ∀ (I2 : wI) (L2 : wL) (R2 : wR) (dz : cH), REL I2 L2 R2 (dy ++ dz) → GL l K m13_law d kc ks 1275 [(0, .retAddr 24), (1, .ref 0), (2, .ref 74), (3, .int (nI i))] [] (hp I2 L2 R2 (dy ++ dz)) Q) : GL l K m13_law d (kc + 7) (ks + 855) 483 [(0, .retAddr 24), (1, .ref 0), (2, .ref 74), (3, .int (nI i))] [] (hp I L R dy) Q := by
  obtain ⟨kc1, ks1, q1, q2, hp_⟩ := p_habit h 
  refine g_aload_n d13_law_483 rfl ?_
  refine g_callV_0k (kc1 := kc1) (ks1 := ks1) (kc2 := kc) (ks2 := ks) (by omega) (by omega) vm11_habit ml13_55 c_0 (hp_ l K) (by omega) (Nat.le_of_ble_eq_true rfl) d13_law_484 (fun r h1 hx => ?_)
  obtain ⟨v, I1, L1, R1, dz, ⟨x, rfl⟩, rfl, rfl, hM⟩ := hx
  refine g_st [.int x] rfl ?_
  refine g_aload_n d13_law_487 rfl ?_
  refine g_callV_0 vm12_habit ml13_58 c_74 hM (by omega) (Nat.le_of_ble_eq_true rfl) d13_law_488 (fun r h2 hx => ?_)
  obtain ⟨rfl, I2, L2, R2, rfl, hR⟩ := hx
  refine g_st [.int x, .int x] rfl ?_
  refine g_icmp_eq 1275 d13_law_491 rfl (fun _ => ?_) (fun c => absurd rfl c)
  exact kk I2 L2 R2 dz hR
theorem lw_fault {l : Launch} {K : cK} {d kc ks : Nat} {I : wI} {L : wL} {R : wR} {dy : cH} {Q : Option Value → cH → Prop} (hd : 91 ≤ d) (i : Nat) (hi : i + 6 ≤ K.2.2.2.2.1) (hN : K.2.2.2.2.1 ≤ 3072) (h : REL I L R dy) (kk : ∀ (I2 : wI) (L2 : wL) (R2 : wR) (dz : cH), REL I2 L2 R2 (dy ++ dz) → GL l K m13_law d kc ks 1275 [(0, .retAddr 24), (1, .ref 0), (2, .ref 74), (3, .int (nI i))] [] (hp I2 L2 R2 (dy ++ dz)) Q) : GL l K m13_law d (kc + 7) (ks + 855) 496 [(0, .retAddr 24), (1, .ref 0), (2, .ref 74), (3, .int (nI i))] [] (hp I L R dy) Q := by
  refine g_room (d2 := d) (kc2 := kc) (ks2 := ks) (Nat.le_refl d) (by omega) (by omega) ?_
  refine g_aload_n d13_law_496 rfl ?_
  refine g_callV_0 vm11_fault ml13_59 c_0 (p_fault h  l K) (by omega) (Nat.le_of_ble_eq_true rfl) d13_law_497 (fun r h1 hx => ?_)
  obtain ⟨v, I1, L1, R1, dz, ⟨x, rfl⟩, rfl, rfl, hM⟩ := hx
  refine g_st [.int x] rfl ?_
  refine g_aload_n d13_law_500 rfl ?_
  refine g_callV_0 vm12_fault ml13_62 c_74 hM (by omega) (Nat.le_of_ble_eq_true rfl) d13_law_501 (fun r h2 hx => ?_)
  obtain ⟨rfl, I2, L2, R2, rfl, hR⟩ := hx
  refine g_st [.int x, .int x] rfl ?_
  refine g_icmp_eq 1275 d13_law_504 rfl (fun _ => ?_) (fun c => absurd rfl c)
  exact kk I2 L2 R2 dz hR
theorem lw_force {l : Launch} {K : cK} {d kc ks : Nat} {I : wI} {L : wL} {R : wR} {dy : cH} {Q : Option Value → cH → Prop} (hd : 91 ≤ d) (i : Nat) (hi : i + 6 ≤ K.2.2.2.2.1) (hN : K.2.2.2.2.1 ≤ 3072) (h : REL I L R dy) (kk : ∀ (I2 : wI) (L2 : wL) (R2 : wR) (dz : cH), REL I2 L2 R2 (dy ++ dz) → GL l K m13_law d kc ks 1275 [(0, .retAddr 24), (1, .ref 0), (2, .ref 74), (3, .int (nI i))] [] (hp I2 L2 R2 (dy ++ dz)) Q) : GL l K m13_law d (kc + 7) (ks + 855) 509 [(0, .retAddr 24), (1, .ref 0), (2, .ref 74), (3, .int (nI i))] [] (hp I L R dy) Q := by
  refine g_room (d2 := d) (kc2 := kc) (ks2 := ks) (Nat.le_refl d) (by omega) (by omega) ?_
  refine g_aload_n d13_law_509 rfl ?_
  refine g_sload_n d13_law_510 rfl ?_
  refine g_iload_n d13_law_511 rfl ?_
  refine g_iconstv (nI 1) d13_law_512 rfl ?_
  refine g_iaddN d13_law_513 ?_
  refine g_sld (i + 1) rfl (by omega) hN d13_law_514 ?_
  refine g_callV_1 vm11_force ml13_63 c_0 (p_force h (K.2.2.2.2.2 (i + 1)) l K) (by omega) (Nat.le_of_ble_eq_true rfl) d13_law_515 (fun r h1 hx => ?_)
  obtain ⟨v, I1, L1, R1, dz, ⟨x, rfl⟩, rfl, rfl, hM⟩ := hx
  refine g_st [.int x] rfl ?_
  refine g_aload_n d13_law_518 rfl ?_
  refine g_sload_n d13_law_519 rfl ?_
  refine g_iload_n d13_law_520 rfl ?_
  refine g_iconstv (nI 1) d13_law_521 rfl ?_
  refine g_iaddN d13_law_522 ?_
  refine g_sld (i + 1) rfl (by omega) hN d13_law_523 ?_
  refine g_callV_1 vm12_force ml13_66 c_74 hM (by omega) (Nat.le_of_ble_eq_true rfl) d13_law_524 (fun r h2 hx => ?_)
  obtain ⟨rfl, I2, L2, R2, rfl, hR⟩ := hx
  refine g_st [.int x, .int x] rfl ?_
  refine g_icmp_eq 1275 d13_law_527 rfl (fun _ => ?_) (fun c => absurd rfl c)
  exact kk I2 L2 R2 dz hR
theorem lw_asks {l : Launch} {K : cK} {d kc ks : Nat} {I : wI} {L : wL} {R : wR} {dy : cH} {Q : Option Value → cH → Prop} (hd : 91 ≤ d) (i : Nat) (hi : i + 6 ≤ K.2.2.2.2.1) (hN : K.2.2.2.2.1 ≤ 3072) (h : REL I L R dy) (kk : ∀ (I2 : wI) (L2 : wL) (R2 : wR) (dz : cH), REL I2 L2 R2 (dy ++ dz) → GL l K m13_law d kc ks 1275 [(0, .retAddr 24), (1, .ref 0), (2, .ref 74), (3, .int (nI i))] [] (hp I2 L2 R2 (dy ++ dz)) Q) : GL l K m13_law d (kc + 7) (ks + 855) 532 [(0, .retAddr 24), (1, .ref 0), (2, .ref 74), (3, .int (nI i))] [] (hp I L R dy) Q := by
  refine g_room (d2 := d) (kc2 := kc) (ks2 := ks) (Nat.le_refl d) (by omega) (by omega) ?_
  refine g_aload_n d13_law_532 rfl ?_
  refine g_sload_n d13_law_533 rfl ?_
  refine g_iload_n d13_law_534 rfl ?_
  refine g_iconstv (nI 1) d13_law_535 rfl ?_
  refine g_iaddN d13_law_536 ?_
  refine g_sld (i + 1) rfl (by omega) hN d13_law_537 ?_
  refine g_sload_n d13_law_538 rfl ?_
  refine g_iload_n d13_law_539 rfl ?_
  refine g_iconstv (nI 2) d13_law_540 rfl ?_
  refine g_iaddN d13_law_541 ?_
  refine g_sld (i + 2) rfl (by omega) hN d13_law_542 ?_
  refine g_sload_n d13_law_543 rfl ?_
  refine g_iload_n d13_law_544 rfl ?_
  refine g_iconstv (nI 3) d13_law_545 rfl ?_
  refine g_iaddN d13_law_546 ?_
  refine g_sld (i + 3) rfl (by omega) hN d13_law_547 ?_
  refine g_sload_n d13_law_548 rfl ?_
  refine g_iload_n d13_law_549 rfl ?_
  refine g_iconstv (nI 4) d13_law_550 rfl ?_
  refine g_iaddN d13_law_551 ?_
  refine g_sld (i + 4) rfl (by omega) hN d13_law_552 ?_
  refine g_callV_4 vm11_asks ml13_67 c_0 (p_asks h (K.2.2.2.2.2 (i + 1)) (K.2.2.2.2.2 (i + 2)) (K.2.2.2.2.2 (i + 3)) (K.2.2.2.2.2 (i + 4)) l K) (by omega) (Nat.le_of_ble_eq_true rfl) d13_law_553 (fun r h1 hx => ?_)
  obtain ⟨v, I1, L1, R1, dz, ⟨x, rfl⟩, rfl, rfl, hM⟩ := hx
  refine g_st [.int x] rfl ?_
  refine g_aload_n d13_law_556 rfl ?_
  refine g_sload_n d13_law_557 rfl ?_
  refine g_iload_n d13_law_558 rfl ?_
  refine g_iconstv (nI 1) d13_law_559 rfl ?_
  refine g_iaddN d13_law_560 ?_
  refine g_sld (i + 1) rfl (by omega) hN d13_law_561 ?_
  refine g_sload_n d13_law_562 rfl ?_
  refine g_iload_n d13_law_563 rfl ?_
  refine g_iconstv (nI 2) d13_law_564 rfl ?_
  refine g_iaddN d13_law_565 ?_
  refine g_sld (i + 2) rfl (by omega) hN d13_law_566 ?_
  refine g_sload_n d13_law_567 rfl ?_
  refine g_iload_n d13_law_568 rfl ?_
  refine g_iconstv (nI 3) d13_law_569 rfl ?_
  refine g_iaddN d13_law_570 ?_
  refine g_sld (i + 3) rfl (by omega) hN d13_law_571 ?_
  refine g_sload_n d13_law_572 rfl ?_
  refine g_iload_n d13_law_573 rfl ?_
  refine g_iconstv (nI 4) d13_law_574 rfl ?_
  refine g_iaddN d13_law_575 ?_
  refine g_sld (i + 4) rfl (by omega) hN d13_law_576 ?_
  refine g_callV_4 vm12_asks ml13_70 c_74 hM (by omega) (Nat.le_of_ble_eq_true rfl) d13_law_577 (fun r h2 hx => ?_)
  obtain ⟨rfl, I2, L2, R2, rfl, hR⟩ := hx
  refine g_st [.int x, .int x] rfl ?_
  refine g_icmp_eq 1275 d13_law_580 rfl (fun _ => ?_) (fun c => absurd rfl c)
  exact kk I2 L2 R2 dz hR
theorem lw_likely {l : Launch} {K : cK} {d kc ks : Nat} {I : wI} {L : wL} {R : wR} {dy : cH} {Q : Option Value → cH → Prop} (hd : 91 ≤ d) (i : Nat) (hi : i + 6 ≤ K.2.2.2.2.1) (hN : K.2.2.2.2.1 ≤ 3072) (h : REL I L R dy) (kk : ∀ (I2 : wI) (L2 : wL) (R2 : wR) (dz : cH), REL I2 L2 R2 (dy ++ dz) → GL l K m13_law d kc ks 1275 [(0, .retAddr 24), (1, .ref 0), (2, .ref 74), (3, .int (nI i))] [] (hp I2 L2 R2 (dy ++ dz)) Q) : GL l K m13_law d (kc + 7) (ks + 855) 585 [(0, .retAddr 24), (1, .ref 0), (2, .ref 74), (3, .int (nI i))] [] (hp I L R dy) Q := by
  refine g_room (d2 := d) (kc2 := kc) (ks2 := ks) (Nat.le_refl d) (by omega) (by omega) ?_
  refine g_aload_n d13_law_585 rfl ?_
  refine g_sload_n d13_law_586 rfl ?_
  refine g_iload_n d13_law_587 rfl ?_
  refine g_iconstv (nI 1) d13_law_588 rfl ?_
  refine g_iaddN d13_law_589 ?_
  refine g_sld (i + 1) rfl (by omega) hN d13_law_590 ?_
  refine g_sload_n d13_law_591 rfl ?_
  refine g_iload_n d13_law_592 rfl ?_
  refine g_iconstv (nI 2) d13_law_593 rfl ?_
  refine g_iaddN d13_law_594 ?_
  refine g_sld (i + 2) rfl (by omega) hN d13_law_595 ?_
  refine g_callV_2 vm11_likely ml13_71 c_0 (p_likely h (K.2.2.2.2.2 (i + 1)) (K.2.2.2.2.2 (i + 2)) l K) (by omega) (Nat.le_of_ble_eq_true rfl) d13_law_596 (fun r h1 hx => ?_)
  obtain ⟨v, I1, L1, R1, dz, ⟨x, rfl⟩, rfl, rfl, hM⟩ := hx
  refine g_st [.long x] rfl ?_
  refine g_aload_n d13_law_599 rfl ?_
  refine g_sload_n d13_law_600 rfl ?_
  refine g_iload_n d13_law_601 rfl ?_
  refine g_iconstv (nI 1) d13_law_602 rfl ?_
  refine g_iaddN d13_law_603 ?_
  refine g_sld (i + 1) rfl (by omega) hN d13_law_604 ?_
  refine g_sload_n d13_law_605 rfl ?_
  refine g_iload_n d13_law_606 rfl ?_
  refine g_iconstv (nI 2) d13_law_607 rfl ?_
  refine g_iaddN d13_law_608 ?_
  refine g_sld (i + 2) rfl (by omega) hN d13_law_609 ?_
  refine g_callV_2 vm12_likely ml13_75 c_74 hM (by omega) (Nat.le_of_ble_eq_true rfl) d13_law_610 (fun r h2 hx => ?_)
  obtain ⟨rfl, I2, L2, R2, rfl, hR⟩ := hx
  refine g_st [.long x, .long x] rfl ?_
  refine g_lif_eq 1275 d13_law_613 d13_law_614 rfl (fun _ => ?_) (fun c => absurd rfl c)
  exact kk I2 L2 R2 dz hR
theorem lw_cost {l : Launch} {K : cK} {d kc ks : Nat} {I : wI} {L : wL} {R : wR} {dy : cH} {Q : Option Value → cH → Prop} (hd : 91 ≤ d) (i : Nat) (hi : i + 6 ≤ K.2.2.2.2.1) (hN : K.2.2.2.2.1 ≤ 3072) (h : REL I L R dy) (kk : ∀ (I2 : wI) (L2 : wL) (R2 : wR) (dz : cH), REL I2 L2 R2 (dy ++ dz) → GL l K m13_law d kc ks 1275 [(0, .retAddr 24), (1, .ref 0), (2, .ref 74), (3, .int (nI i))] [] (hp I2 L2 R2 (dy ++ dz)) Q) : GL l K m13_law d (kc + 7) (ks + 855) 619 [(0, .retAddr 24), (1, .ref 0), (2, .ref 74), (3, .int (nI i))] [] (hp I L R dy) Q := by
  refine g_room (d2 := d) (kc2 := kc) (ks2 := ks) (Nat.le_refl d) (by omega) (by omega) ?_
  refine g_aload_n d13_law_619 rfl ?_
  refine g_sload_n d13_law_620 rfl ?_
  refine g_iload_n d13_law_621 rfl ?_
  refine g_iconstv (nI 1) d13_law_622 rfl ?_
  refine g_iaddN d13_law_623 ?_
  refine g_sld (i + 1) rfl (by omega) hN d13_law_624 ?_
  refine g_sload_n d13_law_625 rfl ?_
  refine g_iload_n d13_law_626 rfl ?_
  refine g_iconstv (nI 2) d13_law_627 rfl ?_
  refine g_iaddN d13_law_628 ?_
  refine g_sld (i + 2) rfl (by omega) hN d13_law_629 ?_
  refine g_callV_2 vm11_cost ml13_76 c_0 (p_cost h (K.2.2.2.2.2 (i + 1)) (K.2.2.2.2.2 (i + 2)) l K) (by omega) (Nat.le_of_ble_eq_true rfl) d13_law_630 (fun r h1 hx => ?_)
  obtain ⟨v, I1, L1, R1, dz, ⟨x, rfl⟩, rfl, rfl, hM⟩ := hx
  refine g_st [.long x] rfl ?_
  refine g_aload_n d13_law_633 rfl ?_
  refine g_sload_n d13_law_634 rfl ?_
  refine g_iload_n d13_law_635 rfl ?_
  refine g_iconstv (nI 1) d13_law_636 rfl ?_
  refine g_iaddN d13_law_637 ?_
  refine g_sld (i + 1) rfl (by omega) hN d13_law_638 ?_
  refine g_sload_n d13_law_639 rfl ?_
  refine g_iload_n d13_law_640 rfl ?_
  refine g_iconstv (nI 2) d13_law_641 rfl ?_
  refine g_iaddN d13_law_642 ?_
  refine g_sld (i + 2) rfl (by omega) hN d13_law_643 ?_
  refine g_callV_2 vm12_cost ml13_79 c_74 hM (by omega) (Nat.le_of_ble_eq_true rfl) d13_law_644 (fun r h2 hx => ?_)
  obtain ⟨rfl, I2, L2, R2, rfl, hR⟩ := hx
  refine g_st [.long x, .long x] rfl ?_
  refine g_lif_eq 1275 d13_law_647 d13_law_648 rfl (fun _ => ?_) (fun c => absurd rfl c)
  exact kk I2 L2 R2 dz hR
theorem lw_coins {l : Launch} {K : cK} {d kc ks : Nat} {I : wI} {L : wL} {R : wR} {dy : cH} {Q : Option Value → cH → Prop} (hd : 91 ≤ d) (i : Nat) (hi : i + 6 ≤ K.2.2.2.2.1) (hN : K.2.2.2.2.1 ≤ 3072) (h : REL I L R dy) (kk : ∀ (I2 : wI) (L2 : wL) (R2 : wR) (dz : cH), REL I2 L2 R2 (dy ++ dz) → GL l K m13_law d kc ks 1275 [(0, .retAddr 24), (1, .ref 0), (2, .ref 74), (3, .int (nI i))] [] (hp I2 L2 R2 (dy ++ dz)) Q) : GL l K m13_law d (kc + 7) (ks + 855) 653 [(0, .retAddr 24), (1, .ref 0), (2, .ref 74), (3, .int (nI i))] [] (hp I L R dy) Q := by
  refine g_room (d2 := d) (kc2 := kc) (ks2 := ks) (Nat.le_refl d) (by omega) (by omega) ?_
  refine g_aload_n d13_law_653 rfl ?_
  refine g_sload_n d13_law_654 rfl ?_
  refine g_iload_n d13_law_655 rfl ?_
  refine g_iconstv (nI 1) d13_law_656 rfl ?_
  refine g_iaddN d13_law_657 ?_
  refine g_sld (i + 1) rfl (by omega) hN d13_law_658 ?_
  refine g_sload_n d13_law_659 rfl ?_
  refine g_iload_n d13_law_660 rfl ?_
  refine g_iconstv (nI 2) d13_law_661 rfl ?_
  refine g_iaddN d13_law_662 ?_
  refine g_sld (i + 2) rfl (by omega) hN d13_law_663 ?_
  refine g_callV_2 vm11_coins ml13_80 c_0 (p_coins h (K.2.2.2.2.2 (i + 1)) (K.2.2.2.2.2 (i + 2)) l K) (by omega) (Nat.le_of_ble_eq_true rfl) d13_law_664 (fun r h1 hx => ?_)
  obtain ⟨v, I1, L1, R1, dz, ⟨x, rfl⟩, rfl, rfl, hM⟩ := hx
  refine g_st [.int x] rfl ?_
  refine g_aload_n d13_law_667 rfl ?_
  refine g_sload_n d13_law_668 rfl ?_
  refine g_iload_n d13_law_669 rfl ?_
  refine g_iconstv (nI 1) d13_law_670 rfl ?_
  refine g_iaddN d13_law_671 ?_
  refine g_sld (i + 1) rfl (by omega) hN d13_law_672 ?_
  refine g_sload_n d13_law_673 rfl ?_
  refine g_iload_n d13_law_674 rfl ?_
  refine g_iconstv (nI 2) d13_law_675 rfl ?_
  refine g_iaddN d13_law_676 ?_
  refine g_sld (i + 2) rfl (by omega) hN d13_law_677 ?_
  refine g_callV_2 vm12_coins ml13_83 c_74 hM (by omega) (Nat.le_of_ble_eq_true rfl) d13_law_678 (fun r h2 hx => ?_)
  obtain ⟨rfl, I2, L2, R2, rfl, hR⟩ := hx
  refine g_st [.int x, .int x] rfl ?_
  refine g_icmp_eq 1275 d13_law_681 rfl (fun _ => ?_) (fun c => absurd rfl c)
  exact kk I2 L2 R2 dz hR
theorem lw_least {l : Launch} {K : cK} {d kc ks : Nat} {I : wI} {L : wL} {R : wR} {dy : cH} {Q : Option Value → cH → Prop} (hd : 91 ≤ d) (i : Nat) (hi : i + 6 ≤ K.2.2.2.2.1) (hN : K.2.2.2.2.1 ≤ 3072) (h : REL I L R dy) (kk : ∀ (I2 : wI) (L2 : wL) (R2 : wR) (dz : cH), REL I2 L2 R2 (dy ++ dz) → GL l K m13_law d kc ks 1275 [(0, .retAddr 24), (1, .ref 0), (2, .ref 74), (3, .int (nI i))] [] (hp I2 L2 R2 (dy ++ dz)) Q) : GL l K m13_law d (kc + 7) (ks + 855) 686 [(0, .retAddr 24), (1, .ref 0), (2, .ref 74), (3, .int (nI i))] [] (hp I L R dy) Q := by
  refine g_room (d2 := d) (kc2 := kc) (ks2 := ks) (Nat.le_refl d) (by omega) (by omega) ?_
  refine g_aload_n d13_law_686 rfl ?_
  refine g_sload_n d13_law_687 rfl ?_
  refine g_iload_n d13_law_688 rfl ?_
  refine g_iconstv (nI 1) d13_law_689 rfl ?_
  refine g_iaddN d13_law_690 ?_
  refine g_sld (i + 1) rfl (by omega) hN d13_law_691 ?_
  refine g_sload_n d13_law_692 rfl ?_
  refine g_iload_n d13_law_693 rfl ?_
  refine g_iconstv (nI 2) d13_law_694 rfl ?_
  refine g_iaddN d13_law_695 ?_
  refine g_sld (i + 2) rfl (by omega) hN d13_law_696 ?_
  refine g_callV_2 vm11_least ml13_84 c_0 (p_least h (K.2.2.2.2.2 (i + 1)) (K.2.2.2.2.2 (i + 2)) l K) (by omega) (Nat.le_of_ble_eq_true rfl) d13_law_697 (fun r h1 hx => ?_)
  obtain ⟨v, I1, L1, R1, dz, ⟨x, rfl⟩, rfl, rfl, hM⟩ := hx
  refine g_st [.long x] rfl ?_
  refine g_aload_n d13_law_700 rfl ?_
  refine g_sload_n d13_law_701 rfl ?_
  refine g_iload_n d13_law_702 rfl ?_
  refine g_iconstv (nI 1) d13_law_703 rfl ?_
  refine g_iaddN d13_law_704 ?_
  refine g_sld (i + 1) rfl (by omega) hN d13_law_705 ?_
  refine g_sload_n d13_law_706 rfl ?_
  refine g_iload_n d13_law_707 rfl ?_
  refine g_iconstv (nI 2) d13_law_708 rfl ?_
  refine g_iaddN d13_law_709 ?_
  refine g_sld (i + 2) rfl (by omega) hN d13_law_710 ?_
  refine g_callV_2 vm12_least ml13_87 c_74 hM (by omega) (Nat.le_of_ble_eq_true rfl) d13_law_711 (fun r h2 hx => ?_)
  obtain ⟨rfl, I2, L2, R2, rfl, hR⟩ := hx
  refine g_st [.long x, .long x] rfl ?_
  refine g_lif_eq 1275 d13_law_714 d13_law_715 rfl (fun _ => ?_) (fun c => absurd rfl c)
  exact kk I2 L2 R2 dz hR
theorem lw_down {l : Launch} {K : cK} {d kc ks : Nat} {I : wI} {L : wL} {R : wR} {dy : cH} {Q : Option Value → cH → Prop} (hd : 91 ≤ d) (i : Nat) (hi : i + 6 ≤ K.2.2.2.2.1) (hN : K.2.2.2.2.1 ≤ 3072) (h : REL I L R dy) (kk : ∀ (I2 : wI) (L2 : wL) (R2 : wR) (dz : cH), REL I2 L2 R2 (dy ++ dz) → GL l K m13_law d kc ks 1275 [(0, .retAddr 24), (1, .ref 0), (2, .ref 74), (3, .int (nI i))] [] (hp I2 L2 R2 (dy ++ dz)) Q) : GL l K m13_law d (kc + 7) (ks + 855) 720 [(0, .retAddr 24), (1, .ref 0), (2, .ref 74), (3, .int (nI i))] [] (hp I L R dy) Q := by
  refine g_room (d2 := d) (kc2 := kc) (ks2 := ks) (Nat.le_refl d) (by omega) (by omega) ?_
  refine g_aload_n d13_law_720 rfl ?_
  refine g_sload_n d13_law_721 rfl ?_
  refine g_iload_n d13_law_722 rfl ?_
  refine g_iconstv (nI 1) d13_law_723 rfl ?_
  refine g_iaddN d13_law_724 ?_
  refine g_sld (i + 1) rfl (by omega) hN d13_law_725 ?_
  refine g_sload_n d13_law_726 rfl ?_
  refine g_iload_n d13_law_727 rfl ?_
  refine g_iconstv (nI 2) d13_law_728 rfl ?_
  refine g_iaddN d13_law_729 ?_
  refine g_sld (i + 2) rfl (by omega) hN d13_law_730 ?_
  refine g_callV_2 vm11_down ml13_88 c_0 (p_down h (K.2.2.2.2.2 (i + 1)) (K.2.2.2.2.2 (i + 2)) l K) (by omega) (Nat.le_of_ble_eq_true rfl) d13_law_731 (fun r h1 hx => ?_)
  obtain ⟨v, I1, L1, R1, dz, ⟨x, rfl⟩, rfl, rfl, hM⟩ := hx
  refine g_st [.int x] rfl ?_
  refine g_aload_n d13_law_734 rfl ?_
  refine g_sload_n d13_law_735 rfl ?_
  refine g_iload_n d13_law_736 rfl ?_
  refine g_iconstv (nI 1) d13_law_737 rfl ?_
  refine g_iaddN d13_law_738 ?_
  refine g_sld (i + 1) rfl (by omega) hN d13_law_739 ?_
  refine g_sload_n d13_law_740 rfl ?_
  refine g_iload_n d13_law_741 rfl ?_
  refine g_iconstv (nI 2) d13_law_742 rfl ?_
  refine g_iaddN d13_law_743 ?_
  refine g_sld (i + 2) rfl (by omega) hN d13_law_744 ?_
  refine g_callV_2 vm12_down ml13_91 c_74 hM (by omega) (Nat.le_of_ble_eq_true rfl) d13_law_745 (fun r h2 hx => ?_)
  obtain ⟨rfl, I2, L2, R2, rfl, hR⟩ := hx
  refine g_st [.int x, .int x] rfl ?_
  refine g_icmp_eq 1275 d13_law_748 rfl (fun _ => ?_) (fun c => absurd rfl c)
  exact kk I2 L2 R2 dz hR
theorem lw_run {l : Launch} {K : cK} {d kc ks : Nat} {I : wI} {L : wL} {R : wR} {dy : cH} {Q : Option Value → cH → Prop} (hd : 91 ≤ d) (i : Nat) (hi : i + 6 ≤ K.2.2.2.2.1) (hN : K.2.2.2.2.1 ≤ 3072) (h : REL I L R dy) (kk : ∀ (I2 : wI) (L2 : wL) (R2 : wR) (dz : cH), REL I2 L2 R2 (dy ++ dz) → GL l K m13_law d kc ks 1275 [(0, .retAddr 24), (1, .ref 0), (2, .ref 74), (3, .int (nI i))] [] (hp I2 L2 R2 (dy ++ dz)) Q) : GL l K m13_law d (kc + 7) (ks + 855) 753 [(0, .retAddr 24), (1, .ref 0), (2, .ref 74), (3, .int (nI i))] [] (hp I L R dy) Q := by
  refine g_room (d2 := d) (kc2 := kc) (ks2 := ks) (Nat.le_refl d) (by omega) (by omega) ?_
  refine g_aload_n d13_law_753 rfl ?_
  refine g_sload_n d13_law_754 rfl ?_
  refine g_iload_n d13_law_755 rfl ?_
  refine g_iconstv (nI 1) d13_law_756 rfl ?_
  refine g_iaddN d13_law_757 ?_
  refine g_sld (i + 1) rfl (by omega) hN d13_law_758 ?_
  refine g_sload_n d13_law_759 rfl ?_
  refine g_iload_n d13_law_760 rfl ?_
  refine g_iconstv (nI 2) d13_law_761 rfl ?_
  refine g_iaddN d13_law_762 ?_
  refine g_sld (i + 2) rfl (by omega) hN d13_law_763 ?_
  refine g_sload_n d13_law_764 rfl ?_
  refine g_iload_n d13_law_765 rfl ?_
  refine g_iconstv (nI 3) d13_law_766 rfl ?_
  refine g_iaddN d13_law_767 ?_
  refine g_sld (i + 3) rfl (by omega) hN d13_law_768 ?_
  refine g_sload_n d13_law_769 rfl ?_
  refine g_iload_n d13_law_770 rfl ?_
  refine g_iconstv (nI 4) d13_law_771 rfl ?_
  refine g_iaddN d13_law_772 ?_
  refine g_sld (i + 4) rfl (by omega) hN d13_law_773 ?_
  refine g_callV_4 vm11_run ml13_92 c_0 (p_run h (K.2.2.2.2.2 (i + 1)) (K.2.2.2.2.2 (i + 2)) (K.2.2.2.2.2 (i + 3)) (K.2.2.2.2.2 (i + 4)) l K) (by omega) (Nat.le_of_ble_eq_true rfl) d13_law_774 (fun r h1 hx => ?_)
  obtain ⟨v, I1, L1, R1, dz, ⟨x, rfl⟩, rfl, rfl, hM⟩ := hx
  refine g_st [.int x] rfl ?_
  refine g_aload_n d13_law_777 rfl ?_
  refine g_sload_n d13_law_778 rfl ?_
  refine g_iload_n d13_law_779 rfl ?_
  refine g_iconstv (nI 1) d13_law_780 rfl ?_
  refine g_iaddN d13_law_781 ?_
  refine g_sld (i + 1) rfl (by omega) hN d13_law_782 ?_
  refine g_sload_n d13_law_783 rfl ?_
  refine g_iload_n d13_law_784 rfl ?_
  refine g_iconstv (nI 2) d13_law_785 rfl ?_
  refine g_iaddN d13_law_786 ?_
  refine g_sld (i + 2) rfl (by omega) hN d13_law_787 ?_
  refine g_sload_n d13_law_788 rfl ?_
  refine g_iload_n d13_law_789 rfl ?_
  refine g_iconstv (nI 3) d13_law_790 rfl ?_
  refine g_iaddN d13_law_791 ?_
  refine g_sld (i + 3) rfl (by omega) hN d13_law_792 ?_
  refine g_sload_n d13_law_793 rfl ?_
  refine g_iload_n d13_law_794 rfl ?_
  refine g_iconstv (nI 4) d13_law_795 rfl ?_
  refine g_iaddN d13_law_796 ?_
  refine g_sld (i + 4) rfl (by omega) hN d13_law_797 ?_
  refine g_callV_4 vm12_run ml13_95 c_74 hM (by omega) (Nat.le_of_ble_eq_true rfl) d13_law_798 (fun r h2 hx => ?_)
  obtain ⟨rfl, I2, L2, R2, rfl, hR⟩ := hx
  refine g_st [.int x, .int x] rfl ?_
  refine g_icmp_eq 1275 d13_law_801 rfl (fun _ => ?_) (fun c => absurd rfl c)
  exact kk I2 L2 R2 dz hR
theorem lw_habits {l : Launch} {K : cK} {d kc ks : Nat} {I : wI} {L : wL} {R : wR} {dy : cH} {Q : Option Value → cH → Prop} (hd : 91 ≤ d) (i : Nat) (hi : i + 6 ≤ K.2.2.2.2.1) (hN : K.2.2.2.2.1 ≤ 3072) (h : REL I L R dy) (kk : ∀ (I2 : wI) (L2 : wL) (R2 : wR) (dz : cH), REL I2 L2 R2 (dy ++ dz) → GL l K m13_law d kc ks 1275 [(0, .retAddr 24), (1, .ref 0), (2, .ref 74), (3, .int (nI i))] [] (hp I2 L2 R2 (dy ++ dz)) Q) : GL l K m13_law d (kc + 7) (ks + 855) 806 [(0, .retAddr 24), (1, .ref 0), (2, .ref 74), (3, .int (nI i))] [] (hp I L R dy) Q := by
  refine g_room (d2 := d) (kc2 := kc) (ks2 := ks) (Nat.le_refl d) (by omega) (by omega) ?_
  refine g_aload_n d13_law_806 rfl ?_
  refine g_sload_n d13_law_807 rfl ?_
  refine g_iload_n d13_law_808 rfl ?_
  refine g_iconstv (nI 1) d13_law_809 rfl ?_
  refine g_iaddN d13_law_810 ?_
  refine g_sld (i + 1) rfl (by omega) hN d13_law_811 ?_
  refine g_sload_n d13_law_812 rfl ?_
  refine g_iload_n d13_law_813 rfl ?_
  refine g_iconstv (nI 2) d13_law_814 rfl ?_
  refine g_iaddN d13_law_815 ?_
  refine g_sld (i + 2) rfl (by omega) hN d13_law_816 ?_
  refine g_callV_2 vm11_habits ml13_96 c_0 (p_habits h (K.2.2.2.2.2 (i + 1)) (K.2.2.2.2.2 (i + 2)) l K) (by omega) (Nat.le_of_ble_eq_true rfl) d13_law_817 (fun r h1 hx => ?_)
  obtain ⟨v, I1, L1, R1, dz, ⟨x, rfl⟩, rfl, rfl, hM⟩ := hx
  refine g_st [.long x] rfl ?_
  refine g_aload_n d13_law_820 rfl ?_
  refine g_sload_n d13_law_821 rfl ?_
  refine g_iload_n d13_law_822 rfl ?_
  refine g_iconstv (nI 1) d13_law_823 rfl ?_
  refine g_iaddN d13_law_824 ?_
  refine g_sld (i + 1) rfl (by omega) hN d13_law_825 ?_
  refine g_sload_n d13_law_826 rfl ?_
  refine g_iload_n d13_law_827 rfl ?_
  refine g_iconstv (nI 2) d13_law_828 rfl ?_
  refine g_iaddN d13_law_829 ?_
  refine g_sld (i + 2) rfl (by omega) hN d13_law_830 ?_
  refine g_callV_2 vm12_habits ml13_99 c_74 hM (by omega) (Nat.le_of_ble_eq_true rfl) d13_law_831 (fun r h2 hx => ?_)
  obtain ⟨rfl, I2, L2, R2, rfl, hR⟩ := hx
  refine g_st [.long x, .long x] rfl ?_
  refine g_lif_eq 1275 d13_law_834 d13_law_835 rfl (fun _ => ?_) (fun c => absurd rfl c)
  exact kk I2 L2 R2 dz hR
theorem lw_advice {l : Launch} {K : cK} {d kc ks : Nat} {I : wI} {L : wL} {R : wR} {dy : cH} {Q : Option Value → cH → Prop} (hd : 91 ≤ d) (i : Nat) (hi : i + 6 ≤ K.2.2.2.2.1) (hN : K.2.2.2.2.1 ≤ 3072) (h : REL I L R dy) (kk : ∀ (I2 : wI) (L2 : wL) (R2 : wR) (dz : cH), REL I2 L2 R2 (dy ++ dz) → GL l K m13_law d kc ks 1275 [(0, .retAddr 24), (1, .ref 0), (2, .ref 74), (3, .int (nI i))] [] (hp I2 L2 R2 (dy ++ dz)) Q) : GL l K m13_law d (kc + 7) (ks + 855) 840 [(0, .retAddr 24), (1, .ref 0), (2, .ref 74), (3, .int (nI i))] [] (hp I L R dy) Q := by
  refine g_room (d2 := d) (kc2 := kc) (ks2 := ks) (Nat.le_refl d) (by omega) (by omega) ?_
  refine g_aload_n d13_law_840 rfl ?_
  refine g_sload_n d13_law_841 rfl ?_
  refine g_iload_n d13_law_842 rfl ?_
  refine g_iconstv (nI 1) d13_law_843 rfl ?_
  refine g_iaddN d13_law_844 ?_
  refine g_sld (i + 1) rfl (by omega) hN d13_law_845 ?_
  refine g_callV_1 vm11_advice ml13_100 c_0 (p_advice h (K.2.2.2.2.2 (i + 1)) l K) (by omega) (Nat.le_of_ble_eq_true rfl) d13_law_846 (fun r h1 hx => ?_)
  obtain ⟨v, I1, L1, R1, dz, ⟨x, rfl⟩, rfl, rfl, hM⟩ := hx
  refine g_st [.int x] rfl ?_
  refine g_aload_n d13_law_849 rfl ?_
  refine g_sload_n d13_law_850 rfl ?_
  refine g_iload_n d13_law_851 rfl ?_
  refine g_iconstv (nI 1) d13_law_852 rfl ?_
  refine g_iaddN d13_law_853 ?_
  refine g_sld (i + 1) rfl (by omega) hN d13_law_854 ?_
  refine g_callV_1 vm12_advice ml13_103 c_74 hM (by omega) (Nat.le_of_ble_eq_true rfl) d13_law_855 (fun r h2 hx => ?_)
  obtain ⟨rfl, I2, L2, R2, rfl, hR⟩ := hx
  refine g_st [.int x, .int x] rfl ?_
  refine g_icmp_eq 1275 d13_law_858 rfl (fun _ => ?_) (fun c => absurd rfl c)
  exact kk I2 L2 R2 dz hR
theorem lw_chalk {l : Launch} {K : cK} {d kc ks : Nat} {I : wI} {L : wL} {R : wR} {dy : cH} {Q : Option Value → cH → Prop} (hd : 91 ≤ d) (i : Nat) (hi : i + 6 ≤ K.2.2.2.2.1) (hN : K.2.2.2.2.1 ≤ 3072) (h : REL I L R dy) (kk : ∀ (I2 : wI) (L2 : wL) (R2 : wR) (dz : cH), REL I2 L2 R2 (dy ++ dz) → GL l K m13_law d kc ks 1275 [(0, .retAddr 24), (1, .ref 0), (2, .ref 74), (3, .int (nI i))] [] (hp I2 L2 R2 (dy ++ dz)) Q) : GL l K m13_law d (kc + 7) (ks + 855) 863 [(0, .retAddr 24), (1, .ref 0), (2, .ref 74), (3, .int (nI i))] [] (hp I L R dy) Q := by
  obtain ⟨kc1, ks1, q1, q2, hp_⟩ := p_chalk h (K.2.2.2.2.2 (i + 1)) (K.2.2.2.2.2 (i + 2)) (K.2.2.2.2.2 (i + 3)) (K.2.2.2.2.2 (i + 4))
  refine g_aload_n d13_law_863 rfl ?_
  refine g_sload_n d13_law_864 rfl ?_
  refine g_iload_n d13_law_865 rfl ?_
  refine g_iconstv (nI 1) d13_law_866 rfl ?_
  refine g_iaddN d13_law_867 ?_
  refine g_sld (i + 1) rfl (by omega) hN d13_law_868 ?_
  refine g_sload_n d13_law_869 rfl ?_
  refine g_iload_n d13_law_870 rfl ?_
  refine g_iconstv (nI 2) d13_law_871 rfl ?_
  refine g_iaddN d13_law_872 ?_
  refine g_sld (i + 2) rfl (by omega) hN d13_law_873 ?_
  refine g_sload_n d13_law_874 rfl ?_
  refine g_iload_n d13_law_875 rfl ?_
  refine g_iconstv (nI 3) d13_law_876 rfl ?_
  refine g_iaddN d13_law_877 ?_
  refine g_sld (i + 3) rfl (by omega) hN d13_law_878 ?_
  refine g_sload_n d13_law_879 rfl ?_
  refine g_iload_n d13_law_880 rfl ?_
  refine g_iconstv (nI 4) d13_law_881 rfl ?_
  refine g_iaddN d13_law_882 ?_
  refine g_sld (i + 4) rfl (by omega) hN d13_law_883 ?_
  refine g_callV_4k (kc1 := kc1) (ks1 := ks1) (kc2 := kc) (ks2 := ks) (by omega) (by omega) vm11_chalk ml13_104 c_0 (hp_ l K) (by omega) (Nat.le_of_ble_eq_true rfl) d13_law_884 (fun r h1 hx => ?_)
  obtain ⟨v, I1, L1, R1, dz, ⟨x, rfl⟩, rfl, rfl, hM⟩ := hx
  refine g_st [.int x] rfl ?_
  refine g_aload_n d13_law_887 rfl ?_
  refine g_sload_n d13_law_888 rfl ?_
  refine g_iload_n d13_law_889 rfl ?_
  refine g_iconstv (nI 1) d13_law_890 rfl ?_
  refine g_iaddN d13_law_891 ?_
  refine g_sld (i + 1) rfl (by omega) hN d13_law_892 ?_
  refine g_sload_n d13_law_893 rfl ?_
  refine g_iload_n d13_law_894 rfl ?_
  refine g_iconstv (nI 2) d13_law_895 rfl ?_
  refine g_iaddN d13_law_896 ?_
  refine g_sld (i + 2) rfl (by omega) hN d13_law_897 ?_
  refine g_sload_n d13_law_898 rfl ?_
  refine g_iload_n d13_law_899 rfl ?_
  refine g_iconstv (nI 3) d13_law_900 rfl ?_
  refine g_iaddN d13_law_901 ?_
  refine g_sld (i + 3) rfl (by omega) hN d13_law_902 ?_
  refine g_sload_n d13_law_903 rfl ?_
  refine g_iload_n d13_law_904 rfl ?_
  refine g_iconstv (nI 4) d13_law_905 rfl ?_
  refine g_iaddN d13_law_906 ?_
  refine g_sld (i + 4) rfl (by omega) hN d13_law_907 ?_
  refine g_callV_4 vm12_chalk ml13_107 c_74 hM (by omega) (Nat.le_of_ble_eq_true rfl) d13_law_908 (fun r h2 hx => ?_)
  obtain ⟨rfl, I2, L2, R2, rfl, hR⟩ := hx
  refine g_st [.int x, .int x] rfl ?_
  refine g_icmp_eq 1275 d13_law_911 rfl (fun _ => ?_) (fun c => absurd rfl c)
  exact kk I2 L2 R2 dz hR
theorem lw_place {l : Launch} {K : cK} {d kc ks : Nat} {I : wI} {L : wL} {R : wR} {dy : cH} {Q : Option Value → cH → Prop} (hd : 91 ≤ d) (i : Nat) (hi : i + 6 ≤ K.2.2.2.2.1) (hN : K.2.2.2.2.1 ≤ 3072) (h : REL I L R dy) (kk : ∀ (I2 : wI) (L2 : wL) (R2 : wR) (dz : cH), REL I2 L2 R2 (dy ++ dz) → GL l K m13_law d kc ks 1275 [(0, .retAddr 24), (1, .ref 0), (2, .ref 74), (3, .int (nI i))] [] (hp I2 L2 R2 (dy ++ dz)) Q) : GL l K m13_law d (kc + 7) (ks + 855) 916 [(0, .retAddr 24), (1, .ref 0), (2, .ref 74), (3, .int (nI i))] [] (hp I L R dy) Q := by
  refine g_room (d2 := d) (kc2 := kc) (ks2 := ks) (Nat.le_refl d) (by omega) (by omega) ?_
  refine g_aload_n d13_law_916 rfl ?_
  refine g_sload_n d13_law_917 rfl ?_
  refine g_iload_n d13_law_918 rfl ?_
  refine g_iconstv (nI 1) d13_law_919 rfl ?_
  refine g_iaddN d13_law_920 ?_
  refine g_sld (i + 1) rfl (by omega) hN d13_law_921 ?_
  refine g_sload_n d13_law_922 rfl ?_
  refine g_iload_n d13_law_923 rfl ?_
  refine g_iconstv (nI 2) d13_law_924 rfl ?_
  refine g_iaddN d13_law_925 ?_
  refine g_sld (i + 2) rfl (by omega) hN d13_law_926 ?_
  refine g_callV_2 vm11_place ml13_108 c_0 (p_place h (K.2.2.2.2.2 (i + 1)) (K.2.2.2.2.2 (i + 2)) l K) (by omega) (Nat.le_of_ble_eq_true rfl) d13_law_927 (fun r h1 hx => ?_)
  obtain ⟨v, I1, L1, R1, dz, ⟨x, rfl⟩, rfl, rfl, hM⟩ := hx
  refine g_st [.int x] rfl ?_
  refine g_aload_n d13_law_930 rfl ?_
  refine g_sload_n d13_law_931 rfl ?_
  refine g_iload_n d13_law_932 rfl ?_
  refine g_iconstv (nI 1) d13_law_933 rfl ?_
  refine g_iaddN d13_law_934 ?_
  refine g_sld (i + 1) rfl (by omega) hN d13_law_935 ?_
  refine g_sload_n d13_law_936 rfl ?_
  refine g_iload_n d13_law_937 rfl ?_
  refine g_iconstv (nI 2) d13_law_938 rfl ?_
  refine g_iaddN d13_law_939 ?_
  refine g_sld (i + 2) rfl (by omega) hN d13_law_940 ?_
  refine g_callV_2 vm12_place ml13_111 c_74 hM (by omega) (Nat.le_of_ble_eq_true rfl) d13_law_941 (fun r h2 hx => ?_)
  obtain ⟨rfl, I2, L2, R2, rfl, hR⟩ := hx
  refine g_st [.int x, .int x] rfl ?_
  refine g_icmp_eq 1275 d13_law_944 rfl (fun _ => ?_) (fun c => absurd rfl c)
  exact kk I2 L2 R2 dz hR
theorem lw_clear {l : Launch} {K : cK} {d kc ks : Nat} {I : wI} {L : wL} {R : wR} {dy : cH} {Q : Option Value → cH → Prop} (hd : 91 ≤ d) (i : Nat) (hi : i + 6 ≤ K.2.2.2.2.1) (hN : K.2.2.2.2.1 ≤ 3072) (h : REL I L R dy) (kk : ∀ (I2 : wI) (L2 : wL) (R2 : wR) (dz : cH), REL I2 L2 R2 (dy ++ dz) → GL l K m13_law d kc ks 1275 [(0, .retAddr 24), (1, .ref 0), (2, .ref 74), (3, .int (nI i))] [] (hp I2 L2 R2 (dy ++ dz)) Q) : GL l K m13_law d (kc + 7) (ks + 855) 949 [(0, .retAddr 24), (1, .ref 0), (2, .ref 74), (3, .int (nI i))] [] (hp I L R dy) Q := by
  refine g_room (d2 := d) (kc2 := kc) (ks2 := ks) (Nat.le_refl d) (by omega) (by omega) ?_
  refine g_aload_n d13_law_949 rfl ?_
  refine g_callV_0 vm11_clear ml13_112 c_0 (p_clear h  l K) (by omega) (Nat.le_of_ble_eq_true rfl) d13_law_950 (fun r h1 hx => ?_)
  obtain ⟨v, I1, L1, R1, dz, ⟨x, rfl⟩, rfl, rfl, hM⟩ := hx
  refine g_st [.int x] rfl ?_
  refine g_aload_n d13_law_953 rfl ?_
  refine g_callV_0 vm12_clear ml13_115 c_74 hM (by omega) (Nat.le_of_ble_eq_true rfl) d13_law_954 (fun r h2 hx => ?_)
  obtain ⟨rfl, I2, L2, R2, rfl, hR⟩ := hx
  refine g_st [.int x, .int x] rfl ?_
  refine g_icmp_eq 1275 d13_law_957 rfl (fun _ => ?_) (fun c => absurd rfl c)
  exact kk I2 L2 R2 dz hR
theorem lw_game {l : Launch} {K : cK} {d kc ks : Nat} {I : wI} {L : wL} {R : wR} {dy : cH} {Q : Option Value → cH → Prop} (hd : 91 ≤ d) (i : Nat) (hi : i + 6 ≤ K.2.2.2.2.1) (hN : K.2.2.2.2.1 ≤ 3072) (h : REL I L R dy) (kk : ∀ (I2 : wI) (L2 : wL) (R2 : wR) (dz : cH), REL I2 L2 R2 (dy ++ dz) → GL l K m13_law d kc ks 1275 [(0, .retAddr 24), (1, .ref 0), (2, .ref 74), (3, .int (nI i))] [] (hp I2 L2 R2 (dy ++ dz)) Q) : GL l K m13_law d (kc + 7) (ks + 855) 962 [(0, .retAddr 24), (1, .ref 0), (2, .ref 74), (3, .int (nI i))] [] (hp I L R dy) Q := by
  refine g_room (d2 := d) (kc2 := kc) (ks2 := ks) (Nat.le_refl d) (by omega) (by omega) ?_
  refine g_aload_n d13_law_962 rfl ?_
  refine g_sload_n d13_law_963 rfl ?_
  refine g_iload_n d13_law_964 rfl ?_
  refine g_iconstv (nI 1) d13_law_965 rfl ?_
  refine g_iaddN d13_law_966 ?_
  refine g_sld (i + 1) rfl (by omega) hN d13_law_967 ?_
  refine g_sload_n d13_law_968 rfl ?_
  refine g_iload_n d13_law_969 rfl ?_
  refine g_iconstv (nI 2) d13_law_970 rfl ?_
  refine g_iaddN d13_law_971 ?_
  refine g_sld (i + 2) rfl (by omega) hN d13_law_972 ?_
  refine g_callV_2 vm11_game ml13_116 c_0 (p_game h (K.2.2.2.2.2 (i + 1)) (K.2.2.2.2.2 (i + 2)) l K) (by omega) (Nat.le_of_ble_eq_true rfl) d13_law_973 (fun r h1 hx => ?_)
  obtain ⟨v, I1, L1, R1, dz, ⟨x, rfl⟩, rfl, rfl, hM⟩ := hx
  refine g_st [.long x] rfl ?_
  refine g_aload_n d13_law_976 rfl ?_
  refine g_sload_n d13_law_977 rfl ?_
  refine g_iload_n d13_law_978 rfl ?_
  refine g_iconstv (nI 1) d13_law_979 rfl ?_
  refine g_iaddN d13_law_980 ?_
  refine g_sld (i + 1) rfl (by omega) hN d13_law_981 ?_
  refine g_sload_n d13_law_982 rfl ?_
  refine g_iload_n d13_law_983 rfl ?_
  refine g_iconstv (nI 2) d13_law_984 rfl ?_
  refine g_iaddN d13_law_985 ?_
  refine g_sld (i + 2) rfl (by omega) hN d13_law_986 ?_
  refine g_callV_2 vm12_game ml13_119 c_74 hM (by omega) (Nat.le_of_ble_eq_true rfl) d13_law_987 (fun r h2 hx => ?_)
  obtain ⟨rfl, I2, L2, R2, rfl, hR⟩ := hx
  refine g_st [.long x, .long x] rfl ?_
  refine g_lif_eq 1275 d13_law_990 d13_law_991 rfl (fun _ => ?_) (fun c => absurd rfl c)
  exact kk I2 L2 R2 dz hR
theorem lw_town {l : Launch} {K : cK} {d kc ks : Nat} {I : wI} {L : wL} {R : wR} {dy : cH} {Q : Option Value → cH → Prop} (hd : 91 ≤ d) (i : Nat) (hi : i + 6 ≤ K.2.2.2.2.1) (hN : K.2.2.2.2.1 ≤ 3072) (h : REL I L R dy) (kk : ∀ (I2 : wI) (L2 : wL) (R2 : wR) (dz : cH), REL I2 L2 R2 (dy ++ dz) → GL l K m13_law d kc ks 1275 [(0, .retAddr 24), (1, .ref 0), (2, .ref 74), (3, .int (nI i))] [] (hp I2 L2 R2 (dy ++ dz)) Q) : GL l K m13_law d (kc + 7) (ks + 855) 996 [(0, .retAddr 24), (1, .ref 0), (2, .ref 74), (3, .int (nI i))] [] (hp I L R dy) Q := by
  refine g_room (d2 := d) (kc2 := kc) (ks2 := ks) (Nat.le_refl d) (by omega) (by omega) ?_
  refine g_aload_n d13_law_996 rfl ?_
  refine g_sload_n d13_law_997 rfl ?_
  refine g_iload_n d13_law_998 rfl ?_
  refine g_iconstv (nI 1) d13_law_999 rfl ?_
  refine g_iaddN d13_law_1000 ?_
  refine g_sld (i + 1) rfl (by omega) hN d13_law_1001 ?_
  refine g_callV_1 vm11_town ml13_120 c_0 (p_town h (K.2.2.2.2.2 (i + 1)) l K) (by omega) (Nat.le_of_ble_eq_true rfl) d13_law_1002 (fun r h1 hx => ?_)
  obtain ⟨v, I1, L1, R1, dz, ⟨x, rfl⟩, rfl, rfl, hM⟩ := hx
  refine g_st [.long x] rfl ?_
  refine g_aload_n d13_law_1005 rfl ?_
  refine g_sload_n d13_law_1006 rfl ?_
  refine g_iload_n d13_law_1007 rfl ?_
  refine g_iconstv (nI 1) d13_law_1008 rfl ?_
  refine g_iaddN d13_law_1009 ?_
  refine g_sld (i + 1) rfl (by omega) hN d13_law_1010 ?_
  refine g_callV_1 vm12_town ml13_124 c_74 hM (by omega) (Nat.le_of_ble_eq_true rfl) d13_law_1011 (fun r h2 hx => ?_)
  obtain ⟨rfl, I2, L2, R2, rfl, hR⟩ := hx
  refine g_st [.long x, .long x] rfl ?_
  refine g_lif_eq 1275 d13_law_1014 d13_law_1015 rfl (fun _ => ?_) (fun c => absurd rfl c)
  exact kk I2 L2 R2 dz hR
theorem lw_slip {l : Launch} {K : cK} {d kc ks : Nat} {I : wI} {L : wL} {R : wR} {dy : cH} {Q : Option Value → cH → Prop} (hd : 91 ≤ d) (i : Nat) (hi : i + 6 ≤ K.2.2.2.2.1) (hN : K.2.2.2.2.1 ≤ 3072) (h : REL I L R dy) (kk : ∀ (I2 : wI) (L2 : wL) (R2 : wR) (dz : cH), REL I2 L2 R2 (dy ++ dz) → GL l K m13_law d kc ks 1275 [(0, .retAddr 24), (1, .ref 0), (2, .ref 74), (3, .int (nI i))] [] (hp I2 L2 R2 (dy ++ dz)) Q) : GL l K m13_law d (kc + 7) (ks + 855) 1020 [(0, .retAddr 24), (1, .ref 0), (2, .ref 74), (3, .int (nI i))] [] (hp I L R dy) Q := by
  refine g_room (d2 := d) (kc2 := kc) (ks2 := ks) (Nat.le_refl d) (by omega) (by omega) ?_
  refine g_aload_n d13_law_1020 rfl ?_
  refine g_sload_n d13_law_1021 rfl ?_
  refine g_iload_n d13_law_1022 rfl ?_
  refine g_iconstv (nI 1) d13_law_1023 rfl ?_
  refine g_iaddN d13_law_1024 ?_
  refine g_sld (i + 1) rfl (by omega) hN d13_law_1025 ?_
  refine g_sload_n d13_law_1026 rfl ?_
  refine g_iload_n d13_law_1027 rfl ?_
  refine g_iconstv (nI 2) d13_law_1028 rfl ?_
  refine g_iaddN d13_law_1029 ?_
  refine g_sld (i + 2) rfl (by omega) hN d13_law_1030 ?_
  refine g_callV_2 vm11_slip ml13_125 c_0 (p_slip h (K.2.2.2.2.2 (i + 1)) (K.2.2.2.2.2 (i + 2)) l K) (by omega) (Nat.le_of_ble_eq_true rfl) d13_law_1031 (fun r h1 hx => ?_)
  obtain ⟨v, I1, L1, R1, dz, ⟨x, rfl⟩, rfl, rfl, hM⟩ := hx
  refine g_st [.int x] rfl ?_
  refine g_aload_n d13_law_1034 rfl ?_
  refine g_sload_n d13_law_1035 rfl ?_
  refine g_iload_n d13_law_1036 rfl ?_
  refine g_iconstv (nI 1) d13_law_1037 rfl ?_
  refine g_iaddN d13_law_1038 ?_
  refine g_sld (i + 1) rfl (by omega) hN d13_law_1039 ?_
  refine g_sload_n d13_law_1040 rfl ?_
  refine g_iload_n d13_law_1041 rfl ?_
  refine g_iconstv (nI 2) d13_law_1042 rfl ?_
  refine g_iaddN d13_law_1043 ?_
  refine g_sld (i + 2) rfl (by omega) hN d13_law_1044 ?_
  refine g_callV_2 vm12_slip ml13_128 c_74 hM (by omega) (Nat.le_of_ble_eq_true rfl) d13_law_1045 (fun r h2 hx => ?_)
  obtain ⟨rfl, I2, L2, R2, rfl, hR⟩ := hx
  refine g_st [.int x, .int x] rfl ?_
  refine g_icmp_eq 1275 d13_law_1048 rfl (fun _ => ?_) (fun c => absurd rfl c)
  exact kk I2 L2 R2 dz hR
theorem lw_undo {l : Launch} {K : cK} {d kc ks : Nat} {I : wI} {L : wL} {R : wR} {dy : cH} {Q : Option Value → cH → Prop} (hd : 91 ≤ d) (i : Nat) (hi : i + 6 ≤ K.2.2.2.2.1) (hN : K.2.2.2.2.1 ≤ 3072) (h : REL I L R dy) (kk : ∀ (I2 : wI) (L2 : wL) (R2 : wR) (dz : cH), REL I2 L2 R2 (dy ++ dz) → GL l K m13_law d kc ks 1275 [(0, .retAddr 24), (1, .ref 0), (2, .ref 74), (3, .int (nI i))] [] (hp I2 L2 R2 (dy ++ dz)) Q) : GL l K m13_law d (kc + 7) (ks + 855) 1053 [(0, .retAddr 24), (1, .ref 0), (2, .ref 74), (3, .int (nI i))] [] (hp I L R dy) Q := by
  refine g_room (d2 := d) (kc2 := kc) (ks2 := ks) (Nat.le_refl d) (by omega) (by omega) ?_
  refine g_aload_n d13_law_1053 rfl ?_
  refine g_callV_0 vm11_undo ml13_129 c_0 (p_undo h  l K) (by omega) (Nat.le_of_ble_eq_true rfl) d13_law_1054 (fun r h1 hx => ?_)
  obtain ⟨v, I1, L1, R1, dz, ⟨x, rfl⟩, rfl, rfl, hM⟩ := hx
  refine g_st [.int x] rfl ?_
  refine g_aload_n d13_law_1057 rfl ?_
  refine g_callV_0 vm12_undo ml13_132 c_74 hM (by omega) (Nat.le_of_ble_eq_true rfl) d13_law_1058 (fun r h2 hx => ?_)
  obtain ⟨rfl, I2, L2, R2, rfl, hR⟩ := hx
  refine g_st [.int x, .int x] rfl ?_
  refine g_icmp_eq 1275 d13_law_1061 rfl (fun _ => ?_) (fun c => absurd rfl c)
  exact kk I2 L2 R2 dz hR
theorem lw_fits {l : Launch} {K : cK} {d kc ks : Nat} {I : wI} {L : wL} {R : wR} {dy : cH} {Q : Option Value → cH → Prop} (hd : 91 ≤ d) (i : Nat) (hi : i + 6 ≤ K.2.2.2.2.1) (hN : K.2.2.2.2.1 ≤ 3072) (h : REL I L R dy) (kk : ∀ (I2 : wI) (L2 : wL) (R2 : wR) (dz : cH), REL I2 L2 R2 (dy ++ dz) → GL l K m13_law d kc ks 1275 [(0, .retAddr 24), (1, .ref 0), (2, .ref 74), (3, .int (nI i))] [] (hp I2 L2 R2 (dy ++ dz)) Q) : GL l K m13_law d (kc + 7) (ks + 855) 1066 [(0, .retAddr 24), (1, .ref 0), (2, .ref 74), (3, .int (nI i))] [] (hp I L R dy) Q := by
  refine g_room (d2 := d) (kc2 := kc) (ks2 := ks) (Nat.le_refl d) (by omega) (by omega) ?_
  refine g_aload_n d13_law_1066 rfl ?_
  refine g_sload_n d13_law_1067 rfl ?_
  refine g_iload_n d13_law_1068 rfl ?_
  refine g_iconstv (nI 1) d13_law_1069 rfl ?_
  refine g_iaddN d13_law_1070 ?_
  refine g_sld (i + 1) rfl (by omega) hN d13_law_1071 ?_
  refine g_callV_1 vm11_fits ml13_133 c_0 (p_fits h (K.2.2.2.2.2 (i + 1)) l K) (by omega) (Nat.le_of_ble_eq_true rfl) d13_law_1072 (fun r h1 hx => ?_)
  obtain ⟨v, I1, L1, R1, dz, ⟨x, rfl⟩, rfl, rfl, hM⟩ := hx
  refine g_st [.long x] rfl ?_
  refine g_aload_n d13_law_1075 rfl ?_
  refine g_sload_n d13_law_1076 rfl ?_
  refine g_iload_n d13_law_1077 rfl ?_
  refine g_iconstv (nI 1) d13_law_1078 rfl ?_
  refine g_iaddN d13_law_1079 ?_
  refine g_sld (i + 1) rfl (by omega) hN d13_law_1080 ?_
  refine g_callV_1 vm12_fits ml13_136 c_74 hM (by omega) (Nat.le_of_ble_eq_true rfl) d13_law_1081 (fun r h2 hx => ?_)
  obtain ⟨rfl, I2, L2, R2, rfl, hR⟩ := hx
  refine g_st [.long x, .long x] rfl ?_
  refine g_lif_eq 1275 d13_law_1084 d13_law_1085 rfl (fun _ => ?_) (fun c => absurd rfl c)
  exact kk I2 L2 R2 dz hR
theorem lw_which {l : Launch} {K : cK} {d kc ks : Nat} {I : wI} {L : wL} {R : wR} {dy : cH} {Q : Option Value → cH → Prop} (hd : 91 ≤ d) (i : Nat) (hi : i + 6 ≤ K.2.2.2.2.1) (hN : K.2.2.2.2.1 ≤ 3072) (h : REL I L R dy) (kk : ∀ (I2 : wI) (L2 : wL) (R2 : wR) (dz : cH), REL I2 L2 R2 (dy ++ dz) → GL l K m13_law d kc ks 1275 [(0, .retAddr 24), (1, .ref 0), (2, .ref 74), (3, .int (nI i))] [] (hp I2 L2 R2 (dy ++ dz)) Q) : GL l K m13_law d (kc + 7) (ks + 855) 1090 [(0, .retAddr 24), (1, .ref 0), (2, .ref 74), (3, .int (nI i))] [] (hp I L R dy) Q := by
  refine g_room (d2 := d) (kc2 := kc) (ks2 := ks) (Nat.le_refl d) (by omega) (by omega) ?_
  refine g_aload_n d13_law_1090 rfl ?_
  refine g_callV_0 vm11_which ml13_137 c_0 (p_which h  l K) (by omega) (Nat.le_of_ble_eq_true rfl) d13_law_1091 (fun r h1 hx => ?_)
  obtain ⟨v, I1, L1, R1, dz, ⟨x, rfl⟩, rfl, rfl, hM⟩ := hx
  refine g_st [.int x] rfl ?_
  refine g_aload_n d13_law_1094 rfl ?_
  refine g_callV_0 vm12_which ml13_140 c_74 hM (by omega) (Nat.le_of_ble_eq_true rfl) d13_law_1095 (fun r h2 hx => ?_)
  obtain ⟨rfl, I2, L2, R2, rfl, hR⟩ := hx
  refine g_st [.int x, .int x] rfl ?_
  refine g_icmp_eq 1275 d13_law_1098 rfl (fun _ => ?_) (fun c => absurd rfl c)
  exact kk I2 L2 R2 dz hR
theorem lw_went {l : Launch} {K : cK} {d kc ks : Nat} {I : wI} {L : wL} {R : wR} {dy : cH} {Q : Option Value → cH → Prop} (hd : 91 ≤ d) (i : Nat) (hi : i + 6 ≤ K.2.2.2.2.1) (hN : K.2.2.2.2.1 ≤ 3072) (h : REL I L R dy) (kk : ∀ (I2 : wI) (L2 : wL) (R2 : wR) (dz : cH), REL I2 L2 R2 (dy ++ dz) → GL l K m13_law d kc ks 1275 [(0, .retAddr 24), (1, .ref 0), (2, .ref 74), (3, .int (nI i))] [] (hp I2 L2 R2 (dy ++ dz)) Q) : GL l K m13_law d (kc + 7) (ks + 855) 1103 [(0, .retAddr 24), (1, .ref 0), (2, .ref 74), (3, .int (nI i))] [] (hp I L R dy) Q := by
  refine g_room (d2 := d) (kc2 := kc) (ks2 := ks) (Nat.le_refl d) (by omega) (by omega) ?_
  refine g_aload_n d13_law_1103 rfl ?_
  refine g_sload_n d13_law_1104 rfl ?_
  refine g_iload_n d13_law_1105 rfl ?_
  refine g_iconstv (nI 1) d13_law_1106 rfl ?_
  refine g_iaddN d13_law_1107 ?_
  refine g_sld (i + 1) rfl (by omega) hN d13_law_1108 ?_
  refine g_callV_1 vm11_went ml13_141 c_0 (p_went h (K.2.2.2.2.2 (i + 1)) l K) (by omega) (Nat.le_of_ble_eq_true rfl) d13_law_1109 (fun r h1 hx => ?_)
  obtain ⟨v, I1, L1, R1, dz, ⟨x, rfl⟩, rfl, rfl, hM⟩ := hx
  refine g_st [.long x] rfl ?_
  refine g_aload_n d13_law_1112 rfl ?_
  refine g_sload_n d13_law_1113 rfl ?_
  refine g_iload_n d13_law_1114 rfl ?_
  refine g_iconstv (nI 1) d13_law_1115 rfl ?_
  refine g_iaddN d13_law_1116 ?_
  refine g_sld (i + 1) rfl (by omega) hN d13_law_1117 ?_
  refine g_callV_1 vm12_went ml13_144 c_74 hM (by omega) (Nat.le_of_ble_eq_true rfl) d13_law_1118 (fun r h2 hx => ?_)
  obtain ⟨rfl, I2, L2, R2, rfl, hR⟩ := hx
  refine g_st [.long x, .long x] rfl ?_
  refine g_lif_eq 1275 d13_law_1121 d13_law_1122 rfl (fun _ => ?_) (fun c => absurd rfl c)
  exact kk I2 L2 R2 dz hR
theorem lw_day {l : Launch} {K : cK} {d kc ks : Nat} {I : wI} {L : wL} {R : wR} {dy : cH} {Q : Option Value → cH → Prop} (hd : 91 ≤ d) (i : Nat) (hi : i + 6 ≤ K.2.2.2.2.1) (hN : K.2.2.2.2.1 ≤ 3072) (h : REL I L R dy) (kk : ∀ (I2 : wI) (L2 : wL) (R2 : wR) (dz : cH), REL I2 L2 R2 (dy ++ dz) → GL l K m13_law d kc ks 1275 [(0, .retAddr 24), (1, .ref 0), (2, .ref 74), (3, .int (nI i))] [] (hp I2 L2 R2 (dy ++ dz)) Q) : GL l K m13_law d (kc + 7) (ks + 855) 1127 [(0, .retAddr 24), (1, .ref 0), (2, .ref 74), (3, .int (nI i))] [] (hp I L R dy) Q := by
  refine g_room (d2 := d) (kc2 := kc) (ks2 := ks) (Nat.le_refl d) (by omega) (by omega) ?_
  refine g_aload_n d13_law_1127 rfl ?_
  refine g_sload_n d13_law_1128 rfl ?_
  refine g_iload_n d13_law_1129 rfl ?_
  refine g_iconstv (nI 1) d13_law_1130 rfl ?_
  refine g_iaddN d13_law_1131 ?_
  refine g_sld (i + 1) rfl (by omega) hN d13_law_1132 ?_
  refine g_sload_n d13_law_1133 rfl ?_
  refine g_iload_n d13_law_1134 rfl ?_
  refine g_iconstv (nI 2) d13_law_1135 rfl ?_
  refine g_iaddN d13_law_1136 ?_
  refine g_sld (i + 2) rfl (by omega) hN d13_law_1137 ?_
  refine g_callV_2 vm11_day ml13_145 c_0 (p_day h (K.2.2.2.2.2 (i + 1)) (K.2.2.2.2.2 (i + 2)) l K) (by omega) (Nat.le_of_ble_eq_true rfl) d13_law_1138 (fun r h1 hx => ?_)
  obtain ⟨v, I1, L1, R1, dz, ⟨x, rfl⟩, rfl, rfl, hM⟩ := hx
  refine g_st [.int x] rfl ?_
  refine g_aload_n d13_law_1141 rfl ?_
  refine g_sload_n d13_law_1142 rfl ?_
  refine g_iload_n d13_law_1143 rfl ?_
  refine g_iconstv (nI 1) d13_law_1144 rfl ?_
  refine g_iaddN d13_law_1145 ?_
  refine g_sld (i + 1) rfl (by omega) hN d13_law_1146 ?_
  refine g_sload_n d13_law_1147 rfl ?_
  refine g_iload_n d13_law_1148 rfl ?_
  refine g_iconstv (nI 2) d13_law_1149 rfl ?_
  refine g_iaddN d13_law_1150 ?_
  refine g_sld (i + 2) rfl (by omega) hN d13_law_1151 ?_
  refine g_callV_2 vm12_day ml13_148 c_74 hM (by omega) (Nat.le_of_ble_eq_true rfl) d13_law_1152 (fun r h2 hx => ?_)
  obtain ⟨rfl, I2, L2, R2, rfl, hR⟩ := hx
  refine g_st [.int x, .int x] rfl ?_
  refine g_icmp_eq 1275 d13_law_1155 rfl (fun _ => ?_) (fun c => absurd rfl c)
  exact kk I2 L2 R2 dz hR
theorem lw_drawn {l : Launch} {K : cK} {d kc ks : Nat} {I : wI} {L : wL} {R : wR} {dy : cH} {Q : Option Value → cH → Prop} (hd : 91 ≤ d) (i : Nat) (hi : i + 6 ≤ K.2.2.2.2.1) (hN : K.2.2.2.2.1 ≤ 3072) (h : REL I L R dy) (kk : ∀ (I2 : wI) (L2 : wL) (R2 : wR) (dz : cH), REL I2 L2 R2 (dy ++ dz) → GL l K m13_law d kc ks 1275 [(0, .retAddr 24), (1, .ref 0), (2, .ref 74), (3, .int (nI i))] [] (hp I2 L2 R2 (dy ++ dz)) Q) : GL l K m13_law d (kc + 7) (ks + 855) 1160 [(0, .retAddr 24), (1, .ref 0), (2, .ref 74), (3, .int (nI i))] [] (hp I L R dy) Q := by
  refine g_room (d2 := d) (kc2 := kc) (ks2 := ks) (Nat.le_refl d) (by omega) (by omega) ?_
  refine g_aload_n d13_law_1160 rfl ?_
  refine g_sload_n d13_law_1161 rfl ?_
  refine g_iload_n d13_law_1162 rfl ?_
  refine g_iconstv (nI 1) d13_law_1163 rfl ?_
  refine g_iaddN d13_law_1164 ?_
  refine g_sld (i + 1) rfl (by omega) hN d13_law_1165 ?_
  refine g_sload_n d13_law_1166 rfl ?_
  refine g_iload_n d13_law_1167 rfl ?_
  refine g_iconstv (nI 2) d13_law_1168 rfl ?_
  refine g_iaddN d13_law_1169 ?_
  refine g_sld (i + 2) rfl (by omega) hN d13_law_1170 ?_
  refine g_callV_2 vm11_drawn ml13_149 c_0 (p_drawn h (K.2.2.2.2.2 (i + 1)) (K.2.2.2.2.2 (i + 2)) l K) (by omega) (Nat.le_of_ble_eq_true rfl) d13_law_1171 (fun r h1 hx => ?_)
  obtain ⟨v, I1, L1, R1, dz, ⟨x, rfl⟩, rfl, rfl, hM⟩ := hx
  refine g_st [.int x] rfl ?_
  refine g_aload_n d13_law_1174 rfl ?_
  refine g_sload_n d13_law_1175 rfl ?_
  refine g_iload_n d13_law_1176 rfl ?_
  refine g_iconstv (nI 1) d13_law_1177 rfl ?_
  refine g_iaddN d13_law_1178 ?_
  refine g_sld (i + 1) rfl (by omega) hN d13_law_1179 ?_
  refine g_sload_n d13_law_1180 rfl ?_
  refine g_iload_n d13_law_1181 rfl ?_
  refine g_iconstv (nI 2) d13_law_1182 rfl ?_
  refine g_iaddN d13_law_1183 ?_
  refine g_sld (i + 2) rfl (by omega) hN d13_law_1184 ?_
  refine g_callV_2 vm12_drawn ml13_152 c_74 hM (by omega) (Nat.le_of_ble_eq_true rfl) d13_law_1185 (fun r h2 hx => ?_)
  obtain ⟨rfl, I2, L2, R2, rfl, hR⟩ := hx
  refine g_st [.int x, .int x] rfl ?_
  refine g_icmp_eq 1275 d13_law_1188 rfl (fun _ => ?_) (fun c => absurd rfl c)
  exact kk I2 L2 R2 dz hR
theorem lw_image {l : Launch} {K : cK} {d kc ks : Nat} {I : wI} {L : wL} {R : wR} {dy : cH} {Q : Option Value → cH → Prop} (hd : 91 ≤ d) (i : Nat) (hi : i + 6 ≤ K.2.2.2.2.1) (hN : K.2.2.2.2.1 ≤ 3072) (h : REL I L R dy) (kk : ∀ (I2 : wI) (L2 : wL) (R2 : wR) (dz : cH), REL I2 L2 R2 (dy ++ dz) → GL l K m13_law d kc ks 1275 [(0, .retAddr 24), (1, .ref 0), (2, .ref 74), (3, .int (nI i))] [] (hp I2 L2 R2 (dy ++ dz)) Q) : GL l K m13_law d (kc + 7) (ks + 855) 1193 [(0, .retAddr 24), (1, .ref 0), (2, .ref 74), (3, .int (nI i))] [] (hp I L R dy) Q := by
  refine g_room (d2 := d) (kc2 := kc) (ks2 := ks) (Nat.le_refl d) (by omega) (by omega) ?_
  refine g_aload_n d13_law_1193 rfl ?_
  refine g_sload_n d13_law_1194 rfl ?_
  refine g_iload_n d13_law_1195 rfl ?_
  refine g_iconstv (nI 1) d13_law_1196 rfl ?_
  refine g_iaddN d13_law_1197 ?_
  refine g_sld (i + 1) rfl (by omega) hN d13_law_1198 ?_
  refine g_callV_1 vm11_image ml13_153 c_0 (p_image h (K.2.2.2.2.2 (i + 1)) l K) (by omega) (Nat.le_of_ble_eq_true rfl) d13_law_1199 (fun r h1 hx => ?_)
  obtain ⟨v, I1, L1, R1, dz, ⟨x, rfl⟩, rfl, rfl, hM⟩ := hx
  refine g_st [.int x] rfl ?_
  refine g_aload_n d13_law_1202 rfl ?_
  refine g_sload_n d13_law_1203 rfl ?_
  refine g_iload_n d13_law_1204 rfl ?_
  refine g_iconstv (nI 1) d13_law_1205 rfl ?_
  refine g_iaddN d13_law_1206 ?_
  refine g_sld (i + 1) rfl (by omega) hN d13_law_1207 ?_
  refine g_callV_1 vm12_image ml13_156 c_74 hM (by omega) (Nat.le_of_ble_eq_true rfl) d13_law_1208 (fun r h2 hx => ?_)
  obtain ⟨rfl, I2, L2, R2, rfl, hR⟩ := hx
  refine g_st [.int x, .int x] rfl ?_
  refine g_icmp_eq 1275 d13_law_1211 rfl (fun _ => ?_) (fun c => absurd rfl c)
  exact kk I2 L2 R2 dz hR
theorem lw_back {l : Launch} {K : cK} {d kc ks : Nat} {I : wI} {L : wL} {R : wR} {dy : cH} {Q : Option Value → cH → Prop} (hd : 91 ≤ d) (i : Nat) (hi : i + 6 ≤ K.2.2.2.2.1) (hN : K.2.2.2.2.1 ≤ 3072) (h : REL I L R dy) (kk : ∀ (I2 : wI) (L2 : wL) (R2 : wR) (dz : cH), REL I2 L2 R2 (dy ++ dz) → GL l K m13_law d kc ks 1275 [(0, .retAddr 24), (1, .ref 0), (2, .ref 74), (3, .int (nI i))] [] (hp I2 L2 R2 (dy ++ dz)) Q) : GL l K m13_law d (kc + 7) (ks + 855) 1216 [(0, .retAddr 24), (1, .ref 0), (2, .ref 74), (3, .int (nI i))] [] (hp I L R dy) Q := by
  refine g_room (d2 := d) (kc2 := kc) (ks2 := ks) (Nat.le_refl d) (by omega) (by omega) ?_
  refine g_aload_n d13_law_1216 rfl ?_
  refine g_sload_n d13_law_1217 rfl ?_
  refine g_iload_n d13_law_1218 rfl ?_
  refine g_iconstv (nI 1) d13_law_1219 rfl ?_
  refine g_iaddN d13_law_1220 ?_
  refine g_sld (i + 1) rfl (by omega) hN d13_law_1221 ?_
  refine g_callV_1 vm11_back ml13_157 c_0 (p_back h (K.2.2.2.2.2 (i + 1)) l K) (by omega) (Nat.le_of_ble_eq_true rfl) d13_law_1222 (fun r h1 hx => ?_)
  obtain ⟨v, I1, L1, R1, dz, ⟨x, rfl⟩, rfl, rfl, hM⟩ := hx
  refine g_st [.int x] rfl ?_
  refine g_aload_n d13_law_1225 rfl ?_
  refine g_sload_n d13_law_1226 rfl ?_
  refine g_iload_n d13_law_1227 rfl ?_
  refine g_iconstv (nI 1) d13_law_1228 rfl ?_
  refine g_iaddN d13_law_1229 ?_
  refine g_sld (i + 1) rfl (by omega) hN d13_law_1230 ?_
  refine g_callV_1 vm12_back ml13_160 c_74 hM (by omega) (Nat.le_of_ble_eq_true rfl) d13_law_1231 (fun r h2 hx => ?_)
  obtain ⟨rfl, I2, L2, R2, rfl, hR⟩ := hx
  refine g_st [.int x, .int x] rfl ?_
  refine g_icmp_eq 1275 d13_law_1234 rfl (fun _ => ?_) (fun c => absurd rfl c)
  exact kk I2 L2 R2 dz hR
theorem lw_count {l : Launch} {K : cK} {d kc ks : Nat} {I : wI} {L : wL} {R : wR} {dy : cH} {Q : Option Value → cH → Prop} (hd : 91 ≤ d) (i : Nat) (hi : i + 6 ≤ K.2.2.2.2.1) (hN : K.2.2.2.2.1 ≤ 3072) (h : REL I L R dy) (kk : ∀ (I2 : wI) (L2 : wL) (R2 : wR) (dz : cH), REL I2 L2 R2 (dy ++ dz) → GL l K m13_law d kc ks 1275 [(0, .retAddr 24), (1, .ref 0), (2, .ref 74), (3, .int (nI i))] [] (hp I2 L2 R2 (dy ++ dz)) Q) : GL l K m13_law d (kc + 7) (ks + 855) 1239 [(0, .retAddr 24), (1, .ref 0), (2, .ref 74), (3, .int (nI i))] [] (hp I L R dy) Q := by
  refine g_room (d2 := d) (kc2 := kc) (ks2 := ks) (Nat.le_refl d) (by omega) (by omega) ?_
  refine g_aload_n d13_law_1239 rfl ?_
  refine g_sload_n d13_law_1240 rfl ?_
  refine g_iload_n d13_law_1241 rfl ?_
  refine g_iconstv (nI 1) d13_law_1242 rfl ?_
  refine g_iaddN d13_law_1243 ?_
  refine g_sld (i + 1) rfl (by omega) hN d13_law_1244 ?_
  refine g_callV_1 vm11_count ml13_161 c_0 (p_count h (K.2.2.2.2.2 (i + 1)) l K) (by omega) (Nat.le_of_ble_eq_true rfl) d13_law_1245 (fun r h1 hx => ?_)
  obtain ⟨v, I1, L1, R1, dz, ⟨x, rfl⟩, rfl, rfl, hM⟩ := hx
  refine g_st [.int x] rfl ?_
  refine g_aload_n d13_law_1248 rfl ?_
  refine g_sload_n d13_law_1249 rfl ?_
  refine g_iload_n d13_law_1250 rfl ?_
  refine g_iconstv (nI 1) d13_law_1251 rfl ?_
  refine g_iaddN d13_law_1252 ?_
  refine g_sld (i + 1) rfl (by omega) hN d13_law_1253 ?_
  refine g_callV_1 vm12_count ml13_164 c_74 hM (by omega) (Nat.le_of_ble_eq_true rfl) d13_law_1254 (fun r h2 hx => ?_)
  obtain ⟨rfl, I2, L2, R2, rfl, hR⟩ := hx
  refine g_st [.int x, .int x] rfl ?_
  refine g_icmp_eq 1275 d13_law_1257 rfl (fun _ => ?_) (fun c => absurd rfl c)
  exact kk I2 L2 R2 dz hR
theorem lw_status {l : Launch} {K : cK} {d kc ks : Nat} {I : wI} {L : wL} {R : wR} {dy : cH} {Q : Option Value → cH → Prop} (hd : 91 ≤ d) (i : Nat) (hi : i + 6 ≤ K.2.2.2.2.1) (hN : K.2.2.2.2.1 ≤ 3072) (h : REL I L R dy) (kk : ∀ (I2 : wI) (L2 : wL) (R2 : wR) (dz : cH), REL I2 L2 R2 (dy ++ dz) → GL l K m13_law d kc ks 1275 [(0, .retAddr 24), (1, .ref 0), (2, .ref 74), (3, .int (nI i))] [] (hp I2 L2 R2 (dy ++ dz)) Q) : GL l K m13_law d (kc + 7) (ks + 855) 1262 [(0, .retAddr 24), (1, .ref 0), (2, .ref 74), (3, .int (nI i))] [] (hp I L R dy) Q := by
  refine g_room (d2 := d) (kc2 := kc) (ks2 := ks) (Nat.le_refl d) (by omega) (by omega) ?_
  refine g_aload_n d13_law_1262 rfl ?_
  refine g_callV_0 vm11_status ml13_165 c_0 (p_status h  l K) (by omega) (Nat.le_of_ble_eq_true rfl) d13_law_1263 (fun r h1 hx => ?_)
  obtain ⟨v, I1, L1, R1, dz, ⟨x, rfl⟩, rfl, rfl, hM⟩ := hx
  refine g_st [.int x] rfl ?_
  refine g_aload_n d13_law_1266 rfl ?_
  refine g_callV_0 vm12_status ml13_168 c_74 hM (by omega) (Nat.le_of_ble_eq_true rfl) d13_law_1267 (fun r h2 hx => ?_)
  obtain ⟨rfl, I2, L2, R2, rfl, hR⟩ := hx
  refine g_st [.int x, .int x] rfl ?_
  refine g_icmp_eq 1275 d13_law_1270 rfl (fun _ => ?_) (fun c => absurd rfl c)
  exact kk I2 L2 R2 dz hR
theorem law_end {l : Launch} {K : cK} {d kc ks : Nat} {h : cH} {Q : Option Value → cH → Prop} (hN : K.2.2.2.2.1 ≤ 3072) (hQ : ∀ h, Q (some (.int 1)) h) (i : Nat) (hi : i ≤ K.2.2.2.2.1) (h6 : ¬ i + 6 ≤ K.2.2.2.2.1) : GL l K m13_law d kc ks 18 [(0, .retAddr 24), (1, .ref 0), (2, .ref 74), (3, .int (nI i))] [] h Q := by
  refine g_iload_n d13_law_18 rfl ?_
  refine g_sload_n d13_law_19 rfl ?_
  refine g_slen d13_law_20 ?_
  refine g_bipushv (nI 6) d13_law_21 rfl ?_
  refine g_isub d13_law_23 ?_
  refine g_ic_gt (i : Int) ((K.2.2.2.2.1 : Int) - 6) 1281 (nI_ti (by omega)) (pk_sub_toInt (by omega) (by decide)) d13_law_24 rfl (fun _ => ?_) (fun c => absurd c (by omega))
  refine g_iconstv (nI 1) d13_law_1281 rfl ?_
  exact g_zret rfl (by decide) d13_law_1282 (hQ _)
theorem law_next {l : Launch} {K : cK} {d kc ks : Nat} {h : cH} {Q : Option Value → cH → Prop} (i : Nat) (k : GL l K m13_law d kc ks 18 [(0, .retAddr 24), (1, .ref 0), (2, .ref 74), (3, .int (nI (i + 6)))] [] h Q) : GL l K m13_law d kc ks 1275 [(0, .retAddr 24), (1, .ref 0), (2, .ref 74), (3, .int (nI i))] [] h Q := by
  refine g_iinc (nI (i + 6)) d13_law_1275 rfl (nI_add i 6) (by decide) ?_
  refine g_goto 18 d13_law_1278 rfl ?_
  refine g_lo [(0, .retAddr 24), (1, .ref 0), (2, .ref 74), (3, .int (nI (i + 6)))] ⟨rfl, rfl, rfl, rfl, trivial⟩ ?_
  exact k
set_option maxHeartbeats 2000000 in
theorem law_loop {l : Launch} {K : cK} {d : Nat} {Q : Option Value → cH → Prop} (hd : 91 ≤ d) (hN : K.2.2.2.2.1 ≤ 3072) (hQ : ∀ h, Q (some (.int 1)) h) : ∀ (m i : Nat) (I : wI) (L : wL) (R : wR) (dy : cH), i ≤ K.2.2.2.2.1 → K.2.2.2.2.1 < i + 6 * (m + 1) → REL I L R dy → GL l K m13_law d (7 * m) (855 * m) 18 [(0, .retAddr 24), (1, .ref 0), (2, .ref 74), (3, .int (nI i))] [] (hp I L R dy) Q := by
  intro m
  induction m with
  | zero =>
    intro i I L R dy hi hm h
    exact law_end hN hQ i hi (by omega)
  | succ m ih =>
    intro i I L R dy hi hm h
    by_cases h6 : i + 6 ≤ K.2.2.2.2.1
    · refine g_iload_n d13_law_18 rfl ?_
      refine g_sload_n d13_law_19 rfl ?_
      refine g_slen d13_law_20 ?_
      refine g_bipushv (nI 6) d13_law_21 rfl ?_
      refine g_isub d13_law_23 ?_
      refine g_ic_gt (i : Int) ((K.2.2.2.2.1 : Int) - 6) 1281 (nI_ti (by omega)) (pk_sub_toInt (by omega) (by decide)) d13_law_24 rfl (fun c => absurd c (by omega)) (fun _ => ?_)
      refine g_sload_n d13_law_27 rfl ?_
      refine g_iload_n d13_law_28 rfl ?_
      refine g_sld i rfl (by omega) hN d13_law_29 ?_
      refine g_bipushv (nI 63) d13_law_30 rfl ?_
      refine g_iand d13_law_32 ?_
      obtain ⟨k, hk, ek⟩ := pk_andE (K.2.2.2.2.2 i) (m := nI 63) 6 (by decide)
      refine g_topI (nI k) ek ?_
      have hnx : ∀ (I2 : wI) (L2 : wL) (R2 : wR) (dz : cH), REL I2 L2 R2 (dy ++ dz) → GL l K m13_law d (7 * m) (855 * m) 1275 [(0, .retAddr 24), (1, .ref 0), (2, .ref 74), (3, .int (nI i))] [] (hp I2 L2 R2 (dy ++ dz)) Q := fun I2 L2 R2 dz hR => law_next i (ih (i + 6) I2 L2 R2 (dy ++ dz) (by omega) (by omega) hR)
      have hk64 : k < 64 := hk
      have hcs : k = 0 ∨ k = 1 ∨ k = 2 ∨ k = 3 ∨ k = 4 ∨ k = 5 ∨ k = 6 ∨ k = 7 ∨ k = 8 ∨ k = 9 ∨ k = 10 ∨ k = 11 ∨ k = 12 ∨ k = 13 ∨ k = 14 ∨ k = 15 ∨ k = 16 ∨ k = 17 ∨ k = 18 ∨ k = 19 ∨ k = 20 ∨ k = 21 ∨ k = 22 ∨ k = 23 ∨ k = 24 ∨ k = 25 ∨ k = 26 ∨ k = 27 ∨ k = 28 ∨ k = 29 ∨ k = 30 ∨ k = 31 ∨ k = 32 ∨ k = 33 ∨ k = 34 ∨ k = 35 ∨ k = 36 ∨ 37 ≤ k := by omega
      rcases hcs with rfl | rfl | rfl | rfl | rfl | rfl | rfl | rfl | rfl | rfl | rfl | rfl | rfl | rfl | rfl | rfl | rfl | rfl | rfl | rfl | rfl | rfl | rfl | rfl | rfl | rfl | rfl | rfl | rfl | rfl | rfl | rfl | rfl | rfl | rfl | rfl | rfl | h37
      · refine g_tabIn 196 d13_law_33 (by decide) (by decide) rfl rfl ?_
        exact lw_car hd i h6 hN h hnx
      · refine g_tabIn 249 d13_law_33 (by decide) (by decide) rfl rfl ?_
        exact lw_put hd i h6 hN h hnx
      · refine g_tabIn 292 d13_law_33 (by decide) (by decide) rfl rfl ?_
        exact lw_fact hd i h6 hN h hnx
      · refine g_tabIn 325 d13_law_33 (by decide) (by decide) rfl rfl ?_
        exact lw_terms hd i h6 hN h hnx
      · refine g_tabIn 358 d13_law_33 (by decide) (by decide) rfl rfl ?_
        exact lw_feed hd i h6 hN h hnx
      · refine g_tabIn 421 d13_law_33 (by decide) (by decide) rfl rfl ?_
        exact lw_end hd i h6 hN h hnx
      · refine g_tabIn 444 d13_law_33 (by decide) (by decide) rfl rfl ?_
        exact lw_row hd i h6 hN h hnx
      · refine g_tabIn 457 d13_law_33 (by decide) (by decide) rfl rfl ?_
        exact lw_tar hd i h6 hN h hnx
      · refine g_tabIn 470 d13_law_33 (by decide) (by decide) rfl rfl ?_
        exact lw_law hd i h6 hN h hnx
      · refine g_tabIn 483 d13_law_33 (by decide) (by decide) rfl rfl ?_
        exact lw_habit hd i h6 hN h hnx
      · refine g_tabIn 496 d13_law_33 (by decide) (by decide) rfl rfl ?_
        exact lw_fault hd i h6 hN h hnx
      · refine g_tabIn 509 d13_law_33 (by decide) (by decide) rfl rfl ?_
        exact lw_force hd i h6 hN h hnx
      · refine g_tabIn 532 d13_law_33 (by decide) (by decide) rfl rfl ?_
        exact lw_asks hd i h6 hN h hnx
      · refine g_tabIn 585 d13_law_33 (by decide) (by decide) rfl rfl ?_
        exact lw_likely hd i h6 hN h hnx
      · refine g_tabIn 619 d13_law_33 (by decide) (by decide) rfl rfl ?_
        exact lw_cost hd i h6 hN h hnx
      · refine g_tabIn 653 d13_law_33 (by decide) (by decide) rfl rfl ?_
        exact lw_coins hd i h6 hN h hnx
      · refine g_tabIn 686 d13_law_33 (by decide) (by decide) rfl rfl ?_
        exact lw_least hd i h6 hN h hnx
      · refine g_tabIn 720 d13_law_33 (by decide) (by decide) rfl rfl ?_
        exact lw_down hd i h6 hN h hnx
      · refine g_tabIn 753 d13_law_33 (by decide) (by decide) rfl rfl ?_
        exact lw_run hd i h6 hN h hnx
      · refine g_tabIn 806 d13_law_33 (by decide) (by decide) rfl rfl ?_
        exact lw_habits hd i h6 hN h hnx
      · refine g_tabIn 840 d13_law_33 (by decide) (by decide) rfl rfl ?_
        exact lw_advice hd i h6 hN h hnx
      · refine g_tabIn 863 d13_law_33 (by decide) (by decide) rfl rfl ?_
        exact lw_chalk hd i h6 hN h hnx
      · refine g_tabIn 916 d13_law_33 (by decide) (by decide) rfl rfl ?_
        exact lw_place hd i h6 hN h hnx
      · refine g_tabIn 949 d13_law_33 (by decide) (by decide) rfl rfl ?_
        exact lw_clear hd i h6 hN h hnx
      · refine g_tabIn 962 d13_law_33 (by decide) (by decide) rfl rfl ?_
        exact lw_game hd i h6 hN h hnx
      · refine g_tabIn 996 d13_law_33 (by decide) (by decide) rfl rfl ?_
        exact lw_town hd i h6 hN h hnx
      · refine g_tabIn 1020 d13_law_33 (by decide) (by decide) rfl rfl ?_
        exact lw_slip hd i h6 hN h hnx
      · refine g_tabIn 1053 d13_law_33 (by decide) (by decide) rfl rfl ?_
        exact lw_undo hd i h6 hN h hnx
      · refine g_tabIn 1066 d13_law_33 (by decide) (by decide) rfl rfl ?_
        exact lw_fits hd i h6 hN h hnx
      · refine g_tabIn 1090 d13_law_33 (by decide) (by decide) rfl rfl ?_
        exact lw_which hd i h6 hN h hnx
      · refine g_tabIn 1103 d13_law_33 (by decide) (by decide) rfl rfl ?_
        exact lw_went hd i h6 hN h hnx
      · refine g_tabIn 1127 d13_law_33 (by decide) (by decide) rfl rfl ?_
        exact lw_day hd i h6 hN h hnx
      · refine g_tabIn 1160 d13_law_33 (by decide) (by decide) rfl rfl ?_
        exact lw_drawn hd i h6 hN h hnx
      · refine g_tabIn 1193 d13_law_33 (by decide) (by decide) rfl rfl ?_
        exact lw_image hd i h6 hN h hnx
      · refine g_tabIn 1216 d13_law_33 (by decide) (by decide) rfl rfl ?_
        exact lw_back hd i h6 hN h hnx
      · refine g_tabIn 1239 d13_law_33 (by decide) (by decide) rfl rfl ?_
        exact lw_count hd i h6 hN h hnx
      · refine g_tabIn 1262 d13_law_33 (by decide) (by decide) rfl rfl ?_
        exact lw_status hd i h6 hN h hnx
      · refine g_tabOut 1275 d13_law_33 (by rw [nI_ti (by omega)]; omega) rfl ?_
        have z := hnx I L R [] (by rw [List.append_nil]; exact h)
        rw [List.append_nil] at z
        exact g_room (Nat.le_refl d) (by omega) (by omega) z
    · exact law_end hN hQ i hi h6
