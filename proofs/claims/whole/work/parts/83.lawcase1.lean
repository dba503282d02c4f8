/-! THE LAW: its cases -/
abbrev LSL (i : Nat) : List (Option Value) := [some (.ref 2003), some (.ref 0), some (.ref 104), some (.int (nI i))]
abbrev QL : List Value → Wd → Prop := fun r _ => r = [.int 1]
theorem L_arg {xs : Nat → Int32} {i L k pc p1 p2 p3 p4 nx : Nat} {D : Mem} {st : List Value} {z : Int} (hx : D 2003 = xs) (hl : D 2004 0 = nI L) (hi : i + 6 ≤ L) (hL : L ≤ 3072) (hk : k < 6) (d0 : decode cL_law pc = .ok (.aload_n 0, 1)) (e0 : pc + 1 = p1) (d1 : decode cL_law p1 = .ok (.iload_n 3, 1)) (e1 : p1 + 1 = p2) (d2 : decode cL_law p2 = .ok (.iconst z, 1)) (e2 : p2 + 1 = p3) (hz : Int32.ofInt z = nI k) (d3 : decode cL_law p3 = .ok (.iadd, 1)) (e3 : p3 + 1 = p4) (d4 : decode cL_law p4 = .ok (.iaload, 1)) (e4 : p4 + 1 = nx) (kk : X 23 138 j_L_law nx (LSL i) (.int (xs (i + k)) :: st) (138, P0, D) QL) : X 23 138 j_L_law pc (LSL i) st (138, P0, D) QL := by
  refine X_aload_n d0 e0 rfl rfl ?_
  refine X_iload_n d1 e1 rfl rfl ?_
  refine X_iconst d2 e2 hz ?_
  refine X_iadd d3 e3 ?_
  rw [nI_add]
  refine M_xld d4 e4 (by rw [hl, nI_clamp (by omega)]; exact vp_in_nI (by omega) (by omega)) ?_
  rw [nI_clamp (by omega), hx]
  exact kk
theorem INVT.frC {D D' : Mem} {S : St} {T : Nat → Bool} {K F : Nat → Nat} (h : INVT D S T K F) (hf : Fr inC D D') : INVT D' S T K F := by
  have e : ∀ b, 104 ≤ b → D' b = D b := fun b hb => hf b (by unfold inC; omega)
  unfold INVT RB RS KB at h ⊢
  rw [e 104 (by omega), e 105 (by omega), e 106 (by omega), e 107 (by omega), e 108 (by omega), e 109 (by omega), e 110 (by omega), e 111 (by omega), e 112 (by omega), e 113 (by omega), e 125 (by omega), e 132 (by omega), e 137 (by omega)]
  exact h
theorem INVK.frR {D D' : Mem} {S : St} {K F : Nat → Nat} (h : INVK D S K F) (hf : Fr inR D D') : INVK D' S K F := by
  have e : ∀ b, b < 104 → D' b = D b := fun b hb => hf b (by unfold inR; omega)
  exact ⟨h.1.fr (fun b _ h2 => e b (by omega)), h.2.1.fr (e 0 (by omega)) (fun b _ h2 => e b (by omega)) (e 103 (by omega)), h.2.2.fr (fun b _ h2 => e b (by omega)) (congrFun (e 95 (by omega)) 0)⟩
theorem L_ck {D D1 : Mem} {S : St} {r : Int32 × St} {u L : Int32} {xs : Nat → Int32} (h2 : INV2 D S) (g1 : CK D r u D1) (hx : D 2003 = xs) (hl : D 2004 0 = L) : INV2 D1 S ∧ D1 2003 = xs ∧ D1 2004 0 = L ∧ ∀ {v : Int32} {D2 : Mem}, CK2 D1 r v D2 → u = v ∧ INV1 D2 r.2 ∧ INV2 D2 r.2 ∧ D2 2003 = xs ∧ D2 2004 0 = L := by
  obtain ⟨e1, i1, f1⟩ := g1
  have a1 : D1 2003 = D 2003 := f1 2003 (by unfold inC; omega)
  have a2 : D1 2004 = D 2004 := f1 2004 (by unfold inC; omega)
  refine ⟨INVT.frC h2 f1, a1.trans hx, (congrFun a2 0).trans hl, fun g2 => ?_⟩
  obtain ⟨e2, i2, f2⟩ := g2
  have b1 := f2 2003 (by unfold inR; omega)
  have b2 := f2 2004 (by unfold inR; omega)
  exact ⟨e1.trans e2.symm, INVK.frR i1 f2, i2, b1.trans (a1.trans hx), (congrFun b2 0).trans ((congrFun a2 0).trans hl)⟩
theorem L_cl {D D1 : Mem} {S : St} {r : Int64 × St} {u : Int64} {L : Int32} {xs : Nat → Int32} (h2 : INV2 D S) (g1 : CL D r u D1) (hx : D 2003 = xs) (hl : D 2004 0 = L) : INV2 D1 S ∧ D1 2003 = xs ∧ D1 2004 0 = L ∧ ∀ {v : Int64} {D2 : Mem}, CL2 D1 r v D2 → u = v ∧ INV1 D2 r.2 ∧ INV2 D2 r.2 ∧ D2 2003 = xs ∧ D2 2004 0 = L := by
  obtain ⟨e1, i1, f1⟩ := g1
  have a1 : D1 2003 = D 2003 := f1 2003 (by unfold inC; omega)
  have a2 : D1 2004 = D 2004 := f1 2004 (by unfold inC; omega)
  refine ⟨INVT.frC h2 f1, a1.trans hx, (congrFun a2 0).trans hl, fun g2 => ?_⟩
  obtain ⟨e2, i2, f2⟩ := g2
  have b1 := f2 2003 (by unfold inR; omega)
  have b2 := f2 2004 (by unfold inR; omega)
  exact ⟨e1.trans e2.symm, INVK.frR i1 f2, i2, b1.trans (a1.trans hx), (congrFun b2 0).trans ((congrFun a2 0).trans hl)⟩
theorem law_c0 {xs : Nat → Int32} {i L : Nat} {D : Mem} {S : St} (h1 : INV1 D S) (h2 : INV2 D S) (hx : D 2003 = xs) (hl : D 2004 0 = nI L) (hi : i + 6 ≤ L) (hL : L ≤ 3072) (K : ∀ D' S', INV1 D' S' → INV2 D' S' → D' 2003 = xs → D' 2004 0 = nI L → X 23 138 j_L_law 1151 (LSL i) [] (138, P0, D') QL) : X 23 138 j_L_law 180 (LSL i) [] (138, P0, D) QL := by
  refine X_aload_n (nx := 181) dL_law_180 rfl rfl rfl ?_
  refine L_arg (k := 1) hx hl hi hL (by decide) dL_law_181 rfl dL_law_182 rfl dL_law_183 rfl (by decide) dL_law_184 rfl dL_law_185 rfl ?_
  refine Z_Vi1 (nx := 189) dL_law_186 rfl ml_RL_13 kj_X7_letter kv_X7_letter (sp_X7_letter h1) (by first | assumption | rfl | decide | omega) (by first | assumption | rfl | decide | omega) (by decide) rfl (by decide) (by exact Nat.le_of_ble_eq_true rfl) (fun u1 D1 g1 => ?_)
  obtain ⟨h2, hx, hl, hg⟩ := L_ck h2 g1 hx hl
  refine X_aload_n (nx := 190) dL_law_189 rfl rfl rfl ?_
  refine L_arg (k := 1) hx hl hi hL (by decide) dL_law_190 rfl dL_law_191 rfl dL_law_192 rfl (by decide) dL_law_193 rfl dL_law_194 rfl ?_
  refine Z_Vi1 (nx := 198) dL_law_195 rfl ml_RL_17 kj_X8_letter kv_X8_letter (sp_X8_letter h2 h1.wf) (by first | assumption | rfl | decide | omega) (by first | assumption | rfl | decide | omega) (by decide) rfl (by decide) (by exact Nat.le_of_ble_eq_true rfl) (fun u2 D2 g2 => ?_)
  obtain ⟨he, k1, k2, k3, k4⟩ := hg g2
  exact X_icmp_eq (tgt := 1151) (nx := 201) dL_law_198 rfl rfl (fun _ => K _ _ k1 k2 k3 k4) (fun q => absurd he q)
theorem law_c1 {xs : Nat → Int32} {i L : Nat} {D : Mem} {S : St} (h1 : INV1 D S) (h2 : INV2 D S) (hx : D 2003 = xs) (hl : D 2004 0 = nI L) (hi : i + 6 ≤ L) (hL : L ≤ 3072) (K : ∀ D' S', INV1 D' S' → INV2 D' S' → D' 2003 = xs → D' 2004 0 = nI L → X 23 138 j_L_law 1151 (LSL i) [] (138, P0, D') QL) : X 23 138 j_L_law 203 (LSL i) [] (138, P0, D) QL := by
  refine X_aload_n (nx := 204) dL_law_203 rfl rfl rfl ?_
  refine Z_Vi0 (nx := 207) dL_law_204 rfl ml_RL_18 kj_X7_table kv_X7_table (sp_X7_table h1) (by first | assumption | rfl | decide | omega) (by first | assumption | rfl | decide | omega) (by decide) rfl (by decide) (by exact Nat.le_of_ble_eq_true rfl) (fun u1 D1 g1 => ?_)
  obtain ⟨h2, hx, hl, hg⟩ := L_ck h2 g1 hx hl
  refine X_aload_n (nx := 208) dL_law_207 rfl rfl rfl ?_
  refine Z_Vi0 (nx := 211) dL_law_208 rfl ml_RL_22 kj_X8_table kv_X8_table (sp_X8_table h2 h1.wf) (by first | assumption | rfl | decide | omega) (by first | assumption | rfl | decide | omega) (by decide) rfl (by decide) (by exact Nat.le_of_ble_eq_true rfl) (fun u2 D2 g2 => ?_)
  obtain ⟨he, k1, k2, k3, k4⟩ := hg g2
  exact X_icmp_eq (tgt := 1151) (nx := 214) dL_law_211 rfl rfl (fun _ => K _ _ k1 k2 k3 k4) (fun q => absurd he q)
theorem law_c2 {xs : Nat → Int32} {i L : Nat} {D : Mem} {S : St} (h1 : INV1 D S) (h2 : INV2 D S) (hx : D 2003 = xs) (hl : D 2004 0 = nI L) (hi : i + 6 ≤ L) (hL : L ≤ 3072) (K : ∀ D' S', INV1 D' S' → INV2 D' S' → D' 2003 = xs → D' 2004 0 = nI L → X 23 138 j_L_law 1151 (LSL i) [] (138, P0, D') QL) : X 23 138 j_L_law 216 (LSL i) [] (138, P0, D) QL := by
  refine X_aload_n (nx := 217) dL_law_216 rfl rfl rfl ?_
  refine L_arg (k := 1) hx hl hi hL (by decide) dL_law_217 rfl dL_law_218 rfl dL_law_219 rfl (by decide) dL_law_220 rfl dL_law_221 rfl ?_
  refine L_arg (k := 2) hx hl hi hL (by decide) dL_law_222 rfl dL_law_223 rfl dL_law_224 rfl (by decide) dL_law_225 rfl dL_law_226 rfl ?_
  refine L_arg (k := 3) hx hl hi hL (by decide) dL_law_227 rfl dL_law_228 rfl dL_law_229 rfl (by decide) dL_law_230 rfl dL_law_231 rfl ?_
  refine Z_Vi3 (nx := 235) dL_law_232 rfl ml_RL_23 kj_X7_kind kv_X7_kind (sp_X7_kind h1) (by first | assumption | rfl | decide | omega) (by first | assumption | rfl | decide | omega) (by decide) rfl (by decide) (by exact Nat.le_of_ble_eq_true rfl) (fun u1 D1 g1 => ?_)
  obtain ⟨h2, hx, hl, hg⟩ := L_ck h2 g1 hx hl
  refine X_aload_n (nx := 236) dL_law_235 rfl rfl rfl ?_
  refine L_arg (k := 1) hx hl hi hL (by decide) dL_law_236 rfl dL_law_237 rfl dL_law_238 rfl (by decide) dL_law_239 rfl dL_law_240 rfl ?_
  refine L_arg (k := 2) hx hl hi hL (by decide) dL_law_241 rfl dL_law_242 rfl dL_law_243 rfl (by decide) dL_law_244 rfl dL_law_245 rfl ?_
  refine L_arg (k := 3) hx hl hi hL (by decide) dL_law_246 rfl dL_law_247 rfl dL_law_248 rfl (by decide) dL_law_249 rfl dL_law_250 rfl ?_
  refine Z_Vi3 (nx := 254) dL_law_251 rfl ml_RL_27 kj_X8_kind kv_X8_kind (sp_X8_kind h2 h1.wf) (by first | assumption | rfl | decide | omega) (by first | assumption | rfl | decide | omega) (by decide) rfl (by decide) (by exact Nat.le_of_ble_eq_true rfl) (fun u2 D2 g2 => ?_)
  obtain ⟨he, k1, k2, k3, k4⟩ := hg g2
  exact X_icmp_eq (tgt := 1151) (nx := 257) dL_law_254 rfl rfl (fun _ => K _ _ k1 k2 k3 k4) (fun q => absurd he q)
theorem law_c3 {xs : Nat → Int32} {i L : Nat} {D : Mem} {S : St} (h1 : INV1 D S) (h2 : INV2 D S) (hx : D 2003 = xs) (hl : D 2004 0 = nI L) (hi : i + 6 ≤ L) (hL : L ≤ 3072) (K : ∀ D' S', INV1 D' S' → INV2 D' S' → D' 2003 = xs → D' 2004 0 = nI L → X 23 138 j_L_law 1151 (LSL i) [] (138, P0, D') QL) : X 23 138 j_L_law 259 (LSL i) [] (138, P0, D) QL := by
  refine X_aload_n (nx := 260) dL_law_259 rfl rfl rfl ?_
  refine L_arg (k := 1) hx hl hi hL (by decide) dL_law_260 rfl dL_law_261 rfl dL_law_262 rfl (by decide) dL_law_263 rfl dL_law_264 rfl ?_
  refine L_arg (k := 2) hx hl hi hL (by decide) dL_law_265 rfl dL_law_266 rfl dL_law_267 rfl (by decide) dL_law_268 rfl dL_law_269 rfl ?_
  refine Z_Vi2 (nx := 273) dL_law_270 rfl ml_RL_28 kj_X7_verb kv_X7_verb (sp_X7_verb h1) (by first | assumption | rfl | decide | omega) (by first | assumption | rfl | decide | omega) (by decide) rfl (by decide) (by exact Nat.le_of_ble_eq_true rfl) (fun u1 D1 g1 => ?_)
  obtain ⟨h2, hx, hl, hg⟩ := L_ck h2 g1 hx hl
  refine X_aload_n (nx := 274) dL_law_273 rfl rfl rfl ?_
  refine L_arg (k := 1) hx hl hi hL (by decide) dL_law_274 rfl dL_law_275 rfl dL_law_276 rfl (by decide) dL_law_277 rfl dL_law_278 rfl ?_
  refine L_arg (k := 2) hx hl hi hL (by decide) dL_law_279 rfl dL_law_280 rfl dL_law_281 rfl (by decide) dL_law_282 rfl dL_law_283 rfl ?_
  refine Z_Vi2 (nx := 287) dL_law_284 rfl ml_RL_32 kj_X8_verb kv_X8_verb (sp_X8_verb h2 h1.wf) (by first | assumption | rfl | decide | omega) (by first | assumption | rfl | decide | omega) (by decide) rfl (by decide) (by exact Nat.le_of_ble_eq_true rfl) (fun u2 D2 g2 => ?_)
  obtain ⟨he, k1, k2, k3, k4⟩ := hg g2
  exact X_icmp_eq (tgt := 1151) (nx := 290) dL_law_287 rfl rfl (fun _ => K _ _ k1 k2 k3 k4) (fun q => absurd he q)
theorem law_c4 {xs : Nat → Int32} {i L : Nat} {D : Mem} {S : St} (h1 : INV1 D S) (h2 : INV2 D S) (hx : D 2003 = xs) (hl : D 2004 0 = nI L) (hi : i + 6 ≤ L) (hL : L ≤ 3072) (K : ∀ D' S', INV1 D' S' → INV2 D' S' → D' 2003 = xs → D' 2004 0 = nI L → X 23 138 j_L_law 1151 (LSL i) [] (138, P0, D') QL) : X 23 138 j_L_law 292 (LSL i) [] (138, P0, D) QL := by
  refine X_aload_n (nx := 293) dL_law_292 rfl rfl rfl ?_
  refine L_arg (k := 1) hx hl hi hL (by decide) dL_law_293 rfl dL_law_294 rfl dL_law_295 rfl (by decide) dL_law_296 rfl dL_law_297 rfl ?_
  refine Z_Vi1 (nx := 301) dL_law_298 rfl ml_RL_33 kj_X7_drops kv_X7_drops (sp_X7_drops h1) (by first | assumption | rfl | decide | omega) (by first | assumption | rfl | decide | omega) (by decide) rfl (by decide) (by exact Nat.le_of_ble_eq_true rfl) (fun u1 D1 g1 => ?_)
  obtain ⟨h2, hx, hl, hg⟩ := L_ck h2 g1 hx hl
  refine X_aload_n (nx := 302) dL_law_301 rfl rfl rfl ?_
  refine L_arg (k := 1) hx hl hi hL (by decide) dL_law_302 rfl dL_law_303 rfl dL_law_304 rfl (by decide) dL_law_305 rfl dL_law_306 rfl ?_
  refine Z_Vi1 (nx := 310) dL_law_307 rfl ml_RL_36 kj_X8_drops kv_X8_drops (sp_X8_drops h2 h1.wf) (by first | assumption | rfl | decide | omega) (by first | assumption | rfl | decide | omega) (by decide) rfl (by decide) (by exact Nat.le_of_ble_eq_true rfl) (fun u2 D2 g2 => ?_)
  obtain ⟨he, k1, k2, k3, k4⟩ := hg g2
  exact X_icmp_eq (tgt := 1151) (nx := 313) dL_law_310 rfl rfl (fun _ => K _ _ k1 k2 k3 k4) (fun q => absurd he q)
theorem law_c5 {xs : Nat → Int32} {i L : Nat} {D : Mem} {S : St} (h1 : INV1 D S) (h2 : INV2 D S) (hx : D 2003 = xs) (hl : D 2004 0 = nI L) (hi : i + 6 ≤ L) (hL : L ≤ 3072) (K : ∀ D' S', INV1 D' S' → INV2 D' S' → D' 2003 = xs → D' 2004 0 = nI L → X 23 138 j_L_law 1151 (LSL i) [] (138, P0, D') QL) : X 23 138 j_L_law 315 (LSL i) [] (138, P0, D) QL := by
  refine X_aload_n (nx := 316) dL_law_315 rfl rfl rfl ?_
  refine L_arg (k := 1) hx hl hi hL (by decide) dL_law_316 rfl dL_law_317 rfl dL_law_318 rfl (by decide) dL_law_319 rfl dL_law_320 rfl ?_
  refine L_arg (k := 2) hx hl hi hL (by decide) dL_law_321 rfl dL_law_322 rfl dL_law_323 rfl (by decide) dL_law_324 rfl dL_law_325 rfl ?_
  refine Z_Vi2 (nx := 329) dL_law_326 rfl ml_RL_37 kj_X7_copies kv_X7_copies (sp_X7_copies h1) (by first | assumption | rfl | decide | omega) (by first | assumption | rfl | decide | omega) (by decide) rfl (by decide) (by exact Nat.le_of_ble_eq_true rfl) (fun u1 D1 g1 => ?_)
  obtain ⟨h2, hx, hl, hg⟩ := L_ck h2 g1 hx hl
  refine X_aload_n (nx := 330) dL_law_329 rfl rfl rfl ?_
  refine L_arg (k := 1) hx hl hi hL (by decide) dL_law_330 rfl dL_law_331 rfl dL_law_332 rfl (by decide) dL_law_333 rfl dL_law_334 rfl ?_
  refine L_arg (k := 2) hx hl hi hL (by decide) dL_law_335 rfl dL_law_336 rfl dL_law_337 rfl (by decide) dL_law_338 rfl dL_law_339 rfl ?_
  refine Z_Vi2 (nx := 343) dL_law_340 rfl ml_RL_40 kj_X8_copies kv_X8_copies (sp_X8_copies h2 h1.wf) (by first | assumption | rfl | decide | omega) (by first | assumption | rfl | decide | omega) (by decide) rfl (by decide) (by exact Nat.le_of_ble_eq_true rfl) (fun u2 D2 g2 => ?_)
  obtain ⟨he, k1, k2, k3, k4⟩ := hg g2
  exact X_icmp_eq (tgt := 1151) (nx := 346) dL_law_343 rfl rfl (fun _ => K _ _ k1 k2 k3 k4) (fun q => absurd he q)
theorem law_c6 {xs : Nat → Int32} {i L : Nat} {D : Mem} {S : St} (h1 : INV1 D S) (h2 : INV2 D S) (hx : D 2003 = xs) (hl : D 2004 0 = nI L) (hi : i + 6 ≤ L) (hL : L ≤ 3072) (K : ∀ D' S', INV1 D' S' → INV2 D' S' → D' 2003 = xs → D' 2004 0 = nI L → X 23 138 j_L_law 1151 (LSL i) [] (138, P0, D') QL) : X 23 138 j_L_law 348 (LSL i) [] (138, P0, D) QL := by
  refine X_aload_n (nx := 349) dL_law_348 rfl rfl rfl ?_
  refine L_arg (k := 1) hx hl hi hL (by decide) dL_law_349 rfl dL_law_350 rfl dL_law_351 rfl (by decide) dL_law_352 rfl dL_law_353 rfl ?_
  refine L_arg (k := 2) hx hl hi hL (by decide) dL_law_354 rfl dL_law_355 rfl dL_law_356 rfl (by decide) dL_law_357 rfl dL_law_358 rfl ?_
  refine Z_Vi2 (nx := 362) dL_law_359 rfl ml_RL_41 kj_X7_route kv_X7_route (sp_X7_route h1) (by first | assumption | rfl | decide | omega) (by first | assumption | rfl | decide | omega) (by decide) rfl (by decide) (by exact Nat.le_of_ble_eq_true rfl) (fun u1 D1 g1 => ?_)
  obtain ⟨h2, hx, hl, hg⟩ := L_ck h2 g1 hx hl
  refine X_aload_n (nx := 363) dL_law_362 rfl rfl rfl ?_
  refine L_arg (k := 1) hx hl hi hL (by decide) dL_law_363 rfl dL_law_364 rfl dL_law_365 rfl (by decide) dL_law_366 rfl dL_law_367 rfl ?_
  refine L_arg (k := 2) hx hl hi hL (by decide) dL_law_368 rfl dL_law_369 rfl dL_law_370 rfl (by decide) dL_law_371 rfl dL_law_372 rfl ?_
  refine Z_Vi2 (nx := 376) dL_law_373 rfl ml_RL_44 kj_X8_route kv_X8_route (sp_X8_route h2 h1.wf) (by first | assumption | rfl | decide | omega) (by first | assumption | rfl | decide | omega) (by decide) rfl (by decide) (by exact Nat.le_of_ble_eq_true rfl) (fun u2 D2 g2 => ?_)
  obtain ⟨he, k1, k2, k3, k4⟩ := hg g2
  exact X_icmp_eq (tgt := 1151) (nx := 379) dL_law_376 rfl rfl (fun _ => K _ _ k1 k2 k3 k4) (fun q => absurd he q)
theorem law_c7 {xs : Nat → Int32} {i L : Nat} {D : Mem} {S : St} (h1 : INV1 D S) (h2 : INV2 D S) (hx : D 2003 = xs) (hl : D 2004 0 = nI L) (hi : i + 6 ≤ L) (hL : L ≤ 3072) (K : ∀ D' S', INV1 D' S' → INV2 D' S' → D' 2003 = xs → D' 2004 0 = nI L → X 23 138 j_L_law 1151 (LSL i) [] (138, P0, D') QL) : X 23 138 j_L_law 381 (LSL i) [] (138, P0, D) QL := by
  refine X_aload_n (nx := 382) dL_law_381 rfl rfl rfl ?_
  refine L_arg (k := 1) hx hl hi hL (by decide) dL_law_382 rfl dL_law_383 rfl dL_law_384 rfl (by decide) dL_law_385 rfl dL_law_386 rfl ?_
  refine L_arg (k := 2) hx hl hi hL (by decide) dL_law_387 rfl dL_law_388 rfl dL_law_389 rfl (by decide) dL_law_390 rfl dL_law_391 rfl ?_
  refine Z_Vi2 (nx := 395) dL_law_392 rfl ml_RL_45 kj_X7_segment kv_X7_segment (sp_X7_segment h1) (by first | assumption | rfl | decide | omega) (by first | assumption | rfl | decide | omega) (by decide) rfl (by decide) (by exact Nat.le_of_ble_eq_true rfl) (fun u1 D1 g1 => ?_)
  obtain ⟨h2, hx, hl, hg⟩ := L_ck h2 g1 hx hl
  refine X_aload_n (nx := 396) dL_law_395 rfl rfl rfl ?_
  refine L_arg (k := 1) hx hl hi hL (by decide) dL_law_396 rfl dL_law_397 rfl dL_law_398 rfl (by decide) dL_law_399 rfl dL_law_400 rfl ?_
  refine L_arg (k := 2) hx hl hi hL (by decide) dL_law_401 rfl dL_law_402 rfl dL_law_403 rfl (by decide) dL_law_404 rfl dL_law_405 rfl ?_
  refine Z_Vi2 (nx := 409) dL_law_406 rfl ml_RL_48 kj_X8_segment kv_X8_segment (sp_X8_segment h2 h1.wf) (by first | assumption | rfl | decide | omega) (by first | assumption | rfl | decide | omega) (by decide) rfl (by decide) (by exact Nat.le_of_ble_eq_true rfl) (fun u2 D2 g2 => ?_)
  obtain ⟨he, k1, k2, k3, k4⟩ := hg g2
  exact X_icmp_eq (tgt := 1151) (nx := 412) dL_law_409 rfl rfl (fun _ => K _ _ k1 k2 k3 k4) (fun q => absurd he q)
theorem law_c8 {xs : Nat → Int32} {i L : Nat} {D : Mem} {S : St} (h1 : INV1 D S) (h2 : INV2 D S) (hx : D 2003 = xs) (hl : D 2004 0 = nI L) (hi : i + 6 ≤ L) (hL : L ≤ 3072) (K : ∀ D' S', INV1 D' S' → INV2 D' S' → D' 2003 = xs → D' 2004 0 = nI L → X 23 138 j_L_law 1151 (LSL i) [] (138, P0, D') QL) : X 23 138 j_L_law 414 (LSL i) [] (138, P0, D) QL := by
  refine X_aload_n (nx := 415) dL_law_414 rfl rfl rfl ?_
  refine L_arg (k := 1) hx hl hi hL (by decide) dL_law_415 rfl dL_law_416 rfl dL_law_417 rfl (by decide) dL_law_418 rfl dL_law_419 rfl ?_
  refine Z_Vi1 (nx := 423) dL_law_420 rfl ml_RL_49 kj_X7_nodes kv_X7_nodes (sp_X7_nodes h1) (by first | assumption | rfl | decide | omega) (by first | assumption | rfl | decide | omega) (by decide) rfl (by decide) (by exact Nat.le_of_ble_eq_true rfl) (fun u1 D1 g1 => ?_)
  obtain ⟨h2, hx, hl, hg⟩ := L_ck h2 g1 hx hl
  refine X_aload_n (nx := 424) dL_law_423 rfl rfl rfl ?_
  refine L_arg (k := 1) hx hl hi hL (by decide) dL_law_424 rfl dL_law_425 rfl dL_law_426 rfl (by decide) dL_law_427 rfl dL_law_428 rfl ?_
  refine Z_Vi1 (nx := 432) dL_law_429 rfl ml_RL_52 kj_X8_nodes kv_X8_nodes (sp_X8_nodes h2 h1.wf) (by first | assumption | rfl | decide | omega) (by first | assumption | rfl | decide | omega) (by decide) rfl (by decide) (by exact Nat.le_of_ble_eq_true rfl) (fun u2 D2 g2 => ?_)
  obtain ⟨he, k1, k2, k3, k4⟩ := hg g2
  exact X_icmp_eq (tgt := 1151) (nx := 435) dL_law_432 rfl rfl (fun _ => K _ _ k1 k2 k3 k4) (fun q => absurd he q)
theorem law_c9 {xs : Nat → Int32} {i L : Nat} {D : Mem} {S : St} (h1 : INV1 D S) (h2 : INV2 D S) (hx : D 2003 = xs) (hl : D 2004 0 = nI L) (hi : i + 6 ≤ L) (hL : L ≤ 3072) (K : ∀ D' S', INV1 D' S' → INV2 D' S' → D' 2003 = xs → D' 2004 0 = nI L → X 23 138 j_L_law 1151 (LSL i) [] (138, P0, D') QL) : X 23 138 j_L_law 437 (LSL i) [] (138, P0, D) QL := by
  refine X_aload_n (nx := 438) dL_law_437 rfl rfl rfl ?_
  refine L_arg (k := 1) hx hl hi hL (by decide) dL_law_438 rfl dL_law_439 rfl dL_law_440 rfl (by decide) dL_law_441 rfl dL_law_442 rfl ?_
  refine L_arg (k := 2) hx hl hi hL (by decide) dL_law_443 rfl dL_law_444 rfl dL_law_445 rfl (by decide) dL_law_446 rfl dL_law_447 rfl ?_
  refine Z_Vi2 (nx := 451) dL_law_448 rfl ml_RL_53 kj_X7_letterOf kv_X7_letterOf (sp_X7_letterOf h1) (by first | assumption | rfl | decide | omega) (by first | assumption | rfl | decide | omega) (by decide) rfl (by decide) (by exact Nat.le_of_ble_eq_true rfl) (fun u1 D1 g1 => ?_)
  obtain ⟨h2, hx, hl, hg⟩ := L_ck h2 g1 hx hl
  refine X_aload_n (nx := 452) dL_law_451 rfl rfl rfl ?_
  refine L_arg (k := 1) hx hl hi hL (by decide) dL_law_452 rfl dL_law_453 rfl dL_law_454 rfl (by decide) dL_law_455 rfl dL_law_456 rfl ?_
  refine L_arg (k := 2) hx hl hi hL (by decide) dL_law_457 rfl dL_law_458 rfl dL_law_459 rfl (by decide) dL_law_460 rfl dL_law_461 rfl ?_
  refine Z_Vi2 (nx := 465) dL_law_462 rfl ml_RL_56 kj_X8_letterOf kv_X8_letterOf (sp_X8_letterOf h2 h1.wf) (by first | assumption | rfl | decide | omega) (by first | assumption | rfl | decide | omega) (by decide) rfl (by decide) (by exact Nat.le_of_ble_eq_true rfl) (fun u2 D2 g2 => ?_)
  obtain ⟨he, k1, k2, k3, k4⟩ := hg g2
  exact X_icmp_eq (tgt := 1151) (nx := 468) dL_law_465 rfl rfl (fun _ => K _ _ k1 k2 k3 k4) (fun q => absurd he q)
theorem law_c10 {xs : Nat → Int32} {i L : Nat} {D : Mem} {S : St} (h1 : INV1 D S) (h2 : INV2 D S) (hx : D 2003 = xs) (hl : D 2004 0 = nI L) (hi : i + 6 ≤ L) (hL : L ≤ 3072) (K : ∀ D' S', INV1 D' S' → INV2 D' S' → D' 2003 = xs → D' 2004 0 = nI L → X 23 138 j_L_law 1151 (LSL i) [] (138, P0, D') QL) : X 23 138 j_L_law 470 (LSL i) [] (138, P0, D) QL := by
  refine X_aload_n (nx := 471) dL_law_470 rfl rfl rfl ?_
  refine L_arg (k := 1) hx hl hi hL (by decide) dL_law_471 rfl dL_law_472 rfl dL_law_473 rfl (by decide) dL_law_474 rfl dL_law_475 rfl ?_
  refine L_arg (k := 2) hx hl hi hL (by decide) dL_law_476 rfl dL_law_477 rfl dL_law_478 rfl (by decide) dL_law_479 rfl dL_law_480 rfl ?_
  refine Z_Vi2 (nx := 484) dL_law_481 rfl ml_RL_57 kj_X7_match kv_X7_match (sp_X7_match h1) (by first | assumption | rfl | decide | omega) (by first | assumption | rfl | decide | omega) (by decide) rfl (by decide) (by exact Nat.le_of_ble_eq_true rfl) (fun u1 D1 g1 => ?_)
  obtain ⟨h2, hx, hl, hg⟩ := L_ck h2 g1 hx hl
  refine X_aload_n (nx := 485) dL_law_484 rfl rfl rfl ?_
  refine L_arg (k := 1) hx hl hi hL (by decide) dL_law_485 rfl dL_law_486 rfl dL_law_487 rfl (by decide) dL_law_488 rfl dL_law_489 rfl ?_
  refine L_arg (k := 2) hx hl hi hL (by decide) dL_law_490 rfl dL_law_491 rfl dL_law_492 rfl (by decide) dL_law_493 rfl dL_law_494 rfl ?_
  refine Z_Vi2 (nx := 498) dL_law_495 rfl ml_RL_60 kj_X8_match kv_X8_match (sp_X8_match h2 h1.wf) (by first | assumption | rfl | decide | omega) (by first | assumption | rfl | decide | omega) (by decide) rfl (by decide) (by exact Nat.le_of_ble_eq_true rfl) (fun u2 D2 g2 => ?_)
  obtain ⟨he, k1, k2, k3, k4⟩ := hg g2
  exact X_icmp_eq (tgt := 1151) (nx := 501) dL_law_498 rfl rfl (fun _ => K _ _ k1 k2 k3 k4) (fun q => absurd he q)
theorem law_c11 {xs : Nat → Int32} {i L : Nat} {D : Mem} {S : St} (h1 : INV1 D S) (h2 : INV2 D S) (hx : D 2003 = xs) (hl : D 2004 0 = nI L) (hi : i + 6 ≤ L) (hL : L ≤ 3072) (K : ∀ D' S', INV1 D' S' → INV2 D' S' → D' 2003 = xs → D' 2004 0 = nI L → X 23 138 j_L_law 1151 (LSL i) [] (138, P0, D') QL) : X 23 138 j_L_law 503 (LSL i) [] (138, P0, D) QL := by
  refine X_aload_n (nx := 504) dL_law_503 rfl rfl rfl ?_
  refine L_arg (k := 1) hx hl hi hL (by decide) dL_law_504 rfl dL_law_505 rfl dL_law_506 rfl (by decide) dL_law_507 rfl dL_law_508 rfl ?_
  refine L_arg (k := 2) hx hl hi hL (by decide) dL_law_509 rfl dL_law_510 rfl dL_law_511 rfl (by decide) dL_law_512 rfl dL_law_513 rfl ?_
  refine L_arg (k := 3) hx hl hi hL (by decide) dL_law_514 rfl dL_law_515 rfl dL_law_516 rfl (by decide) dL_law_517 rfl dL_law_518 rfl ?_
  refine Z_Vi3 (nx := 522) dL_law_519 rfl ml_RL_61 kj_X7_bound kv_X7_bound (sp_X7_bound h1) (by first | assumption | rfl | decide | omega) (by first | assumption | rfl | decide | omega) (by decide) rfl (by decide) (by exact Nat.le_of_ble_eq_true rfl) (fun u1 D1 g1 => ?_)
  obtain ⟨h2, hx, hl, hg⟩ := L_ck h2 g1 hx hl
  refine X_aload_n (nx := 523) dL_law_522 rfl rfl rfl ?_
  refine L_arg (k := 1) hx hl hi hL (by decide) dL_law_523 rfl dL_law_524 rfl dL_law_525 rfl (by decide) dL_law_526 rfl dL_law_527 rfl ?_
  refine L_arg (k := 2) hx hl hi hL (by decide) dL_law_528 rfl dL_law_529 rfl dL_law_530 rfl (by decide) dL_law_531 rfl dL_law_532 rfl ?_
  refine L_arg (k := 3) hx hl hi hL (by decide) dL_law_533 rfl dL_law_534 rfl dL_law_535 rfl (by decide) dL_law_536 rfl dL_law_537 rfl ?_
  refine Z_Vi3 (nx := 541) dL_law_538 rfl ml_RL_64 kj_X8_bound kv_X8_bound (sp_X8_bound h2 h1.wf) (by first | assumption | rfl | decide | omega) (by first | assumption | rfl | decide | omega) (by decide) rfl (by decide) (by exact Nat.le_of_ble_eq_true rfl) (fun u2 D2 g2 => ?_)
  obtain ⟨he, k1, k2, k3, k4⟩ := hg g2
  exact X_icmp_eq (tgt := 1151) (nx := 544) dL_law_541 rfl rfl (fun _ => K _ _ k1 k2 k3 k4) (fun q => absurd he q)
theorem law_c12 {xs : Nat → Int32} {i L : Nat} {D : Mem} {S : St} (h1 : INV1 D S) (h2 : INV2 D S) (hx : D 2003 = xs) (hl : D 2004 0 = nI L) (hi : i + 6 ≤ L) (hL : L ≤ 3072) (K : ∀ D' S', INV1 D' S' → INV2 D' S' → D' 2003 = xs → D' 2004 0 = nI L → X 23 138 j_L_law 1151 (LSL i) [] (138, P0, D') QL) : X 23 138 j_L_law 546 (LSL i) [] (138, P0, D) QL := by
  refine X_aload_n (nx := 547) dL_law_546 rfl rfl rfl ?_
  refine L_arg (k := 1) hx hl hi hL (by decide) dL_law_547 rfl dL_law_548 rfl dL_law_549 rfl (by decide) dL_law_550 rfl dL_law_551 rfl ?_
  refine L_arg (k := 2) hx hl hi hL (by decide) dL_law_552 rfl dL_law_553 rfl dL_law_554 rfl (by decide) dL_law_555 rfl dL_law_556 rfl ?_
  refine Z_Vi2 (nx := 560) dL_law_557 rfl ml_RL_65 kj_X7_looked kv_X7_looked (sp_X7_looked h1) (by first | assumption | rfl | decide | omega) (by first | assumption | rfl | decide | omega) (by decide) rfl (by decide) (by exact Nat.le_of_ble_eq_true rfl) (fun u1 D1 g1 => ?_)
  obtain ⟨h2, hx, hl, hg⟩ := L_ck h2 g1 hx hl
  refine X_aload_n (nx := 561) dL_law_560 rfl rfl rfl ?_
  refine L_arg (k := 1) hx hl hi hL (by decide) dL_law_561 rfl dL_law_562 rfl dL_law_563 rfl (by decide) dL_law_564 rfl dL_law_565 rfl ?_
  refine L_arg (k := 2) hx hl hi hL (by decide) dL_law_566 rfl dL_law_567 rfl dL_law_568 rfl (by decide) dL_law_569 rfl dL_law_570 rfl ?_
  refine Z_Vi2 (nx := 574) dL_law_571 rfl ml_RL_68 kj_X8_looked kv_X8_looked (sp_X8_looked h2 h1.wf) (by first | assumption | rfl | decide | omega) (by first | assumption | rfl | decide | omega) (by decide) rfl (by decide) (by exact Nat.le_of_ble_eq_true rfl) (fun u2 D2 g2 => ?_)
  obtain ⟨he, k1, k2, k3, k4⟩ := hg g2
  exact X_icmp_eq (tgt := 1151) (nx := 577) dL_law_574 rfl rfl (fun _ => K _ _ k1 k2 k3 k4) (fun q => absurd he q)
theorem law_c13 {xs : Nat → Int32} {i L : Nat} {D : Mem} {S : St} (h1 : INV1 D S) (h2 : INV2 D S) (hx : D 2003 = xs) (hl : D 2004 0 = nI L) (hi : i + 6 ≤ L) (hL : L ≤ 3072) (K : ∀ D' S', INV1 D' S' → INV2 D' S' → D' 2003 = xs → D' 2004 0 = nI L → X 23 138 j_L_law 1151 (LSL i) [] (138, P0, D') QL) : X 23 138 j_L_law 579 (LSL i) [] (138, P0, D) QL := by
  refine X_aload_n (nx := 580) dL_law_579 rfl rfl rfl ?_
  refine L_arg (k := 1) hx hl hi hL (by decide) dL_law_580 rfl dL_law_581 rfl dL_law_582 rfl (by decide) dL_law_583 rfl dL_law_584 rfl ?_
  refine Z_Vi1 (nx := 588) dL_law_585 rfl ml_RL_69 kj_X7_verbs kv_X7_verbs (sp_X7_verbs h1) (by first | assumption | rfl | decide | omega) (by first | assumption | rfl | decide | omega) (by decide) rfl (by decide) (by exact Nat.le_of_ble_eq_true rfl) (fun u1 D1 g1 => ?_)
  obtain ⟨h2, hx, hl, hg⟩ := L_ck h2 g1 hx hl
  refine X_aload_n (nx := 589) dL_law_588 rfl rfl rfl ?_
  refine L_arg (k := 1) hx hl hi hL (by decide) dL_law_589 rfl dL_law_590 rfl dL_law_591 rfl (by decide) dL_law_592 rfl dL_law_593 rfl ?_
  refine Z_Vi1 (nx := 597) dL_law_594 rfl ml_RL_72 kj_X8_verbs kv_X8_verbs (sp_X8_verbs h2 h1.wf) (by first | assumption | rfl | decide | omega) (by first | assumption | rfl | decide | omega) (by decide) rfl (by decide) (by exact Nat.le_of_ble_eq_true rfl) (fun u2 D2 g2 => ?_)
  obtain ⟨he, k1, k2, k3, k4⟩ := hg g2
  exact X_icmp_eq (tgt := 1151) (nx := 600) dL_law_597 rfl rfl (fun _ => K _ _ k1 k2 k3 k4) (fun q => absurd he q)
theorem law_c14 {xs : Nat → Int32} {i L : Nat} {D : Mem} {S : St} (h1 : INV1 D S) (h2 : INV2 D S) (hx : D 2003 = xs) (hl : D 2004 0 = nI L) (hi : i + 6 ≤ L) (hL : L ≤ 3072) (K : ∀ D' S', INV1 D' S' → INV2 D' S' → D' 2003 = xs → D' 2004 0 = nI L → X 23 138 j_L_law 1151 (LSL i) [] (138, P0, D') QL) : X 23 138 j_L_law 602 (LSL i) [] (138, P0, D) QL := by
  refine X_aload_n (nx := 603) dL_law_602 rfl rfl rfl ?_
  refine L_arg (k := 1) hx hl hi hL (by decide) dL_law_603 rfl dL_law_604 rfl dL_law_605 rfl (by decide) dL_law_606 rfl dL_law_607 rfl ?_
  refine L_arg (k := 2) hx hl hi hL (by decide) dL_law_608 rfl dL_law_609 rfl dL_law_610 rfl (by decide) dL_law_611 rfl dL_law_612 rfl ?_
  refine Z_Vi2 (nx := 616) dL_law_613 rfl ml_RL_73 kj_X7_brought kv_X7_brought (sp_X7_brought h1) (by first | assumption | rfl | decide | omega) (by first | assumption | rfl | decide | omega) (by decide) rfl (by decide) (by exact Nat.le_of_ble_eq_true rfl) (fun u1 D1 g1 => ?_)
  obtain ⟨h2, hx, hl, hg⟩ := L_ck h2 g1 hx hl
  refine X_aload_n (nx := 617) dL_law_616 rfl rfl rfl ?_
  refine L_arg (k := 1) hx hl hi hL (by decide) dL_law_617 rfl dL_law_618 rfl dL_law_619 rfl (by decide) dL_law_620 rfl dL_law_621 rfl ?_
  refine L_arg (k := 2) hx hl hi hL (by decide) dL_law_622 rfl dL_law_623 rfl dL_law_624 rfl (by decide) dL_law_625 rfl dL_law_626 rfl ?_
  refine Z_Vi2 (nx := 630) dL_law_627 rfl ml_RL_76 kj_X8_brought kv_X8_brought (sp_X8_brought h2 h1.wf) (by first | assumption | rfl | decide | omega) (by first | assumption | rfl | decide | omega) (by decide) rfl (by decide) (by exact Nat.le_of_ble_eq_true rfl) (fun u2 D2 g2 => ?_)
  obtain ⟨he, k1, k2, k3, k4⟩ := hg g2
  exact X_icmp_eq (tgt := 1151) (nx := 633) dL_law_630 rfl rfl (fun _ => K _ _ k1 k2 k3 k4) (fun q => absurd he q)
theorem law_c15 {xs : Nat → Int32} {i L : Nat} {D : Mem} {S : St} (h1 : INV1 D S) (h2 : INV2 D S) (hx : D 2003 = xs) (hl : D 2004 0 = nI L) (hi : i + 6 ≤ L) (hL : L ≤ 3072) (K : ∀ D' S', INV1 D' S' → INV2 D' S' → D' 2003 = xs → D' 2004 0 = nI L → X 23 138 j_L_law 1151 (LSL i) [] (138, P0, D') QL) : X 23 138 j_L_law 635 (LSL i) [] (138, P0, D) QL := by
  refine X_aload_n (nx := 636) dL_law_635 rfl rfl rfl ?_
  refine Z_Vi0 (nx := 639) dL_law_636 rfl ml_RL_77 kj_X7_never kv_X7_never (sp_X7_never h1) (by first | assumption | rfl | decide | omega) (by first | assumption | rfl | decide | omega) (by decide) rfl (by decide) (by exact Nat.le_of_ble_eq_true rfl) (fun u1 D1 g1 => ?_)
  obtain ⟨h2, hx, hl, hg⟩ := L_ck h2 g1 hx hl
  refine X_aload_n (nx := 640) dL_law_639 rfl rfl rfl ?_
  refine Z_Vi0 (nx := 643) dL_law_640 rfl ml_RL_80 kj_X8_never kv_X8_never (sp_X8_never h2 h1.wf) (by first | assumption | rfl | decide | omega) (by first | assumption | rfl | decide | omega) (by decide) rfl (by decide) (by exact Nat.le_of_ble_eq_true rfl) (fun u2 D2 g2 => ?_)
  obtain ⟨he, k1, k2, k3, k4⟩ := hg g2
  exact X_icmp_eq (tgt := 1151) (nx := 646) dL_law_643 rfl rfl (fun _ => K _ _ k1 k2 k3 k4) (fun q => absurd he q)
theorem law_c16 {xs : Nat → Int32} {i L : Nat} {D : Mem} {S : St} (h1 : INV1 D S) (h2 : INV2 D S) (hx : D 2003 = xs) (hl : D 2004 0 = nI L) (hi : i + 6 ≤ L) (hL : L ≤ 3072) (K : ∀ D' S', INV1 D' S' → INV2 D' S' → D' 2003 = xs → D' 2004 0 = nI L → X 23 138 j_L_law 1151 (LSL i) [] (138, P0, D') QL) : X 23 138 j_L_law 648 (LSL i) [] (138, P0, D) QL := by
  refine X_aload_n (nx := 649) dL_law_648 rfl rfl rfl ?_
  refine L_arg (k := 1) hx hl hi hL (by decide) dL_law_649 rfl dL_law_650 rfl dL_law_651 rfl (by decide) dL_law_652 rfl dL_law_653 rfl ?_
  refine Z_Vi1 (nx := 657) dL_law_654 rfl ml_RL_81 kj_X7_matched kv_X7_matched (sp_X7_matched h1) (by first | assumption | rfl | decide | omega) (by first | assumption | rfl | decide | omega) (by decide) rfl (by decide) (by exact Nat.le_of_ble_eq_true rfl) (fun u1 D1 g1 => ?_)
  obtain ⟨h2, hx, hl, hg⟩ := L_ck h2 g1 hx hl
  refine X_aload_n (nx := 658) dL_law_657 rfl rfl rfl ?_
  refine L_arg (k := 1) hx hl hi hL (by decide) dL_law_658 rfl dL_law_659 rfl dL_law_660 rfl (by decide) dL_law_661 rfl dL_law_662 rfl ?_
  refine Z_Vi1 (nx := 666) dL_law_663 rfl ml_RL_84 kj_X8_matched kv_X8_matched (sp_X8_matched h2 h1.wf) (by first | assumption | rfl | decide | omega) (by first | assumption | rfl | decide | omega) (by decide) rfl (by decide) (by exact Nat.le_of_ble_eq_true rfl) (fun u2 D2 g2 => ?_)
  obtain ⟨he, k1, k2, k3, k4⟩ := hg g2
  exact X_icmp_eq (tgt := 1151) (nx := 669) dL_law_666 rfl rfl (fun _ => K _ _ k1 k2 k3 k4) (fun q => absurd he q)
