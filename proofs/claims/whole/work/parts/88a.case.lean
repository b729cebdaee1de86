set_option maxRecDepth 100000 in
set_option maxHeartbeats 4000000 in
theorem lc_man {l : Launch} {X : gX} {E : gE} {a b : Nat → Nat} {c d : Cor} {g : Gar} {h : Mar} {b0 L i : Nat} {xs : Nat → Int32} {x : Int32} (cx : gC l X room_1 4 cL_law RL wsL_law E) (hX : gS X b0 L xs) (hL : L ≤ 3072) (hi : i + 6 ≤ L) (hx : x = nI i) (hr : Rel c d) (kk : ∀ (c' d' : Cor) (g' : Gar) (h' : Mar), Rel c' d' → gG X 40 954 (xW E a c' g' ++ mW E b d' h') 1312 [(0, .ref b0), (1, .ref (a 0)), (2, .ref (b 0)), (3, .int x)] []) : gG X 40 954 (xW E a c g ++ mW E b d h) 204 [(0, .ref b0), (1, .ref (a 0)), (2, .ref (b 0)), (3, .int x)] [] := by
  refine g_aload_n cx dL_law_204 1 rfl ?_
  refine g_aload_n cx dL_law_205 0 rfl ?_
  refine g_iload_n cx dL_law_206 3 rfl ?_
  refine g_iconst (v := 1) cx dL_law_207 (by decide) ?_
  refine g_iadd cx dL_law_208 ?_
  refine g_sld cx hX (sc_in hx hi hL 1 (by decide)) dL_law_209 ?_
  refine g_aload_n cx dL_law_210 0 rfl ?_
  refine g_iload_n cx dL_law_211 3 rfl ?_
  refine g_iconst (v := 2) cx dL_law_212 (by decide) ?_
  refine g_iadd cx dL_law_213 ?_
  refine g_sld cx hX (sc_in hx hi hL 2 (by decide)) dL_law_214 ?_
  refine g_LXi (rest := []) (As := [.int (xs (x + 1 : Int32).toNatClampNeg), .int (xs (x + 2 : Int32).toNatClampNeg)]) cx hYX5_man gL_law_X5_man (c_X5_man l E a c g (xs (x + 1 : Int32).toNatClampNeg) (xs (x + 2 : Int32).toNatClampNeg) hr.1) rfl ⟨Nat.le_of_ble_eq_true rfl, Nat.le_of_ble_eq_true rfl⟩ rfl rfl (Nat.le_of_ble_eq_true rfl) rfl rfl (Nat.le_of_ble_eq_true rfl) (Nat.le_of_ble_eq_true rfl) dL_law_215 (fun g1 => ?_)
  refine g_aload_n cx dL_law_218 2 rfl ?_
  refine g_aload_n cx dL_law_219 0 rfl ?_
  refine g_iload_n cx dL_law_220 3 rfl ?_
  refine g_iconst (v := 1) cx dL_law_221 (by decide) ?_
  refine g_iadd cx dL_law_222 ?_
  refine g_sld cx hX (sc_in hx hi hL 1 (by decide)) dL_law_223 ?_
  refine g_aload_n cx dL_law_224 0 rfl ?_
  refine g_iload_n cx dL_law_225 3 rfl ?_
  refine g_iconst (v := 2) cx dL_law_226 (by decide) ?_
  refine g_iadd cx dL_law_227 ?_
  refine g_sld cx hX (sc_in hx hi hL 2 (by decide)) dL_law_228 ?_
  refine g_LMi (rest := [.int ((sp_man c (xs (x + 1 : Int32).toNatClampNeg) (xs (x + 2 : Int32).toNatClampNeg)).1)]) (As := [.int (xs (x + 1 : Int32).toNatClampNeg), .int (xs (x + 2 : Int32).toNatClampNeg)]) cx hYX6_man gL_law_X6_man (c_X6_man l E b d h (xs (x + 1 : Int32).toNatClampNeg) (xs (x + 2 : Int32).toNatClampNeg) hr.2.1) rfl ⟨Nat.le_of_ble_eq_true rfl, Nat.le_of_ble_eq_true rfl⟩ rfl rfl (Nat.le_of_ble_eq_true rfl) rfl rfl (Nat.le_of_ble_eq_true rfl) (Nat.le_of_ble_eq_true rfl) dL_law_229 (fun g2 => ?_)
  refine g_icmp_eq (tgt := 1312) cx dL_law_232 (by decide) (fun _ => ?_) (fun q => absurd (re_man hr (xs (x + 1 : Int32).toNatClampNeg) (xs (x + 2 : Int32).toNatClampNeg)).1 q)
  exact kk _ _ _ _ (re_man hr (xs (x + 1 : Int32).toNatClampNeg) (xs (x + 2 : Int32).toNatClampNeg)).2

set_option maxRecDepth 100000 in
set_option maxHeartbeats 4000000 in
theorem lc_now {l : Launch} {X : gX} {E : gE} {a b : Nat → Nat} {c d : Cor} {g : Gar} {h : Mar} {b0 L i : Nat} {xs : Nat → Int32} {x : Int32} (cx : gC l X room_1 4 cL_law RL wsL_law E) (hX : gS X b0 L xs) (hL : L ≤ 3072) (hi : i + 6 ≤ L) (hx : x = nI i) (hr : Rel c d) (kk : ∀ (c' d' : Cor) (g' : Gar) (h' : Mar), Rel c' d' → gG X 40 954 (xW E a c' g' ++ mW E b d' h') 1312 [(0, .ref b0), (1, .ref (a 0)), (2, .ref (b 0)), (3, .int x)] []) : gG X 40 954 (xW E a c g ++ mW E b d h) 237 [(0, .ref b0), (1, .ref (a 0)), (2, .ref (b 0)), (3, .int x)] [] := by
  refine g_aload_n cx dL_law_237 1 rfl ?_
  refine g_aload_n cx dL_law_238 0 rfl ?_
  refine g_iload_n cx dL_law_239 3 rfl ?_
  refine g_iconst (v := 1) cx dL_law_240 (by decide) ?_
  refine g_iadd cx dL_law_241 ?_
  refine g_sld cx hX (sc_in hx hi hL 1 (by decide)) dL_law_242 ?_
  refine g_LXi (rest := []) (As := [.int (xs (x + 1 : Int32).toNatClampNeg)]) cx hYX5_now gL_law_X5_now (c_X5_now l E a c g (xs (x + 1 : Int32).toNatClampNeg) hr.1) rfl ⟨Nat.le_of_ble_eq_true rfl, Nat.le_of_ble_eq_true rfl⟩ rfl rfl (Nat.le_of_ble_eq_true rfl) rfl rfl (Nat.le_of_ble_eq_true rfl) (Nat.le_of_ble_eq_true rfl) dL_law_243 (fun g1 => ?_)
  refine g_aload_n cx dL_law_246 2 rfl ?_
  refine g_aload_n cx dL_law_247 0 rfl ?_
  refine g_iload_n cx dL_law_248 3 rfl ?_
  refine g_iconst (v := 1) cx dL_law_249 (by decide) ?_
  refine g_iadd cx dL_law_250 ?_
  refine g_sld cx hX (sc_in hx hi hL 1 (by decide)) dL_law_251 ?_
  refine g_LMi (rest := [.int ((sp_now c (xs (x + 1 : Int32).toNatClampNeg)).1)]) (As := [.int (xs (x + 1 : Int32).toNatClampNeg)]) cx hYX6_now gL_law_X6_now (c_X6_now l E b d h (xs (x + 1 : Int32).toNatClampNeg) hr.2.1) rfl ⟨Nat.le_of_ble_eq_true rfl, Nat.le_of_ble_eq_true rfl⟩ rfl rfl (Nat.le_of_ble_eq_true rfl) rfl rfl (Nat.le_of_ble_eq_true rfl) (Nat.le_of_ble_eq_true rfl) dL_law_252 (fun g2 => ?_)
  refine g_icmp_eq (tgt := 1312) cx dL_law_255 (by decide) (fun _ => ?_) (fun q => absurd (re_now hr (xs (x + 1 : Int32).toNatClampNeg)).1 q)
  exact kk _ _ _ _ (re_now hr (xs (x + 1 : Int32).toNatClampNeg)).2

set_option maxRecDepth 100000 in
set_option maxHeartbeats 4000000 in
theorem lc_of {l : Launch} {X : gX} {E : gE} {a b : Nat → Nat} {c d : Cor} {g : Gar} {h : Mar} {b0 L i : Nat} {xs : Nat → Int32} {x : Int32} (cx : gC l X room_1 4 cL_law RL wsL_law E) (hX : gS X b0 L xs) (hL : L ≤ 3072) (hi : i + 6 ≤ L) (hx : x = nI i) (hr : Rel c d) (kk : ∀ (c' d' : Cor) (g' : Gar) (h' : Mar), Rel c' d' → gG X 40 954 (xW E a c' g' ++ mW E b d' h') 1312 [(0, .ref b0), (1, .ref (a 0)), (2, .ref (b 0)), (3, .int x)] []) : gG X 40 954 (xW E a c g ++ mW E b d h) 260 [(0, .ref b0), (1, .ref (a 0)), (2, .ref (b 0)), (3, .int x)] [] := by
  refine g_aload_n cx dL_law_260 1 rfl ?_
  refine g_aload_n cx dL_law_261 0 rfl ?_
  refine g_iload_n cx dL_law_262 3 rfl ?_
  refine g_iconst (v := 1) cx dL_law_263 (by decide) ?_
  refine g_iadd cx dL_law_264 ?_
  refine g_sld cx hX (sc_in hx hi hL 1 (by decide)) dL_law_265 ?_
  refine g_aload_n cx dL_law_266 0 rfl ?_
  refine g_iload_n cx dL_law_267 3 rfl ?_
  refine g_iconst (v := 2) cx dL_law_268 (by decide) ?_
  refine g_iadd cx dL_law_269 ?_
  refine g_sld cx hX (sc_in hx hi hL 2 (by decide)) dL_law_270 ?_
  refine g_LXi (rest := []) (As := [.int (xs (x + 1 : Int32).toNatClampNeg), .int (xs (x + 2 : Int32).toNatClampNeg)]) cx hYX5_of gL_law_X5_of (c_X5_of l E a c g (xs (x + 1 : Int32).toNatClampNeg) (xs (x + 2 : Int32).toNatClampNeg) hr.1) rfl ⟨Nat.le_of_ble_eq_true rfl, Nat.le_of_ble_eq_true rfl⟩ rfl rfl (Nat.le_of_ble_eq_true rfl) rfl rfl (Nat.le_of_ble_eq_true rfl) (Nat.le_of_ble_eq_true rfl) dL_law_271 (fun g1 => ?_)
  refine g_aload_n cx dL_law_274 2 rfl ?_
  refine g_aload_n cx dL_law_275 0 rfl ?_
  refine g_iload_n cx dL_law_276 3 rfl ?_
  refine g_iconst (v := 1) cx dL_law_277 (by decide) ?_
  refine g_iadd cx dL_law_278 ?_
  refine g_sld cx hX (sc_in hx hi hL 1 (by decide)) dL_law_279 ?_
  refine g_aload_n cx dL_law_280 0 rfl ?_
  refine g_iload_n cx dL_law_281 3 rfl ?_
  refine g_iconst (v := 2) cx dL_law_282 (by decide) ?_
  refine g_iadd cx dL_law_283 ?_
  refine g_sld cx hX (sc_in hx hi hL 2 (by decide)) dL_law_284 ?_
  refine g_LMi (rest := [.int ((sp_of c (xs (x + 1 : Int32).toNatClampNeg) (xs (x + 2 : Int32).toNatClampNeg)).1)]) (As := [.int (xs (x + 1 : Int32).toNatClampNeg), .int (xs (x + 2 : Int32).toNatClampNeg)]) cx hYX6_of gL_law_X6_of (c_X6_of l E b d h (xs (x + 1 : Int32).toNatClampNeg) (xs (x + 2 : Int32).toNatClampNeg) hr.2.1) rfl ⟨Nat.le_of_ble_eq_true rfl, Nat.le_of_ble_eq_true rfl⟩ rfl rfl (Nat.le_of_ble_eq_true rfl) rfl rfl (Nat.le_of_ble_eq_true rfl) (Nat.le_of_ble_eq_true rfl) dL_law_285 (fun g2 => ?_)
  refine g_icmp_eq (tgt := 1312) cx dL_law_288 (by decide) (fun _ => ?_) (fun q => absurd (re_of hr (xs (x + 1 : Int32).toNatClampNeg) (xs (x + 2 : Int32).toNatClampNeg)).1 q)
  exact kk _ _ _ _ (re_of hr (xs (x + 1 : Int32).toNatClampNeg) (xs (x + 2 : Int32).toNatClampNeg)).2

set_option maxRecDepth 100000 in
set_option maxHeartbeats 4000000 in
theorem lc_minds {l : Launch} {X : gX} {E : gE} {a b : Nat → Nat} {c d : Cor} {g : Gar} {h : Mar} {b0 L i : Nat} {xs : Nat → Int32} {x : Int32} (cx : gC l X room_1 4 cL_law RL wsL_law E) (hX : gS X b0 L xs) (hL : L ≤ 3072) (hi : i + 6 ≤ L) (hx : x = nI i) (hr : Rel c d) (kk : ∀ (c' d' : Cor) (g' : Gar) (h' : Mar), Rel c' d' → gG X 40 954 (xW E a c' g' ++ mW E b d' h') 1312 [(0, .ref b0), (1, .ref (a 0)), (2, .ref (b 0)), (3, .int x)] []) : gG X 40 954 (xW E a c g ++ mW E b d h) 293 [(0, .ref b0), (1, .ref (a 0)), (2, .ref (b 0)), (3, .int x)] [] := by
  refine g_aload_n cx dL_law_293 1 rfl ?_
  refine g_aload_n cx dL_law_294 0 rfl ?_
  refine g_iload_n cx dL_law_295 3 rfl ?_
  refine g_iconst (v := 1) cx dL_law_296 (by decide) ?_
  refine g_iadd cx dL_law_297 ?_
  refine g_sld cx hX (sc_in hx hi hL 1 (by decide)) dL_law_298 ?_
  refine g_aload_n cx dL_law_299 0 rfl ?_
  refine g_iload_n cx dL_law_300 3 rfl ?_
  refine g_iconst (v := 2) cx dL_law_301 (by decide) ?_
  refine g_iadd cx dL_law_302 ?_
  refine g_sld cx hX (sc_in hx hi hL 2 (by decide)) dL_law_303 ?_
  refine g_LXi (rest := []) (As := [.int (xs (x + 1 : Int32).toNatClampNeg), .int (xs (x + 2 : Int32).toNatClampNeg)]) cx hYX5_minds gL_law_X5_minds (c_X5_minds l E a c g (xs (x + 1 : Int32).toNatClampNeg) (xs (x + 2 : Int32).toNatClampNeg) hr.1) rfl ⟨Nat.le_of_ble_eq_true rfl, Nat.le_of_ble_eq_true rfl⟩ rfl rfl (Nat.le_of_ble_eq_true rfl) rfl rfl (Nat.le_of_ble_eq_true rfl) (Nat.le_of_ble_eq_true rfl) dL_law_304 (fun g1 => ?_)
  refine g_aload_n cx dL_law_307 2 rfl ?_
  refine g_aload_n cx dL_law_308 0 rfl ?_
  refine g_iload_n cx dL_law_309 3 rfl ?_
  refine g_iconst (v := 1) cx dL_law_310 (by decide) ?_
  refine g_iadd cx dL_law_311 ?_
  refine g_sld cx hX (sc_in hx hi hL 1 (by decide)) dL_law_312 ?_
  refine g_aload_n cx dL_law_313 0 rfl ?_
  refine g_iload_n cx dL_law_314 3 rfl ?_
  refine g_iconst (v := 2) cx dL_law_315 (by decide) ?_
  refine g_iadd cx dL_law_316 ?_
  refine g_sld cx hX (sc_in hx hi hL 2 (by decide)) dL_law_317 ?_
  refine g_LMi (rest := [.int ((sp_minds c (xs (x + 1 : Int32).toNatClampNeg) (xs (x + 2 : Int32).toNatClampNeg)).1)]) (As := [.int (xs (x + 1 : Int32).toNatClampNeg), .int (xs (x + 2 : Int32).toNatClampNeg)]) cx hYX6_minds gL_law_X6_minds (c_X6_minds l E b d h (xs (x + 1 : Int32).toNatClampNeg) (xs (x + 2 : Int32).toNatClampNeg) hr.2.1) rfl ⟨Nat.le_of_ble_eq_true rfl, Nat.le_of_ble_eq_true rfl⟩ rfl rfl (Nat.le_of_ble_eq_true rfl) rfl rfl (Nat.le_of_ble_eq_true rfl) (Nat.le_of_ble_eq_true rfl) dL_law_318 (fun g2 => ?_)
  refine g_icmp_eq (tgt := 1312) cx dL_law_321 (by decide) (fun _ => ?_) (fun q => absurd (re_minds hr (xs (x + 1 : Int32).toNatClampNeg) (xs (x + 2 : Int32).toNatClampNeg)).1 q)
  exact kk _ _ _ _ (re_minds hr (xs (x + 1 : Int32).toNatClampNeg) (xs (x + 2 : Int32).toNatClampNeg)).2

set_option maxRecDepth 100000 in
set_option maxHeartbeats 4000000 in
theorem lc_buys {l : Launch} {X : gX} {E : gE} {a b : Nat → Nat} {c d : Cor} {g : Gar} {h : Mar} {b0 L i : Nat} {xs : Nat → Int32} {x : Int32} (cx : gC l X room_1 4 cL_law RL wsL_law E) (hX : gS X b0 L xs) (hL : L ≤ 3072) (hi : i + 6 ≤ L) (hx : x = nI i) (hr : Rel c d) (kk : ∀ (c' d' : Cor) (g' : Gar) (h' : Mar), Rel c' d' → gG X 40 954 (xW E a c' g' ++ mW E b d' h') 1312 [(0, .ref b0), (1, .ref (a 0)), (2, .ref (b 0)), (3, .int x)] []) : gG X 40 954 (xW E a c g ++ mW E b d h) 326 [(0, .ref b0), (1, .ref (a 0)), (2, .ref (b 0)), (3, .int x)] [] := by
  refine g_aload_n cx dL_law_326 1 rfl ?_
  refine g_aload_n cx dL_law_327 0 rfl ?_
  refine g_iload_n cx dL_law_328 3 rfl ?_
  refine g_iconst (v := 1) cx dL_law_329 (by decide) ?_
  refine g_iadd cx dL_law_330 ?_
  refine g_sld cx hX (sc_in hx hi hL 1 (by decide)) dL_law_331 ?_
  refine g_aload_n cx dL_law_332 0 rfl ?_
  refine g_iload_n cx dL_law_333 3 rfl ?_
  refine g_iconst (v := 2) cx dL_law_334 (by decide) ?_
  refine g_iadd cx dL_law_335 ?_
  refine g_sld cx hX (sc_in hx hi hL 2 (by decide)) dL_law_336 ?_
  refine g_LXi (rest := []) (As := [.int (xs (x + 1 : Int32).toNatClampNeg), .int (xs (x + 2 : Int32).toNatClampNeg)]) cx hYX5_buys gL_law_X5_buys (c_X5_buys l E a c g (xs (x + 1 : Int32).toNatClampNeg) (xs (x + 2 : Int32).toNatClampNeg) hr.1) rfl ⟨Nat.le_of_ble_eq_true rfl, Nat.le_of_ble_eq_true rfl⟩ rfl rfl (Nat.le_of_ble_eq_true rfl) rfl rfl (Nat.le_of_ble_eq_true rfl) (Nat.le_of_ble_eq_true rfl) dL_law_337 (fun g1 => ?_)
  refine g_aload_n cx dL_law_340 2 rfl ?_
  refine g_aload_n cx dL_law_341 0 rfl ?_
  refine g_iload_n cx dL_law_342 3 rfl ?_
  refine g_iconst (v := 1) cx dL_law_343 (by decide) ?_
  refine g_iadd cx dL_law_344 ?_
  refine g_sld cx hX (sc_in hx hi hL 1 (by decide)) dL_law_345 ?_
  refine g_aload_n cx dL_law_346 0 rfl ?_
  refine g_iload_n cx dL_law_347 3 rfl ?_
  refine g_iconst (v := 2) cx dL_law_348 (by decide) ?_
  refine g_iadd cx dL_law_349 ?_
  refine g_sld cx hX (sc_in hx hi hL 2 (by decide)) dL_law_350 ?_
  refine g_LMi (rest := [.int ((sp_buys c (xs (x + 1 : Int32).toNatClampNeg) (xs (x + 2 : Int32).toNatClampNeg)).1)]) (As := [.int (xs (x + 1 : Int32).toNatClampNeg), .int (xs (x + 2 : Int32).toNatClampNeg)]) cx hYX6_buys gL_law_X6_buys (c_X6_buys l E b d h (xs (x + 1 : Int32).toNatClampNeg) (xs (x + 2 : Int32).toNatClampNeg) hr.2.1) rfl ⟨Nat.le_of_ble_eq_true rfl, Nat.le_of_ble_eq_true rfl⟩ rfl rfl (Nat.le_of_ble_eq_true rfl) rfl rfl (Nat.le_of_ble_eq_true rfl) (Nat.le_of_ble_eq_true rfl) dL_law_351 (fun g2 => ?_)
  refine g_icmp_eq (tgt := 1312) cx dL_law_354 (by decide) (fun _ => ?_) (fun q => absurd (re_buys hr (xs (x + 1 : Int32).toNatClampNeg) (xs (x + 2 : Int32).toNatClampNeg)).1 q)
  exact kk _ _ _ _ (re_buys hr (xs (x + 1 : Int32).toNatClampNeg) (xs (x + 2 : Int32).toNatClampNeg)).2

set_option maxRecDepth 100000 in
set_option maxHeartbeats 4000000 in
theorem lc_set {l : Launch} {X : gX} {E : gE} {a b : Nat → Nat} {c d : Cor} {g : Gar} {h : Mar} {b0 L i : Nat} {xs : Nat → Int32} {x : Int32} (cx : gC l X room_1 4 cL_law RL wsL_law E) (hX : gS X b0 L xs) (hL : L ≤ 3072) (hi : i + 6 ≤ L) (hx : x = nI i) (hr : Rel c d) (kk : ∀ (c' d' : Cor) (g' : Gar) (h' : Mar), Rel c' d' → gG X 40 954 (xW E a c' g' ++ mW E b d' h') 1312 [(0, .ref b0), (1, .ref (a 0)), (2, .ref (b 0)), (3, .int x)] []) : gG X 40 954 (xW E a c g ++ mW E b d h) 359 [(0, .ref b0), (1, .ref (a 0)), (2, .ref (b 0)), (3, .int x)] [] := by
  refine g_aload_n cx dL_law_359 1 rfl ?_
  refine g_aload_n cx dL_law_360 0 rfl ?_
  refine g_iload_n cx dL_law_361 3 rfl ?_
  refine g_iconst (v := 1) cx dL_law_362 (by decide) ?_
  refine g_iadd cx dL_law_363 ?_
  refine g_sld cx hX (sc_in hx hi hL 1 (by decide)) dL_law_364 ?_
  refine g_aload_n cx dL_law_365 0 rfl ?_
  refine g_iload_n cx dL_law_366 3 rfl ?_
  refine g_iconst (v := 2) cx dL_law_367 (by decide) ?_
  refine g_iadd cx dL_law_368 ?_
  refine g_sld cx hX (sc_in hx hi hL 2 (by decide)) dL_law_369 ?_
  refine g_aload_n cx dL_law_370 0 rfl ?_
  refine g_iload_n cx dL_law_371 3 rfl ?_
  refine g_iconst (v := 3) cx dL_law_372 (by decide) ?_
  refine g_iadd cx dL_law_373 ?_
  refine g_sld cx hX (sc_in hx hi hL 3 (by decide)) dL_law_374 ?_
  refine g_LXi (rest := []) (As := [.int (xs (x + 1 : Int32).toNatClampNeg), .int (xs (x + 2 : Int32).toNatClampNeg), .int (xs (x + 3 : Int32).toNatClampNeg)]) cx hYX5_set gL_law_X5_set (c_X5_set l E a c g (xs (x + 1 : Int32).toNatClampNeg) (xs (x + 2 : Int32).toNatClampNeg) (xs (x + 3 : Int32).toNatClampNeg) hr.1) rfl ⟨Nat.le_of_ble_eq_true rfl, Nat.le_of_ble_eq_true rfl⟩ rfl rfl (Nat.le_of_ble_eq_true rfl) rfl rfl (Nat.le_of_ble_eq_true rfl) (Nat.le_of_ble_eq_true rfl) dL_law_375 (fun g1 => ?_)
  refine g_aload_n cx dL_law_378 2 rfl ?_
  refine g_aload_n cx dL_law_379 0 rfl ?_
  refine g_iload_n cx dL_law_380 3 rfl ?_
  refine g_iconst (v := 1) cx dL_law_381 (by decide) ?_
  refine g_iadd cx dL_law_382 ?_
  refine g_sld cx hX (sc_in hx hi hL 1 (by decide)) dL_law_383 ?_
  refine g_aload_n cx dL_law_384 0 rfl ?_
  refine g_iload_n cx dL_law_385 3 rfl ?_
  refine g_iconst (v := 2) cx dL_law_386 (by decide) ?_
  refine g_iadd cx dL_law_387 ?_
  refine g_sld cx hX (sc_in hx hi hL 2 (by decide)) dL_law_388 ?_
  refine g_aload_n cx dL_law_389 0 rfl ?_
  refine g_iload_n cx dL_law_390 3 rfl ?_
  refine g_iconst (v := 3) cx dL_law_391 (by decide) ?_
  refine g_iadd cx dL_law_392 ?_
  refine g_sld cx hX (sc_in hx hi hL 3 (by decide)) dL_law_393 ?_
  refine g_LMi (rest := [.int ((sp_set c (xs (x + 1 : Int32).toNatClampNeg) (xs (x + 2 : Int32).toNatClampNeg) (xs (x + 3 : Int32).toNatClampNeg)).1)]) (As := [.int (xs (x + 1 : Int32).toNatClampNeg), .int (xs (x + 2 : Int32).toNatClampNeg), .int (xs (x + 3 : Int32).toNatClampNeg)]) cx hYX6_set gL_law_X6_set (c_X6_set l E b d h (xs (x + 1 : Int32).toNatClampNeg) (xs (x + 2 : Int32).toNatClampNeg) (xs (x + 3 : Int32).toNatClampNeg) hr.2.1) rfl ⟨Nat.le_of_ble_eq_true rfl, Nat.le_of_ble_eq_true rfl⟩ rfl rfl (Nat.le_of_ble_eq_true rfl) rfl rfl (Nat.le_of_ble_eq_true rfl) (Nat.le_of_ble_eq_true rfl) dL_law_394 (fun g2 => ?_)
  refine g_icmp_eq (tgt := 1312) cx dL_law_397 (by decide) (fun _ => ?_) (fun q => absurd (re_set hr (xs (x + 1 : Int32).toNatClampNeg) (xs (x + 2 : Int32).toNatClampNeg) (xs (x + 3 : Int32).toNatClampNeg)).1 q)
  exact kk _ _ _ _ (re_set hr (xs (x + 1 : Int32).toNatClampNeg) (xs (x + 2 : Int32).toNatClampNeg) (xs (x + 3 : Int32).toNatClampNeg)).2

set_option maxRecDepth 100000 in
set_option maxHeartbeats 4000000 in
theorem lc_turn {l : Launch} {X : gX} {E : gE} {a b : Nat → Nat} {c d : Cor} {g : Gar} {h : Mar} {b0 L i : Nat} {xs : Nat → Int32} {x : Int32} (cx : gC l X room_1 4 cL_law RL wsL_law E) (hX : gS X b0 L xs) (hL : L ≤ 3072) (hi : i + 6 ≤ L) (hx : x = nI i) (hr : Rel c d) (kk : ∀ (c' d' : Cor) (g' : Gar) (h' : Mar), Rel c' d' → gG X 40 954 (xW E a c' g' ++ mW E b d' h') 1312 [(0, .ref b0), (1, .ref (a 0)), (2, .ref (b 0)), (3, .int x)] []) : gG X 40 954 (xW E a c g ++ mW E b d h) 402 [(0, .ref b0), (1, .ref (a 0)), (2, .ref (b 0)), (3, .int x)] [] := by
  refine g_aload_n cx dL_law_402 1 rfl ?_
  refine g_aload_n cx dL_law_403 0 rfl ?_
  refine g_iload_n cx dL_law_404 3 rfl ?_
  refine g_iconst (v := 1) cx dL_law_405 (by decide) ?_
  refine g_iadd cx dL_law_406 ?_
  refine g_sld cx hX (sc_in hx hi hL 1 (by decide)) dL_law_407 ?_
  refine g_aload_n cx dL_law_408 0 rfl ?_
  refine g_iload_n cx dL_law_409 3 rfl ?_
  refine g_iconst (v := 2) cx dL_law_410 (by decide) ?_
  refine g_iadd cx dL_law_411 ?_
  refine g_sld cx hX (sc_in hx hi hL 2 (by decide)) dL_law_412 ?_
  refine g_LXi (rest := []) (As := [.int (xs (x + 1 : Int32).toNatClampNeg), .int (xs (x + 2 : Int32).toNatClampNeg)]) cx hYX5_turn gL_law_X5_turn (c_X5_turn l E a c g (xs (x + 1 : Int32).toNatClampNeg) (xs (x + 2 : Int32).toNatClampNeg) hr.1) rfl ⟨Nat.le_of_ble_eq_true rfl, Nat.le_of_ble_eq_true rfl⟩ rfl rfl (Nat.le_of_ble_eq_true rfl) rfl rfl (Nat.le_of_ble_eq_true rfl) (Nat.le_of_ble_eq_true rfl) dL_law_413 (fun g1 => ?_)
  refine g_aload_n cx dL_law_416 2 rfl ?_
  refine g_aload_n cx dL_law_417 0 rfl ?_
  refine g_iload_n cx dL_law_418 3 rfl ?_
  refine g_iconst (v := 1) cx dL_law_419 (by decide) ?_
  refine g_iadd cx dL_law_420 ?_
  refine g_sld cx hX (sc_in hx hi hL 1 (by decide)) dL_law_421 ?_
  refine g_aload_n cx dL_law_422 0 rfl ?_
  refine g_iload_n cx dL_law_423 3 rfl ?_
  refine g_iconst (v := 2) cx dL_law_424 (by decide) ?_
  refine g_iadd cx dL_law_425 ?_
  refine g_sld cx hX (sc_in hx hi hL 2 (by decide)) dL_law_426 ?_
  refine g_LMi (rest := [.int ((sp_turn c (xs (x + 1 : Int32).toNatClampNeg) (xs (x + 2 : Int32).toNatClampNeg)).1)]) (As := [.int (xs (x + 1 : Int32).toNatClampNeg), .int (xs (x + 2 : Int32).toNatClampNeg)]) cx hYX6_turn gL_law_X6_turn (c_X6_turn l E b d h (xs (x + 1 : Int32).toNatClampNeg) (xs (x + 2 : Int32).toNatClampNeg) hr.2.1) rfl ⟨Nat.le_of_ble_eq_true rfl, Nat.le_of_ble_eq_true rfl⟩ rfl rfl (Nat.le_of_ble_eq_true rfl) rfl rfl (Nat.le_of_ble_eq_true rfl) (Nat.le_of_ble_eq_true rfl) dL_law_427 (fun g2 => ?_)
  refine g_icmp_eq (tgt := 1312) cx dL_law_430 (by decide) (fun _ => ?_) (fun q => absurd (re_turn hr (xs (x + 1 : Int32).toNatClampNeg) (xs (x + 2 : Int32).toNatClampNeg)).1 q)
  exact kk _ _ _ _ (re_turn hr (xs (x + 1 : Int32).toNatClampNeg) (xs (x + 2 : Int32).toNatClampNeg)).2

set_option maxRecDepth 100000 in
set_option maxHeartbeats 4000000 in
theorem lc_as {l : Launch} {X : gX} {E : gE} {a b : Nat → Nat} {c d : Cor} {g : Gar} {h : Mar} {b0 L i : Nat} {xs : Nat → Int32} {x : Int32} (cx : gC l X room_1 4 cL_law RL wsL_law E) (hX : gS X b0 L xs) (hL : L ≤ 3072) (hi : i + 6 ≤ L) (hx : x = nI i) (hr : Rel c d) (kk : ∀ (c' d' : Cor) (g' : Gar) (h' : Mar), Rel c' d' → gG X 40 954 (xW E a c' g' ++ mW E b d' h') 1312 [(0, .ref b0), (1, .ref (a 0)), (2, .ref (b 0)), (3, .int x)] []) : gG X 40 954 (xW E a c g ++ mW E b d h) 435 [(0, .ref b0), (1, .ref (a 0)), (2, .ref (b 0)), (3, .int x)] [] := by
  refine g_aload_n cx dL_law_435 1 rfl ?_
  refine g_aload_n cx dL_law_436 0 rfl ?_
  refine g_iload_n cx dL_law_437 3 rfl ?_
  refine g_iconst (v := 1) cx dL_law_438 (by decide) ?_
  refine g_iadd cx dL_law_439 ?_
  refine g_sld cx hX (sc_in hx hi hL 1 (by decide)) dL_law_440 ?_
  refine g_aload_n cx dL_law_441 0 rfl ?_
  refine g_iload_n cx dL_law_442 3 rfl ?_
  refine g_iconst (v := 2) cx dL_law_443 (by decide) ?_
  refine g_iadd cx dL_law_444 ?_
  refine g_sld cx hX (sc_in hx hi hL 2 (by decide)) dL_law_445 ?_
  refine g_LXi (rest := []) (As := [.int (xs (x + 1 : Int32).toNatClampNeg), .int (xs (x + 2 : Int32).toNatClampNeg)]) cx hYX5_as gL_law_X5_as (c_X5_as l E a c g (xs (x + 1 : Int32).toNatClampNeg) (xs (x + 2 : Int32).toNatClampNeg) hr.1) rfl ⟨Nat.le_of_ble_eq_true rfl, Nat.le_of_ble_eq_true rfl⟩ rfl rfl (Nat.le_of_ble_eq_true rfl) rfl rfl (Nat.le_of_ble_eq_true rfl) (Nat.le_of_ble_eq_true rfl) dL_law_446 (fun g1 => ?_)
  refine g_aload_n cx dL_law_449 2 rfl ?_
  refine g_aload_n cx dL_law_450 0 rfl ?_
  refine g_iload_n cx dL_law_451 3 rfl ?_
  refine g_iconst (v := 1) cx dL_law_452 (by decide) ?_
  refine g_iadd cx dL_law_453 ?_
  refine g_sld cx hX (sc_in hx hi hL 1 (by decide)) dL_law_454 ?_
  refine g_aload_n cx dL_law_455 0 rfl ?_
  refine g_iload_n cx dL_law_456 3 rfl ?_
  refine g_iconst (v := 2) cx dL_law_457 (by decide) ?_
  refine g_iadd cx dL_law_458 ?_
  refine g_sld cx hX (sc_in hx hi hL 2 (by decide)) dL_law_459 ?_
  refine g_LMi (rest := [.int ((sp_as c (xs (x + 1 : Int32).toNatClampNeg) (xs (x + 2 : Int32).toNatClampNeg)).1)]) (As := [.int (xs (x + 1 : Int32).toNatClampNeg), .int (xs (x + 2 : Int32).toNatClampNeg)]) cx hYX6_as gL_law_X6_as (c_X6_as l E b d h (xs (x + 1 : Int32).toNatClampNeg) (xs (x + 2 : Int32).toNatClampNeg) hr.2.1) rfl ⟨Nat.le_of_ble_eq_true rfl, Nat.le_of_ble_eq_true rfl⟩ rfl rfl (Nat.le_of_ble_eq_true rfl) rfl rfl (Nat.le_of_ble_eq_true rfl) (Nat.le_of_ble_eq_true rfl) dL_law_460 (fun g2 => ?_)
  refine g_icmp_eq (tgt := 1312) cx dL_law_463 (by decide) (fun _ => ?_) (fun q => absurd (re_as hr (xs (x + 1 : Int32).toNatClampNeg) (xs (x + 2 : Int32).toNatClampNeg)).1 q)
  exact kk _ _ _ _ (re_as hr (xs (x + 1 : Int32).toNatClampNeg) (xs (x + 2 : Int32).toNatClampNeg)).2

set_option maxRecDepth 100000 in
set_option maxHeartbeats 4000000 in
theorem lc_move {l : Launch} {X : gX} {E : gE} {a b : Nat → Nat} {c d : Cor} {g : Gar} {h : Mar} {b0 L i : Nat} {xs : Nat → Int32} {x : Int32} (cx : gC l X room_1 4 cL_law RL wsL_law E) (hX : gS X b0 L xs) (hL : L ≤ 3072) (hi : i + 6 ≤ L) (hx : x = nI i) (hr : Rel c d) (kk : ∀ (c' d' : Cor) (g' : Gar) (h' : Mar), Rel c' d' → gG X 40 954 (xW E a c' g' ++ mW E b d' h') 1312 [(0, .ref b0), (1, .ref (a 0)), (2, .ref (b 0)), (3, .int x)] []) : gG X 40 954 (xW E a c g ++ mW E b d h) 468 [(0, .ref b0), (1, .ref (a 0)), (2, .ref (b 0)), (3, .int x)] [] := by
  refine g_aload_n cx dL_law_468 1 rfl ?_
  refine g_aload_n cx dL_law_469 0 rfl ?_
  refine g_iload_n cx dL_law_470 3 rfl ?_
  refine g_iconst (v := 1) cx dL_law_471 (by decide) ?_
  refine g_iadd cx dL_law_472 ?_
  refine g_sld cx hX (sc_in hx hi hL 1 (by decide)) dL_law_473 ?_
  refine g_aload_n cx dL_law_474 0 rfl ?_
  refine g_iload_n cx dL_law_475 3 rfl ?_
  refine g_iconst (v := 2) cx dL_law_476 (by decide) ?_
  refine g_iadd cx dL_law_477 ?_
  refine g_sld cx hX (sc_in hx hi hL 2 (by decide)) dL_law_478 ?_
  refine g_LXi (rest := []) (As := [.int (xs (x + 1 : Int32).toNatClampNeg), .int (xs (x + 2 : Int32).toNatClampNeg)]) cx hYX5_move gL_law_X5_move (c_X5_move l E a c g (xs (x + 1 : Int32).toNatClampNeg) (xs (x + 2 : Int32).toNatClampNeg) hr.1) rfl ⟨Nat.le_of_ble_eq_true rfl, Nat.le_of_ble_eq_true rfl⟩ rfl rfl (Nat.le_of_ble_eq_true rfl) rfl rfl (Nat.le_of_ble_eq_true rfl) (Nat.le_of_ble_eq_true rfl) dL_law_479 (fun g1 => ?_)
  refine g_aload_n cx dL_law_482 2 rfl ?_
  refine g_aload_n cx dL_law_483 0 rfl ?_
  refine g_iload_n cx dL_law_484 3 rfl ?_
  refine g_iconst (v := 1) cx dL_law_485 (by decide) ?_
  refine g_iadd cx dL_law_486 ?_
  refine g_sld cx hX (sc_in hx hi hL 1 (by decide)) dL_law_487 ?_
  refine g_aload_n cx dL_law_488 0 rfl ?_
  refine g_iload_n cx dL_law_489 3 rfl ?_
  refine g_iconst (v := 2) cx dL_law_490 (by decide) ?_
  refine g_iadd cx dL_law_491 ?_
  refine g_sld cx hX (sc_in hx hi hL 2 (by decide)) dL_law_492 ?_
  refine g_LMi (rest := [.int ((sp_move c (xs (x + 1 : Int32).toNatClampNeg) (xs (x + 2 : Int32).toNatClampNeg)).1)]) (As := [.int (xs (x + 1 : Int32).toNatClampNeg), .int (xs (x + 2 : Int32).toNatClampNeg)]) cx hYX6_move gL_law_X6_move (c_X6_move l E b d h (xs (x + 1 : Int32).toNatClampNeg) (xs (x + 2 : Int32).toNatClampNeg) hr.2.1) rfl ⟨Nat.le_of_ble_eq_true rfl, Nat.le_of_ble_eq_true rfl⟩ rfl rfl (Nat.le_of_ble_eq_true rfl) rfl rfl (Nat.le_of_ble_eq_true rfl) (Nat.le_of_ble_eq_true rfl) dL_law_493 (fun g2 => ?_)
  refine g_icmp_eq (tgt := 1312) cx dL_law_496 (by decide) (fun _ => ?_) (fun q => absurd (re_move hr (xs (x + 1 : Int32).toNatClampNeg) (xs (x + 2 : Int32).toNatClampNeg)).1 q)
  exact kk _ _ _ _ (re_move hr (xs (x + 1 : Int32).toNatClampNeg) (xs (x + 2 : Int32).toNatClampNeg)).2

set_option maxRecDepth 100000 in
set_option maxHeartbeats 4000000 in
theorem lc_hours {l : Launch} {X : gX} {E : gE} {a b : Nat → Nat} {c d : Cor} {g : Gar} {h : Mar} {b0 L i : Nat} {xs : Nat → Int32} {x : Int32} (cx : gC l X room_1 4 cL_law RL wsL_law E) (hX : gS X b0 L xs) (hL : L ≤ 3072) (hi : i + 6 ≤ L) (hx : x = nI i) (hr : Rel c d) (kk : ∀ (c' d' : Cor) (g' : Gar) (h' : Mar), Rel c' d' → gG X 40 954 (xW E a c' g' ++ mW E b d' h') 1312 [(0, .ref b0), (1, .ref (a 0)), (2, .ref (b 0)), (3, .int x)] []) : gG X 40 954 (xW E a c g ++ mW E b d h) 501 [(0, .ref b0), (1, .ref (a 0)), (2, .ref (b 0)), (3, .int x)] [] := by
  refine g_aload_n cx dL_law_501 1 rfl ?_
  refine g_aload_n cx dL_law_502 0 rfl ?_
  refine g_iload_n cx dL_law_503 3 rfl ?_
  refine g_iconst (v := 1) cx dL_law_504 (by decide) ?_
  refine g_iadd cx dL_law_505 ?_
  refine g_sld cx hX (sc_in hx hi hL 1 (by decide)) dL_law_506 ?_
  refine g_LXi (rest := []) (As := [.int (xs (x + 1 : Int32).toNatClampNeg)]) cx hYX5_hours gL_law_X5_hours (c_X5_hours l E a c g (xs (x + 1 : Int32).toNatClampNeg) hr.1) rfl ⟨Nat.le_of_ble_eq_true rfl, Nat.le_of_ble_eq_true rfl⟩ rfl rfl (Nat.le_of_ble_eq_true rfl) rfl rfl (Nat.le_of_ble_eq_true rfl) (Nat.le_of_ble_eq_true rfl) dL_law_507 (fun g1 => ?_)
  refine g_aload_n cx dL_law_510 2 rfl ?_
  refine g_aload_n cx dL_law_511 0 rfl ?_
  refine g_iload_n cx dL_law_512 3 rfl ?_
  refine g_iconst (v := 1) cx dL_law_513 (by decide) ?_
  refine g_iadd cx dL_law_514 ?_
  refine g_sld cx hX (sc_in hx hi hL 1 (by decide)) dL_law_515 ?_
  refine g_LMi (rest := [.int ((sp_hours c (xs (x + 1 : Int32).toNatClampNeg)).1)]) (As := [.int (xs (x + 1 : Int32).toNatClampNeg)]) cx hYX6_hours gL_law_X6_hours (c_X6_hours l E b d h (xs (x + 1 : Int32).toNatClampNeg) hr.2.1) rfl ⟨Nat.le_of_ble_eq_true rfl, Nat.le_of_ble_eq_true rfl⟩ rfl rfl (Nat.le_of_ble_eq_true rfl) rfl rfl (Nat.le_of_ble_eq_true rfl) (Nat.le_of_ble_eq_true rfl) dL_law_516 (fun g2 => ?_)
  refine g_icmp_eq (tgt := 1312) cx dL_law_519 (by decide) (fun _ => ?_) (fun q => absurd (re_hours hr (xs (x + 1 : Int32).toNatClampNeg)).1 q)
  exact kk _ _ _ _ (re_hours hr (xs (x + 1 : Int32).toNatClampNeg)).2

set_option maxRecDepth 100000 in
set_option maxHeartbeats 4000000 in
theorem lc_on {l : Launch} {X : gX} {E : gE} {a b : Nat → Nat} {c d : Cor} {g : Gar} {h : Mar} {b0 L i : Nat} {xs : Nat → Int32} {x : Int32} (cx : gC l X room_1 4 cL_law RL wsL_law E) (hX : gS X b0 L xs) (hL : L ≤ 3072) (hi : i + 6 ≤ L) (hx : x = nI i) (hr : Rel c d) (kk : ∀ (c' d' : Cor) (g' : Gar) (h' : Mar), Rel c' d' → gG X 40 954 (xW E a c' g' ++ mW E b d' h') 1312 [(0, .ref b0), (1, .ref (a 0)), (2, .ref (b 0)), (3, .int x)] []) : gG X 40 954 (xW E a c g ++ mW E b d h) 524 [(0, .ref b0), (1, .ref (a 0)), (2, .ref (b 0)), (3, .int x)] [] := by
  refine g_aload_n cx dL_law_524 1 rfl ?_
  refine g_aload_n cx dL_law_525 0 rfl ?_
  refine g_iload_n cx dL_law_526 3 rfl ?_
  refine g_iconst (v := 1) cx dL_law_527 (by decide) ?_
  refine g_iadd cx dL_law_528 ?_
  refine g_sld cx hX (sc_in hx hi hL 1 (by decide)) dL_law_529 ?_
  refine g_aload_n cx dL_law_530 0 rfl ?_
  refine g_iload_n cx dL_law_531 3 rfl ?_
  refine g_iconst (v := 2) cx dL_law_532 (by decide) ?_
  refine g_iadd cx dL_law_533 ?_
  refine g_sld cx hX (sc_in hx hi hL 2 (by decide)) dL_law_534 ?_
  refine g_aload_n cx dL_law_535 0 rfl ?_
  refine g_iload_n cx dL_law_536 3 rfl ?_
  refine g_iconst (v := 3) cx dL_law_537 (by decide) ?_
  refine g_iadd cx dL_law_538 ?_
  refine g_sld cx hX (sc_in hx hi hL 3 (by decide)) dL_law_539 ?_
  refine g_LXi (rest := []) (As := [.int (xs (x + 1 : Int32).toNatClampNeg), .int (xs (x + 2 : Int32).toNatClampNeg), .int (xs (x + 3 : Int32).toNatClampNeg)]) cx hYX5_on gL_law_X5_on (c_X5_on l E a c g (xs (x + 1 : Int32).toNatClampNeg) (xs (x + 2 : Int32).toNatClampNeg) (xs (x + 3 : Int32).toNatClampNeg) hr.1) rfl ⟨Nat.le_of_ble_eq_true rfl, Nat.le_of_ble_eq_true rfl⟩ rfl rfl (Nat.le_of_ble_eq_true rfl) rfl rfl (Nat.le_of_ble_eq_true rfl) (Nat.le_of_ble_eq_true rfl) dL_law_540 (fun g1 => ?_)
  refine g_aload_n cx dL_law_543 2 rfl ?_
  refine g_aload_n cx dL_law_544 0 rfl ?_
  refine g_iload_n cx dL_law_545 3 rfl ?_
  refine g_iconst (v := 1) cx dL_law_546 (by decide) ?_
  refine g_iadd cx dL_law_547 ?_
  refine g_sld cx hX (sc_in hx hi hL 1 (by decide)) dL_law_548 ?_
  refine g_aload_n cx dL_law_549 0 rfl ?_
  refine g_iload_n cx dL_law_550 3 rfl ?_
  refine g_iconst (v := 2) cx dL_law_551 (by decide) ?_
  refine g_iadd cx dL_law_552 ?_
  refine g_sld cx hX (sc_in hx hi hL 2 (by decide)) dL_law_553 ?_
  refine g_aload_n cx dL_law_554 0 rfl ?_
  refine g_iload_n cx dL_law_555 3 rfl ?_
  refine g_iconst (v := 3) cx dL_law_556 (by decide) ?_
  refine g_iadd cx dL_law_557 ?_
  refine g_sld cx hX (sc_in hx hi hL 3 (by decide)) dL_law_558 ?_
  refine g_LMi (rest := [.int ((sp_on c (xs (x + 1 : Int32).toNatClampNeg) (xs (x + 2 : Int32).toNatClampNeg) (xs (x + 3 : Int32).toNatClampNeg)).1)]) (As := [.int (xs (x + 1 : Int32).toNatClampNeg), .int (xs (x + 2 : Int32).toNatClampNeg), .int (xs (x + 3 : Int32).toNatClampNeg)]) cx hYX6_on gL_law_X6_on (c_X6_on l E b d h (xs (x + 1 : Int32).toNatClampNeg) (xs (x + 2 : Int32).toNatClampNeg) (xs (x + 3 : Int32).toNatClampNeg) hr.2.1) rfl ⟨Nat.le_of_ble_eq_true rfl, Nat.le_of_ble_eq_true rfl⟩ rfl rfl (Nat.le_of_ble_eq_true rfl) rfl rfl (Nat.le_of_ble_eq_true rfl) (Nat.le_of_ble_eq_true rfl) dL_law_559 (fun g2 => ?_)
  refine g_icmp_eq (tgt := 1312) cx dL_law_562 (by decide) (fun _ => ?_) (fun q => absurd (re_on hr (xs (x + 1 : Int32).toNatClampNeg) (xs (x + 2 : Int32).toNatClampNeg) (xs (x + 3 : Int32).toNatClampNeg)).1 q)
  exact kk _ _ _ _ (re_on hr (xs (x + 1 : Int32).toNatClampNeg) (xs (x + 2 : Int32).toNatClampNeg) (xs (x + 3 : Int32).toNatClampNeg)).2

set_option maxRecDepth 100000 in
set_option maxHeartbeats 4000000 in
theorem lc_rang {l : Launch} {X : gX} {E : gE} {a b : Nat → Nat} {c d : Cor} {g : Gar} {h : Mar} {b0 L i : Nat} {xs : Nat → Int32} {x : Int32} (cx : gC l X room_1 4 cL_law RL wsL_law E) (hX : gS X b0 L xs) (hL : L ≤ 3072) (hi : i + 6 ≤ L) (hx : x = nI i) (hr : Rel c d) (kk : ∀ (c' d' : Cor) (g' : Gar) (h' : Mar), Rel c' d' → gG X 40 954 (xW E a c' g' ++ mW E b d' h') 1312 [(0, .ref b0), (1, .ref (a 0)), (2, .ref (b 0)), (3, .int x)] []) : gG X 40 954 (xW E a c g ++ mW E b d h) 567 [(0, .ref b0), (1, .ref (a 0)), (2, .ref (b 0)), (3, .int x)] [] := by
  refine g_aload_n cx dL_law_567 1 rfl ?_
  refine g_aload_n cx dL_law_568 0 rfl ?_
  refine g_iload_n cx dL_law_569 3 rfl ?_
  refine g_iconst (v := 1) cx dL_law_570 (by decide) ?_
  refine g_iadd cx dL_law_571 ?_
  refine g_sld cx hX (sc_in hx hi hL 1 (by decide)) dL_law_572 ?_
  refine g_LXi (rest := []) (As := [.int (xs (x + 1 : Int32).toNatClampNeg)]) cx hYX5_rang gL_law_X5_rang (c_X5_rang l E a c g (xs (x + 1 : Int32).toNatClampNeg) hr.1) rfl ⟨Nat.le_of_ble_eq_true rfl, Nat.le_of_ble_eq_true rfl⟩ rfl rfl (Nat.le_of_ble_eq_true rfl) rfl rfl (Nat.le_of_ble_eq_true rfl) (Nat.le_of_ble_eq_true rfl) dL_law_573 (fun g1 => ?_)
  refine g_aload_n cx dL_law_576 2 rfl ?_
  refine g_aload_n cx dL_law_577 0 rfl ?_
  refine g_iload_n cx dL_law_578 3 rfl ?_
  refine g_iconst (v := 1) cx dL_law_579 (by decide) ?_
  refine g_iadd cx dL_law_580 ?_
  refine g_sld cx hX (sc_in hx hi hL 1 (by decide)) dL_law_581 ?_
  refine g_LMi (rest := [.int ((sp_rang c (xs (x + 1 : Int32).toNatClampNeg)).1)]) (As := [.int (xs (x + 1 : Int32).toNatClampNeg)]) cx hYX6_rang gL_law_X6_rang (c_X6_rang l E b d h (xs (x + 1 : Int32).toNatClampNeg) hr.2.1) rfl ⟨Nat.le_of_ble_eq_true rfl, Nat.le_of_ble_eq_true rfl⟩ rfl rfl (Nat.le_of_ble_eq_true rfl) rfl rfl (Nat.le_of_ble_eq_true rfl) (Nat.le_of_ble_eq_true rfl) dL_law_582 (fun g2 => ?_)
  refine g_icmp_eq (tgt := 1312) cx dL_law_585 (by decide) (fun _ => ?_) (fun q => absurd (re_rang hr (xs (x + 1 : Int32).toNatClampNeg)).1 q)
  exact kk _ _ _ _ (re_rang hr (xs (x + 1 : Int32).toNatClampNeg)).2

set_option maxRecDepth 100000 in
set_option maxHeartbeats 4000000 in
theorem lc_takings {l : Launch} {X : gX} {E : gE} {a b : Nat → Nat} {c d : Cor} {g : Gar} {h : Mar} {b0 L i : Nat} {xs : Nat → Int32} {x : Int32} (cx : gC l X room_1 4 cL_law RL wsL_law E) (hX : gS X b0 L xs) (hL : L ≤ 3072) (hi : i + 6 ≤ L) (hx : x = nI i) (hr : Rel c d) (kk : ∀ (c' d' : Cor) (g' : Gar) (h' : Mar), Rel c' d' → gG X 40 954 (xW E a c' g' ++ mW E b d' h') 1312 [(0, .ref b0), (1, .ref (a 0)), (2, .ref (b 0)), (3, .int x)] []) : gG X 40 954 (xW E a c g ++ mW E b d h) 590 [(0, .ref b0), (1, .ref (a 0)), (2, .ref (b 0)), (3, .int x)] [] := by
  refine g_aload_n cx dL_law_590 1 rfl ?_
  refine g_aload_n cx dL_law_591 0 rfl ?_
  refine g_iload_n cx dL_law_592 3 rfl ?_
  refine g_iconst (v := 1) cx dL_law_593 (by decide) ?_
  refine g_iadd cx dL_law_594 ?_
  refine g_sld cx hX (sc_in hx hi hL 1 (by decide)) dL_law_595 ?_
  refine g_LXi (rest := []) (As := [.int (xs (x + 1 : Int32).toNatClampNeg)]) cx hYX5_takings gL_law_X5_takings (c_X5_takings l E a c g (xs (x + 1 : Int32).toNatClampNeg) hr.1) rfl ⟨Nat.le_of_ble_eq_true rfl, Nat.le_of_ble_eq_true rfl⟩ rfl rfl (Nat.le_of_ble_eq_true rfl) rfl rfl (Nat.le_of_ble_eq_true rfl) (Nat.le_of_ble_eq_true rfl) dL_law_596 (fun g1 => ?_)
  refine g_aload_n cx dL_law_599 2 rfl ?_
  refine g_aload_n cx dL_law_600 0 rfl ?_
  refine g_iload_n cx dL_law_601 3 rfl ?_
  refine g_iconst (v := 1) cx dL_law_602 (by decide) ?_
  refine g_iadd cx dL_law_603 ?_
  refine g_sld cx hX (sc_in hx hi hL 1 (by decide)) dL_law_604 ?_
  refine g_LMi (rest := [.int ((sp_takings c (xs (x + 1 : Int32).toNatClampNeg)).1)]) (As := [.int (xs (x + 1 : Int32).toNatClampNeg)]) cx hYX6_takings gL_law_X6_takings (c_X6_takings l E b d h (xs (x + 1 : Int32).toNatClampNeg) hr.2.1) rfl ⟨Nat.le_of_ble_eq_true rfl, Nat.le_of_ble_eq_true rfl⟩ rfl rfl (Nat.le_of_ble_eq_true rfl) rfl rfl (Nat.le_of_ble_eq_true rfl) (Nat.le_of_ble_eq_true rfl) dL_law_605 (fun g2 => ?_)
  refine g_icmp_eq (tgt := 1312) cx dL_law_608 (by decide) (fun _ => ?_) (fun q => absurd (re_takings hr (xs (x + 1 : Int32).toNatClampNeg)).1 q)
  exact kk _ _ _ _ (re_takings hr (xs (x + 1 : Int32).toNatClampNeg)).2
