section LW2
variable {p : Program} {l : Launch} {e : Env} {s : State} {m : MethodId} {below : List Frame} {meth : Method} {c : Code} {sk : (Nat → Nat) × (Nat → Nat)} {D : va_G} {cy : Nat → ClassId} {A0 : Nat → Prop} {Ac Ar : Nat → Nat} {Mc Mr : Mem} {Rel : Mem → Mem → Prop} {b L i : Nat} {xs : Nat → Int32} {Q : State → Prop}
set_option maxRecDepth 20000 in
theorem lc_set (B : BS sk D cy (lwd cy Ac Ar) A0 p s m #[Value.ref b] c RL cL_law 4) (hX : va_X b L xs s s.heap) (hbl : b < s.heap.size) (hbA : ¬ A0 b) (hi : i + 6 ≤ L) (hL : L ≤ 3072) (hd : DUO Rel l sk D cy Ac Ar mX6_set mX7_set [.int (xs (i + 1)), .int (xs (i + 2))] Value.int Mc Mr) (kk : ∀ M1 M2, Rel M1 M2 → AW p l e room_1 s m #[Value.ref b] below meth c D (lwd cy Ac Ar) A0 4 62 1194 Q 1460 [some (.ref b), some (.ref (Ac 0)), some (.ref (Ar 0)), some (.int (nI i))] [] (M1, M2)) : AW p l e room_1 s m #[Value.ref b] below meth c D (lwd cy Ac Ar) A0 4 62 1194 Q 220 [some (.ref b), some (.ref (Ac 0)), some (.ref (Ar 0)), some (.int (nI i))] [] (Mc, Mr) := by
  obtain ⟨h, h2, P, P2, hh, hh2, hCc, hCr, hv1, hv2, hz⟩ := hd
  refine a_aload_n B dL_law_220 rfl ?_
  refine a_aload_n B dL_law_221 rfl ?_
  refine a_iload_n B dL_law_222 rfl ?_
  refine a_iconst (v := 1) B dL_law_223 (by decide) ?_
  refine a_iadd B dL_law_224 ?_
  refine l_sld (i + 1) B hX hbl hbA (nI_add i 1) (by omega) hL dL_law_225 ?_
  refine a_aload_n B dL_law_226 rfl ?_
  refine a_iload_n B dL_law_227 rfl ?_
  refine a_iconst (v := 2) B dL_law_228 (by decide) ?_
  refine a_iadd B dL_law_229 ?_
  refine l_sld (i + 2) B hX hbl hbA (nI_add i 2) (by omega) hL dL_law_230 ?_
  refine l_callC (As := [.int (xs (i + 1)), .int (xs (i + 2))]) (n := 2) (fr := h) (lc := 34 * h) B cf_X6_set lk_L_13 in_X6_set se_X6_set rfl hCc dL_law_231 rfl rfl (Nat.le_of_ble_eq_true rfl) ⟨by omega, by show 8 + (4 + 11) + 34 * h ≤ 478; omega⟩ ⟨Nat.le_of_ble_eq_true rfl, Nat.le_of_ble_eq_true rfl⟩ (fun v M1 hp1 => ?_)
  obtain ⟨x1, rfl⟩ := hv1 v M1 hp1
  show AW _ _ _ _ _ _ _ _ _ _ _ _ _ _ _ _ _ _ _ [Value.int x1] _
  refine a_aload_n B dL_law_234 rfl ?_
  refine a_aload_n B dL_law_235 rfl ?_
  refine a_iload_n B dL_law_236 rfl ?_
  refine a_iconst (v := 1) B dL_law_237 (by decide) ?_
  refine a_iadd B dL_law_238 ?_
  refine l_sld (i + 1) B hX hbl hbA (nI_add i 1) (by omega) hL dL_law_239 ?_
  refine a_aload_n B dL_law_240 rfl ?_
  refine a_iload_n B dL_law_241 rfl ?_
  refine a_iconst (v := 2) B dL_law_242 (by decide) ?_
  refine a_iadd B dL_law_243 ?_
  refine l_sld (i + 2) B hX hbl hbA (nI_add i 2) (by omega) hL dL_law_244 ?_
  refine l_callR (As := [.int (xs (i + 1)), .int (xs (i + 2))]) (n := 2) (fr := h2) (lc := 34 * h2) B cf_X7_set lk_L_17 in_X7_set se_X7_set rfl hCr dL_law_245 rfl rfl (Nat.le_of_ble_eq_true rfl) ⟨by omega, by show 8 + (3 + 11) + 34 * h2 ≤ 478; omega⟩ ⟨Nat.le_of_ble_eq_true rfl, Nat.le_of_ble_eq_true rfl⟩ (fun v M2 hp2 => ?_)
  obtain ⟨x2, rfl⟩ := hv2 v M2 hp2
  obtain ⟨rfl, hRel⟩ := hz x1 x2 M1 M2 hp1 hp2
  show AW _ _ _ _ _ _ _ _ _ _ _ _ _ _ _ _ _ _ _ [Value.int x1, Value.int x1] _
  exact a_icmp_eq 1460 B dL_law_248 (by decide) (fun _ => kk M1 M2 hRel) (fun c9 => absurd rfl c9)
set_option maxRecDepth 20000 in
theorem lc_list (B : BS sk D cy (lwd cy Ac Ar) A0 p s m #[Value.ref b] c RL cL_law 4) (hX : va_X b L xs s s.heap) (hbl : b < s.heap.size) (hbA : ¬ A0 b) (hi : i + 6 ≤ L) (hL : L ≤ 3072) (hd : DUO Rel l sk D cy Ac Ar mX6_list mX7_list [.int (xs (i + 1)), .int (xs (i + 2))] Value.int Mc Mr) (kk : ∀ M1 M2, Rel M1 M2 → AW p l e room_1 s m #[Value.ref b] below meth c D (lwd cy Ac Ar) A0 4 62 1194 Q 1460 [some (.ref b), some (.ref (Ac 0)), some (.ref (Ar 0)), some (.int (nI i))] [] (M1, M2)) : AW p l e room_1 s m #[Value.ref b] below meth c D (lwd cy Ac Ar) A0 4 62 1194 Q 253 [some (.ref b), some (.ref (Ac 0)), some (.ref (Ar 0)), some (.int (nI i))] [] (Mc, Mr) := by
  obtain ⟨h, h2, P, P2, hh, hh2, hCc, hCr, hv1, hv2, hz⟩ := hd
  refine a_aload_n B dL_law_253 rfl ?_
  refine a_aload_n B dL_law_254 rfl ?_
  refine a_iload_n B dL_law_255 rfl ?_
  refine a_iconst (v := 1) B dL_law_256 (by decide) ?_
  refine a_iadd B dL_law_257 ?_
  refine l_sld (i + 1) B hX hbl hbA (nI_add i 1) (by omega) hL dL_law_258 ?_
  refine a_aload_n B dL_law_259 rfl ?_
  refine a_iload_n B dL_law_260 rfl ?_
  refine a_iconst (v := 2) B dL_law_261 (by decide) ?_
  refine a_iadd B dL_law_262 ?_
  refine l_sld (i + 2) B hX hbl hbA (nI_add i 2) (by omega) hL dL_law_263 ?_
  refine l_callC (As := [.int (xs (i + 1)), .int (xs (i + 2))]) (n := 2) (fr := h) (lc := 34 * h) B cf_X6_list lk_L_18 in_X6_list se_X6_list rfl hCc dL_law_264 rfl rfl (Nat.le_of_ble_eq_true rfl) ⟨by omega, by show 8 + (4 + 11) + 34 * h ≤ 478; omega⟩ ⟨Nat.le_of_ble_eq_true rfl, Nat.le_of_ble_eq_true rfl⟩ (fun v M1 hp1 => ?_)
  obtain ⟨x1, rfl⟩ := hv1 v M1 hp1
  show AW _ _ _ _ _ _ _ _ _ _ _ _ _ _ _ _ _ _ _ [Value.int x1] _
  refine a_aload_n B dL_law_267 rfl ?_
  refine a_aload_n B dL_law_268 rfl ?_
  refine a_iload_n B dL_law_269 rfl ?_
  refine a_iconst (v := 1) B dL_law_270 (by decide) ?_
  refine a_iadd B dL_law_271 ?_
  refine l_sld (i + 1) B hX hbl hbA (nI_add i 1) (by omega) hL dL_law_272 ?_
  refine a_aload_n B dL_law_273 rfl ?_
  refine a_iload_n B dL_law_274 rfl ?_
  refine a_iconst (v := 2) B dL_law_275 (by decide) ?_
  refine a_iadd B dL_law_276 ?_
  refine l_sld (i + 2) B hX hbl hbA (nI_add i 2) (by omega) hL dL_law_277 ?_
  refine l_callR (As := [.int (xs (i + 1)), .int (xs (i + 2))]) (n := 2) (fr := h2) (lc := 34 * h2) B cf_X7_list lk_L_21 in_X7_list se_X7_list rfl hCr dL_law_278 rfl rfl (Nat.le_of_ble_eq_true rfl) ⟨by omega, by show 8 + (3 + 11) + 34 * h2 ≤ 478; omega⟩ ⟨Nat.le_of_ble_eq_true rfl, Nat.le_of_ble_eq_true rfl⟩ (fun v M2 hp2 => ?_)
  obtain ⟨x2, rfl⟩ := hv2 v M2 hp2
  obtain ⟨rfl, hRel⟩ := hz x1 x2 M1 M2 hp1 hp2
  show AW _ _ _ _ _ _ _ _ _ _ _ _ _ _ _ _ _ _ _ [Value.int x1, Value.int x1] _
  exact a_icmp_eq 1460 B dL_law_281 (by decide) (fun _ => kk M1 M2 hRel) (fun c9 => absurd rfl c9)
set_option maxRecDepth 20000 in
theorem lc_listed (B : BS sk D cy (lwd cy Ac Ar) A0 p s m #[Value.ref b] c RL cL_law 4) (hX : va_X b L xs s s.heap) (hbl : b < s.heap.size) (hbA : ¬ A0 b) (hi : i + 6 ≤ L) (hL : L ≤ 3072) (hd : DUO Rel l sk D cy Ac Ar mX6_listed mX7_listed [.int (xs (i + 1))] Value.int Mc Mr) (kk : ∀ M1 M2, Rel M1 M2 → AW p l e room_1 s m #[Value.ref b] below meth c D (lwd cy Ac Ar) A0 4 62 1194 Q 1460 [some (.ref b), some (.ref (Ac 0)), some (.ref (Ar 0)), some (.int (nI i))] [] (M1, M2)) : AW p l e room_1 s m #[Value.ref b] below meth c D (lwd cy Ac Ar) A0 4 62 1194 Q 286 [some (.ref b), some (.ref (Ac 0)), some (.ref (Ar 0)), some (.int (nI i))] [] (Mc, Mr) := by
  obtain ⟨h, h2, P, P2, hh, hh2, hCc, hCr, hv1, hv2, hz⟩ := hd
  refine a_aload_n B dL_law_286 rfl ?_
  refine a_aload_n B dL_law_287 rfl ?_
  refine a_iload_n B dL_law_288 rfl ?_
  refine a_iconst (v := 1) B dL_law_289 (by decide) ?_
  refine a_iadd B dL_law_290 ?_
  refine l_sld (i + 1) B hX hbl hbA (nI_add i 1) (by omega) hL dL_law_291 ?_
  refine l_callC (As := [.int (xs (i + 1))]) (n := 1) (fr := h) (lc := 34 * h) B cf_X6_listed lk_L_22 in_X6_listed se_X6_listed rfl hCc dL_law_292 rfl rfl (Nat.le_of_ble_eq_true rfl) ⟨by omega, by show 8 + (2 + 11) + 34 * h ≤ 478; omega⟩ ⟨Nat.le_of_ble_eq_true rfl, Nat.le_of_ble_eq_true rfl⟩ (fun v M1 hp1 => ?_)
  obtain ⟨x1, rfl⟩ := hv1 v M1 hp1
  show AW _ _ _ _ _ _ _ _ _ _ _ _ _ _ _ _ _ _ _ [Value.int x1] _
  refine a_aload_n B dL_law_295 rfl ?_
  refine a_aload_n B dL_law_296 rfl ?_
  refine a_iload_n B dL_law_297 rfl ?_
  refine a_iconst (v := 1) B dL_law_298 (by decide) ?_
  refine a_iadd B dL_law_299 ?_
  refine l_sld (i + 1) B hX hbl hbA (nI_add i 1) (by omega) hL dL_law_300 ?_
  refine l_callR (As := [.int (xs (i + 1))]) (n := 1) (fr := h2) (lc := 34 * h2) B cf_X7_listed lk_L_26 in_X7_listed se_X7_listed rfl hCr dL_law_301 rfl rfl (Nat.le_of_ble_eq_true rfl) ⟨by omega, by show 8 + (2 + 11) + 34 * h2 ≤ 478; omega⟩ ⟨Nat.le_of_ble_eq_true rfl, Nat.le_of_ble_eq_true rfl⟩ (fun v M2 hp2 => ?_)
  obtain ⟨x2, rfl⟩ := hv2 v M2 hp2
  obtain ⟨rfl, hRel⟩ := hz x1 x2 M1 M2 hp1 hp2
  show AW _ _ _ _ _ _ _ _ _ _ _ _ _ _ _ _ _ _ _ [Value.int x1, Value.int x1] _
  exact a_icmp_eq 1460 B dL_law_304 (by decide) (fun _ => kk M1 M2 hRel) (fun c9 => absurd rfl c9)
set_option maxRecDepth 20000 in
theorem lc_priest (B : BS sk D cy (lwd cy Ac Ar) A0 p s m #[Value.ref b] c RL cL_law 4) (hX : va_X b L xs s s.heap) (hbl : b < s.heap.size) (hbA : ¬ A0 b) (hi : i + 6 ≤ L) (hL : L ≤ 3072) (hd : DUO Rel l sk D cy Ac Ar mX6_priest mX7_priest [.int (xs (i + 1)), .int (xs (i + 2))] Value.int Mc Mr) (kk : ∀ M1 M2, Rel M1 M2 → AW p l e room_1 s m #[Value.ref b] below meth c D (lwd cy Ac Ar) A0 4 62 1194 Q 1460 [some (.ref b), some (.ref (Ac 0)), some (.ref (Ar 0)), some (.int (nI i))] [] (M1, M2)) : AW p l e room_1 s m #[Value.ref b] below meth c D (lwd cy Ac Ar) A0 4 62 1194 Q 309 [some (.ref b), some (.ref (Ac 0)), some (.ref (Ar 0)), some (.int (nI i))] [] (Mc, Mr) := by
  obtain ⟨h, h2, P, P2, hh, hh2, hCc, hCr, hv1, hv2, hz⟩ := hd
  refine a_aload_n B dL_law_309 rfl ?_
  refine a_aload_n B dL_law_310 rfl ?_
  refine a_iload_n B dL_law_311 rfl ?_
  refine a_iconst (v := 1) B dL_law_312 (by decide) ?_
  refine a_iadd B dL_law_313 ?_
  refine l_sld (i + 1) B hX hbl hbA (nI_add i 1) (by omega) hL dL_law_314 ?_
  refine a_aload_n B dL_law_315 rfl ?_
  refine a_iload_n B dL_law_316 rfl ?_
  refine a_iconst (v := 2) B dL_law_317 (by decide) ?_
  refine a_iadd B dL_law_318 ?_
  refine l_sld (i + 2) B hX hbl hbA (nI_add i 2) (by omega) hL dL_law_319 ?_
  refine l_callC (As := [.int (xs (i + 1)), .int (xs (i + 2))]) (n := 2) (fr := h) (lc := 34 * h) B cf_X6_priest lk_L_27 in_X6_priest se_X6_priest rfl hCc dL_law_320 rfl rfl (Nat.le_of_ble_eq_true rfl) ⟨by omega, by show 8 + (4 + 11) + 34 * h ≤ 478; omega⟩ ⟨Nat.le_of_ble_eq_true rfl, Nat.le_of_ble_eq_true rfl⟩ (fun v M1 hp1 => ?_)
  obtain ⟨x1, rfl⟩ := hv1 v M1 hp1
  show AW _ _ _ _ _ _ _ _ _ _ _ _ _ _ _ _ _ _ _ [Value.int x1] _
  refine a_aload_n B dL_law_323 rfl ?_
  refine a_aload_n B dL_law_324 rfl ?_
  refine a_iload_n B dL_law_325 rfl ?_
  refine a_iconst (v := 1) B dL_law_326 (by decide) ?_
  refine a_iadd B dL_law_327 ?_
  refine l_sld (i + 1) B hX hbl hbA (nI_add i 1) (by omega) hL dL_law_328 ?_
  refine a_aload_n B dL_law_329 rfl ?_
  refine a_iload_n B dL_law_330 rfl ?_
  refine a_iconst (v := 2) B dL_law_331 (by decide) ?_
  refine a_iadd B dL_law_332 ?_
  refine l_sld (i + 2) B hX hbl hbA (nI_add i 2) (by omega) hL dL_law_333 ?_
  refine l_callR (As := [.int (xs (i + 1)), .int (xs (i + 2))]) (n := 2) (fr := h2) (lc := 34 * h2) B cf_X7_priest lk_L_30 in_X7_priest se_X7_priest rfl hCr dL_law_334 rfl rfl (Nat.le_of_ble_eq_true rfl) ⟨by omega, by show 8 + (3 + 11) + 34 * h2 ≤ 478; omega⟩ ⟨Nat.le_of_ble_eq_true rfl, Nat.le_of_ble_eq_true rfl⟩ (fun v M2 hp2 => ?_)
  obtain ⟨x2, rfl⟩ := hv2 v M2 hp2
  obtain ⟨rfl, hRel⟩ := hz x1 x2 M1 M2 hp1 hp2
  show AW _ _ _ _ _ _ _ _ _ _ _ _ _ _ _ _ _ _ _ [Value.int x1, Value.int x1] _
  exact a_icmp_eq 1460 B dL_law_337 (by decide) (fun _ => kk M1 M2 hRel) (fun c9 => absurd rfl c9)
set_option maxRecDepth 20000 in
theorem lc_of (B : BS sk D cy (lwd cy Ac Ar) A0 p s m #[Value.ref b] c RL cL_law 4) (hX : va_X b L xs s s.heap) (hbl : b < s.heap.size) (hbA : ¬ A0 b) (hi : i + 6 ≤ L) (hL : L ≤ 3072) (hd : DUO Rel l sk D cy Ac Ar mX6_of mX7_of [.int (xs (i + 1)), .int (xs (i + 2))] Value.int Mc Mr) (kk : ∀ M1 M2, Rel M1 M2 → AW p l e room_1 s m #[Value.ref b] below meth c D (lwd cy Ac Ar) A0 4 62 1194 Q 1460 [some (.ref b), some (.ref (Ac 0)), some (.ref (Ar 0)), some (.int (nI i))] [] (M1, M2)) : AW p l e room_1 s m #[Value.ref b] below meth c D (lwd cy Ac Ar) A0 4 62 1194 Q 342 [some (.ref b), some (.ref (Ac 0)), some (.ref (Ar 0)), some (.int (nI i))] [] (Mc, Mr) := by
  obtain ⟨h, h2, P, P2, hh, hh2, hCc, hCr, hv1, hv2, hz⟩ := hd
  refine a_aload_n B dL_law_342 rfl ?_
  refine a_aload_n B dL_law_343 rfl ?_
  refine a_iload_n B dL_law_344 rfl ?_
  refine a_iconst (v := 1) B dL_law_345 (by decide) ?_
  refine a_iadd B dL_law_346 ?_
  refine l_sld (i + 1) B hX hbl hbA (nI_add i 1) (by omega) hL dL_law_347 ?_
  refine a_aload_n B dL_law_348 rfl ?_
  refine a_iload_n B dL_law_349 rfl ?_
  refine a_iconst (v := 2) B dL_law_350 (by decide) ?_
  refine a_iadd B dL_law_351 ?_
  refine l_sld (i + 2) B hX hbl hbA (nI_add i 2) (by omega) hL dL_law_352 ?_
  refine l_callC (As := [.int (xs (i + 1)), .int (xs (i + 2))]) (n := 2) (fr := h) (lc := 34 * h) B cf_X6_of lk_L_31 in_X6_of se_X6_of rfl hCc dL_law_353 rfl rfl (Nat.le_of_ble_eq_true rfl) ⟨by omega, by show 8 + (4 + 11) + 34 * h ≤ 478; omega⟩ ⟨Nat.le_of_ble_eq_true rfl, Nat.le_of_ble_eq_true rfl⟩ (fun v M1 hp1 => ?_)
  obtain ⟨x1, rfl⟩ := hv1 v M1 hp1
  show AW _ _ _ _ _ _ _ _ _ _ _ _ _ _ _ _ _ _ _ [Value.int x1] _
  refine a_aload_n B dL_law_356 rfl ?_
  refine a_aload_n B dL_law_357 rfl ?_
  refine a_iload_n B dL_law_358 rfl ?_
  refine a_iconst (v := 1) B dL_law_359 (by decide) ?_
  refine a_iadd B dL_law_360 ?_
  refine l_sld (i + 1) B hX hbl hbA (nI_add i 1) (by omega) hL dL_law_361 ?_
  refine a_aload_n B dL_law_362 rfl ?_
  refine a_iload_n B dL_law_363 rfl ?_
  refine a_iconst (v := 2) B dL_law_364 (by decide) ?_
  refine a_iadd B dL_law_365 ?_
  refine l_sld (i + 2) B hX hbl hbA (nI_add i 2) (by omega) hL dL_law_366 ?_
  refine l_callR (As := [.int (xs (i + 1)), .int (xs (i + 2))]) (n := 2) (fr := h2) (lc := 34 * h2) B cf_X7_of lk_L_34 in_X7_of se_X7_of rfl hCr dL_law_367 rfl rfl (Nat.le_of_ble_eq_true rfl) ⟨by omega, by show 8 + (3 + 11) + 34 * h2 ≤ 478; omega⟩ ⟨Nat.le_of_ble_eq_true rfl, Nat.le_of_ble_eq_true rfl⟩ (fun v M2 hp2 => ?_)
  obtain ⟨x2, rfl⟩ := hv2 v M2 hp2
  obtain ⟨rfl, hRel⟩ := hz x1 x2 M1 M2 hp1 hp2
  show AW _ _ _ _ _ _ _ _ _ _ _ _ _ _ _ _ _ _ _ [Value.int x1, Value.int x1] _
  exact a_icmp_eq 1460 B dL_law_370 (by decide) (fun _ => kk M1 M2 hRel) (fun c9 => absurd rfl c9)
set_option maxRecDepth 20000 in
theorem lc_change (B : BS sk D cy (lwd cy Ac Ar) A0 p s m #[Value.ref b] c RL cL_law 4) (hX : va_X b L xs s s.heap) (hbl : b < s.heap.size) (hbA : ¬ A0 b) (hi : i + 6 ≤ L) (hL : L ≤ 3072) (hd : DUO Rel l sk D cy Ac Ar mX6_change mX7_change [.int (xs (i + 1)), .int (xs (i + 2)), .int (xs (i + 3))] Value.int Mc Mr) (kk : ∀ M1 M2, Rel M1 M2 → AW p l e room_1 s m #[Value.ref b] below meth c D (lwd cy Ac Ar) A0 4 62 1194 Q 1460 [some (.ref b), some (.ref (Ac 0)), some (.ref (Ar 0)), some (.int (nI i))] [] (M1, M2)) : AW p l e room_1 s m #[Value.ref b] below meth c D (lwd cy Ac Ar) A0 4 62 1194 Q 375 [some (.ref b), some (.ref (Ac 0)), some (.ref (Ar 0)), some (.int (nI i))] [] (Mc, Mr) := by
  obtain ⟨h, h2, P, P2, hh, hh2, hCc, hCr, hv1, hv2, hz⟩ := hd
  refine a_aload_n B dL_law_375 rfl ?_
  refine a_aload_n B dL_law_376 rfl ?_
  refine a_iload_n B dL_law_377 rfl ?_
  refine a_iconst (v := 1) B dL_law_378 (by decide) ?_
  refine a_iadd B dL_law_379 ?_
  refine l_sld (i + 1) B hX hbl hbA (nI_add i 1) (by omega) hL dL_law_380 ?_
  refine a_aload_n B dL_law_381 rfl ?_
  refine a_iload_n B dL_law_382 rfl ?_
  refine a_iconst (v := 2) B dL_law_383 (by decide) ?_
  refine a_iadd B dL_law_384 ?_
  refine l_sld (i + 2) B hX hbl hbA (nI_add i 2) (by omega) hL dL_law_385 ?_
  refine a_aload_n B dL_law_386 rfl ?_
  refine a_iload_n B dL_law_387 rfl ?_
  refine a_iconst (v := 3) B dL_law_388 (by decide) ?_
  refine a_iadd B dL_law_389 ?_
  refine l_sld (i + 3) B hX hbl hbA (nI_add i 3) (by omega) hL dL_law_390 ?_
  refine l_callC (As := [.int (xs (i + 1)), .int (xs (i + 2)), .int (xs (i + 3))]) (n := 3) (fr := h) (lc := 34 * h) B cf_X6_change lk_L_35 in_X6_change se_X6_change rfl hCc dL_law_391 rfl rfl (Nat.le_of_ble_eq_true rfl) ⟨by omega, by show 8 + (6 + 11) + 34 * h ≤ 478; omega⟩ ⟨Nat.le_of_ble_eq_true rfl, Nat.le_of_ble_eq_true rfl⟩ (fun v M1 hp1 => ?_)
  obtain ⟨x1, rfl⟩ := hv1 v M1 hp1
  show AW _ _ _ _ _ _ _ _ _ _ _ _ _ _ _ _ _ _ _ [Value.int x1] _
  refine a_aload_n B dL_law_394 rfl ?_
  refine a_aload_n B dL_law_395 rfl ?_
  refine a_iload_n B dL_law_396 rfl ?_
  refine a_iconst (v := 1) B dL_law_397 (by decide) ?_
  refine a_iadd B dL_law_398 ?_
  refine l_sld (i + 1) B hX hbl hbA (nI_add i 1) (by omega) hL dL_law_399 ?_
  refine a_aload_n B dL_law_400 rfl ?_
  refine a_iload_n B dL_law_401 rfl ?_
  refine a_iconst (v := 2) B dL_law_402 (by decide) ?_
  refine a_iadd B dL_law_403 ?_
  refine l_sld (i + 2) B hX hbl hbA (nI_add i 2) (by omega) hL dL_law_404 ?_
  refine a_aload_n B dL_law_405 rfl ?_
  refine a_iload_n B dL_law_406 rfl ?_
  refine a_iconst (v := 3) B dL_law_407 (by decide) ?_
  refine a_iadd B dL_law_408 ?_
  refine l_sld (i + 3) B hX hbl hbA (nI_add i 3) (by omega) hL dL_law_409 ?_
  refine l_callR (As := [.int (xs (i + 1)), .int (xs (i + 2)), .int (xs (i + 3))]) (n := 3) (fr := h2) (lc := 34 * h2) B cf_X7_change lk_L_39 in_X7_change se_X7_change rfl hCr dL_law_410 rfl rfl (Nat.le_of_ble_eq_true rfl) ⟨by omega, by show 8 + (4 + 11) + 34 * h2 ≤ 478; omega⟩ ⟨Nat.le_of_ble_eq_true rfl, Nat.le_of_ble_eq_true rfl⟩ (fun v M2 hp2 => ?_)
  obtain ⟨x2, rfl⟩ := hv2 v M2 hp2
  obtain ⟨rfl, hRel⟩ := hz x1 x2 M1 M2 hp1 hp2
  show AW _ _ _ _ _ _ _ _ _ _ _ _ _ _ _ _ _ _ _ [Value.int x1, Value.int x1] _
  exact a_icmp_eq 1460 B dL_law_413 (by decide) (fun _ => kk M1 M2 hRel) (fun c9 => absurd rfl c9)
set_option maxRecDepth 20000 in
theorem lc_swells (B : BS sk D cy (lwd cy Ac Ar) A0 p s m #[Value.ref b] c RL cL_law 4) (hX : va_X b L xs s s.heap) (hbl : b < s.heap.size) (hbA : ¬ A0 b) (hi : i + 6 ≤ L) (hL : L ≤ 3072) (hd : DUO Rel l sk D cy Ac Ar mX6_swells mX7_swells [.int (xs (i + 1)), .int (xs (i + 2))] Value.int Mc Mr) (kk : ∀ M1 M2, Rel M1 M2 → AW p l e room_1 s m #[Value.ref b] below meth c D (lwd cy Ac Ar) A0 4 62 1194 Q 1460 [some (.ref b), some (.ref (Ac 0)), some (.ref (Ar 0)), some (.int (nI i))] [] (M1, M2)) : AW p l e room_1 s m #[Value.ref b] below meth c D (lwd cy Ac Ar) A0 4 62 1194 Q 418 [some (.ref b), some (.ref (Ac 0)), some (.ref (Ar 0)), some (.int (nI i))] [] (Mc, Mr) := by
  obtain ⟨h, h2, P, P2, hh, hh2, hCc, hCr, hv1, hv2, hz⟩ := hd
  refine a_aload_n B dL_law_418 rfl ?_
  refine a_aload_n B dL_law_419 rfl ?_
  refine a_iload_n B dL_law_420 rfl ?_
  refine a_iconst (v := 1) B dL_law_421 (by decide) ?_
  refine a_iadd B dL_law_422 ?_
  refine l_sld (i + 1) B hX hbl hbA (nI_add i 1) (by omega) hL dL_law_423 ?_
  refine a_aload_n B dL_law_424 rfl ?_
  refine a_iload_n B dL_law_425 rfl ?_
  refine a_iconst (v := 2) B dL_law_426 (by decide) ?_
  refine a_iadd B dL_law_427 ?_
  refine l_sld (i + 2) B hX hbl hbA (nI_add i 2) (by omega) hL dL_law_428 ?_
  refine l_callC (As := [.int (xs (i + 1)), .int (xs (i + 2))]) (n := 2) (fr := h) (lc := 34 * h) B cf_X6_swells lk_L_40 in_X6_swells se_X6_swells rfl hCc dL_law_429 rfl rfl (Nat.le_of_ble_eq_true rfl) ⟨by omega, by show 8 + (4 + 11) + 34 * h ≤ 478; omega⟩ ⟨Nat.le_of_ble_eq_true rfl, Nat.le_of_ble_eq_true rfl⟩ (fun v M1 hp1 => ?_)
  obtain ⟨x1, rfl⟩ := hv1 v M1 hp1
  show AW _ _ _ _ _ _ _ _ _ _ _ _ _ _ _ _ _ _ _ [Value.int x1] _
  refine a_aload_n B dL_law_432 rfl ?_
  refine a_aload_n B dL_law_433 rfl ?_
  refine a_iload_n B dL_law_434 rfl ?_
  refine a_iconst (v := 1) B dL_law_435 (by decide) ?_
  refine a_iadd B dL_law_436 ?_
  refine l_sld (i + 1) B hX hbl hbA (nI_add i 1) (by omega) hL dL_law_437 ?_
  refine a_aload_n B dL_law_438 rfl ?_
  refine a_iload_n B dL_law_439 rfl ?_
  refine a_iconst (v := 2) B dL_law_440 (by decide) ?_
  refine a_iadd B dL_law_441 ?_
  refine l_sld (i + 2) B hX hbl hbA (nI_add i 2) (by omega) hL dL_law_442 ?_
  refine l_callR (As := [.int (xs (i + 1)), .int (xs (i + 2))]) (n := 2) (fr := h2) (lc := 34 * h2) B cf_X7_swells lk_L_43 in_X7_swells se_X7_swells rfl hCr dL_law_443 rfl rfl (Nat.le_of_ble_eq_true rfl) ⟨by omega, by show 8 + (3 + 11) + 34 * h2 ≤ 478; omega⟩ ⟨Nat.le_of_ble_eq_true rfl, Nat.le_of_ble_eq_true rfl⟩ (fun v M2 hp2 => ?_)
  obtain ⟨x2, rfl⟩ := hv2 v M2 hp2
  obtain ⟨rfl, hRel⟩ := hz x1 x2 M1 M2 hp1 hp2
  show AW _ _ _ _ _ _ _ _ _ _ _ _ _ _ _ _ _ _ _ [Value.int x1, Value.int x1] _
  exact a_icmp_eq 1460 B dL_law_446 (by decide) (fun _ => kk M1 M2 hRel) (fun c9 => absurd rfl c9)
set_option maxRecDepth 20000 in
theorem lc_goes (B : BS sk D cy (lwd cy Ac Ar) A0 p s m #[Value.ref b] c RL cL_law 4) (hX : va_X b L xs s s.heap) (hbl : b < s.heap.size) (hbA : ¬ A0 b) (hi : i + 6 ≤ L) (hL : L ≤ 3072) (hd : DUO Rel l sk D cy Ac Ar mX6_goes mX7_goes [.int (xs (i + 1))] Value.int Mc Mr) (kk : ∀ M1 M2, Rel M1 M2 → AW p l e room_1 s m #[Value.ref b] below meth c D (lwd cy Ac Ar) A0 4 62 1194 Q 1460 [some (.ref b), some (.ref (Ac 0)), some (.ref (Ar 0)), some (.int (nI i))] [] (M1, M2)) : AW p l e room_1 s m #[Value.ref b] below meth c D (lwd cy Ac Ar) A0 4 62 1194 Q 451 [some (.ref b), some (.ref (Ac 0)), some (.ref (Ar 0)), some (.int (nI i))] [] (Mc, Mr) := by
  obtain ⟨h, h2, P, P2, hh, hh2, hCc, hCr, hv1, hv2, hz⟩ := hd
  refine a_aload_n B dL_law_451 rfl ?_
  refine a_aload_n B dL_law_452 rfl ?_
  refine a_iload_n B dL_law_453 rfl ?_
  refine a_iconst (v := 1) B dL_law_454 (by decide) ?_
  refine a_iadd B dL_law_455 ?_
  refine l_sld (i + 1) B hX hbl hbA (nI_add i 1) (by omega) hL dL_law_456 ?_
  refine l_callC (As := [.int (xs (i + 1))]) (n := 1) (fr := h) (lc := 34 * h) B cf_X6_goes lk_L_44 in_X6_goes se_X6_goes rfl hCc dL_law_457 rfl rfl (Nat.le_of_ble_eq_true rfl) ⟨by omega, by show 8 + (2 + 11) + 34 * h ≤ 478; omega⟩ ⟨Nat.le_of_ble_eq_true rfl, Nat.le_of_ble_eq_true rfl⟩ (fun v M1 hp1 => ?_)
  obtain ⟨x1, rfl⟩ := hv1 v M1 hp1
  show AW _ _ _ _ _ _ _ _ _ _ _ _ _ _ _ _ _ _ _ [Value.int x1] _
  refine a_aload_n B dL_law_460 rfl ?_
  refine a_aload_n B dL_law_461 rfl ?_
  refine a_iload_n B dL_law_462 rfl ?_
  refine a_iconst (v := 1) B dL_law_463 (by decide) ?_
  refine a_iadd B dL_law_464 ?_
  refine l_sld (i + 1) B hX hbl hbA (nI_add i 1) (by omega) hL dL_law_465 ?_
  refine l_callR (As := [.int (xs (i + 1))]) (n := 1) (fr := h2) (lc := 34 * h2) B cf_X7_goes lk_L_47 in_X7_goes se_X7_goes rfl hCr dL_law_466 rfl rfl (Nat.le_of_ble_eq_true rfl) ⟨by omega, by show 8 + (3 + 11) + 34 * h2 ≤ 478; omega⟩ ⟨Nat.le_of_ble_eq_true rfl, Nat.le_of_ble_eq_true rfl⟩ (fun v M2 hp2 => ?_)
  obtain ⟨x2, rfl⟩ := hv2 v M2 hp2
  obtain ⟨rfl, hRel⟩ := hz x1 x2 M1 M2 hp1 hp2
  show AW _ _ _ _ _ _ _ _ _ _ _ _ _ _ _ _ _ _ _ [Value.int x1, Value.int x1] _
  exact a_icmp_eq 1460 B dL_law_469 (by decide) (fun _ => kk M1 M2 hRel) (fun c9 => absurd rfl c9)
set_option maxRecDepth 20000 in
theorem lc_dies (B : BS sk D cy (lwd cy Ac Ar) A0 p s m #[Value.ref b] c RL cL_law 4) (hX : va_X b L xs s s.heap) (hbl : b < s.heap.size) (hbA : ¬ A0 b) (hi : i + 6 ≤ L) (hL : L ≤ 3072) (hd : DUO Rel l sk D cy Ac Ar mX6_dies mX7_dies [.int (xs (i + 1))] Value.int Mc Mr) (kk : ∀ M1 M2, Rel M1 M2 → AW p l e room_1 s m #[Value.ref b] below meth c D (lwd cy Ac Ar) A0 4 62 1194 Q 1460 [some (.ref b), some (.ref (Ac 0)), some (.ref (Ar 0)), some (.int (nI i))] [] (M1, M2)) : AW p l e room_1 s m #[Value.ref b] below meth c D (lwd cy Ac Ar) A0 4 62 1194 Q 474 [some (.ref b), some (.ref (Ac 0)), some (.ref (Ar 0)), some (.int (nI i))] [] (Mc, Mr) := by
  obtain ⟨h, h2, P, P2, hh, hh2, hCc, hCr, hv1, hv2, hz⟩ := hd
  refine a_aload_n B dL_law_474 rfl ?_
  refine a_aload_n B dL_law_475 rfl ?_
  refine a_iload_n B dL_law_476 rfl ?_
  refine a_iconst (v := 1) B dL_law_477 (by decide) ?_
  refine a_iadd B dL_law_478 ?_
  refine l_sld (i + 1) B hX hbl hbA (nI_add i 1) (by omega) hL dL_law_479 ?_
  refine l_callC (As := [.int (xs (i + 1))]) (n := 1) (fr := h) (lc := 34 * h) B cf_X6_dies lk_L_48 in_X6_dies se_X6_dies rfl hCc dL_law_480 rfl rfl (Nat.le_of_ble_eq_true rfl) ⟨by omega, by show 8 + (3 + 11) + 34 * h ≤ 478; omega⟩ ⟨Nat.le_of_ble_eq_true rfl, Nat.le_of_ble_eq_true rfl⟩ (fun v M1 hp1 => ?_)
  obtain ⟨x1, rfl⟩ := hv1 v M1 hp1
  show AW _ _ _ _ _ _ _ _ _ _ _ _ _ _ _ _ _ _ _ [Value.int x1] _
  refine a_aload_n B dL_law_483 rfl ?_
  refine a_aload_n B dL_law_484 rfl ?_
  refine a_iload_n B dL_law_485 rfl ?_
  refine a_iconst (v := 1) B dL_law_486 (by decide) ?_
  refine a_iadd B dL_law_487 ?_
  refine l_sld (i + 1) B hX hbl hbA (nI_add i 1) (by omega) hL dL_law_488 ?_
  refine l_callR (As := [.int (xs (i + 1))]) (n := 1) (fr := h2) (lc := 34 * h2) B cf_X7_dies lk_L_51 in_X7_dies se_X7_dies rfl hCr dL_law_489 rfl rfl (Nat.le_of_ble_eq_true rfl) ⟨by omega, by show 8 + (3 + 11) + 34 * h2 ≤ 478; omega⟩ ⟨Nat.le_of_ble_eq_true rfl, Nat.le_of_ble_eq_true rfl⟩ (fun v M2 hp2 => ?_)
  obtain ⟨x2, rfl⟩ := hv2 v M2 hp2
  obtain ⟨rfl, hRel⟩ := hz x1 x2 M1 M2 hp1 hp2
  show AW _ _ _ _ _ _ _ _ _ _ _ _ _ _ _ _ _ _ _ [Value.int x1, Value.int x1] _
  exact a_icmp_eq 1460 B dL_law_492 (by decide) (fun _ => kk M1 M2 hRel) (fun c9 => absurd rfl c9)
set_option maxRecDepth 20000 in
theorem lc_go (B : BS sk D cy (lwd cy Ac Ar) A0 p s m #[Value.ref b] c RL cL_law 4) (hX : va_X b L xs s s.heap) (hbl : b < s.heap.size) (hbA : ¬ A0 b) (hi : i + 6 ≤ L) (hL : L ≤ 3072) (hd : DUO Rel l sk D cy Ac Ar mX6_go mX7_go [.int (xs (i + 1))] Value.int Mc Mr) (kk : ∀ M1 M2, Rel M1 M2 → AW p l e room_1 s m #[Value.ref b] below meth c D (lwd cy Ac Ar) A0 4 62 1194 Q 1460 [some (.ref b), some (.ref (Ac 0)), some (.ref (Ar 0)), some (.int (nI i))] [] (M1, M2)) : AW p l e room_1 s m #[Value.ref b] below meth c D (lwd cy Ac Ar) A0 4 62 1194 Q 497 [some (.ref b), some (.ref (Ac 0)), some (.ref (Ar 0)), some (.int (nI i))] [] (Mc, Mr) := by
  obtain ⟨h, h2, P, P2, hh, hh2, hCc, hCr, hv1, hv2, hz⟩ := hd
  refine a_aload_n B dL_law_497 rfl ?_
  refine a_aload_n B dL_law_498 rfl ?_
  refine a_iload_n B dL_law_499 rfl ?_
  refine a_iconst (v := 1) B dL_law_500 (by decide) ?_
  refine a_iadd B dL_law_501 ?_
  refine l_sld (i + 1) B hX hbl hbA (nI_add i 1) (by omega) hL dL_law_502 ?_
  refine l_callC (As := [.int (xs (i + 1))]) (n := 1) (fr := h) (lc := 34 * h) B cf_X6_go lk_L_52 in_X6_go se_X6_go rfl hCc dL_law_503 rfl rfl (Nat.le_of_ble_eq_true rfl) ⟨by omega, by show 8 + (2 + 11) + 34 * h ≤ 478; omega⟩ ⟨Nat.le_of_ble_eq_true rfl, Nat.le_of_ble_eq_true rfl⟩ (fun v M1 hp1 => ?_)
  obtain ⟨x1, rfl⟩ := hv1 v M1 hp1
  show AW _ _ _ _ _ _ _ _ _ _ _ _ _ _ _ _ _ _ _ [Value.int x1] _
  refine a_aload_n B dL_law_506 rfl ?_
  refine a_aload_n B dL_law_507 rfl ?_
  refine a_iload_n B dL_law_508 rfl ?_
  refine a_iconst (v := 1) B dL_law_509 (by decide) ?_
  refine a_iadd B dL_law_510 ?_
  refine l_sld (i + 1) B hX hbl hbA (nI_add i 1) (by omega) hL dL_law_511 ?_
  refine l_callR (As := [.int (xs (i + 1))]) (n := 1) (fr := h2) (lc := 34 * h2) B cf_X7_go lk_L_55 in_X7_go se_X7_go rfl hCr dL_law_512 rfl rfl (Nat.le_of_ble_eq_true rfl) ⟨by omega, by show 8 + (2 + 11) + 34 * h2 ≤ 478; omega⟩ ⟨Nat.le_of_ble_eq_true rfl, Nat.le_of_ble_eq_true rfl⟩ (fun v M2 hp2 => ?_)
  obtain ⟨x2, rfl⟩ := hv2 v M2 hp2
  obtain ⟨rfl, hRel⟩ := hz x1 x2 M1 M2 hp1 hp2
  show AW _ _ _ _ _ _ _ _ _ _ _ _ _ _ _ _ _ _ _ [Value.int x1, Value.int x1] _
  exact a_icmp_eq 1460 B dL_law_515 (by decide) (fun _ => kk M1 M2 hRel) (fun c9 => absurd rfl c9)
set_option maxRecDepth 20000 in
theorem lc_now (B : BS sk D cy (lwd cy Ac Ar) A0 p s m #[Value.ref b] c RL cL_law 4) (hX : va_X b L xs s s.heap) (hbl : b < s.heap.size) (hbA : ¬ A0 b) (hi : i + 6 ≤ L) (hL : L ≤ 3072) (hd : DUO Rel l sk D cy Ac Ar mX6_now mX7_now [.int (xs (i + 1))] Value.int Mc Mr) (kk : ∀ M1 M2, Rel M1 M2 → AW p l e room_1 s m #[Value.ref b] below meth c D (lwd cy Ac Ar) A0 4 62 1194 Q 1460 [some (.ref b), some (.ref (Ac 0)), some (.ref (Ar 0)), some (.int (nI i))] [] (M1, M2)) : AW p l e room_1 s m #[Value.ref b] below meth c D (lwd cy Ac Ar) A0 4 62 1194 Q 520 [some (.ref b), some (.ref (Ac 0)), some (.ref (Ar 0)), some (.int (nI i))] [] (Mc, Mr) := by
  obtain ⟨h, h2, P, P2, hh, hh2, hCc, hCr, hv1, hv2, hz⟩ := hd
  refine a_aload_n B dL_law_520 rfl ?_
  refine a_aload_n B dL_law_521 rfl ?_
  refine a_iload_n B dL_law_522 rfl ?_
  refine a_iconst (v := 1) B dL_law_523 (by decide) ?_
  refine a_iadd B dL_law_524 ?_
  refine l_sld (i + 1) B hX hbl hbA (nI_add i 1) (by omega) hL dL_law_525 ?_
  refine l_callC (As := [.int (xs (i + 1))]) (n := 1) (fr := h) (lc := 34 * h) B cf_X6_now lk_L_56 in_X6_now se_X6_now rfl hCc dL_law_526 rfl rfl (Nat.le_of_ble_eq_true rfl) ⟨by omega, by show 8 + (2 + 11) + 34 * h ≤ 478; omega⟩ ⟨Nat.le_of_ble_eq_true rfl, Nat.le_of_ble_eq_true rfl⟩ (fun v M1 hp1 => ?_)
  obtain ⟨x1, rfl⟩ := hv1 v M1 hp1
  show AW _ _ _ _ _ _ _ _ _ _ _ _ _ _ _ _ _ _ _ [Value.int x1] _
  refine a_aload_n B dL_law_529 rfl ?_
  refine a_aload_n B dL_law_530 rfl ?_
  refine a_iload_n B dL_law_531 rfl ?_
  refine a_iconst (v := 1) B dL_law_532 (by decide) ?_
  refine a_iadd B dL_law_533 ?_
  refine l_sld (i + 1) B hX hbl hbA (nI_add i 1) (by omega) hL dL_law_534 ?_
  refine l_callR (As := [.int (xs (i + 1))]) (n := 1) (fr := h2) (lc := 34 * h2) B cf_X7_now lk_L_59 in_X7_now se_X7_now rfl hCr dL_law_535 rfl rfl (Nat.le_of_ble_eq_true rfl) ⟨by omega, by show 8 + (2 + 11) + 34 * h2 ≤ 478; omega⟩ ⟨Nat.le_of_ble_eq_true rfl, Nat.le_of_ble_eq_true rfl⟩ (fun v M2 hp2 => ?_)
  obtain ⟨x2, rfl⟩ := hv2 v M2 hp2
  obtain ⟨rfl, hRel⟩ := hz x1 x2 M1 M2 hp1 hp2
  show AW _ _ _ _ _ _ _ _ _ _ _ _ _ _ _ _ _ _ _ [Value.int x1, Value.int x1] _
  exact a_icmp_eq 1460 B dL_law_538 (by decide) (fun _ => kk M1 M2 hRel) (fun c9 => absurd rfl c9)
set_option maxRecDepth 20000 in
theorem lc_ahead (B : BS sk D cy (lwd cy Ac Ar) A0 p s m #[Value.ref b] c RL cL_law 4) (hX : va_X b L xs s s.heap) (hbl : b < s.heap.size) (hbA : ¬ A0 b) (hi : i + 6 ≤ L) (hL : L ≤ 3072) (hd : DUO Rel l sk D cy Ac Ar mX6_ahead mX7_ahead [.int (xs (i + 1)), .int (xs (i + 2)), .int (xs (i + 3))] Value.int Mc Mr) (kk : ∀ M1 M2, Rel M1 M2 → AW p l e room_1 s m #[Value.ref b] below meth c D (lwd cy Ac Ar) A0 4 62 1194 Q 1460 [some (.ref b), some (.ref (Ac 0)), some (.ref (Ar 0)), some (.int (nI i))] [] (M1, M2)) : AW p l e room_1 s m #[Value.ref b] below meth c D (lwd cy Ac Ar) A0 4 62 1194 Q 543 [some (.ref b), some (.ref (Ac 0)), some (.ref (Ar 0)), some (.int (nI i))] [] (Mc, Mr) := by
  obtain ⟨h, h2, P, P2, hh, hh2, hCc, hCr, hv1, hv2, hz⟩ := hd
  refine a_aload_n B dL_law_543 rfl ?_
  refine a_aload_n B dL_law_544 rfl ?_
  refine a_iload_n B dL_law_545 rfl ?_
  refine a_iconst (v := 1) B dL_law_546 (by decide) ?_
  refine a_iadd B dL_law_547 ?_
  refine l_sld (i + 1) B hX hbl hbA (nI_add i 1) (by omega) hL dL_law_548 ?_
  refine a_aload_n B dL_law_549 rfl ?_
  refine a_iload_n B dL_law_550 rfl ?_
  refine a_iconst (v := 2) B dL_law_551 (by decide) ?_
  refine a_iadd B dL_law_552 ?_
  refine l_sld (i + 2) B hX hbl hbA (nI_add i 2) (by omega) hL dL_law_553 ?_
  refine a_aload_n B dL_law_554 rfl ?_
  refine a_iload_n B dL_law_555 rfl ?_
  refine a_iconst (v := 3) B dL_law_556 (by decide) ?_
  refine a_iadd B dL_law_557 ?_
  refine l_sld (i + 3) B hX hbl hbA (nI_add i 3) (by omega) hL dL_law_558 ?_
  refine l_callC (As := [.int (xs (i + 1)), .int (xs (i + 2)), .int (xs (i + 3))]) (n := 3) (fr := h) (lc := 34 * h) B cf_X6_ahead lk_L_60 in_X6_ahead se_X6_ahead rfl hCc dL_law_559 rfl rfl (Nat.le_of_ble_eq_true rfl) ⟨by omega, by show 8 + (4 + 11) + 34 * h ≤ 478; omega⟩ ⟨Nat.le_of_ble_eq_true rfl, Nat.le_of_ble_eq_true rfl⟩ (fun v M1 hp1 => ?_)
  obtain ⟨x1, rfl⟩ := hv1 v M1 hp1
  show AW _ _ _ _ _ _ _ _ _ _ _ _ _ _ _ _ _ _ _ [Value.int x1] _
  refine a_aload_n B dL_law_562 rfl ?_
  refine a_aload_n B dL_law_563 rfl ?_
  refine a_iload_n B dL_law_564 rfl ?_
  refine a_iconst (v := 1) B dL_law_565 (by decide) ?_
  refine a_iadd B dL_law_566 ?_
  refine l_sld (i + 1) B hX hbl hbA (nI_add i 1) (by omega) hL dL_law_567 ?_
  refine a_aload_n B dL_law_568 rfl ?_
  refine a_iload_n B dL_law_569 rfl ?_
  refine a_iconst (v := 2) B dL_law_570 (by decide) ?_
  refine a_iadd B dL_law_571 ?_
  refine l_sld (i + 2) B hX hbl hbA (nI_add i 2) (by omega) hL dL_law_572 ?_
  refine a_aload_n B dL_law_573 rfl ?_
  refine a_iload_n B dL_law_574 rfl ?_
  refine a_iconst (v := 3) B dL_law_575 (by decide) ?_
  refine a_iadd B dL_law_576 ?_
  refine l_sld (i + 3) B hX hbl hbA (nI_add i 3) (by omega) hL dL_law_577 ?_
  refine l_callR (As := [.int (xs (i + 1)), .int (xs (i + 2)), .int (xs (i + 3))]) (n := 3) (fr := h2) (lc := 34 * h2) B cf_X7_ahead lk_L_63 in_X7_ahead se_X7_ahead rfl hCr dL_law_578 rfl rfl (Nat.le_of_ble_eq_true rfl) ⟨by omega, by show 8 + (5 + 11) + 34 * h2 ≤ 478; omega⟩ ⟨Nat.le_of_ble_eq_true rfl, Nat.le_of_ble_eq_true rfl⟩ (fun v M2 hp2 => ?_)
  obtain ⟨x2, rfl⟩ := hv2 v M2 hp2
  obtain ⟨rfl, hRel⟩ := hz x1 x2 M1 M2 hp1 hp2
  show AW _ _ _ _ _ _ _ _ _ _ _ _ _ _ _ _ _ _ _ [Value.int x1, Value.int x1] _
  exact a_icmp_eq 1460 B dL_law_581 (by decide) (fun _ => kk M1 M2 hRel) (fun c9 => absurd rfl c9)
set_option maxRecDepth 20000 in
theorem lc_ill (B : BS sk D cy (lwd cy Ac Ar) A0 p s m #[Value.ref b] c RL cL_law 4) (hX : va_X b L xs s s.heap) (hbl : b < s.heap.size) (hbA : ¬ A0 b) (hi : i + 6 ≤ L) (hL : L ≤ 3072) (hd : DUO Rel l sk D cy Ac Ar mX6_ill mX7_ill [.int (xs (i + 1))] Value.int Mc Mr) (kk : ∀ M1 M2, Rel M1 M2 → AW p l e room_1 s m #[Value.ref b] below meth c D (lwd cy Ac Ar) A0 4 62 1194 Q 1460 [some (.ref b), some (.ref (Ac 0)), some (.ref (Ar 0)), some (.int (nI i))] [] (M1, M2)) : AW p l e room_1 s m #[Value.ref b] below meth c D (lwd cy Ac Ar) A0 4 62 1194 Q 586 [some (.ref b), some (.ref (Ac 0)), some (.ref (Ar 0)), some (.int (nI i))] [] (Mc, Mr) := by
  obtain ⟨h, h2, P, P2, hh, hh2, hCc, hCr, hv1, hv2, hz⟩ := hd
  refine a_aload_n B dL_law_586 rfl ?_
  refine a_aload_n B dL_law_587 rfl ?_
  refine a_iload_n B dL_law_588 rfl ?_
  refine a_iconst (v := 1) B dL_law_589 (by decide) ?_
  refine a_iadd B dL_law_590 ?_
  refine l_sld (i + 1) B hX hbl hbA (nI_add i 1) (by omega) hL dL_law_591 ?_
  refine l_callC (As := [.int (xs (i + 1))]) (n := 1) (fr := h) (lc := 34 * h) B cf_X6_ill lk_L_64 in_X6_ill se_X6_ill rfl hCc dL_law_592 rfl rfl (Nat.le_of_ble_eq_true rfl) ⟨by omega, by show 8 + (2 + 11) + 34 * h ≤ 478; omega⟩ ⟨Nat.le_of_ble_eq_true rfl, Nat.le_of_ble_eq_true rfl⟩ (fun v M1 hp1 => ?_)
  obtain ⟨x1, rfl⟩ := hv1 v M1 hp1
  show AW _ _ _ _ _ _ _ _ _ _ _ _ _ _ _ _ _ _ _ [Value.int x1] _
  refine a_aload_n B dL_law_595 rfl ?_
  refine a_aload_n B dL_law_596 rfl ?_
  refine a_iload_n B dL_law_597 rfl ?_
  refine a_iconst (v := 1) B dL_law_598 (by decide) ?_
  refine a_iadd B dL_law_599 ?_
  refine l_sld (i + 1) B hX hbl hbA (nI_add i 1) (by omega) hL dL_law_600 ?_
  refine l_callR (As := [.int (xs (i + 1))]) (n := 1) (fr := h2) (lc := 34 * h2) B cf_X7_ill lk_L_67 in_X7_ill se_X7_ill rfl hCr dL_law_601 rfl rfl (Nat.le_of_ble_eq_true rfl) ⟨by omega, by show 8 + (2 + 11) + 34 * h2 ≤ 478; omega⟩ ⟨Nat.le_of_ble_eq_true rfl, Nat.le_of_ble_eq_true rfl⟩ (fun v M2 hp2 => ?_)
  obtain ⟨x2, rfl⟩ := hv2 v M2 hp2
  obtain ⟨rfl, hRel⟩ := hz x1 x2 M1 M2 hp1 hp2
  show AW _ _ _ _ _ _ _ _ _ _ _ _ _ _ _ _ _ _ _ [Value.int x1, Value.int x1] _
  exact a_icmp_eq 1460 B dL_law_604 (by decide) (fun _ => kk M1 M2 hRel) (fun c9 => absurd rfl c9)
set_option maxRecDepth 20000 in
theorem lc_out (B : BS sk D cy (lwd cy Ac Ar) A0 p s m #[Value.ref b] c RL cL_law 4) (hX : va_X b L xs s s.heap) (hbl : b < s.heap.size) (hbA : ¬ A0 b) (hi : i + 6 ≤ L) (hL : L ≤ 3072) (hd : DUO Rel l sk D cy Ac Ar mX6_out mX7_out [.int (xs (i + 1))] Value.int Mc Mr) (kk : ∀ M1 M2, Rel M1 M2 → AW p l e room_1 s m #[Value.ref b] below meth c D (lwd cy Ac Ar) A0 4 62 1194 Q 1460 [some (.ref b), some (.ref (Ac 0)), some (.ref (Ar 0)), some (.int (nI i))] [] (M1, M2)) : AW p l e room_1 s m #[Value.ref b] below meth c D (lwd cy Ac Ar) A0 4 62 1194 Q 609 [some (.ref b), some (.ref (Ac 0)), some (.ref (Ar 0)), some (.int (nI i))] [] (Mc, Mr) := by
  obtain ⟨h, h2, P, P2, hh, hh2, hCc, hCr, hv1, hv2, hz⟩ := hd
  refine a_aload_n B dL_law_609 rfl ?_
  refine a_aload_n B dL_law_610 rfl ?_
  refine a_iload_n B dL_law_611 rfl ?_
  refine a_iconst (v := 1) B dL_law_612 (by decide) ?_
  refine a_iadd B dL_law_613 ?_
  refine l_sld (i + 1) B hX hbl hbA (nI_add i 1) (by omega) hL dL_law_614 ?_
  refine l_callC (As := [.int (xs (i + 1))]) (n := 1) (fr := h) (lc := 34 * h) B cf_X6_out lk_L_68 in_X6_out se_X6_out rfl hCc dL_law_615 rfl rfl (Nat.le_of_ble_eq_true rfl) ⟨by omega, by show 8 + (2 + 11) + 34 * h ≤ 478; omega⟩ ⟨Nat.le_of_ble_eq_true rfl, Nat.le_of_ble_eq_true rfl⟩ (fun v M1 hp1 => ?_)
  obtain ⟨x1, rfl⟩ := hv1 v M1 hp1
  show AW _ _ _ _ _ _ _ _ _ _ _ _ _ _ _ _ _ _ _ [Value.int x1] _
  refine a_aload_n B dL_law_618 rfl ?_
  refine a_aload_n B dL_law_619 rfl ?_
  refine a_iload_n B dL_law_620 rfl ?_
  refine a_iconst (v := 1) B dL_law_621 (by decide) ?_
  refine a_iadd B dL_law_622 ?_
  refine l_sld (i + 1) B hX hbl hbA (nI_add i 1) (by omega) hL dL_law_623 ?_
  refine l_callR (As := [.int (xs (i + 1))]) (n := 1) (fr := h2) (lc := 34 * h2) B cf_X7_out lk_L_71 in_X7_out se_X7_out rfl hCr dL_law_624 rfl rfl (Nat.le_of_ble_eq_true rfl) ⟨by omega, by show 8 + (4 + 11) + 34 * h2 ≤ 478; omega⟩ ⟨Nat.le_of_ble_eq_true rfl, Nat.le_of_ble_eq_true rfl⟩ (fun v M2 hp2 => ?_)
  obtain ⟨x2, rfl⟩ := hv2 v M2 hp2
  obtain ⟨rfl, hRel⟩ := hz x1 x2 M1 M2 hp1 hp2
  show AW _ _ _ _ _ _ _ _ _ _ _ _ _ _ _ _ _ _ _ [Value.int x1, Value.int x1] _
  exact a_icmp_eq 1460 B dL_law_627 (by decide) (fun _ => kk M1 M2 hRel) (fun c9 => absurd rfl c9)
set_option maxRecDepth 20000 in
theorem lc_wise (B : BS sk D cy (lwd cy Ac Ar) A0 p s m #[Value.ref b] c RL cL_law 4) (hX : va_X b L xs s s.heap) (hbl : b < s.heap.size) (hbA : ¬ A0 b) (hi : i + 6 ≤ L) (hL : L ≤ 3072) (hd : DUO Rel l sk D cy Ac Ar mX6_wise mX7_wise [.int (xs (i + 1)), .int (xs (i + 2))] Value.int Mc Mr) (kk : ∀ M1 M2, Rel M1 M2 → AW p l e room_1 s m #[Value.ref b] below meth c D (lwd cy Ac Ar) A0 4 62 1194 Q 1460 [some (.ref b), some (.ref (Ac 0)), some (.ref (Ar 0)), some (.int (nI i))] [] (M1, M2)) : AW p l e room_1 s m #[Value.ref b] below meth c D (lwd cy Ac Ar) A0 4 62 1194 Q 632 [some (.ref b), some (.ref (Ac 0)), some (.ref (Ar 0)), some (.int (nI i))] [] (Mc, Mr) := by
  obtain ⟨h, h2, P, P2, hh, hh2, hCc, hCr, hv1, hv2, hz⟩ := hd
  refine a_aload_n B dL_law_632 rfl ?_
  refine a_aload_n B dL_law_633 rfl ?_
  refine a_iload_n B dL_law_634 rfl ?_
  refine a_iconst (v := 1) B dL_law_635 (by decide) ?_
  refine a_iadd B dL_law_636 ?_
  refine l_sld (i + 1) B hX hbl hbA (nI_add i 1) (by omega) hL dL_law_637 ?_
  refine a_aload_n B dL_law_638 rfl ?_
  refine a_iload_n B dL_law_639 rfl ?_
  refine a_iconst (v := 2) B dL_law_640 (by decide) ?_
  refine a_iadd B dL_law_641 ?_
  refine l_sld (i + 2) B hX hbl hbA (nI_add i 2) (by omega) hL dL_law_642 ?_
  refine l_callC (As := [.int (xs (i + 1)), .int (xs (i + 2))]) (n := 2) (fr := h) (lc := 34 * h) B cf_X6_wise lk_L_72 in_X6_wise se_X6_wise rfl hCc dL_law_643 rfl rfl (Nat.le_of_ble_eq_true rfl) ⟨by omega, by show 8 + (3 + 11) + 34 * h ≤ 478; omega⟩ ⟨Nat.le_of_ble_eq_true rfl, Nat.le_of_ble_eq_true rfl⟩ (fun v M1 hp1 => ?_)
  obtain ⟨x1, rfl⟩ := hv1 v M1 hp1
  show AW _ _ _ _ _ _ _ _ _ _ _ _ _ _ _ _ _ _ _ [Value.int x1] _
  refine a_aload_n B dL_law_646 rfl ?_
  refine a_aload_n B dL_law_647 rfl ?_
  refine a_iload_n B dL_law_648 rfl ?_
  refine a_iconst (v := 1) B dL_law_649 (by decide) ?_
  refine a_iadd B dL_law_650 ?_
  refine l_sld (i + 1) B hX hbl hbA (nI_add i 1) (by omega) hL dL_law_651 ?_
  refine a_aload_n B dL_law_652 rfl ?_
  refine a_iload_n B dL_law_653 rfl ?_
  refine a_iconst (v := 2) B dL_law_654 (by decide) ?_
  refine a_iadd B dL_law_655 ?_
  refine l_sld (i + 2) B hX hbl hbA (nI_add i 2) (by omega) hL dL_law_656 ?_
  refine l_callR (As := [.int (xs (i + 1)), .int (xs (i + 2))]) (n := 2) (fr := h2) (lc := 34 * h2) B cf_X7_wise lk_L_75 in_X7_wise se_X7_wise rfl hCr dL_law_657 rfl rfl (Nat.le_of_ble_eq_true rfl) ⟨by omega, by show 8 + (5 + 11) + 34 * h2 ≤ 478; omega⟩ ⟨Nat.le_of_ble_eq_true rfl, Nat.le_of_ble_eq_true rfl⟩ (fun v M2 hp2 => ?_)
  obtain ⟨x2, rfl⟩ := hv2 v M2 hp2
  obtain ⟨rfl, hRel⟩ := hz x1 x2 M1 M2 hp1 hp2
  show AW _ _ _ _ _ _ _ _ _ _ _ _ _ _ _ _ _ _ _ [Value.int x1, Value.int x1] _
  exact a_icmp_eq 1460 B dL_law_660 (by decide) (fun _ => kk M1 M2 hRel) (fun c9 => absurd rfl c9)
set_option maxRecDepth 20000 in
theorem lc_when (B : BS sk D cy (lwd cy Ac Ar) A0 p s m #[Value.ref b] c RL cL_law 4) (hX : va_X b L xs s s.heap) (hbl : b < s.heap.size) (hbA : ¬ A0 b) (hi : i + 6 ≤ L) (hL : L ≤ 3072) (hd : DUO Rel l sk D cy Ac Ar mX6_when mX7_when [.int (xs (i + 1)), .int (xs (i + 2))] Value.int Mc Mr) (kk : ∀ M1 M2, Rel M1 M2 → AW p l e room_1 s m #[Value.ref b] below meth c D (lwd cy Ac Ar) A0 4 62 1194 Q 1460 [some (.ref b), some (.ref (Ac 0)), some (.ref (Ar 0)), some (.int (nI i))] [] (M1, M2)) : AW p l e room_1 s m #[Value.ref b] below meth c D (lwd cy Ac Ar) A0 4 62 1194 Q 665 [some (.ref b), some (.ref (Ac 0)), some (.ref (Ar 0)), some (.int (nI i))] [] (Mc, Mr) := by
  obtain ⟨h, h2, P, P2, hh, hh2, hCc, hCr, hv1, hv2, hz⟩ := hd
  refine a_aload_n B dL_law_665 rfl ?_
  refine a_aload_n B dL_law_666 rfl ?_
  refine a_iload_n B dL_law_667 rfl ?_
  refine a_iconst (v := 1) B dL_law_668 (by decide) ?_
  refine a_iadd B dL_law_669 ?_
  refine l_sld (i + 1) B hX hbl hbA (nI_add i 1) (by omega) hL dL_law_670 ?_
  refine a_aload_n B dL_law_671 rfl ?_
  refine a_iload_n B dL_law_672 rfl ?_
  refine a_iconst (v := 2) B dL_law_673 (by decide) ?_
  refine a_iadd B dL_law_674 ?_
  refine l_sld (i + 2) B hX hbl hbA (nI_add i 2) (by omega) hL dL_law_675 ?_
  refine l_callC (As := [.int (xs (i + 1)), .int (xs (i + 2))]) (n := 2) (fr := h) (lc := 34 * h) B cf_X6_when lk_L_76 in_X6_when se_X6_when rfl hCc dL_law_676 rfl rfl (Nat.le_of_ble_eq_true rfl) ⟨by omega, by show 8 + (3 + 11) + 34 * h ≤ 478; omega⟩ ⟨Nat.le_of_ble_eq_true rfl, Nat.le_of_ble_eq_true rfl⟩ (fun v M1 hp1 => ?_)
  obtain ⟨x1, rfl⟩ := hv1 v M1 hp1
  show AW _ _ _ _ _ _ _ _ _ _ _ _ _ _ _ _ _ _ _ [Value.int x1] _
  refine a_aload_n B dL_law_679 rfl ?_
  refine a_aload_n B dL_law_680 rfl ?_
  refine a_iload_n B dL_law_681 rfl ?_
  refine a_iconst (v := 1) B dL_law_682 (by decide) ?_
  refine a_iadd B dL_law_683 ?_
  refine l_sld (i + 1) B hX hbl hbA (nI_add i 1) (by omega) hL dL_law_684 ?_
  refine a_aload_n B dL_law_685 rfl ?_
  refine a_iload_n B dL_law_686 rfl ?_
  refine a_iconst (v := 2) B dL_law_687 (by decide) ?_
  refine a_iadd B dL_law_688 ?_
  refine l_sld (i + 2) B hX hbl hbA (nI_add i 2) (by omega) hL dL_law_689 ?_
  refine l_callR (As := [.int (xs (i + 1)), .int (xs (i + 2))]) (n := 2) (fr := h2) (lc := 34 * h2) B cf_X7_when lk_L_79 in_X7_when se_X7_when rfl hCr dL_law_690 rfl rfl (Nat.le_of_ble_eq_true rfl) ⟨by omega, by show 8 + (3 + 11) + 34 * h2 ≤ 478; omega⟩ ⟨Nat.le_of_ble_eq_true rfl, Nat.le_of_ble_eq_true rfl⟩ (fun v M2 hp2 => ?_)
  obtain ⟨x2, rfl⟩ := hv2 v M2 hp2
  obtain ⟨rfl, hRel⟩ := hz x1 x2 M1 M2 hp1 hp2
  show AW _ _ _ _ _ _ _ _ _ _ _ _ _ _ _ _ _ _ _ [Value.int x1, Value.int x1] _
  exact a_icmp_eq 1460 B dL_law_693 (by decide) (fun _ => kk M1 M2 hRel) (fun c9 => absurd rfl c9)
set_option maxRecDepth 20000 in
theorem lc_wordsFor (B : BS sk D cy (lwd cy Ac Ar) A0 p s m #[Value.ref b] c RL cL_law 4) (hX : va_X b L xs s s.heap) (hbl : b < s.heap.size) (hbA : ¬ A0 b) (hi : i + 6 ≤ L) (hL : L ≤ 3072) (hd : DUO Rel l sk D cy Ac Ar mX6_wordsFor mX7_wordsFor [.int (xs (i + 1)), .int (xs (i + 2))] Value.int Mc Mr) (kk : ∀ M1 M2, Rel M1 M2 → AW p l e room_1 s m #[Value.ref b] below meth c D (lwd cy Ac Ar) A0 4 62 1194 Q 1460 [some (.ref b), some (.ref (Ac 0)), some (.ref (Ar 0)), some (.int (nI i))] [] (M1, M2)) : AW p l e room_1 s m #[Value.ref b] below meth c D (lwd cy Ac Ar) A0 4 62 1194 Q 698 [some (.ref b), some (.ref (Ac 0)), some (.ref (Ar 0)), some (.int (nI i))] [] (Mc, Mr) := by
  obtain ⟨h, h2, P, P2, hh, hh2, hCc, hCr, hv1, hv2, hz⟩ := hd
  refine a_aload_n B dL_law_698 rfl ?_
  refine a_aload_n B dL_law_699 rfl ?_
  refine a_iload_n B dL_law_700 rfl ?_
  refine a_iconst (v := 1) B dL_law_701 (by decide) ?_
  refine a_iadd B dL_law_702 ?_
  refine l_sld (i + 1) B hX hbl hbA (nI_add i 1) (by omega) hL dL_law_703 ?_
  refine a_aload_n B dL_law_704 rfl ?_
  refine a_iload_n B dL_law_705 rfl ?_
  refine a_iconst (v := 2) B dL_law_706 (by decide) ?_
  refine a_iadd B dL_law_707 ?_
  refine l_sld (i + 2) B hX hbl hbA (nI_add i 2) (by omega) hL dL_law_708 ?_
  refine l_callC (As := [.int (xs (i + 1)), .int (xs (i + 2))]) (n := 2) (fr := h) (lc := 34 * h) B cf_X6_wordsFor lk_L_80 in_X6_wordsFor se_X6_wordsFor rfl hCc dL_law_709 rfl rfl (Nat.le_of_ble_eq_true rfl) ⟨by omega, by show 8 + (3 + 11) + 34 * h ≤ 478; omega⟩ ⟨Nat.le_of_ble_eq_true rfl, Nat.le_of_ble_eq_true rfl⟩ (fun v M1 hp1 => ?_)
  obtain ⟨x1, rfl⟩ := hv1 v M1 hp1
  show AW _ _ _ _ _ _ _ _ _ _ _ _ _ _ _ _ _ _ _ [Value.int x1] _
  refine a_aload_n B dL_law_712 rfl ?_
  refine a_aload_n B dL_law_713 rfl ?_
  refine a_iload_n B dL_law_714 rfl ?_
  refine a_iconst (v := 1) B dL_law_715 (by decide) ?_
  refine a_iadd B dL_law_716 ?_
  refine l_sld (i + 1) B hX hbl hbA (nI_add i 1) (by omega) hL dL_law_717 ?_
  refine a_aload_n B dL_law_718 rfl ?_
  refine a_iload_n B dL_law_719 rfl ?_
  refine a_iconst (v := 2) B dL_law_720 (by decide) ?_
  refine a_iadd B dL_law_721 ?_
  refine l_sld (i + 2) B hX hbl hbA (nI_add i 2) (by omega) hL dL_law_722 ?_
  refine l_callR (As := [.int (xs (i + 1)), .int (xs (i + 2))]) (n := 2) (fr := h2) (lc := 34 * h2) B cf_X7_wordsFor lk_L_83 in_X7_wordsFor se_X7_wordsFor rfl hCr dL_law_723 rfl rfl (Nat.le_of_ble_eq_true rfl) ⟨by omega, by show 8 + (5 + 11) + 34 * h2 ≤ 478; omega⟩ ⟨Nat.le_of_ble_eq_true rfl, Nat.le_of_ble_eq_true rfl⟩ (fun v M2 hp2 => ?_)
  obtain ⟨x2, rfl⟩ := hv2 v M2 hp2
  obtain ⟨rfl, hRel⟩ := hz x1 x2 M1 M2 hp1 hp2
  show AW _ _ _ _ _ _ _ _ _ _ _ _ _ _ _ _ _ _ _ [Value.int x1, Value.int x1] _
  exact a_icmp_eq 1460 B dL_law_726 (by decide) (fun _ => kk M1 M2 hRel) (fun c9 => absurd rfl c9)
set_option maxRecDepth 20000 in
theorem lc_waterFor (B : BS sk D cy (lwd cy Ac Ar) A0 p s m #[Value.ref b] c RL cL_law 4) (hX : va_X b L xs s s.heap) (hbl : b < s.heap.size) (hbA : ¬ A0 b) (hi : i + 6 ≤ L) (hL : L ≤ 3072) (hd : DUO Rel l sk D cy Ac Ar mX6_waterFor mX7_waterFor [.int (xs (i + 1))] Value.int Mc Mr) (kk : ∀ M1 M2, Rel M1 M2 → AW p l e room_1 s m #[Value.ref b] below meth c D (lwd cy Ac Ar) A0 4 62 1194 Q 1460 [some (.ref b), some (.ref (Ac 0)), some (.ref (Ar 0)), some (.int (nI i))] [] (M1, M2)) : AW p l e room_1 s m #[Value.ref b] below meth c D (lwd cy Ac Ar) A0 4 62 1194 Q 731 [some (.ref b), some (.ref (Ac 0)), some (.ref (Ar 0)), some (.int (nI i))] [] (Mc, Mr) := by
  obtain ⟨h, h2, P, P2, hh, hh2, hCc, hCr, hv1, hv2, hz⟩ := hd
  refine a_aload_n B dL_law_731 rfl ?_
  refine a_aload_n B dL_law_732 rfl ?_
  refine a_iload_n B dL_law_733 rfl ?_
  refine a_iconst (v := 1) B dL_law_734 (by decide) ?_
  refine a_iadd B dL_law_735 ?_
  refine l_sld (i + 1) B hX hbl hbA (nI_add i 1) (by omega) hL dL_law_736 ?_
  refine l_callC (As := [.int (xs (i + 1))]) (n := 1) (fr := h) (lc := 34 * h) B cf_X6_waterFor lk_L_84 in_X6_waterFor se_X6_waterFor rfl hCc dL_law_737 rfl rfl (Nat.le_of_ble_eq_true rfl) ⟨by omega, by show 8 + (2 + 11) + 34 * h ≤ 478; omega⟩ ⟨Nat.le_of_ble_eq_true rfl, Nat.le_of_ble_eq_true rfl⟩ (fun v M1 hp1 => ?_)
  obtain ⟨x1, rfl⟩ := hv1 v M1 hp1
  show AW _ _ _ _ _ _ _ _ _ _ _ _ _ _ _ _ _ _ _ [Value.int x1] _
  refine a_aload_n B dL_law_740 rfl ?_
  refine a_aload_n B dL_law_741 rfl ?_
  refine a_iload_n B dL_law_742 rfl ?_
  refine a_iconst (v := 1) B dL_law_743 (by decide) ?_
  refine a_iadd B dL_law_744 ?_
  refine l_sld (i + 1) B hX hbl hbA (nI_add i 1) (by omega) hL dL_law_745 ?_
  refine l_callR (As := [.int (xs (i + 1))]) (n := 1) (fr := h2) (lc := 34 * h2) B cf_X7_waterFor lk_L_87 in_X7_waterFor se_X7_waterFor rfl hCr dL_law_746 rfl rfl (Nat.le_of_ble_eq_true rfl) ⟨by omega, by show 8 + (3 + 11) + 34 * h2 ≤ 478; omega⟩ ⟨Nat.le_of_ble_eq_true rfl, Nat.le_of_ble_eq_true rfl⟩ (fun v M2 hp2 => ?_)
  obtain ⟨x2, rfl⟩ := hv2 v M2 hp2
  obtain ⟨rfl, hRel⟩ := hz x1 x2 M1 M2 hp1 hp2
  show AW _ _ _ _ _ _ _ _ _ _ _ _ _ _ _ _ _ _ _ [Value.int x1, Value.int x1] _
  exact a_icmp_eq 1460 B dL_law_749 (by decide) (fun _ => kk M1 M2 hRel) (fun c9 => absurd rfl c9)
set_option maxRecDepth 20000 in
theorem lc_spare (B : BS sk D cy (lwd cy Ac Ar) A0 p s m #[Value.ref b] c RL cL_law 4) (hX : va_X b L xs s s.heap) (hbl : b < s.heap.size) (hbA : ¬ A0 b) (hi : i + 6 ≤ L) (hL : L ≤ 3072) (hd : DUO Rel l sk D cy Ac Ar mX6_spare mX7_spare [.int (xs (i + 1)), .int (xs (i + 2))] Value.int Mc Mr) (kk : ∀ M1 M2, Rel M1 M2 → AW p l e room_1 s m #[Value.ref b] below meth c D (lwd cy Ac Ar) A0 4 62 1194 Q 1460 [some (.ref b), some (.ref (Ac 0)), some (.ref (Ar 0)), some (.int (nI i))] [] (M1, M2)) : AW p l e room_1 s m #[Value.ref b] below meth c D (lwd cy Ac Ar) A0 4 62 1194 Q 754 [some (.ref b), some (.ref (Ac 0)), some (.ref (Ar 0)), some (.int (nI i))] [] (Mc, Mr) := by
  obtain ⟨h, h2, P, P2, hh, hh2, hCc, hCr, hv1, hv2, hz⟩ := hd
  refine a_aload_n B dL_law_754 rfl ?_
  refine a_aload_n B dL_law_755 rfl ?_
  refine a_iload_n B dL_law_756 rfl ?_
  refine a_iconst (v := 1) B dL_law_757 (by decide) ?_
  refine a_iadd B dL_law_758 ?_
  refine l_sld (i + 1) B hX hbl hbA (nI_add i 1) (by omega) hL dL_law_759 ?_
  refine a_aload_n B dL_law_760 rfl ?_
  refine a_iload_n B dL_law_761 rfl ?_
  refine a_iconst (v := 2) B dL_law_762 (by decide) ?_
  refine a_iadd B dL_law_763 ?_
  refine l_sld (i + 2) B hX hbl hbA (nI_add i 2) (by omega) hL dL_law_764 ?_
  refine l_callC (As := [.int (xs (i + 1)), .int (xs (i + 2))]) (n := 2) (fr := h) (lc := 34 * h) B cf_X6_spare lk_L_88 in_X6_spare se_X6_spare rfl hCc dL_law_765 rfl rfl (Nat.le_of_ble_eq_true rfl) ⟨by omega, by show 8 + (3 + 11) + 34 * h ≤ 478; omega⟩ ⟨Nat.le_of_ble_eq_true rfl, Nat.le_of_ble_eq_true rfl⟩ (fun v M1 hp1 => ?_)
  obtain ⟨x1, rfl⟩ := hv1 v M1 hp1
  show AW _ _ _ _ _ _ _ _ _ _ _ _ _ _ _ _ _ _ _ [Value.int x1] _
  refine a_aload_n B dL_law_768 rfl ?_
  refine a_aload_n B dL_law_769 rfl ?_
  refine a_iload_n B dL_law_770 rfl ?_
  refine a_iconst (v := 1) B dL_law_771 (by decide) ?_
  refine a_iadd B dL_law_772 ?_
  refine l_sld (i + 1) B hX hbl hbA (nI_add i 1) (by omega) hL dL_law_773 ?_
  refine a_aload_n B dL_law_774 rfl ?_
  refine a_iload_n B dL_law_775 rfl ?_
  refine a_iconst (v := 2) B dL_law_776 (by decide) ?_
  refine a_iadd B dL_law_777 ?_
  refine l_sld (i + 2) B hX hbl hbA (nI_add i 2) (by omega) hL dL_law_778 ?_
  refine l_callR (As := [.int (xs (i + 1)), .int (xs (i + 2))]) (n := 2) (fr := h2) (lc := 34 * h2) B cf_X7_spare lk_L_91 in_X7_spare se_X7_spare rfl hCr dL_law_779 rfl rfl (Nat.le_of_ble_eq_true rfl) ⟨by omega, by show 8 + (7 + 11) + 34 * h2 ≤ 478; omega⟩ ⟨Nat.le_of_ble_eq_true rfl, Nat.le_of_ble_eq_true rfl⟩ (fun v M2 hp2 => ?_)
  obtain ⟨x2, rfl⟩ := hv2 v M2 hp2
  obtain ⟨rfl, hRel⟩ := hz x1 x2 M1 M2 hp1 hp2
  show AW _ _ _ _ _ _ _ _ _ _ _ _ _ _ _ _ _ _ _ [Value.int x1, Value.int x1] _
  exact a_icmp_eq 1460 B dL_law_782 (by decide) (fun _ => kk M1 M2 hRel) (fun c9 => absurd rfl c9)
set_option maxRecDepth 20000 in
theorem lc_kindFor (B : BS sk D cy (lwd cy Ac Ar) A0 p s m #[Value.ref b] c RL cL_law 4) (hX : va_X b L xs s s.heap) (hbl : b < s.heap.size) (hbA : ¬ A0 b) (hi : i + 6 ≤ L) (hL : L ≤ 3072) (hd : DUO Rel l sk D cy Ac Ar mX6_kindFor mX7_kindFor [.int (xs (i + 1)), .int (xs (i + 2))] Value.int Mc Mr) (kk : ∀ M1 M2, Rel M1 M2 → AW p l e room_1 s m #[Value.ref b] below meth c D (lwd cy Ac Ar) A0 4 62 1194 Q 1460 [some (.ref b), some (.ref (Ac 0)), some (.ref (Ar 0)), some (.int (nI i))] [] (M1, M2)) : AW p l e room_1 s m #[Value.ref b] below meth c D (lwd cy Ac Ar) A0 4 62 1194 Q 787 [some (.ref b), some (.ref (Ac 0)), some (.ref (Ar 0)), some (.int (nI i))] [] (Mc, Mr) := by
  obtain ⟨h, h2, P, P2, hh, hh2, hCc, hCr, hv1, hv2, hz⟩ := hd
  refine a_aload_n B dL_law_787 rfl ?_
  refine a_aload_n B dL_law_788 rfl ?_
  refine a_iload_n B dL_law_789 rfl ?_
  refine a_iconst (v := 1) B dL_law_790 (by decide) ?_
  refine a_iadd B dL_law_791 ?_
  refine l_sld (i + 1) B hX hbl hbA (nI_add i 1) (by omega) hL dL_law_792 ?_
  refine a_aload_n B dL_law_793 rfl ?_
  refine a_iload_n B dL_law_794 rfl ?_
  refine a_iconst (v := 2) B dL_law_795 (by decide) ?_
  refine a_iadd B dL_law_796 ?_
  refine l_sld (i + 2) B hX hbl hbA (nI_add i 2) (by omega) hL dL_law_797 ?_
  refine l_callC (As := [.int (xs (i + 1)), .int (xs (i + 2))]) (n := 2) (fr := h) (lc := 34 * h) B cf_X6_kindFor lk_L_92 in_X6_kindFor se_X6_kindFor rfl hCc dL_law_798 rfl rfl (Nat.le_of_ble_eq_true rfl) ⟨by omega, by show 8 + (3 + 11) + 34 * h ≤ 478; omega⟩ ⟨Nat.le_of_ble_eq_true rfl, Nat.le_of_ble_eq_true rfl⟩ (fun v M1 hp1 => ?_)
  obtain ⟨x1, rfl⟩ := hv1 v M1 hp1
  show AW _ _ _ _ _ _ _ _ _ _ _ _ _ _ _ _ _ _ _ [Value.int x1] _
  refine a_aload_n B dL_law_801 rfl ?_
  refine a_aload_n B dL_law_802 rfl ?_
  refine a_iload_n B dL_law_803 rfl ?_
  refine a_iconst (v := 1) B dL_law_804 (by decide) ?_
  refine a_iadd B dL_law_805 ?_
  refine l_sld (i + 1) B hX hbl hbA (nI_add i 1) (by omega) hL dL_law_806 ?_
  refine a_aload_n B dL_law_807 rfl ?_
  refine a_iload_n B dL_law_808 rfl ?_
  refine a_iconst (v := 2) B dL_law_809 (by decide) ?_
  refine a_iadd B dL_law_810 ?_
  refine l_sld (i + 2) B hX hbl hbA (nI_add i 2) (by omega) hL dL_law_811 ?_
  refine l_callR (As := [.int (xs (i + 1)), .int (xs (i + 2))]) (n := 2) (fr := h2) (lc := 34 * h2) B cf_X7_kindFor lk_L_95 in_X7_kindFor se_X7_kindFor rfl hCr dL_law_812 rfl rfl (Nat.le_of_ble_eq_true rfl) ⟨by omega, by show 8 + (7 + 11) + 34 * h2 ≤ 478; omega⟩ ⟨Nat.le_of_ble_eq_true rfl, Nat.le_of_ble_eq_true rfl⟩ (fun v M2 hp2 => ?_)
  obtain ⟨x2, rfl⟩ := hv2 v M2 hp2
  obtain ⟨rfl, hRel⟩ := hz x1 x2 M1 M2 hp1 hp2
  show AW _ _ _ _ _ _ _ _ _ _ _ _ _ _ _ _ _ _ _ [Value.int x1, Value.int x1] _
  exact a_icmp_eq 1460 B dL_law_815 (by decide) (fun _ => kk M1 M2 hRel) (fun c9 => absurd rfl c9)
set_option maxRecDepth 20000 in
theorem lc_fast (B : BS sk D cy (lwd cy Ac Ar) A0 p s m #[Value.ref b] c RL cL_law 4) (hX : va_X b L xs s s.heap) (hbl : b < s.heap.size) (hbA : ¬ A0 b) (hi : i + 6 ≤ L) (hL : L ≤ 3072) (hd : DUO Rel l sk D cy Ac Ar mX6_fast mX7_fast [.int (xs (i + 1))] Value.int Mc Mr) (kk : ∀ M1 M2, Rel M1 M2 → AW p l e room_1 s m #[Value.ref b] below meth c D (lwd cy Ac Ar) A0 4 62 1194 Q 1460 [some (.ref b), some (.ref (Ac 0)), some (.ref (Ar 0)), some (.int (nI i))] [] (M1, M2)) : AW p l e room_1 s m #[Value.ref b] below meth c D (lwd cy Ac Ar) A0 4 62 1194 Q 820 [some (.ref b), some (.ref (Ac 0)), some (.ref (Ar 0)), some (.int (nI i))] [] (Mc, Mr) := by
  obtain ⟨h, h2, P, P2, hh, hh2, hCc, hCr, hv1, hv2, hz⟩ := hd
  refine a_aload_n B dL_law_820 rfl ?_
  refine a_aload_n B dL_law_821 rfl ?_
  refine a_iload_n B dL_law_822 rfl ?_
  refine a_iconst (v := 1) B dL_law_823 (by decide) ?_
  refine a_iadd B dL_law_824 ?_
  refine l_sld (i + 1) B hX hbl hbA (nI_add i 1) (by omega) hL dL_law_825 ?_
  refine l_callC (As := [.int (xs (i + 1))]) (n := 1) (fr := h) (lc := 34 * h) B cf_X6_fast lk_L_96 in_X6_fast se_X6_fast rfl hCc dL_law_826 rfl rfl (Nat.le_of_ble_eq_true rfl) ⟨by omega, by show 8 + (2 + 11) + 34 * h ≤ 478; omega⟩ ⟨Nat.le_of_ble_eq_true rfl, Nat.le_of_ble_eq_true rfl⟩ (fun v M1 hp1 => ?_)
  obtain ⟨x1, rfl⟩ := hv1 v M1 hp1
  show AW _ _ _ _ _ _ _ _ _ _ _ _ _ _ _ _ _ _ _ [Value.int x1] _
  refine a_aload_n B dL_law_829 rfl ?_
  refine a_aload_n B dL_law_830 rfl ?_
  refine a_iload_n B dL_law_831 rfl ?_
  refine a_iconst (v := 1) B dL_law_832 (by decide) ?_
  refine a_iadd B dL_law_833 ?_
  refine l_sld (i + 1) B hX hbl hbA (nI_add i 1) (by omega) hL dL_law_834 ?_
  refine l_callR (As := [.int (xs (i + 1))]) (n := 1) (fr := h2) (lc := 34 * h2) B cf_X7_fast lk_L_99 in_X7_fast se_X7_fast rfl hCr dL_law_835 rfl rfl (Nat.le_of_ble_eq_true rfl) ⟨by omega, by show 8 + (5 + 11) + 34 * h2 ≤ 478; omega⟩ ⟨Nat.le_of_ble_eq_true rfl, Nat.le_of_ble_eq_true rfl⟩ (fun v M2 hp2 => ?_)
  obtain ⟨x2, rfl⟩ := hv2 v M2 hp2
  obtain ⟨rfl, hRel⟩ := hz x1 x2 M1 M2 hp1 hp2
  show AW _ _ _ _ _ _ _ _ _ _ _ _ _ _ _ _ _ _ _ [Value.int x1, Value.int x1] _
  exact a_icmp_eq 1460 B dL_law_838 (by decide) (fun _ => kk M1 M2 hRel) (fun c9 => absurd rfl c9)
set_option maxRecDepth 20000 in
theorem lc_cover (B : BS sk D cy (lwd cy Ac Ar) A0 p s m #[Value.ref b] c RL cL_law 4) (hX : va_X b L xs s s.heap) (hbl : b < s.heap.size) (hbA : ¬ A0 b) (hi : i + 6 ≤ L) (hL : L ≤ 3072) (hd : DUO Rel l sk D cy Ac Ar mX6_cover mX7_cover [.int (xs (i + 1))] Value.int Mc Mr) (kk : ∀ M1 M2, Rel M1 M2 → AW p l e room_1 s m #[Value.ref b] below meth c D (lwd cy Ac Ar) A0 4 62 1194 Q 1460 [some (.ref b), some (.ref (Ac 0)), some (.ref (Ar 0)), some (.int (nI i))] [] (M1, M2)) : AW p l e room_1 s m #[Value.ref b] below meth c D (lwd cy Ac Ar) A0 4 62 1194 Q 843 [some (.ref b), some (.ref (Ac 0)), some (.ref (Ar 0)), some (.int (nI i))] [] (Mc, Mr) := by
  obtain ⟨h, h2, P, P2, hh, hh2, hCc, hCr, hv1, hv2, hz⟩ := hd
  refine a_aload_n B dL_law_843 rfl ?_
  refine a_aload_n B dL_law_844 rfl ?_
  refine a_iload_n B dL_law_845 rfl ?_
  refine a_iconst (v := 1) B dL_law_846 (by decide) ?_
  refine a_iadd B dL_law_847 ?_
  refine l_sld (i + 1) B hX hbl hbA (nI_add i 1) (by omega) hL dL_law_848 ?_
  refine l_callC (As := [.int (xs (i + 1))]) (n := 1) (fr := h) (lc := 34 * h) B cf_X6_cover lk_L_100 in_X6_cover se_X6_cover rfl hCc dL_law_849 rfl rfl (Nat.le_of_ble_eq_true rfl) ⟨by omega, by show 8 + (2 + 11) + 34 * h ≤ 478; omega⟩ ⟨Nat.le_of_ble_eq_true rfl, Nat.le_of_ble_eq_true rfl⟩ (fun v M1 hp1 => ?_)
  obtain ⟨x1, rfl⟩ := hv1 v M1 hp1
  show AW _ _ _ _ _ _ _ _ _ _ _ _ _ _ _ _ _ _ _ [Value.int x1] _
  refine a_aload_n B dL_law_852 rfl ?_
  refine a_aload_n B dL_law_853 rfl ?_
  refine a_iload_n B dL_law_854 rfl ?_
  refine a_iconst (v := 1) B dL_law_855 (by decide) ?_
  refine a_iadd B dL_law_856 ?_
  refine l_sld (i + 1) B hX hbl hbA (nI_add i 1) (by omega) hL dL_law_857 ?_
  refine l_callR (As := [.int (xs (i + 1))]) (n := 1) (fr := h2) (lc := 34 * h2) B cf_X7_cover lk_L_103 in_X7_cover se_X7_cover rfl hCr dL_law_858 rfl rfl (Nat.le_of_ble_eq_true rfl) ⟨by omega, by show 8 + (6 + 11) + 34 * h2 ≤ 478; omega⟩ ⟨Nat.le_of_ble_eq_true rfl, Nat.le_of_ble_eq_true rfl⟩ (fun v M2 hp2 => ?_)
  obtain ⟨x2, rfl⟩ := hv2 v M2 hp2
  obtain ⟨rfl, hRel⟩ := hz x1 x2 M1 M2 hp1 hp2
  show AW _ _ _ _ _ _ _ _ _ _ _ _ _ _ _ _ _ _ _ [Value.int x1, Value.int x1] _
  exact a_icmp_eq 1460 B dL_law_861 (by decide) (fun _ => kk M1 M2 hRel) (fun c9 => absurd rfl c9)
set_option maxRecDepth 20000 in
theorem lc_fits (B : BS sk D cy (lwd cy Ac Ar) A0 p s m #[Value.ref b] c RL cL_law 4) (hX : va_X b L xs s s.heap) (hbl : b < s.heap.size) (hbA : ¬ A0 b) (hi : i + 6 ≤ L) (hL : L ≤ 3072) (hd : DUO Rel l sk D cy Ac Ar mX6_fits mX7_fits [.int (xs (i + 1)), .int (xs (i + 2))] Value.int Mc Mr) (kk : ∀ M1 M2, Rel M1 M2 → AW p l e room_1 s m #[Value.ref b] below meth c D (lwd cy Ac Ar) A0 4 62 1194 Q 1460 [some (.ref b), some (.ref (Ac 0)), some (.ref (Ar 0)), some (.int (nI i))] [] (M1, M2)) : AW p l e room_1 s m #[Value.ref b] below meth c D (lwd cy Ac Ar) A0 4 62 1194 Q 866 [some (.ref b), some (.ref (Ac 0)), some (.ref (Ar 0)), some (.int (nI i))] [] (Mc, Mr) := by
  obtain ⟨h, h2, P, P2, hh, hh2, hCc, hCr, hv1, hv2, hz⟩ := hd
  refine a_aload_n B dL_law_866 rfl ?_
  refine a_aload_n B dL_law_867 rfl ?_
  refine a_iload_n B dL_law_868 rfl ?_
  refine a_iconst (v := 1) B dL_law_869 (by decide) ?_
  refine a_iadd B dL_law_870 ?_
  refine l_sld (i + 1) B hX hbl hbA (nI_add i 1) (by omega) hL dL_law_871 ?_
  refine a_aload_n B dL_law_872 rfl ?_
  refine a_iload_n B dL_law_873 rfl ?_
  refine a_iconst (v := 2) B dL_law_874 (by decide) ?_
  refine a_iadd B dL_law_875 ?_
  refine l_sld (i + 2) B hX hbl hbA (nI_add i 2) (by omega) hL dL_law_876 ?_
  refine l_callC (As := [.int (xs (i + 1)), .int (xs (i + 2))]) (n := 2) (fr := h) (lc := 34 * h) B cf_X6_fits lk_L_104 in_X6_fits se_X6_fits rfl hCc dL_law_877 rfl rfl (Nat.le_of_ble_eq_true rfl) ⟨by omega, by show 8 + (5 + 11) + 34 * h ≤ 478; omega⟩ ⟨Nat.le_of_ble_eq_true rfl, Nat.le_of_ble_eq_true rfl⟩ (fun v M1 hp1 => ?_)
  obtain ⟨x1, rfl⟩ := hv1 v M1 hp1
  show AW _ _ _ _ _ _ _ _ _ _ _ _ _ _ _ _ _ _ _ [Value.int x1] _
  refine a_aload_n B dL_law_880 rfl ?_
  refine a_aload_n B dL_law_881 rfl ?_
  refine a_iload_n B dL_law_882 rfl ?_
  refine a_iconst (v := 1) B dL_law_883 (by decide) ?_
  refine a_iadd B dL_law_884 ?_
  refine l_sld (i + 1) B hX hbl hbA (nI_add i 1) (by omega) hL dL_law_885 ?_
  refine a_aload_n B dL_law_886 rfl ?_
  refine a_iload_n B dL_law_887 rfl ?_
  refine a_iconst (v := 2) B dL_law_888 (by decide) ?_
  refine a_iadd B dL_law_889 ?_
  refine l_sld (i + 2) B hX hbl hbA (nI_add i 2) (by omega) hL dL_law_890 ?_
  refine l_callR (As := [.int (xs (i + 1)), .int (xs (i + 2))]) (n := 2) (fr := h2) (lc := 34 * h2) B cf_X7_fits lk_L_107 in_X7_fits se_X7_fits rfl hCr dL_law_891 rfl rfl (Nat.le_of_ble_eq_true rfl) ⟨by omega, by show 8 + (6 + 11) + 34 * h2 ≤ 478; omega⟩ ⟨Nat.le_of_ble_eq_true rfl, Nat.le_of_ble_eq_true rfl⟩ (fun v M2 hp2 => ?_)
  obtain ⟨x2, rfl⟩ := hv2 v M2 hp2
  obtain ⟨rfl, hRel⟩ := hz x1 x2 M1 M2 hp1 hp2
  show AW _ _ _ _ _ _ _ _ _ _ _ _ _ _ _ _ _ _ _ [Value.int x1, Value.int x1] _
  exact a_icmp_eq 1460 B dL_law_894 (by decide) (fun _ => kk M1 M2 hRel) (fun c9 => absurd rfl c9)
set_option maxRecDepth 20000 in
theorem lc_words (B : BS sk D cy (lwd cy Ac Ar) A0 p s m #[Value.ref b] c RL cL_law 4) (hX : va_X b L xs s s.heap) (hbl : b < s.heap.size) (hbA : ¬ A0 b) (hi : i + 6 ≤ L) (hL : L ≤ 3072) (hd : DUO Rel l sk D cy Ac Ar mX6_words mX7_words [.int (xs (i + 1)), .int (xs (i + 2))] Value.int Mc Mr) (kk : ∀ M1 M2, Rel M1 M2 → AW p l e room_1 s m #[Value.ref b] below meth c D (lwd cy Ac Ar) A0 4 62 1194 Q 1460 [some (.ref b), some (.ref (Ac 0)), some (.ref (Ar 0)), some (.int (nI i))] [] (M1, M2)) : AW p l e room_1 s m #[Value.ref b] below meth c D (lwd cy Ac Ar) A0 4 62 1194 Q 899 [some (.ref b), some (.ref (Ac 0)), some (.ref (Ar 0)), some (.int (nI i))] [] (Mc, Mr) := by
  obtain ⟨h, h2, P, P2, hh, hh2, hCc, hCr, hv1, hv2, hz⟩ := hd
  refine a_aload_n B dL_law_899 rfl ?_
  refine a_aload_n B dL_law_900 rfl ?_
  refine a_iload_n B dL_law_901 rfl ?_
  refine a_iconst (v := 1) B dL_law_902 (by decide) ?_
  refine a_iadd B dL_law_903 ?_
  refine l_sld (i + 1) B hX hbl hbA (nI_add i 1) (by omega) hL dL_law_904 ?_
  refine a_aload_n B dL_law_905 rfl ?_
  refine a_iload_n B dL_law_906 rfl ?_
  refine a_iconst (v := 2) B dL_law_907 (by decide) ?_
  refine a_iadd B dL_law_908 ?_
  refine l_sld (i + 2) B hX hbl hbA (nI_add i 2) (by omega) hL dL_law_909 ?_
  refine l_callC (As := [.int (xs (i + 1)), .int (xs (i + 2))]) (n := 2) (fr := h) (lc := 34 * h) B cf_X6_words lk_L_108 in_X6_words se_X6_words rfl hCc dL_law_910 rfl rfl (Nat.le_of_ble_eq_true rfl) ⟨by omega, by show 8 + (8 + 11) + 34 * h ≤ 478; omega⟩ ⟨Nat.le_of_ble_eq_true rfl, Nat.le_of_ble_eq_true rfl⟩ (fun v M1 hp1 => ?_)
  obtain ⟨x1, rfl⟩ := hv1 v M1 hp1
  show AW _ _ _ _ _ _ _ _ _ _ _ _ _ _ _ _ _ _ _ [Value.int x1] _
  refine a_aload_n B dL_law_913 rfl ?_
  refine a_aload_n B dL_law_914 rfl ?_
  refine a_iload_n B dL_law_915 rfl ?_
  refine a_iconst (v := 1) B dL_law_916 (by decide) ?_
  refine a_iadd B dL_law_917 ?_
  refine l_sld (i + 1) B hX hbl hbA (nI_add i 1) (by omega) hL dL_law_918 ?_
  refine a_aload_n B dL_law_919 rfl ?_
  refine a_iload_n B dL_law_920 rfl ?_
  refine a_iconst (v := 2) B dL_law_921 (by decide) ?_
  refine a_iadd B dL_law_922 ?_
  refine l_sld (i + 2) B hX hbl hbA (nI_add i 2) (by omega) hL dL_law_923 ?_
  refine l_callR (As := [.int (xs (i + 1)), .int (xs (i + 2))]) (n := 2) (fr := h2) (lc := 34 * h2) B cf_X7_words lk_L_111 in_X7_words se_X7_words rfl hCr dL_law_924 rfl rfl (Nat.le_of_ble_eq_true rfl) ⟨by omega, by show 8 + (5 + 11) + 34 * h2 ≤ 478; omega⟩ ⟨Nat.le_of_ble_eq_true rfl, Nat.le_of_ble_eq_true rfl⟩ (fun v M2 hp2 => ?_)
  obtain ⟨x2, rfl⟩ := hv2 v M2 hp2
  obtain ⟨rfl, hRel⟩ := hz x1 x2 M1 M2 hp1 hp2
  show AW _ _ _ _ _ _ _ _ _ _ _ _ _ _ _ _ _ _ _ [Value.int x1, Value.int x1] _
  exact a_icmp_eq 1460 B dL_law_927 (by decide) (fun _ => kk M1 M2 hRel) (fun c9 => absurd rfl c9)
set_option maxRecDepth 20000 in
theorem lc_kinds (B : BS sk D cy (lwd cy Ac Ar) A0 p s m #[Value.ref b] c RL cL_law 4) (hX : va_X b L xs s s.heap) (hbl : b < s.heap.size) (hbA : ¬ A0 b) (hi : i + 6 ≤ L) (hL : L ≤ 3072) (hd : DUO Rel l sk D cy Ac Ar mX6_kinds mX7_kinds [.int (xs (i + 1)), .int (xs (i + 2))] Value.int Mc Mr) (kk : ∀ M1 M2, Rel M1 M2 → AW p l e room_1 s m #[Value.ref b] below meth c D (lwd cy Ac Ar) A0 4 62 1194 Q 1460 [some (.ref b), some (.ref (Ac 0)), some (.ref (Ar 0)), some (.int (nI i))] [] (M1, M2)) : AW p l e room_1 s m #[Value.ref b] below meth c D (lwd cy Ac Ar) A0 4 62 1194 Q 932 [some (.ref b), some (.ref (Ac 0)), some (.ref (Ar 0)), some (.int (nI i))] [] (Mc, Mr) := by
  obtain ⟨h, h2, P, P2, hh, hh2, hCc, hCr, hv1, hv2, hz⟩ := hd
  refine a_aload_n B dL_law_932 rfl ?_
  refine a_aload_n B dL_law_933 rfl ?_
  refine a_iload_n B dL_law_934 rfl ?_
  refine a_iconst (v := 1) B dL_law_935 (by decide) ?_
  refine a_iadd B dL_law_936 ?_
  refine l_sld (i + 1) B hX hbl hbA (nI_add i 1) (by omega) hL dL_law_937 ?_
  refine a_aload_n B dL_law_938 rfl ?_
  refine a_iload_n B dL_law_939 rfl ?_
  refine a_iconst (v := 2) B dL_law_940 (by decide) ?_
  refine a_iadd B dL_law_941 ?_
  refine l_sld (i + 2) B hX hbl hbA (nI_add i 2) (by omega) hL dL_law_942 ?_
  refine l_callC (As := [.int (xs (i + 1)), .int (xs (i + 2))]) (n := 2) (fr := h) (lc := 34 * h) B cf_X6_kinds lk_L_112 in_X6_kinds se_X6_kinds rfl hCc dL_law_943 rfl rfl (Nat.le_of_ble_eq_true rfl) ⟨by omega, by show 8 + (5 + 11) + 34 * h ≤ 478; omega⟩ ⟨Nat.le_of_ble_eq_true rfl, Nat.le_of_ble_eq_true rfl⟩ (fun v M1 hp1 => ?_)
  obtain ⟨x1, rfl⟩ := hv1 v M1 hp1
  show AW _ _ _ _ _ _ _ _ _ _ _ _ _ _ _ _ _ _ _ [Value.int x1] _
  refine a_aload_n B dL_law_946 rfl ?_
  refine a_aload_n B dL_law_947 rfl ?_
  refine a_iload_n B dL_law_948 rfl ?_
  refine a_iconst (v := 1) B dL_law_949 (by decide) ?_
  refine a_iadd B dL_law_950 ?_
  refine l_sld (i + 1) B hX hbl hbA (nI_add i 1) (by omega) hL dL_law_951 ?_
  refine a_aload_n B dL_law_952 rfl ?_
  refine a_iload_n B dL_law_953 rfl ?_
  refine a_iconst (v := 2) B dL_law_954 (by decide) ?_
  refine a_iadd B dL_law_955 ?_
  refine l_sld (i + 2) B hX hbl hbA (nI_add i 2) (by omega) hL dL_law_956 ?_
  refine l_callR (As := [.int (xs (i + 1)), .int (xs (i + 2))]) (n := 2) (fr := h2) (lc := 34 * h2) B cf_X7_kinds lk_L_115 in_X7_kinds se_X7_kinds rfl hCr dL_law_957 rfl rfl (Nat.le_of_ble_eq_true rfl) ⟨by omega, by show 8 + (6 + 11) + 34 * h2 ≤ 478; omega⟩ ⟨Nat.le_of_ble_eq_true rfl, Nat.le_of_ble_eq_true rfl⟩ (fun v M2 hp2 => ?_)
  obtain ⟨x2, rfl⟩ := hv2 v M2 hp2
  obtain ⟨rfl, hRel⟩ := hz x1 x2 M1 M2 hp1 hp2
  show AW _ _ _ _ _ _ _ _ _ _ _ _ _ _ _ _ _ _ _ [Value.int x1, Value.int x1] _
  exact a_icmp_eq 1460 B dL_law_960 (by decide) (fun _ => kk M1 M2 hRel) (fun c9 => absurd rfl c9)
set_option maxRecDepth 20000 in
theorem lc_come (B : BS sk D cy (lwd cy Ac Ar) A0 p s m #[Value.ref b] c RL cL_law 4) (hX : va_X b L xs s s.heap) (hbl : b < s.heap.size) (hbA : ¬ A0 b) (hi : i + 6 ≤ L) (hL : L ≤ 3072) (hd : DUO Rel l sk D cy Ac Ar mX6_come mX7_come [.int (xs (i + 1))] Value.int Mc Mr) (kk : ∀ M1 M2, Rel M1 M2 → AW p l e room_1 s m #[Value.ref b] below meth c D (lwd cy Ac Ar) A0 4 62 1194 Q 1460 [some (.ref b), some (.ref (Ac 0)), some (.ref (Ar 0)), some (.int (nI i))] [] (M1, M2)) : AW p l e room_1 s m #[Value.ref b] below meth c D (lwd cy Ac Ar) A0 4 62 1194 Q 965 [some (.ref b), some (.ref (Ac 0)), some (.ref (Ar 0)), some (.int (nI i))] [] (Mc, Mr) := by
  obtain ⟨h, h2, P, P2, hh, hh2, hCc, hCr, hv1, hv2, hz⟩ := hd
  refine a_aload_n B dL_law_965 rfl ?_
  refine a_aload_n B dL_law_966 rfl ?_
  refine a_iload_n B dL_law_967 rfl ?_
  refine a_iconst (v := 1) B dL_law_968 (by decide) ?_
  refine a_iadd B dL_law_969 ?_
  refine l_sld (i + 1) B hX hbl hbA (nI_add i 1) (by omega) hL dL_law_970 ?_
  refine l_callC (As := [.int (xs (i + 1))]) (n := 1) (fr := h) (lc := 34 * h) B cf_X6_come lk_L_116 in_X6_come se_X6_come rfl hCc dL_law_971 rfl rfl (Nat.le_of_ble_eq_true rfl) ⟨by omega, by show 8 + (5 + 11) + 34 * h ≤ 478; omega⟩ ⟨Nat.le_of_ble_eq_true rfl, Nat.le_of_ble_eq_true rfl⟩ (fun v M1 hp1 => ?_)
  obtain ⟨x1, rfl⟩ := hv1 v M1 hp1
  show AW _ _ _ _ _ _ _ _ _ _ _ _ _ _ _ _ _ _ _ [Value.int x1] _
  refine a_aload_n B dL_law_974 rfl ?_
  refine a_aload_n B dL_law_975 rfl ?_
  refine a_iload_n B dL_law_976 rfl ?_
  refine a_iconst (v := 1) B dL_law_977 (by decide) ?_
  refine a_iadd B dL_law_978 ?_
  refine l_sld (i + 1) B hX hbl hbA (nI_add i 1) (by omega) hL dL_law_979 ?_
  refine l_callR (As := [.int (xs (i + 1))]) (n := 1) (fr := h2) (lc := 34 * h2) B cf_X7_come lk_L_119 in_X7_come se_X7_come rfl hCr dL_law_980 rfl rfl (Nat.le_of_ble_eq_true rfl) ⟨by omega, by show 8 + (4 + 11) + 34 * h2 ≤ 478; omega⟩ ⟨Nat.le_of_ble_eq_true rfl, Nat.le_of_ble_eq_true rfl⟩ (fun v M2 hp2 => ?_)
  obtain ⟨x2, rfl⟩ := hv2 v M2 hp2
  obtain ⟨rfl, hRel⟩ := hz x1 x2 M1 M2 hp1 hp2
  show AW _ _ _ _ _ _ _ _ _ _ _ _ _ _ _ _ _ _ _ [Value.int x1, Value.int x1] _
  exact a_icmp_eq 1460 B dL_law_983 (by decide) (fun _ => kk M1 M2 hRel) (fun c9 => absurd rfl c9)
set_option maxRecDepth 20000 in
theorem lc_odds (B : BS sk D cy (lwd cy Ac Ar) A0 p s m #[Value.ref b] c RL cL_law 4) (hX : va_X b L xs s s.heap) (hbl : b < s.heap.size) (hbA : ¬ A0 b) (hi : i + 6 ≤ L) (hL : L ≤ 3072) (hd : DUO Rel l sk D cy Ac Ar mX6_odds mX7_odds [.int (xs (i + 1)), .int (xs (i + 2)), .int (xs (i + 3))] Value.long Mc Mr) (kk : ∀ M1 M2, Rel M1 M2 → AW p l e room_1 s m #[Value.ref b] below meth c D (lwd cy Ac Ar) A0 4 62 1194 Q 1460 [some (.ref b), some (.ref (Ac 0)), some (.ref (Ar 0)), some (.int (nI i))] [] (M1, M2)) : AW p l e room_1 s m #[Value.ref b] below meth c D (lwd cy Ac Ar) A0 4 62 1194 Q 988 [some (.ref b), some (.ref (Ac 0)), some (.ref (Ar 0)), some (.int (nI i))] [] (Mc, Mr) := by
  obtain ⟨h, h2, P, P2, hh, hh2, hCc, hCr, hv1, hv2, hz⟩ := hd
  refine a_aload_n B dL_law_988 rfl ?_
  refine a_aload_n B dL_law_989 rfl ?_
  refine a_iload_n B dL_law_990 rfl ?_
  refine a_iconst (v := 1) B dL_law_991 (by decide) ?_
  refine a_iadd B dL_law_992 ?_
  refine l_sld (i + 1) B hX hbl hbA (nI_add i 1) (by omega) hL dL_law_993 ?_
  refine a_aload_n B dL_law_994 rfl ?_
  refine a_iload_n B dL_law_995 rfl ?_
  refine a_iconst (v := 2) B dL_law_996 (by decide) ?_
  refine a_iadd B dL_law_997 ?_
  refine l_sld (i + 2) B hX hbl hbA (nI_add i 2) (by omega) hL dL_law_998 ?_
  refine a_aload_n B dL_law_999 rfl ?_
  refine a_iload_n B dL_law_1000 rfl ?_
  refine a_iconst (v := 3) B dL_law_1001 (by decide) ?_
  refine a_iadd B dL_law_1002 ?_
  refine l_sld (i + 3) B hX hbl hbA (nI_add i 3) (by omega) hL dL_law_1003 ?_
  refine l_callC (As := [.int (xs (i + 1)), .int (xs (i + 2)), .int (xs (i + 3))]) (n := 3) (fr := h) (lc := 34 * h) B cf_X6_odds lk_L_120 in_X6_odds se_X6_odds rfl hCc dL_law_1004 rfl rfl (Nat.le_of_ble_eq_true rfl) ⟨by omega, by show 8 + (8 + 11) + 34 * h ≤ 478; omega⟩ ⟨Nat.le_of_ble_eq_true rfl, Nat.le_of_ble_eq_true rfl⟩ (fun v M1 hp1 => ?_)
  obtain ⟨x1, rfl⟩ := hv1 v M1 hp1
  show AW _ _ _ _ _ _ _ _ _ _ _ _ _ _ _ _ _ _ _ [Value.long x1] _
  refine a_aload_n B dL_law_1007 rfl ?_
  refine a_aload_n B dL_law_1008 rfl ?_
  refine a_iload_n B dL_law_1009 rfl ?_
  refine a_iconst (v := 1) B dL_law_1010 (by decide) ?_
  refine a_iadd B dL_law_1011 ?_
  refine l_sld (i + 1) B hX hbl hbA (nI_add i 1) (by omega) hL dL_law_1012 ?_
  refine a_aload_n B dL_law_1013 rfl ?_
  refine a_iload_n B dL_law_1014 rfl ?_
  refine a_iconst (v := 2) B dL_law_1015 (by decide) ?_
  refine a_iadd B dL_law_1016 ?_
  refine l_sld (i + 2) B hX hbl hbA (nI_add i 2) (by omega) hL dL_law_1017 ?_
  refine a_aload_n B dL_law_1018 rfl ?_
  refine a_iload_n B dL_law_1019 rfl ?_
  refine a_iconst (v := 3) B dL_law_1020 (by decide) ?_
  refine a_iadd B dL_law_1021 ?_
  refine l_sld (i + 3) B hX hbl hbA (nI_add i 3) (by omega) hL dL_law_1022 ?_
  refine l_callR (As := [.int (xs (i + 1)), .int (xs (i + 2)), .int (xs (i + 3))]) (n := 3) (fr := h2) (lc := 34 * h2) B cf_X7_odds lk_L_124 in_X7_odds se_X7_odds rfl hCr dL_law_1023 rfl rfl (Nat.le_of_ble_eq_true rfl) ⟨by omega, by show 8 + (9 + 11) + 34 * h2 ≤ 478; omega⟩ ⟨Nat.le_of_ble_eq_true rfl, Nat.le_of_ble_eq_true rfl⟩ (fun v M2 hp2 => ?_)
  obtain ⟨x2, rfl⟩ := hv2 v M2 hp2
  obtain ⟨rfl, hRel⟩ := hz x1 x2 M1 M2 hp1 hp2
  show AW _ _ _ _ _ _ _ _ _ _ _ _ _ _ _ _ _ _ _ [Value.long x1, Value.long x1] _
  refine a_lcmp B dL_law_1026 ?_
  rw [cmp_0.mpr rfl]
  exact a_if_eq 1460 B dL_law_1027 (by decide) (fun _ => kk M1 M2 hRel) (fun c9 => absurd rfl c9)
set_option maxRecDepth 20000 in
theorem lc_seed (B : BS sk D cy (lwd cy Ac Ar) A0 p s m #[Value.ref b] c RL cL_law 4) (hX : va_X b L xs s s.heap) (hbl : b < s.heap.size) (hbA : ¬ A0 b) (hi : i + 6 ≤ L) (hL : L ≤ 3072) (hd : DUO Rel l sk D cy Ac Ar mX6_seed mX7_seed [.int (xs (i + 1))] Value.int Mc Mr) (kk : ∀ M1 M2, Rel M1 M2 → AW p l e room_1 s m #[Value.ref b] below meth c D (lwd cy Ac Ar) A0 4 62 1194 Q 1460 [some (.ref b), some (.ref (Ac 0)), some (.ref (Ar 0)), some (.int (nI i))] [] (M1, M2)) : AW p l e room_1 s m #[Value.ref b] below meth c D (lwd cy Ac Ar) A0 4 62 1194 Q 1032 [some (.ref b), some (.ref (Ac 0)), some (.ref (Ar 0)), some (.int (nI i))] [] (Mc, Mr) := by
  obtain ⟨h, h2, P, P2, hh, hh2, hCc, hCr, hv1, hv2, hz⟩ := hd
  refine a_aload_n B dL_law_1032 rfl ?_
  refine a_aload_n B dL_law_1033 rfl ?_
  refine a_iload_n B dL_law_1034 rfl ?_
  refine a_iconst (v := 1) B dL_law_1035 (by decide) ?_
  refine a_iadd B dL_law_1036 ?_
  refine l_sld (i + 1) B hX hbl hbA (nI_add i 1) (by omega) hL dL_law_1037 ?_
  refine l_callC (As := [.int (xs (i + 1))]) (n := 1) (fr := h) (lc := 34 * h) B cf_X6_seed lk_L_125 in_X6_seed se_X6_seed rfl hCc dL_law_1038 rfl rfl (Nat.le_of_ble_eq_true rfl) ⟨by omega, by show 8 + (3 + 11) + 34 * h ≤ 478; omega⟩ ⟨Nat.le_of_ble_eq_true rfl, Nat.le_of_ble_eq_true rfl⟩ (fun v M1 hp1 => ?_)
  obtain ⟨x1, rfl⟩ := hv1 v M1 hp1
  show AW _ _ _ _ _ _ _ _ _ _ _ _ _ _ _ _ _ _ _ [Value.int x1] _
  refine a_aload_n B dL_law_1041 rfl ?_
  refine a_aload_n B dL_law_1042 rfl ?_
  refine a_iload_n B dL_law_1043 rfl ?_
  refine a_iconst (v := 1) B dL_law_1044 (by decide) ?_
  refine a_iadd B dL_law_1045 ?_
  refine l_sld (i + 1) B hX hbl hbA (nI_add i 1) (by omega) hL dL_law_1046 ?_
  refine l_callR (As := [.int (xs (i + 1))]) (n := 1) (fr := h2) (lc := 34 * h2) B cf_X7_seed lk_L_128 in_X7_seed se_X7_seed rfl hCr dL_law_1047 rfl rfl (Nat.le_of_ble_eq_true rfl) ⟨by omega, by show 8 + (2 + 11) + 34 * h2 ≤ 478; omega⟩ ⟨Nat.le_of_ble_eq_true rfl, Nat.le_of_ble_eq_true rfl⟩ (fun v M2 hp2 => ?_)
  obtain ⟨x2, rfl⟩ := hv2 v M2 hp2
  obtain ⟨rfl, hRel⟩ := hz x1 x2 M1 M2 hp1 hp2
  show AW _ _ _ _ _ _ _ _ _ _ _ _ _ _ _ _ _ _ _ [Value.int x1, Value.int x1] _
  exact a_icmp_eq 1460 B dL_law_1050 (by decide) (fun _ => kk M1 M2 hRel) (fun c9 => absurd rfl c9)
set_option maxRecDepth 20000 in
theorem lc_feed (B : BS sk D cy (lwd cy Ac Ar) A0 p s m #[Value.ref b] c RL cL_law 4) (hX : va_X b L xs s s.heap) (hbl : b < s.heap.size) (hbA : ¬ A0 b) (hi : i + 6 ≤ L) (hL : L ≤ 3072) (hd : DUO Rel l sk D cy Ac Ar mX6_feed mX7_feed [.int (xs (i + 1)), .int (xs (i + 2))] Value.int Mc Mr) (kk : ∀ M1 M2, Rel M1 M2 → AW p l e room_1 s m #[Value.ref b] below meth c D (lwd cy Ac Ar) A0 4 62 1194 Q 1460 [some (.ref b), some (.ref (Ac 0)), some (.ref (Ar 0)), some (.int (nI i))] [] (M1, M2)) : AW p l e room_1 s m #[Value.ref b] below meth c D (lwd cy Ac Ar) A0 4 62 1194 Q 1055 [some (.ref b), some (.ref (Ac 0)), some (.ref (Ar 0)), some (.int (nI i))] [] (Mc, Mr) := by
  obtain ⟨h, h2, P, P2, hh, hh2, hCc, hCr, hv1, hv2, hz⟩ := hd
  refine a_aload_n B dL_law_1055 rfl ?_
  refine a_aload_n B dL_law_1056 rfl ?_
  refine a_iload_n B dL_law_1057 rfl ?_
  refine a_iconst (v := 1) B dL_law_1058 (by decide) ?_
  refine a_iadd B dL_law_1059 ?_
  refine l_sld (i + 1) B hX hbl hbA (nI_add i 1) (by omega) hL dL_law_1060 ?_
  refine a_aload_n B dL_law_1061 rfl ?_
  refine a_iload_n B dL_law_1062 rfl ?_
  refine a_iconst (v := 2) B dL_law_1063 (by decide) ?_
  refine a_iadd B dL_law_1064 ?_
  refine l_sld (i + 2) B hX hbl hbA (nI_add i 2) (by omega) hL dL_law_1065 ?_
  refine l_callC (As := [.int (xs (i + 1)), .int (xs (i + 2))]) (n := 2) (fr := h) (lc := 34 * h) B cf_X6_feed lk_L_129 in_X6_feed se_X6_feed rfl hCc dL_law_1066 rfl rfl (Nat.le_of_ble_eq_true rfl) ⟨by omega, by show 8 + (3 + 11) + 34 * h ≤ 478; omega⟩ ⟨Nat.le_of_ble_eq_true rfl, Nat.le_of_ble_eq_true rfl⟩ (fun v M1 hp1 => ?_)
  obtain ⟨x1, rfl⟩ := hv1 v M1 hp1
  show AW _ _ _ _ _ _ _ _ _ _ _ _ _ _ _ _ _ _ _ [Value.int x1] _
  refine a_aload_n B dL_law_1069 rfl ?_
  refine a_aload_n B dL_law_1070 rfl ?_
  refine a_iload_n B dL_law_1071 rfl ?_
  refine a_iconst (v := 1) B dL_law_1072 (by decide) ?_
  refine a_iadd B dL_law_1073 ?_
  refine l_sld (i + 1) B hX hbl hbA (nI_add i 1) (by omega) hL dL_law_1074 ?_
  refine a_aload_n B dL_law_1075 rfl ?_
  refine a_iload_n B dL_law_1076 rfl ?_
  refine a_iconst (v := 2) B dL_law_1077 (by decide) ?_
  refine a_iadd B dL_law_1078 ?_
  refine l_sld (i + 2) B hX hbl hbA (nI_add i 2) (by omega) hL dL_law_1079 ?_
  refine l_callR (As := [.int (xs (i + 1)), .int (xs (i + 2))]) (n := 2) (fr := h2) (lc := 34 * h2) B cf_X7_feed lk_L_132 in_X7_feed se_X7_feed rfl hCr dL_law_1080 rfl rfl (Nat.le_of_ble_eq_true rfl) ⟨by omega, by show 8 + (4 + 11) + 34 * h2 ≤ 478; omega⟩ ⟨Nat.le_of_ble_eq_true rfl, Nat.le_of_ble_eq_true rfl⟩ (fun v M2 hp2 => ?_)
  obtain ⟨x2, rfl⟩ := hv2 v M2 hp2
  obtain ⟨rfl, hRel⟩ := hz x1 x2 M1 M2 hp1 hp2
  show AW _ _ _ _ _ _ _ _ _ _ _ _ _ _ _ _ _ _ _ [Value.int x1, Value.int x1] _
  exact a_icmp_eq 1460 B dL_law_1083 (by decide) (fun _ => kk M1 M2 hRel) (fun c9 => absurd rfl c9)
set_option maxRecDepth 20000 in
theorem lc_wipe (B : BS sk D cy (lwd cy Ac Ar) A0 p s m #[Value.ref b] c RL cL_law 4) (hX : va_X b L xs s s.heap) (hbl : b < s.heap.size) (hbA : ¬ A0 b) (hi : i + 6 ≤ L) (hL : L ≤ 3072) (hd : DUO Rel l sk D cy Ac Ar mX6_wipe mX7_wipe [] Value.int Mc Mr) (kk : ∀ M1 M2, Rel M1 M2 → AW p l e room_1 s m #[Value.ref b] below meth c D (lwd cy Ac Ar) A0 4 62 1194 Q 1460 [some (.ref b), some (.ref (Ac 0)), some (.ref (Ar 0)), some (.int (nI i))] [] (M1, M2)) : AW p l e room_1 s m #[Value.ref b] below meth c D (lwd cy Ac Ar) A0 4 62 1194 Q 1088 [some (.ref b), some (.ref (Ac 0)), some (.ref (Ar 0)), some (.int (nI i))] [] (Mc, Mr) := by
  obtain ⟨h, h2, P, P2, hh, hh2, hCc, hCr, hv1, hv2, hz⟩ := hd
  refine a_aload_n B dL_law_1088 rfl ?_
  refine l_callC (As := []) (n := 0) (fr := h) (lc := 34 * h) B cf_X6_wipe lk_L_133 in_X6_wipe se_X6_wipe rfl hCc dL_law_1089 rfl rfl (Nat.le_of_ble_eq_true rfl) ⟨by omega, by show 8 + (1 + 11) + 34 * h ≤ 478; omega⟩ ⟨Nat.le_of_ble_eq_true rfl, Nat.le_of_ble_eq_true rfl⟩ (fun v M1 hp1 => ?_)
  obtain ⟨x1, rfl⟩ := hv1 v M1 hp1
  show AW _ _ _ _ _ _ _ _ _ _ _ _ _ _ _ _ _ _ _ [Value.int x1] _
  refine a_aload_n B dL_law_1092 rfl ?_
  refine l_callR (As := []) (n := 0) (fr := h2) (lc := 34 * h2) B cf_X7_wipe lk_L_137 in_X7_wipe se_X7_wipe rfl hCr dL_law_1093 rfl rfl (Nat.le_of_ble_eq_true rfl) ⟨by omega, by show 8 + (2 + 11) + 34 * h2 ≤ 478; omega⟩ ⟨Nat.le_of_ble_eq_true rfl, Nat.le_of_ble_eq_true rfl⟩ (fun v M2 hp2 => ?_)
  obtain ⟨x2, rfl⟩ := hv2 v M2 hp2
  obtain ⟨rfl, hRel⟩ := hz x1 x2 M1 M2 hp1 hp2
  show AW _ _ _ _ _ _ _ _ _ _ _ _ _ _ _ _ _ _ _ [Value.int x1, Value.int x1] _
  exact a_icmp_eq 1460 B dL_law_1096 (by decide) (fun _ => kk M1 M2 hRel) (fun c9 => absurd rfl c9)
set_option maxRecDepth 20000 in
theorem lc_text (B : BS sk D cy (lwd cy Ac Ar) A0 p s m #[Value.ref b] c RL cL_law 4) (hX : va_X b L xs s s.heap) (hbl : b < s.heap.size) (hbA : ¬ A0 b) (hi : i + 6 ≤ L) (hL : L ≤ 3072) (hd : DUO Rel l sk D cy Ac Ar mX6_text mX7_text [] Value.int Mc Mr) (kk : ∀ M1 M2, Rel M1 M2 → AW p l e room_1 s m #[Value.ref b] below meth c D (lwd cy Ac Ar) A0 4 62 1194 Q 1460 [some (.ref b), some (.ref (Ac 0)), some (.ref (Ar 0)), some (.int (nI i))] [] (M1, M2)) : AW p l e room_1 s m #[Value.ref b] below meth c D (lwd cy Ac Ar) A0 4 62 1194 Q 1101 [some (.ref b), some (.ref (Ac 0)), some (.ref (Ar 0)), some (.int (nI i))] [] (Mc, Mr) := by
  obtain ⟨h, h2, P, P2, hh, hh2, hCc, hCr, hv1, hv2, hz⟩ := hd
  refine a_aload_n B dL_law_1101 rfl ?_
  refine l_callC (As := []) (n := 0) (fr := h) (lc := 34 * h) B cf_X6_text lk_L_138 in_X6_text se_X6_text rfl hCc dL_law_1102 rfl rfl (Nat.le_of_ble_eq_true rfl) ⟨by omega, by show 8 + (2 + 11) + 34 * h ≤ 478; omega⟩ ⟨Nat.le_of_ble_eq_true rfl, Nat.le_of_ble_eq_true rfl⟩ (fun v M1 hp1 => ?_)
  obtain ⟨x1, rfl⟩ := hv1 v M1 hp1
  show AW _ _ _ _ _ _ _ _ _ _ _ _ _ _ _ _ _ _ _ [Value.int x1] _
  refine a_aload_n B dL_law_1105 rfl ?_
  refine l_callR (As := []) (n := 0) (fr := h2) (lc := 34 * h2) B cf_X7_text lk_L_141 in_X7_text se_X7_text rfl hCr dL_law_1106 rfl rfl (Nat.le_of_ble_eq_true rfl) ⟨by omega, by show 8 + (2 + 11) + 34 * h2 ≤ 478; omega⟩ ⟨Nat.le_of_ble_eq_true rfl, Nat.le_of_ble_eq_true rfl⟩ (fun v M2 hp2 => ?_)
  obtain ⟨x2, rfl⟩ := hv2 v M2 hp2
  obtain ⟨rfl, hRel⟩ := hz x1 x2 M1 M2 hp1 hp2
  show AW _ _ _ _ _ _ _ _ _ _ _ _ _ _ _ _ _ _ _ [Value.int x1, Value.int x1] _
  exact a_icmp_eq 1460 B dL_law_1109 (by decide) (fun _ => kk M1 M2 hRel) (fun c9 => absurd rfl c9)
set_option maxRecDepth 20000 in
theorem lc_hold (B : BS sk D cy (lwd cy Ac Ar) A0 p s m #[Value.ref b] c RL cL_law 4) (hX : va_X b L xs s s.heap) (hbl : b < s.heap.size) (hbA : ¬ A0 b) (hi : i + 6 ≤ L) (hL : L ≤ 3072) (hd : DUO Rel l sk D cy Ac Ar mX6_hold mX7_hold [.int (xs (i + 1)), .int (xs (i + 2))] Value.int Mc Mr) (kk : ∀ M1 M2, Rel M1 M2 → AW p l e room_1 s m #[Value.ref b] below meth c D (lwd cy Ac Ar) A0 4 62 1194 Q 1460 [some (.ref b), some (.ref (Ac 0)), some (.ref (Ar 0)), some (.int (nI i))] [] (M1, M2)) : AW p l e room_1 s m #[Value.ref b] below meth c D (lwd cy Ac Ar) A0 4 62 1194 Q 1114 [some (.ref b), some (.ref (Ac 0)), some (.ref (Ar 0)), some (.int (nI i))] [] (Mc, Mr) := by
  obtain ⟨h, h2, P, P2, hh, hh2, hCc, hCr, hv1, hv2, hz⟩ := hd
  refine a_aload_n B dL_law_1114 rfl ?_
  refine a_aload_n B dL_law_1115 rfl ?_
  refine a_iload_n B dL_law_1116 rfl ?_
  refine a_iconst (v := 1) B dL_law_1117 (by decide) ?_
  refine a_iadd B dL_law_1118 ?_
  refine l_sld (i + 1) B hX hbl hbA (nI_add i 1) (by omega) hL dL_law_1119 ?_
  refine a_aload_n B dL_law_1120 rfl ?_
  refine a_iload_n B dL_law_1121 rfl ?_
  refine a_iconst (v := 2) B dL_law_1122 (by decide) ?_
  refine a_iadd B dL_law_1123 ?_
  refine l_sld (i + 2) B hX hbl hbA (nI_add i 2) (by omega) hL dL_law_1124 ?_
  refine l_callC (As := [.int (xs (i + 1)), .int (xs (i + 2))]) (n := 2) (fr := h) (lc := 34 * h) B cf_X6_hold lk_L_142 in_X6_hold se_X6_hold rfl hCc dL_law_1125 rfl rfl (Nat.le_of_ble_eq_true rfl) ⟨by omega, by show 8 + (3 + 11) + 34 * h ≤ 478; omega⟩ ⟨Nat.le_of_ble_eq_true rfl, Nat.le_of_ble_eq_true rfl⟩ (fun v M1 hp1 => ?_)
  obtain ⟨x1, rfl⟩ := hv1 v M1 hp1
  show AW _ _ _ _ _ _ _ _ _ _ _ _ _ _ _ _ _ _ _ [Value.int x1] _
  refine a_aload_n B dL_law_1128 rfl ?_
  refine a_aload_n B dL_law_1129 rfl ?_
  refine a_iload_n B dL_law_1130 rfl ?_
  refine a_iconst (v := 1) B dL_law_1131 (by decide) ?_
  refine a_iadd B dL_law_1132 ?_
  refine l_sld (i + 1) B hX hbl hbA (nI_add i 1) (by omega) hL dL_law_1133 ?_
  refine a_aload_n B dL_law_1134 rfl ?_
  refine a_iload_n B dL_law_1135 rfl ?_
  refine a_iconst (v := 2) B dL_law_1136 (by decide) ?_
  refine a_iadd B dL_law_1137 ?_
  refine l_sld (i + 2) B hX hbl hbA (nI_add i 2) (by omega) hL dL_law_1138 ?_
  refine l_callR (As := [.int (xs (i + 1)), .int (xs (i + 2))]) (n := 2) (fr := h2) (lc := 34 * h2) B cf_X7_hold lk_L_145 in_X7_hold se_X7_hold rfl hCr dL_law_1139 rfl rfl (Nat.le_of_ble_eq_true rfl) ⟨by omega, by show 8 + (3 + 11) + 34 * h2 ≤ 478; omega⟩ ⟨Nat.le_of_ble_eq_true rfl, Nat.le_of_ble_eq_true rfl⟩ (fun v M2 hp2 => ?_)
  obtain ⟨x2, rfl⟩ := hv2 v M2 hp2
  obtain ⟨rfl, hRel⟩ := hz x1 x2 M1 M2 hp1 hp2
  show AW _ _ _ _ _ _ _ _ _ _ _ _ _ _ _ _ _ _ _ [Value.int x1, Value.int x1] _
  exact a_icmp_eq 1460 B dL_law_1142 (by decide) (fun _ => kk M1 M2 hRel) (fun c9 => absurd rfl c9)
set_option maxRecDepth 20000 in
theorem lc_as (B : BS sk D cy (lwd cy Ac Ar) A0 p s m #[Value.ref b] c RL cL_law 4) (hX : va_X b L xs s s.heap) (hbl : b < s.heap.size) (hbA : ¬ A0 b) (hi : i + 6 ≤ L) (hL : L ≤ 3072) (hd : DUO Rel l sk D cy Ac Ar mX6_as mX7_as [.int (xs (i + 1)), .int (xs (i + 2))] Value.int Mc Mr) (kk : ∀ M1 M2, Rel M1 M2 → AW p l e room_1 s m #[Value.ref b] below meth c D (lwd cy Ac Ar) A0 4 62 1194 Q 1460 [some (.ref b), some (.ref (Ac 0)), some (.ref (Ar 0)), some (.int (nI i))] [] (M1, M2)) : AW p l e room_1 s m #[Value.ref b] below meth c D (lwd cy Ac Ar) A0 4 62 1194 Q 1147 [some (.ref b), some (.ref (Ac 0)), some (.ref (Ar 0)), some (.int (nI i))] [] (Mc, Mr) := by
  obtain ⟨h, h2, P, P2, hh, hh2, hCc, hCr, hv1, hv2, hz⟩ := hd
  refine a_aload_n B dL_law_1147 rfl ?_
  refine a_aload_n B dL_law_1148 rfl ?_
  refine a_iload_n B dL_law_1149 rfl ?_
  refine a_iconst (v := 1) B dL_law_1150 (by decide) ?_
  refine a_iadd B dL_law_1151 ?_
  refine l_sld (i + 1) B hX hbl hbA (nI_add i 1) (by omega) hL dL_law_1152 ?_
  refine a_aload_n B dL_law_1153 rfl ?_
  refine a_iload_n B dL_law_1154 rfl ?_
  refine a_iconst (v := 2) B dL_law_1155 (by decide) ?_
  refine a_iadd B dL_law_1156 ?_
  refine l_sld (i + 2) B hX hbl hbA (nI_add i 2) (by omega) hL dL_law_1157 ?_
  refine l_callC (As := [.int (xs (i + 1)), .int (xs (i + 2))]) (n := 2) (fr := h) (lc := 34 * h) B cf_X6_as lk_L_146 in_X6_as se_X6_as rfl hCc dL_law_1158 rfl rfl (Nat.le_of_ble_eq_true rfl) ⟨by omega, by show 8 + (5 + 11) + 34 * h ≤ 478; omega⟩ ⟨Nat.le_of_ble_eq_true rfl, Nat.le_of_ble_eq_true rfl⟩ (fun v M1 hp1 => ?_)
  obtain ⟨x1, rfl⟩ := hv1 v M1 hp1
  show AW _ _ _ _ _ _ _ _ _ _ _ _ _ _ _ _ _ _ _ [Value.int x1] _
  refine a_aload_n B dL_law_1161 rfl ?_
  refine a_aload_n B dL_law_1162 rfl ?_
  refine a_iload_n B dL_law_1163 rfl ?_
  refine a_iconst (v := 1) B dL_law_1164 (by decide) ?_
  refine a_iadd B dL_law_1165 ?_
  refine l_sld (i + 1) B hX hbl hbA (nI_add i 1) (by omega) hL dL_law_1166 ?_
  refine a_aload_n B dL_law_1167 rfl ?_
  refine a_iload_n B dL_law_1168 rfl ?_
  refine a_iconst (v := 2) B dL_law_1169 (by decide) ?_
  refine a_iadd B dL_law_1170 ?_
  refine l_sld (i + 2) B hX hbl hbA (nI_add i 2) (by omega) hL dL_law_1171 ?_
  refine l_callR (As := [.int (xs (i + 1)), .int (xs (i + 2))]) (n := 2) (fr := h2) (lc := 34 * h2) B cf_X7_as lk_L_149 in_X7_as se_X7_as rfl hCr dL_law_1172 rfl rfl (Nat.le_of_ble_eq_true rfl) ⟨by omega, by show 8 + (5 + 11) + 34 * h2 ≤ 478; omega⟩ ⟨Nat.le_of_ble_eq_true rfl, Nat.le_of_ble_eq_true rfl⟩ (fun v M2 hp2 => ?_)
  obtain ⟨x2, rfl⟩ := hv2 v M2 hp2
  obtain ⟨rfl, hRel⟩ := hz x1 x2 M1 M2 hp1 hp2
  show AW _ _ _ _ _ _ _ _ _ _ _ _ _ _ _ _ _ _ _ [Value.int x1, Value.int x1] _
  exact a_icmp_eq 1460 B dL_law_1175 (by decide) (fun _ => kk M1 M2 hRel) (fun c9 => absurd rfl c9)
set_option maxRecDepth 20000 in
theorem lc_sheet (B : BS sk D cy (lwd cy Ac Ar) A0 p s m #[Value.ref b] c RL cL_law 4) (hX : va_X b L xs s s.heap) (hbl : b < s.heap.size) (hbA : ¬ A0 b) (hi : i + 6 ≤ L) (hL : L ≤ 3072) (hd : DUO Rel l sk D cy Ac Ar mX6_sheet mX7_sheet [.int (xs (i + 1)), .int (xs (i + 2)), .int (xs (i + 3))] Value.int Mc Mr) (kk : ∀ M1 M2, Rel M1 M2 → AW p l e room_1 s m #[Value.ref b] below meth c D (lwd cy Ac Ar) A0 4 62 1194 Q 1460 [some (.ref b), some (.ref (Ac 0)), some (.ref (Ar 0)), some (.int (nI i))] [] (M1, M2)) : AW p l e room_1 s m #[Value.ref b] below meth c D (lwd cy Ac Ar) A0 4 62 1194 Q 1180 [some (.ref b), some (.ref (Ac 0)), some (.ref (Ar 0)), some (.int (nI i))] [] (Mc, Mr) := by
  obtain ⟨h, h2, P, P2, hh, hh2, hCc, hCr, hv1, hv2, hz⟩ := hd
  refine a_aload_n B dL_law_1180 rfl ?_
  refine a_aload_n B dL_law_1181 rfl ?_
  refine a_iload_n B dL_law_1182 rfl ?_
  refine a_iconst (v := 1) B dL_law_1183 (by decide) ?_
  refine a_iadd B dL_law_1184 ?_
  refine l_sld (i + 1) B hX hbl hbA (nI_add i 1) (by omega) hL dL_law_1185 ?_
  refine a_aload_n B dL_law_1186 rfl ?_
  refine a_iload_n B dL_law_1187 rfl ?_
  refine a_iconst (v := 2) B dL_law_1188 (by decide) ?_
  refine a_iadd B dL_law_1189 ?_
  refine l_sld (i + 2) B hX hbl hbA (nI_add i 2) (by omega) hL dL_law_1190 ?_
  refine a_aload_n B dL_law_1191 rfl ?_
  refine a_iload_n B dL_law_1192 rfl ?_
  refine a_iconst (v := 3) B dL_law_1193 (by decide) ?_
  refine a_iadd B dL_law_1194 ?_
  refine l_sld (i + 3) B hX hbl hbA (nI_add i 3) (by omega) hL dL_law_1195 ?_
  refine l_callC (As := [.int (xs (i + 1)), .int (xs (i + 2)), .int (xs (i + 3))]) (n := 3) (fr := h) (lc := 34 * h) B cf_X6_sheet lk_L_150 in_X6_sheet se_X6_sheet rfl hCc dL_law_1196 rfl rfl (Nat.le_of_ble_eq_true rfl) ⟨by omega, by show 8 + (5 + 11) + 34 * h ≤ 478; omega⟩ ⟨Nat.le_of_ble_eq_true rfl, Nat.le_of_ble_eq_true rfl⟩ (fun v M1 hp1 => ?_)
  obtain ⟨x1, rfl⟩ := hv1 v M1 hp1
  show AW _ _ _ _ _ _ _ _ _ _ _ _ _ _ _ _ _ _ _ [Value.int x1] _
  refine a_aload_n B dL_law_1199 rfl ?_
  refine a_aload_n B dL_law_1200 rfl ?_
  refine a_iload_n B dL_law_1201 rfl ?_
  refine a_iconst (v := 1) B dL_law_1202 (by decide) ?_
  refine a_iadd B dL_law_1203 ?_
  refine l_sld (i + 1) B hX hbl hbA (nI_add i 1) (by omega) hL dL_law_1204 ?_
  refine a_aload_n B dL_law_1205 rfl ?_
  refine a_iload_n B dL_law_1206 rfl ?_
  refine a_iconst (v := 2) B dL_law_1207 (by decide) ?_
  refine a_iadd B dL_law_1208 ?_
  refine l_sld (i + 2) B hX hbl hbA (nI_add i 2) (by omega) hL dL_law_1209 ?_
  refine a_aload_n B dL_law_1210 rfl ?_
  refine a_iload_n B dL_law_1211 rfl ?_
  refine a_iconst (v := 3) B dL_law_1212 (by decide) ?_
  refine a_iadd B dL_law_1213 ?_
  refine l_sld (i + 3) B hX hbl hbA (nI_add i 3) (by omega) hL dL_law_1214 ?_
  refine l_callR (As := [.int (xs (i + 1)), .int (xs (i + 2)), .int (xs (i + 3))]) (n := 3) (fr := h2) (lc := 34 * h2) B cf_X7_sheet lk_L_153 in_X7_sheet se_X7_sheet rfl hCr dL_law_1215 rfl rfl (Nat.le_of_ble_eq_true rfl) ⟨by omega, by show 8 + (5 + 11) + 34 * h2 ≤ 478; omega⟩ ⟨Nat.le_of_ble_eq_true rfl, Nat.le_of_ble_eq_true rfl⟩ (fun v M2 hp2 => ?_)
  obtain ⟨x2, rfl⟩ := hv2 v M2 hp2
  obtain ⟨rfl, hRel⟩ := hz x1 x2 M1 M2 hp1 hp2
  show AW _ _ _ _ _ _ _ _ _ _ _ _ _ _ _ _ _ _ _ [Value.int x1, Value.int x1] _
  exact a_icmp_eq 1460 B dL_law_1218 (by decide) (fun _ => kk M1 M2 hRel) (fun c9 => absurd rfl c9)
set_option maxRecDepth 20000 in
theorem lc_write (B : BS sk D cy (lwd cy Ac Ar) A0 p s m #[Value.ref b] c RL cL_law 4) (hX : va_X b L xs s s.heap) (hbl : b < s.heap.size) (hbA : ¬ A0 b) (hi : i + 6 ≤ L) (hL : L ≤ 3072) (hd : DUO Rel l sk D cy Ac Ar mX6_write mX7_write [.int (xs (i + 1)), .int (xs (i + 2)), .int (xs (i + 3))] Value.int Mc Mr) (kk : ∀ M1 M2, Rel M1 M2 → AW p l e room_1 s m #[Value.ref b] below meth c D (lwd cy Ac Ar) A0 4 62 1194 Q 1460 [some (.ref b), some (.ref (Ac 0)), some (.ref (Ar 0)), some (.int (nI i))] [] (M1, M2)) : AW p l e room_1 s m #[Value.ref b] below meth c D (lwd cy Ac Ar) A0 4 62 1194 Q 1223 [some (.ref b), some (.ref (Ac 0)), some (.ref (Ar 0)), some (.int (nI i))] [] (Mc, Mr) := by
  obtain ⟨h, h2, P, P2, hh, hh2, hCc, hCr, hv1, hv2, hz⟩ := hd
  refine a_aload_n B dL_law_1223 rfl ?_
  refine a_aload_n B dL_law_1224 rfl ?_
  refine a_iload_n B dL_law_1225 rfl ?_
  refine a_iconst (v := 1) B dL_law_1226 (by decide) ?_
  refine a_iadd B dL_law_1227 ?_
  refine l_sld (i + 1) B hX hbl hbA (nI_add i 1) (by omega) hL dL_law_1228 ?_
  refine a_aload_n B dL_law_1229 rfl ?_
  refine a_iload_n B dL_law_1230 rfl ?_
  refine a_iconst (v := 2) B dL_law_1231 (by decide) ?_
  refine a_iadd B dL_law_1232 ?_
  refine l_sld (i + 2) B hX hbl hbA (nI_add i 2) (by omega) hL dL_law_1233 ?_
  refine a_aload_n B dL_law_1234 rfl ?_
  refine a_iload_n B dL_law_1235 rfl ?_
  refine a_iconst (v := 3) B dL_law_1236 (by decide) ?_
  refine a_iadd B dL_law_1237 ?_
  refine l_sld (i + 3) B hX hbl hbA (nI_add i 3) (by omega) hL dL_law_1238 ?_
  refine l_callC (As := [.int (xs (i + 1)), .int (xs (i + 2)), .int (xs (i + 3))]) (n := 3) (fr := h) (lc := 34 * h) B cf_X6_write lk_L_154 in_X6_write se_X6_write rfl hCc dL_law_1239 rfl rfl (Nat.le_of_ble_eq_true rfl) ⟨by omega, by show 8 + (6 + 11) + 34 * h ≤ 478; omega⟩ ⟨Nat.le_of_ble_eq_true rfl, Nat.le_of_ble_eq_true rfl⟩ (fun v M1 hp1 => ?_)
  obtain ⟨x1, rfl⟩ := hv1 v M1 hp1
  show AW _ _ _ _ _ _ _ _ _ _ _ _ _ _ _ _ _ _ _ [Value.int x1] _
  refine a_aload_n B dL_law_1242 rfl ?_
  refine a_aload_n B dL_law_1243 rfl ?_
  refine a_iload_n B dL_law_1244 rfl ?_
  refine a_iconst (v := 1) B dL_law_1245 (by decide) ?_
  refine a_iadd B dL_law_1246 ?_
  refine l_sld (i + 1) B hX hbl hbA (nI_add i 1) (by omega) hL dL_law_1247 ?_
  refine a_aload_n B dL_law_1248 rfl ?_
  refine a_iload_n B dL_law_1249 rfl ?_
  refine a_iconst (v := 2) B dL_law_1250 (by decide) ?_
  refine a_iadd B dL_law_1251 ?_
  refine l_sld (i + 2) B hX hbl hbA (nI_add i 2) (by omega) hL dL_law_1252 ?_
  refine a_aload_n B dL_law_1253 rfl ?_
  refine a_iload_n B dL_law_1254 rfl ?_
  refine a_iconst (v := 3) B dL_law_1255 (by decide) ?_
  refine a_iadd B dL_law_1256 ?_
  refine l_sld (i + 3) B hX hbl hbA (nI_add i 3) (by omega) hL dL_law_1257 ?_
  refine l_callR (As := [.int (xs (i + 1)), .int (xs (i + 2)), .int (xs (i + 3))]) (n := 3) (fr := h2) (lc := 34 * h2) B cf_X7_write lk_L_157 in_X7_write se_X7_write rfl hCr dL_law_1258 rfl rfl (Nat.le_of_ble_eq_true rfl) ⟨by omega, by show 8 + (5 + 11) + 34 * h2 ≤ 478; omega⟩ ⟨Nat.le_of_ble_eq_true rfl, Nat.le_of_ble_eq_true rfl⟩ (fun v M2 hp2 => ?_)
  obtain ⟨x2, rfl⟩ := hv2 v M2 hp2
  obtain ⟨rfl, hRel⟩ := hz x1 x2 M1 M2 hp1 hp2
  show AW _ _ _ _ _ _ _ _ _ _ _ _ _ _ _ _ _ _ _ [Value.int x1, Value.int x1] _
  exact a_icmp_eq 1460 B dL_law_1261 (by decide) (fun _ => kk M1 M2 hRel) (fun c9 => absurd rfl c9)
set_option maxRecDepth 20000 in
theorem lc_copy (B : BS sk D cy (lwd cy Ac Ar) A0 p s m #[Value.ref b] c RL cL_law 4) (hX : va_X b L xs s s.heap) (hbl : b < s.heap.size) (hbA : ¬ A0 b) (hi : i + 6 ≤ L) (hL : L ≤ 3072) (hd : DUO Rel l sk D cy Ac Ar mX6_copy mX7_copy [.int (xs (i + 1)), .int (xs (i + 2)), .int (xs (i + 3)), .int (xs (i + 4)), .int (xs (i + 5))] Value.int Mc Mr) (kk : ∀ M1 M2, Rel M1 M2 → AW p l e room_1 s m #[Value.ref b] below meth c D (lwd cy Ac Ar) A0 4 62 1194 Q 1460 [some (.ref b), some (.ref (Ac 0)), some (.ref (Ar 0)), some (.int (nI i))] [] (M1, M2)) : AW p l e room_1 s m #[Value.ref b] below meth c D (lwd cy Ac Ar) A0 4 62 1194 Q 1266 [some (.ref b), some (.ref (Ac 0)), some (.ref (Ar 0)), some (.int (nI i))] [] (Mc, Mr) := by
  obtain ⟨h, h2, P, P2, hh, hh2, hCc, hCr, hv1, hv2, hz⟩ := hd
  refine a_aload_n B dL_law_1266 rfl ?_
  refine a_aload_n B dL_law_1267 rfl ?_
  refine a_iload_n B dL_law_1268 rfl ?_
  refine a_iconst (v := 1) B dL_law_1269 (by decide) ?_
  refine a_iadd B dL_law_1270 ?_
  refine l_sld (i + 1) B hX hbl hbA (nI_add i 1) (by omega) hL dL_law_1271 ?_
  refine a_aload_n B dL_law_1272 rfl ?_
  refine a_iload_n B dL_law_1273 rfl ?_
  refine a_iconst (v := 2) B dL_law_1274 (by decide) ?_
  refine a_iadd B dL_law_1275 ?_
  refine l_sld (i + 2) B hX hbl hbA (nI_add i 2) (by omega) hL dL_law_1276 ?_
  refine a_aload_n B dL_law_1277 rfl ?_
  refine a_iload_n B dL_law_1278 rfl ?_
  refine a_iconst (v := 3) B dL_law_1279 (by decide) ?_
  refine a_iadd B dL_law_1280 ?_
  refine l_sld (i + 3) B hX hbl hbA (nI_add i 3) (by omega) hL dL_law_1281 ?_
  refine a_aload_n B dL_law_1282 rfl ?_
  refine a_iload_n B dL_law_1283 rfl ?_
  refine a_iconst (v := 4) B dL_law_1284 (by decide) ?_
  refine a_iadd B dL_law_1285 ?_
  refine l_sld (i + 4) B hX hbl hbA (nI_add i 4) (by omega) hL dL_law_1286 ?_
  refine a_aload_n B dL_law_1287 rfl ?_
  refine a_iload_n B dL_law_1288 rfl ?_
  refine a_iconst (v := 5) B dL_law_1289 (by decide) ?_
  refine a_iadd B dL_law_1290 ?_
  refine l_sld (i + 5) B hX hbl hbA (nI_add i 5) (by omega) hL dL_law_1291 ?_
  refine l_callC (As := [.int (xs (i + 1)), .int (xs (i + 2)), .int (xs (i + 3)), .int (xs (i + 4)), .int (xs (i + 5))]) (n := 5) (fr := h) (lc := 34 * h) B cf_X6_copy lk_L_158 in_X6_copy se_X6_copy rfl hCc dL_law_1292 rfl rfl (Nat.le_of_ble_eq_true rfl) ⟨by omega, by show 8 + (8 + 11) + 34 * h ≤ 478; omega⟩ ⟨Nat.le_of_ble_eq_true rfl, Nat.le_of_ble_eq_true rfl⟩ (fun v M1 hp1 => ?_)
  obtain ⟨x1, rfl⟩ := hv1 v M1 hp1
  show AW _ _ _ _ _ _ _ _ _ _ _ _ _ _ _ _ _ _ _ [Value.int x1] _
  refine a_aload_n B dL_law_1295 rfl ?_
  refine a_aload_n B dL_law_1296 rfl ?_
  refine a_iload_n B dL_law_1297 rfl ?_
  refine a_iconst (v := 1) B dL_law_1298 (by decide) ?_
  refine a_iadd B dL_law_1299 ?_
  refine l_sld (i + 1) B hX hbl hbA (nI_add i 1) (by omega) hL dL_law_1300 ?_
  refine a_aload_n B dL_law_1301 rfl ?_
  refine a_iload_n B dL_law_1302 rfl ?_
  refine a_iconst (v := 2) B dL_law_1303 (by decide) ?_
  refine a_iadd B dL_law_1304 ?_
  refine l_sld (i + 2) B hX hbl hbA (nI_add i 2) (by omega) hL dL_law_1305 ?_
  refine a_aload_n B dL_law_1306 rfl ?_
  refine a_iload_n B dL_law_1307 rfl ?_
  refine a_iconst (v := 3) B dL_law_1308 (by decide) ?_
  refine a_iadd B dL_law_1309 ?_
  refine l_sld (i + 3) B hX hbl hbA (nI_add i 3) (by omega) hL dL_law_1310 ?_
  refine a_aload_n B dL_law_1311 rfl ?_
  refine a_iload_n B dL_law_1312 rfl ?_
  refine a_iconst (v := 4) B dL_law_1313 (by decide) ?_
  refine a_iadd B dL_law_1314 ?_
  refine l_sld (i + 4) B hX hbl hbA (nI_add i 4) (by omega) hL dL_law_1315 ?_
  refine a_aload_n B dL_law_1316 rfl ?_
  refine a_iload_n B dL_law_1317 rfl ?_
  refine a_iconst (v := 5) B dL_law_1318 (by decide) ?_
  refine a_iadd B dL_law_1319 ?_
  refine l_sld (i + 5) B hX hbl hbA (nI_add i 5) (by omega) hL dL_law_1320 ?_
  refine l_callR (As := [.int (xs (i + 1)), .int (xs (i + 2)), .int (xs (i + 3)), .int (xs (i + 4)), .int (xs (i + 5))]) (n := 5) (fr := h2) (lc := 34 * h2) B cf_X7_copy lk_L_162 in_X7_copy se_X7_copy rfl hCr dL_law_1321 rfl rfl (Nat.le_of_ble_eq_true rfl) ⟨by omega, by show 8 + (7 + 11) + 34 * h2 ≤ 478; omega⟩ ⟨Nat.le_of_ble_eq_true rfl, Nat.le_of_ble_eq_true rfl⟩ (fun v M2 hp2 => ?_)
  obtain ⟨x2, rfl⟩ := hv2 v M2 hp2
  obtain ⟨rfl, hRel⟩ := hz x1 x2 M1 M2 hp1 hp2
  show AW _ _ _ _ _ _ _ _ _ _ _ _ _ _ _ _ _ _ _ [Value.int x1, Value.int x1] _
  exact a_icmp_eq 1460 B dL_law_1324 (by decide) (fun _ => kk M1 M2 hRel) (fun c9 => absurd rfl c9)
set_option maxRecDepth 20000 in
theorem lc_load (B : BS sk D cy (lwd cy Ac Ar) A0 p s m #[Value.ref b] c RL cL_law 4) (hX : va_X b L xs s s.heap) (hbl : b < s.heap.size) (hbA : ¬ A0 b) (hi : i + 6 ≤ L) (hL : L ≤ 3072) (hd : DUO Rel l sk D cy Ac Ar mX6_load mX7_load [.int (xs (i + 1))] Value.int Mc Mr) (kk : ∀ M1 M2, Rel M1 M2 → AW p l e room_1 s m #[Value.ref b] below meth c D (lwd cy Ac Ar) A0 4 62 1194 Q 1460 [some (.ref b), some (.ref (Ac 0)), some (.ref (Ar 0)), some (.int (nI i))] [] (M1, M2)) : AW p l e room_1 s m #[Value.ref b] below meth c D (lwd cy Ac Ar) A0 4 62 1194 Q 1329 [some (.ref b), some (.ref (Ac 0)), some (.ref (Ar 0)), some (.int (nI i))] [] (Mc, Mr) := by
  obtain ⟨h, h2, P, P2, hh, hh2, hCc, hCr, hv1, hv2, hz⟩ := hd
  refine a_aload_n B dL_law_1329 rfl ?_
  refine a_aload_n B dL_law_1330 rfl ?_
  refine a_iload_n B dL_law_1331 rfl ?_
  refine a_iconst (v := 1) B dL_law_1332 (by decide) ?_
  refine a_iadd B dL_law_1333 ?_
  refine l_sld (i + 1) B hX hbl hbA (nI_add i 1) (by omega) hL dL_law_1334 ?_
  refine l_callC (As := [.int (xs (i + 1))]) (n := 1) (fr := h) (lc := 34 * h) B cf_X6_load lk_L_163 in_X6_load se_X6_load rfl hCc dL_law_1335 rfl rfl (Nat.le_of_ble_eq_true rfl) ⟨by omega, by show 8 + (5 + 11) + 34 * h ≤ 478; omega⟩ ⟨Nat.le_of_ble_eq_true rfl, Nat.le_of_ble_eq_true rfl⟩ (fun v M1 hp1 => ?_)
  obtain ⟨x1, rfl⟩ := hv1 v M1 hp1
  show AW _ _ _ _ _ _ _ _ _ _ _ _ _ _ _ _ _ _ _ [Value.int x1] _
  refine a_aload_n B dL_law_1338 rfl ?_
  refine a_aload_n B dL_law_1339 rfl ?_
  refine a_iload_n B dL_law_1340 rfl ?_
  refine a_iconst (v := 1) B dL_law_1341 (by decide) ?_
  refine a_iadd B dL_law_1342 ?_
  refine l_sld (i + 1) B hX hbl hbA (nI_add i 1) (by omega) hL dL_law_1343 ?_
  refine l_callR (As := [.int (xs (i + 1))]) (n := 1) (fr := h2) (lc := 34 * h2) B cf_X7_load lk_L_166 in_X7_load se_X7_load rfl hCr dL_law_1344 rfl rfl (Nat.le_of_ble_eq_true rfl) ⟨by omega, by show 8 + (4 + 11) + 34 * h2 ≤ 478; omega⟩ ⟨Nat.le_of_ble_eq_true rfl, Nat.le_of_ble_eq_true rfl⟩ (fun v M2 hp2 => ?_)
  obtain ⟨x2, rfl⟩ := hv2 v M2 hp2
  obtain ⟨rfl, hRel⟩ := hz x1 x2 M1 M2 hp1 hp2
  show AW _ _ _ _ _ _ _ _ _ _ _ _ _ _ _ _ _ _ _ [Value.int x1, Value.int x1] _
  exact a_icmp_eq 1460 B dL_law_1347 (by decide) (fun _ => kk M1 M2 hRel) (fun c9 => absurd rfl c9)
set_option maxRecDepth 20000 in
theorem lc_judge (B : BS sk D cy (lwd cy Ac Ar) A0 p s m #[Value.ref b] c RL cL_law 4) (hX : va_X b L xs s s.heap) (hbl : b < s.heap.size) (hbA : ¬ A0 b) (hi : i + 6 ≤ L) (hL : L ≤ 3072) (hd : DUO Rel l sk D cy Ac Ar mX6_judge mX7_judge [.int (xs (i + 1))] Value.int Mc Mr) (kk : ∀ M1 M2, Rel M1 M2 → AW p l e room_1 s m #[Value.ref b] below meth c D (lwd cy Ac Ar) A0 4 62 1194 Q 1460 [some (.ref b), some (.ref (Ac 0)), some (.ref (Ar 0)), some (.int (nI i))] [] (M1, M2)) : AW p l e room_1 s m #[Value.ref b] below meth c D (lwd cy Ac Ar) A0 4 62 1194 Q 1352 [some (.ref b), some (.ref (Ac 0)), some (.ref (Ar 0)), some (.int (nI i))] [] (Mc, Mr) := by
  obtain ⟨h, h2, P, P2, hh, hh2, hCc, hCr, hv1, hv2, hz⟩ := hd
  refine a_aload_n B dL_law_1352 rfl ?_
  refine a_aload_n B dL_law_1353 rfl ?_
  refine a_iload_n B dL_law_1354 rfl ?_
  refine a_iconst (v := 1) B dL_law_1355 (by decide) ?_
  refine a_iadd B dL_law_1356 ?_
  refine l_sld (i + 1) B hX hbl hbA (nI_add i 1) (by omega) hL dL_law_1357 ?_
  refine l_callC (As := [.int (xs (i + 1))]) (n := 1) (fr := h) (lc := 34 * h) B cf_X6_judge lk_L_167 in_X6_judge se_X6_judge rfl hCc dL_law_1358 rfl rfl (Nat.le_of_ble_eq_true rfl) ⟨by omega, by show 8 + (6 + 11) + 34 * h ≤ 478; omega⟩ ⟨Nat.le_of_ble_eq_true rfl, Nat.le_of_ble_eq_true rfl⟩ (fun v M1 hp1 => ?_)
  obtain ⟨x1, rfl⟩ := hv1 v M1 hp1
  show AW _ _ _ _ _ _ _ _ _ _ _ _ _ _ _ _ _ _ _ [Value.int x1] _
  refine a_aload_n B dL_law_1361 rfl ?_
  refine a_aload_n B dL_law_1362 rfl ?_
  refine a_iload_n B dL_law_1363 rfl ?_
  refine a_iconst (v := 1) B dL_law_1364 (by decide) ?_
  refine a_iadd B dL_law_1365 ?_
  refine l_sld (i + 1) B hX hbl hbA (nI_add i 1) (by omega) hL dL_law_1366 ?_
  refine l_callR (As := [.int (xs (i + 1))]) (n := 1) (fr := h2) (lc := 34 * h2) B cf_X7_judge lk_L_170 in_X7_judge se_X7_judge rfl hCr dL_law_1367 rfl rfl (Nat.le_of_ble_eq_true rfl) ⟨by omega, by show 8 + (4 + 11) + 34 * h2 ≤ 478; omega⟩ ⟨Nat.le_of_ble_eq_true rfl, Nat.le_of_ble_eq_true rfl⟩ (fun v M2 hp2 => ?_)
  obtain ⟨x2, rfl⟩ := hv2 v M2 hp2
  obtain ⟨rfl, hRel⟩ := hz x1 x2 M1 M2 hp1 hp2
  show AW _ _ _ _ _ _ _ _ _ _ _ _ _ _ _ _ _ _ _ [Value.int x1, Value.int x1] _
  exact a_icmp_eq 1460 B dL_law_1370 (by decide) (fun _ => kk M1 M2 hRel) (fun c9 => absurd rfl c9)
set_option maxRecDepth 20000 in
theorem lc_image (B : BS sk D cy (lwd cy Ac Ar) A0 p s m #[Value.ref b] c RL cL_law 4) (hX : va_X b L xs s s.heap) (hbl : b < s.heap.size) (hbA : ¬ A0 b) (hi : i + 6 ≤ L) (hL : L ≤ 3072) (hd : DUO Rel l sk D cy Ac Ar mX6_image mX7_image [] Value.int Mc Mr) (kk : ∀ M1 M2, Rel M1 M2 → AW p l e room_1 s m #[Value.ref b] below meth c D (lwd cy Ac Ar) A0 4 62 1194 Q 1460 [some (.ref b), some (.ref (Ac 0)), some (.ref (Ar 0)), some (.int (nI i))] [] (M1, M2)) : AW p l e room_1 s m #[Value.ref b] below meth c D (lwd cy Ac Ar) A0 4 62 1194 Q 1375 [some (.ref b), some (.ref (Ac 0)), some (.ref (Ar 0)), some (.int (nI i))] [] (Mc, Mr) := by
  obtain ⟨h, h2, P, P2, hh, hh2, hCc, hCr, hv1, hv2, hz⟩ := hd
  refine a_aload_n B dL_law_1375 rfl ?_
  refine l_callC (As := []) (n := 0) (fr := h) (lc := 34 * h) B cf_X6_image lk_L_171 in_X6_image se_X6_image rfl hCc dL_law_1376 rfl rfl (Nat.le_of_ble_eq_true rfl) ⟨by omega, by show 8 + (1 + 11) + 34 * h ≤ 478; omega⟩ ⟨Nat.le_of_ble_eq_true rfl, Nat.le_of_ble_eq_true rfl⟩ (fun v M1 hp1 => ?_)
  obtain ⟨x1, rfl⟩ := hv1 v M1 hp1
  show AW _ _ _ _ _ _ _ _ _ _ _ _ _ _ _ _ _ _ _ [Value.int x1] _
  refine a_aload_n B dL_law_1379 rfl ?_
  refine l_callR (As := []) (n := 0) (fr := h2) (lc := 34 * h2) B cf_X7_image lk_L_174 in_X7_image se_X7_image rfl hCr dL_law_1380 rfl rfl (Nat.le_of_ble_eq_true rfl) ⟨by omega, by show 8 + (1 + 11) + 34 * h2 ≤ 478; omega⟩ ⟨Nat.le_of_ble_eq_true rfl, Nat.le_of_ble_eq_true rfl⟩ (fun v M2 hp2 => ?_)
  obtain ⟨x2, rfl⟩ := hv2 v M2 hp2
  obtain ⟨rfl, hRel⟩ := hz x1 x2 M1 M2 hp1 hp2
  show AW _ _ _ _ _ _ _ _ _ _ _ _ _ _ _ _ _ _ _ [Value.int x1, Value.int x1] _
  exact a_icmp_eq 1460 B dL_law_1383 (by decide) (fun _ => kk M1 M2 hRel) (fun c9 => absurd rfl c9)
set_option maxRecDepth 20000 in
theorem lc_undo (B : BS sk D cy (lwd cy Ac Ar) A0 p s m #[Value.ref b] c RL cL_law 4) (hX : va_X b L xs s s.heap) (hbl : b < s.heap.size) (hbA : ¬ A0 b) (hi : i + 6 ≤ L) (hL : L ≤ 3072) (hd : DUO Rel l sk D cy Ac Ar mX6_undo mX7_undo [] Value.int Mc Mr) (kk : ∀ M1 M2, Rel M1 M2 → AW p l e room_1 s m #[Value.ref b] below meth c D (lwd cy Ac Ar) A0 4 62 1194 Q 1460 [some (.ref b), some (.ref (Ac 0)), some (.ref (Ar 0)), some (.int (nI i))] [] (M1, M2)) : AW p l e room_1 s m #[Value.ref b] below meth c D (lwd cy Ac Ar) A0 4 62 1194 Q 1388 [some (.ref b), some (.ref (Ac 0)), some (.ref (Ar 0)), some (.int (nI i))] [] (Mc, Mr) := by
  obtain ⟨h, h2, P, P2, hh, hh2, hCc, hCr, hv1, hv2, hz⟩ := hd
  refine a_aload_n B dL_law_1388 rfl ?_
  refine l_callC (As := []) (n := 0) (fr := h) (lc := 34 * h) B cf_X6_undo lk_L_175 in_X6_undo se_X6_undo rfl hCc dL_law_1389 rfl rfl (Nat.le_of_ble_eq_true rfl) ⟨by omega, by show 8 + (1 + 11) + 34 * h ≤ 478; omega⟩ ⟨Nat.le_of_ble_eq_true rfl, Nat.le_of_ble_eq_true rfl⟩ (fun v M1 hp1 => ?_)
  obtain ⟨x1, rfl⟩ := hv1 v M1 hp1
  show AW _ _ _ _ _ _ _ _ _ _ _ _ _ _ _ _ _ _ _ [Value.int x1] _
  refine a_aload_n B dL_law_1392 rfl ?_
  refine l_callR (As := []) (n := 0) (fr := h2) (lc := 34 * h2) B cf_X7_undo lk_L_178 in_X7_undo se_X7_undo rfl hCr dL_law_1393 rfl rfl (Nat.le_of_ble_eq_true rfl) ⟨by omega, by show 8 + (1 + 11) + 34 * h2 ≤ 478; omega⟩ ⟨Nat.le_of_ble_eq_true rfl, Nat.le_of_ble_eq_true rfl⟩ (fun v M2 hp2 => ?_)
  obtain ⟨x2, rfl⟩ := hv2 v M2 hp2
  obtain ⟨rfl, hRel⟩ := hz x1 x2 M1 M2 hp1 hp2
  show AW _ _ _ _ _ _ _ _ _ _ _ _ _ _ _ _ _ _ _ [Value.int x1, Value.int x1] _
  exact a_icmp_eq 1460 B dL_law_1396 (by decide) (fun _ => kk M1 M2 hRel) (fun c9 => absurd rfl c9)
set_option maxRecDepth 20000 in
theorem lc_tear (B : BS sk D cy (lwd cy Ac Ar) A0 p s m #[Value.ref b] c RL cL_law 4) (hX : va_X b L xs s s.heap) (hbl : b < s.heap.size) (hbA : ¬ A0 b) (hi : i + 6 ≤ L) (hL : L ≤ 3072) (hd : DUO Rel l sk D cy Ac Ar mX6_tear mX7_tear [] Value.int Mc Mr) (kk : ∀ M1 M2, Rel M1 M2 → AW p l e room_1 s m #[Value.ref b] below meth c D (lwd cy Ac Ar) A0 4 62 1194 Q 1460 [some (.ref b), some (.ref (Ac 0)), some (.ref (Ar 0)), some (.int (nI i))] [] (M1, M2)) : AW p l e room_1 s m #[Value.ref b] below meth c D (lwd cy Ac Ar) A0 4 62 1194 Q 1401 [some (.ref b), some (.ref (Ac 0)), some (.ref (Ar 0)), some (.int (nI i))] [] (Mc, Mr) := by
  obtain ⟨h, h2, P, P2, hh, hh2, hCc, hCr, hv1, hv2, hz⟩ := hd
  refine a_aload_n B dL_law_1401 rfl ?_
  refine l_callC (As := []) (n := 0) (fr := h) (lc := 34 * h) B cf_X6_tear lk_L_179 in_X6_tear se_X6_tear rfl hCc dL_law_1402 rfl rfl (Nat.le_of_ble_eq_true rfl) ⟨by omega, by show 8 + (2 + 11) + 34 * h ≤ 478; omega⟩ ⟨Nat.le_of_ble_eq_true rfl, Nat.le_of_ble_eq_true rfl⟩ (fun v M1 hp1 => ?_)
  obtain ⟨x1, rfl⟩ := hv1 v M1 hp1
  show AW _ _ _ _ _ _ _ _ _ _ _ _ _ _ _ _ _ _ _ [Value.int x1] _
  refine a_aload_n B dL_law_1405 rfl ?_
  refine l_callR (As := []) (n := 0) (fr := h2) (lc := 34 * h2) B cf_X7_tear lk_L_182 in_X7_tear se_X7_tear rfl hCr dL_law_1406 rfl rfl (Nat.le_of_ble_eq_true rfl) ⟨by omega, by show 8 + (2 + 11) + 34 * h2 ≤ 478; omega⟩ ⟨Nat.le_of_ble_eq_true rfl, Nat.le_of_ble_eq_true rfl⟩ (fun v M2 hp2 => ?_)
  obtain ⟨x2, rfl⟩ := hv2 v M2 hp2
  obtain ⟨rfl, hRel⟩ := hz x1 x2 M1 M2 hp1 hp2
  show AW _ _ _ _ _ _ _ _ _ _ _ _ _ _ _ _ _ _ _ [Value.int x1, Value.int x1] _
  exact a_icmp_eq 1460 B dL_law_1409 (by decide) (fun _ => kk M1 M2 hRel) (fun c9 => absurd rfl c9)
set_option maxRecDepth 20000 in
theorem lc_count (B : BS sk D cy (lwd cy Ac Ar) A0 p s m #[Value.ref b] c RL cL_law 4) (hX : va_X b L xs s s.heap) (hbl : b < s.heap.size) (hbA : ¬ A0 b) (hi : i + 6 ≤ L) (hL : L ≤ 3072) (hd : DUO Rel l sk D cy Ac Ar mX6_count mX7_count [.int (xs (i + 1))] Value.int Mc Mr) (kk : ∀ M1 M2, Rel M1 M2 → AW p l e room_1 s m #[Value.ref b] below meth c D (lwd cy Ac Ar) A0 4 62 1194 Q 1460 [some (.ref b), some (.ref (Ac 0)), some (.ref (Ar 0)), some (.int (nI i))] [] (M1, M2)) : AW p l e room_1 s m #[Value.ref b] below meth c D (lwd cy Ac Ar) A0 4 62 1194 Q 1414 [some (.ref b), some (.ref (Ac 0)), some (.ref (Ar 0)), some (.int (nI i))] [] (Mc, Mr) := by
  obtain ⟨h, h2, P, P2, hh, hh2, hCc, hCr, hv1, hv2, hz⟩ := hd
  refine a_aload_n B dL_law_1414 rfl ?_
  refine a_aload_n B dL_law_1415 rfl ?_
  refine a_iload_n B dL_law_1416 rfl ?_
  refine a_iconst (v := 1) B dL_law_1417 (by decide) ?_
  refine a_iadd B dL_law_1418 ?_
  refine l_sld (i + 1) B hX hbl hbA (nI_add i 1) (by omega) hL dL_law_1419 ?_
  refine l_callC (As := [.int (xs (i + 1))]) (n := 1) (fr := h) (lc := 34 * h) B cf_X6_count lk_L_183 in_X6_count se_X6_count rfl hCc dL_law_1420 rfl rfl (Nat.le_of_ble_eq_true rfl) ⟨by omega, by show 8 + (2 + 11) + 34 * h ≤ 478; omega⟩ ⟨Nat.le_of_ble_eq_true rfl, Nat.le_of_ble_eq_true rfl⟩ (fun v M1 hp1 => ?_)
  obtain ⟨x1, rfl⟩ := hv1 v M1 hp1
  show AW _ _ _ _ _ _ _ _ _ _ _ _ _ _ _ _ _ _ _ [Value.int x1] _
  refine a_aload_n B dL_law_1423 rfl ?_
  refine a_aload_n B dL_law_1424 rfl ?_
  refine a_iload_n B dL_law_1425 rfl ?_
  refine a_iconst (v := 1) B dL_law_1426 (by decide) ?_
  refine a_iadd B dL_law_1427 ?_
  refine l_sld (i + 1) B hX hbl hbA (nI_add i 1) (by omega) hL dL_law_1428 ?_
  refine l_callR (As := [.int (xs (i + 1))]) (n := 1) (fr := h2) (lc := 34 * h2) B cf_X7_count lk_L_186 in_X7_count se_X7_count rfl hCr dL_law_1429 rfl rfl (Nat.le_of_ble_eq_true rfl) ⟨by omega, by show 8 + (2 + 11) + 34 * h2 ≤ 478; omega⟩ ⟨Nat.le_of_ble_eq_true rfl, Nat.le_of_ble_eq_true rfl⟩ (fun v M2 hp2 => ?_)
  obtain ⟨x2, rfl⟩ := hv2 v M2 hp2
  obtain ⟨rfl, hRel⟩ := hz x1 x2 M1 M2 hp1 hp2
  show AW _ _ _ _ _ _ _ _ _ _ _ _ _ _ _ _ _ _ _ [Value.int x1, Value.int x1] _
  exact a_icmp_eq 1460 B dL_law_1432 (by decide) (fun _ => kk M1 M2 hRel) (fun c9 => absurd rfl c9)
set_option maxRecDepth 20000 in
theorem lc_status (B : BS sk D cy (lwd cy Ac Ar) A0 p s m #[Value.ref b] c RL cL_law 4) (hX : va_X b L xs s s.heap) (hbl : b < s.heap.size) (hbA : ¬ A0 b) (hi : i + 6 ≤ L) (hL : L ≤ 3072) (hd : DUO Rel l sk D cy Ac Ar mX6_status mX7_status [.int (xs (i + 1))] Value.int Mc Mr) (kk : ∀ M1 M2, Rel M1 M2 → AW p l e room_1 s m #[Value.ref b] below meth c D (lwd cy Ac Ar) A0 4 62 1194 Q 1460 [some (.ref b), some (.ref (Ac 0)), some (.ref (Ar 0)), some (.int (nI i))] [] (M1, M2)) : AW p l e room_1 s m #[Value.ref b] below meth c D (lwd cy Ac Ar) A0 4 62 1194 Q 1437 [some (.ref b), some (.ref (Ac 0)), some (.ref (Ar 0)), some (.int (nI i))] [] (Mc, Mr) := by
  obtain ⟨h, h2, P, P2, hh, hh2, hCc, hCr, hv1, hv2, hz⟩ := hd
  refine a_aload_n B dL_law_1437 rfl ?_
  refine a_aload_n B dL_law_1438 rfl ?_
  refine a_iload_n B dL_law_1439 rfl ?_
  refine a_iconst (v := 1) B dL_law_1440 (by decide) ?_
  refine a_iadd B dL_law_1441 ?_
  refine l_sld (i + 1) B hX hbl hbA (nI_add i 1) (by omega) hL dL_law_1442 ?_
  refine l_callC (As := [.int (xs (i + 1))]) (n := 1) (fr := h) (lc := 34 * h) B cf_X6_status lk_L_187 in_X6_status se_X6_status rfl hCc dL_law_1443 rfl rfl (Nat.le_of_ble_eq_true rfl) ⟨by omega, by show 8 + (4 + 11) + 34 * h ≤ 478; omega⟩ ⟨Nat.le_of_ble_eq_true rfl, Nat.le_of_ble_eq_true rfl⟩ (fun v M1 hp1 => ?_)
  obtain ⟨x1, rfl⟩ := hv1 v M1 hp1
  show AW _ _ _ _ _ _ _ _ _ _ _ _ _ _ _ _ _ _ _ [Value.int x1] _
  refine a_aload_n B dL_law_1446 rfl ?_
  refine a_aload_n B dL_law_1447 rfl ?_
  refine a_iload_n B dL_law_1448 rfl ?_
  refine a_iconst (v := 1) B dL_law_1449 (by decide) ?_
  refine a_iadd B dL_law_1450 ?_
  refine l_sld (i + 1) B hX hbl hbA (nI_add i 1) (by omega) hL dL_law_1451 ?_
  refine l_callR (As := [.int (xs (i + 1))]) (n := 1) (fr := h2) (lc := 34 * h2) B cf_X7_status lk_L_190 in_X7_status se_X7_status rfl hCr dL_law_1452 rfl rfl (Nat.le_of_ble_eq_true rfl) ⟨by omega, by show 8 + (4 + 11) + 34 * h2 ≤ 478; omega⟩ ⟨Nat.le_of_ble_eq_true rfl, Nat.le_of_ble_eq_true rfl⟩ (fun v M2 hp2 => ?_)
  obtain ⟨x2, rfl⟩ := hv2 v M2 hp2
  obtain ⟨rfl, hRel⟩ := hz x1 x2 M1 M2 hp1 hp2
  show AW _ _ _ _ _ _ _ _ _ _ _ _ _ _ _ _ _ _ _ [Value.int x1, Value.int x1] _
  exact a_icmp_eq 1460 B dL_law_1455 (by decide) (fun _ => kk M1 M2 hRel) (fun c9 => absurd rfl c9)
end LW2
