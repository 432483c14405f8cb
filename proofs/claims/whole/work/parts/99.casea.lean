theorem kP01 (x : Int32) : kPerson x = 0 ∨ kPerson x = 1 := by
  unfold kPerson
  split
  · exact Or.inr rfl
  · split
    · exact Or.inl rfl
    · exact Or.inr rfl
theorem kR01 (x : Int32) : kRing x = 0 ∨ kRing x = 1 := by
  unfold kRing
  split
  · exact Or.inr rfl
  · split
    · exact Or.inl rfl
    · exact Or.inr rfl
theorem kS01 (x : Int32) : kSwitch x = 0 ∨ kSwitch x = 1 := by
  unfold kSwitch
  split
  · exact Or.inl rfl
  · exact Or.inr rfl
theorem kB01 (n x : Int32) : kBelow n x = 0 ∨ kBelow n x = 1 := by
  unfold kBelow
  split
  · exact Or.inr rfl
  · split
    · exact Or.inl rfl
    · exact Or.inr rfl
theorem kH01 (f : Nat → Int32) (x : Int32) : kHolder f x = 0 ∨ kHolder f x = 1 := by
  unfold kHolder
  split
  · exact Or.inr rfl
  · split
    · exact Or.inl rfl
    · exact Or.inr rfl
theorem kT_c {a y : Nat} (h : a = 0 ∨ a = 1) : kT a y = 1 ∨ kT a y = y := h.elim (fun e => Or.inr (by rw [e]; rfl)) (fun e => Or.inl (by rw [e]; rfl))
theorem kT01 {a y : Nat} (h : a = 0 ∨ a = 1) (h2 : y = 0 ∨ y = 1) : kT a y = 0 ∨ kT a y = 1 := by
  rcases kT_c (y := y) h with e | e
  · exact Or.inr e
  · rw [e]; exact h2
theorem kT_P {a y : Nat} {P : Nat → Prop} (h : a = 0 ∨ a = 1) (h1 : P 1) (h2 : P y) : P (kT a y) := by
  rcases kT_c (y := y) h with e | e
  · rw [e]; exact h1
  · rw [e]; exact h2
theorem kCan03 (r : Nat → Nat → Int32) (f : Nat → Int32) (x : Int32) : kCan r f x = 0 ∨ kCan r f x = 3 := by
  unfold kCan
  split
  · exact Or.inr rfl
  · split
    · exact Or.inl rfl
    · exact Or.inr rfl
theorem kT_03 {a y : Nat} (h : a = 0 ∨ a = 3) (h2 : y = 0 ∨ y = 3) : kT a y = 0 ∨ kT a y = 3 := by
  rcases h with e | e
  · rw [e]; exact h2
  · rw [e]; exact Or.inr rfl
theorem if03 (P : Prop) [Decidable P] : (if P then 0 else 3 : Nat) = 0 ∨ (if P then 0 else 3 : Nat) = 3 := by
  split
  · exact Or.inl rfl
  · exact Or.inr rfl
theorem if30 (P : Prop) [Decidable P] : (if P then 3 else 0 : Nat) = 0 ∨ (if P then 3 else 0 : Nat) = 3 := by
  split
  · exact Or.inr rfl
  · exact Or.inl rfl
theorem kBuild03 (f : Nat → Int32) : kBuild f = 0 ∨ kBuild f = 3 := if03 _
theorem kDefect3 (f : Nat → Int32) (x1 x2 : Int32) : kDefect f x1 x2 = 0 ∨ kDefect f x1 x2 = 1 ∨ kDefect f x1 x2 = 3 := by
  unfold kDefect
  refine kT_P (P := fun K => K = 0 ∨ K = 1 ∨ K = 3) (kB01 _ _) (Or.inr (Or.inl rfl)) ?_
  refine kT_P (P := fun K => K = 0 ∨ K = 1 ∨ K = 3) ?_ (Or.inr (Or.inl rfl)) ((if03 _).elim Or.inl (fun z => Or.inr (Or.inr z)))
  split
  · exact Or.inl rfl
  · exact kS01 _
theorem kNeed4 (r : Nat → Nat → Int32) (x1 x2 : Int32) (x3 : Bool) : kNeed r x1 x2 x3 = 0 ∨ kNeed r x1 x2 x3 = 1 ∨ kNeed r x1 x2 x3 = 2 ∨ kNeed r x1 x2 x3 = 3 := by
  unfold kNeed
  refine kT_P (P := fun K => K = 0 ∨ K = 1 ∨ K = 2 ∨ K = 3) (kS01 _) (Or.inr (Or.inl rfl)) ?_
  refine kT_P (P := fun K => K = 0 ∨ K = 1 ∨ K = 2 ∨ K = 3) (kS01 _) (Or.inr (Or.inl rfl)) ?_
  split
  · exact Or.inr (Or.inr (Or.inl rfl))
  · split
    · exact (if30 _).elim Or.inl (fun z => Or.inr (Or.inr (Or.inr z)))
    · exact Or.inl rfl
theorem kTurn4 (r : Nat → Nat → Int32) (f : Nat → Int32) (x1 x2 x3 : Int32) : kTurn r f x1 x2 x3 = 0 ∨ kTurn r f x1 x2 x3 = 1 ∨ kTurn r f x1 x2 x3 = 2 ∨ kTurn r f x1 x2 x3 = 3 := by
  unfold kTurn
  refine kT_P (P := fun K => K = 0 ∨ K = 1 ∨ K = 2 ∨ K = 3) (kP01 _) (Or.inr (Or.inl rfl)) ?_
  refine kT_P (P := fun K => K = 0 ∨ K = 1 ∨ K = 2 ∨ K = 3) (kS01 _) (Or.inr (Or.inl rfl)) ?_
  split
  · exact Or.inr (Or.inr (Or.inl rfl))
  · split
    · exact (kT_03 (kCan03 _ _ _) (if30 _)).elim Or.inl (fun z => Or.inr (Or.inr (Or.inr z)))
    · exact Or.inr (Or.inr (Or.inl rfl))
theorem kRoll3 (r : Nat → Nat → Int32) (f : Nat → Int32) (x1 x2 x3 : Int32) : kRoll r f x1 x2 x3 = 0 ∨ kRoll r f x1 x2 x3 = 1 ∨ kRoll r f x1 x2 x3 = 3 := by
  unfold kRoll
  refine kT_P (P := fun K => K = 0 ∨ K = 1 ∨ K = 3) (kP01 _) (Or.inr (Or.inl rfl)) ?_
  refine kT_P (P := fun K => K = 0 ∨ K = 1 ∨ K = 3) (kR01 _) (Or.inr (Or.inl rfl)) ?_
  refine kT_P (P := fun K => K = 0 ∨ K = 1 ∨ K = 3) (kB01 _ _) (Or.inr (Or.inl rfl)) ?_
  refine (kT_03 (kCan03 _ _ _) ?_).elim Or.inl (fun z => Or.inr (Or.inr z))
  split
  · exact Or.inr rfl
  · exact if30 _
theorem kRevert3 (r : Nat → Nat → Int32) (f : Nat → Int32) (x1 x2 : Int32) : kRevert r f x1 x2 = 0 ∨ kRevert r f x1 x2 = 1 ∨ kRevert r f x1 x2 = 3 := by
  unfold kRevert
  refine kT_P (P := fun K => K = 0 ∨ K = 1 ∨ K = 3) (kP01 _) (Or.inr (Or.inl rfl)) ?_
  refine kT_P (P := fun K => K = 0 ∨ K = 1 ∨ K = 3) (kB01 _ _) (Or.inr (Or.inl rfl)) ?_
  exact (kT_03 (kCan03 _ _ _) (if03 _)).elim Or.inl (fun z => Or.inr (Or.inr z))
theorem kTake3 (r : Nat → Nat → Int32) (f : Nat → Int32) (x : Int32) : kTake r f x = 0 ∨ kTake r f x = 1 ∨ kTake r f x = 3 := by
  unfold kTake
  refine kT_P (P := fun K => K = 0 ∨ K = 1 ∨ K = 3) (kP01 _) (Or.inr (Or.inl rfl)) ?_
  split
  · exact Or.inr (Or.inr rfl)
  · exact (if30 _).elim Or.inl (fun z => Or.inr (Or.inr z))
theorem kPass3 (f : Nat → Int32) (x : Int32) : kPass f x = 0 ∨ kPass f x = 2 ∨ kPass f x = 3 := by
  unfold kPass
  split
  · exact Or.inr (Or.inl rfl)
  · split
    · exact (if03 _).elim Or.inl (fun z => Or.inr (Or.inr z))
    · exact Or.inr (Or.inl rfl)
section S99
variable {p_ : Program} {e_ : Env} {l : Launch} {s : State} {m : MethodId} {below : List Frame} {meth : Method} {c : Code} {b L : Nat} {xs : Nat → Int32} {G : gG} {zc zm : Nat → Nat} {o : Nat} {q p : gRF} {g : Nat → Int64} {H : Heap} {locs : List Loc} {cells slots i : Nat} {ls : Array Slot} {Q : State → Prop}
set_option maxHeartbeats 4000000 in
set_option maxRecDepth 100000 in
theorem law_k0 (F : lwF p_ l s m meth c b L xs G) (Z : lwZ s zc zm o) {n d k t v : Nat} (hs : sX q p n d k t v) (hH : lwH G s zc zm o q p g H locs) (hl : lv_has ls 7 (lwLs b zc zm o i)) (hi : 4 * i + 4 ≤ L) (hcl : cells + 5 ≤ 601024 ∧ slots + 30 ≤ 7293034) (kk : lwGo p_ l e_ s m b below meth c G zc zm o i (cells + 5) (slots + 30) Q) : W p_ l e_ room_1 s m #[Value.ref b] below meth c H locs cells slots Q (F0 m 188 ls []) := by
  obtain ⟨⟨hx, hb, -⟩, hfl, -⟩ := id F
  obtain ⟨-, hn2, -, -, -, hk2, -, ht2, -⟩ := id hs.1.ok
  have hsim := sim_build hs
  refine lv_aload_n hx hb dL_law_188 rfl (lv_at hl 3 rfl) ?_
  refine lv_aload_n hx hb dL_law_189 rfl (lv_at hl 1 rfl) ?_
  refine law_c1 (As := [.ref (zc 0), .ref o]) (rest := []) F Z hsim hH (c_L_build l hfl G _ zc Z.1 q.1 q.2 hH.1 o g hH.2.2.1 Z.2.2.2.1 (kBuild03 _)) (vx_cwSW 2 (law_S0 F).2.2.2.2 gL_law_L_build rfl rfl rfl (by decide +kernel) ⟨Nat.le_of_ble_eq_true rfl, Nat.le_of_ble_eq_true rfl⟩) rfl hl.1 dL_law_190 (Nat.le_of_ble_eq_true rfl) ⟨by omega, by omega⟩ (fun g H locs hH hg => ?_)
  refine lv_istore (lv' := (5, .int _) :: lwLs b zc zm o i) hx hb dL_law_193 hl (by decide) rfl (fun ls hl => ?_)
  refine lv_aload_n hx hb dL_law_195 rfl (lv_at hl 3 rfl) ?_
  refine law_c2 (As := []) (rest := []) F Z hsim hH (c_X7_build l G _ zm Z.2.1 p.1 p.2 hH.2.1 n d k t hs.1.ok) (cwV 0 (law_S0 F).2.2.2.2 gL_law_X7_build rfl rfl rfl (by decide +kernel) ⟨Nat.le_of_ble_eq_true rfl, Nat.le_of_ble_eq_true rfl⟩) rfl hl.1 dL_law_196 (Nat.le_of_ble_eq_true rfl) ⟨by omega, by omega⟩ (fun H locs hH => ?_)
  refine W.widen (k := cells + 5) (n := slots + 30) (by omega) (by omega) ?_
  exact law_ti (t13 := 212) (t30 := 229) F hsim hH hg hl dL_law_199 dL_law_201 dL_law_202 dL_law_205 dL_law_207 (by decide) dL_law_212 dL_law_214 (by decide) dL_law_217 dL_law_218 dL_law_219 dL_law_220 dL_law_222 dL_law_223 dL_law_224 (by decide) dL_law_229 (by decide) hcl kk
set_option maxHeartbeats 4000000 in
set_option maxRecDepth 100000 in
theorem law_k1 (F : lwF p_ l s m meth c b L xs G) (Z : lwZ s zc zm o) {n d k t v : Nat} (hs : sX q p n d k t v) (hH : lwH G s zc zm o q p g H locs) (hl : lv_has ls 7 (lwLs b zc zm o i)) (hi : 4 * i + 4 ≤ L) (hcl : cells + 5 ≤ 601024 ∧ slots + 30 ≤ 7293034) (kk : lwGo p_ l e_ s m b below meth c G zc zm o i (cells + 5) (slots + 30) Q) : W p_ l e_ room_1 s m #[Value.ref b] below meth c H locs cells slots Q (F0 m 232 ls []) := by
  obtain ⟨⟨hx, hb, -⟩, hfl, -⟩ := id F
  obtain ⟨-, hn2, -, -, -, hk2, -, ht2, -⟩ := id hs.1.ok
  have hsim := sim_defect hs (xs (4 * i + 1)) (xs (4 * i + 2)) (!decide (xs (4 * i + 3) = 0))
  refine lv_aload_n hx hb dL_law_232 rfl (lv_at hl 3 rfl) ?_
  refine law_arg (i := i) (j := 1) F hH hl 4 0 rfl rfl (by omega) (by decide +kernel) dL_law_233 dL_law_234 dL_law_236 dL_law_237 dL_law_238 ?_
  refine law_arg (i := i) (j := 2) F hH hl 4 0 rfl rfl (by omega) (by decide +kernel) dL_law_239 dL_law_240 dL_law_242 dL_law_243 dL_law_244 ?_
  refine law_arg (i := i) (j := 3) F hH hl 4 0 rfl rfl (by omega) (by decide +kernel) dL_law_245 dL_law_246 dL_law_248 dL_law_249 dL_law_250 ?_
  refine law_bool (t1 := 258) (t2 := 259) F dL_law_251 (by decide) dL_law_254 dL_law_255 (by decide) dL_law_258 rfl ?_
  refine lv_aload_n hx hb dL_law_259 rfl (lv_at hl 1 rfl) ?_
  refine law_c1 (As := [.ref (zc 0), .int (xs (4 * i + 1)), .int (xs (4 * i + 2)), .int (b2i (!decide (xs (4 * i + 3) = 0))), .ref o]) (rest := []) F Z hsim hH (c_L_defect l hfl G _ zc Z.1 q.1 q.2 hH.1 o g hH.2.2.1 Z.2.2.2.1 (xs (4 * i + 1)) (xs (4 * i + 2)) (!decide (xs (4 * i + 3) = 0)) (kDefect3 _ _ _)) (vx_cwSW 5 (law_S0 F).2.2.2.2 gL_law_L_defect rfl rfl rfl (by decide +kernel) ⟨Nat.le_of_ble_eq_true rfl, Nat.le_of_ble_eq_true rfl⟩) rfl hl.1 dL_law_260 (Nat.le_of_ble_eq_true rfl) ⟨by omega, by omega⟩ (fun g H locs hH hg => ?_)
  refine lv_istore (lv' := (5, .int _) :: lwLs b zc zm o i) hx hb dL_law_263 hl (by decide) rfl (fun ls hl => ?_)
  refine lv_aload_n hx hb dL_law_265 rfl (lv_at hl 3 rfl) ?_
  refine law_arg (i := i) (j := 1) F hH hl 5 1 rfl rfl (by omega) (by decide +kernel) dL_law_266 dL_law_267 dL_law_269 dL_law_270 dL_law_271 ?_
  refine law_arg (i := i) (j := 2) F hH hl 5 1 rfl rfl (by omega) (by decide +kernel) dL_law_272 dL_law_273 dL_law_275 dL_law_276 dL_law_277 ?_
  refine law_arg (i := i) (j := 3) F hH hl 5 1 rfl rfl (by omega) (by decide +kernel) dL_law_278 dL_law_279 dL_law_281 dL_law_282 dL_law_283 ?_
  refine law_bool (t1 := 291) (t2 := 292) F dL_law_284 (by decide) dL_law_287 dL_law_288 (by decide) dL_law_291 rfl ?_
  refine law_c2 (As := [.int (xs (4 * i + 1)), .int (xs (4 * i + 2)), .int (b2i (!decide (xs (4 * i + 3) = 0)))]) (rest := []) F Z hsim hH (c_X7_defect l G _ zm Z.2.1 p.1 p.2 hH.2.1 (xs (4 * i + 1)) (xs (4 * i + 2)) (!decide (xs (4 * i + 3) = 0)) n d k t hs.1.ok) (cwV 3 (law_S0 F).2.2.2.2 gL_law_X7_defect rfl rfl rfl (by decide +kernel) ⟨Nat.le_of_ble_eq_true rfl, Nat.le_of_ble_eq_true rfl⟩) rfl hl.1 dL_law_292 (Nat.le_of_ble_eq_true rfl) ⟨by omega, by omega⟩ (fun H locs hH => ?_)
  refine W.widen (k := cells + 5) (n := slots + 30) (by omega) (by omega) ?_
  exact law_ti (t13 := 308) (t30 := 325) F hsim hH hg hl dL_law_295 dL_law_297 dL_law_298 dL_law_301 dL_law_303 (by decide) dL_law_308 dL_law_310 (by decide) dL_law_313 dL_law_314 dL_law_315 dL_law_316 dL_law_318 dL_law_319 dL_law_320 (by decide) dL_law_325 (by decide) hcl kk
set_option maxHeartbeats 4000000 in
set_option maxRecDepth 100000 in
theorem law_k2 (F : lwF p_ l s m meth c b L xs G) (Z : lwZ s zc zm o) {n d k t v : Nat} (hs : sX q p n d k t v) (hH : lwH G s zc zm o q p g H locs) (hl : lv_has ls 7 (lwLs b zc zm o i)) (hi : 4 * i + 4 ≤ L) (hcl : cells + 5 ≤ 601024 ∧ slots + 30 ≤ 7293034) (kk : lwGo p_ l e_ s m b below meth c G zc zm o i (cells + 5) (slots + 30) Q) : W p_ l e_ room_1 s m #[Value.ref b] below meth c H locs cells slots Q (F0 m 328 ls []) := by
  obtain ⟨⟨hx, hb, -⟩, hfl, -⟩ := id F
  obtain ⟨-, hn2, -, -, -, hk2, -, ht2, -⟩ := id hs.1.ok
  have hsim := sim_need hs (xs (4 * i + 1)) (xs (4 * i + 2)) (!decide (xs (4 * i + 3) = 0))
  refine lv_aload_n hx hb dL_law_328 rfl (lv_at hl 3 rfl) ?_
  refine law_arg (i := i) (j := 1) F hH hl 4 0 rfl rfl (by omega) (by decide +kernel) dL_law_329 dL_law_330 dL_law_332 dL_law_333 dL_law_334 ?_
  refine law_arg (i := i) (j := 2) F hH hl 4 0 rfl rfl (by omega) (by decide +kernel) dL_law_335 dL_law_336 dL_law_338 dL_law_339 dL_law_340 ?_
  refine law_arg (i := i) (j := 3) F hH hl 4 0 rfl rfl (by omega) (by decide +kernel) dL_law_341 dL_law_342 dL_law_344 dL_law_345 dL_law_346 ?_
  refine law_bool (t1 := 354) (t2 := 355) F dL_law_347 (by decide) dL_law_350 dL_law_351 (by decide) dL_law_354 rfl ?_
  refine lv_aload_n hx hb dL_law_355 rfl (lv_at hl 1 rfl) ?_
  refine law_c1 (As := [.ref (zc 0), .int (xs (4 * i + 1)), .int (xs (4 * i + 2)), .int (b2i (!decide (xs (4 * i + 3) = 0))), .ref o]) (rest := []) F Z hsim hH (c_L_need l hfl G _ zc Z.1 q.1 q.2 hH.1 o g hH.2.2.1 Z.2.2.2.1 (xs (4 * i + 1)) (xs (4 * i + 2)) (!decide (xs (4 * i + 3) = 0)) (kNeed4 _ _ _ _)) (vx_cwSW 5 (law_S0 F).2.2.2.2 gL_law_L_need rfl rfl rfl (by decide +kernel) ⟨Nat.le_of_ble_eq_true rfl, Nat.le_of_ble_eq_true rfl⟩) rfl hl.1 dL_law_356 (Nat.le_of_ble_eq_true rfl) ⟨by omega, by omega⟩ (fun g H locs hH hg => ?_)
  refine lv_istore (lv' := (5, .int _) :: lwLs b zc zm o i) hx hb dL_law_359 hl (by decide) rfl (fun ls hl => ?_)
  refine lv_aload_n hx hb dL_law_361 rfl (lv_at hl 3 rfl) ?_
  refine law_arg (i := i) (j := 1) F hH hl 5 1 rfl rfl (by omega) (by decide +kernel) dL_law_362 dL_law_363 dL_law_365 dL_law_366 dL_law_367 ?_
  refine law_arg (i := i) (j := 2) F hH hl 5 1 rfl rfl (by omega) (by decide +kernel) dL_law_368 dL_law_369 dL_law_371 dL_law_372 dL_law_373 ?_
  refine law_arg (i := i) (j := 3) F hH hl 5 1 rfl rfl (by omega) (by decide +kernel) dL_law_374 dL_law_375 dL_law_377 dL_law_378 dL_law_379 ?_
  refine law_bool (t1 := 387) (t2 := 388) F dL_law_380 (by decide) dL_law_383 dL_law_384 (by decide) dL_law_387 rfl ?_
  refine law_c2 (As := [.int (xs (4 * i + 1)), .int (xs (4 * i + 2)), .int (b2i (!decide (xs (4 * i + 3) = 0)))]) (rest := []) F Z hsim hH (c_X7_need l G _ zm Z.2.1 p.1 p.2 hH.2.1 (xs (4 * i + 1)) (xs (4 * i + 2)) (!decide (xs (4 * i + 3) = 0)) n d k t hs.1.ok) (cwV 3 (law_S0 F).2.2.2.2 gL_law_X7_need rfl rfl rfl (by decide +kernel) ⟨Nat.le_of_ble_eq_true rfl, Nat.le_of_ble_eq_true rfl⟩) rfl hl.1 dL_law_388 (Nat.le_of_ble_eq_true rfl) ⟨by omega, by omega⟩ (fun H locs hH => ?_)
  refine W.widen (k := cells + 5) (n := slots + 30) (by omega) (by omega) ?_
  exact law_ti (t13 := 404) (t30 := 421) F hsim hH hg hl dL_law_391 dL_law_393 dL_law_394 dL_law_397 dL_law_399 (by decide) dL_law_404 dL_law_406 (by decide) dL_law_409 dL_law_410 dL_law_411 dL_law_412 dL_law_414 dL_law_415 dL_law_416 (by decide) dL_law_421 (by decide) hcl kk
set_option maxHeartbeats 4000000 in
set_option maxRecDepth 100000 in
theorem law_k3 (F : lwF p_ l s m meth c b L xs G) (Z : lwZ s zc zm o) {n d k t v : Nat} (hs : sX q p n d k t v) (hH : lwH G s zc zm o q p g H locs) (hl : lv_has ls 7 (lwLs b zc zm o i)) (hi : 4 * i + 4 ≤ L) (hcl : cells + 5 ≤ 601024 ∧ slots + 30 ≤ 7293034) (kk : lwGo p_ l e_ s m b below meth c G zc zm o i (cells + 5) (slots + 30) Q) : W p_ l e_ room_1 s m #[Value.ref b] below meth c H locs cells slots Q (F0 m 424 ls []) := by
  obtain ⟨⟨hx, hb, -⟩, hfl, -⟩ := id F
  obtain ⟨-, hn2, -, -, -, hk2, -, ht2, -⟩ := id hs.1.ok
  have hsim := sim_turn hs (xs (4 * i + 1)) (xs (4 * i + 2)) (xs (4 * i + 3))
  refine lv_aload_n hx hb dL_law_424 rfl (lv_at hl 3 rfl) ?_
  refine law_arg (i := i) (j := 1) F hH hl 4 0 rfl rfl (by omega) (by decide +kernel) dL_law_425 dL_law_426 dL_law_428 dL_law_429 dL_law_430 ?_
  refine law_arg (i := i) (j := 2) F hH hl 4 0 rfl rfl (by omega) (by decide +kernel) dL_law_431 dL_law_432 dL_law_434 dL_law_435 dL_law_436 ?_
  refine law_arg (i := i) (j := 3) F hH hl 4 0 rfl rfl (by omega) (by decide +kernel) dL_law_437 dL_law_438 dL_law_440 dL_law_441 dL_law_442 ?_
  refine lv_aload_n hx hb dL_law_443 rfl (lv_at hl 1 rfl) ?_
  refine law_c1 (As := [.ref (zc 0), .int (xs (4 * i + 1)), .int (xs (4 * i + 2)), .int (xs (4 * i + 3)), .ref o]) (rest := []) F Z hsim hH (c_L_turn l hfl G _ zc Z.1 q.1 q.2 hH.1 o g hH.2.2.1 Z.2.2.2.1 (xs (4 * i + 1)) (xs (4 * i + 2)) (xs (4 * i + 3)) (kTurn4 _ _ _ _ _)) (vx_cwSW 5 (law_S0 F).2.2.2.2 gL_law_L_turn rfl rfl rfl (by decide +kernel) ⟨Nat.le_of_ble_eq_true rfl, Nat.le_of_ble_eq_true rfl⟩) rfl hl.1 dL_law_444 (Nat.le_of_ble_eq_true rfl) ⟨by omega, by omega⟩ (fun g H locs hH hg => ?_)
  refine lv_istore (lv' := (5, .int _) :: lwLs b zc zm o i) hx hb dL_law_447 hl (by decide) rfl (fun ls hl => ?_)
  refine lv_aload_n hx hb dL_law_449 rfl (lv_at hl 3 rfl) ?_
  refine law_arg (i := i) (j := 1) F hH hl 5 1 rfl rfl (by omega) (by decide +kernel) dL_law_450 dL_law_451 dL_law_453 dL_law_454 dL_law_455 ?_
  refine law_arg (i := i) (j := 2) F hH hl 5 1 rfl rfl (by omega) (by decide +kernel) dL_law_456 dL_law_457 dL_law_459 dL_law_460 dL_law_461 ?_
  refine law_arg (i := i) (j := 3) F hH hl 5 1 rfl rfl (by omega) (by decide +kernel) dL_law_462 dL_law_463 dL_law_465 dL_law_466 dL_law_467 ?_
  refine law_c2 (As := [.int (xs (4 * i + 1)), .int (xs (4 * i + 2)), .int (xs (4 * i + 3))]) (rest := []) F Z hsim hH (c_X7_turn l G _ zm Z.2.1 p.1 p.2 hH.2.1 (xs (4 * i + 1)) (xs (4 * i + 2)) (xs (4 * i + 3)) n d k t hs.1.ok) (cwV 3 (law_S0 F).2.2.2.2 gL_law_X7_turn rfl rfl rfl (by decide +kernel) ⟨Nat.le_of_ble_eq_true rfl, Nat.le_of_ble_eq_true rfl⟩) rfl hl.1 dL_law_468 (Nat.le_of_ble_eq_true rfl) ⟨by omega, by omega⟩ (fun H locs hH => ?_)
  refine W.widen (k := cells + 5) (n := slots + 30) (by omega) (by omega) ?_
  exact law_ti (t13 := 484) (t30 := 501) F hsim hH hg hl dL_law_471 dL_law_473 dL_law_474 dL_law_477 dL_law_479 (by decide) dL_law_484 dL_law_486 (by decide) dL_law_489 dL_law_490 dL_law_491 dL_law_492 dL_law_494 dL_law_495 dL_law_496 (by decide) dL_law_501 (by decide) hcl kk
set_option maxHeartbeats 4000000 in
set_option maxRecDepth 100000 in
theorem law_k4 (F : lwF p_ l s m meth c b L xs G) (Z : lwZ s zc zm o) {n d k t v : Nat} (hs : sX q p n d k t v) (hH : lwH G s zc zm o q p g H locs) (hl : lv_has ls 7 (lwLs b zc zm o i)) (hi : 4 * i + 4 ≤ L) (hcl : cells + 5 ≤ 601024 ∧ slots + 30 ≤ 7293034) (kk : lwGo p_ l e_ s m b below meth c G zc zm o i (cells + 5) (slots + 30) Q) : W p_ l e_ room_1 s m #[Value.ref b] below meth c H locs cells slots Q (F0 m 504 ls []) := by
  obtain ⟨⟨hx, hb, -⟩, hfl, -⟩ := id F
  obtain ⟨-, hn2, -, -, -, hk2, -, ht2, -⟩ := id hs.1.ok
  have hsim := sim_roll hs (xs (4 * i + 1)) (xs (4 * i + 2)) (xs (4 * i + 3))
  refine lv_aload_n hx hb dL_law_504 rfl (lv_at hl 3 rfl) ?_
  refine law_arg (i := i) (j := 1) F hH hl 4 0 rfl rfl (by omega) (by decide +kernel) dL_law_505 dL_law_506 dL_law_508 dL_law_509 dL_law_510 ?_
  refine law_arg (i := i) (j := 2) F hH hl 4 0 rfl rfl (by omega) (by decide +kernel) dL_law_511 dL_law_512 dL_law_514 dL_law_515 dL_law_516 ?_
  refine law_arg (i := i) (j := 3) F hH hl 4 0 rfl rfl (by omega) (by decide +kernel) dL_law_517 dL_law_518 dL_law_520 dL_law_521 dL_law_522 ?_
  refine lv_aload_n hx hb dL_law_523 rfl (lv_at hl 1 rfl) ?_
  refine law_c1 (As := [.ref (zc 0), .int (xs (4 * i + 1)), .int (xs (4 * i + 2)), .int (xs (4 * i + 3)), .ref o]) (rest := []) F Z hsim hH (c_L_roll l hfl G _ zc Z.1 q.1 q.2 hH.1 o g hH.2.2.1 Z.2.2.2.1 (xs (4 * i + 1)) (xs (4 * i + 2)) (xs (4 * i + 3)) (kRoll3 _ _ _ _ _)) (vx_cwSW 5 (law_S0 F).2.2.2.2 gL_law_L_roll rfl rfl rfl (by decide +kernel) ⟨Nat.le_of_ble_eq_true rfl, Nat.le_of_ble_eq_true rfl⟩) rfl hl.1 dL_law_524 (Nat.le_of_ble_eq_true rfl) ⟨by omega, by omega⟩ (fun g H locs hH hg => ?_)
  refine lv_istore (lv' := (5, .int _) :: lwLs b zc zm o i) hx hb dL_law_527 hl (by decide) rfl (fun ls hl => ?_)
  refine lv_aload_n hx hb dL_law_529 rfl (lv_at hl 3 rfl) ?_
  refine law_arg (i := i) (j := 1) F hH hl 5 1 rfl rfl (by omega) (by decide +kernel) dL_law_530 dL_law_531 dL_law_533 dL_law_534 dL_law_535 ?_
  refine law_arg (i := i) (j := 2) F hH hl 5 1 rfl rfl (by omega) (by decide +kernel) dL_law_536 dL_law_537 dL_law_539 dL_law_540 dL_law_541 ?_
  refine law_arg (i := i) (j := 3) F hH hl 5 1 rfl rfl (by omega) (by decide +kernel) dL_law_542 dL_law_543 dL_law_545 dL_law_546 dL_law_547 ?_
  refine law_c2 (As := [.int (xs (4 * i + 1)), .int (xs (4 * i + 2)), .int (xs (4 * i + 3))]) (rest := []) F Z hsim hH (c_X7_roll l G _ zm Z.2.1 p.1 p.2 hH.2.1 (xs (4 * i + 1)) (xs (4 * i + 2)) (xs (4 * i + 3)) n d k t hs.1.ok) (cwV 3 (law_S0 F).2.2.2.2 gL_law_X7_roll rfl rfl rfl (by decide +kernel) ⟨Nat.le_of_ble_eq_true rfl, Nat.le_of_ble_eq_true rfl⟩) rfl hl.1 dL_law_548 (Nat.le_of_ble_eq_true rfl) ⟨by omega, by omega⟩ (fun H locs hH => ?_)
  refine W.widen (k := cells + 5) (n := slots + 30) (by omega) (by omega) ?_
  exact law_ti (t13 := 564) (t30 := 581) F hsim hH hg hl dL_law_551 dL_law_553 dL_law_554 dL_law_557 dL_law_559 (by decide) dL_law_564 dL_law_566 (by decide) dL_law_569 dL_law_570 dL_law_571 dL_law_572 dL_law_574 dL_law_575 dL_law_576 (by decide) dL_law_581 (by decide) hcl kk
set_option maxHeartbeats 4000000 in
set_option maxRecDepth 100000 in
theorem law_k5 (F : lwF p_ l s m meth c b L xs G) (Z : lwZ s zc zm o) {n d k t v : Nat} (hs : sX q p n d k t v) (hH : lwH G s zc zm o q p g H locs) (hl : lv_has ls 7 (lwLs b zc zm o i)) (hi : 4 * i + 4 ≤ L) (hcl : cells + 5 ≤ 601024 ∧ slots + 30 ≤ 7293034) (kk : lwGo p_ l e_ s m b below meth c G zc zm o i (cells + 5) (slots + 30) Q) : W p_ l e_ room_1 s m #[Value.ref b] below meth c H locs cells slots Q (F0 m 584 ls []) := by
  obtain ⟨⟨hx, hb, -⟩, hfl, -⟩ := id F
  obtain ⟨-, hn2, -, -, -, hk2, -, ht2, -⟩ := id hs.1.ok
  have hsim := sim_revert hs (xs (4 * i + 1)) (xs (4 * i + 2))
  refine lv_aload_n hx hb dL_law_584 rfl (lv_at hl 3 rfl) ?_
  refine law_arg (i := i) (j := 1) F hH hl 4 0 rfl rfl (by omega) (by decide +kernel) dL_law_585 dL_law_586 dL_law_588 dL_law_589 dL_law_590 ?_
  refine law_arg (i := i) (j := 2) F hH hl 4 0 rfl rfl (by omega) (by decide +kernel) dL_law_591 dL_law_592 dL_law_594 dL_law_595 dL_law_596 ?_
  refine lv_aload_n hx hb dL_law_597 rfl (lv_at hl 1 rfl) ?_
  refine law_c1 (As := [.ref (zc 0), .int (xs (4 * i + 1)), .int (xs (4 * i + 2)), .ref o]) (rest := []) F Z hsim hH (c_L_revert l hfl G _ zc Z.1 q.1 q.2 hH.1 o g hH.2.2.1 Z.2.2.2.1 (xs (4 * i + 1)) (xs (4 * i + 2)) (kRevert3 _ _ _ _)) (vx_cwSW 4 (law_S0 F).2.2.2.2 gL_law_L_revert rfl rfl rfl (by decide +kernel) ⟨Nat.le_of_ble_eq_true rfl, Nat.le_of_ble_eq_true rfl⟩) rfl hl.1 dL_law_598 (Nat.le_of_ble_eq_true rfl) ⟨by omega, by omega⟩ (fun g H locs hH hg => ?_)
  refine lv_istore (lv' := (5, .int _) :: lwLs b zc zm o i) hx hb dL_law_601 hl (by decide) rfl (fun ls hl => ?_)
  refine lv_aload_n hx hb dL_law_603 rfl (lv_at hl 3 rfl) ?_
  refine law_arg (i := i) (j := 1) F hH hl 5 1 rfl rfl (by omega) (by decide +kernel) dL_law_604 dL_law_605 dL_law_607 dL_law_608 dL_law_609 ?_
  refine law_arg (i := i) (j := 2) F hH hl 5 1 rfl rfl (by omega) (by decide +kernel) dL_law_610 dL_law_611 dL_law_613 dL_law_614 dL_law_615 ?_
  refine law_c2 (As := [.int (xs (4 * i + 1)), .int (xs (4 * i + 2))]) (rest := []) F Z hsim hH (c_X7_revert l G _ zm Z.2.1 p.1 p.2 hH.2.1 (xs (4 * i + 1)) (xs (4 * i + 2)) n d k t hs.1.ok) (cwV 2 (law_S0 F).2.2.2.2 gL_law_X7_revert rfl rfl rfl (by decide +kernel) ⟨Nat.le_of_ble_eq_true rfl, Nat.le_of_ble_eq_true rfl⟩) rfl hl.1 dL_law_616 (Nat.le_of_ble_eq_true rfl) ⟨by omega, by omega⟩ (fun H locs hH => ?_)
  refine W.widen (k := cells + 5) (n := slots + 30) (by omega) (by omega) ?_
  exact law_ti (t13 := 632) (t30 := 649) F hsim hH hg hl dL_law_619 dL_law_621 dL_law_622 dL_law_625 dL_law_627 (by decide) dL_law_632 dL_law_634 (by decide) dL_law_637 dL_law_638 dL_law_639 dL_law_640 dL_law_642 dL_law_643 dL_law_644 (by decide) dL_law_649 (by decide) hcl kk
set_option maxHeartbeats 4000000 in
set_option maxRecDepth 100000 in
theorem law_k6 (F : lwF p_ l s m meth c b L xs G) (Z : lwZ s zc zm o) {n d k t v : Nat} (hs : sX q p n d k t v) (hH : lwH G s zc zm o q p g H locs) (hl : lv_has ls 7 (lwLs b zc zm o i)) (hi : 4 * i + 4 ≤ L) (hcl : cells + 5 ≤ 601024 ∧ slots + 30 ≤ 7293034) (kk : lwGo p_ l e_ s m b below meth c G zc zm o i (cells + 5) (slots + 30) Q) : W p_ l e_ room_1 s m #[Value.ref b] below meth c H locs cells slots Q (F0 m 652 ls []) := by
  obtain ⟨⟨hx, hb, -⟩, hfl, -⟩ := id F
  obtain ⟨-, hn2, -, -, -, hk2, -, ht2, -⟩ := id hs.1.ok
  have hsim := sim_takeOver hs (xs (4 * i + 1))
  refine lv_aload_n hx hb dL_law_652 rfl (lv_at hl 3 rfl) ?_
  refine law_arg (i := i) (j := 1) F hH hl 4 0 rfl rfl (by omega) (by decide +kernel) dL_law_653 dL_law_654 dL_law_656 dL_law_657 dL_law_658 ?_
  refine lv_aload_n hx hb dL_law_659 rfl (lv_at hl 1 rfl) ?_
  refine law_c1 (As := [.ref (zc 0), .int (xs (4 * i + 1)), .ref o]) (rest := []) F Z hsim hH (c_L_takeOver l hfl G _ zc Z.1 q.1 q.2 hH.1 o g hH.2.2.1 Z.2.2.2.1 (xs (4 * i + 1)) (kTake3 _ _ _)) (vx_cwSW 3 (law_S0 F).2.2.2.2 gL_law_L_takeOver rfl rfl rfl (by decide +kernel) ⟨Nat.le_of_ble_eq_true rfl, Nat.le_of_ble_eq_true rfl⟩) rfl hl.1 dL_law_660 (Nat.le_of_ble_eq_true rfl) ⟨by omega, by omega⟩ (fun g H locs hH hg => ?_)
  refine lv_istore (lv' := (5, .int _) :: lwLs b zc zm o i) hx hb dL_law_663 hl (by decide) rfl (fun ls hl => ?_)
  refine lv_aload_n hx hb dL_law_665 rfl (lv_at hl 3 rfl) ?_
  refine law_arg (i := i) (j := 1) F hH hl 5 1 rfl rfl (by omega) (by decide +kernel) dL_law_666 dL_law_667 dL_law_669 dL_law_670 dL_law_671 ?_
  refine law_c2 (As := [.int (xs (4 * i + 1))]) (rest := []) F Z hsim hH (c_X7_takeOver l G _ zm Z.2.1 p.1 p.2 hH.2.1 (xs (4 * i + 1)) n d k t hs.1.ok) (cwV 1 (law_S0 F).2.2.2.2 gL_law_X7_takeOver rfl rfl rfl (by decide +kernel) ⟨Nat.le_of_ble_eq_true rfl, Nat.le_of_ble_eq_true rfl⟩) rfl hl.1 dL_law_672 (Nat.le_of_ble_eq_true rfl) ⟨by omega, by omega⟩ (fun H locs hH => ?_)
  refine W.widen (k := cells + 5) (n := slots + 30) (by omega) (by omega) ?_
  exact law_ti (t13 := 688) (t30 := 705) F hsim hH hg hl dL_law_675 dL_law_677 dL_law_678 dL_law_681 dL_law_683 (by decide) dL_law_688 dL_law_690 (by decide) dL_law_693 dL_law_694 dL_law_695 dL_law_696 dL_law_698 dL_law_699 dL_law_700 (by decide) dL_law_705 (by decide) hcl kk
set_option maxHeartbeats 4000000 in
set_option maxRecDepth 100000 in
theorem law_k7 (F : lwF p_ l s m meth c b L xs G) (Z : lwZ s zc zm o) {n d k t v : Nat} (hs : sX q p n d k t v) (hH : lwH G s zc zm o q p g H locs) (hl : lv_has ls 7 (lwLs b zc zm o i)) (hi : 4 * i + 4 ≤ L) (hcl : cells + 5 ≤ 601024 ∧ slots + 30 ≤ 7293034) (kk : lwGo p_ l e_ s m b below meth c G zc zm o i (cells + 5) (slots + 30) Q) : W p_ l e_ room_1 s m #[Value.ref b] below meth c H locs cells slots Q (F0 m 708 ls []) := by
  obtain ⟨⟨hx, hb, -⟩, hfl, -⟩ := id F
  obtain ⟨-, hn2, -, -, -, hk2, -, ht2, -⟩ := id hs.1.ok
  have hsim := sim_pass hs (xs (4 * i + 1))
  refine lv_aload_n hx hb dL_law_708 rfl (lv_at hl 3 rfl) ?_
  refine law_arg (i := i) (j := 1) F hH hl 4 0 rfl rfl (by omega) (by decide +kernel) dL_law_709 dL_law_710 dL_law_712 dL_law_713 dL_law_714 ?_
  refine lv_aload_n hx hb dL_law_715 rfl (lv_at hl 1 rfl) ?_
  refine law_c1 (As := [.ref (zc 0), .int (xs (4 * i + 1)), .ref o]) (rest := []) F Z hsim hH (c_L_pass l hfl G _ zc Z.1 q.1 q.2 hH.1 o g hH.2.2.1 Z.2.2.2.1 (xs (4 * i + 1)) t k hs.1.f1 ht2 hs.1.f4 hk2 (kPass3 _ _)) (vx_cwSW 3 (law_S0 F).2.2.2.2 gL_law_L_pass rfl rfl rfl (by decide +kernel) ⟨Nat.le_of_ble_eq_true rfl, Nat.le_of_ble_eq_true rfl⟩) rfl hl.1 dL_law_716 (Nat.le_of_ble_eq_true rfl) ⟨by omega, by omega⟩ (fun g H locs hH hg => ?_)
  refine lv_istore (lv' := (5, .int _) :: lwLs b zc zm o i) hx hb dL_law_719 hl (by decide) rfl (fun ls hl => ?_)
  refine lv_aload_n hx hb dL_law_721 rfl (lv_at hl 3 rfl) ?_
  refine law_arg (i := i) (j := 1) F hH hl 5 1 rfl rfl (by omega) (by decide +kernel) dL_law_722 dL_law_723 dL_law_725 dL_law_726 dL_law_727 ?_
  refine law_c2 (As := [.int (xs (4 * i + 1))]) (rest := []) F Z hsim hH (c_X7_pass l G _ zm Z.2.1 p.1 p.2 hH.2.1 (xs (4 * i + 1)) n d k t hs.1.ok) (cwV 1 (law_S0 F).2.2.2.2 gL_law_X7_pass rfl rfl rfl (by decide +kernel) ⟨Nat.le_of_ble_eq_true rfl, Nat.le_of_ble_eq_true rfl⟩) rfl hl.1 dL_law_728 (Nat.le_of_ble_eq_true rfl) ⟨by omega, by omega⟩ (fun H locs hH => ?_)
  refine W.widen (k := cells + 5) (n := slots + 30) (by omega) (by omega) ?_
  exact law_ti (t13 := 744) (t30 := 761) F hsim hH hg hl dL_law_731 dL_law_733 dL_law_734 dL_law_737 dL_law_739 (by decide) dL_law_744 dL_law_746 (by decide) dL_law_749 dL_law_750 dL_law_751 dL_law_752 dL_law_754 dL_law_755 dL_law_756 (by decide) dL_law_761 (by decide) hcl kk
set_option maxHeartbeats 4000000 in
set_option maxRecDepth 100000 in
theorem law_k8 (F : lwF p_ l s m meth c b L xs G) (Z : lwZ s zc zm o) {n d k t v : Nat} (hs : sX q p n d k t v) (hH : lwH G s zc zm o q p g H locs) (hl : lv_has ls 7 (lwLs b zc zm o i)) (hi : 4 * i + 4 ≤ L) (hcl : cells + 5 ≤ 601024 ∧ slots + 30 ≤ 7293034) (kk : lwGo p_ l e_ s m b below meth c G zc zm o i (cells + 5) (slots + 30) Q) : W p_ l e_ room_1 s m #[Value.ref b] below meth c H locs cells slots Q (F0 m 764 ls []) := by
  have hM := id hs.1.ok
  refine W.widen (k := cells + 5) (n := slots + 30) (by omega) (by omega) ?_
  exact law_td F Z (hs.thr (nI 0)) hH hl (hs.1.f1.trans hM.2.2.2.2.2.2.1.symm) (c_X6_time l G _ zc q.1 q.2 hH.1) (cwV 0 (law_S0 F).2.2.2.2 gL_law_X6_time rfl rfl rfl (by decide +kernel) ⟨Nat.le_of_ble_eq_true rfl, Nat.le_of_ble_eq_true rfl⟩) (c_X7_time l G _ zm Z.2.1 p.1 p.2 hH.2.1 n d k t hs.1.ok) (cwV 0 (law_S0 F).2.2.2.2 gL_law_X7_time rfl rfl rfl (by decide +kernel) ⟨Nat.le_of_ble_eq_true rfl, Nat.le_of_ble_eq_true rfl⟩) dL_law_764 dL_law_765 dL_law_768 dL_law_769 dL_law_772 (by decide) hcl kk
set_option maxHeartbeats 4000000 in
set_option maxRecDepth 100000 in
theorem law_k9 (F : lwF p_ l s m meth c b L xs G) (Z : lwZ s zc zm o) {n d k t v : Nat} (hs : sX q p n d k t v) (hH : lwH G s zc zm o q p g H locs) (hl : lv_has ls 7 (lwLs b zc zm o i)) (hi : 4 * i + 4 ≤ L) (hcl : cells + 5 ≤ 601024 ∧ slots + 30 ≤ 7293034) (kk : lwGo p_ l e_ s m b below meth c G zc zm o i (cells + 5) (slots + 30) Q) : W p_ l e_ room_1 s m #[Value.ref b] below meth c H locs cells slots Q (F0 m 777 ls []) := by
  obtain ⟨⟨hx, hb, -⟩, hfl, -⟩ := id F
  obtain ⟨-, hn2, -, -, -, hk2, -, ht2, -⟩ := id hs.1.ok
  have hsim := sim_holder hs (xs (4 * i + 1))
  refine lv_aload_n hx hb dL_law_777 rfl (lv_at hl 3 rfl) ?_
  refine law_arg (i := i) (j := 1) F hH hl 4 0 rfl rfl (by omega) (by decide +kernel) dL_law_778 dL_law_779 dL_law_781 dL_law_782 dL_law_783 ?_
  refine lv_aload_n hx hb dL_law_784 rfl (lv_at hl 1 rfl) ?_
  refine law_c1 (As := [.ref (zc 0), .int (xs (4 * i + 1)), .ref o]) (rest := []) F Z hsim hH (c_L_holder l hfl G _ zc Z.1 q.1 q.2 hH.1 o g hH.2.2.1 Z.2.2.2.1 (xs (4 * i + 1)) (kH01 _ _)) (vx_cwSW 3 (law_S0 F).2.2.2.2 gL_law_L_holder rfl rfl rfl (by decide +kernel) ⟨Nat.le_of_ble_eq_true rfl, Nat.le_of_ble_eq_true rfl⟩) rfl hl.1 dL_law_785 (Nat.le_of_ble_eq_true rfl) ⟨by omega, by omega⟩ (fun g H locs hH hg => ?_)
  refine lv_istore (lv' := (5, .int _) :: lwLs b zc zm o i) hx hb dL_law_788 hl (by decide) rfl (fun ls hl => ?_)
  refine lv_aload_n hx hb dL_law_790 rfl (lv_at hl 3 rfl) ?_
  refine law_arg (i := i) (j := 1) F hH hl 5 1 rfl rfl (by omega) (by decide +kernel) dL_law_791 dL_law_792 dL_law_794 dL_law_795 dL_law_796 ?_
  refine law_c2 (As := [.int (xs (4 * i + 1))]) (rest := []) F Z hsim hH (c_X7_holder l G _ zm Z.2.1 p.1 p.2 hH.2.1 (xs (4 * i + 1)) n d k t hs.1.ok) (cwV 1 (law_S0 F).2.2.2.2 gL_law_X7_holder rfl rfl rfl (by decide +kernel) ⟨Nat.le_of_ble_eq_true rfl, Nat.le_of_ble_eq_true rfl⟩) rfl hl.1 dL_law_797 (Nat.le_of_ble_eq_true rfl) ⟨by omega, by omega⟩ (fun H locs hH => ?_)
  refine W.widen (k := cells + 5) (n := slots + 30) (by omega) (by omega) ?_
  exact law_ti (t13 := 813) (t30 := 830) F hsim hH hg hl dL_law_800 dL_law_802 dL_law_803 dL_law_806 dL_law_808 (by decide) dL_law_813 dL_law_815 (by decide) dL_law_818 dL_law_819 dL_law_820 dL_law_821 dL_law_823 dL_law_824 dL_law_825 (by decide) dL_law_830 (by decide) hcl kk
set_option maxHeartbeats 4000000 in
set_option maxRecDepth 100000 in
theorem law_k10 (F : lwF p_ l s m meth c b L xs G) (Z : lwZ s zc zm o) {n d k t v : Nat} (hs : sX q p n d k t v) (hH : lwH G s zc zm o q p g H locs) (hl : lv_has ls 7 (lwLs b zc zm o i)) (hi : 4 * i + 4 ≤ L) (hcl : cells + 5 ≤ 601024 ∧ slots + 30 ≤ 7293034) (kk : lwGo p_ l e_ s m b below meth c G zc zm o i (cells + 5) (slots + 30) Q) : W p_ l e_ room_1 s m #[Value.ref b] below meth c H locs cells slots Q (F0 m 833 ls []) := by
  obtain ⟨⟨hx, hb, -⟩, hfl, -⟩ := id F
  obtain ⟨-, hn2, -, -, -, hk2, -, ht2, -⟩ := id hs.1.ok
  have hsim := sim_near hs (xs (4 * i + 1))
  refine lv_aload_n hx hb dL_law_833 rfl (lv_at hl 3 rfl) ?_
  refine law_arg (i := i) (j := 1) F hH hl 4 0 rfl rfl (by omega) (by decide +kernel) dL_law_834 dL_law_835 dL_law_837 dL_law_838 dL_law_839 ?_
  refine lv_aload_n hx hb dL_law_840 rfl (lv_at hl 1 rfl) ?_
  refine law_c1 (As := [.ref (zc 0), .int (xs (4 * i + 1)), .ref o]) (rest := []) F Z hsim hH (c_L_near l hfl G _ zc Z.1 q.1 q.2 hH.1 o g hH.2.2.1 Z.2.2.2.1 (xs (4 * i + 1)) t hs.1.f1 ht2 (kP01 _)) (vx_cwSW 3 (law_S0 F).2.2.2.2 gL_law_L_near rfl rfl rfl (by decide +kernel) ⟨Nat.le_of_ble_eq_true rfl, Nat.le_of_ble_eq_true rfl⟩) rfl hl.1 dL_law_841 (Nat.le_of_ble_eq_true rfl) ⟨by omega, by omega⟩ (fun g H locs hH hg => ?_)
  refine lv_istore (lv' := (5, .int _) :: lwLs b zc zm o i) hx hb dL_law_844 hl (by decide) rfl (fun ls hl => ?_)
  refine lv_aload_n hx hb dL_law_846 rfl (lv_at hl 3 rfl) ?_
  refine law_arg (i := i) (j := 1) F hH hl 5 1 rfl rfl (by omega) (by decide +kernel) dL_law_847 dL_law_848 dL_law_850 dL_law_851 dL_law_852 ?_
  refine law_c2 (As := [.int (xs (4 * i + 1))]) (rest := []) F Z hsim hH (c_X7_near l G _ zm Z.2.1 p.1 p.2 hH.2.1 (xs (4 * i + 1)) n d k t hs.1.ok) (cwV 1 (law_S0 F).2.2.2.2 gL_law_X7_near rfl rfl rfl (by decide +kernel) ⟨Nat.le_of_ble_eq_true rfl, Nat.le_of_ble_eq_true rfl⟩) rfl hl.1 dL_law_853 (Nat.le_of_ble_eq_true rfl) ⟨by omega, by omega⟩ (fun H locs hH => ?_)
  refine W.widen (k := cells + 5) (n := slots + 30) (by omega) (by omega) ?_
  exact law_ti (t13 := 869) (t30 := 886) F hsim hH hg hl dL_law_856 dL_law_858 dL_law_859 dL_law_862 dL_law_864 (by decide) dL_law_869 dL_law_871 (by decide) dL_law_874 dL_law_875 dL_law_876 dL_law_877 dL_law_879 dL_law_880 dL_law_881 (by decide) dL_law_886 (by decide) hcl kk
set_option maxHeartbeats 4000000 in
set_option maxRecDepth 100000 in
theorem law_k11 (F : lwF p_ l s m meth c b L xs G) (Z : lwZ s zc zm o) {n d k t v : Nat} (hs : sX q p n d k t v) (hH : lwH G s zc zm o q p g H locs) (hl : lv_has ls 7 (lwLs b zc zm o i)) (hi : 4 * i + 4 ≤ L) (hcl : cells + 5 ≤ 601024 ∧ slots + 30 ≤ 7293034) (kk : lwGo p_ l e_ s m b below meth c G zc zm o i (cells + 5) (slots + 30) Q) : W p_ l e_ room_1 s m #[Value.ref b] below meth c H locs cells slots Q (F0 m 889 ls []) := by
  obtain ⟨⟨hx, hb, -⟩, hfl, -⟩ := id F
  obtain ⟨-, hn2, -, -, -, hk2, -, ht2, -⟩ := id hs.1.ok
  have hsim := sim_blots hs (xs (4 * i + 1))
  refine lv_aload_n hx hb dL_law_889 rfl (lv_at hl 3 rfl) ?_
  refine law_arg (i := i) (j := 1) F hH hl 4 0 rfl rfl (by omega) (by decide +kernel) dL_law_890 dL_law_891 dL_law_893 dL_law_894 dL_law_895 ?_
  refine lv_aload_n hx hb dL_law_896 rfl (lv_at hl 1 rfl) ?_
  refine law_c1 (As := [.ref (zc 0), .int (xs (4 * i + 1)), .ref o]) (rest := []) F Z hsim hH (c_L_blots l hfl G _ zc Z.1 q.1 q.2 hH.1 o g hH.2.2.1 Z.2.2.2.1 (xs (4 * i + 1)) (kP01 _)) (vx_cwSW 3 (law_S0 F).2.2.2.2 gL_law_L_blots rfl rfl rfl (by decide +kernel) ⟨Nat.le_of_ble_eq_true rfl, Nat.le_of_ble_eq_true rfl⟩) rfl hl.1 dL_law_897 (Nat.le_of_ble_eq_true rfl) ⟨by omega, by omega⟩ (fun g H locs hH hg => ?_)
  refine lv_istore (lv' := (5, .int _) :: lwLs b zc zm o i) hx hb dL_law_900 hl (by decide) rfl (fun ls hl => ?_)
  refine lv_aload_n hx hb dL_law_902 rfl (lv_at hl 3 rfl) ?_
  refine law_arg (i := i) (j := 1) F hH hl 5 1 rfl rfl (by omega) (by decide +kernel) dL_law_903 dL_law_904 dL_law_906 dL_law_907 dL_law_908 ?_
  refine law_c2 (As := [.int (xs (4 * i + 1))]) (rest := []) F Z hsim hH (c_X7_blots l G _ zm Z.2.1 p.1 p.2 hH.2.1 (xs (4 * i + 1)) n d k t hs.1.ok) (cwV 1 (law_S0 F).2.2.2.2 gL_law_X7_blots rfl rfl rfl (by decide +kernel) ⟨Nat.le_of_ble_eq_true rfl, Nat.le_of_ble_eq_true rfl⟩) rfl hl.1 dL_law_909 (Nat.le_of_ble_eq_true rfl) ⟨by omega, by omega⟩ (fun H locs hH => ?_)
  refine W.widen (k := cells + 5) (n := slots + 30) (by omega) (by omega) ?_
  exact law_ti (t13 := 925) (t30 := 942) F hsim hH hg hl dL_law_912 dL_law_914 dL_law_915 dL_law_918 dL_law_920 (by decide) dL_law_925 dL_law_927 (by decide) dL_law_930 dL_law_931 dL_law_932 dL_law_933 dL_law_935 dL_law_936 dL_law_937 (by decide) dL_law_942 (by decide) hcl kk
end S99
