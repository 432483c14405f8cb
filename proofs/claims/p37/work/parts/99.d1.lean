section SD0
variable {p_ : Program} {e_ : Env} {l : Launch} {s : State} {m : MethodId} {below : List Frame} {meth : Method} {c : Code} {b L : Nat} {xs : Nat → Int32} {G : gG} {zc : Nat → Nat} {Q : State → Prop}
set_option maxHeartbeats 4000000 in
set_option maxRecDepth 100000 in
theorem law_op6 (F : lwF p_ l s m meth c b L xs G) (Z : lwZ s zc) {q p : gRF} {n d k t v : Nat} (h9 : sY q p n d k t v) {H : Heap} {locs : List Loc} (hH : lwH G s zc q H locs) {cs ss : Nat} {ls : Array Slot} {i g cc : Nat} {A ww : Int32} (hi : i < 60) (hn : n ≤ i) (hd : d ≤ 24) (ht : t ≤ 8 * i) (hg : g < 4) (hcc : cc < 8) (hA : A = -1 ∨ ∃ a, a < 6 ∧ A = nI a ∧ cRest q.1 (nI a) (q.2 1) = false) {CS SS : Nat} (hC : cs + 10 ≤ CS ∧ ss + 60 ≤ SS ∧ CS + 10 ≤ 600130 ∧ SS + 60 ≤ 7301080) (hl : lv_has ls 15 [(11, .int (nI 1)), (10, .int (nI g)), (9, .int (nI cc)), (8, .int A), (6, .int ww), (4, .int (nI i)), (3, .int (nI d)), (2, .int (nI n)), (1, .ref (zc 0)), (0, .ref b)])
    (kk : ∀ (q p : gRF) (n d k t v : Nat) (H : Heap) (locs : List Loc) (ls : Array Slot), sY q p n d k t v → n ≤ i + 1 → d ≤ 24 → t ≤ 8 * (i + 1) → lwH G s zc q H locs → lv_has ls 15 [(11, .int (nI 1)), (10, .int (nI g)), (9, .int (nI cc)), (4, .int (nI i)), (3, .int (nI d)), (2, .int (nI n)), (1, .ref (zc 0)), (0, .ref b)] → W p_ l e_ room_1 s m #[Value.ref b] below meth c H locs CS SS Q (F0 m 666 ls []))
    : W p_ l e_ room_1 s m #[Value.ref b] below meth c H locs cs ss Q (F0 m 368 ls []) := by
  obtain ⟨⟨hx, hb, hret, hml, hown, hts, hXs, hbl, hlocks⟩, hfl, hK, hXX, hB, hL⟩ := id F
  have hf0 : q.2 0 = nI v := h9.1.1.f0
  have hf1 : q.2 1 = nI t := h9.1.1.f1
  have hf3 : q.2 3 = nI n := h9.1.1.f3
  have hv20 := h9.1.1.v20
  refine lv_aload_n hx hb dL_law_368 rfl (lv_at hl 8 rfl) ?_
  refine lv_iload hx hb dL_law_369 (lv_at hl 1 rfl) ?_
  refine law_q (As := [.int (nI g)]) (rest := []) F hH (gMq_of (c_X6_rollable l hfl G H zc q.1 q.2 hH.1 (nI g)) (kRing_0 hg)) (cwV 1 hts gL_law_X6_rollable rfl rfl rfl (by decide +kernel) ⟨Nat.le_of_ble_eq_true rfl, Nat.le_of_ble_eq_true rfl⟩) rfl hl.1 dL_law_371 (Nat.le_of_ble_eq_true rfl) ⟨by omega, by omega⟩ ?_
  refine lv_istore (lv' := [(12, .int (cRollable q.1 q.2 (nI g))), (11, .int (nI 1)), (10, .int (nI g)), (9, .int (nI cc)), (8, .int A), (6, .int ww), (4, .int (nI i)), (3, .int (nI d)), (2, .int (nI n)), (1, .ref (zc 0)), (0, .ref b)]) hx hb dL_law_374 hl (by decide) rfl (fun ls hl => ?_)
  refine lv_iload hx hb dL_law_376 (lv_at hl 4 rfl) ?_
  refine lv_if_lt (tgt := 433) hx hb dL_law_378 (by decide) (fun c_1 => ?_) (fun c_1 => ?_)
  · refine lv_goto (tgt := 666) hx hb dL_law_433 (by decide) ?_
    exact W.widen (by omega) (by omega) (kk q p n d k t v _ _ _ h9 (by omega) (by omega) (by omega) hH (show lv_has ls 15 [(11, .int (nI 1)), (10, .int (nI g)), (9, .int (nI cc)), (4, .int (nI i)), (3, .int (nI d)), (2, .int (nI n)), (1, .ref (zc 0)), (0, .ref b)] from lv_sub hl [1, 2, 3, 6, 7, 8, 9, 10] rfl))
  · obtain ⟨a, ha, ea, ra⟩ := hA.resolve_left (fun z => c_1 (by rw [z]; decide))
    have eR : A = nI a := by exact ea
    rw [eR] at hl
    refine lv_iload hx hb dL_law_381 (lv_at hl 0 rfl) ?_
    refine lv_if_lt (tgt := 433) hx hb dL_law_383 (by decide) (fun c_2 => ?_) (fun c_2 => ?_)
    · refine lv_goto (tgt := 666) hx hb dL_law_433 (by decide) ?_
      exact W.widen (by omega) (by omega) (kk q p n d k t v _ _ _ h9 (by omega) (by omega) (by omega) hH (show lv_has ls 15 [(11, .int (nI 1)), (10, .int (nI g)), (9, .int (nI cc)), (4, .int (nI i)), (3, .int (nI d)), (2, .int (nI n)), (1, .ref (zc 0)), (0, .ref b)] from lv_sub hl [1, 2, 3, 6, 7, 8, 9, 10] rfl))
    · obtain ⟨y, hy, ey, hyn, hyh⟩ := (y_rollable h9 hg).resolve_left (fun z => c_2 (by rw [z]; decide))
      have eR : cRollable q.1 q.2 (nI g) = nI y := by exact ey
      rw [eR] at hl
      refine lv_aload_n hx hb dL_law_386 rfl (lv_at hl 9 rfl) ?_
      refine lv_iload hx hb dL_law_387 (lv_at hl 4 rfl) ?_
      refine lv_iload hx hb dL_law_389 (lv_at hl 2 rfl) ?_
      refine lv_iload hx hb dL_law_391 (lv_at hl 0 rfl) ?_
      have hkk := y_roll h9 (by omega) ha hg hy ra hyn hyh
      have hsub : cSubj (nI g) = nI (8 + g) := nI_add 8 g
      obtain ⟨q2, hq2, ⟨p2, hs2⟩, g1, g2, g3, g4, g5⟩ := y_add h9 (by omega) (s := 8 + g) ha (by omega) (fun z => by omega) (fun _ => hy) (by rw [← hsub]; exact hyn)
      rw [← hsub] at hq2
      refine law_w (As := [.int (nI a), .int (nI g), .int (nI y)]) (rest := []) F Z hH (gMqw_of (c_X6_roll l hfl G H zc Z.1 q.1 q.2 hH.1 (nI a) (nI g) (nI y)) hkk) hq2 (cwV 3 hts gL_law_X6_roll rfl rfl rfl (by decide +kernel) ⟨Nat.le_of_ble_eq_true rfl, Nat.le_of_ble_eq_true rfl⟩) rfl hl.1 dL_law_393 (Nat.le_of_ble_eq_true rfl) ⟨by omega, by omega⟩ (fun H locs hH => ?_)
      refine lv_iload_n hx hb dL_law_396 rfl (lv_at hl 8 rfl) ?_
      refine lv_icmp_ne (tgt := 427) hx hb dL_law_397 (by decide) (fun c_3 => ?_) (fun c_3 => ?_)
      · exact absurd hf3 c_3
      · refine lv_aload_n hx hb dL_law_400 rfl (lv_at hl 9 rfl) ?_
        refine lv_iload hx hb dL_law_401 (lv_at hl 2 rfl) ?_
        refine law_q (As := [.int (nI g)]) (rest := []) F hH (gMq_of (c_X6_version l hfl G H zc q2.1 q2.2 hH.1 (nI g)) (kRing_0 hg)) (cwV 1 hts gL_law_X6_version rfl rfl rfl (by decide +kernel) ⟨Nat.le_of_ble_eq_true rfl, Nat.le_of_ble_eq_true rfl⟩) rfl hl.1 dL_law_403 (Nat.le_of_ble_eq_true rfl) ⟨by omega, by omega⟩ ?_
        refine lv_iload hx hb dL_law_406 (lv_at hl 0 rfl) ?_
        refine lv_icmp_ne (tgt := 427) hx hb dL_law_408 (by decide) (fun c_4 => ?_) (fun c_4 => ?_)
        · exact absurd (show cRuns q2.1 (nI g) = nI y by unfold cRuns; rw [hsub]; exact g1) c_4
        · refine lv_aload_n hx hb dL_law_411 rfl (lv_at hl 9 rfl) ?_
          refine lv_iload_n hx hb dL_law_412 rfl (lv_at hl 8 rfl) ?_
          refine law_q (As := [.int (nI n)]) (rest := []) F hH (gMq_of (c_X6_madeAt l hfl G H zc q2.1 q2.2 hH.1 (nI n)) (by rw [hs2.1.1.f3]; exact kBelow_0 (by omega) (by omega))) (cwV 1 hts gL_law_X6_madeAt rfl rfl rfl (by decide +kernel) ⟨Nat.le_of_ble_eq_true rfl, Nat.le_of_ble_eq_true rfl⟩) rfl hl.1 dL_law_413 (Nat.le_of_ble_eq_true rfl) ⟨by omega, by omega⟩ ?_
          refine lv_aload_n hx hb dL_law_416 rfl (lv_at hl 9 rfl) ?_
          refine law_r (As := []) (rest := [.int (rAt 200 (q2.1 6) (nI n))]) F hH (c_X6_time l G H zc q2.1 q2.2 hH.1) (cwV 0 hts gL_law_X6_time rfl rfl rfl (by decide +kernel) ⟨Nat.le_of_ble_eq_true rfl, Nat.le_of_ble_eq_true rfl⟩) rfl hl.1 dL_law_417 (Nat.le_of_ble_eq_true rfl) ⟨by omega, by omega⟩ ?_
          refine lv_icmp_ne (tgt := 427) hx hb dL_law_420 (by decide) (fun c_5 => ?_) (fun c_5 => ?_)
          · exact absurd (g5.trans hs2.1.1.f1.symm) c_5
          · refine lv_iconst (v := nI 1) hx hb dL_law_423 (by decide +kernel) ?_
            refine lv_goto (tgt := 428) hx hb dL_law_424 (by decide) ?_
            refine lv_istore (lv' := [(11, .int (nI 1)), (12, .int (nI y)), (10, .int (nI g)), (9, .int (nI cc)), (8, .int (nI a)), (6, .int ww), (4, .int (nI i)), (3, .int (nI d)), (2, .int (nI n)), (1, .ref (zc 0)), (0, .ref b)]) hx hb dL_law_428 hl (by decide) rfl (fun ls hl => ?_)
            refine lv_iinc (v := (nI n) + nI 1) (lv' := [(2, .int ((nI n) + nI 1)), (11, .int (nI 1)), (12, .int (nI y)), (10, .int (nI g)), (9, .int (nI cc)), (8, .int (nI a)), (6, .int ww), (4, .int (nI i)), (3, .int (nI d)), (1, .ref (zc 0)), (0, .ref b)]) hx hb dL_law_430 hl (k := 8) rfl (congrArg (fun q : Int32 => (nI n) + q) (by decide +kernel)) (by decide) rfl (fun ls hl => ?_)
            refine lv_goto (tgt := 666) hx hb dL_law_433 (by decide) ?_
            exact W.widen (by omega) (by omega) (kk q2 p2 (n + 1) d k t v _ _ _ hs2 (by omega) (by omega) (by omega) hH (lv_cv (show lv_has ls 15 [(11, .int (nI 1)), (10, .int (nI g)), (9, .int (nI cc)), (4, .int (nI i)), (3, .int (nI d)), (2, .int ((nI n) + nI 1)), (1, .ref (zc 0)), (0, .ref b)] from lv_sub hl [1, 3, 4, 7, 8, 0, 9, 10] rfl) (gl_s (gl_s (gl_s (gl_s (gl_s (gl_i (show (nI n) + nI 1 = nI (n + 1) by first | with_reducible rfl | with_reducible exact nI_add _ _ | (simp only [c_1, c_2, c_3, c_4, c_5, ↓reduceIte, Bool.false_eq_true, decide_true, decide_false, Bool.not_true, Bool.not_false, Bool.or_true, Bool.true_or, Bool.or_false, Bool.false_or]; done) | (simp only [c_1, c_2, c_3, c_4, c_5, ↓reduceIte, Bool.false_eq_true, decide_true, decide_false, Bool.not_true, Bool.not_false, Bool.or_true, Bool.true_or, Bool.or_false, Bool.false_or]; with_reducible rfl) | (simp only [c_1, c_2, c_3, c_4, c_5, ↓reduceIte, Bool.false_eq_true, decide_true, decide_false, Bool.not_true, Bool.not_false, Bool.or_true, Bool.true_or, Bool.or_false, Bool.false_or]; rfl) | (simp [b2i, c_1, c_2, c_3, c_4, c_5]; done) | rfl) (gl_s (gl_s rfl))))))))))
set_option maxHeartbeats 4000000 in
set_option maxRecDepth 100000 in
theorem law_op9 (F : lwF p_ l s m meth c b L xs G) (Z : lwZ s zc) {q p : gRF} {n d k t v : Nat} (h9 : sY q p n d k t v) {H : Heap} {locs : List Loc} (hH : lwH G s zc q H locs) {cs ss : Nat} {ls : Array Slot} {i g cc : Nat} {A ww : Int32} (hi : i < 60) (hn : n ≤ i) (hd : d ≤ 24) (ht : t ≤ 8 * i) (hg : g < 4) (hcc : cc < 8) (hA : A = -1 ∨ ∃ a, a < 6 ∧ A = nI a ∧ cRest q.1 (nI a) (q.2 1) = false) {CS SS : Nat} (hC : cs + 10 ≤ CS ∧ ss + 60 ≤ SS ∧ CS + 10 ≤ 600130 ∧ SS + 60 ≤ 7301080) (hl : lv_has ls 15 [(11, .int (nI 1)), (10, .int (nI g)), (9, .int (nI cc)), (8, .int A), (6, .int ww), (4, .int (nI i)), (3, .int (nI d)), (2, .int (nI n)), (1, .ref (zc 0)), (0, .ref b)])
    (kk : ∀ (q p : gRF) (n d k t v : Nat) (H : Heap) (locs : List Loc) (ls : Array Slot), sY q p n d k t v → n ≤ i + 1 → d ≤ 24 → t ≤ 8 * (i + 1) → lwH G s zc q H locs → lv_has ls 15 [(11, .int (nI 1)), (10, .int (nI g)), (9, .int (nI cc)), (4, .int (nI i)), (3, .int (nI d)), (2, .int (nI n)), (1, .ref (zc 0)), (0, .ref b)] → W p_ l e_ room_1 s m #[Value.ref b] below meth c H locs CS SS Q (F0 m 666 ls []))
    : W p_ l e_ room_1 s m #[Value.ref b] below meth c H locs cs ss Q (F0 m 443 ls []) := by
  obtain ⟨⟨hx, hb, hret, hml, hown, hts, hXs, hbl, hlocks⟩, hfl, hK, hXX, hB, hL⟩ := id F
  have hf0 : q.2 0 = nI v := h9.1.1.f0
  have hf1 : q.2 1 = nI t := h9.1.1.f1
  have hf3 : q.2 3 = nI n := h9.1.1.f3
  have hv20 := h9.1.1.v20
  refine lv_iload hx hb dL_law_443 (lv_at hl 3 rfl) ?_
  refine lv_if_lt (tgt := 666) hx hb dL_law_445 (by decide) (fun c_1 => ?_) (fun c_1 => ?_)
  · exact W.widen (by omega) (by omega) (kk q p n d k t v _ _ _ h9 (by omega) (by omega) (by omega) hH (show lv_has ls 15 [(11, .int (nI 1)), (10, .int (nI g)), (9, .int (nI cc)), (4, .int (nI i)), (3, .int (nI d)), (2, .int (nI n)), (1, .ref (zc 0)), (0, .ref b)] from lv_sub hl [0, 1, 2, 5, 6, 7, 8, 9] rfl))
  · obtain ⟨a, ha, ea, ra⟩ := hA.resolve_left (fun z => c_1 (by rw [z]; decide))
    have eR : A = nI a := by exact ea
    rw [eR] at hl
    refine lv_iload_n hx hb dL_law_448 rfl (lv_at hl 7 rfl) ?_
    refine lv_if_le (tgt := 666) hx hb dL_law_449 (by decide) (fun c_2 => ?_) (fun c_2 => ?_)
    · exact W.widen (by omega) (by omega) (kk q p n d k t v _ _ _ h9 (by omega) (by omega) (by omega) hH (show lv_has ls 15 [(11, .int (nI 1)), (10, .int (nI g)), (9, .int (nI cc)), (4, .int (nI i)), (3, .int (nI d)), (2, .int (nI n)), (1, .ref (zc 0)), (0, .ref b)] from lv_sub hl [0, 1, 2, 5, 6, 7, 8, 9] rfl))
    · have hn0 : 0 < n := Nat.pos_of_ne_zero (fun z => c_2 (by rw [z]; decide))
      obtain ⟨hkk, sv, y, y0, m0, hsv, hm0, hy100, hy0, hyy, hy1, hy2, r7, r5, r8, eW, hne⟩ := y_revert h9 hn0 (by omega) ha ra
      have hsc : scS sv ≤ 13 := by unfold scS; split <;> omega
      have eZ : cChange q.1 (nI (n - 1)) = nI (10000 * m0 + 100 * scS sv + y0) := cChg hsv r7 r5 r8
      refine lv_aload_n hx hb dL_law_452 rfl (lv_at hl 8 rfl) ?_
      refine lv_iload_n hx hb dL_law_453 rfl (lv_at hl 7 rfl) ?_
      refine lv_iconst (v := nI 1) hx hb dL_law_454 (by decide +kernel) ?_
      refine lv_isub hx hb dL_law_455 ?_
      rw [nI_subN hn0]
      refine law_q (As := [.int (nI (n - 1))]) (rest := []) F hH (gMq_of (c_X6_change l hfl G H zc q.1 q.2 hH.1 (nI (n - 1))) (by rw [hf3]; exact kBelow_0 (by omega) (by omega))) (cwV 1 hts gL_law_X6_change rfl rfl rfl (by decide +kernel) ⟨Nat.le_of_ble_eq_true rfl, Nat.le_of_ble_eq_true rfl⟩) rfl hl.1 dL_law_456 (Nat.le_of_ble_eq_true rfl) ⟨by omega, by omega⟩ ?_
      rw [eZ]
      refine lv_istore (lv' := [(12, .int (nI (10000 * m0 + 100 * scS sv + y0))), (11, .int (nI 1)), (10, .int (nI g)), (9, .int (nI cc)), (8, .int (nI a)), (6, .int ww), (4, .int (nI i)), (3, .int (nI d)), (2, .int (nI n)), (1, .ref (zc 0)), (0, .ref b)]) hx hb dL_law_459 hl (by decide) rfl (fun ls hl => ?_)
      refine lv_aload_n hx hb dL_law_461 rfl (lv_at hl 9 rfl) ?_
      refine lv_iload hx hb dL_law_462 (lv_at hl 4 rfl) ?_
      refine lv_iload_n hx hb dL_law_464 rfl (lv_at hl 8 rfl) ?_
      refine lv_iconst (v := nI 1) hx hb dL_law_465 (by decide +kernel) ?_
      refine lv_isub hx hb dL_law_466 ?_
      rw [nI_subN hn0]
      obtain ⟨q2, hq2, ⟨p2, hs2⟩, g1, g2, g3, g4, g5⟩ := y_add h9 (by omega) ha hsv hy1 hy2 hne
      rw [← r7, ← eW] at hq2
      have eX : cChange q2.1 (nI n) = nI (10000 * a + 100 * scS sv + y) := cChg hsv g2 g3 g4
      refine law_w (As := [.int (nI a), .int (nI (n - 1))]) (rest := []) F Z hH (gMqw_of (c_X6_revert l hfl G H zc Z.1 q.1 q.2 hH.1 (nI a) (nI (n - 1))) hkk) hq2 (cwV 2 hts gL_law_X6_revert rfl rfl rfl (by decide +kernel) ⟨Nat.le_of_ble_eq_true rfl, Nat.le_of_ble_eq_true rfl⟩) rfl hl.1 dL_law_467 (Nat.le_of_ble_eq_true rfl) ⟨by omega, by omega⟩ (fun H locs hH => ?_)
      refine lv_iload_n hx hb dL_law_470 rfl (lv_at hl 8 rfl) ?_
      refine lv_icmp_ne (tgt := 518) hx hb dL_law_471 (by decide) (fun c_3 => ?_) (fun c_3 => ?_)
      · exact absurd hf3 c_3
      · refine lv_aload_n hx hb dL_law_474 rfl (lv_at hl 9 rfl) ?_
        refine lv_iload_n hx hb dL_law_475 rfl (lv_at hl 8 rfl) ?_
        refine law_q (As := [.int (nI n)]) (rest := []) F hH (gMq_of (c_X6_change l hfl G H zc q2.1 q2.2 hH.1 (nI n)) (by rw [hs2.1.1.f3]; exact kBelow_0 (by omega) (by omega))) (cwV 1 hts gL_law_X6_change rfl rfl rfl (by decide +kernel) ⟨Nat.le_of_ble_eq_true rfl, Nat.le_of_ble_eq_true rfl⟩) rfl hl.1 dL_law_476 (Nat.le_of_ble_eq_true rfl) ⟨by omega, by omega⟩ ?_
        rw [eX]
        refine lv_sipush (v := nI 10000) hx hb dL_law_479 (by decide +kernel) ?_
        refine lv_irem hx hb dL_law_482 (by decide) ?_
        refine lv_bipush (v := nI 100) hx hb dL_law_483 (by decide +kernel) ?_
        refine lv_idiv hx hb dL_law_485 (by decide) ?_
        refine lv_iload hx hb dL_law_486 (lv_at hl 0 rfl) ?_
        refine lv_sipush (v := nI 10000) hx hb dL_law_488 (by decide +kernel) ?_
        refine lv_irem hx hb dL_law_491 (by decide) ?_
        refine lv_bipush (v := nI 100) hx hb dL_law_492 (by decide +kernel) ?_
        refine lv_idiv hx hb dL_law_494 (by decide) ?_
        refine lv_icmp_ne (tgt := 518) hx hb dL_law_495 (by decide) (fun c_4 => ?_) (fun c_4 => ?_)
        · exact absurd (by rw [pk_rem (a := 10000 * a + 100 * scS sv + y) (d := 10000) (by omega) (by decide) (by decide), pk_rem (a := 10000 * m0 + 100 * scS sv + y0) (d := 10000) (by omega) (by decide) (by decide), pk_div (by omega) (by decide) (by decide), pk_div (by omega) (by decide) (by decide)]; exact congrArg nI (by omega)) c_4
        · refine lv_aload_n hx hb dL_law_498 rfl (lv_at hl 9 rfl) ?_
          refine lv_iload_n hx hb dL_law_499 rfl (lv_at hl 8 rfl) ?_
          refine law_q (As := [.int (nI n)]) (rest := []) F hH (gMq_of (c_X6_change l hfl G H zc q2.1 q2.2 hH.1 (nI n)) (by rw [hs2.1.1.f3]; exact kBelow_0 (by omega) (by omega))) (cwV 1 hts gL_law_X6_change rfl rfl rfl (by decide +kernel) ⟨Nat.le_of_ble_eq_true rfl, Nat.le_of_ble_eq_true rfl⟩) rfl hl.1 dL_law_500 (Nat.le_of_ble_eq_true rfl) ⟨by omega, by omega⟩ ?_
          rw [eX]
          refine lv_bipush (v := nI 100) hx hb dL_law_503 (by decide +kernel) ?_
          refine lv_irem hx hb dL_law_505 (by decide) ?_
          refine lv_iload hx hb dL_law_506 (lv_at hl 0 rfl) ?_
          refine lv_bipush (v := nI 100) hx hb dL_law_508 (by decide +kernel) ?_
          refine lv_irem hx hb dL_law_510 (by decide) ?_
          refine lv_icmp_eq (tgt := 518) hx hb dL_law_511 (by decide) (fun c_5 => ?_) (fun c_5 => ?_)
          · exact absurd c_5 (by rw [pk_rem (a := 10000 * a + 100 * scS sv + y) (d := 100) (by omega) (by decide) (by decide), pk_rem (a := 10000 * m0 + 100 * scS sv + y0) (d := 100) (by omega) (by decide) (by decide)]; exact fun z => hyy (by have h7 := (nI_iff (by omega) (by omega)).mp z; omega))
          · refine lv_iconst (v := nI 1) hx hb dL_law_514 (by decide +kernel) ?_
            refine lv_goto (tgt := 519) hx hb dL_law_515 (by decide) ?_
            refine lv_istore (lv' := [(11, .int (nI 1)), (12, .int (nI (10000 * m0 + 100 * scS sv + y0))), (10, .int (nI g)), (9, .int (nI cc)), (8, .int (nI a)), (6, .int ww), (4, .int (nI i)), (3, .int (nI d)), (2, .int (nI n)), (1, .ref (zc 0)), (0, .ref b)]) hx hb dL_law_519 hl (by decide) rfl (fun ls hl => ?_)
            refine lv_iinc (v := (nI n) + nI 1) (lv' := [(2, .int ((nI n) + nI 1)), (11, .int (nI 1)), (12, .int (nI (10000 * m0 + 100 * scS sv + y0))), (10, .int (nI g)), (9, .int (nI cc)), (8, .int (nI a)), (6, .int ww), (4, .int (nI i)), (3, .int (nI d)), (1, .ref (zc 0)), (0, .ref b)]) hx hb dL_law_521 hl (k := 8) rfl (congrArg (fun q : Int32 => (nI n) + q) (by decide +kernel)) (by decide) rfl (fun ls hl => ?_)
            refine lv_goto (tgt := 666) hx hb dL_law_524 (by decide) ?_
            exact W.widen (by omega) (by omega) (kk q2 p2 (n + 1) d k t v _ _ _ hs2 (by omega) (by omega) (by omega) hH (lv_cv (show lv_has ls 15 [(11, .int (nI 1)), (10, .int (nI g)), (9, .int (nI cc)), (4, .int (nI i)), (3, .int (nI d)), (2, .int ((nI n) + nI 1)), (1, .ref (zc 0)), (0, .ref b)] from lv_sub hl [1, 3, 4, 7, 8, 0, 9, 10] rfl) (gl_s (gl_s (gl_s (gl_s (gl_s (gl_i (show (nI n) + nI 1 = nI (n + 1) by first | with_reducible rfl | with_reducible exact nI_add _ _ | (simp only [c_1, c_2, c_3, c_4, c_5, ↓reduceIte, Bool.false_eq_true, decide_true, decide_false, Bool.not_true, Bool.not_false, Bool.or_true, Bool.true_or, Bool.or_false, Bool.false_or]; done) | (simp only [c_1, c_2, c_3, c_4, c_5, ↓reduceIte, Bool.false_eq_true, decide_true, decide_false, Bool.not_true, Bool.not_false, Bool.or_true, Bool.true_or, Bool.or_false, Bool.false_or]; with_reducible rfl) | (simp only [c_1, c_2, c_3, c_4, c_5, ↓reduceIte, Bool.false_eq_true, decide_true, decide_false, Bool.not_true, Bool.not_false, Bool.or_true, Bool.true_or, Bool.or_false, Bool.false_or]; rfl) | (simp [b2i, c_1, c_2, c_3, c_4, c_5]; done) | rfl) (gl_s (gl_s rfl))))))))))
set_option maxHeartbeats 4000000 in
set_option maxRecDepth 100000 in
theorem law_op10 (F : lwF p_ l s m meth c b L xs G) (Z : lwZ s zc) {q p : gRF} {n d k t v : Nat} (h9 : sY q p n d k t v) {H : Heap} {locs : List Loc} (hH : lwH G s zc q H locs) {cs ss : Nat} {ls : Array Slot} {i g cc : Nat} {A ww : Int32} (hi : i < 60) (hn : n ≤ i) (hd : d ≤ 24) (ht : t ≤ 8 * i) (hg : g < 4) (hcc : cc < 8) (hA : A = -1 ∨ ∃ a, a < 6 ∧ A = nI a ∧ cRest q.1 (nI a) (q.2 1) = false) {CS SS : Nat} (hC : cs + 10 ≤ CS ∧ ss + 60 ≤ SS ∧ CS + 10 ≤ 600130 ∧ SS + 60 ≤ 7301080) (hl : lv_has ls 15 [(11, .int (nI 1)), (10, .int (nI g)), (9, .int (nI cc)), (8, .int A), (6, .int ww), (4, .int (nI i)), (3, .int (nI d)), (2, .int (nI n)), (1, .ref (zc 0)), (0, .ref b)])
    (kk : ∀ (q p : gRF) (n d k t v : Nat) (H : Heap) (locs : List Loc) (ls : Array Slot), sY q p n d k t v → n ≤ i + 1 → d ≤ 24 → t ≤ 8 * (i + 1) → lwH G s zc q H locs → lv_has ls 15 [(11, .int (nI 1)), (10, .int (nI g)), (9, .int (nI cc)), (4, .int (nI i)), (3, .int (nI d)), (2, .int (nI n)), (1, .ref (zc 0)), (0, .ref b)] → W p_ l e_ room_1 s m #[Value.ref b] below meth c H locs CS SS Q (F0 m 666 ls []))
    : W p_ l e_ room_1 s m #[Value.ref b] below meth c H locs cs ss Q (F0 m 534 ls []) := by
  obtain ⟨⟨hx, hb, hret, hml, hown, hts, hXs, hbl, hlocks⟩, hfl, hK, hXX, hB, hL⟩ := id F
  have hf0 : q.2 0 = nI v := h9.1.1.f0
  have hf1 : q.2 1 = nI t := h9.1.1.f1
  have hf3 : q.2 3 = nI n := h9.1.1.f3
  have hv20 := h9.1.1.v20
  refine lv_aload_n hx hb dL_law_534 rfl (lv_at hl 8 rfl) ?_
  refine law_r (As := []) (rest := []) F hH (c_X6_time l G H zc q.1 q.2 hH.1) (cwV 0 hts gL_law_X6_time rfl rfl rfl (by decide +kernel) ⟨Nat.le_of_ble_eq_true rfl, Nat.le_of_ble_eq_true rfl⟩) rfl hl.1 dL_law_535 (Nat.le_of_ble_eq_true rfl) ⟨by omega, by omega⟩ ?_
  refine lv_bipush (v := nI 14) hx hb dL_law_538 (by decide +kernel) ?_
  refine lv_idiv hx hb dL_law_540 (by decide) ?_
  rw [f_week h9]
  refine lv_istore (lv' := [(12, .int (nI (t / 14))), (11, .int (nI 1)), (10, .int (nI g)), (9, .int (nI cc)), (8, .int A), (6, .int ww), (4, .int (nI i)), (3, .int (nI d)), (2, .int (nI n)), (1, .ref (zc 0)), (0, .ref b)]) hx hb dL_law_541 hl (by decide) rfl (fun ls hl => ?_)
  refine lv_iload hx hb dL_law_543 (lv_at hl 5 rfl) ?_
  refine lv_bipush (v := nI 9) hx hb dL_law_545 (by decide +kernel) ?_
  refine lv_ishr hx hb dL_law_547 ?_
  refine lv_bipush (v := nI 6) hx hb dL_law_548 (by decide +kernel) ?_
  refine law_rs (As := [.int (ww >>> ((nI 9) &&& 31)), .int (nI 6)]) (rest := []) F (c_L_low l G H (ww >>> ((nI 9) &&& 31)) (nI 6) (nI_ne0 (by decide) (by decide))) (va_cwS 2 hts gL_law_L_low rfl rfl rfl (by decide +kernel) ⟨Nat.le_of_ble_eq_true rfl, Nat.le_of_ble_eq_true rfl⟩) rfl hl.1 dL_law_550 (Nat.le_of_ble_eq_true rfl) ⟨by omega, by omega⟩ ?_
  obtain ⟨nx, hnx, enx⟩ := cLow_ok (ww >>> ((nI 9) &&& 31)) (n := 6) (by decide) (by decide)
  rw [enx]
  refine lv_istore (lv' := [(13, .int (nI nx)), (12, .int (nI (t / 14))), (11, .int (nI 1)), (10, .int (nI g)), (9, .int (nI cc)), (8, .int A), (6, .int ww), (4, .int (nI i)), (3, .int (nI d)), (2, .int (nI n)), (1, .ref (zc 0)), (0, .ref b)]) hx hb dL_law_553 hl (by decide) rfl (fun ls hl => ?_)
  refine lv_iload hx hb dL_law_555 (lv_at hl 0 rfl) ?_
  refine lv_aload_n hx hb dL_law_557 rfl (lv_at hl 10 rfl) ?_
  refine lv_iload hx hb dL_law_558 (lv_at hl 1 rfl) ?_
  refine law_q (As := [.int (nI (t / 14))]) (rest := [.int (nI nx)]) F hH (gMq_of (c_X6_holder l hfl G H zc q.1 q.2 hH.1 (nI (t / 14))) (f_kh h9).1) (cwV 1 hts gL_law_X6_holder rfl rfl rfl (by decide +kernel) ⟨Nat.le_of_ble_eq_true rfl, Nat.le_of_ble_eq_true rfl⟩) rfl hl.1 dL_law_560 (Nat.le_of_ble_eq_true rfl) ⟨by omega, by omega⟩ ?_
  refine lv_icmp_eq (tgt := 620) hx hb dL_law_563 (by decide) (fun c_1 => ?_) (fun c_1 => ?_)
  · refine lv_goto (tgt := 666) hx hb dL_law_620 (by decide) ?_
    exact W.widen (by omega) (by omega) (kk q p n d k t v _ _ _ h9 (by omega) (by omega) (by omega) hH (show lv_has ls 15 [(11, .int (nI 1)), (10, .int (nI g)), (9, .int (nI cc)), (4, .int (nI i)), (3, .int (nI d)), (2, .int (nI n)), (1, .ref (zc 0)), (0, .ref b)] from lv_sub hl [2, 3, 4, 7, 8, 9, 10, 11] rfl))
  · have hn1 := c_1
    refine lv_iload hx hb dL_law_566 (lv_at hl 0 rfl) ?_
    refine lv_aload_n hx hb dL_law_568 rfl (lv_at hl 10 rfl) ?_
    refine lv_iload hx hb dL_law_569 (lv_at hl 1 rfl) ?_
    refine lv_iconst (v := nI 1) hx hb dL_law_571 (by decide +kernel) ?_
    refine lv_iadd hx hb dL_law_572 ?_
    refine law_q (As := [.int ((nI (t / 14)) + (nI 1))]) (rest := [.int (nI nx)]) F hH (gMq_of (c_X6_holder l hfl G H zc q.1 q.2 hH.1 ((nI (t / 14)) + (nI 1))) (f_kh h9).2) (cwV 1 hts gL_law_X6_holder rfl rfl rfl (by decide +kernel) ⟨Nat.le_of_ble_eq_true rfl, Nat.le_of_ble_eq_true rfl⟩) rfl hl.1 dL_law_573 (Nat.le_of_ble_eq_true rfl) ⟨by omega, by omega⟩ ?_
    refine lv_icmp_eq (tgt := 620) hx hb dL_law_576 (by decide) (fun c_2 => ?_) (fun c_2 => ?_)
    · refine lv_goto (tgt := 666) hx hb dL_law_620 (by decide) ?_
      exact W.widen (by omega) (by omega) (kk q p n d k t v _ _ _ h9 (by omega) (by omega) (by omega) hH (show lv_has ls 15 [(11, .int (nI 1)), (10, .int (nI g)), (9, .int (nI cc)), (4, .int (nI i)), (3, .int (nI d)), (2, .int (nI n)), (1, .ref (zc 0)), (0, .ref b)] from lv_sub hl [2, 3, 4, 7, 8, 9, 10, 11] rfl))
    · have hn2 := c_2
      refine lv_aload_n hx hb dL_law_579 rfl (lv_at hl 10 rfl) ?_
      refine lv_iload hx hb dL_law_580 (lv_at hl 1 rfl) ?_
      refine lv_iconst (v := nI 1) hx hb dL_law_582 (by decide +kernel) ?_
      refine lv_iadd hx hb dL_law_583 ?_
      refine law_q (As := [.int ((nI (t / 14)) + (nI 1))]) (rest := []) F hH (gMq_of (c_X6_holder l hfl G H zc q.1 q.2 hH.1 ((nI (t / 14)) + (nI 1))) (f_kh h9).2) (cwV 1 hts gL_law_X6_holder rfl rfl rfl (by decide +kernel) ⟨Nat.le_of_ble_eq_true rfl, Nat.le_of_ble_eq_true rfl⟩) rfl hl.1 dL_law_584 (Nat.le_of_ble_eq_true rfl) ⟨by omega, by omega⟩ ?_
      refine lv_istore (lv' := [(14, .int (rAt 42 (q.1 17) ((nI (t / 14)) + (nI 1)))), (13, .int (nI nx)), (12, .int (nI (t / 14))), (11, .int (nI 1)), (10, .int (nI g)), (9, .int (nI cc)), (8, .int A), (6, .int ww), (4, .int (nI i)), (3, .int (nI d)), (2, .int (nI n)), (1, .ref (zc 0)), (0, .ref b)]) hx hb dL_law_587 hl (by decide) rfl (fun ls hl => ?_)
      refine lv_aload_n hx hb dL_law_589 rfl (lv_at hl 11 rfl) ?_
      refine lv_iload hx hb dL_law_590 (lv_at hl 1 rfl) ?_
      obtain ⟨hkk, ⟨p2, hs2⟩, g1⟩ := y_take h9 hnx hn1 hn2
      obtain ⟨q2, hq2⟩ : ∃ q2 : gRF, q2 = (upR q.1 17 (rPut 42 (q.1 17) (q.2 1 / nI 14 + nI 1) (nI nx)), q.2) := ⟨_, rfl⟩
      rw [← hq2] at hs2
      refine law_w (As := [.int (nI nx)]) (rest := []) F Z hH (gMqw_of (c_X6_takeOver l hfl G H zc Z.1 q.1 q.2 hH.1 (nI nx)) hkk) hq2 (cwV 1 hts gL_law_X6_takeOver rfl rfl rfl (by decide +kernel) ⟨Nat.le_of_ble_eq_true rfl, Nat.le_of_ble_eq_true rfl⟩) rfl hl.1 dL_law_592 (Nat.le_of_ble_eq_true rfl) ⟨by omega, by omega⟩ (fun H locs hH => ?_)
      refine lv_iload hx hb dL_law_595 (lv_at hl 0 rfl) ?_
      refine lv_icmp_ne (tgt := 617) hx hb dL_law_597 (by decide) (fun c_3 => ?_) (fun c_3 => ?_)
      · exact absurd (by rw [f_week h9]) c_3
      · refine lv_aload_n hx hb dL_law_600 rfl (lv_at hl 11 rfl) ?_
        refine lv_iload hx hb dL_law_601 (lv_at hl 2 rfl) ?_
        refine lv_iconst (v := nI 1) hx hb dL_law_603 (by decide +kernel) ?_
        refine lv_iadd hx hb dL_law_604 ?_
        refine law_q (As := [.int ((nI (t / 14)) + (nI 1))]) (rest := []) F hH (gMq_of (c_X6_holder l hfl G H zc q2.1 q2.2 hH.1 ((nI (t / 14)) + (nI 1))) (f_kh hs2).2) (cwV 1 hts gL_law_X6_holder rfl rfl rfl (by decide +kernel) ⟨Nat.le_of_ble_eq_true rfl, Nat.le_of_ble_eq_true rfl⟩) rfl hl.1 dL_law_605 (Nat.le_of_ble_eq_true rfl) ⟨by omega, by omega⟩ ?_
        refine lv_iload hx hb dL_law_608 (lv_at hl 1 rfl) ?_
        refine lv_icmp_ne (tgt := 617) hx hb dL_law_610 (by decide) (fun c_4 => ?_) (fun c_4 => ?_)
        · exact absurd (by rw [hq2]; exact g1) c_4
        · refine lv_iconst (v := nI 1) hx hb dL_law_613 (by decide +kernel) ?_
          refine lv_goto (tgt := 618) hx hb dL_law_614 (by decide) ?_
          refine lv_istore (lv' := [(11, .int (nI 1)), (14, .int (rAt 42 (q.1 17) ((nI (t / 14)) + (nI 1)))), (13, .int (nI nx)), (12, .int (nI (t / 14))), (10, .int (nI g)), (9, .int (nI cc)), (8, .int A), (6, .int ww), (4, .int (nI i)), (3, .int (nI d)), (2, .int (nI n)), (1, .ref (zc 0)), (0, .ref b)]) hx hb dL_law_618 hl (by decide) rfl (fun ls hl => ?_)
          refine lv_goto (tgt := 666) hx hb dL_law_620 (by decide) ?_
          exact W.widen (by omega) (by omega) (kk q2 p2 n d k t v _ _ _ hs2 (by omega) (by omega) (by omega) hH (show lv_has ls 15 [(11, .int (nI 1)), (10, .int (nI g)), (9, .int (nI cc)), (4, .int (nI i)), (3, .int (nI d)), (2, .int (nI n)), (1, .ref (zc 0)), (0, .ref b)] from lv_sub hl [0, 4, 5, 8, 9, 10, 11, 12] rfl))
set_option maxHeartbeats 4000000 in
set_option maxRecDepth 100000 in
theorem law_op11 (F : lwF p_ l s m meth c b L xs G) (Z : lwZ s zc) {q p : gRF} {n d k t v : Nat} (h9 : sY q p n d k t v) {H : Heap} {locs : List Loc} (hH : lwH G s zc q H locs) {cs ss : Nat} {ls : Array Slot} {i g cc : Nat} {A ww : Int32} (hi : i < 60) (hn : n ≤ i) (hd : d ≤ 24) (ht : t ≤ 8 * i) (hg : g < 4) (hcc : cc < 8) (hA : A = -1 ∨ ∃ a, a < 6 ∧ A = nI a ∧ cRest q.1 (nI a) (q.2 1) = false) {CS SS : Nat} (hC : cs + 10 ≤ CS ∧ ss + 60 ≤ SS ∧ CS + 10 ≤ 600130 ∧ SS + 60 ≤ 7301080) (hl : lv_has ls 15 [(11, .int (nI 1)), (10, .int (nI g)), (9, .int (nI cc)), (8, .int A), (6, .int ww), (4, .int (nI i)), (3, .int (nI d)), (2, .int (nI n)), (1, .ref (zc 0)), (0, .ref b)])
    (kk : ∀ (q p : gRF) (n d k t v : Nat) (H : Heap) (locs : List Loc) (ls : Array Slot), sY q p n d k t v → n ≤ i + 1 → d ≤ 24 → t ≤ 8 * (i + 1) → lwH G s zc q H locs → lv_has ls 15 [(11, .int (nI 1)), (10, .int (nI g)), (9, .int (nI cc)), (4, .int (nI i)), (3, .int (nI d)), (2, .int (nI n)), (1, .ref (zc 0)), (0, .ref b)] → W p_ l e_ room_1 s m #[Value.ref b] below meth c H locs CS SS Q (F0 m 666 ls []))
    : W p_ l e_ room_1 s m #[Value.ref b] below meth c H locs cs ss Q (F0 m 623 ls []) := by
  obtain ⟨⟨hx, hb, hret, hml, hown, hts, hXs, hbl, hlocks⟩, hfl, hK, hXX, hB, hL⟩ := id F
  have hf0 : q.2 0 = nI v := h9.1.1.f0
  have hf1 : q.2 1 = nI t := h9.1.1.f1
  have hf3 : q.2 3 = nI n := h9.1.1.f3
  have hv20 := h9.1.1.v20
  refine lv_iconst (v := nI 1) hx hb dL_law_623 (by decide +kernel) ?_
  refine lv_iload hx hb dL_law_624 (lv_at hl 4 rfl) ?_
  refine lv_bipush (v := nI 9) hx hb dL_law_626 (by decide +kernel) ?_
  refine lv_ishr hx hb dL_law_628 ?_
  refine lv_bipush (v := nI 8) hx hb dL_law_629 (by decide +kernel) ?_
  refine law_rs (As := [.int (ww >>> ((nI 9) &&& 31)), .int (nI 8)]) (rest := [.int (nI 1)]) F (c_L_low l G H (ww >>> ((nI 9) &&& 31)) (nI 8) (nI_ne0 (by decide) (by decide))) (va_cwS 2 hts gL_law_L_low rfl rfl rfl (by decide +kernel) ⟨Nat.le_of_ble_eq_true rfl, Nat.le_of_ble_eq_true rfl⟩) rfl hl.1 dL_law_631 (Nat.le_of_ble_eq_true rfl) ⟨by omega, by omega⟩ ?_
  obtain ⟨j2, hj2, ej2⟩ := cLow_ok (ww >>> ((nI 9) &&& 31)) (n := 8) (by decide) (by decide)
  rw [ej2]
  refine lv_iadd hx hb dL_law_634 ?_
  rw [nI_add]
  refine lv_istore (lv' := [(12, .int (nI (1 + j2))), (11, .int (nI 1)), (10, .int (nI g)), (9, .int (nI cc)), (8, .int A), (6, .int ww), (4, .int (nI i)), (3, .int (nI d)), (2, .int (nI n)), (1, .ref (zc 0)), (0, .ref b)]) hx hb dL_law_635 hl (by decide) rfl (fun ls hl => ?_)
  refine lv_aload_n hx hb dL_law_637 rfl (lv_at hl 9 rfl) ?_
  refine law_r (As := []) (rest := []) F hH (c_X6_incidents l G H zc q.1 q.2 hH.1) (cwV 0 hts gL_law_X6_incidents rfl rfl rfl (by decide +kernel) ⟨Nat.le_of_ble_eq_true rfl, Nat.le_of_ble_eq_true rfl⟩) rfl hl.1 dL_law_638 (Nat.le_of_ble_eq_true rfl) ⟨by omega, by omega⟩ ?_
  refine lv_istore (lv' := [(13, .int (q.2 4)), (12, .int (nI (1 + j2))), (11, .int (nI 1)), (10, .int (nI g)), (9, .int (nI cc)), (8, .int A), (6, .int ww), (4, .int (nI i)), (3, .int (nI d)), (2, .int (nI n)), (1, .ref (zc 0)), (0, .ref b)]) hx hb dL_law_641 hl (by decide) rfl (fun ls hl => ?_)
  refine lv_aload_n hx hb dL_law_643 rfl (lv_at hl 10 rfl) ?_
  refine lv_iload hx hb dL_law_644 (lv_at hl 1 rfl) ?_
  obtain ⟨hkk, p2, k2, hs2⟩ := y_pass0 h9 (j := 1 + j2) (by omega) (by omega) (by omega)
  obtain ⟨q2, hq2⟩ : ∃ q2 : gRF, q2 = cPass (cN (nI (1 + j2))) q := ⟨_, rfl⟩
  rw [← hq2] at hs2
  refine law_w (As := [.int (nI (1 + j2))]) (rest := []) F Z hH (gMqw_of (c_X6_pass l hfl G H zc Z.1 q.1 q.2 hH.1 (nI (1 + j2)) t k hf1 (by omega) h9.1.1.f4 h9.1.1.ok.2.2.2.2.2.1) hkk) (hq2.trans rfl) (cwV 1 hts gL_law_X6_pass rfl rfl rfl (by decide +kernel) ⟨Nat.le_of_ble_eq_true rfl, Nat.le_of_ble_eq_true rfl⟩) rfl hl.1 dL_law_646 (Nat.le_of_ble_eq_true rfl) ⟨by omega, by omega⟩ (fun H locs hH => ?_)
  refine lv_aload_n hx hb dL_law_649 rfl (lv_at hl 10 rfl) ?_
  refine law_r (As := []) (rest := [.int ((cPass (cN (nI (1 + j2))) (q.1, q.2)).2 4 - q.2 4)]) F hH (c_X6_incidents l G H zc q2.1 q2.2 hH.1) (cwV 0 hts gL_law_X6_incidents rfl rfl rfl (by decide +kernel) ⟨Nat.le_of_ble_eq_true rfl, Nat.le_of_ble_eq_true rfl⟩) rfl hl.1 dL_law_650 (Nat.le_of_ble_eq_true rfl) ⟨by omega, by omega⟩ ?_
  refine lv_iload hx hb dL_law_653 (lv_at hl 0 rfl) ?_
  refine lv_isub hx hb dL_law_655 ?_
  refine lv_icmp_ne (tgt := 663) hx hb dL_law_656 (by decide) (fun c_1 => ?_) (fun c_1 => ?_)
  · exact absurd (congrArg (fun u : gRF => u.2 4 - q.2 4) hq2.symm) c_1
  · refine lv_iconst (v := nI 1) hx hb dL_law_659 (by decide +kernel) ?_
    refine lv_goto (tgt := 664) hx hb dL_law_660 (by decide) ?_
    refine lv_istore (lv' := [(11, .int (nI 1)), (13, .int (q.2 4)), (12, .int (nI (1 + j2))), (10, .int (nI g)), (9, .int (nI cc)), (8, .int A), (6, .int ww), (4, .int (nI i)), (3, .int (nI d)), (2, .int (nI n)), (1, .ref (zc 0)), (0, .ref b)]) hx hb dL_law_664 hl (by decide) rfl (fun ls hl => ?_)
    exact W.widen (by omega) (by omega) (kk q2 p2 n d k2 (t + (1 + j2)) v _ _ _ hs2 (by omega) (by omega) (by omega) hH (show lv_has ls 15 [(11, .int (nI 1)), (10, .int (nI g)), (9, .int (nI cc)), (4, .int (nI i)), (3, .int (nI d)), (2, .int (nI n)), (1, .ref (zc 0)), (0, .ref b)] from lv_sub hl [0, 3, 4, 7, 8, 9, 10, 11] rfl))
end SD0
