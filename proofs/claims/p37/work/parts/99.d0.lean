section SD0
variable {p_ : Program} {e_ : Env} {l : Launch} {s : State} {m : MethodId} {below : List Frame} {meth : Method} {c : Code} {b L : Nat} {xs : Nat → Int32} {G : gG} {zc : Nat → Nat} {Q : State → Prop}
set_option maxHeartbeats 4000000 in
set_option maxRecDepth 100000 in
theorem law_op0 (F : lwF p_ l s m meth c b L xs G) (Z : lwZ s zc) {q p : gRF} {n d k t v : Nat} (h9 : sY q p n d k t v) {H : Heap} {locs : List Loc} (hH : lwH G s zc q H locs) {cs ss : Nat} {ls : Array Slot} {i g cc : Nat} {A ww : Int32} (hi : i < 60) (hn : n ≤ i) (hd : d ≤ 24) (ht : t ≤ 8 * i) (hg : g < 4) (hcc : cc < 8) (hA : A = -1 ∨ ∃ a, a < 6 ∧ A = nI a ∧ cRest q.1 (nI a) (q.2 1) = false) {CS SS : Nat} (hC : cs + 10 ≤ CS ∧ ss + 60 ≤ SS ∧ CS + 10 ≤ 600130 ∧ SS + 60 ≤ 7301080) (hl : lv_has ls 15 [(11, .int (nI 1)), (10, .int (nI g)), (9, .int (nI cc)), (8, .int A), (6, .int ww), (4, .int (nI i)), (3, .int (nI d)), (2, .int (nI n)), (1, .ref (zc 0)), (0, .ref b)])
    (kk : ∀ (q p : gRF) (n d k t v : Nat) (H : Heap) (locs : List Loc) (ls : Array Slot), sY q p n d k t v → n ≤ i + 1 → d ≤ 24 → t ≤ 8 * (i + 1) → lwH G s zc q H locs → lv_has ls 15 [(11, .int (nI 1)), (10, .int (nI g)), (9, .int (nI cc)), (4, .int (nI i)), (3, .int (nI d)), (2, .int (nI n)), (1, .ref (zc 0)), (0, .ref b)] → W p_ l e_ room_1 s m #[Value.ref b] below meth c H locs CS SS Q (F0 m 666 ls []))
    : W p_ l e_ room_1 s m #[Value.ref b] below meth c H locs cs ss Q (F0 m 96 ls []) := by
  obtain ⟨⟨hx, hb, hret, hml, hown, hts, hXs, hbl, hlocks⟩, hfl, hK, hXX, hB, hL⟩ := id F
  have hf0 : q.2 0 = nI v := h9.1.1.f0
  have hf1 : q.2 1 = nI t := h9.1.1.f1
  have hf3 : q.2 3 = nI n := h9.1.1.f3
  have hv20 := h9.1.1.v20
  refine lv_aload_n hx hb dL_law_96 rfl (lv_at hl 8 rfl) ?_
  refine law_r (As := []) (rest := []) F hH (c_X6_versions l G H zc q.1 q.2 hH.1) (cwV 0 hts gL_law_X6_versions rfl rfl rfl (by decide +kernel) ⟨Nat.le_of_ble_eq_true rfl, Nat.le_of_ble_eq_true rfl⟩) rfl hl.1 dL_law_97 (Nat.le_of_ble_eq_true rfl) ⟨by omega, by omega⟩ ?_
  refine lv_bipush (v := nI 20) hx hb dL_law_100 (by decide +kernel) ?_
  refine lv_icmp_ge (tgt := 666) hx hb dL_law_102 (by decide) (fun c_1 => ?_) (fun c_1 => ?_)
  · exact W.widen (by omega) (by omega) (kk q p n d k t v _ _ _ h9 (by omega) (by omega) (by omega) hH (show lv_has ls 15 [(11, .int (nI 1)), (10, .int (nI g)), (9, .int (nI cc)), (4, .int (nI i)), (3, .int (nI d)), (2, .int (nI n)), (1, .ref (zc 0)), (0, .ref b)] from lv_sub hl [0, 1, 2, 5, 6, 7, 8, 9] rfl))
  · have hv9 : v < 20 := by
      have h8 := c_1
      rw [hf0] at h8
      have h7 := mt (nI_leI (a := 20) (b := v) (by decide) (by omega)).mpr h8
      omega
    refine lv_aload_n hx hb dL_law_105 rfl (lv_at hl 8 rfl) ?_
    obtain ⟨hkk, hs2⟩ := y_build h9 hv9
    obtain ⟨q2, hq2⟩ : ∃ q2 : gRF, q2 = (q.1, upF q.2 0 (q.2 0 + nI 1)) := ⟨_, rfl⟩
    rw [← hq2] at hs2
    have hq20 : q2.2 0 = q.2 0 + nI 1 := by rw [hq2]; rfl
    refine law_w (As := []) (rest := []) F Z hH (gMqw_of (c_X6_build l hfl G H zc Z.1 q.1 q.2 hH.1) hkk) hq2 (cwV 0 hts gL_law_X6_build rfl rfl rfl (by decide +kernel) ⟨Nat.le_of_ble_eq_true rfl, Nat.le_of_ble_eq_true rfl⟩) rfl hl.1 dL_law_106 (Nat.le_of_ble_eq_true rfl) ⟨by omega, by omega⟩ (fun H locs hH => ?_)
    refine lv_aload_n hx hb dL_law_109 rfl (lv_at hl 8 rfl) ?_
    refine law_r (As := []) (rest := [.int (q.2 0 + nI 1 - nI 1)]) F hH (c_X6_versions l G H zc q2.1 q2.2 hH.1) (cwV 0 hts gL_law_X6_versions rfl rfl rfl (by decide +kernel) ⟨Nat.le_of_ble_eq_true rfl, Nat.le_of_ble_eq_true rfl⟩) rfl hl.1 dL_law_110 (Nat.le_of_ble_eq_true rfl) ⟨by omega, by omega⟩ ?_
    rw [hq20]
    refine lv_iconst (v := nI 1) hx hb dL_law_113 (by decide +kernel) ?_
    refine lv_isub hx hb dL_law_114 ?_
    refine lv_icmp_ne (tgt := 122) hx hb dL_law_115 (by decide) (fun c_2 => ?_) (fun c_2 => ?_)
    · exact absurd rfl c_2
    · refine lv_iconst (v := nI 1) hx hb dL_law_118 (by decide +kernel) ?_
      refine lv_goto (tgt := 123) hx hb dL_law_119 (by decide) ?_
      refine lv_istore (lv' := [(11, .int (nI 1)), (10, .int (nI g)), (9, .int (nI cc)), (8, .int A), (6, .int ww), (4, .int (nI i)), (3, .int (nI d)), (2, .int (nI n)), (1, .ref (zc 0)), (0, .ref b)]) hx hb dL_law_123 hl (by decide) rfl (fun ls hl => ?_)
      refine lv_goto (tgt := 666) hx hb dL_law_125 (by decide) ?_
      exact W.widen (by omega) (by omega) (kk q2 _ n d k t (v + 1) _ _ _ hs2 (by omega) (by omega) (by omega) hH (show lv_has ls 15 [(11, .int (nI 1)), (10, .int (nI g)), (9, .int (nI cc)), (4, .int (nI i)), (3, .int (nI d)), (2, .int (nI n)), (1, .ref (zc 0)), (0, .ref b)] from lv_sub hl [0, 1, 2, 5, 6, 7, 8, 9] rfl))
set_option maxHeartbeats 4000000 in
set_option maxRecDepth 100000 in
theorem law_op1 (F : lwF p_ l s m meth c b L xs G) (Z : lwZ s zc) {q p : gRF} {n d k t v : Nat} (h9 : sY q p n d k t v) {H : Heap} {locs : List Loc} (hH : lwH G s zc q H locs) {cs ss : Nat} {ls : Array Slot} {i g cc : Nat} {A ww : Int32} (hi : i < 60) (hn : n ≤ i) (hd : d ≤ 24) (ht : t ≤ 8 * i) (hg : g < 4) (hcc : cc < 8) (hA : A = -1 ∨ ∃ a, a < 6 ∧ A = nI a ∧ cRest q.1 (nI a) (q.2 1) = false) {CS SS : Nat} (hC : cs + 10 ≤ CS ∧ ss + 60 ≤ SS ∧ CS + 10 ≤ 600130 ∧ SS + 60 ≤ 7301080) (hl : lv_has ls 15 [(11, .int (nI 1)), (10, .int (nI g)), (9, .int (nI cc)), (8, .int A), (6, .int ww), (4, .int (nI i)), (3, .int (nI d)), (2, .int (nI n)), (1, .ref (zc 0)), (0, .ref b)])
    (kk : ∀ (q p : gRF) (n d k t v : Nat) (H : Heap) (locs : List Loc) (ls : Array Slot), sY q p n d k t v → n ≤ i + 1 → d ≤ 24 → t ≤ 8 * (i + 1) → lwH G s zc q H locs → lv_has ls 15 [(11, .int (nI 1)), (10, .int (nI g)), (9, .int (nI cc)), (4, .int (nI i)), (3, .int (nI d)), (2, .int (nI n)), (1, .ref (zc 0)), (0, .ref b)] → W p_ l e_ room_1 s m #[Value.ref b] below meth c H locs CS SS Q (F0 m 666 ls []))
    : W p_ l e_ room_1 s m #[Value.ref b] below meth c H locs cs ss Q (F0 m 134 ls []) := by
  obtain ⟨⟨hx, hb, hret, hml, hown, hts, hXs, hbl, hlocks⟩, hfl, hK, hXX, hB, hL⟩ := id F
  have hf0 : q.2 0 = nI v := h9.1.1.f0
  have hf1 : q.2 1 = nI t := h9.1.1.f1
  have hf3 : q.2 3 = nI n := h9.1.1.f3
  have hv20 := h9.1.1.v20
  refine lv_iload_n hx hb dL_law_134 rfl (lv_at hl 6 rfl) ?_
  refine lv_bipush (v := nI 24) hx hb dL_law_135 (by decide +kernel) ?_
  refine lv_icmp_ge (tgt := 666) hx hb dL_law_137 (by decide) (fun c_1 => ?_) (fun c_1 => ?_)
  · exact W.widen (by omega) (by omega) (kk q p n d k t v _ _ _ h9 (by omega) (by omega) (by omega) hH (show lv_has ls 15 [(11, .int (nI 1)), (10, .int (nI g)), (9, .int (nI cc)), (4, .int (nI i)), (3, .int (nI d)), (2, .int (nI n)), (1, .ref (zc 0)), (0, .ref b)] from lv_sub hl [0, 1, 2, 5, 6, 7, 8, 9] rfl))
  · have hd9 : d < 24 := by
      have h7 := mt (nI_leI (a := 24) (b := d) (by decide) (by omega)).mpr c_1
      omega
    refine lv_iinc (v := (nI d) + nI 1) (lv' := [(3, .int ((nI d) + nI 1)), (11, .int (nI 1)), (10, .int (nI g)), (9, .int (nI cc)), (8, .int A), (6, .int ww), (4, .int (nI i)), (2, .int (nI n)), (1, .ref (zc 0)), (0, .ref b)]) hx hb dL_law_140 hl (k := 6) rfl (congrArg (fun q : Int32 => (nI d) + q) (by decide +kernel)) (by decide) rfl (fun ls hl => ?_)
    refine lv_aload_n hx hb dL_law_143 rfl (lv_at hl 8 rfl) ?_
    refine lv_iload hx hb dL_law_144 (lv_at hl 5 rfl) ?_
    refine lv_bipush (v := nI 8) hx hb dL_law_146 (by decide +kernel) ?_
    refine lv_ishr hx hb dL_law_148 ?_
    refine lv_aload_n hx hb dL_law_149 rfl (lv_at hl 8 rfl) ?_
    refine law_r (As := []) (rest := [.int (ww >>> ((nI 8) &&& 31)), .ref (zc 0)]) F hH (c_X6_versions l G H zc q.1 q.2 hH.1) (cwV 0 hts gL_law_X6_versions rfl rfl rfl (by decide +kernel) ⟨Nat.le_of_ble_eq_true rfl, Nat.le_of_ble_eq_true rfl⟩) rfl hl.1 dL_law_150 (Nat.le_of_ble_eq_true rfl) ⟨by omega, by omega⟩ ?_
    rw [hf0]
    refine law_rs (As := [.int (ww >>> ((nI 8) &&& 31)), .int (nI v)]) (rest := [.ref (zc 0)]) F (c_L_low l G H (ww >>> ((nI 8) &&& 31)) (nI v) (nI_ne0 (by omega) (by omega))) (va_cwS 2 hts gL_law_L_low rfl rfl rfl (by decide +kernel) ⟨Nat.le_of_ble_eq_true rfl, Nat.le_of_ble_eq_true rfl⟩) rfl hl.1 dL_law_153 (Nat.le_of_ble_eq_true rfl) ⟨by omega, by omega⟩ ?_
    obtain ⟨u, hu, eu⟩ := cLow_ok (ww >>> ((nI 8) &&& 31)) (n := v) (by omega) (by omega)
    rw [eu]
    refine lv_iload hx hb dL_law_156 (lv_at hl 5 rfl) ?_
    refine lv_iconst (v := nI 3) hx hb dL_law_158 (by decide +kernel) ?_
    refine lv_ishr hx hb dL_law_159 ?_
    refine lv_bipush (v := nI 9) hx hb dL_law_160 (by decide +kernel) ?_
    refine law_rs (As := [.int (ww >>> ((nI 3) &&& 31)), .int (nI 9)]) (rest := [.int (nI u), .ref (zc 0)]) F (c_L_low l G H (ww >>> ((nI 3) &&& 31)) (nI 9) (nI_ne0 (by decide) (by decide))) (va_cwS 2 hts gL_law_L_low rfl rfl rfl (by decide +kernel) ⟨Nat.le_of_ble_eq_true rfl, Nat.le_of_ble_eq_true rfl⟩) rfl hl.1 dL_law_162 (Nat.le_of_ble_eq_true rfl) ⟨by omega, by omega⟩ ?_
    obtain ⟨w2, hw2, ew2⟩ := cLow_ok (ww >>> ((nI 3) &&& 31)) (n := 9) (by decide) (by decide)
    rw [ew2]
    refine lv_iconst (v := nI 1) hx hb dL_law_165 (by decide +kernel) ?_
    refine lv_isub hx hb dL_law_166 ?_
    refine lv_iload hx hb dL_law_167 (lv_at hl 5 rfl) ?_
    refine lv_bipush (v := nI 14) hx hb dL_law_169 (by decide +kernel) ?_
    refine lv_ishr hx hb dL_law_171 ?_
    refine lv_iconst (v := nI 2) hx hb dL_law_172 (by decide +kernel) ?_
    refine law_rs (As := [.int (ww >>> ((nI 14) &&& 31)), .int (nI 2)]) (rest := [.int ((nI w2) - (nI 1)), .int (nI u), .ref (zc 0)]) F (c_L_low l G H (ww >>> ((nI 14) &&& 31)) (nI 2) (nI_ne0 (by decide) (by decide))) (va_cwS 2 hts gL_law_L_low rfl rfl rfl (by decide +kernel) ⟨Nat.le_of_ble_eq_true rfl, Nat.le_of_ble_eq_true rfl⟩) rfl hl.1 dL_law_173 (Nat.le_of_ble_eq_true rfl) ⟨by omega, by omega⟩ ?_
    obtain ⟨b2, hb2, eb2⟩ := cLow_ok (ww >>> ((nI 14) &&& 31)) (n := 2) (by decide) (by decide)
    rw [eb2]
    refine g_join m 184 15 [(3, .int ((nI d) + nI 1)), (11, .int (nI 1)), (10, .int (nI g)), (9, .int (nI cc)), (8, .int A), (6, .int ww), (4, .int (nI i)), (2, .int (nI n)), (1, .ref (zc 0)), (0, .ref b)] [.int (b2i (decide (nI b2 = 0))), .int ((nI w2) - (nI 1)), .int (nI u), .ref (zc 0)] (fun ls hl => ?_) (fun hJ184 => ?_)
    · obtain ⟨hkk, hs2⟩ := y_def (x3 := decide (nI b2 = 0)) h9 hd9 hu (sw_x2 hw2)
      obtain ⟨q2, hq2⟩ : ∃ q2 : gRF, q2 = (cDefR q.1 (nI u) (nI w2 - nI 1) (decide (nI b2 = 0)), upF q.2 2 (q.2 2 + nI 1)) := ⟨_, rfl⟩
      rw [← hq2] at hs2
      refine law_w (As := [.int (nI u), .int ((nI w2) - (nI 1)), .int (b2i (decide (nI b2 = 0)))]) (rest := []) F Z hH (gMqw_of (c_X6_defect l hfl G H zc Z.1 q.1 q.2 hH.1 (nI u) ((nI w2) - (nI 1)) (decide (nI b2 = 0))) hkk) hq2 (cwV 3 hts gL_law_X6_defect rfl rfl rfl (by decide +kernel) ⟨Nat.le_of_ble_eq_true rfl, Nat.le_of_ble_eq_true rfl⟩) rfl hl.1 dL_law_184 (Nat.le_of_ble_eq_true rfl) ⟨by omega, by omega⟩ (fun H locs hH => ?_)
      refine lv_iload_n hx hb dL_law_187 rfl (lv_at hl 0 rfl) ?_
      refine lv_icmp_ne (tgt := 195) hx hb dL_law_188 (by decide) (fun c_2 => ?_) (fun c_2 => ?_)
      · exact absurd (by rw [h9.1.1.f2]) c_2
      · refine lv_iconst (v := nI 1) hx hb dL_law_191 (by decide +kernel) ?_
        refine lv_goto (tgt := 196) hx hb dL_law_192 (by decide) ?_
        refine lv_istore (lv' := [(11, .int (nI 1)), (3, .int ((nI d) + nI 1)), (10, .int (nI g)), (9, .int (nI cc)), (8, .int A), (6, .int ww), (4, .int (nI i)), (2, .int (nI n)), (1, .ref (zc 0)), (0, .ref b)]) hx hb dL_law_196 hl (by decide) rfl (fun ls hl => ?_)
        refine lv_goto (tgt := 666) hx hb dL_law_198 (by decide) ?_
        exact W.widen (by omega) (by omega) (kk q2 _ n (d + 1) k t v _ _ _ hs2 (by omega) (by omega) (by omega) hH (lv_cv (show lv_has ls 15 [(11, .int (nI 1)), (10, .int (nI g)), (9, .int (nI cc)), (4, .int (nI i)), (3, .int ((nI d) + nI 1)), (2, .int (nI n)), (1, .ref (zc 0)), (0, .ref b)] from lv_sub hl [0, 2, 3, 6, 1, 7, 8, 9] rfl) (gl_s (gl_s (gl_s (gl_s (gl_i (show (nI d) + nI 1 = nI (d + 1) by first | with_reducible rfl | with_reducible exact nI_add _ _ | (simp only [c_1, c_2, ↓reduceIte, Bool.false_eq_true, decide_true, decide_false, Bool.not_true, Bool.not_false, Bool.or_true, Bool.true_or, Bool.or_false, Bool.false_or]; done) | (simp only [c_1, c_2, ↓reduceIte, Bool.false_eq_true, decide_true, decide_false, Bool.not_true, Bool.not_false, Bool.or_true, Bool.true_or, Bool.or_false, Bool.false_or]; with_reducible rfl) | (simp only [c_1, c_2, ↓reduceIte, Bool.false_eq_true, decide_true, decide_false, Bool.not_true, Bool.not_false, Bool.or_true, Bool.true_or, Bool.or_false, Bool.false_or]; rfl) | (simp [b2i, c_1, c_2]; done) | rfl) (gl_s (gl_s (gl_s rfl))))))))))
    · refine lv_if_ne (tgt := 183) hx hb dL_law_176 (by decide) (fun c_3 => ?_) (fun c_3 => ?_)
      · refine lv_iconst (v := nI 0) hx hb dL_law_183 (by decide +kernel) ?_
        refine W.eq (g2 := F0 m 184 ls [.int (b2i (decide (nI b2 = 0))), .int ((nI w2) - (nI 1)), .int (nI u), .ref (zc 0)]) (g_st (gs_i (show nI 0 = b2i (decide (nI b2 = 0)) by first | with_reducible rfl | with_reducible exact nI_add _ _ | (simp only [c_1, c_3, ↓reduceIte, Bool.false_eq_true, decide_true, decide_false, Bool.not_true, Bool.not_false, Bool.or_true, Bool.true_or, Bool.or_false, Bool.false_or]; done) | (simp only [c_1, c_3, ↓reduceIte, Bool.false_eq_true, decide_true, decide_false, Bool.not_true, Bool.not_false, Bool.or_true, Bool.true_or, Bool.or_false, Bool.false_or]; with_reducible rfl) | (simp only [c_1, c_3, ↓reduceIte, Bool.false_eq_true, decide_true, decide_false, Bool.not_true, Bool.not_false, Bool.or_true, Bool.true_or, Bool.or_false, Bool.false_or]; rfl) | (simp [b2i, c_1, c_3]; done) | rfl) (gs_s (gs_s (gs_s rfl))))) ?_
        exact hJ184 _ (show lv_has ls 15 [(3, .int ((nI d) + nI 1)), (11, .int (nI 1)), (10, .int (nI g)), (9, .int (nI cc)), (8, .int A), (6, .int ww), (4, .int (nI i)), (2, .int (nI n)), (1, .ref (zc 0)), (0, .ref b)] from lv_sub hl [0, 1, 2, 3, 4, 5, 6, 7, 8, 9] rfl)
      · refine lv_iconst (v := nI 1) hx hb dL_law_179 (by decide +kernel) ?_
        refine lv_goto (tgt := 184) hx hb dL_law_180 (by decide) ?_
        refine W.eq (g2 := F0 m 184 ls [.int (b2i (decide (nI b2 = 0))), .int ((nI w2) - (nI 1)), .int (nI u), .ref (zc 0)]) (g_st (gs_i (show nI 1 = b2i (decide (nI b2 = 0)) by first | with_reducible rfl | with_reducible exact nI_add _ _ | (simp only [c_1, c_3, ↓reduceIte, Bool.false_eq_true, decide_true, decide_false, Bool.not_true, Bool.not_false, Bool.or_true, Bool.true_or, Bool.or_false, Bool.false_or]; done) | (simp only [c_1, c_3, ↓reduceIte, Bool.false_eq_true, decide_true, decide_false, Bool.not_true, Bool.not_false, Bool.or_true, Bool.true_or, Bool.or_false, Bool.false_or]; with_reducible rfl) | (simp only [c_1, c_3, ↓reduceIte, Bool.false_eq_true, decide_true, decide_false, Bool.not_true, Bool.not_false, Bool.or_true, Bool.true_or, Bool.or_false, Bool.false_or]; rfl) | (simp [b2i, c_1, c_3]; done) | rfl) (gs_s (gs_s (gs_s rfl))))) ?_
        exact hJ184 _ (show lv_has ls 15 [(3, .int ((nI d) + nI 1)), (11, .int (nI 1)), (10, .int (nI g)), (9, .int (nI cc)), (8, .int A), (6, .int ww), (4, .int (nI i)), (2, .int (nI n)), (1, .ref (zc 0)), (0, .ref b)] from lv_sub hl [0, 1, 2, 3, 4, 5, 6, 7, 8, 9] rfl)
set_option maxHeartbeats 4000000 in
set_option maxRecDepth 100000 in
theorem law_op3 (F : lwF p_ l s m meth c b L xs G) (Z : lwZ s zc) {q p : gRF} {n d k t v : Nat} (h9 : sY q p n d k t v) {H : Heap} {locs : List Loc} (hH : lwH G s zc q H locs) {cs ss : Nat} {ls : Array Slot} {i g cc : Nat} {A ww : Int32} (hi : i < 60) (hn : n ≤ i) (hd : d ≤ 24) (ht : t ≤ 8 * i) (hg : g < 4) (hcc : cc < 8) (hA : A = -1 ∨ ∃ a, a < 6 ∧ A = nI a ∧ cRest q.1 (nI a) (q.2 1) = false) {CS SS : Nat} (hC : cs + 10 ≤ CS ∧ ss + 60 ≤ SS ∧ CS + 10 ≤ 600130 ∧ SS + 60 ≤ 7301080) (hl : lv_has ls 15 [(11, .int (nI 1)), (10, .int (nI g)), (9, .int (nI cc)), (8, .int A), (6, .int ww), (4, .int (nI i)), (3, .int (nI d)), (2, .int (nI n)), (1, .ref (zc 0)), (0, .ref b)])
    (kk : ∀ (q p : gRF) (n d k t v : Nat) (H : Heap) (locs : List Loc) (ls : Array Slot), sY q p n d k t v → n ≤ i + 1 → d ≤ 24 → t ≤ 8 * (i + 1) → lwH G s zc q H locs → lv_has ls 15 [(11, .int (nI 1)), (10, .int (nI g)), (9, .int (nI cc)), (4, .int (nI i)), (3, .int (nI d)), (2, .int (nI n)), (1, .ref (zc 0)), (0, .ref b)] → W p_ l e_ room_1 s m #[Value.ref b] below meth c H locs CS SS Q (F0 m 666 ls []))
    : W p_ l e_ room_1 s m #[Value.ref b] below meth c H locs cs ss Q (F0 m 207 ls []) := by
  obtain ⟨⟨hx, hb, hret, hml, hown, hts, hXs, hbl, hlocks⟩, hfl, hK, hXX, hB, hL⟩ := id F
  have hf0 : q.2 0 = nI v := h9.1.1.f0
  have hf1 : q.2 1 = nI t := h9.1.1.f1
  have hf3 : q.2 3 = nI n := h9.1.1.f3
  have hv20 := h9.1.1.v20
  refine lv_iload hx hb dL_law_207 (lv_at hl 4 rfl) ?_
  refine lv_bipush (v := nI 6) hx hb dL_law_209 (by decide +kernel) ?_
  refine lv_ishr hx hb dL_law_211 ?_
  refine lv_bipush (v := nI 8) hx hb dL_law_212 (by decide +kernel) ?_
  refine law_rs (As := [.int (ww >>> ((nI 6) &&& 31)), .int (nI 8)]) (rest := []) F (c_L_low l G H (ww >>> ((nI 6) &&& 31)) (nI 8) (nI_ne0 (by decide) (by decide))) (va_cwS 2 hts gL_law_L_low rfl rfl rfl (by decide +kernel) ⟨Nat.le_of_ble_eq_true rfl, Nat.le_of_ble_eq_true rfl⟩) rfl hl.1 dL_law_214 (Nat.le_of_ble_eq_true rfl) ⟨by omega, by omega⟩ ?_
  obtain ⟨o2, ho2, eo2⟩ := cLow_ok (ww >>> ((nI 6) &&& 31)) (n := 8) (by decide) (by decide)
  rw [eo2]
  refine lv_istore (lv' := [(12, .int (nI o2)), (11, .int (nI 1)), (10, .int (nI g)), (9, .int (nI cc)), (8, .int A), (6, .int ww), (4, .int (nI i)), (3, .int (nI d)), (2, .int (nI n)), (1, .ref (zc 0)), (0, .ref b)]) hx hb dL_law_217 hl (by decide) rfl (fun ls hl => ?_)
  refine lv_iload hx hb dL_law_219 (lv_at hl 0 rfl) ?_
  refine lv_iload hx hb dL_law_221 (lv_at hl 3 rfl) ?_
  refine lv_icmp_ge (tgt := 263) hx hb dL_law_223 (by decide) (fun c_1 => ?_) (fun c_1 => ?_)
  · refine lv_goto (tgt := 666) hx hb dL_law_263 (by decide) ?_
    exact W.widen (by omega) (by omega) (kk q p n d k t v _ _ _ h9 (by omega) (by omega) (by omega) hH (show lv_has ls 15 [(11, .int (nI 1)), (10, .int (nI g)), (9, .int (nI cc)), (4, .int (nI i)), (3, .int (nI d)), (2, .int (nI n)), (1, .ref (zc 0)), (0, .ref b)] from lv_sub hl [1, 2, 3, 6, 7, 8, 9, 10] rfl))
  · have ho2 : o2 < cc := by
      have h7 := mt (nI_leI (a := cc) (b := o2) (by omega) (by omega)).mpr c_1
      omega
    refine lv_aload_n hx hb dL_law_226 rfl (lv_at hl 9 rfl) ?_
    refine lv_iload hx hb dL_law_227 (lv_at hl 3 rfl) ?_
    refine lv_iload hx hb dL_law_229 (lv_at hl 0 rfl) ?_
    refine lv_iload hx hb dL_law_231 (lv_at hl 5 rfl) ?_
    refine lv_bipush (v := nI 9) hx hb dL_law_233 (by decide +kernel) ?_
    refine lv_ishr hx hb dL_law_235 ?_
    refine lv_iconst (v := nI 3) hx hb dL_law_236 (by decide +kernel) ?_
    refine law_rs (As := [.int (ww >>> ((nI 9) &&& 31)), .int (nI 3)]) (rest := [.int (nI o2), .int (nI cc), .ref (zc 0)]) F (c_L_low l G H (ww >>> ((nI 9) &&& 31)) (nI 3) (nI_ne0 (by decide) (by decide))) (va_cwS 2 hts gL_law_L_low rfl rfl rfl (by decide +kernel) ⟨Nat.le_of_ble_eq_true rfl, Nat.le_of_ble_eq_true rfl⟩) rfl hl.1 dL_law_237 (Nat.le_of_ble_eq_true rfl) ⟨by omega, by omega⟩ ?_
    obtain ⟨b3, hb3, eb3⟩ := cLow_ok (ww >>> ((nI 9) &&& 31)) (n := 3) (by decide) (by decide)
    rw [eb3]
    refine g_join m 248 15 [(12, .int (nI o2)), (11, .int (nI 1)), (10, .int (nI g)), (9, .int (nI cc)), (8, .int A), (6, .int ww), (4, .int (nI i)), (3, .int (nI d)), (2, .int (nI n)), (1, .ref (zc 0)), (0, .ref b)] [.int (b2i (!decide (nI b3 ≤ 0))), .int (nI o2), .int (nI cc), .ref (zc 0)] (fun ls hl => ?_) (fun hJ248 => ?_)
    · obtain ⟨hkk, hs2, hle⟩ := y_need h9 hcc ho2 (!decide (nI b3 ≤ 0))
      obtain ⟨q2, hq2⟩ : ∃ q2 : gRF, q2 = (cPutW (cPutN q.1 (nI cc) (nI o2) (!decide (nI b3 ≤ 0))) 8, q.2) := ⟨_, rfl⟩
      rw [← hq2] at hs2
      refine law_w (As := [.int (nI cc), .int (nI o2), .int (b2i (!decide (nI b3 ≤ 0)))]) (rest := []) F Z hH (gMqw_of (c_X6_need l hfl G H zc Z.1 q.1 q.2 hH.1 (nI cc) (nI o2) (!decide (nI b3 ≤ 0))) hkk) hq2 (cwV 3 hts gL_law_X6_need rfl rfl rfl (by decide +kernel) ⟨Nat.le_of_ble_eq_true rfl, Nat.le_of_ble_eq_true rfl⟩) rfl hl.1 dL_law_248 (Nat.le_of_ble_eq_true rfl) ⟨by omega, by omega⟩ (fun H locs hH => ?_)
      refine lv_iload hx hb dL_law_251 (lv_at hl 3 rfl) ?_
      refine lv_icmp_gt (tgt := 260) hx hb dL_law_253 (by decide) (fun c_2 => ?_) (fun c_2 => ?_)
      · exact absurd c_2 (Int32.not_lt.mpr hle)
      · refine lv_iconst (v := nI 1) hx hb dL_law_256 (by decide +kernel) ?_
        refine lv_goto (tgt := 261) hx hb dL_law_257 (by decide) ?_
        refine lv_istore (lv' := [(11, .int (nI 1)), (12, .int (nI o2)), (10, .int (nI g)), (9, .int (nI cc)), (8, .int A), (6, .int ww), (4, .int (nI i)), (3, .int (nI d)), (2, .int (nI n)), (1, .ref (zc 0)), (0, .ref b)]) hx hb dL_law_261 hl (by decide) rfl (fun ls hl => ?_)
        refine lv_goto (tgt := 666) hx hb dL_law_263 (by decide) ?_
        exact W.widen (by omega) (by omega) (kk q2 _ n d k t v _ _ _ hs2 (by omega) (by omega) (by omega) hH (show lv_has ls 15 [(11, .int (nI 1)), (10, .int (nI g)), (9, .int (nI cc)), (4, .int (nI i)), (3, .int (nI d)), (2, .int (nI n)), (1, .ref (zc 0)), (0, .ref b)] from lv_sub hl [0, 2, 3, 6, 7, 8, 9, 10] rfl))
    · refine lv_if_le (tgt := 247) hx hb dL_law_240 (by decide) (fun c_3 => ?_) (fun c_3 => ?_)
      · refine lv_iconst (v := nI 0) hx hb dL_law_247 (by decide +kernel) ?_
        refine W.eq (g2 := F0 m 248 ls [.int (b2i (!decide (nI b3 ≤ 0))), .int (nI o2), .int (nI cc), .ref (zc 0)]) (g_st (gs_i (show nI 0 = b2i (!decide (nI b3 ≤ 0)) by first | with_reducible rfl | with_reducible exact nI_add _ _ | (simp only [c_1, c_3, ↓reduceIte, Bool.false_eq_true, decide_true, decide_false, Bool.not_true, Bool.not_false, Bool.or_true, Bool.true_or, Bool.or_false, Bool.false_or]; done) | (simp only [c_1, c_3, ↓reduceIte, Bool.false_eq_true, decide_true, decide_false, Bool.not_true, Bool.not_false, Bool.or_true, Bool.true_or, Bool.or_false, Bool.false_or]; with_reducible rfl) | (simp only [c_1, c_3, ↓reduceIte, Bool.false_eq_true, decide_true, decide_false, Bool.not_true, Bool.not_false, Bool.or_true, Bool.true_or, Bool.or_false, Bool.false_or]; rfl) | (simp [b2i, c_1, c_3]; done) | rfl) (gs_s (gs_s (gs_s rfl))))) ?_
        exact hJ248 _ (show lv_has ls 15 [(12, .int (nI o2)), (11, .int (nI 1)), (10, .int (nI g)), (9, .int (nI cc)), (8, .int A), (6, .int ww), (4, .int (nI i)), (3, .int (nI d)), (2, .int (nI n)), (1, .ref (zc 0)), (0, .ref b)] from lv_sub hl [0, 1, 2, 3, 4, 5, 6, 7, 8, 9, 10] rfl)
      · refine lv_iconst (v := nI 1) hx hb dL_law_243 (by decide +kernel) ?_
        refine lv_goto (tgt := 248) hx hb dL_law_244 (by decide) ?_
        refine W.eq (g2 := F0 m 248 ls [.int (b2i (!decide (nI b3 ≤ 0))), .int (nI o2), .int (nI cc), .ref (zc 0)]) (g_st (gs_i (show nI 1 = b2i (!decide (nI b3 ≤ 0)) by first | with_reducible rfl | with_reducible exact nI_add _ _ | (simp only [c_1, c_3, ↓reduceIte, Bool.false_eq_true, decide_true, decide_false, Bool.not_true, Bool.not_false, Bool.or_true, Bool.true_or, Bool.or_false, Bool.false_or]; done) | (simp only [c_1, c_3, ↓reduceIte, Bool.false_eq_true, decide_true, decide_false, Bool.not_true, Bool.not_false, Bool.or_true, Bool.true_or, Bool.or_false, Bool.false_or]; with_reducible rfl) | (simp only [c_1, c_3, ↓reduceIte, Bool.false_eq_true, decide_true, decide_false, Bool.not_true, Bool.not_false, Bool.or_true, Bool.true_or, Bool.or_false, Bool.false_or]; rfl) | (simp [b2i, c_1, c_3]; done) | rfl) (gs_s (gs_s (gs_s rfl))))) ?_
        exact hJ248 _ (show lv_has ls 15 [(12, .int (nI o2)), (11, .int (nI 1)), (10, .int (nI g)), (9, .int (nI cc)), (8, .int A), (6, .int ww), (4, .int (nI i)), (3, .int (nI d)), (2, .int (nI n)), (1, .ref (zc 0)), (0, .ref b)] from lv_sub hl [0, 1, 2, 3, 4, 5, 6, 7, 8, 9, 10] rfl)
set_option maxHeartbeats 4000000 in
set_option maxRecDepth 100000 in
theorem law_op4 (F : lwF p_ l s m meth c b L xs G) (Z : lwZ s zc) {q p : gRF} {n d k t v : Nat} (h9 : sY q p n d k t v) {H : Heap} {locs : List Loc} (hH : lwH G s zc q H locs) {cs ss : Nat} {ls : Array Slot} {i g cc : Nat} {A ww : Int32} (hi : i < 60) (hn : n ≤ i) (hd : d ≤ 24) (ht : t ≤ 8 * i) (hg : g < 4) (hcc : cc < 8) (hA : A = -1 ∨ ∃ a, a < 6 ∧ A = nI a ∧ cRest q.1 (nI a) (q.2 1) = false) {CS SS : Nat} (hC : cs + 10 ≤ CS ∧ ss + 60 ≤ SS ∧ CS + 10 ≤ 600130 ∧ SS + 60 ≤ 7301080) (hl : lv_has ls 15 [(11, .int (nI 1)), (10, .int (nI g)), (9, .int (nI cc)), (8, .int A), (6, .int ww), (4, .int (nI i)), (3, .int (nI d)), (2, .int (nI n)), (1, .ref (zc 0)), (0, .ref b)])
    (kk : ∀ (q p : gRF) (n d k t v : Nat) (H : Heap) (locs : List Loc) (ls : Array Slot), sY q p n d k t v → n ≤ i + 1 → d ≤ 24 → t ≤ 8 * (i + 1) → lwH G s zc q H locs → lv_has ls 15 [(11, .int (nI 1)), (10, .int (nI g)), (9, .int (nI cc)), (4, .int (nI i)), (3, .int (nI d)), (2, .int (nI n)), (1, .ref (zc 0)), (0, .ref b)] → W p_ l e_ room_1 s m #[Value.ref b] below meth c H locs CS SS Q (F0 m 666 ls []))
    : W p_ l e_ room_1 s m #[Value.ref b] below meth c H locs cs ss Q (F0 m 273 ls []) := by
  obtain ⟨⟨hx, hb, hret, hml, hown, hts, hXs, hbl, hlocks⟩, hfl, hK, hXX, hB, hL⟩ := id F
  have hf0 : q.2 0 = nI v := h9.1.1.f0
  have hf1 : q.2 1 = nI t := h9.1.1.f1
  have hf3 : q.2 3 = nI n := h9.1.1.f3
  have hv20 := h9.1.1.v20
  refine lv_iload hx hb dL_law_273 (lv_at hl 4 rfl) ?_
  refine lv_bipush (v := nI 9) hx hb dL_law_275 (by decide +kernel) ?_
  refine lv_ishr hx hb dL_law_277 ?_
  refine lv_iconst (v := nI 5) hx hb dL_law_278 (by decide +kernel) ?_
  refine law_rs (As := [.int (ww >>> ((nI 9) &&& 31)), .int (nI 5)]) (rest := []) F (c_L_low l G H (ww >>> ((nI 9) &&& 31)) (nI 5) (nI_ne0 (by decide) (by decide))) (va_cwS 2 hts gL_law_L_low rfl rfl rfl (by decide +kernel) ⟨Nat.le_of_ble_eq_true rfl, Nat.le_of_ble_eq_true rfl⟩) rfl hl.1 dL_law_279 (Nat.le_of_ble_eq_true rfl) ⟨by omega, by omega⟩ ?_
  obtain ⟨y, hy, ey⟩ := cLow_ok (ww >>> ((nI 9) &&& 31)) (n := 5) (by decide) (by decide)
  rw [ey]
  refine lv_istore (lv' := [(12, .int (nI y)), (11, .int (nI 1)), (10, .int (nI g)), (9, .int (nI cc)), (8, .int A), (6, .int ww), (4, .int (nI i)), (3, .int (nI d)), (2, .int (nI n)), (1, .ref (zc 0)), (0, .ref b)]) hx hb dL_law_282 hl (by decide) rfl (fun ls hl => ?_)
  refine lv_iload hx hb dL_law_284 (lv_at hl 4 rfl) ?_
  refine lv_if_lt (tgt := 358) hx hb dL_law_286 (by decide) (fun c_1 => ?_) (fun c_1 => ?_)
  · refine lv_goto (tgt := 666) hx hb dL_law_358 (by decide) ?_
    exact W.widen (by omega) (by omega) (kk q p n d k t v _ _ _ h9 (by omega) (by omega) (by omega) hH (show lv_has ls 15 [(11, .int (nI 1)), (10, .int (nI g)), (9, .int (nI cc)), (4, .int (nI i)), (3, .int (nI d)), (2, .int (nI n)), (1, .ref (zc 0)), (0, .ref b)] from lv_sub hl [1, 2, 3, 6, 7, 8, 9, 10] rfl))
  · obtain ⟨a, ha, ea, ra⟩ := hA.resolve_left (fun z => c_1 (by rw [z]; decide))
    have eR : A = nI a := by exact ea
    rw [eR] at hl
    refine lv_aload_n hx hb dL_law_289 rfl (lv_at hl 9 rfl) ?_
    refine lv_iload hx hb dL_law_290 (lv_at hl 3 rfl) ?_
    refine law_q (As := [.int (nI cc)]) (rest := []) F hH (gMq_of (c_X6_level l hfl G H zc q.1 q.2 hH.1 (nI cc)) (kSwitch_0 hcc)) (cwV 1 hts gL_law_X6_level rfl rfl rfl (by decide +kernel) ⟨Nat.le_of_ble_eq_true rfl, Nat.le_of_ble_eq_true rfl⟩) rfl hl.1 dL_law_292 (Nat.le_of_ble_eq_true rfl) ⟨by omega, by omega⟩ ?_
    refine lv_iload hx hb dL_law_295 (lv_at hl 0 rfl) ?_
    refine lv_icmp_eq (tgt := 358) hx hb dL_law_297 (by decide) (fun c_2 => ?_) (fun c_2 => ?_)
    · refine lv_goto (tgt := 666) hx hb dL_law_358 (by decide) ?_
      exact W.widen (by omega) (by omega) (kk q p n d k t v _ _ _ h9 (by omega) (by omega) (by omega) hH (show lv_has ls 15 [(11, .int (nI 1)), (10, .int (nI g)), (9, .int (nI cc)), (4, .int (nI i)), (3, .int (nI d)), (2, .int (nI n)), (1, .ref (zc 0)), (0, .ref b)] from lv_sub hl [1, 2, 3, 6, 7, 8, 9, 10] rfl))
    · have hne := c_2
      refine lv_aload_n hx hb dL_law_300 rfl (lv_at hl 9 rfl) ?_
      refine lv_iload hx hb dL_law_301 (lv_at hl 4 rfl) ?_
      refine lv_iload hx hb dL_law_303 (lv_at hl 3 rfl) ?_
      refine lv_iload hx hb dL_law_305 (lv_at hl 0 rfl) ?_
      have hkk := y_turn h9 (by omega) ha hcc hy ra hne
      obtain ⟨q2, hq2, ⟨p2, hs2⟩, g1, g2, g3, g4, g5⟩ := y_add h9 (by omega) ha (show cc < 12 by omega) (fun _ => hy) (fun z => absurd hcc z) hne
      refine law_w (As := [.int (nI a), .int (nI cc), .int (nI y)]) (rest := []) F Z hH (gMqw_of (c_X6_turn l hfl G H zc Z.1 q.1 q.2 hH.1 (nI a) (nI cc) (nI y)) hkk) hq2 (cwV 3 hts gL_law_X6_turn rfl rfl rfl (by decide +kernel) ⟨Nat.le_of_ble_eq_true rfl, Nat.le_of_ble_eq_true rfl⟩) rfl hl.1 dL_law_307 (Nat.le_of_ble_eq_true rfl) ⟨by omega, by omega⟩ (fun H locs hH => ?_)
      refine lv_iload_n hx hb dL_law_310 rfl (lv_at hl 8 rfl) ?_
      refine lv_icmp_ne (tgt := 352) hx hb dL_law_311 (by decide) (fun c_3 => ?_) (fun c_3 => ?_)
      · exact absurd hf3 c_3
      · refine lv_aload_n hx hb dL_law_314 rfl (lv_at hl 9 rfl) ?_
        refine lv_iload hx hb dL_law_315 (lv_at hl 3 rfl) ?_
        refine law_q (As := [.int (nI cc)]) (rest := []) F hH (gMq_of (c_X6_level l hfl G H zc q2.1 q2.2 hH.1 (nI cc)) (kSwitch_0 hcc)) (cwV 1 hts gL_law_X6_level rfl rfl rfl (by decide +kernel) ⟨Nat.le_of_ble_eq_true rfl, Nat.le_of_ble_eq_true rfl⟩) rfl hl.1 dL_law_317 (Nat.le_of_ble_eq_true rfl) ⟨by omega, by omega⟩ ?_
        refine lv_iload hx hb dL_law_320 (lv_at hl 0 rfl) ?_
        refine lv_icmp_ne (tgt := 352) hx hb dL_law_322 (by decide) (fun c_4 => ?_) (fun c_4 => ?_)
        · exact absurd g1 c_4
        · refine lv_aload_n hx hb dL_law_325 rfl (lv_at hl 9 rfl) ?_
          refine lv_iload_n hx hb dL_law_326 rfl (lv_at hl 8 rfl) ?_
          refine law_q (As := [.int (nI n)]) (rest := []) F hH (gMq_of (c_X6_change l hfl G H zc q2.1 q2.2 hH.1 (nI n)) (by rw [hs2.1.1.f3]; exact kBelow_0 (by omega) (by omega))) (cwV 1 hts gL_law_X6_change rfl rfl rfl (by decide +kernel) ⟨Nat.le_of_ble_eq_true rfl, Nat.le_of_ble_eq_true rfl⟩) rfl hl.1 dL_law_327 (Nat.le_of_ble_eq_true rfl) ⟨by omega, by omega⟩ ?_
          refine lv_sipush (v := nI 10000) hx hb dL_law_330 (by decide +kernel) ?_
          refine lv_iload hx hb dL_law_333 (lv_at hl 4 rfl) ?_
          refine lv_imul hx hb dL_law_335 ?_
          refine lv_bipush (v := nI 100) hx hb dL_law_336 (by decide +kernel) ?_
          refine lv_iload hx hb dL_law_338 (lv_at hl 3 rfl) ?_
          refine lv_imul hx hb dL_law_340 ?_
          refine lv_iadd hx hb dL_law_341 ?_
          refine lv_iload hx hb dL_law_342 (lv_at hl 0 rfl) ?_
          refine lv_iadd hx hb dL_law_344 ?_
          refine lv_icmp_ne (tgt := 352) hx hb dL_law_345 (by decide) (fun c_5 => ?_) (fun c_5 => ?_)
          · exact absurd (by rw [cChg (show cc < 12 by omega) g2 g3 g4, show scS cc = cc from if_pos hcc, pk_mul, pk_mul, nI_add, nI_add]) c_5
          · refine lv_iconst (v := nI 1) hx hb dL_law_348 (by decide +kernel) ?_
            refine lv_goto (tgt := 353) hx hb dL_law_349 (by decide) ?_
            refine lv_istore (lv' := [(11, .int (nI 1)), (12, .int (nI y)), (10, .int (nI g)), (9, .int (nI cc)), (8, .int (nI a)), (6, .int ww), (4, .int (nI i)), (3, .int (nI d)), (2, .int (nI n)), (1, .ref (zc 0)), (0, .ref b)]) hx hb dL_law_353 hl (by decide) rfl (fun ls hl => ?_)
            refine lv_iinc (v := (nI n) + nI 1) (lv' := [(2, .int ((nI n) + nI 1)), (11, .int (nI 1)), (12, .int (nI y)), (10, .int (nI g)), (9, .int (nI cc)), (8, .int (nI a)), (6, .int ww), (4, .int (nI i)), (3, .int (nI d)), (1, .ref (zc 0)), (0, .ref b)]) hx hb dL_law_355 hl (k := 8) rfl (congrArg (fun q : Int32 => (nI n) + q) (by decide +kernel)) (by decide) rfl (fun ls hl => ?_)
            refine lv_goto (tgt := 666) hx hb dL_law_358 (by decide) ?_
            exact W.widen (by omega) (by omega) (kk q2 p2 (n + 1) d k t v _ _ _ hs2 (by omega) (by omega) (by omega) hH (lv_cv (show lv_has ls 15 [(11, .int (nI 1)), (10, .int (nI g)), (9, .int (nI cc)), (4, .int (nI i)), (3, .int (nI d)), (2, .int ((nI n) + nI 1)), (1, .ref (zc 0)), (0, .ref b)] from lv_sub hl [1, 3, 4, 7, 8, 0, 9, 10] rfl) (gl_s (gl_s (gl_s (gl_s (gl_s (gl_i (show (nI n) + nI 1 = nI (n + 1) by first | with_reducible rfl | with_reducible exact nI_add _ _ | (simp only [c_1, c_2, c_3, c_4, c_5, ↓reduceIte, Bool.false_eq_true, decide_true, decide_false, Bool.not_true, Bool.not_false, Bool.or_true, Bool.true_or, Bool.or_false, Bool.false_or]; done) | (simp only [c_1, c_2, c_3, c_4, c_5, ↓reduceIte, Bool.false_eq_true, decide_true, decide_false, Bool.not_true, Bool.not_false, Bool.or_true, Bool.true_or, Bool.or_false, Bool.false_or]; with_reducible rfl) | (simp only [c_1, c_2, c_3, c_4, c_5, ↓reduceIte, Bool.false_eq_true, decide_true, decide_false, Bool.not_true, Bool.not_false, Bool.or_true, Bool.true_or, Bool.or_false, Bool.false_or]; rfl) | (simp [b2i, c_1, c_2, c_3, c_4, c_5]; done) | rfl) (gl_s (gl_s rfl))))))))))
end SD0
