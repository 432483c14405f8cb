section SD0
variable {p_ : Program} {e_ : Env} {l : Launch} {s : State} {m : MethodId} {below : List Frame} {meth : Method} {c : Code} {b L : Nat} {xs : Nat → Int32} {G : gG} {zc : Nat → Nat} {Q : State → Prop}
set_option maxHeartbeats 4000000 in
set_option maxRecDepth 100000 in
theorem law_disp (F : lwF p_ l s m meth c b L xs G) (Z : lwZ s zc) {q p : gRF} {n d k t v : Nat} (h9 : sY q p n d k t v) {H : Heap} {locs : List Loc} (hH : lwH G s zc q H locs) {cs ss : Nat} {ls : Array Slot} {i g cc : Nat} {A ww a7 : Int32} (hi : i < 60) (hn : n ≤ i) (hd : d ≤ 24) (ht : t ≤ 8 * i) (hg : g < 4) (hcc : cc < 8) (hA : A = -1 ∨ ∃ a, a < 6 ∧ A = nI a ∧ cRest q.1 (nI a) (q.2 1) = false) {CS SS : Nat} (hC : cs + 10 ≤ CS ∧ ss + 60 ≤ SS ∧ CS + 10 ≤ 600130 ∧ SS + 60 ≤ 7301080) (hl : lv_has ls 15 [(11, .int (nI 1)), (10, .int (nI g)), (9, .int (nI cc)), (8, .int A), (7, .int a7), (6, .int ww), (4, .int (nI i)), (3, .int (nI d)), (2, .int (nI n)), (1, .ref (zc 0)), (0, .ref b)])
    (kk : ∀ (q p : gRF) (n d k t v : Nat) (H : Heap) (locs : List Loc) (ls : Array Slot), sY q p n d k t v → n ≤ i + 1 → d ≤ 24 → t ≤ 8 * (i + 1) → lwH G s zc q H locs → lv_has ls 15 [(11, .int (nI 1)), (10, .int (nI g)), (9, .int (nI cc)), (4, .int (nI i)), (3, .int (nI d)), (2, .int (nI n)), (1, .ref (zc 0)), (0, .ref b)] → W p_ l e_ room_1 s m #[Value.ref b] below meth c H locs CS SS Q (F0 m 666 ls []))
    : W p_ l e_ room_1 s m #[Value.ref b] below meth c H locs cs ss Q (F0 m 91 ls []) := by
  obtain ⟨⟨hx, hb, hret, hml, hown, hts, hXs, hbl, hlocks⟩, hfl, hK, hXX, hB, hL⟩ := id F
  have hf0 : q.2 0 = nI v := h9.1.1.f0
  have hf1 : q.2 1 = nI t := h9.1.1.f1
  have hf3 : q.2 3 = nI n := h9.1.1.f3
  have hv20 := h9.1.1.v20
  refine lv_iload hx hb dL_law_91 (lv_at hl 4 rfl) ?_
  refine lv_if_ne (tgt := 128) hx hb dL_law_93 (by decide) (fun c_1 => ?_) (fun c_1 => ?_)
  · refine lv_iload hx hb dL_law_128 (lv_at hl 4 rfl) ?_
    refine lv_iconst (v := nI 3) hx hb dL_law_130 (by decide +kernel) ?_
    refine lv_icmp_ge (tgt := 201) hx hb dL_law_131 (by decide) (fun c_2 => ?_) (fun c_2 => ?_)
    · refine lv_iload hx hb dL_law_201 (lv_at hl 4 rfl) ?_
      refine lv_iconst (v := nI 3) hx hb dL_law_203 (by decide +kernel) ?_
      refine lv_icmp_ne (tgt := 266) hx hb dL_law_204 (by decide) (fun c_3 => ?_) (fun c_3 => ?_)
      · refine lv_iload hx hb dL_law_266 (lv_at hl 4 rfl) ?_
        refine lv_bipush (v := nI 6) hx hb dL_law_268 (by decide +kernel) ?_
        refine lv_icmp_ge (tgt := 361) hx hb dL_law_270 (by decide) (fun c_4 => ?_) (fun c_4 => ?_)
        · refine lv_iload hx hb dL_law_361 (lv_at hl 4 rfl) ?_
          refine lv_bipush (v := nI 9) hx hb dL_law_363 (by decide +kernel) ?_
          refine lv_icmp_ge (tgt := 436) hx hb dL_law_365 (by decide) (fun c_5 => ?_) (fun c_5 => ?_)
          · refine lv_iload hx hb dL_law_436 (lv_at hl 4 rfl) ?_
            refine lv_bipush (v := nI 9) hx hb dL_law_438 (by decide +kernel) ?_
            refine lv_icmp_ne (tgt := 527) hx hb dL_law_440 (by decide) (fun c_6 => ?_) (fun c_6 => ?_)
            · refine lv_iload hx hb dL_law_527 (lv_at hl 4 rfl) ?_
              refine lv_bipush (v := nI 10) hx hb dL_law_529 (by decide +kernel) ?_
              refine lv_icmp_ne (tgt := 623) hx hb dL_law_531 (by decide) (fun c_7 => ?_) (fun c_7 => ?_)
              · exact law_op11 F Z h9 hH hi hn hd ht hg hcc hA hC (show lv_has ls 15 [(11, .int (nI 1)), (10, .int (nI g)), (9, .int (nI cc)), (8, .int A), (6, .int ww), (4, .int (nI i)), (3, .int (nI d)), (2, .int (nI n)), (1, .ref (zc 0)), (0, .ref b)] from lv_sub hl [0, 1, 2, 3, 5, 6, 7, 8, 9, 10] rfl) kk
              · exact law_op10 F Z h9 hH hi hn hd ht hg hcc hA hC (show lv_has ls 15 [(11, .int (nI 1)), (10, .int (nI g)), (9, .int (nI cc)), (8, .int A), (6, .int ww), (4, .int (nI i)), (3, .int (nI d)), (2, .int (nI n)), (1, .ref (zc 0)), (0, .ref b)] from lv_sub hl [0, 1, 2, 3, 5, 6, 7, 8, 9, 10] rfl) kk
            · exact law_op9 F Z h9 hH hi hn hd ht hg hcc hA hC (show lv_has ls 15 [(11, .int (nI 1)), (10, .int (nI g)), (9, .int (nI cc)), (8, .int A), (6, .int ww), (4, .int (nI i)), (3, .int (nI d)), (2, .int (nI n)), (1, .ref (zc 0)), (0, .ref b)] from lv_sub hl [0, 1, 2, 3, 5, 6, 7, 8, 9, 10] rfl) kk
          · exact law_op6 F Z h9 hH hi hn hd ht hg hcc hA hC (show lv_has ls 15 [(11, .int (nI 1)), (10, .int (nI g)), (9, .int (nI cc)), (8, .int A), (6, .int ww), (4, .int (nI i)), (3, .int (nI d)), (2, .int (nI n)), (1, .ref (zc 0)), (0, .ref b)] from lv_sub hl [0, 1, 2, 3, 5, 6, 7, 8, 9, 10] rfl) kk
        · exact law_op4 F Z h9 hH hi hn hd ht hg hcc hA hC (show lv_has ls 15 [(11, .int (nI 1)), (10, .int (nI g)), (9, .int (nI cc)), (8, .int A), (6, .int ww), (4, .int (nI i)), (3, .int (nI d)), (2, .int (nI n)), (1, .ref (zc 0)), (0, .ref b)] from lv_sub hl [0, 1, 2, 3, 5, 6, 7, 8, 9, 10] rfl) kk
      · exact law_op3 F Z h9 hH hi hn hd ht hg hcc hA hC (show lv_has ls 15 [(11, .int (nI 1)), (10, .int (nI g)), (9, .int (nI cc)), (8, .int A), (6, .int ww), (4, .int (nI i)), (3, .int (nI d)), (2, .int (nI n)), (1, .ref (zc 0)), (0, .ref b)] from lv_sub hl [0, 1, 2, 3, 5, 6, 7, 8, 9, 10] rfl) kk
    · exact law_op1 F Z h9 hH hi hn hd ht hg hcc hA hC (show lv_has ls 15 [(11, .int (nI 1)), (10, .int (nI g)), (9, .int (nI cc)), (8, .int A), (6, .int ww), (4, .int (nI i)), (3, .int (nI d)), (2, .int (nI n)), (1, .ref (zc 0)), (0, .ref b)] from lv_sub hl [0, 1, 2, 3, 5, 6, 7, 8, 9, 10] rfl) kk
  · exact law_op0 F Z h9 hH hi hn hd ht hg hcc hA hC (show lv_has ls 15 [(11, .int (nI 1)), (10, .int (nI g)), (9, .int (nI cc)), (8, .int A), (6, .int ww), (4, .int (nI i)), (3, .int (nI d)), (2, .int (nI n)), (1, .ref (zc 0)), (0, .ref b)] from lv_sub hl [0, 1, 2, 3, 5, 6, 7, 8, 9, 10] rfl) kk
set_option maxHeartbeats 4000000 in
set_option maxRecDepth 100000 in
theorem law_pre (F : lwF p_ l s m meth c b L xs G) (Z : lwZ s zc) {q p : gRF} {n d k t v : Nat} (h9 : sY q p n d k t v) {H : Heap} {locs : List Loc} (hH : lwH G s zc q H locs) {cs ss : Nat} {ls : Array Slot} {i : Nat} (hi : i < 60) (hn : n ≤ i) (hd : d ≤ 24) (ht : t ≤ 8 * i) {CS SS : Nat} (hC : cs + 10 ≤ CS ∧ ss + 60 ≤ SS ∧ CS + 10 ≤ 600130 ∧ SS + 60 ≤ 7301080) (hl : lv_has ls 15 [(4, .int (nI i)), (3, .int (nI d)), (2, .int (nI n)), (1, .ref (zc 0)), (0, .ref b)])
    (kk : ∀ (g cc : Nat), g < 4 → cc < 8 → ∀ (q p : gRF) (n d k t v : Nat) (H : Heap) (locs : List Loc) (ls : Array Slot), sY q p n d k t v → n ≤ i + 1 → d ≤ 24 → t ≤ 8 * (i + 1) → lwH G s zc q H locs → lv_has ls 15 [(11, .int (nI 1)), (10, .int (nI g)), (9, .int (nI cc)), (4, .int (nI i)), (3, .int (nI d)), (2, .int (nI n)), (1, .ref (zc 0)), (0, .ref b)] → W p_ l e_ room_1 s m #[Value.ref b] below meth c H locs CS SS Q (F0 m 666 ls []))
    : W p_ l e_ room_1 s m #[Value.ref b] below meth c H locs cs ss Q (F0 m 22 ls []) := by
  obtain ⟨⟨hx, hb, hret, hml, hown, hts, hXs, hbl, hlocks⟩, hfl, hK, hXX, hB, hL⟩ := id F
  have hf0 : q.2 0 = nI v := h9.1.1.f0
  have hf1 : q.2 1 = nI t := h9.1.1.f1
  have hf3 : q.2 3 = nI n := h9.1.1.f3
  have hv20 := h9.1.1.v20
  refine lv_aload_n hx hb dL_law_22 rfl (lv_at hl 4 rfl) ?_
  refine lv_iconst (v := nI 2) hx hb dL_law_23 (by decide +kernel) ?_
  refine lv_iload hx hb dL_law_24 (lv_at hl 0 rfl) ?_
  refine lv_imul hx hb dL_law_26 ?_
  refine law_cell (rest := []) F hH (k := (2 * i)) (pk_mul 2 i) (by omega) hl.1 dL_law_27 (Nat.le_of_ble_eq_true rfl) ⟨by omega, by omega⟩ ?_
  refine lv_istore (lv' := [(5, .int (cCell L xs (2 * i))), (4, .int (nI i)), (3, .int (nI d)), (2, .int (nI n)), (1, .ref (zc 0)), (0, .ref b)]) hx hb dL_law_30 hl (by decide) rfl (fun ls hl => ?_)
  refine lv_aload_n hx hb dL_law_32 rfl (lv_at hl 5 rfl) ?_
  refine lv_iconst (v := nI 2) hx hb dL_law_33 (by decide +kernel) ?_
  refine lv_iload hx hb dL_law_34 (lv_at hl 1 rfl) ?_
  refine lv_imul hx hb dL_law_36 ?_
  refine lv_iconst (v := nI 1) hx hb dL_law_37 (by decide +kernel) ?_
  refine lv_iadd hx hb dL_law_38 ?_
  refine law_cell (rest := []) F hH (k := (2 * i + 1)) (by rw [pk_mul, nI_add]) (by omega) hl.1 dL_law_39 (Nat.le_of_ble_eq_true rfl) ⟨by omega, by omega⟩ ?_
  refine lv_istore (lv' := [(6, .int (cCell L xs (2 * i + 1))), (5, .int (cCell L xs (2 * i))), (4, .int (nI i)), (3, .int (nI d)), (2, .int (nI n)), (1, .ref (zc 0)), (0, .ref b)]) hx hb dL_law_42 hl (by decide) rfl (fun ls hl => ?_)
  refine lv_iload hx hb dL_law_44 (lv_at hl 1 rfl) ?_
  refine lv_bipush (v := nI 14) hx hb dL_law_46 (by decide +kernel) ?_
  refine law_rs (As := [.int (cCell L xs (2 * i)), .int (nI 14)]) (rest := []) F (c_L_low l G H (cCell L xs (2 * i)) (nI 14) (nI_ne0 (by decide) (by decide))) (va_cwS 2 hts gL_law_L_low rfl rfl rfl (by decide +kernel) ⟨Nat.le_of_ble_eq_true rfl, Nat.le_of_ble_eq_true rfl⟩) rfl hl.1 dL_law_48 (Nat.le_of_ble_eq_true rfl) ⟨by omega, by omega⟩ ?_
  obtain ⟨aw, haw, eaw⟩ := cLow_ok (cCell L xs (2 * i)) (n := 14) (by decide) (by decide)
  rw [eaw]
  refine lv_istore (lv' := [(7, .int (nI aw)), (6, .int (cCell L xs (2 * i + 1))), (5, .int (cCell L xs (2 * i))), (4, .int (nI i)), (3, .int (nI d)), (2, .int (nI n)), (1, .ref (zc 0)), (0, .ref b)]) hx hb dL_law_51 hl (by decide) rfl (fun ls hl => ?_)
  refine lv_aload_n hx hb dL_law_53 rfl (lv_at hl 6 rfl) ?_
  refine lv_iload hx hb dL_law_54 (lv_at hl 1 rfl) ?_
  refine lv_bipush (v := nI 6) hx hb dL_law_56 (by decide +kernel) ?_
  refine law_rs (As := [.int (cCell L xs (2 * i + 1)), .int (nI 6)]) (rest := [.ref (zc 0)]) F (c_L_low l G H (cCell L xs (2 * i + 1)) (nI 6) (nI_ne0 (by decide) (by decide))) (va_cwS 2 hts gL_law_L_low rfl rfl rfl (by decide +kernel) ⟨Nat.le_of_ble_eq_true rfl, Nat.le_of_ble_eq_true rfl⟩) rfl hl.1 dL_law_58 (Nat.le_of_ble_eq_true rfl) ⟨by omega, by omega⟩ ?_
  obtain ⟨g0, hg0, eg0⟩ := cLow_ok (cCell L xs (2 * i + 1)) (n := 6) (by decide) (by decide)
  rw [eg0]
  refine law_qs (As := [.ref (zc 0), .int (nI g0)]) (rest := []) F hH (c_L_awake l hfl G H zc q.1 q.2 hH.1 (nI g0) g0 rfl hg0) (va_cwS 2 hts gL_law_L_awake rfl rfl rfl (by decide +kernel) ⟨Nat.le_of_ble_eq_true rfl, Nat.le_of_ble_eq_true rfl⟩) rfl hl.1 dL_law_61 (Nat.le_of_ble_eq_true rfl) ⟨by omega, by omega⟩ ?_
  refine lv_istore (lv' := [(8, .int (cAw q.1 (q.2 1) g0)), (7, .int (nI aw)), (6, .int (cCell L xs (2 * i + 1))), (5, .int (cCell L xs (2 * i))), (4, .int (nI i)), (3, .int (nI d)), (2, .int (nI n)), (1, .ref (zc 0)), (0, .ref b)]) hx hb dL_law_64 hl (by decide) rfl (fun ls hl => ?_)
  refine lv_iload hx hb dL_law_66 (lv_at hl 2 rfl) ?_
  refine lv_iconst (v := nI 3) hx hb dL_law_68 (by decide +kernel) ?_
  refine lv_ishr hx hb dL_law_69 ?_
  refine lv_bipush (v := nI 8) hx hb dL_law_70 (by decide +kernel) ?_
  refine law_rs (As := [.int ((cCell L xs (2 * i + 1)) >>> ((nI 3) &&& 31)), .int (nI 8)]) (rest := []) F (c_L_low l G H ((cCell L xs (2 * i + 1)) >>> ((nI 3) &&& 31)) (nI 8) (nI_ne0 (by decide) (by decide))) (va_cwS 2 hts gL_law_L_low rfl rfl rfl (by decide +kernel) ⟨Nat.le_of_ble_eq_true rfl, Nat.le_of_ble_eq_true rfl⟩) rfl hl.1 dL_law_72 (Nat.le_of_ble_eq_true rfl) ⟨by omega, by omega⟩ ?_
  obtain ⟨cc, hcc, ecc⟩ := cLow_ok ((cCell L xs (2 * i + 1)) >>> ((nI 3) &&& 31)) (n := 8) (by decide) (by decide)
  rw [ecc]
  refine lv_istore (lv' := [(9, .int (nI cc)), (8, .int (cAw q.1 (q.2 1) g0)), (7, .int (nI aw)), (6, .int (cCell L xs (2 * i + 1))), (5, .int (cCell L xs (2 * i))), (4, .int (nI i)), (3, .int (nI d)), (2, .int (nI n)), (1, .ref (zc 0)), (0, .ref b)]) hx hb dL_law_75 hl (by decide) rfl (fun ls hl => ?_)
  refine lv_iload hx hb dL_law_77 (lv_at hl 3 rfl) ?_
  refine lv_bipush (v := nI 6) hx hb dL_law_79 (by decide +kernel) ?_
  refine lv_ishr hx hb dL_law_81 ?_
  refine lv_iconst (v := nI 4) hx hb dL_law_82 (by decide +kernel) ?_
  refine law_rs (As := [.int ((cCell L xs (2 * i + 1)) >>> ((nI 6) &&& 31)), .int (nI 4)]) (rest := []) F (c_L_low l G H ((cCell L xs (2 * i + 1)) >>> ((nI 6) &&& 31)) (nI 4) (nI_ne0 (by decide) (by decide))) (va_cwS 2 hts gL_law_L_low rfl rfl rfl (by decide +kernel) ⟨Nat.le_of_ble_eq_true rfl, Nat.le_of_ble_eq_true rfl⟩) rfl hl.1 dL_law_83 (Nat.le_of_ble_eq_true rfl) ⟨by omega, by omega⟩ ?_
  obtain ⟨g, hg, eg⟩ := cLow_ok ((cCell L xs (2 * i + 1)) >>> ((nI 6) &&& 31)) (n := 4) (by decide) (by decide)
  rw [eg]
  refine lv_istore (lv' := [(10, .int (nI g)), (9, .int (nI cc)), (8, .int (cAw q.1 (q.2 1) g0)), (7, .int (nI aw)), (6, .int (cCell L xs (2 * i + 1))), (5, .int (cCell L xs (2 * i))), (4, .int (nI i)), (3, .int (nI d)), (2, .int (nI n)), (1, .ref (zc 0)), (0, .ref b)]) hx hb dL_law_86 hl (by decide) rfl (fun ls hl => ?_)
  refine lv_iconst (v := nI 1) hx hb dL_law_88 (by decide +kernel) ?_
  refine lv_istore (lv' := [(11, .int (nI 1)), (10, .int (nI g)), (9, .int (nI cc)), (8, .int (cAw q.1 (q.2 1) g0)), (7, .int (nI aw)), (6, .int (cCell L xs (2 * i + 1))), (5, .int (cCell L xs (2 * i))), (4, .int (nI i)), (3, .int (nI d)), (2, .int (nI n)), (1, .ref (zc 0)), (0, .ref b)]) hx hb dL_law_89 hl (by decide) rfl (fun ls hl => ?_)
  exact law_disp F Z h9 hH hi hn hd ht hg hcc ((f_awake q.1 (q.2 1) hg0).imp And.left id) hC (show lv_has ls 15 [(11, .int (nI 1)), (10, .int (nI g)), (9, .int (nI cc)), (8, .int (cAw q.1 (q.2 1) g0)), (7, .int (nI aw)), (6, .int (cCell L xs (2 * i + 1))), (4, .int (nI i)), (3, .int (nI d)), (2, .int (nI n)), (1, .ref (zc 0)), (0, .ref b)] from lv_sub hl [0, 1, 2, 3, 4, 5, 7, 8, 9, 10, 11] rfl) (kk g cc hg hcc)
set_option maxHeartbeats 4000000 in
set_option maxRecDepth 100000 in
theorem law_tail (F : lwF p_ l s m meth c b L xs G) (Z : lwZ s zc) {q p : gRF} {n d k t v : Nat} (h9 : sY q p n d k t v) {H : Heap} {locs : List Loc} (hH : lwH G s zc q H locs) {cs ss : Nat} {ls : Array Slot} {i g cc : Nat} (hi : i < 60) (hg : g < 4) (hcc : cc < 8) (hC : cs + 10 ≤ 600130 ∧ ss + 60 ≤ 7301080) (hl : lv_has ls 15 [(11, .int (nI 1)), (10, .int (nI g)), (9, .int (nI cc)), (4, .int (nI i)), (3, .int (nI d)), (2, .int (nI n)), (1, .ref (zc 0)), (0, .ref b)])
    (kk : ∀ (ls : Array Slot), lv_has ls 15 [(4, .int (nI (i + 1))), (3, .int (nI d)), (2, .int (nI n)), (1, .ref (zc 0)), (0, .ref b)] → W p_ l e_ room_1 s m #[Value.ref b] below meth c H locs cs ss Q (F0 m 15 ls []))
    : W p_ l e_ room_1 s m #[Value.ref b] below meth c H locs cs ss Q (F0 m 666 ls []) := by
  obtain ⟨⟨hx, hb, hret, hml, hown, hts, hXs, hbl, hlocks⟩, hfl, hK, hXX, hB, hL⟩ := id F
  have hf0 : q.2 0 = nI v := h9.1.1.f0
  have hf1 : q.2 1 = nI t := h9.1.1.f1
  have hf3 : q.2 3 = nI n := h9.1.1.f3
  have hv20 := h9.1.1.v20
  refine lv_iload hx hb dL_law_666 (lv_at hl 0 rfl) ?_
  refine lv_if_eq (tgt := 717) hx hb dL_law_668 (by decide) (fun c_1 => ?_) (fun c_1 => ?_)
  · exact absurd c_1 (by decide)
  · refine lv_aload_n hx hb dL_law_671 rfl (lv_at hl 6 rfl) ?_
    refine law_r (As := []) (rest := []) F hH (c_X6_changes l G H zc q.1 q.2 hH.1) (cwV 0 hts gL_law_X6_changes rfl rfl rfl (by decide +kernel) ⟨Nat.le_of_ble_eq_true rfl, Nat.le_of_ble_eq_true rfl⟩) rfl hl.1 dL_law_672 (Nat.le_of_ble_eq_true rfl) ⟨by omega, by omega⟩ ?_
    refine lv_iload_n hx hb dL_law_675 rfl (lv_at hl 5 rfl) ?_
    refine lv_icmp_ne (tgt := 717) hx hb dL_law_676 (by decide) (fun c_2 => ?_) (fun c_2 => ?_)
    · exact absurd hf3 c_2
    · refine lv_aload_n hx hb dL_law_679 rfl (lv_at hl 6 rfl) ?_
      refine law_qs (As := [.ref (zc 0)]) (rest := []) F hH (c_L_isRota l hfl G H zc q.1 q.2 hH.1 p n d k t v h9) (va_cwS 1 hts gL_law_L_isRota rfl rfl rfl (by decide +kernel) ⟨Nat.le_of_ble_eq_true rfl, Nat.le_of_ble_eq_true rfl⟩) rfl hl.1 dL_law_680 (Nat.le_of_ble_eq_true rfl) ⟨by omega, by omega⟩ ?_
      refine lv_if_eq (tgt := 717) hx hb dL_law_683 (by decide) (fun c_3 => ?_) (fun c_3 => ?_)
      · have c_3 := b2i_f c_3
        exact absurd c_3 (by decide)
      · have c_3 := b2i_t c_3
        refine lv_aload_n hx hb dL_law_686 rfl (lv_at hl 6 rfl) ?_
        refine lv_iload hx hb dL_law_687 (lv_at hl 1 rfl) ?_
        refine law_qs (As := [.ref (zc 0), .int (nI g)]) (rest := []) F hH (c_L_isRing l hfl G H zc q.1 q.2 hH.1 (nI g) p n d k t v g h9 rfl hg) (va_cwS 2 hts gL_law_L_isRing rfl rfl rfl (by decide +kernel) ⟨Nat.le_of_ble_eq_true rfl, Nat.le_of_ble_eq_true rfl⟩) rfl hl.1 dL_law_689 (Nat.le_of_ble_eq_true rfl) ⟨by omega, by omega⟩ ?_
        refine lv_if_eq (tgt := 717) hx hb dL_law_692 (by decide) (fun c_4 => ?_) (fun c_4 => ?_)
        · have c_4 := b2i_f c_4
          exact absurd c_4 (by decide)
        · have c_4 := b2i_t c_4
          refine lv_aload_n hx hb dL_law_695 rfl (lv_at hl 6 rfl) ?_
          refine lv_iload hx hb dL_law_696 (lv_at hl 2 rfl) ?_
          refine lv_iload hx hb dL_law_698 (lv_at hl 1 rfl) ?_
          refine law_q (As := [.int (nI cc), .int (nI g)]) (rest := []) F hH (gMq_of (c_X6_isOn l hfl G H zc q.1 q.2 hH.1 (nI cc) (nI g)) (by rw [kSwitch_0 hcc, kRing_0 hg]; rfl)) (cwV 2 hts gL_law_X6_isOn rfl rfl rfl (by decide +kernel) ⟨Nat.le_of_ble_eq_true rfl, Nat.le_of_ble_eq_true rfl⟩) rfl hl.1 dL_law_700 (Nat.le_of_ble_eq_true rfl) ⟨by omega, by omega⟩ ?_
          refine lv_if_eq (tgt := 719) hx hb dL_law_703 (by decide) (fun c_5 => ?_) (fun c_5 => ?_)
          · have c_5 := b2i_f c_5
            refine lv_iinc (v := (nI i) + nI 1) (lv' := [(4, .int ((nI i) + nI 1)), (11, .int (nI 1)), (10, .int (nI g)), (9, .int (nI cc)), (3, .int (nI d)), (2, .int (nI n)), (1, .ref (zc 0)), (0, .ref b)]) hx hb dL_law_719 hl (k := 3) rfl (congrArg (fun q : Int32 => (nI i) + q) (by decide +kernel)) (by decide) rfl (fun ls hl => ?_)
            refine lv_goto (tgt := 15) hx hb dL_law_722 (by decide) ?_
            exact kk _ (lv_cv (show lv_has ls 15 [(4, .int ((nI i) + nI 1)), (3, .int (nI d)), (2, .int (nI n)), (1, .ref (zc 0)), (0, .ref b)] from lv_sub hl [0, 4, 5, 6, 7] rfl) (gl_i (show (nI i) + nI 1 = nI (i + 1) by first | with_reducible rfl | with_reducible exact nI_add _ _ | (simp only [c_1, c_2, c_3, c_4, c_5, ↓reduceIte, Bool.false_eq_true, decide_true, decide_false, Bool.not_true, Bool.not_false, Bool.or_true, Bool.true_or, Bool.or_false, Bool.false_or]; done) | (simp only [c_1, c_2, c_3, c_4, c_5, ↓reduceIte, Bool.false_eq_true, decide_true, decide_false, Bool.not_true, Bool.not_false, Bool.or_true, Bool.true_or, Bool.or_false, Bool.false_or]; with_reducible rfl) | (simp only [c_1, c_2, c_3, c_4, c_5, ↓reduceIte, Bool.false_eq_true, decide_true, decide_false, Bool.not_true, Bool.not_false, Bool.or_true, Bool.true_or, Bool.or_false, Bool.false_or]; rfl) | (simp [b2i, c_1, c_2, c_3, c_4, c_5]; done) | rfl) (gl_s (gl_s (gl_s (gl_s rfl))))))
          · have c_5 := b2i_t c_5
            have hon := f_on h9 hcc c_5
            refine lv_iload hx hb dL_law_706 (lv_at hl 1 rfl) ?_
            refine lv_aload_n hx hb dL_law_708 rfl (lv_at hl 6 rfl) ?_
            refine lv_iload hx hb dL_law_709 (lv_at hl 2 rfl) ?_
            refine law_q (As := [.int (nI cc)]) (rest := [.int (nI g)]) F hH (gMq_of (c_X6_level l hfl G H zc q.1 q.2 hH.1 (nI cc)) (kSwitch_0 hcc)) (cwV 1 hts gL_law_X6_level rfl rfl rfl (by decide +kernel) ⟨Nat.le_of_ble_eq_true rfl, Nat.le_of_ble_eq_true rfl⟩) rfl hl.1 dL_law_711 (Nat.le_of_ble_eq_true rfl) ⟨by omega, by omega⟩ ?_
            refine lv_icmp_lt (tgt := 719) hx hb dL_law_714 (by decide) (fun c_6 => ?_) (fun c_6 => ?_)
            · refine lv_iinc (v := (nI i) + nI 1) (lv' := [(4, .int ((nI i) + nI 1)), (11, .int (nI 1)), (10, .int (nI g)), (9, .int (nI cc)), (3, .int (nI d)), (2, .int (nI n)), (1, .ref (zc 0)), (0, .ref b)]) hx hb dL_law_719 hl (k := 3) rfl (congrArg (fun q : Int32 => (nI i) + q) (by decide +kernel)) (by decide) rfl (fun ls hl => ?_)
              refine lv_goto (tgt := 15) hx hb dL_law_722 (by decide) ?_
              exact kk _ (lv_cv (show lv_has ls 15 [(4, .int ((nI i) + nI 1)), (3, .int (nI d)), (2, .int (nI n)), (1, .ref (zc 0)), (0, .ref b)] from lv_sub hl [0, 4, 5, 6, 7] rfl) (gl_i (show (nI i) + nI 1 = nI (i + 1) by first | with_reducible rfl | with_reducible exact nI_add _ _ | (simp only [c_1, c_2, c_3, c_4, c_5, c_6, ↓reduceIte, Bool.false_eq_true, decide_true, decide_false, Bool.not_true, Bool.not_false, Bool.or_true, Bool.true_or, Bool.or_false, Bool.false_or]; done) | (simp only [c_1, c_2, c_3, c_4, c_5, c_6, ↓reduceIte, Bool.false_eq_true, decide_true, decide_false, Bool.not_true, Bool.not_false, Bool.or_true, Bool.true_or, Bool.or_false, Bool.false_or]; with_reducible rfl) | (simp only [c_1, c_2, c_3, c_4, c_5, c_6, ↓reduceIte, Bool.false_eq_true, decide_true, decide_false, Bool.not_true, Bool.not_false, Bool.or_true, Bool.true_or, Bool.or_false, Bool.false_or]; rfl) | (simp [b2i, c_1, c_2, c_3, c_4, c_5, c_6]; done) | rfl) (gl_s (gl_s (gl_s (gl_s rfl))))))
            · exact absurd hon c_6
end SD0
