section SD0
variable {p_ : Program} {e_ : Env} {l : Launch} {s : State} {m : MethodId} {below : List Frame} {meth : Method} {c : Code} {b L : Nat} {xs : Nat → Int32} {G : gG} {zc : Nat → Nat} {Q : State → Prop}
set_option maxHeartbeats 4000000 in
set_option maxRecDepth 100000 in
theorem law_end (F : lwF p_ l s m meth c b L xs G) (Z : lwZ s zc) {q p : gRF} {n d k t v : Nat} (h9 : sY q p n d k t v) {H : Heap} {locs : List Loc} (hH : lwH G s zc q H locs) {cs ss : Nat} {ls : Array Slot} (hC : cs + 10 ≤ 600130 ∧ ss + 60 ≤ 7301080) (hQ : Q = lw_Z below #[Value.ref b] s) (hl : lv_has ls 15 [(3, .int (nI d)), (2, .int (nI n)), (1, .ref (zc 0)), (0, .ref b)])
    : W p_ l e_ room_1 s m #[Value.ref b] below meth c H locs cs ss Q (F0 m 725 ls []) := by
  obtain ⟨⟨hx, hb, hret, hml, hown, hts, hXs, hbl, hlocks⟩, hfl, hK, hXX, hB, hL⟩ := id F
  have hf0 : q.2 0 = nI v := h9.1.1.f0
  have hf1 : q.2 1 = nI t := h9.1.1.f1
  have hf3 : q.2 3 = nI n := h9.1.1.f3
  have hv20 := h9.1.1.v20
  obtain ⟨E, M, hM, hE, hME⟩ := f_calls h9
  have ht560 : t ≤ 560 := h9.1.1.ok.2.2.2.2.2.2.2.1
  refine lv_aload_n hx hb dL_law_725 rfl (lv_at hl 2 rfl) ?_
  refine law_r (As := []) (rest := []) F hH (c_X6_missed l G H zc q.1 q.2 hH.1) (cwV 0 hts gL_law_X6_missed rfl rfl rfl (by decide +kernel) ⟨Nat.le_of_ble_eq_true rfl, Nat.le_of_ble_eq_true rfl⟩) rfl hl.1 dL_law_726 (Nat.le_of_ble_eq_true rfl) ⟨by omega, by omega⟩ ?_
  rw [hM]
  refine lv_istore (lv' := [(4, .int (nI M)), (3, .int (nI d)), (2, .int (nI n)), (1, .ref (zc 0)), (0, .ref b)]) hx hb dL_law_729 hl (by decide) rfl (fun ls hl => ?_)
  refine lv_iconst (v := nI 0) hx hb dL_law_731 (by decide +kernel) ?_
  refine lv_istore (lv' := [(5, .int (nI 0)), (4, .int (nI M)), (3, .int (nI d)), (2, .int (nI n)), (1, .ref (zc 0)), (0, .ref b)]) hx hb dL_law_732 hl (by decide) rfl (fun ls hl => ?_)
  refine g_loop _ m 734 15 [] (6) (fun j => [(5, .int (nI j)), (4, .int (nI (M + pS E j))), (3, .int (nI d)), (2, .int (nI n)), (1, .ref (zc 0)), (0, .ref b)]) (fun j => True) (fun j hi734 hI ih734 ls hl => ?_) 0 (Nat.zero_le _) trivial ls ?_
  · have hl : lv_has ls 15 [(5, .int (nI j)), (4, .int (nI (M + pS E j))), (3, .int (nI d)), (2, .int (nI n)), (1, .ref (zc 0)), (0, .ref b)] := hl
    have hI : True := hI
    refine lv_iload hx hb dL_law_734 (lv_at hl 0 rfl) ?_
    refine lv_bipush (v := nI 6) hx hb dL_law_736 (by decide +kernel) ?_
    refine lv_icmp_ge (tgt := 767) hx hb dL_law_738 (by decide) (fun c_1 => ?_) (fun c_1 => ?_)
    · have hex : 6 = j := by
        have h9 := (nI_leI (a := 6) (b := j) (by decide) (by omega)).mp c_1
        omega
      subst hex
      refine lv_iload hx hb dL_law_767 (lv_at hl 1 rfl) ?_
      refine lv_aload_n hx hb dL_law_769 rfl (lv_at hl 4 rfl) ?_
      refine law_r (As := []) (rest := [.int (nI (M + pS E 6))]) F hH (c_X6_time l G H zc q.1 q.2 hH.1) (cwV 0 hts gL_law_X6_time rfl rfl rfl (by decide +kernel) ⟨Nat.le_of_ble_eq_true rfl, Nat.le_of_ble_eq_true rfl⟩) rfl hl.1 dL_law_770 (Nat.le_of_ble_eq_true rfl) ⟨by omega, by omega⟩ ?_
      refine lv_icmp_gt (tgt := 780) hx hb dL_law_773 (by decide) (fun c_2 => ?_) (fun c_2 => ?_)
      · exact absurd c_2 (by rw [hf1]; exact fun z => by have h7 := (nI_ltI (by omega) (by omega)).mp z; omega)
      · refine lv_iconst (v := nI 1) hx hb dL_law_776 (by decide +kernel) ?_
        refine lv_goto (tgt := 781) hx hb dL_law_777 (by decide) ?_
        subst hQ
        rw [show nI 1 = (1 : Int32) from by decide]
        refine va_forget (fun q hq => hH.2.2.2 q hq) ?_
        refine W.widen (k := 600130) (n := 7301080) (by omega) (by omega) ?_
        exact lw_ret hx hb hret hlocks dL_law_781
    · have hlt : j < 6 := by
        have h9 := mt (nI_leI (a := 6) (b := j) (by decide) (by omega)).mpr c_1
        omega
      refine lv_iload hx hb dL_law_741 (lv_at hl 1 rfl) ?_
      refine lv_aload_n hx hb dL_law_743 rfl (lv_at hl 4 rfl) ?_
      refine lv_iload hx hb dL_law_744 (lv_at hl 0 rfl) ?_
      refine lv_iconst (v := nI 1) hx hb dL_law_746 (by decide +kernel) ?_
      refine law_q (As := [.int (nI j), .int (b2i true)]) (rest := [.int (nI (M + pS E j))]) F hH (gMq_of (c_X6_calls l hfl G H zc q.1 q.2 hH.1 (nI j) true) (kPerson_0 hlt)) (cwV 2 hts gL_law_X6_calls rfl rfl rfl (by decide +kernel) ⟨Nat.le_of_ble_eq_true rfl, Nat.le_of_ble_eq_true rfl⟩) rfl hl.1 dL_law_747 (Nat.le_of_ble_eq_true rfl) ⟨by omega, by omega⟩ ?_
      refine lv_aload_n hx hb dL_law_750 rfl (lv_at hl 4 rfl) ?_
      refine lv_iload hx hb dL_law_751 (lv_at hl 0 rfl) ?_
      refine lv_iconst (v := nI 0) hx hb dL_law_753 (by decide +kernel) ?_
      refine law_q (As := [.int (nI j), .int (b2i false)]) (rest := [.int (if true then rAt 6 (q.1 21) (nI j) else rAt 6 (q.1 20) (nI j)), .int (nI (M + pS E j))]) F hH (gMq_of (c_X6_calls l hfl G H zc q.1 q.2 hH.1 (nI j) false) (kPerson_0 hlt)) (cwV 2 hts gL_law_X6_calls rfl rfl rfl (by decide +kernel) ⟨Nat.le_of_ble_eq_true rfl, Nat.le_of_ble_eq_true rfl⟩) rfl hl.1 dL_law_754 (Nat.le_of_ble_eq_true rfl) ⟨by omega, by omega⟩ ?_
      refine lv_iadd hx hb dL_law_757 ?_
      refine lv_iadd hx hb dL_law_758 ?_
      refine lv_istore (lv' := [(4, .int ((nI (M + pS E j)) + ((if true then rAt 6 (q.1 21) (nI j) else rAt 6 (q.1 20) (nI j)) + (if false then rAt 6 (q.1 21) (nI j) else rAt 6 (q.1 20) (nI j))))), (5, .int (nI j)), (3, .int (nI d)), (2, .int (nI n)), (1, .ref (zc 0)), (0, .ref b)]) hx hb dL_law_759 hl (by decide) rfl (fun ls hl => ?_)
      refine lv_iinc (v := (nI j) + nI 1) (lv' := [(5, .int ((nI j) + nI 1)), (4, .int ((nI (M + pS E j)) + ((if true then rAt 6 (q.1 21) (nI j) else rAt 6 (q.1 20) (nI j)) + (if false then rAt 6 (q.1 21) (nI j) else rAt 6 (q.1 20) (nI j))))), (3, .int (nI d)), (2, .int (nI n)), (1, .ref (zc 0)), (0, .ref b)]) hx hb dL_law_761 hl (k := 1) rfl (congrArg (fun q : Int32 => (nI j) + q) (by decide +kernel)) (by decide) rfl (fun ls hl => ?_)
      refine lv_goto (tgt := 734) hx hb dL_law_764 (by decide) ?_
      exact ih734 _ (by omega) trivial (lv_cv (show lv_has ls 15 [(5, .int ((nI j) + nI 1)), (4, .int ((nI (M + pS E j)) + ((if true then rAt 6 (q.1 21) (nI j) else rAt 6 (q.1 20) (nI j)) + (if false then rAt 6 (q.1 21) (nI j) else rAt 6 (q.1 20) (nI j))))), (3, .int (nI d)), (2, .int (nI n)), (1, .ref (zc 0)), (0, .ref b)] from lv_sub hl [0, 1, 2, 3, 4, 5] rfl) (gl_i (show (nI j) + nI 1 = nI (j + 1) by first | with_reducible rfl | with_reducible exact nI_add _ _ | (simp only [itN_s j, c_1, ↓reduceIte, Bool.false_eq_true, decide_true, decide_false, Bool.not_true, Bool.not_false, Bool.or_true, Bool.true_or, Bool.or_false, Bool.false_or]; done) | (simp only [itN_s j, c_1, ↓reduceIte, Bool.false_eq_true, decide_true, decide_false, Bool.not_true, Bool.not_false, Bool.or_true, Bool.true_or, Bool.or_false, Bool.false_or]; with_reducible rfl) | (simp only [itN_s j, c_1, ↓reduceIte, Bool.false_eq_true, decide_true, decide_false, Bool.not_true, Bool.not_false, Bool.or_true, Bool.true_or, Bool.or_false, Bool.false_or]; rfl) | (simp [b2i, itN_s j, c_1]; done) | rfl) (gl_i (show (nI (M + pS E j)) + ((if true then rAt 6 (q.1 21) (nI j) else rAt 6 (q.1 20) (nI j)) + (if false then rAt 6 (q.1 21) (nI j) else rAt 6 (q.1 20) (nI j))) = nI (M + pS E (j + 1)) by rw [if_pos rfl, if_neg (by decide), hE j hlt, nI_add]; exact congrArg nI (Nat.add_assoc M (pS E j) (E j))) (gl_s (gl_s (gl_s (gl_s rfl)))))))
  · exact (lv_cv (show lv_has ls 15 [(5, .int (nI 0)), (4, .int (nI M)), (3, .int (nI d)), (2, .int (nI n)), (1, .ref (zc 0)), (0, .ref b)] from lv_sub hl [0, 1, 2, 3, 4, 5] rfl) (gl_s (gl_i (show nI M = nI (M + pS E 0) by rfl) (gl_s (gl_s (gl_s (gl_s rfl)))))))
end SD0
