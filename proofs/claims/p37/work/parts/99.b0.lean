set_option maxHeartbeats 4000000 in
set_option maxRecDepth 100000 in
theorem c_L_awake (l : Launch) (hfl : l.stackTraces = false) (G : gG) (H0 : Heap) (z : Nat → Nat) (r : Nat → Nat → Int32) (f : Nat → Int32) (hP : va_P G.1 vwCl (wRF G z r f) H0) (x1 : Int32) (g : Nat) (hg1 : x1 = nI g) (hg2 : g < 6) : gMq l yL_awake wsL_awake 8 131 1 G H0 [.ref (z 0), .int x1] (cAw r (f 1) g) := by
  refine Met.ofW (cc := cL_awake) (maxL := 4) (ret := (some .int)) (by decide) rfl ?_
  intro p_ e_ s m args below meth c s₁ B hml hv
  obtain ⟨rfl, rfl, hK, hX⟩ := hv
  have hx := B.exec
  have hb := B.bytes
  have hr := B.returns
  have hts := atoms_spec (ws := wsL_awake) B.pre
  have hown : s.vm.findClass RL = some m.cls := findClass_of_methodNamed B.named
  have hlocks := B.notSynchronized
  have S0 : CallFix p_ m c cL_awake 4 s _ wsL_awake RL := ⟨hx, hb, hml, hown, hts⟩
  have hl := lv_entry ([.ref (z 0), .int x1]) (n := 4) (Nat.le_of_ble_eq_true rfl)
  rw [lg_entry_eq]
  generalize (lg_sl ([.ref (z 0), .int x1]) ++ List.replicate (4 - (lg_sl ([.ref (z 0), .int x1])).length) Slot.unset).toArray = ls at hl ⊢
  have hl : lv_has ls 4 [(0, .ref (z 0)), (1, .int x1)] := hl
  subst hg1
  refine lv_iconst (v := (-1)) hx hb dL_awake_0 (by decide +kernel) ?_
  refine lv_istore_n (lv' := [(2, .int (-1)), (0, .ref (z 0)), (1, .int (nI g))]) hx hb dL_awake_1 rfl hl (by decide) rfl (fun ls hl => ?_)
  refine lv_iconst (v := nI 5) hx hb dL_awake_2 (by decide +kernel) ?_
  refine lv_istore_n (lv' := [(3, .int (nI 5)), (2, .int (-1)), (0, .ref (z 0)), (1, .int (nI g))]) hx hb dL_awake_3 rfl hl (by decide) rfl (fun ls hl => ?_)
  refine g_loop _ m 4 4 [] (6) (fun i => [(3, .int (nI (6 - i) - nI 1)), (2, .int (itN i (cAwI r (f 1) g) (-1))), (0, .ref (z 0)), (1, .int (nI g))]) (fun i => True) (fun i hi4 hI ih4 ls hl => ?_) 0 (Nat.zero_le _) trivial ls ?_
  · have hl : lv_has ls 4 [(3, .int (nI (6 - i) - nI 1)), (2, .int (itN i (cAwI r (f 1) g) (-1))), (0, .ref (z 0)), (1, .int (nI g))] := hl
    have hI : True := hI
    refine lv_iload_n hx hb dL_awake_4 rfl (lv_at hl 0 rfl) ?_
    refine lv_if_lt (tgt := 38) hx hb dL_awake_5 (by decide) (fun c_1 => ?_) (fun c_1 => ?_)
    · have hex : 6 = i := by
        have h9 : ¬ 0 < 6 - i := fun h => absurd c_1 (by rw [show 6 - i = (6 - i - 1) + 1 from by omega, ← nI_add, show nI (6 - i - 1) + nI 1 - nI 1 = nI (6 - i - 1) from by simp]; exact nI_pos (by omega))
        omega
      subst hex
      refine lv_iload_n hx hb dL_awake_38 rfl (lv_at hl 1 rfl) ?_
      have hq : (itN 6 (cAwI r (f 1) g) (-1)) = (cAw r (f 1) g) := by
        first | with_reducible rfl | with_reducible exact nI_add _ _ | (simp only [c_1, ↓reduceIte, Bool.false_eq_true, decide_true, decide_false, Bool.not_true, Bool.not_false, Bool.or_true, Bool.true_or, Bool.or_false, Bool.false_or]; done) | (simp only [c_1, ↓reduceIte, Bool.false_eq_true, decide_true, decide_false, Bool.not_true, Bool.not_false, Bool.or_true, Bool.true_or, Bool.or_false, Bool.false_or]; with_reducible rfl) | (simp only [c_1, ↓reduceIte, Bool.false_eq_true, decide_true, decide_false, Bool.not_true, Bool.not_false, Bool.or_true, Bool.true_or, Bool.or_false, Bool.false_or]; rfl) | (simp [b2i, c_1]; done) | rfl
      refine W.widen (k := 1) (n := 6) (Nat.le_of_ble_eq_true rfl) (Nat.le_of_ble_eq_true rfl) ?_
      exact W.iret (v := itN 6 (cAwI r (f 1) g) (-1)) hx hb hr (fun t ht _ => g_ret hq ht) g_no dL_awake_39
    · have hlt : i < 6 := by
        have h9 : ¬ i = 6 := fun h => c_1 (by subst h; rw [Nat.sub_self]; decide)
        omega
      have eR : nI (6 - i) - nI 1 = nI (6 - i - 1) := by rw [show 6 - i = (6 - i - 1) + 1 from by omega, ← nI_add]; simp
      rw [eR] at hl
      have hE : (nI g + nI (6 - i - 1)) - (nI g + nI (6 - i - 1)) / (nI 6) * (nI 6) = nI ((g + (5 - i)) % 6) := by rw [nI_add, pk_rem (by omega) (by decide) (by decide), show g + (6 - i - 1) = g + (5 - i) from by omega]
      refine lv_aload_n hx hb dL_awake_8 rfl (lv_at hl 2 rfl) ?_
      refine lv_iload_n hx hb dL_awake_9 rfl (lv_at hl 3 rfl) ?_
      refine lv_iload_n hx hb dL_awake_10 rfl (lv_at hl 0 rfl) ?_
      refine lv_iadd hx hb dL_awake_11 ?_
      refine lv_bipush (v := nI 6) hx hb dL_awake_12 (by decide +kernel) ?_
      refine lv_irem hx hb dL_awake_14 (by decide) ?_
      refine g_callQ (va_runV (C := RX6) (As := [.int (((nI g) + (nI (6 - i - 1))) - ((nI g) + (nI (6 - i - 1))) / (nI 6) * (nI 6))]) (rest := []) S0 (gMq_of (c_X6_rests l hfl G _ z r f hP (((nI g) + (nI (6 - i - 1))) - ((nI g) + (nI (6 - i - 1))) / (nI 6) * (nI 6))) (by rw [hE]; exact kPerson_0 (Nat.mod_lt _ (by decide)))) (cwV 1 hts gL_awake_X6_rests rfl rfl rfl (by decide +kernel) ⟨Nat.le_of_ble_eq_true rfl, Nat.le_of_ble_eq_true rfl⟩) (g_preXV hK hX hP (q0 := 0) (ci := 6) (q := (RX6, TX6, 7)) rfl rfl) rfl rfl hl.1 rfl (lv_room (Nat.le_of_ble_eq_true rfl)) dL_awake_15 ⟨Nat.le_of_ble_eq_true rfl, Nat.le_of_ble_eq_true rfl⟩) ?_
      refine lv_if_eq (tgt := 25) hx hb dL_awake_18 (by decide) (fun c_2 => ?_) (fun c_2 => ?_)
      · have c_2 := b2i_f c_2
        refine lv_iload_n hx hb dL_awake_25 rfl (lv_at hl 3 rfl) ?_
        refine lv_iload_n hx hb dL_awake_26 rfl (lv_at hl 0 rfl) ?_
        refine lv_iadd hx hb dL_awake_27 ?_
        refine lv_bipush (v := nI 6) hx hb dL_awake_28 (by decide +kernel) ?_
        refine lv_irem hx hb dL_awake_30 (by decide) ?_
        refine lv_istore_n (lv' := [(2, .int (((nI g) + (nI (6 - i - 1))) - ((nI g) + (nI (6 - i - 1))) / (nI 6) * (nI 6))), (3, .int (nI (6 - i - 1))), (0, .ref (z 0)), (1, .int (nI g))]) hx hb dL_awake_31 rfl hl (by decide) rfl (fun ls hl => ?_)
        refine lv_iinc (v := (nI (6 - i - 1)) + (-1)) (lv' := [(3, .int ((nI (6 - i - 1)) + (-1))), (2, .int (((nI g) + (nI (6 - i - 1))) - ((nI g) + (nI (6 - i - 1))) / (nI 6) * (nI 6))), (0, .ref (z 0)), (1, .int (nI g))]) hx hb dL_awake_32 hl (k := 1) rfl (congrArg (fun q : Int32 => (nI (6 - i - 1)) + q) (by decide +kernel)) (by decide) rfl (fun ls hl => ?_)
        refine lv_goto (tgt := 4) hx hb dL_awake_35 (by decide) ?_
        exact ih4 _ (by omega) trivial (lv_cv (show lv_has ls 4 [(3, .int ((nI (6 - i - 1)) + (-1))), (2, .int (((nI g) + (nI (6 - i - 1))) - ((nI g) + (nI (6 - i - 1))) / (nI 6) * (nI 6))), (0, .ref (z 0)), (1, .int (nI g))] from lv_sub hl [0, 1, 2, 3] rfl) (gl_i (show (nI (6 - i - 1)) + (-1) = nI (6 - (i + 1)) - nI 1 by rw [show 6 - (i + 1) = 6 - i - 1 from by omega]; exact x_m1 _) (gl_i (show ((nI g) + (nI (6 - i - 1))) - ((nI g) + (nI (6 - i - 1))) / (nI 6) * (nI 6) = itN (i + 1) (cAwI r (f 1) g) (-1) by rw [itN_s]; show _ = cAwI r (f 1) g i _; unfold cAwI; rw [← hE]; first | rw [if_pos c_2] | rw [if_neg (by rw [c_2]; decide)]) (gl_s (gl_s rfl)))))
      · have c_2 := b2i_t c_2
        refine lv_iload_n hx hb dL_awake_21 rfl (lv_at hl 1 rfl) ?_
        refine lv_goto (tgt := 31) hx hb dL_awake_22 (by decide) ?_
        refine lv_istore_n (lv' := [(2, .int (itN i (cAwI r (f 1) g) (-1))), (3, .int (nI (6 - i - 1))), (0, .ref (z 0)), (1, .int (nI g))]) hx hb dL_awake_31 rfl hl (by decide) rfl (fun ls hl => ?_)
        refine lv_iinc (v := (nI (6 - i - 1)) + (-1)) (lv' := [(3, .int ((nI (6 - i - 1)) + (-1))), (2, .int (itN i (cAwI r (f 1) g) (-1))), (0, .ref (z 0)), (1, .int (nI g))]) hx hb dL_awake_32 hl (k := 1) rfl (congrArg (fun q : Int32 => (nI (6 - i - 1)) + q) (by decide +kernel)) (by decide) rfl (fun ls hl => ?_)
        refine lv_goto (tgt := 4) hx hb dL_awake_35 (by decide) ?_
        exact ih4 _ (by omega) trivial (lv_cv (show lv_has ls 4 [(3, .int ((nI (6 - i - 1)) + (-1))), (2, .int (itN i (cAwI r (f 1) g) (-1))), (0, .ref (z 0)), (1, .int (nI g))] from lv_sub hl [0, 1, 2, 3] rfl) (gl_i (show (nI (6 - i - 1)) + (-1) = nI (6 - (i + 1)) - nI 1 by rw [show 6 - (i + 1) = 6 - i - 1 from by omega]; exact x_m1 _) (gl_i (show itN i (cAwI r (f 1) g) (-1) = itN (i + 1) (cAwI r (f 1) g) (-1) by rw [itN_s]; show _ = cAwI r (f 1) g i _; unfold cAwI; rw [← hE]; first | rw [if_pos c_2] | rw [if_neg (by rw [c_2]; decide)]) (gl_s (gl_s rfl)))))
  · exact (lv_cv (show lv_has ls 4 [(3, .int (nI 5)), (2, .int (-1)), (0, .ref (z 0)), (1, .int (nI g))] from lv_sub hl [0, 1, 2, 3] rfl) (gl_i (show nI 5 = nI (6 - 0) - nI 1 by decide) (gl_i (show (-1) = itN 0 (cAwI r (f 1) g) (-1) by first | with_reducible rfl | with_reducible exact nI_add _ _ | (simp only [true_and, ↓reduceIte, Bool.false_eq_true, decide_true, decide_false, Bool.not_true, Bool.not_false, Bool.or_true, Bool.true_or, Bool.or_false, Bool.false_or]; done) | (simp only [true_and, ↓reduceIte, Bool.false_eq_true, decide_true, decide_false, Bool.not_true, Bool.not_false, Bool.or_true, Bool.true_or, Bool.or_false, Bool.false_or]; with_reducible rfl) | (simp only [true_and, ↓reduceIte, Bool.false_eq_true, decide_true, decide_false, Bool.not_true, Bool.not_false, Bool.or_true, Bool.true_or, Bool.or_false, Bool.false_or]; rfl) | (simp [b2i, true_and]; done) | rfl) (gl_s (gl_s rfl)))))

set_option maxHeartbeats 4000000 in
set_option maxRecDepth 100000 in
theorem c_L_isRing (l : Launch) (hfl : l.stackTraces = false) (G : gG) (H0 : Heap) (z : Nat → Nat) (r : Nat → Nat → Int32) (f : Nat → Int32) (hP : va_P G.1 vwCl (wRF G z r f) H0) (x1 : Int32) (p : gRF) (n d k t v g : Nat) (h9 : sY (r, f) p n d k t v) (hg1 : x1 = nI g) (hg2 : g < 4) : gMq l yL_isRing wsL_isRing 8 138 2 G H0 [.ref (z 0), .int x1] (b2i true) := by
  refine Met.ofW (cc := cL_isRing) (maxL := 6) (ret := (some .boolean)) (by decide) rfl ?_
  intro p_ e_ s m args below meth c s₁ B hml hv
  obtain ⟨rfl, rfl, hK, hX⟩ := hv
  have hx := B.exec
  have hb := B.bytes
  have hr := B.returns
  have hts := atoms_spec (ws := wsL_isRing) B.pre
  have hown : s.vm.findClass RL = some m.cls := findClass_of_methodNamed B.named
  have hlocks := B.notSynchronized
  have S0 : CallFix p_ m c cL_isRing 6 s _ wsL_isRing RL := ⟨hx, hb, hml, hown, hts⟩
  have hl := lv_entry ([.ref (z 0), .int x1]) (n := 6) (Nat.le_of_ble_eq_true rfl)
  rw [lg_entry_eq]
  generalize (lg_sl ([.ref (z 0), .int x1]) ++ List.replicate (6 - (lg_sl ([.ref (z 0), .int x1])).length) Slot.unset).toArray = ls at hl ⊢
  have hl : lv_has ls 6 [(0, .ref (z 0)), (1, .int x1)] := hl
  subst hg1
  have hT : cTry r n (nI g) = cLatest r (nI g) := f_trace (q := (r, f)) h9 hg2
  have hHl : cLatest r (nI g) = -1 ∨ ∃ j, j < n ∧ cLatest r (nI g) = nI j ∧ cFault r (nI g) = true ∧ cHeals r (nI j) (nI g) = true := f_heal (q := (r, f)) h9 hg2
  have hOp : rAt 4 (r 16) (nI g) = -1 ∨ ∃ i, rAt 4 (r 16) (nI g) = nI i ∧ i < 200 ∧ kBelow (f 4) (nI i) = 0 ∧ (nI 10 * rAt 200 (r 12) (nI i) + rAt 200 (r 11) (nI i)) - (nI 10 * rAt 200 (r 12) (nI i) + rAt 200 (r 11) (nI i)) / nI 10 * nI 10 = nI g ∧ rAt 200 (r 13) (nI i) = -1 := f_open (q := (r, f)) h9 hg2
  have hRo : cRollable r f (nI g) = -1 ∨ ∃ y, y < v ∧ cRollable r f (nI g) = nI y ∧ ¬ cRuns r (nI g) = nI y ∧ cHeld r f (nI g) (nI y) (cN (nI g)) = false := y_rollable (q := (r, f)) h9 hg2
  have hf0 : f 0 = nI v := h9.1.1.f0
  have hf3 : f 3 = nI n := h9.1.1.f3
  have hv20 := h9.1.1.v20
  have hn8 : n ≤ 200 := h9.1.1.ok.2.1
  have hKr := kRing_0 hg2
  refine lv_aload_n hx hb dL_isRing_0 rfl (lv_at hl 0 rfl) ?_
  refine lv_iload_n hx hb dL_isRing_1 rfl (lv_at hl 1 rfl) ?_
  refine g_callQ (va_runV (C := RX6) (As := [.int (nI g)]) (rest := []) S0 (gMq_of (c_X6_trace l hfl G _ z r f hP (nI g)) hKr) (cwV 1 hts gL_isRing_X6_trace rfl rfl rfl (by decide +kernel) ⟨Nat.le_of_ble_eq_true rfl, Nat.le_of_ble_eq_true rfl⟩) (g_preXV hK hX hP (q0 := 0) (ci := 6) (q := (RX6, TX6, 7)) rfl rfl) rfl rfl hl.1 rfl (lv_room (Nat.le_of_ble_eq_true rfl)) dL_isRing_2 ⟨Nat.le_of_ble_eq_true rfl, Nat.le_of_ble_eq_true rfl⟩) ?_
  refine lv_istore_n (lv' := [(2, .int (cLatest r (nI g))), (0, .ref (z 0)), (1, .int (nI g))]) hx hb dL_isRing_5 rfl hl (by decide) rfl (fun ls hl => ?_)
  refine lv_aload_n hx hb dL_isRing_6 rfl (lv_at hl 1 rfl) ?_
  refine lv_iload_n hx hb dL_isRing_7 rfl (lv_at hl 2 rfl) ?_
  refine g_callQ (va_runV (C := RX6) (As := [.int (nI g)]) (rest := []) S0 (gMq_of (c_X6_openIn l hfl G _ z r f hP (nI g)) hKr) (cwV 1 hts gL_isRing_X6_openIn rfl rfl rfl (by decide +kernel) ⟨Nat.le_of_ble_eq_true rfl, Nat.le_of_ble_eq_true rfl⟩) (g_preXV hK hX hP (q0 := 0) (ci := 6) (q := (RX6, TX6, 7)) rfl rfl) rfl rfl hl.1 rfl (lv_room (Nat.le_of_ble_eq_true rfl)) dL_isRing_8 ⟨Nat.le_of_ble_eq_true rfl, Nat.le_of_ble_eq_true rfl⟩) ?_
  refine lv_istore_n (lv' := [(3, .int (rAt 4 (r 16) (nI g))), (2, .int (cLatest r (nI g))), (0, .ref (z 0)), (1, .int (nI g))]) hx hb dL_isRing_11 rfl hl (by decide) rfl (fun ls hl => ?_)
  refine lv_aload_n hx hb dL_isRing_12 rfl (lv_at hl 2 rfl) ?_
  refine lv_iload_n hx hb dL_isRing_13 rfl (lv_at hl 3 rfl) ?_
  refine g_callQ (va_runV (C := RX6) (As := [.int (nI g)]) (rest := []) S0 (gMq_of (c_X6_traceByTrying l hfl G _ z r f hP (nI g) n hf3 hn8) hKr) (cwV 1 hts gL_isRing_X6_traceByTrying rfl rfl rfl (by decide +kernel) ⟨Nat.le_of_ble_eq_true rfl, Nat.le_of_ble_eq_true rfl⟩) (g_preXV hK hX hP (q0 := 0) (ci := 6) (q := (RX6, TX6, 7)) rfl rfl) rfl rfl hl.1 rfl (lv_room (Nat.le_of_ble_eq_true rfl)) dL_isRing_14 ⟨Nat.le_of_ble_eq_true rfl, Nat.le_of_ble_eq_true rfl⟩) ?_
  refine lv_iload_n hx hb dL_isRing_17 rfl (lv_at hl 1 rfl) ?_
  refine lv_icmp_ne (tgt := 50) hx hb dL_isRing_18 (by decide) (fun c_1 => ?_) (fun c_1 => ?_)
  · exact absurd hT c_1
  · refine g_join m 53 6 [(3, .int (rAt 4 (r 16) (nI g))), (2, .int (cLatest r (nI g))), (0, .ref (z 0)), (1, .int (nI g)), (4, .int (nI 1))] [] (fun ls hl => ?_) (fun hJ53 => ?_)
    · refine g_join m 90 6 [(3, .int (rAt 4 (r 16) (nI g))), (2, .int (cLatest r (nI g))), (0, .ref (z 0)), (1, .int (nI g)), (4, .int (nI 1))] [] (fun ls hl => ?_) (fun hJ90 => ?_)
      · refine lv_aload_n hx hb dL_isRing_90 rfl (lv_at hl 2 rfl) ?_
        refine lv_iload_n hx hb dL_isRing_91 rfl (lv_at hl 3 rfl) ?_
        refine g_callQ (va_runV (C := RX6) (As := [.int (nI g)]) (rest := []) S0 (gMq_of (c_X6_rollable l hfl G _ z r f hP (nI g)) hKr) (cwV 1 hts gL_isRing_X6_rollable rfl rfl rfl (by decide +kernel) ⟨Nat.le_of_ble_eq_true rfl, Nat.le_of_ble_eq_true rfl⟩) (g_preXV hK hX hP (q0 := 0) (ci := 6) (q := (RX6, TX6, 7)) rfl rfl) rfl rfl hl.1 rfl (lv_room (Nat.le_of_ble_eq_true rfl)) dL_isRing_92 ⟨Nat.le_of_ble_eq_true rfl, Nat.le_of_ble_eq_true rfl⟩) ?_
        refine lv_istore (lv' := [(5, .int (cRollable r f (nI g))), (3, .int (rAt 4 (r 16) (nI g))), (2, .int (cLatest r (nI g))), (0, .ref (z 0)), (1, .int (nI g)), (4, .int (nI 1))]) hx hb dL_isRing_95 hl (by decide) rfl (fun ls hl => ?_)
        refine lv_iload hx hb dL_isRing_97 (lv_at hl 5 rfl) ?_
        refine lv_if_eq (tgt := 130) hx hb dL_isRing_99 (by decide) (fun c_2 => ?_) (fun c_2 => ?_)
        · exact absurd c_2 (by decide)
        · refine lv_iload hx hb dL_isRing_102 (lv_at hl 0 rfl) ?_
          refine lv_if_lt (tgt := 126) hx hb dL_isRing_104 (by decide) (fun c_3 => ?_) (fun c_3 => ?_)
          · refine lv_iconst (v := nI 1) hx hb dL_isRing_126 (by decide +kernel) ?_
            refine lv_goto (tgt := 131) hx hb dL_isRing_127 (by decide) ?_
            have hq : (nI 1) = (b2i true) := by
              first | with_reducible rfl | with_reducible exact nI_add _ _ | (simp only [c_1, c_2, c_3, ↓reduceIte, Bool.false_eq_true, decide_true, decide_false, Bool.not_true, Bool.not_false, Bool.or_true, Bool.true_or, Bool.or_false, Bool.false_or]; done) | (simp only [c_1, c_2, c_3, ↓reduceIte, Bool.false_eq_true, decide_true, decide_false, Bool.not_true, Bool.not_false, Bool.or_true, Bool.true_or, Bool.or_false, Bool.false_or]; with_reducible rfl) | (simp only [c_1, c_2, c_3, ↓reduceIte, Bool.false_eq_true, decide_true, decide_false, Bool.not_true, Bool.not_false, Bool.or_true, Bool.true_or, Bool.or_false, Bool.false_or]; rfl) | (simp [b2i, c_1, c_2, c_3]; done) | rfl
            refine W.widen (k := 2) (n := 12) (Nat.le_of_ble_eq_true rfl) (Nat.le_of_ble_eq_true rfl) ?_
            exact W.zret (v := nI 1) hx hb hr (z_nar hq) (fun t ht _ => g_ret hq ht) g_no dL_isRing_131
          · obtain ⟨y, y1, y2, y3, y4⟩ := hRo.resolve_left (fun z => c_3 (by rw [z]; decide))
            refine lv_iload hx hb dL_isRing_107 (lv_at hl 0 rfl) ?_
            refine lv_aload_n hx hb dL_isRing_109 rfl (lv_at hl 3 rfl) ?_
            refine lv_iload_n hx hb dL_isRing_110 rfl (lv_at hl 4 rfl) ?_
            refine g_callQ (va_runV (C := RX6) (As := [.int (nI g)]) (rest := [.int (cRollable r f (nI g))]) S0 (gMq_of (c_X6_version l hfl G _ z r f hP (nI g)) hKr) (cwV 1 hts gL_isRing_X6_version rfl rfl rfl (by decide +kernel) ⟨Nat.le_of_ble_eq_true rfl, Nat.le_of_ble_eq_true rfl⟩) (g_preXV hK hX hP (q0 := 0) (ci := 6) (q := (RX6, TX6, 7)) rfl rfl) rfl rfl hl.1 rfl (lv_room (Nat.le_of_ble_eq_true rfl)) dL_isRing_111 ⟨Nat.le_of_ble_eq_true rfl, Nat.le_of_ble_eq_true rfl⟩) ?_
            refine lv_icmp_eq (tgt := 130) hx hb dL_isRing_114 (by decide) (fun c_4 => ?_) (fun c_4 => ?_)
            · exact absurd (c_4.symm.trans y2) y3
            · refine lv_iload hx hb dL_isRing_117 (lv_at hl 0 rfl) ?_
              refine lv_aload_n hx hb dL_isRing_119 rfl (lv_at hl 3 rfl) ?_
              refine g_callC (W.runV (C := RX6) (As := []) (rest := [.int (cRollable r f (nI g))]) S0 (c_X6_versions l G _ z r f hP) (cwV 0 hts gL_isRing_X6_versions rfl rfl rfl (by decide +kernel) ⟨Nat.le_of_ble_eq_true rfl, Nat.le_of_ble_eq_true rfl⟩) (g_preV hK hP (q0 := 0) (ci := 6) (q := (RX6, TX6, 7)) rfl rfl) rfl rfl hl.1 rfl (lv_room (Nat.le_of_ble_eq_true rfl)) dL_isRing_120 ⟨Nat.le_of_ble_eq_true rfl, Nat.le_of_ble_eq_true rfl⟩) ?_
              refine lv_icmp_ge (tgt := 130) hx hb dL_isRing_123 (by decide) (fun c_5 => ?_) (fun c_5 => ?_)
              · exact absurd c_5 (by rw [y2, hf0]; exact fun z => by have := (nI_leI (by omega) (by omega)).mp z; omega)
              · refine lv_iconst (v := nI 1) hx hb dL_isRing_126 (by decide +kernel) ?_
                refine lv_goto (tgt := 131) hx hb dL_isRing_127 (by decide) ?_
                have hq : (nI 1) = (b2i true) := by
                  first | with_reducible rfl | with_reducible exact nI_add _ _ | (simp only [c_1, c_2, c_3, c_4, c_5, ↓reduceIte, Bool.false_eq_true, decide_true, decide_false, Bool.not_true, Bool.not_false, Bool.or_true, Bool.true_or, Bool.or_false, Bool.false_or]; done) | (simp only [c_1, c_2, c_3, c_4, c_5, ↓reduceIte, Bool.false_eq_true, decide_true, decide_false, Bool.not_true, Bool.not_false, Bool.or_true, Bool.true_or, Bool.or_false, Bool.false_or]; with_reducible rfl) | (simp only [c_1, c_2, c_3, c_4, c_5, ↓reduceIte, Bool.false_eq_true, decide_true, decide_false, Bool.not_true, Bool.not_false, Bool.or_true, Bool.true_or, Bool.or_false, Bool.false_or]; rfl) | (simp [b2i, c_1, c_2, c_3, c_4, c_5]; done) | rfl
                refine W.widen (k := 2) (n := 12) (Nat.le_of_ble_eq_true rfl) (Nat.le_of_ble_eq_true rfl) ?_
                exact W.zret (v := nI 1) hx hb hr (z_nar hq) (fun t ht _ => g_ret hq ht) g_no dL_isRing_131
      · refine lv_iload hx hb dL_isRing_53 (lv_at hl 4 rfl) ?_
        refine lv_if_eq (tgt := 87) hx hb dL_isRing_55 (by decide) (fun c_6 => ?_) (fun c_6 => ?_)
        · exact absurd c_6 (by decide)
        · refine lv_iload_n hx hb dL_isRing_58 rfl (lv_at hl 0 rfl) ?_
          refine lv_if_lt (tgt := 83) hx hb dL_isRing_59 (by decide) (fun c_7 => ?_) (fun c_7 => ?_)
          · refine lv_iconst (v := nI 1) hx hb dL_isRing_83 (by decide +kernel) ?_
            refine lv_goto (tgt := 88) hx hb dL_isRing_84 (by decide) ?_
            refine lv_istore (lv' := [(4, .int (nI 1)), (3, .int (rAt 4 (r 16) (nI g))), (2, .int (cLatest r (nI g))), (0, .ref (z 0)), (1, .int (nI g))]) hx hb dL_isRing_88 hl (by decide) rfl (fun ls hl => ?_)
            exact hJ90 _ (show lv_has ls 6 [(3, .int (rAt 4 (r 16) (nI g))), (2, .int (cLatest r (nI g))), (0, .ref (z 0)), (1, .int (nI g)), (4, .int (nI 1))] from lv_sub hl [1, 2, 3, 4, 0] rfl)
          · obtain ⟨i, o1, o2, o3, o4, o5⟩ := hOp.resolve_left (fun z => c_7 (by rw [z]; decide))
            refine lv_aload_n hx hb dL_isRing_62 rfl (lv_at hl 2 rfl) ?_
            refine lv_iload_n hx hb dL_isRing_63 rfl (lv_at hl 0 rfl) ?_
            refine g_callQ (va_runV (C := RX6) (As := [.int (rAt 4 (r 16) (nI g))]) (rest := []) S0 (gMq_of (c_X6_openedAt l hfl G _ z r f hP (rAt 4 (r 16) (nI g))) (by rw [o1]; exact o3)) (cwV 1 hts gL_isRing_X6_openedAt rfl rfl rfl (by decide +kernel) ⟨Nat.le_of_ble_eq_true rfl, Nat.le_of_ble_eq_true rfl⟩) (g_preXV hK hX hP (q0 := 0) (ci := 6) (q := (RX6, TX6, 7)) rfl rfl) rfl rfl hl.1 rfl (lv_room (Nat.le_of_ble_eq_true rfl)) dL_isRing_64 ⟨Nat.le_of_ble_eq_true rfl, Nat.le_of_ble_eq_true rfl⟩) ?_
            refine lv_bipush (v := nI 10) hx hb dL_isRing_67 (by decide +kernel) ?_
            refine lv_irem hx hb dL_isRing_69 (by decide) ?_
            refine lv_iload_n hx hb dL_isRing_70 rfl (lv_at hl 3 rfl) ?_
            refine lv_icmp_ne (tgt := 87) hx hb dL_isRing_71 (by decide) (fun c_8 => ?_) (fun c_8 => ?_)
            · exact absurd (by rw [o1]; exact o4) c_8
            · refine lv_aload_n hx hb dL_isRing_74 rfl (lv_at hl 2 rfl) ?_
              refine lv_iload_n hx hb dL_isRing_75 rfl (lv_at hl 0 rfl) ?_
              refine g_callQ (va_runV (C := RX6) (As := [.int (rAt 4 (r 16) (nI g))]) (rest := []) S0 (gMq_of (c_X6_closedAt l hfl G _ z r f hP (rAt 4 (r 16) (nI g))) (by rw [o1]; exact o3)) (cwV 1 hts gL_isRing_X6_closedAt rfl rfl rfl (by decide +kernel) ⟨Nat.le_of_ble_eq_true rfl, Nat.le_of_ble_eq_true rfl⟩) (g_preXV hK hX hP (q0 := 0) (ci := 6) (q := (RX6, TX6, 7)) rfl rfl) rfl rfl hl.1 rfl (lv_room (Nat.le_of_ble_eq_true rfl)) dL_isRing_76 ⟨Nat.le_of_ble_eq_true rfl, Nat.le_of_ble_eq_true rfl⟩) ?_
              refine lv_iconst (v := (-1)) hx hb dL_isRing_79 (by decide +kernel) ?_
              refine lv_icmp_ne (tgt := 87) hx hb dL_isRing_80 (by decide) (fun c_9 => ?_) (fun c_9 => ?_)
              · exact absurd (by rw [o1]; exact o5) c_9
              · refine lv_iconst (v := nI 1) hx hb dL_isRing_83 (by decide +kernel) ?_
                refine lv_goto (tgt := 88) hx hb dL_isRing_84 (by decide) ?_
                refine lv_istore (lv' := [(4, .int (nI 1)), (3, .int (rAt 4 (r 16) (nI g))), (2, .int (cLatest r (nI g))), (0, .ref (z 0)), (1, .int (nI g))]) hx hb dL_isRing_88 hl (by decide) rfl (fun ls hl => ?_)
                exact hJ90 _ (show lv_has ls 6 [(3, .int (rAt 4 (r 16) (nI g))), (2, .int (cLatest r (nI g))), (0, .ref (z 0)), (1, .int (nI g)), (4, .int (nI 1))] from lv_sub hl [1, 2, 3, 4, 0] rfl)
    · refine g_join m 34 6 [(3, .int (rAt 4 (r 16) (nI g))), (2, .int (cLatest r (nI g))), (0, .ref (z 0)), (1, .int (nI g))] [] (fun ls hl => ?_) (fun hJ34 => ?_)
      · refine lv_iload_n hx hb dL_isRing_34 rfl (lv_at hl 1 rfl) ?_
        refine lv_if_lt (tgt := 46) hx hb dL_isRing_35 (by decide) (fun c_10 => ?_) (fun c_10 => ?_)
        · refine lv_iconst (v := nI 1) hx hb dL_isRing_46 (by decide +kernel) ?_
          refine lv_goto (tgt := 51) hx hb dL_isRing_47 (by decide) ?_
          refine lv_istore (lv' := [(4, .int (nI 1)), (3, .int (rAt 4 (r 16) (nI g))), (2, .int (cLatest r (nI g))), (0, .ref (z 0)), (1, .int (nI g))]) hx hb dL_isRing_51 hl (by decide) rfl (fun ls hl => ?_)
          exact hJ53 _ (show lv_has ls 6 [(3, .int (rAt 4 (r 16) (nI g))), (2, .int (cLatest r (nI g))), (0, .ref (z 0)), (1, .int (nI g)), (4, .int (nI 1))] from lv_sub hl [1, 2, 3, 4, 0] rfl)
        · obtain ⟨j, j1, j2, j3, j4⟩ := hHl.resolve_left (fun z => c_10 (by rw [z]; decide))
          refine lv_aload_n hx hb dL_isRing_38 rfl (lv_at hl 2 rfl) ?_
          refine lv_iload_n hx hb dL_isRing_39 rfl (lv_at hl 3 rfl) ?_
          refine g_callQ (va_runV (C := RX6) (As := [.int (nI g)]) (rest := []) S0 (gMq_of (c_X6_isFaulty l hfl G _ z r f hP (nI g)) hKr) (cwV 1 hts gL_isRing_X6_isFaulty rfl rfl rfl (by decide +kernel) ⟨Nat.le_of_ble_eq_true rfl, Nat.le_of_ble_eq_true rfl⟩) (g_preXV hK hX hP (q0 := 0) (ci := 6) (q := (RX6, TX6, 7)) rfl rfl) rfl rfl hl.1 rfl (lv_room (Nat.le_of_ble_eq_true rfl)) dL_isRing_40 ⟨Nat.le_of_ble_eq_true rfl, Nat.le_of_ble_eq_true rfl⟩) ?_
          refine lv_if_eq (tgt := 50) hx hb dL_isRing_43 (by decide) (fun c_11 => ?_) (fun c_11 => ?_)
          · have c_11 := b2i_f c_11
            exact absurd (c_11.symm.trans j3) (by decide)
          · have c_11 := b2i_t c_11
            refine lv_iconst (v := nI 1) hx hb dL_isRing_46 (by decide +kernel) ?_
            refine lv_goto (tgt := 51) hx hb dL_isRing_47 (by decide) ?_
            refine lv_istore (lv' := [(4, .int (nI 1)), (3, .int (rAt 4 (r 16) (nI g))), (2, .int (cLatest r (nI g))), (0, .ref (z 0)), (1, .int (nI g))]) hx hb dL_isRing_51 hl (by decide) rfl (fun ls hl => ?_)
            exact hJ53 _ (show lv_has ls 6 [(3, .int (rAt 4 (r 16) (nI g))), (2, .int (cLatest r (nI g))), (0, .ref (z 0)), (1, .int (nI g)), (4, .int (nI 1))] from lv_sub hl [1, 2, 3, 4, 0] rfl)
      · refine lv_iload_n hx hb dL_isRing_21 rfl (lv_at hl 1 rfl) ?_
        refine lv_if_lt (tgt := 34) hx hb dL_isRing_22 (by decide) (fun c_12 => ?_) (fun c_12 => ?_)
        · exact hJ34 _ (show lv_has ls 6 [(3, .int (rAt 4 (r 16) (nI g))), (2, .int (cLatest r (nI g))), (0, .ref (z 0)), (1, .int (nI g))] from lv_sub hl [0, 1, 2, 3] rfl)
        · obtain ⟨j, j1, j2, j3, j4⟩ := hHl.resolve_left (fun z => c_12 (by rw [z]; decide))
          have hKt : kT (kBelow (f 3) (cLatest r (nI g))) (kRing (nI g)) = 0 := by rw [j2, hf3, kBelow_0 j1 (by omega), hKr]; rfl
          refine lv_aload_n hx hb dL_isRing_25 rfl (lv_at hl 2 rfl) ?_
          refine lv_iload_n hx hb dL_isRing_26 rfl (lv_at hl 1 rfl) ?_
          refine lv_iload_n hx hb dL_isRing_27 rfl (lv_at hl 3 rfl) ?_
          refine g_callQ (va_runV (C := RX6) (As := [.int (cLatest r (nI g)), .int (nI g)]) (rest := []) S0 (gMq_of (c_X6_heals l hfl G _ z r f hP (cLatest r (nI g)) (nI g)) hKt) (cwV 2 hts gL_isRing_X6_heals rfl rfl rfl (by decide +kernel) ⟨Nat.le_of_ble_eq_true rfl, Nat.le_of_ble_eq_true rfl⟩) (g_preXV hK hX hP (q0 := 0) (ci := 6) (q := (RX6, TX6, 7)) rfl rfl) rfl rfl hl.1 rfl (lv_room (Nat.le_of_ble_eq_true rfl)) dL_isRing_28 ⟨Nat.le_of_ble_eq_true rfl, Nat.le_of_ble_eq_true rfl⟩) ?_
          refine lv_if_eq (tgt := 50) hx hb dL_isRing_31 (by decide) (fun c_13 => ?_) (fun c_13 => ?_)
          · have c_13 := b2i_f c_13
            exact absurd (c_13.symm.trans (show cHeals r (cLatest r (nI g)) (nI g) = true by rw [j2]; exact j4)) (by decide)
          · have c_13 := b2i_t c_13
            exact hJ34 _ (show lv_has ls 6 [(3, .int (rAt 4 (r 16) (nI g))), (2, .int (cLatest r (nI g))), (0, .ref (z 0)), (1, .int (nI g))] from lv_sub hl [0, 1, 2, 3] rfl)

set_option maxHeartbeats 4000000 in
set_option maxRecDepth 100000 in
theorem c_L_isRota (l : Launch) (hfl : l.stackTraces = false) (G : gG) (H0 : Heap) (z : Nat → Nat) (r : Nat → Nat → Int32) (f : Nat → Int32) (hP : va_P G.1 vwCl (wRF G z r f) H0) (p : gRF) (n d k t v : Nat) (h9 : sY (r, f) p n d k t v) : gMq l yL_isRota wsL_isRota 9 154 1 G H0 [.ref (z 0)] (b2i true) := by
  refine Met.ofW (cc := cL_isRota) (maxL := 5) (ret := (some .boolean)) (by decide) rfl ?_
  intro p_ e_ s m args below meth c s₁ B hml hv
  obtain ⟨rfl, rfl, hK, hX⟩ := hv
  have hx := B.exec
  have hb := B.bytes
  have hr := B.returns
  have hts := atoms_spec (ws := wsL_isRota) B.pre
  have hown : s.vm.findClass RL = some m.cls := findClass_of_methodNamed B.named
  have hlocks := B.notSynchronized
  have S0 : CallFix p_ m c cL_isRota 5 s _ wsL_isRota RL := ⟨hx, hb, hml, hown, hts⟩
  have hl := lv_entry ([.ref (z 0)]) (n := 5) (Nat.le_of_ble_eq_true rfl)
  rw [lg_entry_eq]
  generalize (lg_sl ([.ref (z 0)]) ++ List.replicate (5 - (lg_sl ([.ref (z 0)])).length) Slot.unset).toArray = ls at hl ⊢
  have hl : lv_has ls 5 [(0, .ref (z 0))] := hl
  have hwk : f 1 / nI 14 = nI (t / 14) := f_week (q := (r, f)) h9
  obtain ⟨xh, xh2, hxh, hxh2, ex, ex2, exn⟩ := f_hold (q := (r, f)) h9
  have ex : rAt 42 (r 17) (nI (t / 14)) = nI xh := ex
  have ex2 : rAt 42 (r 17) (nI (t / 14) + nI 1) = nI xh2 := ex2
  obtain ⟨B, hB1, hB2, hB3, hB4⟩ := f_blots (q := (r, f)) h9
  have hB1 : ∀ c, c < 6 → rAt 6 (r 18) (nI c) = nI (B c) := hB1
  have hB4 : ∀ c, c < 6 → ¬ cNear r (nI c) (t / 14 + 2) < nI 1 + nI (B c) := hB4
  obtain ⟨hdu, hdu2⟩ := f_duty (q := (r, f)) h9
  have hdu : (cDuty r (f 1) = -1 ∧ ∀ j, j < 6 → cRest r (nI j) (f 1) = true) ∨ ∃ j, j < 6 ∧ cDuty r (f 1) = nI j ∧ cRest r (nI j) (f 1) = false := hdu
  have hdu2 : cRest r (rAt 42 (r 17) (nI (t / 14))) (f 1) = true ∨ cDuty r (f 1) = rAt 42 (r 17) (nI (t / 14)) := hdu2
  obtain ⟨hk1, hk2⟩ := f_kh (q := (r, f)) h9
  have hk1 : kHolder f (nI (t / 14)) = 0 := hk1
  have hk2 : kHolder f (nI (t / 14) + nI 1) = 0 := hk2
  have hf1 : f 1 = nI t := h9.1.1.f1
  have hf4 : f 4 = nI k := h9.1.1.f4
  have ht560 : t ≤ 560 := h9.1.1.ok.2.2.2.2.2.2.2.1
  have hk200 : k ≤ 200 := h9.1.1.ok.2.2.2.2.2.1
  refine g_join m 8 5 [(0, .ref (z 0)), (1, .int (nI (t / 14)))] [] (fun ls hl => ?_) (fun hJ8 => ?_)
  · refine lv_iconst (v := nI 0) hx hb dL_isRota_8 (by decide +kernel) ?_
    refine lv_istore_n (lv' := [(2, .int (nI 0)), (0, .ref (z 0)), (1, .int (nI (t / 14)))]) hx hb dL_isRota_9 rfl hl (by decide) rfl (fun ls hl => ?_)
    refine lv_aload_n hx hb dL_isRota_10 rfl (lv_at hl 1 rfl) ?_
    refine lv_iload_n hx hb dL_isRota_11 rfl (lv_at hl 2 rfl) ?_
    refine g_callQ (va_runV (C := RX6) (As := [.int (nI (t / 14))]) (rest := []) S0 (gMq_of (c_X6_holder l hfl G _ z r f hP (nI (t / 14))) hk1) (cwV 1 hts gL_isRota_X6_holder rfl rfl rfl (by decide +kernel) ⟨Nat.le_of_ble_eq_true rfl, Nat.le_of_ble_eq_true rfl⟩) (g_preXV hK hX hP (q0 := 0) (ci := 6) (q := (RX6, TX6, 7)) rfl rfl) rfl rfl hl.1 rfl (lv_room (Nat.le_of_ble_eq_true rfl)) dL_isRota_12 ⟨Nat.le_of_ble_eq_true rfl, Nat.le_of_ble_eq_true rfl⟩) ?_
    refine lv_aload_n hx hb dL_isRota_15 rfl (lv_at hl 1 rfl) ?_
    refine lv_iload_n hx hb dL_isRota_16 rfl (lv_at hl 2 rfl) ?_
    refine lv_iconst (v := nI 1) hx hb dL_isRota_17 (by decide +kernel) ?_
    refine lv_iadd hx hb dL_isRota_18 ?_
    refine g_callQ (va_runV (C := RX6) (As := [.int ((nI (t / 14)) + (nI 1))]) (rest := [.int (rAt 42 (r 17) (nI (t / 14)))]) S0 (gMq_of (c_X6_holder l hfl G _ z r f hP ((nI (t / 14)) + (nI 1))) hk2) (cwV 1 hts gL_isRota_X6_holder rfl rfl rfl (by decide +kernel) ⟨Nat.le_of_ble_eq_true rfl, Nat.le_of_ble_eq_true rfl⟩) (g_preXV hK hX hP (q0 := 0) (ci := 6) (q := (RX6, TX6, 7)) rfl rfl) rfl rfl hl.1 rfl (lv_room (Nat.le_of_ble_eq_true rfl)) dL_isRota_19 ⟨Nat.le_of_ble_eq_true rfl, Nat.le_of_ble_eq_true rfl⟩) ?_
    refine lv_icmp_eq (tgt := 29) hx hb dL_isRota_22 (by decide) (fun c_1 => ?_) (fun c_1 => ?_)
    · exact absurd ((ex.symm.trans c_1).trans ex2) exn
    · refine lv_iconst (v := nI 1) hx hb dL_isRota_25 (by decide +kernel) ?_
      refine lv_goto (tgt := 30) hx hb dL_isRota_26 (by decide) ?_
      refine lv_istore_n (lv' := [(3, .int (nI 1)), (2, .int (nI 0)), (0, .ref (z 0)), (1, .int (nI (t / 14)))]) hx hb dL_isRota_30 rfl hl (by decide) rfl (fun ls hl => ?_)
      refine lv_iconst (v := nI 0) hx hb dL_isRota_31 (by decide +kernel) ?_
      refine lv_istore (lv' := [(4, .int (nI 0)), (3, .int (nI 1)), (2, .int (nI 0)), (0, .ref (z 0)), (1, .int (nI (t / 14)))]) hx hb dL_isRota_32 hl (by decide) rfl (fun ls hl => ?_)
      refine g_loop _ m 34 5 [] (6) (fun i => [(4, .int (nI i)), (3, .int (nI 1)), (2, .int (nI (pS B i))), (0, .ref (z 0)), (1, .int (nI (t / 14)))]) (fun i => True) (fun i hi34 hI ih34 ls hl => ?_) 0 (Nat.zero_le _) trivial ls ?_
      · have hl : lv_has ls 5 [(4, .int (nI i)), (3, .int (nI 1)), (2, .int (nI (pS B i))), (0, .ref (z 0)), (1, .int (nI (t / 14)))] := hl
        have hI : True := hI
        refine lv_iload hx hb dL_isRota_34 (lv_at hl 0 rfl) ?_
        refine lv_bipush (v := nI 6) hx hb dL_isRota_36 (by decide +kernel) ?_
        refine lv_icmp_ge (tgt := 83) hx hb dL_isRota_38 (by decide) (fun c_2 => ?_) (fun c_2 => ?_)
        · have hex : 6 = i := by
            have h9 := (nI_leI (a := 6) (b := i) (by decide) (by omega)).mp c_2
            omega
          subst hex
          refine lv_aload_n hx hb dL_isRota_83 rfl (lv_at hl 3 rfl) ?_
          refine g_callC (W.runV (C := RX6) (As := []) (rest := []) S0 (c_X6_onCall l G _ z r f hP) (cwV 0 hts gL_isRota_X6_onCall rfl rfl rfl (by decide +kernel) ⟨Nat.le_of_ble_eq_true rfl, Nat.le_of_ble_eq_true rfl⟩) (g_preV hK hP (q0 := 0) (ci := 6) (q := (RX6, TX6, 7)) rfl rfl) rfl rfl hl.1 rfl (lv_room (Nat.le_of_ble_eq_true rfl)) dL_isRota_84 ⟨Nat.le_of_ble_eq_true rfl, Nat.le_of_ble_eq_true rfl⟩) ?_
          refine lv_istore (lv' := [(4, .int (cDuty r (f 1))), (3, .int (nI 1)), (2, .int (nI (pS B 6))), (0, .ref (z 0)), (1, .int (nI (t / 14)))]) hx hb dL_isRota_87 hl (by decide) rfl (fun ls hl => ?_)
          refine lv_iload_n hx hb dL_isRota_89 rfl (lv_at hl 1 rfl) ?_
          refine lv_if_eq (tgt := 130) hx hb dL_isRota_90 (by decide) (fun c_3 => ?_) (fun c_3 => ?_)
          · exact absurd c_3 (by decide)
          · refine g_join m 132 5 [(4, .int (cDuty r (f 1))), (3, .int (nI 1)), (2, .int (nI (pS B 6))), (0, .ref (z 0)), (1, .int (nI (t / 14)))] [] (fun ls hl => ?_) (fun hJ132 => ?_)
            · refine lv_iload_n hx hb dL_isRota_132 rfl (lv_at hl 1 rfl) ?_
              refine lv_if_eq (tgt := 162) hx hb dL_isRota_133 (by decide) (fun c_4 => ?_) (fun c_4 => ?_)
              · exact absurd c_4 c_3
              · refine lv_aload_n hx hb dL_isRota_136 rfl (lv_at hl 3 rfl) ?_
                refine lv_aload_n hx hb dL_isRota_137 rfl (lv_at hl 3 rfl) ?_
                refine lv_iload_n hx hb dL_isRota_138 rfl (lv_at hl 4 rfl) ?_
                refine g_callQ (va_runV (C := RX6) (As := [.int (nI (t / 14))]) (rest := [.ref (z 0)]) S0 (gMq_of (c_X6_holder l hfl G _ z r f hP (nI (t / 14))) hk1) (cwV 1 hts gL_isRota_X6_holder rfl rfl rfl (by decide +kernel) ⟨Nat.le_of_ble_eq_true rfl, Nat.le_of_ble_eq_true rfl⟩) (g_preXV hK hX hP (q0 := 0) (ci := 6) (q := (RX6, TX6, 7)) rfl rfl) rfl rfl hl.1 rfl (lv_room (Nat.le_of_ble_eq_true rfl)) dL_isRota_139 ⟨Nat.le_of_ble_eq_true rfl, Nat.le_of_ble_eq_true rfl⟩) ?_
                refine g_callQ (va_runV (C := RX6) (As := [.int (rAt 42 (r 17) (nI (t / 14)))]) (rest := []) S0 (gMq_of (c_X6_rests l hfl G _ z r f hP (rAt 42 (r 17) (nI (t / 14)))) (by rw [ex]; exact kPerson_0 hxh)) (cwV 1 hts gL_isRota_X6_rests rfl rfl rfl (by decide +kernel) ⟨Nat.le_of_ble_eq_true rfl, Nat.le_of_ble_eq_true rfl⟩) (g_preXV hK hX hP (q0 := 0) (ci := 6) (q := (RX6, TX6, 7)) rfl rfl) rfl rfl hl.1 rfl (lv_room (Nat.le_of_ble_eq_true rfl)) dL_isRota_142 ⟨Nat.le_of_ble_eq_true rfl, Nat.le_of_ble_eq_true rfl⟩) ?_
                refine lv_if_ne (tgt := 158) hx hb dL_isRota_145 (by decide) (fun c_5 => ?_) (fun c_5 => ?_)
                · have c_5 := b2i_t c_5
                  refine lv_iconst (v := nI 1) hx hb dL_isRota_158 (by decide +kernel) ?_
                  refine lv_goto (tgt := 163) hx hb dL_isRota_159 (by decide) ?_
                  have hq : (nI 1) = (b2i true) := by
                    first | with_reducible rfl | with_reducible exact nI_add _ _ | (simp only [c_1, c_2, c_3, c_4, c_5, ↓reduceIte, Bool.false_eq_true, decide_true, decide_false, Bool.not_true, Bool.not_false, Bool.or_true, Bool.true_or, Bool.or_false, Bool.false_or]; done) | (simp only [c_1, c_2, c_3, c_4, c_5, ↓reduceIte, Bool.false_eq_true, decide_true, decide_false, Bool.not_true, Bool.not_false, Bool.or_true, Bool.true_or, Bool.or_false, Bool.false_or]; with_reducible rfl) | (simp only [c_1, c_2, c_3, c_4, c_5, ↓reduceIte, Bool.false_eq_true, decide_true, decide_false, Bool.not_true, Bool.not_false, Bool.or_true, Bool.true_or, Bool.or_false, Bool.false_or]; rfl) | (simp [b2i, c_1, c_2, c_3, c_4, c_5]; done) | rfl
                  refine W.widen (k := 1) (n := 6) (Nat.le_of_ble_eq_true rfl) (Nat.le_of_ble_eq_true rfl) ?_
                  exact W.zret (v := nI 1) hx hb hr (z_nar hq) (fun t ht _ => g_ret hq ht) g_no dL_isRota_163
                · have c_5 := b2i_f c_5
                  have hdu3 : cDuty r (f 1) = rAt 42 (r 17) (nI (t / 14)) := hdu2.resolve_left (fun z => by rw [c_5] at z; cases z)
                  refine lv_iload hx hb dL_isRota_148 (lv_at hl 0 rfl) ?_
                  refine lv_aload_n hx hb dL_isRota_150 rfl (lv_at hl 3 rfl) ?_
                  refine lv_iload_n hx hb dL_isRota_151 rfl (lv_at hl 4 rfl) ?_
                  refine g_callQ (va_runV (C := RX6) (As := [.int (nI (t / 14))]) (rest := [.int (cDuty r (f 1))]) S0 (gMq_of (c_X6_holder l hfl G _ z r f hP (nI (t / 14))) hk1) (cwV 1 hts gL_isRota_X6_holder rfl rfl rfl (by decide +kernel) ⟨Nat.le_of_ble_eq_true rfl, Nat.le_of_ble_eq_true rfl⟩) (g_preXV hK hX hP (q0 := 0) (ci := 6) (q := (RX6, TX6, 7)) rfl rfl) rfl rfl hl.1 rfl (lv_room (Nat.le_of_ble_eq_true rfl)) dL_isRota_152 ⟨Nat.le_of_ble_eq_true rfl, Nat.le_of_ble_eq_true rfl⟩) ?_
                  refine lv_icmp_ne (tgt := 162) hx hb dL_isRota_155 (by decide) (fun c_6 => ?_) (fun c_6 => ?_)
                  · exact absurd hdu3 c_6
                  · refine lv_iconst (v := nI 1) hx hb dL_isRota_158 (by decide +kernel) ?_
                    refine lv_goto (tgt := 163) hx hb dL_isRota_159 (by decide) ?_
                    have hq : (nI 1) = (b2i true) := by
                      first | with_reducible rfl | with_reducible exact nI_add _ _ | (simp only [c_1, c_2, c_3, c_4, c_5, c_6, ↓reduceIte, Bool.false_eq_true, decide_true, decide_false, Bool.not_true, Bool.not_false, Bool.or_true, Bool.true_or, Bool.or_false, Bool.false_or]; done) | (simp only [c_1, c_2, c_3, c_4, c_5, c_6, ↓reduceIte, Bool.false_eq_true, decide_true, decide_false, Bool.not_true, Bool.not_false, Bool.or_true, Bool.true_or, Bool.or_false, Bool.false_or]; with_reducible rfl) | (simp only [c_1, c_2, c_3, c_4, c_5, c_6, ↓reduceIte, Bool.false_eq_true, decide_true, decide_false, Bool.not_true, Bool.not_false, Bool.or_true, Bool.true_or, Bool.or_false, Bool.false_or]; rfl) | (simp [b2i, c_1, c_2, c_3, c_4, c_5, c_6]; done) | rfl
                    refine W.widen (k := 1) (n := 6) (Nat.le_of_ble_eq_true rfl) (Nat.le_of_ble_eq_true rfl) ?_
                    exact W.zret (v := nI 1) hx hb hr (z_nar hq) (fun t ht _ => g_ret hq ht) g_no dL_isRota_163
            · refine lv_iload_n hx hb dL_isRota_93 rfl (lv_at hl 2 rfl) ?_
              refine lv_aload_n hx hb dL_isRota_94 rfl (lv_at hl 3 rfl) ?_
              refine g_callC (W.runV (C := RX6) (As := []) (rest := [.int (nI (pS B 6))]) S0 (c_X6_incidents l G _ z r f hP) (cwV 0 hts gL_isRota_X6_incidents rfl rfl rfl (by decide +kernel) ⟨Nat.le_of_ble_eq_true rfl, Nat.le_of_ble_eq_true rfl⟩) (g_preV hK hP (q0 := 0) (ci := 6) (q := (RX6, TX6, 7)) rfl rfl) rfl rfl hl.1 rfl (lv_room (Nat.le_of_ble_eq_true rfl)) dL_isRota_95 ⟨Nat.le_of_ble_eq_true rfl, Nat.le_of_ble_eq_true rfl⟩) ?_
              refine lv_icmp_gt (tgt := 130) hx hb dL_isRota_98 (by decide) (fun c_7 => ?_) (fun c_7 => ?_)
              · exact absurd c_7 (by rw [hf4, pS_6]; exact fun z => by have := (nI_ltI (by omega) (by omega)).mp z; omega)
              · refine lv_iload hx hb dL_isRota_101 (lv_at hl 0 rfl) ?_
                refine lv_if_ge (tgt := 117) hx hb dL_isRota_103 (by decide) (fun c_8 => ?_) (fun c_8 => ?_)
                · obtain ⟨j, j1, j2, j3⟩ := hdu.resolve_left (fun z => by have h9 := c_8; rw [z.1] at h9; exact absurd h9 (by decide))
                  refine lv_aload_n hx hb dL_isRota_117 rfl (lv_at hl 3 rfl) ?_
                  refine lv_iload hx hb dL_isRota_118 (lv_at hl 0 rfl) ?_
                  refine g_callQ (va_runV (C := RX6) (As := [.int (cDuty r (f 1))]) (rest := []) S0 (gMq_of (c_X6_rests l hfl G _ z r f hP (cDuty r (f 1))) (by rw [j2]; exact kPerson_0 j1)) (cwV 1 hts gL_isRota_X6_rests rfl rfl rfl (by decide +kernel) ⟨Nat.le_of_ble_eq_true rfl, Nat.le_of_ble_eq_true rfl⟩) (g_preXV hK hX hP (q0 := 0) (ci := 6) (q := (RX6, TX6, 7)) rfl rfl) rfl rfl hl.1 rfl (lv_room (Nat.le_of_ble_eq_true rfl)) dL_isRota_120 ⟨Nat.le_of_ble_eq_true rfl, Nat.le_of_ble_eq_true rfl⟩) ?_
                  refine lv_if_ne (tgt := 130) hx hb dL_isRota_123 (by decide) (fun c_9 => ?_) (fun c_9 => ?_)
                  · have c_9 := b2i_t c_9
                    exact absurd (c_9.symm.trans (show cRest r (cDuty r (f 1)) (f 1) = false by rw [j2]; exact j3)) (by decide)
                  · have c_9 := b2i_f c_9
                    refine lv_iconst (v := nI 1) hx hb dL_isRota_126 (by decide +kernel) ?_
                    refine lv_goto (tgt := 131) hx hb dL_isRota_127 (by decide) ?_
                    refine lv_istore_n (lv' := [(3, .int (nI 1)), (4, .int (cDuty r (f 1))), (2, .int (nI (pS B 6))), (0, .ref (z 0)), (1, .int (nI (t / 14)))]) hx hb dL_isRota_131 rfl hl (by decide) rfl (fun ls hl => ?_)
                    exact hJ132 _ (show lv_has ls 5 [(4, .int (cDuty r (f 1))), (3, .int (nI 1)), (2, .int (nI (pS B 6))), (0, .ref (z 0)), (1, .int (nI (t / 14)))] from lv_sub hl [1, 0, 2, 3, 4] rfl)
                · have hall : ∀ j, j < 6 → cRest r (nI j) (f 1) = true := by
                    rcases hdu with ⟨-, b9⟩ | ⟨j, j1, j2, j3⟩
                    · exact b9
                    · exact absurd (by rw [j2]; exact Int32.not_lt.mp (nI_nl j (by omega))) c_8
                  have hA : cAw r (f 1) 0 = -1 := by
                    rcases f_awake r (f 1) (g := 0) (by decide) with ⟨a9, -⟩ | ⟨a, a1, a2, a3⟩
                    · exact a9
                    · exact absurd ((hall a a1).symm.trans a3) (by decide)
                  refine lv_aload_n hx hb dL_isRota_106 rfl (lv_at hl 3 rfl) ?_
                  refine lv_iconst (v := nI 0) hx hb dL_isRota_107 (by decide +kernel) ?_
                  refine g_callQ (va_runS (As := [.ref (z 0), .int (nI 0)]) (rest := []) S0 (c_L_awake l hfl G _ z r f hP (nI 0) 0 rfl (by decide)) (va_cwS 2 hts gL_isRota_L_awake rfl rfl rfl (by decide +kernel) ⟨Nat.le_of_ble_eq_true rfl, Nat.le_of_ble_eq_true rfl⟩) (g_preXS hK hX) rfl rfl hl.1 rfl (lv_room (Nat.le_of_ble_eq_true rfl)) dL_isRota_108 ⟨Nat.le_of_ble_eq_true rfl, Nat.le_of_ble_eq_true rfl⟩) ?_
                  refine lv_if_ge (tgt := 130) hx hb dL_isRota_111 (by decide) (fun c_10 => ?_) (fun c_10 => ?_)
                  · exact absurd c_10 (by rw [hA]; decide)
                  · refine lv_goto (tgt := 126) hx hb dL_isRota_114 (by decide) ?_
                    refine lv_iconst (v := nI 1) hx hb dL_isRota_126 (by decide +kernel) ?_
                    refine lv_goto (tgt := 131) hx hb dL_isRota_127 (by decide) ?_
                    refine lv_istore_n (lv' := [(3, .int (nI 1)), (4, .int (cDuty r (f 1))), (2, .int (nI (pS B 6))), (0, .ref (z 0)), (1, .int (nI (t / 14)))]) hx hb dL_isRota_131 rfl hl (by decide) rfl (fun ls hl => ?_)
                    exact hJ132 _ (show lv_has ls 5 [(4, .int (cDuty r (f 1))), (3, .int (nI 1)), (2, .int (nI (pS B 6))), (0, .ref (z 0)), (1, .int (nI (t / 14)))] from lv_sub hl [1, 0, 2, 3, 4] rfl)
        · have hlt : i < 6 := by
            have h9 := mt (nI_leI (a := 6) (b := i) (by decide) (by omega)).mpr c_2
            omega
          refine lv_iload_n hx hb dL_isRota_41 rfl (lv_at hl 2 rfl) ?_
          refine lv_aload_n hx hb dL_isRota_42 rfl (lv_at hl 3 rfl) ?_
          refine lv_iload hx hb dL_isRota_43 (lv_at hl 0 rfl) ?_
          refine g_callQ (va_runV (C := RX6) (As := [.int (nI i)]) (rest := [.int (nI (pS B i))]) S0 (gMq_of (c_X6_blots l hfl G _ z r f hP (nI i)) (kPerson_0 hlt)) (cwV 1 hts gL_isRota_X6_blots rfl rfl rfl (by decide +kernel) ⟨Nat.le_of_ble_eq_true rfl, Nat.le_of_ble_eq_true rfl⟩) (g_preXV hK hX hP (q0 := 0) (ci := 6) (q := (RX6, TX6, 7)) rfl rfl) rfl rfl hl.1 rfl (lv_room (Nat.le_of_ble_eq_true rfl)) dL_isRota_45 ⟨Nat.le_of_ble_eq_true rfl, Nat.le_of_ble_eq_true rfl⟩) ?_
          refine lv_iadd hx hb dL_isRota_48 ?_
          refine lv_istore_n (lv' := [(2, .int ((nI (pS B i)) + (rAt 6 (r 18) (nI i)))), (4, .int (nI i)), (3, .int (nI 1)), (0, .ref (z 0)), (1, .int (nI (t / 14)))]) hx hb dL_isRota_49 rfl hl (by decide) rfl (fun ls hl => ?_)
          refine lv_iload_n hx hb dL_isRota_50 rfl (lv_at hl 2 rfl) ?_
          refine lv_if_eq (tgt := 75) hx hb dL_isRota_51 (by decide) (fun c_11 => ?_) (fun c_11 => ?_)
          · exact absurd c_11 (by decide)
          · refine lv_aload_n hx hb dL_isRota_54 rfl (lv_at hl 3 rfl) ?_
            refine lv_iload hx hb dL_isRota_55 (lv_at hl 1 rfl) ?_
            refine g_callQ (va_runV (C := RX6) (As := [.int (nI i)]) (rest := []) S0 (gMq_of (c_X6_near l hfl G _ z r f hP (nI i) t hf1 ht560) (kPerson_0 hlt)) (cwV 1 hts gL_isRota_X6_near rfl rfl rfl (by decide +kernel) ⟨Nat.le_of_ble_eq_true rfl, Nat.le_of_ble_eq_true rfl⟩) (g_preXV hK hX hP (q0 := 0) (ci := 6) (q := (RX6, TX6, 7)) rfl rfl) rfl rfl hl.1 rfl (lv_room (Nat.le_of_ble_eq_true rfl)) dL_isRota_57 ⟨Nat.le_of_ble_eq_true rfl, Nat.le_of_ble_eq_true rfl⟩) ?_
            refine lv_iconst (v := nI 1) hx hb dL_isRota_60 (by decide +kernel) ?_
            refine lv_aload_n hx hb dL_isRota_61 rfl (lv_at hl 3 rfl) ?_
            refine lv_iload hx hb dL_isRota_62 (lv_at hl 1 rfl) ?_
            refine g_callQ (va_runV (C := RX6) (As := [.int (nI i)]) (rest := [.int (nI 1), .int (cNear r (nI i) (t / 14 + 2))]) S0 (gMq_of (c_X6_blots l hfl G _ z r f hP (nI i)) (kPerson_0 hlt)) (cwV 1 hts gL_isRota_X6_blots rfl rfl rfl (by decide +kernel) ⟨Nat.le_of_ble_eq_true rfl, Nat.le_of_ble_eq_true rfl⟩) (g_preXV hK hX hP (q0 := 0) (ci := 6) (q := (RX6, TX6, 7)) rfl rfl) rfl rfl hl.1 rfl (lv_room (Nat.le_of_ble_eq_true rfl)) dL_isRota_64 ⟨Nat.le_of_ble_eq_true rfl, Nat.le_of_ble_eq_true rfl⟩) ?_
            refine lv_iadd hx hb dL_isRota_67 ?_
            refine lv_icmp_lt (tgt := 75) hx hb dL_isRota_68 (by decide) (fun c_12 => ?_) (fun c_12 => ?_)
            · exact absurd c_12 (by rw [hB1 i hlt]; exact hB4 i hlt)
            · refine lv_iconst (v := nI 1) hx hb dL_isRota_71 (by decide +kernel) ?_
              refine lv_goto (tgt := 76) hx hb dL_isRota_72 (by decide) ?_
              refine lv_istore_n (lv' := [(3, .int (nI 1)), (2, .int ((nI (pS B i)) + (rAt 6 (r 18) (nI i)))), (4, .int (nI i)), (0, .ref (z 0)), (1, .int (nI (t / 14)))]) hx hb dL_isRota_76 rfl hl (by decide) rfl (fun ls hl => ?_)
              refine lv_iinc (v := (nI i) + nI 1) (lv' := [(4, .int ((nI i) + nI 1)), (3, .int (nI 1)), (2, .int ((nI (pS B i)) + (rAt 6 (r 18) (nI i)))), (0, .ref (z 0)), (1, .int (nI (t / 14)))]) hx hb dL_isRota_77 hl (k := 2) rfl (congrArg (fun q : Int32 => (nI i) + q) (by decide +kernel)) (by decide) rfl (fun ls hl => ?_)
              refine lv_goto (tgt := 34) hx hb dL_isRota_80 (by decide) ?_
              exact ih34 _ (by omega) trivial (lv_cv (show lv_has ls 5 [(4, .int ((nI i) + nI 1)), (3, .int (nI 1)), (2, .int ((nI (pS B i)) + (rAt 6 (r 18) (nI i)))), (0, .ref (z 0)), (1, .int (nI (t / 14)))] from lv_sub hl [0, 1, 2, 3, 4] rfl) (gl_i (show (nI i) + nI 1 = nI (i + 1) by first | with_reducible rfl | with_reducible exact nI_add _ _ | (simp only [itN_s i, c_1, c_2, c_11, c_12, ↓reduceIte, Bool.false_eq_true, decide_true, decide_false, Bool.not_true, Bool.not_false, Bool.or_true, Bool.true_or, Bool.or_false, Bool.false_or]; done) | (simp only [itN_s i, c_1, c_2, c_11, c_12, ↓reduceIte, Bool.false_eq_true, decide_true, decide_false, Bool.not_true, Bool.not_false, Bool.or_true, Bool.true_or, Bool.or_false, Bool.false_or]; with_reducible rfl) | (simp only [itN_s i, c_1, c_2, c_11, c_12, ↓reduceIte, Bool.false_eq_true, decide_true, decide_false, Bool.not_true, Bool.not_false, Bool.or_true, Bool.true_or, Bool.or_false, Bool.false_or]; rfl) | (simp [b2i, itN_s i, c_1, c_2, c_11, c_12]; done) | rfl) (gl_s (gl_i (show (nI (pS B i)) + (rAt 6 (r 18) (nI i)) = nI (pS B (i + 1)) by rw [hB1 i hlt, nI_add]; rfl) (gl_s (gl_s rfl))))))
      · exact (lv_cv (show lv_has ls 5 [(4, .int (nI 0)), (3, .int (nI 1)), (2, .int (nI 0)), (0, .ref (z 0)), (1, .int (nI (t / 14)))] from lv_sub hl [0, 1, 2, 3, 4] rfl) (gl_s (gl_s (gl_i (show nI 0 = nI (pS B 0) by rfl) (gl_s (gl_s rfl))))))
  · refine lv_aload_n hx hb dL_isRota_0 rfl (lv_at hl 0 rfl) ?_
    refine g_callC (W.runV (C := RX6) (As := []) (rest := []) S0 (c_X6_time l G _ z r f hP) (cwV 0 hts gL_isRota_X6_time rfl rfl rfl (by decide +kernel) ⟨Nat.le_of_ble_eq_true rfl, Nat.le_of_ble_eq_true rfl⟩) (g_preV hK hP (q0 := 0) (ci := 6) (q := (RX6, TX6, 7)) rfl rfl) rfl rfl hl.1 rfl (lv_room (Nat.le_of_ble_eq_true rfl)) dL_isRota_1 ⟨Nat.le_of_ble_eq_true rfl, Nat.le_of_ble_eq_true rfl⟩) ?_
    refine lv_bipush (v := nI 14) hx hb dL_isRota_4 (by decide +kernel) ?_
    refine lv_idiv hx hb dL_isRota_6 (by decide) ?_
    refine lv_istore_n (lv' := [(1, .int ((f 1) / (nI 14))), (0, .ref (z 0))]) hx hb dL_isRota_7 rfl hl (by decide) rfl (fun ls hl => ?_)
    exact hJ8 _ (lv_cv (show lv_has ls 5 [(0, .ref (z 0)), (1, .int ((f 1) / (nI 14)))] from lv_sub hl [1, 0] rfl) (gl_s (gl_i (show (f 1) / (nI 14) = nI (t / 14) by exact hwk) rfl)))
