set_option maxHeartbeats 4000000 in
set_option maxRecDepth 100000 in
theorem c_X6_runs (l : Launch) (G : gG) (H0 : Heap) (z : Nat → Nat) (r : Nat → Nat → Int32) (f : Nat → Int32) (hP : va_P G.1 vwCl (wRF G z r f) H0) (x1 : Int32) : gMr l yX6_runs wsX6_runs 2 43 G H0 [.ref (z 0), .int x1] (cRuns r x1) := by
  refine Met.ofW (cc := cX6_runs) (maxL := 2) (ret := (some .int)) (by decide) rfl ?_
  intro p_ e_ s m args below meth c s₁ B hml hv
  obtain ⟨rfl, rfl, hK⟩ := hv
  have hx := B.exec
  have hb := B.bytes
  have hr := B.returns
  have hts := atoms_spec (ws := wsX6_runs) B.pre
  have hown : s.vm.findClass RX6 = some m.cls := findClass_of_methodNamed B.named
  have hlocks := B.notSynchronized
  have hinX6 : ∀ w ∈ wsX60, w ∈ wsX6_runs := by decide +kernel
  have S0 : CallFix p_ m c cX6_runs 2 s _ wsX6_runs RX6 := ⟨hx, hb, hml, hown, hts⟩
  have hl := lv_entry ([.ref (z 0), .int x1]) (n := 2) (Nat.le_of_ble_eq_true rfl)
  rw [lg_entry_eq]
  generalize (lg_sl ([.ref (z 0), .int x1]) ++ List.replicate (2 - (lg_sl ([.ref (z 0), .int x1])).length) Slot.unset).toArray = ls at hl ⊢
  have hl : lv_has ls 2 [(0, .ref (z 0)), (1, .int x1)] := hl
  refine lv_aload_n hx hb dX6_runs_0 rfl (lv_at hl 0 rfl) ?_
  refine va_get (D := G.1) (ci := 6) (v := .ref (z 3)) (C := RX6) (T := TX6) (N := 7) hx hb hts hinX6 hown hK.1 hP 0 rfl rfl 2 (by decide) (hts (.fieldLink RX6 26 "Rotaforge" "changeLog" "LRotaforge$ChangeLog;") (by decide +kernel)) (fun _ h9 => h9) rfl dX6_runs_1 ?_
  refine lv_iload_n hx hb dX6_runs_4 rfl (lv_at hl 1 rfl) ?_
  refine g_callC (W.runS (As := [.int x1]) (rest := [.ref (z 3)]) S0 (c_X6_subjectOfRing l G _ x1) (va_cwS 1 hts gX6_runs_X6_subjectOfRing rfl rfl rfl (by decide +kernel) ⟨Nat.le_of_ble_eq_true rfl, Nat.le_of_ble_eq_true rfl⟩) (g_preS hK) rfl rfl hl.1 rfl (lv_room (Nat.le_of_ble_eq_true rfl)) dX6_runs_5 ⟨Nat.zero_le _, Nat.zero_le _⟩) ?_
  refine g_callC (W.runV (C := RX0) (As := [.int (cSubj x1)]) (rest := []) S0 (c_X0_valueNow l G _ z r f hP (cSubj x1)) (cwV 1 hts gX6_runs_X0_valueNow rfl rfl rfl (by decide +kernel) ⟨Nat.le_of_ble_eq_true rfl, Nat.le_of_ble_eq_true rfl⟩) (g_preV hK hP (q0 := 3) (ci := 0) (q := (RX0, TX0, 7)) rfl rfl) rfl rfl hl.1 rfl (lv_room (Nat.le_of_ble_eq_true rfl)) dX6_runs_8 ⟨Nat.zero_le _, Nat.zero_le _⟩) ?_
  have hq : (cValueNow r (cSubj x1)) = (cRuns r x1) := by
    first | with_reducible rfl | with_reducible exact nI_add _ _ | (simp only [true_and, ↓reduceIte, Bool.false_eq_true, decide_true, decide_false, Bool.not_true, Bool.not_false, Bool.or_true, Bool.true_or, Bool.or_false, Bool.false_or]; done) | (simp only [true_and, ↓reduceIte, Bool.false_eq_true, decide_true, decide_false, Bool.not_true, Bool.not_false, Bool.or_true, Bool.true_or, Bool.or_false, Bool.false_or]; with_reducible rfl) | (simp only [true_and, ↓reduceIte, Bool.false_eq_true, decide_true, decide_false, Bool.not_true, Bool.not_false, Bool.or_true, Bool.true_or, Bool.or_false, Bool.false_or]; rfl) | (simp [b2i, true_and]; done) | rfl
  exact W.iret (v := cValueNow r (cSubj x1)) hx hb hr (fun t ht _ => g_ret hq ht) g_no dX6_runs_11

set_option maxHeartbeats 4000000 in
set_option maxRecDepth 100000 in
theorem c_X6_weekNow (l : Launch) (G : gG) (H0 : Heap) (z : Nat → Nat) (r : Nat → Nat → Int32) (f : Nat → Int32) (hP : va_P G.1 vwCl (wRF G z r f) H0) : gMr l yX6_weekNow wsX6_weekNow 0 0 G H0 [.ref (z 0)] (f 1 / nI 14) := by
  refine Met.ofW (cc := cX6_weekNow) (maxL := 1) (ret := (some .int)) (by decide) rfl ?_
  intro p_ e_ s m args below meth c s₁ B hml hv
  obtain ⟨rfl, rfl, hK⟩ := hv
  have hx := B.exec
  have hb := B.bytes
  have hr := B.returns
  have hts := atoms_spec (ws := wsX6_weekNow) B.pre
  have hown : s.vm.findClass RX6 = some m.cls := findClass_of_methodNamed B.named
  have hlocks := B.notSynchronized
  have hinX6 : ∀ w ∈ wsX60, w ∈ wsX6_weekNow := by decide +kernel
  have S0 : CallFix p_ m c cX6_weekNow 1 s _ wsX6_weekNow RX6 := ⟨hx, hb, hml, hown, hts⟩
  have hl := lv_entry ([.ref (z 0)]) (n := 1) (Nat.le_of_ble_eq_true rfl)
  rw [lg_entry_eq]
  generalize (lg_sl ([.ref (z 0)]) ++ List.replicate (1 - (lg_sl ([.ref (z 0)])).length) Slot.unset).toArray = ls at hl ⊢
  have hl : lv_has ls 1 [(0, .ref (z 0))] := hl
  refine lv_aload_n hx hb dX6_weekNow_0 rfl (lv_at hl 0 rfl) ?_
  refine va_get (D := G.1) (ci := 6) (v := .int (f 1)) (C := RX6) (T := TX6) (N := 7) hx hb hts hinX6 hown hK.1 hP 0 rfl rfl 6 (by decide) (hts (.fieldLink RX6 48 "Rotaforge" "now" "I") (by decide +kernel)) (fun _ h9 => h9) rfl dX6_weekNow_1 ?_
  refine lv_bipush (v := nI 14) hx hb dX6_weekNow_4 (by decide +kernel) ?_
  refine lv_idiv hx hb dX6_weekNow_6 (by decide) ?_
  have hq : ((f 1) / (nI 14)) = (f 1 / nI 14) := by
    first | with_reducible rfl | with_reducible exact nI_add _ _ | (simp only [true_and, ↓reduceIte, Bool.false_eq_true, decide_true, decide_false, Bool.not_true, Bool.not_false, Bool.or_true, Bool.true_or, Bool.or_false, Bool.false_or]; done) | (simp only [true_and, ↓reduceIte, Bool.false_eq_true, decide_true, decide_false, Bool.not_true, Bool.not_false, Bool.or_true, Bool.true_or, Bool.or_false, Bool.false_or]; with_reducible rfl) | (simp only [true_and, ↓reduceIte, Bool.false_eq_true, decide_true, decide_false, Bool.not_true, Bool.not_false, Bool.or_true, Bool.true_or, Bool.or_false, Bool.false_or]; rfl) | (simp [b2i, true_and]; done) | rfl
  exact W.iret (v := (f 1) / (nI 14)) hx hb hr (fun t ht _ => g_ret hq ht) g_no dX6_weekNow_7

set_option maxHeartbeats 4000000 in
set_option maxRecDepth 100000 in
theorem c_X6_setIn (l : Launch) (G : gG) (H0 : Heap) (z : Nat → Nat) (r : Nat → Nat → Int32) (f : Nat → Int32) (hP : va_P G.1 vwCl (wRF G z r f) H0) (x1 : Int32) : gMr l yX6_setIn wsX6_setIn 2 43 G H0 [.ref (z 0), .int x1] (cSet r x1) := by
  refine Met.ofW (cc := cX6_setIn) (maxL := 4) (ret := (some .int)) (by decide) rfl ?_
  intro p_ e_ s m args below meth c s₁ B hml hv
  obtain ⟨rfl, rfl, hK⟩ := hv
  have hx := B.exec
  have hb := B.bytes
  have hr := B.returns
  have hts := atoms_spec (ws := wsX6_setIn) B.pre
  have hown : s.vm.findClass RX6 = some m.cls := findClass_of_methodNamed B.named
  have hlocks := B.notSynchronized
  have hinX6 : ∀ w ∈ wsX60, w ∈ wsX6_setIn := by decide +kernel
  have S0 : CallFix p_ m c cX6_setIn 4 s _ wsX6_setIn RX6 := ⟨hx, hb, hml, hown, hts⟩
  have hl := lv_entry ([.ref (z 0), .int x1]) (n := 4) (Nat.le_of_ble_eq_true rfl)
  rw [lg_entry_eq]
  generalize (lg_sl ([.ref (z 0), .int x1]) ++ List.replicate (4 - (lg_sl ([.ref (z 0), .int x1])).length) Slot.unset).toArray = ls at hl ⊢
  have hl : lv_has ls 4 [(0, .ref (z 0)), (1, .int x1)] := hl
  refine lv_iconst (v := nI 0) hx hb dX6_setIn_0 (by decide +kernel) ?_
  refine lv_istore_n (lv' := [(2, .int (nI 0)), (0, .ref (z 0)), (1, .int x1)]) hx hb dX6_setIn_1 rfl hl (by decide) rfl (fun ls hl => ?_)
  refine lv_iconst (v := nI 0) hx hb dX6_setIn_2 (by decide +kernel) ?_
  refine lv_istore_n (lv' := [(3, .int (nI 0)), (2, .int (nI 0)), (0, .ref (z 0)), (1, .int x1)]) hx hb dX6_setIn_3 rfl hl (by decide) rfl (fun ls hl => ?_)
  refine g_loop _ m 4 4 [] (8) (fun i => [(3, .int (nI i)), (2, .int (itN i (cSetI r x1) (nI 0))), (0, .ref (z 0)), (1, .int x1)]) (fun i => True) (fun i hi4 hI ih4 ls hl => ?_) 0 (Nat.zero_le _) trivial ls ?_
  · have hl : lv_has ls 4 [(3, .int (nI i)), (2, .int (itN i (cSetI r x1) (nI 0))), (0, .ref (z 0)), (1, .int x1)] := hl
    have hI : True := hI
    refine lv_iload_n hx hb dX6_setIn_4 rfl (lv_at hl 0 rfl) ?_
    refine lv_bipush (v := nI 8) hx hb dX6_setIn_5 (by decide +kernel) ?_
    refine lv_icmp_ge (tgt := 39) hx hb dX6_setIn_7 (by decide) (fun c_1 => ?_) (fun c_1 => ?_)
    · have hex : 8 = i := by
        have h9 := (nI_leI (a := 8) (b := i) (by decide) (by omega)).mp c_1
        omega
      subst hex
      refine lv_iload_n hx hb dX6_setIn_39 rfl (lv_at hl 1 rfl) ?_
      have hq : (itN 8 (cSetI r x1) (nI 0)) = (cSet r x1) := by
        first | with_reducible rfl | with_reducible exact nI_add _ _ | (simp only [cSetI, c_1, ↓reduceIte, Bool.false_eq_true, decide_true, decide_false, Bool.not_true, Bool.not_false, Bool.or_true, Bool.true_or, Bool.or_false, Bool.false_or]; done) | (simp only [cSetI, c_1, ↓reduceIte, Bool.false_eq_true, decide_true, decide_false, Bool.not_true, Bool.not_false, Bool.or_true, Bool.true_or, Bool.or_false, Bool.false_or]; with_reducible rfl) | (simp only [cSetI, c_1, ↓reduceIte, Bool.false_eq_true, decide_true, decide_false, Bool.not_true, Bool.not_false, Bool.or_true, Bool.true_or, Bool.or_false, Bool.false_or]; rfl) | (simp [b2i, cSetI, c_1]; done) | rfl
      exact W.iret (v := itN 8 (cSetI r x1) (nI 0)) hx hb hr (fun t ht _ => g_ret hq ht) g_no dX6_setIn_40
    · have hlt : i < 8 := by
        have h9 := mt (nI_leI (a := 8) (b := i) (by decide) (by omega)).mpr c_1
        omega
      refine lv_iload_n hx hb dX6_setIn_10 rfl (lv_at hl 1 rfl) ?_
      refine lv_iload_n hx hb dX6_setIn_11 rfl (lv_at hl 0 rfl) ?_
      refine lv_aload_n hx hb dX6_setIn_12 rfl (lv_at hl 2 rfl) ?_
      refine va_get (D := G.1) (ci := 6) (v := .ref (z 3)) (C := RX6) (T := TX6) (N := 7) hx hb hts hinX6 hown hK.1 hP 0 rfl rfl 2 (by decide) (hts (.fieldLink RX6 26 "Rotaforge" "changeLog" "LRotaforge$ChangeLog;") (by decide +kernel)) (fun _ h9 => h9) rfl dX6_setIn_13 ?_
      refine lv_iload_n hx hb dX6_setIn_16 rfl (lv_at hl 0 rfl) ?_
      refine g_callC (W.runV (C := RX0) (As := [.int (nI i)]) (rest := [.int (nI i), .int (itN i (cSetI r x1) (nI 0))]) S0 (c_X0_valueNow l G _ z r f hP (nI i)) (cwV 1 hts gX6_setIn_X0_valueNow rfl rfl rfl (by decide +kernel) ⟨Nat.le_of_ble_eq_true rfl, Nat.le_of_ble_eq_true rfl⟩) (g_preV hK hP (q0 := 3) (ci := 0) (q := (RX0, TX0, 7)) rfl rfl) rfl rfl hl.1 rfl (lv_room (Nat.le_of_ble_eq_true rfl)) dX6_setIn_17 ⟨Nat.zero_le _, Nat.zero_le _⟩) ?_
      refine lv_iload_n hx hb dX6_setIn_20 rfl (lv_at hl 3 rfl) ?_
      refine g_join m 29 4 [(3, .int (nI i)), (2, .int (itN i (cSetI r x1) (nI 0))), (0, .ref (z 0)), (1, .int x1)] [.int (b2i (!decide (cValueNow r (nI i) ≤ x1))), .int (nI i), .int (itN i (cSetI r x1) (nI 0))] (fun ls hl => ?_) (fun hJ29 => ?_)
      · refine g_callC (W.runS (As := [.int (itN i (cSetI r x1) (nI 0)), .int (nI i), .int (b2i (!decide (cValueNow r (nI i) ≤ x1)))]) (rest := []) S0 (c_X6_withBit l G _ (itN i (cSetI r x1) (nI 0)) (nI i) (!decide (cValueNow r (nI i) ≤ x1))) (va_cwS 3 hts gX6_setIn_X6_withBit rfl rfl rfl (by decide +kernel) ⟨Nat.le_of_ble_eq_true rfl, Nat.le_of_ble_eq_true rfl⟩) (g_preS hK) rfl rfl hl.1 rfl (lv_room (Nat.le_of_ble_eq_true rfl)) dX6_setIn_29 ⟨Nat.zero_le _, Nat.zero_le _⟩) ?_
        refine lv_istore_n (lv' := [(2, .int (cWithBit (itN i (cSetI r x1) (nI 0)) (nI i) (!decide (cValueNow r (nI i) ≤ x1)))), (3, .int (nI i)), (0, .ref (z 0)), (1, .int x1)]) hx hb dX6_setIn_32 rfl hl (by decide) rfl (fun ls hl => ?_)
        refine lv_iinc (v := (nI i) + nI 1) (lv' := [(3, .int ((nI i) + nI 1)), (2, .int (cWithBit (itN i (cSetI r x1) (nI 0)) (nI i) (!decide (cValueNow r (nI i) ≤ x1)))), (0, .ref (z 0)), (1, .int x1)]) hx hb dX6_setIn_33 hl (k := 1) rfl (congrArg (fun q : Int32 => (nI i) + q) (by decide +kernel)) (by decide) rfl (fun ls hl => ?_)
        refine lv_goto (tgt := 4) hx hb dX6_setIn_36 (by decide) ?_
        exact ih4 _ (by omega) trivial (lv_cv (show lv_has ls 4 [(3, .int ((nI i) + nI 1)), (2, .int (cWithBit (itN i (cSetI r x1) (nI 0)) (nI i) (!decide (cValueNow r (nI i) ≤ x1)))), (0, .ref (z 0)), (1, .int x1)] from lv_sub hl [0, 1, 2, 3] rfl) (gl_i (show (nI i) + nI 1 = nI (i + 1) by first | with_reducible rfl | with_reducible exact nI_add _ _ | (simp only [itN_s i, cSetI, c_1, ↓reduceIte, Bool.false_eq_true, decide_true, decide_false, Bool.not_true, Bool.not_false, Bool.or_true, Bool.true_or, Bool.or_false, Bool.false_or]; done) | (simp only [itN_s i, cSetI, c_1, ↓reduceIte, Bool.false_eq_true, decide_true, decide_false, Bool.not_true, Bool.not_false, Bool.or_true, Bool.true_or, Bool.or_false, Bool.false_or]; with_reducible rfl) | (simp only [itN_s i, cSetI, c_1, ↓reduceIte, Bool.false_eq_true, decide_true, decide_false, Bool.not_true, Bool.not_false, Bool.or_true, Bool.true_or, Bool.or_false, Bool.false_or]; rfl) | (simp [b2i, itN_s i, cSetI, c_1]; done) | rfl) (gl_i (show cWithBit (itN i (cSetI r x1) (nI 0)) (nI i) (!decide (cValueNow r (nI i) ≤ x1)) = itN (i + 1) (cSetI r x1) (nI 0) by first | with_reducible rfl | with_reducible exact nI_add _ _ | (simp only [itN_s i, cSetI, c_1, ↓reduceIte, Bool.false_eq_true, decide_true, decide_false, Bool.not_true, Bool.not_false, Bool.or_true, Bool.true_or, Bool.or_false, Bool.false_or]; done) | (simp only [itN_s i, cSetI, c_1, ↓reduceIte, Bool.false_eq_true, decide_true, decide_false, Bool.not_true, Bool.not_false, Bool.or_true, Bool.true_or, Bool.or_false, Bool.false_or]; with_reducible rfl) | (simp only [itN_s i, cSetI, c_1, ↓reduceIte, Bool.false_eq_true, decide_true, decide_false, Bool.not_true, Bool.not_false, Bool.or_true, Bool.true_or, Bool.or_false, Bool.false_or]; rfl) | (simp [b2i, itN_s i, cSetI, c_1]; done) | rfl) (gl_s (gl_s rfl)))))
      · refine lv_icmp_le (tgt := 28) hx hb dX6_setIn_21 (by decide) (fun c_2 => ?_) (fun c_2 => ?_)
        · refine lv_iconst (v := nI 0) hx hb dX6_setIn_28 (by decide +kernel) ?_
          refine W.eq (g2 := F0 m 29 ls [.int (b2i (!decide (cValueNow r (nI i) ≤ x1))), .int (nI i), .int (itN i (cSetI r x1) (nI 0))]) (g_st (gs_i (show nI 0 = b2i (!decide (cValueNow r (nI i) ≤ x1)) by first | with_reducible rfl | with_reducible exact nI_add _ _ | (simp only [cSetI, c_1, c_2, ↓reduceIte, Bool.false_eq_true, decide_true, decide_false, Bool.not_true, Bool.not_false, Bool.or_true, Bool.true_or, Bool.or_false, Bool.false_or]; done) | (simp only [cSetI, c_1, c_2, ↓reduceIte, Bool.false_eq_true, decide_true, decide_false, Bool.not_true, Bool.not_false, Bool.or_true, Bool.true_or, Bool.or_false, Bool.false_or]; with_reducible rfl) | (simp only [cSetI, c_1, c_2, ↓reduceIte, Bool.false_eq_true, decide_true, decide_false, Bool.not_true, Bool.not_false, Bool.or_true, Bool.true_or, Bool.or_false, Bool.false_or]; rfl) | (simp [b2i, cSetI, c_1, c_2]; done) | rfl) (gs_s (gs_s rfl)))) ?_
          exact hJ29 _ (show lv_has ls 4 [(3, .int (nI i)), (2, .int (itN i (cSetI r x1) (nI 0))), (0, .ref (z 0)), (1, .int x1)] from lv_sub hl [0, 1, 2, 3] rfl)
        · refine lv_iconst (v := nI 1) hx hb dX6_setIn_24 (by decide +kernel) ?_
          refine lv_goto (tgt := 29) hx hb dX6_setIn_25 (by decide) ?_
          refine W.eq (g2 := F0 m 29 ls [.int (b2i (!decide (cValueNow r (nI i) ≤ x1))), .int (nI i), .int (itN i (cSetI r x1) (nI 0))]) (g_st (gs_i (show nI 1 = b2i (!decide (cValueNow r (nI i) ≤ x1)) by first | with_reducible rfl | with_reducible exact nI_add _ _ | (simp only [cSetI, c_1, c_2, ↓reduceIte, Bool.false_eq_true, decide_true, decide_false, Bool.not_true, Bool.not_false, Bool.or_true, Bool.true_or, Bool.or_false, Bool.false_or]; done) | (simp only [cSetI, c_1, c_2, ↓reduceIte, Bool.false_eq_true, decide_true, decide_false, Bool.not_true, Bool.not_false, Bool.or_true, Bool.true_or, Bool.or_false, Bool.false_or]; with_reducible rfl) | (simp only [cSetI, c_1, c_2, ↓reduceIte, Bool.false_eq_true, decide_true, decide_false, Bool.not_true, Bool.not_false, Bool.or_true, Bool.true_or, Bool.or_false, Bool.false_or]; rfl) | (simp [b2i, cSetI, c_1, c_2]; done) | rfl) (gs_s (gs_s rfl)))) ?_
          exact hJ29 _ (show lv_has ls 4 [(3, .int (nI i)), (2, .int (itN i (cSetI r x1) (nI 0))), (0, .ref (z 0)), (1, .int x1)] from lv_sub hl [0, 1, 2, 3] rfl)
  · exact (lv_cv (show lv_has ls 4 [(3, .int (nI 0)), (2, .int (nI 0)), (0, .ref (z 0)), (1, .int x1)] from lv_sub hl [0, 1, 2, 3] rfl) (gl_s (gl_i (show nI 0 = itN 0 (cSetI r x1) (nI 0) by first | with_reducible rfl | with_reducible exact nI_add _ _ | (simp only [cSetI, ↓reduceIte, Bool.false_eq_true, decide_true, decide_false, Bool.not_true, Bool.not_false, Bool.or_true, Bool.true_or, Bool.or_false, Bool.false_or]; done) | (simp only [cSetI, ↓reduceIte, Bool.false_eq_true, decide_true, decide_false, Bool.not_true, Bool.not_false, Bool.or_true, Bool.true_or, Bool.or_false, Bool.false_or]; with_reducible rfl) | (simp only [cSetI, ↓reduceIte, Bool.false_eq_true, decide_true, decide_false, Bool.not_true, Bool.not_false, Bool.or_true, Bool.true_or, Bool.or_false, Bool.false_or]; rfl) | (simp [b2i, cSetI]; done) | rfl) (gl_s (gl_s rfl)))))

set_option maxHeartbeats 4000000 in
set_option maxRecDepth 100000 in
theorem c_X6_isHeldBack (l : Launch) (G : gG) (H0 : Heap) (z : Nat → Nat) (r : Nat → Nat → Int32) (f : Nat → Int32) (hP : va_P G.1 vwCl (wRF G z r f) H0) (x1 : Int32) (x2 : Int32) (n : Nat) (hn1 : x1 = nI n) (hn2 : n < 100) : gMr l yX6_isHeldBack wsX6_isHeldBack 2 43 G H0 [.ref (z 0), .int x1, .int x2] (b2i (cHeld r f x1 x2 n)) := by
  refine Met.ofW (cc := cX6_isHeldBack) (maxL := 5) (ret := (some .boolean)) (by decide) rfl ?_
  intro p_ e_ s m args below meth c s₁ B hml hv
  obtain ⟨rfl, rfl, hK⟩ := hv
  have hx := B.exec
  have hb := B.bytes
  have hr := B.returns
  have hts := atoms_spec (ws := wsX6_isHeldBack) B.pre
  have hown : s.vm.findClass RX6 = some m.cls := findClass_of_methodNamed B.named
  have hlocks := B.notSynchronized
  have hinX6 : ∀ w ∈ wsX60, w ∈ wsX6_isHeldBack := by decide +kernel
  have S0 : CallFix p_ m c cX6_isHeldBack 5 s _ wsX6_isHeldBack RX6 := ⟨hx, hb, hml, hown, hts⟩
  have hl := lv_entry ([.ref (z 0), .int x1, .int x2]) (n := 5) (Nat.le_of_ble_eq_true rfl)
  rw [lg_entry_eq]
  generalize (lg_sl ([.ref (z 0), .int x1, .int x2]) ++ List.replicate (5 - (lg_sl ([.ref (z 0), .int x1, .int x2])).length) Slot.unset).toArray = ls at hl ⊢
  have hl : lv_has ls 5 [(0, .ref (z 0)), (1, .int x1), (2, .int x2)] := hl
  refine lv_iload_n hx hb dX6_isHeldBack_0 rfl (lv_at hl 1 rfl) ?_
  refine lv_if_ne (tgt := 6) hx hb dX6_isHeldBack_1 (by decide) (fun c_1 => ?_) (fun c_1 => ?_)
  · refine lv_iload_n hx hb dX6_isHeldBack_6 rfl (lv_at hl 1 rfl) ?_
    refine lv_iconst (v := nI 1) hx hb dX6_isHeldBack_7 (by decide +kernel) ?_
    refine lv_isub hx hb dX6_isHeldBack_8 ?_
    refine g_callC (W.runS (As := [.int (x1 - (nI 1))]) (rest := []) S0 (c_X6_subjectOfRing l G _ (x1 - (nI 1))) (va_cwS 1 hts gX6_isHeldBack_X6_subjectOfRing rfl rfl rfl (by decide +kernel) ⟨Nat.le_of_ble_eq_true rfl, Nat.le_of_ble_eq_true rfl⟩) (g_preS hK) rfl rfl hl.1 rfl (lv_room (Nat.le_of_ble_eq_true rfl)) dX6_isHeldBack_9 ⟨Nat.zero_le _, Nat.zero_le _⟩) ?_
    refine lv_istore_n (lv' := [(3, .int (cSubj (x1 - (nI 1)))), (0, .ref (z 0)), (1, .int x1), (2, .int x2)]) hx hb dX6_isHeldBack_12 rfl hl (by decide) rfl (fun ls hl => ?_)
    refine lv_aload_n hx hb dX6_isHeldBack_13 rfl (lv_at hl 1 rfl) ?_
    refine va_get (D := G.1) (ci := 6) (v := .ref (z 3)) (C := RX6) (T := TX6) (N := 7) hx hb hts hinX6 hown hK.1 hP 0 rfl rfl 2 (by decide) (hts (.fieldLink RX6 26 "Rotaforge" "changeLog" "LRotaforge$ChangeLog;") (by decide +kernel)) (fun _ h9 => h9) rfl dX6_isHeldBack_14 ?_
    refine lv_iload_n hx hb dX6_isHeldBack_17 rfl (lv_at hl 0 rfl) ?_
    refine g_callC (W.runV (C := RX0) (As := [.int (cSubj (x1 - (nI 1)))]) (rest := []) S0 (c_X0_valueNow l G _ z r f hP (cSubj (x1 - (nI 1)))) (cwV 1 hts gX6_isHeldBack_X0_valueNow rfl rfl rfl (by decide +kernel) ⟨Nat.le_of_ble_eq_true rfl, Nat.le_of_ble_eq_true rfl⟩) (g_preV hK hP (q0 := 3) (ci := 0) (q := (RX0, TX0, 7)) rfl rfl) rfl rfl hl.1 rfl (lv_room (Nat.le_of_ble_eq_true rfl)) dX6_isHeldBack_18 ⟨Nat.zero_le _, Nat.zero_le _⟩) ?_
    refine lv_iload_n hx hb dX6_isHeldBack_21 rfl (lv_at hl 3 rfl) ?_
    refine g_join m 47 5 [(3, .int (cSubj (x1 - (nI 1)))), (0, .ref (z 0)), (1, .int x1), (2, .int x2)] [.int (b2i (cProven r f x1 x2))] (fun ls hl => ?_) (fun hJ47 => ?_)
    · refine lv_istore (lv' := [(4, .int (b2i (cProven r f x1 x2))), (3, .int (cSubj (x1 - (nI 1)))), (0, .ref (z 0)), (1, .int x1), (2, .int x2)]) hx hb dX6_isHeldBack_47 hl (by decide) rfl (fun ls hl => ?_)
      refine lv_iload hx hb dX6_isHeldBack_49 (lv_at hl 0 rfl) ?_
      refine lv_if_eq (tgt := 65) hx hb dX6_isHeldBack_51 (by decide) (fun c_2 => ?_) (fun c_2 => ?_)
      · have c_2 := b2i_f c_2
        refine lv_iconst (v := nI 1) hx hb dX6_isHeldBack_65 (by decide +kernel) ?_
        refine lv_goto (tgt := 70) hx hb dX6_isHeldBack_66 (by decide) ?_
        have hq : (nI 1) = (b2i (cHeld r f x1 x2 n)) := by
          first | with_reducible rfl | with_reducible exact nI_add _ _ | (simp only [cHeld, c_1, c_2, ↓reduceIte, Bool.false_eq_true, decide_true, decide_false, Bool.not_true, Bool.not_false, Bool.or_true, Bool.true_or, Bool.or_false, Bool.false_or]; done) | (simp only [cHeld, c_1, c_2, ↓reduceIte, Bool.false_eq_true, decide_true, decide_false, Bool.not_true, Bool.not_false, Bool.or_true, Bool.true_or, Bool.or_false, Bool.false_or]; with_reducible rfl) | (simp only [cHeld, c_1, c_2, ↓reduceIte, Bool.false_eq_true, decide_true, decide_false, Bool.not_true, Bool.not_false, Bool.or_true, Bool.true_or, Bool.or_false, Bool.false_or]; rfl) | (simp [b2i, cHeld, c_1, c_2]; done) | rfl
        exact W.zret (v := nI 1) hx hb hr (z_nar hq) (fun t ht _ => g_ret hq ht) g_no dX6_isHeldBack_70
      · have c_2 := b2i_t c_2
        refine lv_aload_n hx hb dX6_isHeldBack_54 rfl (lv_at hl 2 rfl) ?_
        refine va_get (D := G.1) (ci := 6) (v := .ref (z 4)) (C := RX6) (T := TX6) (N := 7) hx hb hts hinX6 hown hK.1 hP 0 rfl rfl 3 (by decide) (hts (.fieldLink RX6 33 "Rotaforge" "incidentLog" "LRotaforge$IncidentLog;") (by decide +kernel)) (fun _ h9 => h9) rfl dX6_isHeldBack_55 ?_
        refine lv_iload_n hx hb dX6_isHeldBack_58 rfl (lv_at hl 3 rfl) ?_
        refine g_callC (W.runV (C := RX2) (As := [.int x1]) (rest := []) S0 (c_X2_anyOpenBelow l G _ z r f hP x1 n hn1 hn2) (cwV 1 hts gX6_isHeldBack_X2_anyOpenBelow rfl rfl rfl (by decide +kernel) ⟨Nat.le_of_ble_eq_true rfl, Nat.le_of_ble_eq_true rfl⟩) (g_preV hK hP (q0 := 4) (ci := 2) (q := (RX2, TX2, 7)) rfl rfl) rfl rfl hl.1 rfl (lv_room (Nat.le_of_ble_eq_true rfl)) dX6_isHeldBack_59 ⟨Nat.zero_le _, Nat.zero_le _⟩) ?_
        refine lv_if_eq (tgt := 69) hx hb dX6_isHeldBack_62 (by decide) (fun c_3 => ?_) (fun c_3 => ?_)
        · have c_3 := b2i_f c_3
          refine lv_iconst (v := nI 0) hx hb dX6_isHeldBack_69 (by decide +kernel) ?_
          have hq : (nI 0) = (b2i (cHeld r f x1 x2 n)) := by
            first | with_reducible rfl | with_reducible exact nI_add _ _ | (simp only [cHeld, c_1, c_2, c_3, ↓reduceIte, Bool.false_eq_true, decide_true, decide_false, Bool.not_true, Bool.not_false, Bool.or_true, Bool.true_or, Bool.or_false, Bool.false_or]; done) | (simp only [cHeld, c_1, c_2, c_3, ↓reduceIte, Bool.false_eq_true, decide_true, decide_false, Bool.not_true, Bool.not_false, Bool.or_true, Bool.true_or, Bool.or_false, Bool.false_or]; with_reducible rfl) | (simp only [cHeld, c_1, c_2, c_3, ↓reduceIte, Bool.false_eq_true, decide_true, decide_false, Bool.not_true, Bool.not_false, Bool.or_true, Bool.true_or, Bool.or_false, Bool.false_or]; rfl) | (simp [b2i, cHeld, c_1, c_2, c_3]; done) | rfl
          exact W.zret (v := nI 0) hx hb hr (z_nar hq) (fun t ht _ => g_ret hq ht) g_no dX6_isHeldBack_70
        · have c_3 := b2i_t c_3
          refine lv_iconst (v := nI 1) hx hb dX6_isHeldBack_65 (by decide +kernel) ?_
          refine lv_goto (tgt := 70) hx hb dX6_isHeldBack_66 (by decide) ?_
          have hq : (nI 1) = (b2i (cHeld r f x1 x2 n)) := by
            first | with_reducible rfl | with_reducible exact nI_add _ _ | (simp only [cHeld, c_1, c_2, c_3, ↓reduceIte, Bool.false_eq_true, decide_true, decide_false, Bool.not_true, Bool.not_false, Bool.or_true, Bool.true_or, Bool.or_false, Bool.false_or]; done) | (simp only [cHeld, c_1, c_2, c_3, ↓reduceIte, Bool.false_eq_true, decide_true, decide_false, Bool.not_true, Bool.not_false, Bool.or_true, Bool.true_or, Bool.or_false, Bool.false_or]; with_reducible rfl) | (simp only [cHeld, c_1, c_2, c_3, ↓reduceIte, Bool.false_eq_true, decide_true, decide_false, Bool.not_true, Bool.not_false, Bool.or_true, Bool.true_or, Bool.or_false, Bool.false_or]; rfl) | (simp [b2i, cHeld, c_1, c_2, c_3]; done) | rfl
          exact W.zret (v := nI 1) hx hb hr (z_nar hq) (fun t ht _ => g_ret hq ht) g_no dX6_isHeldBack_70
    · refine lv_icmp_ne (tgt := 46) hx hb dX6_isHeldBack_22 (by decide) (fun c_4 => ?_) (fun c_4 => ?_)
      · refine lv_iconst (v := nI 0) hx hb dX6_isHeldBack_46 (by decide +kernel) ?_
        refine W.eq (g2 := F0 m 47 ls [.int (b2i (cProven r f x1 x2))]) (g_st (gs_i (show nI 0 = b2i (cProven r f x1 x2) by first | with_reducible rfl | with_reducible exact nI_add _ _ | (simp only [cProven, c_1, c_4, ↓reduceIte, Bool.false_eq_true, decide_true, decide_false, Bool.not_true, Bool.not_false, Bool.or_true, Bool.true_or, Bool.or_false, Bool.false_or]; done) | (simp only [cProven, c_1, c_4, ↓reduceIte, Bool.false_eq_true, decide_true, decide_false, Bool.not_true, Bool.not_false, Bool.or_true, Bool.true_or, Bool.or_false, Bool.false_or]; with_reducible rfl) | (simp only [cProven, c_1, c_4, ↓reduceIte, Bool.false_eq_true, decide_true, decide_false, Bool.not_true, Bool.not_false, Bool.or_true, Bool.true_or, Bool.or_false, Bool.false_or]; rfl) | (simp [b2i, cProven, c_1, c_4]; done) | rfl) rfl)) ?_
        exact hJ47 _ (show lv_has ls 5 [(3, .int (cSubj (x1 - (nI 1)))), (0, .ref (z 0)), (1, .int x1), (2, .int x2)] from lv_sub hl [0, 1, 2, 3] rfl)
      · refine lv_aload_n hx hb dX6_isHeldBack_25 rfl (lv_at hl 1 rfl) ?_
        refine va_get (D := G.1) (ci := 6) (v := .int (f 1)) (C := RX6) (T := TX6) (N := 7) hx hb hts hinX6 hown hK.1 hP 0 rfl rfl 6 (by decide) (hts (.fieldLink RX6 48 "Rotaforge" "now" "I") (by decide +kernel)) (fun _ h9 => h9) rfl dX6_isHeldBack_26 ?_
        refine lv_aload_n hx hb dX6_isHeldBack_29 rfl (lv_at hl 1 rfl) ?_
        refine va_get (D := G.1) (ci := 6) (v := .ref (z 3)) (C := RX6) (T := TX6) (N := 7) hx hb hts hinX6 hown hK.1 hP 0 rfl rfl 2 (by decide) (hts (.fieldLink RX6 26 "Rotaforge" "changeLog" "LRotaforge$ChangeLog;") (by decide +kernel)) (fun _ h9 => h9) rfl dX6_isHeldBack_30 ?_
        refine lv_iload_n hx hb dX6_isHeldBack_33 rfl (lv_at hl 0 rfl) ?_
        refine g_callC (W.runV (C := RX0) (As := [.int (cSubj (x1 - (nI 1)))]) (rest := [.int (f 1)]) S0 (c_X0_sinceWhen l G _ z r f hP (cSubj (x1 - (nI 1)))) (cwV 1 hts gX6_isHeldBack_X0_sinceWhen rfl rfl rfl (by decide +kernel) ⟨Nat.le_of_ble_eq_true rfl, Nat.le_of_ble_eq_true rfl⟩) (g_preV hK hP (q0 := 3) (ci := 0) (q := (RX0, TX0, 7)) rfl rfl) rfl rfl hl.1 rfl (lv_room (Nat.le_of_ble_eq_true rfl)) dX6_isHeldBack_34 ⟨Nat.zero_le _, Nat.zero_le _⟩) ?_
        refine lv_isub hx hb dX6_isHeldBack_37 ?_
        refine lv_iconst (v := nI 2) hx hb dX6_isHeldBack_38 (by decide +kernel) ?_
        refine lv_icmp_lt (tgt := 46) hx hb dX6_isHeldBack_39 (by decide) (fun c_5 => ?_) (fun c_5 => ?_)
        · refine lv_iconst (v := nI 0) hx hb dX6_isHeldBack_46 (by decide +kernel) ?_
          refine W.eq (g2 := F0 m 47 ls [.int (b2i (cProven r f x1 x2))]) (g_st (gs_i (show nI 0 = b2i (cProven r f x1 x2) by first | with_reducible rfl | with_reducible exact nI_add _ _ | (simp only [cProven, c_1, c_4, c_5, ↓reduceIte, Bool.false_eq_true, decide_true, decide_false, Bool.not_true, Bool.not_false, Bool.or_true, Bool.true_or, Bool.or_false, Bool.false_or]; done) | (simp only [cProven, c_1, c_4, c_5, ↓reduceIte, Bool.false_eq_true, decide_true, decide_false, Bool.not_true, Bool.not_false, Bool.or_true, Bool.true_or, Bool.or_false, Bool.false_or]; with_reducible rfl) | (simp only [cProven, c_1, c_4, c_5, ↓reduceIte, Bool.false_eq_true, decide_true, decide_false, Bool.not_true, Bool.not_false, Bool.or_true, Bool.true_or, Bool.or_false, Bool.false_or]; rfl) | (simp [b2i, cProven, c_1, c_4, c_5]; done) | rfl) rfl)) ?_
          exact hJ47 _ (show lv_has ls 5 [(3, .int (cSubj (x1 - (nI 1)))), (0, .ref (z 0)), (1, .int x1), (2, .int x2)] from lv_sub hl [0, 1, 2, 3] rfl)
        · refine lv_iconst (v := nI 1) hx hb dX6_isHeldBack_42 (by decide +kernel) ?_
          refine lv_goto (tgt := 47) hx hb dX6_isHeldBack_43 (by decide) ?_
          refine W.eq (g2 := F0 m 47 ls [.int (b2i (cProven r f x1 x2))]) (g_st (gs_i (show nI 1 = b2i (cProven r f x1 x2) by first | with_reducible rfl | with_reducible exact nI_add _ _ | (simp only [cProven, c_1, c_4, c_5, ↓reduceIte, Bool.false_eq_true, decide_true, decide_false, Bool.not_true, Bool.not_false, Bool.or_true, Bool.true_or, Bool.or_false, Bool.false_or]; done) | (simp only [cProven, c_1, c_4, c_5, ↓reduceIte, Bool.false_eq_true, decide_true, decide_false, Bool.not_true, Bool.not_false, Bool.or_true, Bool.true_or, Bool.or_false, Bool.false_or]; with_reducible rfl) | (simp only [cProven, c_1, c_4, c_5, ↓reduceIte, Bool.false_eq_true, decide_true, decide_false, Bool.not_true, Bool.not_false, Bool.or_true, Bool.true_or, Bool.or_false, Bool.false_or]; rfl) | (simp [b2i, cProven, c_1, c_4, c_5]; done) | rfl) rfl)) ?_
          exact hJ47 _ (show lv_has ls 5 [(3, .int (cSubj (x1 - (nI 1)))), (0, .ref (z 0)), (1, .int x1), (2, .int x2)] from lv_sub hl [0, 1, 2, 3] rfl)
  · refine lv_iconst (v := nI 0) hx hb dX6_isHeldBack_4 (by decide +kernel) ?_
    have hq : (nI 0) = (b2i (cHeld r f x1 x2 n)) := by
      first | with_reducible rfl | with_reducible exact nI_add _ _ | (simp only [cHeld, c_1, ↓reduceIte, Bool.false_eq_true, decide_true, decide_false, Bool.not_true, Bool.not_false, Bool.or_true, Bool.true_or, Bool.or_false, Bool.false_or]; done) | (simp only [cHeld, c_1, ↓reduceIte, Bool.false_eq_true, decide_true, decide_false, Bool.not_true, Bool.not_false, Bool.or_true, Bool.true_or, Bool.or_false, Bool.false_or]; with_reducible rfl) | (simp only [cHeld, c_1, ↓reduceIte, Bool.false_eq_true, decide_true, decide_false, Bool.not_true, Bool.not_false, Bool.or_true, Bool.true_or, Bool.or_false, Bool.false_or]; rfl) | (simp [b2i, cHeld, c_1]; done) | rfl
    exact W.zret (v := nI 0) hx hb hr (z_nar hq) (fun t ht _ => g_ret hq ht) g_no dX6_isHeldBack_5

set_option maxHeartbeats 4000000 in
set_option maxRecDepth 100000 in
theorem c_X6_showsFault (l : Launch) (G : gG) (H0 : Heap) (z : Nat → Nat) (r : Nat → Nat → Int32) (f : Nat → Int32) (hP : va_P G.1 vwCl (wRF G z r f) H0) (x1 : Int32) : gMr l yX6_showsFault wsX6_showsFault 3 66 G H0 [.ref (z 0), .int x1] (b2i (cFault r x1)) := by
  refine Met.ofW (cc := cX6_showsFault) (maxL := 2) (ret := (some .boolean)) (by decide) rfl ?_
  intro p_ e_ s m args below meth c s₁ B hml hv
  obtain ⟨rfl, rfl, hK⟩ := hv
  have hx := B.exec
  have hb := B.bytes
  have hr := B.returns
  have hts := atoms_spec (ws := wsX6_showsFault) B.pre
  have hown : s.vm.findClass RX6 = some m.cls := findClass_of_methodNamed B.named
  have hlocks := B.notSynchronized
  have hinX6 : ∀ w ∈ wsX60, w ∈ wsX6_showsFault := by decide +kernel
  have S0 : CallFix p_ m c cX6_showsFault 2 s _ wsX6_showsFault RX6 := ⟨hx, hb, hml, hown, hts⟩
  have hl := lv_entry ([.ref (z 0), .int x1]) (n := 2) (Nat.le_of_ble_eq_true rfl)
  rw [lg_entry_eq]
  generalize (lg_sl ([.ref (z 0), .int x1]) ++ List.replicate (2 - (lg_sl ([.ref (z 0), .int x1])).length) Slot.unset).toArray = ls at hl ⊢
  have hl : lv_has ls 2 [(0, .ref (z 0)), (1, .int x1)] := hl
  refine lv_aload_n hx hb dX6_showsFault_0 rfl (lv_at hl 0 rfl) ?_
  refine va_get (D := G.1) (ci := 6) (v := .ref (z 2)) (C := RX6) (T := TX6) (N := 7) hx hb hts hinX6 hown hK.1 hP 0 rfl rfl 1 (by decide) (hts (.fieldLink RX6 19 "Rotaforge" "defects" "LRotaforge$Defects;") (by decide +kernel)) (fun _ h9 => h9) rfl dX6_showsFault_1 ?_
  refine lv_aload_n hx hb dX6_showsFault_4 rfl (lv_at hl 0 rfl) ?_
  refine lv_iload_n hx hb dX6_showsFault_5 rfl (lv_at hl 1 rfl) ?_
  refine g_callC (W.runV (C := RX6) (As := [.int x1]) (rest := [.ref (z 2)]) S0 (c_X6_runs l G _ z r f hP x1) (cwV 1 hts gX6_showsFault_X6_runs rfl rfl rfl (by decide +kernel) ⟨Nat.le_of_ble_eq_true rfl, Nat.le_of_ble_eq_true rfl⟩) (g_preV hK hP (q0 := 0) (ci := 6) (q := (RX6, TX6, 7)) rfl rfl) rfl rfl hl.1 rfl (lv_room (Nat.le_of_ble_eq_true rfl)) dX6_showsFault_6 ⟨Nat.zero_le _, Nat.zero_le _⟩) ?_
  refine lv_aload_n hx hb dX6_showsFault_9 rfl (lv_at hl 0 rfl) ?_
  refine va_get (D := G.1) (ci := 6) (v := .ref (z 1)) (C := RX6) (T := TX6) (N := 7) hx hb hts hinX6 hown hK.1 hP 0 rfl rfl 0 (by decide) (hts (.fieldLink RX6 12 "Rotaforge" "needMap" "LRotaforge$Needs;") (by decide +kernel)) (fun _ h9 => h9) rfl dX6_showsFault_10 ?_
  refine lv_aload_n hx hb dX6_showsFault_13 rfl (lv_at hl 0 rfl) ?_
  refine lv_iload_n hx hb dX6_showsFault_14 rfl (lv_at hl 1 rfl) ?_
  refine g_callC (W.runV (C := RX6) (As := [.int x1]) (rest := [.ref (z 1), .int (cRuns r x1), .ref (z 2)]) S0 (c_X6_setIn l G _ z r f hP x1) (cwV 1 hts gX6_showsFault_X6_setIn rfl rfl rfl (by decide +kernel) ⟨Nat.le_of_ble_eq_true rfl, Nat.le_of_ble_eq_true rfl⟩) (g_preV hK hP (q0 := 0) (ci := 6) (q := (RX6, TX6, 7)) rfl rfl) rfl rfl hl.1 rfl (lv_room (Nat.le_of_ble_eq_true rfl)) dX6_showsFault_15 ⟨Nat.zero_le _, Nat.zero_le _⟩) ?_
  refine g_callC (W.runV (C := RX3) (As := [.int (cSet r x1)]) (rest := [.int (cRuns r x1), .ref (z 2)]) S0 (c_X3_onAmong l G _ z r f hP (cSet r x1)) (cwV 1 hts gX6_showsFault_X3_onAmong rfl rfl rfl (by decide +kernel) ⟨Nat.le_of_ble_eq_true rfl, Nat.le_of_ble_eq_true rfl⟩) (g_preV hK hP (q0 := 1) (ci := 3) (q := (RX3, TX3, 2)) rfl rfl) rfl rfl hl.1 rfl (lv_room (Nat.le_of_ble_eq_true rfl)) dX6_showsFault_18 ⟨Nat.zero_le _, Nat.zero_le _⟩) ?_
  refine g_callC (W.runV (C := RX1) (As := [.int (cRuns r x1), .int (cOn r (cSet r x1))]) (rest := []) S0 (c_X1_anyShows l G _ z r f hP (cRuns r x1) (cOn r (cSet r x1))) (cwV 2 hts gX6_showsFault_X1_anyShows rfl rfl rfl (by decide +kernel) ⟨Nat.le_of_ble_eq_true rfl, Nat.le_of_ble_eq_true rfl⟩) (g_preV hK hP (q0 := 2) (ci := 1) (q := (RX1, TX1, 4)) rfl rfl) rfl rfl hl.1 rfl (lv_room (Nat.le_of_ble_eq_true rfl)) dX6_showsFault_21 ⟨Nat.zero_le _, Nat.zero_le _⟩) ?_
  have hq : (b2i (cShows r (cRuns r x1) (cOn r (cSet r x1)))) = (b2i (cFault r x1)) := by
    first | with_reducible rfl | with_reducible exact nI_add _ _ | (simp only [true_and, ↓reduceIte, Bool.false_eq_true, decide_true, decide_false, Bool.not_true, Bool.not_false, Bool.or_true, Bool.true_or, Bool.or_false, Bool.false_or]; done) | (simp only [true_and, ↓reduceIte, Bool.false_eq_true, decide_true, decide_false, Bool.not_true, Bool.not_false, Bool.or_true, Bool.true_or, Bool.or_false, Bool.false_or]; with_reducible rfl) | (simp only [true_and, ↓reduceIte, Bool.false_eq_true, decide_true, decide_false, Bool.not_true, Bool.not_false, Bool.or_true, Bool.true_or, Bool.or_false, Bool.false_or]; rfl) | (simp [b2i, true_and]; done) | rfl
  exact W.zret (v := b2i (cShows r (cRuns r x1) (cOn r (cSet r x1)))) hx hb hr (z_nar hq) (fun t ht _ => g_ret hq ht) g_no dX6_showsFault_24

set_option maxHeartbeats 4000000 in
set_option maxRecDepth 100000 in
theorem c_X6_showsFaultWithout (l : Launch) (G : gG) (H0 : Heap) (z : Nat → Nat) (r : Nat → Nat → Int32) (f : Nat → Int32) (hP : va_P G.1 vwCl (wRF G z r f) H0) (x1 : Int32) (x2 : Int32) : gMr l yX6_showsFaultWithout wsX6_showsFaultWithout 3 66 G H0 [.ref (z 0), .int x1, .int x2] (b2i (cFW r x1 x2)) := by
  refine Met.ofW (cc := cX6_showsFaultWithout) (maxL := 7) (ret := (some .boolean)) (by decide) rfl ?_
  intro p_ e_ s m args below meth c s₁ B hml hv
  obtain ⟨rfl, rfl, hK⟩ := hv
  have hx := B.exec
  have hb := B.bytes
  have hr := B.returns
  have hts := atoms_spec (ws := wsX6_showsFaultWithout) B.pre
  have hown : s.vm.findClass RX6 = some m.cls := findClass_of_methodNamed B.named
  have hlocks := B.notSynchronized
  have hinX6 : ∀ w ∈ wsX60, w ∈ wsX6_showsFaultWithout := by decide +kernel
  have S0 : CallFix p_ m c cX6_showsFaultWithout 7 s _ wsX6_showsFaultWithout RX6 := ⟨hx, hb, hml, hown, hts⟩
  have hl := lv_entry ([.ref (z 0), .int x1, .int x2]) (n := 7) (Nat.le_of_ble_eq_true rfl)
  rw [lg_entry_eq]
  generalize (lg_sl ([.ref (z 0), .int x1, .int x2]) ++ List.replicate (7 - (lg_sl ([.ref (z 0), .int x1, .int x2])).length) Slot.unset).toArray = ls at hl ⊢
  have hl : lv_has ls 7 [(0, .ref (z 0)), (1, .int x1), (2, .int x2)] := hl
  refine lv_aload_n hx hb dX6_showsFaultWithout_0 rfl (lv_at hl 0 rfl) ?_
  refine va_get (D := G.1) (ci := 6) (v := .ref (z 3)) (C := RX6) (T := TX6) (N := 7) hx hb hts hinX6 hown hK.1 hP 0 rfl rfl 2 (by decide) (hts (.fieldLink RX6 26 "Rotaforge" "changeLog" "LRotaforge$ChangeLog;") (by decide +kernel)) (fun _ h9 => h9) rfl dX6_showsFaultWithout_1 ?_
  refine lv_iload_n hx hb dX6_showsFaultWithout_4 rfl (lv_at hl 1 rfl) ?_
  refine g_callC (W.runV (C := RX0) (As := [.int x1]) (rest := []) S0 (c_X0_subjectOf l G _ z r f hP x1) (cwV 1 hts gX6_showsFaultWithout_X0_subjectOf rfl rfl rfl (by decide +kernel) ⟨Nat.le_of_ble_eq_true rfl, Nat.le_of_ble_eq_true rfl⟩) (g_preV hK hP (q0 := 3) (ci := 0) (q := (RX0, TX0, 7)) rfl rfl) rfl rfl hl.1 rfl (lv_room (Nat.le_of_ble_eq_true rfl)) dX6_showsFaultWithout_5 ⟨Nat.zero_le _, Nat.zero_le _⟩) ?_
  refine lv_istore_n (lv' := [(3, .int (rAt 200 (r 7) x1)), (0, .ref (z 0)), (1, .int x1), (2, .int x2)]) hx hb dX6_showsFaultWithout_8 rfl hl (by decide) rfl (fun ls hl => ?_)
  refine lv_aload_n hx hb dX6_showsFaultWithout_9 rfl (lv_at hl 1 rfl) ?_
  refine va_get (D := G.1) (ci := 6) (v := .ref (z 3)) (C := RX6) (T := TX6) (N := 7) hx hb hts hinX6 hown hK.1 hP 0 rfl rfl 2 (by decide) (hts (.fieldLink RX6 26 "Rotaforge" "changeLog" "LRotaforge$ChangeLog;") (by decide +kernel)) (fun _ h9 => h9) rfl dX6_showsFaultWithout_10 ?_
  refine lv_iload_n hx hb dX6_showsFaultWithout_13 rfl (lv_at hl 2 rfl) ?_
  refine g_callC (W.runV (C := RX0) (As := [.int x1]) (rest := []) S0 (c_X0_valueWithout l G _ z r f hP x1) (cwV 1 hts gX6_showsFaultWithout_X0_valueWithout rfl rfl rfl (by decide +kernel) ⟨Nat.le_of_ble_eq_true rfl, Nat.le_of_ble_eq_true rfl⟩) (g_preV hK hP (q0 := 3) (ci := 0) (q := (RX0, TX0, 7)) rfl rfl) rfl rfl hl.1 rfl (lv_room (Nat.le_of_ble_eq_true rfl)) dX6_showsFaultWithout_14 ⟨Nat.zero_le _, Nat.zero_le _⟩) ?_
  refine lv_istore (lv' := [(4, .int (cWithout r x1)), (3, .int (rAt 200 (r 7) x1)), (0, .ref (z 0)), (1, .int x1), (2, .int x2)]) hx hb dX6_showsFaultWithout_17 hl (by decide) rfl (fun ls hl => ?_)
  refine lv_iload_n hx hb dX6_showsFaultWithout_19 rfl (lv_at hl 1 rfl) ?_
  refine lv_iload_n hx hb dX6_showsFaultWithout_20 rfl (lv_at hl 4 rfl) ?_
  refine g_callC (W.runS (As := [.int x2]) (rest := [.int (rAt 200 (r 7) x1)]) S0 (c_X6_subjectOfRing l G _ x2) (va_cwS 1 hts gX6_showsFaultWithout_X6_subjectOfRing rfl rfl rfl (by decide +kernel) ⟨Nat.le_of_ble_eq_true rfl, Nat.le_of_ble_eq_true rfl⟩) (g_preS hK) rfl rfl hl.1 rfl (lv_room (Nat.le_of_ble_eq_true rfl)) dX6_showsFaultWithout_21 ⟨Nat.zero_le _, Nat.zero_le _⟩) ?_
  refine g_join m 37 7 [(4, .int (cWithout r x1)), (3, .int (rAt 200 (r 7) x1)), (0, .ref (z 0)), (1, .int x1), (2, .int x2)] [.int (cFWv r x1 x2)] (fun ls hl => ?_) (fun hJ37 => ?_)
  · refine lv_istore (lv' := [(5, .int (cFWv r x1 x2)), (4, .int (cWithout r x1)), (3, .int (rAt 200 (r 7) x1)), (0, .ref (z 0)), (1, .int x1), (2, .int x2)]) hx hb dX6_showsFaultWithout_37 hl (by decide) rfl (fun ls hl => ?_)
    refine lv_aload_n hx hb dX6_showsFaultWithout_39 rfl (lv_at hl 3 rfl) ?_
    refine lv_iload_n hx hb dX6_showsFaultWithout_40 rfl (lv_at hl 5 rfl) ?_
    refine g_callC (W.runV (C := RX6) (As := [.int x2]) (rest := []) S0 (c_X6_setIn l G _ z r f hP x2) (cwV 1 hts gX6_showsFaultWithout_X6_setIn rfl rfl rfl (by decide +kernel) ⟨Nat.le_of_ble_eq_true rfl, Nat.le_of_ble_eq_true rfl⟩) (g_preV hK hP (q0 := 0) (ci := 6) (q := (RX6, TX6, 7)) rfl rfl) rfl rfl hl.1 rfl (lv_room (Nat.le_of_ble_eq_true rfl)) dX6_showsFaultWithout_41 ⟨Nat.zero_le _, Nat.zero_le _⟩) ?_
    refine lv_istore (lv' := [(6, .int (cSet r x2)), (5, .int (cFWv r x1 x2)), (4, .int (cWithout r x1)), (3, .int (rAt 200 (r 7) x1)), (0, .ref (z 0)), (1, .int x1), (2, .int x2)]) hx hb dX6_showsFaultWithout_44 hl (by decide) rfl (fun ls hl => ?_)
    refine lv_iload_n hx hb dX6_showsFaultWithout_46 rfl (lv_at hl 3 rfl) ?_
    refine g_callC (W.runS (As := [.int (rAt 200 (r 7) x1)]) (rest := []) S0 (c_X6_isSwitch l G _ (rAt 200 (r 7) x1)) (va_cwS 1 hts gX6_showsFaultWithout_X6_isSwitch rfl rfl rfl (by decide +kernel) ⟨Nat.le_of_ble_eq_true rfl, Nat.le_of_ble_eq_true rfl⟩) (g_preS hK) rfl rfl hl.1 rfl (lv_room (Nat.le_of_ble_eq_true rfl)) dX6_showsFaultWithout_47 ⟨Nat.zero_le _, Nat.zero_le _⟩) ?_
    refine g_join m 72 7 [(6, .int (cFWs r x1 x2)), (5, .int (cFWv r x1 x2)), (4, .int (cWithout r x1)), (3, .int (rAt 200 (r 7) x1)), (0, .ref (z 0)), (1, .int x1), (2, .int x2)] [] (fun ls hl => ?_) (fun hJ72 => ?_)
    · refine lv_aload_n hx hb dX6_showsFaultWithout_72 rfl (lv_at hl 4 rfl) ?_
      refine va_get (D := G.1) (ci := 6) (v := .ref (z 2)) (C := RX6) (T := TX6) (N := 7) hx hb hts hinX6 hown hK.1 hP 0 rfl rfl 1 (by decide) (hts (.fieldLink RX6 19 "Rotaforge" "defects" "LRotaforge$Defects;") (by decide +kernel)) (fun _ h9 => h9) rfl dX6_showsFaultWithout_73 ?_
      refine lv_iload hx hb dX6_showsFaultWithout_76 (lv_at hl 1 rfl) ?_
      refine lv_aload_n hx hb dX6_showsFaultWithout_78 rfl (lv_at hl 4 rfl) ?_
      refine va_get (D := G.1) (ci := 6) (v := .ref (z 1)) (C := RX6) (T := TX6) (N := 7) hx hb hts hinX6 hown hK.1 hP 0 rfl rfl 0 (by decide) (hts (.fieldLink RX6 12 "Rotaforge" "needMap" "LRotaforge$Needs;") (by decide +kernel)) (fun _ h9 => h9) rfl dX6_showsFaultWithout_79 ?_
      refine lv_iload hx hb dX6_showsFaultWithout_82 (lv_at hl 0 rfl) ?_
      refine g_callC (W.runV (C := RX3) (As := [.int (cFWs r x1 x2)]) (rest := [.int (cFWv r x1 x2), .ref (z 2)]) S0 (c_X3_onAmong l G _ z r f hP (cFWs r x1 x2)) (cwV 1 hts gX6_showsFaultWithout_X3_onAmong rfl rfl rfl (by decide +kernel) ⟨Nat.le_of_ble_eq_true rfl, Nat.le_of_ble_eq_true rfl⟩) (g_preV hK hP (q0 := 1) (ci := 3) (q := (RX3, TX3, 2)) rfl rfl) rfl rfl hl.1 rfl (lv_room (Nat.le_of_ble_eq_true rfl)) dX6_showsFaultWithout_84 ⟨Nat.zero_le _, Nat.zero_le _⟩) ?_
      refine g_callC (W.runV (C := RX1) (As := [.int (cFWv r x1 x2), .int (cOn r (cFWs r x1 x2))]) (rest := []) S0 (c_X1_anyShows l G _ z r f hP (cFWv r x1 x2) (cOn r (cFWs r x1 x2))) (cwV 2 hts gX6_showsFaultWithout_X1_anyShows rfl rfl rfl (by decide +kernel) ⟨Nat.le_of_ble_eq_true rfl, Nat.le_of_ble_eq_true rfl⟩) (g_preV hK hP (q0 := 2) (ci := 1) (q := (RX1, TX1, 4)) rfl rfl) rfl rfl hl.1 rfl (lv_room (Nat.le_of_ble_eq_true rfl)) dX6_showsFaultWithout_87 ⟨Nat.zero_le _, Nat.zero_le _⟩) ?_
      have hq : (b2i (cShows r (cFWv r x1 x2) (cOn r (cFWs r x1 x2)))) = (b2i (cFW r x1 x2)) := by
        first | with_reducible rfl | with_reducible exact nI_add _ _ | (simp only [cFWv, cFWs, ↓reduceIte, Bool.false_eq_true, decide_true, decide_false, Bool.not_true, Bool.not_false, Bool.or_true, Bool.true_or, Bool.or_false, Bool.false_or]; done) | (simp only [cFWv, cFWs, ↓reduceIte, Bool.false_eq_true, decide_true, decide_false, Bool.not_true, Bool.not_false, Bool.or_true, Bool.true_or, Bool.or_false, Bool.false_or]; with_reducible rfl) | (simp only [cFWv, cFWs, ↓reduceIte, Bool.false_eq_true, decide_true, decide_false, Bool.not_true, Bool.not_false, Bool.or_true, Bool.true_or, Bool.or_false, Bool.false_or]; rfl) | (simp [b2i, cFWv, cFWs]; done) | rfl
      exact W.zret (v := b2i (cShows r (cFWv r x1 x2) (cOn r (cFWs r x1 x2)))) hx hb hr (z_nar hq) (fun t ht _ => g_ret hq ht) g_no dX6_showsFaultWithout_90
    · refine lv_if_eq (tgt := 72) hx hb dX6_showsFaultWithout_50 (by decide) (fun c_1 => ?_) (fun c_1 => ?_)
      · have c_1 := b2i_f c_1
        exact hJ72 _ (lv_cv (show lv_has ls 7 [(6, .int (cSet r x2)), (5, .int (cFWv r x1 x2)), (4, .int (cWithout r x1)), (3, .int (rAt 200 (r 7) x1)), (0, .ref (z 0)), (1, .int x1), (2, .int x2)] from lv_sub hl [0, 1, 2, 3, 4, 5, 6] rfl) (gl_i (show cSet r x2 = cFWs r x1 x2 by first | with_reducible rfl | with_reducible exact nI_add _ _ | (simp only [cFWv, cFWs, c_1, ↓reduceIte, Bool.false_eq_true, decide_true, decide_false, Bool.not_true, Bool.not_false, Bool.or_true, Bool.true_or, Bool.or_false, Bool.false_or]; done) | (simp only [cFWv, cFWs, c_1, ↓reduceIte, Bool.false_eq_true, decide_true, decide_false, Bool.not_true, Bool.not_false, Bool.or_true, Bool.true_or, Bool.or_false, Bool.false_or]; with_reducible rfl) | (simp only [cFWv, cFWs, c_1, ↓reduceIte, Bool.false_eq_true, decide_true, decide_false, Bool.not_true, Bool.not_false, Bool.or_true, Bool.true_or, Bool.or_false, Bool.false_or]; rfl) | (simp [b2i, cFWv, cFWs, c_1]; done) | rfl) (gl_s (gl_s (gl_s (gl_s (gl_s (gl_s rfl))))))))
      · have c_1 := b2i_t c_1
        refine lv_iload hx hb dX6_showsFaultWithout_53 (lv_at hl 0 rfl) ?_
        refine lv_iload_n hx hb dX6_showsFaultWithout_55 rfl (lv_at hl 3 rfl) ?_
        refine lv_iload hx hb dX6_showsFaultWithout_56 (lv_at hl 2 rfl) ?_
        refine lv_iload_n hx hb dX6_showsFaultWithout_58 rfl (lv_at hl 6 rfl) ?_
        refine g_join m 67 7 [(6, .int (cSet r x2)), (5, .int (cFWv r x1 x2)), (4, .int (cWithout r x1)), (3, .int (rAt 200 (r 7) x1)), (0, .ref (z 0)), (1, .int x1), (2, .int x2)] [.int (b2i (!decide (cWithout r x1 ≤ x2))), .int (rAt 200 (r 7) x1), .int (cSet r x2)] (fun ls hl => ?_) (fun hJ67 => ?_)
        · refine g_callC (W.runS (As := [.int (cSet r x2), .int (rAt 200 (r 7) x1), .int (b2i (!decide (cWithout r x1 ≤ x2)))]) (rest := []) S0 (c_X6_withBit l G _ (cSet r x2) (rAt 200 (r 7) x1) (!decide (cWithout r x1 ≤ x2))) (va_cwS 3 hts gX6_showsFaultWithout_X6_withBit rfl rfl rfl (by decide +kernel) ⟨Nat.le_of_ble_eq_true rfl, Nat.le_of_ble_eq_true rfl⟩) (g_preS hK) rfl rfl hl.1 rfl (lv_room (Nat.le_of_ble_eq_true rfl)) dX6_showsFaultWithout_67 ⟨Nat.zero_le _, Nat.zero_le _⟩) ?_
          refine lv_istore (lv' := [(6, .int (cWithBit (cSet r x2) (rAt 200 (r 7) x1) (!decide (cWithout r x1 ≤ x2)))), (5, .int (cFWv r x1 x2)), (4, .int (cWithout r x1)), (3, .int (rAt 200 (r 7) x1)), (0, .ref (z 0)), (1, .int x1), (2, .int x2)]) hx hb dX6_showsFaultWithout_70 hl (by decide) rfl (fun ls hl => ?_)
          exact hJ72 _ (lv_cv (show lv_has ls 7 [(6, .int (cWithBit (cSet r x2) (rAt 200 (r 7) x1) (!decide (cWithout r x1 ≤ x2)))), (5, .int (cFWv r x1 x2)), (4, .int (cWithout r x1)), (3, .int (rAt 200 (r 7) x1)), (0, .ref (z 0)), (1, .int x1), (2, .int x2)] from lv_sub hl [0, 1, 2, 3, 4, 5, 6] rfl) (gl_i (show cWithBit (cSet r x2) (rAt 200 (r 7) x1) (!decide (cWithout r x1 ≤ x2)) = cFWs r x1 x2 by first | with_reducible rfl | with_reducible exact nI_add _ _ | (simp only [cFWv, cFWs, c_1, ↓reduceIte, Bool.false_eq_true, decide_true, decide_false, Bool.not_true, Bool.not_false, Bool.or_true, Bool.true_or, Bool.or_false, Bool.false_or]; done) | (simp only [cFWv, cFWs, c_1, ↓reduceIte, Bool.false_eq_true, decide_true, decide_false, Bool.not_true, Bool.not_false, Bool.or_true, Bool.true_or, Bool.or_false, Bool.false_or]; with_reducible rfl) | (simp only [cFWv, cFWs, c_1, ↓reduceIte, Bool.false_eq_true, decide_true, decide_false, Bool.not_true, Bool.not_false, Bool.or_true, Bool.true_or, Bool.or_false, Bool.false_or]; rfl) | (simp [b2i, cFWv, cFWs, c_1]; done) | rfl) (gl_s (gl_s (gl_s (gl_s (gl_s (gl_s rfl))))))))
        · refine lv_icmp_le (tgt := 66) hx hb dX6_showsFaultWithout_59 (by decide) (fun c_2 => ?_) (fun c_2 => ?_)
          · refine lv_iconst (v := nI 0) hx hb dX6_showsFaultWithout_66 (by decide +kernel) ?_
            refine W.eq (g2 := F0 m 67 ls [.int (b2i (!decide (cWithout r x1 ≤ x2))), .int (rAt 200 (r 7) x1), .int (cSet r x2)]) (g_st (gs_i (show nI 0 = b2i (!decide (cWithout r x1 ≤ x2)) by first | with_reducible rfl | with_reducible exact nI_add _ _ | (simp only [cFWv, cFWs, c_1, c_2, ↓reduceIte, Bool.false_eq_true, decide_true, decide_false, Bool.not_true, Bool.not_false, Bool.or_true, Bool.true_or, Bool.or_false, Bool.false_or]; done) | (simp only [cFWv, cFWs, c_1, c_2, ↓reduceIte, Bool.false_eq_true, decide_true, decide_false, Bool.not_true, Bool.not_false, Bool.or_true, Bool.true_or, Bool.or_false, Bool.false_or]; with_reducible rfl) | (simp only [cFWv, cFWs, c_1, c_2, ↓reduceIte, Bool.false_eq_true, decide_true, decide_false, Bool.not_true, Bool.not_false, Bool.or_true, Bool.true_or, Bool.or_false, Bool.false_or]; rfl) | (simp [b2i, cFWv, cFWs, c_1, c_2]; done) | rfl) (gs_s (gs_s rfl)))) ?_
            exact hJ67 _ (show lv_has ls 7 [(6, .int (cSet r x2)), (5, .int (cFWv r x1 x2)), (4, .int (cWithout r x1)), (3, .int (rAt 200 (r 7) x1)), (0, .ref (z 0)), (1, .int x1), (2, .int x2)] from lv_sub hl [0, 1, 2, 3, 4, 5, 6] rfl)
          · refine lv_iconst (v := nI 1) hx hb dX6_showsFaultWithout_62 (by decide +kernel) ?_
            refine lv_goto (tgt := 67) hx hb dX6_showsFaultWithout_63 (by decide) ?_
            refine W.eq (g2 := F0 m 67 ls [.int (b2i (!decide (cWithout r x1 ≤ x2))), .int (rAt 200 (r 7) x1), .int (cSet r x2)]) (g_st (gs_i (show nI 1 = b2i (!decide (cWithout r x1 ≤ x2)) by first | with_reducible rfl | with_reducible exact nI_add _ _ | (simp only [cFWv, cFWs, c_1, c_2, ↓reduceIte, Bool.false_eq_true, decide_true, decide_false, Bool.not_true, Bool.not_false, Bool.or_true, Bool.true_or, Bool.or_false, Bool.false_or]; done) | (simp only [cFWv, cFWs, c_1, c_2, ↓reduceIte, Bool.false_eq_true, decide_true, decide_false, Bool.not_true, Bool.not_false, Bool.or_true, Bool.true_or, Bool.or_false, Bool.false_or]; with_reducible rfl) | (simp only [cFWv, cFWs, c_1, c_2, ↓reduceIte, Bool.false_eq_true, decide_true, decide_false, Bool.not_true, Bool.not_false, Bool.or_true, Bool.true_or, Bool.or_false, Bool.false_or]; rfl) | (simp [b2i, cFWv, cFWs, c_1, c_2]; done) | rfl) (gs_s (gs_s rfl)))) ?_
            exact hJ67 _ (show lv_has ls 7 [(6, .int (cSet r x2)), (5, .int (cFWv r x1 x2)), (4, .int (cWithout r x1)), (3, .int (rAt 200 (r 7) x1)), (0, .ref (z 0)), (1, .int x1), (2, .int x2)] from lv_sub hl [0, 1, 2, 3, 4, 5, 6] rfl)
  · refine lv_icmp_ne (tgt := 32) hx hb dX6_showsFaultWithout_24 (by decide) (fun c_3 => ?_) (fun c_3 => ?_)
    · refine lv_aload_n hx hb dX6_showsFaultWithout_32 rfl (lv_at hl 2 rfl) ?_
      refine lv_iload_n hx hb dX6_showsFaultWithout_33 rfl (lv_at hl 4 rfl) ?_
      refine g_callC (W.runV (C := RX6) (As := [.int x2]) (rest := []) S0 (c_X6_runs l G _ z r f hP x2) (cwV 1 hts gX6_showsFaultWithout_X6_runs rfl rfl rfl (by decide +kernel) ⟨Nat.le_of_ble_eq_true rfl, Nat.le_of_ble_eq_true rfl⟩) (g_preV hK hP (q0 := 0) (ci := 6) (q := (RX6, TX6, 7)) rfl rfl) rfl rfl hl.1 rfl (lv_room (Nat.le_of_ble_eq_true rfl)) dX6_showsFaultWithout_34 ⟨Nat.zero_le _, Nat.zero_le _⟩) ?_
      refine W.eq (g2 := F0 m 37 ls [.int (cFWv r x1 x2)]) (g_st (gs_i (show cRuns r x2 = cFWv r x1 x2 by first | with_reducible rfl | with_reducible exact nI_add _ _ | (simp only [cFWv, cFWs, c_3, ↓reduceIte, Bool.false_eq_true, decide_true, decide_false, Bool.not_true, Bool.not_false, Bool.or_true, Bool.true_or, Bool.or_false, Bool.false_or]; done) | (simp only [cFWv, cFWs, c_3, ↓reduceIte, Bool.false_eq_true, decide_true, decide_false, Bool.not_true, Bool.not_false, Bool.or_true, Bool.true_or, Bool.or_false, Bool.false_or]; with_reducible rfl) | (simp only [cFWv, cFWs, c_3, ↓reduceIte, Bool.false_eq_true, decide_true, decide_false, Bool.not_true, Bool.not_false, Bool.or_true, Bool.true_or, Bool.or_false, Bool.false_or]; rfl) | (simp [b2i, cFWv, cFWs, c_3]; done) | rfl) rfl)) ?_
      exact hJ37 _ (show lv_has ls 7 [(4, .int (cWithout r x1)), (3, .int (rAt 200 (r 7) x1)), (0, .ref (z 0)), (1, .int x1), (2, .int x2)] from lv_sub hl [0, 1, 2, 3, 4] rfl)
    · refine lv_iload hx hb dX6_showsFaultWithout_27 (lv_at hl 0 rfl) ?_
      refine lv_goto (tgt := 37) hx hb dX6_showsFaultWithout_29 (by decide) ?_
      refine W.eq (g2 := F0 m 37 ls [.int (cFWv r x1 x2)]) (g_st (gs_i (show cWithout r x1 = cFWv r x1 x2 by first | with_reducible rfl | with_reducible exact nI_add _ _ | (simp only [cFWv, cFWs, c_3, ↓reduceIte, Bool.false_eq_true, decide_true, decide_false, Bool.not_true, Bool.not_false, Bool.or_true, Bool.true_or, Bool.or_false, Bool.false_or]; done) | (simp only [cFWv, cFWs, c_3, ↓reduceIte, Bool.false_eq_true, decide_true, decide_false, Bool.not_true, Bool.not_false, Bool.or_true, Bool.true_or, Bool.or_false, Bool.false_or]; with_reducible rfl) | (simp only [cFWv, cFWs, c_3, ↓reduceIte, Bool.false_eq_true, decide_true, decide_false, Bool.not_true, Bool.not_false, Bool.or_true, Bool.true_or, Bool.or_false, Bool.false_or]; rfl) | (simp [b2i, cFWv, cFWs, c_3]; done) | rfl) rfl)) ?_
      exact hJ37 _ (show lv_has ls 7 [(4, .int (cWithout r x1)), (3, .int (rAt 200 (r 7) x1)), (0, .ref (z 0)), (1, .int x1), (2, .int x2)] from lv_sub hl [0, 1, 2, 3, 4] rfl)

set_option maxHeartbeats 4000000 in
set_option maxRecDepth 100000 in
theorem c_X6_latestHealing (l : Launch) (G : gG) (H0 : Heap) (z : Nat → Nat) (r : Nat → Nat → Int32) (f : Nat → Int32) (hP : va_P G.1 vwCl (wRF G z r f) H0) (x1 : Int32) : gMr l yX6_latestHealing wsX6_latestHealing 4 92 G H0 [.ref (z 0), .int x1] (cLatest r x1) := by
  refine Met.ofW (cc := cX6_latestHealing) (maxL := 6) (ret := (some .int)) (by decide) rfl ?_
  intro p_ e_ s m args below meth c s₁ B hml hv
  obtain ⟨rfl, rfl, hK⟩ := hv
  have hx := B.exec
  have hb := B.bytes
  have hr := B.returns
  have hts := atoms_spec (ws := wsX6_latestHealing) B.pre
  have hown : s.vm.findClass RX6 = some m.cls := findClass_of_methodNamed B.named
  have hlocks := B.notSynchronized
  have hinX6 : ∀ w ∈ wsX60, w ∈ wsX6_latestHealing := by decide +kernel
  have S0 : CallFix p_ m c cX6_latestHealing 6 s _ wsX6_latestHealing RX6 := ⟨hx, hb, hml, hown, hts⟩
  have hl := lv_entry ([.ref (z 0), .int x1]) (n := 6) (Nat.le_of_ble_eq_true rfl)
  rw [lg_entry_eq]
  generalize (lg_sl ([.ref (z 0), .int x1]) ++ List.replicate (6 - (lg_sl ([.ref (z 0), .int x1])).length) Slot.unset).toArray = ls at hl ⊢
  have hl : lv_has ls 6 [(0, .ref (z 0)), (1, .int x1)] := hl
  refine lv_aload_n hx hb dX6_latestHealing_0 rfl (lv_at hl 0 rfl) ?_
  refine lv_iload_n hx hb dX6_latestHealing_1 rfl (lv_at hl 1 rfl) ?_
  refine g_callC (W.runV (C := RX6) (As := [.int x1]) (rest := []) S0 (c_X6_showsFault l G _ z r f hP x1) (cwV 1 hts gX6_latestHealing_X6_showsFault rfl rfl rfl (by decide +kernel) ⟨Nat.le_of_ble_eq_true rfl, Nat.le_of_ble_eq_true rfl⟩) (g_preV hK hP (q0 := 0) (ci := 6) (q := (RX6, TX6, 7)) rfl rfl) rfl rfl hl.1 rfl (lv_room (Nat.le_of_ble_eq_true rfl)) dX6_latestHealing_2 ⟨Nat.zero_le _, Nat.zero_le _⟩) ?_
  refine lv_if_ne (tgt := 10) hx hb dX6_latestHealing_5 (by decide) (fun c_1 => ?_) (fun c_1 => ?_)
  · have c_1 := b2i_t c_1
    refine lv_iconst (v := (-1)) hx hb dX6_latestHealing_10 (by decide +kernel) ?_
    refine lv_istore_n (lv' := [(2, .int (-1)), (0, .ref (z 0)), (1, .int x1)]) hx hb dX6_latestHealing_11 rfl hl (by decide) rfl (fun ls hl => ?_)
    refine lv_iconst (v := nI 0) hx hb dX6_latestHealing_12 (by decide +kernel) ?_
    refine lv_istore_n (lv' := [(3, .int (nI 0)), (2, .int (-1)), (0, .ref (z 0)), (1, .int x1)]) hx hb dX6_latestHealing_13 rfl hl (by decide) rfl (fun ls hl => ?_)
    refine g_loop _ m 14 6 [] (12) (fun i => [(3, .int (nI i)), (2, .int (itN i (cLI r x1) (-1))), (0, .ref (z 0)), (1, .int x1)]) (fun i => True) (fun i hi14 hI ih14 ls hl => ?_) 0 (Nat.zero_le _) trivial ls ?_
    · have hl : lv_has ls 6 [(3, .int (nI i)), (2, .int (itN i (cLI r x1) (-1))), (0, .ref (z 0)), (1, .int x1)] := hl
      have hI : True := hI
      refine lv_iload_n hx hb dX6_latestHealing_14 rfl (lv_at hl 0 rfl) ?_
      refine lv_bipush (v := nI 12) hx hb dX6_latestHealing_15 (by decide +kernel) ?_
      refine lv_icmp_ge (tgt := 82) hx hb dX6_latestHealing_17 (by decide) (fun c_2 => ?_) (fun c_2 => ?_)
      · have hex : 12 = i := by
          have h9 := (nI_leI (a := 12) (b := i) (by decide) (by omega)).mp c_2
          omega
        subst hex
        refine lv_iload_n hx hb dX6_latestHealing_82 rfl (lv_at hl 1 rfl) ?_
        have hq : (itN 12 (cLI r x1) (-1)) = (cLatest r x1) := by
          first | with_reducible rfl | with_reducible exact nI_add _ _ | (simp only [cLI, cLatest, c_1, c_2, ↓reduceIte, Bool.false_eq_true, decide_true, decide_false, Bool.not_true, Bool.not_false, Bool.or_true, Bool.true_or, Bool.or_false, Bool.false_or]; done) | (simp only [cLI, cLatest, c_1, c_2, ↓reduceIte, Bool.false_eq_true, decide_true, decide_false, Bool.not_true, Bool.not_false, Bool.or_true, Bool.true_or, Bool.or_false, Bool.false_or]; with_reducible rfl) | (simp only [cLI, cLatest, c_1, c_2, ↓reduceIte, Bool.false_eq_true, decide_true, decide_false, Bool.not_true, Bool.not_false, Bool.or_true, Bool.true_or, Bool.or_false, Bool.false_or]; rfl) | (simp [b2i, cLI, cLatest, c_1, c_2]; done) | rfl
        exact W.iret (v := itN 12 (cLI r x1) (-1)) hx hb hr (fun t ht _ => g_ret hq ht) g_no dX6_latestHealing_83
      · have hlt : i < 12 := by
          have h9 := mt (nI_leI (a := 12) (b := i) (by decide) (by omega)).mpr c_2
          omega
        refine lv_aload_n hx hb dX6_latestHealing_20 rfl (lv_at hl 2 rfl) ?_
        refine va_get (D := G.1) (ci := 6) (v := .ref (z 3)) (C := RX6) (T := TX6) (N := 7) hx hb hts hinX6 hown hK.1 hP 0 rfl rfl 2 (by decide) (hts (.fieldLink RX6 26 "Rotaforge" "changeLog" "LRotaforge$ChangeLog;") (by decide +kernel)) (fun _ h9 => h9) rfl dX6_latestHealing_21 ?_
        refine lv_iload_n hx hb dX6_latestHealing_24 rfl (lv_at hl 0 rfl) ?_
        refine g_callC (W.runV (C := RX0) (As := [.int (nI i)]) (rest := []) S0 (c_X0_latestOf l G _ z r f hP (nI i)) (cwV 1 hts gX6_latestHealing_X0_latestOf rfl rfl rfl (by decide +kernel) ⟨Nat.le_of_ble_eq_true rfl, Nat.le_of_ble_eq_true rfl⟩) (g_preV hK hP (q0 := 3) (ci := 0) (q := (RX0, TX0, 7)) rfl rfl) rfl rfl hl.1 rfl (lv_room (Nat.le_of_ble_eq_true rfl)) dX6_latestHealing_25 ⟨Nat.zero_le _, Nat.zero_le _⟩) ?_
        refine lv_istore (lv' := [(4, .int (rAt 12 (r 10) (nI i))), (3, .int (nI i)), (2, .int (itN i (cLI r x1) (-1))), (0, .ref (z 0)), (1, .int x1)]) hx hb dX6_latestHealing_28 hl (by decide) rfl (fun ls hl => ?_)
        refine lv_iload_n hx hb dX6_latestHealing_30 rfl (lv_at hl 1 rfl) ?_
        refine g_callC (W.runS (As := [.int (nI i)]) (rest := []) S0 (c_X6_isSwitch l G _ (nI i)) (va_cwS 1 hts gX6_latestHealing_X6_isSwitch rfl rfl rfl (by decide +kernel) ⟨Nat.le_of_ble_eq_true rfl, Nat.le_of_ble_eq_true rfl⟩) (g_preS hK) rfl rfl hl.1 rfl (lv_room (Nat.le_of_ble_eq_true rfl)) dX6_latestHealing_31 ⟨Nat.zero_le _, Nat.zero_le _⟩) ?_
        refine g_join m 50 6 [(4, .int (rAt 12 (r 10) (nI i))), (3, .int (nI i)), (2, .int (itN i (cLI r x1) (-1))), (0, .ref (z 0)), (1, .int x1)] [.int (b2i (cIsSwitch (nI i) || decide (nI i = cSubj x1)))] (fun ls hl => ?_) (fun hJ50 => ?_)
        · refine lv_istore (lv' := [(5, .int (b2i (cIsSwitch (nI i) || decide (nI i = cSubj x1)))), (4, .int (rAt 12 (r 10) (nI i))), (3, .int (nI i)), (2, .int (itN i (cLI r x1) (-1))), (0, .ref (z 0)), (1, .int x1)]) hx hb dX6_latestHealing_50 hl (by decide) rfl (fun ls hl => ?_)
          refine lv_iload hx hb dX6_latestHealing_52 (lv_at hl 0 rfl) ?_
          refine lv_if_eq (tgt := 76) hx hb dX6_latestHealing_54 (by decide) (fun c_3 => ?_) (fun c_3 => ?_)
          · have c_3 := b2i_f c_3
            refine lv_iinc (v := (nI i) + nI 1) (lv' := [(3, .int ((nI i) + nI 1)), (5, .int (b2i (cIsSwitch (nI i) || decide (nI i = cSubj x1)))), (4, .int (rAt 12 (r 10) (nI i))), (2, .int (itN i (cLI r x1) (-1))), (0, .ref (z 0)), (1, .int x1)]) hx hb dX6_latestHealing_76 hl (k := 2) rfl (congrArg (fun q : Int32 => (nI i) + q) (by decide +kernel)) (by decide) rfl (fun ls hl => ?_)
            refine lv_goto (tgt := 14) hx hb dX6_latestHealing_79 (by decide) ?_
            exact ih14 _ (by omega) trivial (lv_cv (show lv_has ls 6 [(3, .int ((nI i) + nI 1)), (2, .int (itN i (cLI r x1) (-1))), (0, .ref (z 0)), (1, .int x1)] from lv_sub hl [0, 3, 4, 5] rfl) (gl_i (show (nI i) + nI 1 = nI (i + 1) by first | with_reducible rfl | with_reducible exact nI_add _ _ | (simp only [itN_s i, cLI, cLatest, c_1, c_2, c_3, ↓reduceIte, Bool.false_eq_true, decide_true, decide_false, Bool.not_true, Bool.not_false, Bool.or_true, Bool.true_or, Bool.or_false, Bool.false_or]; done) | (simp only [itN_s i, cLI, cLatest, c_1, c_2, c_3, ↓reduceIte, Bool.false_eq_true, decide_true, decide_false, Bool.not_true, Bool.not_false, Bool.or_true, Bool.true_or, Bool.or_false, Bool.false_or]; with_reducible rfl) | (simp only [itN_s i, cLI, cLatest, c_1, c_2, c_3, ↓reduceIte, Bool.false_eq_true, decide_true, decide_false, Bool.not_true, Bool.not_false, Bool.or_true, Bool.true_or, Bool.or_false, Bool.false_or]; rfl) | (simp [b2i, itN_s i, cLI, cLatest, c_1, c_2, c_3]; done) | rfl) (gl_i (show itN i (cLI r x1) (-1) = itN (i + 1) (cLI r x1) (-1) by first | with_reducible rfl | with_reducible exact nI_add _ _ | (simp only [itN_s i, cLI, cLatest, c_1, c_2, c_3, ↓reduceIte, Bool.false_eq_true, decide_true, decide_false, Bool.not_true, Bool.not_false, Bool.or_true, Bool.true_or, Bool.or_false, Bool.false_or]; done) | (simp only [itN_s i, cLI, cLatest, c_1, c_2, c_3, ↓reduceIte, Bool.false_eq_true, decide_true, decide_false, Bool.not_true, Bool.not_false, Bool.or_true, Bool.true_or, Bool.or_false, Bool.false_or]; with_reducible rfl) | (simp only [itN_s i, cLI, cLatest, c_1, c_2, c_3, ↓reduceIte, Bool.false_eq_true, decide_true, decide_false, Bool.not_true, Bool.not_false, Bool.or_true, Bool.true_or, Bool.or_false, Bool.false_or]; rfl) | (simp [b2i, itN_s i, cLI, cLatest, c_1, c_2, c_3]; done) | rfl) (gl_s (gl_s rfl)))))
          · have c_3 := b2i_t c_3
            refine lv_iload hx hb dX6_latestHealing_57 (lv_at hl 1 rfl) ?_
            refine lv_iload_n hx hb dX6_latestHealing_59 rfl (lv_at hl 3 rfl) ?_
            refine lv_icmp_le (tgt := 76) hx hb dX6_latestHealing_60 (by decide) (fun c_4 => ?_) (fun c_4 => ?_)
            · refine lv_iinc (v := (nI i) + nI 1) (lv' := [(3, .int ((nI i) + nI 1)), (5, .int (b2i (cIsSwitch (nI i) || decide (nI i = cSubj x1)))), (4, .int (rAt 12 (r 10) (nI i))), (2, .int (itN i (cLI r x1) (-1))), (0, .ref (z 0)), (1, .int x1)]) hx hb dX6_latestHealing_76 hl (k := 2) rfl (congrArg (fun q : Int32 => (nI i) + q) (by decide +kernel)) (by decide) rfl (fun ls hl => ?_)
              refine lv_goto (tgt := 14) hx hb dX6_latestHealing_79 (by decide) ?_
              exact ih14 _ (by omega) trivial (lv_cv (show lv_has ls 6 [(3, .int ((nI i) + nI 1)), (2, .int (itN i (cLI r x1) (-1))), (0, .ref (z 0)), (1, .int x1)] from lv_sub hl [0, 3, 4, 5] rfl) (gl_i (show (nI i) + nI 1 = nI (i + 1) by first | with_reducible rfl | with_reducible exact nI_add _ _ | (simp only [itN_s i, cLI, cLatest, c_1, c_2, c_3, c_4, ↓reduceIte, Bool.false_eq_true, decide_true, decide_false, Bool.not_true, Bool.not_false, Bool.or_true, Bool.true_or, Bool.or_false, Bool.false_or]; done) | (simp only [itN_s i, cLI, cLatest, c_1, c_2, c_3, c_4, ↓reduceIte, Bool.false_eq_true, decide_true, decide_false, Bool.not_true, Bool.not_false, Bool.or_true, Bool.true_or, Bool.or_false, Bool.false_or]; with_reducible rfl) | (simp only [itN_s i, cLI, cLatest, c_1, c_2, c_3, c_4, ↓reduceIte, Bool.false_eq_true, decide_true, decide_false, Bool.not_true, Bool.not_false, Bool.or_true, Bool.true_or, Bool.or_false, Bool.false_or]; rfl) | (simp [b2i, itN_s i, cLI, cLatest, c_1, c_2, c_3, c_4]; done) | rfl) (gl_i (show itN i (cLI r x1) (-1) = itN (i + 1) (cLI r x1) (-1) by first | with_reducible rfl | with_reducible exact nI_add _ _ | (simp only [itN_s i, cLI, cLatest, c_1, c_2, c_3, c_4, ↓reduceIte, Bool.false_eq_true, decide_true, decide_false, Bool.not_true, Bool.not_false, Bool.or_true, Bool.true_or, Bool.or_false, Bool.false_or]; done) | (simp only [itN_s i, cLI, cLatest, c_1, c_2, c_3, c_4, ↓reduceIte, Bool.false_eq_true, decide_true, decide_false, Bool.not_true, Bool.not_false, Bool.or_true, Bool.true_or, Bool.or_false, Bool.false_or]; with_reducible rfl) | (simp only [itN_s i, cLI, cLatest, c_1, c_2, c_3, c_4, ↓reduceIte, Bool.false_eq_true, decide_true, decide_false, Bool.not_true, Bool.not_false, Bool.or_true, Bool.true_or, Bool.or_false, Bool.false_or]; rfl) | (simp [b2i, itN_s i, cLI, cLatest, c_1, c_2, c_3, c_4]; done) | rfl) (gl_s (gl_s rfl)))))
            · refine lv_aload_n hx hb dX6_latestHealing_63 rfl (lv_at hl 4 rfl) ?_
              refine lv_iload hx hb dX6_latestHealing_64 (lv_at hl 1 rfl) ?_
              refine lv_iload_n hx hb dX6_latestHealing_66 rfl (lv_at hl 5 rfl) ?_
              refine g_callC (W.runV (C := RX6) (As := [.int (rAt 12 (r 10) (nI i)), .int x1]) (rest := []) S0 (c_X6_showsFaultWithout l G _ z r f hP (rAt 12 (r 10) (nI i)) x1) (cwV 2 hts gX6_latestHealing_X6_showsFaultWithout rfl rfl rfl (by decide +kernel) ⟨Nat.le_of_ble_eq_true rfl, Nat.le_of_ble_eq_true rfl⟩) (g_preV hK hP (q0 := 0) (ci := 6) (q := (RX6, TX6, 7)) rfl rfl) rfl rfl hl.1 rfl (lv_room (Nat.le_of_ble_eq_true rfl)) dX6_latestHealing_67 ⟨Nat.zero_le _, Nat.zero_le _⟩) ?_
              refine lv_if_ne (tgt := 76) hx hb dX6_latestHealing_70 (by decide) (fun c_5 => ?_) (fun c_5 => ?_)
              · have c_5 := b2i_t c_5
                refine lv_iinc (v := (nI i) + nI 1) (lv' := [(3, .int ((nI i) + nI 1)), (5, .int (b2i (cIsSwitch (nI i) || decide (nI i = cSubj x1)))), (4, .int (rAt 12 (r 10) (nI i))), (2, .int (itN i (cLI r x1) (-1))), (0, .ref (z 0)), (1, .int x1)]) hx hb dX6_latestHealing_76 hl (k := 2) rfl (congrArg (fun q : Int32 => (nI i) + q) (by decide +kernel)) (by decide) rfl (fun ls hl => ?_)
                refine lv_goto (tgt := 14) hx hb dX6_latestHealing_79 (by decide) ?_
                exact ih14 _ (by omega) trivial (lv_cv (show lv_has ls 6 [(3, .int ((nI i) + nI 1)), (2, .int (itN i (cLI r x1) (-1))), (0, .ref (z 0)), (1, .int x1)] from lv_sub hl [0, 3, 4, 5] rfl) (gl_i (show (nI i) + nI 1 = nI (i + 1) by first | with_reducible rfl | with_reducible exact nI_add _ _ | (simp only [itN_s i, cLI, cLatest, c_1, c_2, c_3, c_4, c_5, ↓reduceIte, Bool.false_eq_true, decide_true, decide_false, Bool.not_true, Bool.not_false, Bool.or_true, Bool.true_or, Bool.or_false, Bool.false_or]; done) | (simp only [itN_s i, cLI, cLatest, c_1, c_2, c_3, c_4, c_5, ↓reduceIte, Bool.false_eq_true, decide_true, decide_false, Bool.not_true, Bool.not_false, Bool.or_true, Bool.true_or, Bool.or_false, Bool.false_or]; with_reducible rfl) | (simp only [itN_s i, cLI, cLatest, c_1, c_2, c_3, c_4, c_5, ↓reduceIte, Bool.false_eq_true, decide_true, decide_false, Bool.not_true, Bool.not_false, Bool.or_true, Bool.true_or, Bool.or_false, Bool.false_or]; rfl) | (simp [b2i, itN_s i, cLI, cLatest, c_1, c_2, c_3, c_4, c_5]; done) | rfl) (gl_i (show itN i (cLI r x1) (-1) = itN (i + 1) (cLI r x1) (-1) by first | with_reducible rfl | with_reducible exact nI_add _ _ | (simp only [itN_s i, cLI, cLatest, c_1, c_2, c_3, c_4, c_5, ↓reduceIte, Bool.false_eq_true, decide_true, decide_false, Bool.not_true, Bool.not_false, Bool.or_true, Bool.true_or, Bool.or_false, Bool.false_or]; done) | (simp only [itN_s i, cLI, cLatest, c_1, c_2, c_3, c_4, c_5, ↓reduceIte, Bool.false_eq_true, decide_true, decide_false, Bool.not_true, Bool.not_false, Bool.or_true, Bool.true_or, Bool.or_false, Bool.false_or]; with_reducible rfl) | (simp only [itN_s i, cLI, cLatest, c_1, c_2, c_3, c_4, c_5, ↓reduceIte, Bool.false_eq_true, decide_true, decide_false, Bool.not_true, Bool.not_false, Bool.or_true, Bool.true_or, Bool.or_false, Bool.false_or]; rfl) | (simp [b2i, itN_s i, cLI, cLatest, c_1, c_2, c_3, c_4, c_5]; done) | rfl) (gl_s (gl_s rfl)))))
              · have c_5 := b2i_f c_5
                refine lv_iload hx hb dX6_latestHealing_73 (lv_at hl 1 rfl) ?_
                refine lv_istore_n (lv' := [(2, .int (rAt 12 (r 10) (nI i))), (5, .int (b2i (cIsSwitch (nI i) || decide (nI i = cSubj x1)))), (4, .int (rAt 12 (r 10) (nI i))), (3, .int (nI i)), (0, .ref (z 0)), (1, .int x1)]) hx hb dX6_latestHealing_75 rfl hl (by decide) rfl (fun ls hl => ?_)
                refine lv_iinc (v := (nI i) + nI 1) (lv' := [(3, .int ((nI i) + nI 1)), (2, .int (rAt 12 (r 10) (nI i))), (5, .int (b2i (cIsSwitch (nI i) || decide (nI i = cSubj x1)))), (4, .int (rAt 12 (r 10) (nI i))), (0, .ref (z 0)), (1, .int x1)]) hx hb dX6_latestHealing_76 hl (k := 3) rfl (congrArg (fun q : Int32 => (nI i) + q) (by decide +kernel)) (by decide) rfl (fun ls hl => ?_)
                refine lv_goto (tgt := 14) hx hb dX6_latestHealing_79 (by decide) ?_
                exact ih14 _ (by omega) trivial (lv_cv (show lv_has ls 6 [(3, .int ((nI i) + nI 1)), (2, .int (rAt 12 (r 10) (nI i))), (0, .ref (z 0)), (1, .int x1)] from lv_sub hl [0, 1, 4, 5] rfl) (gl_i (show (nI i) + nI 1 = nI (i + 1) by first | with_reducible rfl | with_reducible exact nI_add _ _ | (simp only [itN_s i, cLI, cLatest, c_1, c_2, c_3, c_4, c_5, ↓reduceIte, Bool.false_eq_true, decide_true, decide_false, Bool.not_true, Bool.not_false, Bool.or_true, Bool.true_or, Bool.or_false, Bool.false_or]; done) | (simp only [itN_s i, cLI, cLatest, c_1, c_2, c_3, c_4, c_5, ↓reduceIte, Bool.false_eq_true, decide_true, decide_false, Bool.not_true, Bool.not_false, Bool.or_true, Bool.true_or, Bool.or_false, Bool.false_or]; with_reducible rfl) | (simp only [itN_s i, cLI, cLatest, c_1, c_2, c_3, c_4, c_5, ↓reduceIte, Bool.false_eq_true, decide_true, decide_false, Bool.not_true, Bool.not_false, Bool.or_true, Bool.true_or, Bool.or_false, Bool.false_or]; rfl) | (simp [b2i, itN_s i, cLI, cLatest, c_1, c_2, c_3, c_4, c_5]; done) | rfl) (gl_i (show rAt 12 (r 10) (nI i) = itN (i + 1) (cLI r x1) (-1) by first | with_reducible rfl | with_reducible exact nI_add _ _ | (simp only [itN_s i, cLI, cLatest, c_1, c_2, c_3, c_4, c_5, ↓reduceIte, Bool.false_eq_true, decide_true, decide_false, Bool.not_true, Bool.not_false, Bool.or_true, Bool.true_or, Bool.or_false, Bool.false_or]; done) | (simp only [itN_s i, cLI, cLatest, c_1, c_2, c_3, c_4, c_5, ↓reduceIte, Bool.false_eq_true, decide_true, decide_false, Bool.not_true, Bool.not_false, Bool.or_true, Bool.true_or, Bool.or_false, Bool.false_or]; with_reducible rfl) | (simp only [itN_s i, cLI, cLatest, c_1, c_2, c_3, c_4, c_5, ↓reduceIte, Bool.false_eq_true, decide_true, decide_false, Bool.not_true, Bool.not_false, Bool.or_true, Bool.true_or, Bool.or_false, Bool.false_or]; rfl) | (simp [b2i, itN_s i, cLI, cLatest, c_1, c_2, c_3, c_4, c_5]; done) | rfl) (gl_s (gl_s rfl)))))
        · refine lv_if_ne (tgt := 45) hx hb dX6_latestHealing_34 (by decide) (fun c_6 => ?_) (fun c_6 => ?_)
          · have c_6 := b2i_t c_6
            refine lv_iconst (v := nI 1) hx hb dX6_latestHealing_45 (by decide +kernel) ?_
            refine lv_goto (tgt := 50) hx hb dX6_latestHealing_46 (by decide) ?_
            refine W.eq (g2 := F0 m 50 ls [.int (b2i (cIsSwitch (nI i) || decide (nI i = cSubj x1)))]) (g_st (gs_i (show nI 1 = b2i (cIsSwitch (nI i) || decide (nI i = cSubj x1)) by first | with_reducible rfl | with_reducible exact nI_add _ _ | (simp only [cLI, cLatest, c_1, c_2, c_6, ↓reduceIte, Bool.false_eq_true, decide_true, decide_false, Bool.not_true, Bool.not_false, Bool.or_true, Bool.true_or, Bool.or_false, Bool.false_or]; done) | (simp only [cLI, cLatest, c_1, c_2, c_6, ↓reduceIte, Bool.false_eq_true, decide_true, decide_false, Bool.not_true, Bool.not_false, Bool.or_true, Bool.true_or, Bool.or_false, Bool.false_or]; with_reducible rfl) | (simp only [cLI, cLatest, c_1, c_2, c_6, ↓reduceIte, Bool.false_eq_true, decide_true, decide_false, Bool.not_true, Bool.not_false, Bool.or_true, Bool.true_or, Bool.or_false, Bool.false_or]; rfl) | (simp [b2i, cLI, cLatest, c_1, c_2, c_6]; done) | rfl) rfl)) ?_
            exact hJ50 _ (show lv_has ls 6 [(4, .int (rAt 12 (r 10) (nI i))), (3, .int (nI i)), (2, .int (itN i (cLI r x1) (-1))), (0, .ref (z 0)), (1, .int x1)] from lv_sub hl [0, 1, 2, 3, 4] rfl)
          · have c_6 := b2i_f c_6
            refine lv_iload_n hx hb dX6_latestHealing_37 rfl (lv_at hl 1 rfl) ?_
            refine lv_iload_n hx hb dX6_latestHealing_38 rfl (lv_at hl 4 rfl) ?_
            refine g_callC (W.runS (As := [.int x1]) (rest := [.int (nI i)]) S0 (c_X6_subjectOfRing l G _ x1) (va_cwS 1 hts gX6_latestHealing_X6_subjectOfRing rfl rfl rfl (by decide +kernel) ⟨Nat.le_of_ble_eq_true rfl, Nat.le_of_ble_eq_true rfl⟩) (g_preS hK) rfl rfl hl.1 rfl (lv_room (Nat.le_of_ble_eq_true rfl)) dX6_latestHealing_39 ⟨Nat.zero_le _, Nat.zero_le _⟩) ?_
            refine lv_icmp_ne (tgt := 49) hx hb dX6_latestHealing_42 (by decide) (fun c_7 => ?_) (fun c_7 => ?_)
            · refine lv_iconst (v := nI 0) hx hb dX6_latestHealing_49 (by decide +kernel) ?_
              refine W.eq (g2 := F0 m 50 ls [.int (b2i (cIsSwitch (nI i) || decide (nI i = cSubj x1)))]) (g_st (gs_i (show nI 0 = b2i (cIsSwitch (nI i) || decide (nI i = cSubj x1)) by first | with_reducible rfl | with_reducible exact nI_add _ _ | (simp only [cLI, cLatest, c_1, c_2, c_6, c_7, ↓reduceIte, Bool.false_eq_true, decide_true, decide_false, Bool.not_true, Bool.not_false, Bool.or_true, Bool.true_or, Bool.or_false, Bool.false_or]; done) | (simp only [cLI, cLatest, c_1, c_2, c_6, c_7, ↓reduceIte, Bool.false_eq_true, decide_true, decide_false, Bool.not_true, Bool.not_false, Bool.or_true, Bool.true_or, Bool.or_false, Bool.false_or]; with_reducible rfl) | (simp only [cLI, cLatest, c_1, c_2, c_6, c_7, ↓reduceIte, Bool.false_eq_true, decide_true, decide_false, Bool.not_true, Bool.not_false, Bool.or_true, Bool.true_or, Bool.or_false, Bool.false_or]; rfl) | (simp [b2i, cLI, cLatest, c_1, c_2, c_6, c_7]; done) | rfl) rfl)) ?_
              exact hJ50 _ (show lv_has ls 6 [(4, .int (rAt 12 (r 10) (nI i))), (3, .int (nI i)), (2, .int (itN i (cLI r x1) (-1))), (0, .ref (z 0)), (1, .int x1)] from lv_sub hl [0, 1, 2, 3, 4] rfl)
            · refine lv_iconst (v := nI 1) hx hb dX6_latestHealing_45 (by decide +kernel) ?_
              refine lv_goto (tgt := 50) hx hb dX6_latestHealing_46 (by decide) ?_
              refine W.eq (g2 := F0 m 50 ls [.int (b2i (cIsSwitch (nI i) || decide (nI i = cSubj x1)))]) (g_st (gs_i (show nI 1 = b2i (cIsSwitch (nI i) || decide (nI i = cSubj x1)) by first | with_reducible rfl | with_reducible exact nI_add _ _ | (simp only [cLI, cLatest, c_1, c_2, c_6, c_7, ↓reduceIte, Bool.false_eq_true, decide_true, decide_false, Bool.not_true, Bool.not_false, Bool.or_true, Bool.true_or, Bool.or_false, Bool.false_or]; done) | (simp only [cLI, cLatest, c_1, c_2, c_6, c_7, ↓reduceIte, Bool.false_eq_true, decide_true, decide_false, Bool.not_true, Bool.not_false, Bool.or_true, Bool.true_or, Bool.or_false, Bool.false_or]; with_reducible rfl) | (simp only [cLI, cLatest, c_1, c_2, c_6, c_7, ↓reduceIte, Bool.false_eq_true, decide_true, decide_false, Bool.not_true, Bool.not_false, Bool.or_true, Bool.true_or, Bool.or_false, Bool.false_or]; rfl) | (simp [b2i, cLI, cLatest, c_1, c_2, c_6, c_7]; done) | rfl) rfl)) ?_
              exact hJ50 _ (show lv_has ls 6 [(4, .int (rAt 12 (r 10) (nI i))), (3, .int (nI i)), (2, .int (itN i (cLI r x1) (-1))), (0, .ref (z 0)), (1, .int x1)] from lv_sub hl [0, 1, 2, 3, 4] rfl)
    · exact (lv_cv (show lv_has ls 6 [(3, .int (nI 0)), (2, .int (-1)), (0, .ref (z 0)), (1, .int x1)] from lv_sub hl [0, 1, 2, 3] rfl) (gl_s (gl_i (show (-1) = itN 0 (cLI r x1) (-1) by first | with_reducible rfl | with_reducible exact nI_add _ _ | (simp only [cLI, cLatest, c_1, ↓reduceIte, Bool.false_eq_true, decide_true, decide_false, Bool.not_true, Bool.not_false, Bool.or_true, Bool.true_or, Bool.or_false, Bool.false_or]; done) | (simp only [cLI, cLatest, c_1, ↓reduceIte, Bool.false_eq_true, decide_true, decide_false, Bool.not_true, Bool.not_false, Bool.or_true, Bool.true_or, Bool.or_false, Bool.false_or]; with_reducible rfl) | (simp only [cLI, cLatest, c_1, ↓reduceIte, Bool.false_eq_true, decide_true, decide_false, Bool.not_true, Bool.not_false, Bool.or_true, Bool.true_or, Bool.or_false, Bool.false_or]; rfl) | (simp [b2i, cLI, cLatest, c_1]; done) | rfl) (gl_s (gl_s rfl)))))
  · have c_1 := b2i_f c_1
    refine lv_iconst (v := (-1)) hx hb dX6_latestHealing_8 (by decide +kernel) ?_
    have hq : (-1) = (cLatest r x1) := by
      first | with_reducible rfl | with_reducible exact nI_add _ _ | (simp only [cLI, cLatest, c_1, ↓reduceIte, Bool.false_eq_true, decide_true, decide_false, Bool.not_true, Bool.not_false, Bool.or_true, Bool.true_or, Bool.or_false, Bool.false_or]; done) | (simp only [cLI, cLatest, c_1, ↓reduceIte, Bool.false_eq_true, decide_true, decide_false, Bool.not_true, Bool.not_false, Bool.or_true, Bool.true_or, Bool.or_false, Bool.false_or]; with_reducible rfl) | (simp only [cLI, cLatest, c_1, ↓reduceIte, Bool.false_eq_true, decide_true, decide_false, Bool.not_true, Bool.not_false, Bool.or_true, Bool.true_or, Bool.or_false, Bool.false_or]; rfl) | (simp [b2i, cLI, cLatest, c_1]; done) | rfl
    exact W.iret (v := (-1)) hx hb hr (fun t ht _ => g_ret hq ht) g_no dX6_latestHealing_9

set_option maxHeartbeats 4000000 in
set_option maxRecDepth 100000 in
theorem c_X6_time (l : Launch) (G : gG) (H0 : Heap) (z : Nat → Nat) (r : Nat → Nat → Int32) (f : Nat → Int32) (hP : va_P G.1 vwCl (wRF G z r f) H0) : gMr l yX6_time wsX6_time 0 0 G H0 [.ref (z 0)] (f 1) := by
  refine Met.ofW (cc := cX6_time) (maxL := 1) (ret := (some .int)) (by decide) rfl ?_
  intro p_ e_ s m args below meth c s₁ B hml hv
  obtain ⟨rfl, rfl, hK⟩ := hv
  have hx := B.exec
  have hb := B.bytes
  have hr := B.returns
  have hts := atoms_spec (ws := wsX6_time) B.pre
  have hown : s.vm.findClass RX6 = some m.cls := findClass_of_methodNamed B.named
  have hlocks := B.notSynchronized
  have hinX6 : ∀ w ∈ wsX60, w ∈ wsX6_time := by decide +kernel
  have S0 : CallFix p_ m c cX6_time 1 s _ wsX6_time RX6 := ⟨hx, hb, hml, hown, hts⟩
  have hl := lv_entry ([.ref (z 0)]) (n := 1) (Nat.le_of_ble_eq_true rfl)
  rw [lg_entry_eq]
  generalize (lg_sl ([.ref (z 0)]) ++ List.replicate (1 - (lg_sl ([.ref (z 0)])).length) Slot.unset).toArray = ls at hl ⊢
  have hl : lv_has ls 1 [(0, .ref (z 0))] := hl
  refine lv_aload_n hx hb dX6_time_0 rfl (lv_at hl 0 rfl) ?_
  refine va_get (D := G.1) (ci := 6) (v := .int (f 1)) (C := RX6) (T := TX6) (N := 7) hx hb hts hinX6 hown hK.1 hP 0 rfl rfl 6 (by decide) (hts (.fieldLink RX6 48 "Rotaforge" "now" "I") (by decide +kernel)) (fun _ h9 => h9) rfl dX6_time_1 ?_
  have hq : (f 1) = (f 1) := by
    first | with_reducible rfl | with_reducible exact nI_add _ _ | (simp only [true_and, ↓reduceIte, Bool.false_eq_true, decide_true, decide_false, Bool.not_true, Bool.not_false, Bool.or_true, Bool.true_or, Bool.or_false, Bool.false_or]; done) | (simp only [true_and, ↓reduceIte, Bool.false_eq_true, decide_true, decide_false, Bool.not_true, Bool.not_false, Bool.or_true, Bool.true_or, Bool.or_false, Bool.false_or]; with_reducible rfl) | (simp only [true_and, ↓reduceIte, Bool.false_eq_true, decide_true, decide_false, Bool.not_true, Bool.not_false, Bool.or_true, Bool.true_or, Bool.or_false, Bool.false_or]; rfl) | (simp [b2i, true_and]; done) | rfl
  exact W.iret (v := (f 1)) hx hb hr (fun t ht _ => g_ret hq ht) g_no dX6_time_4

set_option maxHeartbeats 4000000 in
set_option maxRecDepth 100000 in
theorem c_X6_onCall (l : Launch) (G : gG) (H0 : Heap) (z : Nat → Nat) (r : Nat → Nat → Int32) (f : Nat → Int32) (hP : va_P G.1 vwCl (wRF G z r f) H0) : gMr l yX6_onCall wsX6_onCall 3 69 G H0 [.ref (z 0)] (cDuty r (f 1)) := by
  refine Met.ofW (cc := cX6_onCall) (maxL := 1) (ret := (some .int)) (by decide) rfl ?_
  intro p_ e_ s m args below meth c s₁ B hml hv
  obtain ⟨rfl, rfl, hK⟩ := hv
  have hx := B.exec
  have hb := B.bytes
  have hr := B.returns
  have hts := atoms_spec (ws := wsX6_onCall) B.pre
  have hown : s.vm.findClass RX6 = some m.cls := findClass_of_methodNamed B.named
  have hlocks := B.notSynchronized
  have hinX6 : ∀ w ∈ wsX60, w ∈ wsX6_onCall := by decide +kernel
  have S0 : CallFix p_ m c cX6_onCall 1 s _ wsX6_onCall RX6 := ⟨hx, hb, hml, hown, hts⟩
  have hl := lv_entry ([.ref (z 0)]) (n := 1) (Nat.le_of_ble_eq_true rfl)
  rw [lg_entry_eq]
  generalize (lg_sl ([.ref (z 0)]) ++ List.replicate (1 - (lg_sl ([.ref (z 0)])).length) Slot.unset).toArray = ls at hl ⊢
  have hl : lv_has ls 1 [(0, .ref (z 0))] := hl
  refine lv_aload_n hx hb dX6_onCall_0 rfl (lv_at hl 0 rfl) ?_
  refine va_get (D := G.1) (ci := 6) (v := .ref (z 5)) (C := RX6) (T := TX6) (N := 7) hx hb hts hinX6 hown hK.1 hP 0 rfl rfl 4 (by decide) (hts (.fieldLink RX6 40 "Rotaforge" "rota" "LRotaforge$Rota;") (by decide +kernel)) (fun _ h9 => h9) rfl dX6_onCall_1 ?_
  refine lv_aload_n hx hb dX6_onCall_4 rfl (lv_at hl 0 rfl) ?_
  refine va_get (D := G.1) (ci := 6) (v := .int (f 1)) (C := RX6) (T := TX6) (N := 7) hx hb hts hinX6 hown hK.1 hP 0 rfl rfl 6 (by decide) (hts (.fieldLink RX6 48 "Rotaforge" "now" "I") (by decide +kernel)) (fun _ h9 => h9) rfl dX6_onCall_5 ?_
  refine g_callC (W.runV (C := RX4) (As := [.int (f 1)]) (rest := []) S0 (c_X4_dutyAt l G _ z r f hP (f 1)) (cwV 1 hts gX6_onCall_X4_dutyAt rfl rfl rfl (by decide +kernel) ⟨Nat.le_of_ble_eq_true rfl, Nat.le_of_ble_eq_true rfl⟩) (g_preV hK hP (q0 := 5) (ci := 4) (q := (RX4, TX4, 6)) rfl rfl) rfl rfl hl.1 rfl (lv_room (Nat.le_of_ble_eq_true rfl)) dX6_onCall_8 ⟨Nat.zero_le _, Nat.zero_le _⟩) ?_
  have hq : (cDuty r (f 1)) = (cDuty r (f 1)) := by
    first | with_reducible rfl | with_reducible exact nI_add _ _ | (simp only [true_and, ↓reduceIte, Bool.false_eq_true, decide_true, decide_false, Bool.not_true, Bool.not_false, Bool.or_true, Bool.true_or, Bool.or_false, Bool.false_or]; done) | (simp only [true_and, ↓reduceIte, Bool.false_eq_true, decide_true, decide_false, Bool.not_true, Bool.not_false, Bool.or_true, Bool.true_or, Bool.or_false, Bool.false_or]; with_reducible rfl) | (simp only [true_and, ↓reduceIte, Bool.false_eq_true, decide_true, decide_false, Bool.not_true, Bool.not_false, Bool.or_true, Bool.true_or, Bool.or_false, Bool.false_or]; rfl) | (simp [b2i, true_and]; done) | rfl
  exact W.iret (v := cDuty r (f 1)) hx hb hr (fun t ht _ => g_ret hq ht) g_no dX6_onCall_11

set_option maxHeartbeats 4000000 in
set_option maxRecDepth 100000 in
theorem c_X6_missed (l : Launch) (G : gG) (H0 : Heap) (z : Nat → Nat) (r : Nat → Nat → Int32) (f : Nat → Int32) (hP : va_P G.1 vwCl (wRF G z r f) H0) : gMr l yX6_missed wsX6_missed 1 20 G H0 [.ref (z 0)] (f 5) := by
  refine Met.ofW (cc := cX6_missed) (maxL := 1) (ret := (some .int)) (by decide) rfl ?_
  intro p_ e_ s m args below meth c s₁ B hml hv
  obtain ⟨rfl, rfl, hK⟩ := hv
  have hx := B.exec
  have hb := B.bytes
  have hr := B.returns
  have hts := atoms_spec (ws := wsX6_missed) B.pre
  have hown : s.vm.findClass RX6 = some m.cls := findClass_of_methodNamed B.named
  have hlocks := B.notSynchronized
  have hinX6 : ∀ w ∈ wsX60, w ∈ wsX6_missed := by decide +kernel
  have S0 : CallFix p_ m c cX6_missed 1 s _ wsX6_missed RX6 := ⟨hx, hb, hml, hown, hts⟩
  have hl := lv_entry ([.ref (z 0)]) (n := 1) (Nat.le_of_ble_eq_true rfl)
  rw [lg_entry_eq]
  generalize (lg_sl ([.ref (z 0)]) ++ List.replicate (1 - (lg_sl ([.ref (z 0)])).length) Slot.unset).toArray = ls at hl ⊢
  have hl : lv_has ls 1 [(0, .ref (z 0))] := hl
  refine lv_aload_n hx hb dX6_missed_0 rfl (lv_at hl 0 rfl) ?_
  refine va_get (D := G.1) (ci := 6) (v := .ref (z 5)) (C := RX6) (T := TX6) (N := 7) hx hb hts hinX6 hown hK.1 hP 0 rfl rfl 4 (by decide) (hts (.fieldLink RX6 40 "Rotaforge" "rota" "LRotaforge$Rota;") (by decide +kernel)) (fun _ h9 => h9) rfl dX6_missed_1 ?_
  refine g_callC (W.runV (C := RX4) (As := []) (rest := []) S0 (c_X4_missedCount l G _ z r f hP) (cwV 0 hts gX6_missed_X4_missedCount rfl rfl rfl (by decide +kernel) ⟨Nat.le_of_ble_eq_true rfl, Nat.le_of_ble_eq_true rfl⟩) (g_preV hK hP (q0 := 5) (ci := 4) (q := (RX4, TX4, 6)) rfl rfl) rfl rfl hl.1 rfl (lv_room (Nat.le_of_ble_eq_true rfl)) dX6_missed_4 ⟨Nat.zero_le _, Nat.zero_le _⟩) ?_
  have hq : (f 5) = (f 5) := by
    first | with_reducible rfl | with_reducible exact nI_add _ _ | (simp only [true_and, ↓reduceIte, Bool.false_eq_true, decide_true, decide_false, Bool.not_true, Bool.not_false, Bool.or_true, Bool.true_or, Bool.or_false, Bool.false_or]; done) | (simp only [true_and, ↓reduceIte, Bool.false_eq_true, decide_true, decide_false, Bool.not_true, Bool.not_false, Bool.or_true, Bool.true_or, Bool.or_false, Bool.false_or]; with_reducible rfl) | (simp only [true_and, ↓reduceIte, Bool.false_eq_true, decide_true, decide_false, Bool.not_true, Bool.not_false, Bool.or_true, Bool.true_or, Bool.or_false, Bool.false_or]; rfl) | (simp [b2i, true_and]; done) | rfl
  exact W.iret (v := f 5) hx hb hr (fun t ht _ => g_ret hq ht) g_no dX6_missed_7

set_option maxHeartbeats 4000000 in
set_option maxRecDepth 100000 in
theorem c_X6_versions (l : Launch) (G : gG) (H0 : Heap) (z : Nat → Nat) (r : Nat → Nat → Int32) (f : Nat → Int32) (hP : va_P G.1 vwCl (wRF G z r f) H0) : gMr l yX6_versions wsX6_versions 0 0 G H0 [.ref (z 0)] (f 0) := by
  refine Met.ofW (cc := cX6_versions) (maxL := 1) (ret := (some .int)) (by decide) rfl ?_
  intro p_ e_ s m args below meth c s₁ B hml hv
  obtain ⟨rfl, rfl, hK⟩ := hv
  have hx := B.exec
  have hb := B.bytes
  have hr := B.returns
  have hts := atoms_spec (ws := wsX6_versions) B.pre
  have hown : s.vm.findClass RX6 = some m.cls := findClass_of_methodNamed B.named
  have hlocks := B.notSynchronized
  have hinX6 : ∀ w ∈ wsX60, w ∈ wsX6_versions := by decide +kernel
  have S0 : CallFix p_ m c cX6_versions 1 s _ wsX6_versions RX6 := ⟨hx, hb, hml, hown, hts⟩
  have hl := lv_entry ([.ref (z 0)]) (n := 1) (Nat.le_of_ble_eq_true rfl)
  rw [lg_entry_eq]
  generalize (lg_sl ([.ref (z 0)]) ++ List.replicate (1 - (lg_sl ([.ref (z 0)])).length) Slot.unset).toArray = ls at hl ⊢
  have hl : lv_has ls 1 [(0, .ref (z 0))] := hl
  refine lv_aload_n hx hb dX6_versions_0 rfl (lv_at hl 0 rfl) ?_
  refine va_get (D := G.1) (ci := 6) (v := .int (f 0)) (C := RX6) (T := TX6) (N := 7) hx hb hts hinX6 hown hK.1 hP 0 rfl rfl 5 (by decide) (hts (.fieldLink RX6 44 "Rotaforge" "built" "I") (by decide +kernel)) (fun _ h9 => h9) rfl dX6_versions_1 ?_
  have hq : (f 0) = (f 0) := by
    first | with_reducible rfl | with_reducible exact nI_add _ _ | (simp only [true_and, ↓reduceIte, Bool.false_eq_true, decide_true, decide_false, Bool.not_true, Bool.not_false, Bool.or_true, Bool.true_or, Bool.or_false, Bool.false_or]; done) | (simp only [true_and, ↓reduceIte, Bool.false_eq_true, decide_true, decide_false, Bool.not_true, Bool.not_false, Bool.or_true, Bool.true_or, Bool.or_false, Bool.false_or]; with_reducible rfl) | (simp only [true_and, ↓reduceIte, Bool.false_eq_true, decide_true, decide_false, Bool.not_true, Bool.not_false, Bool.or_true, Bool.true_or, Bool.or_false, Bool.false_or]; rfl) | (simp [b2i, true_and]; done) | rfl
  exact W.iret (v := (f 0)) hx hb hr (fun t ht _ => g_ret hq ht) g_no dX6_versions_4

set_option maxHeartbeats 4000000 in
set_option maxRecDepth 100000 in
theorem c_X6_changes (l : Launch) (G : gG) (H0 : Heap) (z : Nat → Nat) (r : Nat → Nat → Int32) (f : Nat → Int32) (hP : va_P G.1 vwCl (wRF G z r f) H0) : gMr l yX6_changes wsX6_changes 1 20 G H0 [.ref (z 0)] (f 3) := by
  refine Met.ofW (cc := cX6_changes) (maxL := 1) (ret := (some .int)) (by decide) rfl ?_
  intro p_ e_ s m args below meth c s₁ B hml hv
  obtain ⟨rfl, rfl, hK⟩ := hv
  have hx := B.exec
  have hb := B.bytes
  have hr := B.returns
  have hts := atoms_spec (ws := wsX6_changes) B.pre
  have hown : s.vm.findClass RX6 = some m.cls := findClass_of_methodNamed B.named
  have hlocks := B.notSynchronized
  have hinX6 : ∀ w ∈ wsX60, w ∈ wsX6_changes := by decide +kernel
  have S0 : CallFix p_ m c cX6_changes 1 s _ wsX6_changes RX6 := ⟨hx, hb, hml, hown, hts⟩
  have hl := lv_entry ([.ref (z 0)]) (n := 1) (Nat.le_of_ble_eq_true rfl)
  rw [lg_entry_eq]
  generalize (lg_sl ([.ref (z 0)]) ++ List.replicate (1 - (lg_sl ([.ref (z 0)])).length) Slot.unset).toArray = ls at hl ⊢
  have hl : lv_has ls 1 [(0, .ref (z 0))] := hl
  refine lv_aload_n hx hb dX6_changes_0 rfl (lv_at hl 0 rfl) ?_
  refine va_get (D := G.1) (ci := 6) (v := .ref (z 3)) (C := RX6) (T := TX6) (N := 7) hx hb hts hinX6 hown hK.1 hP 0 rfl rfl 2 (by decide) (hts (.fieldLink RX6 26 "Rotaforge" "changeLog" "LRotaforge$ChangeLog;") (by decide +kernel)) (fun _ h9 => h9) rfl dX6_changes_1 ?_
  refine g_callC (W.runV (C := RX0) (As := []) (rest := []) S0 (c_X0_total l G _ z r f hP) (cwV 0 hts gX6_changes_X0_total rfl rfl rfl (by decide +kernel) ⟨Nat.le_of_ble_eq_true rfl, Nat.le_of_ble_eq_true rfl⟩) (g_preV hK hP (q0 := 3) (ci := 0) (q := (RX0, TX0, 7)) rfl rfl) rfl rfl hl.1 rfl (lv_room (Nat.le_of_ble_eq_true rfl)) dX6_changes_4 ⟨Nat.zero_le _, Nat.zero_le _⟩) ?_
  have hq : (f 3) = (f 3) := by
    first | with_reducible rfl | with_reducible exact nI_add _ _ | (simp only [true_and, ↓reduceIte, Bool.false_eq_true, decide_true, decide_false, Bool.not_true, Bool.not_false, Bool.or_true, Bool.true_or, Bool.or_false, Bool.false_or]; done) | (simp only [true_and, ↓reduceIte, Bool.false_eq_true, decide_true, decide_false, Bool.not_true, Bool.not_false, Bool.or_true, Bool.true_or, Bool.or_false, Bool.false_or]; with_reducible rfl) | (simp only [true_and, ↓reduceIte, Bool.false_eq_true, decide_true, decide_false, Bool.not_true, Bool.not_false, Bool.or_true, Bool.true_or, Bool.or_false, Bool.false_or]; rfl) | (simp [b2i, true_and]; done) | rfl
  exact W.iret (v := f 3) hx hb hr (fun t ht _ => g_ret hq ht) g_no dX6_changes_7

set_option maxHeartbeats 4000000 in
set_option maxRecDepth 100000 in
theorem c_X6_incidents (l : Launch) (G : gG) (H0 : Heap) (z : Nat → Nat) (r : Nat → Nat → Int32) (f : Nat → Int32) (hP : va_P G.1 vwCl (wRF G z r f) H0) : gMr l yX6_incidents wsX6_incidents 1 20 G H0 [.ref (z 0)] (f 4) := by
  refine Met.ofW (cc := cX6_incidents) (maxL := 1) (ret := (some .int)) (by decide) rfl ?_
  intro p_ e_ s m args below meth c s₁ B hml hv
  obtain ⟨rfl, rfl, hK⟩ := hv
  have hx := B.exec
  have hb := B.bytes
  have hr := B.returns
  have hts := atoms_spec (ws := wsX6_incidents) B.pre
  have hown : s.vm.findClass RX6 = some m.cls := findClass_of_methodNamed B.named
  have hlocks := B.notSynchronized
  have hinX6 : ∀ w ∈ wsX60, w ∈ wsX6_incidents := by decide +kernel
  have S0 : CallFix p_ m c cX6_incidents 1 s _ wsX6_incidents RX6 := ⟨hx, hb, hml, hown, hts⟩
  have hl := lv_entry ([.ref (z 0)]) (n := 1) (Nat.le_of_ble_eq_true rfl)
  rw [lg_entry_eq]
  generalize (lg_sl ([.ref (z 0)]) ++ List.replicate (1 - (lg_sl ([.ref (z 0)])).length) Slot.unset).toArray = ls at hl ⊢
  have hl : lv_has ls 1 [(0, .ref (z 0))] := hl
  refine lv_aload_n hx hb dX6_incidents_0 rfl (lv_at hl 0 rfl) ?_
  refine va_get (D := G.1) (ci := 6) (v := .ref (z 4)) (C := RX6) (T := TX6) (N := 7) hx hb hts hinX6 hown hK.1 hP 0 rfl rfl 3 (by decide) (hts (.fieldLink RX6 33 "Rotaforge" "incidentLog" "LRotaforge$IncidentLog;") (by decide +kernel)) (fun _ h9 => h9) rfl dX6_incidents_1 ?_
  refine g_callC (W.runV (C := RX2) (As := []) (rest := []) S0 (c_X2_total l G _ z r f hP) (cwV 0 hts gX6_incidents_X2_total rfl rfl rfl (by decide +kernel) ⟨Nat.le_of_ble_eq_true rfl, Nat.le_of_ble_eq_true rfl⟩) (g_preV hK hP (q0 := 4) (ci := 2) (q := (RX2, TX2, 7)) rfl rfl) rfl rfl hl.1 rfl (lv_room (Nat.le_of_ble_eq_true rfl)) dX6_incidents_4 ⟨Nat.zero_le _, Nat.zero_le _⟩) ?_
  have hq : (f 4) = (f 4) := by
    first | with_reducible rfl | with_reducible exact nI_add _ _ | (simp only [true_and, ↓reduceIte, Bool.false_eq_true, decide_true, decide_false, Bool.not_true, Bool.not_false, Bool.or_true, Bool.true_or, Bool.or_false, Bool.false_or]; done) | (simp only [true_and, ↓reduceIte, Bool.false_eq_true, decide_true, decide_false, Bool.not_true, Bool.not_false, Bool.or_true, Bool.true_or, Bool.or_false, Bool.false_or]; with_reducible rfl) | (simp only [true_and, ↓reduceIte, Bool.false_eq_true, decide_true, decide_false, Bool.not_true, Bool.not_false, Bool.or_true, Bool.true_or, Bool.or_false, Bool.false_or]; rfl) | (simp [b2i, true_and]; done) | rfl
  exact W.iret (v := f 4) hx hb hr (fun t ht _ => g_ret hq ht) g_no dX6_incidents_7
