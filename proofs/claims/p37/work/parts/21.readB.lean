set_option maxHeartbeats 4000000 in
set_option maxRecDepth 100000 in
theorem c_X0_total (l : Launch) (G : gG) (H0 : Heap) (z : Nat → Nat) (r : Nat → Nat → Int32) (f : Nat → Int32) (hP : va_P G.1 vwCl (wRF G z r f) H0) : gMr l yX0_total wsX0_total 0 0 G H0 [.ref (z 3)] (f 3) := by
  refine Met.ofW (cc := cX0_total) (maxL := 1) (ret := (some .int)) (by decide) rfl ?_
  intro p_ e_ s m args below meth c s₁ B hml hv
  obtain ⟨rfl, rfl, hK⟩ := hv
  have hx := B.exec
  have hb := B.bytes
  have hr := B.returns
  have hts := atoms_spec (ws := wsX0_total) B.pre
  have hown : s.vm.findClass RX0 = some m.cls := findClass_of_methodNamed B.named
  have hlocks := B.notSynchronized
  have hinX0 : ∀ w ∈ wsX00, w ∈ wsX0_total := by decide +kernel
  have S0 : CallFix p_ m c cX0_total 1 s _ wsX0_total RX0 := ⟨hx, hb, hml, hown, hts⟩
  have hl := lv_entry ([.ref (z 3)]) (n := 1) (Nat.le_of_ble_eq_true rfl)
  rw [lg_entry_eq]
  generalize (lg_sl ([.ref (z 3)]) ++ List.replicate (1 - (lg_sl ([.ref (z 3)])).length) Slot.unset).toArray = ls at hl ⊢
  have hl : lv_has ls 1 [(0, .ref (z 3))] := hl
  refine lv_aload_n hx hb dX0_total_0 rfl (lv_at hl 0 rfl) ?_
  refine va_get (D := G.1) (ci := 0) (v := .int (f 3)) (C := RX0) (T := TX0) (N := 7) hx hb hts hinX0 hown hK.1 hP 3 rfl rfl 6 (by decide) (hts (.fieldLink RX0 35 "Rotaforge$ChangeLog" "count" "I") (by decide +kernel)) (fun _ h9 => h9) rfl dX0_total_1 ?_
  have hq : (f 3) = (f 3) := by
    first | with_reducible rfl | with_reducible exact nI_add _ _ | (simp only [true_and, ↓reduceIte, Bool.false_eq_true, decide_true, decide_false, Bool.not_true, Bool.not_false, Bool.or_true, Bool.true_or, Bool.or_false, Bool.false_or]; done) | (simp only [true_and, ↓reduceIte, Bool.false_eq_true, decide_true, decide_false, Bool.not_true, Bool.not_false, Bool.or_true, Bool.true_or, Bool.or_false, Bool.false_or]; with_reducible rfl) | (simp only [true_and, ↓reduceIte, Bool.false_eq_true, decide_true, decide_false, Bool.not_true, Bool.not_false, Bool.or_true, Bool.true_or, Bool.or_false, Bool.false_or]; rfl) | (simp [b2i, true_and]; done) | rfl
  exact W.iret (v := (f 3)) hx hb hr (fun t ht _ => g_ret hq ht) g_no dX0_total_4

set_option maxHeartbeats 4000000 in
set_option maxRecDepth 100000 in
theorem c_X0_personOf (l : Launch) (G : gG) (H0 : Heap) (z : Nat → Nat) (r : Nat → Nat → Int32) (f : Nat → Int32) (hP : va_P G.1 vwCl (wRF G z r f) H0) (x1 : Int32) : gMr l yX0_personOf wsX0_personOf 1 21 G H0 [.ref (z 3), .int x1] (rAt 200 (r 5) x1) := by
  refine Met.ofW (cc := cX0_personOf) (maxL := 2) (ret := (some .int)) (by decide) rfl ?_
  intro p_ e_ s m args below meth c s₁ B hml hv
  obtain ⟨rfl, rfl, hK⟩ := hv
  have hx := B.exec
  have hb := B.bytes
  have hr := B.returns
  have hts := atoms_spec (ws := wsX0_personOf) B.pre
  have hown : s.vm.findClass RX0 = some m.cls := findClass_of_methodNamed B.named
  have hlocks := B.notSynchronized
  have hinX0 : ∀ w ∈ wsX00, w ∈ wsX0_personOf := by decide +kernel
  have S0 : CallFix p_ m c cX0_personOf 2 s _ wsX0_personOf RX0 := ⟨hx, hb, hml, hown, hts⟩
  have hl := lv_entry ([.ref (z 3), .int x1]) (n := 2) (Nat.le_of_ble_eq_true rfl)
  rw [lg_entry_eq]
  generalize (lg_sl ([.ref (z 3), .int x1]) ++ List.replicate (2 - (lg_sl ([.ref (z 3), .int x1])).length) Slot.unset).toArray = ls at hl ⊢
  have hl : lv_has ls 2 [(0, .ref (z 3)), (1, .int x1)] := hl
  refine lv_aload_n hx hb dX0_personOf_0 rfl (lv_at hl 0 rfl) ?_
  refine va_get (D := G.1) (ci := 0) (v := .ref (z 11)) (C := RX0) (T := TX0) (N := 7) hx hb hts hinX0 hown hK.1 hP 3 rfl rfl 0 (by decide) (hts (.fieldLink RX0 14 "Rotaforge$ChangeLog" "persons" "LRotaforge$Row;") (by decide +kernel)) (fun _ h9 => h9) rfl dX0_personOf_1 ?_
  refine lv_iload_n hx hb dX0_personOf_4 rfl (lv_at hl 1 rfl) ?_
  refine g_callC (W.runV (C := RX5) (As := [.int x1]) (rest := []) S0 (c_X5_at l G _ (z 11) (z 33) 200 (r 5) (by decide) (hP.sub (ws' := wRow1 G (z 11) (z 33) 200 (r 5)) [11, 33] rfl) x1) (cwV 1 hts gX0_personOf_X5_at rfl rfl rfl (by decide +kernel) ⟨Nat.le_of_ble_eq_true rfl, Nat.le_of_ble_eq_true rfl⟩) (g_preV hK hP (q0 := 11) (ci := 5) (q := (RX5, TX5, 1)) rfl rfl) rfl rfl hl.1 rfl (lv_room (Nat.le_of_ble_eq_true rfl)) dX0_personOf_5 ⟨Nat.zero_le _, Nat.zero_le _⟩) ?_
  have hq : (rAt 200 (r 5) x1) = (rAt 200 (r 5) x1) := by
    first | with_reducible rfl | with_reducible exact nI_add _ _ | (simp only [true_and, ↓reduceIte, Bool.false_eq_true, decide_true, decide_false, Bool.not_true, Bool.not_false, Bool.or_true, Bool.true_or, Bool.or_false, Bool.false_or]; done) | (simp only [true_and, ↓reduceIte, Bool.false_eq_true, decide_true, decide_false, Bool.not_true, Bool.not_false, Bool.or_true, Bool.true_or, Bool.or_false, Bool.false_or]; with_reducible rfl) | (simp only [true_and, ↓reduceIte, Bool.false_eq_true, decide_true, decide_false, Bool.not_true, Bool.not_false, Bool.or_true, Bool.true_or, Bool.or_false, Bool.false_or]; rfl) | (simp [b2i, true_and]; done) | rfl
  exact W.iret (v := rAt 200 (r 5) x1) hx hb hr (fun t ht _ => g_ret hq ht) g_no dX0_personOf_8

set_option maxHeartbeats 4000000 in
set_option maxRecDepth 100000 in
theorem c_X0_timeOf (l : Launch) (G : gG) (H0 : Heap) (z : Nat → Nat) (r : Nat → Nat → Int32) (f : Nat → Int32) (hP : va_P G.1 vwCl (wRF G z r f) H0) (x1 : Int32) : gMr l yX0_timeOf wsX0_timeOf 1 21 G H0 [.ref (z 3), .int x1] (rAt 200 (r 6) x1) := by
  refine Met.ofW (cc := cX0_timeOf) (maxL := 2) (ret := (some .int)) (by decide) rfl ?_
  intro p_ e_ s m args below meth c s₁ B hml hv
  obtain ⟨rfl, rfl, hK⟩ := hv
  have hx := B.exec
  have hb := B.bytes
  have hr := B.returns
  have hts := atoms_spec (ws := wsX0_timeOf) B.pre
  have hown : s.vm.findClass RX0 = some m.cls := findClass_of_methodNamed B.named
  have hlocks := B.notSynchronized
  have hinX0 : ∀ w ∈ wsX00, w ∈ wsX0_timeOf := by decide +kernel
  have S0 : CallFix p_ m c cX0_timeOf 2 s _ wsX0_timeOf RX0 := ⟨hx, hb, hml, hown, hts⟩
  have hl := lv_entry ([.ref (z 3), .int x1]) (n := 2) (Nat.le_of_ble_eq_true rfl)
  rw [lg_entry_eq]
  generalize (lg_sl ([.ref (z 3), .int x1]) ++ List.replicate (2 - (lg_sl ([.ref (z 3), .int x1])).length) Slot.unset).toArray = ls at hl ⊢
  have hl : lv_has ls 2 [(0, .ref (z 3)), (1, .int x1)] := hl
  refine lv_aload_n hx hb dX0_timeOf_0 rfl (lv_at hl 0 rfl) ?_
  refine va_get (D := G.1) (ci := 0) (v := .ref (z 12)) (C := RX0) (T := TX0) (N := 7) hx hb hts hinX0 hown hK.1 hP 3 rfl rfl 1 (by decide) (hts (.fieldLink RX0 20 "Rotaforge$ChangeLog" "times" "LRotaforge$Row;") (by decide +kernel)) (fun _ h9 => h9) rfl dX0_timeOf_1 ?_
  refine lv_iload_n hx hb dX0_timeOf_4 rfl (lv_at hl 1 rfl) ?_
  refine g_callC (W.runV (C := RX5) (As := [.int x1]) (rest := []) S0 (c_X5_at l G _ (z 12) (z 34) 200 (r 6) (by decide) (hP.sub (ws' := wRow1 G (z 12) (z 34) 200 (r 6)) [12, 34] rfl) x1) (cwV 1 hts gX0_timeOf_X5_at rfl rfl rfl (by decide +kernel) ⟨Nat.le_of_ble_eq_true rfl, Nat.le_of_ble_eq_true rfl⟩) (g_preV hK hP (q0 := 12) (ci := 5) (q := (RX5, TX5, 1)) rfl rfl) rfl rfl hl.1 rfl (lv_room (Nat.le_of_ble_eq_true rfl)) dX0_timeOf_5 ⟨Nat.zero_le _, Nat.zero_le _⟩) ?_
  have hq : (rAt 200 (r 6) x1) = (rAt 200 (r 6) x1) := by
    first | with_reducible rfl | with_reducible exact nI_add _ _ | (simp only [true_and, ↓reduceIte, Bool.false_eq_true, decide_true, decide_false, Bool.not_true, Bool.not_false, Bool.or_true, Bool.true_or, Bool.or_false, Bool.false_or]; done) | (simp only [true_and, ↓reduceIte, Bool.false_eq_true, decide_true, decide_false, Bool.not_true, Bool.not_false, Bool.or_true, Bool.true_or, Bool.or_false, Bool.false_or]; with_reducible rfl) | (simp only [true_and, ↓reduceIte, Bool.false_eq_true, decide_true, decide_false, Bool.not_true, Bool.not_false, Bool.or_true, Bool.true_or, Bool.or_false, Bool.false_or]; rfl) | (simp [b2i, true_and]; done) | rfl
  exact W.iret (v := rAt 200 (r 6) x1) hx hb hr (fun t ht _ => g_ret hq ht) g_no dX0_timeOf_8

set_option maxHeartbeats 4000000 in
set_option maxRecDepth 100000 in
theorem c_X0_subjectOf (l : Launch) (G : gG) (H0 : Heap) (z : Nat → Nat) (r : Nat → Nat → Int32) (f : Nat → Int32) (hP : va_P G.1 vwCl (wRF G z r f) H0) (x1 : Int32) : gMr l yX0_subjectOf wsX0_subjectOf 1 21 G H0 [.ref (z 3), .int x1] (rAt 200 (r 7) x1) := by
  refine Met.ofW (cc := cX0_subjectOf) (maxL := 2) (ret := (some .int)) (by decide) rfl ?_
  intro p_ e_ s m args below meth c s₁ B hml hv
  obtain ⟨rfl, rfl, hK⟩ := hv
  have hx := B.exec
  have hb := B.bytes
  have hr := B.returns
  have hts := atoms_spec (ws := wsX0_subjectOf) B.pre
  have hown : s.vm.findClass RX0 = some m.cls := findClass_of_methodNamed B.named
  have hlocks := B.notSynchronized
  have hinX0 : ∀ w ∈ wsX00, w ∈ wsX0_subjectOf := by decide +kernel
  have S0 : CallFix p_ m c cX0_subjectOf 2 s _ wsX0_subjectOf RX0 := ⟨hx, hb, hml, hown, hts⟩
  have hl := lv_entry ([.ref (z 3), .int x1]) (n := 2) (Nat.le_of_ble_eq_true rfl)
  rw [lg_entry_eq]
  generalize (lg_sl ([.ref (z 3), .int x1]) ++ List.replicate (2 - (lg_sl ([.ref (z 3), .int x1])).length) Slot.unset).toArray = ls at hl ⊢
  have hl : lv_has ls 2 [(0, .ref (z 3)), (1, .int x1)] := hl
  refine lv_aload_n hx hb dX0_subjectOf_0 rfl (lv_at hl 0 rfl) ?_
  refine va_get (D := G.1) (ci := 0) (v := .ref (z 13)) (C := RX0) (T := TX0) (N := 7) hx hb hts hinX0 hown hK.1 hP 3 rfl rfl 2 (by decide) (hts (.fieldLink RX0 23 "Rotaforge$ChangeLog" "subjects" "LRotaforge$Row;") (by decide +kernel)) (fun _ h9 => h9) rfl dX0_subjectOf_1 ?_
  refine lv_iload_n hx hb dX0_subjectOf_4 rfl (lv_at hl 1 rfl) ?_
  refine g_callC (W.runV (C := RX5) (As := [.int x1]) (rest := []) S0 (c_X5_at l G _ (z 13) (z 35) 200 (r 7) (by decide) (hP.sub (ws' := wRow1 G (z 13) (z 35) 200 (r 7)) [13, 35] rfl) x1) (cwV 1 hts gX0_subjectOf_X5_at rfl rfl rfl (by decide +kernel) ⟨Nat.le_of_ble_eq_true rfl, Nat.le_of_ble_eq_true rfl⟩) (g_preV hK hP (q0 := 13) (ci := 5) (q := (RX5, TX5, 1)) rfl rfl) rfl rfl hl.1 rfl (lv_room (Nat.le_of_ble_eq_true rfl)) dX0_subjectOf_5 ⟨Nat.zero_le _, Nat.zero_le _⟩) ?_
  have hq : (rAt 200 (r 7) x1) = (rAt 200 (r 7) x1) := by
    first | with_reducible rfl | with_reducible exact nI_add _ _ | (simp only [true_and, ↓reduceIte, Bool.false_eq_true, decide_true, decide_false, Bool.not_true, Bool.not_false, Bool.or_true, Bool.true_or, Bool.or_false, Bool.false_or]; done) | (simp only [true_and, ↓reduceIte, Bool.false_eq_true, decide_true, decide_false, Bool.not_true, Bool.not_false, Bool.or_true, Bool.true_or, Bool.or_false, Bool.false_or]; with_reducible rfl) | (simp only [true_and, ↓reduceIte, Bool.false_eq_true, decide_true, decide_false, Bool.not_true, Bool.not_false, Bool.or_true, Bool.true_or, Bool.or_false, Bool.false_or]; rfl) | (simp [b2i, true_and]; done) | rfl
  exact W.iret (v := rAt 200 (r 7) x1) hx hb hr (fun t ht _ => g_ret hq ht) g_no dX0_subjectOf_8

set_option maxHeartbeats 4000000 in
set_option maxRecDepth 100000 in
theorem c_X0_valueOf (l : Launch) (G : gG) (H0 : Heap) (z : Nat → Nat) (r : Nat → Nat → Int32) (f : Nat → Int32) (hP : va_P G.1 vwCl (wRF G z r f) H0) (x1 : Int32) : gMr l yX0_valueOf wsX0_valueOf 1 21 G H0 [.ref (z 3), .int x1] (rAt 200 (r 8) x1) := by
  refine Met.ofW (cc := cX0_valueOf) (maxL := 2) (ret := (some .int)) (by decide) rfl ?_
  intro p_ e_ s m args below meth c s₁ B hml hv
  obtain ⟨rfl, rfl, hK⟩ := hv
  have hx := B.exec
  have hb := B.bytes
  have hr := B.returns
  have hts := atoms_spec (ws := wsX0_valueOf) B.pre
  have hown : s.vm.findClass RX0 = some m.cls := findClass_of_methodNamed B.named
  have hlocks := B.notSynchronized
  have hinX0 : ∀ w ∈ wsX00, w ∈ wsX0_valueOf := by decide +kernel
  have S0 : CallFix p_ m c cX0_valueOf 2 s _ wsX0_valueOf RX0 := ⟨hx, hb, hml, hown, hts⟩
  have hl := lv_entry ([.ref (z 3), .int x1]) (n := 2) (Nat.le_of_ble_eq_true rfl)
  rw [lg_entry_eq]
  generalize (lg_sl ([.ref (z 3), .int x1]) ++ List.replicate (2 - (lg_sl ([.ref (z 3), .int x1])).length) Slot.unset).toArray = ls at hl ⊢
  have hl : lv_has ls 2 [(0, .ref (z 3)), (1, .int x1)] := hl
  refine lv_aload_n hx hb dX0_valueOf_0 rfl (lv_at hl 0 rfl) ?_
  refine va_get (D := G.1) (ci := 0) (v := .ref (z 14)) (C := RX0) (T := TX0) (N := 7) hx hb hts hinX0 hown hK.1 hP 3 rfl rfl 3 (by decide) (hts (.fieldLink RX0 26 "Rotaforge$ChangeLog" "values" "LRotaforge$Row;") (by decide +kernel)) (fun _ h9 => h9) rfl dX0_valueOf_1 ?_
  refine lv_iload_n hx hb dX0_valueOf_4 rfl (lv_at hl 1 rfl) ?_
  refine g_callC (W.runV (C := RX5) (As := [.int x1]) (rest := []) S0 (c_X5_at l G _ (z 14) (z 36) 200 (r 8) (by decide) (hP.sub (ws' := wRow1 G (z 14) (z 36) 200 (r 8)) [14, 36] rfl) x1) (cwV 1 hts gX0_valueOf_X5_at rfl rfl rfl (by decide +kernel) ⟨Nat.le_of_ble_eq_true rfl, Nat.le_of_ble_eq_true rfl⟩) (g_preV hK hP (q0 := 14) (ci := 5) (q := (RX5, TX5, 1)) rfl rfl) rfl rfl hl.1 rfl (lv_room (Nat.le_of_ble_eq_true rfl)) dX0_valueOf_5 ⟨Nat.zero_le _, Nat.zero_le _⟩) ?_
  have hq : (rAt 200 (r 8) x1) = (rAt 200 (r 8) x1) := by
    first | with_reducible rfl | with_reducible exact nI_add _ _ | (simp only [true_and, ↓reduceIte, Bool.false_eq_true, decide_true, decide_false, Bool.not_true, Bool.not_false, Bool.or_true, Bool.true_or, Bool.or_false, Bool.false_or]; done) | (simp only [true_and, ↓reduceIte, Bool.false_eq_true, decide_true, decide_false, Bool.not_true, Bool.not_false, Bool.or_true, Bool.true_or, Bool.or_false, Bool.false_or]; with_reducible rfl) | (simp only [true_and, ↓reduceIte, Bool.false_eq_true, decide_true, decide_false, Bool.not_true, Bool.not_false, Bool.or_true, Bool.true_or, Bool.or_false, Bool.false_or]; rfl) | (simp [b2i, true_and]; done) | rfl
  exact W.iret (v := rAt 200 (r 8) x1) hx hb hr (fun t ht _ => g_ret hq ht) g_no dX0_valueOf_8

set_option maxHeartbeats 4000000 in
set_option maxRecDepth 100000 in
theorem c_X0_latestOf (l : Launch) (G : gG) (H0 : Heap) (z : Nat → Nat) (r : Nat → Nat → Int32) (f : Nat → Int32) (hP : va_P G.1 vwCl (wRF G z r f) H0) (x1 : Int32) : gMr l yX0_latestOf wsX0_latestOf 1 21 G H0 [.ref (z 3), .int x1] (rAt 12 (r 10) x1) := by
  refine Met.ofW (cc := cX0_latestOf) (maxL := 2) (ret := (some .int)) (by decide) rfl ?_
  intro p_ e_ s m args below meth c s₁ B hml hv
  obtain ⟨rfl, rfl, hK⟩ := hv
  have hx := B.exec
  have hb := B.bytes
  have hr := B.returns
  have hts := atoms_spec (ws := wsX0_latestOf) B.pre
  have hown : s.vm.findClass RX0 = some m.cls := findClass_of_methodNamed B.named
  have hlocks := B.notSynchronized
  have hinX0 : ∀ w ∈ wsX00, w ∈ wsX0_latestOf := by decide +kernel
  have S0 : CallFix p_ m c cX0_latestOf 2 s _ wsX0_latestOf RX0 := ⟨hx, hb, hml, hown, hts⟩
  have hl := lv_entry ([.ref (z 3), .int x1]) (n := 2) (Nat.le_of_ble_eq_true rfl)
  rw [lg_entry_eq]
  generalize (lg_sl ([.ref (z 3), .int x1]) ++ List.replicate (2 - (lg_sl ([.ref (z 3), .int x1])).length) Slot.unset).toArray = ls at hl ⊢
  have hl : lv_has ls 2 [(0, .ref (z 3)), (1, .int x1)] := hl
  refine lv_aload_n hx hb dX0_latestOf_0 rfl (lv_at hl 0 rfl) ?_
  refine va_get (D := G.1) (ci := 0) (v := .ref (z 16)) (C := RX0) (T := TX0) (N := 7) hx hb hts hinX0 hown hK.1 hP 3 rfl rfl 5 (by decide) (hts (.fieldLink RX0 32 "Rotaforge$ChangeLog" "latest" "LRotaforge$Row;") (by decide +kernel)) (fun _ h9 => h9) rfl dX0_latestOf_1 ?_
  refine lv_iload_n hx hb dX0_latestOf_4 rfl (lv_at hl 1 rfl) ?_
  refine g_callC (W.runV (C := RX5) (As := [.int x1]) (rest := []) S0 (c_X5_at l G _ (z 16) (z 38) 12 (r 10) (by decide) (hP.sub (ws' := wRow1 G (z 16) (z 38) 12 (r 10)) [16, 38] rfl) x1) (cwV 1 hts gX0_latestOf_X5_at rfl rfl rfl (by decide +kernel) ⟨Nat.le_of_ble_eq_true rfl, Nat.le_of_ble_eq_true rfl⟩) (g_preV hK hP (q0 := 16) (ci := 5) (q := (RX5, TX5, 1)) rfl rfl) rfl rfl hl.1 rfl (lv_room (Nat.le_of_ble_eq_true rfl)) dX0_latestOf_5 ⟨Nat.zero_le _, Nat.zero_le _⟩) ?_
  have hq : (rAt 12 (r 10) x1) = (rAt 12 (r 10) x1) := by
    first | with_reducible rfl | with_reducible exact nI_add _ _ | (simp only [true_and, ↓reduceIte, Bool.false_eq_true, decide_true, decide_false, Bool.not_true, Bool.not_false, Bool.or_true, Bool.true_or, Bool.or_false, Bool.false_or]; done) | (simp only [true_and, ↓reduceIte, Bool.false_eq_true, decide_true, decide_false, Bool.not_true, Bool.not_false, Bool.or_true, Bool.true_or, Bool.or_false, Bool.false_or]; with_reducible rfl) | (simp only [true_and, ↓reduceIte, Bool.false_eq_true, decide_true, decide_false, Bool.not_true, Bool.not_false, Bool.or_true, Bool.true_or, Bool.or_false, Bool.false_or]; rfl) | (simp [b2i, true_and]; done) | rfl
  exact W.iret (v := rAt 12 (r 10) x1) hx hb hr (fun t ht _ => g_ret hq ht) g_no dX0_latestOf_8

set_option maxHeartbeats 4000000 in
set_option maxRecDepth 100000 in
theorem c_X0_valueNow (l : Launch) (G : gG) (H0 : Heap) (z : Nat → Nat) (r : Nat → Nat → Int32) (f : Nat → Int32) (hP : va_P G.1 vwCl (wRF G z r f) H0) (x1 : Int32) : gMr l yX0_valueNow wsX0_valueNow 1 21 G H0 [.ref (z 3), .int x1] (cValueNow r x1) := by
  refine Met.ofW (cc := cX0_valueNow) (maxL := 3) (ret := (some .int)) (by decide) rfl ?_
  intro p_ e_ s m args below meth c s₁ B hml hv
  obtain ⟨rfl, rfl, hK⟩ := hv
  have hx := B.exec
  have hb := B.bytes
  have hr := B.returns
  have hts := atoms_spec (ws := wsX0_valueNow) B.pre
  have hown : s.vm.findClass RX0 = some m.cls := findClass_of_methodNamed B.named
  have hlocks := B.notSynchronized
  have hinX0 : ∀ w ∈ wsX00, w ∈ wsX0_valueNow := by decide +kernel
  have S0 : CallFix p_ m c cX0_valueNow 3 s _ wsX0_valueNow RX0 := ⟨hx, hb, hml, hown, hts⟩
  have hl := lv_entry ([.ref (z 3), .int x1]) (n := 3) (Nat.le_of_ble_eq_true rfl)
  rw [lg_entry_eq]
  generalize (lg_sl ([.ref (z 3), .int x1]) ++ List.replicate (3 - (lg_sl ([.ref (z 3), .int x1])).length) Slot.unset).toArray = ls at hl ⊢
  have hl : lv_has ls 3 [(0, .ref (z 3)), (1, .int x1)] := hl
  refine lv_aload_n hx hb dX0_valueNow_0 rfl (lv_at hl 0 rfl) ?_
  refine va_get (D := G.1) (ci := 0) (v := .ref (z 16)) (C := RX0) (T := TX0) (N := 7) hx hb hts hinX0 hown hK.1 hP 3 rfl rfl 5 (by decide) (hts (.fieldLink RX0 32 "Rotaforge$ChangeLog" "latest" "LRotaforge$Row;") (by decide +kernel)) (fun _ h9 => h9) rfl dX0_valueNow_1 ?_
  refine lv_iload_n hx hb dX0_valueNow_4 rfl (lv_at hl 1 rfl) ?_
  refine g_callC (W.runV (C := RX5) (As := [.int x1]) (rest := []) S0 (c_X5_at l G _ (z 16) (z 38) 12 (r 10) (by decide) (hP.sub (ws' := wRow1 G (z 16) (z 38) 12 (r 10)) [16, 38] rfl) x1) (cwV 1 hts gX0_valueNow_X5_at rfl rfl rfl (by decide +kernel) ⟨Nat.le_of_ble_eq_true rfl, Nat.le_of_ble_eq_true rfl⟩) (g_preV hK hP (q0 := 16) (ci := 5) (q := (RX5, TX5, 1)) rfl rfl) rfl rfl hl.1 rfl (lv_room (Nat.le_of_ble_eq_true rfl)) dX0_valueNow_5 ⟨Nat.zero_le _, Nat.zero_le _⟩) ?_
  refine lv_istore_n (lv' := [(2, .int (rAt 12 (r 10) x1)), (0, .ref (z 3)), (1, .int x1)]) hx hb dX0_valueNow_8 rfl hl (by decide) rfl (fun ls hl => ?_)
  refine lv_iload_n hx hb dX0_valueNow_9 rfl (lv_at hl 0 rfl) ?_
  refine lv_iconst (v := (-1)) hx hb dX0_valueNow_10 (by decide +kernel) ?_
  refine lv_icmp_ne (tgt := 18) hx hb dX0_valueNow_11 (by decide) (fun c_1 => ?_) (fun c_1 => ?_)
  · refine lv_aload_n hx hb dX0_valueNow_18 rfl (lv_at hl 1 rfl) ?_
    refine va_get (D := G.1) (ci := 0) (v := .ref (z 14)) (C := RX0) (T := TX0) (N := 7) hx hb hts hinX0 hown hK.1 hP 3 rfl rfl 3 (by decide) (hts (.fieldLink RX0 26 "Rotaforge$ChangeLog" "values" "LRotaforge$Row;") (by decide +kernel)) (fun _ h9 => h9) rfl dX0_valueNow_19 ?_
    refine lv_iload_n hx hb dX0_valueNow_22 rfl (lv_at hl 0 rfl) ?_
    refine g_callC (W.runV (C := RX5) (As := [.int (rAt 12 (r 10) x1)]) (rest := []) S0 (c_X5_at l G _ (z 14) (z 36) 200 (r 8) (by decide) (hP.sub (ws' := wRow1 G (z 14) (z 36) 200 (r 8)) [14, 36] rfl) (rAt 12 (r 10) x1)) (cwV 1 hts gX0_valueNow_X5_at rfl rfl rfl (by decide +kernel) ⟨Nat.le_of_ble_eq_true rfl, Nat.le_of_ble_eq_true rfl⟩) (g_preV hK hP (q0 := 14) (ci := 5) (q := (RX5, TX5, 1)) rfl rfl) rfl rfl hl.1 rfl (lv_room (Nat.le_of_ble_eq_true rfl)) dX0_valueNow_23 ⟨Nat.zero_le _, Nat.zero_le _⟩) ?_
    have hq : (rAt 200 (r 8) (rAt 12 (r 10) x1)) = (cValueNow r x1) := by
      first | with_reducible rfl | with_reducible exact nI_add _ _ | (simp only [cValueNow, c_1, ↓reduceIte, Bool.false_eq_true, decide_true, decide_false, Bool.not_true, Bool.not_false, Bool.or_true, Bool.true_or, Bool.or_false, Bool.false_or]; done) | (simp only [cValueNow, c_1, ↓reduceIte, Bool.false_eq_true, decide_true, decide_false, Bool.not_true, Bool.not_false, Bool.or_true, Bool.true_or, Bool.or_false, Bool.false_or]; with_reducible rfl) | (simp only [cValueNow, c_1, ↓reduceIte, Bool.false_eq_true, decide_true, decide_false, Bool.not_true, Bool.not_false, Bool.or_true, Bool.true_or, Bool.or_false, Bool.false_or]; rfl) | (simp [b2i, cValueNow, c_1]; done) | rfl
    exact W.iret (v := rAt 200 (r 8) (rAt 12 (r 10) x1)) hx hb hr (fun t ht _ => g_ret hq ht) g_no dX0_valueNow_26
  · refine lv_iconst (v := nI 0) hx hb dX0_valueNow_14 (by decide +kernel) ?_
    refine lv_goto (tgt := 26) hx hb dX0_valueNow_15 (by decide) ?_
    have hq : (nI 0) = (cValueNow r x1) := by
      first | with_reducible rfl | with_reducible exact nI_add _ _ | (simp only [cValueNow, c_1, ↓reduceIte, Bool.false_eq_true, decide_true, decide_false, Bool.not_true, Bool.not_false, Bool.or_true, Bool.true_or, Bool.or_false, Bool.false_or]; done) | (simp only [cValueNow, c_1, ↓reduceIte, Bool.false_eq_true, decide_true, decide_false, Bool.not_true, Bool.not_false, Bool.or_true, Bool.true_or, Bool.or_false, Bool.false_or]; with_reducible rfl) | (simp only [cValueNow, c_1, ↓reduceIte, Bool.false_eq_true, decide_true, decide_false, Bool.not_true, Bool.not_false, Bool.or_true, Bool.true_or, Bool.or_false, Bool.false_or]; rfl) | (simp [b2i, cValueNow, c_1]; done) | rfl
    exact W.iret (v := nI 0) hx hb hr (fun t ht _ => g_ret hq ht) g_no dX0_valueNow_26

set_option maxHeartbeats 4000000 in
set_option maxRecDepth 100000 in
theorem c_X0_sinceWhen (l : Launch) (G : gG) (H0 : Heap) (z : Nat → Nat) (r : Nat → Nat → Int32) (f : Nat → Int32) (hP : va_P G.1 vwCl (wRF G z r f) H0) (x1 : Int32) : gMr l yX0_sinceWhen wsX0_sinceWhen 1 21 G H0 [.ref (z 3), .int x1] (cSince r x1) := by
  refine Met.ofW (cc := cX0_sinceWhen) (maxL := 3) (ret := (some .int)) (by decide) rfl ?_
  intro p_ e_ s m args below meth c s₁ B hml hv
  obtain ⟨rfl, rfl, hK⟩ := hv
  have hx := B.exec
  have hb := B.bytes
  have hr := B.returns
  have hts := atoms_spec (ws := wsX0_sinceWhen) B.pre
  have hown : s.vm.findClass RX0 = some m.cls := findClass_of_methodNamed B.named
  have hlocks := B.notSynchronized
  have hinX0 : ∀ w ∈ wsX00, w ∈ wsX0_sinceWhen := by decide +kernel
  have S0 : CallFix p_ m c cX0_sinceWhen 3 s _ wsX0_sinceWhen RX0 := ⟨hx, hb, hml, hown, hts⟩
  have hl := lv_entry ([.ref (z 3), .int x1]) (n := 3) (Nat.le_of_ble_eq_true rfl)
  rw [lg_entry_eq]
  generalize (lg_sl ([.ref (z 3), .int x1]) ++ List.replicate (3 - (lg_sl ([.ref (z 3), .int x1])).length) Slot.unset).toArray = ls at hl ⊢
  have hl : lv_has ls 3 [(0, .ref (z 3)), (1, .int x1)] := hl
  refine lv_aload_n hx hb dX0_sinceWhen_0 rfl (lv_at hl 0 rfl) ?_
  refine va_get (D := G.1) (ci := 0) (v := .ref (z 16)) (C := RX0) (T := TX0) (N := 7) hx hb hts hinX0 hown hK.1 hP 3 rfl rfl 5 (by decide) (hts (.fieldLink RX0 32 "Rotaforge$ChangeLog" "latest" "LRotaforge$Row;") (by decide +kernel)) (fun _ h9 => h9) rfl dX0_sinceWhen_1 ?_
  refine lv_iload_n hx hb dX0_sinceWhen_4 rfl (lv_at hl 1 rfl) ?_
  refine g_callC (W.runV (C := RX5) (As := [.int x1]) (rest := []) S0 (c_X5_at l G _ (z 16) (z 38) 12 (r 10) (by decide) (hP.sub (ws' := wRow1 G (z 16) (z 38) 12 (r 10)) [16, 38] rfl) x1) (cwV 1 hts gX0_sinceWhen_X5_at rfl rfl rfl (by decide +kernel) ⟨Nat.le_of_ble_eq_true rfl, Nat.le_of_ble_eq_true rfl⟩) (g_preV hK hP (q0 := 16) (ci := 5) (q := (RX5, TX5, 1)) rfl rfl) rfl rfl hl.1 rfl (lv_room (Nat.le_of_ble_eq_true rfl)) dX0_sinceWhen_5 ⟨Nat.zero_le _, Nat.zero_le _⟩) ?_
  refine lv_istore_n (lv' := [(2, .int (rAt 12 (r 10) x1)), (0, .ref (z 3)), (1, .int x1)]) hx hb dX0_sinceWhen_8 rfl hl (by decide) rfl (fun ls hl => ?_)
  refine lv_iload_n hx hb dX0_sinceWhen_9 rfl (lv_at hl 0 rfl) ?_
  refine lv_iconst (v := (-1)) hx hb dX0_sinceWhen_10 (by decide +kernel) ?_
  refine lv_icmp_ne (tgt := 18) hx hb dX0_sinceWhen_11 (by decide) (fun c_1 => ?_) (fun c_1 => ?_)
  · refine lv_aload_n hx hb dX0_sinceWhen_18 rfl (lv_at hl 1 rfl) ?_
    refine va_get (D := G.1) (ci := 0) (v := .ref (z 12)) (C := RX0) (T := TX0) (N := 7) hx hb hts hinX0 hown hK.1 hP 3 rfl rfl 1 (by decide) (hts (.fieldLink RX0 20 "Rotaforge$ChangeLog" "times" "LRotaforge$Row;") (by decide +kernel)) (fun _ h9 => h9) rfl dX0_sinceWhen_19 ?_
    refine lv_iload_n hx hb dX0_sinceWhen_22 rfl (lv_at hl 0 rfl) ?_
    refine g_callC (W.runV (C := RX5) (As := [.int (rAt 12 (r 10) x1)]) (rest := []) S0 (c_X5_at l G _ (z 12) (z 34) 200 (r 6) (by decide) (hP.sub (ws' := wRow1 G (z 12) (z 34) 200 (r 6)) [12, 34] rfl) (rAt 12 (r 10) x1)) (cwV 1 hts gX0_sinceWhen_X5_at rfl rfl rfl (by decide +kernel) ⟨Nat.le_of_ble_eq_true rfl, Nat.le_of_ble_eq_true rfl⟩) (g_preV hK hP (q0 := 12) (ci := 5) (q := (RX5, TX5, 1)) rfl rfl) rfl rfl hl.1 rfl (lv_room (Nat.le_of_ble_eq_true rfl)) dX0_sinceWhen_23 ⟨Nat.zero_le _, Nat.zero_le _⟩) ?_
    have hq : (rAt 200 (r 6) (rAt 12 (r 10) x1)) = (cSince r x1) := by
      first | with_reducible rfl | with_reducible exact nI_add _ _ | (simp only [cSince, c_1, ↓reduceIte, Bool.false_eq_true, decide_true, decide_false, Bool.not_true, Bool.not_false, Bool.or_true, Bool.true_or, Bool.or_false, Bool.false_or]; done) | (simp only [cSince, c_1, ↓reduceIte, Bool.false_eq_true, decide_true, decide_false, Bool.not_true, Bool.not_false, Bool.or_true, Bool.true_or, Bool.or_false, Bool.false_or]; with_reducible rfl) | (simp only [cSince, c_1, ↓reduceIte, Bool.false_eq_true, decide_true, decide_false, Bool.not_true, Bool.not_false, Bool.or_true, Bool.true_or, Bool.or_false, Bool.false_or]; rfl) | (simp [b2i, cSince, c_1]; done) | rfl
    exact W.iret (v := rAt 200 (r 6) (rAt 12 (r 10) x1)) hx hb hr (fun t ht _ => g_ret hq ht) g_no dX0_sinceWhen_26
  · refine lv_iconst (v := nI 0) hx hb dX0_sinceWhen_14 (by decide +kernel) ?_
    refine lv_goto (tgt := 26) hx hb dX0_sinceWhen_15 (by decide) ?_
    have hq : (nI 0) = (cSince r x1) := by
      first | with_reducible rfl | with_reducible exact nI_add _ _ | (simp only [cSince, c_1, ↓reduceIte, Bool.false_eq_true, decide_true, decide_false, Bool.not_true, Bool.not_false, Bool.or_true, Bool.true_or, Bool.or_false, Bool.false_or]; done) | (simp only [cSince, c_1, ↓reduceIte, Bool.false_eq_true, decide_true, decide_false, Bool.not_true, Bool.not_false, Bool.or_true, Bool.true_or, Bool.or_false, Bool.false_or]; with_reducible rfl) | (simp only [cSince, c_1, ↓reduceIte, Bool.false_eq_true, decide_true, decide_false, Bool.not_true, Bool.not_false, Bool.or_true, Bool.true_or, Bool.or_false, Bool.false_or]; rfl) | (simp [b2i, cSince, c_1]; done) | rfl
    exact W.iret (v := nI 0) hx hb hr (fun t ht _ => g_ret hq ht) g_no dX0_sinceWhen_26

set_option maxHeartbeats 4000000 in
set_option maxRecDepth 100000 in
theorem c_X0_valueWithout (l : Launch) (G : gG) (H0 : Heap) (z : Nat → Nat) (r : Nat → Nat → Int32) (f : Nat → Int32) (hP : va_P G.1 vwCl (wRF G z r f) H0) (x1 : Int32) : gMr l yX0_valueWithout wsX0_valueWithout 1 21 G H0 [.ref (z 3), .int x1] (cWithout r x1) := by
  refine Met.ofW (cc := cX0_valueWithout) (maxL := 4) (ret := (some .int)) (by decide) rfl ?_
  intro p_ e_ s m args below meth c s₁ B hml hv
  obtain ⟨rfl, rfl, hK⟩ := hv
  have hx := B.exec
  have hb := B.bytes
  have hr := B.returns
  have hts := atoms_spec (ws := wsX0_valueWithout) B.pre
  have hown : s.vm.findClass RX0 = some m.cls := findClass_of_methodNamed B.named
  have hlocks := B.notSynchronized
  have hinX0 : ∀ w ∈ wsX00, w ∈ wsX0_valueWithout := by decide +kernel
  have S0 : CallFix p_ m c cX0_valueWithout 4 s _ wsX0_valueWithout RX0 := ⟨hx, hb, hml, hown, hts⟩
  have hl := lv_entry ([.ref (z 3), .int x1]) (n := 4) (Nat.le_of_ble_eq_true rfl)
  rw [lg_entry_eq]
  generalize (lg_sl ([.ref (z 3), .int x1]) ++ List.replicate (4 - (lg_sl ([.ref (z 3), .int x1])).length) Slot.unset).toArray = ls at hl ⊢
  have hl : lv_has ls 4 [(0, .ref (z 3)), (1, .int x1)] := hl
  refine lv_aload_n hx hb dX0_valueWithout_0 rfl (lv_at hl 0 rfl) ?_
  refine va_get (D := G.1) (ci := 0) (v := .ref (z 16)) (C := RX0) (T := TX0) (N := 7) hx hb hts hinX0 hown hK.1 hP 3 rfl rfl 5 (by decide) (hts (.fieldLink RX0 32 "Rotaforge$ChangeLog" "latest" "LRotaforge$Row;") (by decide +kernel)) (fun _ h9 => h9) rfl dX0_valueWithout_1 ?_
  refine lv_aload_n hx hb dX0_valueWithout_4 rfl (lv_at hl 0 rfl) ?_
  refine va_get (D := G.1) (ci := 0) (v := .ref (z 13)) (C := RX0) (T := TX0) (N := 7) hx hb hts hinX0 hown hK.1 hP 3 rfl rfl 2 (by decide) (hts (.fieldLink RX0 23 "Rotaforge$ChangeLog" "subjects" "LRotaforge$Row;") (by decide +kernel)) (fun _ h9 => h9) rfl dX0_valueWithout_5 ?_
  refine lv_iload_n hx hb dX0_valueWithout_8 rfl (lv_at hl 1 rfl) ?_
  refine g_callC (W.runV (C := RX5) (As := [.int x1]) (rest := [.ref (z 16)]) S0 (c_X5_at l G _ (z 13) (z 35) 200 (r 7) (by decide) (hP.sub (ws' := wRow1 G (z 13) (z 35) 200 (r 7)) [13, 35] rfl) x1) (cwV 1 hts gX0_valueWithout_X5_at rfl rfl rfl (by decide +kernel) ⟨Nat.le_of_ble_eq_true rfl, Nat.le_of_ble_eq_true rfl⟩) (g_preV hK hP (q0 := 13) (ci := 5) (q := (RX5, TX5, 1)) rfl rfl) rfl rfl hl.1 rfl (lv_room (Nat.le_of_ble_eq_true rfl)) dX0_valueWithout_9 ⟨Nat.zero_le _, Nat.zero_le _⟩) ?_
  refine g_callC (W.runV (C := RX5) (As := [.int (rAt 200 (r 7) x1)]) (rest := []) S0 (c_X5_at l G _ (z 16) (z 38) 12 (r 10) (by decide) (hP.sub (ws' := wRow1 G (z 16) (z 38) 12 (r 10)) [16, 38] rfl) (rAt 200 (r 7) x1)) (cwV 1 hts gX0_valueWithout_X5_at rfl rfl rfl (by decide +kernel) ⟨Nat.le_of_ble_eq_true rfl, Nat.le_of_ble_eq_true rfl⟩) (g_preV hK hP (q0 := 16) (ci := 5) (q := (RX5, TX5, 1)) rfl rfl) rfl rfl hl.1 rfl (lv_room (Nat.le_of_ble_eq_true rfl)) dX0_valueWithout_12 ⟨Nat.zero_le _, Nat.zero_le _⟩) ?_
  refine lv_istore_n (lv' := [(2, .int (rAt 12 (r 10) (rAt 200 (r 7) x1))), (0, .ref (z 3)), (1, .int x1)]) hx hb dX0_valueWithout_15 rfl hl (by decide) rfl (fun ls hl => ?_)
  refine lv_iload_n hx hb dX0_valueWithout_16 rfl (lv_at hl 0 rfl) ?_
  refine lv_iload_n hx hb dX0_valueWithout_17 rfl (lv_at hl 2 rfl) ?_
  refine g_join m 33 4 [(2, .int (rAt 12 (r 10) (rAt 200 (r 7) x1))), (0, .ref (z 3)), (1, .int x1)] [.int (cOther r x1)] (fun ls hl => ?_) (fun hJ33 => ?_)
  · refine lv_istore_n (lv' := [(3, .int (cOther r x1)), (2, .int (rAt 12 (r 10) (rAt 200 (r 7) x1))), (0, .ref (z 3)), (1, .int x1)]) hx hb dX0_valueWithout_33 rfl hl (by decide) rfl (fun ls hl => ?_)
    refine lv_iload_n hx hb dX0_valueWithout_34 rfl (lv_at hl 0 rfl) ?_
    refine lv_iconst (v := (-1)) hx hb dX0_valueWithout_35 (by decide +kernel) ?_
    refine lv_icmp_ne (tgt := 43) hx hb dX0_valueWithout_36 (by decide) (fun c_1 => ?_) (fun c_1 => ?_)
    · refine lv_aload_n hx hb dX0_valueWithout_43 rfl (lv_at hl 2 rfl) ?_
      refine va_get (D := G.1) (ci := 0) (v := .ref (z 14)) (C := RX0) (T := TX0) (N := 7) hx hb hts hinX0 hown hK.1 hP 3 rfl rfl 3 (by decide) (hts (.fieldLink RX0 26 "Rotaforge$ChangeLog" "values" "LRotaforge$Row;") (by decide +kernel)) (fun _ h9 => h9) rfl dX0_valueWithout_44 ?_
      refine lv_iload_n hx hb dX0_valueWithout_47 rfl (lv_at hl 0 rfl) ?_
      refine g_callC (W.runV (C := RX5) (As := [.int (cOther r x1)]) (rest := []) S0 (c_X5_at l G _ (z 14) (z 36) 200 (r 8) (by decide) (hP.sub (ws' := wRow1 G (z 14) (z 36) 200 (r 8)) [14, 36] rfl) (cOther r x1)) (cwV 1 hts gX0_valueWithout_X5_at rfl rfl rfl (by decide +kernel) ⟨Nat.le_of_ble_eq_true rfl, Nat.le_of_ble_eq_true rfl⟩) (g_preV hK hP (q0 := 14) (ci := 5) (q := (RX5, TX5, 1)) rfl rfl) rfl rfl hl.1 rfl (lv_room (Nat.le_of_ble_eq_true rfl)) dX0_valueWithout_48 ⟨Nat.zero_le _, Nat.zero_le _⟩) ?_
      have hq : (rAt 200 (r 8) (cOther r x1)) = (cWithout r x1) := by
        first | with_reducible rfl | with_reducible exact nI_add _ _ | (simp only [cWithout, c_1, ↓reduceIte, Bool.false_eq_true, decide_true, decide_false, Bool.not_true, Bool.not_false, Bool.or_true, Bool.true_or, Bool.or_false, Bool.false_or]; done) | (simp only [cWithout, c_1, ↓reduceIte, Bool.false_eq_true, decide_true, decide_false, Bool.not_true, Bool.not_false, Bool.or_true, Bool.true_or, Bool.or_false, Bool.false_or]; with_reducible rfl) | (simp only [cWithout, c_1, ↓reduceIte, Bool.false_eq_true, decide_true, decide_false, Bool.not_true, Bool.not_false, Bool.or_true, Bool.true_or, Bool.or_false, Bool.false_or]; rfl) | (simp [b2i, cWithout, c_1]; done) | rfl
      exact W.iret (v := rAt 200 (r 8) (cOther r x1)) hx hb hr (fun t ht _ => g_ret hq ht) g_no dX0_valueWithout_51
    · refine lv_iconst (v := nI 0) hx hb dX0_valueWithout_39 (by decide +kernel) ?_
      refine lv_goto (tgt := 51) hx hb dX0_valueWithout_40 (by decide) ?_
      have hq : (nI 0) = (cWithout r x1) := by
        first | with_reducible rfl | with_reducible exact nI_add _ _ | (simp only [cWithout, c_1, ↓reduceIte, Bool.false_eq_true, decide_true, decide_false, Bool.not_true, Bool.not_false, Bool.or_true, Bool.true_or, Bool.or_false, Bool.false_or]; done) | (simp only [cWithout, c_1, ↓reduceIte, Bool.false_eq_true, decide_true, decide_false, Bool.not_true, Bool.not_false, Bool.or_true, Bool.true_or, Bool.or_false, Bool.false_or]; with_reducible rfl) | (simp only [cWithout, c_1, ↓reduceIte, Bool.false_eq_true, decide_true, decide_false, Bool.not_true, Bool.not_false, Bool.or_true, Bool.true_or, Bool.or_false, Bool.false_or]; rfl) | (simp [b2i, cWithout, c_1]; done) | rfl
      exact W.iret (v := nI 0) hx hb hr (fun t ht _ => g_ret hq ht) g_no dX0_valueWithout_51
  · refine lv_icmp_ne (tgt := 32) hx hb dX0_valueWithout_18 (by decide) (fun c_2 => ?_) (fun c_2 => ?_)
    · refine lv_iload_n hx hb dX0_valueWithout_32 rfl (lv_at hl 0 rfl) ?_
      refine W.eq (g2 := F0 m 33 ls [.int (cOther r x1)]) (g_st (gs_i (show rAt 12 (r 10) (rAt 200 (r 7) x1) = cOther r x1 by simp [cOther, c_2]) rfl)) ?_
      exact hJ33 _ (show lv_has ls 4 [(2, .int (rAt 12 (r 10) (rAt 200 (r 7) x1))), (0, .ref (z 3)), (1, .int x1)] from lv_sub hl [0, 1, 2] rfl)
    · refine lv_aload_n hx hb dX0_valueWithout_21 rfl (lv_at hl 1 rfl) ?_
      refine va_get (D := G.1) (ci := 0) (v := .ref (z 15)) (C := RX0) (T := TX0) (N := 7) hx hb hts hinX0 hown hK.1 hP 3 rfl rfl 4 (by decide) (hts (.fieldLink RX0 29 "Rotaforge$ChangeLog" "earlier" "LRotaforge$Row;") (by decide +kernel)) (fun _ h9 => h9) rfl dX0_valueWithout_22 ?_
      refine lv_iload_n hx hb dX0_valueWithout_25 rfl (lv_at hl 2 rfl) ?_
      refine g_callC (W.runV (C := RX5) (As := [.int x1]) (rest := []) S0 (c_X5_at l G _ (z 15) (z 37) 200 (r 9) (by decide) (hP.sub (ws' := wRow1 G (z 15) (z 37) 200 (r 9)) [15, 37] rfl) x1) (cwV 1 hts gX0_valueWithout_X5_at rfl rfl rfl (by decide +kernel) ⟨Nat.le_of_ble_eq_true rfl, Nat.le_of_ble_eq_true rfl⟩) (g_preV hK hP (q0 := 15) (ci := 5) (q := (RX5, TX5, 1)) rfl rfl) rfl rfl hl.1 rfl (lv_room (Nat.le_of_ble_eq_true rfl)) dX0_valueWithout_26 ⟨Nat.zero_le _, Nat.zero_le _⟩) ?_
      refine lv_goto (tgt := 33) hx hb dX0_valueWithout_29 (by decide) ?_
      refine W.eq (g2 := F0 m 33 ls [.int (cOther r x1)]) (g_st (gs_i (show rAt 200 (r 9) x1 = cOther r x1 by simp [cOther, c_2]) rfl)) ?_
      exact hJ33 _ (show lv_has ls 4 [(2, .int (rAt 12 (r 10) (rAt 200 (r 7) x1))), (0, .ref (z 3)), (1, .int x1)] from lv_sub hl [0, 1, 2] rfl)

set_option maxHeartbeats 4000000 in
set_option maxRecDepth 100000 in
theorem c_X2_total (l : Launch) (G : gG) (H0 : Heap) (z : Nat → Nat) (r : Nat → Nat → Int32) (f : Nat → Int32) (hP : va_P G.1 vwCl (wRF G z r f) H0) : gMr l yX2_total wsX2_total 0 0 G H0 [.ref (z 4)] (f 4) := by
  refine Met.ofW (cc := cX2_total) (maxL := 1) (ret := (some .int)) (by decide) rfl ?_
  intro p_ e_ s m args below meth c s₁ B hml hv
  obtain ⟨rfl, rfl, hK⟩ := hv
  have hx := B.exec
  have hb := B.bytes
  have hr := B.returns
  have hts := atoms_spec (ws := wsX2_total) B.pre
  have hown : s.vm.findClass RX2 = some m.cls := findClass_of_methodNamed B.named
  have hlocks := B.notSynchronized
  have hinX2 : ∀ w ∈ wsX20, w ∈ wsX2_total := by decide +kernel
  have S0 : CallFix p_ m c cX2_total 1 s _ wsX2_total RX2 := ⟨hx, hb, hml, hown, hts⟩
  have hl := lv_entry ([.ref (z 4)]) (n := 1) (Nat.le_of_ble_eq_true rfl)
  rw [lg_entry_eq]
  generalize (lg_sl ([.ref (z 4)]) ++ List.replicate (1 - (lg_sl ([.ref (z 4)])).length) Slot.unset).toArray = ls at hl ⊢
  have hl : lv_has ls 1 [(0, .ref (z 4))] := hl
  refine lv_aload_n hx hb dX2_total_0 rfl (lv_at hl 0 rfl) ?_
  refine va_get (D := G.1) (ci := 2) (v := .int (f 4)) (C := RX2) (T := TX2) (N := 7) hx hb hts hinX2 hown hK.1 hP 4 rfl rfl 6 (by decide) (hts (.fieldLink RX2 35 "Rotaforge$IncidentLog" "count" "I") (by decide +kernel)) (fun _ h9 => h9) rfl dX2_total_1 ?_
  have hq : (f 4) = (f 4) := by
    first | with_reducible rfl | with_reducible exact nI_add _ _ | (simp only [true_and, ↓reduceIte, Bool.false_eq_true, decide_true, decide_false, Bool.not_true, Bool.not_false, Bool.or_true, Bool.true_or, Bool.or_false, Bool.false_or]; done) | (simp only [true_and, ↓reduceIte, Bool.false_eq_true, decide_true, decide_false, Bool.not_true, Bool.not_false, Bool.or_true, Bool.true_or, Bool.or_false, Bool.false_or]; with_reducible rfl) | (simp only [true_and, ↓reduceIte, Bool.false_eq_true, decide_true, decide_false, Bool.not_true, Bool.not_false, Bool.or_true, Bool.true_or, Bool.or_false, Bool.false_or]; rfl) | (simp [b2i, true_and]; done) | rfl
  exact W.iret (v := (f 4)) hx hb hr (fun t ht _ => g_ret hq ht) g_no dX2_total_4

set_option maxHeartbeats 4000000 in
set_option maxRecDepth 100000 in
theorem c_X2_ringOf (l : Launch) (G : gG) (H0 : Heap) (z : Nat → Nat) (r : Nat → Nat → Int32) (f : Nat → Int32) (hP : va_P G.1 vwCl (wRF G z r f) H0) (x1 : Int32) : gMr l yX2_ringOf wsX2_ringOf 1 21 G H0 [.ref (z 4), .int x1] (rAt 200 (r 11) x1) := by
  refine Met.ofW (cc := cX2_ringOf) (maxL := 2) (ret := (some .int)) (by decide) rfl ?_
  intro p_ e_ s m args below meth c s₁ B hml hv
  obtain ⟨rfl, rfl, hK⟩ := hv
  have hx := B.exec
  have hb := B.bytes
  have hr := B.returns
  have hts := atoms_spec (ws := wsX2_ringOf) B.pre
  have hown : s.vm.findClass RX2 = some m.cls := findClass_of_methodNamed B.named
  have hlocks := B.notSynchronized
  have hinX2 : ∀ w ∈ wsX20, w ∈ wsX2_ringOf := by decide +kernel
  have S0 : CallFix p_ m c cX2_ringOf 2 s _ wsX2_ringOf RX2 := ⟨hx, hb, hml, hown, hts⟩
  have hl := lv_entry ([.ref (z 4), .int x1]) (n := 2) (Nat.le_of_ble_eq_true rfl)
  rw [lg_entry_eq]
  generalize (lg_sl ([.ref (z 4), .int x1]) ++ List.replicate (2 - (lg_sl ([.ref (z 4), .int x1])).length) Slot.unset).toArray = ls at hl ⊢
  have hl : lv_has ls 2 [(0, .ref (z 4)), (1, .int x1)] := hl
  refine lv_aload_n hx hb dX2_ringOf_0 rfl (lv_at hl 0 rfl) ?_
  refine va_get (D := G.1) (ci := 2) (v := .ref (z 17)) (C := RX2) (T := TX2) (N := 7) hx hb hts hinX2 hown hK.1 hP 4 rfl rfl 0 (by decide) (hts (.fieldLink RX2 14 "Rotaforge$IncidentLog" "rings" "LRotaforge$Row;") (by decide +kernel)) (fun _ h9 => h9) rfl dX2_ringOf_1 ?_
  refine lv_iload_n hx hb dX2_ringOf_4 rfl (lv_at hl 1 rfl) ?_
  refine g_callC (W.runV (C := RX5) (As := [.int x1]) (rest := []) S0 (c_X5_at l G _ (z 17) (z 39) 200 (r 11) (by decide) (hP.sub (ws' := wRow1 G (z 17) (z 39) 200 (r 11)) [17, 39] rfl) x1) (cwV 1 hts gX2_ringOf_X5_at rfl rfl rfl (by decide +kernel) ⟨Nat.le_of_ble_eq_true rfl, Nat.le_of_ble_eq_true rfl⟩) (g_preV hK hP (q0 := 17) (ci := 5) (q := (RX5, TX5, 1)) rfl rfl) rfl rfl hl.1 rfl (lv_room (Nat.le_of_ble_eq_true rfl)) dX2_ringOf_5 ⟨Nat.zero_le _, Nat.zero_le _⟩) ?_
  have hq : (rAt 200 (r 11) x1) = (rAt 200 (r 11) x1) := by
    first | with_reducible rfl | with_reducible exact nI_add _ _ | (simp only [true_and, ↓reduceIte, Bool.false_eq_true, decide_true, decide_false, Bool.not_true, Bool.not_false, Bool.or_true, Bool.true_or, Bool.or_false, Bool.false_or]; done) | (simp only [true_and, ↓reduceIte, Bool.false_eq_true, decide_true, decide_false, Bool.not_true, Bool.not_false, Bool.or_true, Bool.true_or, Bool.or_false, Bool.false_or]; with_reducible rfl) | (simp only [true_and, ↓reduceIte, Bool.false_eq_true, decide_true, decide_false, Bool.not_true, Bool.not_false, Bool.or_true, Bool.true_or, Bool.or_false, Bool.false_or]; rfl) | (simp [b2i, true_and]; done) | rfl
  exact W.iret (v := rAt 200 (r 11) x1) hx hb hr (fun t ht _ => g_ret hq ht) g_no dX2_ringOf_8

set_option maxHeartbeats 4000000 in
set_option maxRecDepth 100000 in
theorem c_X2_startOf (l : Launch) (G : gG) (H0 : Heap) (z : Nat → Nat) (r : Nat → Nat → Int32) (f : Nat → Int32) (hP : va_P G.1 vwCl (wRF G z r f) H0) (x1 : Int32) : gMr l yX2_startOf wsX2_startOf 1 21 G H0 [.ref (z 4), .int x1] (rAt 200 (r 12) x1) := by
  refine Met.ofW (cc := cX2_startOf) (maxL := 2) (ret := (some .int)) (by decide) rfl ?_
  intro p_ e_ s m args below meth c s₁ B hml hv
  obtain ⟨rfl, rfl, hK⟩ := hv
  have hx := B.exec
  have hb := B.bytes
  have hr := B.returns
  have hts := atoms_spec (ws := wsX2_startOf) B.pre
  have hown : s.vm.findClass RX2 = some m.cls := findClass_of_methodNamed B.named
  have hlocks := B.notSynchronized
  have hinX2 : ∀ w ∈ wsX20, w ∈ wsX2_startOf := by decide +kernel
  have S0 : CallFix p_ m c cX2_startOf 2 s _ wsX2_startOf RX2 := ⟨hx, hb, hml, hown, hts⟩
  have hl := lv_entry ([.ref (z 4), .int x1]) (n := 2) (Nat.le_of_ble_eq_true rfl)
  rw [lg_entry_eq]
  generalize (lg_sl ([.ref (z 4), .int x1]) ++ List.replicate (2 - (lg_sl ([.ref (z 4), .int x1])).length) Slot.unset).toArray = ls at hl ⊢
  have hl : lv_has ls 2 [(0, .ref (z 4)), (1, .int x1)] := hl
  refine lv_aload_n hx hb dX2_startOf_0 rfl (lv_at hl 0 rfl) ?_
  refine va_get (D := G.1) (ci := 2) (v := .ref (z 18)) (C := RX2) (T := TX2) (N := 7) hx hb hts hinX2 hown hK.1 hP 4 rfl rfl 1 (by decide) (hts (.fieldLink RX2 20 "Rotaforge$IncidentLog" "starts" "LRotaforge$Row;") (by decide +kernel)) (fun _ h9 => h9) rfl dX2_startOf_1 ?_
  refine lv_iload_n hx hb dX2_startOf_4 rfl (lv_at hl 1 rfl) ?_
  refine g_callC (W.runV (C := RX5) (As := [.int x1]) (rest := []) S0 (c_X5_at l G _ (z 18) (z 40) 200 (r 12) (by decide) (hP.sub (ws' := wRow1 G (z 18) (z 40) 200 (r 12)) [18, 40] rfl) x1) (cwV 1 hts gX2_startOf_X5_at rfl rfl rfl (by decide +kernel) ⟨Nat.le_of_ble_eq_true rfl, Nat.le_of_ble_eq_true rfl⟩) (g_preV hK hP (q0 := 18) (ci := 5) (q := (RX5, TX5, 1)) rfl rfl) rfl rfl hl.1 rfl (lv_room (Nat.le_of_ble_eq_true rfl)) dX2_startOf_5 ⟨Nat.zero_le _, Nat.zero_le _⟩) ?_
  have hq : (rAt 200 (r 12) x1) = (rAt 200 (r 12) x1) := by
    first | with_reducible rfl | with_reducible exact nI_add _ _ | (simp only [true_and, ↓reduceIte, Bool.false_eq_true, decide_true, decide_false, Bool.not_true, Bool.not_false, Bool.or_true, Bool.true_or, Bool.or_false, Bool.false_or]; done) | (simp only [true_and, ↓reduceIte, Bool.false_eq_true, decide_true, decide_false, Bool.not_true, Bool.not_false, Bool.or_true, Bool.true_or, Bool.or_false, Bool.false_or]; with_reducible rfl) | (simp only [true_and, ↓reduceIte, Bool.false_eq_true, decide_true, decide_false, Bool.not_true, Bool.not_false, Bool.or_true, Bool.true_or, Bool.or_false, Bool.false_or]; rfl) | (simp [b2i, true_and]; done) | rfl
  exact W.iret (v := rAt 200 (r 12) x1) hx hb hr (fun t ht _ => g_ret hq ht) g_no dX2_startOf_8

set_option maxHeartbeats 4000000 in
set_option maxRecDepth 100000 in
theorem c_X2_endOf (l : Launch) (G : gG) (H0 : Heap) (z : Nat → Nat) (r : Nat → Nat → Int32) (f : Nat → Int32) (hP : va_P G.1 vwCl (wRF G z r f) H0) (x1 : Int32) : gMr l yX2_endOf wsX2_endOf 1 21 G H0 [.ref (z 4), .int x1] (rAt 200 (r 13) x1) := by
  refine Met.ofW (cc := cX2_endOf) (maxL := 2) (ret := (some .int)) (by decide) rfl ?_
  intro p_ e_ s m args below meth c s₁ B hml hv
  obtain ⟨rfl, rfl, hK⟩ := hv
  have hx := B.exec
  have hb := B.bytes
  have hr := B.returns
  have hts := atoms_spec (ws := wsX2_endOf) B.pre
  have hown : s.vm.findClass RX2 = some m.cls := findClass_of_methodNamed B.named
  have hlocks := B.notSynchronized
  have hinX2 : ∀ w ∈ wsX20, w ∈ wsX2_endOf := by decide +kernel
  have S0 : CallFix p_ m c cX2_endOf 2 s _ wsX2_endOf RX2 := ⟨hx, hb, hml, hown, hts⟩
  have hl := lv_entry ([.ref (z 4), .int x1]) (n := 2) (Nat.le_of_ble_eq_true rfl)
  rw [lg_entry_eq]
  generalize (lg_sl ([.ref (z 4), .int x1]) ++ List.replicate (2 - (lg_sl ([.ref (z 4), .int x1])).length) Slot.unset).toArray = ls at hl ⊢
  have hl : lv_has ls 2 [(0, .ref (z 4)), (1, .int x1)] := hl
  refine lv_aload_n hx hb dX2_endOf_0 rfl (lv_at hl 0 rfl) ?_
  refine va_get (D := G.1) (ci := 2) (v := .ref (z 19)) (C := RX2) (T := TX2) (N := 7) hx hb hts hinX2 hown hK.1 hP 4 rfl rfl 2 (by decide) (hts (.fieldLink RX2 23 "Rotaforge$IncidentLog" "ends" "LRotaforge$Row;") (by decide +kernel)) (fun _ h9 => h9) rfl dX2_endOf_1 ?_
  refine lv_iload_n hx hb dX2_endOf_4 rfl (lv_at hl 1 rfl) ?_
  refine g_callC (W.runV (C := RX5) (As := [.int x1]) (rest := []) S0 (c_X5_at l G _ (z 19) (z 41) 200 (r 13) (by decide) (hP.sub (ws' := wRow1 G (z 19) (z 41) 200 (r 13)) [19, 41] rfl) x1) (cwV 1 hts gX2_endOf_X5_at rfl rfl rfl (by decide +kernel) ⟨Nat.le_of_ble_eq_true rfl, Nat.le_of_ble_eq_true rfl⟩) (g_preV hK hP (q0 := 19) (ci := 5) (q := (RX5, TX5, 1)) rfl rfl) rfl rfl hl.1 rfl (lv_room (Nat.le_of_ble_eq_true rfl)) dX2_endOf_5 ⟨Nat.zero_le _, Nat.zero_le _⟩) ?_
  have hq : (rAt 200 (r 13) x1) = (rAt 200 (r 13) x1) := by
    first | with_reducible rfl | with_reducible exact nI_add _ _ | (simp only [true_and, ↓reduceIte, Bool.false_eq_true, decide_true, decide_false, Bool.not_true, Bool.not_false, Bool.or_true, Bool.true_or, Bool.or_false, Bool.false_or]; done) | (simp only [true_and, ↓reduceIte, Bool.false_eq_true, decide_true, decide_false, Bool.not_true, Bool.not_false, Bool.or_true, Bool.true_or, Bool.or_false, Bool.false_or]; with_reducible rfl) | (simp only [true_and, ↓reduceIte, Bool.false_eq_true, decide_true, decide_false, Bool.not_true, Bool.not_false, Bool.or_true, Bool.true_or, Bool.or_false, Bool.false_or]; rfl) | (simp [b2i, true_and]; done) | rfl
  exact W.iret (v := rAt 200 (r 13) x1) hx hb hr (fun t ht _ => g_ret hq ht) g_no dX2_endOf_8

set_option maxHeartbeats 4000000 in
set_option maxRecDepth 100000 in
theorem c_X2_openOf (l : Launch) (G : gG) (H0 : Heap) (z : Nat → Nat) (r : Nat → Nat → Int32) (f : Nat → Int32) (hP : va_P G.1 vwCl (wRF G z r f) H0) (x1 : Int32) : gMr l yX2_openOf wsX2_openOf 1 21 G H0 [.ref (z 4), .int x1] (rAt 4 (r 16) x1) := by
  refine Met.ofW (cc := cX2_openOf) (maxL := 2) (ret := (some .int)) (by decide) rfl ?_
  intro p_ e_ s m args below meth c s₁ B hml hv
  obtain ⟨rfl, rfl, hK⟩ := hv
  have hx := B.exec
  have hb := B.bytes
  have hr := B.returns
  have hts := atoms_spec (ws := wsX2_openOf) B.pre
  have hown : s.vm.findClass RX2 = some m.cls := findClass_of_methodNamed B.named
  have hlocks := B.notSynchronized
  have hinX2 : ∀ w ∈ wsX20, w ∈ wsX2_openOf := by decide +kernel
  have S0 : CallFix p_ m c cX2_openOf 2 s _ wsX2_openOf RX2 := ⟨hx, hb, hml, hown, hts⟩
  have hl := lv_entry ([.ref (z 4), .int x1]) (n := 2) (Nat.le_of_ble_eq_true rfl)
  rw [lg_entry_eq]
  generalize (lg_sl ([.ref (z 4), .int x1]) ++ List.replicate (2 - (lg_sl ([.ref (z 4), .int x1])).length) Slot.unset).toArray = ls at hl ⊢
  have hl : lv_has ls 2 [(0, .ref (z 4)), (1, .int x1)] := hl
  refine lv_aload_n hx hb dX2_openOf_0 rfl (lv_at hl 0 rfl) ?_
  refine va_get (D := G.1) (ci := 2) (v := .ref (z 22)) (C := RX2) (T := TX2) (N := 7) hx hb hts hinX2 hown hK.1 hP 4 rfl rfl 5 (by decide) (hts (.fieldLink RX2 32 "Rotaforge$IncidentLog" "openByRing" "LRotaforge$Row;") (by decide +kernel)) (fun _ h9 => h9) rfl dX2_openOf_1 ?_
  refine lv_iload_n hx hb dX2_openOf_4 rfl (lv_at hl 1 rfl) ?_
  refine g_callC (W.runV (C := RX5) (As := [.int x1]) (rest := []) S0 (c_X5_at l G _ (z 22) (z 44) 4 (r 16) (by decide) (hP.sub (ws' := wRow1 G (z 22) (z 44) 4 (r 16)) [22, 44] rfl) x1) (cwV 1 hts gX2_openOf_X5_at rfl rfl rfl (by decide +kernel) ⟨Nat.le_of_ble_eq_true rfl, Nat.le_of_ble_eq_true rfl⟩) (g_preV hK hP (q0 := 22) (ci := 5) (q := (RX5, TX5, 1)) rfl rfl) rfl rfl hl.1 rfl (lv_room (Nat.le_of_ble_eq_true rfl)) dX2_openOf_5 ⟨Nat.zero_le _, Nat.zero_le _⟩) ?_
  have hq : (rAt 4 (r 16) x1) = (rAt 4 (r 16) x1) := by
    first | with_reducible rfl | with_reducible exact nI_add _ _ | (simp only [true_and, ↓reduceIte, Bool.false_eq_true, decide_true, decide_false, Bool.not_true, Bool.not_false, Bool.or_true, Bool.true_or, Bool.or_false, Bool.false_or]; done) | (simp only [true_and, ↓reduceIte, Bool.false_eq_true, decide_true, decide_false, Bool.not_true, Bool.not_false, Bool.or_true, Bool.true_or, Bool.or_false, Bool.false_or]; with_reducible rfl) | (simp only [true_and, ↓reduceIte, Bool.false_eq_true, decide_true, decide_false, Bool.not_true, Bool.not_false, Bool.or_true, Bool.true_or, Bool.or_false, Bool.false_or]; rfl) | (simp [b2i, true_and]; done) | rfl
  exact W.iret (v := rAt 4 (r 16) x1) hx hb hr (fun t ht _ => g_ret hq ht) g_no dX2_openOf_8

set_option maxHeartbeats 4000000 in
set_option maxRecDepth 100000 in
theorem c_X2_anyOpenBelow (l : Launch) (G : gG) (H0 : Heap) (z : Nat → Nat) (r : Nat → Nat → Int32) (f : Nat → Int32) (hP : va_P G.1 vwCl (wRF G z r f) H0) (x1 : Int32) (n : Nat) (hn1 : x1 = nI n) (hn2 : n < 100) : gMr l yX2_anyOpenBelow wsX2_anyOpenBelow 1 21 G H0 [.ref (z 4), .int x1] (b2i (cAnyOpen r n)) := by
  refine Met.ofW (cc := cX2_anyOpenBelow) (maxL := 3) (ret := (some .boolean)) (by decide) rfl ?_
  intro p_ e_ s m args below meth c s₁ B hml hv
  obtain ⟨rfl, rfl, hK⟩ := hv
  have hx := B.exec
  have hb := B.bytes
  have hr := B.returns
  have hts := atoms_spec (ws := wsX2_anyOpenBelow) B.pre
  have hown : s.vm.findClass RX2 = some m.cls := findClass_of_methodNamed B.named
  have hlocks := B.notSynchronized
  have hinX2 : ∀ w ∈ wsX20, w ∈ wsX2_anyOpenBelow := by decide +kernel
  have S0 : CallFix p_ m c cX2_anyOpenBelow 3 s _ wsX2_anyOpenBelow RX2 := ⟨hx, hb, hml, hown, hts⟩
  have hl := lv_entry ([.ref (z 4), .int x1]) (n := 3) (Nat.le_of_ble_eq_true rfl)
  rw [lg_entry_eq]
  generalize (lg_sl ([.ref (z 4), .int x1]) ++ List.replicate (3 - (lg_sl ([.ref (z 4), .int x1])).length) Slot.unset).toArray = ls at hl ⊢
  have hl : lv_has ls 3 [(0, .ref (z 4)), (1, .int x1)] := hl
  subst hn1
  refine lv_iconst (v := nI 0) hx hb dX2_anyOpenBelow_0 (by decide +kernel) ?_
  refine lv_istore_n (lv' := [(2, .int (nI 0)), (0, .ref (z 4)), (1, .int (nI n))]) hx hb dX2_anyOpenBelow_1 rfl hl (by decide) rfl (fun ls hl => ?_)
  refine g_loop _ m 2 3 [] (n) (fun i => [(2, .int (nI i)), (0, .ref (z 4)), (1, .int (nI n))]) (fun i => ∀ j, j < i → (!decide (rAt 4 (r 16) (nI j) = -1)) = false) (fun i hi2 hI ih2 ls hl => ?_) 0 (Nat.zero_le _) (by exact lt_0) ls ?_
  · have hl : lv_has ls 3 [(2, .int (nI i)), (0, .ref (z 4)), (1, .int (nI n))] := hl
    have hI : ∀ j, j < i → (!decide (rAt 4 (r 16) (nI j) = -1)) = false := hI
    refine lv_iload_n hx hb dX2_anyOpenBelow_2 rfl (lv_at hl 0 rfl) ?_
    refine lv_iload_n hx hb dX2_anyOpenBelow_3 rfl (lv_at hl 2 rfl) ?_
    refine lv_icmp_ge (tgt := 27) hx hb dX2_anyOpenBelow_4 (by decide) (fun c_1 => ?_) (fun c_1 => ?_)
    · have hex : n = i := by
        have h9 := (nI_leI (a := n) (b := i) (by omega) (by omega)).mp c_1
        omega
      subst hex
      refine lv_iconst (v := nI 0) hx hb dX2_anyOpenBelow_27 (by decide +kernel) ?_
      have hq : (nI 0) = (b2i (cAnyOpen r n)) := by
        rw [cAnyOpen, anyN_f hI]; rfl
      exact W.zret (v := nI 0) hx hb hr (z_nar hq) (fun t ht _ => g_ret hq ht) g_no dX2_anyOpenBelow_28
    · have hlt : i < n := by
        have h9 := mt (nI_leI (a := n) (b := i) (by omega) (by omega)).mpr c_1
        omega
      refine lv_aload_n hx hb dX2_anyOpenBelow_7 rfl (lv_at hl 1 rfl) ?_
      refine va_get (D := G.1) (ci := 2) (v := .ref (z 22)) (C := RX2) (T := TX2) (N := 7) hx hb hts hinX2 hown hK.1 hP 4 rfl rfl 5 (by decide) (hts (.fieldLink RX2 32 "Rotaforge$IncidentLog" "openByRing" "LRotaforge$Row;") (by decide +kernel)) (fun _ h9 => h9) rfl dX2_anyOpenBelow_8 ?_
      refine lv_iload_n hx hb dX2_anyOpenBelow_11 rfl (lv_at hl 0 rfl) ?_
      refine g_callC (W.runV (C := RX5) (As := [.int (nI i)]) (rest := []) S0 (c_X5_at l G _ (z 22) (z 44) 4 (r 16) (by decide) (hP.sub (ws' := wRow1 G (z 22) (z 44) 4 (r 16)) [22, 44] rfl) (nI i)) (cwV 1 hts gX2_anyOpenBelow_X5_at rfl rfl rfl (by decide +kernel) ⟨Nat.le_of_ble_eq_true rfl, Nat.le_of_ble_eq_true rfl⟩) (g_preV hK hP (q0 := 22) (ci := 5) (q := (RX5, TX5, 1)) rfl rfl) rfl rfl hl.1 rfl (lv_room (Nat.le_of_ble_eq_true rfl)) dX2_anyOpenBelow_12 ⟨Nat.zero_le _, Nat.zero_le _⟩) ?_
      refine lv_iconst (v := (-1)) hx hb dX2_anyOpenBelow_15 (by decide +kernel) ?_
      refine lv_icmp_eq (tgt := 21) hx hb dX2_anyOpenBelow_16 (by decide) (fun c_2 => ?_) (fun c_2 => ?_)
      · refine lv_iinc (v := (nI i) + nI 1) (lv' := [(2, .int ((nI i) + nI 1)), (0, .ref (z 4)), (1, .int (nI n))]) hx hb dX2_anyOpenBelow_21 hl (k := 0) rfl (congrArg (fun q : Int32 => (nI i) + q) (by decide +kernel)) (by decide) rfl (fun ls hl => ?_)
        refine lv_goto (tgt := 2) hx hb dX2_anyOpenBelow_24 (by decide) ?_
        exact ih2 _ (by omega) (by exact lt_s hI (by simp [c_1, c_2])) (lv_cv (show lv_has ls 3 [(2, .int ((nI i) + nI 1)), (0, .ref (z 4)), (1, .int (nI n))] from lv_sub hl [0, 1, 2] rfl) (gl_i (show (nI i) + nI 1 = nI (i + 1) by first | with_reducible rfl | with_reducible exact nI_add _ _ | (simp only [itN_s i, c_1, c_2, ↓reduceIte, Bool.false_eq_true, decide_true, decide_false, Bool.not_true, Bool.not_false, Bool.or_true, Bool.true_or, Bool.or_false, Bool.false_or]; done) | (simp only [itN_s i, c_1, c_2, ↓reduceIte, Bool.false_eq_true, decide_true, decide_false, Bool.not_true, Bool.not_false, Bool.or_true, Bool.true_or, Bool.or_false, Bool.false_or]; with_reducible rfl) | (simp only [itN_s i, c_1, c_2, ↓reduceIte, Bool.false_eq_true, decide_true, decide_false, Bool.not_true, Bool.not_false, Bool.or_true, Bool.true_or, Bool.or_false, Bool.false_or]; rfl) | (simp [b2i, itN_s i, c_1, c_2]; done) | rfl) (gl_s (gl_s rfl))))
      · refine lv_iconst (v := nI 1) hx hb dX2_anyOpenBelow_19 (by decide +kernel) ?_
        have hq : (nI 1) = (b2i (cAnyOpen r n)) := by
          have h9 : (!decide (rAt 4 (r 16) (nI i) = -1)) = true := by simp [c_1, c_2]
          rw [cAnyOpen, anyN_t hlt h9]; rfl
        exact W.zret (v := nI 1) hx hb hr (z_nar hq) (fun t ht _ => g_ret hq ht) g_no dX2_anyOpenBelow_20
  · exact (show lv_has ls 3 [(2, .int (nI 0)), (0, .ref (z 4)), (1, .int (nI n))] from lv_sub hl [0, 1, 2] rfl)
