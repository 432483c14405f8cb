set_option maxHeartbeats 4000000 in
set_option maxRecDepth 100000 in
theorem c_X7_time (l : Launch) (G : gG) (H0 : Heap) (z : Nat → Nat) (hz : gDis z 20) (r : Nat → Nat → Int32) (f : Nat → Int32) (hP : va_P G.1 vwCl (wRM G z r f) H0) (n d k t : Nat) (hM : mOK r f n d k t) : gMw l yX7_time wsX7_time 0 0 G H0 [.ref (z 0)] (f 1) (wRM G z r (upF f 0 (nI 0))) (gF z 20) := by
  refine Met.ofW (cc := cX7_time) (maxL := 1) (ret := (some .int)) (by decide) rfl ?_
  intro p_ e_ s m args below meth c s₁ B hml hv
  obtain ⟨rfl, rfl, hK⟩ := hv
  have hx := B.exec
  have hb := B.bytes
  have hr := B.returns
  have hts := atoms_spec (ws := wsX7_time) B.pre
  have hown : s.vm.findClass RX7 = some m.cls := findClass_of_methodNamed B.named
  have hlocks := B.notSynchronized
  have hinX7 : ∀ w ∈ wsX70, w ∈ wsX7_time := by decide +kernel
  have S0 : CallFix p_ m c cX7_time 1 s _ wsX7_time RX7 := ⟨hx, hb, hml, hown, hts⟩
  have hD : va_D (gF z 20) (wRM G z r f) := gD_RM hz
  have hS : va_S (gF z 20) s.heap s.heap [] := va_S.rf
  have hl := lv_entry ([.ref (z 0)]) (n := 1) (Nat.le_of_ble_eq_true rfl)
  rw [lg_entry_eq]
  generalize (lg_sl ([.ref (z 0)]) ++ List.replicate (1 - (lg_sl ([.ref (z 0)])).length) Slot.unset).toArray = ls at hl ⊢
  have hl : lv_has ls 1 [(0, .ref (z 0))] := hl
  obtain ⟨hn, hn2, hd, hd2, hk, hk2, ht, ht2, hh, hm⟩ := id hM
  refine lv_aload_n hx hb dX7_time_0 rfl (lv_at hl 0 rfl) ?_
  refine lv_iconst (v := nI 0) hx hb dX7_time_1 (by decide +kernel) ?_
  refine va_put (D := G.1) (ci := 7) (v := .int (nI 0)) (ty := .int) (C := RX7) (T := TX7) (N := 26) hx hb hts hinX7 tyX7 tyX7_ok nmX7 hown hK.1 hP hD hS 0 rfl rfl 0 (by decide) (hts (.fieldLink RX7 72 "RotaforgeModel" "thrown" "I") (by decide +kernel)) (fun _ h9 => h9) rfl (by decide +kernel) rfl rfl (Nat.le_of_ble_eq_true rfl) dX7_time_2 (fun H locs hP hD hS => ?_)
  have hP : va_P G.1 vwCl (wRM G z r (upF f 0 (nI 0))) H := gMs_0 hP
  have hD : va_D (gF z 20) (wRM G z r (upF f 0 (nI 0))) := gD_RM hz
  refine lv_aload_n hx hb dX7_time_5 rfl (lv_at hl 0 rfl) ?_
  refine va_get (D := G.1) (ci := 7) (v := .int (f 1)) (C := RX7) (T := TX7) (N := 26) hx hb hts hinX7 hown hK.1 hP 0 rfl rfl 1 (by decide) (hts (.fieldLink RX7 120 "RotaforgeModel" "time" "I") (by decide +kernel)) (fun _ h9 => h9) rfl dX7_time_6 ?_
  have hq : (f 1) = (f 1) := by
    first | with_reducible rfl | with_reducible exact nI_add _ _ | (simp only [true_and, ↓reduceIte, Bool.false_eq_true, decide_true, decide_false, Bool.not_true, Bool.not_false, Bool.or_true, Bool.true_or, Bool.or_false, Bool.false_or]; done) | (simp only [true_and, ↓reduceIte, Bool.false_eq_true, decide_true, decide_false, Bool.not_true, Bool.not_false, Bool.or_true, Bool.true_or, Bool.or_false, Bool.false_or]; with_reducible rfl) | (simp only [true_and, ↓reduceIte, Bool.false_eq_true, decide_true, decide_false, Bool.not_true, Bool.not_false, Bool.or_true, Bool.true_or, Bool.or_false, Bool.false_or]; rfl) | (simp [b2i, true_and]; done) | rfl
  have hPf : va_P G.1 vwCl (wRM G z r (upF f 0 (nI 0))) H := by
    have e1 : r = r := by first | with_reducible rfl | (simp only [true_and, ↓reduceIte, Bool.false_eq_true]; done) | (simp only [true_and, ↓reduceIte, Bool.false_eq_true]; rfl) | rfl
    have e2 : upF f 0 (nI 0) = upF f 0 (nI 0) := by first | with_reducible rfl | (simp only [true_and, ↓reduceIte, Bool.false_eq_true]; done) | (simp only [true_and, ↓reduceIte, Bool.false_eq_true]; rfl) | rfl
    rw [e1, e2]; exact hP
  exact W.iret (v := (f 1)) hx hb hr (fun t ht _ => ⟨⟨_, (), rfl, hq, g_hp ht hPf⟩, hS.F ht⟩) hS.2.2 dX7_time_9

set_option maxHeartbeats 4000000 in
set_option maxRecDepth 100000 in
theorem c_X7_missed (l : Launch) (G : gG) (H0 : Heap) (z : Nat → Nat) (hz : gDis z 20) (r : Nat → Nat → Int32) (f : Nat → Int32) (hP : va_P G.1 vwCl (wRM G z r f) H0) (n d k t : Nat) (hM : mOK r f n d k t) : gMw l yX7_missed wsX7_missed 0 0 G H0 [.ref (z 0)] (f 5) (wRM G z r (upF f 0 (nI 0))) (gF z 20) := by
  refine Met.ofW (cc := cX7_missed) (maxL := 1) (ret := (some .int)) (by decide) rfl ?_
  intro p_ e_ s m args below meth c s₁ B hml hv
  obtain ⟨rfl, rfl, hK⟩ := hv
  have hx := B.exec
  have hb := B.bytes
  have hr := B.returns
  have hts := atoms_spec (ws := wsX7_missed) B.pre
  have hown : s.vm.findClass RX7 = some m.cls := findClass_of_methodNamed B.named
  have hlocks := B.notSynchronized
  have hinX7 : ∀ w ∈ wsX70, w ∈ wsX7_missed := by decide +kernel
  have S0 : CallFix p_ m c cX7_missed 1 s _ wsX7_missed RX7 := ⟨hx, hb, hml, hown, hts⟩
  have hD : va_D (gF z 20) (wRM G z r f) := gD_RM hz
  have hS : va_S (gF z 20) s.heap s.heap [] := va_S.rf
  have hl := lv_entry ([.ref (z 0)]) (n := 1) (Nat.le_of_ble_eq_true rfl)
  rw [lg_entry_eq]
  generalize (lg_sl ([.ref (z 0)]) ++ List.replicate (1 - (lg_sl ([.ref (z 0)])).length) Slot.unset).toArray = ls at hl ⊢
  have hl : lv_has ls 1 [(0, .ref (z 0))] := hl
  obtain ⟨hn, hn2, hd, hd2, hk, hk2, ht, ht2, hh, hm⟩ := id hM
  refine lv_aload_n hx hb dX7_missed_0 rfl (lv_at hl 0 rfl) ?_
  refine lv_iconst (v := nI 0) hx hb dX7_missed_1 (by decide +kernel) ?_
  refine va_put (D := G.1) (ci := 7) (v := .int (nI 0)) (ty := .int) (C := RX7) (T := TX7) (N := 26) hx hb hts hinX7 tyX7 tyX7_ok nmX7 hown hK.1 hP hD hS 0 rfl rfl 0 (by decide) (hts (.fieldLink RX7 72 "RotaforgeModel" "thrown" "I") (by decide +kernel)) (fun _ h9 => h9) rfl (by decide +kernel) rfl rfl (Nat.le_of_ble_eq_true rfl) dX7_missed_2 (fun H locs hP hD hS => ?_)
  have hP : va_P G.1 vwCl (wRM G z r (upF f 0 (nI 0))) H := gMs_0 hP
  have hD : va_D (gF z 20) (wRM G z r (upF f 0 (nI 0))) := gD_RM hz
  refine lv_aload_n hx hb dX7_missed_5 rfl (lv_at hl 0 rfl) ?_
  refine va_get (D := G.1) (ci := 7) (v := .int (f 5)) (C := RX7) (T := TX7) (N := 26) hx hb hts hinX7 hown hK.1 hP 0 rfl rfl 19 (by decide) (hts (.fieldLink RX7 155 "RotaforgeModel" "missed" "I") (by decide +kernel)) (fun _ h9 => h9) rfl dX7_missed_6 ?_
  have hq : (f 5) = (f 5) := by
    first | with_reducible rfl | with_reducible exact nI_add _ _ | (simp only [true_and, ↓reduceIte, Bool.false_eq_true, decide_true, decide_false, Bool.not_true, Bool.not_false, Bool.or_true, Bool.true_or, Bool.or_false, Bool.false_or]; done) | (simp only [true_and, ↓reduceIte, Bool.false_eq_true, decide_true, decide_false, Bool.not_true, Bool.not_false, Bool.or_true, Bool.true_or, Bool.or_false, Bool.false_or]; with_reducible rfl) | (simp only [true_and, ↓reduceIte, Bool.false_eq_true, decide_true, decide_false, Bool.not_true, Bool.not_false, Bool.or_true, Bool.true_or, Bool.or_false, Bool.false_or]; rfl) | (simp [b2i, true_and]; done) | rfl
  have hPf : va_P G.1 vwCl (wRM G z r (upF f 0 (nI 0))) H := by
    have e1 : r = r := by first | with_reducible rfl | (simp only [true_and, ↓reduceIte, Bool.false_eq_true]; done) | (simp only [true_and, ↓reduceIte, Bool.false_eq_true]; rfl) | rfl
    have e2 : upF f 0 (nI 0) = upF f 0 (nI 0) := by first | with_reducible rfl | (simp only [true_and, ↓reduceIte, Bool.false_eq_true]; done) | (simp only [true_and, ↓reduceIte, Bool.false_eq_true]; rfl) | rfl
    rw [e1, e2]; exact hP
  exact W.iret (v := (f 5)) hx hb hr (fun t ht _ => ⟨⟨_, (), rfl, hq, g_hp ht hPf⟩, hS.F ht⟩) hS.2.2 dX7_missed_9

set_option maxHeartbeats 4000000 in
set_option maxRecDepth 100000 in
theorem c_X7_versions (l : Launch) (G : gG) (H0 : Heap) (z : Nat → Nat) (hz : gDis z 20) (r : Nat → Nat → Int32) (f : Nat → Int32) (hP : va_P G.1 vwCl (wRM G z r f) H0) (n d k t : Nat) (hM : mOK r f n d k t) : gMw l yX7_versions wsX7_versions 0 0 G H0 [.ref (z 0)] (f 2) (wRM G z r (upF f 0 (nI 0))) (gF z 20) := by
  refine Met.ofW (cc := cX7_versions) (maxL := 1) (ret := (some .int)) (by decide) rfl ?_
  intro p_ e_ s m args below meth c s₁ B hml hv
  obtain ⟨rfl, rfl, hK⟩ := hv
  have hx := B.exec
  have hb := B.bytes
  have hr := B.returns
  have hts := atoms_spec (ws := wsX7_versions) B.pre
  have hown : s.vm.findClass RX7 = some m.cls := findClass_of_methodNamed B.named
  have hlocks := B.notSynchronized
  have hinX7 : ∀ w ∈ wsX70, w ∈ wsX7_versions := by decide +kernel
  have S0 : CallFix p_ m c cX7_versions 1 s _ wsX7_versions RX7 := ⟨hx, hb, hml, hown, hts⟩
  have hD : va_D (gF z 20) (wRM G z r f) := gD_RM hz
  have hS : va_S (gF z 20) s.heap s.heap [] := va_S.rf
  have hl := lv_entry ([.ref (z 0)]) (n := 1) (Nat.le_of_ble_eq_true rfl)
  rw [lg_entry_eq]
  generalize (lg_sl ([.ref (z 0)]) ++ List.replicate (1 - (lg_sl ([.ref (z 0)])).length) Slot.unset).toArray = ls at hl ⊢
  have hl : lv_has ls 1 [(0, .ref (z 0))] := hl
  obtain ⟨hn, hn2, hd, hd2, hk, hk2, ht, ht2, hh, hm⟩ := id hM
  refine lv_aload_n hx hb dX7_versions_0 rfl (lv_at hl 0 rfl) ?_
  refine lv_iconst (v := nI 0) hx hb dX7_versions_1 (by decide +kernel) ?_
  refine va_put (D := G.1) (ci := 7) (v := .int (nI 0)) (ty := .int) (C := RX7) (T := TX7) (N := 26) hx hb hts hinX7 tyX7 tyX7_ok nmX7 hown hK.1 hP hD hS 0 rfl rfl 0 (by decide) (hts (.fieldLink RX7 72 "RotaforgeModel" "thrown" "I") (by decide +kernel)) (fun _ h9 => h9) rfl (by decide +kernel) rfl rfl (Nat.le_of_ble_eq_true rfl) dX7_versions_2 (fun H locs hP hD hS => ?_)
  have hP : va_P G.1 vwCl (wRM G z r (upF f 0 (nI 0))) H := gMs_0 hP
  have hD : va_D (gF z 20) (wRM G z r (upF f 0 (nI 0))) := gD_RM hz
  refine lv_aload_n hx hb dX7_versions_5 rfl (lv_at hl 0 rfl) ?_
  refine va_get (D := G.1) (ci := 7) (v := .int (f 2)) (C := RX7) (T := TX7) (N := 26) hx hb hts hinX7 hown hK.1 hP 0 rfl rfl 2 (by decide) (hts (.fieldLink RX7 7 "RotaforgeModel" "versionMany" "I") (by decide +kernel)) (fun _ h9 => h9) rfl dX7_versions_6 ?_
  have hq : (f 2) = (f 2) := by
    first | with_reducible rfl | with_reducible exact nI_add _ _ | (simp only [true_and, ↓reduceIte, Bool.false_eq_true, decide_true, decide_false, Bool.not_true, Bool.not_false, Bool.or_true, Bool.true_or, Bool.or_false, Bool.false_or]; done) | (simp only [true_and, ↓reduceIte, Bool.false_eq_true, decide_true, decide_false, Bool.not_true, Bool.not_false, Bool.or_true, Bool.true_or, Bool.or_false, Bool.false_or]; with_reducible rfl) | (simp only [true_and, ↓reduceIte, Bool.false_eq_true, decide_true, decide_false, Bool.not_true, Bool.not_false, Bool.or_true, Bool.true_or, Bool.or_false, Bool.false_or]; rfl) | (simp [b2i, true_and]; done) | rfl
  have hPf : va_P G.1 vwCl (wRM G z r (upF f 0 (nI 0))) H := by
    have e1 : r = r := by first | with_reducible rfl | (simp only [true_and, ↓reduceIte, Bool.false_eq_true]; done) | (simp only [true_and, ↓reduceIte, Bool.false_eq_true]; rfl) | rfl
    have e2 : upF f 0 (nI 0) = upF f 0 (nI 0) := by first | with_reducible rfl | (simp only [true_and, ↓reduceIte, Bool.false_eq_true]; done) | (simp only [true_and, ↓reduceIte, Bool.false_eq_true]; rfl) | rfl
    rw [e1, e2]; exact hP
  exact W.iret (v := (f 2)) hx hb hr (fun t ht _ => ⟨⟨_, (), rfl, hq, g_hp ht hPf⟩, hS.F ht⟩) hS.2.2 dX7_versions_9

set_option maxHeartbeats 4000000 in
set_option maxRecDepth 100000 in
theorem c_X7_changes (l : Launch) (G : gG) (H0 : Heap) (z : Nat → Nat) (hz : gDis z 20) (r : Nat → Nat → Int32) (f : Nat → Int32) (hP : va_P G.1 vwCl (wRM G z r f) H0) (n d k t : Nat) (hM : mOK r f n d k t) : gMw l yX7_changes wsX7_changes 0 0 G H0 [.ref (z 0)] (f 4) (wRM G z r (upF f 0 (nI 0))) (gF z 20) := by
  refine Met.ofW (cc := cX7_changes) (maxL := 1) (ret := (some .int)) (by decide) rfl ?_
  intro p_ e_ s m args below meth c s₁ B hml hv
  obtain ⟨rfl, rfl, hK⟩ := hv
  have hx := B.exec
  have hb := B.bytes
  have hr := B.returns
  have hts := atoms_spec (ws := wsX7_changes) B.pre
  have hown : s.vm.findClass RX7 = some m.cls := findClass_of_methodNamed B.named
  have hlocks := B.notSynchronized
  have hinX7 : ∀ w ∈ wsX70, w ∈ wsX7_changes := by decide +kernel
  have S0 : CallFix p_ m c cX7_changes 1 s _ wsX7_changes RX7 := ⟨hx, hb, hml, hown, hts⟩
  have hD : va_D (gF z 20) (wRM G z r f) := gD_RM hz
  have hS : va_S (gF z 20) s.heap s.heap [] := va_S.rf
  have hl := lv_entry ([.ref (z 0)]) (n := 1) (Nat.le_of_ble_eq_true rfl)
  rw [lg_entry_eq]
  generalize (lg_sl ([.ref (z 0)]) ++ List.replicate (1 - (lg_sl ([.ref (z 0)])).length) Slot.unset).toArray = ls at hl ⊢
  have hl : lv_has ls 1 [(0, .ref (z 0))] := hl
  obtain ⟨hn, hn2, hd, hd2, hk, hk2, ht, ht2, hh, hm⟩ := id hM
  refine lv_aload_n hx hb dX7_changes_0 rfl (lv_at hl 0 rfl) ?_
  refine lv_iconst (v := nI 0) hx hb dX7_changes_1 (by decide +kernel) ?_
  refine va_put (D := G.1) (ci := 7) (v := .int (nI 0)) (ty := .int) (C := RX7) (T := TX7) (N := 26) hx hb hts hinX7 tyX7 tyX7_ok nmX7 hown hK.1 hP hD hS 0 rfl rfl 0 (by decide) (hts (.fieldLink RX7 72 "RotaforgeModel" "thrown" "I") (by decide +kernel)) (fun _ h9 => h9) rfl (by decide +kernel) rfl rfl (Nat.le_of_ble_eq_true rfl) dX7_changes_2 (fun H locs hP hD hS => ?_)
  have hP : va_P G.1 vwCl (wRM G z r (upF f 0 (nI 0))) H := gMs_0 hP
  have hD : va_D (gF z 20) (wRM G z r (upF f 0 (nI 0))) := gD_RM hz
  refine lv_aload_n hx hb dX7_changes_5 rfl (lv_at hl 0 rfl) ?_
  refine va_get (D := G.1) (ci := 7) (v := .int (f 4)) (C := RX7) (T := TX7) (N := 26) hx hb hts hinX7 hown hK.1 hP 0 rfl rfl 8 (by decide) (hts (.fieldLink RX7 79 "RotaforgeModel" "changeMany" "I") (by decide +kernel)) (fun _ h9 => h9) rfl dX7_changes_6 ?_
  have hq : (f 4) = (f 4) := by
    first | with_reducible rfl | with_reducible exact nI_add _ _ | (simp only [true_and, ↓reduceIte, Bool.false_eq_true, decide_true, decide_false, Bool.not_true, Bool.not_false, Bool.or_true, Bool.true_or, Bool.or_false, Bool.false_or]; done) | (simp only [true_and, ↓reduceIte, Bool.false_eq_true, decide_true, decide_false, Bool.not_true, Bool.not_false, Bool.or_true, Bool.true_or, Bool.or_false, Bool.false_or]; with_reducible rfl) | (simp only [true_and, ↓reduceIte, Bool.false_eq_true, decide_true, decide_false, Bool.not_true, Bool.not_false, Bool.or_true, Bool.true_or, Bool.or_false, Bool.false_or]; rfl) | (simp [b2i, true_and]; done) | rfl
  have hPf : va_P G.1 vwCl (wRM G z r (upF f 0 (nI 0))) H := by
    have e1 : r = r := by first | with_reducible rfl | (simp only [true_and, ↓reduceIte, Bool.false_eq_true]; done) | (simp only [true_and, ↓reduceIte, Bool.false_eq_true]; rfl) | rfl
    have e2 : upF f 0 (nI 0) = upF f 0 (nI 0) := by first | with_reducible rfl | (simp only [true_and, ↓reduceIte, Bool.false_eq_true]; done) | (simp only [true_and, ↓reduceIte, Bool.false_eq_true]; rfl) | rfl
    rw [e1, e2]; exact hP
  exact W.iret (v := (f 4)) hx hb hr (fun t ht _ => ⟨⟨_, (), rfl, hq, g_hp ht hPf⟩, hS.F ht⟩) hS.2.2 dX7_changes_9

set_option maxHeartbeats 4000000 in
set_option maxRecDepth 100000 in
theorem c_X7_incidents (l : Launch) (G : gG) (H0 : Heap) (z : Nat → Nat) (hz : gDis z 20) (r : Nat → Nat → Int32) (f : Nat → Int32) (hP : va_P G.1 vwCl (wRM G z r f) H0) (n d k t : Nat) (hM : mOK r f n d k t) : gMw l yX7_incidents wsX7_incidents 0 0 G H0 [.ref (z 0)] (f 6) (wRM G z r (upF f 0 (nI 0))) (gF z 20) := by
  refine Met.ofW (cc := cX7_incidents) (maxL := 1) (ret := (some .int)) (by decide) rfl ?_
  intro p_ e_ s m args below meth c s₁ B hml hv
  obtain ⟨rfl, rfl, hK⟩ := hv
  have hx := B.exec
  have hb := B.bytes
  have hr := B.returns
  have hts := atoms_spec (ws := wsX7_incidents) B.pre
  have hown : s.vm.findClass RX7 = some m.cls := findClass_of_methodNamed B.named
  have hlocks := B.notSynchronized
  have hinX7 : ∀ w ∈ wsX70, w ∈ wsX7_incidents := by decide +kernel
  have S0 : CallFix p_ m c cX7_incidents 1 s _ wsX7_incidents RX7 := ⟨hx, hb, hml, hown, hts⟩
  have hD : va_D (gF z 20) (wRM G z r f) := gD_RM hz
  have hS : va_S (gF z 20) s.heap s.heap [] := va_S.rf
  have hl := lv_entry ([.ref (z 0)]) (n := 1) (Nat.le_of_ble_eq_true rfl)
  rw [lg_entry_eq]
  generalize (lg_sl ([.ref (z 0)]) ++ List.replicate (1 - (lg_sl ([.ref (z 0)])).length) Slot.unset).toArray = ls at hl ⊢
  have hl : lv_has ls 1 [(0, .ref (z 0))] := hl
  obtain ⟨hn, hn2, hd, hd2, hk, hk2, ht, ht2, hh, hm⟩ := id hM
  refine lv_aload_n hx hb dX7_incidents_0 rfl (lv_at hl 0 rfl) ?_
  refine lv_iconst (v := nI 0) hx hb dX7_incidents_1 (by decide +kernel) ?_
  refine va_put (D := G.1) (ci := 7) (v := .int (nI 0)) (ty := .int) (C := RX7) (T := TX7) (N := 26) hx hb hts hinX7 tyX7 tyX7_ok nmX7 hown hK.1 hP hD hS 0 rfl rfl 0 (by decide) (hts (.fieldLink RX7 72 "RotaforgeModel" "thrown" "I") (by decide +kernel)) (fun _ h9 => h9) rfl (by decide +kernel) rfl rfl (Nat.le_of_ble_eq_true rfl) dX7_incidents_2 (fun H locs hP hD hS => ?_)
  have hP : va_P G.1 vwCl (wRM G z r (upF f 0 (nI 0))) H := gMs_0 hP
  have hD : va_D (gF z 20) (wRM G z r (upF f 0 (nI 0))) := gD_RM hz
  refine lv_aload_n hx hb dX7_incidents_5 rfl (lv_at hl 0 rfl) ?_
  refine va_get (D := G.1) (ci := 7) (v := .int (f 6)) (C := RX7) (T := TX7) (N := 26) hx hb hts hinX7 hown hK.1 hP 0 rfl rfl 20 (by decide) (hts (.fieldLink RX7 82 "RotaforgeModel" "incidentMany" "I") (by decide +kernel)) (fun _ h9 => h9) rfl dX7_incidents_6 ?_
  have hq : (f 6) = (f 6) := by
    first | with_reducible rfl | with_reducible exact nI_add _ _ | (simp only [true_and, ↓reduceIte, Bool.false_eq_true, decide_true, decide_false, Bool.not_true, Bool.not_false, Bool.or_true, Bool.true_or, Bool.or_false, Bool.false_or]; done) | (simp only [true_and, ↓reduceIte, Bool.false_eq_true, decide_true, decide_false, Bool.not_true, Bool.not_false, Bool.or_true, Bool.true_or, Bool.or_false, Bool.false_or]; with_reducible rfl) | (simp only [true_and, ↓reduceIte, Bool.false_eq_true, decide_true, decide_false, Bool.not_true, Bool.not_false, Bool.or_true, Bool.true_or, Bool.or_false, Bool.false_or]; rfl) | (simp [b2i, true_and]; done) | rfl
  have hPf : va_P G.1 vwCl (wRM G z r (upF f 0 (nI 0))) H := by
    have e1 : r = r := by first | with_reducible rfl | (simp only [true_and, ↓reduceIte, Bool.false_eq_true]; done) | (simp only [true_and, ↓reduceIte, Bool.false_eq_true]; rfl) | rfl
    have e2 : upF f 0 (nI 0) = upF f 0 (nI 0) := by first | with_reducible rfl | (simp only [true_and, ↓reduceIte, Bool.false_eq_true]; done) | (simp only [true_and, ↓reduceIte, Bool.false_eq_true]; rfl) | rfl
    rw [e1, e2]; exact hP
  exact W.iret (v := (f 6)) hx hb hr (fun t ht _ => ⟨⟨_, (), rfl, hq, g_hp ht hPf⟩, hS.F ht⟩) hS.2.2 dX7_incidents_9

set_option maxHeartbeats 4000000 in
set_option maxRecDepth 100000 in
theorem c_X7_onCall (l : Launch) (G : gG) (H0 : Heap) (z : Nat → Nat) (hz : gDis z 20) (r : Nat → Nat → Int32) (f : Nat → Int32) (hP : va_P G.1 vwCl (wRM G z r f) H0) (n d k t : Nat) (hM : mOK r f n d k t) : gMw l yX7_onCall wsX7_onCall 2 43 G H0 [.ref (z 0)] (mCalled r f t (r 9 (t / 14)).toNatClampNeg) (wRM G z r (upF f 0 (nI 0))) (gF z 20) := by
  refine Met.ofW (cc := cX7_onCall) (maxL := 1) (ret := (some .int)) (by decide) rfl ?_
  intro p_ e_ s m args below meth c s₁ B hml hv
  obtain ⟨rfl, rfl, hK⟩ := hv
  have hx := B.exec
  have hb := B.bytes
  have hr := B.returns
  have hts := atoms_spec (ws := wsX7_onCall) B.pre
  have hown : s.vm.findClass RX7 = some m.cls := findClass_of_methodNamed B.named
  have hlocks := B.notSynchronized
  have hinX7 : ∀ w ∈ wsX70, w ∈ wsX7_onCall := by decide +kernel
  have S0 : CallFix p_ m c cX7_onCall 1 s _ wsX7_onCall RX7 := ⟨hx, hb, hml, hown, hts⟩
  have hD : va_D (gF z 20) (wRM G z r f) := gD_RM hz
  have hS : va_S (gF z 20) s.heap s.heap [] := va_S.rf
  have hl := lv_entry ([.ref (z 0)]) (n := 1) (Nat.le_of_ble_eq_true rfl)
  rw [lg_entry_eq]
  generalize (lg_sl ([.ref (z 0)]) ++ List.replicate (1 - (lg_sl ([.ref (z 0)])).length) Slot.unset).toArray = ls at hl ⊢
  have hl : lv_has ls 1 [(0, .ref (z 0))] := hl
  obtain ⟨hn, hn2, hd, hd2, hk, hk2, ht, ht2, hh, hm⟩ := id hM
  obtain ⟨h, hw1, hw2⟩ := hh (t / 14) (by omega)
  have hh7 : r 9 (t / 14) = nI (r 9 (t / 14)).toNatClampNeg := (n_tn hw2 (by omega)).1
  have hh6 : (r 9 (t / 14)).toNatClampNeg < 6 := by rw [(n_tn hw2 (by omega)).2]; exact hw1
  refine lv_aload_n hx hb dX7_onCall_0 rfl (lv_at hl 0 rfl) ?_
  refine lv_iconst (v := nI 0) hx hb dX7_onCall_1 (by decide +kernel) ?_
  refine va_put (D := G.1) (ci := 7) (v := .int (nI 0)) (ty := .int) (C := RX7) (T := TX7) (N := 26) hx hb hts hinX7 tyX7 tyX7_ok nmX7 hown hK.1 hP hD hS 0 rfl rfl 0 (by decide) (hts (.fieldLink RX7 72 "RotaforgeModel" "thrown" "I") (by decide +kernel)) (fun _ h9 => h9) rfl (by decide +kernel) rfl rfl (Nat.le_of_ble_eq_true rfl) dX7_onCall_2 (fun H locs hP hD hS => ?_)
  have hP : va_P G.1 vwCl (wRM G z r (upF f 0 (nI 0))) H := gMs_0 hP
  have hD : va_D (gF z 20) (wRM G z r (upF f 0 (nI 0))) := gD_RM hz
  refine lv_aload_n hx hb dX7_onCall_5 rfl (lv_at hl 0 rfl) ?_
  refine g_callC (r := (mCalled r f t ((r 9 (t / 14)).toNatClampNeg))) (W.runV (C := RX7) (As := []) (rest := []) S0 (c_X7_called l G _ z r (upF f 0 (nI 0)) hP n d k t (r 9 (t / 14)).toNatClampNeg hM hh7 hh6) (cwV 0 hts gX7_onCall_X7_called rfl rfl rfl (by decide +kernel) ⟨Nat.le_of_ble_eq_true rfl, Nat.le_of_ble_eq_true rfl⟩) (g_preV hK hP (q0 := 0) (ci := 7) (q := (RX7, TX7, 26)) rfl rfl) rfl rfl hl.1 rfl (lv_room (Nat.le_of_ble_eq_true rfl)) dX7_onCall_6 ⟨Nat.zero_le _, Nat.zero_le _⟩) ?_
  have hq : (mCalled r f t ((r 9 (t / 14)).toNatClampNeg)) = (mCalled r f t (r 9 (t / 14)).toNatClampNeg) := by
    first | with_reducible rfl | with_reducible exact nI_add _ _ | (simp only [true_and, ↓reduceIte, Bool.false_eq_true, decide_true, decide_false, Bool.not_true, Bool.not_false, Bool.or_true, Bool.true_or, Bool.or_false, Bool.false_or]; done) | (simp only [true_and, ↓reduceIte, Bool.false_eq_true, decide_true, decide_false, Bool.not_true, Bool.not_false, Bool.or_true, Bool.true_or, Bool.or_false, Bool.false_or]; with_reducible rfl) | (simp only [true_and, ↓reduceIte, Bool.false_eq_true, decide_true, decide_false, Bool.not_true, Bool.not_false, Bool.or_true, Bool.true_or, Bool.or_false, Bool.false_or]; rfl) | (simp [b2i, true_and]; done) | rfl
  have hPf : va_P G.1 vwCl (wRM G z r (upF f 0 (nI 0))) H := by
    have e1 : r = r := by first | with_reducible rfl | (simp only [true_and, ↓reduceIte, Bool.false_eq_true]; done) | (simp only [true_and, ↓reduceIte, Bool.false_eq_true]; rfl) | rfl
    have e2 : upF f 0 (nI 0) = upF f 0 (nI 0) := by first | with_reducible rfl | (simp only [true_and, ↓reduceIte, Bool.false_eq_true]; done) | (simp only [true_and, ↓reduceIte, Bool.false_eq_true]; rfl) | rfl
    rw [e1, e2]; exact hP
  exact W.iret (v := mCalled r f t ((r 9 (t / 14)).toNatClampNeg)) hx hb hr (fun t ht _ => ⟨⟨_, (), rfl, hq, g_hp ht hPf⟩, hS.F ht⟩) hS.2.2 dX7_onCall_9

set_option maxHeartbeats 4000000 in
set_option maxRecDepth 100000 in
theorem c_X7_holder (l : Launch) (G : gG) (H0 : Heap) (z : Nat → Nat) (hz : gDis z 20) (r : Nat → Nat → Int32) (f : Nat → Int32) (hP : va_P G.1 vwCl (wRM G z r f) H0) (x1 : Int32) (n d k t : Nat) (hM : mOK r f n d k t) : gMw l yX7_holder wsX7_holder 1 22 G H0 [.ref (z 0), .int x1] (if mIn x1 (nI 0) (f 1 / nI 14 + nI 1) then r 9 (cN x1) else nI 0) (wRM G z r (upF f 0 (if mIn x1 (nI 0) (f 1 / nI 14 + nI 1) then nI 0 else nI 1))) (gF z 20) := by
  refine Met.ofW (cc := cX7_holder) (maxL := 2) (ret := (some .int)) (by decide) rfl ?_
  intro p_ e_ s m args below meth c s₁ B hml hv
  obtain ⟨rfl, rfl, hK⟩ := hv
  have hx := B.exec
  have hb := B.bytes
  have hr := B.returns
  have hts := atoms_spec (ws := wsX7_holder) B.pre
  have hown : s.vm.findClass RX7 = some m.cls := findClass_of_methodNamed B.named
  have hlocks := B.notSynchronized
  have hinX7 : ∀ w ∈ wsX70, w ∈ wsX7_holder := by decide +kernel
  have S0 : CallFix p_ m c cX7_holder 2 s _ wsX7_holder RX7 := ⟨hx, hb, hml, hown, hts⟩
  have hD : va_D (gF z 20) (wRM G z r f) := gD_RM hz
  have hS : va_S (gF z 20) s.heap s.heap [] := va_S.rf
  have hl := lv_entry ([.ref (z 0), .int x1]) (n := 2) (Nat.le_of_ble_eq_true rfl)
  rw [lg_entry_eq]
  generalize (lg_sl ([.ref (z 0), .int x1]) ++ List.replicate (2 - (lg_sl ([.ref (z 0), .int x1])).length) Slot.unset).toArray = ls at hl ⊢
  have hl : lv_has ls 2 [(0, .ref (z 0)), (1, .int x1)] := hl
  obtain ⟨hn, hn2, hd, hd2, hk, hk2, ht, ht2, hh, hm⟩ := id hM
  have hw9 : f 1 / nI 14 + nI 1 = nI (t / 14 + 1) := by rw [ht, pk_div (by omega) (by decide) (by decide)]; exact nI_add _ _
  refine lv_aload_n hx hb dX7_holder_0 rfl (lv_at hl 0 rfl) ?_
  refine lv_iconst (v := nI 0) hx hb dX7_holder_1 (by decide +kernel) ?_
  refine va_put (D := G.1) (ci := 7) (v := .int (nI 0)) (ty := .int) (C := RX7) (T := TX7) (N := 26) hx hb hts hinX7 tyX7 tyX7_ok nmX7 hown hK.1 hP hD hS 0 rfl rfl 0 (by decide) (hts (.fieldLink RX7 72 "RotaforgeModel" "thrown" "I") (by decide +kernel)) (fun _ h9 => h9) rfl (by decide +kernel) rfl rfl (Nat.le_of_ble_eq_true rfl) dX7_holder_2 (fun H locs hP hD hS => ?_)
  have hP : va_P G.1 vwCl (wRM G z r (upF f 0 (nI 0))) H := gMs_0 hP
  have hD : va_D (gF z 20) (wRM G z r (upF f 0 (nI 0))) := gD_RM hz
  refine lv_iload_n hx hb dX7_holder_5 rfl (lv_at hl 1 rfl) ?_
  refine lv_iconst (v := nI 0) hx hb dX7_holder_6 (by decide +kernel) ?_
  refine lv_aload_n hx hb dX7_holder_7 rfl (lv_at hl 0 rfl) ?_
  refine va_get (D := G.1) (ci := 7) (v := .int (f 1)) (C := RX7) (T := TX7) (N := 26) hx hb hts hinX7 hown hK.1 hP 0 rfl rfl 1 (by decide) (hts (.fieldLink RX7 120 "RotaforgeModel" "time" "I") (by decide +kernel)) (fun _ h9 => h9) rfl dX7_holder_8 ?_
  refine lv_bipush (v := nI 14) hx hb dX7_holder_11 (by decide +kernel) ?_
  refine lv_idiv hx hb dX7_holder_13 (by decide) ?_
  refine lv_iconst (v := nI 1) hx hb dX7_holder_14 (by decide +kernel) ?_
  refine lv_iadd hx hb dX7_holder_15 ?_
  refine g_callC (W.runS (As := [.int x1, .int (nI 0), .int (((f 1) / (nI 14)) + (nI 1))]) (rest := []) S0 (c_X7_in l G _ x1 (nI 0) (((f 1) / (nI 14)) + (nI 1))) (va_cwS 3 hts gX7_holder_X7_in rfl rfl rfl (by decide +kernel) ⟨Nat.le_of_ble_eq_true rfl, Nat.le_of_ble_eq_true rfl⟩) (g_preS hK) rfl rfl hl.1 rfl (lv_room (Nat.le_of_ble_eq_true rfl)) dX7_holder_16 ⟨Nat.zero_le _, Nat.zero_le _⟩) ?_
  refine lv_if_eq (tgt := 31) hx hb dX7_holder_19 (by decide) (fun c_1 => ?_) (fun c_1 => ?_)
  · have c_1 := b2i_f c_1
    refine lv_aload_n hx hb dX7_holder_31 rfl (lv_at hl 0 rfl) ?_
    refine lv_iconst (v := nI 1) hx hb dX7_holder_32 (by decide +kernel) ?_
    refine g_callw (va_runV (C := RX7) (As := [.int (nI 1)]) (rest := []) S0 (c_X7_fails l G _ z hz r (upF f 0 (nI 0)) hP (nI 1)) (cwV 1 hts gX7_holder_X7_fails rfl rfl rfl (by decide +kernel) ⟨Nat.le_of_ble_eq_true rfl, Nat.le_of_ble_eq_true rfl⟩) (g_preV hK hP (q0 := 0) (ci := 7) (q := (RX7, TX7, 26)) rfl rfl) rfl rfl hl.1 rfl (lv_room (Nat.le_of_ble_eq_true rfl)) dX7_holder_33 ⟨Nat.zero_le _, Nat.zero_le _⟩) hS (fun _ h => h) (fun _ h => h) (fun H locs hP _ hS => ?_)
    have hP : va_P G.1 vwCl (wRM G z r (upF (upF f 0 (nI 0)) 0 (nI 1))) H := hP
    have hD : va_D (gF z 20) (wRM G z r (upF (upF f 0 (nI 0)) 0 (nI 1))) := gD_RM hz
    have hq : (nI 0) = (if mIn x1 (nI 0) (f 1 / nI 14 + nI 1) then r 9 (cN x1) else nI 0) := by
      first | with_reducible rfl | with_reducible exact nI_add _ _ | (simp only [upF_uu, c_1, ↓reduceIte, Bool.false_eq_true, decide_true, decide_false, Bool.not_true, Bool.not_false, Bool.or_true, Bool.true_or, Bool.or_false, Bool.false_or]; done) | (simp only [upF_uu, c_1, ↓reduceIte, Bool.false_eq_true, decide_true, decide_false, Bool.not_true, Bool.not_false, Bool.or_true, Bool.true_or, Bool.or_false, Bool.false_or]; with_reducible rfl) | (simp only [upF_uu, c_1, ↓reduceIte, Bool.false_eq_true, decide_true, decide_false, Bool.not_true, Bool.not_false, Bool.or_true, Bool.true_or, Bool.or_false, Bool.false_or]; rfl) | (simp [b2i, upF_uu, c_1]; done) | rfl
    have hPf : va_P G.1 vwCl (wRM G z r (upF f 0 (if mIn x1 (nI 0) (f 1 / nI 14 + nI 1) then nI 0 else nI 1))) H := by
      have e1 : r = r := by first | with_reducible rfl | (simp only [upF_uu, c_1, ↓reduceIte, Bool.false_eq_true]; done) | (simp only [upF_uu, c_1, ↓reduceIte, Bool.false_eq_true]; rfl) | rfl
      have e2 : upF f 0 (if mIn x1 (nI 0) (f 1 / nI 14 + nI 1) then nI 0 else nI 1) = upF (upF f 0 (nI 0)) 0 (nI 1) := by first | with_reducible rfl | (simp only [upF_uu, c_1, ↓reduceIte, Bool.false_eq_true]; done) | (simp only [upF_uu, c_1, ↓reduceIte, Bool.false_eq_true]; rfl) | rfl
      rw [e1, e2]; exact hP
    exact W.iret (v := nI 0) hx hb hr (fun t ht _ => ⟨⟨_, (), rfl, hq, g_hp ht hPf⟩, hS.F ht⟩) hS.2.2 dX7_holder_36
  · have c_1 := b2i_t c_1
    refine lv_aload_n hx hb dX7_holder_22 rfl (lv_at hl 0 rfl) ?_
    refine va_get (D := G.1) (ci := 7) (v := .ref (z 10)) (C := RX7) (T := TX7) (N := 26) hx hb hts hinX7 hown hK.1 hP 0 rfl rfl 14 (by decide) (hts (.fieldLink RX7 42 "RotaforgeModel" "holders" "[I") (by decide +kernel)) (fun _ h9 => h9) rfl dX7_holder_23 ?_
    refine lv_iload_n hx hb dX7_holder_26 rfl (lv_at hl 1 rfl) ?_
    refine g_iald hx hb hK.1 hP 10 0 rfl rfl (cN x1) ((mIn_le (by rw [← hw9]; exact c_1) (by omega)).1) (by have h9 := (mIn_le (b := t / 14 + 1) (by rw [← hw9]; exact c_1) (by omega)).2; omega) (by decide) dX7_holder_27 ?_
    refine lv_goto (tgt := 36) hx hb dX7_holder_28 (by decide) ?_
    have hq : ((r 9) (cN x1)) = (if mIn x1 (nI 0) (f 1 / nI 14 + nI 1) then r 9 (cN x1) else nI 0) := by
      first | with_reducible rfl | with_reducible exact nI_add _ _ | (simp only [upF_uu, c_1, ↓reduceIte, Bool.false_eq_true, decide_true, decide_false, Bool.not_true, Bool.not_false, Bool.or_true, Bool.true_or, Bool.or_false, Bool.false_or]; done) | (simp only [upF_uu, c_1, ↓reduceIte, Bool.false_eq_true, decide_true, decide_false, Bool.not_true, Bool.not_false, Bool.or_true, Bool.true_or, Bool.or_false, Bool.false_or]; with_reducible rfl) | (simp only [upF_uu, c_1, ↓reduceIte, Bool.false_eq_true, decide_true, decide_false, Bool.not_true, Bool.not_false, Bool.or_true, Bool.true_or, Bool.or_false, Bool.false_or]; rfl) | (simp [b2i, upF_uu, c_1]; done) | rfl
    have hPf : va_P G.1 vwCl (wRM G z r (upF f 0 (if mIn x1 (nI 0) (f 1 / nI 14 + nI 1) then nI 0 else nI 1))) H := by
      have e1 : r = r := by first | with_reducible rfl | (simp only [upF_uu, c_1, ↓reduceIte, Bool.false_eq_true]; done) | (simp only [upF_uu, c_1, ↓reduceIte, Bool.false_eq_true]; rfl) | rfl
      have e2 : upF f 0 (if mIn x1 (nI 0) (f 1 / nI 14 + nI 1) then nI 0 else nI 1) = upF f 0 (nI 0) := by first | with_reducible rfl | (simp only [upF_uu, c_1, ↓reduceIte, Bool.false_eq_true]; done) | (simp only [upF_uu, c_1, ↓reduceIte, Bool.false_eq_true]; rfl) | rfl
      rw [e1, e2]; exact hP
    exact W.iret (v := (r 9) (cN x1)) hx hb hr (fun t ht _ => ⟨⟨_, (), rfl, hq, g_hp ht hPf⟩, hS.F ht⟩) hS.2.2 dX7_holder_36

set_option maxHeartbeats 4000000 in
set_option maxRecDepth 100000 in
theorem c_X7_near (l : Launch) (G : gG) (H0 : Heap) (z : Nat → Nat) (hz : gDis z 20) (r : Nat → Nat → Int32) (f : Nat → Int32) (hP : va_P G.1 vwCl (wRM G z r f) H0) (x1 : Int32) (n d k t : Nat) (hM : mOK r f n d k t) : gMw l yX7_near wsX7_near 2 42 G H0 [.ref (z 0), .int x1] (if mIn x1 (nI 0) (nI 5) then mNear r (cN x1) (t / 14 + 2) else nI 0) (wRM G z r (upF f 0 (if mIn x1 (nI 0) (nI 5) then nI 0 else nI 1))) (gF z 20) := by
  refine Met.ofW (cc := cX7_near) (maxL := 2) (ret := (some .int)) (by decide) rfl ?_
  intro p_ e_ s m args below meth c s₁ B hml hv
  obtain ⟨rfl, rfl, hK⟩ := hv
  have hx := B.exec
  have hb := B.bytes
  have hr := B.returns
  have hts := atoms_spec (ws := wsX7_near) B.pre
  have hown : s.vm.findClass RX7 = some m.cls := findClass_of_methodNamed B.named
  have hlocks := B.notSynchronized
  have hinX7 : ∀ w ∈ wsX70, w ∈ wsX7_near := by decide +kernel
  have S0 : CallFix p_ m c cX7_near 2 s _ wsX7_near RX7 := ⟨hx, hb, hml, hown, hts⟩
  have hD : va_D (gF z 20) (wRM G z r f) := gD_RM hz
  have hS : va_S (gF z 20) s.heap s.heap [] := va_S.rf
  have hl := lv_entry ([.ref (z 0), .int x1]) (n := 2) (Nat.le_of_ble_eq_true rfl)
  rw [lg_entry_eq]
  generalize (lg_sl ([.ref (z 0), .int x1]) ++ List.replicate (2 - (lg_sl ([.ref (z 0), .int x1])).length) Slot.unset).toArray = ls at hl ⊢
  have hl : lv_has ls 2 [(0, .ref (z 0)), (1, .int x1)] := hl
  obtain ⟨hn, hn2, hd, hd2, hk, hk2, ht, ht2, hh, hm⟩ := id hM
  refine lv_aload_n hx hb dX7_near_0 rfl (lv_at hl 0 rfl) ?_
  refine lv_iconst (v := nI 0) hx hb dX7_near_1 (by decide +kernel) ?_
  refine va_put (D := G.1) (ci := 7) (v := .int (nI 0)) (ty := .int) (C := RX7) (T := TX7) (N := 26) hx hb hts hinX7 tyX7 tyX7_ok nmX7 hown hK.1 hP hD hS 0 rfl rfl 0 (by decide) (hts (.fieldLink RX7 72 "RotaforgeModel" "thrown" "I") (by decide +kernel)) (fun _ h9 => h9) rfl (by decide +kernel) rfl rfl (Nat.le_of_ble_eq_true rfl) dX7_near_2 (fun H locs hP hD hS => ?_)
  have hP : va_P G.1 vwCl (wRM G z r (upF f 0 (nI 0))) H := gMs_0 hP
  have hD : va_D (gF z 20) (wRM G z r (upF f 0 (nI 0))) := gD_RM hz
  refine lv_iload_n hx hb dX7_near_5 rfl (lv_at hl 1 rfl) ?_
  refine g_callC (W.runS (As := [.int x1]) (rest := []) S0 (c_X7_isPerson l G _ x1) (va_cwS 1 hts gX7_near_X7_isPerson rfl rfl rfl (by decide +kernel) ⟨Nat.le_of_ble_eq_true rfl, Nat.le_of_ble_eq_true rfl⟩) (g_preS hK) rfl rfl hl.1 rfl (lv_room (Nat.le_of_ble_eq_true rfl)) dX7_near_6 ⟨Nat.zero_le _, Nat.zero_le _⟩) ?_
  refine lv_if_eq (tgt := 29) hx hb dX7_near_9 (by decide) (fun c_1 => ?_) (fun c_1 => ?_)
  · have c_1 := b2i_f c_1
    refine lv_aload_n hx hb dX7_near_29 rfl (lv_at hl 0 rfl) ?_
    refine lv_iconst (v := nI 1) hx hb dX7_near_30 (by decide +kernel) ?_
    refine g_callw (va_runV (C := RX7) (As := [.int (nI 1)]) (rest := []) S0 (c_X7_fails l G _ z hz r (upF f 0 (nI 0)) hP (nI 1)) (cwV 1 hts gX7_near_X7_fails rfl rfl rfl (by decide +kernel) ⟨Nat.le_of_ble_eq_true rfl, Nat.le_of_ble_eq_true rfl⟩) (g_preV hK hP (q0 := 0) (ci := 7) (q := (RX7, TX7, 26)) rfl rfl) rfl rfl hl.1 rfl (lv_room (Nat.le_of_ble_eq_true rfl)) dX7_near_31 ⟨Nat.zero_le _, Nat.zero_le _⟩) hS (fun _ h => h) (fun _ h => h) (fun H locs hP _ hS => ?_)
    have hP : va_P G.1 vwCl (wRM G z r (upF (upF f 0 (nI 0)) 0 (nI 1))) H := hP
    have hD : va_D (gF z 20) (wRM G z r (upF (upF f 0 (nI 0)) 0 (nI 1))) := gD_RM hz
    have hq : (nI 0) = (if mIn x1 (nI 0) (nI 5) then mNear r (cN x1) (t / 14 + 2) else nI 0) := by
      first | with_reducible rfl | with_reducible exact nI_add _ _ | (simp only [upF_uu, c_1, ↓reduceIte, Bool.false_eq_true, decide_true, decide_false, Bool.not_true, Bool.not_false, Bool.or_true, Bool.true_or, Bool.or_false, Bool.false_or]; done) | (simp only [upF_uu, c_1, ↓reduceIte, Bool.false_eq_true, decide_true, decide_false, Bool.not_true, Bool.not_false, Bool.or_true, Bool.true_or, Bool.or_false, Bool.false_or]; with_reducible rfl) | (simp only [upF_uu, c_1, ↓reduceIte, Bool.false_eq_true, decide_true, decide_false, Bool.not_true, Bool.not_false, Bool.or_true, Bool.true_or, Bool.or_false, Bool.false_or]; rfl) | (simp [b2i, upF_uu, c_1]; done) | rfl
    have hPf : va_P G.1 vwCl (wRM G z r (upF f 0 (if mIn x1 (nI 0) (nI 5) then nI 0 else nI 1))) H := by
      have e1 : r = r := by first | with_reducible rfl | (simp only [upF_uu, c_1, ↓reduceIte, Bool.false_eq_true]; done) | (simp only [upF_uu, c_1, ↓reduceIte, Bool.false_eq_true]; rfl) | rfl
      have e2 : upF f 0 (if mIn x1 (nI 0) (nI 5) then nI 0 else nI 1) = upF (upF f 0 (nI 0)) 0 (nI 1) := by first | with_reducible rfl | (simp only [upF_uu, c_1, ↓reduceIte, Bool.false_eq_true]; done) | (simp only [upF_uu, c_1, ↓reduceIte, Bool.false_eq_true]; rfl) | rfl
      rw [e1, e2]; exact hP
    exact W.iret (v := nI 0) hx hb hr (fun t ht _ => ⟨⟨_, (), rfl, hq, g_hp ht hPf⟩, hS.F ht⟩) hS.2.2 dX7_near_34
  · have c_1 := b2i_t c_1
    refine lv_aload_n hx hb dX7_near_12 rfl (lv_at hl 0 rfl) ?_
    refine lv_iload_n hx hb dX7_near_13 rfl (lv_at hl 1 rfl) ?_
    refine lv_aload_n hx hb dX7_near_14 rfl (lv_at hl 0 rfl) ?_
    refine va_get (D := G.1) (ci := 7) (v := .int (f 1)) (C := RX7) (T := TX7) (N := 26) hx hb hts hinX7 hown hK.1 hP 0 rfl rfl 1 (by decide) (hts (.fieldLink RX7 120 "RotaforgeModel" "time" "I") (by decide +kernel)) (fun _ h9 => h9) rfl dX7_near_15 ?_
    refine lv_bipush (v := nI 14) hx hb dX7_near_18 (by decide +kernel) ?_
    refine lv_idiv hx hb dX7_near_20 (by decide) ?_
    refine lv_iconst (v := nI 2) hx hb dX7_near_21 (by decide +kernel) ?_
    refine lv_iadd hx hb dX7_near_22 ?_
    refine g_callC (W.runV (C := RX7) (As := [.int x1, .int (((f 1) / (nI 14)) + (nI 2))]) (rest := []) S0 (c_X7_nearOf l G _ z r (upF f 0 (nI 0)) hP x1 (((f 1) / (nI 14)) + (nI 2)) (cN x1) (t / 14 + 2) (mIn_le c_1 (by decide)).1 (Nat.lt_of_le_of_lt (mIn_le c_1 (by decide)).2 (by decide)) (by show f 1 / nI 14 + nI 2 = _; rw [ht, pk_div (by omega) (by decide) (by decide)]; exact nI_add _ _) (by omega)) (cwV 2 hts gX7_near_X7_nearOf rfl rfl rfl (by decide +kernel) ⟨Nat.le_of_ble_eq_true rfl, Nat.le_of_ble_eq_true rfl⟩) (g_preV hK hP (q0 := 0) (ci := 7) (q := (RX7, TX7, 26)) rfl rfl) rfl rfl hl.1 rfl (lv_room (Nat.le_of_ble_eq_true rfl)) dX7_near_23 ⟨Nat.zero_le _, Nat.zero_le _⟩) ?_
    refine lv_goto (tgt := 34) hx hb dX7_near_26 (by decide) ?_
    have hq : (mNear r (cN x1) (t / 14 + 2)) = (if mIn x1 (nI 0) (nI 5) then mNear r (cN x1) (t / 14 + 2) else nI 0) := by
      first | with_reducible rfl | with_reducible exact nI_add _ _ | (simp only [upF_uu, c_1, ↓reduceIte, Bool.false_eq_true, decide_true, decide_false, Bool.not_true, Bool.not_false, Bool.or_true, Bool.true_or, Bool.or_false, Bool.false_or]; done) | (simp only [upF_uu, c_1, ↓reduceIte, Bool.false_eq_true, decide_true, decide_false, Bool.not_true, Bool.not_false, Bool.or_true, Bool.true_or, Bool.or_false, Bool.false_or]; with_reducible rfl) | (simp only [upF_uu, c_1, ↓reduceIte, Bool.false_eq_true, decide_true, decide_false, Bool.not_true, Bool.not_false, Bool.or_true, Bool.true_or, Bool.or_false, Bool.false_or]; rfl) | (simp [b2i, upF_uu, c_1]; done) | rfl
    have hPf : va_P G.1 vwCl (wRM G z r (upF f 0 (if mIn x1 (nI 0) (nI 5) then nI 0 else nI 1))) H := by
      have e1 : r = r := by first | with_reducible rfl | (simp only [upF_uu, c_1, ↓reduceIte, Bool.false_eq_true]; done) | (simp only [upF_uu, c_1, ↓reduceIte, Bool.false_eq_true]; rfl) | rfl
      have e2 : upF f 0 (if mIn x1 (nI 0) (nI 5) then nI 0 else nI 1) = upF f 0 (nI 0) := by first | with_reducible rfl | (simp only [upF_uu, c_1, ↓reduceIte, Bool.false_eq_true]; done) | (simp only [upF_uu, c_1, ↓reduceIte, Bool.false_eq_true]; rfl) | rfl
      rw [e1, e2]; exact hP
    exact W.iret (v := mNear r (cN x1) (t / 14 + 2)) hx hb hr (fun t ht _ => ⟨⟨_, (), rfl, hq, g_hp ht hPf⟩, hS.F ht⟩) hS.2.2 dX7_near_34

set_option maxHeartbeats 4000000 in
set_option maxRecDepth 100000 in
theorem c_X7_blots (l : Launch) (G : gG) (H0 : Heap) (z : Nat → Nat) (hz : gDis z 20) (r : Nat → Nat → Int32) (f : Nat → Int32) (hP : va_P G.1 vwCl (wRM G z r f) H0) (x1 : Int32) (n d k t : Nat) (hM : mOK r f n d k t) : gMw l yX7_blots wsX7_blots 2 42 G H0 [.ref (z 0), .int x1] (if mIn x1 (nI 0) (nI 5) then r 10 (cN x1) else nI 0) (wRM G z r (upF f 0 (if mIn x1 (nI 0) (nI 5) then nI 0 else nI 1))) (gF z 20) := by
  refine Met.ofW (cc := cX7_blots) (maxL := 2) (ret := (some .int)) (by decide) rfl ?_
  intro p_ e_ s m args below meth c s₁ B hml hv
  obtain ⟨rfl, rfl, hK⟩ := hv
  have hx := B.exec
  have hb := B.bytes
  have hr := B.returns
  have hts := atoms_spec (ws := wsX7_blots) B.pre
  have hown : s.vm.findClass RX7 = some m.cls := findClass_of_methodNamed B.named
  have hlocks := B.notSynchronized
  have hinX7 : ∀ w ∈ wsX70, w ∈ wsX7_blots := by decide +kernel
  have S0 : CallFix p_ m c cX7_blots 2 s _ wsX7_blots RX7 := ⟨hx, hb, hml, hown, hts⟩
  have hD : va_D (gF z 20) (wRM G z r f) := gD_RM hz
  have hS : va_S (gF z 20) s.heap s.heap [] := va_S.rf
  have hl := lv_entry ([.ref (z 0), .int x1]) (n := 2) (Nat.le_of_ble_eq_true rfl)
  rw [lg_entry_eq]
  generalize (lg_sl ([.ref (z 0), .int x1]) ++ List.replicate (2 - (lg_sl ([.ref (z 0), .int x1])).length) Slot.unset).toArray = ls at hl ⊢
  have hl : lv_has ls 2 [(0, .ref (z 0)), (1, .int x1)] := hl
  obtain ⟨hn, hn2, hd, hd2, hk, hk2, ht, ht2, hh, hm⟩ := id hM
  refine lv_aload_n hx hb dX7_blots_0 rfl (lv_at hl 0 rfl) ?_
  refine lv_iconst (v := nI 0) hx hb dX7_blots_1 (by decide +kernel) ?_
  refine va_put (D := G.1) (ci := 7) (v := .int (nI 0)) (ty := .int) (C := RX7) (T := TX7) (N := 26) hx hb hts hinX7 tyX7 tyX7_ok nmX7 hown hK.1 hP hD hS 0 rfl rfl 0 (by decide) (hts (.fieldLink RX7 72 "RotaforgeModel" "thrown" "I") (by decide +kernel)) (fun _ h9 => h9) rfl (by decide +kernel) rfl rfl (Nat.le_of_ble_eq_true rfl) dX7_blots_2 (fun H locs hP hD hS => ?_)
  have hP : va_P G.1 vwCl (wRM G z r (upF f 0 (nI 0))) H := gMs_0 hP
  have hD : va_D (gF z 20) (wRM G z r (upF f 0 (nI 0))) := gD_RM hz
  refine lv_iload_n hx hb dX7_blots_5 rfl (lv_at hl 1 rfl) ?_
  refine g_callC (W.runS (As := [.int x1]) (rest := []) S0 (c_X7_isPerson l G _ x1) (va_cwS 1 hts gX7_blots_X7_isPerson rfl rfl rfl (by decide +kernel) ⟨Nat.le_of_ble_eq_true rfl, Nat.le_of_ble_eq_true rfl⟩) (g_preS hK) rfl rfl hl.1 rfl (lv_room (Nat.le_of_ble_eq_true rfl)) dX7_blots_6 ⟨Nat.zero_le _, Nat.zero_le _⟩) ?_
  refine lv_if_eq (tgt := 21) hx hb dX7_blots_9 (by decide) (fun c_1 => ?_) (fun c_1 => ?_)
  · have c_1 := b2i_f c_1
    refine lv_aload_n hx hb dX7_blots_21 rfl (lv_at hl 0 rfl) ?_
    refine lv_iconst (v := nI 1) hx hb dX7_blots_22 (by decide +kernel) ?_
    refine g_callw (va_runV (C := RX7) (As := [.int (nI 1)]) (rest := []) S0 (c_X7_fails l G _ z hz r (upF f 0 (nI 0)) hP (nI 1)) (cwV 1 hts gX7_blots_X7_fails rfl rfl rfl (by decide +kernel) ⟨Nat.le_of_ble_eq_true rfl, Nat.le_of_ble_eq_true rfl⟩) (g_preV hK hP (q0 := 0) (ci := 7) (q := (RX7, TX7, 26)) rfl rfl) rfl rfl hl.1 rfl (lv_room (Nat.le_of_ble_eq_true rfl)) dX7_blots_23 ⟨Nat.zero_le _, Nat.zero_le _⟩) hS (fun _ h => h) (fun _ h => h) (fun H locs hP _ hS => ?_)
    have hP : va_P G.1 vwCl (wRM G z r (upF (upF f 0 (nI 0)) 0 (nI 1))) H := hP
    have hD : va_D (gF z 20) (wRM G z r (upF (upF f 0 (nI 0)) 0 (nI 1))) := gD_RM hz
    have hq : (nI 0) = (if mIn x1 (nI 0) (nI 5) then r 10 (cN x1) else nI 0) := by
      first | with_reducible rfl | with_reducible exact nI_add _ _ | (simp only [upF_uu, c_1, ↓reduceIte, Bool.false_eq_true, decide_true, decide_false, Bool.not_true, Bool.not_false, Bool.or_true, Bool.true_or, Bool.or_false, Bool.false_or]; done) | (simp only [upF_uu, c_1, ↓reduceIte, Bool.false_eq_true, decide_true, decide_false, Bool.not_true, Bool.not_false, Bool.or_true, Bool.true_or, Bool.or_false, Bool.false_or]; with_reducible rfl) | (simp only [upF_uu, c_1, ↓reduceIte, Bool.false_eq_true, decide_true, decide_false, Bool.not_true, Bool.not_false, Bool.or_true, Bool.true_or, Bool.or_false, Bool.false_or]; rfl) | (simp [b2i, upF_uu, c_1]; done) | rfl
    have hPf : va_P G.1 vwCl (wRM G z r (upF f 0 (if mIn x1 (nI 0) (nI 5) then nI 0 else nI 1))) H := by
      have e1 : r = r := by first | with_reducible rfl | (simp only [upF_uu, c_1, ↓reduceIte, Bool.false_eq_true]; done) | (simp only [upF_uu, c_1, ↓reduceIte, Bool.false_eq_true]; rfl) | rfl
      have e2 : upF f 0 (if mIn x1 (nI 0) (nI 5) then nI 0 else nI 1) = upF (upF f 0 (nI 0)) 0 (nI 1) := by first | with_reducible rfl | (simp only [upF_uu, c_1, ↓reduceIte, Bool.false_eq_true]; done) | (simp only [upF_uu, c_1, ↓reduceIte, Bool.false_eq_true]; rfl) | rfl
      rw [e1, e2]; exact hP
    exact W.iret (v := nI 0) hx hb hr (fun t ht _ => ⟨⟨_, (), rfl, hq, g_hp ht hPf⟩, hS.F ht⟩) hS.2.2 dX7_blots_26
  · have c_1 := b2i_t c_1
    refine lv_aload_n hx hb dX7_blots_12 rfl (lv_at hl 0 rfl) ?_
    refine va_get (D := G.1) (ci := 7) (v := .ref (z 11)) (C := RX7) (T := TX7) (N := 26) hx hb hts hinX7 hown hK.1 hP 0 rfl rfl 15 (by decide) (hts (.fieldLink RX7 45 "RotaforgeModel" "blots" "[I") (by decide +kernel)) (fun _ h9 => h9) rfl dX7_blots_13 ?_
    refine lv_iload_n hx hb dX7_blots_16 rfl (lv_at hl 1 rfl) ?_
    refine g_iald hx hb hK.1 hP 11 0 rfl rfl (cN x1) ((mIn_le c_1 (by decide)).1) ((Nat.lt_of_le_of_lt (mIn_le c_1 (by decide)).2 (by decide))) (by decide) dX7_blots_17 ?_
    refine lv_goto (tgt := 26) hx hb dX7_blots_18 (by decide) ?_
    have hq : ((r 10) (cN x1)) = (if mIn x1 (nI 0) (nI 5) then r 10 (cN x1) else nI 0) := by
      first | with_reducible rfl | with_reducible exact nI_add _ _ | (simp only [upF_uu, c_1, ↓reduceIte, Bool.false_eq_true, decide_true, decide_false, Bool.not_true, Bool.not_false, Bool.or_true, Bool.true_or, Bool.or_false, Bool.false_or]; done) | (simp only [upF_uu, c_1, ↓reduceIte, Bool.false_eq_true, decide_true, decide_false, Bool.not_true, Bool.not_false, Bool.or_true, Bool.true_or, Bool.or_false, Bool.false_or]; with_reducible rfl) | (simp only [upF_uu, c_1, ↓reduceIte, Bool.false_eq_true, decide_true, decide_false, Bool.not_true, Bool.not_false, Bool.or_true, Bool.true_or, Bool.or_false, Bool.false_or]; rfl) | (simp [b2i, upF_uu, c_1]; done) | rfl
    have hPf : va_P G.1 vwCl (wRM G z r (upF f 0 (if mIn x1 (nI 0) (nI 5) then nI 0 else nI 1))) H := by
      have e1 : r = r := by first | with_reducible rfl | (simp only [upF_uu, c_1, ↓reduceIte, Bool.false_eq_true]; done) | (simp only [upF_uu, c_1, ↓reduceIte, Bool.false_eq_true]; rfl) | rfl
      have e2 : upF f 0 (if mIn x1 (nI 0) (nI 5) then nI 0 else nI 1) = upF f 0 (nI 0) := by first | with_reducible rfl | (simp only [upF_uu, c_1, ↓reduceIte, Bool.false_eq_true]; done) | (simp only [upF_uu, c_1, ↓reduceIte, Bool.false_eq_true]; rfl) | rfl
      rw [e1, e2]; exact hP
    exact W.iret (v := (r 10) (cN x1)) hx hb hr (fun t ht _ => ⟨⟨_, (), rfl, hq, g_hp ht hPf⟩, hS.F ht⟩) hS.2.2 dX7_blots_26

set_option maxHeartbeats 4000000 in
set_option maxRecDepth 100000 in
theorem c_X7_calls (l : Launch) (G : gG) (H0 : Heap) (z : Nat → Nat) (hz : gDis z 20) (r : Nat → Nat → Int32) (f : Nat → Int32) (hP : va_P G.1 vwCl (wRM G z r f) H0) (x1 : Int32) (x2 : Bool) (n d k t : Nat) (hM : mOK r f n d k t) : gMw l yX7_calls wsX7_calls 2 42 G H0 [.ref (z 0), .int x1, .int (b2i x2)] (if mIn x1 (nI 0) (nI 5) then (if x2 then r 13 (cN x1) else r 12 (cN x1)) else nI 0) (wRM G z r (upF f 0 (if mIn x1 (nI 0) (nI 5) then nI 0 else nI 1))) (gF z 20) := by
  refine Met.ofW (cc := cX7_calls) (maxL := 3) (ret := (some .int)) (by decide) rfl ?_
  intro p_ e_ s m args below meth c s₁ B hml hv
  obtain ⟨rfl, rfl, hK⟩ := hv
  have hx := B.exec
  have hb := B.bytes
  have hr := B.returns
  have hts := atoms_spec (ws := wsX7_calls) B.pre
  have hown : s.vm.findClass RX7 = some m.cls := findClass_of_methodNamed B.named
  have hlocks := B.notSynchronized
  have hinX7 : ∀ w ∈ wsX70, w ∈ wsX7_calls := by decide +kernel
  have S0 : CallFix p_ m c cX7_calls 3 s _ wsX7_calls RX7 := ⟨hx, hb, hml, hown, hts⟩
  have hD : va_D (gF z 20) (wRM G z r f) := gD_RM hz
  have hS : va_S (gF z 20) s.heap s.heap [] := va_S.rf
  have hl := lv_entry ([.ref (z 0), .int x1, .int (b2i x2)]) (n := 3) (Nat.le_of_ble_eq_true rfl)
  rw [lg_entry_eq]
  generalize (lg_sl ([.ref (z 0), .int x1, .int (b2i x2)]) ++ List.replicate (3 - (lg_sl ([.ref (z 0), .int x1, .int (b2i x2)])).length) Slot.unset).toArray = ls at hl ⊢
  have hl : lv_has ls 3 [(0, .ref (z 0)), (1, .int x1), (2, .int (b2i x2))] := hl
  obtain ⟨hn, hn2, hd, hd2, hk, hk2, ht, ht2, hh, hm⟩ := id hM
  refine lv_aload_n hx hb dX7_calls_0 rfl (lv_at hl 0 rfl) ?_
  refine lv_iconst (v := nI 0) hx hb dX7_calls_1 (by decide +kernel) ?_
  refine va_put (D := G.1) (ci := 7) (v := .int (nI 0)) (ty := .int) (C := RX7) (T := TX7) (N := 26) hx hb hts hinX7 tyX7 tyX7_ok nmX7 hown hK.1 hP hD hS 0 rfl rfl 0 (by decide) (hts (.fieldLink RX7 72 "RotaforgeModel" "thrown" "I") (by decide +kernel)) (fun _ h9 => h9) rfl (by decide +kernel) rfl rfl (Nat.le_of_ble_eq_true rfl) dX7_calls_2 (fun H locs hP hD hS => ?_)
  have hP : va_P G.1 vwCl (wRM G z r (upF f 0 (nI 0))) H := gMs_0 hP
  have hD : va_D (gF z 20) (wRM G z r (upF f 0 (nI 0))) := gD_RM hz
  refine lv_iload_n hx hb dX7_calls_5 rfl (lv_at hl 1 rfl) ?_
  refine g_callC (W.runS (As := [.int x1]) (rest := []) S0 (c_X7_isPerson l G _ x1) (va_cwS 1 hts gX7_calls_X7_isPerson rfl rfl rfl (by decide +kernel) ⟨Nat.le_of_ble_eq_true rfl, Nat.le_of_ble_eq_true rfl⟩) (g_preS hK) rfl rfl hl.1 rfl (lv_room (Nat.le_of_ble_eq_true rfl)) dX7_calls_6 ⟨Nat.zero_le _, Nat.zero_le _⟩) ?_
  refine lv_if_ne (tgt := 20) hx hb dX7_calls_9 (by decide) (fun c_1 => ?_) (fun c_1 => ?_)
  · have c_1 := b2i_t c_1
    refine lv_iload_n hx hb dX7_calls_20 rfl (lv_at hl 2 rfl) ?_
    refine lv_if_eq (tgt := 33) hx hb dX7_calls_21 (by decide) (fun c_2 => ?_) (fun c_2 => ?_)
    · have c_2 := b2i_f c_2
      refine lv_aload_n hx hb dX7_calls_33 rfl (lv_at hl 0 rfl) ?_
      refine va_get (D := G.1) (ci := 7) (v := .ref (z 13)) (C := RX7) (T := TX7) (N := 26) hx hb hts hinX7 hown hK.1 hP 0 rfl rfl 17 (by decide) (hts (.fieldLink RX7 51 "RotaforgeModel" "dayCalls" "[I") (by decide +kernel)) (fun _ h9 => h9) rfl dX7_calls_34 ?_
      refine lv_iload_n hx hb dX7_calls_37 rfl (lv_at hl 1 rfl) ?_
      refine g_iald hx hb hK.1 hP 13 0 rfl rfl (cN x1) ((mIn_le c_1 (by decide)).1) ((Nat.lt_of_le_of_lt (mIn_le c_1 (by decide)).2 (by decide))) (by decide) dX7_calls_38 ?_
      have hq : ((r 12) (cN x1)) = (if mIn x1 (nI 0) (nI 5) then (if x2 then r 13 (cN x1) else r 12 (cN x1)) else nI 0) := by
        first | with_reducible rfl | with_reducible exact nI_add _ _ | (simp only [upF_uu, c_1, c_2, ↓reduceIte, Bool.false_eq_true, decide_true, decide_false, Bool.not_true, Bool.not_false, Bool.or_true, Bool.true_or, Bool.or_false, Bool.false_or]; done) | (simp only [upF_uu, c_1, c_2, ↓reduceIte, Bool.false_eq_true, decide_true, decide_false, Bool.not_true, Bool.not_false, Bool.or_true, Bool.true_or, Bool.or_false, Bool.false_or]; with_reducible rfl) | (simp only [upF_uu, c_1, c_2, ↓reduceIte, Bool.false_eq_true, decide_true, decide_false, Bool.not_true, Bool.not_false, Bool.or_true, Bool.true_or, Bool.or_false, Bool.false_or]; rfl) | (simp [b2i, upF_uu, c_1, c_2]; done) | rfl
      have hPf : va_P G.1 vwCl (wRM G z r (upF f 0 (if mIn x1 (nI 0) (nI 5) then nI 0 else nI 1))) H := by
        have e1 : r = r := by first | with_reducible rfl | (simp only [upF_uu, c_1, c_2, ↓reduceIte, Bool.false_eq_true]; done) | (simp only [upF_uu, c_1, c_2, ↓reduceIte, Bool.false_eq_true]; rfl) | rfl
        have e2 : upF f 0 (if mIn x1 (nI 0) (nI 5) then nI 0 else nI 1) = upF f 0 (nI 0) := by first | with_reducible rfl | (simp only [upF_uu, c_1, c_2, ↓reduceIte, Bool.false_eq_true]; done) | (simp only [upF_uu, c_1, c_2, ↓reduceIte, Bool.false_eq_true]; rfl) | rfl
        rw [e1, e2]; exact hP
      exact W.iret (v := (r 12) (cN x1)) hx hb hr (fun t ht _ => ⟨⟨_, (), rfl, hq, g_hp ht hPf⟩, hS.F ht⟩) hS.2.2 dX7_calls_39
    · have c_2 := b2i_t c_2
      refine lv_aload_n hx hb dX7_calls_24 rfl (lv_at hl 0 rfl) ?_
      refine va_get (D := G.1) (ci := 7) (v := .ref (z 14)) (C := RX7) (T := TX7) (N := 26) hx hb hts hinX7 hown hK.1 hP 0 rfl rfl 18 (by decide) (hts (.fieldLink RX7 54 "RotaforgeModel" "nightCalls" "[I") (by decide +kernel)) (fun _ h9 => h9) rfl dX7_calls_25 ?_
      refine lv_iload_n hx hb dX7_calls_28 rfl (lv_at hl 1 rfl) ?_
      refine g_iald hx hb hK.1 hP 14 0 rfl rfl (cN x1) ((mIn_le c_1 (by decide)).1) ((Nat.lt_of_le_of_lt (mIn_le c_1 (by decide)).2 (by decide))) (by decide) dX7_calls_29 ?_
      refine lv_goto (tgt := 39) hx hb dX7_calls_30 (by decide) ?_
      have hq : ((r 13) (cN x1)) = (if mIn x1 (nI 0) (nI 5) then (if x2 then r 13 (cN x1) else r 12 (cN x1)) else nI 0) := by
        first | with_reducible rfl | with_reducible exact nI_add _ _ | (simp only [upF_uu, c_1, c_2, ↓reduceIte, Bool.false_eq_true, decide_true, decide_false, Bool.not_true, Bool.not_false, Bool.or_true, Bool.true_or, Bool.or_false, Bool.false_or]; done) | (simp only [upF_uu, c_1, c_2, ↓reduceIte, Bool.false_eq_true, decide_true, decide_false, Bool.not_true, Bool.not_false, Bool.or_true, Bool.true_or, Bool.or_false, Bool.false_or]; with_reducible rfl) | (simp only [upF_uu, c_1, c_2, ↓reduceIte, Bool.false_eq_true, decide_true, decide_false, Bool.not_true, Bool.not_false, Bool.or_true, Bool.true_or, Bool.or_false, Bool.false_or]; rfl) | (simp [b2i, upF_uu, c_1, c_2]; done) | rfl
      have hPf : va_P G.1 vwCl (wRM G z r (upF f 0 (if mIn x1 (nI 0) (nI 5) then nI 0 else nI 1))) H := by
        have e1 : r = r := by first | with_reducible rfl | (simp only [upF_uu, c_1, c_2, ↓reduceIte, Bool.false_eq_true]; done) | (simp only [upF_uu, c_1, c_2, ↓reduceIte, Bool.false_eq_true]; rfl) | rfl
        have e2 : upF f 0 (if mIn x1 (nI 0) (nI 5) then nI 0 else nI 1) = upF f 0 (nI 0) := by first | with_reducible rfl | (simp only [upF_uu, c_1, c_2, ↓reduceIte, Bool.false_eq_true]; done) | (simp only [upF_uu, c_1, c_2, ↓reduceIte, Bool.false_eq_true]; rfl) | rfl
        rw [e1, e2]; exact hP
      exact W.iret (v := (r 13) (cN x1)) hx hb hr (fun t ht _ => ⟨⟨_, (), rfl, hq, g_hp ht hPf⟩, hS.F ht⟩) hS.2.2 dX7_calls_39
  · have c_1 := b2i_f c_1
    refine lv_aload_n hx hb dX7_calls_12 rfl (lv_at hl 0 rfl) ?_
    refine lv_iconst (v := nI 1) hx hb dX7_calls_13 (by decide +kernel) ?_
    refine g_callw (va_runV (C := RX7) (As := [.int (nI 1)]) (rest := []) S0 (c_X7_fails l G _ z hz r (upF f 0 (nI 0)) hP (nI 1)) (cwV 1 hts gX7_calls_X7_fails rfl rfl rfl (by decide +kernel) ⟨Nat.le_of_ble_eq_true rfl, Nat.le_of_ble_eq_true rfl⟩) (g_preV hK hP (q0 := 0) (ci := 7) (q := (RX7, TX7, 26)) rfl rfl) rfl rfl hl.1 rfl (lv_room (Nat.le_of_ble_eq_true rfl)) dX7_calls_14 ⟨Nat.zero_le _, Nat.zero_le _⟩) hS (fun _ h => h) (fun _ h => h) (fun H locs hP _ hS => ?_)
    have hP : va_P G.1 vwCl (wRM G z r (upF (upF f 0 (nI 0)) 0 (nI 1))) H := hP
    have hD : va_D (gF z 20) (wRM G z r (upF (upF f 0 (nI 0)) 0 (nI 1))) := gD_RM hz
    refine lv_goto (tgt := 39) hx hb dX7_calls_17 (by decide) ?_
    have hq : (nI 0) = (if mIn x1 (nI 0) (nI 5) then (if x2 then r 13 (cN x1) else r 12 (cN x1)) else nI 0) := by
      first | with_reducible rfl | with_reducible exact nI_add _ _ | (simp only [upF_uu, c_1, ↓reduceIte, Bool.false_eq_true, decide_true, decide_false, Bool.not_true, Bool.not_false, Bool.or_true, Bool.true_or, Bool.or_false, Bool.false_or]; done) | (simp only [upF_uu, c_1, ↓reduceIte, Bool.false_eq_true, decide_true, decide_false, Bool.not_true, Bool.not_false, Bool.or_true, Bool.true_or, Bool.or_false, Bool.false_or]; with_reducible rfl) | (simp only [upF_uu, c_1, ↓reduceIte, Bool.false_eq_true, decide_true, decide_false, Bool.not_true, Bool.not_false, Bool.or_true, Bool.true_or, Bool.or_false, Bool.false_or]; rfl) | (simp [b2i, upF_uu, c_1]; done) | rfl
    have hPf : va_P G.1 vwCl (wRM G z r (upF f 0 (if mIn x1 (nI 0) (nI 5) then nI 0 else nI 1))) H := by
      have e1 : r = r := by first | with_reducible rfl | (simp only [upF_uu, c_1, ↓reduceIte, Bool.false_eq_true]; done) | (simp only [upF_uu, c_1, ↓reduceIte, Bool.false_eq_true]; rfl) | rfl
      have e2 : upF f 0 (if mIn x1 (nI 0) (nI 5) then nI 0 else nI 1) = upF (upF f 0 (nI 0)) 0 (nI 1) := by first | with_reducible rfl | (simp only [upF_uu, c_1, ↓reduceIte, Bool.false_eq_true]; done) | (simp only [upF_uu, c_1, ↓reduceIte, Bool.false_eq_true]; rfl) | rfl
      rw [e1, e2]; exact hP
    exact W.iret (v := nI 0) hx hb hr (fun t ht _ => ⟨⟨_, (), rfl, hq, g_hp ht hPf⟩, hS.F ht⟩) hS.2.2 dX7_calls_39

set_option maxHeartbeats 4000000 in
set_option maxRecDepth 100000 in
theorem c_X7_version (l : Launch) (G : gG) (H0 : Heap) (z : Nat → Nat) (hz : gDis z 20) (r : Nat → Nat → Int32) (f : Nat → Int32) (hP : va_P G.1 vwCl (wRM G z r f) H0) (x1 : Int32) (n d k t : Nat) (hM : mOK r f n d k t) : gMw l yX7_version wsX7_version 2 49 G H0 [.ref (z 0), .int x1] (if mIn x1 (nI 0) (nI 3) then mVal r n (nI 1) x1 (-1) else nI 0) (wRM G z r (upF f 0 (if mIn x1 (nI 0) (nI 3) then nI 0 else nI 1))) (gF z 20) := by
  refine Met.ofW (cc := cX7_version) (maxL := 2) (ret := (some .int)) (by decide) rfl ?_
  intro p_ e_ s m args below meth c s₁ B hml hv
  obtain ⟨rfl, rfl, hK⟩ := hv
  have hx := B.exec
  have hb := B.bytes
  have hr := B.returns
  have hts := atoms_spec (ws := wsX7_version) B.pre
  have hown : s.vm.findClass RX7 = some m.cls := findClass_of_methodNamed B.named
  have hlocks := B.notSynchronized
  have hinX7 : ∀ w ∈ wsX70, w ∈ wsX7_version := by decide +kernel
  have S0 : CallFix p_ m c cX7_version 2 s _ wsX7_version RX7 := ⟨hx, hb, hml, hown, hts⟩
  have hD : va_D (gF z 20) (wRM G z r f) := gD_RM hz
  have hS : va_S (gF z 20) s.heap s.heap [] := va_S.rf
  have hl := lv_entry ([.ref (z 0), .int x1]) (n := 2) (Nat.le_of_ble_eq_true rfl)
  rw [lg_entry_eq]
  generalize (lg_sl ([.ref (z 0), .int x1]) ++ List.replicate (2 - (lg_sl ([.ref (z 0), .int x1])).length) Slot.unset).toArray = ls at hl ⊢
  have hl : lv_has ls 2 [(0, .ref (z 0)), (1, .int x1)] := hl
  obtain ⟨hn, hn2, hd, hd2, hk, hk2, ht, ht2, hh, hm⟩ := id hM
  refine lv_aload_n hx hb dX7_version_0 rfl (lv_at hl 0 rfl) ?_
  refine lv_iconst (v := nI 0) hx hb dX7_version_1 (by decide +kernel) ?_
  refine va_put (D := G.1) (ci := 7) (v := .int (nI 0)) (ty := .int) (C := RX7) (T := TX7) (N := 26) hx hb hts hinX7 tyX7 tyX7_ok nmX7 hown hK.1 hP hD hS 0 rfl rfl 0 (by decide) (hts (.fieldLink RX7 72 "RotaforgeModel" "thrown" "I") (by decide +kernel)) (fun _ h9 => h9) rfl (by decide +kernel) rfl rfl (Nat.le_of_ble_eq_true rfl) dX7_version_2 (fun H locs hP hD hS => ?_)
  have hP : va_P G.1 vwCl (wRM G z r (upF f 0 (nI 0))) H := gMs_0 hP
  have hD : va_D (gF z 20) (wRM G z r (upF f 0 (nI 0))) := gD_RM hz
  refine lv_iload_n hx hb dX7_version_5 rfl (lv_at hl 1 rfl) ?_
  refine g_callC (W.runS (As := [.int x1]) (rest := []) S0 (c_X7_isRing l G _ x1) (va_cwS 1 hts gX7_version_X7_isRing rfl rfl rfl (by decide +kernel) ⟨Nat.le_of_ble_eq_true rfl, Nat.le_of_ble_eq_true rfl⟩) (g_preS hK) rfl rfl hl.1 rfl (lv_room (Nat.le_of_ble_eq_true rfl)) dX7_version_6 ⟨Nat.zero_le _, Nat.zero_le _⟩) ?_
  refine lv_if_eq (tgt := 22) hx hb dX7_version_9 (by decide) (fun c_1 => ?_) (fun c_1 => ?_)
  · have c_1 := b2i_f c_1
    refine lv_aload_n hx hb dX7_version_22 rfl (lv_at hl 0 rfl) ?_
    refine lv_iconst (v := nI 1) hx hb dX7_version_23 (by decide +kernel) ?_
    refine g_callw (va_runV (C := RX7) (As := [.int (nI 1)]) (rest := []) S0 (c_X7_fails l G _ z hz r (upF f 0 (nI 0)) hP (nI 1)) (cwV 1 hts gX7_version_X7_fails rfl rfl rfl (by decide +kernel) ⟨Nat.le_of_ble_eq_true rfl, Nat.le_of_ble_eq_true rfl⟩) (g_preV hK hP (q0 := 0) (ci := 7) (q := (RX7, TX7, 26)) rfl rfl) rfl rfl hl.1 rfl (lv_room (Nat.le_of_ble_eq_true rfl)) dX7_version_24 ⟨Nat.zero_le _, Nat.zero_le _⟩) hS (fun _ h => h) (fun _ h => h) (fun H locs hP _ hS => ?_)
    have hP : va_P G.1 vwCl (wRM G z r (upF (upF f 0 (nI 0)) 0 (nI 1))) H := hP
    have hD : va_D (gF z 20) (wRM G z r (upF (upF f 0 (nI 0)) 0 (nI 1))) := gD_RM hz
    have hq : (nI 0) = (if mIn x1 (nI 0) (nI 3) then mVal r n (nI 1) x1 (-1) else nI 0) := by
      first | with_reducible rfl | with_reducible exact nI_add _ _ | (simp only [upF_uu, c_1, ↓reduceIte, Bool.false_eq_true, decide_true, decide_false, Bool.not_true, Bool.not_false, Bool.or_true, Bool.true_or, Bool.or_false, Bool.false_or]; done) | (simp only [upF_uu, c_1, ↓reduceIte, Bool.false_eq_true, decide_true, decide_false, Bool.not_true, Bool.not_false, Bool.or_true, Bool.true_or, Bool.or_false, Bool.false_or]; with_reducible rfl) | (simp only [upF_uu, c_1, ↓reduceIte, Bool.false_eq_true, decide_true, decide_false, Bool.not_true, Bool.not_false, Bool.or_true, Bool.true_or, Bool.or_false, Bool.false_or]; rfl) | (simp [b2i, upF_uu, c_1]; done) | rfl
    have hPf : va_P G.1 vwCl (wRM G z r (upF f 0 (if mIn x1 (nI 0) (nI 3) then nI 0 else nI 1))) H := by
      have e1 : r = r := by first | with_reducible rfl | (simp only [upF_uu, c_1, ↓reduceIte, Bool.false_eq_true]; done) | (simp only [upF_uu, c_1, ↓reduceIte, Bool.false_eq_true]; rfl) | rfl
      have e2 : upF f 0 (if mIn x1 (nI 0) (nI 3) then nI 0 else nI 1) = upF (upF f 0 (nI 0)) 0 (nI 1) := by first | with_reducible rfl | (simp only [upF_uu, c_1, ↓reduceIte, Bool.false_eq_true]; done) | (simp only [upF_uu, c_1, ↓reduceIte, Bool.false_eq_true]; rfl) | rfl
      rw [e1, e2]; exact hP
    exact W.iret (v := nI 0) hx hb hr (fun t ht _ => ⟨⟨_, (), rfl, hq, g_hp ht hPf⟩, hS.F ht⟩) hS.2.2 dX7_version_27
  · have c_1 := b2i_t c_1
    refine lv_aload_n hx hb dX7_version_12 rfl (lv_at hl 0 rfl) ?_
    refine lv_iconst (v := nI 1) hx hb dX7_version_13 (by decide +kernel) ?_
    refine lv_iload_n hx hb dX7_version_14 rfl (lv_at hl 1 rfl) ?_
    refine lv_iconst (v := (-1)) hx hb dX7_version_15 (by decide +kernel) ?_
    refine g_callC (W.runV (C := RX7) (As := [.int (nI 1), .int x1, .int (-1)]) (rest := []) S0 (c_X7_valueOf l G _ z r (upF f 0 (nI 0)) hP (nI 1) x1 (-1) n d k t hM) (cwV 3 hts gX7_version_X7_valueOf rfl rfl rfl (by decide +kernel) ⟨Nat.le_of_ble_eq_true rfl, Nat.le_of_ble_eq_true rfl⟩) (g_preV hK hP (q0 := 0) (ci := 7) (q := (RX7, TX7, 26)) rfl rfl) rfl rfl hl.1 rfl (lv_room (Nat.le_of_ble_eq_true rfl)) dX7_version_16 ⟨Nat.zero_le _, Nat.zero_le _⟩) ?_
    refine lv_goto (tgt := 27) hx hb dX7_version_19 (by decide) ?_
    have hq : (mVal r n (nI 1) x1 (-1)) = (if mIn x1 (nI 0) (nI 3) then mVal r n (nI 1) x1 (-1) else nI 0) := by
      first | with_reducible rfl | with_reducible exact nI_add _ _ | (simp only [upF_uu, c_1, ↓reduceIte, Bool.false_eq_true, decide_true, decide_false, Bool.not_true, Bool.not_false, Bool.or_true, Bool.true_or, Bool.or_false, Bool.false_or]; done) | (simp only [upF_uu, c_1, ↓reduceIte, Bool.false_eq_true, decide_true, decide_false, Bool.not_true, Bool.not_false, Bool.or_true, Bool.true_or, Bool.or_false, Bool.false_or]; with_reducible rfl) | (simp only [upF_uu, c_1, ↓reduceIte, Bool.false_eq_true, decide_true, decide_false, Bool.not_true, Bool.not_false, Bool.or_true, Bool.true_or, Bool.or_false, Bool.false_or]; rfl) | (simp [b2i, upF_uu, c_1]; done) | rfl
    have hPf : va_P G.1 vwCl (wRM G z r (upF f 0 (if mIn x1 (nI 0) (nI 3) then nI 0 else nI 1))) H := by
      have e1 : r = r := by first | with_reducible rfl | (simp only [upF_uu, c_1, ↓reduceIte, Bool.false_eq_true]; done) | (simp only [upF_uu, c_1, ↓reduceIte, Bool.false_eq_true]; rfl) | rfl
      have e2 : upF f 0 (if mIn x1 (nI 0) (nI 3) then nI 0 else nI 1) = upF f 0 (nI 0) := by first | with_reducible rfl | (simp only [upF_uu, c_1, ↓reduceIte, Bool.false_eq_true]; done) | (simp only [upF_uu, c_1, ↓reduceIte, Bool.false_eq_true]; rfl) | rfl
      rw [e1, e2]; exact hP
    exact W.iret (v := mVal r n (nI 1) x1 (-1)) hx hb hr (fun t ht _ => ⟨⟨_, (), rfl, hq, g_hp ht hPf⟩, hS.F ht⟩) hS.2.2 dX7_version_27

set_option maxHeartbeats 4000000 in
set_option maxRecDepth 100000 in
theorem c_X7_level (l : Launch) (G : gG) (H0 : Heap) (z : Nat → Nat) (hz : gDis z 20) (r : Nat → Nat → Int32) (f : Nat → Int32) (hP : va_P G.1 vwCl (wRM G z r f) H0) (x1 : Int32) (n d k t : Nat) (hM : mOK r f n d k t) : gMw l yX7_level wsX7_level 2 49 G H0 [.ref (z 0), .int x1] (if mIn x1 (nI 0) (nI 7) then mVal r n (nI 0) x1 (-1) else nI 0) (wRM G z r (upF f 0 (if mIn x1 (nI 0) (nI 7) then nI 0 else nI 1))) (gF z 20) := by
  refine Met.ofW (cc := cX7_level) (maxL := 2) (ret := (some .int)) (by decide) rfl ?_
  intro p_ e_ s m args below meth c s₁ B hml hv
  obtain ⟨rfl, rfl, hK⟩ := hv
  have hx := B.exec
  have hb := B.bytes
  have hr := B.returns
  have hts := atoms_spec (ws := wsX7_level) B.pre
  have hown : s.vm.findClass RX7 = some m.cls := findClass_of_methodNamed B.named
  have hlocks := B.notSynchronized
  have hinX7 : ∀ w ∈ wsX70, w ∈ wsX7_level := by decide +kernel
  have S0 : CallFix p_ m c cX7_level 2 s _ wsX7_level RX7 := ⟨hx, hb, hml, hown, hts⟩
  have hD : va_D (gF z 20) (wRM G z r f) := gD_RM hz
  have hS : va_S (gF z 20) s.heap s.heap [] := va_S.rf
  have hl := lv_entry ([.ref (z 0), .int x1]) (n := 2) (Nat.le_of_ble_eq_true rfl)
  rw [lg_entry_eq]
  generalize (lg_sl ([.ref (z 0), .int x1]) ++ List.replicate (2 - (lg_sl ([.ref (z 0), .int x1])).length) Slot.unset).toArray = ls at hl ⊢
  have hl : lv_has ls 2 [(0, .ref (z 0)), (1, .int x1)] := hl
  obtain ⟨hn, hn2, hd, hd2, hk, hk2, ht, ht2, hh, hm⟩ := id hM
  refine lv_aload_n hx hb dX7_level_0 rfl (lv_at hl 0 rfl) ?_
  refine lv_iconst (v := nI 0) hx hb dX7_level_1 (by decide +kernel) ?_
  refine va_put (D := G.1) (ci := 7) (v := .int (nI 0)) (ty := .int) (C := RX7) (T := TX7) (N := 26) hx hb hts hinX7 tyX7 tyX7_ok nmX7 hown hK.1 hP hD hS 0 rfl rfl 0 (by decide) (hts (.fieldLink RX7 72 "RotaforgeModel" "thrown" "I") (by decide +kernel)) (fun _ h9 => h9) rfl (by decide +kernel) rfl rfl (Nat.le_of_ble_eq_true rfl) dX7_level_2 (fun H locs hP hD hS => ?_)
  have hP : va_P G.1 vwCl (wRM G z r (upF f 0 (nI 0))) H := gMs_0 hP
  have hD : va_D (gF z 20) (wRM G z r (upF f 0 (nI 0))) := gD_RM hz
  refine lv_iload_n hx hb dX7_level_5 rfl (lv_at hl 1 rfl) ?_
  refine g_callC (W.runS (As := [.int x1]) (rest := []) S0 (c_X7_isSwitch l G _ x1) (va_cwS 1 hts gX7_level_X7_isSwitch rfl rfl rfl (by decide +kernel) ⟨Nat.le_of_ble_eq_true rfl, Nat.le_of_ble_eq_true rfl⟩) (g_preS hK) rfl rfl hl.1 rfl (lv_room (Nat.le_of_ble_eq_true rfl)) dX7_level_6 ⟨Nat.zero_le _, Nat.zero_le _⟩) ?_
  refine lv_if_eq (tgt := 22) hx hb dX7_level_9 (by decide) (fun c_1 => ?_) (fun c_1 => ?_)
  · have c_1 := b2i_f c_1
    refine lv_aload_n hx hb dX7_level_22 rfl (lv_at hl 0 rfl) ?_
    refine lv_iconst (v := nI 1) hx hb dX7_level_23 (by decide +kernel) ?_
    refine g_callw (va_runV (C := RX7) (As := [.int (nI 1)]) (rest := []) S0 (c_X7_fails l G _ z hz r (upF f 0 (nI 0)) hP (nI 1)) (cwV 1 hts gX7_level_X7_fails rfl rfl rfl (by decide +kernel) ⟨Nat.le_of_ble_eq_true rfl, Nat.le_of_ble_eq_true rfl⟩) (g_preV hK hP (q0 := 0) (ci := 7) (q := (RX7, TX7, 26)) rfl rfl) rfl rfl hl.1 rfl (lv_room (Nat.le_of_ble_eq_true rfl)) dX7_level_24 ⟨Nat.zero_le _, Nat.zero_le _⟩) hS (fun _ h => h) (fun _ h => h) (fun H locs hP _ hS => ?_)
    have hP : va_P G.1 vwCl (wRM G z r (upF (upF f 0 (nI 0)) 0 (nI 1))) H := hP
    have hD : va_D (gF z 20) (wRM G z r (upF (upF f 0 (nI 0)) 0 (nI 1))) := gD_RM hz
    have hq : (nI 0) = (if mIn x1 (nI 0) (nI 7) then mVal r n (nI 0) x1 (-1) else nI 0) := by
      first | with_reducible rfl | with_reducible exact nI_add _ _ | (simp only [upF_uu, c_1, ↓reduceIte, Bool.false_eq_true, decide_true, decide_false, Bool.not_true, Bool.not_false, Bool.or_true, Bool.true_or, Bool.or_false, Bool.false_or]; done) | (simp only [upF_uu, c_1, ↓reduceIte, Bool.false_eq_true, decide_true, decide_false, Bool.not_true, Bool.not_false, Bool.or_true, Bool.true_or, Bool.or_false, Bool.false_or]; with_reducible rfl) | (simp only [upF_uu, c_1, ↓reduceIte, Bool.false_eq_true, decide_true, decide_false, Bool.not_true, Bool.not_false, Bool.or_true, Bool.true_or, Bool.or_false, Bool.false_or]; rfl) | (simp [b2i, upF_uu, c_1]; done) | rfl
    have hPf : va_P G.1 vwCl (wRM G z r (upF f 0 (if mIn x1 (nI 0) (nI 7) then nI 0 else nI 1))) H := by
      have e1 : r = r := by first | with_reducible rfl | (simp only [upF_uu, c_1, ↓reduceIte, Bool.false_eq_true]; done) | (simp only [upF_uu, c_1, ↓reduceIte, Bool.false_eq_true]; rfl) | rfl
      have e2 : upF f 0 (if mIn x1 (nI 0) (nI 7) then nI 0 else nI 1) = upF (upF f 0 (nI 0)) 0 (nI 1) := by first | with_reducible rfl | (simp only [upF_uu, c_1, ↓reduceIte, Bool.false_eq_true]; done) | (simp only [upF_uu, c_1, ↓reduceIte, Bool.false_eq_true]; rfl) | rfl
      rw [e1, e2]; exact hP
    exact W.iret (v := nI 0) hx hb hr (fun t ht _ => ⟨⟨_, (), rfl, hq, g_hp ht hPf⟩, hS.F ht⟩) hS.2.2 dX7_level_27
  · have c_1 := b2i_t c_1
    refine lv_aload_n hx hb dX7_level_12 rfl (lv_at hl 0 rfl) ?_
    refine lv_iconst (v := nI 0) hx hb dX7_level_13 (by decide +kernel) ?_
    refine lv_iload_n hx hb dX7_level_14 rfl (lv_at hl 1 rfl) ?_
    refine lv_iconst (v := (-1)) hx hb dX7_level_15 (by decide +kernel) ?_
    refine g_callC (W.runV (C := RX7) (As := [.int (nI 0), .int x1, .int (-1)]) (rest := []) S0 (c_X7_valueOf l G _ z r (upF f 0 (nI 0)) hP (nI 0) x1 (-1) n d k t hM) (cwV 3 hts gX7_level_X7_valueOf rfl rfl rfl (by decide +kernel) ⟨Nat.le_of_ble_eq_true rfl, Nat.le_of_ble_eq_true rfl⟩) (g_preV hK hP (q0 := 0) (ci := 7) (q := (RX7, TX7, 26)) rfl rfl) rfl rfl hl.1 rfl (lv_room (Nat.le_of_ble_eq_true rfl)) dX7_level_16 ⟨Nat.zero_le _, Nat.zero_le _⟩) ?_
    refine lv_goto (tgt := 27) hx hb dX7_level_19 (by decide) ?_
    have hq : (mVal r n (nI 0) x1 (-1)) = (if mIn x1 (nI 0) (nI 7) then mVal r n (nI 0) x1 (-1) else nI 0) := by
      first | with_reducible rfl | with_reducible exact nI_add _ _ | (simp only [upF_uu, c_1, ↓reduceIte, Bool.false_eq_true, decide_true, decide_false, Bool.not_true, Bool.not_false, Bool.or_true, Bool.true_or, Bool.or_false, Bool.false_or]; done) | (simp only [upF_uu, c_1, ↓reduceIte, Bool.false_eq_true, decide_true, decide_false, Bool.not_true, Bool.not_false, Bool.or_true, Bool.true_or, Bool.or_false, Bool.false_or]; with_reducible rfl) | (simp only [upF_uu, c_1, ↓reduceIte, Bool.false_eq_true, decide_true, decide_false, Bool.not_true, Bool.not_false, Bool.or_true, Bool.true_or, Bool.or_false, Bool.false_or]; rfl) | (simp [b2i, upF_uu, c_1]; done) | rfl
    have hPf : va_P G.1 vwCl (wRM G z r (upF f 0 (if mIn x1 (nI 0) (nI 7) then nI 0 else nI 1))) H := by
      have e1 : r = r := by first | with_reducible rfl | (simp only [upF_uu, c_1, ↓reduceIte, Bool.false_eq_true]; done) | (simp only [upF_uu, c_1, ↓reduceIte, Bool.false_eq_true]; rfl) | rfl
      have e2 : upF f 0 (if mIn x1 (nI 0) (nI 7) then nI 0 else nI 1) = upF f 0 (nI 0) := by first | with_reducible rfl | (simp only [upF_uu, c_1, ↓reduceIte, Bool.false_eq_true]; done) | (simp only [upF_uu, c_1, ↓reduceIte, Bool.false_eq_true]; rfl) | rfl
      rw [e1, e2]; exact hP
    exact W.iret (v := mVal r n (nI 0) x1 (-1)) hx hb hr (fun t ht _ => ⟨⟨_, (), rfl, hq, g_hp ht hPf⟩, hS.F ht⟩) hS.2.2 dX7_level_27

set_option maxHeartbeats 4000000 in
set_option maxRecDepth 100000 in
theorem c_X7_change (l : Launch) (G : gG) (H0 : Heap) (z : Nat → Nat) (hz : gDis z 20) (r : Nat → Nat → Int32) (f : Nat → Int32) (hP : va_P G.1 vwCl (wRM G z r f) H0) (x1 : Int32) (n d k t : Nat) (hM : mOK r f n d k t) : gMw l yX7_change wsX7_change 2 43 G H0 [.ref (z 0), .int x1] (if mIn x1 (nI 0) (f 4 - nI 1) then nI 10000 * r 4 (cN x1) + nI 1000 * r 5 (cN x1) + nI 100 * r 6 (cN x1) + r 7 (cN x1) else nI 0) (wRM G z r (upF f 0 (if mIn x1 (nI 0) (f 4 - nI 1) then nI 0 else nI 1))) (gF z 20) := by
  refine Met.ofW (cc := cX7_change) (maxL := 2) (ret := (some .int)) (by decide) rfl ?_
  intro p_ e_ s m args below meth c s₁ B hml hv
  obtain ⟨rfl, rfl, hK⟩ := hv
  have hx := B.exec
  have hb := B.bytes
  have hr := B.returns
  have hts := atoms_spec (ws := wsX7_change) B.pre
  have hown : s.vm.findClass RX7 = some m.cls := findClass_of_methodNamed B.named
  have hlocks := B.notSynchronized
  have hinX7 : ∀ w ∈ wsX70, w ∈ wsX7_change := by decide +kernel
  have S0 : CallFix p_ m c cX7_change 2 s _ wsX7_change RX7 := ⟨hx, hb, hml, hown, hts⟩
  have hD : va_D (gF z 20) (wRM G z r f) := gD_RM hz
  have hS : va_S (gF z 20) s.heap s.heap [] := va_S.rf
  have hl := lv_entry ([.ref (z 0), .int x1]) (n := 2) (Nat.le_of_ble_eq_true rfl)
  rw [lg_entry_eq]
  generalize (lg_sl ([.ref (z 0), .int x1]) ++ List.replicate (2 - (lg_sl ([.ref (z 0), .int x1])).length) Slot.unset).toArray = ls at hl ⊢
  have hl : lv_has ls 2 [(0, .ref (z 0)), (1, .int x1)] := hl
  obtain ⟨hn, hn2, hd, hd2, hk, hk2, ht, ht2, hh, hm⟩ := id hM
  refine lv_aload_n hx hb dX7_change_0 rfl (lv_at hl 0 rfl) ?_
  refine lv_iconst (v := nI 0) hx hb dX7_change_1 (by decide +kernel) ?_
  refine va_put (D := G.1) (ci := 7) (v := .int (nI 0)) (ty := .int) (C := RX7) (T := TX7) (N := 26) hx hb hts hinX7 tyX7 tyX7_ok nmX7 hown hK.1 hP hD hS 0 rfl rfl 0 (by decide) (hts (.fieldLink RX7 72 "RotaforgeModel" "thrown" "I") (by decide +kernel)) (fun _ h9 => h9) rfl (by decide +kernel) rfl rfl (Nat.le_of_ble_eq_true rfl) dX7_change_2 (fun H locs hP hD hS => ?_)
  have hP : va_P G.1 vwCl (wRM G z r (upF f 0 (nI 0))) H := gMs_0 hP
  have hD : va_D (gF z 20) (wRM G z r (upF f 0 (nI 0))) := gD_RM hz
  refine lv_aload_n hx hb dX7_change_5 rfl (lv_at hl 0 rfl) ?_
  refine lv_iload_n hx hb dX7_change_6 rfl (lv_at hl 1 rfl) ?_
  refine g_callC (r := (b2i (mIn x1 (nI 0) (f 4 - nI 1)))) (W.runV (C := RX7) (As := [.int x1]) (rest := []) S0 (c_X7_isChange l G _ z r (upF f 0 (nI 0)) hP x1) (cwV 1 hts gX7_change_X7_isChange rfl rfl rfl (by decide +kernel) ⟨Nat.le_of_ble_eq_true rfl, Nat.le_of_ble_eq_true rfl⟩) (g_preV hK hP (q0 := 0) (ci := 7) (q := (RX7, TX7, 26)) rfl rfl) rfl rfl hl.1 rfl (lv_room (Nat.le_of_ble_eq_true rfl)) dX7_change_7 ⟨Nat.zero_le _, Nat.zero_le _⟩) ?_
  refine lv_if_eq (tgt := 54) hx hb dX7_change_10 (by decide) (fun c_1 => ?_) (fun c_1 => ?_)
  · have c_1 := b2i_f c_1
    refine lv_aload_n hx hb dX7_change_54 rfl (lv_at hl 0 rfl) ?_
    refine lv_iconst (v := nI 1) hx hb dX7_change_55 (by decide +kernel) ?_
    refine g_callw (va_runV (C := RX7) (As := [.int (nI 1)]) (rest := []) S0 (c_X7_fails l G _ z hz r (upF f 0 (nI 0)) hP (nI 1)) (cwV 1 hts gX7_change_X7_fails rfl rfl rfl (by decide +kernel) ⟨Nat.le_of_ble_eq_true rfl, Nat.le_of_ble_eq_true rfl⟩) (g_preV hK hP (q0 := 0) (ci := 7) (q := (RX7, TX7, 26)) rfl rfl) rfl rfl hl.1 rfl (lv_room (Nat.le_of_ble_eq_true rfl)) dX7_change_56 ⟨Nat.zero_le _, Nat.zero_le _⟩) hS (fun _ h => h) (fun _ h => h) (fun H locs hP _ hS => ?_)
    have hP : va_P G.1 vwCl (wRM G z r (upF (upF f 0 (nI 0)) 0 (nI 1))) H := hP
    have hD : va_D (gF z 20) (wRM G z r (upF (upF f 0 (nI 0)) 0 (nI 1))) := gD_RM hz
    have hq : (nI 0) = (if mIn x1 (nI 0) (f 4 - nI 1) then nI 10000 * r 4 (cN x1) + nI 1000 * r 5 (cN x1) + nI 100 * r 6 (cN x1) + r 7 (cN x1) else nI 0) := by
      first | with_reducible rfl | with_reducible exact nI_add _ _ | (simp only [upF_uu, c_1, ↓reduceIte, Bool.false_eq_true, decide_true, decide_false, Bool.not_true, Bool.not_false, Bool.or_true, Bool.true_or, Bool.or_false, Bool.false_or]; done) | (simp only [upF_uu, c_1, ↓reduceIte, Bool.false_eq_true, decide_true, decide_false, Bool.not_true, Bool.not_false, Bool.or_true, Bool.true_or, Bool.or_false, Bool.false_or]; with_reducible rfl) | (simp only [upF_uu, c_1, ↓reduceIte, Bool.false_eq_true, decide_true, decide_false, Bool.not_true, Bool.not_false, Bool.or_true, Bool.true_or, Bool.or_false, Bool.false_or]; rfl) | (simp [b2i, upF_uu, c_1]; done) | rfl
    have hPf : va_P G.1 vwCl (wRM G z r (upF f 0 (if mIn x1 (nI 0) (f 4 - nI 1) then nI 0 else nI 1))) H := by
      have e1 : r = r := by first | with_reducible rfl | (simp only [upF_uu, c_1, ↓reduceIte, Bool.false_eq_true]; done) | (simp only [upF_uu, c_1, ↓reduceIte, Bool.false_eq_true]; rfl) | rfl
      have e2 : upF f 0 (if mIn x1 (nI 0) (f 4 - nI 1) then nI 0 else nI 1) = upF (upF f 0 (nI 0)) 0 (nI 1) := by first | with_reducible rfl | (simp only [upF_uu, c_1, ↓reduceIte, Bool.false_eq_true]; done) | (simp only [upF_uu, c_1, ↓reduceIte, Bool.false_eq_true]; rfl) | rfl
      rw [e1, e2]; exact hP
    exact W.iret (v := nI 0) hx hb hr (fun t ht _ => ⟨⟨_, (), rfl, hq, g_hp ht hPf⟩, hS.F ht⟩) hS.2.2 dX7_change_59
  · have c_1 := b2i_t c_1
    refine lv_sipush (v := nI 10000) hx hb dX7_change_13 (by decide +kernel) ?_
    refine lv_aload_n hx hb dX7_change_16 rfl (lv_at hl 0 rfl) ?_
    refine va_get (D := G.1) (ci := 7) (v := .ref (z 5)) (C := RX7) (T := TX7) (N := 26) hx hb hts hinX7 hown hK.1 hP 0 rfl rfl 9 (by decide) (hts (.fieldLink RX7 27 "RotaforgeModel" "makers" "[I") (by decide +kernel)) (fun _ h9 => h9) rfl dX7_change_17 ?_
    refine lv_iload_n hx hb dX7_change_20 rfl (lv_at hl 1 rfl) ?_
    refine g_iald hx hb hK.1 hP 5 0 rfl rfl (cN x1) ((mIn_lt hn c_1 (by omega)).1) ((Nat.lt_of_lt_of_le (mIn_lt hn c_1 (by omega)).2 hn2)) (by decide) dX7_change_21 ?_
    refine lv_imul hx hb dX7_change_22 ?_
    refine lv_sipush (v := nI 1000) hx hb dX7_change_23 (by decide +kernel) ?_
    refine lv_aload_n hx hb dX7_change_26 rfl (lv_at hl 0 rfl) ?_
    refine va_get (D := G.1) (ci := 7) (v := .ref (z 6)) (C := RX7) (T := TX7) (N := 26) hx hb hts hinX7 hown hK.1 hP 0 rfl rfl 10 (by decide) (hts (.fieldLink RX7 30 "RotaforgeModel" "sorts" "[I") (by decide +kernel)) (fun _ h9 => h9) rfl dX7_change_27 ?_
    refine lv_iload_n hx hb dX7_change_30 rfl (lv_at hl 1 rfl) ?_
    refine g_iald hx hb hK.1 hP 6 0 rfl rfl (cN x1) ((mIn_lt hn c_1 (by omega)).1) ((Nat.lt_of_lt_of_le (mIn_lt hn c_1 (by omega)).2 hn2)) (by decide) dX7_change_31 ?_
    refine lv_imul hx hb dX7_change_32 ?_
    refine lv_iadd hx hb dX7_change_33 ?_
    refine lv_bipush (v := nI 100) hx hb dX7_change_34 (by decide +kernel) ?_
    refine lv_aload_n hx hb dX7_change_36 rfl (lv_at hl 0 rfl) ?_
    refine va_get (D := G.1) (ci := 7) (v := .ref (z 7)) (C := RX7) (T := TX7) (N := 26) hx hb hts hinX7 hown hK.1 hP 0 rfl rfl 11 (by decide) (hts (.fieldLink RX7 33 "RotaforgeModel" "targets" "[I") (by decide +kernel)) (fun _ h9 => h9) rfl dX7_change_37 ?_
    refine lv_iload_n hx hb dX7_change_40 rfl (lv_at hl 1 rfl) ?_
    refine g_iald hx hb hK.1 hP 7 0 rfl rfl (cN x1) ((mIn_lt hn c_1 (by omega)).1) ((Nat.lt_of_lt_of_le (mIn_lt hn c_1 (by omega)).2 hn2)) (by decide) dX7_change_41 ?_
    refine lv_imul hx hb dX7_change_42 ?_
    refine lv_iadd hx hb dX7_change_43 ?_
    refine lv_aload_n hx hb dX7_change_44 rfl (lv_at hl 0 rfl) ?_
    refine va_get (D := G.1) (ci := 7) (v := .ref (z 8)) (C := RX7) (T := TX7) (N := 26) hx hb hts hinX7 hown hK.1 hP 0 rfl rfl 12 (by decide) (hts (.fieldLink RX7 36 "RotaforgeModel" "values" "[I") (by decide +kernel)) (fun _ h9 => h9) rfl dX7_change_45 ?_
    refine lv_iload_n hx hb dX7_change_48 rfl (lv_at hl 1 rfl) ?_
    refine g_iald hx hb hK.1 hP 8 0 rfl rfl (cN x1) ((mIn_lt hn c_1 (by omega)).1) ((Nat.lt_of_lt_of_le (mIn_lt hn c_1 (by omega)).2 hn2)) (by decide) dX7_change_49 ?_
    refine lv_iadd hx hb dX7_change_50 ?_
    refine lv_goto (tgt := 59) hx hb dX7_change_51 (by decide) ?_
    have hq : (((((nI 10000) * ((r 4) (cN x1))) + ((nI 1000) * ((r 5) (cN x1)))) + ((nI 100) * ((r 6) (cN x1)))) + ((r 7) (cN x1))) = (if mIn x1 (nI 0) (f 4 - nI 1) then nI 10000 * r 4 (cN x1) + nI 1000 * r 5 (cN x1) + nI 100 * r 6 (cN x1) + r 7 (cN x1) else nI 0) := by
      first | with_reducible rfl | with_reducible exact nI_add _ _ | (simp only [upF_uu, c_1, ↓reduceIte, Bool.false_eq_true, decide_true, decide_false, Bool.not_true, Bool.not_false, Bool.or_true, Bool.true_or, Bool.or_false, Bool.false_or]; done) | (simp only [upF_uu, c_1, ↓reduceIte, Bool.false_eq_true, decide_true, decide_false, Bool.not_true, Bool.not_false, Bool.or_true, Bool.true_or, Bool.or_false, Bool.false_or]; with_reducible rfl) | (simp only [upF_uu, c_1, ↓reduceIte, Bool.false_eq_true, decide_true, decide_false, Bool.not_true, Bool.not_false, Bool.or_true, Bool.true_or, Bool.or_false, Bool.false_or]; rfl) | (simp [b2i, upF_uu, c_1]; done) | rfl
    have hPf : va_P G.1 vwCl (wRM G z r (upF f 0 (if mIn x1 (nI 0) (f 4 - nI 1) then nI 0 else nI 1))) H := by
      have e1 : r = r := by first | with_reducible rfl | (simp only [upF_uu, c_1, ↓reduceIte, Bool.false_eq_true]; done) | (simp only [upF_uu, c_1, ↓reduceIte, Bool.false_eq_true]; rfl) | rfl
      have e2 : upF f 0 (if mIn x1 (nI 0) (f 4 - nI 1) then nI 0 else nI 1) = upF f 0 (nI 0) := by first | with_reducible rfl | (simp only [upF_uu, c_1, ↓reduceIte, Bool.false_eq_true]; done) | (simp only [upF_uu, c_1, ↓reduceIte, Bool.false_eq_true]; rfl) | rfl
      rw [e1, e2]; exact hP
    exact W.iret (v := ((((nI 10000) * ((r 4) (cN x1))) + ((nI 1000) * ((r 5) (cN x1)))) + ((nI 100) * ((r 6) (cN x1)))) + ((r 7) (cN x1))) hx hb hr (fun t ht _ => ⟨⟨_, (), rfl, hq, g_hp ht hPf⟩, hS.F ht⟩) hS.2.2 dX7_change_59

set_option maxHeartbeats 4000000 in
set_option maxRecDepth 100000 in
theorem c_X7_madeAt (l : Launch) (G : gG) (H0 : Heap) (z : Nat → Nat) (hz : gDis z 20) (r : Nat → Nat → Int32) (f : Nat → Int32) (hP : va_P G.1 vwCl (wRM G z r f) H0) (x1 : Int32) (n d k t : Nat) (hM : mOK r f n d k t) : gMw l yX7_madeAt wsX7_madeAt 2 43 G H0 [.ref (z 0), .int x1] (if mIn x1 (nI 0) (f 4 - nI 1) then r 8 (cN x1) else nI 0) (wRM G z r (upF f 0 (if mIn x1 (nI 0) (f 4 - nI 1) then nI 0 else nI 1))) (gF z 20) := by
  refine Met.ofW (cc := cX7_madeAt) (maxL := 2) (ret := (some .int)) (by decide) rfl ?_
  intro p_ e_ s m args below meth c s₁ B hml hv
  obtain ⟨rfl, rfl, hK⟩ := hv
  have hx := B.exec
  have hb := B.bytes
  have hr := B.returns
  have hts := atoms_spec (ws := wsX7_madeAt) B.pre
  have hown : s.vm.findClass RX7 = some m.cls := findClass_of_methodNamed B.named
  have hlocks := B.notSynchronized
  have hinX7 : ∀ w ∈ wsX70, w ∈ wsX7_madeAt := by decide +kernel
  have S0 : CallFix p_ m c cX7_madeAt 2 s _ wsX7_madeAt RX7 := ⟨hx, hb, hml, hown, hts⟩
  have hD : va_D (gF z 20) (wRM G z r f) := gD_RM hz
  have hS : va_S (gF z 20) s.heap s.heap [] := va_S.rf
  have hl := lv_entry ([.ref (z 0), .int x1]) (n := 2) (Nat.le_of_ble_eq_true rfl)
  rw [lg_entry_eq]
  generalize (lg_sl ([.ref (z 0), .int x1]) ++ List.replicate (2 - (lg_sl ([.ref (z 0), .int x1])).length) Slot.unset).toArray = ls at hl ⊢
  have hl : lv_has ls 2 [(0, .ref (z 0)), (1, .int x1)] := hl
  obtain ⟨hn, hn2, hd, hd2, hk, hk2, ht, ht2, hh, hm⟩ := id hM
  refine lv_aload_n hx hb dX7_madeAt_0 rfl (lv_at hl 0 rfl) ?_
  refine lv_iconst (v := nI 0) hx hb dX7_madeAt_1 (by decide +kernel) ?_
  refine va_put (D := G.1) (ci := 7) (v := .int (nI 0)) (ty := .int) (C := RX7) (T := TX7) (N := 26) hx hb hts hinX7 tyX7 tyX7_ok nmX7 hown hK.1 hP hD hS 0 rfl rfl 0 (by decide) (hts (.fieldLink RX7 72 "RotaforgeModel" "thrown" "I") (by decide +kernel)) (fun _ h9 => h9) rfl (by decide +kernel) rfl rfl (Nat.le_of_ble_eq_true rfl) dX7_madeAt_2 (fun H locs hP hD hS => ?_)
  have hP : va_P G.1 vwCl (wRM G z r (upF f 0 (nI 0))) H := gMs_0 hP
  have hD : va_D (gF z 20) (wRM G z r (upF f 0 (nI 0))) := gD_RM hz
  refine lv_aload_n hx hb dX7_madeAt_5 rfl (lv_at hl 0 rfl) ?_
  refine lv_iload_n hx hb dX7_madeAt_6 rfl (lv_at hl 1 rfl) ?_
  refine g_callC (r := (b2i (mIn x1 (nI 0) (f 4 - nI 1)))) (W.runV (C := RX7) (As := [.int x1]) (rest := []) S0 (c_X7_isChange l G _ z r (upF f 0 (nI 0)) hP x1) (cwV 1 hts gX7_madeAt_X7_isChange rfl rfl rfl (by decide +kernel) ⟨Nat.le_of_ble_eq_true rfl, Nat.le_of_ble_eq_true rfl⟩) (g_preV hK hP (q0 := 0) (ci := 7) (q := (RX7, TX7, 26)) rfl rfl) rfl rfl hl.1 rfl (lv_room (Nat.le_of_ble_eq_true rfl)) dX7_madeAt_7 ⟨Nat.zero_le _, Nat.zero_le _⟩) ?_
  refine lv_if_eq (tgt := 22) hx hb dX7_madeAt_10 (by decide) (fun c_1 => ?_) (fun c_1 => ?_)
  · have c_1 := b2i_f c_1
    refine lv_aload_n hx hb dX7_madeAt_22 rfl (lv_at hl 0 rfl) ?_
    refine lv_iconst (v := nI 1) hx hb dX7_madeAt_23 (by decide +kernel) ?_
    refine g_callw (va_runV (C := RX7) (As := [.int (nI 1)]) (rest := []) S0 (c_X7_fails l G _ z hz r (upF f 0 (nI 0)) hP (nI 1)) (cwV 1 hts gX7_madeAt_X7_fails rfl rfl rfl (by decide +kernel) ⟨Nat.le_of_ble_eq_true rfl, Nat.le_of_ble_eq_true rfl⟩) (g_preV hK hP (q0 := 0) (ci := 7) (q := (RX7, TX7, 26)) rfl rfl) rfl rfl hl.1 rfl (lv_room (Nat.le_of_ble_eq_true rfl)) dX7_madeAt_24 ⟨Nat.zero_le _, Nat.zero_le _⟩) hS (fun _ h => h) (fun _ h => h) (fun H locs hP _ hS => ?_)
    have hP : va_P G.1 vwCl (wRM G z r (upF (upF f 0 (nI 0)) 0 (nI 1))) H := hP
    have hD : va_D (gF z 20) (wRM G z r (upF (upF f 0 (nI 0)) 0 (nI 1))) := gD_RM hz
    have hq : (nI 0) = (if mIn x1 (nI 0) (f 4 - nI 1) then r 8 (cN x1) else nI 0) := by
      first | with_reducible rfl | with_reducible exact nI_add _ _ | (simp only [upF_uu, c_1, ↓reduceIte, Bool.false_eq_true, decide_true, decide_false, Bool.not_true, Bool.not_false, Bool.or_true, Bool.true_or, Bool.or_false, Bool.false_or]; done) | (simp only [upF_uu, c_1, ↓reduceIte, Bool.false_eq_true, decide_true, decide_false, Bool.not_true, Bool.not_false, Bool.or_true, Bool.true_or, Bool.or_false, Bool.false_or]; with_reducible rfl) | (simp only [upF_uu, c_1, ↓reduceIte, Bool.false_eq_true, decide_true, decide_false, Bool.not_true, Bool.not_false, Bool.or_true, Bool.true_or, Bool.or_false, Bool.false_or]; rfl) | (simp [b2i, upF_uu, c_1]; done) | rfl
    have hPf : va_P G.1 vwCl (wRM G z r (upF f 0 (if mIn x1 (nI 0) (f 4 - nI 1) then nI 0 else nI 1))) H := by
      have e1 : r = r := by first | with_reducible rfl | (simp only [upF_uu, c_1, ↓reduceIte, Bool.false_eq_true]; done) | (simp only [upF_uu, c_1, ↓reduceIte, Bool.false_eq_true]; rfl) | rfl
      have e2 : upF f 0 (if mIn x1 (nI 0) (f 4 - nI 1) then nI 0 else nI 1) = upF (upF f 0 (nI 0)) 0 (nI 1) := by first | with_reducible rfl | (simp only [upF_uu, c_1, ↓reduceIte, Bool.false_eq_true]; done) | (simp only [upF_uu, c_1, ↓reduceIte, Bool.false_eq_true]; rfl) | rfl
      rw [e1, e2]; exact hP
    exact W.iret (v := nI 0) hx hb hr (fun t ht _ => ⟨⟨_, (), rfl, hq, g_hp ht hPf⟩, hS.F ht⟩) hS.2.2 dX7_madeAt_27
  · have c_1 := b2i_t c_1
    refine lv_aload_n hx hb dX7_madeAt_13 rfl (lv_at hl 0 rfl) ?_
    refine va_get (D := G.1) (ci := 7) (v := .ref (z 9)) (C := RX7) (T := TX7) (N := 26) hx hb hts hinX7 hown hK.1 hP 0 rfl rfl 13 (by decide) (hts (.fieldLink RX7 39 "RotaforgeModel" "times" "[I") (by decide +kernel)) (fun _ h9 => h9) rfl dX7_madeAt_14 ?_
    refine lv_iload_n hx hb dX7_madeAt_17 rfl (lv_at hl 1 rfl) ?_
    refine g_iald hx hb hK.1 hP 9 0 rfl rfl (cN x1) ((mIn_lt hn c_1 (by omega)).1) ((Nat.lt_of_lt_of_le (mIn_lt hn c_1 (by omega)).2 hn2)) (by decide) dX7_madeAt_18 ?_
    refine lv_goto (tgt := 27) hx hb dX7_madeAt_19 (by decide) ?_
    have hq : ((r 8) (cN x1)) = (if mIn x1 (nI 0) (f 4 - nI 1) then r 8 (cN x1) else nI 0) := by
      first | with_reducible rfl | with_reducible exact nI_add _ _ | (simp only [upF_uu, c_1, ↓reduceIte, Bool.false_eq_true, decide_true, decide_false, Bool.not_true, Bool.not_false, Bool.or_true, Bool.true_or, Bool.or_false, Bool.false_or]; done) | (simp only [upF_uu, c_1, ↓reduceIte, Bool.false_eq_true, decide_true, decide_false, Bool.not_true, Bool.not_false, Bool.or_true, Bool.true_or, Bool.or_false, Bool.false_or]; with_reducible rfl) | (simp only [upF_uu, c_1, ↓reduceIte, Bool.false_eq_true, decide_true, decide_false, Bool.not_true, Bool.not_false, Bool.or_true, Bool.true_or, Bool.or_false, Bool.false_or]; rfl) | (simp [b2i, upF_uu, c_1]; done) | rfl
    have hPf : va_P G.1 vwCl (wRM G z r (upF f 0 (if mIn x1 (nI 0) (f 4 - nI 1) then nI 0 else nI 1))) H := by
      have e1 : r = r := by first | with_reducible rfl | (simp only [upF_uu, c_1, ↓reduceIte, Bool.false_eq_true]; done) | (simp only [upF_uu, c_1, ↓reduceIte, Bool.false_eq_true]; rfl) | rfl
      have e2 : upF f 0 (if mIn x1 (nI 0) (f 4 - nI 1) then nI 0 else nI 1) = upF f 0 (nI 0) := by first | with_reducible rfl | (simp only [upF_uu, c_1, ↓reduceIte, Bool.false_eq_true]; done) | (simp only [upF_uu, c_1, ↓reduceIte, Bool.false_eq_true]; rfl) | rfl
      rw [e1, e2]; exact hP
    exact W.iret (v := (r 8) (cN x1)) hx hb hr (fun t ht _ => ⟨⟨_, (), rfl, hq, g_hp ht hPf⟩, hS.F ht⟩) hS.2.2 dX7_madeAt_27

set_option maxHeartbeats 4000000 in
set_option maxRecDepth 100000 in
theorem c_X7_trace (l : Launch) (G : gG) (H0 : Heap) (z : Nat → Nat) (hz : gDis z 20) (r : Nat → Nat → Int32) (f : Nat → Int32) (hP : va_P G.1 vwCl (wRM G z r f) H0) (x1 : Int32) (n d k t : Nat) (hM : mOK r f n d k t) : gMw l yX7_trace wsX7_trace 5 125 G H0 [.ref (z 0), .int x1] (if mIn x1 (nI 0) (nI 3) then mTrace r n d x1 else nI 0) (wRM G z r (upF f 0 (if mIn x1 (nI 0) (nI 3) then nI 0 else nI 1))) (gF z 20) := by
  refine Met.ofW (cc := cX7_trace) (maxL := 2) (ret := (some .int)) (by decide) rfl ?_
  intro p_ e_ s m args below meth c s₁ B hml hv
  obtain ⟨rfl, rfl, hK⟩ := hv
  have hx := B.exec
  have hb := B.bytes
  have hr := B.returns
  have hts := atoms_spec (ws := wsX7_trace) B.pre
  have hown : s.vm.findClass RX7 = some m.cls := findClass_of_methodNamed B.named
  have hlocks := B.notSynchronized
  have hinX7 : ∀ w ∈ wsX70, w ∈ wsX7_trace := by decide +kernel
  have S0 : CallFix p_ m c cX7_trace 2 s _ wsX7_trace RX7 := ⟨hx, hb, hml, hown, hts⟩
  have hD : va_D (gF z 20) (wRM G z r f) := gD_RM hz
  have hS : va_S (gF z 20) s.heap s.heap [] := va_S.rf
  have hl := lv_entry ([.ref (z 0), .int x1]) (n := 2) (Nat.le_of_ble_eq_true rfl)
  rw [lg_entry_eq]
  generalize (lg_sl ([.ref (z 0), .int x1]) ++ List.replicate (2 - (lg_sl ([.ref (z 0), .int x1])).length) Slot.unset).toArray = ls at hl ⊢
  have hl : lv_has ls 2 [(0, .ref (z 0)), (1, .int x1)] := hl
  obtain ⟨hn, hn2, hd, hd2, hk, hk2, ht, ht2, hh, hm⟩ := id hM
  refine lv_aload_n hx hb dX7_trace_0 rfl (lv_at hl 0 rfl) ?_
  refine lv_iconst (v := nI 0) hx hb dX7_trace_1 (by decide +kernel) ?_
  refine va_put (D := G.1) (ci := 7) (v := .int (nI 0)) (ty := .int) (C := RX7) (T := TX7) (N := 26) hx hb hts hinX7 tyX7 tyX7_ok nmX7 hown hK.1 hP hD hS 0 rfl rfl 0 (by decide) (hts (.fieldLink RX7 72 "RotaforgeModel" "thrown" "I") (by decide +kernel)) (fun _ h9 => h9) rfl (by decide +kernel) rfl rfl (Nat.le_of_ble_eq_true rfl) dX7_trace_2 (fun H locs hP hD hS => ?_)
  have hP : va_P G.1 vwCl (wRM G z r (upF f 0 (nI 0))) H := gMs_0 hP
  have hD : va_D (gF z 20) (wRM G z r (upF f 0 (nI 0))) := gD_RM hz
  refine lv_iload_n hx hb dX7_trace_5 rfl (lv_at hl 1 rfl) ?_
  refine g_callC (W.runS (As := [.int x1]) (rest := []) S0 (c_X7_isRing l G _ x1) (va_cwS 1 hts gX7_trace_X7_isRing rfl rfl rfl (by decide +kernel) ⟨Nat.le_of_ble_eq_true rfl, Nat.le_of_ble_eq_true rfl⟩) (g_preS hK) rfl rfl hl.1 rfl (lv_room (Nat.le_of_ble_eq_true rfl)) dX7_trace_6 ⟨Nat.zero_le _, Nat.zero_le _⟩) ?_
  refine lv_if_eq (tgt := 20) hx hb dX7_trace_9 (by decide) (fun c_1 => ?_) (fun c_1 => ?_)
  · have c_1 := b2i_f c_1
    refine lv_aload_n hx hb dX7_trace_20 rfl (lv_at hl 0 rfl) ?_
    refine lv_iconst (v := nI 1) hx hb dX7_trace_21 (by decide +kernel) ?_
    refine g_callw (va_runV (C := RX7) (As := [.int (nI 1)]) (rest := []) S0 (c_X7_fails l G _ z hz r (upF f 0 (nI 0)) hP (nI 1)) (cwV 1 hts gX7_trace_X7_fails rfl rfl rfl (by decide +kernel) ⟨Nat.le_of_ble_eq_true rfl, Nat.le_of_ble_eq_true rfl⟩) (g_preV hK hP (q0 := 0) (ci := 7) (q := (RX7, TX7, 26)) rfl rfl) rfl rfl hl.1 rfl (lv_room (Nat.le_of_ble_eq_true rfl)) dX7_trace_22 ⟨Nat.zero_le _, Nat.zero_le _⟩) hS (fun _ h => h) (fun _ h => h) (fun H locs hP _ hS => ?_)
    have hP : va_P G.1 vwCl (wRM G z r (upF (upF f 0 (nI 0)) 0 (nI 1))) H := hP
    have hD : va_D (gF z 20) (wRM G z r (upF (upF f 0 (nI 0)) 0 (nI 1))) := gD_RM hz
    have hq : (nI 0) = (if mIn x1 (nI 0) (nI 3) then mTrace r n d x1 else nI 0) := by
      first | with_reducible rfl | with_reducible exact nI_add _ _ | (simp only [upF_uu, c_1, ↓reduceIte, Bool.false_eq_true, decide_true, decide_false, Bool.not_true, Bool.not_false, Bool.or_true, Bool.true_or, Bool.or_false, Bool.false_or]; done) | (simp only [upF_uu, c_1, ↓reduceIte, Bool.false_eq_true, decide_true, decide_false, Bool.not_true, Bool.not_false, Bool.or_true, Bool.true_or, Bool.or_false, Bool.false_or]; with_reducible rfl) | (simp only [upF_uu, c_1, ↓reduceIte, Bool.false_eq_true, decide_true, decide_false, Bool.not_true, Bool.not_false, Bool.or_true, Bool.true_or, Bool.or_false, Bool.false_or]; rfl) | (simp [b2i, upF_uu, c_1]; done) | rfl
    have hPf : va_P G.1 vwCl (wRM G z r (upF f 0 (if mIn x1 (nI 0) (nI 3) then nI 0 else nI 1))) H := by
      have e1 : r = r := by first | with_reducible rfl | (simp only [upF_uu, c_1, ↓reduceIte, Bool.false_eq_true]; done) | (simp only [upF_uu, c_1, ↓reduceIte, Bool.false_eq_true]; rfl) | rfl
      have e2 : upF f 0 (if mIn x1 (nI 0) (nI 3) then nI 0 else nI 1) = upF (upF f 0 (nI 0)) 0 (nI 1) := by first | with_reducible rfl | (simp only [upF_uu, c_1, ↓reduceIte, Bool.false_eq_true]; done) | (simp only [upF_uu, c_1, ↓reduceIte, Bool.false_eq_true]; rfl) | rfl
      rw [e1, e2]; exact hP
    exact W.iret (v := nI 0) hx hb hr (fun t ht _ => ⟨⟨_, (), rfl, hq, g_hp ht hPf⟩, hS.F ht⟩) hS.2.2 dX7_trace_25
  · have c_1 := b2i_t c_1
    refine lv_aload_n hx hb dX7_trace_12 rfl (lv_at hl 0 rfl) ?_
    refine lv_iload_n hx hb dX7_trace_13 rfl (lv_at hl 1 rfl) ?_
    refine g_callC (W.runV (C := RX7) (As := [.int x1]) (rest := []) S0 (c_X7_traceOf l G _ z r (upF f 0 (nI 0)) hP x1 n d k t hM) (cwV 1 hts gX7_trace_X7_traceOf rfl rfl rfl (by decide +kernel) ⟨Nat.le_of_ble_eq_true rfl, Nat.le_of_ble_eq_true rfl⟩) (g_preV hK hP (q0 := 0) (ci := 7) (q := (RX7, TX7, 26)) rfl rfl) rfl rfl hl.1 rfl (lv_room (Nat.le_of_ble_eq_true rfl)) dX7_trace_14 ⟨Nat.zero_le _, Nat.zero_le _⟩) ?_
    refine lv_goto (tgt := 25) hx hb dX7_trace_17 (by decide) ?_
    have hq : (mTrace r n d x1) = (if mIn x1 (nI 0) (nI 3) then mTrace r n d x1 else nI 0) := by
      first | with_reducible rfl | with_reducible exact nI_add _ _ | (simp only [upF_uu, c_1, ↓reduceIte, Bool.false_eq_true, decide_true, decide_false, Bool.not_true, Bool.not_false, Bool.or_true, Bool.true_or, Bool.or_false, Bool.false_or]; done) | (simp only [upF_uu, c_1, ↓reduceIte, Bool.false_eq_true, decide_true, decide_false, Bool.not_true, Bool.not_false, Bool.or_true, Bool.true_or, Bool.or_false, Bool.false_or]; with_reducible rfl) | (simp only [upF_uu, c_1, ↓reduceIte, Bool.false_eq_true, decide_true, decide_false, Bool.not_true, Bool.not_false, Bool.or_true, Bool.true_or, Bool.or_false, Bool.false_or]; rfl) | (simp [b2i, upF_uu, c_1]; done) | rfl
    have hPf : va_P G.1 vwCl (wRM G z r (upF f 0 (if mIn x1 (nI 0) (nI 3) then nI 0 else nI 1))) H := by
      have e1 : r = r := by first | with_reducible rfl | (simp only [upF_uu, c_1, ↓reduceIte, Bool.false_eq_true]; done) | (simp only [upF_uu, c_1, ↓reduceIte, Bool.false_eq_true]; rfl) | rfl
      have e2 : upF f 0 (if mIn x1 (nI 0) (nI 3) then nI 0 else nI 1) = upF f 0 (nI 0) := by first | with_reducible rfl | (simp only [upF_uu, c_1, ↓reduceIte, Bool.false_eq_true]; done) | (simp only [upF_uu, c_1, ↓reduceIte, Bool.false_eq_true]; rfl) | rfl
      rw [e1, e2]; exact hP
    exact W.iret (v := mTrace r n d x1) hx hb hr (fun t ht _ => ⟨⟨_, (), rfl, hq, g_hp ht hPf⟩, hS.F ht⟩) hS.2.2 dX7_trace_25

set_option maxHeartbeats 4000000 in
set_option maxRecDepth 100000 in
theorem c_X7_traceByTrying (l : Launch) (G : gG) (H0 : Heap) (z : Nat → Nat) (hz : gDis z 20) (r : Nat → Nat → Int32) (f : Nat → Int32) (hP : va_P G.1 vwCl (wRM G z r f) H0) (x1 : Int32) (n d k t : Nat) (hM : mOK r f n d k t) : gMw l yX7_traceByTrying wsX7_traceByTrying 6 146 G H0 [.ref (z 0), .int x1] (if mIn x1 (nI 0) (nI 3) then mTrace r n d x1 else nI 0) (wRM G z r (upF f 0 (if mIn x1 (nI 0) (nI 3) then nI 0 else nI 1))) (gF z 20) := by
  refine Met.ofW (cc := cX7_traceByTrying) (maxL := 2) (ret := (some .int)) (by decide) rfl ?_
  intro p_ e_ s m args below meth c s₁ B hml hv
  obtain ⟨rfl, rfl, hK⟩ := hv
  have hx := B.exec
  have hb := B.bytes
  have hr := B.returns
  have hts := atoms_spec (ws := wsX7_traceByTrying) B.pre
  have hown : s.vm.findClass RX7 = some m.cls := findClass_of_methodNamed B.named
  have hlocks := B.notSynchronized
  have S0 : CallFix p_ m c cX7_traceByTrying 2 s _ wsX7_traceByTrying RX7 := ⟨hx, hb, hml, hown, hts⟩
  have hD : va_D (gF z 20) (wRM G z r f) := gD_RM hz
  have hS : va_S (gF z 20) s.heap s.heap [] := va_S.rf
  have hl := lv_entry ([.ref (z 0), .int x1]) (n := 2) (Nat.le_of_ble_eq_true rfl)
  rw [lg_entry_eq]
  generalize (lg_sl ([.ref (z 0), .int x1]) ++ List.replicate (2 - (lg_sl ([.ref (z 0), .int x1])).length) Slot.unset).toArray = ls at hl ⊢
  have hl : lv_has ls 2 [(0, .ref (z 0)), (1, .int x1)] := hl
  obtain ⟨hn, hn2, hd, hd2, hk, hk2, ht, ht2, hh, hm⟩ := id hM
  refine lv_aload_n hx hb dX7_traceByTrying_0 rfl (lv_at hl 0 rfl) ?_
  refine lv_iload_n hx hb dX7_traceByTrying_1 rfl (lv_at hl 1 rfl) ?_
  refine g_callw (va_runV (C := RX7) (As := [.int x1]) (rest := []) S0 (c_X7_trace l G _ z hz r f hP x1 n d k t hM) (cwV 1 hts gX7_traceByTrying_X7_trace rfl rfl rfl (by decide +kernel) ⟨Nat.le_of_ble_eq_true rfl, Nat.le_of_ble_eq_true rfl⟩) (g_preV hK hP (q0 := 0) (ci := 7) (q := (RX7, TX7, 26)) rfl rfl) rfl rfl hl.1 rfl (lv_room (Nat.le_of_ble_eq_true rfl)) dX7_traceByTrying_2 ⟨Nat.zero_le _, Nat.zero_le _⟩) hS (fun _ h => h) (fun _ h => h) (fun H locs hP _ hS => ?_)
  have hP : va_P G.1 vwCl (wRM G z r (upF f 0 (if mIn x1 (nI 0) (nI 3) then nI 0 else nI 1))) H := hP
  have hD : va_D (gF z 20) (wRM G z r (upF f 0 (if mIn x1 (nI 0) (nI 3) then nI 0 else nI 1))) := gD_RM hz
  have hq : (if mIn x1 (nI 0) (nI 3) then mTrace r n d x1 else nI 0) = (if mIn x1 (nI 0) (nI 3) then mTrace r n d x1 else nI 0) := by
    first | with_reducible rfl | with_reducible exact nI_add _ _ | (simp only [true_and, ↓reduceIte, Bool.false_eq_true, decide_true, decide_false, Bool.not_true, Bool.not_false, Bool.or_true, Bool.true_or, Bool.or_false, Bool.false_or]; done) | (simp only [true_and, ↓reduceIte, Bool.false_eq_true, decide_true, decide_false, Bool.not_true, Bool.not_false, Bool.or_true, Bool.true_or, Bool.or_false, Bool.false_or]; with_reducible rfl) | (simp only [true_and, ↓reduceIte, Bool.false_eq_true, decide_true, decide_false, Bool.not_true, Bool.not_false, Bool.or_true, Bool.true_or, Bool.or_false, Bool.false_or]; rfl) | (simp [b2i, true_and]; done) | rfl
  have hPf : va_P G.1 vwCl (wRM G z r (upF f 0 (if mIn x1 (nI 0) (nI 3) then nI 0 else nI 1))) H := by
    have e1 : r = r := by first | with_reducible rfl | (simp only [true_and, ↓reduceIte, Bool.false_eq_true]; done) | (simp only [true_and, ↓reduceIte, Bool.false_eq_true]; rfl) | rfl
    have e2 : upF f 0 (if mIn x1 (nI 0) (nI 3) then nI 0 else nI 1) = upF f 0 (if mIn x1 (nI 0) (nI 3) then nI 0 else nI 1) := by first | with_reducible rfl | (simp only [true_and, ↓reduceIte, Bool.false_eq_true]; done) | (simp only [true_and, ↓reduceIte, Bool.false_eq_true]; rfl) | rfl
    rw [e1, e2]; exact hP
  exact W.iret (v := if mIn x1 (nI 0) (nI 3) then mTrace r n d x1 else nI 0) hx hb hr (fun t ht _ => ⟨⟨_, (), rfl, hq, g_hp ht hPf⟩, hS.F ht⟩) hS.2.2 dX7_traceByTrying_5

set_option maxHeartbeats 4000000 in
set_option maxRecDepth 100000 in
theorem c_X7_openIn (l : Launch) (G : gG) (H0 : Heap) (z : Nat → Nat) (hz : gDis z 20) (r : Nat → Nat → Int32) (f : Nat → Int32) (hP : va_P G.1 vwCl (wRM G z r f) H0) (x1 : Int32) (n d k t : Nat) (hM : mOK r f n d k t) : gMw l yX7_openIn wsX7_openIn 2 42 G H0 [.ref (z 0), .int x1] (if mIn x1 (nI 0) (nI 3) then mOpen r k x1 else nI 0) (wRM G z r (upF f 0 (if mIn x1 (nI 0) (nI 3) then nI 0 else nI 1))) (gF z 20) := by
  refine Met.ofW (cc := cX7_openIn) (maxL := 2) (ret := (some .int)) (by decide) rfl ?_
  intro p_ e_ s m args below meth c s₁ B hml hv
  obtain ⟨rfl, rfl, hK⟩ := hv
  have hx := B.exec
  have hb := B.bytes
  have hr := B.returns
  have hts := atoms_spec (ws := wsX7_openIn) B.pre
  have hown : s.vm.findClass RX7 = some m.cls := findClass_of_methodNamed B.named
  have hlocks := B.notSynchronized
  have hinX7 : ∀ w ∈ wsX70, w ∈ wsX7_openIn := by decide +kernel
  have S0 : CallFix p_ m c cX7_openIn 2 s _ wsX7_openIn RX7 := ⟨hx, hb, hml, hown, hts⟩
  have hD : va_D (gF z 20) (wRM G z r f) := gD_RM hz
  have hS : va_S (gF z 20) s.heap s.heap [] := va_S.rf
  have hl := lv_entry ([.ref (z 0), .int x1]) (n := 2) (Nat.le_of_ble_eq_true rfl)
  rw [lg_entry_eq]
  generalize (lg_sl ([.ref (z 0), .int x1]) ++ List.replicate (2 - (lg_sl ([.ref (z 0), .int x1])).length) Slot.unset).toArray = ls at hl ⊢
  have hl : lv_has ls 2 [(0, .ref (z 0)), (1, .int x1)] := hl
  obtain ⟨hn, hn2, hd, hd2, hk, hk2, ht, ht2, hh, hm⟩ := id hM
  refine lv_aload_n hx hb dX7_openIn_0 rfl (lv_at hl 0 rfl) ?_
  refine lv_iconst (v := nI 0) hx hb dX7_openIn_1 (by decide +kernel) ?_
  refine va_put (D := G.1) (ci := 7) (v := .int (nI 0)) (ty := .int) (C := RX7) (T := TX7) (N := 26) hx hb hts hinX7 tyX7 tyX7_ok nmX7 hown hK.1 hP hD hS 0 rfl rfl 0 (by decide) (hts (.fieldLink RX7 72 "RotaforgeModel" "thrown" "I") (by decide +kernel)) (fun _ h9 => h9) rfl (by decide +kernel) rfl rfl (Nat.le_of_ble_eq_true rfl) dX7_openIn_2 (fun H locs hP hD hS => ?_)
  have hP : va_P G.1 vwCl (wRM G z r (upF f 0 (nI 0))) H := gMs_0 hP
  have hD : va_D (gF z 20) (wRM G z r (upF f 0 (nI 0))) := gD_RM hz
  refine lv_iload_n hx hb dX7_openIn_5 rfl (lv_at hl 1 rfl) ?_
  refine g_callC (W.runS (As := [.int x1]) (rest := []) S0 (c_X7_isRing l G _ x1) (va_cwS 1 hts gX7_openIn_X7_isRing rfl rfl rfl (by decide +kernel) ⟨Nat.le_of_ble_eq_true rfl, Nat.le_of_ble_eq_true rfl⟩) (g_preS hK) rfl rfl hl.1 rfl (lv_room (Nat.le_of_ble_eq_true rfl)) dX7_openIn_6 ⟨Nat.zero_le _, Nat.zero_le _⟩) ?_
  refine lv_if_eq (tgt := 20) hx hb dX7_openIn_9 (by decide) (fun c_1 => ?_) (fun c_1 => ?_)
  · have c_1 := b2i_f c_1
    refine lv_aload_n hx hb dX7_openIn_20 rfl (lv_at hl 0 rfl) ?_
    refine lv_iconst (v := nI 1) hx hb dX7_openIn_21 (by decide +kernel) ?_
    refine g_callw (va_runV (C := RX7) (As := [.int (nI 1)]) (rest := []) S0 (c_X7_fails l G _ z hz r (upF f 0 (nI 0)) hP (nI 1)) (cwV 1 hts gX7_openIn_X7_fails rfl rfl rfl (by decide +kernel) ⟨Nat.le_of_ble_eq_true rfl, Nat.le_of_ble_eq_true rfl⟩) (g_preV hK hP (q0 := 0) (ci := 7) (q := (RX7, TX7, 26)) rfl rfl) rfl rfl hl.1 rfl (lv_room (Nat.le_of_ble_eq_true rfl)) dX7_openIn_22 ⟨Nat.zero_le _, Nat.zero_le _⟩) hS (fun _ h => h) (fun _ h => h) (fun H locs hP _ hS => ?_)
    have hP : va_P G.1 vwCl (wRM G z r (upF (upF f 0 (nI 0)) 0 (nI 1))) H := hP
    have hD : va_D (gF z 20) (wRM G z r (upF (upF f 0 (nI 0)) 0 (nI 1))) := gD_RM hz
    have hq : (nI 0) = (if mIn x1 (nI 0) (nI 3) then mOpen r k x1 else nI 0) := by
      first | with_reducible rfl | with_reducible exact nI_add _ _ | (simp only [upF_uu, c_1, ↓reduceIte, Bool.false_eq_true, decide_true, decide_false, Bool.not_true, Bool.not_false, Bool.or_true, Bool.true_or, Bool.or_false, Bool.false_or]; done) | (simp only [upF_uu, c_1, ↓reduceIte, Bool.false_eq_true, decide_true, decide_false, Bool.not_true, Bool.not_false, Bool.or_true, Bool.true_or, Bool.or_false, Bool.false_or]; with_reducible rfl) | (simp only [upF_uu, c_1, ↓reduceIte, Bool.false_eq_true, decide_true, decide_false, Bool.not_true, Bool.not_false, Bool.or_true, Bool.true_or, Bool.or_false, Bool.false_or]; rfl) | (simp [b2i, upF_uu, c_1]; done) | rfl
    have hPf : va_P G.1 vwCl (wRM G z r (upF f 0 (if mIn x1 (nI 0) (nI 3) then nI 0 else nI 1))) H := by
      have e1 : r = r := by first | with_reducible rfl | (simp only [upF_uu, c_1, ↓reduceIte, Bool.false_eq_true]; done) | (simp only [upF_uu, c_1, ↓reduceIte, Bool.false_eq_true]; rfl) | rfl
      have e2 : upF f 0 (if mIn x1 (nI 0) (nI 3) then nI 0 else nI 1) = upF (upF f 0 (nI 0)) 0 (nI 1) := by first | with_reducible rfl | (simp only [upF_uu, c_1, ↓reduceIte, Bool.false_eq_true]; done) | (simp only [upF_uu, c_1, ↓reduceIte, Bool.false_eq_true]; rfl) | rfl
      rw [e1, e2]; exact hP
    exact W.iret (v := nI 0) hx hb hr (fun t ht _ => ⟨⟨_, (), rfl, hq, g_hp ht hPf⟩, hS.F ht⟩) hS.2.2 dX7_openIn_25
  · have c_1 := b2i_t c_1
    refine lv_aload_n hx hb dX7_openIn_12 rfl (lv_at hl 0 rfl) ?_
    refine lv_iload_n hx hb dX7_openIn_13 rfl (lv_at hl 1 rfl) ?_
    refine g_callC (W.runV (C := RX7) (As := [.int x1]) (rest := []) S0 (c_X7_open l G _ z r (upF f 0 (nI 0)) hP x1 n d k t hM) (cwV 1 hts gX7_openIn_X7_open rfl rfl rfl (by decide +kernel) ⟨Nat.le_of_ble_eq_true rfl, Nat.le_of_ble_eq_true rfl⟩) (g_preV hK hP (q0 := 0) (ci := 7) (q := (RX7, TX7, 26)) rfl rfl) rfl rfl hl.1 rfl (lv_room (Nat.le_of_ble_eq_true rfl)) dX7_openIn_14 ⟨Nat.zero_le _, Nat.zero_le _⟩) ?_
    refine lv_goto (tgt := 25) hx hb dX7_openIn_17 (by decide) ?_
    have hq : (mOpen r k x1) = (if mIn x1 (nI 0) (nI 3) then mOpen r k x1 else nI 0) := by
      first | with_reducible rfl | with_reducible exact nI_add _ _ | (simp only [upF_uu, c_1, ↓reduceIte, Bool.false_eq_true, decide_true, decide_false, Bool.not_true, Bool.not_false, Bool.or_true, Bool.true_or, Bool.or_false, Bool.false_or]; done) | (simp only [upF_uu, c_1, ↓reduceIte, Bool.false_eq_true, decide_true, decide_false, Bool.not_true, Bool.not_false, Bool.or_true, Bool.true_or, Bool.or_false, Bool.false_or]; with_reducible rfl) | (simp only [upF_uu, c_1, ↓reduceIte, Bool.false_eq_true, decide_true, decide_false, Bool.not_true, Bool.not_false, Bool.or_true, Bool.true_or, Bool.or_false, Bool.false_or]; rfl) | (simp [b2i, upF_uu, c_1]; done) | rfl
    have hPf : va_P G.1 vwCl (wRM G z r (upF f 0 (if mIn x1 (nI 0) (nI 3) then nI 0 else nI 1))) H := by
      have e1 : r = r := by first | with_reducible rfl | (simp only [upF_uu, c_1, ↓reduceIte, Bool.false_eq_true]; done) | (simp only [upF_uu, c_1, ↓reduceIte, Bool.false_eq_true]; rfl) | rfl
      have e2 : upF f 0 (if mIn x1 (nI 0) (nI 3) then nI 0 else nI 1) = upF f 0 (nI 0) := by first | with_reducible rfl | (simp only [upF_uu, c_1, ↓reduceIte, Bool.false_eq_true]; done) | (simp only [upF_uu, c_1, ↓reduceIte, Bool.false_eq_true]; rfl) | rfl
      rw [e1, e2]; exact hP
    exact W.iret (v := mOpen r k x1) hx hb hr (fun t ht _ => ⟨⟨_, (), rfl, hq, g_hp ht hPf⟩, hS.F ht⟩) hS.2.2 dX7_openIn_25

set_option maxHeartbeats 4000000 in
set_option maxRecDepth 100000 in
theorem c_X7_openedAt (l : Launch) (G : gG) (H0 : Heap) (z : Nat → Nat) (hz : gDis z 20) (r : Nat → Nat → Int32) (f : Nat → Int32) (hP : va_P G.1 vwCl (wRM G z r f) H0) (x1 : Int32) (n d k t : Nat) (hM : mOK r f n d k t) : gMw l yX7_openedAt wsX7_openedAt 2 43 G H0 [.ref (z 0), .int x1] (if mIn x1 (nI 0) (f 6 - nI 1) then nI 10 * r 15 (cN x1) + r 14 (cN x1) else nI 0) (wRM G z r (upF f 0 (if mIn x1 (nI 0) (f 6 - nI 1) then nI 0 else nI 1))) (gF z 20) := by
  refine Met.ofW (cc := cX7_openedAt) (maxL := 2) (ret := (some .int)) (by decide) rfl ?_
  intro p_ e_ s m args below meth c s₁ B hml hv
  obtain ⟨rfl, rfl, hK⟩ := hv
  have hx := B.exec
  have hb := B.bytes
  have hr := B.returns
  have hts := atoms_spec (ws := wsX7_openedAt) B.pre
  have hown : s.vm.findClass RX7 = some m.cls := findClass_of_methodNamed B.named
  have hlocks := B.notSynchronized
  have hinX7 : ∀ w ∈ wsX70, w ∈ wsX7_openedAt := by decide +kernel
  have S0 : CallFix p_ m c cX7_openedAt 2 s _ wsX7_openedAt RX7 := ⟨hx, hb, hml, hown, hts⟩
  have hD : va_D (gF z 20) (wRM G z r f) := gD_RM hz
  have hS : va_S (gF z 20) s.heap s.heap [] := va_S.rf
  have hl := lv_entry ([.ref (z 0), .int x1]) (n := 2) (Nat.le_of_ble_eq_true rfl)
  rw [lg_entry_eq]
  generalize (lg_sl ([.ref (z 0), .int x1]) ++ List.replicate (2 - (lg_sl ([.ref (z 0), .int x1])).length) Slot.unset).toArray = ls at hl ⊢
  have hl : lv_has ls 2 [(0, .ref (z 0)), (1, .int x1)] := hl
  obtain ⟨hn, hn2, hd, hd2, hk, hk2, ht, ht2, hh, hm⟩ := id hM
  refine lv_aload_n hx hb dX7_openedAt_0 rfl (lv_at hl 0 rfl) ?_
  refine lv_iconst (v := nI 0) hx hb dX7_openedAt_1 (by decide +kernel) ?_
  refine va_put (D := G.1) (ci := 7) (v := .int (nI 0)) (ty := .int) (C := RX7) (T := TX7) (N := 26) hx hb hts hinX7 tyX7 tyX7_ok nmX7 hown hK.1 hP hD hS 0 rfl rfl 0 (by decide) (hts (.fieldLink RX7 72 "RotaforgeModel" "thrown" "I") (by decide +kernel)) (fun _ h9 => h9) rfl (by decide +kernel) rfl rfl (Nat.le_of_ble_eq_true rfl) dX7_openedAt_2 (fun H locs hP hD hS => ?_)
  have hP : va_P G.1 vwCl (wRM G z r (upF f 0 (nI 0))) H := gMs_0 hP
  have hD : va_D (gF z 20) (wRM G z r (upF f 0 (nI 0))) := gD_RM hz
  refine lv_aload_n hx hb dX7_openedAt_5 rfl (lv_at hl 0 rfl) ?_
  refine lv_iload_n hx hb dX7_openedAt_6 rfl (lv_at hl 1 rfl) ?_
  refine g_callC (r := (b2i (mIn x1 (nI 0) (f 6 - nI 1)))) (W.runV (C := RX7) (As := [.int x1]) (rest := []) S0 (c_X7_isIncident l G _ z r (upF f 0 (nI 0)) hP x1) (cwV 1 hts gX7_openedAt_X7_isIncident rfl rfl rfl (by decide +kernel) ⟨Nat.le_of_ble_eq_true rfl, Nat.le_of_ble_eq_true rfl⟩) (g_preV hK hP (q0 := 0) (ci := 7) (q := (RX7, TX7, 26)) rfl rfl) rfl rfl hl.1 rfl (lv_room (Nat.le_of_ble_eq_true rfl)) dX7_openedAt_7 ⟨Nat.zero_le _, Nat.zero_le _⟩) ?_
  refine lv_if_eq (tgt := 32) hx hb dX7_openedAt_10 (by decide) (fun c_1 => ?_) (fun c_1 => ?_)
  · have c_1 := b2i_f c_1
    refine lv_aload_n hx hb dX7_openedAt_32 rfl (lv_at hl 0 rfl) ?_
    refine lv_iconst (v := nI 1) hx hb dX7_openedAt_33 (by decide +kernel) ?_
    refine g_callw (va_runV (C := RX7) (As := [.int (nI 1)]) (rest := []) S0 (c_X7_fails l G _ z hz r (upF f 0 (nI 0)) hP (nI 1)) (cwV 1 hts gX7_openedAt_X7_fails rfl rfl rfl (by decide +kernel) ⟨Nat.le_of_ble_eq_true rfl, Nat.le_of_ble_eq_true rfl⟩) (g_preV hK hP (q0 := 0) (ci := 7) (q := (RX7, TX7, 26)) rfl rfl) rfl rfl hl.1 rfl (lv_room (Nat.le_of_ble_eq_true rfl)) dX7_openedAt_34 ⟨Nat.zero_le _, Nat.zero_le _⟩) hS (fun _ h => h) (fun _ h => h) (fun H locs hP _ hS => ?_)
    have hP : va_P G.1 vwCl (wRM G z r (upF (upF f 0 (nI 0)) 0 (nI 1))) H := hP
    have hD : va_D (gF z 20) (wRM G z r (upF (upF f 0 (nI 0)) 0 (nI 1))) := gD_RM hz
    have hq : (nI 0) = (if mIn x1 (nI 0) (f 6 - nI 1) then nI 10 * r 15 (cN x1) + r 14 (cN x1) else nI 0) := by
      first | with_reducible rfl | with_reducible exact nI_add _ _ | (simp only [upF_uu, c_1, ↓reduceIte, Bool.false_eq_true, decide_true, decide_false, Bool.not_true, Bool.not_false, Bool.or_true, Bool.true_or, Bool.or_false, Bool.false_or]; done) | (simp only [upF_uu, c_1, ↓reduceIte, Bool.false_eq_true, decide_true, decide_false, Bool.not_true, Bool.not_false, Bool.or_true, Bool.true_or, Bool.or_false, Bool.false_or]; with_reducible rfl) | (simp only [upF_uu, c_1, ↓reduceIte, Bool.false_eq_true, decide_true, decide_false, Bool.not_true, Bool.not_false, Bool.or_true, Bool.true_or, Bool.or_false, Bool.false_or]; rfl) | (simp [b2i, upF_uu, c_1]; done) | rfl
    have hPf : va_P G.1 vwCl (wRM G z r (upF f 0 (if mIn x1 (nI 0) (f 6 - nI 1) then nI 0 else nI 1))) H := by
      have e1 : r = r := by first | with_reducible rfl | (simp only [upF_uu, c_1, ↓reduceIte, Bool.false_eq_true]; done) | (simp only [upF_uu, c_1, ↓reduceIte, Bool.false_eq_true]; rfl) | rfl
      have e2 : upF f 0 (if mIn x1 (nI 0) (f 6 - nI 1) then nI 0 else nI 1) = upF (upF f 0 (nI 0)) 0 (nI 1) := by first | with_reducible rfl | (simp only [upF_uu, c_1, ↓reduceIte, Bool.false_eq_true]; done) | (simp only [upF_uu, c_1, ↓reduceIte, Bool.false_eq_true]; rfl) | rfl
      rw [e1, e2]; exact hP
    exact W.iret (v := nI 0) hx hb hr (fun t ht _ => ⟨⟨_, (), rfl, hq, g_hp ht hPf⟩, hS.F ht⟩) hS.2.2 dX7_openedAt_37
  · have c_1 := b2i_t c_1
    refine lv_bipush (v := nI 10) hx hb dX7_openedAt_13 (by decide +kernel) ?_
    refine lv_aload_n hx hb dX7_openedAt_15 rfl (lv_at hl 0 rfl) ?_
    refine va_get (D := G.1) (ci := 7) (v := .ref (z 16)) (C := RX7) (T := TX7) (N := 26) hx hb hts hinX7 hown hK.1 hP 0 rfl rfl 22 (by decide) (hts (.fieldLink RX7 60 "RotaforgeModel" "openeds" "[I") (by decide +kernel)) (fun _ h9 => h9) rfl dX7_openedAt_16 ?_
    refine lv_iload_n hx hb dX7_openedAt_19 rfl (lv_at hl 1 rfl) ?_
    refine g_iald hx hb hK.1 hP 16 0 rfl rfl (cN x1) ((mIn_lt hk c_1 (by omega)).1) ((Nat.lt_of_lt_of_le (mIn_lt hk c_1 (by omega)).2 hk2)) (by decide) dX7_openedAt_20 ?_
    refine lv_imul hx hb dX7_openedAt_21 ?_
    refine lv_aload_n hx hb dX7_openedAt_22 rfl (lv_at hl 0 rfl) ?_
    refine va_get (D := G.1) (ci := 7) (v := .ref (z 15)) (C := RX7) (T := TX7) (N := 26) hx hb hts hinX7 hown hK.1 hP 0 rfl rfl 21 (by decide) (hts (.fieldLink RX7 57 "RotaforgeModel" "rings" "[I") (by decide +kernel)) (fun _ h9 => h9) rfl dX7_openedAt_23 ?_
    refine lv_iload_n hx hb dX7_openedAt_26 rfl (lv_at hl 1 rfl) ?_
    refine g_iald hx hb hK.1 hP 15 0 rfl rfl (cN x1) ((mIn_lt hk c_1 (by omega)).1) ((Nat.lt_of_lt_of_le (mIn_lt hk c_1 (by omega)).2 hk2)) (by decide) dX7_openedAt_27 ?_
    refine lv_iadd hx hb dX7_openedAt_28 ?_
    refine lv_goto (tgt := 37) hx hb dX7_openedAt_29 (by decide) ?_
    have hq : (((nI 10) * ((r 15) (cN x1))) + ((r 14) (cN x1))) = (if mIn x1 (nI 0) (f 6 - nI 1) then nI 10 * r 15 (cN x1) + r 14 (cN x1) else nI 0) := by
      first | with_reducible rfl | with_reducible exact nI_add _ _ | (simp only [upF_uu, c_1, ↓reduceIte, Bool.false_eq_true, decide_true, decide_false, Bool.not_true, Bool.not_false, Bool.or_true, Bool.true_or, Bool.or_false, Bool.false_or]; done) | (simp only [upF_uu, c_1, ↓reduceIte, Bool.false_eq_true, decide_true, decide_false, Bool.not_true, Bool.not_false, Bool.or_true, Bool.true_or, Bool.or_false, Bool.false_or]; with_reducible rfl) | (simp only [upF_uu, c_1, ↓reduceIte, Bool.false_eq_true, decide_true, decide_false, Bool.not_true, Bool.not_false, Bool.or_true, Bool.true_or, Bool.or_false, Bool.false_or]; rfl) | (simp [b2i, upF_uu, c_1]; done) | rfl
    have hPf : va_P G.1 vwCl (wRM G z r (upF f 0 (if mIn x1 (nI 0) (f 6 - nI 1) then nI 0 else nI 1))) H := by
      have e1 : r = r := by first | with_reducible rfl | (simp only [upF_uu, c_1, ↓reduceIte, Bool.false_eq_true]; done) | (simp only [upF_uu, c_1, ↓reduceIte, Bool.false_eq_true]; rfl) | rfl
      have e2 : upF f 0 (if mIn x1 (nI 0) (f 6 - nI 1) then nI 0 else nI 1) = upF f 0 (nI 0) := by first | with_reducible rfl | (simp only [upF_uu, c_1, ↓reduceIte, Bool.false_eq_true]; done) | (simp only [upF_uu, c_1, ↓reduceIte, Bool.false_eq_true]; rfl) | rfl
      rw [e1, e2]; exact hP
    exact W.iret (v := ((nI 10) * ((r 15) (cN x1))) + ((r 14) (cN x1))) hx hb hr (fun t ht _ => ⟨⟨_, (), rfl, hq, g_hp ht hPf⟩, hS.F ht⟩) hS.2.2 dX7_openedAt_37

set_option maxHeartbeats 4000000 in
set_option maxRecDepth 100000 in
theorem c_X7_closedAt (l : Launch) (G : gG) (H0 : Heap) (z : Nat → Nat) (hz : gDis z 20) (r : Nat → Nat → Int32) (f : Nat → Int32) (hP : va_P G.1 vwCl (wRM G z r f) H0) (x1 : Int32) (n d k t : Nat) (hM : mOK r f n d k t) : gMw l yX7_closedAt wsX7_closedAt 2 43 G H0 [.ref (z 0), .int x1] (if mIn x1 (nI 0) (f 6 - nI 1) then r 16 (cN x1) else nI 0) (wRM G z r (upF f 0 (if mIn x1 (nI 0) (f 6 - nI 1) then nI 0 else nI 1))) (gF z 20) := by
  refine Met.ofW (cc := cX7_closedAt) (maxL := 2) (ret := (some .int)) (by decide) rfl ?_
  intro p_ e_ s m args below meth c s₁ B hml hv
  obtain ⟨rfl, rfl, hK⟩ := hv
  have hx := B.exec
  have hb := B.bytes
  have hr := B.returns
  have hts := atoms_spec (ws := wsX7_closedAt) B.pre
  have hown : s.vm.findClass RX7 = some m.cls := findClass_of_methodNamed B.named
  have hlocks := B.notSynchronized
  have hinX7 : ∀ w ∈ wsX70, w ∈ wsX7_closedAt := by decide +kernel
  have S0 : CallFix p_ m c cX7_closedAt 2 s _ wsX7_closedAt RX7 := ⟨hx, hb, hml, hown, hts⟩
  have hD : va_D (gF z 20) (wRM G z r f) := gD_RM hz
  have hS : va_S (gF z 20) s.heap s.heap [] := va_S.rf
  have hl := lv_entry ([.ref (z 0), .int x1]) (n := 2) (Nat.le_of_ble_eq_true rfl)
  rw [lg_entry_eq]
  generalize (lg_sl ([.ref (z 0), .int x1]) ++ List.replicate (2 - (lg_sl ([.ref (z 0), .int x1])).length) Slot.unset).toArray = ls at hl ⊢
  have hl : lv_has ls 2 [(0, .ref (z 0)), (1, .int x1)] := hl
  obtain ⟨hn, hn2, hd, hd2, hk, hk2, ht, ht2, hh, hm⟩ := id hM
  refine lv_aload_n hx hb dX7_closedAt_0 rfl (lv_at hl 0 rfl) ?_
  refine lv_iconst (v := nI 0) hx hb dX7_closedAt_1 (by decide +kernel) ?_
  refine va_put (D := G.1) (ci := 7) (v := .int (nI 0)) (ty := .int) (C := RX7) (T := TX7) (N := 26) hx hb hts hinX7 tyX7 tyX7_ok nmX7 hown hK.1 hP hD hS 0 rfl rfl 0 (by decide) (hts (.fieldLink RX7 72 "RotaforgeModel" "thrown" "I") (by decide +kernel)) (fun _ h9 => h9) rfl (by decide +kernel) rfl rfl (Nat.le_of_ble_eq_true rfl) dX7_closedAt_2 (fun H locs hP hD hS => ?_)
  have hP : va_P G.1 vwCl (wRM G z r (upF f 0 (nI 0))) H := gMs_0 hP
  have hD : va_D (gF z 20) (wRM G z r (upF f 0 (nI 0))) := gD_RM hz
  refine lv_aload_n hx hb dX7_closedAt_5 rfl (lv_at hl 0 rfl) ?_
  refine lv_iload_n hx hb dX7_closedAt_6 rfl (lv_at hl 1 rfl) ?_
  refine g_callC (r := (b2i (mIn x1 (nI 0) (f 6 - nI 1)))) (W.runV (C := RX7) (As := [.int x1]) (rest := []) S0 (c_X7_isIncident l G _ z r (upF f 0 (nI 0)) hP x1) (cwV 1 hts gX7_closedAt_X7_isIncident rfl rfl rfl (by decide +kernel) ⟨Nat.le_of_ble_eq_true rfl, Nat.le_of_ble_eq_true rfl⟩) (g_preV hK hP (q0 := 0) (ci := 7) (q := (RX7, TX7, 26)) rfl rfl) rfl rfl hl.1 rfl (lv_room (Nat.le_of_ble_eq_true rfl)) dX7_closedAt_7 ⟨Nat.zero_le _, Nat.zero_le _⟩) ?_
  refine lv_if_eq (tgt := 22) hx hb dX7_closedAt_10 (by decide) (fun c_1 => ?_) (fun c_1 => ?_)
  · have c_1 := b2i_f c_1
    refine lv_aload_n hx hb dX7_closedAt_22 rfl (lv_at hl 0 rfl) ?_
    refine lv_iconst (v := nI 1) hx hb dX7_closedAt_23 (by decide +kernel) ?_
    refine g_callw (va_runV (C := RX7) (As := [.int (nI 1)]) (rest := []) S0 (c_X7_fails l G _ z hz r (upF f 0 (nI 0)) hP (nI 1)) (cwV 1 hts gX7_closedAt_X7_fails rfl rfl rfl (by decide +kernel) ⟨Nat.le_of_ble_eq_true rfl, Nat.le_of_ble_eq_true rfl⟩) (g_preV hK hP (q0 := 0) (ci := 7) (q := (RX7, TX7, 26)) rfl rfl) rfl rfl hl.1 rfl (lv_room (Nat.le_of_ble_eq_true rfl)) dX7_closedAt_24 ⟨Nat.zero_le _, Nat.zero_le _⟩) hS (fun _ h => h) (fun _ h => h) (fun H locs hP _ hS => ?_)
    have hP : va_P G.1 vwCl (wRM G z r (upF (upF f 0 (nI 0)) 0 (nI 1))) H := hP
    have hD : va_D (gF z 20) (wRM G z r (upF (upF f 0 (nI 0)) 0 (nI 1))) := gD_RM hz
    have hq : (nI 0) = (if mIn x1 (nI 0) (f 6 - nI 1) then r 16 (cN x1) else nI 0) := by
      first | with_reducible rfl | with_reducible exact nI_add _ _ | (simp only [upF_uu, c_1, ↓reduceIte, Bool.false_eq_true, decide_true, decide_false, Bool.not_true, Bool.not_false, Bool.or_true, Bool.true_or, Bool.or_false, Bool.false_or]; done) | (simp only [upF_uu, c_1, ↓reduceIte, Bool.false_eq_true, decide_true, decide_false, Bool.not_true, Bool.not_false, Bool.or_true, Bool.true_or, Bool.or_false, Bool.false_or]; with_reducible rfl) | (simp only [upF_uu, c_1, ↓reduceIte, Bool.false_eq_true, decide_true, decide_false, Bool.not_true, Bool.not_false, Bool.or_true, Bool.true_or, Bool.or_false, Bool.false_or]; rfl) | (simp [b2i, upF_uu, c_1]; done) | rfl
    have hPf : va_P G.1 vwCl (wRM G z r (upF f 0 (if mIn x1 (nI 0) (f 6 - nI 1) then nI 0 else nI 1))) H := by
      have e1 : r = r := by first | with_reducible rfl | (simp only [upF_uu, c_1, ↓reduceIte, Bool.false_eq_true]; done) | (simp only [upF_uu, c_1, ↓reduceIte, Bool.false_eq_true]; rfl) | rfl
      have e2 : upF f 0 (if mIn x1 (nI 0) (f 6 - nI 1) then nI 0 else nI 1) = upF (upF f 0 (nI 0)) 0 (nI 1) := by first | with_reducible rfl | (simp only [upF_uu, c_1, ↓reduceIte, Bool.false_eq_true]; done) | (simp only [upF_uu, c_1, ↓reduceIte, Bool.false_eq_true]; rfl) | rfl
      rw [e1, e2]; exact hP
    exact W.iret (v := nI 0) hx hb hr (fun t ht _ => ⟨⟨_, (), rfl, hq, g_hp ht hPf⟩, hS.F ht⟩) hS.2.2 dX7_closedAt_27
  · have c_1 := b2i_t c_1
    refine lv_aload_n hx hb dX7_closedAt_13 rfl (lv_at hl 0 rfl) ?_
    refine va_get (D := G.1) (ci := 7) (v := .ref (z 17)) (C := RX7) (T := TX7) (N := 26) hx hb hts hinX7 hown hK.1 hP 0 rfl rfl 23 (by decide) (hts (.fieldLink RX7 63 "RotaforgeModel" "closeds" "[I") (by decide +kernel)) (fun _ h9 => h9) rfl dX7_closedAt_14 ?_
    refine lv_iload_n hx hb dX7_closedAt_17 rfl (lv_at hl 1 rfl) ?_
    refine g_iald hx hb hK.1 hP 17 0 rfl rfl (cN x1) ((mIn_lt hk c_1 (by omega)).1) ((Nat.lt_of_lt_of_le (mIn_lt hk c_1 (by omega)).2 hk2)) (by decide) dX7_closedAt_18 ?_
    refine lv_goto (tgt := 27) hx hb dX7_closedAt_19 (by decide) ?_
    have hq : ((r 16) (cN x1)) = (if mIn x1 (nI 0) (f 6 - nI 1) then r 16 (cN x1) else nI 0) := by
      first | with_reducible rfl | with_reducible exact nI_add _ _ | (simp only [upF_uu, c_1, ↓reduceIte, Bool.false_eq_true, decide_true, decide_false, Bool.not_true, Bool.not_false, Bool.or_true, Bool.true_or, Bool.or_false, Bool.false_or]; done) | (simp only [upF_uu, c_1, ↓reduceIte, Bool.false_eq_true, decide_true, decide_false, Bool.not_true, Bool.not_false, Bool.or_true, Bool.true_or, Bool.or_false, Bool.false_or]; with_reducible rfl) | (simp only [upF_uu, c_1, ↓reduceIte, Bool.false_eq_true, decide_true, decide_false, Bool.not_true, Bool.not_false, Bool.or_true, Bool.true_or, Bool.or_false, Bool.false_or]; rfl) | (simp [b2i, upF_uu, c_1]; done) | rfl
    have hPf : va_P G.1 vwCl (wRM G z r (upF f 0 (if mIn x1 (nI 0) (f 6 - nI 1) then nI 0 else nI 1))) H := by
      have e1 : r = r := by first | with_reducible rfl | (simp only [upF_uu, c_1, ↓reduceIte, Bool.false_eq_true]; done) | (simp only [upF_uu, c_1, ↓reduceIte, Bool.false_eq_true]; rfl) | rfl
      have e2 : upF f 0 (if mIn x1 (nI 0) (f 6 - nI 1) then nI 0 else nI 1) = upF f 0 (nI 0) := by first | with_reducible rfl | (simp only [upF_uu, c_1, ↓reduceIte, Bool.false_eq_true]; done) | (simp only [upF_uu, c_1, ↓reduceIte, Bool.false_eq_true]; rfl) | rfl
      rw [e1, e2]; exact hP
    exact W.iret (v := (r 16) (cN x1)) hx hb hr (fun t ht _ => ⟨⟨_, (), rfl, hq, g_hp ht hPf⟩, hS.F ht⟩) hS.2.2 dX7_closedAt_27

set_option maxHeartbeats 4000000 in
set_option maxRecDepth 100000 in
theorem c_X7_tracedTo (l : Launch) (G : gG) (H0 : Heap) (z : Nat → Nat) (hz : gDis z 20) (r : Nat → Nat → Int32) (f : Nat → Int32) (hP : va_P G.1 vwCl (wRM G z r f) H0) (x1 : Int32) (n d k t : Nat) (hM : mOK r f n d k t) : gMw l yX7_tracedTo wsX7_tracedTo 2 43 G H0 [.ref (z 0), .int x1] (if mIn x1 (nI 0) (f 6 - nI 1) then r 17 (cN x1) else nI 0) (wRM G z r (upF f 0 (if mIn x1 (nI 0) (f 6 - nI 1) then nI 0 else nI 1))) (gF z 20) := by
  refine Met.ofW (cc := cX7_tracedTo) (maxL := 2) (ret := (some .int)) (by decide) rfl ?_
  intro p_ e_ s m args below meth c s₁ B hml hv
  obtain ⟨rfl, rfl, hK⟩ := hv
  have hx := B.exec
  have hb := B.bytes
  have hr := B.returns
  have hts := atoms_spec (ws := wsX7_tracedTo) B.pre
  have hown : s.vm.findClass RX7 = some m.cls := findClass_of_methodNamed B.named
  have hlocks := B.notSynchronized
  have hinX7 : ∀ w ∈ wsX70, w ∈ wsX7_tracedTo := by decide +kernel
  have S0 : CallFix p_ m c cX7_tracedTo 2 s _ wsX7_tracedTo RX7 := ⟨hx, hb, hml, hown, hts⟩
  have hD : va_D (gF z 20) (wRM G z r f) := gD_RM hz
  have hS : va_S (gF z 20) s.heap s.heap [] := va_S.rf
  have hl := lv_entry ([.ref (z 0), .int x1]) (n := 2) (Nat.le_of_ble_eq_true rfl)
  rw [lg_entry_eq]
  generalize (lg_sl ([.ref (z 0), .int x1]) ++ List.replicate (2 - (lg_sl ([.ref (z 0), .int x1])).length) Slot.unset).toArray = ls at hl ⊢
  have hl : lv_has ls 2 [(0, .ref (z 0)), (1, .int x1)] := hl
  obtain ⟨hn, hn2, hd, hd2, hk, hk2, ht, ht2, hh, hm⟩ := id hM
  refine lv_aload_n hx hb dX7_tracedTo_0 rfl (lv_at hl 0 rfl) ?_
  refine lv_iconst (v := nI 0) hx hb dX7_tracedTo_1 (by decide +kernel) ?_
  refine va_put (D := G.1) (ci := 7) (v := .int (nI 0)) (ty := .int) (C := RX7) (T := TX7) (N := 26) hx hb hts hinX7 tyX7 tyX7_ok nmX7 hown hK.1 hP hD hS 0 rfl rfl 0 (by decide) (hts (.fieldLink RX7 72 "RotaforgeModel" "thrown" "I") (by decide +kernel)) (fun _ h9 => h9) rfl (by decide +kernel) rfl rfl (Nat.le_of_ble_eq_true rfl) dX7_tracedTo_2 (fun H locs hP hD hS => ?_)
  have hP : va_P G.1 vwCl (wRM G z r (upF f 0 (nI 0))) H := gMs_0 hP
  have hD : va_D (gF z 20) (wRM G z r (upF f 0 (nI 0))) := gD_RM hz
  refine lv_aload_n hx hb dX7_tracedTo_5 rfl (lv_at hl 0 rfl) ?_
  refine lv_iload_n hx hb dX7_tracedTo_6 rfl (lv_at hl 1 rfl) ?_
  refine g_callC (r := (b2i (mIn x1 (nI 0) (f 6 - nI 1)))) (W.runV (C := RX7) (As := [.int x1]) (rest := []) S0 (c_X7_isIncident l G _ z r (upF f 0 (nI 0)) hP x1) (cwV 1 hts gX7_tracedTo_X7_isIncident rfl rfl rfl (by decide +kernel) ⟨Nat.le_of_ble_eq_true rfl, Nat.le_of_ble_eq_true rfl⟩) (g_preV hK hP (q0 := 0) (ci := 7) (q := (RX7, TX7, 26)) rfl rfl) rfl rfl hl.1 rfl (lv_room (Nat.le_of_ble_eq_true rfl)) dX7_tracedTo_7 ⟨Nat.zero_le _, Nat.zero_le _⟩) ?_
  refine lv_if_eq (tgt := 22) hx hb dX7_tracedTo_10 (by decide) (fun c_1 => ?_) (fun c_1 => ?_)
  · have c_1 := b2i_f c_1
    refine lv_aload_n hx hb dX7_tracedTo_22 rfl (lv_at hl 0 rfl) ?_
    refine lv_iconst (v := nI 1) hx hb dX7_tracedTo_23 (by decide +kernel) ?_
    refine g_callw (va_runV (C := RX7) (As := [.int (nI 1)]) (rest := []) S0 (c_X7_fails l G _ z hz r (upF f 0 (nI 0)) hP (nI 1)) (cwV 1 hts gX7_tracedTo_X7_fails rfl rfl rfl (by decide +kernel) ⟨Nat.le_of_ble_eq_true rfl, Nat.le_of_ble_eq_true rfl⟩) (g_preV hK hP (q0 := 0) (ci := 7) (q := (RX7, TX7, 26)) rfl rfl) rfl rfl hl.1 rfl (lv_room (Nat.le_of_ble_eq_true rfl)) dX7_tracedTo_24 ⟨Nat.zero_le _, Nat.zero_le _⟩) hS (fun _ h => h) (fun _ h => h) (fun H locs hP _ hS => ?_)
    have hP : va_P G.1 vwCl (wRM G z r (upF (upF f 0 (nI 0)) 0 (nI 1))) H := hP
    have hD : va_D (gF z 20) (wRM G z r (upF (upF f 0 (nI 0)) 0 (nI 1))) := gD_RM hz
    have hq : (nI 0) = (if mIn x1 (nI 0) (f 6 - nI 1) then r 17 (cN x1) else nI 0) := by
      first | with_reducible rfl | with_reducible exact nI_add _ _ | (simp only [upF_uu, c_1, ↓reduceIte, Bool.false_eq_true, decide_true, decide_false, Bool.not_true, Bool.not_false, Bool.or_true, Bool.true_or, Bool.or_false, Bool.false_or]; done) | (simp only [upF_uu, c_1, ↓reduceIte, Bool.false_eq_true, decide_true, decide_false, Bool.not_true, Bool.not_false, Bool.or_true, Bool.true_or, Bool.or_false, Bool.false_or]; with_reducible rfl) | (simp only [upF_uu, c_1, ↓reduceIte, Bool.false_eq_true, decide_true, decide_false, Bool.not_true, Bool.not_false, Bool.or_true, Bool.true_or, Bool.or_false, Bool.false_or]; rfl) | (simp [b2i, upF_uu, c_1]; done) | rfl
    have hPf : va_P G.1 vwCl (wRM G z r (upF f 0 (if mIn x1 (nI 0) (f 6 - nI 1) then nI 0 else nI 1))) H := by
      have e1 : r = r := by first | with_reducible rfl | (simp only [upF_uu, c_1, ↓reduceIte, Bool.false_eq_true]; done) | (simp only [upF_uu, c_1, ↓reduceIte, Bool.false_eq_true]; rfl) | rfl
      have e2 : upF f 0 (if mIn x1 (nI 0) (f 6 - nI 1) then nI 0 else nI 1) = upF (upF f 0 (nI 0)) 0 (nI 1) := by first | with_reducible rfl | (simp only [upF_uu, c_1, ↓reduceIte, Bool.false_eq_true]; done) | (simp only [upF_uu, c_1, ↓reduceIte, Bool.false_eq_true]; rfl) | rfl
      rw [e1, e2]; exact hP
    exact W.iret (v := nI 0) hx hb hr (fun t ht _ => ⟨⟨_, (), rfl, hq, g_hp ht hPf⟩, hS.F ht⟩) hS.2.2 dX7_tracedTo_27
  · have c_1 := b2i_t c_1
    refine lv_aload_n hx hb dX7_tracedTo_13 rfl (lv_at hl 0 rfl) ?_
    refine va_get (D := G.1) (ci := 7) (v := .ref (z 18)) (C := RX7) (T := TX7) (N := 26) hx hb hts hinX7 hown hK.1 hP 0 rfl rfl 24 (by decide) (hts (.fieldLink RX7 66 "RotaforgeModel" "traced" "[I") (by decide +kernel)) (fun _ h9 => h9) rfl dX7_tracedTo_14 ?_
    refine lv_iload_n hx hb dX7_tracedTo_17 rfl (lv_at hl 1 rfl) ?_
    refine g_iald hx hb hK.1 hP 18 0 rfl rfl (cN x1) ((mIn_lt hk c_1 (by omega)).1) ((Nat.lt_of_lt_of_le (mIn_lt hk c_1 (by omega)).2 hk2)) (by decide) dX7_tracedTo_18 ?_
    refine lv_goto (tgt := 27) hx hb dX7_tracedTo_19 (by decide) ?_
    have hq : ((r 17) (cN x1)) = (if mIn x1 (nI 0) (f 6 - nI 1) then r 17 (cN x1) else nI 0) := by
      first | with_reducible rfl | with_reducible exact nI_add _ _ | (simp only [upF_uu, c_1, ↓reduceIte, Bool.false_eq_true, decide_true, decide_false, Bool.not_true, Bool.not_false, Bool.or_true, Bool.true_or, Bool.or_false, Bool.false_or]; done) | (simp only [upF_uu, c_1, ↓reduceIte, Bool.false_eq_true, decide_true, decide_false, Bool.not_true, Bool.not_false, Bool.or_true, Bool.true_or, Bool.or_false, Bool.false_or]; with_reducible rfl) | (simp only [upF_uu, c_1, ↓reduceIte, Bool.false_eq_true, decide_true, decide_false, Bool.not_true, Bool.not_false, Bool.or_true, Bool.true_or, Bool.or_false, Bool.false_or]; rfl) | (simp [b2i, upF_uu, c_1]; done) | rfl
    have hPf : va_P G.1 vwCl (wRM G z r (upF f 0 (if mIn x1 (nI 0) (f 6 - nI 1) then nI 0 else nI 1))) H := by
      have e1 : r = r := by first | with_reducible rfl | (simp only [upF_uu, c_1, ↓reduceIte, Bool.false_eq_true]; done) | (simp only [upF_uu, c_1, ↓reduceIte, Bool.false_eq_true]; rfl) | rfl
      have e2 : upF f 0 (if mIn x1 (nI 0) (f 6 - nI 1) then nI 0 else nI 1) = upF f 0 (nI 0) := by first | with_reducible rfl | (simp only [upF_uu, c_1, ↓reduceIte, Bool.false_eq_true]; done) | (simp only [upF_uu, c_1, ↓reduceIte, Bool.false_eq_true]; rfl) | rfl
      rw [e1, e2]; exact hP
    exact W.iret (v := (r 17) (cN x1)) hx hb hr (fun t ht _ => ⟨⟨_, (), rfl, hq, g_hp ht hPf⟩, hS.F ht⟩) hS.2.2 dX7_tracedTo_27

set_option maxHeartbeats 4000000 in
set_option maxRecDepth 100000 in
theorem c_X7_firstCalled (l : Launch) (G : gG) (H0 : Heap) (z : Nat → Nat) (hz : gDis z 20) (r : Nat → Nat → Int32) (f : Nat → Int32) (hP : va_P G.1 vwCl (wRM G z r f) H0) (x1 : Int32) (n d k t : Nat) (hM : mOK r f n d k t) : gMw l yX7_firstCalled wsX7_firstCalled 2 43 G H0 [.ref (z 0), .int x1] (if mIn x1 (nI 0) (f 6 - nI 1) then r 18 (cN x1) else nI 0) (wRM G z r (upF f 0 (if mIn x1 (nI 0) (f 6 - nI 1) then nI 0 else nI 1))) (gF z 20) := by
  refine Met.ofW (cc := cX7_firstCalled) (maxL := 2) (ret := (some .int)) (by decide) rfl ?_
  intro p_ e_ s m args below meth c s₁ B hml hv
  obtain ⟨rfl, rfl, hK⟩ := hv
  have hx := B.exec
  have hb := B.bytes
  have hr := B.returns
  have hts := atoms_spec (ws := wsX7_firstCalled) B.pre
  have hown : s.vm.findClass RX7 = some m.cls := findClass_of_methodNamed B.named
  have hlocks := B.notSynchronized
  have hinX7 : ∀ w ∈ wsX70, w ∈ wsX7_firstCalled := by decide +kernel
  have S0 : CallFix p_ m c cX7_firstCalled 2 s _ wsX7_firstCalled RX7 := ⟨hx, hb, hml, hown, hts⟩
  have hD : va_D (gF z 20) (wRM G z r f) := gD_RM hz
  have hS : va_S (gF z 20) s.heap s.heap [] := va_S.rf
  have hl := lv_entry ([.ref (z 0), .int x1]) (n := 2) (Nat.le_of_ble_eq_true rfl)
  rw [lg_entry_eq]
  generalize (lg_sl ([.ref (z 0), .int x1]) ++ List.replicate (2 - (lg_sl ([.ref (z 0), .int x1])).length) Slot.unset).toArray = ls at hl ⊢
  have hl : lv_has ls 2 [(0, .ref (z 0)), (1, .int x1)] := hl
  obtain ⟨hn, hn2, hd, hd2, hk, hk2, ht, ht2, hh, hm⟩ := id hM
  refine lv_aload_n hx hb dX7_firstCalled_0 rfl (lv_at hl 0 rfl) ?_
  refine lv_iconst (v := nI 0) hx hb dX7_firstCalled_1 (by decide +kernel) ?_
  refine va_put (D := G.1) (ci := 7) (v := .int (nI 0)) (ty := .int) (C := RX7) (T := TX7) (N := 26) hx hb hts hinX7 tyX7 tyX7_ok nmX7 hown hK.1 hP hD hS 0 rfl rfl 0 (by decide) (hts (.fieldLink RX7 72 "RotaforgeModel" "thrown" "I") (by decide +kernel)) (fun _ h9 => h9) rfl (by decide +kernel) rfl rfl (Nat.le_of_ble_eq_true rfl) dX7_firstCalled_2 (fun H locs hP hD hS => ?_)
  have hP : va_P G.1 vwCl (wRM G z r (upF f 0 (nI 0))) H := gMs_0 hP
  have hD : va_D (gF z 20) (wRM G z r (upF f 0 (nI 0))) := gD_RM hz
  refine lv_aload_n hx hb dX7_firstCalled_5 rfl (lv_at hl 0 rfl) ?_
  refine lv_iload_n hx hb dX7_firstCalled_6 rfl (lv_at hl 1 rfl) ?_
  refine g_callC (r := (b2i (mIn x1 (nI 0) (f 6 - nI 1)))) (W.runV (C := RX7) (As := [.int x1]) (rest := []) S0 (c_X7_isIncident l G _ z r (upF f 0 (nI 0)) hP x1) (cwV 1 hts gX7_firstCalled_X7_isIncident rfl rfl rfl (by decide +kernel) ⟨Nat.le_of_ble_eq_true rfl, Nat.le_of_ble_eq_true rfl⟩) (g_preV hK hP (q0 := 0) (ci := 7) (q := (RX7, TX7, 26)) rfl rfl) rfl rfl hl.1 rfl (lv_room (Nat.le_of_ble_eq_true rfl)) dX7_firstCalled_7 ⟨Nat.zero_le _, Nat.zero_le _⟩) ?_
  refine lv_if_eq (tgt := 22) hx hb dX7_firstCalled_10 (by decide) (fun c_1 => ?_) (fun c_1 => ?_)
  · have c_1 := b2i_f c_1
    refine lv_aload_n hx hb dX7_firstCalled_22 rfl (lv_at hl 0 rfl) ?_
    refine lv_iconst (v := nI 1) hx hb dX7_firstCalled_23 (by decide +kernel) ?_
    refine g_callw (va_runV (C := RX7) (As := [.int (nI 1)]) (rest := []) S0 (c_X7_fails l G _ z hz r (upF f 0 (nI 0)) hP (nI 1)) (cwV 1 hts gX7_firstCalled_X7_fails rfl rfl rfl (by decide +kernel) ⟨Nat.le_of_ble_eq_true rfl, Nat.le_of_ble_eq_true rfl⟩) (g_preV hK hP (q0 := 0) (ci := 7) (q := (RX7, TX7, 26)) rfl rfl) rfl rfl hl.1 rfl (lv_room (Nat.le_of_ble_eq_true rfl)) dX7_firstCalled_24 ⟨Nat.zero_le _, Nat.zero_le _⟩) hS (fun _ h => h) (fun _ h => h) (fun H locs hP _ hS => ?_)
    have hP : va_P G.1 vwCl (wRM G z r (upF (upF f 0 (nI 0)) 0 (nI 1))) H := hP
    have hD : va_D (gF z 20) (wRM G z r (upF (upF f 0 (nI 0)) 0 (nI 1))) := gD_RM hz
    have hq : (nI 0) = (if mIn x1 (nI 0) (f 6 - nI 1) then r 18 (cN x1) else nI 0) := by
      first | with_reducible rfl | with_reducible exact nI_add _ _ | (simp only [upF_uu, c_1, ↓reduceIte, Bool.false_eq_true, decide_true, decide_false, Bool.not_true, Bool.not_false, Bool.or_true, Bool.true_or, Bool.or_false, Bool.false_or]; done) | (simp only [upF_uu, c_1, ↓reduceIte, Bool.false_eq_true, decide_true, decide_false, Bool.not_true, Bool.not_false, Bool.or_true, Bool.true_or, Bool.or_false, Bool.false_or]; with_reducible rfl) | (simp only [upF_uu, c_1, ↓reduceIte, Bool.false_eq_true, decide_true, decide_false, Bool.not_true, Bool.not_false, Bool.or_true, Bool.true_or, Bool.or_false, Bool.false_or]; rfl) | (simp [b2i, upF_uu, c_1]; done) | rfl
    have hPf : va_P G.1 vwCl (wRM G z r (upF f 0 (if mIn x1 (nI 0) (f 6 - nI 1) then nI 0 else nI 1))) H := by
      have e1 : r = r := by first | with_reducible rfl | (simp only [upF_uu, c_1, ↓reduceIte, Bool.false_eq_true]; done) | (simp only [upF_uu, c_1, ↓reduceIte, Bool.false_eq_true]; rfl) | rfl
      have e2 : upF f 0 (if mIn x1 (nI 0) (f 6 - nI 1) then nI 0 else nI 1) = upF (upF f 0 (nI 0)) 0 (nI 1) := by first | with_reducible rfl | (simp only [upF_uu, c_1, ↓reduceIte, Bool.false_eq_true]; done) | (simp only [upF_uu, c_1, ↓reduceIte, Bool.false_eq_true]; rfl) | rfl
      rw [e1, e2]; exact hP
    exact W.iret (v := nI 0) hx hb hr (fun t ht _ => ⟨⟨_, (), rfl, hq, g_hp ht hPf⟩, hS.F ht⟩) hS.2.2 dX7_firstCalled_27
  · have c_1 := b2i_t c_1
    refine lv_aload_n hx hb dX7_firstCalled_13 rfl (lv_at hl 0 rfl) ?_
    refine va_get (D := G.1) (ci := 7) (v := .ref (z 19)) (C := RX7) (T := TX7) (N := 26) hx hb hts hinX7 hown hK.1 hP 0 rfl rfl 25 (by decide) (hts (.fieldLink RX7 69 "RotaforgeModel" "firsts" "[I") (by decide +kernel)) (fun _ h9 => h9) rfl dX7_firstCalled_14 ?_
    refine lv_iload_n hx hb dX7_firstCalled_17 rfl (lv_at hl 1 rfl) ?_
    refine g_iald hx hb hK.1 hP 19 0 rfl rfl (cN x1) ((mIn_lt hk c_1 (by omega)).1) ((Nat.lt_of_lt_of_le (mIn_lt hk c_1 (by omega)).2 hk2)) (by decide) dX7_firstCalled_18 ?_
    refine lv_goto (tgt := 27) hx hb dX7_firstCalled_19 (by decide) ?_
    have hq : ((r 18) (cN x1)) = (if mIn x1 (nI 0) (f 6 - nI 1) then r 18 (cN x1) else nI 0) := by
      first | with_reducible rfl | with_reducible exact nI_add _ _ | (simp only [upF_uu, c_1, ↓reduceIte, Bool.false_eq_true, decide_true, decide_false, Bool.not_true, Bool.not_false, Bool.or_true, Bool.true_or, Bool.or_false, Bool.false_or]; done) | (simp only [upF_uu, c_1, ↓reduceIte, Bool.false_eq_true, decide_true, decide_false, Bool.not_true, Bool.not_false, Bool.or_true, Bool.true_or, Bool.or_false, Bool.false_or]; with_reducible rfl) | (simp only [upF_uu, c_1, ↓reduceIte, Bool.false_eq_true, decide_true, decide_false, Bool.not_true, Bool.not_false, Bool.or_true, Bool.true_or, Bool.or_false, Bool.false_or]; rfl) | (simp [b2i, upF_uu, c_1]; done) | rfl
    have hPf : va_P G.1 vwCl (wRM G z r (upF f 0 (if mIn x1 (nI 0) (f 6 - nI 1) then nI 0 else nI 1))) H := by
      have e1 : r = r := by first | with_reducible rfl | (simp only [upF_uu, c_1, ↓reduceIte, Bool.false_eq_true]; done) | (simp only [upF_uu, c_1, ↓reduceIte, Bool.false_eq_true]; rfl) | rfl
      have e2 : upF f 0 (if mIn x1 (nI 0) (f 6 - nI 1) then nI 0 else nI 1) = upF f 0 (nI 0) := by first | with_reducible rfl | (simp only [upF_uu, c_1, ↓reduceIte, Bool.false_eq_true]; done) | (simp only [upF_uu, c_1, ↓reduceIte, Bool.false_eq_true]; rfl) | rfl
      rw [e1, e2]; exact hP
    exact W.iret (v := (r 18) (cN x1)) hx hb hr (fun t ht _ => ⟨⟨_, (), rfl, hq, g_hp ht hPf⟩, hS.F ht⟩) hS.2.2 dX7_firstCalled_27

set_option maxHeartbeats 4000000 in
set_option maxRecDepth 100000 in
theorem c_X7_rests (l : Launch) (G : gG) (H0 : Heap) (z : Nat → Nat) (hz : gDis z 20) (r : Nat → Nat → Int32) (f : Nat → Int32) (hP : va_P G.1 vwCl (wRM G z r f) H0) (x1 : Int32) (n d k t : Nat) (hM : mOK r f n d k t) : gMw l yX7_rests wsX7_rests 2 42 G H0 [.ref (z 0), .int x1] (b2i (if mIn x1 (nI 0) (nI 5) then mRest r f (cN x1) else false)) (wRM G z r (upF f 0 (if mIn x1 (nI 0) (nI 5) then nI 0 else nI 1))) (gF z 20) := by
  refine Met.ofW (cc := cX7_rests) (maxL := 2) (ret := (some .boolean)) (by decide) rfl ?_
  intro p_ e_ s m args below meth c s₁ B hml hv
  obtain ⟨rfl, rfl, hK⟩ := hv
  have hx := B.exec
  have hb := B.bytes
  have hr := B.returns
  have hts := atoms_spec (ws := wsX7_rests) B.pre
  have hown : s.vm.findClass RX7 = some m.cls := findClass_of_methodNamed B.named
  have hlocks := B.notSynchronized
  have hinX7 : ∀ w ∈ wsX70, w ∈ wsX7_rests := by decide +kernel
  have S0 : CallFix p_ m c cX7_rests 2 s _ wsX7_rests RX7 := ⟨hx, hb, hml, hown, hts⟩
  have hD : va_D (gF z 20) (wRM G z r f) := gD_RM hz
  have hS : va_S (gF z 20) s.heap s.heap [] := va_S.rf
  have hl := lv_entry ([.ref (z 0), .int x1]) (n := 2) (Nat.le_of_ble_eq_true rfl)
  rw [lg_entry_eq]
  generalize (lg_sl ([.ref (z 0), .int x1]) ++ List.replicate (2 - (lg_sl ([.ref (z 0), .int x1])).length) Slot.unset).toArray = ls at hl ⊢
  have hl : lv_has ls 2 [(0, .ref (z 0)), (1, .int x1)] := hl
  obtain ⟨hn, hn2, hd, hd2, hk, hk2, ht, ht2, hh, hm⟩ := id hM
  refine lv_aload_n hx hb dX7_rests_0 rfl (lv_at hl 0 rfl) ?_
  refine lv_iload_n hx hb dX7_rests_1 rfl (lv_at hl 1 rfl) ?_
  refine g_callC (W.runS (As := [.int x1]) (rest := [.ref (z 0)]) S0 (c_X7_isPerson l G _ x1) (va_cwS 1 hts gX7_rests_X7_isPerson rfl rfl rfl (by decide +kernel) ⟨Nat.le_of_ble_eq_true rfl, Nat.le_of_ble_eq_true rfl⟩) (g_preS hK) rfl rfl hl.1 rfl (lv_room (Nat.le_of_ble_eq_true rfl)) dX7_rests_2 ⟨Nat.zero_le _, Nat.zero_le _⟩) ?_
  refine lv_if_eq (tgt := 12) hx hb dX7_rests_5 (by decide) (fun c_1 => ?_) (fun c_1 => ?_)
  · have c_1 := b2i_f c_1
    refine lv_iconst (v := nI 1) hx hb dX7_rests_12 (by decide +kernel) ?_
    refine va_put (D := G.1) (ci := 7) (v := .int (nI 1)) (ty := .int) (C := RX7) (T := TX7) (N := 26) hx hb hts hinX7 tyX7 tyX7_ok nmX7 hown hK.1 hP hD hS 0 rfl rfl 0 (by decide) (hts (.fieldLink RX7 72 "RotaforgeModel" "thrown" "I") (by decide +kernel)) (fun _ h9 => h9) rfl (by decide +kernel) rfl rfl (Nat.le_of_ble_eq_true rfl) dX7_rests_13 (fun H locs hP hD hS => ?_)
    have hP : va_P G.1 vwCl (wRM G z r (upF f 0 (nI 1))) H := gMs_0 hP
    have hD : va_D (gF z 20) (wRM G z r (upF f 0 (nI 1))) := gD_RM hz
    refine lv_aload_n hx hb dX7_rests_16 rfl (lv_at hl 0 rfl) ?_
    refine va_get (D := G.1) (ci := 7) (v := .int (nI 1)) (C := RX7) (T := TX7) (N := 26) hx hb hts hinX7 hown hK.1 hP 0 rfl rfl 0 (by decide) (hts (.fieldLink RX7 72 "RotaforgeModel" "thrown" "I") (by decide +kernel)) (fun _ h9 => h9) rfl dX7_rests_17 ?_
    refine lv_if_ne (tgt := 35) hx hb dX7_rests_20 (by decide) (fun c_2 => ?_) (fun c_2 => ?_)
    · refine lv_iconst (v := nI 0) hx hb dX7_rests_35 (by decide +kernel) ?_
      have hq : (nI 0) = (b2i (if mIn x1 (nI 0) (nI 5) then mRest r f (cN x1) else false)) := by
        first | with_reducible rfl | with_reducible exact nI_add _ _ | (simp only [upF_uu, c_1, eq_false c_2, ↓reduceIte, Bool.false_eq_true, decide_true, decide_false, Bool.not_true, Bool.not_false, Bool.or_true, Bool.true_or, Bool.or_false, Bool.false_or]; done) | (simp only [upF_uu, c_1, eq_false c_2, ↓reduceIte, Bool.false_eq_true, decide_true, decide_false, Bool.not_true, Bool.not_false, Bool.or_true, Bool.true_or, Bool.or_false, Bool.false_or]; with_reducible rfl) | (simp only [upF_uu, c_1, eq_false c_2, ↓reduceIte, Bool.false_eq_true, decide_true, decide_false, Bool.not_true, Bool.not_false, Bool.or_true, Bool.true_or, Bool.or_false, Bool.false_or]; rfl) | (simp [b2i, upF_uu, c_1, eq_false c_2]; done) | rfl
      have hPf : va_P G.1 vwCl (wRM G z r (upF f 0 (if mIn x1 (nI 0) (nI 5) then nI 0 else nI 1))) H := by
        have e1 : r = r := by first | with_reducible rfl | (simp only [upF_uu, c_1, eq_false c_2, ↓reduceIte, Bool.false_eq_true]; done) | (simp only [upF_uu, c_1, eq_false c_2, ↓reduceIte, Bool.false_eq_true]; rfl) | rfl
        have e2 : upF f 0 (if mIn x1 (nI 0) (nI 5) then nI 0 else nI 1) = upF f 0 (nI 1) := by first | with_reducible rfl | (simp only [upF_uu, c_1, eq_false c_2, ↓reduceIte, Bool.false_eq_true]; done) | (simp only [upF_uu, c_1, eq_false c_2, ↓reduceIte, Bool.false_eq_true]; rfl) | rfl
        rw [e1, e2]; exact hP
      exact W.zret (v := nI 0) hx hb hr (z_nar hq) (fun t ht _ => ⟨⟨_, (), rfl, hq, g_hp ht hPf⟩, hS.F ht⟩) hS.2.2 dX7_rests_36
    · exact absurd c_2 (by decide)
  · have c_1 := b2i_t c_1
    refine lv_iconst (v := nI 0) hx hb dX7_rests_8 (by decide +kernel) ?_
    refine lv_goto (tgt := 13) hx hb dX7_rests_9 (by decide) ?_
    refine va_put (D := G.1) (ci := 7) (v := .int (nI 0)) (ty := .int) (C := RX7) (T := TX7) (N := 26) hx hb hts hinX7 tyX7 tyX7_ok nmX7 hown hK.1 hP hD hS 0 rfl rfl 0 (by decide) (hts (.fieldLink RX7 72 "RotaforgeModel" "thrown" "I") (by decide +kernel)) (fun _ h9 => h9) rfl (by decide +kernel) rfl rfl (Nat.le_of_ble_eq_true rfl) dX7_rests_13 (fun H locs hP hD hS => ?_)
    have hP : va_P G.1 vwCl (wRM G z r (upF f 0 (nI 0))) H := gMs_0 hP
    have hD : va_D (gF z 20) (wRM G z r (upF f 0 (nI 0))) := gD_RM hz
    refine lv_aload_n hx hb dX7_rests_16 rfl (lv_at hl 0 rfl) ?_
    refine va_get (D := G.1) (ci := 7) (v := .int (nI 0)) (C := RX7) (T := TX7) (N := 26) hx hb hts hinX7 hown hK.1 hP 0 rfl rfl 0 (by decide) (hts (.fieldLink RX7 72 "RotaforgeModel" "thrown" "I") (by decide +kernel)) (fun _ h9 => h9) rfl dX7_rests_17 ?_
    refine lv_if_ne (tgt := 35) hx hb dX7_rests_20 (by decide) (fun c_3 => ?_) (fun c_3 => ?_)
    · exact absurd (by decide) c_3
    · refine lv_aload_n hx hb dX7_rests_23 rfl (lv_at hl 0 rfl) ?_
      refine lv_iload_n hx hb dX7_rests_24 rfl (lv_at hl 1 rfl) ?_
      refine g_callC (r := (b2i (mRest r f (cN x1)))) (W.runV (C := RX7) (As := [.int x1]) (rest := []) S0 (c_X7_rested l G _ z r (upF f 0 (nI 0)) hP x1 (cN x1) (mIn_le c_1 (by decide)).1 (Nat.lt_of_le_of_lt (mIn_le c_1 (by decide)).2 (by decide))) (cwV 1 hts gX7_rests_X7_rested rfl rfl rfl (by decide +kernel) ⟨Nat.le_of_ble_eq_true rfl, Nat.le_of_ble_eq_true rfl⟩) (g_preV hK hP (q0 := 0) (ci := 7) (q := (RX7, TX7, 26)) rfl rfl) rfl rfl hl.1 rfl (lv_room (Nat.le_of_ble_eq_true rfl)) dX7_rests_25 ⟨Nat.zero_le _, Nat.zero_le _⟩) ?_
      refine lv_if_eq (tgt := 35) hx hb dX7_rests_28 (by decide) (fun c_4 => ?_) (fun c_4 => ?_)
      · have c_4 := b2i_f c_4
        refine lv_iconst (v := nI 0) hx hb dX7_rests_35 (by decide +kernel) ?_
        have hq : (nI 0) = (b2i (if mIn x1 (nI 0) (nI 5) then mRest r f (cN x1) else false)) := by
          first | with_reducible rfl | with_reducible exact nI_add _ _ | (simp only [upF_uu, c_1, eq_true c_3, c_4, ↓reduceIte, Bool.false_eq_true, decide_true, decide_false, Bool.not_true, Bool.not_false, Bool.or_true, Bool.true_or, Bool.or_false, Bool.false_or]; done) | (simp only [upF_uu, c_1, eq_true c_3, c_4, ↓reduceIte, Bool.false_eq_true, decide_true, decide_false, Bool.not_true, Bool.not_false, Bool.or_true, Bool.true_or, Bool.or_false, Bool.false_or]; with_reducible rfl) | (simp only [upF_uu, c_1, eq_true c_3, c_4, ↓reduceIte, Bool.false_eq_true, decide_true, decide_false, Bool.not_true, Bool.not_false, Bool.or_true, Bool.true_or, Bool.or_false, Bool.false_or]; rfl) | (simp [b2i, upF_uu, c_1, eq_true c_3, c_4]; done) | rfl
        have hPf : va_P G.1 vwCl (wRM G z r (upF f 0 (if mIn x1 (nI 0) (nI 5) then nI 0 else nI 1))) H := by
          have e1 : r = r := by first | with_reducible rfl | (simp only [upF_uu, c_1, eq_true c_3, c_4, ↓reduceIte, Bool.false_eq_true]; done) | (simp only [upF_uu, c_1, eq_true c_3, c_4, ↓reduceIte, Bool.false_eq_true]; rfl) | rfl
          have e2 : upF f 0 (if mIn x1 (nI 0) (nI 5) then nI 0 else nI 1) = upF f 0 (nI 0) := by first | with_reducible rfl | (simp only [upF_uu, c_1, eq_true c_3, c_4, ↓reduceIte, Bool.false_eq_true]; done) | (simp only [upF_uu, c_1, eq_true c_3, c_4, ↓reduceIte, Bool.false_eq_true]; rfl) | rfl
          rw [e1, e2]; exact hP
        exact W.zret (v := nI 0) hx hb hr (z_nar hq) (fun t ht _ => ⟨⟨_, (), rfl, hq, g_hp ht hPf⟩, hS.F ht⟩) hS.2.2 dX7_rests_36
      · have c_4 := b2i_t c_4
        refine lv_iconst (v := nI 1) hx hb dX7_rests_31 (by decide +kernel) ?_
        refine lv_goto (tgt := 36) hx hb dX7_rests_32 (by decide) ?_
        have hq : (nI 1) = (b2i (if mIn x1 (nI 0) (nI 5) then mRest r f (cN x1) else false)) := by
          first | with_reducible rfl | with_reducible exact nI_add _ _ | (simp only [upF_uu, c_1, eq_true c_3, c_4, ↓reduceIte, Bool.false_eq_true, decide_true, decide_false, Bool.not_true, Bool.not_false, Bool.or_true, Bool.true_or, Bool.or_false, Bool.false_or]; done) | (simp only [upF_uu, c_1, eq_true c_3, c_4, ↓reduceIte, Bool.false_eq_true, decide_true, decide_false, Bool.not_true, Bool.not_false, Bool.or_true, Bool.true_or, Bool.or_false, Bool.false_or]; with_reducible rfl) | (simp only [upF_uu, c_1, eq_true c_3, c_4, ↓reduceIte, Bool.false_eq_true, decide_true, decide_false, Bool.not_true, Bool.not_false, Bool.or_true, Bool.true_or, Bool.or_false, Bool.false_or]; rfl) | (simp [b2i, upF_uu, c_1, eq_true c_3, c_4]; done) | rfl
        have hPf : va_P G.1 vwCl (wRM G z r (upF f 0 (if mIn x1 (nI 0) (nI 5) then nI 0 else nI 1))) H := by
          have e1 : r = r := by first | with_reducible rfl | (simp only [upF_uu, c_1, eq_true c_3, c_4, ↓reduceIte, Bool.false_eq_true]; done) | (simp only [upF_uu, c_1, eq_true c_3, c_4, ↓reduceIte, Bool.false_eq_true]; rfl) | rfl
          have e2 : upF f 0 (if mIn x1 (nI 0) (nI 5) then nI 0 else nI 1) = upF f 0 (nI 0) := by first | with_reducible rfl | (simp only [upF_uu, c_1, eq_true c_3, c_4, ↓reduceIte, Bool.false_eq_true]; done) | (simp only [upF_uu, c_1, eq_true c_3, c_4, ↓reduceIte, Bool.false_eq_true]; rfl) | rfl
          rw [e1, e2]; exact hP
        exact W.zret (v := nI 1) hx hb hr (z_nar hq) (fun t ht _ => ⟨⟨_, (), rfl, hq, g_hp ht hPf⟩, hS.F ht⟩) hS.2.2 dX7_rests_36

set_option maxHeartbeats 4000000 in
set_option maxRecDepth 100000 in
theorem c_X7_isOn (l : Launch) (G : gG) (H0 : Heap) (z : Nat → Nat) (hz : gDis z 20) (r : Nat → Nat → Int32) (f : Nat → Int32) (hP : va_P G.1 vwCl (wRM G z r f) H0) (x1 : Int32) (x2 : Int32) (n d k t : Nat) (hM : mOK r f n d k t) : gMw l yX7_isOn wsX7_isOn 3 74 G H0 [.ref (z 0), .int x1, .int x2] (b2i (if (if mIn x1 (nI 0) (nI 7) then mIn x2 (nI 0) (nI 3) else false) then decide ((mOns r n x2 (-1) >>> (x1 &&& 31)) &&& nI 1 = nI 1) else false)) (wRM G z r (upF f 0 (if (if mIn x1 (nI 0) (nI 7) then mIn x2 (nI 0) (nI 3) else false) then nI 0 else nI 1))) (gF z 20) := by
  refine Met.ofW (cc := cX7_isOn) (maxL := 3) (ret := (some .boolean)) (by decide) rfl ?_
  intro p_ e_ s m args below meth c s₁ B hml hv
  obtain ⟨rfl, rfl, hK⟩ := hv
  have hx := B.exec
  have hb := B.bytes
  have hr := B.returns
  have hts := atoms_spec (ws := wsX7_isOn) B.pre
  have hown : s.vm.findClass RX7 = some m.cls := findClass_of_methodNamed B.named
  have hlocks := B.notSynchronized
  have hinX7 : ∀ w ∈ wsX70, w ∈ wsX7_isOn := by decide +kernel
  have S0 : CallFix p_ m c cX7_isOn 3 s _ wsX7_isOn RX7 := ⟨hx, hb, hml, hown, hts⟩
  have hD : va_D (gF z 20) (wRM G z r f) := gD_RM hz
  have hS : va_S (gF z 20) s.heap s.heap [] := va_S.rf
  have hl := lv_entry ([.ref (z 0), .int x1, .int x2]) (n := 3) (Nat.le_of_ble_eq_true rfl)
  rw [lg_entry_eq]
  generalize (lg_sl ([.ref (z 0), .int x1, .int x2]) ++ List.replicate (3 - (lg_sl ([.ref (z 0), .int x1, .int x2])).length) Slot.unset).toArray = ls at hl ⊢
  have hl : lv_has ls 3 [(0, .ref (z 0)), (1, .int x1), (2, .int x2)] := hl
  obtain ⟨hn, hn2, hd, hd2, hk, hk2, ht, ht2, hh, hm⟩ := id hM
  refine lv_aload_n hx hb dX7_isOn_0 rfl (lv_at hl 0 rfl) ?_
  refine lv_iload_n hx hb dX7_isOn_1 rfl (lv_at hl 1 rfl) ?_
  refine g_callC (W.runS (As := [.int x1]) (rest := [.ref (z 0)]) S0 (c_X7_isSwitch l G _ x1) (va_cwS 1 hts gX7_isOn_X7_isSwitch rfl rfl rfl (by decide +kernel) ⟨Nat.le_of_ble_eq_true rfl, Nat.le_of_ble_eq_true rfl⟩) (g_preS hK) rfl rfl hl.1 rfl (lv_room (Nat.le_of_ble_eq_true rfl)) dX7_isOn_2 ⟨Nat.zero_le _, Nat.zero_le _⟩) ?_
  refine lv_if_eq (tgt := 19) hx hb dX7_isOn_5 (by decide) (fun c_1 => ?_) (fun c_1 => ?_)
  · have c_1 := b2i_f c_1
    refine lv_iconst (v := nI 1) hx hb dX7_isOn_19 (by decide +kernel) ?_
    refine va_put (D := G.1) (ci := 7) (v := .int (nI 1)) (ty := .int) (C := RX7) (T := TX7) (N := 26) hx hb hts hinX7 tyX7 tyX7_ok nmX7 hown hK.1 hP hD hS 0 rfl rfl 0 (by decide) (hts (.fieldLink RX7 72 "RotaforgeModel" "thrown" "I") (by decide +kernel)) (fun _ h9 => h9) rfl (by decide +kernel) rfl rfl (Nat.le_of_ble_eq_true rfl) dX7_isOn_20 (fun H locs hP hD hS => ?_)
    have hP : va_P G.1 vwCl (wRM G z r (upF f 0 (nI 1))) H := gMs_0 hP
    have hD : va_D (gF z 20) (wRM G z r (upF f 0 (nI 1))) := gD_RM hz
    refine lv_aload_n hx hb dX7_isOn_23 rfl (lv_at hl 0 rfl) ?_
    refine va_get (D := G.1) (ci := 7) (v := .int (nI 1)) (C := RX7) (T := TX7) (N := 26) hx hb hts hinX7 hown hK.1 hP 0 rfl rfl 0 (by decide) (hts (.fieldLink RX7 72 "RotaforgeModel" "thrown" "I") (by decide +kernel)) (fun _ h9 => h9) rfl dX7_isOn_24 ?_
    refine lv_if_ne (tgt := 48) hx hb dX7_isOn_27 (by decide) (fun c_2 => ?_) (fun c_2 => ?_)
    · refine lv_iconst (v := nI 0) hx hb dX7_isOn_48 (by decide +kernel) ?_
      have hq : (nI 0) = (b2i (if (if mIn x1 (nI 0) (nI 7) then mIn x2 (nI 0) (nI 3) else false) then decide ((mOns r n x2 (-1) >>> (x1 &&& 31)) &&& nI 1 = nI 1) else false)) := by
        first | with_reducible rfl | with_reducible exact nI_add _ _ | (simp only [upF_uu, c_1, eq_false c_2, ↓reduceIte, Bool.false_eq_true, decide_true, decide_false, Bool.not_true, Bool.not_false, Bool.or_true, Bool.true_or, Bool.or_false, Bool.false_or]; done) | (simp only [upF_uu, c_1, eq_false c_2, ↓reduceIte, Bool.false_eq_true, decide_true, decide_false, Bool.not_true, Bool.not_false, Bool.or_true, Bool.true_or, Bool.or_false, Bool.false_or]; with_reducible rfl) | (simp only [upF_uu, c_1, eq_false c_2, ↓reduceIte, Bool.false_eq_true, decide_true, decide_false, Bool.not_true, Bool.not_false, Bool.or_true, Bool.true_or, Bool.or_false, Bool.false_or]; rfl) | (simp [b2i, upF_uu, c_1, eq_false c_2]; done) | rfl
      have hPf : va_P G.1 vwCl (wRM G z r (upF f 0 (if (if mIn x1 (nI 0) (nI 7) then mIn x2 (nI 0) (nI 3) else false) then nI 0 else nI 1))) H := by
        have e1 : r = r := by first | with_reducible rfl | (simp only [upF_uu, c_1, eq_false c_2, ↓reduceIte, Bool.false_eq_true]; done) | (simp only [upF_uu, c_1, eq_false c_2, ↓reduceIte, Bool.false_eq_true]; rfl) | rfl
        have e2 : upF f 0 (if (if mIn x1 (nI 0) (nI 7) then mIn x2 (nI 0) (nI 3) else false) then nI 0 else nI 1) = upF f 0 (nI 1) := by first | with_reducible rfl | (simp only [upF_uu, c_1, eq_false c_2, ↓reduceIte, Bool.false_eq_true]; done) | (simp only [upF_uu, c_1, eq_false c_2, ↓reduceIte, Bool.false_eq_true]; rfl) | rfl
        rw [e1, e2]; exact hP
      exact W.zret (v := nI 0) hx hb hr (z_nar hq) (fun t ht _ => ⟨⟨_, (), rfl, hq, g_hp ht hPf⟩, hS.F ht⟩) hS.2.2 dX7_isOn_49
    · exact absurd c_2 (by decide)
  · have c_1 := b2i_t c_1
    refine lv_iload_n hx hb dX7_isOn_8 rfl (lv_at hl 2 rfl) ?_
    refine g_callC (W.runS (As := [.int x2]) (rest := [.ref (z 0)]) S0 (c_X7_isRing l G _ x2) (va_cwS 1 hts gX7_isOn_X7_isRing rfl rfl rfl (by decide +kernel) ⟨Nat.le_of_ble_eq_true rfl, Nat.le_of_ble_eq_true rfl⟩) (g_preS hK) rfl rfl hl.1 rfl (lv_room (Nat.le_of_ble_eq_true rfl)) dX7_isOn_9 ⟨Nat.zero_le _, Nat.zero_le _⟩) ?_
    refine lv_if_eq (tgt := 19) hx hb dX7_isOn_12 (by decide) (fun c_3 => ?_) (fun c_3 => ?_)
    · have c_3 := b2i_f c_3
      refine lv_iconst (v := nI 1) hx hb dX7_isOn_19 (by decide +kernel) ?_
      refine va_put (D := G.1) (ci := 7) (v := .int (nI 1)) (ty := .int) (C := RX7) (T := TX7) (N := 26) hx hb hts hinX7 tyX7 tyX7_ok nmX7 hown hK.1 hP hD hS 0 rfl rfl 0 (by decide) (hts (.fieldLink RX7 72 "RotaforgeModel" "thrown" "I") (by decide +kernel)) (fun _ h9 => h9) rfl (by decide +kernel) rfl rfl (Nat.le_of_ble_eq_true rfl) dX7_isOn_20 (fun H locs hP hD hS => ?_)
      have hP : va_P G.1 vwCl (wRM G z r (upF f 0 (nI 1))) H := gMs_0 hP
      have hD : va_D (gF z 20) (wRM G z r (upF f 0 (nI 1))) := gD_RM hz
      refine lv_aload_n hx hb dX7_isOn_23 rfl (lv_at hl 0 rfl) ?_
      refine va_get (D := G.1) (ci := 7) (v := .int (nI 1)) (C := RX7) (T := TX7) (N := 26) hx hb hts hinX7 hown hK.1 hP 0 rfl rfl 0 (by decide) (hts (.fieldLink RX7 72 "RotaforgeModel" "thrown" "I") (by decide +kernel)) (fun _ h9 => h9) rfl dX7_isOn_24 ?_
      refine lv_if_ne (tgt := 48) hx hb dX7_isOn_27 (by decide) (fun c_4 => ?_) (fun c_4 => ?_)
      · refine lv_iconst (v := nI 0) hx hb dX7_isOn_48 (by decide +kernel) ?_
        have hq : (nI 0) = (b2i (if (if mIn x1 (nI 0) (nI 7) then mIn x2 (nI 0) (nI 3) else false) then decide ((mOns r n x2 (-1) >>> (x1 &&& 31)) &&& nI 1 = nI 1) else false)) := by
          first | with_reducible rfl | with_reducible exact nI_add _ _ | (simp only [upF_uu, c_1, c_3, eq_false c_4, ↓reduceIte, Bool.false_eq_true, decide_true, decide_false, Bool.not_true, Bool.not_false, Bool.or_true, Bool.true_or, Bool.or_false, Bool.false_or]; done) | (simp only [upF_uu, c_1, c_3, eq_false c_4, ↓reduceIte, Bool.false_eq_true, decide_true, decide_false, Bool.not_true, Bool.not_false, Bool.or_true, Bool.true_or, Bool.or_false, Bool.false_or]; with_reducible rfl) | (simp only [upF_uu, c_1, c_3, eq_false c_4, ↓reduceIte, Bool.false_eq_true, decide_true, decide_false, Bool.not_true, Bool.not_false, Bool.or_true, Bool.true_or, Bool.or_false, Bool.false_or]; rfl) | (simp [b2i, upF_uu, c_1, c_3, eq_false c_4]; done) | rfl
        have hPf : va_P G.1 vwCl (wRM G z r (upF f 0 (if (if mIn x1 (nI 0) (nI 7) then mIn x2 (nI 0) (nI 3) else false) then nI 0 else nI 1))) H := by
          have e1 : r = r := by first | with_reducible rfl | (simp only [upF_uu, c_1, c_3, eq_false c_4, ↓reduceIte, Bool.false_eq_true]; done) | (simp only [upF_uu, c_1, c_3, eq_false c_4, ↓reduceIte, Bool.false_eq_true]; rfl) | rfl
          have e2 : upF f 0 (if (if mIn x1 (nI 0) (nI 7) then mIn x2 (nI 0) (nI 3) else false) then nI 0 else nI 1) = upF f 0 (nI 1) := by first | with_reducible rfl | (simp only [upF_uu, c_1, c_3, eq_false c_4, ↓reduceIte, Bool.false_eq_true]; done) | (simp only [upF_uu, c_1, c_3, eq_false c_4, ↓reduceIte, Bool.false_eq_true]; rfl) | rfl
          rw [e1, e2]; exact hP
        exact W.zret (v := nI 0) hx hb hr (z_nar hq) (fun t ht _ => ⟨⟨_, (), rfl, hq, g_hp ht hPf⟩, hS.F ht⟩) hS.2.2 dX7_isOn_49
      · exact absurd c_4 (by decide)
    · have c_3 := b2i_t c_3
      refine lv_iconst (v := nI 0) hx hb dX7_isOn_15 (by decide +kernel) ?_
      refine lv_goto (tgt := 20) hx hb dX7_isOn_16 (by decide) ?_
      refine va_put (D := G.1) (ci := 7) (v := .int (nI 0)) (ty := .int) (C := RX7) (T := TX7) (N := 26) hx hb hts hinX7 tyX7 tyX7_ok nmX7 hown hK.1 hP hD hS 0 rfl rfl 0 (by decide) (hts (.fieldLink RX7 72 "RotaforgeModel" "thrown" "I") (by decide +kernel)) (fun _ h9 => h9) rfl (by decide +kernel) rfl rfl (Nat.le_of_ble_eq_true rfl) dX7_isOn_20 (fun H locs hP hD hS => ?_)
      have hP : va_P G.1 vwCl (wRM G z r (upF f 0 (nI 0))) H := gMs_0 hP
      have hD : va_D (gF z 20) (wRM G z r (upF f 0 (nI 0))) := gD_RM hz
      refine lv_aload_n hx hb dX7_isOn_23 rfl (lv_at hl 0 rfl) ?_
      refine va_get (D := G.1) (ci := 7) (v := .int (nI 0)) (C := RX7) (T := TX7) (N := 26) hx hb hts hinX7 hown hK.1 hP 0 rfl rfl 0 (by decide) (hts (.fieldLink RX7 72 "RotaforgeModel" "thrown" "I") (by decide +kernel)) (fun _ h9 => h9) rfl dX7_isOn_24 ?_
      refine lv_if_ne (tgt := 48) hx hb dX7_isOn_27 (by decide) (fun c_5 => ?_) (fun c_5 => ?_)
      · exact absurd (by decide) c_5
      · refine lv_aload_n hx hb dX7_isOn_30 rfl (lv_at hl 0 rfl) ?_
        refine lv_iload_n hx hb dX7_isOn_31 rfl (lv_at hl 2 rfl) ?_
        refine lv_iconst (v := (-1)) hx hb dX7_isOn_32 (by decide +kernel) ?_
        refine g_callC (W.runV (C := RX7) (As := [.int x2, .int (-1)]) (rest := []) S0 (c_X7_ons l G _ z r (upF f 0 (nI 0)) hP x2 (-1) n d k t hM) (cwV 2 hts gX7_isOn_X7_ons rfl rfl rfl (by decide +kernel) ⟨Nat.le_of_ble_eq_true rfl, Nat.le_of_ble_eq_true rfl⟩) (g_preV hK hP (q0 := 0) (ci := 7) (q := (RX7, TX7, 26)) rfl rfl) rfl rfl hl.1 rfl (lv_room (Nat.le_of_ble_eq_true rfl)) dX7_isOn_33 ⟨Nat.zero_le _, Nat.zero_le _⟩) ?_
        refine lv_iload_n hx hb dX7_isOn_36 rfl (lv_at hl 1 rfl) ?_
        refine lv_ishr hx hb dX7_isOn_37 ?_
        refine lv_iconst (v := nI 1) hx hb dX7_isOn_38 (by decide +kernel) ?_
        refine lv_iand hx hb dX7_isOn_39 ?_
        refine lv_iconst (v := nI 1) hx hb dX7_isOn_40 (by decide +kernel) ?_
        refine lv_icmp_ne (tgt := 48) hx hb dX7_isOn_41 (by decide) (fun c_6 => ?_) (fun c_6 => ?_)
        · refine lv_iconst (v := nI 0) hx hb dX7_isOn_48 (by decide +kernel) ?_
          have hq : (nI 0) = (b2i (if (if mIn x1 (nI 0) (nI 7) then mIn x2 (nI 0) (nI 3) else false) then decide ((mOns r n x2 (-1) >>> (x1 &&& 31)) &&& nI 1 = nI 1) else false)) := by
            first | with_reducible rfl | with_reducible exact nI_add _ _ | (simp only [upF_uu, c_1, c_3, eq_true c_5, eq_false c_6, ↓reduceIte, Bool.false_eq_true, decide_true, decide_false, Bool.not_true, Bool.not_false, Bool.or_true, Bool.true_or, Bool.or_false, Bool.false_or]; done) | (simp only [upF_uu, c_1, c_3, eq_true c_5, eq_false c_6, ↓reduceIte, Bool.false_eq_true, decide_true, decide_false, Bool.not_true, Bool.not_false, Bool.or_true, Bool.true_or, Bool.or_false, Bool.false_or]; with_reducible rfl) | (simp only [upF_uu, c_1, c_3, eq_true c_5, eq_false c_6, ↓reduceIte, Bool.false_eq_true, decide_true, decide_false, Bool.not_true, Bool.not_false, Bool.or_true, Bool.true_or, Bool.or_false, Bool.false_or]; rfl) | (simp [b2i, upF_uu, c_1, c_3, eq_true c_5, eq_false c_6]; done) | rfl
          have hPf : va_P G.1 vwCl (wRM G z r (upF f 0 (if (if mIn x1 (nI 0) (nI 7) then mIn x2 (nI 0) (nI 3) else false) then nI 0 else nI 1))) H := by
            have e1 : r = r := by first | with_reducible rfl | (simp only [upF_uu, c_1, c_3, eq_true c_5, eq_false c_6, ↓reduceIte, Bool.false_eq_true]; done) | (simp only [upF_uu, c_1, c_3, eq_true c_5, eq_false c_6, ↓reduceIte, Bool.false_eq_true]; rfl) | rfl
            have e2 : upF f 0 (if (if mIn x1 (nI 0) (nI 7) then mIn x2 (nI 0) (nI 3) else false) then nI 0 else nI 1) = upF f 0 (nI 0) := by first | with_reducible rfl | (simp only [upF_uu, c_1, c_3, eq_true c_5, eq_false c_6, ↓reduceIte, Bool.false_eq_true]; done) | (simp only [upF_uu, c_1, c_3, eq_true c_5, eq_false c_6, ↓reduceIte, Bool.false_eq_true]; rfl) | rfl
            rw [e1, e2]; exact hP
          exact W.zret (v := nI 0) hx hb hr (z_nar hq) (fun t ht _ => ⟨⟨_, (), rfl, hq, g_hp ht hPf⟩, hS.F ht⟩) hS.2.2 dX7_isOn_49
        · refine lv_iconst (v := nI 1) hx hb dX7_isOn_44 (by decide +kernel) ?_
          refine lv_goto (tgt := 49) hx hb dX7_isOn_45 (by decide) ?_
          have hq : (nI 1) = (b2i (if (if mIn x1 (nI 0) (nI 7) then mIn x2 (nI 0) (nI 3) else false) then decide ((mOns r n x2 (-1) >>> (x1 &&& 31)) &&& nI 1 = nI 1) else false)) := by
            first | with_reducible rfl | with_reducible exact nI_add _ _ | (simp only [upF_uu, c_1, c_3, eq_true c_5, eq_true c_6, ↓reduceIte, Bool.false_eq_true, decide_true, decide_false, Bool.not_true, Bool.not_false, Bool.or_true, Bool.true_or, Bool.or_false, Bool.false_or]; done) | (simp only [upF_uu, c_1, c_3, eq_true c_5, eq_true c_6, ↓reduceIte, Bool.false_eq_true, decide_true, decide_false, Bool.not_true, Bool.not_false, Bool.or_true, Bool.true_or, Bool.or_false, Bool.false_or]; with_reducible rfl) | (simp only [upF_uu, c_1, c_3, eq_true c_5, eq_true c_6, ↓reduceIte, Bool.false_eq_true, decide_true, decide_false, Bool.not_true, Bool.not_false, Bool.or_true, Bool.true_or, Bool.or_false, Bool.false_or]; rfl) | (simp [b2i, upF_uu, c_1, c_3, eq_true c_5, eq_true c_6]; done) | rfl
          have hPf : va_P G.1 vwCl (wRM G z r (upF f 0 (if (if mIn x1 (nI 0) (nI 7) then mIn x2 (nI 0) (nI 3) else false) then nI 0 else nI 1))) H := by
            have e1 : r = r := by first | with_reducible rfl | (simp only [upF_uu, c_1, c_3, eq_true c_5, eq_true c_6, ↓reduceIte, Bool.false_eq_true]; done) | (simp only [upF_uu, c_1, c_3, eq_true c_5, eq_true c_6, ↓reduceIte, Bool.false_eq_true]; rfl) | rfl
            have e2 : upF f 0 (if (if mIn x1 (nI 0) (nI 7) then mIn x2 (nI 0) (nI 3) else false) then nI 0 else nI 1) = upF f 0 (nI 0) := by first | with_reducible rfl | (simp only [upF_uu, c_1, c_3, eq_true c_5, eq_true c_6, ↓reduceIte, Bool.false_eq_true]; done) | (simp only [upF_uu, c_1, c_3, eq_true c_5, eq_true c_6, ↓reduceIte, Bool.false_eq_true]; rfl) | rfl
            rw [e1, e2]; exact hP
          exact W.zret (v := nI 1) hx hb hr (z_nar hq) (fun t ht _ => ⟨⟨_, (), rfl, hq, g_hp ht hPf⟩, hS.F ht⟩) hS.2.2 dX7_isOn_49

set_option maxHeartbeats 4000000 in
set_option maxRecDepth 100000 in
theorem c_X7_isFaulty (l : Launch) (G : gG) (H0 : Heap) (z : Nat → Nat) (hz : gDis z 20) (r : Nat → Nat → Int32) (f : Nat → Int32) (hP : va_P G.1 vwCl (wRM G z r f) H0) (x1 : Int32) (n d k t : Nat) (hM : mOK r f n d k t) : gMw l yX7_isFaulty wsX7_isFaulty 4 101 G H0 [.ref (z 0), .int x1] (b2i (if mIn x1 (nI 0) (nI 3) then mBad r n d x1 (-1) else false)) (wRM G z r (upF f 0 (if mIn x1 (nI 0) (nI 3) then nI 0 else nI 1))) (gF z 20) := by
  refine Met.ofW (cc := cX7_isFaulty) (maxL := 2) (ret := (some .boolean)) (by decide) rfl ?_
  intro p_ e_ s m args below meth c s₁ B hml hv
  obtain ⟨rfl, rfl, hK⟩ := hv
  have hx := B.exec
  have hb := B.bytes
  have hr := B.returns
  have hts := atoms_spec (ws := wsX7_isFaulty) B.pre
  have hown : s.vm.findClass RX7 = some m.cls := findClass_of_methodNamed B.named
  have hlocks := B.notSynchronized
  have hinX7 : ∀ w ∈ wsX70, w ∈ wsX7_isFaulty := by decide +kernel
  have S0 : CallFix p_ m c cX7_isFaulty 2 s _ wsX7_isFaulty RX7 := ⟨hx, hb, hml, hown, hts⟩
  have hD : va_D (gF z 20) (wRM G z r f) := gD_RM hz
  have hS : va_S (gF z 20) s.heap s.heap [] := va_S.rf
  have hl := lv_entry ([.ref (z 0), .int x1]) (n := 2) (Nat.le_of_ble_eq_true rfl)
  rw [lg_entry_eq]
  generalize (lg_sl ([.ref (z 0), .int x1]) ++ List.replicate (2 - (lg_sl ([.ref (z 0), .int x1])).length) Slot.unset).toArray = ls at hl ⊢
  have hl : lv_has ls 2 [(0, .ref (z 0)), (1, .int x1)] := hl
  obtain ⟨hn, hn2, hd, hd2, hk, hk2, ht, ht2, hh, hm⟩ := id hM
  refine lv_aload_n hx hb dX7_isFaulty_0 rfl (lv_at hl 0 rfl) ?_
  refine lv_iload_n hx hb dX7_isFaulty_1 rfl (lv_at hl 1 rfl) ?_
  refine g_callC (W.runS (As := [.int x1]) (rest := [.ref (z 0)]) S0 (c_X7_isRing l G _ x1) (va_cwS 1 hts gX7_isFaulty_X7_isRing rfl rfl rfl (by decide +kernel) ⟨Nat.le_of_ble_eq_true rfl, Nat.le_of_ble_eq_true rfl⟩) (g_preS hK) rfl rfl hl.1 rfl (lv_room (Nat.le_of_ble_eq_true rfl)) dX7_isFaulty_2 ⟨Nat.zero_le _, Nat.zero_le _⟩) ?_
  refine lv_if_eq (tgt := 12) hx hb dX7_isFaulty_5 (by decide) (fun c_1 => ?_) (fun c_1 => ?_)
  · have c_1 := b2i_f c_1
    refine lv_iconst (v := nI 1) hx hb dX7_isFaulty_12 (by decide +kernel) ?_
    refine va_put (D := G.1) (ci := 7) (v := .int (nI 1)) (ty := .int) (C := RX7) (T := TX7) (N := 26) hx hb hts hinX7 tyX7 tyX7_ok nmX7 hown hK.1 hP hD hS 0 rfl rfl 0 (by decide) (hts (.fieldLink RX7 72 "RotaforgeModel" "thrown" "I") (by decide +kernel)) (fun _ h9 => h9) rfl (by decide +kernel) rfl rfl (Nat.le_of_ble_eq_true rfl) dX7_isFaulty_13 (fun H locs hP hD hS => ?_)
    have hP : va_P G.1 vwCl (wRM G z r (upF f 0 (nI 1))) H := gMs_0 hP
    have hD : va_D (gF z 20) (wRM G z r (upF f 0 (nI 1))) := gD_RM hz
    refine lv_aload_n hx hb dX7_isFaulty_16 rfl (lv_at hl 0 rfl) ?_
    refine va_get (D := G.1) (ci := 7) (v := .int (nI 1)) (C := RX7) (T := TX7) (N := 26) hx hb hts hinX7 hown hK.1 hP 0 rfl rfl 0 (by decide) (hts (.fieldLink RX7 72 "RotaforgeModel" "thrown" "I") (by decide +kernel)) (fun _ h9 => h9) rfl dX7_isFaulty_17 ?_
    refine lv_if_ne (tgt := 36) hx hb dX7_isFaulty_20 (by decide) (fun c_2 => ?_) (fun c_2 => ?_)
    · refine lv_iconst (v := nI 0) hx hb dX7_isFaulty_36 (by decide +kernel) ?_
      have hq : (nI 0) = (b2i (if mIn x1 (nI 0) (nI 3) then mBad r n d x1 (-1) else false)) := by
        first | with_reducible rfl | with_reducible exact nI_add _ _ | (simp only [upF_uu, c_1, eq_false c_2, ↓reduceIte, Bool.false_eq_true, decide_true, decide_false, Bool.not_true, Bool.not_false, Bool.or_true, Bool.true_or, Bool.or_false, Bool.false_or]; done) | (simp only [upF_uu, c_1, eq_false c_2, ↓reduceIte, Bool.false_eq_true, decide_true, decide_false, Bool.not_true, Bool.not_false, Bool.or_true, Bool.true_or, Bool.or_false, Bool.false_or]; with_reducible rfl) | (simp only [upF_uu, c_1, eq_false c_2, ↓reduceIte, Bool.false_eq_true, decide_true, decide_false, Bool.not_true, Bool.not_false, Bool.or_true, Bool.true_or, Bool.or_false, Bool.false_or]; rfl) | (simp [b2i, upF_uu, c_1, eq_false c_2]; done) | rfl
      have hPf : va_P G.1 vwCl (wRM G z r (upF f 0 (if mIn x1 (nI 0) (nI 3) then nI 0 else nI 1))) H := by
        have e1 : r = r := by first | with_reducible rfl | (simp only [upF_uu, c_1, eq_false c_2, ↓reduceIte, Bool.false_eq_true]; done) | (simp only [upF_uu, c_1, eq_false c_2, ↓reduceIte, Bool.false_eq_true]; rfl) | rfl
        have e2 : upF f 0 (if mIn x1 (nI 0) (nI 3) then nI 0 else nI 1) = upF f 0 (nI 1) := by first | with_reducible rfl | (simp only [upF_uu, c_1, eq_false c_2, ↓reduceIte, Bool.false_eq_true]; done) | (simp only [upF_uu, c_1, eq_false c_2, ↓reduceIte, Bool.false_eq_true]; rfl) | rfl
        rw [e1, e2]; exact hP
      exact W.zret (v := nI 0) hx hb hr (z_nar hq) (fun t ht _ => ⟨⟨_, (), rfl, hq, g_hp ht hPf⟩, hS.F ht⟩) hS.2.2 dX7_isFaulty_37
    · exact absurd c_2 (by decide)
  · have c_1 := b2i_t c_1
    refine lv_iconst (v := nI 0) hx hb dX7_isFaulty_8 (by decide +kernel) ?_
    refine lv_goto (tgt := 13) hx hb dX7_isFaulty_9 (by decide) ?_
    refine va_put (D := G.1) (ci := 7) (v := .int (nI 0)) (ty := .int) (C := RX7) (T := TX7) (N := 26) hx hb hts hinX7 tyX7 tyX7_ok nmX7 hown hK.1 hP hD hS 0 rfl rfl 0 (by decide) (hts (.fieldLink RX7 72 "RotaforgeModel" "thrown" "I") (by decide +kernel)) (fun _ h9 => h9) rfl (by decide +kernel) rfl rfl (Nat.le_of_ble_eq_true rfl) dX7_isFaulty_13 (fun H locs hP hD hS => ?_)
    have hP : va_P G.1 vwCl (wRM G z r (upF f 0 (nI 0))) H := gMs_0 hP
    have hD : va_D (gF z 20) (wRM G z r (upF f 0 (nI 0))) := gD_RM hz
    refine lv_aload_n hx hb dX7_isFaulty_16 rfl (lv_at hl 0 rfl) ?_
    refine va_get (D := G.1) (ci := 7) (v := .int (nI 0)) (C := RX7) (T := TX7) (N := 26) hx hb hts hinX7 hown hK.1 hP 0 rfl rfl 0 (by decide) (hts (.fieldLink RX7 72 "RotaforgeModel" "thrown" "I") (by decide +kernel)) (fun _ h9 => h9) rfl dX7_isFaulty_17 ?_
    refine lv_if_ne (tgt := 36) hx hb dX7_isFaulty_20 (by decide) (fun c_3 => ?_) (fun c_3 => ?_)
    · exact absurd (by decide) c_3
    · refine lv_aload_n hx hb dX7_isFaulty_23 rfl (lv_at hl 0 rfl) ?_
      refine lv_iload_n hx hb dX7_isFaulty_24 rfl (lv_at hl 1 rfl) ?_
      refine lv_iconst (v := (-1)) hx hb dX7_isFaulty_25 (by decide +kernel) ?_
      refine g_callC (W.runV (C := RX7) (As := [.int x1, .int (-1)]) (rest := []) S0 (c_X7_isBad l G _ z r (upF f 0 (nI 0)) hP x1 (-1) n d k t hM) (cwV 2 hts gX7_isFaulty_X7_isBad rfl rfl rfl (by decide +kernel) ⟨Nat.le_of_ble_eq_true rfl, Nat.le_of_ble_eq_true rfl⟩) (g_preV hK hP (q0 := 0) (ci := 7) (q := (RX7, TX7, 26)) rfl rfl) rfl rfl hl.1 rfl (lv_room (Nat.le_of_ble_eq_true rfl)) dX7_isFaulty_26 ⟨Nat.zero_le _, Nat.zero_le _⟩) ?_
      refine lv_if_eq (tgt := 36) hx hb dX7_isFaulty_29 (by decide) (fun c_4 => ?_) (fun c_4 => ?_)
      · have c_4 := b2i_f c_4
        refine lv_iconst (v := nI 0) hx hb dX7_isFaulty_36 (by decide +kernel) ?_
        have hq : (nI 0) = (b2i (if mIn x1 (nI 0) (nI 3) then mBad r n d x1 (-1) else false)) := by
          first | with_reducible rfl | with_reducible exact nI_add _ _ | (simp only [upF_uu, c_1, eq_true c_3, c_4, ↓reduceIte, Bool.false_eq_true, decide_true, decide_false, Bool.not_true, Bool.not_false, Bool.or_true, Bool.true_or, Bool.or_false, Bool.false_or]; done) | (simp only [upF_uu, c_1, eq_true c_3, c_4, ↓reduceIte, Bool.false_eq_true, decide_true, decide_false, Bool.not_true, Bool.not_false, Bool.or_true, Bool.true_or, Bool.or_false, Bool.false_or]; with_reducible rfl) | (simp only [upF_uu, c_1, eq_true c_3, c_4, ↓reduceIte, Bool.false_eq_true, decide_true, decide_false, Bool.not_true, Bool.not_false, Bool.or_true, Bool.true_or, Bool.or_false, Bool.false_or]; rfl) | (simp [b2i, upF_uu, c_1, eq_true c_3, c_4]; done) | rfl
        have hPf : va_P G.1 vwCl (wRM G z r (upF f 0 (if mIn x1 (nI 0) (nI 3) then nI 0 else nI 1))) H := by
          have e1 : r = r := by first | with_reducible rfl | (simp only [upF_uu, c_1, eq_true c_3, c_4, ↓reduceIte, Bool.false_eq_true]; done) | (simp only [upF_uu, c_1, eq_true c_3, c_4, ↓reduceIte, Bool.false_eq_true]; rfl) | rfl
          have e2 : upF f 0 (if mIn x1 (nI 0) (nI 3) then nI 0 else nI 1) = upF f 0 (nI 0) := by first | with_reducible rfl | (simp only [upF_uu, c_1, eq_true c_3, c_4, ↓reduceIte, Bool.false_eq_true]; done) | (simp only [upF_uu, c_1, eq_true c_3, c_4, ↓reduceIte, Bool.false_eq_true]; rfl) | rfl
          rw [e1, e2]; exact hP
        exact W.zret (v := nI 0) hx hb hr (z_nar hq) (fun t ht _ => ⟨⟨_, (), rfl, hq, g_hp ht hPf⟩, hS.F ht⟩) hS.2.2 dX7_isFaulty_37
      · have c_4 := b2i_t c_4
        refine lv_iconst (v := nI 1) hx hb dX7_isFaulty_32 (by decide +kernel) ?_
        refine lv_goto (tgt := 37) hx hb dX7_isFaulty_33 (by decide) ?_
        have hq : (nI 1) = (b2i (if mIn x1 (nI 0) (nI 3) then mBad r n d x1 (-1) else false)) := by
          first | with_reducible rfl | with_reducible exact nI_add _ _ | (simp only [upF_uu, c_1, eq_true c_3, c_4, ↓reduceIte, Bool.false_eq_true, decide_true, decide_false, Bool.not_true, Bool.not_false, Bool.or_true, Bool.true_or, Bool.or_false, Bool.false_or]; done) | (simp only [upF_uu, c_1, eq_true c_3, c_4, ↓reduceIte, Bool.false_eq_true, decide_true, decide_false, Bool.not_true, Bool.not_false, Bool.or_true, Bool.true_or, Bool.or_false, Bool.false_or]; with_reducible rfl) | (simp only [upF_uu, c_1, eq_true c_3, c_4, ↓reduceIte, Bool.false_eq_true, decide_true, decide_false, Bool.not_true, Bool.not_false, Bool.or_true, Bool.true_or, Bool.or_false, Bool.false_or]; rfl) | (simp [b2i, upF_uu, c_1, eq_true c_3, c_4]; done) | rfl
        have hPf : va_P G.1 vwCl (wRM G z r (upF f 0 (if mIn x1 (nI 0) (nI 3) then nI 0 else nI 1))) H := by
          have e1 : r = r := by first | with_reducible rfl | (simp only [upF_uu, c_1, eq_true c_3, c_4, ↓reduceIte, Bool.false_eq_true]; done) | (simp only [upF_uu, c_1, eq_true c_3, c_4, ↓reduceIte, Bool.false_eq_true]; rfl) | rfl
          have e2 : upF f 0 (if mIn x1 (nI 0) (nI 3) then nI 0 else nI 1) = upF f 0 (nI 0) := by first | with_reducible rfl | (simp only [upF_uu, c_1, eq_true c_3, c_4, ↓reduceIte, Bool.false_eq_true]; done) | (simp only [upF_uu, c_1, eq_true c_3, c_4, ↓reduceIte, Bool.false_eq_true]; rfl) | rfl
          rw [e1, e2]; exact hP
        exact W.zret (v := nI 1) hx hb hr (z_nar hq) (fun t ht _ => ⟨⟨_, (), rfl, hq, g_hp ht hPf⟩, hS.F ht⟩) hS.2.2 dX7_isFaulty_37

set_option maxHeartbeats 4000000 in
set_option maxRecDepth 100000 in
theorem c_X7_heals (l : Launch) (G : gG) (H0 : Heap) (z : Nat → Nat) (hz : gDis z 20) (r : Nat → Nat → Int32) (f : Nat → Int32) (hP : va_P G.1 vwCl (wRM G z r f) H0) (x1 : Int32) (x2 : Int32) (n d k t : Nat) (hM : mOK r f n d k t) : gMw l yX7_heals wsX7_heals 4 101 G H0 [.ref (z 0), .int x1, .int x2] (b2i (if (if mIn x1 (nI 0) (f 4 - nI 1) then mIn x2 (nI 0) (nI 3) else false) then (if mBad r n d x2 (-1) then (if mBad r n d x2 x1 then false else true) else false) else false)) (wRM G z r (upF f 0 (if (if mIn x1 (nI 0) (f 4 - nI 1) then mIn x2 (nI 0) (nI 3) else false) then nI 0 else nI 1))) (gF z 20) := by
  refine Met.ofW (cc := cX7_heals) (maxL := 3) (ret := (some .boolean)) (by decide) rfl ?_
  intro p_ e_ s m args below meth c s₁ B hml hv
  obtain ⟨rfl, rfl, hK⟩ := hv
  have hx := B.exec
  have hb := B.bytes
  have hr := B.returns
  have hts := atoms_spec (ws := wsX7_heals) B.pre
  have hown : s.vm.findClass RX7 = some m.cls := findClass_of_methodNamed B.named
  have hlocks := B.notSynchronized
  have hinX7 : ∀ w ∈ wsX70, w ∈ wsX7_heals := by decide +kernel
  have S0 : CallFix p_ m c cX7_heals 3 s _ wsX7_heals RX7 := ⟨hx, hb, hml, hown, hts⟩
  have hD : va_D (gF z 20) (wRM G z r f) := gD_RM hz
  have hS : va_S (gF z 20) s.heap s.heap [] := va_S.rf
  have hl := lv_entry ([.ref (z 0), .int x1, .int x2]) (n := 3) (Nat.le_of_ble_eq_true rfl)
  rw [lg_entry_eq]
  generalize (lg_sl ([.ref (z 0), .int x1, .int x2]) ++ List.replicate (3 - (lg_sl ([.ref (z 0), .int x1, .int x2])).length) Slot.unset).toArray = ls at hl ⊢
  have hl : lv_has ls 3 [(0, .ref (z 0)), (1, .int x1), (2, .int x2)] := hl
  obtain ⟨hn, hn2, hd, hd2, hk, hk2, ht, ht2, hh, hm⟩ := id hM
  refine lv_aload_n hx hb dX7_heals_0 rfl (lv_at hl 0 rfl) ?_
  refine lv_aload_n hx hb dX7_heals_1 rfl (lv_at hl 0 rfl) ?_
  refine lv_iload_n hx hb dX7_heals_2 rfl (lv_at hl 1 rfl) ?_
  refine g_callC (W.runV (C := RX7) (As := [.int x1]) (rest := [.ref (z 0)]) S0 (c_X7_isChange l G _ z r f hP x1) (cwV 1 hts gX7_heals_X7_isChange rfl rfl rfl (by decide +kernel) ⟨Nat.le_of_ble_eq_true rfl, Nat.le_of_ble_eq_true rfl⟩) (g_preV hK hP (q0 := 0) (ci := 7) (q := (RX7, TX7, 26)) rfl rfl) rfl rfl hl.1 rfl (lv_room (Nat.le_of_ble_eq_true rfl)) dX7_heals_3 ⟨Nat.zero_le _, Nat.zero_le _⟩) ?_
  refine lv_if_eq (tgt := 20) hx hb dX7_heals_6 (by decide) (fun c_1 => ?_) (fun c_1 => ?_)
  · have c_1 := b2i_f c_1
    refine lv_iconst (v := nI 1) hx hb dX7_heals_20 (by decide +kernel) ?_
    refine va_put (D := G.1) (ci := 7) (v := .int (nI 1)) (ty := .int) (C := RX7) (T := TX7) (N := 26) hx hb hts hinX7 tyX7 tyX7_ok nmX7 hown hK.1 hP hD hS 0 rfl rfl 0 (by decide) (hts (.fieldLink RX7 72 "RotaforgeModel" "thrown" "I") (by decide +kernel)) (fun _ h9 => h9) rfl (by decide +kernel) rfl rfl (Nat.le_of_ble_eq_true rfl) dX7_heals_21 (fun H locs hP hD hS => ?_)
    have hP : va_P G.1 vwCl (wRM G z r (upF f 0 (nI 1))) H := gMs_0 hP
    have hD : va_D (gF z 20) (wRM G z r (upF f 0 (nI 1))) := gD_RM hz
    refine lv_aload_n hx hb dX7_heals_24 rfl (lv_at hl 0 rfl) ?_
    refine va_get (D := G.1) (ci := 7) (v := .int (nI 1)) (C := RX7) (T := TX7) (N := 26) hx hb hts hinX7 hown hK.1 hP 0 rfl rfl 0 (by decide) (hts (.fieldLink RX7 72 "RotaforgeModel" "thrown" "I") (by decide +kernel)) (fun _ h9 => h9) rfl dX7_heals_25 ?_
    refine lv_if_ne (tgt := 53) hx hb dX7_heals_28 (by decide) (fun c_2 => ?_) (fun c_2 => ?_)
    · refine lv_iconst (v := nI 0) hx hb dX7_heals_53 (by decide +kernel) ?_
      have hq : (nI 0) = (b2i (if (if mIn x1 (nI 0) (f 4 - nI 1) then mIn x2 (nI 0) (nI 3) else false) then (if mBad r n d x2 (-1) then (if mBad r n d x2 x1 then false else true) else false) else false)) := by
        first | with_reducible rfl | with_reducible exact nI_add _ _ | (simp only [upF_uu, c_1, eq_false c_2, ↓reduceIte, Bool.false_eq_true, decide_true, decide_false, Bool.not_true, Bool.not_false, Bool.or_true, Bool.true_or, Bool.or_false, Bool.false_or]; done) | (simp only [upF_uu, c_1, eq_false c_2, ↓reduceIte, Bool.false_eq_true, decide_true, decide_false, Bool.not_true, Bool.not_false, Bool.or_true, Bool.true_or, Bool.or_false, Bool.false_or]; with_reducible rfl) | (simp only [upF_uu, c_1, eq_false c_2, ↓reduceIte, Bool.false_eq_true, decide_true, decide_false, Bool.not_true, Bool.not_false, Bool.or_true, Bool.true_or, Bool.or_false, Bool.false_or]; rfl) | (simp [b2i, upF_uu, c_1, eq_false c_2]; done) | rfl
      have hPf : va_P G.1 vwCl (wRM G z r (upF f 0 (if (if mIn x1 (nI 0) (f 4 - nI 1) then mIn x2 (nI 0) (nI 3) else false) then nI 0 else nI 1))) H := by
        have e1 : r = r := by first | with_reducible rfl | (simp only [upF_uu, c_1, eq_false c_2, ↓reduceIte, Bool.false_eq_true]; done) | (simp only [upF_uu, c_1, eq_false c_2, ↓reduceIte, Bool.false_eq_true]; rfl) | rfl
        have e2 : upF f 0 (if (if mIn x1 (nI 0) (f 4 - nI 1) then mIn x2 (nI 0) (nI 3) else false) then nI 0 else nI 1) = upF f 0 (nI 1) := by first | with_reducible rfl | (simp only [upF_uu, c_1, eq_false c_2, ↓reduceIte, Bool.false_eq_true]; done) | (simp only [upF_uu, c_1, eq_false c_2, ↓reduceIte, Bool.false_eq_true]; rfl) | rfl
        rw [e1, e2]; exact hP
      exact W.zret (v := nI 0) hx hb hr (z_nar hq) (fun t ht _ => ⟨⟨_, (), rfl, hq, g_hp ht hPf⟩, hS.F ht⟩) hS.2.2 dX7_heals_54
    · exact absurd c_2 (by decide)
  · have c_1 := b2i_t c_1
    refine lv_iload_n hx hb dX7_heals_9 rfl (lv_at hl 2 rfl) ?_
    refine g_callC (W.runS (As := [.int x2]) (rest := [.ref (z 0)]) S0 (c_X7_isRing l G _ x2) (va_cwS 1 hts gX7_heals_X7_isRing rfl rfl rfl (by decide +kernel) ⟨Nat.le_of_ble_eq_true rfl, Nat.le_of_ble_eq_true rfl⟩) (g_preS hK) rfl rfl hl.1 rfl (lv_room (Nat.le_of_ble_eq_true rfl)) dX7_heals_10 ⟨Nat.zero_le _, Nat.zero_le _⟩) ?_
    refine lv_if_eq (tgt := 20) hx hb dX7_heals_13 (by decide) (fun c_3 => ?_) (fun c_3 => ?_)
    · have c_3 := b2i_f c_3
      refine lv_iconst (v := nI 1) hx hb dX7_heals_20 (by decide +kernel) ?_
      refine va_put (D := G.1) (ci := 7) (v := .int (nI 1)) (ty := .int) (C := RX7) (T := TX7) (N := 26) hx hb hts hinX7 tyX7 tyX7_ok nmX7 hown hK.1 hP hD hS 0 rfl rfl 0 (by decide) (hts (.fieldLink RX7 72 "RotaforgeModel" "thrown" "I") (by decide +kernel)) (fun _ h9 => h9) rfl (by decide +kernel) rfl rfl (Nat.le_of_ble_eq_true rfl) dX7_heals_21 (fun H locs hP hD hS => ?_)
      have hP : va_P G.1 vwCl (wRM G z r (upF f 0 (nI 1))) H := gMs_0 hP
      have hD : va_D (gF z 20) (wRM G z r (upF f 0 (nI 1))) := gD_RM hz
      refine lv_aload_n hx hb dX7_heals_24 rfl (lv_at hl 0 rfl) ?_
      refine va_get (D := G.1) (ci := 7) (v := .int (nI 1)) (C := RX7) (T := TX7) (N := 26) hx hb hts hinX7 hown hK.1 hP 0 rfl rfl 0 (by decide) (hts (.fieldLink RX7 72 "RotaforgeModel" "thrown" "I") (by decide +kernel)) (fun _ h9 => h9) rfl dX7_heals_25 ?_
      refine lv_if_ne (tgt := 53) hx hb dX7_heals_28 (by decide) (fun c_4 => ?_) (fun c_4 => ?_)
      · refine lv_iconst (v := nI 0) hx hb dX7_heals_53 (by decide +kernel) ?_
        have hq : (nI 0) = (b2i (if (if mIn x1 (nI 0) (f 4 - nI 1) then mIn x2 (nI 0) (nI 3) else false) then (if mBad r n d x2 (-1) then (if mBad r n d x2 x1 then false else true) else false) else false)) := by
          first | with_reducible rfl | with_reducible exact nI_add _ _ | (simp only [upF_uu, c_1, c_3, eq_false c_4, ↓reduceIte, Bool.false_eq_true, decide_true, decide_false, Bool.not_true, Bool.not_false, Bool.or_true, Bool.true_or, Bool.or_false, Bool.false_or]; done) | (simp only [upF_uu, c_1, c_3, eq_false c_4, ↓reduceIte, Bool.false_eq_true, decide_true, decide_false, Bool.not_true, Bool.not_false, Bool.or_true, Bool.true_or, Bool.or_false, Bool.false_or]; with_reducible rfl) | (simp only [upF_uu, c_1, c_3, eq_false c_4, ↓reduceIte, Bool.false_eq_true, decide_true, decide_false, Bool.not_true, Bool.not_false, Bool.or_true, Bool.true_or, Bool.or_false, Bool.false_or]; rfl) | (simp [b2i, upF_uu, c_1, c_3, eq_false c_4]; done) | rfl
        have hPf : va_P G.1 vwCl (wRM G z r (upF f 0 (if (if mIn x1 (nI 0) (f 4 - nI 1) then mIn x2 (nI 0) (nI 3) else false) then nI 0 else nI 1))) H := by
          have e1 : r = r := by first | with_reducible rfl | (simp only [upF_uu, c_1, c_3, eq_false c_4, ↓reduceIte, Bool.false_eq_true]; done) | (simp only [upF_uu, c_1, c_3, eq_false c_4, ↓reduceIte, Bool.false_eq_true]; rfl) | rfl
          have e2 : upF f 0 (if (if mIn x1 (nI 0) (f 4 - nI 1) then mIn x2 (nI 0) (nI 3) else false) then nI 0 else nI 1) = upF f 0 (nI 1) := by first | with_reducible rfl | (simp only [upF_uu, c_1, c_3, eq_false c_4, ↓reduceIte, Bool.false_eq_true]; done) | (simp only [upF_uu, c_1, c_3, eq_false c_4, ↓reduceIte, Bool.false_eq_true]; rfl) | rfl
          rw [e1, e2]; exact hP
        exact W.zret (v := nI 0) hx hb hr (z_nar hq) (fun t ht _ => ⟨⟨_, (), rfl, hq, g_hp ht hPf⟩, hS.F ht⟩) hS.2.2 dX7_heals_54
      · exact absurd c_4 (by decide)
    · have c_3 := b2i_t c_3
      refine lv_iconst (v := nI 0) hx hb dX7_heals_16 (by decide +kernel) ?_
      refine lv_goto (tgt := 21) hx hb dX7_heals_17 (by decide) ?_
      refine va_put (D := G.1) (ci := 7) (v := .int (nI 0)) (ty := .int) (C := RX7) (T := TX7) (N := 26) hx hb hts hinX7 tyX7 tyX7_ok nmX7 hown hK.1 hP hD hS 0 rfl rfl 0 (by decide) (hts (.fieldLink RX7 72 "RotaforgeModel" "thrown" "I") (by decide +kernel)) (fun _ h9 => h9) rfl (by decide +kernel) rfl rfl (Nat.le_of_ble_eq_true rfl) dX7_heals_21 (fun H locs hP hD hS => ?_)
      have hP : va_P G.1 vwCl (wRM G z r (upF f 0 (nI 0))) H := gMs_0 hP
      have hD : va_D (gF z 20) (wRM G z r (upF f 0 (nI 0))) := gD_RM hz
      refine lv_aload_n hx hb dX7_heals_24 rfl (lv_at hl 0 rfl) ?_
      refine va_get (D := G.1) (ci := 7) (v := .int (nI 0)) (C := RX7) (T := TX7) (N := 26) hx hb hts hinX7 hown hK.1 hP 0 rfl rfl 0 (by decide) (hts (.fieldLink RX7 72 "RotaforgeModel" "thrown" "I") (by decide +kernel)) (fun _ h9 => h9) rfl dX7_heals_25 ?_
      refine lv_if_ne (tgt := 53) hx hb dX7_heals_28 (by decide) (fun c_5 => ?_) (fun c_5 => ?_)
      · exact absurd (by decide) c_5
      · refine lv_aload_n hx hb dX7_heals_31 rfl (lv_at hl 0 rfl) ?_
        refine lv_iload_n hx hb dX7_heals_32 rfl (lv_at hl 2 rfl) ?_
        refine lv_iconst (v := (-1)) hx hb dX7_heals_33 (by decide +kernel) ?_
        refine g_callC (W.runV (C := RX7) (As := [.int x2, .int (-1)]) (rest := []) S0 (c_X7_isBad l G _ z r (upF f 0 (nI 0)) hP x2 (-1) n d k t hM) (cwV 2 hts gX7_heals_X7_isBad rfl rfl rfl (by decide +kernel) ⟨Nat.le_of_ble_eq_true rfl, Nat.le_of_ble_eq_true rfl⟩) (g_preV hK hP (q0 := 0) (ci := 7) (q := (RX7, TX7, 26)) rfl rfl) rfl rfl hl.1 rfl (lv_room (Nat.le_of_ble_eq_true rfl)) dX7_heals_34 ⟨Nat.zero_le _, Nat.zero_le _⟩) ?_
        refine lv_if_eq (tgt := 53) hx hb dX7_heals_37 (by decide) (fun c_6 => ?_) (fun c_6 => ?_)
        · have c_6 := b2i_f c_6
          refine lv_iconst (v := nI 0) hx hb dX7_heals_53 (by decide +kernel) ?_
          have hq : (nI 0) = (b2i (if (if mIn x1 (nI 0) (f 4 - nI 1) then mIn x2 (nI 0) (nI 3) else false) then (if mBad r n d x2 (-1) then (if mBad r n d x2 x1 then false else true) else false) else false)) := by
            first | with_reducible rfl | with_reducible exact nI_add _ _ | (simp only [upF_uu, c_1, c_3, eq_true c_5, c_6, ↓reduceIte, Bool.false_eq_true, decide_true, decide_false, Bool.not_true, Bool.not_false, Bool.or_true, Bool.true_or, Bool.or_false, Bool.false_or]; done) | (simp only [upF_uu, c_1, c_3, eq_true c_5, c_6, ↓reduceIte, Bool.false_eq_true, decide_true, decide_false, Bool.not_true, Bool.not_false, Bool.or_true, Bool.true_or, Bool.or_false, Bool.false_or]; with_reducible rfl) | (simp only [upF_uu, c_1, c_3, eq_true c_5, c_6, ↓reduceIte, Bool.false_eq_true, decide_true, decide_false, Bool.not_true, Bool.not_false, Bool.or_true, Bool.true_or, Bool.or_false, Bool.false_or]; rfl) | (simp [b2i, upF_uu, c_1, c_3, eq_true c_5, c_6]; done) | rfl
          have hPf : va_P G.1 vwCl (wRM G z r (upF f 0 (if (if mIn x1 (nI 0) (f 4 - nI 1) then mIn x2 (nI 0) (nI 3) else false) then nI 0 else nI 1))) H := by
            have e1 : r = r := by first | with_reducible rfl | (simp only [upF_uu, c_1, c_3, eq_true c_5, c_6, ↓reduceIte, Bool.false_eq_true]; done) | (simp only [upF_uu, c_1, c_3, eq_true c_5, c_6, ↓reduceIte, Bool.false_eq_true]; rfl) | rfl
            have e2 : upF f 0 (if (if mIn x1 (nI 0) (f 4 - nI 1) then mIn x2 (nI 0) (nI 3) else false) then nI 0 else nI 1) = upF f 0 (nI 0) := by first | with_reducible rfl | (simp only [upF_uu, c_1, c_3, eq_true c_5, c_6, ↓reduceIte, Bool.false_eq_true]; done) | (simp only [upF_uu, c_1, c_3, eq_true c_5, c_6, ↓reduceIte, Bool.false_eq_true]; rfl) | rfl
            rw [e1, e2]; exact hP
          exact W.zret (v := nI 0) hx hb hr (z_nar hq) (fun t ht _ => ⟨⟨_, (), rfl, hq, g_hp ht hPf⟩, hS.F ht⟩) hS.2.2 dX7_heals_54
        · have c_6 := b2i_t c_6
          refine lv_aload_n hx hb dX7_heals_40 rfl (lv_at hl 0 rfl) ?_
          refine lv_iload_n hx hb dX7_heals_41 rfl (lv_at hl 2 rfl) ?_
          refine lv_iload_n hx hb dX7_heals_42 rfl (lv_at hl 1 rfl) ?_
          refine g_callC (W.runV (C := RX7) (As := [.int x2, .int x1]) (rest := []) S0 (c_X7_isBad l G _ z r (upF f 0 (nI 0)) hP x2 x1 n d k t hM) (cwV 2 hts gX7_heals_X7_isBad rfl rfl rfl (by decide +kernel) ⟨Nat.le_of_ble_eq_true rfl, Nat.le_of_ble_eq_true rfl⟩) (g_preV hK hP (q0 := 0) (ci := 7) (q := (RX7, TX7, 26)) rfl rfl) rfl rfl hl.1 rfl (lv_room (Nat.le_of_ble_eq_true rfl)) dX7_heals_43 ⟨Nat.zero_le _, Nat.zero_le _⟩) ?_
          refine lv_if_ne (tgt := 53) hx hb dX7_heals_46 (by decide) (fun c_7 => ?_) (fun c_7 => ?_)
          · have c_7 := b2i_t c_7
            refine lv_iconst (v := nI 0) hx hb dX7_heals_53 (by decide +kernel) ?_
            have hq : (nI 0) = (b2i (if (if mIn x1 (nI 0) (f 4 - nI 1) then mIn x2 (nI 0) (nI 3) else false) then (if mBad r n d x2 (-1) then (if mBad r n d x2 x1 then false else true) else false) else false)) := by
              first | with_reducible rfl | with_reducible exact nI_add _ _ | (simp only [upF_uu, c_1, c_3, eq_true c_5, c_6, c_7, ↓reduceIte, Bool.false_eq_true, decide_true, decide_false, Bool.not_true, Bool.not_false, Bool.or_true, Bool.true_or, Bool.or_false, Bool.false_or]; done) | (simp only [upF_uu, c_1, c_3, eq_true c_5, c_6, c_7, ↓reduceIte, Bool.false_eq_true, decide_true, decide_false, Bool.not_true, Bool.not_false, Bool.or_true, Bool.true_or, Bool.or_false, Bool.false_or]; with_reducible rfl) | (simp only [upF_uu, c_1, c_3, eq_true c_5, c_6, c_7, ↓reduceIte, Bool.false_eq_true, decide_true, decide_false, Bool.not_true, Bool.not_false, Bool.or_true, Bool.true_or, Bool.or_false, Bool.false_or]; rfl) | (simp [b2i, upF_uu, c_1, c_3, eq_true c_5, c_6, c_7]; done) | rfl
            have hPf : va_P G.1 vwCl (wRM G z r (upF f 0 (if (if mIn x1 (nI 0) (f 4 - nI 1) then mIn x2 (nI 0) (nI 3) else false) then nI 0 else nI 1))) H := by
              have e1 : r = r := by first | with_reducible rfl | (simp only [upF_uu, c_1, c_3, eq_true c_5, c_6, c_7, ↓reduceIte, Bool.false_eq_true]; done) | (simp only [upF_uu, c_1, c_3, eq_true c_5, c_6, c_7, ↓reduceIte, Bool.false_eq_true]; rfl) | rfl
              have e2 : upF f 0 (if (if mIn x1 (nI 0) (f 4 - nI 1) then mIn x2 (nI 0) (nI 3) else false) then nI 0 else nI 1) = upF f 0 (nI 0) := by first | with_reducible rfl | (simp only [upF_uu, c_1, c_3, eq_true c_5, c_6, c_7, ↓reduceIte, Bool.false_eq_true]; done) | (simp only [upF_uu, c_1, c_3, eq_true c_5, c_6, c_7, ↓reduceIte, Bool.false_eq_true]; rfl) | rfl
              rw [e1, e2]; exact hP
            exact W.zret (v := nI 0) hx hb hr (z_nar hq) (fun t ht _ => ⟨⟨_, (), rfl, hq, g_hp ht hPf⟩, hS.F ht⟩) hS.2.2 dX7_heals_54
          · have c_7 := b2i_f c_7
            refine lv_iconst (v := nI 1) hx hb dX7_heals_49 (by decide +kernel) ?_
            refine lv_goto (tgt := 54) hx hb dX7_heals_50 (by decide) ?_
            have hq : (nI 1) = (b2i (if (if mIn x1 (nI 0) (f 4 - nI 1) then mIn x2 (nI 0) (nI 3) else false) then (if mBad r n d x2 (-1) then (if mBad r n d x2 x1 then false else true) else false) else false)) := by
              first | with_reducible rfl | with_reducible exact nI_add _ _ | (simp only [upF_uu, c_1, c_3, eq_true c_5, c_6, c_7, ↓reduceIte, Bool.false_eq_true, decide_true, decide_false, Bool.not_true, Bool.not_false, Bool.or_true, Bool.true_or, Bool.or_false, Bool.false_or]; done) | (simp only [upF_uu, c_1, c_3, eq_true c_5, c_6, c_7, ↓reduceIte, Bool.false_eq_true, decide_true, decide_false, Bool.not_true, Bool.not_false, Bool.or_true, Bool.true_or, Bool.or_false, Bool.false_or]; with_reducible rfl) | (simp only [upF_uu, c_1, c_3, eq_true c_5, c_6, c_7, ↓reduceIte, Bool.false_eq_true, decide_true, decide_false, Bool.not_true, Bool.not_false, Bool.or_true, Bool.true_or, Bool.or_false, Bool.false_or]; rfl) | (simp [b2i, upF_uu, c_1, c_3, eq_true c_5, c_6, c_7]; done) | rfl
            have hPf : va_P G.1 vwCl (wRM G z r (upF f 0 (if (if mIn x1 (nI 0) (f 4 - nI 1) then mIn x2 (nI 0) (nI 3) else false) then nI 0 else nI 1))) H := by
              have e1 : r = r := by first | with_reducible rfl | (simp only [upF_uu, c_1, c_3, eq_true c_5, c_6, c_7, ↓reduceIte, Bool.false_eq_true]; done) | (simp only [upF_uu, c_1, c_3, eq_true c_5, c_6, c_7, ↓reduceIte, Bool.false_eq_true]; rfl) | rfl
              have e2 : upF f 0 (if (if mIn x1 (nI 0) (f 4 - nI 1) then mIn x2 (nI 0) (nI 3) else false) then nI 0 else nI 1) = upF f 0 (nI 0) := by first | with_reducible rfl | (simp only [upF_uu, c_1, c_3, eq_true c_5, c_6, c_7, ↓reduceIte, Bool.false_eq_true]; done) | (simp only [upF_uu, c_1, c_3, eq_true c_5, c_6, c_7, ↓reduceIte, Bool.false_eq_true]; rfl) | rfl
              rw [e1, e2]; exact hP
            exact W.zret (v := nI 1) hx hb hr (z_nar hq) (fun t ht _ => ⟨⟨_, (), rfl, hq, g_hp ht hPf⟩, hS.F ht⟩) hS.2.2 dX7_heals_54

set_option maxHeartbeats 4000000 in
set_option maxRecDepth 100000 in
theorem c_X7_rollable (l : Launch) (G : gG) (H0 : Heap) (z : Nat → Nat) (hz : gDis z 20) (r : Nat → Nat → Int32) (f : Nat → Int32) (hP : va_P G.1 vwCl (wRM G z r f) H0) (x1 : Int32) (n d k t : Nat) (hM : mOK r f n d k t) : gMw l yX7_rollable wsX7_rollable 3 74 G H0 [.ref (z 0), .int x1] (if mIn x1 (nI 0) (nI 3) then mRoll r f n k x1 else nI 0) (wRM G z r (upF f 0 (if mIn x1 (nI 0) (nI 3) then nI 0 else nI 1))) (gF z 20) := by
  refine Met.ofW (cc := cX7_rollable) (maxL := 3) (ret := (some .int)) (by decide) rfl ?_
  intro p_ e_ s m args below meth c s₁ B hml hv
  obtain ⟨rfl, rfl, hK⟩ := hv
  have hx := B.exec
  have hb := B.bytes
  have hr := B.returns
  have hts := atoms_spec (ws := wsX7_rollable) B.pre
  have hown : s.vm.findClass RX7 = some m.cls := findClass_of_methodNamed B.named
  have hlocks := B.notSynchronized
  have hinX7 : ∀ w ∈ wsX70, w ∈ wsX7_rollable := by decide +kernel
  have S0 : CallFix p_ m c cX7_rollable 3 s _ wsX7_rollable RX7 := ⟨hx, hb, hml, hown, hts⟩
  have hD : va_D (gF z 20) (wRM G z r f) := gD_RM hz
  have hS : va_S (gF z 20) s.heap s.heap [] := va_S.rf
  have hl := lv_entry ([.ref (z 0), .int x1]) (n := 3) (Nat.le_of_ble_eq_true rfl)
  rw [lg_entry_eq]
  generalize (lg_sl ([.ref (z 0), .int x1]) ++ List.replicate (3 - (lg_sl ([.ref (z 0), .int x1])).length) Slot.unset).toArray = ls at hl ⊢
  have hl : lv_has ls 3 [(0, .ref (z 0)), (1, .int x1)] := hl
  obtain ⟨hn, hn2, hd, hd2, hk, hk2, ht, ht2, hh, hm⟩ := id hM
  refine lv_aload_n hx hb dX7_rollable_0 rfl (lv_at hl 0 rfl) ?_
  refine lv_iload_n hx hb dX7_rollable_1 rfl (lv_at hl 1 rfl) ?_
  refine g_callC (W.runS (As := [.int x1]) (rest := [.ref (z 0)]) S0 (c_X7_isRing l G _ x1) (va_cwS 1 hts gX7_rollable_X7_isRing rfl rfl rfl (by decide +kernel) ⟨Nat.le_of_ble_eq_true rfl, Nat.le_of_ble_eq_true rfl⟩) (g_preS hK) rfl rfl hl.1 rfl (lv_room (Nat.le_of_ble_eq_true rfl)) dX7_rollable_2 ⟨Nat.zero_le _, Nat.zero_le _⟩) ?_
  refine lv_if_eq (tgt := 12) hx hb dX7_rollable_5 (by decide) (fun c_1 => ?_) (fun c_1 => ?_)
  · have c_1 := b2i_f c_1
    refine lv_iconst (v := nI 1) hx hb dX7_rollable_12 (by decide +kernel) ?_
    refine va_put (D := G.1) (ci := 7) (v := .int (nI 1)) (ty := .int) (C := RX7) (T := TX7) (N := 26) hx hb hts hinX7 tyX7 tyX7_ok nmX7 hown hK.1 hP hD hS 0 rfl rfl 0 (by decide) (hts (.fieldLink RX7 72 "RotaforgeModel" "thrown" "I") (by decide +kernel)) (fun _ h9 => h9) rfl (by decide +kernel) rfl rfl (Nat.le_of_ble_eq_true rfl) dX7_rollable_13 (fun H locs hP hD hS => ?_)
    have hP : va_P G.1 vwCl (wRM G z r (upF f 0 (nI 1))) H := gMs_0 hP
    have hD : va_D (gF z 20) (wRM G z r (upF f 0 (nI 1))) := gD_RM hz
    refine lv_aload_n hx hb dX7_rollable_16 rfl (lv_at hl 0 rfl) ?_
    refine va_get (D := G.1) (ci := 7) (v := .int (nI 1)) (C := RX7) (T := TX7) (N := 26) hx hb hts hinX7 hown hK.1 hP 0 rfl rfl 0 (by decide) (hts (.fieldLink RX7 72 "RotaforgeModel" "thrown" "I") (by decide +kernel)) (fun _ h9 => h9) rfl dX7_rollable_17 ?_
    refine lv_if_le (tgt := 25) hx hb dX7_rollable_20 (by decide) (fun c_2 => ?_) (fun c_2 => ?_)
    · exact absurd c_2 (by decide)
    · refine lv_iconst (v := nI 0) hx hb dX7_rollable_23 (by decide +kernel) ?_
      have hq : (nI 0) = (if mIn x1 (nI 0) (nI 3) then mRoll r f n k x1 else nI 0) := by
        first | with_reducible rfl | with_reducible exact nI_add _ _ | (simp only [upF_uu, mRoll, c_1, eq_false c_2, ↓reduceIte, Bool.false_eq_true, decide_true, decide_false, Bool.not_true, Bool.not_false, Bool.or_true, Bool.true_or, Bool.or_false, Bool.false_or]; done) | (simp only [upF_uu, mRoll, c_1, eq_false c_2, ↓reduceIte, Bool.false_eq_true, decide_true, decide_false, Bool.not_true, Bool.not_false, Bool.or_true, Bool.true_or, Bool.or_false, Bool.false_or]; with_reducible rfl) | (simp only [upF_uu, mRoll, c_1, eq_false c_2, ↓reduceIte, Bool.false_eq_true, decide_true, decide_false, Bool.not_true, Bool.not_false, Bool.or_true, Bool.true_or, Bool.or_false, Bool.false_or]; rfl) | (simp [b2i, upF_uu, mRoll, c_1, eq_false c_2]; done) | rfl
      have hPf : va_P G.1 vwCl (wRM G z r (upF f 0 (if mIn x1 (nI 0) (nI 3) then nI 0 else nI 1))) H := by
        have e1 : r = r := by first | with_reducible rfl | (simp only [upF_uu, mRoll, c_1, eq_false c_2, ↓reduceIte, Bool.false_eq_true]; done) | (simp only [upF_uu, mRoll, c_1, eq_false c_2, ↓reduceIte, Bool.false_eq_true]; rfl) | rfl
        have e2 : upF f 0 (if mIn x1 (nI 0) (nI 3) then nI 0 else nI 1) = upF f 0 (nI 1) := by first | with_reducible rfl | (simp only [upF_uu, mRoll, c_1, eq_false c_2, ↓reduceIte, Bool.false_eq_true]; done) | (simp only [upF_uu, mRoll, c_1, eq_false c_2, ↓reduceIte, Bool.false_eq_true]; rfl) | rfl
        rw [e1, e2]; exact hP
      exact W.iret (v := nI 0) hx hb hr (fun t ht _ => ⟨⟨_, (), rfl, hq, g_hp ht hPf⟩, hS.F ht⟩) hS.2.2 dX7_rollable_24
  · have c_1 := b2i_t c_1
    refine lv_iconst (v := nI 0) hx hb dX7_rollable_8 (by decide +kernel) ?_
    refine lv_goto (tgt := 13) hx hb dX7_rollable_9 (by decide) ?_
    refine va_put (D := G.1) (ci := 7) (v := .int (nI 0)) (ty := .int) (C := RX7) (T := TX7) (N := 26) hx hb hts hinX7 tyX7 tyX7_ok nmX7 hown hK.1 hP hD hS 0 rfl rfl 0 (by decide) (hts (.fieldLink RX7 72 "RotaforgeModel" "thrown" "I") (by decide +kernel)) (fun _ h9 => h9) rfl (by decide +kernel) rfl rfl (Nat.le_of_ble_eq_true rfl) dX7_rollable_13 (fun H locs hP hD hS => ?_)
    have hP : va_P G.1 vwCl (wRM G z r (upF f 0 (nI 0))) H := gMs_0 hP
    have hD : va_D (gF z 20) (wRM G z r (upF f 0 (nI 0))) := gD_RM hz
    refine lv_aload_n hx hb dX7_rollable_16 rfl (lv_at hl 0 rfl) ?_
    refine va_get (D := G.1) (ci := 7) (v := .int (nI 0)) (C := RX7) (T := TX7) (N := 26) hx hb hts hinX7 hown hK.1 hP 0 rfl rfl 0 (by decide) (hts (.fieldLink RX7 72 "RotaforgeModel" "thrown" "I") (by decide +kernel)) (fun _ h9 => h9) rfl dX7_rollable_17 ?_
    refine lv_if_le (tgt := 25) hx hb dX7_rollable_20 (by decide) (fun c_3 => ?_) (fun c_3 => ?_)
    · refine lv_iload_n hx hb dX7_rollable_25 rfl (lv_at hl 1 rfl) ?_
      refine g_join m 47 3 [(0, .ref (z 0)), (1, .int x1)] [.int (mNx r f n x1)] (fun ls hl => ?_) (fun hJ47 => ?_)
      · refine lv_istore_n (lv' := [(2, .int (mNx r f n x1)), (0, .ref (z 0)), (1, .int x1)]) hx hb dX7_rollable_47 rfl hl (by decide) rfl (fun ls hl => ?_)
        refine lv_aload_n hx hb dX7_rollable_48 rfl (lv_at hl 1 rfl) ?_
        refine lv_iconst (v := nI 1) hx hb dX7_rollable_49 (by decide +kernel) ?_
        refine lv_iload_n hx hb dX7_rollable_50 rfl (lv_at hl 2 rfl) ?_
        refine lv_iconst (v := (-1)) hx hb dX7_rollable_51 (by decide +kernel) ?_
        refine g_callC (W.runV (C := RX7) (As := [.int (nI 1), .int x1, .int (-1)]) (rest := []) S0 (c_X7_valueOf l G _ z r (upF f 0 (nI 0)) hP (nI 1) x1 (-1) n d k t hM) (cwV 3 hts gX7_rollable_X7_valueOf rfl rfl rfl (by decide +kernel) ⟨Nat.le_of_ble_eq_true rfl, Nat.le_of_ble_eq_true rfl⟩) (g_preV hK hP (q0 := 0) (ci := 7) (q := (RX7, TX7, 26)) rfl rfl) rfl rfl hl.1 rfl (lv_room (Nat.le_of_ble_eq_true rfl)) dX7_rollable_52 ⟨Nat.zero_le _, Nat.zero_le _⟩) ?_
        refine lv_iload_n hx hb dX7_rollable_55 rfl (lv_at hl 0 rfl) ?_
        refine lv_icmp_eq (tgt := 68) hx hb dX7_rollable_56 (by decide) (fun c_4 => ?_) (fun c_4 => ?_)
        · refine lv_iconst (v := (-1)) hx hb dX7_rollable_68 (by decide +kernel) ?_
          refine lv_goto (tgt := 73) hx hb dX7_rollable_69 (by decide) ?_
          have hq : (-1) = (if mIn x1 (nI 0) (nI 3) then mRoll r f n k x1 else nI 0) := by
            first | with_reducible rfl | with_reducible exact nI_add _ _ | (simp only [upF_uu, mRoll, c_1, eq_true c_3, eq_true c_4, ↓reduceIte, Bool.false_eq_true, decide_true, decide_false, Bool.not_true, Bool.not_false, Bool.or_true, Bool.true_or, Bool.or_false, Bool.false_or]; done) | (simp only [upF_uu, mRoll, c_1, eq_true c_3, eq_true c_4, ↓reduceIte, Bool.false_eq_true, decide_true, decide_false, Bool.not_true, Bool.not_false, Bool.or_true, Bool.true_or, Bool.or_false, Bool.false_or]; with_reducible rfl) | (simp only [upF_uu, mRoll, c_1, eq_true c_3, eq_true c_4, ↓reduceIte, Bool.false_eq_true, decide_true, decide_false, Bool.not_true, Bool.not_false, Bool.or_true, Bool.true_or, Bool.or_false, Bool.false_or]; rfl) | (simp [b2i, upF_uu, mRoll, c_1, eq_true c_3, eq_true c_4]; done) | rfl
          have hPf : va_P G.1 vwCl (wRM G z r (upF f 0 (if mIn x1 (nI 0) (nI 3) then nI 0 else nI 1))) H := by
            have e1 : r = r := by first | with_reducible rfl | (simp only [upF_uu, mRoll, c_1, eq_true c_3, eq_true c_4, ↓reduceIte, Bool.false_eq_true]; done) | (simp only [upF_uu, mRoll, c_1, eq_true c_3, eq_true c_4, ↓reduceIte, Bool.false_eq_true]; rfl) | rfl
            have e2 : upF f 0 (if mIn x1 (nI 0) (nI 3) then nI 0 else nI 1) = upF f 0 (nI 0) := by first | with_reducible rfl | (simp only [upF_uu, mRoll, c_1, eq_true c_3, eq_true c_4, ↓reduceIte, Bool.false_eq_true]; done) | (simp only [upF_uu, mRoll, c_1, eq_true c_3, eq_true c_4, ↓reduceIte, Bool.false_eq_true]; rfl) | rfl
            rw [e1, e2]; exact hP
          exact W.iret (v := (-1)) hx hb hr (fun t ht _ => ⟨⟨_, (), rfl, hq, g_hp ht hPf⟩, hS.F ht⟩) hS.2.2 dX7_rollable_73
        · refine lv_aload_n hx hb dX7_rollable_59 rfl (lv_at hl 1 rfl) ?_
          refine lv_iload_n hx hb dX7_rollable_60 rfl (lv_at hl 2 rfl) ?_
          refine lv_iload_n hx hb dX7_rollable_61 rfl (lv_at hl 0 rfl) ?_
          refine g_callC (r := (b2i (mHeld r f n k (cN x1) (mNx r f n x1)))) (W.runV (C := RX7) (As := [.int x1, .int (mNx r f n x1)]) (rest := []) S0 (c_X7_isHeldBack l G _ z r (upF f 0 (nI 0)) hP x1 (mNx r f n x1) n d k t (cN x1) hM (mIn_le c_1 (by decide)).1 (Nat.lt_of_le_of_lt (mIn_le c_1 (by decide)).2 (by decide))) (cwV 2 hts gX7_rollable_X7_isHeldBack rfl rfl rfl (by decide +kernel) ⟨Nat.le_of_ble_eq_true rfl, Nat.le_of_ble_eq_true rfl⟩) (g_preV hK hP (q0 := 0) (ci := 7) (q := (RX7, TX7, 26)) rfl rfl) rfl rfl hl.1 rfl (lv_room (Nat.le_of_ble_eq_true rfl)) dX7_rollable_62 ⟨Nat.zero_le _, Nat.zero_le _⟩) ?_
          refine lv_if_eq (tgt := 72) hx hb dX7_rollable_65 (by decide) (fun c_5 => ?_) (fun c_5 => ?_)
          · have c_5 := b2i_f c_5
            refine lv_iload_n hx hb dX7_rollable_72 rfl (lv_at hl 0 rfl) ?_
            have hq : (mNx r f n x1) = (if mIn x1 (nI 0) (nI 3) then mRoll r f n k x1 else nI 0) := by
              first | with_reducible rfl | with_reducible exact nI_add _ _ | (simp only [upF_uu, mRoll, c_1, eq_true c_3, eq_false c_4, c_5, ↓reduceIte, Bool.false_eq_true, decide_true, decide_false, Bool.not_true, Bool.not_false, Bool.or_true, Bool.true_or, Bool.or_false, Bool.false_or]; done) | (simp only [upF_uu, mRoll, c_1, eq_true c_3, eq_false c_4, c_5, ↓reduceIte, Bool.false_eq_true, decide_true, decide_false, Bool.not_true, Bool.not_false, Bool.or_true, Bool.true_or, Bool.or_false, Bool.false_or]; with_reducible rfl) | (simp only [upF_uu, mRoll, c_1, eq_true c_3, eq_false c_4, c_5, ↓reduceIte, Bool.false_eq_true, decide_true, decide_false, Bool.not_true, Bool.not_false, Bool.or_true, Bool.true_or, Bool.or_false, Bool.false_or]; rfl) | (simp [b2i, upF_uu, mRoll, c_1, eq_true c_3, eq_false c_4, c_5]; done) | rfl
            have hPf : va_P G.1 vwCl (wRM G z r (upF f 0 (if mIn x1 (nI 0) (nI 3) then nI 0 else nI 1))) H := by
              have e1 : r = r := by first | with_reducible rfl | (simp only [upF_uu, mRoll, c_1, eq_true c_3, eq_false c_4, c_5, ↓reduceIte, Bool.false_eq_true]; done) | (simp only [upF_uu, mRoll, c_1, eq_true c_3, eq_false c_4, c_5, ↓reduceIte, Bool.false_eq_true]; rfl) | rfl
              have e2 : upF f 0 (if mIn x1 (nI 0) (nI 3) then nI 0 else nI 1) = upF f 0 (nI 0) := by first | with_reducible rfl | (simp only [upF_uu, mRoll, c_1, eq_true c_3, eq_false c_4, c_5, ↓reduceIte, Bool.false_eq_true]; done) | (simp only [upF_uu, mRoll, c_1, eq_true c_3, eq_false c_4, c_5, ↓reduceIte, Bool.false_eq_true]; rfl) | rfl
              rw [e1, e2]; exact hP
            exact W.iret (v := mNx r f n x1) hx hb hr (fun t ht _ => ⟨⟨_, (), rfl, hq, g_hp ht hPf⟩, hS.F ht⟩) hS.2.2 dX7_rollable_73
          · have c_5 := b2i_t c_5
            refine lv_iconst (v := (-1)) hx hb dX7_rollable_68 (by decide +kernel) ?_
            refine lv_goto (tgt := 73) hx hb dX7_rollable_69 (by decide) ?_
            have hq : (-1) = (if mIn x1 (nI 0) (nI 3) then mRoll r f n k x1 else nI 0) := by
              first | with_reducible rfl | with_reducible exact nI_add _ _ | (simp only [upF_uu, mRoll, c_1, eq_true c_3, eq_false c_4, c_5, ↓reduceIte, Bool.false_eq_true, decide_true, decide_false, Bool.not_true, Bool.not_false, Bool.or_true, Bool.true_or, Bool.or_false, Bool.false_or]; done) | (simp only [upF_uu, mRoll, c_1, eq_true c_3, eq_false c_4, c_5, ↓reduceIte, Bool.false_eq_true, decide_true, decide_false, Bool.not_true, Bool.not_false, Bool.or_true, Bool.true_or, Bool.or_false, Bool.false_or]; with_reducible rfl) | (simp only [upF_uu, mRoll, c_1, eq_true c_3, eq_false c_4, c_5, ↓reduceIte, Bool.false_eq_true, decide_true, decide_false, Bool.not_true, Bool.not_false, Bool.or_true, Bool.true_or, Bool.or_false, Bool.false_or]; rfl) | (simp [b2i, upF_uu, mRoll, c_1, eq_true c_3, eq_false c_4, c_5]; done) | rfl
            have hPf : va_P G.1 vwCl (wRM G z r (upF f 0 (if mIn x1 (nI 0) (nI 3) then nI 0 else nI 1))) H := by
              have e1 : r = r := by first | with_reducible rfl | (simp only [upF_uu, mRoll, c_1, eq_true c_3, eq_false c_4, c_5, ↓reduceIte, Bool.false_eq_true]; done) | (simp only [upF_uu, mRoll, c_1, eq_true c_3, eq_false c_4, c_5, ↓reduceIte, Bool.false_eq_true]; rfl) | rfl
              have e2 : upF f 0 (if mIn x1 (nI 0) (nI 3) then nI 0 else nI 1) = upF f 0 (nI 0) := by first | with_reducible rfl | (simp only [upF_uu, mRoll, c_1, eq_true c_3, eq_false c_4, c_5, ↓reduceIte, Bool.false_eq_true]; done) | (simp only [upF_uu, mRoll, c_1, eq_true c_3, eq_false c_4, c_5, ↓reduceIte, Bool.false_eq_true]; rfl) | rfl
              rw [e1, e2]; exact hP
            exact W.iret (v := (-1)) hx hb hr (fun t ht _ => ⟨⟨_, (), rfl, hq, g_hp ht hPf⟩, hS.F ht⟩) hS.2.2 dX7_rollable_73
      · refine lv_if_ne (tgt := 38) hx hb dX7_rollable_26 (by decide) (fun c_6 => ?_) (fun c_6 => ?_)
        · refine lv_aload_n hx hb dX7_rollable_38 rfl (lv_at hl 0 rfl) ?_
          refine lv_iconst (v := nI 1) hx hb dX7_rollable_39 (by decide +kernel) ?_
          refine lv_iload_n hx hb dX7_rollable_40 rfl (lv_at hl 1 rfl) ?_
          refine lv_iconst (v := nI 1) hx hb dX7_rollable_41 (by decide +kernel) ?_
          refine lv_isub hx hb dX7_rollable_42 ?_
          refine lv_iconst (v := (-1)) hx hb dX7_rollable_43 (by decide +kernel) ?_
          refine g_callC (W.runV (C := RX7) (As := [.int (nI 1), .int (x1 - (nI 1)), .int (-1)]) (rest := []) S0 (c_X7_valueOf l G _ z r (upF f 0 (nI 0)) hP (nI 1) (x1 - (nI 1)) (-1) n d k t hM) (cwV 3 hts gX7_rollable_X7_valueOf rfl rfl rfl (by decide +kernel) ⟨Nat.le_of_ble_eq_true rfl, Nat.le_of_ble_eq_true rfl⟩) (g_preV hK hP (q0 := 0) (ci := 7) (q := (RX7, TX7, 26)) rfl rfl) rfl rfl hl.1 rfl (lv_room (Nat.le_of_ble_eq_true rfl)) dX7_rollable_44 ⟨Nat.zero_le _, Nat.zero_le _⟩) ?_
          refine W.eq (g2 := F0 m 47 ls [.int (mNx r f n x1)]) (g_st (gs_i (show mVal r n (nI 1) (x1 - (nI 1)) (-1) = mNx r f n x1 by first | with_reducible rfl | with_reducible exact nI_add _ _ | (simp only [mNx, c_1, eq_true c_3, eq_false c_6, ↓reduceIte, Bool.false_eq_true, decide_true, decide_false, Bool.not_true, Bool.not_false, Bool.or_true, Bool.true_or, Bool.or_false, Bool.false_or]; done) | (simp only [mNx, c_1, eq_true c_3, eq_false c_6, ↓reduceIte, Bool.false_eq_true, decide_true, decide_false, Bool.not_true, Bool.not_false, Bool.or_true, Bool.true_or, Bool.or_false, Bool.false_or]; with_reducible rfl) | (simp only [mNx, c_1, eq_true c_3, eq_false c_6, ↓reduceIte, Bool.false_eq_true, decide_true, decide_false, Bool.not_true, Bool.not_false, Bool.or_true, Bool.true_or, Bool.or_false, Bool.false_or]; rfl) | (simp [b2i, mNx, c_1, eq_true c_3, eq_false c_6]; done) | rfl) rfl)) ?_
          exact hJ47 _ (show lv_has ls 3 [(0, .ref (z 0)), (1, .int x1)] from lv_sub hl [0, 1] rfl)
        · refine lv_aload_n hx hb dX7_rollable_29 rfl (lv_at hl 0 rfl) ?_
          refine va_get (D := G.1) (ci := 7) (v := .int (f 2)) (C := RX7) (T := TX7) (N := 26) hx hb hts hinX7 hown hK.1 hP 0 rfl rfl 2 (by decide) (hts (.fieldLink RX7 7 "RotaforgeModel" "versionMany" "I") (by decide +kernel)) (fun _ h9 => h9) rfl dX7_rollable_30 ?_
          refine lv_iconst (v := nI 1) hx hb dX7_rollable_33 (by decide +kernel) ?_
          refine lv_isub hx hb dX7_rollable_34 ?_
          refine lv_goto (tgt := 47) hx hb dX7_rollable_35 (by decide) ?_
          refine W.eq (g2 := F0 m 47 ls [.int (mNx r f n x1)]) (g_st (gs_i (show (f 2) - (nI 1) = mNx r f n x1 by first | with_reducible rfl | with_reducible exact nI_add _ _ | (simp only [mNx, c_1, eq_true c_3, eq_true c_6, ↓reduceIte, Bool.false_eq_true, decide_true, decide_false, Bool.not_true, Bool.not_false, Bool.or_true, Bool.true_or, Bool.or_false, Bool.false_or]; done) | (simp only [mNx, c_1, eq_true c_3, eq_true c_6, ↓reduceIte, Bool.false_eq_true, decide_true, decide_false, Bool.not_true, Bool.not_false, Bool.or_true, Bool.true_or, Bool.or_false, Bool.false_or]; with_reducible rfl) | (simp only [mNx, c_1, eq_true c_3, eq_true c_6, ↓reduceIte, Bool.false_eq_true, decide_true, decide_false, Bool.not_true, Bool.not_false, Bool.or_true, Bool.true_or, Bool.or_false, Bool.false_or]; rfl) | (simp [b2i, mNx, c_1, eq_true c_3, eq_true c_6]; done) | rfl) rfl)) ?_
          exact hJ47 _ (show lv_has ls 3 [(0, .ref (z 0)), (1, .int x1)] from lv_sub hl [0, 1] rfl)
    · exact absurd (by decide) c_3

set_option maxHeartbeats 4000000 in
set_option maxRecDepth 100000 in
theorem c_X7_build (l : Launch) (G : gG) (H0 : Heap) (z : Nat → Nat) (hz : gDis z 20) (r : Nat → Nat → Int32) (f : Nat → Int32) (hP : va_P G.1 vwCl (wRM G z r f) H0) (n d k t : Nat) (hM : mOK r f n d k t) : gMw l yX7_build wsX7_build 0 0 G H0 [.ref (z 0)] (if f 2 = nI 20 then nI 0 else f 2 + nI 1 - nI 1) (wRM G z r (if f 2 = nI 20 then upF f 0 (nI 1) else upF (upF f 0 (nI 0)) 2 (f 2 + nI 1))) (gF z 20) := by
  refine Met.ofW (cc := cX7_build) (maxL := 1) (ret := (some .int)) (by decide) rfl ?_
  intro p_ e_ s m args below meth c s₁ B hml hv
  obtain ⟨rfl, rfl, hK⟩ := hv
  have hx := B.exec
  have hb := B.bytes
  have hr := B.returns
  have hts := atoms_spec (ws := wsX7_build) B.pre
  have hown : s.vm.findClass RX7 = some m.cls := findClass_of_methodNamed B.named
  have hlocks := B.notSynchronized
  have hinX7 : ∀ w ∈ wsX70, w ∈ wsX7_build := by decide +kernel
  have S0 : CallFix p_ m c cX7_build 1 s _ wsX7_build RX7 := ⟨hx, hb, hml, hown, hts⟩
  have hD : va_D (gF z 20) (wRM G z r f) := gD_RM hz
  have hS : va_S (gF z 20) s.heap s.heap [] := va_S.rf
  have hl := lv_entry ([.ref (z 0)]) (n := 1) (Nat.le_of_ble_eq_true rfl)
  rw [lg_entry_eq]
  generalize (lg_sl ([.ref (z 0)]) ++ List.replicate (1 - (lg_sl ([.ref (z 0)])).length) Slot.unset).toArray = ls at hl ⊢
  have hl : lv_has ls 1 [(0, .ref (z 0))] := hl
  obtain ⟨hn, hn2, hd, hd2, hk, hk2, ht, ht2, hh, hm⟩ := id hM
  refine lv_aload_n hx hb dX7_build_0 rfl (lv_at hl 0 rfl) ?_
  refine lv_aload_n hx hb dX7_build_1 rfl (lv_at hl 0 rfl) ?_
  refine va_get (D := G.1) (ci := 7) (v := .int (f 2)) (C := RX7) (T := TX7) (N := 26) hx hb hts hinX7 hown hK.1 hP 0 rfl rfl 2 (by decide) (hts (.fieldLink RX7 7 "RotaforgeModel" "versionMany" "I") (by decide +kernel)) (fun _ h9 => h9) rfl dX7_build_2 ?_
  refine lv_bipush (v := nI 20) hx hb dX7_build_5 (by decide +kernel) ?_
  refine lv_icmp_ne (tgt := 14) hx hb dX7_build_7 (by decide) (fun c_1 => ?_) (fun c_1 => ?_)
  · refine lv_iconst (v := nI 0) hx hb dX7_build_14 (by decide +kernel) ?_
    refine va_put (D := G.1) (ci := 7) (v := .int (nI 0)) (ty := .int) (C := RX7) (T := TX7) (N := 26) hx hb hts hinX7 tyX7 tyX7_ok nmX7 hown hK.1 hP hD hS 0 rfl rfl 0 (by decide) (hts (.fieldLink RX7 72 "RotaforgeModel" "thrown" "I") (by decide +kernel)) (fun _ h9 => h9) rfl (by decide +kernel) rfl rfl (Nat.le_of_ble_eq_true rfl) dX7_build_15 (fun H locs hP hD hS => ?_)
    have hP : va_P G.1 vwCl (wRM G z r (upF f 0 (nI 0))) H := gMs_0 hP
    have hD : va_D (gF z 20) (wRM G z r (upF f 0 (nI 0))) := gD_RM hz
    refine lv_aload_n hx hb dX7_build_18 rfl (lv_at hl 0 rfl) ?_
    refine va_get (D := G.1) (ci := 7) (v := .int (nI 0)) (C := RX7) (T := TX7) (N := 26) hx hb hts hinX7 hown hK.1 hP 0 rfl rfl 0 (by decide) (hts (.fieldLink RX7 72 "RotaforgeModel" "thrown" "I") (by decide +kernel)) (fun _ h9 => h9) rfl dX7_build_19 ?_
    refine lv_if_le (tgt := 27) hx hb dX7_build_22 (by decide) (fun c_2 => ?_) (fun c_2 => ?_)
    · refine lv_aload_n hx hb dX7_build_27 rfl (lv_at hl 0 rfl) ?_
      refine lv_dup hx hb dX7_build_28 rfl ?_
      refine va_get (D := G.1) (ci := 7) (v := .int (f 2)) (C := RX7) (T := TX7) (N := 26) hx hb hts hinX7 hown hK.1 hP 0 rfl rfl 2 (by decide) (hts (.fieldLink RX7 7 "RotaforgeModel" "versionMany" "I") (by decide +kernel)) (fun _ h9 => h9) rfl dX7_build_29 ?_
      refine lv_iconst (v := nI 1) hx hb dX7_build_32 (by decide +kernel) ?_
      refine lv_iadd hx hb dX7_build_33 ?_
      refine va_put (D := G.1) (ci := 7) (v := .int ((f 2) + (nI 1))) (ty := .int) (C := RX7) (T := TX7) (N := 26) hx hb hts hinX7 tyX7 tyX7_ok nmX7 hown hK.1 hP hD hS 0 rfl rfl 2 (by decide) (hts (.fieldLink RX7 7 "RotaforgeModel" "versionMany" "I") (by decide +kernel)) (fun _ h9 => h9) rfl (by decide +kernel) rfl rfl (Nat.le_of_ble_eq_true rfl) dX7_build_34 (fun H locs hP hD hS => ?_)
      have hP : va_P G.1 vwCl (wRM G z r (upF (upF f 0 (nI 0)) 2 ((f 2) + (nI 1)))) H := gMs_2 hP
      have hD : va_D (gF z 20) (wRM G z r (upF (upF f 0 (nI 0)) 2 ((f 2) + (nI 1)))) := gD_RM hz
      refine lv_aload_n hx hb dX7_build_37 rfl (lv_at hl 0 rfl) ?_
      refine va_get (D := G.1) (ci := 7) (v := .int ((f 2) + (nI 1))) (C := RX7) (T := TX7) (N := 26) hx hb hts hinX7 hown hK.1 hP 0 rfl rfl 2 (by decide) (hts (.fieldLink RX7 7 "RotaforgeModel" "versionMany" "I") (by decide +kernel)) (fun _ h9 => h9) rfl dX7_build_38 ?_
      refine lv_iconst (v := nI 1) hx hb dX7_build_41 (by decide +kernel) ?_
      refine lv_isub hx hb dX7_build_42 ?_
      have hq : (((f 2) + (nI 1)) - (nI 1)) = (if f 2 = nI 20 then nI 0 else f 2 + nI 1 - nI 1) := by
        first | with_reducible rfl | with_reducible exact nI_add _ _ | (simp only [upF_uu, eq_false c_1, eq_true c_2, ↓reduceIte, Bool.false_eq_true, decide_true, decide_false, Bool.not_true, Bool.not_false, Bool.or_true, Bool.true_or, Bool.or_false, Bool.false_or]; done) | (simp only [upF_uu, eq_false c_1, eq_true c_2, ↓reduceIte, Bool.false_eq_true, decide_true, decide_false, Bool.not_true, Bool.not_false, Bool.or_true, Bool.true_or, Bool.or_false, Bool.false_or]; with_reducible rfl) | (simp only [upF_uu, eq_false c_1, eq_true c_2, ↓reduceIte, Bool.false_eq_true, decide_true, decide_false, Bool.not_true, Bool.not_false, Bool.or_true, Bool.true_or, Bool.or_false, Bool.false_or]; rfl) | (simp [b2i, upF_uu, eq_false c_1, eq_true c_2]; done) | rfl
      have hPf : va_P G.1 vwCl (wRM G z r (if f 2 = nI 20 then upF f 0 (nI 1) else upF (upF f 0 (nI 0)) 2 (f 2 + nI 1))) H := by
        have e1 : r = r := by first | with_reducible rfl | (simp only [upF_uu, eq_false c_1, eq_true c_2, ↓reduceIte, Bool.false_eq_true]; done) | (simp only [upF_uu, eq_false c_1, eq_true c_2, ↓reduceIte, Bool.false_eq_true]; rfl) | rfl
        have e2 : (if f 2 = nI 20 then upF f 0 (nI 1) else upF (upF f 0 (nI 0)) 2 (f 2 + nI 1)) = upF (upF f 0 (nI 0)) 2 ((f 2) + (nI 1)) := by first | with_reducible rfl | (simp only [upF_uu, eq_false c_1, eq_true c_2, ↓reduceIte, Bool.false_eq_true]; done) | (simp only [upF_uu, eq_false c_1, eq_true c_2, ↓reduceIte, Bool.false_eq_true]; rfl) | rfl
        rw [e1, e2]; exact hP
      exact W.iret (v := ((f 2) + (nI 1)) - (nI 1)) hx hb hr (fun t ht _ => ⟨⟨_, (), rfl, hq, g_hp ht hPf⟩, hS.F ht⟩) hS.2.2 dX7_build_43
    · exact absurd (by decide) c_2
  · refine lv_iconst (v := nI 1) hx hb dX7_build_10 (by decide +kernel) ?_
    refine lv_goto (tgt := 15) hx hb dX7_build_11 (by decide) ?_
    refine va_put (D := G.1) (ci := 7) (v := .int (nI 1)) (ty := .int) (C := RX7) (T := TX7) (N := 26) hx hb hts hinX7 tyX7 tyX7_ok nmX7 hown hK.1 hP hD hS 0 rfl rfl 0 (by decide) (hts (.fieldLink RX7 72 "RotaforgeModel" "thrown" "I") (by decide +kernel)) (fun _ h9 => h9) rfl (by decide +kernel) rfl rfl (Nat.le_of_ble_eq_true rfl) dX7_build_15 (fun H locs hP hD hS => ?_)
    have hP : va_P G.1 vwCl (wRM G z r (upF f 0 (nI 1))) H := gMs_0 hP
    have hD : va_D (gF z 20) (wRM G z r (upF f 0 (nI 1))) := gD_RM hz
    refine lv_aload_n hx hb dX7_build_18 rfl (lv_at hl 0 rfl) ?_
    refine va_get (D := G.1) (ci := 7) (v := .int (nI 1)) (C := RX7) (T := TX7) (N := 26) hx hb hts hinX7 hown hK.1 hP 0 rfl rfl 0 (by decide) (hts (.fieldLink RX7 72 "RotaforgeModel" "thrown" "I") (by decide +kernel)) (fun _ h9 => h9) rfl dX7_build_19 ?_
    refine lv_if_le (tgt := 27) hx hb dX7_build_22 (by decide) (fun c_3 => ?_) (fun c_3 => ?_)
    · exact absurd c_3 (by decide)
    · refine lv_iconst (v := nI 0) hx hb dX7_build_25 (by decide +kernel) ?_
      have hq : (nI 0) = (if f 2 = nI 20 then nI 0 else f 2 + nI 1 - nI 1) := by
        first | with_reducible rfl | with_reducible exact nI_add _ _ | (simp only [upF_uu, eq_true c_1, eq_false c_3, ↓reduceIte, Bool.false_eq_true, decide_true, decide_false, Bool.not_true, Bool.not_false, Bool.or_true, Bool.true_or, Bool.or_false, Bool.false_or]; done) | (simp only [upF_uu, eq_true c_1, eq_false c_3, ↓reduceIte, Bool.false_eq_true, decide_true, decide_false, Bool.not_true, Bool.not_false, Bool.or_true, Bool.true_or, Bool.or_false, Bool.false_or]; with_reducible rfl) | (simp only [upF_uu, eq_true c_1, eq_false c_3, ↓reduceIte, Bool.false_eq_true, decide_true, decide_false, Bool.not_true, Bool.not_false, Bool.or_true, Bool.true_or, Bool.or_false, Bool.false_or]; rfl) | (simp [b2i, upF_uu, eq_true c_1, eq_false c_3]; done) | rfl
      have hPf : va_P G.1 vwCl (wRM G z r (if f 2 = nI 20 then upF f 0 (nI 1) else upF (upF f 0 (nI 0)) 2 (f 2 + nI 1))) H := by
        have e1 : r = r := by first | with_reducible rfl | (simp only [upF_uu, eq_true c_1, eq_false c_3, ↓reduceIte, Bool.false_eq_true]; done) | (simp only [upF_uu, eq_true c_1, eq_false c_3, ↓reduceIte, Bool.false_eq_true]; rfl) | rfl
        have e2 : (if f 2 = nI 20 then upF f 0 (nI 1) else upF (upF f 0 (nI 0)) 2 (f 2 + nI 1)) = upF f 0 (nI 1) := by first | with_reducible rfl | (simp only [upF_uu, eq_true c_1, eq_false c_3, ↓reduceIte, Bool.false_eq_true]; done) | (simp only [upF_uu, eq_true c_1, eq_false c_3, ↓reduceIte, Bool.false_eq_true]; rfl) | rfl
        rw [e1, e2]; exact hP
      exact W.iret (v := nI 0) hx hb hr (fun t ht _ => ⟨⟨_, (), rfl, hq, g_hp ht hPf⟩, hS.F ht⟩) hS.2.2 dX7_build_26
