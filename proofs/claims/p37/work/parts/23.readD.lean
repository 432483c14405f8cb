set_option maxHeartbeats 4000000 in
set_option maxRecDepth 100000 in
theorem c_X1_total (l : Launch) (G : gG) (H0 : Heap) (z : Nat → Nat) (r : Nat → Nat → Int32) (f : Nat → Int32) (hP : va_P G.1 vwCl (wRF G z r f) H0) : gMr l yX1_total wsX1_total 0 0 G H0 [.ref (z 2)] (f 2) := by
  refine Met.ofW (cc := cX1_total) (maxL := 1) (ret := (some .int)) (by decide) rfl ?_
  intro p_ e_ s m args below meth c s₁ B hml hv
  obtain ⟨rfl, rfl, hK⟩ := hv
  have hx := B.exec
  have hb := B.bytes
  have hr := B.returns
  have hts := atoms_spec (ws := wsX1_total) B.pre
  have hown : s.vm.findClass RX1 = some m.cls := findClass_of_methodNamed B.named
  have hlocks := B.notSynchronized
  have hinX1 : ∀ w ∈ wsX10, w ∈ wsX1_total := by decide +kernel
  have S0 : CallFix p_ m c cX1_total 1 s _ wsX1_total RX1 := ⟨hx, hb, hml, hown, hts⟩
  have hl := lv_entry ([.ref (z 2)]) (n := 1) (Nat.le_of_ble_eq_true rfl)
  rw [lg_entry_eq]
  generalize (lg_sl ([.ref (z 2)]) ++ List.replicate (1 - (lg_sl ([.ref (z 2)])).length) Slot.unset).toArray = ls at hl ⊢
  have hl : lv_has ls 1 [(0, .ref (z 2))] := hl
  refine lv_aload_n hx hb dX1_total_0 rfl (lv_at hl 0 rfl) ?_
  refine va_get (D := G.1) (ci := 1) (v := .int (f 2)) (C := RX1) (T := TX1) (N := 4) hx hb hts hinX1 hown hK.1 hP 2 rfl rfl 3 (by decide) (hts (.fieldLink RX1 26 "Rotaforge$Defects" "count" "I") (by decide +kernel)) (fun _ h9 => h9) rfl dX1_total_1 ?_
  have hq : (f 2) = (f 2) := by
    first | with_reducible rfl | with_reducible exact nI_add _ _ | (simp only [true_and, ↓reduceIte, Bool.false_eq_true, decide_true, decide_false, Bool.not_true, Bool.not_false, Bool.or_true, Bool.true_or, Bool.or_false, Bool.false_or]; done) | (simp only [true_and, ↓reduceIte, Bool.false_eq_true, decide_true, decide_false, Bool.not_true, Bool.not_false, Bool.or_true, Bool.true_or, Bool.or_false, Bool.false_or]; with_reducible rfl) | (simp only [true_and, ↓reduceIte, Bool.false_eq_true, decide_true, decide_false, Bool.not_true, Bool.not_false, Bool.or_true, Bool.true_or, Bool.or_false, Bool.false_or]; rfl) | (simp [b2i, true_and]; done) | rfl
  exact W.iret (v := (f 2)) hx hb hr (fun t ht _ => g_ret hq ht) g_no dX1_total_4

set_option maxHeartbeats 4000000 in
set_option maxRecDepth 100000 in
theorem c_X1_anyShows (l : Launch) (G : gG) (H0 : Heap) (z : Nat → Nat) (r : Nat → Nat → Int32) (f : Nat → Int32) (hP : va_P G.1 vwCl (wRF G z r f) H0) (x1 : Int32) (x2 : Int32) : gMr l yX1_anyShows wsX1_anyShows 1 21 G H0 [.ref (z 2), .int x1, .int x2] (b2i (cShows r x1 x2)) := by
  refine Met.ofW (cc := cX1_anyShows) (maxL := 3) (ret := (some .boolean)) (by decide) rfl ?_
  intro p_ e_ s m args below meth c s₁ B hml hv
  obtain ⟨rfl, rfl, hK⟩ := hv
  have hx := B.exec
  have hb := B.bytes
  have hr := B.returns
  have hts := atoms_spec (ws := wsX1_anyShows) B.pre
  have hown : s.vm.findClass RX1 = some m.cls := findClass_of_methodNamed B.named
  have hlocks := B.notSynchronized
  have hinX1 : ∀ w ∈ wsX10, w ∈ wsX1_anyShows := by decide +kernel
  have S0 : CallFix p_ m c cX1_anyShows 3 s _ wsX1_anyShows RX1 := ⟨hx, hb, hml, hown, hts⟩
  have hl := lv_entry ([.ref (z 2), .int x1, .int x2]) (n := 3) (Nat.le_of_ble_eq_true rfl)
  rw [lg_entry_eq]
  generalize (lg_sl ([.ref (z 2), .int x1, .int x2]) ++ List.replicate (3 - (lg_sl ([.ref (z 2), .int x1, .int x2])).length) Slot.unset).toArray = ls at hl ⊢
  have hl : lv_has ls 3 [(0, .ref (z 2)), (1, .int x1), (2, .int x2)] := hl
  refine lv_aload_n hx hb dX1_anyShows_0 rfl (lv_at hl 0 rfl) ?_
  refine va_get (D := G.1) (ci := 1) (v := .ref (z 8)) (C := RX1) (T := TX1) (N := 4) hx hb hts hinX1 hown hK.1 hP 2 rfl rfl 0 (by decide) (hts (.fieldLink RX1 14 "Rotaforge$Defects" "always" "LRotaforge$Row;") (by decide +kernel)) (fun _ h9 => h9) rfl dX1_anyShows_1 ?_
  refine lv_iload_n hx hb dX1_anyShows_4 rfl (lv_at hl 1 rfl) ?_
  refine g_callC (W.runV (C := RX5) (As := [.int x1]) (rest := []) S0 (c_X5_at l G _ (z 8) (z 30) 20 (r 2) (by decide) (hP.sub (ws' := wRow1 G (z 8) (z 30) 20 (r 2)) [8, 30] rfl) x1) (cwV 1 hts gX1_anyShows_X5_at rfl rfl rfl (by decide +kernel) ⟨Nat.le_of_ble_eq_true rfl, Nat.le_of_ble_eq_true rfl⟩) (g_preV hK hP (q0 := 8) (ci := 5) (q := (RX5, TX5, 1)) rfl rfl) rfl rfl hl.1 rfl (lv_room (Nat.le_of_ble_eq_true rfl)) dX1_anyShows_5 ⟨Nat.zero_le _, Nat.zero_le _⟩) ?_
  refine lv_iconst (v := nI 1) hx hb dX1_anyShows_8 (by decide +kernel) ?_
  refine lv_icmp_eq (tgt := 40) hx hb dX1_anyShows_9 (by decide) (fun c_1 => ?_) (fun c_1 => ?_)
  · refine lv_iconst (v := nI 1) hx hb dX1_anyShows_40 (by decide +kernel) ?_
    refine lv_goto (tgt := 45) hx hb dX1_anyShows_41 (by decide) ?_
    have hq : (nI 1) = (b2i (cShows r x1 x2)) := by
      first | with_reducible rfl | with_reducible exact nI_add _ _ | (simp only [cShows, c_1, ↓reduceIte, Bool.false_eq_true, decide_true, decide_false, Bool.not_true, Bool.not_false, Bool.or_true, Bool.true_or, Bool.or_false, Bool.false_or]; done) | (simp only [cShows, c_1, ↓reduceIte, Bool.false_eq_true, decide_true, decide_false, Bool.not_true, Bool.not_false, Bool.or_true, Bool.true_or, Bool.or_false, Bool.false_or]; with_reducible rfl) | (simp only [cShows, c_1, ↓reduceIte, Bool.false_eq_true, decide_true, decide_false, Bool.not_true, Bool.not_false, Bool.or_true, Bool.true_or, Bool.or_false, Bool.false_or]; rfl) | (simp [b2i, cShows, c_1]; done) | rfl
    exact W.zret (v := nI 1) hx hb hr (z_nar hq) (fun t ht _ => g_ret hq ht) g_no dX1_anyShows_45
  · refine lv_aload_n hx hb dX1_anyShows_12 rfl (lv_at hl 0 rfl) ?_
    refine va_get (D := G.1) (ci := 1) (v := .ref (z 9)) (C := RX1) (T := TX1) (N := 4) hx hb hts hinX1 hown hK.1 hP 2 rfl rfl 1 (by decide) (hts (.fieldLink RX1 20 "Rotaforge$Defects" "whereOn" "LRotaforge$Row;") (by decide +kernel)) (fun _ h9 => h9) rfl dX1_anyShows_13 ?_
    refine lv_iload_n hx hb dX1_anyShows_16 rfl (lv_at hl 1 rfl) ?_
    refine g_callC (W.runV (C := RX5) (As := [.int x1]) (rest := []) S0 (c_X5_at l G _ (z 9) (z 31) 20 (r 3) (by decide) (hP.sub (ws' := wRow1 G (z 9) (z 31) 20 (r 3)) [9, 31] rfl) x1) (cwV 1 hts gX1_anyShows_X5_at rfl rfl rfl (by decide +kernel) ⟨Nat.le_of_ble_eq_true rfl, Nat.le_of_ble_eq_true rfl⟩) (g_preV hK hP (q0 := 9) (ci := 5) (q := (RX5, TX5, 1)) rfl rfl) rfl rfl hl.1 rfl (lv_room (Nat.le_of_ble_eq_true rfl)) dX1_anyShows_17 ⟨Nat.zero_le _, Nat.zero_le _⟩) ?_
    refine lv_iload_n hx hb dX1_anyShows_20 rfl (lv_at hl 2 rfl) ?_
    refine lv_iand hx hb dX1_anyShows_21 ?_
    refine lv_if_ne (tgt := 40) hx hb dX1_anyShows_22 (by decide) (fun c_2 => ?_) (fun c_2 => ?_)
    · refine lv_iconst (v := nI 1) hx hb dX1_anyShows_40 (by decide +kernel) ?_
      refine lv_goto (tgt := 45) hx hb dX1_anyShows_41 (by decide) ?_
      have hq : (nI 1) = (b2i (cShows r x1 x2)) := by
        first | with_reducible rfl | with_reducible exact nI_add _ _ | (simp only [cShows, c_1, c_2, ↓reduceIte, Bool.false_eq_true, decide_true, decide_false, Bool.not_true, Bool.not_false, Bool.or_true, Bool.true_or, Bool.or_false, Bool.false_or]; done) | (simp only [cShows, c_1, c_2, ↓reduceIte, Bool.false_eq_true, decide_true, decide_false, Bool.not_true, Bool.not_false, Bool.or_true, Bool.true_or, Bool.or_false, Bool.false_or]; with_reducible rfl) | (simp only [cShows, c_1, c_2, ↓reduceIte, Bool.false_eq_true, decide_true, decide_false, Bool.not_true, Bool.not_false, Bool.or_true, Bool.true_or, Bool.or_false, Bool.false_or]; rfl) | (simp [b2i, cShows, c_1, c_2]; done) | rfl
      exact W.zret (v := nI 1) hx hb hr (z_nar hq) (fun t ht _ => g_ret hq ht) g_no dX1_anyShows_45
    · refine lv_aload_n hx hb dX1_anyShows_25 rfl (lv_at hl 0 rfl) ?_
      refine va_get (D := G.1) (ci := 1) (v := .ref (z 10)) (C := RX1) (T := TX1) (N := 4) hx hb hts hinX1 hown hK.1 hP 2 rfl rfl 2 (by decide) (hts (.fieldLink RX1 23 "Rotaforge$Defects" "whereOff" "LRotaforge$Row;") (by decide +kernel)) (fun _ h9 => h9) rfl dX1_anyShows_26 ?_
      refine lv_iload_n hx hb dX1_anyShows_29 rfl (lv_at hl 1 rfl) ?_
      refine g_callC (W.runV (C := RX5) (As := [.int x1]) (rest := []) S0 (c_X5_at l G _ (z 10) (z 32) 20 (r 4) (by decide) (hP.sub (ws' := wRow1 G (z 10) (z 32) 20 (r 4)) [10, 32] rfl) x1) (cwV 1 hts gX1_anyShows_X5_at rfl rfl rfl (by decide +kernel) ⟨Nat.le_of_ble_eq_true rfl, Nat.le_of_ble_eq_true rfl⟩) (g_preV hK hP (q0 := 10) (ci := 5) (q := (RX5, TX5, 1)) rfl rfl) rfl rfl hl.1 rfl (lv_room (Nat.le_of_ble_eq_true rfl)) dX1_anyShows_30 ⟨Nat.zero_le _, Nat.zero_le _⟩) ?_
      refine lv_iload_n hx hb dX1_anyShows_33 rfl (lv_at hl 2 rfl) ?_
      refine lv_iconst (v := (-1)) hx hb dX1_anyShows_34 (by decide +kernel) ?_
      refine lv_ixor hx hb dX1_anyShows_35 ?_
      refine lv_iand hx hb dX1_anyShows_36 ?_
      refine lv_if_eq (tgt := 44) hx hb dX1_anyShows_37 (by decide) (fun c_3 => ?_) (fun c_3 => ?_)
      · refine lv_iconst (v := nI 0) hx hb dX1_anyShows_44 (by decide +kernel) ?_
        have hq : (nI 0) = (b2i (cShows r x1 x2)) := by
          first | with_reducible rfl | with_reducible exact nI_add _ _ | (simp only [cShows, c_1, c_2, c_3, ↓reduceIte, Bool.false_eq_true, decide_true, decide_false, Bool.not_true, Bool.not_false, Bool.or_true, Bool.true_or, Bool.or_false, Bool.false_or]; done) | (simp only [cShows, c_1, c_2, c_3, ↓reduceIte, Bool.false_eq_true, decide_true, decide_false, Bool.not_true, Bool.not_false, Bool.or_true, Bool.true_or, Bool.or_false, Bool.false_or]; with_reducible rfl) | (simp only [cShows, c_1, c_2, c_3, ↓reduceIte, Bool.false_eq_true, decide_true, decide_false, Bool.not_true, Bool.not_false, Bool.or_true, Bool.true_or, Bool.or_false, Bool.false_or]; rfl) | (simp [b2i, cShows, c_1, c_2, c_3]; done) | rfl
        exact W.zret (v := nI 0) hx hb hr (z_nar hq) (fun t ht _ => g_ret hq ht) g_no dX1_anyShows_45
      · refine lv_iconst (v := nI 1) hx hb dX1_anyShows_40 (by decide +kernel) ?_
        refine lv_goto (tgt := 45) hx hb dX1_anyShows_41 (by decide) ?_
        have hq : (nI 1) = (b2i (cShows r x1 x2)) := by
          first | with_reducible rfl | with_reducible exact nI_add _ _ | (simp only [cShows, c_1, c_2, c_3, ↓reduceIte, Bool.false_eq_true, decide_true, decide_false, Bool.not_true, Bool.not_false, Bool.or_true, Bool.true_or, Bool.or_false, Bool.false_or]; done) | (simp only [cShows, c_1, c_2, c_3, ↓reduceIte, Bool.false_eq_true, decide_true, decide_false, Bool.not_true, Bool.not_false, Bool.or_true, Bool.true_or, Bool.or_false, Bool.false_or]; with_reducible rfl) | (simp only [cShows, c_1, c_2, c_3, ↓reduceIte, Bool.false_eq_true, decide_true, decide_false, Bool.not_true, Bool.not_false, Bool.or_true, Bool.true_or, Bool.or_false, Bool.false_or]; rfl) | (simp [b2i, cShows, c_1, c_2, c_3]; done) | rfl
        exact W.zret (v := nI 1) hx hb hr (z_nar hq) (fun t ht _ => g_ret hq ht) g_no dX1_anyShows_45

set_option maxHeartbeats 4000000 in
set_option maxRecDepth 100000 in
theorem c_X3_reaches (l : Launch) (G : gG) (H0 : Heap) (z : Nat → Nat) (r : Nat → Nat → Int32) (f : Nat → Int32) (hP : va_P G.1 vwCl (wRF G z r f) H0) (x1 : Int32) (x2 : Int32) : gMr l yX3_reaches wsX3_reaches 1 21 G H0 [.ref (z 1), .int x1, .int x2] (b2i (cHasBit (rAt 8 (r 1) x1) x2)) := by
  refine Met.ofW (cc := cX3_reaches) (maxL := 3) (ret := (some .boolean)) (by decide) rfl ?_
  intro p_ e_ s m args below meth c s₁ B hml hv
  obtain ⟨rfl, rfl, hK⟩ := hv
  have hx := B.exec
  have hb := B.bytes
  have hr := B.returns
  have hts := atoms_spec (ws := wsX3_reaches) B.pre
  have hown : s.vm.findClass RX3 = some m.cls := findClass_of_methodNamed B.named
  have hlocks := B.notSynchronized
  have hinX3 : ∀ w ∈ wsX30, w ∈ wsX3_reaches := by decide +kernel
  have S0 : CallFix p_ m c cX3_reaches 3 s _ wsX3_reaches RX3 := ⟨hx, hb, hml, hown, hts⟩
  have hl := lv_entry ([.ref (z 1), .int x1, .int x2]) (n := 3) (Nat.le_of_ble_eq_true rfl)
  rw [lg_entry_eq]
  generalize (lg_sl ([.ref (z 1), .int x1, .int x2]) ++ List.replicate (3 - (lg_sl ([.ref (z 1), .int x1, .int x2])).length) Slot.unset).toArray = ls at hl ⊢
  have hl : lv_has ls 3 [(0, .ref (z 1)), (1, .int x1), (2, .int x2)] := hl
  refine lv_aload_n hx hb dX3_reaches_0 rfl (lv_at hl 0 rfl) ?_
  refine va_get (D := G.1) (ci := 3) (v := .ref (z 7)) (C := RX3) (T := TX3) (N := 2) hx hb hts hinX3 hown hK.1 hP 1 rfl rfl 1 (by decide) (hts (.fieldLink RX3 20 "Rotaforge$Needs" "whole" "LRotaforge$Row;") (by decide +kernel)) (fun _ h9 => h9) rfl dX3_reaches_1 ?_
  refine lv_iload_n hx hb dX3_reaches_4 rfl (lv_at hl 1 rfl) ?_
  refine g_callC (W.runV (C := RX5) (As := [.int x1]) (rest := []) S0 (c_X5_at l G _ (z 7) (z 29) 8 (r 1) (by decide) (hP.sub (ws' := wRow1 G (z 7) (z 29) 8 (r 1)) [7, 29] rfl) x1) (cwV 1 hts gX3_reaches_X5_at rfl rfl rfl (by decide +kernel) ⟨Nat.le_of_ble_eq_true rfl, Nat.le_of_ble_eq_true rfl⟩) (g_preV hK hP (q0 := 7) (ci := 5) (q := (RX5, TX5, 1)) rfl rfl) rfl rfl hl.1 rfl (lv_room (Nat.le_of_ble_eq_true rfl)) dX3_reaches_5 ⟨Nat.zero_le _, Nat.zero_le _⟩) ?_
  refine lv_iload_n hx hb dX3_reaches_8 rfl (lv_at hl 2 rfl) ?_
  refine g_callR (va_runSN (As := [.int (rAt 8 (r 1) x1), .int x2]) (rest := []) S0 (c_X6_hasBit l G _ (rAt 8 (r 1) x1) x2) ⟨va_cnB (own := RX3) (host := "Rotaforge") (index := 30) 2 hts gX3_reaches_X6_hasBit_n30 rfl rfl rfl hK.2.2.1 (hts (.initialized RX6) (by decide +kernel)) (by decide +kernel) ⟨Nat.le_of_ble_eq_true rfl, Nat.le_of_ble_eq_true rfl⟩, hts (.static yX6_hasBit) (by decide +kernel), trivial⟩ (g_preS hK) rfl rfl hl.1 rfl (lv_room (Nat.le_of_ble_eq_true rfl)) dX3_reaches_9 ⟨Nat.zero_le _, Nat.zero_le _⟩) ?_
  have hq : (b2i (cHasBit (rAt 8 (r 1) x1) x2)) = (b2i (cHasBit (rAt 8 (r 1) x1) x2)) := by
    first | with_reducible rfl | with_reducible exact nI_add _ _ | (simp only [true_and, ↓reduceIte, Bool.false_eq_true, decide_true, decide_false, Bool.not_true, Bool.not_false, Bool.or_true, Bool.true_or, Bool.or_false, Bool.false_or]; done) | (simp only [true_and, ↓reduceIte, Bool.false_eq_true, decide_true, decide_false, Bool.not_true, Bool.not_false, Bool.or_true, Bool.true_or, Bool.or_false, Bool.false_or]; with_reducible rfl) | (simp only [true_and, ↓reduceIte, Bool.false_eq_true, decide_true, decide_false, Bool.not_true, Bool.not_false, Bool.or_true, Bool.true_or, Bool.or_false, Bool.false_or]; rfl) | (simp [b2i, true_and]; done) | rfl
  exact W.zret (v := b2i (cHasBit (rAt 8 (r 1) x1) x2)) hx hb hr (z_nar hq) (fun t ht _ => g_ret hq ht) g_no dX3_reaches_12

set_option maxHeartbeats 4000000 in
set_option maxRecDepth 100000 in
theorem c_X3_directCount (l : Launch) (G : gG) (H0 : Heap) (z : Nat → Nat) (r : Nat → Nat → Int32) (f : Nat → Int32) (hP : va_P G.1 vwCl (wRF G z r f) H0) (x1 : Int32) : gMr l yX3_directCount wsX3_directCount 1 21 G H0 [.ref (z 1), .int x1] (cBitCount (rAt 8 (r 0) x1)) := by
  refine Met.ofW (cc := cX3_directCount) (maxL := 2) (ret := (some .int)) (by decide) rfl ?_
  intro p_ e_ s m args below meth c s₁ B hml hv
  obtain ⟨rfl, rfl, hK⟩ := hv
  have hx := B.exec
  have hb := B.bytes
  have hr := B.returns
  have hts := atoms_spec (ws := wsX3_directCount) B.pre
  have hown : s.vm.findClass RX3 = some m.cls := findClass_of_methodNamed B.named
  have hlocks := B.notSynchronized
  have hinX3 : ∀ w ∈ wsX30, w ∈ wsX3_directCount := by decide +kernel
  have S0 : CallFix p_ m c cX3_directCount 2 s _ wsX3_directCount RX3 := ⟨hx, hb, hml, hown, hts⟩
  have hl := lv_entry ([.ref (z 1), .int x1]) (n := 2) (Nat.le_of_ble_eq_true rfl)
  rw [lg_entry_eq]
  generalize (lg_sl ([.ref (z 1), .int x1]) ++ List.replicate (2 - (lg_sl ([.ref (z 1), .int x1])).length) Slot.unset).toArray = ls at hl ⊢
  have hl : lv_has ls 2 [(0, .ref (z 1)), (1, .int x1)] := hl
  refine lv_aload_n hx hb dX3_directCount_0 rfl (lv_at hl 0 rfl) ?_
  refine va_get (D := G.1) (ci := 3) (v := .ref (z 6)) (C := RX3) (T := TX3) (N := 2) hx hb hts hinX3 hown hK.1 hP 1 rfl rfl 0 (by decide) (hts (.fieldLink RX3 14 "Rotaforge$Needs" "direct" "LRotaforge$Row;") (by decide +kernel)) (fun _ h9 => h9) rfl dX3_directCount_1 ?_
  refine lv_iload_n hx hb dX3_directCount_4 rfl (lv_at hl 1 rfl) ?_
  refine g_callC (W.runV (C := RX5) (As := [.int x1]) (rest := []) S0 (c_X5_at l G _ (z 6) (z 28) 8 (r 0) (by decide) (hP.sub (ws' := wRow1 G (z 6) (z 28) 8 (r 0)) [6, 28] rfl) x1) (cwV 1 hts gX3_directCount_X5_at rfl rfl rfl (by decide +kernel) ⟨Nat.le_of_ble_eq_true rfl, Nat.le_of_ble_eq_true rfl⟩) (g_preV hK hP (q0 := 6) (ci := 5) (q := (RX5, TX5, 1)) rfl rfl) rfl rfl hl.1 rfl (lv_room (Nat.le_of_ble_eq_true rfl)) dX3_directCount_5 ⟨Nat.zero_le _, Nat.zero_le _⟩) ?_
  refine g_callC (W.runS (As := [.int (rAt 8 (r 0) x1)]) (rest := []) S0 (c_J6_bitCount_0f7a4 l G _ (rAt 8 (r 0) x1)) (va_cwS 1 hts gX3_directCount_J6_bitCount_0f7a4 rfl rfl rfl (by decide +kernel) ⟨Nat.le_of_ble_eq_true rfl, Nat.le_of_ble_eq_true rfl⟩) (g_preS hK) rfl rfl hl.1 rfl (lv_room (Nat.le_of_ble_eq_true rfl)) dX3_directCount_8 ⟨Nat.zero_le _, Nat.zero_le _⟩) ?_
  have hq : (cBitCount (rAt 8 (r 0) x1)) = (cBitCount (rAt 8 (r 0) x1)) := by
    first | with_reducible rfl | with_reducible exact nI_add _ _ | (simp only [true_and, ↓reduceIte, Bool.false_eq_true, decide_true, decide_false, Bool.not_true, Bool.not_false, Bool.or_true, Bool.true_or, Bool.or_false, Bool.false_or]; done) | (simp only [true_and, ↓reduceIte, Bool.false_eq_true, decide_true, decide_false, Bool.not_true, Bool.not_false, Bool.or_true, Bool.true_or, Bool.or_false, Bool.false_or]; with_reducible rfl) | (simp only [true_and, ↓reduceIte, Bool.false_eq_true, decide_true, decide_false, Bool.not_true, Bool.not_false, Bool.or_true, Bool.true_or, Bool.or_false, Bool.false_or]; rfl) | (simp [b2i, true_and]; done) | rfl
  exact W.iret (v := cBitCount (rAt 8 (r 0) x1)) hx hb hr (fun t ht _ => g_ret hq ht) g_no dX3_directCount_11

set_option maxHeartbeats 4000000 in
set_option maxRecDepth 100000 in
theorem c_X3_gather (l : Launch) (G : gG) (H0 : Heap) (z : Nat → Nat) (r : Nat → Nat → Int32) (f : Nat → Int32) (hP : va_P G.1 vwCl (wRF G z r f) H0) (x1 : Int32) : gMr l yX3_gather wsX3_gather 1 21 G H0 [.ref (z 1), .int x1] (cGather r x1) := by
  refine Met.ofW (cc := cX3_gather) (maxL := 5) (ret := (some .int)) (by decide) rfl ?_
  intro p_ e_ s m args below meth c s₁ B hml hv
  obtain ⟨rfl, rfl, hK⟩ := hv
  have hx := B.exec
  have hb := B.bytes
  have hr := B.returns
  have hts := atoms_spec (ws := wsX3_gather) B.pre
  have hown : s.vm.findClass RX3 = some m.cls := findClass_of_methodNamed B.named
  have hlocks := B.notSynchronized
  have hinX3 : ∀ w ∈ wsX30, w ∈ wsX3_gather := by decide +kernel
  have S0 : CallFix p_ m c cX3_gather 5 s _ wsX3_gather RX3 := ⟨hx, hb, hml, hown, hts⟩
  have hl := lv_entry ([.ref (z 1), .int x1]) (n := 5) (Nat.le_of_ble_eq_true rfl)
  rw [lg_entry_eq]
  generalize (lg_sl ([.ref (z 1), .int x1]) ++ List.replicate (5 - (lg_sl ([.ref (z 1), .int x1])).length) Slot.unset).toArray = ls at hl ⊢
  have hl : lv_has ls 5 [(0, .ref (z 1)), (1, .int x1)] := hl
  refine lv_iconst (v := nI 1) hx hb dX3_gather_0 (by decide +kernel) ?_
  refine lv_iload_n hx hb dX3_gather_1 rfl (lv_at hl 1 rfl) ?_
  refine lv_ishl hx hb dX3_gather_2 ?_
  refine lv_istore_n (lv' := [(2, .int ((nI 1) <<< (x1 &&& 31))), (0, .ref (z 1)), (1, .int x1)]) hx hb dX3_gather_3 rfl hl (by decide) rfl (fun ls hl => ?_)
  refine lv_iconst (v := nI 1) hx hb dX3_gather_4 (by decide +kernel) ?_
  refine lv_istore_n (lv' := [(3, .int (nI 1)), (2, .int ((nI 1) <<< (x1 &&& 31))), (0, .ref (z 1)), (1, .int x1)]) hx hb dX3_gather_5 rfl hl (by decide) rfl (fun ls hl => ?_)
  refine g_loop _ m 6 5 [] (7) (fun k => [(3, .int (nI (k + 1))), (2, .int (itN k (fun _ b => itN 8 (cGI r) b) (nI 1 <<< (x1 &&& 31)))), (0, .ref (z 1)), (1, .int x1)]) (fun k => True) (fun k hi6 hI ih6 ls hl => ?_) 0 (Nat.zero_le _) trivial ls ?_
  · have hl : lv_has ls 5 [(3, .int (nI (k + 1))), (2, .int (itN k (fun _ b => itN 8 (cGI r) b) (nI 1 <<< (x1 &&& 31)))), (0, .ref (z 1)), (1, .int x1)] := hl
    have hI : True := hI
    refine lv_iload_n hx hb dX3_gather_6 rfl (lv_at hl 0 rfl) ?_
    refine lv_bipush (v := nI 8) hx hb dX3_gather_7 (by decide +kernel) ?_
    refine lv_icmp_ge (tgt := 55) hx hb dX3_gather_9 (by decide) (fun c_1 => ?_) (fun c_1 => ?_)
    · have hex : 7 = k := by
        have h9 := (nI_leI (a := 8) (b := k + 1) (by decide) (by omega)).mp c_1
        omega
      subst hex
      refine lv_iload_n hx hb dX3_gather_55 rfl (lv_at hl 1 rfl) ?_
      have hq : (itN 7 (fun _ b => itN 8 (cGI r) b) (nI 1 <<< (x1 &&& 31))) = (cGather r x1) := by
        first | with_reducible rfl | with_reducible exact nI_add _ _ | (simp only [cGI, cGather, c_1, ↓reduceIte, Bool.false_eq_true, decide_true, decide_false, Bool.not_true, Bool.not_false, Bool.or_true, Bool.true_or, Bool.or_false, Bool.false_or]; done) | (simp only [cGI, cGather, c_1, ↓reduceIte, Bool.false_eq_true, decide_true, decide_false, Bool.not_true, Bool.not_false, Bool.or_true, Bool.true_or, Bool.or_false, Bool.false_or]; with_reducible rfl) | (simp only [cGI, cGather, c_1, ↓reduceIte, Bool.false_eq_true, decide_true, decide_false, Bool.not_true, Bool.not_false, Bool.or_true, Bool.true_or, Bool.or_false, Bool.false_or]; rfl) | (simp [b2i, cGI, cGather, c_1]; done) | rfl
      exact W.iret (v := itN 7 (fun _ b => itN 8 (cGI r) b) (nI 1 <<< (x1 &&& 31))) hx hb hr (fun t ht _ => g_ret hq ht) g_no dX3_gather_56
    · have hlt : k < 7 := by
        have h9 := mt (nI_leI (a := 8) (b := k + 1) (by decide) (by omega)).mpr c_1
        omega
      refine lv_iconst (v := nI 0) hx hb dX3_gather_12 (by decide +kernel) ?_
      refine lv_istore (lv' := [(4, .int (nI 0)), (3, .int (nI (k + 1))), (2, .int (itN k (fun _ b => itN 8 (cGI r) b) (nI 1 <<< (x1 &&& 31)))), (0, .ref (z 1)), (1, .int x1)]) hx hb dX3_gather_13 hl (by decide) rfl (fun ls hl => ?_)
      refine g_loop _ m 15 5 [] (8) (fun i => [(4, .int (nI i)), (3, .int (nI (k + 1))), (2, .int (itN i (cGI r) (itN k (fun _ b => itN 8 (cGI r) b) (nI 1 <<< (x1 &&& 31))))), (0, .ref (z 1)), (1, .int x1)]) (fun i => True) (fun i hi15 hI ih15 ls hl => ?_) 0 (Nat.zero_le _) trivial ls ?_
      · have hl : lv_has ls 5 [(4, .int (nI i)), (3, .int (nI (k + 1))), (2, .int (itN i (cGI r) (itN k (fun _ b => itN 8 (cGI r) b) (nI 1 <<< (x1 &&& 31))))), (0, .ref (z 1)), (1, .int x1)] := hl
        have hI : True := hI
        refine lv_iload hx hb dX3_gather_15 (lv_at hl 0 rfl) ?_
        refine lv_bipush (v := nI 8) hx hb dX3_gather_17 (by decide +kernel) ?_
        refine lv_icmp_ge (tgt := 49) hx hb dX3_gather_19 (by decide) (fun c_2 => ?_) (fun c_2 => ?_)
        · have hex : 8 = i := by
            have h9 := (nI_leI (a := 8) (b := i) (by decide) (by omega)).mp c_2
            omega
          subst hex
          refine lv_iinc (v := (nI (k + 1)) + nI 1) (lv' := [(3, .int ((nI (k + 1)) + nI 1)), (4, .int (nI 8)), (2, .int (itN 8 (cGI r) (itN k (fun _ b => itN 8 (cGI r) b) (nI 1 <<< (x1 &&& 31))))), (0, .ref (z 1)), (1, .int x1)]) hx hb dX3_gather_49 hl (k := 1) rfl (congrArg (fun q : Int32 => (nI (k + 1)) + q) (by decide +kernel)) (by decide) rfl (fun ls hl => ?_)
          refine lv_goto (tgt := 6) hx hb dX3_gather_52 (by decide) ?_
          exact ih6 _ (by omega) trivial (lv_cv (show lv_has ls 5 [(3, .int ((nI (k + 1)) + nI 1)), (2, .int (itN 8 (cGI r) (itN k (fun _ b => itN 8 (cGI r) b) (nI 1 <<< (x1 &&& 31))))), (0, .ref (z 1)), (1, .int x1)] from lv_sub hl [0, 2, 3, 4] rfl) (gl_i (show (nI (k + 1)) + nI 1 = nI ((k + 1) + 1) by first | with_reducible rfl | with_reducible exact nI_add _ _ | (simp only [itN_s k, cGI, cGather, c_1, c_2, ↓reduceIte, Bool.false_eq_true, decide_true, decide_false, Bool.not_true, Bool.not_false, Bool.or_true, Bool.true_or, Bool.or_false, Bool.false_or]; done) | (simp only [itN_s k, cGI, cGather, c_1, c_2, ↓reduceIte, Bool.false_eq_true, decide_true, decide_false, Bool.not_true, Bool.not_false, Bool.or_true, Bool.true_or, Bool.or_false, Bool.false_or]; with_reducible rfl) | (simp only [itN_s k, cGI, cGather, c_1, c_2, ↓reduceIte, Bool.false_eq_true, decide_true, decide_false, Bool.not_true, Bool.not_false, Bool.or_true, Bool.true_or, Bool.or_false, Bool.false_or]; rfl) | (simp [b2i, itN_s k, cGI, cGather, c_1, c_2]; done) | rfl) (gl_i (show itN 8 (cGI r) (itN k (fun _ b => itN 8 (cGI r) b) (nI 1 <<< (x1 &&& 31))) = itN (k + 1) (fun _ b => itN 8 (cGI r) b) (nI 1 <<< (x1 &&& 31)) by first | with_reducible rfl | with_reducible exact nI_add _ _ | (simp only [itN_s k, cGI, cGather, c_1, c_2, ↓reduceIte, Bool.false_eq_true, decide_true, decide_false, Bool.not_true, Bool.not_false, Bool.or_true, Bool.true_or, Bool.or_false, Bool.false_or]; done) | (simp only [itN_s k, cGI, cGather, c_1, c_2, ↓reduceIte, Bool.false_eq_true, decide_true, decide_false, Bool.not_true, Bool.not_false, Bool.or_true, Bool.true_or, Bool.or_false, Bool.false_or]; with_reducible rfl) | (simp only [itN_s k, cGI, cGather, c_1, c_2, ↓reduceIte, Bool.false_eq_true, decide_true, decide_false, Bool.not_true, Bool.not_false, Bool.or_true, Bool.true_or, Bool.or_false, Bool.false_or]; rfl) | (simp [b2i, itN_s k, cGI, cGather, c_1, c_2]; done) | rfl) (gl_s (gl_s rfl)))))
        · have hlt : i < 8 := by
            have h9 := mt (nI_leI (a := 8) (b := i) (by decide) (by omega)).mpr c_2
            omega
          refine lv_iload_n hx hb dX3_gather_22 rfl (lv_at hl 2 rfl) ?_
          refine lv_iload hx hb dX3_gather_23 (lv_at hl 0 rfl) ?_
          refine g_callR (va_runSN (As := [.int (itN i (cGI r) (itN k (fun _ b => itN 8 (cGI r) b) (nI 1 <<< (x1 &&& 31)))), .int (nI i)]) (rest := []) S0 (c_X6_hasBit l G _ (itN i (cGI r) (itN k (fun _ b => itN 8 (cGI r) b) (nI 1 <<< (x1 &&& 31)))) (nI i)) ⟨va_cnB (own := RX3) (host := "Rotaforge") (index := 30) 2 hts gX3_gather_X6_hasBit_n30 rfl rfl rfl hK.2.2.1 (hts (.initialized RX6) (by decide +kernel)) (by decide +kernel) ⟨Nat.le_of_ble_eq_true rfl, Nat.le_of_ble_eq_true rfl⟩, hts (.static yX6_hasBit) (by decide +kernel), trivial⟩ (g_preS hK) rfl rfl hl.1 rfl (lv_room (Nat.le_of_ble_eq_true rfl)) dX3_gather_25 ⟨Nat.zero_le _, Nat.zero_le _⟩) ?_
          refine lv_if_eq (tgt := 43) hx hb dX3_gather_28 (by decide) (fun c_3 => ?_) (fun c_3 => ?_)
          · have c_3 := b2i_f c_3
            refine lv_iinc (v := (nI i) + nI 1) (lv' := [(4, .int ((nI i) + nI 1)), (3, .int (nI (k + 1))), (2, .int (itN i (cGI r) (itN k (fun _ b => itN 8 (cGI r) b) (nI 1 <<< (x1 &&& 31))))), (0, .ref (z 1)), (1, .int x1)]) hx hb dX3_gather_43 hl (k := 0) rfl (congrArg (fun q : Int32 => (nI i) + q) (by decide +kernel)) (by decide) rfl (fun ls hl => ?_)
            refine lv_goto (tgt := 15) hx hb dX3_gather_46 (by decide) ?_
            exact ih15 _ (by omega) trivial (lv_cv (show lv_has ls 5 [(4, .int ((nI i) + nI 1)), (3, .int (nI (k + 1))), (2, .int (itN i (cGI r) (itN k (fun _ b => itN 8 (cGI r) b) (nI 1 <<< (x1 &&& 31))))), (0, .ref (z 1)), (1, .int x1)] from lv_sub hl [0, 1, 2, 3, 4] rfl) (gl_i (show (nI i) + nI 1 = nI (i + 1) by first | with_reducible rfl | with_reducible exact nI_add _ _ | (simp only [itN_s i, cGI, cGather, c_1, c_2, c_3, ↓reduceIte, Bool.false_eq_true, decide_true, decide_false, Bool.not_true, Bool.not_false, Bool.or_true, Bool.true_or, Bool.or_false, Bool.false_or]; done) | (simp only [itN_s i, cGI, cGather, c_1, c_2, c_3, ↓reduceIte, Bool.false_eq_true, decide_true, decide_false, Bool.not_true, Bool.not_false, Bool.or_true, Bool.true_or, Bool.or_false, Bool.false_or]; with_reducible rfl) | (simp only [itN_s i, cGI, cGather, c_1, c_2, c_3, ↓reduceIte, Bool.false_eq_true, decide_true, decide_false, Bool.not_true, Bool.not_false, Bool.or_true, Bool.true_or, Bool.or_false, Bool.false_or]; rfl) | (simp [b2i, itN_s i, cGI, cGather, c_1, c_2, c_3]; done) | rfl) (gl_s (gl_i (show itN i (cGI r) (itN k (fun _ b => itN 8 (cGI r) b) (nI 1 <<< (x1 &&& 31))) = itN (i + 1) (cGI r) (itN k (fun _ b => itN 8 (cGI r) b) (nI 1 <<< (x1 &&& 31))) by first | with_reducible rfl | with_reducible exact nI_add _ _ | (simp only [itN_s i, cGI, cGather, c_1, c_2, c_3, ↓reduceIte, Bool.false_eq_true, decide_true, decide_false, Bool.not_true, Bool.not_false, Bool.or_true, Bool.true_or, Bool.or_false, Bool.false_or]; done) | (simp only [itN_s i, cGI, cGather, c_1, c_2, c_3, ↓reduceIte, Bool.false_eq_true, decide_true, decide_false, Bool.not_true, Bool.not_false, Bool.or_true, Bool.true_or, Bool.or_false, Bool.false_or]; with_reducible rfl) | (simp only [itN_s i, cGI, cGather, c_1, c_2, c_3, ↓reduceIte, Bool.false_eq_true, decide_true, decide_false, Bool.not_true, Bool.not_false, Bool.or_true, Bool.true_or, Bool.or_false, Bool.false_or]; rfl) | (simp [b2i, itN_s i, cGI, cGather, c_1, c_2, c_3]; done) | rfl) (gl_s (gl_s rfl))))))
          · have c_3 := b2i_t c_3
            refine lv_iload_n hx hb dX3_gather_31 rfl (lv_at hl 2 rfl) ?_
            refine lv_aload_n hx hb dX3_gather_32 rfl (lv_at hl 3 rfl) ?_
            refine va_get (D := G.1) (ci := 3) (v := .ref (z 6)) (C := RX3) (T := TX3) (N := 2) hx hb hts hinX3 hown hK.1 hP 1 rfl rfl 0 (by decide) (hts (.fieldLink RX3 14 "Rotaforge$Needs" "direct" "LRotaforge$Row;") (by decide +kernel)) (fun _ h9 => h9) rfl dX3_gather_33 ?_
            refine lv_iload hx hb dX3_gather_36 (lv_at hl 0 rfl) ?_
            refine g_callC (W.runV (C := RX5) (As := [.int (nI i)]) (rest := [.int (itN i (cGI r) (itN k (fun _ b => itN 8 (cGI r) b) (nI 1 <<< (x1 &&& 31))))]) S0 (c_X5_at l G _ (z 6) (z 28) 8 (r 0) (by decide) (hP.sub (ws' := wRow1 G (z 6) (z 28) 8 (r 0)) [6, 28] rfl) (nI i)) (cwV 1 hts gX3_gather_X5_at rfl rfl rfl (by decide +kernel) ⟨Nat.le_of_ble_eq_true rfl, Nat.le_of_ble_eq_true rfl⟩) (g_preV hK hP (q0 := 6) (ci := 5) (q := (RX5, TX5, 1)) rfl rfl) rfl rfl hl.1 rfl (lv_room (Nat.le_of_ble_eq_true rfl)) dX3_gather_38 ⟨Nat.zero_le _, Nat.zero_le _⟩) ?_
            refine lv_ior hx hb dX3_gather_41 ?_
            refine lv_istore_n (lv' := [(2, .int ((itN i (cGI r) (itN k (fun _ b => itN 8 (cGI r) b) (nI 1 <<< (x1 &&& 31)))) ||| (rAt 8 (r 0) (nI i)))), (4, .int (nI i)), (3, .int (nI (k + 1))), (0, .ref (z 1)), (1, .int x1)]) hx hb dX3_gather_42 rfl hl (by decide) rfl (fun ls hl => ?_)
            refine lv_iinc (v := (nI i) + nI 1) (lv' := [(4, .int ((nI i) + nI 1)), (2, .int ((itN i (cGI r) (itN k (fun _ b => itN 8 (cGI r) b) (nI 1 <<< (x1 &&& 31)))) ||| (rAt 8 (r 0) (nI i)))), (3, .int (nI (k + 1))), (0, .ref (z 1)), (1, .int x1)]) hx hb dX3_gather_43 hl (k := 1) rfl (congrArg (fun q : Int32 => (nI i) + q) (by decide +kernel)) (by decide) rfl (fun ls hl => ?_)
            refine lv_goto (tgt := 15) hx hb dX3_gather_46 (by decide) ?_
            exact ih15 _ (by omega) trivial (lv_cv (show lv_has ls 5 [(4, .int ((nI i) + nI 1)), (3, .int (nI (k + 1))), (2, .int ((itN i (cGI r) (itN k (fun _ b => itN 8 (cGI r) b) (nI 1 <<< (x1 &&& 31)))) ||| (rAt 8 (r 0) (nI i)))), (0, .ref (z 1)), (1, .int x1)] from lv_sub hl [0, 2, 1, 3, 4] rfl) (gl_i (show (nI i) + nI 1 = nI (i + 1) by first | with_reducible rfl | with_reducible exact nI_add _ _ | (simp only [itN_s i, cGI, cGather, c_1, c_2, c_3, ↓reduceIte, Bool.false_eq_true, decide_true, decide_false, Bool.not_true, Bool.not_false, Bool.or_true, Bool.true_or, Bool.or_false, Bool.false_or]; done) | (simp only [itN_s i, cGI, cGather, c_1, c_2, c_3, ↓reduceIte, Bool.false_eq_true, decide_true, decide_false, Bool.not_true, Bool.not_false, Bool.or_true, Bool.true_or, Bool.or_false, Bool.false_or]; with_reducible rfl) | (simp only [itN_s i, cGI, cGather, c_1, c_2, c_3, ↓reduceIte, Bool.false_eq_true, decide_true, decide_false, Bool.not_true, Bool.not_false, Bool.or_true, Bool.true_or, Bool.or_false, Bool.false_or]; rfl) | (simp [b2i, itN_s i, cGI, cGather, c_1, c_2, c_3]; done) | rfl) (gl_s (gl_i (show (itN i (cGI r) (itN k (fun _ b => itN 8 (cGI r) b) (nI 1 <<< (x1 &&& 31)))) ||| (rAt 8 (r 0) (nI i)) = itN (i + 1) (cGI r) (itN k (fun _ b => itN 8 (cGI r) b) (nI 1 <<< (x1 &&& 31))) by first | with_reducible rfl | with_reducible exact nI_add _ _ | (simp only [itN_s i, cGI, cGather, c_1, c_2, c_3, ↓reduceIte, Bool.false_eq_true, decide_true, decide_false, Bool.not_true, Bool.not_false, Bool.or_true, Bool.true_or, Bool.or_false, Bool.false_or]; done) | (simp only [itN_s i, cGI, cGather, c_1, c_2, c_3, ↓reduceIte, Bool.false_eq_true, decide_true, decide_false, Bool.not_true, Bool.not_false, Bool.or_true, Bool.true_or, Bool.or_false, Bool.false_or]; with_reducible rfl) | (simp only [itN_s i, cGI, cGather, c_1, c_2, c_3, ↓reduceIte, Bool.false_eq_true, decide_true, decide_false, Bool.not_true, Bool.not_false, Bool.or_true, Bool.true_or, Bool.or_false, Bool.false_or]; rfl) | (simp [b2i, itN_s i, cGI, cGather, c_1, c_2, c_3]; done) | rfl) (gl_s (gl_s rfl))))))
      · exact (lv_cv (show lv_has ls 5 [(4, .int (nI 0)), (3, .int (nI (k + 1))), (2, .int (itN k (fun _ b => itN 8 (cGI r) b) (nI 1 <<< (x1 &&& 31)))), (0, .ref (z 1)), (1, .int x1)] from lv_sub hl [0, 1, 2, 3, 4] rfl) (gl_s (gl_s (gl_i (show itN k (fun _ b => itN 8 (cGI r) b) (nI 1 <<< (x1 &&& 31)) = itN 0 (cGI r) (itN k (fun _ b => itN 8 (cGI r) b) (nI 1 <<< (x1 &&& 31))) by first | with_reducible rfl | with_reducible exact nI_add _ _ | (simp only [cGI, cGather, c_1, ↓reduceIte, Bool.false_eq_true, decide_true, decide_false, Bool.not_true, Bool.not_false, Bool.or_true, Bool.true_or, Bool.or_false, Bool.false_or]; done) | (simp only [cGI, cGather, c_1, ↓reduceIte, Bool.false_eq_true, decide_true, decide_false, Bool.not_true, Bool.not_false, Bool.or_true, Bool.true_or, Bool.or_false, Bool.false_or]; with_reducible rfl) | (simp only [cGI, cGather, c_1, ↓reduceIte, Bool.false_eq_true, decide_true, decide_false, Bool.not_true, Bool.not_false, Bool.or_true, Bool.true_or, Bool.or_false, Bool.false_or]; rfl) | (simp [b2i, cGI, cGather, c_1]; done) | rfl) (gl_s (gl_s rfl))))))
  · exact (lv_cv (show lv_has ls 5 [(3, .int (nI 1)), (2, .int ((nI 1) <<< (x1 &&& 31))), (0, .ref (z 1)), (1, .int x1)] from lv_sub hl [0, 1, 2, 3] rfl) (gl_i (show nI 1 = nI (0 + 1) by first | with_reducible rfl | with_reducible exact nI_add _ _ | (simp only [cGI, cGather, ↓reduceIte, Bool.false_eq_true, decide_true, decide_false, Bool.not_true, Bool.not_false, Bool.or_true, Bool.true_or, Bool.or_false, Bool.false_or]; done) | (simp only [cGI, cGather, ↓reduceIte, Bool.false_eq_true, decide_true, decide_false, Bool.not_true, Bool.not_false, Bool.or_true, Bool.true_or, Bool.or_false, Bool.false_or]; with_reducible rfl) | (simp only [cGI, cGather, ↓reduceIte, Bool.false_eq_true, decide_true, decide_false, Bool.not_true, Bool.not_false, Bool.or_true, Bool.true_or, Bool.or_false, Bool.false_or]; rfl) | (simp [b2i, cGI, cGather]; done) | rfl) (gl_i (show (nI 1) <<< (x1 &&& 31) = itN 0 (fun _ b => itN 8 (cGI r) b) (nI 1 <<< (x1 &&& 31)) by first | with_reducible rfl | with_reducible exact nI_add _ _ | (simp only [cGI, cGather, ↓reduceIte, Bool.false_eq_true, decide_true, decide_false, Bool.not_true, Bool.not_false, Bool.or_true, Bool.true_or, Bool.or_false, Bool.false_or]; done) | (simp only [cGI, cGather, ↓reduceIte, Bool.false_eq_true, decide_true, decide_false, Bool.not_true, Bool.not_false, Bool.or_true, Bool.true_or, Bool.or_false, Bool.false_or]; with_reducible rfl) | (simp only [cGI, cGather, ↓reduceIte, Bool.false_eq_true, decide_true, decide_false, Bool.not_true, Bool.not_false, Bool.or_true, Bool.true_or, Bool.or_false, Bool.false_or]; rfl) | (simp [b2i, cGI, cGather]; done) | rfl) (gl_s (gl_s rfl)))))

set_option maxHeartbeats 4000000 in
set_option maxRecDepth 100000 in
theorem c_X3_onAmong (l : Launch) (G : gG) (H0 : Heap) (z : Nat → Nat) (r : Nat → Nat → Int32) (f : Nat → Int32) (hP : va_P G.1 vwCl (wRF G z r f) H0) (x1 : Int32) : gMr l yX3_onAmong wsX3_onAmong 1 22 G H0 [.ref (z 1), .int x1] (cOn r x1) := by
  refine Met.ofW (cc := cX3_onAmong) (maxL := 4) (ret := (some .int)) (by decide) rfl ?_
  intro p_ e_ s m args below meth c s₁ B hml hv
  obtain ⟨rfl, rfl, hK⟩ := hv
  have hx := B.exec
  have hb := B.bytes
  have hr := B.returns
  have hts := atoms_spec (ws := wsX3_onAmong) B.pre
  have hown : s.vm.findClass RX3 = some m.cls := findClass_of_methodNamed B.named
  have hlocks := B.notSynchronized
  have hinX3 : ∀ w ∈ wsX30, w ∈ wsX3_onAmong := by decide +kernel
  have S0 : CallFix p_ m c cX3_onAmong 4 s _ wsX3_onAmong RX3 := ⟨hx, hb, hml, hown, hts⟩
  have hl := lv_entry ([.ref (z 1), .int x1]) (n := 4) (Nat.le_of_ble_eq_true rfl)
  rw [lg_entry_eq]
  generalize (lg_sl ([.ref (z 1), .int x1]) ++ List.replicate (4 - (lg_sl ([.ref (z 1), .int x1])).length) Slot.unset).toArray = ls at hl ⊢
  have hl : lv_has ls 4 [(0, .ref (z 1)), (1, .int x1)] := hl
  refine lv_iconst (v := nI 0) hx hb dX3_onAmong_0 (by decide +kernel) ?_
  refine lv_istore_n (lv' := [(2, .int (nI 0)), (0, .ref (z 1)), (1, .int x1)]) hx hb dX3_onAmong_1 rfl hl (by decide) rfl (fun ls hl => ?_)
  refine lv_iconst (v := nI 0) hx hb dX3_onAmong_2 (by decide +kernel) ?_
  refine lv_istore_n (lv' := [(3, .int (nI 0)), (2, .int (nI 0)), (0, .ref (z 1)), (1, .int x1)]) hx hb dX3_onAmong_3 rfl hl (by decide) rfl (fun ls hl => ?_)
  refine g_loop _ m 4 4 [] (8) (fun i => [(3, .int (nI i)), (2, .int (itN i (cOnI r x1) (nI 0))), (0, .ref (z 1)), (1, .int x1)]) (fun i => True) (fun i hi4 hI ih4 ls hl => ?_) 0 (Nat.zero_le _) trivial ls ?_
  · have hl : lv_has ls 4 [(3, .int (nI i)), (2, .int (itN i (cOnI r x1) (nI 0))), (0, .ref (z 1)), (1, .int x1)] := hl
    have hI : True := hI
    refine lv_iload_n hx hb dX3_onAmong_4 rfl (lv_at hl 0 rfl) ?_
    refine lv_bipush (v := nI 8) hx hb dX3_onAmong_5 (by decide +kernel) ?_
    refine lv_icmp_ge (tgt := 42) hx hb dX3_onAmong_7 (by decide) (fun c_1 => ?_) (fun c_1 => ?_)
    · have hex : 8 = i := by
        have h9 := (nI_leI (a := 8) (b := i) (by decide) (by omega)).mp c_1
        omega
      subst hex
      refine lv_iload_n hx hb dX3_onAmong_42 rfl (lv_at hl 1 rfl) ?_
      have hq : (itN 8 (cOnI r x1) (nI 0)) = (cOn r x1) := by
        first | with_reducible rfl | with_reducible exact nI_add _ _ | (simp only [cOnI, c_1, ↓reduceIte, Bool.false_eq_true, decide_true, decide_false, Bool.not_true, Bool.not_false, Bool.or_true, Bool.true_or, Bool.or_false, Bool.false_or]; done) | (simp only [cOnI, c_1, ↓reduceIte, Bool.false_eq_true, decide_true, decide_false, Bool.not_true, Bool.not_false, Bool.or_true, Bool.true_or, Bool.or_false, Bool.false_or]; with_reducible rfl) | (simp only [cOnI, c_1, ↓reduceIte, Bool.false_eq_true, decide_true, decide_false, Bool.not_true, Bool.not_false, Bool.or_true, Bool.true_or, Bool.or_false, Bool.false_or]; rfl) | (simp [b2i, cOnI, c_1]; done) | rfl
      exact W.iret (v := itN 8 (cOnI r x1) (nI 0)) hx hb hr (fun t ht _ => g_ret hq ht) g_no dX3_onAmong_43
    · have hlt : i < 8 := by
        have h9 := mt (nI_leI (a := 8) (b := i) (by decide) (by omega)).mpr c_1
        omega
      refine lv_iload_n hx hb dX3_onAmong_10 rfl (lv_at hl 1 rfl) ?_
      refine lv_iload_n hx hb dX3_onAmong_11 rfl (lv_at hl 0 rfl) ?_
      refine lv_aload_n hx hb dX3_onAmong_12 rfl (lv_at hl 2 rfl) ?_
      refine va_get (D := G.1) (ci := 3) (v := .ref (z 7)) (C := RX3) (T := TX3) (N := 2) hx hb hts hinX3 hown hK.1 hP 1 rfl rfl 1 (by decide) (hts (.fieldLink RX3 20 "Rotaforge$Needs" "whole" "LRotaforge$Row;") (by decide +kernel)) (fun _ h9 => h9) rfl dX3_onAmong_13 ?_
      refine lv_iload_n hx hb dX3_onAmong_16 rfl (lv_at hl 0 rfl) ?_
      refine g_callC (W.runV (C := RX5) (As := [.int (nI i)]) (rest := [.int (nI i), .int (itN i (cOnI r x1) (nI 0))]) S0 (c_X5_at l G _ (z 7) (z 29) 8 (r 1) (by decide) (hP.sub (ws' := wRow1 G (z 7) (z 29) 8 (r 1)) [7, 29] rfl) (nI i)) (cwV 1 hts gX3_onAmong_X5_at rfl rfl rfl (by decide +kernel) ⟨Nat.le_of_ble_eq_true rfl, Nat.le_of_ble_eq_true rfl⟩) (g_preV hK hP (q0 := 7) (ci := 5) (q := (RX5, TX5, 1)) rfl rfl) rfl rfl hl.1 rfl (lv_room (Nat.le_of_ble_eq_true rfl)) dX3_onAmong_17 ⟨Nat.zero_le _, Nat.zero_le _⟩) ?_
      refine lv_iload_n hx hb dX3_onAmong_20 rfl (lv_at hl 3 rfl) ?_
      refine lv_iconst (v := (-1)) hx hb dX3_onAmong_21 (by decide +kernel) ?_
      refine lv_ixor hx hb dX3_onAmong_22 ?_
      refine lv_iand hx hb dX3_onAmong_23 ?_
      refine g_join m 32 4 [(3, .int (nI i)), (2, .int (itN i (cOnI r x1) (nI 0))), (0, .ref (z 1)), (1, .int x1)] [.int (b2i (decide ((rAt 8 (r 1) (nI i)) &&& (x1 ^^^ (-1)) = 0))), .int (nI i), .int (itN i (cOnI r x1) (nI 0))] (fun ls hl => ?_) (fun hJ32 => ?_)
      · refine g_callR (va_runSN (As := [.int (itN i (cOnI r x1) (nI 0)), .int (nI i), .int (b2i (decide ((rAt 8 (r 1) (nI i)) &&& (x1 ^^^ (-1)) = 0)))]) (rest := []) S0 (c_X6_withBit l G _ (itN i (cOnI r x1) (nI 0)) (nI i) (decide ((rAt 8 (r 1) (nI i)) &&& (x1 ^^^ (-1)) = 0))) ⟨va_cnB (own := RX3) (host := "Rotaforge") (index := 39) 3 hts gX3_onAmong_X6_withBit_n39 rfl rfl rfl hK.2.2.2 (hts (.initialized RX6) (by decide +kernel)) (by decide +kernel) ⟨Nat.le_of_ble_eq_true rfl, Nat.le_of_ble_eq_true rfl⟩, hts (.static yX6_withBit) (by decide +kernel), trivial⟩ (g_preS hK) rfl rfl hl.1 rfl (lv_room (Nat.le_of_ble_eq_true rfl)) dX3_onAmong_32 ⟨Nat.zero_le _, Nat.zero_le _⟩) ?_
        refine lv_istore_n (lv' := [(2, .int (cWithBit (itN i (cOnI r x1) (nI 0)) (nI i) (decide ((rAt 8 (r 1) (nI i)) &&& (x1 ^^^ (-1)) = 0)))), (3, .int (nI i)), (0, .ref (z 1)), (1, .int x1)]) hx hb dX3_onAmong_35 rfl hl (by decide) rfl (fun ls hl => ?_)
        refine lv_iinc (v := (nI i) + nI 1) (lv' := [(3, .int ((nI i) + nI 1)), (2, .int (cWithBit (itN i (cOnI r x1) (nI 0)) (nI i) (decide ((rAt 8 (r 1) (nI i)) &&& (x1 ^^^ (-1)) = 0)))), (0, .ref (z 1)), (1, .int x1)]) hx hb dX3_onAmong_36 hl (k := 1) rfl (congrArg (fun q : Int32 => (nI i) + q) (by decide +kernel)) (by decide) rfl (fun ls hl => ?_)
        refine lv_goto (tgt := 4) hx hb dX3_onAmong_39 (by decide) ?_
        exact ih4 _ (by omega) trivial (lv_cv (show lv_has ls 4 [(3, .int ((nI i) + nI 1)), (2, .int (cWithBit (itN i (cOnI r x1) (nI 0)) (nI i) (decide ((rAt 8 (r 1) (nI i)) &&& (x1 ^^^ (-1)) = 0)))), (0, .ref (z 1)), (1, .int x1)] from lv_sub hl [0, 1, 2, 3] rfl) (gl_i (show (nI i) + nI 1 = nI (i + 1) by first | with_reducible rfl | with_reducible exact nI_add _ _ | (simp only [itN_s i, cOnI, c_1, ↓reduceIte, Bool.false_eq_true, decide_true, decide_false, Bool.not_true, Bool.not_false, Bool.or_true, Bool.true_or, Bool.or_false, Bool.false_or]; done) | (simp only [itN_s i, cOnI, c_1, ↓reduceIte, Bool.false_eq_true, decide_true, decide_false, Bool.not_true, Bool.not_false, Bool.or_true, Bool.true_or, Bool.or_false, Bool.false_or]; with_reducible rfl) | (simp only [itN_s i, cOnI, c_1, ↓reduceIte, Bool.false_eq_true, decide_true, decide_false, Bool.not_true, Bool.not_false, Bool.or_true, Bool.true_or, Bool.or_false, Bool.false_or]; rfl) | (simp [b2i, itN_s i, cOnI, c_1]; done) | rfl) (gl_i (show cWithBit (itN i (cOnI r x1) (nI 0)) (nI i) (decide ((rAt 8 (r 1) (nI i)) &&& (x1 ^^^ (-1)) = 0)) = itN (i + 1) (cOnI r x1) (nI 0) by first | with_reducible rfl | with_reducible exact nI_add _ _ | (simp only [itN_s i, cOnI, c_1, ↓reduceIte, Bool.false_eq_true, decide_true, decide_false, Bool.not_true, Bool.not_false, Bool.or_true, Bool.true_or, Bool.or_false, Bool.false_or]; done) | (simp only [itN_s i, cOnI, c_1, ↓reduceIte, Bool.false_eq_true, decide_true, decide_false, Bool.not_true, Bool.not_false, Bool.or_true, Bool.true_or, Bool.or_false, Bool.false_or]; with_reducible rfl) | (simp only [itN_s i, cOnI, c_1, ↓reduceIte, Bool.false_eq_true, decide_true, decide_false, Bool.not_true, Bool.not_false, Bool.or_true, Bool.true_or, Bool.or_false, Bool.false_or]; rfl) | (simp [b2i, itN_s i, cOnI, c_1]; done) | rfl) (gl_s (gl_s rfl)))))
      · refine lv_if_ne (tgt := 31) hx hb dX3_onAmong_24 (by decide) (fun c_2 => ?_) (fun c_2 => ?_)
        · refine lv_iconst (v := nI 0) hx hb dX3_onAmong_31 (by decide +kernel) ?_
          refine W.eq (g2 := F0 m 32 ls [.int (b2i (decide ((rAt 8 (r 1) (nI i)) &&& (x1 ^^^ (-1)) = 0))), .int (nI i), .int (itN i (cOnI r x1) (nI 0))]) (g_st (gs_i (show nI 0 = b2i (decide ((rAt 8 (r 1) (nI i)) &&& (x1 ^^^ (-1)) = 0)) by first | with_reducible rfl | with_reducible exact nI_add _ _ | (simp only [cOnI, c_1, c_2, ↓reduceIte, Bool.false_eq_true, decide_true, decide_false, Bool.not_true, Bool.not_false, Bool.or_true, Bool.true_or, Bool.or_false, Bool.false_or]; done) | (simp only [cOnI, c_1, c_2, ↓reduceIte, Bool.false_eq_true, decide_true, decide_false, Bool.not_true, Bool.not_false, Bool.or_true, Bool.true_or, Bool.or_false, Bool.false_or]; with_reducible rfl) | (simp only [cOnI, c_1, c_2, ↓reduceIte, Bool.false_eq_true, decide_true, decide_false, Bool.not_true, Bool.not_false, Bool.or_true, Bool.true_or, Bool.or_false, Bool.false_or]; rfl) | (simp [b2i, cOnI, c_1, c_2]; done) | rfl) (gs_s (gs_s rfl)))) ?_
          exact hJ32 _ (show lv_has ls 4 [(3, .int (nI i)), (2, .int (itN i (cOnI r x1) (nI 0))), (0, .ref (z 1)), (1, .int x1)] from lv_sub hl [0, 1, 2, 3] rfl)
        · refine lv_iconst (v := nI 1) hx hb dX3_onAmong_27 (by decide +kernel) ?_
          refine lv_goto (tgt := 32) hx hb dX3_onAmong_28 (by decide) ?_
          refine W.eq (g2 := F0 m 32 ls [.int (b2i (decide ((rAt 8 (r 1) (nI i)) &&& (x1 ^^^ (-1)) = 0))), .int (nI i), .int (itN i (cOnI r x1) (nI 0))]) (g_st (gs_i (show nI 1 = b2i (decide ((rAt 8 (r 1) (nI i)) &&& (x1 ^^^ (-1)) = 0)) by first | with_reducible rfl | with_reducible exact nI_add _ _ | (simp only [cOnI, c_1, c_2, ↓reduceIte, Bool.false_eq_true, decide_true, decide_false, Bool.not_true, Bool.not_false, Bool.or_true, Bool.true_or, Bool.or_false, Bool.false_or]; done) | (simp only [cOnI, c_1, c_2, ↓reduceIte, Bool.false_eq_true, decide_true, decide_false, Bool.not_true, Bool.not_false, Bool.or_true, Bool.true_or, Bool.or_false, Bool.false_or]; with_reducible rfl) | (simp only [cOnI, c_1, c_2, ↓reduceIte, Bool.false_eq_true, decide_true, decide_false, Bool.not_true, Bool.not_false, Bool.or_true, Bool.true_or, Bool.or_false, Bool.false_or]; rfl) | (simp [b2i, cOnI, c_1, c_2]; done) | rfl) (gs_s (gs_s rfl)))) ?_
          exact hJ32 _ (show lv_has ls 4 [(3, .int (nI i)), (2, .int (itN i (cOnI r x1) (nI 0))), (0, .ref (z 1)), (1, .int x1)] from lv_sub hl [0, 1, 2, 3] rfl)
  · exact (lv_cv (show lv_has ls 4 [(3, .int (nI 0)), (2, .int (nI 0)), (0, .ref (z 1)), (1, .int x1)] from lv_sub hl [0, 1, 2, 3] rfl) (gl_s (gl_i (show nI 0 = itN 0 (cOnI r x1) (nI 0) by first | with_reducible rfl | with_reducible exact nI_add _ _ | (simp only [cOnI, ↓reduceIte, Bool.false_eq_true, decide_true, decide_false, Bool.not_true, Bool.not_false, Bool.or_true, Bool.true_or, Bool.or_false, Bool.false_or]; done) | (simp only [cOnI, ↓reduceIte, Bool.false_eq_true, decide_true, decide_false, Bool.not_true, Bool.not_false, Bool.or_true, Bool.true_or, Bool.or_false, Bool.false_or]; with_reducible rfl) | (simp only [cOnI, ↓reduceIte, Bool.false_eq_true, decide_true, decide_false, Bool.not_true, Bool.not_false, Bool.or_true, Bool.true_or, Bool.or_false, Bool.false_or]; rfl) | (simp [b2i, cOnI]; done) | rfl) (gl_s (gl_s rfl)))))
