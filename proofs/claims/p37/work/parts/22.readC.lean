set_option maxHeartbeats 4000000 in
set_option maxRecDepth 100000 in
theorem c_X4_holderOf (l : Launch) (G : gG) (H0 : Heap) (z : Nat → Nat) (r : Nat → Nat → Int32) (f : Nat → Int32) (hP : va_P G.1 vwCl (wRF G z r f) H0) (x1 : Int32) : gMr l yX4_holderOf wsX4_holderOf 1 21 G H0 [.ref (z 5), .int x1] (rAt 42 (r 17) x1) := by
  refine Met.ofW (cc := cX4_holderOf) (maxL := 2) (ret := (some .int)) (by decide) rfl ?_
  intro p_ e_ s m args below meth c s₁ B hml hv
  obtain ⟨rfl, rfl, hK⟩ := hv
  have hx := B.exec
  have hb := B.bytes
  have hr := B.returns
  have hts := atoms_spec (ws := wsX4_holderOf) B.pre
  have hown : s.vm.findClass RX4 = some m.cls := findClass_of_methodNamed B.named
  have hlocks := B.notSynchronized
  have hinX4 : ∀ w ∈ wsX40, w ∈ wsX4_holderOf := by decide +kernel
  have S0 : CallFix p_ m c cX4_holderOf 2 s _ wsX4_holderOf RX4 := ⟨hx, hb, hml, hown, hts⟩
  have hl := lv_entry ([.ref (z 5), .int x1]) (n := 2) (Nat.le_of_ble_eq_true rfl)
  rw [lg_entry_eq]
  generalize (lg_sl ([.ref (z 5), .int x1]) ++ List.replicate (2 - (lg_sl ([.ref (z 5), .int x1])).length) Slot.unset).toArray = ls at hl ⊢
  have hl : lv_has ls 2 [(0, .ref (z 5)), (1, .int x1)] := hl
  refine lv_aload_n hx hb dX4_holderOf_0 rfl (lv_at hl 0 rfl) ?_
  refine va_get (D := G.1) (ci := 4) (v := .ref (z 23)) (C := RX4) (T := TX4) (N := 6) hx hb hts hinX4 hown hK.1 hP 5 rfl rfl 0 (by decide) (hts (.fieldLink RX4 14 "Rotaforge$Rota" "holders" "LRotaforge$Row;") (by decide +kernel)) (fun _ h9 => h9) rfl dX4_holderOf_1 ?_
  refine lv_iload_n hx hb dX4_holderOf_4 rfl (lv_at hl 1 rfl) ?_
  refine g_callC (W.runV (C := RX5) (As := [.int x1]) (rest := []) S0 (c_X5_at l G _ (z 23) (z 45) 42 (r 17) (by decide) (hP.sub (ws' := wRow1 G (z 23) (z 45) 42 (r 17)) [23, 45] rfl) x1) (cwV 1 hts gX4_holderOf_X5_at rfl rfl rfl (by decide +kernel) ⟨Nat.le_of_ble_eq_true rfl, Nat.le_of_ble_eq_true rfl⟩) (g_preV hK hP (q0 := 23) (ci := 5) (q := (RX5, TX5, 1)) rfl rfl) rfl rfl hl.1 rfl (lv_room (Nat.le_of_ble_eq_true rfl)) dX4_holderOf_5 ⟨Nat.zero_le _, Nat.zero_le _⟩) ?_
  have hq : (rAt 42 (r 17) x1) = (rAt 42 (r 17) x1) := by
    first | with_reducible rfl | with_reducible exact nI_add _ _ | (simp only [true_and, ↓reduceIte, Bool.false_eq_true, decide_true, decide_false, Bool.not_true, Bool.not_false, Bool.or_true, Bool.true_or, Bool.or_false, Bool.false_or]; done) | (simp only [true_and, ↓reduceIte, Bool.false_eq_true, decide_true, decide_false, Bool.not_true, Bool.not_false, Bool.or_true, Bool.true_or, Bool.or_false, Bool.false_or]; with_reducible rfl) | (simp only [true_and, ↓reduceIte, Bool.false_eq_true, decide_true, decide_false, Bool.not_true, Bool.not_false, Bool.or_true, Bool.true_or, Bool.or_false, Bool.false_or]; rfl) | (simp [b2i, true_and]; done) | rfl
  exact W.iret (v := rAt 42 (r 17) x1) hx hb hr (fun t ht _ => g_ret hq ht) g_no dX4_holderOf_8

set_option maxHeartbeats 4000000 in
set_option maxRecDepth 100000 in
theorem c_X4_blotsOf (l : Launch) (G : gG) (H0 : Heap) (z : Nat → Nat) (r : Nat → Nat → Int32) (f : Nat → Int32) (hP : va_P G.1 vwCl (wRF G z r f) H0) (x1 : Int32) : gMr l yX4_blotsOf wsX4_blotsOf 1 21 G H0 [.ref (z 5), .int x1] (rAt 6 (r 18) x1) := by
  refine Met.ofW (cc := cX4_blotsOf) (maxL := 2) (ret := (some .int)) (by decide) rfl ?_
  intro p_ e_ s m args below meth c s₁ B hml hv
  obtain ⟨rfl, rfl, hK⟩ := hv
  have hx := B.exec
  have hb := B.bytes
  have hr := B.returns
  have hts := atoms_spec (ws := wsX4_blotsOf) B.pre
  have hown : s.vm.findClass RX4 = some m.cls := findClass_of_methodNamed B.named
  have hlocks := B.notSynchronized
  have hinX4 : ∀ w ∈ wsX40, w ∈ wsX4_blotsOf := by decide +kernel
  have S0 : CallFix p_ m c cX4_blotsOf 2 s _ wsX4_blotsOf RX4 := ⟨hx, hb, hml, hown, hts⟩
  have hl := lv_entry ([.ref (z 5), .int x1]) (n := 2) (Nat.le_of_ble_eq_true rfl)
  rw [lg_entry_eq]
  generalize (lg_sl ([.ref (z 5), .int x1]) ++ List.replicate (2 - (lg_sl ([.ref (z 5), .int x1])).length) Slot.unset).toArray = ls at hl ⊢
  have hl : lv_has ls 2 [(0, .ref (z 5)), (1, .int x1)] := hl
  refine lv_aload_n hx hb dX4_blotsOf_0 rfl (lv_at hl 0 rfl) ?_
  refine va_get (D := G.1) (ci := 4) (v := .ref (z 24)) (C := RX4) (T := TX4) (N := 6) hx hb hts hinX4 hown hK.1 hP 5 rfl rfl 1 (by decide) (hts (.fieldLink RX4 23 "Rotaforge$Rota" "blotCounts" "LRotaforge$Row;") (by decide +kernel)) (fun _ h9 => h9) rfl dX4_blotsOf_1 ?_
  refine lv_iload_n hx hb dX4_blotsOf_4 rfl (lv_at hl 1 rfl) ?_
  refine g_callC (W.runV (C := RX5) (As := [.int x1]) (rest := []) S0 (c_X5_at l G _ (z 24) (z 46) 6 (r 18) (by decide) (hP.sub (ws' := wRow1 G (z 24) (z 46) 6 (r 18)) [24, 46] rfl) x1) (cwV 1 hts gX4_blotsOf_X5_at rfl rfl rfl (by decide +kernel) ⟨Nat.le_of_ble_eq_true rfl, Nat.le_of_ble_eq_true rfl⟩) (g_preV hK hP (q0 := 24) (ci := 5) (q := (RX5, TX5, 1)) rfl rfl) rfl rfl hl.1 rfl (lv_room (Nat.le_of_ble_eq_true rfl)) dX4_blotsOf_5 ⟨Nat.zero_le _, Nat.zero_le _⟩) ?_
  have hq : (rAt 6 (r 18) x1) = (rAt 6 (r 18) x1) := by
    first | with_reducible rfl | with_reducible exact nI_add _ _ | (simp only [true_and, ↓reduceIte, Bool.false_eq_true, decide_true, decide_false, Bool.not_true, Bool.not_false, Bool.or_true, Bool.true_or, Bool.or_false, Bool.false_or]; done) | (simp only [true_and, ↓reduceIte, Bool.false_eq_true, decide_true, decide_false, Bool.not_true, Bool.not_false, Bool.or_true, Bool.true_or, Bool.or_false, Bool.false_or]; with_reducible rfl) | (simp only [true_and, ↓reduceIte, Bool.false_eq_true, decide_true, decide_false, Bool.not_true, Bool.not_false, Bool.or_true, Bool.true_or, Bool.or_false, Bool.false_or]; rfl) | (simp [b2i, true_and]; done) | rfl
  exact W.iret (v := rAt 6 (r 18) x1) hx hb hr (fun t ht _ => g_ret hq ht) g_no dX4_blotsOf_8

set_option maxHeartbeats 4000000 in
set_option maxRecDepth 100000 in
theorem c_X4_missedCount (l : Launch) (G : gG) (H0 : Heap) (z : Nat → Nat) (r : Nat → Nat → Int32) (f : Nat → Int32) (hP : va_P G.1 vwCl (wRF G z r f) H0) : gMr l yX4_missedCount wsX4_missedCount 0 0 G H0 [.ref (z 5)] (f 5) := by
  refine Met.ofW (cc := cX4_missedCount) (maxL := 1) (ret := (some .int)) (by decide) rfl ?_
  intro p_ e_ s m args below meth c s₁ B hml hv
  obtain ⟨rfl, rfl, hK⟩ := hv
  have hx := B.exec
  have hb := B.bytes
  have hr := B.returns
  have hts := atoms_spec (ws := wsX4_missedCount) B.pre
  have hown : s.vm.findClass RX4 = some m.cls := findClass_of_methodNamed B.named
  have hlocks := B.notSynchronized
  have hinX4 : ∀ w ∈ wsX40, w ∈ wsX4_missedCount := by decide +kernel
  have S0 : CallFix p_ m c cX4_missedCount 1 s _ wsX4_missedCount RX4 := ⟨hx, hb, hml, hown, hts⟩
  have hl := lv_entry ([.ref (z 5)]) (n := 1) (Nat.le_of_ble_eq_true rfl)
  rw [lg_entry_eq]
  generalize (lg_sl ([.ref (z 5)]) ++ List.replicate (1 - (lg_sl ([.ref (z 5)])).length) Slot.unset).toArray = ls at hl ⊢
  have hl : lv_has ls 1 [(0, .ref (z 5))] := hl
  refine lv_aload_n hx hb dX4_missedCount_0 rfl (lv_at hl 0 rfl) ?_
  refine va_get (D := G.1) (ci := 4) (v := .int (f 5)) (C := RX4) (T := TX4) (N := 6) hx hb hts hinX4 hown hK.1 hP 5 rfl rfl 5 (by decide) (hts (.fieldLink RX4 35 "Rotaforge$Rota" "missedCalls" "I") (by decide +kernel)) (fun _ h9 => h9) rfl dX4_missedCount_1 ?_
  have hq : (f 5) = (f 5) := by
    first | with_reducible rfl | with_reducible exact nI_add _ _ | (simp only [true_and, ↓reduceIte, Bool.false_eq_true, decide_true, decide_false, Bool.not_true, Bool.not_false, Bool.or_true, Bool.true_or, Bool.or_false, Bool.false_or]; done) | (simp only [true_and, ↓reduceIte, Bool.false_eq_true, decide_true, decide_false, Bool.not_true, Bool.not_false, Bool.or_true, Bool.true_or, Bool.or_false, Bool.false_or]; with_reducible rfl) | (simp only [true_and, ↓reduceIte, Bool.false_eq_true, decide_true, decide_false, Bool.not_true, Bool.not_false, Bool.or_true, Bool.true_or, Bool.or_false, Bool.false_or]; rfl) | (simp [b2i, true_and]; done) | rfl
  exact W.iret (v := (f 5)) hx hb hr (fun t ht _ => g_ret hq ht) g_no dX4_missedCount_4

set_option maxHeartbeats 4000000 in
set_option maxRecDepth 100000 in
theorem c_X4_callCount (l : Launch) (G : gG) (H0 : Heap) (z : Nat → Nat) (r : Nat → Nat → Int32) (f : Nat → Int32) (hP : va_P G.1 vwCl (wRF G z r f) H0) (x1 : Int32) (x2 : Bool) : gMr l yX4_callCount wsX4_callCount 1 21 G H0 [.ref (z 5), .int x1, .int (b2i x2)] (if x2 then rAt 6 (r 21) x1 else rAt 6 (r 20) x1) := by
  refine Met.ofW (cc := cX4_callCount) (maxL := 3) (ret := (some .int)) (by decide) rfl ?_
  intro p_ e_ s m args below meth c s₁ B hml hv
  obtain ⟨rfl, rfl, hK⟩ := hv
  have hx := B.exec
  have hb := B.bytes
  have hr := B.returns
  have hts := atoms_spec (ws := wsX4_callCount) B.pre
  have hown : s.vm.findClass RX4 = some m.cls := findClass_of_methodNamed B.named
  have hlocks := B.notSynchronized
  have hinX4 : ∀ w ∈ wsX40, w ∈ wsX4_callCount := by decide +kernel
  have S0 : CallFix p_ m c cX4_callCount 3 s _ wsX4_callCount RX4 := ⟨hx, hb, hml, hown, hts⟩
  have hl := lv_entry ([.ref (z 5), .int x1, .int (b2i x2)]) (n := 3) (Nat.le_of_ble_eq_true rfl)
  rw [lg_entry_eq]
  generalize (lg_sl ([.ref (z 5), .int x1, .int (b2i x2)]) ++ List.replicate (3 - (lg_sl ([.ref (z 5), .int x1, .int (b2i x2)])).length) Slot.unset).toArray = ls at hl ⊢
  have hl : lv_has ls 3 [(0, .ref (z 5)), (1, .int x1), (2, .int (b2i x2))] := hl
  refine lv_iload_n hx hb dX4_callCount_0 rfl (lv_at hl 2 rfl) ?_
  refine lv_if_eq (tgt := 15) hx hb dX4_callCount_1 (by decide) (fun c_1 => ?_) (fun c_1 => ?_)
  · have c_1 := b2i_f c_1
    refine lv_aload_n hx hb dX4_callCount_15 rfl (lv_at hl 0 rfl) ?_
    refine va_get (D := G.1) (ci := 4) (v := .ref (z 26)) (C := RX4) (T := TX4) (N := 6) hx hb hts hinX4 hown hK.1 hP 5 rfl rfl 3 (by decide) (hts (.fieldLink RX4 29 "Rotaforge$Rota" "dayCalls" "LRotaforge$Row;") (by decide +kernel)) (fun _ h9 => h9) rfl dX4_callCount_16 ?_
    refine lv_iload_n hx hb dX4_callCount_19 rfl (lv_at hl 1 rfl) ?_
    refine g_callC (W.runV (C := RX5) (As := [.int x1]) (rest := []) S0 (c_X5_at l G _ (z 26) (z 48) 6 (r 20) (by decide) (hP.sub (ws' := wRow1 G (z 26) (z 48) 6 (r 20)) [26, 48] rfl) x1) (cwV 1 hts gX4_callCount_X5_at rfl rfl rfl (by decide +kernel) ⟨Nat.le_of_ble_eq_true rfl, Nat.le_of_ble_eq_true rfl⟩) (g_preV hK hP (q0 := 26) (ci := 5) (q := (RX5, TX5, 1)) rfl rfl) rfl rfl hl.1 rfl (lv_room (Nat.le_of_ble_eq_true rfl)) dX4_callCount_20 ⟨Nat.zero_le _, Nat.zero_le _⟩) ?_
    have hq : (rAt 6 (r 20) x1) = (if x2 then rAt 6 (r 21) x1 else rAt 6 (r 20) x1) := by
      first | with_reducible rfl | with_reducible exact nI_add _ _ | (simp only [c_1, ↓reduceIte, Bool.false_eq_true, decide_true, decide_false, Bool.not_true, Bool.not_false, Bool.or_true, Bool.true_or, Bool.or_false, Bool.false_or]; done) | (simp only [c_1, ↓reduceIte, Bool.false_eq_true, decide_true, decide_false, Bool.not_true, Bool.not_false, Bool.or_true, Bool.true_or, Bool.or_false, Bool.false_or]; with_reducible rfl) | (simp only [c_1, ↓reduceIte, Bool.false_eq_true, decide_true, decide_false, Bool.not_true, Bool.not_false, Bool.or_true, Bool.true_or, Bool.or_false, Bool.false_or]; rfl) | (simp [b2i, c_1]; done) | rfl
    exact W.iret (v := rAt 6 (r 20) x1) hx hb hr (fun t ht _ => g_ret hq ht) g_no dX4_callCount_23
  · have c_1 := b2i_t c_1
    refine lv_aload_n hx hb dX4_callCount_4 rfl (lv_at hl 0 rfl) ?_
    refine va_get (D := G.1) (ci := 4) (v := .ref (z 27)) (C := RX4) (T := TX4) (N := 6) hx hb hts hinX4 hown hK.1 hP 5 rfl rfl 4 (by decide) (hts (.fieldLink RX4 32 "Rotaforge$Rota" "nightCalls" "LRotaforge$Row;") (by decide +kernel)) (fun _ h9 => h9) rfl dX4_callCount_5 ?_
    refine lv_iload_n hx hb dX4_callCount_8 rfl (lv_at hl 1 rfl) ?_
    refine g_callC (W.runV (C := RX5) (As := [.int x1]) (rest := []) S0 (c_X5_at l G _ (z 27) (z 49) 6 (r 21) (by decide) (hP.sub (ws' := wRow1 G (z 27) (z 49) 6 (r 21)) [27, 49] rfl) x1) (cwV 1 hts gX4_callCount_X5_at rfl rfl rfl (by decide +kernel) ⟨Nat.le_of_ble_eq_true rfl, Nat.le_of_ble_eq_true rfl⟩) (g_preV hK hP (q0 := 27) (ci := 5) (q := (RX5, TX5, 1)) rfl rfl) rfl rfl hl.1 rfl (lv_room (Nat.le_of_ble_eq_true rfl)) dX4_callCount_9 ⟨Nat.zero_le _, Nat.zero_le _⟩) ?_
    refine lv_goto (tgt := 23) hx hb dX4_callCount_12 (by decide) ?_
    have hq : (rAt 6 (r 21) x1) = (if x2 then rAt 6 (r 21) x1 else rAt 6 (r 20) x1) := by
      first | with_reducible rfl | with_reducible exact nI_add _ _ | (simp only [c_1, ↓reduceIte, Bool.false_eq_true, decide_true, decide_false, Bool.not_true, Bool.not_false, Bool.or_true, Bool.true_or, Bool.or_false, Bool.false_or]; done) | (simp only [c_1, ↓reduceIte, Bool.false_eq_true, decide_true, decide_false, Bool.not_true, Bool.not_false, Bool.or_true, Bool.true_or, Bool.or_false, Bool.false_or]; with_reducible rfl) | (simp only [c_1, ↓reduceIte, Bool.false_eq_true, decide_true, decide_false, Bool.not_true, Bool.not_false, Bool.or_true, Bool.true_or, Bool.or_false, Bool.false_or]; rfl) | (simp [b2i, c_1]; done) | rfl
    exact W.iret (v := rAt 6 (r 21) x1) hx hb hr (fun t ht _ => g_ret hq ht) g_no dX4_callCount_23

set_option maxHeartbeats 4000000 in
set_option maxRecDepth 100000 in
theorem c_X4_isResting (l : Launch) (G : gG) (H0 : Heap) (z : Nat → Nat) (r : Nat → Nat → Int32) (f : Nat → Int32) (hP : va_P G.1 vwCl (wRF G z r f) H0) (x1 : Int32) (x2 : Int32) : gMr l yX4_isResting wsX4_isResting 1 21 G H0 [.ref (z 5), .int x1, .int x2] (b2i (cRest r x1 x2)) := by
  refine Met.ofW (cc := cX4_isResting) (maxL := 4) (ret := (some .boolean)) (by decide) rfl ?_
  intro p_ e_ s m args below meth c s₁ B hml hv
  obtain ⟨rfl, rfl, hK⟩ := hv
  have hx := B.exec
  have hb := B.bytes
  have hr := B.returns
  have hts := atoms_spec (ws := wsX4_isResting) B.pre
  have hown : s.vm.findClass RX4 = some m.cls := findClass_of_methodNamed B.named
  have hlocks := B.notSynchronized
  have hinX4 : ∀ w ∈ wsX40, w ∈ wsX4_isResting := by decide +kernel
  have S0 : CallFix p_ m c cX4_isResting 4 s _ wsX4_isResting RX4 := ⟨hx, hb, hml, hown, hts⟩
  have hl := lv_entry ([.ref (z 5), .int x1, .int x2]) (n := 4) (Nat.le_of_ble_eq_true rfl)
  rw [lg_entry_eq]
  generalize (lg_sl ([.ref (z 5), .int x1, .int x2]) ++ List.replicate (4 - (lg_sl ([.ref (z 5), .int x1, .int x2])).length) Slot.unset).toArray = ls at hl ⊢
  have hl : lv_has ls 4 [(0, .ref (z 5)), (1, .int x1), (2, .int x2)] := hl
  refine lv_aload_n hx hb dX4_isResting_0 rfl (lv_at hl 0 rfl) ?_
  refine va_get (D := G.1) (ci := 4) (v := .ref (z 25)) (C := RX4) (T := TX4) (N := 6) hx hb hts hinX4 hown hK.1 hP 5 rfl rfl 2 (by decide) (hts (.fieldLink RX4 26 "Rotaforge$Rota" "restEnds" "LRotaforge$Row;") (by decide +kernel)) (fun _ h9 => h9) rfl dX4_isResting_1 ?_
  refine lv_iload_n hx hb dX4_isResting_4 rfl (lv_at hl 1 rfl) ?_
  refine g_callC (W.runV (C := RX5) (As := [.int x1]) (rest := []) S0 (c_X5_at l G _ (z 25) (z 47) 6 (r 19) (by decide) (hP.sub (ws' := wRow1 G (z 25) (z 47) 6 (r 19)) [25, 47] rfl) x1) (cwV 1 hts gX4_isResting_X5_at rfl rfl rfl (by decide +kernel) ⟨Nat.le_of_ble_eq_true rfl, Nat.le_of_ble_eq_true rfl⟩) (g_preV hK hP (q0 := 25) (ci := 5) (q := (RX5, TX5, 1)) rfl rfl) rfl rfl hl.1 rfl (lv_room (Nat.le_of_ble_eq_true rfl)) dX4_isResting_5 ⟨Nat.zero_le _, Nat.zero_le _⟩) ?_
  refine lv_istore_n (lv' := [(3, .int (rAt 6 (r 19) x1)), (0, .ref (z 5)), (1, .int x1), (2, .int x2)]) hx hb dX4_isResting_8 rfl hl (by decide) rfl (fun ls hl => ?_)
  refine lv_iload_n hx hb dX4_isResting_9 rfl (lv_at hl 3 rfl) ?_
  refine lv_iload_n hx hb dX4_isResting_10 rfl (lv_at hl 0 rfl) ?_
  refine lv_icmp_gt (tgt := 26) hx hb dX4_isResting_11 (by decide) (fun c_1 => ?_) (fun c_1 => ?_)
  · refine lv_iconst (v := nI 0) hx hb dX4_isResting_26 (by decide +kernel) ?_
    have hq : (nI 0) = (b2i (cRest r x1 x2)) := by
      first | with_reducible rfl | with_reducible exact nI_add _ _ | (simp only [cRest, c_1, ↓reduceIte, Bool.false_eq_true, decide_true, decide_false, Bool.not_true, Bool.not_false, Bool.or_true, Bool.true_or, Bool.or_false, Bool.false_or]; done) | (simp only [cRest, c_1, ↓reduceIte, Bool.false_eq_true, decide_true, decide_false, Bool.not_true, Bool.not_false, Bool.or_true, Bool.true_or, Bool.or_false, Bool.false_or]; with_reducible rfl) | (simp only [cRest, c_1, ↓reduceIte, Bool.false_eq_true, decide_true, decide_false, Bool.not_true, Bool.not_false, Bool.or_true, Bool.true_or, Bool.or_false, Bool.false_or]; rfl) | (simp [b2i, cRest, c_1]; done) | rfl
    exact W.zret (v := nI 0) hx hb hr (z_nar hq) (fun t ht _ => g_ret hq ht) g_no dX4_isResting_27
  · refine lv_iload_n hx hb dX4_isResting_14 rfl (lv_at hl 3 rfl) ?_
    refine lv_iload_n hx hb dX4_isResting_15 rfl (lv_at hl 0 rfl) ?_
    refine lv_bipush (v := nI 12) hx hb dX4_isResting_16 (by decide +kernel) ?_
    refine lv_isub hx hb dX4_isResting_18 ?_
    refine lv_icmp_le (tgt := 26) hx hb dX4_isResting_19 (by decide) (fun c_2 => ?_) (fun c_2 => ?_)
    · refine lv_iconst (v := nI 0) hx hb dX4_isResting_26 (by decide +kernel) ?_
      have hq : (nI 0) = (b2i (cRest r x1 x2)) := by
        first | with_reducible rfl | with_reducible exact nI_add _ _ | (simp only [cRest, c_1, c_2, ↓reduceIte, Bool.false_eq_true, decide_true, decide_false, Bool.not_true, Bool.not_false, Bool.or_true, Bool.true_or, Bool.or_false, Bool.false_or]; done) | (simp only [cRest, c_1, c_2, ↓reduceIte, Bool.false_eq_true, decide_true, decide_false, Bool.not_true, Bool.not_false, Bool.or_true, Bool.true_or, Bool.or_false, Bool.false_or]; with_reducible rfl) | (simp only [cRest, c_1, c_2, ↓reduceIte, Bool.false_eq_true, decide_true, decide_false, Bool.not_true, Bool.not_false, Bool.or_true, Bool.true_or, Bool.or_false, Bool.false_or]; rfl) | (simp [b2i, cRest, c_1, c_2]; done) | rfl
      exact W.zret (v := nI 0) hx hb hr (z_nar hq) (fun t ht _ => g_ret hq ht) g_no dX4_isResting_27
    · refine lv_iconst (v := nI 1) hx hb dX4_isResting_22 (by decide +kernel) ?_
      refine lv_goto (tgt := 27) hx hb dX4_isResting_23 (by decide) ?_
      have hq : (nI 1) = (b2i (cRest r x1 x2)) := by
        first | with_reducible rfl | with_reducible exact nI_add _ _ | (simp only [cRest, c_1, c_2, ↓reduceIte, Bool.false_eq_true, decide_true, decide_false, Bool.not_true, Bool.not_false, Bool.or_true, Bool.true_or, Bool.or_false, Bool.false_or]; done) | (simp only [cRest, c_1, c_2, ↓reduceIte, Bool.false_eq_true, decide_true, decide_false, Bool.not_true, Bool.not_false, Bool.or_true, Bool.true_or, Bool.or_false, Bool.false_or]; with_reducible rfl) | (simp only [cRest, c_1, c_2, ↓reduceIte, Bool.false_eq_true, decide_true, decide_false, Bool.not_true, Bool.not_false, Bool.or_true, Bool.true_or, Bool.or_false, Bool.false_or]; rfl) | (simp [b2i, cRest, c_1, c_2]; done) | rfl
      exact W.zret (v := nI 1) hx hb hr (z_nar hq) (fun t ht _ => g_ret hq ht) g_no dX4_isResting_27

set_option maxHeartbeats 4000000 in
set_option maxRecDepth 100000 in
theorem c_X4_nearness (l : Launch) (G : gG) (H0 : Heap) (z : Nat → Nat) (r : Nat → Nat → Int32) (f : Nat → Int32) (hP : va_P G.1 vwCl (wRF G z r f) H0) (x1 : Int32) (x2 : Int32) (w : Nat) (hw1 : x2 = nI w) (hw2 : w < 100) : gMr l yX4_nearness wsX4_nearness 1 21 G H0 [.ref (z 5), .int x1, .int x2] (cNear r x1 w) := by
  refine Met.ofW (cc := cX4_nearness) (maxL := 4) (ret := (some .int)) (by decide) rfl ?_
  intro p_ e_ s m args below meth c s₁ B hml hv
  obtain ⟨rfl, rfl, hK⟩ := hv
  have hx := B.exec
  have hb := B.bytes
  have hr := B.returns
  have hts := atoms_spec (ws := wsX4_nearness) B.pre
  have hown : s.vm.findClass RX4 = some m.cls := findClass_of_methodNamed B.named
  have hlocks := B.notSynchronized
  have hinX4 : ∀ w ∈ wsX40, w ∈ wsX4_nearness := by decide +kernel
  have S0 : CallFix p_ m c cX4_nearness 4 s _ wsX4_nearness RX4 := ⟨hx, hb, hml, hown, hts⟩
  have hl := lv_entry ([.ref (z 5), .int x1, .int x2]) (n := 4) (Nat.le_of_ble_eq_true rfl)
  rw [lg_entry_eq]
  generalize (lg_sl ([.ref (z 5), .int x1, .int x2]) ++ List.replicate (4 - (lg_sl ([.ref (z 5), .int x1, .int x2])).length) Slot.unset).toArray = ls at hl ⊢
  have hl : lv_has ls 4 [(0, .ref (z 5)), (1, .int x1), (2, .int x2)] := hl
  subst hw1
  refine lv_iload_n hx hb dX4_nearness_0 rfl (lv_at hl 2 rfl) ?_
  refine lv_iconst (v := nI 1) hx hb dX4_nearness_1 (by decide +kernel) ?_
  refine lv_isub hx hb dX4_nearness_2 ?_
  refine lv_istore_n (lv' := [(3, .int ((nI w) - (nI 1))), (0, .ref (z 5)), (1, .int x1), (2, .int (nI w))]) hx hb dX4_nearness_3 rfl hl (by decide) rfl (fun ls hl => ?_)
  refine g_loop _ m 4 4 [] (w) (fun i => [(3, .int (nI (w - i) - nI 1)), (0, .ref (z 5)), (1, .int x1), (2, .int (nI w))]) (fun i => ∀ j, w - i ≤ j → j < w → (fun j => decide (rAt 42 (r 17) (nI j) = x1)) j = false) (fun i hi4 hI ih4 ls hl => ?_) 0 (Nat.zero_le _) (by intro j h1 h2; omega) ls ?_
  · have hl : lv_has ls 4 [(3, .int (nI (w - i) - nI 1)), (0, .ref (z 5)), (1, .int x1), (2, .int (nI w))] := hl
    have hI : ∀ j, w - i ≤ j → j < w → (fun j => decide (rAt 42 (r 17) (nI j) = x1)) j = false := hI
    refine lv_iload_n hx hb dX4_nearness_4 rfl (lv_at hl 0 rfl) ?_
    refine lv_if_lt (tgt := 39) hx hb dX4_nearness_5 (by decide) (fun c_1 => ?_) (fun c_1 => ?_)
    · have hex : w = i := by
        have h9 : ¬ 0 < w - i := fun h => absurd c_1 (by rw [show w - i = (w - i - 1) + 1 from by omega, ← nI_add, show nI (w - i - 1) + nI 1 - nI 1 = nI (w - i - 1) from by simp]; exact nI_pos (by omega))
        omega
      have hN : lastN w (fun j => decide (rAt 42 (r 17) (nI j) = x1)) = -1 := lastN_none (fun j hj => hI j (by omega) hj)
      refine lv_iload_n hx hb dX4_nearness_39 rfl (lv_at hl 3 rfl) ?_
      refine lv_iconst (v := nI 1) hx hb dX4_nearness_40 (by decide +kernel) ?_
      refine lv_iadd hx hb dX4_nearness_41 ?_
      refine lv_aload_n hx hb dX4_nearness_42 rfl (lv_at hl 1 rfl) ?_
      refine va_get (D := G.1) (ci := 4) (v := .ref (z 24)) (C := RX4) (T := TX4) (N := 6) hx hb hts hinX4 hown hK.1 hP 5 rfl rfl 1 (by decide) (hts (.fieldLink RX4 23 "Rotaforge$Rota" "blotCounts" "LRotaforge$Row;") (by decide +kernel)) (fun _ h9 => h9) rfl dX4_nearness_43 ?_
      refine lv_iload_n hx hb dX4_nearness_46 rfl (lv_at hl 2 rfl) ?_
      refine g_callC (W.runV (C := RX5) (As := [.int x1]) (rest := [.int ((nI w) + (nI 1))]) S0 (c_X5_at l G _ (z 24) (z 46) 6 (r 18) (by decide) (hP.sub (ws' := wRow1 G (z 24) (z 46) 6 (r 18)) [24, 46] rfl) x1) (cwV 1 hts gX4_nearness_X5_at rfl rfl rfl (by decide +kernel) ⟨Nat.le_of_ble_eq_true rfl, Nat.le_of_ble_eq_true rfl⟩) (g_preV hK hP (q0 := 24) (ci := 5) (q := (RX5, TX5, 1)) rfl rfl) rfl rfl hl.1 rfl (lv_room (Nat.le_of_ble_eq_true rfl)) dX4_nearness_47 ⟨Nat.zero_le _, Nat.zero_le _⟩) ?_
      refine lv_iadd hx hb dX4_nearness_50 ?_
      have hq : (((nI w) + (nI 1)) + (rAt 6 (r 18) x1)) = (cNear r x1 w) := by
        rw [cNear, hN, if_pos rfl]
      exact W.iret (v := ((nI w) + (nI 1)) + (rAt 6 (r 18) x1)) hx hb hr (fun t ht _ => g_ret hq ht) g_no dX4_nearness_51
    · have hlt : i < w := by
        have h9 : ¬ i = w := fun h => c_1 (by subst h; rw [Nat.sub_self]; decide)
        omega
      have eR : nI (w - i) - nI 1 = nI (w - i - 1) := by rw [show w - i = (w - i - 1) + 1 from by omega, ← nI_add]; simp
      rw [eR] at hl
      refine lv_aload_n hx hb dX4_nearness_8 rfl (lv_at hl 1 rfl) ?_
      refine va_get (D := G.1) (ci := 4) (v := .ref (z 23)) (C := RX4) (T := TX4) (N := 6) hx hb hts hinX4 hown hK.1 hP 5 rfl rfl 0 (by decide) (hts (.fieldLink RX4 14 "Rotaforge$Rota" "holders" "LRotaforge$Row;") (by decide +kernel)) (fun _ h9 => h9) rfl dX4_nearness_9 ?_
      refine lv_iload_n hx hb dX4_nearness_12 rfl (lv_at hl 0 rfl) ?_
      refine g_callC (W.runV (C := RX5) (As := [.int (nI (w - i - 1))]) (rest := []) S0 (c_X5_at l G _ (z 23) (z 45) 42 (r 17) (by decide) (hP.sub (ws' := wRow1 G (z 23) (z 45) 42 (r 17)) [23, 45] rfl) (nI (w - i - 1))) (cwV 1 hts gX4_nearness_X5_at rfl rfl rfl (by decide +kernel) ⟨Nat.le_of_ble_eq_true rfl, Nat.le_of_ble_eq_true rfl⟩) (g_preV hK hP (q0 := 23) (ci := 5) (q := (RX5, TX5, 1)) rfl rfl) rfl rfl hl.1 rfl (lv_room (Nat.le_of_ble_eq_true rfl)) dX4_nearness_13 ⟨Nat.zero_le _, Nat.zero_le _⟩) ?_
      refine lv_iload_n hx hb dX4_nearness_16 rfl (lv_at hl 2 rfl) ?_
      refine lv_icmp_ne (tgt := 33) hx hb dX4_nearness_17 (by decide) (fun c_2 => ?_) (fun c_2 => ?_)
      · refine lv_iinc (v := (nI (w - i - 1)) + (-1)) (lv' := [(3, .int ((nI (w - i - 1)) + (-1))), (0, .ref (z 5)), (1, .int x1), (2, .int (nI w))]) hx hb dX4_nearness_33 hl (k := 0) rfl (congrArg (fun q : Int32 => (nI (w - i - 1)) + q) (by decide +kernel)) (by decide) rfl (fun ls hl => ?_)
        refine lv_goto (tgt := 4) hx hb dX4_nearness_36 (by decide) ?_
        exact ih4 _ (by omega) (by intro j h1 h2; exact if h3 : j = w - i - 1 then (by rw [h3]; exact decide_eq_false (by assumption)) else hI j (by omega) h2) (lv_cv (show lv_has ls 4 [(3, .int ((nI (w - i - 1)) + (-1))), (0, .ref (z 5)), (1, .int x1), (2, .int (nI w))] from lv_sub hl [0, 1, 2, 3] rfl) (gl_i (show (nI (w - i - 1)) + (-1) = nI (w - (i + 1)) - nI 1 by rw [show w - (i + 1) = w - i - 1 from by omega]; exact x_m1 _) (gl_s (gl_s (gl_s rfl)))))
      · refine lv_iload_n hx hb dX4_nearness_20 rfl (lv_at hl 3 rfl) ?_
        refine lv_iload_n hx hb dX4_nearness_21 rfl (lv_at hl 0 rfl) ?_
        refine lv_isub hx hb dX4_nearness_22 ?_
        refine lv_aload_n hx hb dX4_nearness_23 rfl (lv_at hl 1 rfl) ?_
        refine va_get (D := G.1) (ci := 4) (v := .ref (z 24)) (C := RX4) (T := TX4) (N := 6) hx hb hts hinX4 hown hK.1 hP 5 rfl rfl 1 (by decide) (hts (.fieldLink RX4 23 "Rotaforge$Rota" "blotCounts" "LRotaforge$Row;") (by decide +kernel)) (fun _ h9 => h9) rfl dX4_nearness_24 ?_
        refine lv_iload_n hx hb dX4_nearness_27 rfl (lv_at hl 2 rfl) ?_
        refine g_callC (W.runV (C := RX5) (As := [.int x1]) (rest := [.int ((nI w) - (nI (w - i - 1)))]) S0 (c_X5_at l G _ (z 24) (z 46) 6 (r 18) (by decide) (hP.sub (ws' := wRow1 G (z 24) (z 46) 6 (r 18)) [24, 46] rfl) x1) (cwV 1 hts gX4_nearness_X5_at rfl rfl rfl (by decide +kernel) ⟨Nat.le_of_ble_eq_true rfl, Nat.le_of_ble_eq_true rfl⟩) (g_preV hK hP (q0 := 24) (ci := 5) (q := (RX5, TX5, 1)) rfl rfl) rfl rfl hl.1 rfl (lv_room (Nat.le_of_ble_eq_true rfl)) dX4_nearness_28 ⟨Nat.zero_le _, Nat.zero_le _⟩) ?_
        refine lv_iadd hx hb dX4_nearness_31 ?_
        have hq : (((nI w) - (nI (w - i - 1))) + (rAt 6 (r 18) x1)) = (cNear r x1 w) := by
          have hN : lastN w (fun j => decide (rAt 42 (r 17) (nI j) = x1)) = nI (w - i - 1) := lastN_eq (by omega) (by simp [c_1, c_2]) (fun j h1 h2 => hI j (by omega) h2)
          rw [cNear, hN, if_neg (nI_ne_m1 (by omega))]
        exact W.iret (v := ((nI w) - (nI (w - i - 1))) + (rAt 6 (r 18) x1)) hx hb hr (fun t ht _ => g_ret hq ht) g_no dX4_nearness_32
  · exact (lv_cv (show lv_has ls 4 [(3, .int ((nI w) - (nI 1))), (0, .ref (z 5)), (1, .int x1), (2, .int (nI w))] from lv_sub hl [0, 1, 2, 3] rfl) (gl_i (show (nI w) - (nI 1) = nI (w - 0) - nI 1 by rw [Nat.sub_zero]) (gl_s (gl_s (gl_s rfl)))))

set_option maxHeartbeats 4000000 in
set_option maxRecDepth 100000 in
theorem c_X4_nearestTo (l : Launch) (G : gG) (H0 : Heap) (z : Nat → Nat) (r : Nat → Nat → Int32) (f : Nat → Int32) (hP : va_P G.1 vwCl (wRF G z r f) H0) (x1 : Int32) (w : Nat) (hw1 : x1 = nI w) (hw2 : w < 100) : gMr l yX4_nearestTo wsX4_nearestTo 2 44 G H0 [.ref (z 5), .int x1] (cNearest r w) := by
  refine Met.ofW (cc := cX4_nearestTo) (maxL := 7) (ret := (some .int)) (by decide) rfl ?_
  intro p_ e_ s m args below meth c s₁ B hml hv
  obtain ⟨rfl, rfl, hK⟩ := hv
  have hx := B.exec
  have hb := B.bytes
  have hr := B.returns
  have hts := atoms_spec (ws := wsX4_nearestTo) B.pre
  have hown : s.vm.findClass RX4 = some m.cls := findClass_of_methodNamed B.named
  have hlocks := B.notSynchronized
  have hinX4 : ∀ w ∈ wsX40, w ∈ wsX4_nearestTo := by decide +kernel
  have S0 : CallFix p_ m c cX4_nearestTo 7 s _ wsX4_nearestTo RX4 := ⟨hx, hb, hml, hown, hts⟩
  have hl := lv_entry ([.ref (z 5), .int x1]) (n := 7) (Nat.le_of_ble_eq_true rfl)
  rw [lg_entry_eq]
  generalize (lg_sl ([.ref (z 5), .int x1]) ++ List.replicate (7 - (lg_sl ([.ref (z 5), .int x1])).length) Slot.unset).toArray = ls at hl ⊢
  have hl : lv_has ls 7 [(0, .ref (z 5)), (1, .int x1)] := hl
  subst hw1
  refine lv_aload_n hx hb dX4_nearestTo_0 rfl (lv_at hl 0 rfl) ?_
  refine va_get (D := G.1) (ci := 4) (v := .ref (z 23)) (C := RX4) (T := TX4) (N := 6) hx hb hts hinX4 hown hK.1 hP 5 rfl rfl 0 (by decide) (hts (.fieldLink RX4 14 "Rotaforge$Rota" "holders" "LRotaforge$Row;") (by decide +kernel)) (fun _ h9 => h9) rfl dX4_nearestTo_1 ?_
  refine lv_iload_n hx hb dX4_nearestTo_4 rfl (lv_at hl 1 rfl) ?_
  refine lv_iconst (v := nI 1) hx hb dX4_nearestTo_5 (by decide +kernel) ?_
  refine lv_isub hx hb dX4_nearestTo_6 ?_
  refine g_callC (W.runV (C := RX5) (As := [.int ((nI w) - (nI 1))]) (rest := []) S0 (c_X5_at l G _ (z 23) (z 45) 42 (r 17) (by decide) (hP.sub (ws' := wRow1 G (z 23) (z 45) 42 (r 17)) [23, 45] rfl) ((nI w) - (nI 1))) (cwV 1 hts gX4_nearestTo_X5_at rfl rfl rfl (by decide +kernel) ⟨Nat.le_of_ble_eq_true rfl, Nat.le_of_ble_eq_true rfl⟩) (g_preV hK hP (q0 := 23) (ci := 5) (q := (RX5, TX5, 1)) rfl rfl) rfl rfl hl.1 rfl (lv_room (Nat.le_of_ble_eq_true rfl)) dX4_nearestTo_7 ⟨Nat.zero_le _, Nat.zero_le _⟩) ?_
  refine lv_istore_n (lv' := [(2, .int (rAt 42 (r 17) ((nI w) - (nI 1)))), (0, .ref (z 5)), (1, .int (nI w))]) hx hb dX4_nearestTo_10 rfl hl (by decide) rfl (fun ls hl => ?_)
  refine lv_iconst (v := (-1)) hx hb dX4_nearestTo_11 (by decide +kernel) ?_
  refine lv_istore_n (lv' := [(3, .int (-1)), (2, .int (rAt 42 (r 17) ((nI w) - (nI 1)))), (0, .ref (z 5)), (1, .int (nI w))]) hx hb dX4_nearestTo_12 rfl hl (by decide) rfl (fun ls hl => ?_)
  refine lv_iconst (v := (-1)) hx hb dX4_nearestTo_13 (by decide +kernel) ?_
  refine lv_istore (lv' := [(4, .int (-1)), (3, .int (-1)), (2, .int (rAt 42 (r 17) ((nI w) - (nI 1)))), (0, .ref (z 5)), (1, .int (nI w))]) hx hb dX4_nearestTo_14 hl (by decide) rfl (fun ls hl => ?_)
  refine lv_iconst (v := nI 0) hx hb dX4_nearestTo_16 (by decide +kernel) ?_
  refine lv_istore (lv' := [(5, .int (nI 0)), (4, .int (-1)), (3, .int (-1)), (2, .int (rAt 42 (r 17) ((nI w) - (nI 1)))), (0, .ref (z 5)), (1, .int (nI w))]) hx hb dX4_nearestTo_17 hl (by decide) rfl (fun ls hl => ?_)
  refine g_loop _ m 19 7 [] (6) (fun i => [(5, .int (nI i)), (4, .int ((itN i (cNT r w) (-1, -1)).2)), (3, .int ((itN i (cNT r w) (-1, -1)).1)), (2, .int (rAt 42 (r 17) ((nI w) - (nI 1)))), (0, .ref (z 5)), (1, .int (nI w))]) (fun i => True) (fun i hi19 hI ih19 ls hl => ?_) 0 (Nat.zero_le _) trivial ls ?_
  · have hl : lv_has ls 7 [(5, .int (nI i)), (4, .int ((itN i (cNT r w) (-1, -1)).2)), (3, .int ((itN i (cNT r w) (-1, -1)).1)), (2, .int (rAt 42 (r 17) ((nI w) - (nI 1)))), (0, .ref (z 5)), (1, .int (nI w))] := hl
    have hI : True := hI
    refine lv_iload hx hb dX4_nearestTo_19 (lv_at hl 0 rfl) ?_
    refine lv_bipush (v := nI 6) hx hb dX4_nearestTo_21 (by decide +kernel) ?_
    refine lv_icmp_ge (tgt := 61) hx hb dX4_nearestTo_23 (by decide) (fun c_1 => ?_) (fun c_1 => ?_)
    · have hex : 6 = i := by
        have h9 := (nI_leI (a := 6) (b := i) (by decide) (by omega)).mp c_1
        omega
      subst hex
      refine lv_iload_n hx hb dX4_nearestTo_61 rfl (lv_at hl 2 rfl) ?_
      have hq : ((itN 6 (cNT r w) (-1, -1)).1) = (cNearest r w) := by
        first | with_reducible rfl | with_reducible exact nI_add _ _ | (simp only [cNT, c_1, ↓reduceIte, Bool.false_eq_true, decide_true, decide_false, Bool.not_true, Bool.not_false, Bool.or_true, Bool.true_or, Bool.or_false, Bool.false_or]; done) | (simp only [cNT, c_1, ↓reduceIte, Bool.false_eq_true, decide_true, decide_false, Bool.not_true, Bool.not_false, Bool.or_true, Bool.true_or, Bool.or_false, Bool.false_or]; with_reducible rfl) | (simp only [cNT, c_1, ↓reduceIte, Bool.false_eq_true, decide_true, decide_false, Bool.not_true, Bool.not_false, Bool.or_true, Bool.true_or, Bool.or_false, Bool.false_or]; rfl) | (simp [b2i, cNT, c_1]; done) | rfl
      exact W.iret (v := (itN 6 (cNT r w) (-1, -1)).1) hx hb hr (fun t ht _ => g_ret hq ht) g_no dX4_nearestTo_62
    · have hlt : i < 6 := by
        have h9 := mt (nI_leI (a := 6) (b := i) (by decide) (by omega)).mpr c_1
        omega
      refine lv_aload_n hx hb dX4_nearestTo_26 rfl (lv_at hl 4 rfl) ?_
      refine lv_iload hx hb dX4_nearestTo_27 (lv_at hl 0 rfl) ?_
      refine lv_iload_n hx hb dX4_nearestTo_29 rfl (lv_at hl 5 rfl) ?_
      refine g_callC (W.runV (C := RX4) (As := [.int (nI i), .int (nI w)]) (rest := []) S0 (c_X4_nearness l G _ z r f hP (nI i) (nI w) w rfl hw2) (cwV 2 hts gX4_nearestTo_X4_nearness rfl rfl rfl (by decide +kernel) ⟨Nat.le_of_ble_eq_true rfl, Nat.le_of_ble_eq_true rfl⟩) (g_preV hK hP (q0 := 5) (ci := 4) (q := (RX4, TX4, 6)) rfl rfl) rfl rfl hl.1 rfl (lv_room (Nat.le_of_ble_eq_true rfl)) dX4_nearestTo_30 ⟨Nat.zero_le _, Nat.zero_le _⟩) ?_
      refine lv_istore (lv' := [(6, .int (cNear r (nI i) w)), (5, .int (nI i)), (4, .int ((itN i (cNT r w) (-1, -1)).2)), (3, .int ((itN i (cNT r w) (-1, -1)).1)), (2, .int (rAt 42 (r 17) ((nI w) - (nI 1)))), (0, .ref (z 5)), (1, .int (nI w))]) hx hb dX4_nearestTo_33 hl (by decide) rfl (fun ls hl => ?_)
      refine lv_iload hx hb dX4_nearestTo_35 (lv_at hl 1 rfl) ?_
      refine lv_iload_n hx hb dX4_nearestTo_37 rfl (lv_at hl 4 rfl) ?_
      refine lv_icmp_eq (tgt := 55) hx hb dX4_nearestTo_38 (by decide) (fun c_2 => ?_) (fun c_2 => ?_)
      · refine lv_iinc (v := (nI i) + nI 1) (lv' := [(5, .int ((nI i) + nI 1)), (6, .int (cNear r (nI i) w)), (4, .int ((itN i (cNT r w) (-1, -1)).2)), (3, .int ((itN i (cNT r w) (-1, -1)).1)), (2, .int (rAt 42 (r 17) ((nI w) - (nI 1)))), (0, .ref (z 5)), (1, .int (nI w))]) hx hb dX4_nearestTo_55 hl (k := 1) rfl (congrArg (fun q : Int32 => (nI i) + q) (by decide +kernel)) (by decide) rfl (fun ls hl => ?_)
        refine lv_goto (tgt := 19) hx hb dX4_nearestTo_58 (by decide) ?_
        exact ih19 _ (by omega) trivial (lv_cv (show lv_has ls 7 [(5, .int ((nI i) + nI 1)), (4, .int ((itN i (cNT r w) (-1, -1)).2)), (3, .int ((itN i (cNT r w) (-1, -1)).1)), (2, .int (rAt 42 (r 17) ((nI w) - (nI 1)))), (0, .ref (z 5)), (1, .int (nI w))] from lv_sub hl [0, 2, 3, 4, 5, 6] rfl) (gl_i (show (nI i) + nI 1 = nI (i + 1) by first | with_reducible rfl | with_reducible exact nI_add _ _ | (simp only [itN_s i, cNT, c_1, c_2, ↓reduceIte, Bool.false_eq_true, decide_true, decide_false, Bool.not_true, Bool.not_false, Bool.or_true, Bool.true_or, Bool.or_false, Bool.false_or]; done) | (simp only [itN_s i, cNT, c_1, c_2, ↓reduceIte, Bool.false_eq_true, decide_true, decide_false, Bool.not_true, Bool.not_false, Bool.or_true, Bool.true_or, Bool.or_false, Bool.false_or]; with_reducible rfl) | (simp only [itN_s i, cNT, c_1, c_2, ↓reduceIte, Bool.false_eq_true, decide_true, decide_false, Bool.not_true, Bool.not_false, Bool.or_true, Bool.true_or, Bool.or_false, Bool.false_or]; rfl) | (simp [b2i, itN_s i, cNT, c_1, c_2]; done) | rfl) (gl_i (show (itN i (cNT r w) (-1, -1)).2 = (itN (i + 1) (cNT r w) (-1, -1)).2 by first | with_reducible rfl | with_reducible exact nI_add _ _ | (simp only [itN_s i, cNT, c_1, c_2, ↓reduceIte, Bool.false_eq_true, decide_true, decide_false, Bool.not_true, Bool.not_false, Bool.or_true, Bool.true_or, Bool.or_false, Bool.false_or]; done) | (simp only [itN_s i, cNT, c_1, c_2, ↓reduceIte, Bool.false_eq_true, decide_true, decide_false, Bool.not_true, Bool.not_false, Bool.or_true, Bool.true_or, Bool.or_false, Bool.false_or]; with_reducible rfl) | (simp only [itN_s i, cNT, c_1, c_2, ↓reduceIte, Bool.false_eq_true, decide_true, decide_false, Bool.not_true, Bool.not_false, Bool.or_true, Bool.true_or, Bool.or_false, Bool.false_or]; rfl) | (simp [b2i, itN_s i, cNT, c_1, c_2]; done) | rfl) (gl_i (show (itN i (cNT r w) (-1, -1)).1 = (itN (i + 1) (cNT r w) (-1, -1)).1 by first | with_reducible rfl | with_reducible exact nI_add _ _ | (simp only [itN_s i, cNT, c_1, c_2, ↓reduceIte, Bool.false_eq_true, decide_true, decide_false, Bool.not_true, Bool.not_false, Bool.or_true, Bool.true_or, Bool.or_false, Bool.false_or]; done) | (simp only [itN_s i, cNT, c_1, c_2, ↓reduceIte, Bool.false_eq_true, decide_true, decide_false, Bool.not_true, Bool.not_false, Bool.or_true, Bool.true_or, Bool.or_false, Bool.false_or]; with_reducible rfl) | (simp only [itN_s i, cNT, c_1, c_2, ↓reduceIte, Bool.false_eq_true, decide_true, decide_false, Bool.not_true, Bool.not_false, Bool.or_true, Bool.true_or, Bool.or_false, Bool.false_or]; rfl) | (simp [b2i, itN_s i, cNT, c_1, c_2]; done) | rfl) (gl_s (gl_s (gl_s rfl)))))))
      · refine lv_iload hx hb dX4_nearestTo_41 (lv_at hl 0 rfl) ?_
        refine lv_iload hx hb dX4_nearestTo_43 (lv_at hl 2 rfl) ?_
        refine lv_icmp_le (tgt := 55) hx hb dX4_nearestTo_45 (by decide) (fun c_3 => ?_) (fun c_3 => ?_)
        · refine lv_iinc (v := (nI i) + nI 1) (lv' := [(5, .int ((nI i) + nI 1)), (6, .int (cNear r (nI i) w)), (4, .int ((itN i (cNT r w) (-1, -1)).2)), (3, .int ((itN i (cNT r w) (-1, -1)).1)), (2, .int (rAt 42 (r 17) ((nI w) - (nI 1)))), (0, .ref (z 5)), (1, .int (nI w))]) hx hb dX4_nearestTo_55 hl (k := 1) rfl (congrArg (fun q : Int32 => (nI i) + q) (by decide +kernel)) (by decide) rfl (fun ls hl => ?_)
          refine lv_goto (tgt := 19) hx hb dX4_nearestTo_58 (by decide) ?_
          exact ih19 _ (by omega) trivial (lv_cv (show lv_has ls 7 [(5, .int ((nI i) + nI 1)), (4, .int ((itN i (cNT r w) (-1, -1)).2)), (3, .int ((itN i (cNT r w) (-1, -1)).1)), (2, .int (rAt 42 (r 17) ((nI w) - (nI 1)))), (0, .ref (z 5)), (1, .int (nI w))] from lv_sub hl [0, 2, 3, 4, 5, 6] rfl) (gl_i (show (nI i) + nI 1 = nI (i + 1) by first | with_reducible rfl | with_reducible exact nI_add _ _ | (simp only [itN_s i, cNT, c_1, c_2, c_3, ↓reduceIte, Bool.false_eq_true, decide_true, decide_false, Bool.not_true, Bool.not_false, Bool.or_true, Bool.true_or, Bool.or_false, Bool.false_or]; done) | (simp only [itN_s i, cNT, c_1, c_2, c_3, ↓reduceIte, Bool.false_eq_true, decide_true, decide_false, Bool.not_true, Bool.not_false, Bool.or_true, Bool.true_or, Bool.or_false, Bool.false_or]; with_reducible rfl) | (simp only [itN_s i, cNT, c_1, c_2, c_3, ↓reduceIte, Bool.false_eq_true, decide_true, decide_false, Bool.not_true, Bool.not_false, Bool.or_true, Bool.true_or, Bool.or_false, Bool.false_or]; rfl) | (simp [b2i, itN_s i, cNT, c_1, c_2, c_3]; done) | rfl) (gl_i (show (itN i (cNT r w) (-1, -1)).2 = (itN (i + 1) (cNT r w) (-1, -1)).2 by first | with_reducible rfl | with_reducible exact nI_add _ _ | (simp only [itN_s i, cNT, c_1, c_2, c_3, ↓reduceIte, Bool.false_eq_true, decide_true, decide_false, Bool.not_true, Bool.not_false, Bool.or_true, Bool.true_or, Bool.or_false, Bool.false_or]; done) | (simp only [itN_s i, cNT, c_1, c_2, c_3, ↓reduceIte, Bool.false_eq_true, decide_true, decide_false, Bool.not_true, Bool.not_false, Bool.or_true, Bool.true_or, Bool.or_false, Bool.false_or]; with_reducible rfl) | (simp only [itN_s i, cNT, c_1, c_2, c_3, ↓reduceIte, Bool.false_eq_true, decide_true, decide_false, Bool.not_true, Bool.not_false, Bool.or_true, Bool.true_or, Bool.or_false, Bool.false_or]; rfl) | (simp [b2i, itN_s i, cNT, c_1, c_2, c_3]; done) | rfl) (gl_i (show (itN i (cNT r w) (-1, -1)).1 = (itN (i + 1) (cNT r w) (-1, -1)).1 by first | with_reducible rfl | with_reducible exact nI_add _ _ | (simp only [itN_s i, cNT, c_1, c_2, c_3, ↓reduceIte, Bool.false_eq_true, decide_true, decide_false, Bool.not_true, Bool.not_false, Bool.or_true, Bool.true_or, Bool.or_false, Bool.false_or]; done) | (simp only [itN_s i, cNT, c_1, c_2, c_3, ↓reduceIte, Bool.false_eq_true, decide_true, decide_false, Bool.not_true, Bool.not_false, Bool.or_true, Bool.true_or, Bool.or_false, Bool.false_or]; with_reducible rfl) | (simp only [itN_s i, cNT, c_1, c_2, c_3, ↓reduceIte, Bool.false_eq_true, decide_true, decide_false, Bool.not_true, Bool.not_false, Bool.or_true, Bool.true_or, Bool.or_false, Bool.false_or]; rfl) | (simp [b2i, itN_s i, cNT, c_1, c_2, c_3]; done) | rfl) (gl_s (gl_s (gl_s rfl)))))))
        · refine lv_iload hx hb dX4_nearestTo_48 (lv_at hl 1 rfl) ?_
          refine lv_istore_n (lv' := [(3, .int (nI i)), (6, .int (cNear r (nI i) w)), (5, .int (nI i)), (4, .int ((itN i (cNT r w) (-1, -1)).2)), (2, .int (rAt 42 (r 17) ((nI w) - (nI 1)))), (0, .ref (z 5)), (1, .int (nI w))]) hx hb dX4_nearestTo_50 rfl hl (by decide) rfl (fun ls hl => ?_)
          refine lv_iload hx hb dX4_nearestTo_51 (lv_at hl 1 rfl) ?_
          refine lv_istore (lv' := [(4, .int (cNear r (nI i) w)), (3, .int (nI i)), (6, .int (cNear r (nI i) w)), (5, .int (nI i)), (2, .int (rAt 42 (r 17) ((nI w) - (nI 1)))), (0, .ref (z 5)), (1, .int (nI w))]) hx hb dX4_nearestTo_53 hl (by decide) rfl (fun ls hl => ?_)
          refine lv_iinc (v := (nI i) + nI 1) (lv' := [(5, .int ((nI i) + nI 1)), (4, .int (cNear r (nI i) w)), (3, .int (nI i)), (6, .int (cNear r (nI i) w)), (2, .int (rAt 42 (r 17) ((nI w) - (nI 1)))), (0, .ref (z 5)), (1, .int (nI w))]) hx hb dX4_nearestTo_55 hl (k := 3) rfl (congrArg (fun q : Int32 => (nI i) + q) (by decide +kernel)) (by decide) rfl (fun ls hl => ?_)
          refine lv_goto (tgt := 19) hx hb dX4_nearestTo_58 (by decide) ?_
          exact ih19 _ (by omega) trivial (lv_cv (show lv_has ls 7 [(5, .int ((nI i) + nI 1)), (4, .int (cNear r (nI i) w)), (3, .int (nI i)), (2, .int (rAt 42 (r 17) ((nI w) - (nI 1)))), (0, .ref (z 5)), (1, .int (nI w))] from lv_sub hl [0, 1, 2, 4, 5, 6] rfl) (gl_i (show (nI i) + nI 1 = nI (i + 1) by first | with_reducible rfl | with_reducible exact nI_add _ _ | (simp only [itN_s i, cNT, c_1, c_2, c_3, ↓reduceIte, Bool.false_eq_true, decide_true, decide_false, Bool.not_true, Bool.not_false, Bool.or_true, Bool.true_or, Bool.or_false, Bool.false_or]; done) | (simp only [itN_s i, cNT, c_1, c_2, c_3, ↓reduceIte, Bool.false_eq_true, decide_true, decide_false, Bool.not_true, Bool.not_false, Bool.or_true, Bool.true_or, Bool.or_false, Bool.false_or]; with_reducible rfl) | (simp only [itN_s i, cNT, c_1, c_2, c_3, ↓reduceIte, Bool.false_eq_true, decide_true, decide_false, Bool.not_true, Bool.not_false, Bool.or_true, Bool.true_or, Bool.or_false, Bool.false_or]; rfl) | (simp [b2i, itN_s i, cNT, c_1, c_2, c_3]; done) | rfl) (gl_i (show cNear r (nI i) w = (itN (i + 1) (cNT r w) (-1, -1)).2 by first | with_reducible rfl | with_reducible exact nI_add _ _ | (simp only [itN_s i, cNT, c_1, c_2, c_3, ↓reduceIte, Bool.false_eq_true, decide_true, decide_false, Bool.not_true, Bool.not_false, Bool.or_true, Bool.true_or, Bool.or_false, Bool.false_or]; done) | (simp only [itN_s i, cNT, c_1, c_2, c_3, ↓reduceIte, Bool.false_eq_true, decide_true, decide_false, Bool.not_true, Bool.not_false, Bool.or_true, Bool.true_or, Bool.or_false, Bool.false_or]; with_reducible rfl) | (simp only [itN_s i, cNT, c_1, c_2, c_3, ↓reduceIte, Bool.false_eq_true, decide_true, decide_false, Bool.not_true, Bool.not_false, Bool.or_true, Bool.true_or, Bool.or_false, Bool.false_or]; rfl) | (simp [b2i, itN_s i, cNT, c_1, c_2, c_3]; done) | rfl) (gl_i (show nI i = (itN (i + 1) (cNT r w) (-1, -1)).1 by first | with_reducible rfl | with_reducible exact nI_add _ _ | (simp only [itN_s i, cNT, c_1, c_2, c_3, ↓reduceIte, Bool.false_eq_true, decide_true, decide_false, Bool.not_true, Bool.not_false, Bool.or_true, Bool.true_or, Bool.or_false, Bool.false_or]; done) | (simp only [itN_s i, cNT, c_1, c_2, c_3, ↓reduceIte, Bool.false_eq_true, decide_true, decide_false, Bool.not_true, Bool.not_false, Bool.or_true, Bool.true_or, Bool.or_false, Bool.false_or]; with_reducible rfl) | (simp only [itN_s i, cNT, c_1, c_2, c_3, ↓reduceIte, Bool.false_eq_true, decide_true, decide_false, Bool.not_true, Bool.not_false, Bool.or_true, Bool.true_or, Bool.or_false, Bool.false_or]; rfl) | (simp [b2i, itN_s i, cNT, c_1, c_2, c_3]; done) | rfl) (gl_s (gl_s (gl_s rfl)))))))
  · exact (lv_cv (show lv_has ls 7 [(5, .int (nI 0)), (4, .int (-1)), (3, .int (-1)), (2, .int (rAt 42 (r 17) ((nI w) - (nI 1)))), (0, .ref (z 5)), (1, .int (nI w))] from lv_sub hl [0, 1, 2, 3, 4, 5] rfl) (gl_s (gl_i (show (-1) = (itN 0 (cNT r w) (-1, -1)).2 by first | with_reducible rfl | with_reducible exact nI_add _ _ | (simp only [cNT, ↓reduceIte, Bool.false_eq_true, decide_true, decide_false, Bool.not_true, Bool.not_false, Bool.or_true, Bool.true_or, Bool.or_false, Bool.false_or]; done) | (simp only [cNT, ↓reduceIte, Bool.false_eq_true, decide_true, decide_false, Bool.not_true, Bool.not_false, Bool.or_true, Bool.true_or, Bool.or_false, Bool.false_or]; with_reducible rfl) | (simp only [cNT, ↓reduceIte, Bool.false_eq_true, decide_true, decide_false, Bool.not_true, Bool.not_false, Bool.or_true, Bool.true_or, Bool.or_false, Bool.false_or]; rfl) | (simp [b2i, cNT]; done) | rfl) (gl_i (show (-1) = (itN 0 (cNT r w) (-1, -1)).1 by first | with_reducible rfl | with_reducible exact nI_add _ _ | (simp only [cNT, ↓reduceIte, Bool.false_eq_true, decide_true, decide_false, Bool.not_true, Bool.not_false, Bool.or_true, Bool.true_or, Bool.or_false, Bool.false_or]; done) | (simp only [cNT, ↓reduceIte, Bool.false_eq_true, decide_true, decide_false, Bool.not_true, Bool.not_false, Bool.or_true, Bool.true_or, Bool.or_false, Bool.false_or]; with_reducible rfl) | (simp only [cNT, ↓reduceIte, Bool.false_eq_true, decide_true, decide_false, Bool.not_true, Bool.not_false, Bool.or_true, Bool.true_or, Bool.or_false, Bool.false_or]; rfl) | (simp [b2i, cNT]; done) | rfl) (gl_s (gl_s (gl_s rfl)))))))

set_option maxHeartbeats 4000000 in
set_option maxRecDepth 100000 in
theorem c_X4_dutyAt (l : Launch) (G : gG) (H0 : Heap) (z : Nat → Nat) (r : Nat → Nat → Int32) (f : Nat → Int32) (hP : va_P G.1 vwCl (wRF G z r f) H0) (x1 : Int32) : gMr l yX4_dutyAt wsX4_dutyAt 2 44 G H0 [.ref (z 5), .int x1] (cDuty r x1) := by
  refine Met.ofW (cc := cX4_dutyAt) (maxL := 6) (ret := (some .int)) (by decide) rfl ?_
  intro p_ e_ s m args below meth c s₁ B hml hv
  obtain ⟨rfl, rfl, hK⟩ := hv
  have hx := B.exec
  have hb := B.bytes
  have hr := B.returns
  have hts := atoms_spec (ws := wsX4_dutyAt) B.pre
  have hown : s.vm.findClass RX4 = some m.cls := findClass_of_methodNamed B.named
  have hlocks := B.notSynchronized
  have hinX4 : ∀ w ∈ wsX40, w ∈ wsX4_dutyAt := by decide +kernel
  have S0 : CallFix p_ m c cX4_dutyAt 6 s _ wsX4_dutyAt RX4 := ⟨hx, hb, hml, hown, hts⟩
  have hl := lv_entry ([.ref (z 5), .int x1]) (n := 6) (Nat.le_of_ble_eq_true rfl)
  rw [lg_entry_eq]
  generalize (lg_sl ([.ref (z 5), .int x1]) ++ List.replicate (6 - (lg_sl ([.ref (z 5), .int x1])).length) Slot.unset).toArray = ls at hl ⊢
  have hl : lv_has ls 6 [(0, .ref (z 5)), (1, .int x1)] := hl
  refine lv_aload_n hx hb dX4_dutyAt_0 rfl (lv_at hl 0 rfl) ?_
  refine va_get (D := G.1) (ci := 4) (v := .ref (z 23)) (C := RX4) (T := TX4) (N := 6) hx hb hts hinX4 hown hK.1 hP 5 rfl rfl 0 (by decide) (hts (.fieldLink RX4 14 "Rotaforge$Rota" "holders" "LRotaforge$Row;") (by decide +kernel)) (fun _ h9 => h9) rfl dX4_dutyAt_1 ?_
  refine lv_iload_n hx hb dX4_dutyAt_4 rfl (lv_at hl 1 rfl) ?_
  refine lv_bipush (v := nI 14) hx hb dX4_dutyAt_5 (by decide +kernel) ?_
  refine lv_idiv hx hb dX4_dutyAt_7 (by decide) ?_
  refine g_callC (W.runV (C := RX5) (As := [.int (x1 / (nI 14))]) (rest := []) S0 (c_X5_at l G _ (z 23) (z 45) 42 (r 17) (by decide) (hP.sub (ws' := wRow1 G (z 23) (z 45) 42 (r 17)) [23, 45] rfl) (x1 / (nI 14))) (cwV 1 hts gX4_dutyAt_X5_at rfl rfl rfl (by decide +kernel) ⟨Nat.le_of_ble_eq_true rfl, Nat.le_of_ble_eq_true rfl⟩) (g_preV hK hP (q0 := 23) (ci := 5) (q := (RX5, TX5, 1)) rfl rfl) rfl rfl hl.1 rfl (lv_room (Nat.le_of_ble_eq_true rfl)) dX4_dutyAt_8 ⟨Nat.zero_le _, Nat.zero_le _⟩) ?_
  refine lv_istore_n (lv' := [(2, .int (rAt 42 (r 17) (x1 / (nI 14)))), (0, .ref (z 5)), (1, .int x1)]) hx hb dX4_dutyAt_11 rfl hl (by decide) rfl (fun ls hl => ?_)
  refine lv_aload_n hx hb dX4_dutyAt_12 rfl (lv_at hl 1 rfl) ?_
  refine lv_iload_n hx hb dX4_dutyAt_13 rfl (lv_at hl 0 rfl) ?_
  refine lv_iload_n hx hb dX4_dutyAt_14 rfl (lv_at hl 2 rfl) ?_
  refine g_callC (W.runV (C := RX4) (As := [.int (rAt 42 (r 17) (x1 / (nI 14))), .int x1]) (rest := []) S0 (c_X4_isResting l G _ z r f hP (rAt 42 (r 17) (x1 / (nI 14))) x1) (cwV 2 hts gX4_dutyAt_X4_isResting rfl rfl rfl (by decide +kernel) ⟨Nat.le_of_ble_eq_true rfl, Nat.le_of_ble_eq_true rfl⟩) (g_preV hK hP (q0 := 5) (ci := 4) (q := (RX4, TX4, 6)) rfl rfl) rfl rfl hl.1 rfl (lv_room (Nat.le_of_ble_eq_true rfl)) dX4_dutyAt_15 ⟨Nat.zero_le _, Nat.zero_le _⟩) ?_
  refine lv_if_ne (tgt := 23) hx hb dX4_dutyAt_18 (by decide) (fun c_1 => ?_) (fun c_1 => ?_)
  · have c_1 := b2i_t c_1
    refine lv_iconst (v := (-1)) hx hb dX4_dutyAt_23 (by decide +kernel) ?_
    refine lv_istore_n (lv' := [(3, .int (-1)), (2, .int (rAt 42 (r 17) (x1 / (nI 14)))), (0, .ref (z 5)), (1, .int x1)]) hx hb dX4_dutyAt_24 rfl hl (by decide) rfl (fun ls hl => ?_)
    refine lv_iconst (v := (-1)) hx hb dX4_dutyAt_25 (by decide +kernel) ?_
    refine lv_istore (lv' := [(4, .int (-1)), (3, .int (-1)), (2, .int (rAt 42 (r 17) (x1 / (nI 14)))), (0, .ref (z 5)), (1, .int x1)]) hx hb dX4_dutyAt_26 hl (by decide) rfl (fun ls hl => ?_)
    refine lv_iconst (v := nI 0) hx hb dX4_dutyAt_28 (by decide +kernel) ?_
    refine lv_istore (lv' := [(5, .int (nI 0)), (4, .int (-1)), (3, .int (-1)), (2, .int (rAt 42 (r 17) (x1 / (nI 14)))), (0, .ref (z 5)), (1, .int x1)]) hx hb dX4_dutyAt_29 hl (by decide) rfl (fun ls hl => ?_)
    refine g_loop _ m 31 6 [] (6) (fun i => [(5, .int (nI i)), (4, .int ((itN i (cDT r x1) (-1, -1)).2)), (3, .int ((itN i (cDT r x1) (-1, -1)).1)), (2, .int (rAt 42 (r 17) (x1 / (nI 14)))), (0, .ref (z 5)), (1, .int x1)]) (fun i => True) (fun i hi31 hI ih31 ls hl => ?_) 0 (Nat.zero_le _) trivial ls ?_
    · have hl : lv_has ls 6 [(5, .int (nI i)), (4, .int ((itN i (cDT r x1) (-1, -1)).2)), (3, .int ((itN i (cDT r x1) (-1, -1)).1)), (2, .int (rAt 42 (r 17) (x1 / (nI 14)))), (0, .ref (z 5)), (1, .int x1)] := hl
      have hI : True := hI
      refine lv_iload hx hb dX4_dutyAt_31 (lv_at hl 0 rfl) ?_
      refine lv_bipush (v := nI 6) hx hb dX4_dutyAt_33 (by decide +kernel) ?_
      refine lv_icmp_ge (tgt := 82) hx hb dX4_dutyAt_35 (by decide) (fun c_2 => ?_) (fun c_2 => ?_)
      · have hex : 6 = i := by
          have h9 := (nI_leI (a := 6) (b := i) (by decide) (by omega)).mp c_2
          omega
        subst hex
        refine lv_iload_n hx hb dX4_dutyAt_82 rfl (lv_at hl 2 rfl) ?_
        have hq : ((itN 6 (cDT r x1) (-1, -1)).1) = (cDuty r x1) := by
          first | with_reducible rfl | with_reducible exact nI_add _ _ | (simp only [cDT, cDuty, c_1, c_2, ↓reduceIte, Bool.false_eq_true, decide_true, decide_false, Bool.not_true, Bool.not_false, Bool.or_true, Bool.true_or, Bool.or_false, Bool.false_or]; done) | (simp only [cDT, cDuty, c_1, c_2, ↓reduceIte, Bool.false_eq_true, decide_true, decide_false, Bool.not_true, Bool.not_false, Bool.or_true, Bool.true_or, Bool.or_false, Bool.false_or]; with_reducible rfl) | (simp only [cDT, cDuty, c_1, c_2, ↓reduceIte, Bool.false_eq_true, decide_true, decide_false, Bool.not_true, Bool.not_false, Bool.or_true, Bool.true_or, Bool.or_false, Bool.false_or]; rfl) | (simp [b2i, cDT, cDuty, c_1, c_2]; done) | rfl
        exact W.iret (v := (itN 6 (cDT r x1) (-1, -1)).1) hx hb hr (fun t ht _ => g_ret hq ht) g_no dX4_dutyAt_83
      · have hlt : i < 6 := by
          have h9 := mt (nI_leI (a := 6) (b := i) (by decide) (by omega)).mpr c_2
          omega
        refine lv_aload_n hx hb dX4_dutyAt_38 rfl (lv_at hl 4 rfl) ?_
        refine lv_iload hx hb dX4_dutyAt_39 (lv_at hl 0 rfl) ?_
        refine lv_iload_n hx hb dX4_dutyAt_41 rfl (lv_at hl 5 rfl) ?_
        refine g_callC (W.runV (C := RX4) (As := [.int (nI i), .int x1]) (rest := []) S0 (c_X4_isResting l G _ z r f hP (nI i) x1) (cwV 2 hts gX4_dutyAt_X4_isResting rfl rfl rfl (by decide +kernel) ⟨Nat.le_of_ble_eq_true rfl, Nat.le_of_ble_eq_true rfl⟩) (g_preV hK hP (q0 := 5) (ci := 4) (q := (RX4, TX4, 6)) rfl rfl) rfl rfl hl.1 rfl (lv_room (Nat.le_of_ble_eq_true rfl)) dX4_dutyAt_42 ⟨Nat.zero_le _, Nat.zero_le _⟩) ?_
        refine lv_if_ne (tgt := 76) hx hb dX4_dutyAt_45 (by decide) (fun c_3 => ?_) (fun c_3 => ?_)
        · have c_3 := b2i_t c_3
          refine lv_iinc (v := (nI i) + nI 1) (lv' := [(5, .int ((nI i) + nI 1)), (4, .int ((itN i (cDT r x1) (-1, -1)).2)), (3, .int ((itN i (cDT r x1) (-1, -1)).1)), (2, .int (rAt 42 (r 17) (x1 / (nI 14)))), (0, .ref (z 5)), (1, .int x1)]) hx hb dX4_dutyAt_76 hl (k := 0) rfl (congrArg (fun q : Int32 => (nI i) + q) (by decide +kernel)) (by decide) rfl (fun ls hl => ?_)
          refine lv_goto (tgt := 31) hx hb dX4_dutyAt_79 (by decide) ?_
          exact ih31 _ (by omega) trivial (lv_cv (show lv_has ls 6 [(5, .int ((nI i) + nI 1)), (4, .int ((itN i (cDT r x1) (-1, -1)).2)), (3, .int ((itN i (cDT r x1) (-1, -1)).1)), (2, .int (rAt 42 (r 17) (x1 / (nI 14)))), (0, .ref (z 5)), (1, .int x1)] from lv_sub hl [0, 1, 2, 3, 4, 5] rfl) (gl_i (show (nI i) + nI 1 = nI (i + 1) by first | with_reducible rfl | with_reducible exact nI_add _ _ | (simp only [itN_s i, cDT, cDuty, c_1, c_2, c_3, ↓reduceIte, Bool.false_eq_true, decide_true, decide_false, Bool.not_true, Bool.not_false, Bool.or_true, Bool.true_or, Bool.or_false, Bool.false_or]; done) | (simp only [itN_s i, cDT, cDuty, c_1, c_2, c_3, ↓reduceIte, Bool.false_eq_true, decide_true, decide_false, Bool.not_true, Bool.not_false, Bool.or_true, Bool.true_or, Bool.or_false, Bool.false_or]; with_reducible rfl) | (simp only [itN_s i, cDT, cDuty, c_1, c_2, c_3, ↓reduceIte, Bool.false_eq_true, decide_true, decide_false, Bool.not_true, Bool.not_false, Bool.or_true, Bool.true_or, Bool.or_false, Bool.false_or]; rfl) | (simp [b2i, itN_s i, cDT, cDuty, c_1, c_2, c_3]; done) | rfl) (gl_i (show (itN i (cDT r x1) (-1, -1)).2 = (itN (i + 1) (cDT r x1) (-1, -1)).2 by first | with_reducible rfl | with_reducible exact nI_add _ _ | (simp only [itN_s i, cDT, cDuty, c_1, c_2, c_3, ↓reduceIte, Bool.false_eq_true, decide_true, decide_false, Bool.not_true, Bool.not_false, Bool.or_true, Bool.true_or, Bool.or_false, Bool.false_or]; done) | (simp only [itN_s i, cDT, cDuty, c_1, c_2, c_3, ↓reduceIte, Bool.false_eq_true, decide_true, decide_false, Bool.not_true, Bool.not_false, Bool.or_true, Bool.true_or, Bool.or_false, Bool.false_or]; with_reducible rfl) | (simp only [itN_s i, cDT, cDuty, c_1, c_2, c_3, ↓reduceIte, Bool.false_eq_true, decide_true, decide_false, Bool.not_true, Bool.not_false, Bool.or_true, Bool.true_or, Bool.or_false, Bool.false_or]; rfl) | (simp [b2i, itN_s i, cDT, cDuty, c_1, c_2, c_3]; done) | rfl) (gl_i (show (itN i (cDT r x1) (-1, -1)).1 = (itN (i + 1) (cDT r x1) (-1, -1)).1 by first | with_reducible rfl | with_reducible exact nI_add _ _ | (simp only [itN_s i, cDT, cDuty, c_1, c_2, c_3, ↓reduceIte, Bool.false_eq_true, decide_true, decide_false, Bool.not_true, Bool.not_false, Bool.or_true, Bool.true_or, Bool.or_false, Bool.false_or]; done) | (simp only [itN_s i, cDT, cDuty, c_1, c_2, c_3, ↓reduceIte, Bool.false_eq_true, decide_true, decide_false, Bool.not_true, Bool.not_false, Bool.or_true, Bool.true_or, Bool.or_false, Bool.false_or]; with_reducible rfl) | (simp only [itN_s i, cDT, cDuty, c_1, c_2, c_3, ↓reduceIte, Bool.false_eq_true, decide_true, decide_false, Bool.not_true, Bool.not_false, Bool.or_true, Bool.true_or, Bool.or_false, Bool.false_or]; rfl) | (simp [b2i, itN_s i, cDT, cDuty, c_1, c_2, c_3]; done) | rfl) (gl_s (gl_s (gl_s rfl)))))))
        · have c_3 := b2i_f c_3
          refine lv_aload_n hx hb dX4_dutyAt_48 rfl (lv_at hl 4 rfl) ?_
          refine va_get (D := G.1) (ci := 4) (v := .ref (z 24)) (C := RX4) (T := TX4) (N := 6) hx hb hts hinX4 hown hK.1 hP 5 rfl rfl 1 (by decide) (hts (.fieldLink RX4 23 "Rotaforge$Rota" "blotCounts" "LRotaforge$Row;") (by decide +kernel)) (fun _ h9 => h9) rfl dX4_dutyAt_49 ?_
          refine lv_iload hx hb dX4_dutyAt_52 (lv_at hl 0 rfl) ?_
          refine g_callC (W.runV (C := RX5) (As := [.int (nI i)]) (rest := []) S0 (c_X5_at l G _ (z 24) (z 46) 6 (r 18) (by decide) (hP.sub (ws' := wRow1 G (z 24) (z 46) 6 (r 18)) [24, 46] rfl) (nI i)) (cwV 1 hts gX4_dutyAt_X5_at rfl rfl rfl (by decide +kernel) ⟨Nat.le_of_ble_eq_true rfl, Nat.le_of_ble_eq_true rfl⟩) (g_preV hK hP (q0 := 24) (ci := 5) (q := (RX5, TX5, 1)) rfl rfl) rfl rfl hl.1 rfl (lv_room (Nat.le_of_ble_eq_true rfl)) dX4_dutyAt_54 ⟨Nat.zero_le _, Nat.zero_le _⟩) ?_
          refine lv_iload hx hb dX4_dutyAt_57 (lv_at hl 1 rfl) ?_
          refine lv_icmp_le (tgt := 76) hx hb dX4_dutyAt_59 (by decide) (fun c_4 => ?_) (fun c_4 => ?_)
          · refine lv_iinc (v := (nI i) + nI 1) (lv' := [(5, .int ((nI i) + nI 1)), (4, .int ((itN i (cDT r x1) (-1, -1)).2)), (3, .int ((itN i (cDT r x1) (-1, -1)).1)), (2, .int (rAt 42 (r 17) (x1 / (nI 14)))), (0, .ref (z 5)), (1, .int x1)]) hx hb dX4_dutyAt_76 hl (k := 0) rfl (congrArg (fun q : Int32 => (nI i) + q) (by decide +kernel)) (by decide) rfl (fun ls hl => ?_)
            refine lv_goto (tgt := 31) hx hb dX4_dutyAt_79 (by decide) ?_
            exact ih31 _ (by omega) trivial (lv_cv (show lv_has ls 6 [(5, .int ((nI i) + nI 1)), (4, .int ((itN i (cDT r x1) (-1, -1)).2)), (3, .int ((itN i (cDT r x1) (-1, -1)).1)), (2, .int (rAt 42 (r 17) (x1 / (nI 14)))), (0, .ref (z 5)), (1, .int x1)] from lv_sub hl [0, 1, 2, 3, 4, 5] rfl) (gl_i (show (nI i) + nI 1 = nI (i + 1) by first | with_reducible rfl | with_reducible exact nI_add _ _ | (simp only [itN_s i, cDT, cDuty, c_1, c_2, c_3, c_4, ↓reduceIte, Bool.false_eq_true, decide_true, decide_false, Bool.not_true, Bool.not_false, Bool.or_true, Bool.true_or, Bool.or_false, Bool.false_or]; done) | (simp only [itN_s i, cDT, cDuty, c_1, c_2, c_3, c_4, ↓reduceIte, Bool.false_eq_true, decide_true, decide_false, Bool.not_true, Bool.not_false, Bool.or_true, Bool.true_or, Bool.or_false, Bool.false_or]; with_reducible rfl) | (simp only [itN_s i, cDT, cDuty, c_1, c_2, c_3, c_4, ↓reduceIte, Bool.false_eq_true, decide_true, decide_false, Bool.not_true, Bool.not_false, Bool.or_true, Bool.true_or, Bool.or_false, Bool.false_or]; rfl) | (simp [b2i, itN_s i, cDT, cDuty, c_1, c_2, c_3, c_4]; done) | rfl) (gl_i (show (itN i (cDT r x1) (-1, -1)).2 = (itN (i + 1) (cDT r x1) (-1, -1)).2 by first | with_reducible rfl | with_reducible exact nI_add _ _ | (simp only [itN_s i, cDT, cDuty, c_1, c_2, c_3, c_4, ↓reduceIte, Bool.false_eq_true, decide_true, decide_false, Bool.not_true, Bool.not_false, Bool.or_true, Bool.true_or, Bool.or_false, Bool.false_or]; done) | (simp only [itN_s i, cDT, cDuty, c_1, c_2, c_3, c_4, ↓reduceIte, Bool.false_eq_true, decide_true, decide_false, Bool.not_true, Bool.not_false, Bool.or_true, Bool.true_or, Bool.or_false, Bool.false_or]; with_reducible rfl) | (simp only [itN_s i, cDT, cDuty, c_1, c_2, c_3, c_4, ↓reduceIte, Bool.false_eq_true, decide_true, decide_false, Bool.not_true, Bool.not_false, Bool.or_true, Bool.true_or, Bool.or_false, Bool.false_or]; rfl) | (simp [b2i, itN_s i, cDT, cDuty, c_1, c_2, c_3, c_4]; done) | rfl) (gl_i (show (itN i (cDT r x1) (-1, -1)).1 = (itN (i + 1) (cDT r x1) (-1, -1)).1 by first | with_reducible rfl | with_reducible exact nI_add _ _ | (simp only [itN_s i, cDT, cDuty, c_1, c_2, c_3, c_4, ↓reduceIte, Bool.false_eq_true, decide_true, decide_false, Bool.not_true, Bool.not_false, Bool.or_true, Bool.true_or, Bool.or_false, Bool.false_or]; done) | (simp only [itN_s i, cDT, cDuty, c_1, c_2, c_3, c_4, ↓reduceIte, Bool.false_eq_true, decide_true, decide_false, Bool.not_true, Bool.not_false, Bool.or_true, Bool.true_or, Bool.or_false, Bool.false_or]; with_reducible rfl) | (simp only [itN_s i, cDT, cDuty, c_1, c_2, c_3, c_4, ↓reduceIte, Bool.false_eq_true, decide_true, decide_false, Bool.not_true, Bool.not_false, Bool.or_true, Bool.true_or, Bool.or_false, Bool.false_or]; rfl) | (simp [b2i, itN_s i, cDT, cDuty, c_1, c_2, c_3, c_4]; done) | rfl) (gl_s (gl_s (gl_s rfl)))))))
          · refine lv_iload hx hb dX4_dutyAt_62 (lv_at hl 0 rfl) ?_
            refine lv_istore_n (lv' := [(3, .int (nI i)), (5, .int (nI i)), (4, .int ((itN i (cDT r x1) (-1, -1)).2)), (2, .int (rAt 42 (r 17) (x1 / (nI 14)))), (0, .ref (z 5)), (1, .int x1)]) hx hb dX4_dutyAt_64 rfl hl (by decide) rfl (fun ls hl => ?_)
            refine lv_aload_n hx hb dX4_dutyAt_65 rfl (lv_at hl 4 rfl) ?_
            refine va_get (D := G.1) (ci := 4) (v := .ref (z 24)) (C := RX4) (T := TX4) (N := 6) hx hb hts hinX4 hown hK.1 hP 5 rfl rfl 1 (by decide) (hts (.fieldLink RX4 23 "Rotaforge$Rota" "blotCounts" "LRotaforge$Row;") (by decide +kernel)) (fun _ h9 => h9) rfl dX4_dutyAt_66 ?_
            refine lv_iload hx hb dX4_dutyAt_69 (lv_at hl 1 rfl) ?_
            refine g_callC (W.runV (C := RX5) (As := [.int (nI i)]) (rest := []) S0 (c_X5_at l G _ (z 24) (z 46) 6 (r 18) (by decide) (hP.sub (ws' := wRow1 G (z 24) (z 46) 6 (r 18)) [24, 46] rfl) (nI i)) (cwV 1 hts gX4_dutyAt_X5_at rfl rfl rfl (by decide +kernel) ⟨Nat.le_of_ble_eq_true rfl, Nat.le_of_ble_eq_true rfl⟩) (g_preV hK hP (q0 := 24) (ci := 5) (q := (RX5, TX5, 1)) rfl rfl) rfl rfl hl.1 rfl (lv_room (Nat.le_of_ble_eq_true rfl)) dX4_dutyAt_71 ⟨Nat.zero_le _, Nat.zero_le _⟩) ?_
            refine lv_istore (lv' := [(4, .int (rAt 6 (r 18) (nI i))), (3, .int (nI i)), (5, .int (nI i)), (2, .int (rAt 42 (r 17) (x1 / (nI 14)))), (0, .ref (z 5)), (1, .int x1)]) hx hb dX4_dutyAt_74 hl (by decide) rfl (fun ls hl => ?_)
            refine lv_iinc (v := (nI i) + nI 1) (lv' := [(5, .int ((nI i) + nI 1)), (4, .int (rAt 6 (r 18) (nI i))), (3, .int (nI i)), (2, .int (rAt 42 (r 17) (x1 / (nI 14)))), (0, .ref (z 5)), (1, .int x1)]) hx hb dX4_dutyAt_76 hl (k := 2) rfl (congrArg (fun q : Int32 => (nI i) + q) (by decide +kernel)) (by decide) rfl (fun ls hl => ?_)
            refine lv_goto (tgt := 31) hx hb dX4_dutyAt_79 (by decide) ?_
            exact ih31 _ (by omega) trivial (lv_cv (show lv_has ls 6 [(5, .int ((nI i) + nI 1)), (4, .int (rAt 6 (r 18) (nI i))), (3, .int (nI i)), (2, .int (rAt 42 (r 17) (x1 / (nI 14)))), (0, .ref (z 5)), (1, .int x1)] from lv_sub hl [0, 1, 2, 3, 4, 5] rfl) (gl_i (show (nI i) + nI 1 = nI (i + 1) by first | with_reducible rfl | with_reducible exact nI_add _ _ | (simp only [itN_s i, cDT, cDuty, c_1, c_2, c_3, c_4, ↓reduceIte, Bool.false_eq_true, decide_true, decide_false, Bool.not_true, Bool.not_false, Bool.or_true, Bool.true_or, Bool.or_false, Bool.false_or]; done) | (simp only [itN_s i, cDT, cDuty, c_1, c_2, c_3, c_4, ↓reduceIte, Bool.false_eq_true, decide_true, decide_false, Bool.not_true, Bool.not_false, Bool.or_true, Bool.true_or, Bool.or_false, Bool.false_or]; with_reducible rfl) | (simp only [itN_s i, cDT, cDuty, c_1, c_2, c_3, c_4, ↓reduceIte, Bool.false_eq_true, decide_true, decide_false, Bool.not_true, Bool.not_false, Bool.or_true, Bool.true_or, Bool.or_false, Bool.false_or]; rfl) | (simp [b2i, itN_s i, cDT, cDuty, c_1, c_2, c_3, c_4]; done) | rfl) (gl_i (show rAt 6 (r 18) (nI i) = (itN (i + 1) (cDT r x1) (-1, -1)).2 by first | with_reducible rfl | with_reducible exact nI_add _ _ | (simp only [itN_s i, cDT, cDuty, c_1, c_2, c_3, c_4, ↓reduceIte, Bool.false_eq_true, decide_true, decide_false, Bool.not_true, Bool.not_false, Bool.or_true, Bool.true_or, Bool.or_false, Bool.false_or]; done) | (simp only [itN_s i, cDT, cDuty, c_1, c_2, c_3, c_4, ↓reduceIte, Bool.false_eq_true, decide_true, decide_false, Bool.not_true, Bool.not_false, Bool.or_true, Bool.true_or, Bool.or_false, Bool.false_or]; with_reducible rfl) | (simp only [itN_s i, cDT, cDuty, c_1, c_2, c_3, c_4, ↓reduceIte, Bool.false_eq_true, decide_true, decide_false, Bool.not_true, Bool.not_false, Bool.or_true, Bool.true_or, Bool.or_false, Bool.false_or]; rfl) | (simp [b2i, itN_s i, cDT, cDuty, c_1, c_2, c_3, c_4]; done) | rfl) (gl_i (show nI i = (itN (i + 1) (cDT r x1) (-1, -1)).1 by first | with_reducible rfl | with_reducible exact nI_add _ _ | (simp only [itN_s i, cDT, cDuty, c_1, c_2, c_3, c_4, ↓reduceIte, Bool.false_eq_true, decide_true, decide_false, Bool.not_true, Bool.not_false, Bool.or_true, Bool.true_or, Bool.or_false, Bool.false_or]; done) | (simp only [itN_s i, cDT, cDuty, c_1, c_2, c_3, c_4, ↓reduceIte, Bool.false_eq_true, decide_true, decide_false, Bool.not_true, Bool.not_false, Bool.or_true, Bool.true_or, Bool.or_false, Bool.false_or]; with_reducible rfl) | (simp only [itN_s i, cDT, cDuty, c_1, c_2, c_3, c_4, ↓reduceIte, Bool.false_eq_true, decide_true, decide_false, Bool.not_true, Bool.not_false, Bool.or_true, Bool.true_or, Bool.or_false, Bool.false_or]; rfl) | (simp [b2i, itN_s i, cDT, cDuty, c_1, c_2, c_3, c_4]; done) | rfl) (gl_s (gl_s (gl_s rfl)))))))
    · exact (lv_cv (show lv_has ls 6 [(5, .int (nI 0)), (4, .int (-1)), (3, .int (-1)), (2, .int (rAt 42 (r 17) (x1 / (nI 14)))), (0, .ref (z 5)), (1, .int x1)] from lv_sub hl [0, 1, 2, 3, 4, 5] rfl) (gl_s (gl_i (show (-1) = (itN 0 (cDT r x1) (-1, -1)).2 by first | with_reducible rfl | with_reducible exact nI_add _ _ | (simp only [cDT, cDuty, c_1, ↓reduceIte, Bool.false_eq_true, decide_true, decide_false, Bool.not_true, Bool.not_false, Bool.or_true, Bool.true_or, Bool.or_false, Bool.false_or]; done) | (simp only [cDT, cDuty, c_1, ↓reduceIte, Bool.false_eq_true, decide_true, decide_false, Bool.not_true, Bool.not_false, Bool.or_true, Bool.true_or, Bool.or_false, Bool.false_or]; with_reducible rfl) | (simp only [cDT, cDuty, c_1, ↓reduceIte, Bool.false_eq_true, decide_true, decide_false, Bool.not_true, Bool.not_false, Bool.or_true, Bool.true_or, Bool.or_false, Bool.false_or]; rfl) | (simp [b2i, cDT, cDuty, c_1]; done) | rfl) (gl_i (show (-1) = (itN 0 (cDT r x1) (-1, -1)).1 by first | with_reducible rfl | with_reducible exact nI_add _ _ | (simp only [cDT, cDuty, c_1, ↓reduceIte, Bool.false_eq_true, decide_true, decide_false, Bool.not_true, Bool.not_false, Bool.or_true, Bool.true_or, Bool.or_false, Bool.false_or]; done) | (simp only [cDT, cDuty, c_1, ↓reduceIte, Bool.false_eq_true, decide_true, decide_false, Bool.not_true, Bool.not_false, Bool.or_true, Bool.true_or, Bool.or_false, Bool.false_or]; with_reducible rfl) | (simp only [cDT, cDuty, c_1, ↓reduceIte, Bool.false_eq_true, decide_true, decide_false, Bool.not_true, Bool.not_false, Bool.or_true, Bool.true_or, Bool.or_false, Bool.false_or]; rfl) | (simp [b2i, cDT, cDuty, c_1]; done) | rfl) (gl_s (gl_s (gl_s rfl)))))))
  · have c_1 := b2i_f c_1
    refine lv_iload_n hx hb dX4_dutyAt_21 rfl (lv_at hl 0 rfl) ?_
    have hq : (rAt 42 (r 17) (x1 / (nI 14))) = (cDuty r x1) := by
      first | with_reducible rfl | with_reducible exact nI_add _ _ | (simp only [cDT, cDuty, c_1, ↓reduceIte, Bool.false_eq_true, decide_true, decide_false, Bool.not_true, Bool.not_false, Bool.or_true, Bool.true_or, Bool.or_false, Bool.false_or]; done) | (simp only [cDT, cDuty, c_1, ↓reduceIte, Bool.false_eq_true, decide_true, decide_false, Bool.not_true, Bool.not_false, Bool.or_true, Bool.true_or, Bool.or_false, Bool.false_or]; with_reducible rfl) | (simp only [cDT, cDuty, c_1, ↓reduceIte, Bool.false_eq_true, decide_true, decide_false, Bool.not_true, Bool.not_false, Bool.or_true, Bool.true_or, Bool.or_false, Bool.false_or]; rfl) | (simp [b2i, cDT, cDuty, c_1]; done) | rfl
    exact W.iret (v := rAt 42 (r 17) (x1 / (nI 14))) hx hb hr (fun t ht _ => g_ret hq ht) g_no dX4_dutyAt_22
