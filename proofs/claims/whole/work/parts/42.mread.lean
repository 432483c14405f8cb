set_option maxHeartbeats 4000000 in
set_option maxRecDepth 100000 in
theorem c_X7_in (l : Launch) (G : gG) (H0 : Heap) (x1 : Int32) (x2 : Int32) (x3 : Int32) : gMr l yX7_in wsX7_in 0 0 G H0 [.int x1, .int x2, .int x3] (b2i (mIn x1 x2 x3)) := by
  refine Met.ofW (cc := cX7_in) (maxL := 3) (ret := (some .boolean)) (by decide) rfl ?_
  intro p_ e_ s m args below meth c s₁ B hml hv
  obtain ⟨rfl, rfl, hK⟩ := hv
  have hx := B.exec
  have hb := B.bytes
  have hr := B.returns
  have hts := atoms_spec (ws := wsX7_in) B.pre
  have hown : s.vm.findClass RX7 = some m.cls := findClass_of_methodNamed B.named
  have hlocks := B.notSynchronized
  have S0 : CallFix p_ m c cX7_in 3 s _ wsX7_in RX7 := ⟨hx, hb, hml, hown, hts⟩
  have hl := lv_entry ([.int x1, .int x2, .int x3]) (n := 3) (Nat.le_of_ble_eq_true rfl)
  rw [lg_entry_eq]
  generalize (lg_sl ([.int x1, .int x2, .int x3]) ++ List.replicate (3 - (lg_sl ([.int x1, .int x2, .int x3])).length) Slot.unset).toArray = ls at hl ⊢
  have hl : lv_has ls 3 [(0, .int x1), (1, .int x2), (2, .int x3)] := hl
  refine lv_iload_n hx hb dX7_in_0 rfl (lv_at hl 0 rfl) ?_
  refine lv_iload_n hx hb dX7_in_1 rfl (lv_at hl 1 rfl) ?_
  refine lv_icmp_lt (tgt := 14) hx hb dX7_in_2 (by decide) (fun c_1 => ?_) (fun c_1 => ?_)
  · refine lv_iconst (v := nI 0) hx hb dX7_in_14 (by decide +kernel) ?_
    have hq : (nI 0) = (b2i (mIn x1 x2 x3)) := by
      first | with_reducible rfl | with_reducible exact nI_add _ _ | (simp only [mIn, eq_true c_1, ↓reduceIte, Bool.false_eq_true, decide_true, decide_false, Bool.not_true, Bool.not_false, Bool.or_true, Bool.true_or, Bool.or_false, Bool.false_or]; done) | (simp only [mIn, eq_true c_1, ↓reduceIte, Bool.false_eq_true, decide_true, decide_false, Bool.not_true, Bool.not_false, Bool.or_true, Bool.true_or, Bool.or_false, Bool.false_or]; with_reducible rfl) | (simp only [mIn, eq_true c_1, ↓reduceIte, Bool.false_eq_true, decide_true, decide_false, Bool.not_true, Bool.not_false, Bool.or_true, Bool.true_or, Bool.or_false, Bool.false_or]; rfl) | (simp [b2i, mIn, eq_true c_1]; done) | rfl
    exact W.zret (v := nI 0) hx hb hr (z_nar hq) (fun t ht _ => g_ret hq ht) g_no dX7_in_15
  · refine lv_iload_n hx hb dX7_in_5 rfl (lv_at hl 0 rfl) ?_
    refine lv_iload_n hx hb dX7_in_6 rfl (lv_at hl 2 rfl) ?_
    refine lv_icmp_gt (tgt := 14) hx hb dX7_in_7 (by decide) (fun c_2 => ?_) (fun c_2 => ?_)
    · refine lv_iconst (v := nI 0) hx hb dX7_in_14 (by decide +kernel) ?_
      have hq : (nI 0) = (b2i (mIn x1 x2 x3)) := by
        first | with_reducible rfl | with_reducible exact nI_add _ _ | (simp only [mIn, eq_false c_1, eq_true c_2, ↓reduceIte, Bool.false_eq_true, decide_true, decide_false, Bool.not_true, Bool.not_false, Bool.or_true, Bool.true_or, Bool.or_false, Bool.false_or]; done) | (simp only [mIn, eq_false c_1, eq_true c_2, ↓reduceIte, Bool.false_eq_true, decide_true, decide_false, Bool.not_true, Bool.not_false, Bool.or_true, Bool.true_or, Bool.or_false, Bool.false_or]; with_reducible rfl) | (simp only [mIn, eq_false c_1, eq_true c_2, ↓reduceIte, Bool.false_eq_true, decide_true, decide_false, Bool.not_true, Bool.not_false, Bool.or_true, Bool.true_or, Bool.or_false, Bool.false_or]; rfl) | (simp [b2i, mIn, eq_false c_1, eq_true c_2]; done) | rfl
      exact W.zret (v := nI 0) hx hb hr (z_nar hq) (fun t ht _ => g_ret hq ht) g_no dX7_in_15
    · refine lv_iconst (v := nI 1) hx hb dX7_in_10 (by decide +kernel) ?_
      refine lv_goto (tgt := 15) hx hb dX7_in_11 (by decide) ?_
      have hq : (nI 1) = (b2i (mIn x1 x2 x3)) := by
        first | with_reducible rfl | with_reducible exact nI_add _ _ | (simp only [mIn, eq_false c_1, eq_false c_2, ↓reduceIte, Bool.false_eq_true, decide_true, decide_false, Bool.not_true, Bool.not_false, Bool.or_true, Bool.true_or, Bool.or_false, Bool.false_or]; done) | (simp only [mIn, eq_false c_1, eq_false c_2, ↓reduceIte, Bool.false_eq_true, decide_true, decide_false, Bool.not_true, Bool.not_false, Bool.or_true, Bool.true_or, Bool.or_false, Bool.false_or]; with_reducible rfl) | (simp only [mIn, eq_false c_1, eq_false c_2, ↓reduceIte, Bool.false_eq_true, decide_true, decide_false, Bool.not_true, Bool.not_false, Bool.or_true, Bool.true_or, Bool.or_false, Bool.false_or]; rfl) | (simp [b2i, mIn, eq_false c_1, eq_false c_2]; done) | rfl
      exact W.zret (v := nI 1) hx hb hr (z_nar hq) (fun t ht _ => g_ret hq ht) g_no dX7_in_15

set_option maxHeartbeats 4000000 in
set_option maxRecDepth 100000 in
theorem c_X7_isPerson (l : Launch) (G : gG) (H0 : Heap) (x1 : Int32) : gMr l yX7_isPerson wsX7_isPerson 1 22 G H0 [.int x1] (b2i (mIn x1 (nI 0) (nI 5))) := by
  refine Met.ofW (cc := cX7_isPerson) (maxL := 1) (ret := (some .boolean)) (by decide) rfl ?_
  intro p_ e_ s m args below meth c s₁ B hml hv
  obtain ⟨rfl, rfl, hK⟩ := hv
  have hx := B.exec
  have hb := B.bytes
  have hr := B.returns
  have hts := atoms_spec (ws := wsX7_isPerson) B.pre
  have hown : s.vm.findClass RX7 = some m.cls := findClass_of_methodNamed B.named
  have hlocks := B.notSynchronized
  have S0 : CallFix p_ m c cX7_isPerson 1 s _ wsX7_isPerson RX7 := ⟨hx, hb, hml, hown, hts⟩
  have hl := lv_entry ([.int x1]) (n := 1) (Nat.le_of_ble_eq_true rfl)
  rw [lg_entry_eq]
  generalize (lg_sl ([.int x1]) ++ List.replicate (1 - (lg_sl ([.int x1])).length) Slot.unset).toArray = ls at hl ⊢
  have hl : lv_has ls 1 [(0, .int x1)] := hl
  refine lv_iload_n hx hb dX7_isPerson_0 rfl (lv_at hl 0 rfl) ?_
  refine lv_iconst (v := nI 0) hx hb dX7_isPerson_1 (by decide +kernel) ?_
  refine lv_iconst (v := nI 5) hx hb dX7_isPerson_2 (by decide +kernel) ?_
  refine g_callC (W.runS (As := [.int x1, .int (nI 0), .int (nI 5)]) (rest := []) S0 (c_X7_in l G _ x1 (nI 0) (nI 5)) (va_cwS 3 hts gX7_isPerson_X7_in rfl rfl rfl (by decide +kernel) ⟨Nat.le_of_ble_eq_true rfl, Nat.le_of_ble_eq_true rfl⟩) (g_preS hK) rfl rfl hl.1 rfl (lv_room (Nat.le_of_ble_eq_true rfl)) dX7_isPerson_3 ⟨Nat.zero_le _, Nat.zero_le _⟩) ?_
  have hq : (b2i (mIn x1 (nI 0) (nI 5))) = (b2i (mIn x1 (nI 0) (nI 5))) := by
    first | with_reducible rfl | with_reducible exact nI_add _ _ | (simp only [true_and, ↓reduceIte, Bool.false_eq_true, decide_true, decide_false, Bool.not_true, Bool.not_false, Bool.or_true, Bool.true_or, Bool.or_false, Bool.false_or]; done) | (simp only [true_and, ↓reduceIte, Bool.false_eq_true, decide_true, decide_false, Bool.not_true, Bool.not_false, Bool.or_true, Bool.true_or, Bool.or_false, Bool.false_or]; with_reducible rfl) | (simp only [true_and, ↓reduceIte, Bool.false_eq_true, decide_true, decide_false, Bool.not_true, Bool.not_false, Bool.or_true, Bool.true_or, Bool.or_false, Bool.false_or]; rfl) | (simp [b2i, true_and]; done) | rfl
  exact W.zret (v := b2i (mIn x1 (nI 0) (nI 5))) hx hb hr (z_nar hq) (fun t ht _ => g_ret hq ht) g_no dX7_isPerson_6

set_option maxHeartbeats 4000000 in
set_option maxRecDepth 100000 in
theorem c_X7_isRing (l : Launch) (G : gG) (H0 : Heap) (x1 : Int32) : gMr l yX7_isRing wsX7_isRing 1 22 G H0 [.int x1] (b2i (mIn x1 (nI 0) (nI 3))) := by
  refine Met.ofW (cc := cX7_isRing) (maxL := 1) (ret := (some .boolean)) (by decide) rfl ?_
  intro p_ e_ s m args below meth c s₁ B hml hv
  obtain ⟨rfl, rfl, hK⟩ := hv
  have hx := B.exec
  have hb := B.bytes
  have hr := B.returns
  have hts := atoms_spec (ws := wsX7_isRing) B.pre
  have hown : s.vm.findClass RX7 = some m.cls := findClass_of_methodNamed B.named
  have hlocks := B.notSynchronized
  have S0 : CallFix p_ m c cX7_isRing 1 s _ wsX7_isRing RX7 := ⟨hx, hb, hml, hown, hts⟩
  have hl := lv_entry ([.int x1]) (n := 1) (Nat.le_of_ble_eq_true rfl)
  rw [lg_entry_eq]
  generalize (lg_sl ([.int x1]) ++ List.replicate (1 - (lg_sl ([.int x1])).length) Slot.unset).toArray = ls at hl ⊢
  have hl : lv_has ls 1 [(0, .int x1)] := hl
  refine lv_iload_n hx hb dX7_isRing_0 rfl (lv_at hl 0 rfl) ?_
  refine lv_iconst (v := nI 0) hx hb dX7_isRing_1 (by decide +kernel) ?_
  refine lv_iconst (v := nI 3) hx hb dX7_isRing_2 (by decide +kernel) ?_
  refine g_callC (W.runS (As := [.int x1, .int (nI 0), .int (nI 3)]) (rest := []) S0 (c_X7_in l G _ x1 (nI 0) (nI 3)) (va_cwS 3 hts gX7_isRing_X7_in rfl rfl rfl (by decide +kernel) ⟨Nat.le_of_ble_eq_true rfl, Nat.le_of_ble_eq_true rfl⟩) (g_preS hK) rfl rfl hl.1 rfl (lv_room (Nat.le_of_ble_eq_true rfl)) dX7_isRing_3 ⟨Nat.zero_le _, Nat.zero_le _⟩) ?_
  have hq : (b2i (mIn x1 (nI 0) (nI 3))) = (b2i (mIn x1 (nI 0) (nI 3))) := by
    first | with_reducible rfl | with_reducible exact nI_add _ _ | (simp only [true_and, ↓reduceIte, Bool.false_eq_true, decide_true, decide_false, Bool.not_true, Bool.not_false, Bool.or_true, Bool.true_or, Bool.or_false, Bool.false_or]; done) | (simp only [true_and, ↓reduceIte, Bool.false_eq_true, decide_true, decide_false, Bool.not_true, Bool.not_false, Bool.or_true, Bool.true_or, Bool.or_false, Bool.false_or]; with_reducible rfl) | (simp only [true_and, ↓reduceIte, Bool.false_eq_true, decide_true, decide_false, Bool.not_true, Bool.not_false, Bool.or_true, Bool.true_or, Bool.or_false, Bool.false_or]; rfl) | (simp [b2i, true_and]; done) | rfl
  exact W.zret (v := b2i (mIn x1 (nI 0) (nI 3))) hx hb hr (z_nar hq) (fun t ht _ => g_ret hq ht) g_no dX7_isRing_6

set_option maxHeartbeats 4000000 in
set_option maxRecDepth 100000 in
theorem c_X7_isSwitch (l : Launch) (G : gG) (H0 : Heap) (x1 : Int32) : gMr l yX7_isSwitch wsX7_isSwitch 1 22 G H0 [.int x1] (b2i (mIn x1 (nI 0) (nI 7))) := by
  refine Met.ofW (cc := cX7_isSwitch) (maxL := 1) (ret := (some .boolean)) (by decide) rfl ?_
  intro p_ e_ s m args below meth c s₁ B hml hv
  obtain ⟨rfl, rfl, hK⟩ := hv
  have hx := B.exec
  have hb := B.bytes
  have hr := B.returns
  have hts := atoms_spec (ws := wsX7_isSwitch) B.pre
  have hown : s.vm.findClass RX7 = some m.cls := findClass_of_methodNamed B.named
  have hlocks := B.notSynchronized
  have S0 : CallFix p_ m c cX7_isSwitch 1 s _ wsX7_isSwitch RX7 := ⟨hx, hb, hml, hown, hts⟩
  have hl := lv_entry ([.int x1]) (n := 1) (Nat.le_of_ble_eq_true rfl)
  rw [lg_entry_eq]
  generalize (lg_sl ([.int x1]) ++ List.replicate (1 - (lg_sl ([.int x1])).length) Slot.unset).toArray = ls at hl ⊢
  have hl : lv_has ls 1 [(0, .int x1)] := hl
  refine lv_iload_n hx hb dX7_isSwitch_0 rfl (lv_at hl 0 rfl) ?_
  refine lv_iconst (v := nI 0) hx hb dX7_isSwitch_1 (by decide +kernel) ?_
  refine lv_bipush (v := nI 7) hx hb dX7_isSwitch_2 (by decide +kernel) ?_
  refine g_callC (W.runS (As := [.int x1, .int (nI 0), .int (nI 7)]) (rest := []) S0 (c_X7_in l G _ x1 (nI 0) (nI 7)) (va_cwS 3 hts gX7_isSwitch_X7_in rfl rfl rfl (by decide +kernel) ⟨Nat.le_of_ble_eq_true rfl, Nat.le_of_ble_eq_true rfl⟩) (g_preS hK) rfl rfl hl.1 rfl (lv_room (Nat.le_of_ble_eq_true rfl)) dX7_isSwitch_4 ⟨Nat.zero_le _, Nat.zero_le _⟩) ?_
  have hq : (b2i (mIn x1 (nI 0) (nI 7))) = (b2i (mIn x1 (nI 0) (nI 7))) := by
    first | with_reducible rfl | with_reducible exact nI_add _ _ | (simp only [true_and, ↓reduceIte, Bool.false_eq_true, decide_true, decide_false, Bool.not_true, Bool.not_false, Bool.or_true, Bool.true_or, Bool.or_false, Bool.false_or]; done) | (simp only [true_and, ↓reduceIte, Bool.false_eq_true, decide_true, decide_false, Bool.not_true, Bool.not_false, Bool.or_true, Bool.true_or, Bool.or_false, Bool.false_or]; with_reducible rfl) | (simp only [true_and, ↓reduceIte, Bool.false_eq_true, decide_true, decide_false, Bool.not_true, Bool.not_false, Bool.or_true, Bool.true_or, Bool.or_false, Bool.false_or]; rfl) | (simp [b2i, true_and]; done) | rfl
  exact W.zret (v := b2i (mIn x1 (nI 0) (nI 7))) hx hb hr (z_nar hq) (fun t ht _ => g_ret hq ht) g_no dX7_isSwitch_7

set_option maxHeartbeats 4000000 in
set_option maxRecDepth 100000 in
theorem c_X7_isVersion (l : Launch) (G : gG) (H0 : Heap) (z : Nat → Nat) (r : Nat → Nat → Int32) (f : Nat → Int32) (hP : va_P G.1 vwCl (wRM G z r f) H0) (x1 : Int32) : gMr l yX7_isVersion wsX7_isVersion 1 22 G H0 [.ref (z 0), .int x1] (b2i (mIn x1 (nI 0) (f 2 - nI 1))) := by
  refine Met.ofW (cc := cX7_isVersion) (maxL := 2) (ret := (some .boolean)) (by decide) rfl ?_
  intro p_ e_ s m args below meth c s₁ B hml hv
  obtain ⟨rfl, rfl, hK⟩ := hv
  have hx := B.exec
  have hb := B.bytes
  have hr := B.returns
  have hts := atoms_spec (ws := wsX7_isVersion) B.pre
  have hown : s.vm.findClass RX7 = some m.cls := findClass_of_methodNamed B.named
  have hlocks := B.notSynchronized
  have hinX7 : ∀ w ∈ wsX70, w ∈ wsX7_isVersion := by decide +kernel
  have S0 : CallFix p_ m c cX7_isVersion 2 s _ wsX7_isVersion RX7 := ⟨hx, hb, hml, hown, hts⟩
  have hl := lv_entry ([.ref (z 0), .int x1]) (n := 2) (Nat.le_of_ble_eq_true rfl)
  rw [lg_entry_eq]
  generalize (lg_sl ([.ref (z 0), .int x1]) ++ List.replicate (2 - (lg_sl ([.ref (z 0), .int x1])).length) Slot.unset).toArray = ls at hl ⊢
  have hl : lv_has ls 2 [(0, .ref (z 0)), (1, .int x1)] := hl
  refine lv_iload_n hx hb dX7_isVersion_0 rfl (lv_at hl 1 rfl) ?_
  refine lv_iconst (v := nI 0) hx hb dX7_isVersion_1 (by decide +kernel) ?_
  refine lv_aload_n hx hb dX7_isVersion_2 rfl (lv_at hl 0 rfl) ?_
  refine va_get (D := G.1) (ci := 7) (v := .int (f 2)) (C := RX7) (T := TX7) (N := 26) hx hb hts hinX7 hown hK.1 hP 0 rfl rfl 2 (by decide) (hts (.fieldLink RX7 7 "RotaforgeModel" "versionMany" "I") (by decide +kernel)) (fun _ h9 => h9) rfl dX7_isVersion_3 ?_
  refine lv_iconst (v := nI 1) hx hb dX7_isVersion_6 (by decide +kernel) ?_
  refine lv_isub hx hb dX7_isVersion_7 ?_
  refine g_callC (W.runS (As := [.int x1, .int (nI 0), .int ((f 2) - (nI 1))]) (rest := []) S0 (c_X7_in l G _ x1 (nI 0) ((f 2) - (nI 1))) (va_cwS 3 hts gX7_isVersion_X7_in rfl rfl rfl (by decide +kernel) ⟨Nat.le_of_ble_eq_true rfl, Nat.le_of_ble_eq_true rfl⟩) (g_preS hK) rfl rfl hl.1 rfl (lv_room (Nat.le_of_ble_eq_true rfl)) dX7_isVersion_8 ⟨Nat.zero_le _, Nat.zero_le _⟩) ?_
  have hq : (b2i (mIn x1 (nI 0) ((f 2) - (nI 1)))) = (b2i (mIn x1 (nI 0) (f 2 - nI 1))) := by
    first | with_reducible rfl | with_reducible exact nI_add _ _ | (simp only [true_and, ↓reduceIte, Bool.false_eq_true, decide_true, decide_false, Bool.not_true, Bool.not_false, Bool.or_true, Bool.true_or, Bool.or_false, Bool.false_or]; done) | (simp only [true_and, ↓reduceIte, Bool.false_eq_true, decide_true, decide_false, Bool.not_true, Bool.not_false, Bool.or_true, Bool.true_or, Bool.or_false, Bool.false_or]; with_reducible rfl) | (simp only [true_and, ↓reduceIte, Bool.false_eq_true, decide_true, decide_false, Bool.not_true, Bool.not_false, Bool.or_true, Bool.true_or, Bool.or_false, Bool.false_or]; rfl) | (simp [b2i, true_and]; done) | rfl
  exact W.zret (v := b2i (mIn x1 (nI 0) ((f 2) - (nI 1)))) hx hb hr (z_nar hq) (fun t ht _ => g_ret hq ht) g_no dX7_isVersion_11

set_option maxHeartbeats 4000000 in
set_option maxRecDepth 100000 in
theorem c_X7_isChange (l : Launch) (G : gG) (H0 : Heap) (z : Nat → Nat) (r : Nat → Nat → Int32) (f : Nat → Int32) (hP : va_P G.1 vwCl (wRM G z r f) H0) (x1 : Int32) : gMr l yX7_isChange wsX7_isChange 1 22 G H0 [.ref (z 0), .int x1] (b2i (mIn x1 (nI 0) (f 4 - nI 1))) := by
  refine Met.ofW (cc := cX7_isChange) (maxL := 2) (ret := (some .boolean)) (by decide) rfl ?_
  intro p_ e_ s m args below meth c s₁ B hml hv
  obtain ⟨rfl, rfl, hK⟩ := hv
  have hx := B.exec
  have hb := B.bytes
  have hr := B.returns
  have hts := atoms_spec (ws := wsX7_isChange) B.pre
  have hown : s.vm.findClass RX7 = some m.cls := findClass_of_methodNamed B.named
  have hlocks := B.notSynchronized
  have hinX7 : ∀ w ∈ wsX70, w ∈ wsX7_isChange := by decide +kernel
  have S0 : CallFix p_ m c cX7_isChange 2 s _ wsX7_isChange RX7 := ⟨hx, hb, hml, hown, hts⟩
  have hl := lv_entry ([.ref (z 0), .int x1]) (n := 2) (Nat.le_of_ble_eq_true rfl)
  rw [lg_entry_eq]
  generalize (lg_sl ([.ref (z 0), .int x1]) ++ List.replicate (2 - (lg_sl ([.ref (z 0), .int x1])).length) Slot.unset).toArray = ls at hl ⊢
  have hl : lv_has ls 2 [(0, .ref (z 0)), (1, .int x1)] := hl
  refine lv_iload_n hx hb dX7_isChange_0 rfl (lv_at hl 1 rfl) ?_
  refine lv_iconst (v := nI 0) hx hb dX7_isChange_1 (by decide +kernel) ?_
  refine lv_aload_n hx hb dX7_isChange_2 rfl (lv_at hl 0 rfl) ?_
  refine va_get (D := G.1) (ci := 7) (v := .int (f 4)) (C := RX7) (T := TX7) (N := 26) hx hb hts hinX7 hown hK.1 hP 0 rfl rfl 8 (by decide) (hts (.fieldLink RX7 79 "RotaforgeModel" "changeMany" "I") (by decide +kernel)) (fun _ h9 => h9) rfl dX7_isChange_3 ?_
  refine lv_iconst (v := nI 1) hx hb dX7_isChange_6 (by decide +kernel) ?_
  refine lv_isub hx hb dX7_isChange_7 ?_
  refine g_callC (W.runS (As := [.int x1, .int (nI 0), .int ((f 4) - (nI 1))]) (rest := []) S0 (c_X7_in l G _ x1 (nI 0) ((f 4) - (nI 1))) (va_cwS 3 hts gX7_isChange_X7_in rfl rfl rfl (by decide +kernel) ⟨Nat.le_of_ble_eq_true rfl, Nat.le_of_ble_eq_true rfl⟩) (g_preS hK) rfl rfl hl.1 rfl (lv_room (Nat.le_of_ble_eq_true rfl)) dX7_isChange_8 ⟨Nat.zero_le _, Nat.zero_le _⟩) ?_
  have hq : (b2i (mIn x1 (nI 0) ((f 4) - (nI 1)))) = (b2i (mIn x1 (nI 0) (f 4 - nI 1))) := by
    first | with_reducible rfl | with_reducible exact nI_add _ _ | (simp only [true_and, ↓reduceIte, Bool.false_eq_true, decide_true, decide_false, Bool.not_true, Bool.not_false, Bool.or_true, Bool.true_or, Bool.or_false, Bool.false_or]; done) | (simp only [true_and, ↓reduceIte, Bool.false_eq_true, decide_true, decide_false, Bool.not_true, Bool.not_false, Bool.or_true, Bool.true_or, Bool.or_false, Bool.false_or]; with_reducible rfl) | (simp only [true_and, ↓reduceIte, Bool.false_eq_true, decide_true, decide_false, Bool.not_true, Bool.not_false, Bool.or_true, Bool.true_or, Bool.or_false, Bool.false_or]; rfl) | (simp [b2i, true_and]; done) | rfl
  exact W.zret (v := b2i (mIn x1 (nI 0) ((f 4) - (nI 1)))) hx hb hr (z_nar hq) (fun t ht _ => g_ret hq ht) g_no dX7_isChange_11

set_option maxHeartbeats 4000000 in
set_option maxRecDepth 100000 in
theorem c_X7_isIncident (l : Launch) (G : gG) (H0 : Heap) (z : Nat → Nat) (r : Nat → Nat → Int32) (f : Nat → Int32) (hP : va_P G.1 vwCl (wRM G z r f) H0) (x1 : Int32) : gMr l yX7_isIncident wsX7_isIncident 1 22 G H0 [.ref (z 0), .int x1] (b2i (mIn x1 (nI 0) (f 6 - nI 1))) := by
  refine Met.ofW (cc := cX7_isIncident) (maxL := 2) (ret := (some .boolean)) (by decide) rfl ?_
  intro p_ e_ s m args below meth c s₁ B hml hv
  obtain ⟨rfl, rfl, hK⟩ := hv
  have hx := B.exec
  have hb := B.bytes
  have hr := B.returns
  have hts := atoms_spec (ws := wsX7_isIncident) B.pre
  have hown : s.vm.findClass RX7 = some m.cls := findClass_of_methodNamed B.named
  have hlocks := B.notSynchronized
  have hinX7 : ∀ w ∈ wsX70, w ∈ wsX7_isIncident := by decide +kernel
  have S0 : CallFix p_ m c cX7_isIncident 2 s _ wsX7_isIncident RX7 := ⟨hx, hb, hml, hown, hts⟩
  have hl := lv_entry ([.ref (z 0), .int x1]) (n := 2) (Nat.le_of_ble_eq_true rfl)
  rw [lg_entry_eq]
  generalize (lg_sl ([.ref (z 0), .int x1]) ++ List.replicate (2 - (lg_sl ([.ref (z 0), .int x1])).length) Slot.unset).toArray = ls at hl ⊢
  have hl : lv_has ls 2 [(0, .ref (z 0)), (1, .int x1)] := hl
  refine lv_iload_n hx hb dX7_isIncident_0 rfl (lv_at hl 1 rfl) ?_
  refine lv_iconst (v := nI 0) hx hb dX7_isIncident_1 (by decide +kernel) ?_
  refine lv_aload_n hx hb dX7_isIncident_2 rfl (lv_at hl 0 rfl) ?_
  refine va_get (D := G.1) (ci := 7) (v := .int (f 6)) (C := RX7) (T := TX7) (N := 26) hx hb hts hinX7 hown hK.1 hP 0 rfl rfl 20 (by decide) (hts (.fieldLink RX7 82 "RotaforgeModel" "incidentMany" "I") (by decide +kernel)) (fun _ h9 => h9) rfl dX7_isIncident_3 ?_
  refine lv_iconst (v := nI 1) hx hb dX7_isIncident_6 (by decide +kernel) ?_
  refine lv_isub hx hb dX7_isIncident_7 ?_
  refine g_callC (W.runS (As := [.int x1, .int (nI 0), .int ((f 6) - (nI 1))]) (rest := []) S0 (c_X7_in l G _ x1 (nI 0) ((f 6) - (nI 1))) (va_cwS 3 hts gX7_isIncident_X7_in rfl rfl rfl (by decide +kernel) ⟨Nat.le_of_ble_eq_true rfl, Nat.le_of_ble_eq_true rfl⟩) (g_preS hK) rfl rfl hl.1 rfl (lv_room (Nat.le_of_ble_eq_true rfl)) dX7_isIncident_8 ⟨Nat.zero_le _, Nat.zero_le _⟩) ?_
  have hq : (b2i (mIn x1 (nI 0) ((f 6) - (nI 1)))) = (b2i (mIn x1 (nI 0) (f 6 - nI 1))) := by
    first | with_reducible rfl | with_reducible exact nI_add _ _ | (simp only [true_and, ↓reduceIte, Bool.false_eq_true, decide_true, decide_false, Bool.not_true, Bool.not_false, Bool.or_true, Bool.true_or, Bool.or_false, Bool.false_or]; done) | (simp only [true_and, ↓reduceIte, Bool.false_eq_true, decide_true, decide_false, Bool.not_true, Bool.not_false, Bool.or_true, Bool.true_or, Bool.or_false, Bool.false_or]; with_reducible rfl) | (simp only [true_and, ↓reduceIte, Bool.false_eq_true, decide_true, decide_false, Bool.not_true, Bool.not_false, Bool.or_true, Bool.true_or, Bool.or_false, Bool.false_or]; rfl) | (simp [b2i, true_and]; done) | rfl
  exact W.zret (v := b2i (mIn x1 (nI 0) ((f 6) - (nI 1)))) hx hb hr (z_nar hq) (fun t ht _ => g_ret hq ht) g_no dX7_isIncident_11

set_option maxHeartbeats 4000000 in
set_option maxRecDepth 100000 in
theorem c_X7_thrown (l : Launch) (G : gG) (H0 : Heap) (z : Nat → Nat) (r : Nat → Nat → Int32) (f : Nat → Int32) (hP : va_P G.1 vwCl (wRM G z r f) H0) : gMr l yX7_thrown wsX7_thrown 0 0 G H0 [.ref (z 0)] (f 0) := by
  refine Met.ofW (cc := cX7_thrown) (maxL := 1) (ret := (some .int)) (by decide) rfl ?_
  intro p_ e_ s m args below meth c s₁ B hml hv
  obtain ⟨rfl, rfl, hK⟩ := hv
  have hx := B.exec
  have hb := B.bytes
  have hr := B.returns
  have hts := atoms_spec (ws := wsX7_thrown) B.pre
  have hown : s.vm.findClass RX7 = some m.cls := findClass_of_methodNamed B.named
  have hlocks := B.notSynchronized
  have hinX7 : ∀ w ∈ wsX70, w ∈ wsX7_thrown := by decide +kernel
  have S0 : CallFix p_ m c cX7_thrown 1 s _ wsX7_thrown RX7 := ⟨hx, hb, hml, hown, hts⟩
  have hl := lv_entry ([.ref (z 0)]) (n := 1) (Nat.le_of_ble_eq_true rfl)
  rw [lg_entry_eq]
  generalize (lg_sl ([.ref (z 0)]) ++ List.replicate (1 - (lg_sl ([.ref (z 0)])).length) Slot.unset).toArray = ls at hl ⊢
  have hl : lv_has ls 1 [(0, .ref (z 0))] := hl
  refine lv_aload_n hx hb dX7_thrown_0 rfl (lv_at hl 0 rfl) ?_
  refine va_get (D := G.1) (ci := 7) (v := .int (f 0)) (C := RX7) (T := TX7) (N := 26) hx hb hts hinX7 hown hK.1 hP 0 rfl rfl 0 (by decide) (hts (.fieldLink RX7 72 "RotaforgeModel" "thrown" "I") (by decide +kernel)) (fun _ h9 => h9) rfl dX7_thrown_1 ?_
  have hq : (f 0) = (f 0) := by
    first | with_reducible rfl | with_reducible exact nI_add _ _ | (simp only [true_and, ↓reduceIte, Bool.false_eq_true, decide_true, decide_false, Bool.not_true, Bool.not_false, Bool.or_true, Bool.true_or, Bool.or_false, Bool.false_or]; done) | (simp only [true_and, ↓reduceIte, Bool.false_eq_true, decide_true, decide_false, Bool.not_true, Bool.not_false, Bool.or_true, Bool.true_or, Bool.or_false, Bool.false_or]; with_reducible rfl) | (simp only [true_and, ↓reduceIte, Bool.false_eq_true, decide_true, decide_false, Bool.not_true, Bool.not_false, Bool.or_true, Bool.true_or, Bool.or_false, Bool.false_or]; rfl) | (simp [b2i, true_and]; done) | rfl
  exact W.iret (v := (f 0)) hx hb hr (fun t ht _ => g_ret hq ht) g_no dX7_thrown_4

set_option maxHeartbeats 4000000 in
set_option maxRecDepth 100000 in
theorem c_X7_bits (l : Launch) (G : gG) (H0 : Heap) (x1 : Int32) : gMr l yX7_bits wsX7_bits 0 0 G H0 [.int x1] (mBits x1) := by
  refine Met.ofW (cc := cX7_bits) (maxL := 3) (ret := (some .int)) (by decide) rfl ?_
  intro p_ e_ s m args below meth c s₁ B hml hv
  obtain ⟨rfl, rfl, hK⟩ := hv
  have hx := B.exec
  have hb := B.bytes
  have hr := B.returns
  have hts := atoms_spec (ws := wsX7_bits) B.pre
  have hown : s.vm.findClass RX7 = some m.cls := findClass_of_methodNamed B.named
  have hlocks := B.notSynchronized
  have S0 : CallFix p_ m c cX7_bits 3 s _ wsX7_bits RX7 := ⟨hx, hb, hml, hown, hts⟩
  have hl := lv_entry ([.int x1]) (n := 3) (Nat.le_of_ble_eq_true rfl)
  rw [lg_entry_eq]
  generalize (lg_sl ([.int x1]) ++ List.replicate (3 - (lg_sl ([.int x1])).length) Slot.unset).toArray = ls at hl ⊢
  have hl : lv_has ls 3 [(0, .int x1)] := hl
  refine lv_iconst (v := nI 0) hx hb dX7_bits_0 (by decide +kernel) ?_
  refine lv_istore_n (lv' := [(1, .int (nI 0)), (0, .int x1)]) hx hb dX7_bits_1 rfl hl (by decide) rfl (fun ls hl => ?_)
  refine lv_iconst (v := nI 0) hx hb dX7_bits_2 (by decide +kernel) ?_
  refine lv_istore_n (lv' := [(2, .int (nI 0)), (1, .int (nI 0)), (0, .int x1)]) hx hb dX7_bits_3 rfl hl (by decide) rfl (fun ls hl => ?_)
  refine g_loop _ m 4 3 [] (8) (fun i => [(2, .int (nI i)), (1, .int (itN i (mBtI x1) (nI 0))), (0, .int x1)]) (fun i => True) (fun i hi4 hI ih4 ls hl => ?_) 0 (Nat.zero_le _) trivial ls ?_
  · have hl : lv_has ls 3 [(2, .int (nI i)), (1, .int (itN i (mBtI x1) (nI 0))), (0, .int x1)] := hl
    have hI : True := hI
    refine lv_iload_n hx hb dX7_bits_4 rfl (lv_at hl 0 rfl) ?_
    refine lv_bipush (v := nI 8) hx hb dX7_bits_5 (by decide +kernel) ?_
    refine lv_icmp_ge (tgt := 24) hx hb dX7_bits_7 (by decide) (fun c_1 => ?_) (fun c_1 => ?_)
    · have hex : 8 = i := by
        have h9 := (nI_leI (a := 8) (b := i) (by decide) (by omega)).mp c_1
        omega
      subst hex
      refine lv_iload_n hx hb dX7_bits_24 rfl (lv_at hl 1 rfl) ?_
      have hq : (itN 8 (mBtI x1) (nI 0)) = (mBits x1) := by
        first | with_reducible rfl | with_reducible exact nI_add _ _ | (simp only [mBtI, eq_true c_1, ↓reduceIte, Bool.false_eq_true, decide_true, decide_false, Bool.not_true, Bool.not_false, Bool.or_true, Bool.true_or, Bool.or_false, Bool.false_or]; done) | (simp only [mBtI, eq_true c_1, ↓reduceIte, Bool.false_eq_true, decide_true, decide_false, Bool.not_true, Bool.not_false, Bool.or_true, Bool.true_or, Bool.or_false, Bool.false_or]; with_reducible rfl) | (simp only [mBtI, eq_true c_1, ↓reduceIte, Bool.false_eq_true, decide_true, decide_false, Bool.not_true, Bool.not_false, Bool.or_true, Bool.true_or, Bool.or_false, Bool.false_or]; rfl) | (simp [b2i, mBtI, eq_true c_1]; done) | rfl
      exact W.iret (v := itN 8 (mBtI x1) (nI 0)) hx hb hr (fun t ht _ => g_ret hq ht) g_no dX7_bits_25
    · have hlt : i < 8 := by
        have h9 := mt (nI_leI (a := 8) (b := i) (by decide) (by omega)).mpr c_1
        omega
      refine lv_iload_n hx hb dX7_bits_10 rfl (lv_at hl 1 rfl) ?_
      refine lv_iload_n hx hb dX7_bits_11 rfl (lv_at hl 2 rfl) ?_
      refine lv_iload_n hx hb dX7_bits_12 rfl (lv_at hl 0 rfl) ?_
      refine lv_ishr hx hb dX7_bits_13 ?_
      refine lv_iconst (v := nI 1) hx hb dX7_bits_14 (by decide +kernel) ?_
      refine lv_iand hx hb dX7_bits_15 ?_
      refine lv_iadd hx hb dX7_bits_16 ?_
      refine lv_istore_n (lv' := [(1, .int ((itN i (mBtI x1) (nI 0)) + ((x1 >>> ((nI i) &&& 31)) &&& (nI 1)))), (2, .int (nI i)), (0, .int x1)]) hx hb dX7_bits_17 rfl hl (by decide) rfl (fun ls hl => ?_)
      refine lv_iinc (v := (nI i) + nI 1) (lv' := [(2, .int ((nI i) + nI 1)), (1, .int ((itN i (mBtI x1) (nI 0)) + ((x1 >>> ((nI i) &&& 31)) &&& (nI 1)))), (0, .int x1)]) hx hb dX7_bits_18 hl (k := 1) rfl (congrArg (fun q : Int32 => (nI i) + q) (by decide +kernel)) (by decide) rfl (fun ls hl => ?_)
      refine lv_goto (tgt := 4) hx hb dX7_bits_21 (by decide) ?_
      exact ih4 _ (by omega) trivial (lv_cv (show lv_has ls 3 [(2, .int ((nI i) + nI 1)), (1, .int ((itN i (mBtI x1) (nI 0)) + ((x1 >>> ((nI i) &&& 31)) &&& (nI 1)))), (0, .int x1)] from lv_sub hl [0, 1, 2] rfl) (gl_i (show (nI i) + nI 1 = nI (i + 1) by first | with_reducible rfl | with_reducible exact nI_add _ _ | (simp only [itN_s i, mBtI, eq_false c_1, ↓reduceIte, Bool.false_eq_true, decide_true, decide_false, Bool.not_true, Bool.not_false, Bool.or_true, Bool.true_or, Bool.or_false, Bool.false_or]; done) | (simp only [itN_s i, mBtI, eq_false c_1, ↓reduceIte, Bool.false_eq_true, decide_true, decide_false, Bool.not_true, Bool.not_false, Bool.or_true, Bool.true_or, Bool.or_false, Bool.false_or]; with_reducible rfl) | (simp only [itN_s i, mBtI, eq_false c_1, ↓reduceIte, Bool.false_eq_true, decide_true, decide_false, Bool.not_true, Bool.not_false, Bool.or_true, Bool.true_or, Bool.or_false, Bool.false_or]; rfl) | (simp [b2i, itN_s i, mBtI, eq_false c_1]; done) | rfl) (gl_i (show (itN i (mBtI x1) (nI 0)) + ((x1 >>> ((nI i) &&& 31)) &&& (nI 1)) = itN (i + 1) (mBtI x1) (nI 0) by first | with_reducible rfl | with_reducible exact nI_add _ _ | (simp only [itN_s i, mBtI, eq_false c_1, ↓reduceIte, Bool.false_eq_true, decide_true, decide_false, Bool.not_true, Bool.not_false, Bool.or_true, Bool.true_or, Bool.or_false, Bool.false_or]; done) | (simp only [itN_s i, mBtI, eq_false c_1, ↓reduceIte, Bool.false_eq_true, decide_true, decide_false, Bool.not_true, Bool.not_false, Bool.or_true, Bool.true_or, Bool.or_false, Bool.false_or]; with_reducible rfl) | (simp only [itN_s i, mBtI, eq_false c_1, ↓reduceIte, Bool.false_eq_true, decide_true, decide_false, Bool.not_true, Bool.not_false, Bool.or_true, Bool.true_or, Bool.or_false, Bool.false_or]; rfl) | (simp [b2i, itN_s i, mBtI, eq_false c_1]; done) | rfl) (gl_s rfl))))
  · exact (lv_cv (show lv_has ls 3 [(2, .int (nI 0)), (1, .int (nI 0)), (0, .int x1)] from lv_sub hl [0, 1, 2] rfl) (gl_s (gl_i (show nI 0 = itN 0 (mBtI x1) (nI 0) by first | with_reducible rfl | with_reducible exact nI_add _ _ | (simp only [mBtI, ↓reduceIte, Bool.false_eq_true, decide_true, decide_false, Bool.not_true, Bool.not_false, Bool.or_true, Bool.true_or, Bool.or_false, Bool.false_or]; done) | (simp only [mBtI, ↓reduceIte, Bool.false_eq_true, decide_true, decide_false, Bool.not_true, Bool.not_false, Bool.or_true, Bool.true_or, Bool.or_false, Bool.false_or]; with_reducible rfl) | (simp only [mBtI, ↓reduceIte, Bool.false_eq_true, decide_true, decide_false, Bool.not_true, Bool.not_false, Bool.or_true, Bool.true_or, Bool.or_false, Bool.false_or]; rfl) | (simp [b2i, mBtI]; done) | rfl) (gl_s rfl))))

set_option maxHeartbeats 4000000 in
set_option maxRecDepth 100000 in
theorem c_X7_reach (l : Launch) (G : gG) (H0 : Heap) (z : Nat → Nat) (r : Nat → Nat → Int32) (f : Nat → Int32) (hP : va_P G.1 vwCl (wRM G z r f) H0) (x1 : Int32) (g : Nat) (hc : x1 = nI g) (hc2 : g < 8) : gMr l yX7_reach wsX7_reach 0 0 G H0 [.ref (z 0), .int x1] (mReach r g) := by
  refine Met.ofW (cc := cX7_reach) (maxL := 5) (ret := (some .int)) (by decide) rfl ?_
  intro p_ e_ s m args below meth c s₁ B hml hv
  obtain ⟨rfl, rfl, hK⟩ := hv
  have hx := B.exec
  have hb := B.bytes
  have hr := B.returns
  have hts := atoms_spec (ws := wsX7_reach) B.pre
  have hown : s.vm.findClass RX7 = some m.cls := findClass_of_methodNamed B.named
  have hlocks := B.notSynchronized
  have hinX7 : ∀ w ∈ wsX70, w ∈ wsX7_reach := by decide +kernel
  have S0 : CallFix p_ m c cX7_reach 5 s _ wsX7_reach RX7 := ⟨hx, hb, hml, hown, hts⟩
  have hl := lv_entry ([.ref (z 0), .int x1]) (n := 5) (Nat.le_of_ble_eq_true rfl)
  rw [lg_entry_eq]
  generalize (lg_sl ([.ref (z 0), .int x1]) ++ List.replicate (5 - (lg_sl ([.ref (z 0), .int x1])).length) Slot.unset).toArray = ls at hl ⊢
  have hl : lv_has ls 5 [(0, .ref (z 0)), (1, .int x1)] := hl
  subst hc
  refine lv_aload_n hx hb dX7_reach_0 rfl (lv_at hl 0 rfl) ?_
  refine va_get (D := G.1) (ci := 7) (v := .ref (z 1)) (C := RX7) (T := TX7) (N := 26) hx hb hts hinX7 hown hK.1 hP 0 rfl rfl 3 (by decide) (hts (.fieldLink RX7 13 "RotaforgeModel" "needs" "[I") (by decide +kernel)) (fun _ h9 => h9) rfl dX7_reach_1 ?_
  refine lv_iload_n hx hb dX7_reach_4 rfl (lv_at hl 1 rfl) ?_
  refine g_iald hx hb hK.1 hP 1 0 rfl rfl g (rfl) (by omega) (by decide) dX7_reach_5 ?_
  refine lv_istore_n (lv' := [(2, .int ((r 0) g)), (0, .ref (z 0)), (1, .int (nI g))]) hx hb dX7_reach_6 rfl hl (by decide) rfl (fun ls hl => ?_)
  refine lv_iconst (v := nI 0) hx hb dX7_reach_7 (by decide +kernel) ?_
  refine lv_istore_n (lv' := [(3, .int (nI 0)), (2, .int ((r 0) g)), (0, .ref (z 0)), (1, .int (nI g))]) hx hb dX7_reach_8 rfl hl (by decide) rfl (fun ls hl => ?_)
  refine g_loop _ m 9 5 [] (8) (fun y => [(3, .int (nI y)), (2, .int (itN y (fun _ b => itN 8 (mReI r) b) (r 0 g))), (0, .ref (z 0)), (1, .int (nI g))]) (fun y => True) (fun y hi9 hI ih9 ls hl => ?_) 0 (Nat.zero_le _) trivial ls ?_
  · have hl : lv_has ls 5 [(3, .int (nI y)), (2, .int (itN y (fun _ b => itN 8 (mReI r) b) (r 0 g))), (0, .ref (z 0)), (1, .int (nI g))] := hl
    have hI : True := hI
    refine lv_iload_n hx hb dX7_reach_9 rfl (lv_at hl 0 rfl) ?_
    refine lv_bipush (v := nI 8) hx hb dX7_reach_10 (by decide +kernel) ?_
    refine lv_icmp_ge (tgt := 61) hx hb dX7_reach_12 (by decide) (fun c_1 => ?_) (fun c_1 => ?_)
    · have hex : 8 = y := by
        have h9 := (nI_leI (a := 8) (b := y) (by decide) (by omega)).mp c_1
        omega
      subst hex
      refine lv_iload_n hx hb dX7_reach_61 rfl (lv_at hl 1 rfl) ?_
      have hq : (itN 8 (fun _ b => itN 8 (mReI r) b) (r 0 g)) = (mReach r g) := by
        first | with_reducible rfl | with_reducible exact nI_add _ _ | (simp only [mReI, eq_true c_1, ↓reduceIte, Bool.false_eq_true, decide_true, decide_false, Bool.not_true, Bool.not_false, Bool.or_true, Bool.true_or, Bool.or_false, Bool.false_or]; done) | (simp only [mReI, eq_true c_1, ↓reduceIte, Bool.false_eq_true, decide_true, decide_false, Bool.not_true, Bool.not_false, Bool.or_true, Bool.true_or, Bool.or_false, Bool.false_or]; with_reducible rfl) | (simp only [mReI, eq_true c_1, ↓reduceIte, Bool.false_eq_true, decide_true, decide_false, Bool.not_true, Bool.not_false, Bool.or_true, Bool.true_or, Bool.or_false, Bool.false_or]; rfl) | (simp [b2i, mReI, eq_true c_1]; done) | rfl
      exact W.iret (v := itN 8 (fun _ b => itN 8 (mReI r) b) (r 0 g)) hx hb hr (fun t ht _ => g_ret hq ht) g_no dX7_reach_62
    · have hlt : y < 8 := by
        have h9 := mt (nI_leI (a := 8) (b := y) (by decide) (by omega)).mpr c_1
        omega
      refine lv_iconst (v := nI 0) hx hb dX7_reach_15 (by decide +kernel) ?_
      refine lv_istore (lv' := [(4, .int (nI 0)), (3, .int (nI y)), (2, .int (itN y (fun _ b => itN 8 (mReI r) b) (r 0 g))), (0, .ref (z 0)), (1, .int (nI g))]) hx hb dX7_reach_16 hl (by decide) rfl (fun ls hl => ?_)
      refine g_loop _ m 18 5 [] (8) (fun i => [(4, .int (nI i)), (3, .int (nI y)), (2, .int (itN i (mReI r) (itN y (fun _ b => itN 8 (mReI r) b) (r 0 g)))), (0, .ref (z 0)), (1, .int (nI g))]) (fun i => True) (fun i hi18 hI ih18 ls hl => ?_) 0 (Nat.zero_le _) trivial ls ?_
      · have hl : lv_has ls 5 [(4, .int (nI i)), (3, .int (nI y)), (2, .int (itN i (mReI r) (itN y (fun _ b => itN 8 (mReI r) b) (r 0 g)))), (0, .ref (z 0)), (1, .int (nI g))] := hl
        have hI : True := hI
        refine lv_iload hx hb dX7_reach_18 (lv_at hl 0 rfl) ?_
        refine lv_bipush (v := nI 8) hx hb dX7_reach_20 (by decide +kernel) ?_
        refine lv_icmp_ge (tgt := 55) hx hb dX7_reach_22 (by decide) (fun c_2 => ?_) (fun c_2 => ?_)
        · have hex : 8 = i := by
            have h9 := (nI_leI (a := 8) (b := i) (by decide) (by omega)).mp c_2
            omega
          subst hex
          refine lv_iinc (v := (nI y) + nI 1) (lv' := [(3, .int ((nI y) + nI 1)), (4, .int (nI 8)), (2, .int (itN 8 (mReI r) (itN y (fun _ b => itN 8 (mReI r) b) (r 0 g)))), (0, .ref (z 0)), (1, .int (nI g))]) hx hb dX7_reach_55 hl (k := 1) rfl (congrArg (fun q : Int32 => (nI y) + q) (by decide +kernel)) (by decide) rfl (fun ls hl => ?_)
          refine lv_goto (tgt := 9) hx hb dX7_reach_58 (by decide) ?_
          exact ih9 _ (by omega) trivial (lv_cv (show lv_has ls 5 [(3, .int ((nI y) + nI 1)), (2, .int (itN 8 (mReI r) (itN y (fun _ b => itN 8 (mReI r) b) (r 0 g)))), (0, .ref (z 0)), (1, .int (nI g))] from lv_sub hl [0, 2, 3, 4] rfl) (gl_i (show (nI y) + nI 1 = nI (y + 1) by first | with_reducible rfl | with_reducible exact nI_add _ _ | (simp only [itN_s y, mReI, eq_false c_1, eq_true c_2, ↓reduceIte, Bool.false_eq_true, decide_true, decide_false, Bool.not_true, Bool.not_false, Bool.or_true, Bool.true_or, Bool.or_false, Bool.false_or]; done) | (simp only [itN_s y, mReI, eq_false c_1, eq_true c_2, ↓reduceIte, Bool.false_eq_true, decide_true, decide_false, Bool.not_true, Bool.not_false, Bool.or_true, Bool.true_or, Bool.or_false, Bool.false_or]; with_reducible rfl) | (simp only [itN_s y, mReI, eq_false c_1, eq_true c_2, ↓reduceIte, Bool.false_eq_true, decide_true, decide_false, Bool.not_true, Bool.not_false, Bool.or_true, Bool.true_or, Bool.or_false, Bool.false_or]; rfl) | (simp [b2i, itN_s y, mReI, eq_false c_1, eq_true c_2]; done) | rfl) (gl_i (show itN 8 (mReI r) (itN y (fun _ b => itN 8 (mReI r) b) (r 0 g)) = itN (y + 1) (fun _ b => itN 8 (mReI r) b) (r 0 g) by first | with_reducible rfl | with_reducible exact nI_add _ _ | (simp only [itN_s y, mReI, eq_false c_1, eq_true c_2, ↓reduceIte, Bool.false_eq_true, decide_true, decide_false, Bool.not_true, Bool.not_false, Bool.or_true, Bool.true_or, Bool.or_false, Bool.false_or]; done) | (simp only [itN_s y, mReI, eq_false c_1, eq_true c_2, ↓reduceIte, Bool.false_eq_true, decide_true, decide_false, Bool.not_true, Bool.not_false, Bool.or_true, Bool.true_or, Bool.or_false, Bool.false_or]; with_reducible rfl) | (simp only [itN_s y, mReI, eq_false c_1, eq_true c_2, ↓reduceIte, Bool.false_eq_true, decide_true, decide_false, Bool.not_true, Bool.not_false, Bool.or_true, Bool.true_or, Bool.or_false, Bool.false_or]; rfl) | (simp [b2i, itN_s y, mReI, eq_false c_1, eq_true c_2]; done) | rfl) (gl_s (gl_s rfl)))))
        · have hlt : i < 8 := by
            have h9 := mt (nI_leI (a := 8) (b := i) (by decide) (by omega)).mpr c_2
            omega
          refine lv_iload_n hx hb dX7_reach_25 rfl (lv_at hl 2 rfl) ?_
          refine lv_iload_n hx hb dX7_reach_26 rfl (lv_at hl 2 rfl) ?_
          refine lv_iload hx hb dX7_reach_27 (lv_at hl 0 rfl) ?_
          refine lv_ishr hx hb dX7_reach_29 ?_
          refine lv_iconst (v := nI 1) hx hb dX7_reach_30 (by decide +kernel) ?_
          refine lv_iand hx hb dX7_reach_31 ?_
          refine lv_iconst (v := nI 1) hx hb dX7_reach_32 (by decide +kernel) ?_
          refine lv_icmp_ne (tgt := 46) hx hb dX7_reach_33 (by decide) (fun c_3 => ?_) (fun c_3 => ?_)
          · refine lv_iconst (v := nI 0) hx hb dX7_reach_46 (by decide +kernel) ?_
            refine lv_ior hx hb dX7_reach_47 ?_
            refine lv_istore_n (lv' := [(2, .int ((itN i (mReI r) (itN y (fun _ b => itN 8 (mReI r) b) (r 0 g))) ||| (nI 0))), (4, .int (nI i)), (3, .int (nI y)), (0, .ref (z 0)), (1, .int (nI g))]) hx hb dX7_reach_48 rfl hl (by decide) rfl (fun ls hl => ?_)
            refine lv_iinc (v := (nI i) + nI 1) (lv' := [(4, .int ((nI i) + nI 1)), (2, .int ((itN i (mReI r) (itN y (fun _ b => itN 8 (mReI r) b) (r 0 g))) ||| (nI 0))), (3, .int (nI y)), (0, .ref (z 0)), (1, .int (nI g))]) hx hb dX7_reach_49 hl (k := 1) rfl (congrArg (fun q : Int32 => (nI i) + q) (by decide +kernel)) (by decide) rfl (fun ls hl => ?_)
            refine lv_goto (tgt := 18) hx hb dX7_reach_52 (by decide) ?_
            exact ih18 _ (by omega) trivial (lv_cv (show lv_has ls 5 [(4, .int ((nI i) + nI 1)), (3, .int (nI y)), (2, .int ((itN i (mReI r) (itN y (fun _ b => itN 8 (mReI r) b) (r 0 g))) ||| (nI 0))), (0, .ref (z 0)), (1, .int (nI g))] from lv_sub hl [0, 2, 1, 3, 4] rfl) (gl_i (show (nI i) + nI 1 = nI (i + 1) by first | with_reducible rfl | with_reducible exact nI_add _ _ | (simp only [itN_s i, mReI, eq_false c_1, eq_false c_2, eq_false c_3, ↓reduceIte, Bool.false_eq_true, decide_true, decide_false, Bool.not_true, Bool.not_false, Bool.or_true, Bool.true_or, Bool.or_false, Bool.false_or]; done) | (simp only [itN_s i, mReI, eq_false c_1, eq_false c_2, eq_false c_3, ↓reduceIte, Bool.false_eq_true, decide_true, decide_false, Bool.not_true, Bool.not_false, Bool.or_true, Bool.true_or, Bool.or_false, Bool.false_or]; with_reducible rfl) | (simp only [itN_s i, mReI, eq_false c_1, eq_false c_2, eq_false c_3, ↓reduceIte, Bool.false_eq_true, decide_true, decide_false, Bool.not_true, Bool.not_false, Bool.or_true, Bool.true_or, Bool.or_false, Bool.false_or]; rfl) | (simp [b2i, itN_s i, mReI, eq_false c_1, eq_false c_2, eq_false c_3]; done) | rfl) (gl_s (gl_i (show (itN i (mReI r) (itN y (fun _ b => itN 8 (mReI r) b) (r 0 g))) ||| (nI 0) = itN (i + 1) (mReI r) (itN y (fun _ b => itN 8 (mReI r) b) (r 0 g)) by first | with_reducible rfl | with_reducible exact nI_add _ _ | (simp only [itN_s i, mReI, eq_false c_1, eq_false c_2, eq_false c_3, ↓reduceIte, Bool.false_eq_true, decide_true, decide_false, Bool.not_true, Bool.not_false, Bool.or_true, Bool.true_or, Bool.or_false, Bool.false_or]; done) | (simp only [itN_s i, mReI, eq_false c_1, eq_false c_2, eq_false c_3, ↓reduceIte, Bool.false_eq_true, decide_true, decide_false, Bool.not_true, Bool.not_false, Bool.or_true, Bool.true_or, Bool.or_false, Bool.false_or]; with_reducible rfl) | (simp only [itN_s i, mReI, eq_false c_1, eq_false c_2, eq_false c_3, ↓reduceIte, Bool.false_eq_true, decide_true, decide_false, Bool.not_true, Bool.not_false, Bool.or_true, Bool.true_or, Bool.or_false, Bool.false_or]; rfl) | (simp [b2i, itN_s i, mReI, eq_false c_1, eq_false c_2, eq_false c_3]; done) | rfl) (gl_s (gl_s rfl))))))
          · refine lv_aload_n hx hb dX7_reach_36 rfl (lv_at hl 3 rfl) ?_
            refine va_get (D := G.1) (ci := 7) (v := .ref (z 1)) (C := RX7) (T := TX7) (N := 26) hx hb hts hinX7 hown hK.1 hP 0 rfl rfl 3 (by decide) (hts (.fieldLink RX7 13 "RotaforgeModel" "needs" "[I") (by decide +kernel)) (fun _ h9 => h9) rfl dX7_reach_37 ?_
            refine lv_iload hx hb dX7_reach_40 (lv_at hl 0 rfl) ?_
            refine g_iald hx hb hK.1 hP 1 0 rfl rfl i (rfl) (by omega) (by decide) dX7_reach_42 ?_
            refine lv_goto (tgt := 47) hx hb dX7_reach_43 (by decide) ?_
            refine lv_ior hx hb dX7_reach_47 ?_
            refine lv_istore_n (lv' := [(2, .int ((itN i (mReI r) (itN y (fun _ b => itN 8 (mReI r) b) (r 0 g))) ||| ((r 0) i))), (4, .int (nI i)), (3, .int (nI y)), (0, .ref (z 0)), (1, .int (nI g))]) hx hb dX7_reach_48 rfl hl (by decide) rfl (fun ls hl => ?_)
            refine lv_iinc (v := (nI i) + nI 1) (lv' := [(4, .int ((nI i) + nI 1)), (2, .int ((itN i (mReI r) (itN y (fun _ b => itN 8 (mReI r) b) (r 0 g))) ||| ((r 0) i))), (3, .int (nI y)), (0, .ref (z 0)), (1, .int (nI g))]) hx hb dX7_reach_49 hl (k := 1) rfl (congrArg (fun q : Int32 => (nI i) + q) (by decide +kernel)) (by decide) rfl (fun ls hl => ?_)
            refine lv_goto (tgt := 18) hx hb dX7_reach_52 (by decide) ?_
            exact ih18 _ (by omega) trivial (lv_cv (show lv_has ls 5 [(4, .int ((nI i) + nI 1)), (3, .int (nI y)), (2, .int ((itN i (mReI r) (itN y (fun _ b => itN 8 (mReI r) b) (r 0 g))) ||| ((r 0) i))), (0, .ref (z 0)), (1, .int (nI g))] from lv_sub hl [0, 2, 1, 3, 4] rfl) (gl_i (show (nI i) + nI 1 = nI (i + 1) by first | with_reducible rfl | with_reducible exact nI_add _ _ | (simp only [itN_s i, mReI, eq_false c_1, eq_false c_2, eq_true c_3, ↓reduceIte, Bool.false_eq_true, decide_true, decide_false, Bool.not_true, Bool.not_false, Bool.or_true, Bool.true_or, Bool.or_false, Bool.false_or]; done) | (simp only [itN_s i, mReI, eq_false c_1, eq_false c_2, eq_true c_3, ↓reduceIte, Bool.false_eq_true, decide_true, decide_false, Bool.not_true, Bool.not_false, Bool.or_true, Bool.true_or, Bool.or_false, Bool.false_or]; with_reducible rfl) | (simp only [itN_s i, mReI, eq_false c_1, eq_false c_2, eq_true c_3, ↓reduceIte, Bool.false_eq_true, decide_true, decide_false, Bool.not_true, Bool.not_false, Bool.or_true, Bool.true_or, Bool.or_false, Bool.false_or]; rfl) | (simp [b2i, itN_s i, mReI, eq_false c_1, eq_false c_2, eq_true c_3]; done) | rfl) (gl_s (gl_i (show (itN i (mReI r) (itN y (fun _ b => itN 8 (mReI r) b) (r 0 g))) ||| ((r 0) i) = itN (i + 1) (mReI r) (itN y (fun _ b => itN 8 (mReI r) b) (r 0 g)) by first | with_reducible rfl | with_reducible exact nI_add _ _ | (simp only [itN_s i, mReI, eq_false c_1, eq_false c_2, eq_true c_3, ↓reduceIte, Bool.false_eq_true, decide_true, decide_false, Bool.not_true, Bool.not_false, Bool.or_true, Bool.true_or, Bool.or_false, Bool.false_or]; done) | (simp only [itN_s i, mReI, eq_false c_1, eq_false c_2, eq_true c_3, ↓reduceIte, Bool.false_eq_true, decide_true, decide_false, Bool.not_true, Bool.not_false, Bool.or_true, Bool.true_or, Bool.or_false, Bool.false_or]; with_reducible rfl) | (simp only [itN_s i, mReI, eq_false c_1, eq_false c_2, eq_true c_3, ↓reduceIte, Bool.false_eq_true, decide_true, decide_false, Bool.not_true, Bool.not_false, Bool.or_true, Bool.true_or, Bool.or_false, Bool.false_or]; rfl) | (simp [b2i, itN_s i, mReI, eq_false c_1, eq_false c_2, eq_true c_3]; done) | rfl) (gl_s (gl_s rfl))))))
      · exact (lv_cv (show lv_has ls 5 [(4, .int (nI 0)), (3, .int (nI y)), (2, .int (itN y (fun _ b => itN 8 (mReI r) b) (r 0 g))), (0, .ref (z 0)), (1, .int (nI g))] from lv_sub hl [0, 1, 2, 3, 4] rfl) (gl_s (gl_s (gl_i (show itN y (fun _ b => itN 8 (mReI r) b) (r 0 g) = itN 0 (mReI r) (itN y (fun _ b => itN 8 (mReI r) b) (r 0 g)) by first | with_reducible rfl | with_reducible exact nI_add _ _ | (simp only [mReI, eq_false c_1, ↓reduceIte, Bool.false_eq_true, decide_true, decide_false, Bool.not_true, Bool.not_false, Bool.or_true, Bool.true_or, Bool.or_false, Bool.false_or]; done) | (simp only [mReI, eq_false c_1, ↓reduceIte, Bool.false_eq_true, decide_true, decide_false, Bool.not_true, Bool.not_false, Bool.or_true, Bool.true_or, Bool.or_false, Bool.false_or]; with_reducible rfl) | (simp only [mReI, eq_false c_1, ↓reduceIte, Bool.false_eq_true, decide_true, decide_false, Bool.not_true, Bool.not_false, Bool.or_true, Bool.true_or, Bool.or_false, Bool.false_or]; rfl) | (simp [b2i, mReI, eq_false c_1]; done) | rfl) (gl_s (gl_s rfl))))))
  · exact (lv_cv (show lv_has ls 5 [(3, .int (nI 0)), (2, .int ((r 0) g)), (0, .ref (z 0)), (1, .int (nI g))] from lv_sub hl [0, 1, 2, 3] rfl) (gl_s (gl_i (show (r 0) g = itN 0 (fun _ b => itN 8 (mReI r) b) (r 0 g) by first | with_reducible rfl | with_reducible exact nI_add _ _ | (simp only [mReI, ↓reduceIte, Bool.false_eq_true, decide_true, decide_false, Bool.not_true, Bool.not_false, Bool.or_true, Bool.true_or, Bool.or_false, Bool.false_or]; done) | (simp only [mReI, ↓reduceIte, Bool.false_eq_true, decide_true, decide_false, Bool.not_true, Bool.not_false, Bool.or_true, Bool.true_or, Bool.or_false, Bool.false_or]; with_reducible rfl) | (simp only [mReI, ↓reduceIte, Bool.false_eq_true, decide_true, decide_false, Bool.not_true, Bool.not_false, Bool.or_true, Bool.true_or, Bool.or_false, Bool.false_or]; rfl) | (simp [b2i, mReI]; done) | rfl) (gl_s (gl_s rfl)))))

set_option maxHeartbeats 4000000 in
set_option maxRecDepth 100000 in
theorem c_X7_latest (l : Launch) (G : gG) (H0 : Heap) (z : Nat → Nat) (r : Nat → Nat → Int32) (f : Nat → Int32) (hP : va_P G.1 vwCl (wRM G z r f) H0) (x1 : Int32) (x2 : Int32) (x3 : Int32) (n d k t : Nat) (hM : mOK r f n d k t) : gMr l yX7_latest wsX7_latest 0 0 G H0 [.ref (z 0), .int x1, .int x2, .int x3] (mLatest r n x1 x2 x3) := by
  refine Met.ofW (cc := cX7_latest) (maxL := 6) (ret := (some .int)) (by decide) rfl ?_
  intro p_ e_ s m args below meth c s₁ B hml hv
  obtain ⟨rfl, rfl, hK⟩ := hv
  have hx := B.exec
  have hb := B.bytes
  have hr := B.returns
  have hts := atoms_spec (ws := wsX7_latest) B.pre
  have hown : s.vm.findClass RX7 = some m.cls := findClass_of_methodNamed B.named
  have hlocks := B.notSynchronized
  have hinX7 : ∀ w ∈ wsX70, w ∈ wsX7_latest := by decide +kernel
  have S0 : CallFix p_ m c cX7_latest 6 s _ wsX7_latest RX7 := ⟨hx, hb, hml, hown, hts⟩
  have hl := lv_entry ([.ref (z 0), .int x1, .int x2, .int x3]) (n := 6) (Nat.le_of_ble_eq_true rfl)
  rw [lg_entry_eq]
  generalize (lg_sl ([.ref (z 0), .int x1, .int x2, .int x3]) ++ List.replicate (6 - (lg_sl ([.ref (z 0), .int x1, .int x2, .int x3])).length) Slot.unset).toArray = ls at hl ⊢
  have hl : lv_has ls 6 [(0, .ref (z 0)), (1, .int x1), (2, .int x2), (3, .int x3)] := hl
  obtain ⟨hn, hn2, hd, hd2, hk, hk2, ht, ht2, hh, hm⟩ := id hM
  refine lv_iconst (v := (-1)) hx hb dX7_latest_0 (by decide +kernel) ?_
  refine lv_istore (lv' := [(4, .int (-1)), (0, .ref (z 0)), (1, .int x1), (2, .int x2), (3, .int x3)]) hx hb dX7_latest_1 hl (by decide) rfl (fun ls hl => ?_)
  refine lv_iconst (v := nI 0) hx hb dX7_latest_3 (by decide +kernel) ?_
  refine lv_istore (lv' := [(5, .int (nI 0)), (4, .int (-1)), (0, .ref (z 0)), (1, .int x1), (2, .int x2), (3, .int x3)]) hx hb dX7_latest_4 hl (by decide) rfl (fun ls hl => ?_)
  refine g_loop _ m 6 6 [] (n) (fun i => [(5, .int (nI i)), (4, .int (lastN i (mIs r x1 x2 x3))), (0, .ref (z 0)), (1, .int x1), (2, .int x2), (3, .int x3)]) (fun i => True) (fun i hi6 hI ih6 ls hl => ?_) 0 (Nat.zero_le _) trivial ls ?_
  · have hl : lv_has ls 6 [(5, .int (nI i)), (4, .int (lastN i (mIs r x1 x2 x3))), (0, .ref (z 0)), (1, .int x1), (2, .int x2), (3, .int x3)] := hl
    have hI : True := hI
    refine lv_iload hx hb dX7_latest_6 (lv_at hl 0 rfl) ?_
    refine lv_aload_n hx hb dX7_latest_8 rfl (lv_at hl 2 rfl) ?_
    refine va_get (D := G.1) (ci := 7) (v := .int (f 4)) (C := RX7) (T := TX7) (N := 26) hx hb hts hinX7 hown hK.1 hP 0 rfl rfl 8 (by decide) (hts (.fieldLink RX7 79 "RotaforgeModel" "changeMany" "I") (by decide +kernel)) (fun _ h9 => h9) rfl dX7_latest_9 ?_
    refine lv_icmp_ge (tgt := 58) hx hb dX7_latest_12 (by decide) (fun c_1 => ?_) (fun c_1 => ?_)
    · have hex : n = i := by
        rw [hn] at c_1
        have h9 := (nI_leI (a := n) (b := i) (by omega) (by omega)).mp c_1
        omega
      subst hex
      refine lv_iload hx hb dX7_latest_58 (lv_at hl 1 rfl) ?_
      have hq : (lastN n (mIs r x1 x2 x3)) = (mLatest r n x1 x2 x3) := by
        first | with_reducible rfl | with_reducible exact nI_add _ _ | (simp only [lastN, mIs, eq_true c_1, ↓reduceIte, Bool.false_eq_true, decide_true, decide_false, Bool.not_true, Bool.not_false, Bool.or_true, Bool.true_or, Bool.or_false, Bool.false_or]; done) | (simp only [lastN, mIs, eq_true c_1, ↓reduceIte, Bool.false_eq_true, decide_true, decide_false, Bool.not_true, Bool.not_false, Bool.or_true, Bool.true_or, Bool.or_false, Bool.false_or]; with_reducible rfl) | (simp only [lastN, mIs, eq_true c_1, ↓reduceIte, Bool.false_eq_true, decide_true, decide_false, Bool.not_true, Bool.not_false, Bool.or_true, Bool.true_or, Bool.or_false, Bool.false_or]; rfl) | (simp [b2i, lastN, mIs, eq_true c_1]; done) | rfl
      exact W.iret (v := lastN n (mIs r x1 x2 x3)) hx hb hr (fun t ht _ => g_ret hq ht) g_no dX7_latest_60
    · have hlt : i < n := by
        rw [hn] at c_1
        have h9 := mt (nI_leI (a := n) (b := i) (by omega) (by omega)).mpr c_1
        omega
      refine lv_iload hx hb dX7_latest_15 (lv_at hl 0 rfl) ?_
      refine lv_iload_n hx hb dX7_latest_17 rfl (lv_at hl 5 rfl) ?_
      refine g_join m 50 6 [(5, .int (nI i)), (4, .int (lastN i (mIs r x1 x2 x3))), (0, .ref (z 0)), (1, .int x1), (2, .int x2), (3, .int x3)] [.int (lastN (i + 1) (mIs r x1 x2 x3))] (fun ls hl => ?_) (fun hJ50 => ?_)
      · refine lv_istore (lv' := [(4, .int (lastN (i + 1) (mIs r x1 x2 x3))), (5, .int (nI i)), (0, .ref (z 0)), (1, .int x1), (2, .int x2), (3, .int x3)]) hx hb dX7_latest_50 hl (by decide) rfl (fun ls hl => ?_)
        refine lv_iinc (v := (nI i) + nI 1) (lv' := [(5, .int ((nI i) + nI 1)), (4, .int (lastN (i + 1) (mIs r x1 x2 x3))), (0, .ref (z 0)), (1, .int x1), (2, .int x2), (3, .int x3)]) hx hb dX7_latest_52 hl (k := 1) rfl (congrArg (fun q : Int32 => (nI i) + q) (by decide +kernel)) (by decide) rfl (fun ls hl => ?_)
        refine lv_goto (tgt := 6) hx hb dX7_latest_55 (by decide) ?_
        exact ih6 _ (by omega) trivial (lv_cv (show lv_has ls 6 [(5, .int ((nI i) + nI 1)), (4, .int (lastN (i + 1) (mIs r x1 x2 x3))), (0, .ref (z 0)), (1, .int x1), (2, .int x2), (3, .int x3)] from lv_sub hl [0, 1, 2, 3, 4, 5] rfl) (gl_i (show (nI i) + nI 1 = nI (i + 1) by first | with_reducible rfl | with_reducible exact nI_add _ _ | (simp only [itN_s i, lastN, mIs, eq_false c_1, ↓reduceIte, Bool.false_eq_true, decide_true, decide_false, Bool.not_true, Bool.not_false, Bool.or_true, Bool.true_or, Bool.or_false, Bool.false_or]; done) | (simp only [itN_s i, lastN, mIs, eq_false c_1, ↓reduceIte, Bool.false_eq_true, decide_true, decide_false, Bool.not_true, Bool.not_false, Bool.or_true, Bool.true_or, Bool.or_false, Bool.false_or]; with_reducible rfl) | (simp only [itN_s i, lastN, mIs, eq_false c_1, ↓reduceIte, Bool.false_eq_true, decide_true, decide_false, Bool.not_true, Bool.not_false, Bool.or_true, Bool.true_or, Bool.or_false, Bool.false_or]; rfl) | (simp [b2i, itN_s i, lastN, mIs, eq_false c_1]; done) | rfl) (gl_s (gl_s (gl_s (gl_s (gl_s rfl)))))))
      · refine lv_icmp_eq (tgt := 48) hx hb dX7_latest_18 (by decide) (fun c_2 => ?_) (fun c_2 => ?_)
        · refine lv_iload hx hb dX7_latest_48 (lv_at hl 1 rfl) ?_
          refine W.eq (g2 := F0 m 50 ls [.int (lastN (i + 1) (mIs r x1 x2 x3))]) (g_st (gs_i (show lastN i (mIs r x1 x2 x3) = lastN (i + 1) (mIs r x1 x2 x3) by first | with_reducible rfl | with_reducible exact nI_add _ _ | (simp only [lastN, mIs, eq_false c_1, eq_true c_2, ↓reduceIte, Bool.false_eq_true, decide_true, decide_false, Bool.not_true, Bool.not_false, Bool.or_true, Bool.true_or, Bool.or_false, Bool.false_or]; done) | (simp only [lastN, mIs, eq_false c_1, eq_true c_2, ↓reduceIte, Bool.false_eq_true, decide_true, decide_false, Bool.not_true, Bool.not_false, Bool.or_true, Bool.true_or, Bool.or_false, Bool.false_or]; with_reducible rfl) | (simp only [lastN, mIs, eq_false c_1, eq_true c_2, ↓reduceIte, Bool.false_eq_true, decide_true, decide_false, Bool.not_true, Bool.not_false, Bool.or_true, Bool.true_or, Bool.or_false, Bool.false_or]; rfl) | (simp [b2i, lastN, mIs, eq_false c_1, eq_true c_2]; done) | rfl) rfl)) ?_
          exact hJ50 _ (show lv_has ls 6 [(5, .int (nI i)), (4, .int (lastN i (mIs r x1 x2 x3))), (0, .ref (z 0)), (1, .int x1), (2, .int x2), (3, .int x3)] from lv_sub hl [0, 1, 2, 3, 4, 5] rfl)
        · refine lv_aload_n hx hb dX7_latest_21 rfl (lv_at hl 2 rfl) ?_
          refine va_get (D := G.1) (ci := 7) (v := .ref (z 6)) (C := RX7) (T := TX7) (N := 26) hx hb hts hinX7 hown hK.1 hP 0 rfl rfl 10 (by decide) (hts (.fieldLink RX7 30 "RotaforgeModel" "sorts" "[I") (by decide +kernel)) (fun _ h9 => h9) rfl dX7_latest_22 ?_
          refine lv_iload hx hb dX7_latest_25 (lv_at hl 0 rfl) ?_
          refine g_iald hx hb hK.1 hP 6 0 rfl rfl i (rfl) (by omega) (by decide) dX7_latest_27 ?_
          refine lv_iload_n hx hb dX7_latest_28 rfl (lv_at hl 3 rfl) ?_
          refine lv_icmp_ne (tgt := 48) hx hb dX7_latest_29 (by decide) (fun c_3 => ?_) (fun c_3 => ?_)
          · refine lv_iload hx hb dX7_latest_48 (lv_at hl 1 rfl) ?_
            refine W.eq (g2 := F0 m 50 ls [.int (lastN (i + 1) (mIs r x1 x2 x3))]) (g_st (gs_i (show lastN i (mIs r x1 x2 x3) = lastN (i + 1) (mIs r x1 x2 x3) by first | with_reducible rfl | with_reducible exact nI_add _ _ | (simp only [lastN, mIs, eq_false c_1, eq_false c_2, eq_false c_3, ↓reduceIte, Bool.false_eq_true, decide_true, decide_false, Bool.not_true, Bool.not_false, Bool.or_true, Bool.true_or, Bool.or_false, Bool.false_or]; done) | (simp only [lastN, mIs, eq_false c_1, eq_false c_2, eq_false c_3, ↓reduceIte, Bool.false_eq_true, decide_true, decide_false, Bool.not_true, Bool.not_false, Bool.or_true, Bool.true_or, Bool.or_false, Bool.false_or]; with_reducible rfl) | (simp only [lastN, mIs, eq_false c_1, eq_false c_2, eq_false c_3, ↓reduceIte, Bool.false_eq_true, decide_true, decide_false, Bool.not_true, Bool.not_false, Bool.or_true, Bool.true_or, Bool.or_false, Bool.false_or]; rfl) | (simp [b2i, lastN, mIs, eq_false c_1, eq_false c_2, eq_false c_3]; done) | rfl) rfl)) ?_
            exact hJ50 _ (show lv_has ls 6 [(5, .int (nI i)), (4, .int (lastN i (mIs r x1 x2 x3))), (0, .ref (z 0)), (1, .int x1), (2, .int x2), (3, .int x3)] from lv_sub hl [0, 1, 2, 3, 4, 5] rfl)
          · refine lv_aload_n hx hb dX7_latest_32 rfl (lv_at hl 2 rfl) ?_
            refine va_get (D := G.1) (ci := 7) (v := .ref (z 7)) (C := RX7) (T := TX7) (N := 26) hx hb hts hinX7 hown hK.1 hP 0 rfl rfl 11 (by decide) (hts (.fieldLink RX7 33 "RotaforgeModel" "targets" "[I") (by decide +kernel)) (fun _ h9 => h9) rfl dX7_latest_33 ?_
            refine lv_iload hx hb dX7_latest_36 (lv_at hl 0 rfl) ?_
            refine g_iald hx hb hK.1 hP 7 0 rfl rfl i (rfl) (by omega) (by decide) dX7_latest_38 ?_
            refine lv_iload_n hx hb dX7_latest_39 rfl (lv_at hl 4 rfl) ?_
            refine lv_icmp_ne (tgt := 48) hx hb dX7_latest_40 (by decide) (fun c_4 => ?_) (fun c_4 => ?_)
            · refine lv_iload hx hb dX7_latest_48 (lv_at hl 1 rfl) ?_
              refine W.eq (g2 := F0 m 50 ls [.int (lastN (i + 1) (mIs r x1 x2 x3))]) (g_st (gs_i (show lastN i (mIs r x1 x2 x3) = lastN (i + 1) (mIs r x1 x2 x3) by first | with_reducible rfl | with_reducible exact nI_add _ _ | (simp only [lastN, mIs, eq_false c_1, eq_false c_2, eq_true c_3, eq_false c_4, ↓reduceIte, Bool.false_eq_true, decide_true, decide_false, Bool.not_true, Bool.not_false, Bool.or_true, Bool.true_or, Bool.or_false, Bool.false_or]; done) | (simp only [lastN, mIs, eq_false c_1, eq_false c_2, eq_true c_3, eq_false c_4, ↓reduceIte, Bool.false_eq_true, decide_true, decide_false, Bool.not_true, Bool.not_false, Bool.or_true, Bool.true_or, Bool.or_false, Bool.false_or]; with_reducible rfl) | (simp only [lastN, mIs, eq_false c_1, eq_false c_2, eq_true c_3, eq_false c_4, ↓reduceIte, Bool.false_eq_true, decide_true, decide_false, Bool.not_true, Bool.not_false, Bool.or_true, Bool.true_or, Bool.or_false, Bool.false_or]; rfl) | (simp [b2i, lastN, mIs, eq_false c_1, eq_false c_2, eq_true c_3, eq_false c_4]; done) | rfl) rfl)) ?_
              exact hJ50 _ (show lv_has ls 6 [(5, .int (nI i)), (4, .int (lastN i (mIs r x1 x2 x3))), (0, .ref (z 0)), (1, .int x1), (2, .int x2), (3, .int x3)] from lv_sub hl [0, 1, 2, 3, 4, 5] rfl)
            · refine lv_iload hx hb dX7_latest_43 (lv_at hl 0 rfl) ?_
              refine lv_goto (tgt := 50) hx hb dX7_latest_45 (by decide) ?_
              refine W.eq (g2 := F0 m 50 ls [.int (lastN (i + 1) (mIs r x1 x2 x3))]) (g_st (gs_i (show nI i = lastN (i + 1) (mIs r x1 x2 x3) by first | with_reducible rfl | with_reducible exact nI_add _ _ | (simp only [lastN, mIs, eq_false c_1, eq_false c_2, eq_true c_3, eq_true c_4, ↓reduceIte, Bool.false_eq_true, decide_true, decide_false, Bool.not_true, Bool.not_false, Bool.or_true, Bool.true_or, Bool.or_false, Bool.false_or]; done) | (simp only [lastN, mIs, eq_false c_1, eq_false c_2, eq_true c_3, eq_true c_4, ↓reduceIte, Bool.false_eq_true, decide_true, decide_false, Bool.not_true, Bool.not_false, Bool.or_true, Bool.true_or, Bool.or_false, Bool.false_or]; with_reducible rfl) | (simp only [lastN, mIs, eq_false c_1, eq_false c_2, eq_true c_3, eq_true c_4, ↓reduceIte, Bool.false_eq_true, decide_true, decide_false, Bool.not_true, Bool.not_false, Bool.or_true, Bool.true_or, Bool.or_false, Bool.false_or]; rfl) | (simp [b2i, lastN, mIs, eq_false c_1, eq_false c_2, eq_true c_3, eq_true c_4]; done) | rfl) rfl)) ?_
              exact hJ50 _ (show lv_has ls 6 [(5, .int (nI i)), (4, .int (lastN i (mIs r x1 x2 x3))), (0, .ref (z 0)), (1, .int x1), (2, .int x2), (3, .int x3)] from lv_sub hl [0, 1, 2, 3, 4, 5] rfl)
  · exact (lv_cv (show lv_has ls 6 [(5, .int (nI 0)), (4, .int (-1)), (0, .ref (z 0)), (1, .int x1), (2, .int x2), (3, .int x3)] from lv_sub hl [0, 1, 2, 3, 4, 5] rfl) (gl_s (gl_i (show (-1) = lastN 0 (mIs r x1 x2 x3) by first | with_reducible rfl | with_reducible exact nI_add _ _ | (simp only [lastN, mIs, ↓reduceIte, Bool.false_eq_true, decide_true, decide_false, Bool.not_true, Bool.not_false, Bool.or_true, Bool.true_or, Bool.or_false, Bool.false_or]; done) | (simp only [lastN, mIs, ↓reduceIte, Bool.false_eq_true, decide_true, decide_false, Bool.not_true, Bool.not_false, Bool.or_true, Bool.true_or, Bool.or_false, Bool.false_or]; with_reducible rfl) | (simp only [lastN, mIs, ↓reduceIte, Bool.false_eq_true, decide_true, decide_false, Bool.not_true, Bool.not_false, Bool.or_true, Bool.true_or, Bool.or_false, Bool.false_or]; rfl) | (simp [b2i, lastN, mIs]; done) | rfl) (gl_s (gl_s (gl_s (gl_s rfl)))))))

set_option maxHeartbeats 4000000 in
set_option maxRecDepth 100000 in
theorem c_X7_valueOf (l : Launch) (G : gG) (H0 : Heap) (z : Nat → Nat) (r : Nat → Nat → Int32) (f : Nat → Int32) (hP : va_P G.1 vwCl (wRM G z r f) H0) (x1 : Int32) (x2 : Int32) (x3 : Int32) (n d k t : Nat) (hM : mOK r f n d k t) : gMr l yX7_valueOf wsX7_valueOf 1 25 G H0 [.ref (z 0), .int x1, .int x2, .int x3] (mVal r n x1 x2 x3) := by
  refine Met.ofW (cc := cX7_valueOf) (maxL := 5) (ret := (some .int)) (by decide) rfl ?_
  intro p_ e_ s m args below meth c s₁ B hml hv
  obtain ⟨rfl, rfl, hK⟩ := hv
  have hx := B.exec
  have hb := B.bytes
  have hr := B.returns
  have hts := atoms_spec (ws := wsX7_valueOf) B.pre
  have hown : s.vm.findClass RX7 = some m.cls := findClass_of_methodNamed B.named
  have hlocks := B.notSynchronized
  have hinX7 : ∀ w ∈ wsX70, w ∈ wsX7_valueOf := by decide +kernel
  have S0 : CallFix p_ m c cX7_valueOf 5 s _ wsX7_valueOf RX7 := ⟨hx, hb, hml, hown, hts⟩
  have hl := lv_entry ([.ref (z 0), .int x1, .int x2, .int x3]) (n := 5) (Nat.le_of_ble_eq_true rfl)
  rw [lg_entry_eq]
  generalize (lg_sl ([.ref (z 0), .int x1, .int x2, .int x3]) ++ List.replicate (5 - (lg_sl ([.ref (z 0), .int x1, .int x2, .int x3])).length) Slot.unset).toArray = ls at hl ⊢
  have hl : lv_has ls 5 [(0, .ref (z 0)), (1, .int x1), (2, .int x2), (3, .int x3)] := hl
  obtain ⟨hn, hn2, hd, hd2, hk, hk2, ht, ht2, hh, hm⟩ := id hM
  refine lv_aload_n hx hb dX7_valueOf_0 rfl (lv_at hl 0 rfl) ?_
  refine lv_iload_n hx hb dX7_valueOf_1 rfl (lv_at hl 1 rfl) ?_
  refine lv_iload_n hx hb dX7_valueOf_2 rfl (lv_at hl 2 rfl) ?_
  refine lv_iload_n hx hb dX7_valueOf_3 rfl (lv_at hl 3 rfl) ?_
  refine g_callC (W.runV (C := RX7) (As := [.int x1, .int x2, .int x3]) (rest := []) S0 (c_X7_latest l G _ z r f hP x1 x2 x3 n d k t hM) (cwV 3 hts gX7_valueOf_X7_latest rfl rfl rfl (by decide +kernel) ⟨Nat.le_of_ble_eq_true rfl, Nat.le_of_ble_eq_true rfl⟩) (g_preV hK hP (q0 := 0) (ci := 7) (q := (RX7, TX7, 26)) rfl rfl) rfl rfl hl.1 rfl (lv_room (Nat.le_of_ble_eq_true rfl)) dX7_valueOf_4 ⟨Nat.zero_le _, Nat.zero_le _⟩) ?_
  refine lv_istore (lv' := [(4, .int (mLatest r n x1 x2 x3)), (0, .ref (z 0)), (1, .int x1), (2, .int x2), (3, .int x3)]) hx hb dX7_valueOf_7 hl (by decide) rfl (fun ls hl => ?_)
  refine lv_iload hx hb dX7_valueOf_9 (lv_at hl 0 rfl) ?_
  refine lv_iconst (v := (-1)) hx hb dX7_valueOf_11 (by decide +kernel) ?_
  refine lv_icmp_ne (tgt := 19) hx hb dX7_valueOf_12 (by decide) (fun c_1 => ?_) (fun c_1 => ?_)
  · refine lv_aload_n hx hb dX7_valueOf_19 rfl (lv_at hl 1 rfl) ?_
    refine va_get (D := G.1) (ci := 7) (v := .ref (z 8)) (C := RX7) (T := TX7) (N := 26) hx hb hts hinX7 hown hK.1 hP 0 rfl rfl 12 (by decide) (hts (.fieldLink RX7 36 "RotaforgeModel" "values" "[I") (by decide +kernel)) (fun _ h9 => h9) rfl dX7_valueOf_20 ?_
    refine lv_iload hx hb dX7_valueOf_23 (lv_at hl 0 rfl) ?_
    refine va_iald hx hb hK.1 hP 8 0 rfl rfl (lastN_in c_1 hn2 (by decide)) dX7_valueOf_25 ?_
    have hq : ((r 7) (mLatest r n x1 x2 x3).toNatClampNeg) = (mVal r n x1 x2 x3) := by
      first | with_reducible rfl | with_reducible exact nI_add _ _ | (simp only [mVal, eq_false c_1, ↓reduceIte, Bool.false_eq_true, decide_true, decide_false, Bool.not_true, Bool.not_false, Bool.or_true, Bool.true_or, Bool.or_false, Bool.false_or]; done) | (simp only [mVal, eq_false c_1, ↓reduceIte, Bool.false_eq_true, decide_true, decide_false, Bool.not_true, Bool.not_false, Bool.or_true, Bool.true_or, Bool.or_false, Bool.false_or]; with_reducible rfl) | (simp only [mVal, eq_false c_1, ↓reduceIte, Bool.false_eq_true, decide_true, decide_false, Bool.not_true, Bool.not_false, Bool.or_true, Bool.true_or, Bool.or_false, Bool.false_or]; rfl) | (simp [b2i, mVal, eq_false c_1]; done) | rfl
    exact W.iret (v := (r 7) (mLatest r n x1 x2 x3).toNatClampNeg) hx hb hr (fun t ht _ => g_ret hq ht) g_no dX7_valueOf_26
  · refine lv_iconst (v := nI 0) hx hb dX7_valueOf_15 (by decide +kernel) ?_
    refine lv_goto (tgt := 26) hx hb dX7_valueOf_16 (by decide) ?_
    have hq : (nI 0) = (mVal r n x1 x2 x3) := by
      first | with_reducible rfl | with_reducible exact nI_add _ _ | (simp only [mVal, eq_true c_1, ↓reduceIte, Bool.false_eq_true, decide_true, decide_false, Bool.not_true, Bool.not_false, Bool.or_true, Bool.true_or, Bool.or_false, Bool.false_or]; done) | (simp only [mVal, eq_true c_1, ↓reduceIte, Bool.false_eq_true, decide_true, decide_false, Bool.not_true, Bool.not_false, Bool.or_true, Bool.true_or, Bool.or_false, Bool.false_or]; with_reducible rfl) | (simp only [mVal, eq_true c_1, ↓reduceIte, Bool.false_eq_true, decide_true, decide_false, Bool.not_true, Bool.not_false, Bool.or_true, Bool.true_or, Bool.or_false, Bool.false_or]; rfl) | (simp [b2i, mVal, eq_true c_1]; done) | rfl
    exact W.iret (v := nI 0) hx hb hr (fun t ht _ => g_ret hq ht) g_no dX7_valueOf_26

set_option maxHeartbeats 4000000 in
set_option maxRecDepth 100000 in
theorem c_X7_ons (l : Launch) (G : gG) (H0 : Heap) (z : Nat → Nat) (r : Nat → Nat → Int32) (f : Nat → Int32) (hP : va_P G.1 vwCl (wRM G z r f) H0) (x1 : Int32) (x2 : Int32) (n d k t : Nat) (hM : mOK r f n d k t) : gMr l yX7_ons wsX7_ons 2 49 G H0 [.ref (z 0), .int x1, .int x2] (mOns r n x1 x2) := by
  refine Met.ofW (cc := cX7_ons) (maxL := 6) (ret := (some .int)) (by decide) rfl ?_
  intro p_ e_ s m args below meth c s₁ B hml hv
  obtain ⟨rfl, rfl, hK⟩ := hv
  have hx := B.exec
  have hb := B.bytes
  have hr := B.returns
  have hts := atoms_spec (ws := wsX7_ons) B.pre
  have hown : s.vm.findClass RX7 = some m.cls := findClass_of_methodNamed B.named
  have hlocks := B.notSynchronized
  have hinX7 : ∀ w ∈ wsX70, w ∈ wsX7_ons := by decide +kernel
  have S0 : CallFix p_ m c cX7_ons 6 s _ wsX7_ons RX7 := ⟨hx, hb, hml, hown, hts⟩
  have hl := lv_entry ([.ref (z 0), .int x1, .int x2]) (n := 6) (Nat.le_of_ble_eq_true rfl)
  rw [lg_entry_eq]
  generalize (lg_sl ([.ref (z 0), .int x1, .int x2]) ++ List.replicate (6 - (lg_sl ([.ref (z 0), .int x1, .int x2])).length) Slot.unset).toArray = ls at hl ⊢
  have hl : lv_has ls 6 [(0, .ref (z 0)), (1, .int x1), (2, .int x2)] := hl
  obtain ⟨hn, hn2, hd, hd2, hk, hk2, ht, ht2, hh, hm⟩ := id hM
  refine lv_iconst (v := nI 0) hx hb dX7_ons_0 (by decide +kernel) ?_
  refine lv_istore_n (lv' := [(3, .int (nI 0)), (0, .ref (z 0)), (1, .int x1), (2, .int x2)]) hx hb dX7_ons_1 rfl hl (by decide) rfl (fun ls hl => ?_)
  refine lv_iconst (v := nI 0) hx hb dX7_ons_2 (by decide +kernel) ?_
  refine lv_istore (lv' := [(4, .int (nI 0)), (3, .int (nI 0)), (0, .ref (z 0)), (1, .int x1), (2, .int x2)]) hx hb dX7_ons_3 hl (by decide) rfl (fun ls hl => ?_)
  refine g_loop _ m 5 6 [] (8) (fun i => [(4, .int (nI i)), (3, .int (itN i (mO1 r n x1 x2) (nI 0))), (0, .ref (z 0)), (1, .int x1), (2, .int x2)]) (fun i => True) (fun i hi5 hI ih5 ls hl => ?_) 0 (Nat.zero_le _) trivial ls ?_
  · have hl : lv_has ls 6 [(4, .int (nI i)), (3, .int (itN i (mO1 r n x1 x2) (nI 0))), (0, .ref (z 0)), (1, .int x1), (2, .int x2)] := hl
    have hI : True := hI
    refine lv_iload hx hb dX7_ons_5 (lv_at hl 0 rfl) ?_
    refine lv_bipush (v := nI 8) hx hb dX7_ons_7 (by decide +kernel) ?_
    refine lv_icmp_ge (tgt := 41) hx hb dX7_ons_9 (by decide) (fun c_1 => ?_) (fun c_1 => ?_)
    · have hex : 8 = i := by
        have h9 := (nI_leI (a := 8) (b := i) (by decide) (by omega)).mp c_1
        omega
      subst hex
      refine lv_iconst (v := nI 0) hx hb dX7_ons_41 (by decide +kernel) ?_
      refine lv_istore (lv' := [(4, .int (nI 0)), (3, .int (itN 8 (mO1 r n x1 x2) (nI 0))), (0, .ref (z 0)), (1, .int x1), (2, .int x2)]) hx hb dX7_ons_42 hl (by decide) rfl (fun ls hl => ?_)
      refine g_loop _ m 44 6 [] (8) (fun y => [(4, .int (nI y)), (3, .int (itN y (fun _ b => itN 8 (mO2 r) b) (itN 8 (mO1 r n x1 x2) (nI 0)))), (0, .ref (z 0)), (1, .int x1), (2, .int x2)]) (fun y => True) (fun y hi44 hI ih44 ls hl => ?_) 0 (Nat.zero_le _) trivial ls ?_
      · have hl : lv_has ls 6 [(4, .int (nI y)), (3, .int (itN y (fun _ b => itN 8 (mO2 r) b) (itN 8 (mO1 r n x1 x2) (nI 0)))), (0, .ref (z 0)), (1, .int x1), (2, .int x2)] := hl
        have hI : True := hI
        refine lv_iload hx hb dX7_ons_44 (lv_at hl 0 rfl) ?_
        refine lv_bipush (v := nI 8) hx hb dX7_ons_46 (by decide +kernel) ?_
        refine lv_icmp_ge (tgt := 100) hx hb dX7_ons_48 (by decide) (fun c_2 => ?_) (fun c_2 => ?_)
        · have hex : 8 = y := by
            have h9 := (nI_leI (a := 8) (b := y) (by decide) (by omega)).mp c_2
            omega
          subst hex
          refine lv_iload_n hx hb dX7_ons_100 rfl (lv_at hl 1 rfl) ?_
          have hq : (itN 8 (fun _ b => itN 8 (mO2 r) b) (itN 8 (mO1 r n x1 x2) (nI 0))) = (mOns r n x1 x2) := by
            first | with_reducible rfl | with_reducible exact nI_add _ _ | (simp only [eq_true c_1, eq_true c_2, ↓reduceIte, Bool.false_eq_true, decide_true, decide_false, Bool.not_true, Bool.not_false, Bool.or_true, Bool.true_or, Bool.or_false, Bool.false_or]; done) | (simp only [eq_true c_1, eq_true c_2, ↓reduceIte, Bool.false_eq_true, decide_true, decide_false, Bool.not_true, Bool.not_false, Bool.or_true, Bool.true_or, Bool.or_false, Bool.false_or]; with_reducible rfl) | (simp only [eq_true c_1, eq_true c_2, ↓reduceIte, Bool.false_eq_true, decide_true, decide_false, Bool.not_true, Bool.not_false, Bool.or_true, Bool.true_or, Bool.or_false, Bool.false_or]; rfl) | (simp [b2i, eq_true c_1, eq_true c_2]; done) | rfl
          exact W.iret (v := itN 8 (fun _ b => itN 8 (mO2 r) b) (itN 8 (mO1 r n x1 x2) (nI 0))) hx hb hr (fun t ht _ => g_ret hq ht) g_no dX7_ons_101
        · have hlt : y < 8 := by
            have h9 := mt (nI_leI (a := 8) (b := y) (by decide) (by omega)).mpr c_2
            omega
          refine lv_iconst (v := nI 0) hx hb dX7_ons_51 (by decide +kernel) ?_
          refine lv_istore (lv' := [(5, .int (nI 0)), (4, .int (nI y)), (3, .int (itN y (fun _ b => itN 8 (mO2 r) b) (itN 8 (mO1 r n x1 x2) (nI 0)))), (0, .ref (z 0)), (1, .int x1), (2, .int x2)]) hx hb dX7_ons_52 hl (by decide) rfl (fun ls hl => ?_)
          refine g_loop _ m 54 6 [] (8) (fun j => [(5, .int (nI j)), (4, .int (nI y)), (3, .int (itN j (mO2 r) (itN y (fun _ b => itN 8 (mO2 r) b) (itN 8 (mO1 r n x1 x2) (nI 0))))), (0, .ref (z 0)), (1, .int x1), (2, .int x2)]) (fun j => True) (fun j hi54 hI ih54 ls hl => ?_) 0 (Nat.zero_le _) trivial ls ?_
          · have hl : lv_has ls 6 [(5, .int (nI j)), (4, .int (nI y)), (3, .int (itN j (mO2 r) (itN y (fun _ b => itN 8 (mO2 r) b) (itN 8 (mO1 r n x1 x2) (nI 0))))), (0, .ref (z 0)), (1, .int x1), (2, .int x2)] := hl
            have hI : True := hI
            refine lv_iload hx hb dX7_ons_54 (lv_at hl 0 rfl) ?_
            refine lv_bipush (v := nI 8) hx hb dX7_ons_56 (by decide +kernel) ?_
            refine lv_icmp_ge (tgt := 94) hx hb dX7_ons_58 (by decide) (fun c_3 => ?_) (fun c_3 => ?_)
            · have hex : 8 = j := by
                have h9 := (nI_leI (a := 8) (b := j) (by decide) (by omega)).mp c_3
                omega
              subst hex
              refine lv_iinc (v := (nI y) + nI 1) (lv' := [(4, .int ((nI y) + nI 1)), (5, .int (nI 8)), (3, .int (itN 8 (mO2 r) (itN y (fun _ b => itN 8 (mO2 r) b) (itN 8 (mO1 r n x1 x2) (nI 0))))), (0, .ref (z 0)), (1, .int x1), (2, .int x2)]) hx hb dX7_ons_94 hl (k := 1) rfl (congrArg (fun q : Int32 => (nI y) + q) (by decide +kernel)) (by decide) rfl (fun ls hl => ?_)
              refine lv_goto (tgt := 44) hx hb dX7_ons_97 (by decide) ?_
              exact ih44 _ (by omega) trivial (lv_cv (show lv_has ls 6 [(4, .int ((nI y) + nI 1)), (3, .int (itN 8 (mO2 r) (itN y (fun _ b => itN 8 (mO2 r) b) (itN 8 (mO1 r n x1 x2) (nI 0))))), (0, .ref (z 0)), (1, .int x1), (2, .int x2)] from lv_sub hl [0, 2, 3, 4, 5] rfl) (gl_i (show (nI y) + nI 1 = nI (y + 1) by first | with_reducible rfl | with_reducible exact nI_add _ _ | (simp only [itN_s y, eq_true c_1, eq_false c_2, eq_true c_3, ↓reduceIte, Bool.false_eq_true, decide_true, decide_false, Bool.not_true, Bool.not_false, Bool.or_true, Bool.true_or, Bool.or_false, Bool.false_or]; done) | (simp only [itN_s y, eq_true c_1, eq_false c_2, eq_true c_3, ↓reduceIte, Bool.false_eq_true, decide_true, decide_false, Bool.not_true, Bool.not_false, Bool.or_true, Bool.true_or, Bool.or_false, Bool.false_or]; with_reducible rfl) | (simp only [itN_s y, eq_true c_1, eq_false c_2, eq_true c_3, ↓reduceIte, Bool.false_eq_true, decide_true, decide_false, Bool.not_true, Bool.not_false, Bool.or_true, Bool.true_or, Bool.or_false, Bool.false_or]; rfl) | (simp [b2i, itN_s y, eq_true c_1, eq_false c_2, eq_true c_3]; done) | rfl) (gl_i (show itN 8 (mO2 r) (itN y (fun _ b => itN 8 (mO2 r) b) (itN 8 (mO1 r n x1 x2) (nI 0))) = itN (y + 1) (fun _ b => itN 8 (mO2 r) b) (itN 8 (mO1 r n x1 x2) (nI 0)) by first | with_reducible rfl | with_reducible exact nI_add _ _ | (simp only [itN_s y, eq_true c_1, eq_false c_2, eq_true c_3, ↓reduceIte, Bool.false_eq_true, decide_true, decide_false, Bool.not_true, Bool.not_false, Bool.or_true, Bool.true_or, Bool.or_false, Bool.false_or]; done) | (simp only [itN_s y, eq_true c_1, eq_false c_2, eq_true c_3, ↓reduceIte, Bool.false_eq_true, decide_true, decide_false, Bool.not_true, Bool.not_false, Bool.or_true, Bool.true_or, Bool.or_false, Bool.false_or]; with_reducible rfl) | (simp only [itN_s y, eq_true c_1, eq_false c_2, eq_true c_3, ↓reduceIte, Bool.false_eq_true, decide_true, decide_false, Bool.not_true, Bool.not_false, Bool.or_true, Bool.true_or, Bool.or_false, Bool.false_or]; rfl) | (simp [b2i, itN_s y, eq_true c_1, eq_false c_2, eq_true c_3]; done) | rfl) (gl_s (gl_s (gl_s rfl))))))
            · have hlt : j < 8 := by
                have h9 := mt (nI_leI (a := 8) (b := j) (by decide) (by omega)).mpr c_3
                omega
              refine lv_iload_n hx hb dX7_ons_61 rfl (lv_at hl 2 rfl) ?_
              refine lv_aload_n hx hb dX7_ons_62 rfl (lv_at hl 3 rfl) ?_
              refine va_get (D := G.1) (ci := 7) (v := .ref (z 1)) (C := RX7) (T := TX7) (N := 26) hx hb hts hinX7 hown hK.1 hP 0 rfl rfl 3 (by decide) (hts (.fieldLink RX7 13 "RotaforgeModel" "needs" "[I") (by decide +kernel)) (fun _ h9 => h9) rfl dX7_ons_63 ?_
              refine lv_iload hx hb dX7_ons_66 (lv_at hl 0 rfl) ?_
              refine g_iald hx hb hK.1 hP 1 0 rfl rfl j (rfl) (by omega) (by decide) dX7_ons_68 ?_
              refine lv_iload_n hx hb dX7_ons_69 rfl (lv_at hl 2 rfl) ?_
              refine lv_iconst (v := (-1)) hx hb dX7_ons_70 (by decide +kernel) ?_
              refine lv_ixor hx hb dX7_ons_71 ?_
              refine lv_iand hx hb dX7_ons_72 ?_
              refine g_join m 86 6 [(5, .int (nI j)), (4, .int (nI y)), (3, .int (itN j (mO2 r) (itN y (fun _ b => itN 8 (mO2 r) b) (itN 8 (mO1 r n x1 x2) (nI 0))))), (0, .ref (z 0)), (1, .int x1), (2, .int x2)] [.int (mOc r j (itN j (mO2 r) (itN y (fun _ b => itN 8 (mO2 r) b) (itN 8 (mO1 r n x1 x2) (nI 0))))), .int (itN j (mO2 r) (itN y (fun _ b => itN 8 (mO2 r) b) (itN 8 (mO1 r n x1 x2) (nI 0))))] (fun ls hl => ?_) (fun hJ86 => ?_)
              · refine lv_iand hx hb dX7_ons_86 ?_
                refine lv_istore_n (lv' := [(3, .int ((itN j (mO2 r) (itN y (fun _ b => itN 8 (mO2 r) b) (itN 8 (mO1 r n x1 x2) (nI 0)))) &&& (mOc r j (itN j (mO2 r) (itN y (fun _ b => itN 8 (mO2 r) b) (itN 8 (mO1 r n x1 x2) (nI 0))))))), (5, .int (nI j)), (4, .int (nI y)), (0, .ref (z 0)), (1, .int x1), (2, .int x2)]) hx hb dX7_ons_87 rfl hl (by decide) rfl (fun ls hl => ?_)
                refine lv_iinc (v := (nI j) + nI 1) (lv' := [(5, .int ((nI j) + nI 1)), (3, .int ((itN j (mO2 r) (itN y (fun _ b => itN 8 (mO2 r) b) (itN 8 (mO1 r n x1 x2) (nI 0)))) &&& (mOc r j (itN j (mO2 r) (itN y (fun _ b => itN 8 (mO2 r) b) (itN 8 (mO1 r n x1 x2) (nI 0))))))), (4, .int (nI y)), (0, .ref (z 0)), (1, .int x1), (2, .int x2)]) hx hb dX7_ons_88 hl (k := 1) rfl (congrArg (fun q : Int32 => (nI j) + q) (by decide +kernel)) (by decide) rfl (fun ls hl => ?_)
                refine lv_goto (tgt := 54) hx hb dX7_ons_91 (by decide) ?_
                exact ih54 _ (by omega) trivial (lv_cv (show lv_has ls 6 [(5, .int ((nI j) + nI 1)), (4, .int (nI y)), (3, .int ((itN j (mO2 r) (itN y (fun _ b => itN 8 (mO2 r) b) (itN 8 (mO1 r n x1 x2) (nI 0)))) &&& (mOc r j (itN j (mO2 r) (itN y (fun _ b => itN 8 (mO2 r) b) (itN 8 (mO1 r n x1 x2) (nI 0))))))), (0, .ref (z 0)), (1, .int x1), (2, .int x2)] from lv_sub hl [0, 2, 1, 3, 4, 5] rfl) (gl_i (show (nI j) + nI 1 = nI (j + 1) by first | with_reducible rfl | with_reducible exact nI_add _ _ | (simp only [itN_s j, mO2, eq_true c_1, eq_false c_2, eq_false c_3, ↓reduceIte, Bool.false_eq_true, decide_true, decide_false, Bool.not_true, Bool.not_false, Bool.or_true, Bool.true_or, Bool.or_false, Bool.false_or]; done) | (simp only [itN_s j, mO2, eq_true c_1, eq_false c_2, eq_false c_3, ↓reduceIte, Bool.false_eq_true, decide_true, decide_false, Bool.not_true, Bool.not_false, Bool.or_true, Bool.true_or, Bool.or_false, Bool.false_or]; with_reducible rfl) | (simp only [itN_s j, mO2, eq_true c_1, eq_false c_2, eq_false c_3, ↓reduceIte, Bool.false_eq_true, decide_true, decide_false, Bool.not_true, Bool.not_false, Bool.or_true, Bool.true_or, Bool.or_false, Bool.false_or]; rfl) | (simp [b2i, itN_s j, mO2, eq_true c_1, eq_false c_2, eq_false c_3]; done) | rfl) (gl_s (gl_i (show (itN j (mO2 r) (itN y (fun _ b => itN 8 (mO2 r) b) (itN 8 (mO1 r n x1 x2) (nI 0)))) &&& (mOc r j (itN j (mO2 r) (itN y (fun _ b => itN 8 (mO2 r) b) (itN 8 (mO1 r n x1 x2) (nI 0))))) = itN (j + 1) (mO2 r) (itN y (fun _ b => itN 8 (mO2 r) b) (itN 8 (mO1 r n x1 x2) (nI 0))) by first | with_reducible rfl | with_reducible exact nI_add _ _ | (simp only [itN_s j, mO2, eq_true c_1, eq_false c_2, eq_false c_3, ↓reduceIte, Bool.false_eq_true, decide_true, decide_false, Bool.not_true, Bool.not_false, Bool.or_true, Bool.true_or, Bool.or_false, Bool.false_or]; done) | (simp only [itN_s j, mO2, eq_true c_1, eq_false c_2, eq_false c_3, ↓reduceIte, Bool.false_eq_true, decide_true, decide_false, Bool.not_true, Bool.not_false, Bool.or_true, Bool.true_or, Bool.or_false, Bool.false_or]; with_reducible rfl) | (simp only [itN_s j, mO2, eq_true c_1, eq_false c_2, eq_false c_3, ↓reduceIte, Bool.false_eq_true, decide_true, decide_false, Bool.not_true, Bool.not_false, Bool.or_true, Bool.true_or, Bool.or_false, Bool.false_or]; rfl) | (simp [b2i, itN_s j, mO2, eq_true c_1, eq_false c_2, eq_false c_3]; done) | rfl) (gl_s (gl_s (gl_s rfl)))))))
              · refine lv_if_eq (tgt := 85) hx hb dX7_ons_73 (by decide) (fun c_4 => ?_) (fun c_4 => ?_)
                · refine lv_iconst (v := (-1)) hx hb dX7_ons_85 (by decide +kernel) ?_
                  refine W.eq (g2 := F0 m 86 ls [.int (mOc r j (itN j (mO2 r) (itN y (fun _ b => itN 8 (mO2 r) b) (itN 8 (mO1 r n x1 x2) (nI 0))))), .int (itN j (mO2 r) (itN y (fun _ b => itN 8 (mO2 r) b) (itN 8 (mO1 r n x1 x2) (nI 0))))]) (g_st (gs_i (show (-1) = mOc r j (itN j (mO2 r) (itN y (fun _ b => itN 8 (mO2 r) b) (itN 8 (mO1 r n x1 x2) (nI 0)))) by first | with_reducible rfl | with_reducible exact nI_add _ _ | (simp only [mOc, eq_true c_1, eq_false c_2, eq_false c_3, eq_true c_4, ↓reduceIte, Bool.false_eq_true, decide_true, decide_false, Bool.not_true, Bool.not_false, Bool.or_true, Bool.true_or, Bool.or_false, Bool.false_or]; done) | (simp only [mOc, eq_true c_1, eq_false c_2, eq_false c_3, eq_true c_4, ↓reduceIte, Bool.false_eq_true, decide_true, decide_false, Bool.not_true, Bool.not_false, Bool.or_true, Bool.true_or, Bool.or_false, Bool.false_or]; with_reducible rfl) | (simp only [mOc, eq_true c_1, eq_false c_2, eq_false c_3, eq_true c_4, ↓reduceIte, Bool.false_eq_true, decide_true, decide_false, Bool.not_true, Bool.not_false, Bool.or_true, Bool.true_or, Bool.or_false, Bool.false_or]; rfl) | (simp [b2i, mOc, eq_true c_1, eq_false c_2, eq_false c_3, eq_true c_4]; done) | rfl) (gs_s rfl))) ?_
                  exact hJ86 _ (show lv_has ls 6 [(5, .int (nI j)), (4, .int (nI y)), (3, .int (itN j (mO2 r) (itN y (fun _ b => itN 8 (mO2 r) b) (itN 8 (mO1 r n x1 x2) (nI 0))))), (0, .ref (z 0)), (1, .int x1), (2, .int x2)] from lv_sub hl [0, 1, 2, 3, 4, 5] rfl)
                · refine lv_iconst (v := nI 1) hx hb dX7_ons_76 (by decide +kernel) ?_
                  refine lv_iload hx hb dX7_ons_77 (lv_at hl 0 rfl) ?_
                  refine lv_ishl hx hb dX7_ons_79 ?_
                  refine lv_iconst (v := (-1)) hx hb dX7_ons_80 (by decide +kernel) ?_
                  refine lv_ixor hx hb dX7_ons_81 ?_
                  refine lv_goto (tgt := 86) hx hb dX7_ons_82 (by decide) ?_
                  refine W.eq (g2 := F0 m 86 ls [.int (mOc r j (itN j (mO2 r) (itN y (fun _ b => itN 8 (mO2 r) b) (itN 8 (mO1 r n x1 x2) (nI 0))))), .int (itN j (mO2 r) (itN y (fun _ b => itN 8 (mO2 r) b) (itN 8 (mO1 r n x1 x2) (nI 0))))]) (g_st (gs_i (show ((nI 1) <<< ((nI j) &&& 31)) ^^^ (-1) = mOc r j (itN j (mO2 r) (itN y (fun _ b => itN 8 (mO2 r) b) (itN 8 (mO1 r n x1 x2) (nI 0)))) by first | with_reducible rfl | with_reducible exact nI_add _ _ | (simp only [mOc, eq_true c_1, eq_false c_2, eq_false c_3, eq_false c_4, ↓reduceIte, Bool.false_eq_true, decide_true, decide_false, Bool.not_true, Bool.not_false, Bool.or_true, Bool.true_or, Bool.or_false, Bool.false_or]; done) | (simp only [mOc, eq_true c_1, eq_false c_2, eq_false c_3, eq_false c_4, ↓reduceIte, Bool.false_eq_true, decide_true, decide_false, Bool.not_true, Bool.not_false, Bool.or_true, Bool.true_or, Bool.or_false, Bool.false_or]; with_reducible rfl) | (simp only [mOc, eq_true c_1, eq_false c_2, eq_false c_3, eq_false c_4, ↓reduceIte, Bool.false_eq_true, decide_true, decide_false, Bool.not_true, Bool.not_false, Bool.or_true, Bool.true_or, Bool.or_false, Bool.false_or]; rfl) | (simp [b2i, mOc, eq_true c_1, eq_false c_2, eq_false c_3, eq_false c_4]; done) | rfl) (gs_s rfl))) ?_
                  exact hJ86 _ (show lv_has ls 6 [(5, .int (nI j)), (4, .int (nI y)), (3, .int (itN j (mO2 r) (itN y (fun _ b => itN 8 (mO2 r) b) (itN 8 (mO1 r n x1 x2) (nI 0))))), (0, .ref (z 0)), (1, .int x1), (2, .int x2)] from lv_sub hl [0, 1, 2, 3, 4, 5] rfl)
          · exact (lv_cv (show lv_has ls 6 [(5, .int (nI 0)), (4, .int (nI y)), (3, .int (itN y (fun _ b => itN 8 (mO2 r) b) (itN 8 (mO1 r n x1 x2) (nI 0)))), (0, .ref (z 0)), (1, .int x1), (2, .int x2)] from lv_sub hl [0, 1, 2, 3, 4, 5] rfl) (gl_s (gl_s (gl_i (show itN y (fun _ b => itN 8 (mO2 r) b) (itN 8 (mO1 r n x1 x2) (nI 0)) = itN 0 (mO2 r) (itN y (fun _ b => itN 8 (mO2 r) b) (itN 8 (mO1 r n x1 x2) (nI 0))) by first | with_reducible rfl | with_reducible exact nI_add _ _ | (simp only [eq_true c_1, eq_false c_2, ↓reduceIte, Bool.false_eq_true, decide_true, decide_false, Bool.not_true, Bool.not_false, Bool.or_true, Bool.true_or, Bool.or_false, Bool.false_or]; done) | (simp only [eq_true c_1, eq_false c_2, ↓reduceIte, Bool.false_eq_true, decide_true, decide_false, Bool.not_true, Bool.not_false, Bool.or_true, Bool.true_or, Bool.or_false, Bool.false_or]; with_reducible rfl) | (simp only [eq_true c_1, eq_false c_2, ↓reduceIte, Bool.false_eq_true, decide_true, decide_false, Bool.not_true, Bool.not_false, Bool.or_true, Bool.true_or, Bool.or_false, Bool.false_or]; rfl) | (simp [b2i, eq_true c_1, eq_false c_2]; done) | rfl) (gl_s (gl_s (gl_s rfl)))))))
      · exact (lv_cv (show lv_has ls 6 [(4, .int (nI 0)), (3, .int (itN 8 (mO1 r n x1 x2) (nI 0))), (0, .ref (z 0)), (1, .int x1), (2, .int x2)] from lv_sub hl [0, 1, 2, 3, 4] rfl) (gl_s (gl_i (show itN 8 (mO1 r n x1 x2) (nI 0) = itN 0 (fun _ b => itN 8 (mO2 r) b) (itN 8 (mO1 r n x1 x2) (nI 0)) by first | with_reducible rfl | with_reducible exact nI_add _ _ | (simp only [eq_true c_1, ↓reduceIte, Bool.false_eq_true, decide_true, decide_false, Bool.not_true, Bool.not_false, Bool.or_true, Bool.true_or, Bool.or_false, Bool.false_or]; done) | (simp only [eq_true c_1, ↓reduceIte, Bool.false_eq_true, decide_true, decide_false, Bool.not_true, Bool.not_false, Bool.or_true, Bool.true_or, Bool.or_false, Bool.false_or]; with_reducible rfl) | (simp only [eq_true c_1, ↓reduceIte, Bool.false_eq_true, decide_true, decide_false, Bool.not_true, Bool.not_false, Bool.or_true, Bool.true_or, Bool.or_false, Bool.false_or]; rfl) | (simp [b2i, eq_true c_1]; done) | rfl) (gl_s (gl_s (gl_s rfl))))))
    · have hlt : i < 8 := by
        have h9 := mt (nI_leI (a := 8) (b := i) (by decide) (by omega)).mpr c_1
        omega
      refine lv_iload_n hx hb dX7_ons_12 rfl (lv_at hl 1 rfl) ?_
      refine lv_iload_n hx hb dX7_ons_13 rfl (lv_at hl 3 rfl) ?_
      refine lv_aload_n hx hb dX7_ons_14 rfl (lv_at hl 2 rfl) ?_
      refine lv_iconst (v := nI 0) hx hb dX7_ons_15 (by decide +kernel) ?_
      refine lv_iload hx hb dX7_ons_16 (lv_at hl 0 rfl) ?_
      refine lv_iload_n hx hb dX7_ons_18 rfl (lv_at hl 4 rfl) ?_
      refine g_callC (W.runV (C := RX7) (As := [.int (nI 0), .int (nI i), .int x2]) (rest := [.int x1, .int (itN i (mO1 r n x1 x2) (nI 0))]) S0 (c_X7_valueOf l G _ z r f hP (nI 0) (nI i) x2 n d k t hM) (cwV 3 hts gX7_ons_X7_valueOf rfl rfl rfl (by decide +kernel) ⟨Nat.le_of_ble_eq_true rfl, Nat.le_of_ble_eq_true rfl⟩) (g_preV hK hP (q0 := 0) (ci := 7) (q := (RX7, TX7, 26)) rfl rfl) rfl rfl hl.1 rfl (lv_room (Nat.le_of_ble_eq_true rfl)) dX7_ons_19 ⟨Nat.zero_le _, Nat.zero_le _⟩) ?_
      refine g_join m 33 6 [(4, .int (nI i)), (3, .int (itN i (mO1 r n x1 x2) (nI 0))), (0, .ref (z 0)), (1, .int x1), (2, .int x2)] [.int (mOb r n x1 x2 i), .int (itN i (mO1 r n x1 x2) (nI 0))] (fun ls hl => ?_) (fun hJ33 => ?_)
      · refine lv_ior hx hb dX7_ons_33 ?_
        refine lv_istore_n (lv' := [(3, .int ((itN i (mO1 r n x1 x2) (nI 0)) ||| (mOb r n x1 x2 i))), (4, .int (nI i)), (0, .ref (z 0)), (1, .int x1), (2, .int x2)]) hx hb dX7_ons_34 rfl hl (by decide) rfl (fun ls hl => ?_)
        refine lv_iinc (v := (nI i) + nI 1) (lv' := [(4, .int ((nI i) + nI 1)), (3, .int ((itN i (mO1 r n x1 x2) (nI 0)) ||| (mOb r n x1 x2 i))), (0, .ref (z 0)), (1, .int x1), (2, .int x2)]) hx hb dX7_ons_35 hl (k := 1) rfl (congrArg (fun q : Int32 => (nI i) + q) (by decide +kernel)) (by decide) rfl (fun ls hl => ?_)
        refine lv_goto (tgt := 5) hx hb dX7_ons_38 (by decide) ?_
        exact ih5 _ (by omega) trivial (lv_cv (show lv_has ls 6 [(4, .int ((nI i) + nI 1)), (3, .int ((itN i (mO1 r n x1 x2) (nI 0)) ||| (mOb r n x1 x2 i))), (0, .ref (z 0)), (1, .int x1), (2, .int x2)] from lv_sub hl [0, 1, 2, 3, 4] rfl) (gl_i (show (nI i) + nI 1 = nI (i + 1) by first | with_reducible rfl | with_reducible exact nI_add _ _ | (simp only [itN_s i, mO1, eq_false c_1, ↓reduceIte, Bool.false_eq_true, decide_true, decide_false, Bool.not_true, Bool.not_false, Bool.or_true, Bool.true_or, Bool.or_false, Bool.false_or]; done) | (simp only [itN_s i, mO1, eq_false c_1, ↓reduceIte, Bool.false_eq_true, decide_true, decide_false, Bool.not_true, Bool.not_false, Bool.or_true, Bool.true_or, Bool.or_false, Bool.false_or]; with_reducible rfl) | (simp only [itN_s i, mO1, eq_false c_1, ↓reduceIte, Bool.false_eq_true, decide_true, decide_false, Bool.not_true, Bool.not_false, Bool.or_true, Bool.true_or, Bool.or_false, Bool.false_or]; rfl) | (simp [b2i, itN_s i, mO1, eq_false c_1]; done) | rfl) (gl_i (show (itN i (mO1 r n x1 x2) (nI 0)) ||| (mOb r n x1 x2 i) = itN (i + 1) (mO1 r n x1 x2) (nI 0) by first | with_reducible rfl | with_reducible exact nI_add _ _ | (simp only [itN_s i, mO1, eq_false c_1, ↓reduceIte, Bool.false_eq_true, decide_true, decide_false, Bool.not_true, Bool.not_false, Bool.or_true, Bool.true_or, Bool.or_false, Bool.false_or]; done) | (simp only [itN_s i, mO1, eq_false c_1, ↓reduceIte, Bool.false_eq_true, decide_true, decide_false, Bool.not_true, Bool.not_false, Bool.or_true, Bool.true_or, Bool.or_false, Bool.false_or]; with_reducible rfl) | (simp only [itN_s i, mO1, eq_false c_1, ↓reduceIte, Bool.false_eq_true, decide_true, decide_false, Bool.not_true, Bool.not_false, Bool.or_true, Bool.true_or, Bool.or_false, Bool.false_or]; rfl) | (simp [b2i, itN_s i, mO1, eq_false c_1]; done) | rfl) (gl_s (gl_s (gl_s rfl))))))
      · refine lv_icmp_ge (tgt := 32) hx hb dX7_ons_22 (by decide) (fun c_5 => ?_) (fun c_5 => ?_)
        · refine lv_iconst (v := nI 0) hx hb dX7_ons_32 (by decide +kernel) ?_
          refine W.eq (g2 := F0 m 33 ls [.int (mOb r n x1 x2 i), .int (itN i (mO1 r n x1 x2) (nI 0))]) (g_st (gs_i (show nI 0 = mOb r n x1 x2 i by first | with_reducible rfl | with_reducible exact nI_add _ _ | (simp only [mOb, eq_false c_1, eq_true c_5, ↓reduceIte, Bool.false_eq_true, decide_true, decide_false, Bool.not_true, Bool.not_false, Bool.or_true, Bool.true_or, Bool.or_false, Bool.false_or]; done) | (simp only [mOb, eq_false c_1, eq_true c_5, ↓reduceIte, Bool.false_eq_true, decide_true, decide_false, Bool.not_true, Bool.not_false, Bool.or_true, Bool.true_or, Bool.or_false, Bool.false_or]; with_reducible rfl) | (simp only [mOb, eq_false c_1, eq_true c_5, ↓reduceIte, Bool.false_eq_true, decide_true, decide_false, Bool.not_true, Bool.not_false, Bool.or_true, Bool.true_or, Bool.or_false, Bool.false_or]; rfl) | (simp [b2i, mOb, eq_false c_1, eq_true c_5]; done) | rfl) (gs_s rfl))) ?_
          exact hJ33 _ (show lv_has ls 6 [(4, .int (nI i)), (3, .int (itN i (mO1 r n x1 x2) (nI 0))), (0, .ref (z 0)), (1, .int x1), (2, .int x2)] from lv_sub hl [0, 1, 2, 3, 4] rfl)
        · refine lv_iconst (v := nI 1) hx hb dX7_ons_25 (by decide +kernel) ?_
          refine lv_iload hx hb dX7_ons_26 (lv_at hl 0 rfl) ?_
          refine lv_ishl hx hb dX7_ons_28 ?_
          refine lv_goto (tgt := 33) hx hb dX7_ons_29 (by decide) ?_
          refine W.eq (g2 := F0 m 33 ls [.int (mOb r n x1 x2 i), .int (itN i (mO1 r n x1 x2) (nI 0))]) (g_st (gs_i (show (nI 1) <<< ((nI i) &&& 31) = mOb r n x1 x2 i by first | with_reducible rfl | with_reducible exact nI_add _ _ | (simp only [mOb, eq_false c_1, eq_false c_5, ↓reduceIte, Bool.false_eq_true, decide_true, decide_false, Bool.not_true, Bool.not_false, Bool.or_true, Bool.true_or, Bool.or_false, Bool.false_or]; done) | (simp only [mOb, eq_false c_1, eq_false c_5, ↓reduceIte, Bool.false_eq_true, decide_true, decide_false, Bool.not_true, Bool.not_false, Bool.or_true, Bool.true_or, Bool.or_false, Bool.false_or]; with_reducible rfl) | (simp only [mOb, eq_false c_1, eq_false c_5, ↓reduceIte, Bool.false_eq_true, decide_true, decide_false, Bool.not_true, Bool.not_false, Bool.or_true, Bool.true_or, Bool.or_false, Bool.false_or]; rfl) | (simp [b2i, mOb, eq_false c_1, eq_false c_5]; done) | rfl) (gs_s rfl))) ?_
          exact hJ33 _ (show lv_has ls 6 [(4, .int (nI i)), (3, .int (itN i (mO1 r n x1 x2) (nI 0))), (0, .ref (z 0)), (1, .int x1), (2, .int x2)] from lv_sub hl [0, 1, 2, 3, 4] rfl)
  · exact (lv_cv (show lv_has ls 6 [(4, .int (nI 0)), (3, .int (nI 0)), (0, .ref (z 0)), (1, .int x1), (2, .int x2)] from lv_sub hl [0, 1, 2, 3, 4] rfl) (gl_s (gl_i (show nI 0 = itN 0 (mO1 r n x1 x2) (nI 0) by first | with_reducible rfl | with_reducible exact nI_add _ _ | (simp only [true_and, ↓reduceIte, Bool.false_eq_true, decide_true, decide_false, Bool.not_true, Bool.not_false, Bool.or_true, Bool.true_or, Bool.or_false, Bool.false_or]; done) | (simp only [true_and, ↓reduceIte, Bool.false_eq_true, decide_true, decide_false, Bool.not_true, Bool.not_false, Bool.or_true, Bool.true_or, Bool.or_false, Bool.false_or]; with_reducible rfl) | (simp only [true_and, ↓reduceIte, Bool.false_eq_true, decide_true, decide_false, Bool.not_true, Bool.not_false, Bool.or_true, Bool.true_or, Bool.or_false, Bool.false_or]; rfl) | (simp [b2i, true_and]; done) | rfl) (gl_s (gl_s (gl_s rfl))))))

set_option maxHeartbeats 4000000 in
set_option maxRecDepth 100000 in
theorem c_X7_isBad (l : Launch) (G : gG) (H0 : Heap) (z : Nat → Nat) (r : Nat → Nat → Int32) (f : Nat → Int32) (hP : va_P G.1 vwCl (wRM G z r f) H0) (x1 : Int32) (x2 : Int32) (n d k t : Nat) (hM : mOK r f n d k t) : gMr l yX7_isBad wsX7_isBad 3 74 G H0 [.ref (z 0), .int x1, .int x2] (b2i (mBad r n d x1 x2)) := by
  refine Met.ofW (cc := cX7_isBad) (maxL := 8) (ret := (some .boolean)) (by decide) rfl ?_
  intro p_ e_ s m args below meth c s₁ B hml hv
  obtain ⟨rfl, rfl, hK⟩ := hv
  have hx := B.exec
  have hb := B.bytes
  have hr := B.returns
  have hts := atoms_spec (ws := wsX7_isBad) B.pre
  have hown : s.vm.findClass RX7 = some m.cls := findClass_of_methodNamed B.named
  have hlocks := B.notSynchronized
  have hinX7 : ∀ w ∈ wsX70, w ∈ wsX7_isBad := by decide +kernel
  have S0 : CallFix p_ m c cX7_isBad 8 s _ wsX7_isBad RX7 := ⟨hx, hb, hml, hown, hts⟩
  have hl := lv_entry ([.ref (z 0), .int x1, .int x2]) (n := 8) (Nat.le_of_ble_eq_true rfl)
  rw [lg_entry_eq]
  generalize (lg_sl ([.ref (z 0), .int x1, .int x2]) ++ List.replicate (8 - (lg_sl ([.ref (z 0), .int x1, .int x2])).length) Slot.unset).toArray = ls at hl ⊢
  have hl : lv_has ls 8 [(0, .ref (z 0)), (1, .int x1), (2, .int x2)] := hl
  obtain ⟨hn, hn2, hd, hd2, hk, hk2, ht, ht2, hh, hm⟩ := id hM
  refine lv_aload_n hx hb dX7_isBad_0 rfl (lv_at hl 0 rfl) ?_
  refine lv_iconst (v := nI 1) hx hb dX7_isBad_1 (by decide +kernel) ?_
  refine lv_iload_n hx hb dX7_isBad_2 rfl (lv_at hl 1 rfl) ?_
  refine lv_iload_n hx hb dX7_isBad_3 rfl (lv_at hl 2 rfl) ?_
  refine g_callC (W.runV (C := RX7) (As := [.int (nI 1), .int x1, .int x2]) (rest := []) S0 (c_X7_valueOf l G _ z r f hP (nI 1) x1 x2 n d k t hM) (cwV 3 hts gX7_isBad_X7_valueOf rfl rfl rfl (by decide +kernel) ⟨Nat.le_of_ble_eq_true rfl, Nat.le_of_ble_eq_true rfl⟩) (g_preV hK hP (q0 := 0) (ci := 7) (q := (RX7, TX7, 26)) rfl rfl) rfl rfl hl.1 rfl (lv_room (Nat.le_of_ble_eq_true rfl)) dX7_isBad_4 ⟨Nat.zero_le _, Nat.zero_le _⟩) ?_
  refine lv_istore_n (lv' := [(3, .int (mVal r n (nI 1) x1 x2)), (0, .ref (z 0)), (1, .int x1), (2, .int x2)]) hx hb dX7_isBad_7 rfl hl (by decide) rfl (fun ls hl => ?_)
  refine lv_aload_n hx hb dX7_isBad_8 rfl (lv_at hl 1 rfl) ?_
  refine lv_iload_n hx hb dX7_isBad_9 rfl (lv_at hl 2 rfl) ?_
  refine lv_iload_n hx hb dX7_isBad_10 rfl (lv_at hl 3 rfl) ?_
  refine g_callC (W.runV (C := RX7) (As := [.int x1, .int x2]) (rest := []) S0 (c_X7_ons l G _ z r f hP x1 x2 n d k t hM) (cwV 2 hts gX7_isBad_X7_ons rfl rfl rfl (by decide +kernel) ⟨Nat.le_of_ble_eq_true rfl, Nat.le_of_ble_eq_true rfl⟩) (g_preV hK hP (q0 := 0) (ci := 7) (q := (RX7, TX7, 26)) rfl rfl) rfl rfl hl.1 rfl (lv_room (Nat.le_of_ble_eq_true rfl)) dX7_isBad_11 ⟨Nat.zero_le _, Nat.zero_le _⟩) ?_
  refine lv_istore (lv' := [(4, .int (mOns r n x1 x2)), (3, .int (mVal r n (nI 1) x1 x2)), (0, .ref (z 0)), (1, .int x1), (2, .int x2)]) hx hb dX7_isBad_14 hl (by decide) rfl (fun ls hl => ?_)
  refine lv_iconst (v := nI 0) hx hb dX7_isBad_16 (by decide +kernel) ?_
  refine lv_istore (lv' := [(5, .int (nI 0)), (4, .int (mOns r n x1 x2)), (3, .int (mVal r n (nI 1) x1 x2)), (0, .ref (z 0)), (1, .int x1), (2, .int x2)]) hx hb dX7_isBad_17 hl (by decide) rfl (fun ls hl => ?_)
  refine lv_iconst (v := nI 0) hx hb dX7_isBad_19 (by decide +kernel) ?_
  refine lv_istore (lv' := [(6, .int (nI 0)), (5, .int (nI 0)), (4, .int (mOns r n x1 x2)), (3, .int (mVal r n (nI 1) x1 x2)), (0, .ref (z 0)), (1, .int x1), (2, .int x2)]) hx hb dX7_isBad_20 hl (by decide) rfl (fun ls hl => ?_)
  refine g_loop _ m 22 8 [] (d) (fun i => [(6, .int (nI i)), (5, .int (b2i (itN i (mBI r (mVal r n (nI 1) x1 x2) (mOns r n x1 x2)) false))), (4, .int (mOns r n x1 x2)), (3, .int (mVal r n (nI 1) x1 x2)), (0, .ref (z 0)), (1, .int x1), (2, .int x2)]) (fun i => True) (fun i hi22 hI ih22 ls hl => ?_) 0 (Nat.zero_le _) trivial ls ?_
  · have hl : lv_has ls 8 [(6, .int (nI i)), (5, .int (b2i (itN i (mBI r (mVal r n (nI 1) x1 x2) (mOns r n x1 x2)) false))), (4, .int (mOns r n x1 x2)), (3, .int (mVal r n (nI 1) x1 x2)), (0, .ref (z 0)), (1, .int x1), (2, .int x2)] := hl
    have hI : True := hI
    refine lv_iload hx hb dX7_isBad_22 (lv_at hl 0 rfl) ?_
    refine lv_aload_n hx hb dX7_isBad_24 rfl (lv_at hl 4 rfl) ?_
    refine va_get (D := G.1) (ci := 7) (v := .int (f 3)) (C := RX7) (T := TX7) (N := 26) hx hb hts hinX7 hown hK.1 hP 0 rfl rfl 4 (by decide) (hts (.fieldLink RX7 92 "RotaforgeModel" "defectMany" "I") (by decide +kernel)) (fun _ h9 => h9) rfl dX7_isBad_25 ?_
    refine lv_icmp_ge (tgt := 114) hx hb dX7_isBad_28 (by decide) (fun c_1 => ?_) (fun c_1 => ?_)
    · have hex : d = i := by
        rw [hd] at c_1
        have h9 := (nI_leI (a := d) (b := i) (by omega) (by omega)).mp c_1
        omega
      subst hex
      refine lv_iload hx hb dX7_isBad_114 (lv_at hl 1 rfl) ?_
      have hq : (b2i (itN d (mBI r (mVal r n (nI 1) x1 x2) (mOns r n x1 x2)) false)) = (b2i (mBad r n d x1 x2)) := by
        first | with_reducible rfl | with_reducible exact nI_add _ _ | (simp only [eq_true c_1, ↓reduceIte, Bool.false_eq_true, decide_true, decide_false, Bool.not_true, Bool.not_false, Bool.or_true, Bool.true_or, Bool.or_false, Bool.false_or]; done) | (simp only [eq_true c_1, ↓reduceIte, Bool.false_eq_true, decide_true, decide_false, Bool.not_true, Bool.not_false, Bool.or_true, Bool.true_or, Bool.or_false, Bool.false_or]; with_reducible rfl) | (simp only [eq_true c_1, ↓reduceIte, Bool.false_eq_true, decide_true, decide_false, Bool.not_true, Bool.not_false, Bool.or_true, Bool.true_or, Bool.or_false, Bool.false_or]; rfl) | (simp [b2i, eq_true c_1]; done) | rfl
      exact W.zret (v := b2i (itN d (mBI r (mVal r n (nI 1) x1 x2) (mOns r n x1 x2)) false)) hx hb hr (z_nar hq) (fun t ht _ => g_ret hq ht) g_no dX7_isBad_116
    · have hlt : i < d := by
        rw [hd] at c_1
        have h9 := mt (nI_leI (a := d) (b := i) (by omega) (by omega)).mpr c_1
        omega
      refine lv_aload_n hx hb dX7_isBad_31 rfl (lv_at hl 4 rfl) ?_
      refine va_get (D := G.1) (ci := 7) (v := .ref (z 3)) (C := RX7) (T := TX7) (N := 26) hx hb hts hinX7 hown hK.1 hP 0 rfl rfl 6 (by decide) (hts (.fieldLink RX7 20 "RotaforgeModel" "defectSwitches" "[I") (by decide +kernel)) (fun _ h9 => h9) rfl dX7_isBad_32 ?_
      refine lv_iload hx hb dX7_isBad_35 (lv_at hl 0 rfl) ?_
      refine g_iald hx hb hK.1 hP 3 0 rfl rfl i (rfl) (by omega) (by decide) dX7_isBad_37 ?_
      refine lv_iconst (v := (-1)) hx hb dX7_isBad_38 (by decide +kernel) ?_
      refine g_join m 78 8 [(6, .int (nI i)), (5, .int (b2i (itN i (mBI r (mVal r n (nI 1) x1 x2) (mOns r n x1 x2)) false))), (4, .int (mOns r n x1 x2)), (3, .int (mVal r n (nI 1) x1 x2)), (0, .ref (z 0)), (1, .int x1), (2, .int x2)] [.int (b2i (mSh r (mOns r n x1 x2) i))] (fun ls hl => ?_) (fun hJ78 => ?_)
      · refine lv_istore (lv' := [(7, .int (b2i (mSh r (mOns r n x1 x2) i))), (6, .int (nI i)), (5, .int (b2i (itN i (mBI r (mVal r n (nI 1) x1 x2) (mOns r n x1 x2)) false))), (4, .int (mOns r n x1 x2)), (3, .int (mVal r n (nI 1) x1 x2)), (0, .ref (z 0)), (1, .int x1), (2, .int x2)]) hx hb dX7_isBad_78 hl (by decide) rfl (fun ls hl => ?_)
        refine lv_iload hx hb dX7_isBad_80 (lv_at hl 2 rfl) ?_
        refine g_join m 106 8 [(7, .int (b2i (mSh r (mOns r n x1 x2) i))), (6, .int (nI i)), (5, .int (b2i (itN i (mBI r (mVal r n (nI 1) x1 x2) (mOns r n x1 x2)) false))), (4, .int (mOns r n x1 x2)), (3, .int (mVal r n (nI 1) x1 x2)), (0, .ref (z 0)), (1, .int x1), (2, .int x2)] [.int (b2i (mBI r (mVal r n (nI 1) x1 x2) (mOns r n x1 x2) i (itN i (mBI r (mVal r n (nI 1) x1 x2) (mOns r n x1 x2)) false)))] (fun ls hl => ?_) (fun hJ106 => ?_)
        · refine lv_istore (lv' := [(5, .int (b2i (mBI r (mVal r n (nI 1) x1 x2) (mOns r n x1 x2) i (itN i (mBI r (mVal r n (nI 1) x1 x2) (mOns r n x1 x2)) false)))), (7, .int (b2i (mSh r (mOns r n x1 x2) i))), (6, .int (nI i)), (4, .int (mOns r n x1 x2)), (3, .int (mVal r n (nI 1) x1 x2)), (0, .ref (z 0)), (1, .int x1), (2, .int x2)]) hx hb dX7_isBad_106 hl (by decide) rfl (fun ls hl => ?_)
          refine lv_iinc (v := (nI i) + nI 1) (lv' := [(6, .int ((nI i) + nI 1)), (5, .int (b2i (mBI r (mVal r n (nI 1) x1 x2) (mOns r n x1 x2) i (itN i (mBI r (mVal r n (nI 1) x1 x2) (mOns r n x1 x2)) false)))), (7, .int (b2i (mSh r (mOns r n x1 x2) i))), (4, .int (mOns r n x1 x2)), (3, .int (mVal r n (nI 1) x1 x2)), (0, .ref (z 0)), (1, .int x1), (2, .int x2)]) hx hb dX7_isBad_108 hl (k := 2) rfl (congrArg (fun q : Int32 => (nI i) + q) (by decide +kernel)) (by decide) rfl (fun ls hl => ?_)
          refine lv_goto (tgt := 22) hx hb dX7_isBad_111 (by decide) ?_
          exact ih22 _ (by omega) trivial (lv_cv (show lv_has ls 8 [(6, .int ((nI i) + nI 1)), (5, .int (b2i (mBI r (mVal r n (nI 1) x1 x2) (mOns r n x1 x2) i (itN i (mBI r (mVal r n (nI 1) x1 x2) (mOns r n x1 x2)) false)))), (4, .int (mOns r n x1 x2)), (3, .int (mVal r n (nI 1) x1 x2)), (0, .ref (z 0)), (1, .int x1), (2, .int x2)] from lv_sub hl [0, 1, 3, 4, 5, 6, 7] rfl) (gl_i (show (nI i) + nI 1 = nI (i + 1) by first | with_reducible rfl | with_reducible exact nI_add _ _ | (simp only [itN_s i, eq_false c_1, ↓reduceIte, Bool.false_eq_true, decide_true, decide_false, Bool.not_true, Bool.not_false, Bool.or_true, Bool.true_or, Bool.or_false, Bool.false_or]; done) | (simp only [itN_s i, eq_false c_1, ↓reduceIte, Bool.false_eq_true, decide_true, decide_false, Bool.not_true, Bool.not_false, Bool.or_true, Bool.true_or, Bool.or_false, Bool.false_or]; with_reducible rfl) | (simp only [itN_s i, eq_false c_1, ↓reduceIte, Bool.false_eq_true, decide_true, decide_false, Bool.not_true, Bool.not_false, Bool.or_true, Bool.true_or, Bool.or_false, Bool.false_or]; rfl) | (simp [b2i, itN_s i, eq_false c_1]; done) | rfl) (gl_i (show b2i (mBI r (mVal r n (nI 1) x1 x2) (mOns r n x1 x2) i (itN i (mBI r (mVal r n (nI 1) x1 x2) (mOns r n x1 x2)) false)) = b2i (itN (i + 1) (mBI r (mVal r n (nI 1) x1 x2) (mOns r n x1 x2)) false) by first | with_reducible rfl | with_reducible exact nI_add _ _ | (simp only [itN_s i, eq_false c_1, ↓reduceIte, Bool.false_eq_true, decide_true, decide_false, Bool.not_true, Bool.not_false, Bool.or_true, Bool.true_or, Bool.or_false, Bool.false_or]; done) | (simp only [itN_s i, eq_false c_1, ↓reduceIte, Bool.false_eq_true, decide_true, decide_false, Bool.not_true, Bool.not_false, Bool.or_true, Bool.true_or, Bool.or_false, Bool.false_or]; with_reducible rfl) | (simp only [itN_s i, eq_false c_1, ↓reduceIte, Bool.false_eq_true, decide_true, decide_false, Bool.not_true, Bool.not_false, Bool.or_true, Bool.true_or, Bool.or_false, Bool.false_or]; rfl) | (simp [b2i, itN_s i, eq_false c_1]; done) | rfl) (gl_s (gl_s (gl_s (gl_s (gl_s rfl))))))))
        · refine lv_if_ne (tgt := 101) hx hb dX7_isBad_82 (by decide) (fun c_2 => ?_) (fun c_2 => ?_)
          · have c_2 := b2i_t c_2
            refine lv_iconst (v := nI 1) hx hb dX7_isBad_101 (by decide +kernel) ?_
            refine lv_goto (tgt := 106) hx hb dX7_isBad_102 (by decide) ?_
            refine W.eq (g2 := F0 m 106 ls [.int (b2i (mBI r (mVal r n (nI 1) x1 x2) (mOns r n x1 x2) i (itN i (mBI r (mVal r n (nI 1) x1 x2) (mOns r n x1 x2)) false)))]) (g_st (gs_i (show nI 1 = b2i (mBI r (mVal r n (nI 1) x1 x2) (mOns r n x1 x2) i (itN i (mBI r (mVal r n (nI 1) x1 x2) (mOns r n x1 x2)) false)) by first | with_reducible rfl | with_reducible exact nI_add _ _ | (simp only [mBI, eq_false c_1, c_2, ↓reduceIte, Bool.false_eq_true, decide_true, decide_false, Bool.not_true, Bool.not_false, Bool.or_true, Bool.true_or, Bool.or_false, Bool.false_or]; done) | (simp only [mBI, eq_false c_1, c_2, ↓reduceIte, Bool.false_eq_true, decide_true, decide_false, Bool.not_true, Bool.not_false, Bool.or_true, Bool.true_or, Bool.or_false, Bool.false_or]; with_reducible rfl) | (simp only [mBI, eq_false c_1, c_2, ↓reduceIte, Bool.false_eq_true, decide_true, decide_false, Bool.not_true, Bool.not_false, Bool.or_true, Bool.true_or, Bool.or_false, Bool.false_or]; rfl) | (simp [b2i, mBI, eq_false c_1, c_2]; done) | rfl) rfl)) ?_
            exact hJ106 _ (show lv_has ls 8 [(7, .int (b2i (mSh r (mOns r n x1 x2) i))), (6, .int (nI i)), (5, .int (b2i (itN i (mBI r (mVal r n (nI 1) x1 x2) (mOns r n x1 x2)) false))), (4, .int (mOns r n x1 x2)), (3, .int (mVal r n (nI 1) x1 x2)), (0, .ref (z 0)), (1, .int x1), (2, .int x2)] from lv_sub hl [0, 1, 2, 3, 4, 5, 6, 7] rfl)
          · have c_2 := b2i_f c_2
            refine lv_aload_n hx hb dX7_isBad_85 rfl (lv_at hl 5 rfl) ?_
            refine va_get (D := G.1) (ci := 7) (v := .ref (z 2)) (C := RX7) (T := TX7) (N := 26) hx hb hts hinX7 hown hK.1 hP 0 rfl rfl 5 (by decide) (hts (.fieldLink RX7 17 "RotaforgeModel" "defectVersions" "[I") (by decide +kernel)) (fun _ h9 => h9) rfl dX7_isBad_86 ?_
            refine lv_iload hx hb dX7_isBad_89 (lv_at hl 1 rfl) ?_
            refine g_iald hx hb hK.1 hP 2 0 rfl rfl i (rfl) (by omega) (by decide) dX7_isBad_91 ?_
            refine lv_iload_n hx hb dX7_isBad_92 rfl (lv_at hl 4 rfl) ?_
            refine lv_icmp_ne (tgt := 105) hx hb dX7_isBad_93 (by decide) (fun c_3 => ?_) (fun c_3 => ?_)
            · refine lv_iconst (v := nI 0) hx hb dX7_isBad_105 (by decide +kernel) ?_
              refine W.eq (g2 := F0 m 106 ls [.int (b2i (mBI r (mVal r n (nI 1) x1 x2) (mOns r n x1 x2) i (itN i (mBI r (mVal r n (nI 1) x1 x2) (mOns r n x1 x2)) false)))]) (g_st (gs_i (show nI 0 = b2i (mBI r (mVal r n (nI 1) x1 x2) (mOns r n x1 x2) i (itN i (mBI r (mVal r n (nI 1) x1 x2) (mOns r n x1 x2)) false)) by first | with_reducible rfl | with_reducible exact nI_add _ _ | (simp only [mBI, eq_false c_1, c_2, eq_false c_3, ↓reduceIte, Bool.false_eq_true, decide_true, decide_false, Bool.not_true, Bool.not_false, Bool.or_true, Bool.true_or, Bool.or_false, Bool.false_or]; done) | (simp only [mBI, eq_false c_1, c_2, eq_false c_3, ↓reduceIte, Bool.false_eq_true, decide_true, decide_false, Bool.not_true, Bool.not_false, Bool.or_true, Bool.true_or, Bool.or_false, Bool.false_or]; with_reducible rfl) | (simp only [mBI, eq_false c_1, c_2, eq_false c_3, ↓reduceIte, Bool.false_eq_true, decide_true, decide_false, Bool.not_true, Bool.not_false, Bool.or_true, Bool.true_or, Bool.or_false, Bool.false_or]; rfl) | (simp [b2i, mBI, eq_false c_1, c_2, eq_false c_3]; done) | rfl) rfl)) ?_
              exact hJ106 _ (show lv_has ls 8 [(7, .int (b2i (mSh r (mOns r n x1 x2) i))), (6, .int (nI i)), (5, .int (b2i (itN i (mBI r (mVal r n (nI 1) x1 x2) (mOns r n x1 x2)) false))), (4, .int (mOns r n x1 x2)), (3, .int (mVal r n (nI 1) x1 x2)), (0, .ref (z 0)), (1, .int x1), (2, .int x2)] from lv_sub hl [0, 1, 2, 3, 4, 5, 6, 7] rfl)
            · refine lv_iload hx hb dX7_isBad_96 (lv_at hl 0 rfl) ?_
              refine lv_if_eq (tgt := 105) hx hb dX7_isBad_98 (by decide) (fun c_4 => ?_) (fun c_4 => ?_)
              · have c_4 := b2i_f c_4
                refine lv_iconst (v := nI 0) hx hb dX7_isBad_105 (by decide +kernel) ?_
                refine W.eq (g2 := F0 m 106 ls [.int (b2i (mBI r (mVal r n (nI 1) x1 x2) (mOns r n x1 x2) i (itN i (mBI r (mVal r n (nI 1) x1 x2) (mOns r n x1 x2)) false)))]) (g_st (gs_i (show nI 0 = b2i (mBI r (mVal r n (nI 1) x1 x2) (mOns r n x1 x2) i (itN i (mBI r (mVal r n (nI 1) x1 x2) (mOns r n x1 x2)) false)) by first | with_reducible rfl | with_reducible exact nI_add _ _ | (simp only [mBI, eq_false c_1, c_2, eq_true c_3, c_4, ↓reduceIte, Bool.false_eq_true, decide_true, decide_false, Bool.not_true, Bool.not_false, Bool.or_true, Bool.true_or, Bool.or_false, Bool.false_or]; done) | (simp only [mBI, eq_false c_1, c_2, eq_true c_3, c_4, ↓reduceIte, Bool.false_eq_true, decide_true, decide_false, Bool.not_true, Bool.not_false, Bool.or_true, Bool.true_or, Bool.or_false, Bool.false_or]; with_reducible rfl) | (simp only [mBI, eq_false c_1, c_2, eq_true c_3, c_4, ↓reduceIte, Bool.false_eq_true, decide_true, decide_false, Bool.not_true, Bool.not_false, Bool.or_true, Bool.true_or, Bool.or_false, Bool.false_or]; rfl) | (simp [b2i, mBI, eq_false c_1, c_2, eq_true c_3, c_4]; done) | rfl) rfl)) ?_
                exact hJ106 _ (show lv_has ls 8 [(7, .int (b2i (mSh r (mOns r n x1 x2) i))), (6, .int (nI i)), (5, .int (b2i (itN i (mBI r (mVal r n (nI 1) x1 x2) (mOns r n x1 x2)) false))), (4, .int (mOns r n x1 x2)), (3, .int (mVal r n (nI 1) x1 x2)), (0, .ref (z 0)), (1, .int x1), (2, .int x2)] from lv_sub hl [0, 1, 2, 3, 4, 5, 6, 7] rfl)
              · have c_4 := b2i_t c_4
                refine lv_iconst (v := nI 1) hx hb dX7_isBad_101 (by decide +kernel) ?_
                refine lv_goto (tgt := 106) hx hb dX7_isBad_102 (by decide) ?_
                refine W.eq (g2 := F0 m 106 ls [.int (b2i (mBI r (mVal r n (nI 1) x1 x2) (mOns r n x1 x2) i (itN i (mBI r (mVal r n (nI 1) x1 x2) (mOns r n x1 x2)) false)))]) (g_st (gs_i (show nI 1 = b2i (mBI r (mVal r n (nI 1) x1 x2) (mOns r n x1 x2) i (itN i (mBI r (mVal r n (nI 1) x1 x2) (mOns r n x1 x2)) false)) by first | with_reducible rfl | with_reducible exact nI_add _ _ | (simp only [mBI, eq_false c_1, c_2, eq_true c_3, c_4, ↓reduceIte, Bool.false_eq_true, decide_true, decide_false, Bool.not_true, Bool.not_false, Bool.or_true, Bool.true_or, Bool.or_false, Bool.false_or]; done) | (simp only [mBI, eq_false c_1, c_2, eq_true c_3, c_4, ↓reduceIte, Bool.false_eq_true, decide_true, decide_false, Bool.not_true, Bool.not_false, Bool.or_true, Bool.true_or, Bool.or_false, Bool.false_or]; with_reducible rfl) | (simp only [mBI, eq_false c_1, c_2, eq_true c_3, c_4, ↓reduceIte, Bool.false_eq_true, decide_true, decide_false, Bool.not_true, Bool.not_false, Bool.or_true, Bool.true_or, Bool.or_false, Bool.false_or]; rfl) | (simp [b2i, mBI, eq_false c_1, c_2, eq_true c_3, c_4]; done) | rfl) rfl)) ?_
                exact hJ106 _ (show lv_has ls 8 [(7, .int (b2i (mSh r (mOns r n x1 x2) i))), (6, .int (nI i)), (5, .int (b2i (itN i (mBI r (mVal r n (nI 1) x1 x2) (mOns r n x1 x2)) false))), (4, .int (mOns r n x1 x2)), (3, .int (mVal r n (nI 1) x1 x2)), (0, .ref (z 0)), (1, .int x1), (2, .int x2)] from lv_sub hl [0, 1, 2, 3, 4, 5, 6, 7] rfl)
      · refine lv_icmp_eq (tgt := 73) hx hb dX7_isBad_39 (by decide) (fun c_5 => ?_) (fun c_5 => ?_)
        · refine lv_iconst (v := nI 1) hx hb dX7_isBad_73 (by decide +kernel) ?_
          refine lv_goto (tgt := 78) hx hb dX7_isBad_74 (by decide) ?_
          refine W.eq (g2 := F0 m 78 ls [.int (b2i (mSh r (mOns r n x1 x2) i))]) (g_st (gs_i (show nI 1 = b2i (mSh r (mOns r n x1 x2) i) by first | with_reducible rfl | with_reducible exact nI_add _ _ | (simp only [mSh, eq_false c_1, eq_true c_5, ↓reduceIte, Bool.false_eq_true, decide_true, decide_false, Bool.not_true, Bool.not_false, Bool.or_true, Bool.true_or, Bool.or_false, Bool.false_or]; done) | (simp only [mSh, eq_false c_1, eq_true c_5, ↓reduceIte, Bool.false_eq_true, decide_true, decide_false, Bool.not_true, Bool.not_false, Bool.or_true, Bool.true_or, Bool.or_false, Bool.false_or]; with_reducible rfl) | (simp only [mSh, eq_false c_1, eq_true c_5, ↓reduceIte, Bool.false_eq_true, decide_true, decide_false, Bool.not_true, Bool.not_false, Bool.or_true, Bool.true_or, Bool.or_false, Bool.false_or]; rfl) | (simp [b2i, mSh, eq_false c_1, eq_true c_5]; done) | rfl) rfl)) ?_
          exact hJ78 _ (show lv_has ls 8 [(6, .int (nI i)), (5, .int (b2i (itN i (mBI r (mVal r n (nI 1) x1 x2) (mOns r n x1 x2)) false))), (4, .int (mOns r n x1 x2)), (3, .int (mVal r n (nI 1) x1 x2)), (0, .ref (z 0)), (1, .int x1), (2, .int x2)] from lv_sub hl [0, 1, 2, 3, 4, 5, 6] rfl)
        · refine lv_iload hx hb dX7_isBad_42 (lv_at hl 2 rfl) ?_
          refine lv_aload_n hx hb dX7_isBad_44 rfl (lv_at hl 4 rfl) ?_
          refine va_get (D := G.1) (ci := 7) (v := .ref (z 3)) (C := RX7) (T := TX7) (N := 26) hx hb hts hinX7 hown hK.1 hP 0 rfl rfl 6 (by decide) (hts (.fieldLink RX7 20 "RotaforgeModel" "defectSwitches" "[I") (by decide +kernel)) (fun _ h9 => h9) rfl dX7_isBad_45 ?_
          refine lv_iload hx hb dX7_isBad_48 (lv_at hl 0 rfl) ?_
          refine g_iald hx hb hK.1 hP 3 0 rfl rfl i (rfl) (by omega) (by decide) dX7_isBad_50 ?_
          refine lv_ishr hx hb dX7_isBad_51 ?_
          refine lv_iconst (v := nI 1) hx hb dX7_isBad_52 (by decide +kernel) ?_
          refine lv_iand hx hb dX7_isBad_53 ?_
          refine lv_iconst (v := nI 1) hx hb dX7_isBad_54 (by decide +kernel) ?_
          refine g_join m 63 8 [(6, .int (nI i)), (5, .int (b2i (itN i (mBI r (mVal r n (nI 1) x1 x2) (mOns r n x1 x2)) false))), (4, .int (mOns r n x1 x2)), (3, .int (mVal r n (nI 1) x1 x2)), (0, .ref (z 0)), (1, .int x1), (2, .int x2)] [.int (b2i (decide (((mOns r n x1 x2) >>> (r 2 i &&& 31)) &&& nI 1 = nI 1)))] (fun ls hl => ?_) (fun hJ63 => ?_)
          · refine lv_aload_n hx hb dX7_isBad_63 rfl (lv_at hl 4 rfl) ?_
            refine va_get (D := G.1) (ci := 7) (v := .ref (z 4)) (C := RX7) (T := TX7) (N := 26) hx hb hts hinX7 hown hK.1 hP 0 rfl rfl 7 (by decide) (hts (.fieldLink RX7 23 "RotaforgeModel" "defectOns" "[Z") (by decide +kernel)) (fun _ h9 => h9) rfl dX7_isBad_64 ?_
            refine lv_iload hx hb dX7_isBad_67 (lv_at hl 0 rfl) ?_
            refine g_zald hx hb hK.1 hP 4 1 rfl rfl i (rfl) (by omega) (by decide) dX7_isBad_69 ?_
            refine lv_icmp_ne (tgt := 77) hx hb dX7_isBad_70 (by decide) (fun c_6 => ?_) (fun c_6 => ?_)
            · refine lv_iconst (v := nI 0) hx hb dX7_isBad_77 (by decide +kernel) ?_
              refine W.eq (g2 := F0 m 78 ls [.int (b2i (mSh r (mOns r n x1 x2) i))]) (g_st (gs_i (show nI 0 = b2i (mSh r (mOns r n x1 x2) i) by first | with_reducible rfl | with_reducible exact nI_add _ _ | (simp only [mSh, eq_false c_1, eq_false c_5, eq_false c_6, ↓reduceIte, Bool.false_eq_true, decide_true, decide_false, Bool.not_true, Bool.not_false, Bool.or_true, Bool.true_or, Bool.or_false, Bool.false_or]; done) | (simp only [mSh, eq_false c_1, eq_false c_5, eq_false c_6, ↓reduceIte, Bool.false_eq_true, decide_true, decide_false, Bool.not_true, Bool.not_false, Bool.or_true, Bool.true_or, Bool.or_false, Bool.false_or]; with_reducible rfl) | (simp only [mSh, eq_false c_1, eq_false c_5, eq_false c_6, ↓reduceIte, Bool.false_eq_true, decide_true, decide_false, Bool.not_true, Bool.not_false, Bool.or_true, Bool.true_or, Bool.or_false, Bool.false_or]; rfl) | (simp [b2i, mSh, eq_false c_1, eq_false c_5, eq_false c_6]; done) | rfl) rfl)) ?_
              exact hJ78 _ (show lv_has ls 8 [(6, .int (nI i)), (5, .int (b2i (itN i (mBI r (mVal r n (nI 1) x1 x2) (mOns r n x1 x2)) false))), (4, .int (mOns r n x1 x2)), (3, .int (mVal r n (nI 1) x1 x2)), (0, .ref (z 0)), (1, .int x1), (2, .int x2)] from lv_sub hl [0, 1, 2, 3, 4, 5, 6] rfl)
            · refine lv_iconst (v := nI 1) hx hb dX7_isBad_73 (by decide +kernel) ?_
              refine lv_goto (tgt := 78) hx hb dX7_isBad_74 (by decide) ?_
              refine W.eq (g2 := F0 m 78 ls [.int (b2i (mSh r (mOns r n x1 x2) i))]) (g_st (gs_i (show nI 1 = b2i (mSh r (mOns r n x1 x2) i) by first | with_reducible rfl | with_reducible exact nI_add _ _ | (simp only [mSh, eq_false c_1, eq_false c_5, eq_true c_6, ↓reduceIte, Bool.false_eq_true, decide_true, decide_false, Bool.not_true, Bool.not_false, Bool.or_true, Bool.true_or, Bool.or_false, Bool.false_or]; done) | (simp only [mSh, eq_false c_1, eq_false c_5, eq_true c_6, ↓reduceIte, Bool.false_eq_true, decide_true, decide_false, Bool.not_true, Bool.not_false, Bool.or_true, Bool.true_or, Bool.or_false, Bool.false_or]; with_reducible rfl) | (simp only [mSh, eq_false c_1, eq_false c_5, eq_true c_6, ↓reduceIte, Bool.false_eq_true, decide_true, decide_false, Bool.not_true, Bool.not_false, Bool.or_true, Bool.true_or, Bool.or_false, Bool.false_or]; rfl) | (simp [b2i, mSh, eq_false c_1, eq_false c_5, eq_true c_6]; done) | rfl) rfl)) ?_
              exact hJ78 _ (show lv_has ls 8 [(6, .int (nI i)), (5, .int (b2i (itN i (mBI r (mVal r n (nI 1) x1 x2) (mOns r n x1 x2)) false))), (4, .int (mOns r n x1 x2)), (3, .int (mVal r n (nI 1) x1 x2)), (0, .ref (z 0)), (1, .int x1), (2, .int x2)] from lv_sub hl [0, 1, 2, 3, 4, 5, 6] rfl)
          · refine lv_icmp_ne (tgt := 62) hx hb dX7_isBad_55 (by decide) (fun c_7 => ?_) (fun c_7 => ?_)
            · refine lv_iconst (v := nI 0) hx hb dX7_isBad_62 (by decide +kernel) ?_
              refine W.eq (g2 := F0 m 63 ls [.int (b2i (decide (((mOns r n x1 x2) >>> (r 2 i &&& 31)) &&& nI 1 = nI 1)))]) (g_st (gs_i (show nI 0 = b2i (decide (((mOns r n x1 x2) >>> (r 2 i &&& 31)) &&& nI 1 = nI 1)) by first | with_reducible rfl | with_reducible exact nI_add _ _ | (simp only [eq_false c_1, eq_false c_5, eq_false c_7, ↓reduceIte, Bool.false_eq_true, decide_true, decide_false, Bool.not_true, Bool.not_false, Bool.or_true, Bool.true_or, Bool.or_false, Bool.false_or]; done) | (simp only [eq_false c_1, eq_false c_5, eq_false c_7, ↓reduceIte, Bool.false_eq_true, decide_true, decide_false, Bool.not_true, Bool.not_false, Bool.or_true, Bool.true_or, Bool.or_false, Bool.false_or]; with_reducible rfl) | (simp only [eq_false c_1, eq_false c_5, eq_false c_7, ↓reduceIte, Bool.false_eq_true, decide_true, decide_false, Bool.not_true, Bool.not_false, Bool.or_true, Bool.true_or, Bool.or_false, Bool.false_or]; rfl) | (simp [b2i, eq_false c_1, eq_false c_5, eq_false c_7]; done) | rfl) rfl)) ?_
              exact hJ63 _ (show lv_has ls 8 [(6, .int (nI i)), (5, .int (b2i (itN i (mBI r (mVal r n (nI 1) x1 x2) (mOns r n x1 x2)) false))), (4, .int (mOns r n x1 x2)), (3, .int (mVal r n (nI 1) x1 x2)), (0, .ref (z 0)), (1, .int x1), (2, .int x2)] from lv_sub hl [0, 1, 2, 3, 4, 5, 6] rfl)
            · refine lv_iconst (v := nI 1) hx hb dX7_isBad_58 (by decide +kernel) ?_
              refine lv_goto (tgt := 63) hx hb dX7_isBad_59 (by decide) ?_
              refine W.eq (g2 := F0 m 63 ls [.int (b2i (decide (((mOns r n x1 x2) >>> (r 2 i &&& 31)) &&& nI 1 = nI 1)))]) (g_st (gs_i (show nI 1 = b2i (decide (((mOns r n x1 x2) >>> (r 2 i &&& 31)) &&& nI 1 = nI 1)) by first | with_reducible rfl | with_reducible exact nI_add _ _ | (simp only [eq_false c_1, eq_false c_5, eq_true c_7, ↓reduceIte, Bool.false_eq_true, decide_true, decide_false, Bool.not_true, Bool.not_false, Bool.or_true, Bool.true_or, Bool.or_false, Bool.false_or]; done) | (simp only [eq_false c_1, eq_false c_5, eq_true c_7, ↓reduceIte, Bool.false_eq_true, decide_true, decide_false, Bool.not_true, Bool.not_false, Bool.or_true, Bool.true_or, Bool.or_false, Bool.false_or]; with_reducible rfl) | (simp only [eq_false c_1, eq_false c_5, eq_true c_7, ↓reduceIte, Bool.false_eq_true, decide_true, decide_false, Bool.not_true, Bool.not_false, Bool.or_true, Bool.true_or, Bool.or_false, Bool.false_or]; rfl) | (simp [b2i, eq_false c_1, eq_false c_5, eq_true c_7]; done) | rfl) rfl)) ?_
              exact hJ63 _ (show lv_has ls 8 [(6, .int (nI i)), (5, .int (b2i (itN i (mBI r (mVal r n (nI 1) x1 x2) (mOns r n x1 x2)) false))), (4, .int (mOns r n x1 x2)), (3, .int (mVal r n (nI 1) x1 x2)), (0, .ref (z 0)), (1, .int x1), (2, .int x2)] from lv_sub hl [0, 1, 2, 3, 4, 5, 6] rfl)
  · exact (lv_cv (show lv_has ls 8 [(6, .int (nI 0)), (5, .int (nI 0)), (4, .int (mOns r n x1 x2)), (3, .int (mVal r n (nI 1) x1 x2)), (0, .ref (z 0)), (1, .int x1), (2, .int x2)] from lv_sub hl [0, 1, 2, 3, 4, 5, 6] rfl) (gl_s (gl_i (show nI 0 = b2i (itN 0 (mBI r (mVal r n (nI 1) x1 x2) (mOns r n x1 x2)) false) by first | with_reducible rfl | with_reducible exact nI_add _ _ | (simp only [true_and, ↓reduceIte, Bool.false_eq_true, decide_true, decide_false, Bool.not_true, Bool.not_false, Bool.or_true, Bool.true_or, Bool.or_false, Bool.false_or]; done) | (simp only [true_and, ↓reduceIte, Bool.false_eq_true, decide_true, decide_false, Bool.not_true, Bool.not_false, Bool.or_true, Bool.true_or, Bool.or_false, Bool.false_or]; with_reducible rfl) | (simp only [true_and, ↓reduceIte, Bool.false_eq_true, decide_true, decide_false, Bool.not_true, Bool.not_false, Bool.or_true, Bool.true_or, Bool.or_false, Bool.false_or]; rfl) | (simp [b2i, true_and]; done) | rfl) (gl_s (gl_s (gl_s (gl_s (gl_s rfl))))))))

set_option maxHeartbeats 4000000 in
set_option maxRecDepth 100000 in
theorem c_X7_traceOf (l : Launch) (G : gG) (H0 : Heap) (z : Nat → Nat) (r : Nat → Nat → Int32) (f : Nat → Int32) (hP : va_P G.1 vwCl (wRM G z r f) H0) (x1 : Int32) (n d k t : Nat) (hM : mOK r f n d k t) : gMr l yX7_traceOf wsX7_traceOf 4 101 G H0 [.ref (z 0), .int x1] (mTrace r n d x1) := by
  refine Met.ofW (cc := cX7_traceOf) (maxL := 5) (ret := (some .int)) (by decide) rfl ?_
  intro p_ e_ s m args below meth c s₁ B hml hv
  obtain ⟨rfl, rfl, hK⟩ := hv
  have hx := B.exec
  have hb := B.bytes
  have hr := B.returns
  have hts := atoms_spec (ws := wsX7_traceOf) B.pre
  have hown : s.vm.findClass RX7 = some m.cls := findClass_of_methodNamed B.named
  have hlocks := B.notSynchronized
  have hinX7 : ∀ w ∈ wsX70, w ∈ wsX7_traceOf := by decide +kernel
  have S0 : CallFix p_ m c cX7_traceOf 5 s _ wsX7_traceOf RX7 := ⟨hx, hb, hml, hown, hts⟩
  have hl := lv_entry ([.ref (z 0), .int x1]) (n := 5) (Nat.le_of_ble_eq_true rfl)
  rw [lg_entry_eq]
  generalize (lg_sl ([.ref (z 0), .int x1]) ++ List.replicate (5 - (lg_sl ([.ref (z 0), .int x1])).length) Slot.unset).toArray = ls at hl ⊢
  have hl : lv_has ls 5 [(0, .ref (z 0)), (1, .int x1)] := hl
  obtain ⟨hn, hn2, hd, hd2, hk, hk2, ht, ht2, hh, hm⟩ := id hM
  refine lv_iconst (v := (-1)) hx hb dX7_traceOf_0 (by decide +kernel) ?_
  refine lv_istore_n (lv' := [(2, .int (-1)), (0, .ref (z 0)), (1, .int x1)]) hx hb dX7_traceOf_1 rfl hl (by decide) rfl (fun ls hl => ?_)
  refine lv_aload_n hx hb dX7_traceOf_2 rfl (lv_at hl 1 rfl) ?_
  refine lv_iload_n hx hb dX7_traceOf_3 rfl (lv_at hl 2 rfl) ?_
  refine lv_iconst (v := (-1)) hx hb dX7_traceOf_4 (by decide +kernel) ?_
  refine g_callC (W.runV (C := RX7) (As := [.int x1, .int (-1)]) (rest := []) S0 (c_X7_isBad l G _ z r f hP x1 (-1) n d k t hM) (cwV 2 hts gX7_traceOf_X7_isBad rfl rfl rfl (by decide +kernel) ⟨Nat.le_of_ble_eq_true rfl, Nat.le_of_ble_eq_true rfl⟩) (g_preV hK hP (q0 := 0) (ci := 7) (q := (RX7, TX7, 26)) rfl rfl) rfl rfl hl.1 rfl (lv_room (Nat.le_of_ble_eq_true rfl)) dX7_traceOf_5 ⟨Nat.zero_le _, Nat.zero_le _⟩) ?_
  refine lv_istore_n (lv' := [(3, .int (b2i (mBad r n d x1 (-1)))), (2, .int (-1)), (0, .ref (z 0)), (1, .int x1)]) hx hb dX7_traceOf_8 rfl hl (by decide) rfl (fun ls hl => ?_)
  refine lv_iconst (v := nI 0) hx hb dX7_traceOf_9 (by decide +kernel) ?_
  refine lv_istore (lv' := [(4, .int (nI 0)), (3, .int (b2i (mBad r n d x1 (-1)))), (2, .int (-1)), (0, .ref (z 0)), (1, .int x1)]) hx hb dX7_traceOf_10 hl (by decide) rfl (fun ls hl => ?_)
  refine g_loop _ m 12 5 [] (n) (fun i => [(4, .int (nI i)), (3, .int (b2i (mBad r n d x1 (-1)))), (2, .int (lastN i (mTP r n d x1))), (0, .ref (z 0)), (1, .int x1)]) (fun i => mBad r n d x1 (-1) = false → i = 0) (fun i hi12 hI ih12 ls hl => ?_) 0 (Nat.zero_le _) (by intro _; rfl) ls ?_
  · have hl : lv_has ls 5 [(4, .int (nI i)), (3, .int (b2i (mBad r n d x1 (-1)))), (2, .int (lastN i (mTP r n d x1))), (0, .ref (z 0)), (1, .int x1)] := hl
    have hI : mBad r n d x1 (-1) = false → i = 0 := hI
    refine lv_iload hx hb dX7_traceOf_12 (lv_at hl 0 rfl) ?_
    refine lv_aload_n hx hb dX7_traceOf_14 rfl (lv_at hl 3 rfl) ?_
    refine va_get (D := G.1) (ci := 7) (v := .int (f 4)) (C := RX7) (T := TX7) (N := 26) hx hb hts hinX7 hown hK.1 hP 0 rfl rfl 8 (by decide) (hts (.fieldLink RX7 79 "RotaforgeModel" "changeMany" "I") (by decide +kernel)) (fun _ h9 => h9) rfl dX7_traceOf_15 ?_
    refine lv_icmp_ge (tgt := 48) hx hb dX7_traceOf_18 (by decide) (fun c_1 => ?_) (fun c_1 => ?_)
    · have hex : n = i := by
        rw [hn] at c_1
        have h9 := (nI_leI (a := n) (b := i) (by omega) (by omega)).mp c_1
        omega
      subst hex
      refine lv_iload_n hx hb dX7_traceOf_48 rfl (lv_at hl 2 rfl) ?_
      have hq : (lastN n (mTP r n d x1)) = (mTrace r n d x1) := by
        unfold mTrace
        split
        · first | rfl | (rename_i h9; rw [c_2] at h9; cases h9)
        · rename_i h9
          rw [hI (by simpa using h9)]
          rfl
      exact W.iret (v := lastN n (mTP r n d x1)) hx hb hr (fun t ht _ => g_ret hq ht) g_no dX7_traceOf_49
    · have hlt : i < n := by
        rw [hn] at c_1
        have h9 := mt (nI_leI (a := n) (b := i) (by omega) (by omega)).mpr c_1
        omega
      refine lv_iload_n hx hb dX7_traceOf_21 rfl (lv_at hl 1 rfl) ?_
      refine lv_if_eq (tgt := 48) hx hb dX7_traceOf_22 (by decide) (fun c_2 => ?_) (fun c_2 => ?_)
      · have c_2 := b2i_f c_2
        refine lv_iload_n hx hb dX7_traceOf_48 rfl (lv_at hl 2 rfl) ?_
        have hq : (lastN i (mTP r n d x1)) = (mTrace r n d x1) := by
          unfold mTrace
          split
          · first | rfl | (rename_i h9; rw [c_2] at h9; cases h9)
          · rename_i h9
            rw [hI (by simpa using h9)]
            rfl
        exact W.iret (v := lastN i (mTP r n d x1)) hx hb hr (fun t ht _ => g_ret hq ht) g_no dX7_traceOf_49
      · have c_2 := b2i_t c_2
        refine lv_aload_n hx hb dX7_traceOf_25 rfl (lv_at hl 3 rfl) ?_
        refine lv_iload_n hx hb dX7_traceOf_26 rfl (lv_at hl 4 rfl) ?_
        refine lv_iload hx hb dX7_traceOf_27 (lv_at hl 0 rfl) ?_
        refine g_callC (W.runV (C := RX7) (As := [.int x1, .int (nI i)]) (rest := []) S0 (c_X7_isBad l G _ z r f hP x1 (nI i) n d k t hM) (cwV 2 hts gX7_traceOf_X7_isBad rfl rfl rfl (by decide +kernel) ⟨Nat.le_of_ble_eq_true rfl, Nat.le_of_ble_eq_true rfl⟩) (g_preV hK hP (q0 := 0) (ci := 7) (q := (RX7, TX7, 26)) rfl rfl) rfl rfl hl.1 rfl (lv_room (Nat.le_of_ble_eq_true rfl)) dX7_traceOf_29 ⟨Nat.zero_le _, Nat.zero_le _⟩) ?_
        refine g_join m 41 5 [(4, .int (nI i)), (3, .int (b2i (mBad r n d x1 (-1)))), (2, .int (lastN i (mTP r n d x1))), (0, .ref (z 0)), (1, .int x1)] [.int (lastN (i + 1) (mTP r n d x1))] (fun ls hl => ?_) (fun hJ41 => ?_)
        · refine lv_istore_n (lv' := [(2, .int (lastN (i + 1) (mTP r n d x1))), (4, .int (nI i)), (3, .int (b2i (mBad r n d x1 (-1)))), (0, .ref (z 0)), (1, .int x1)]) hx hb dX7_traceOf_41 rfl hl (by decide) rfl (fun ls hl => ?_)
          refine lv_iinc (v := (nI i) + nI 1) (lv' := [(4, .int ((nI i) + nI 1)), (2, .int (lastN (i + 1) (mTP r n d x1))), (3, .int (b2i (mBad r n d x1 (-1)))), (0, .ref (z 0)), (1, .int x1)]) hx hb dX7_traceOf_42 hl (k := 1) rfl (congrArg (fun q : Int32 => (nI i) + q) (by decide +kernel)) (by decide) rfl (fun ls hl => ?_)
          refine lv_goto (tgt := 12) hx hb dX7_traceOf_45 (by decide) ?_
          exact ih12 _ (by omega) (by intro h9; rw [c_2] at h9; cases h9) (lv_cv (show lv_has ls 5 [(4, .int ((nI i) + nI 1)), (3, .int (b2i (mBad r n d x1 (-1)))), (2, .int (lastN (i + 1) (mTP r n d x1))), (0, .ref (z 0)), (1, .int x1)] from lv_sub hl [0, 2, 1, 3, 4] rfl) (gl_i (show (nI i) + nI 1 = nI (i + 1) by first | with_reducible rfl | with_reducible exact nI_add _ _ | (simp only [itN_s i, eq_false c_1, c_2, ↓reduceIte, Bool.false_eq_true, decide_true, decide_false, Bool.not_true, Bool.not_false, Bool.or_true, Bool.true_or, Bool.or_false, Bool.false_or]; done) | (simp only [itN_s i, eq_false c_1, c_2, ↓reduceIte, Bool.false_eq_true, decide_true, decide_false, Bool.not_true, Bool.not_false, Bool.or_true, Bool.true_or, Bool.or_false, Bool.false_or]; with_reducible rfl) | (simp only [itN_s i, eq_false c_1, c_2, ↓reduceIte, Bool.false_eq_true, decide_true, decide_false, Bool.not_true, Bool.not_false, Bool.or_true, Bool.true_or, Bool.or_false, Bool.false_or]; rfl) | (simp [b2i, itN_s i, eq_false c_1, c_2]; done) | rfl) (gl_s (gl_s (gl_s (gl_s rfl))))))
        · refine lv_if_eq (tgt := 39) hx hb dX7_traceOf_32 (by decide) (fun c_3 => ?_) (fun c_3 => ?_)
          · have c_3 := b2i_f c_3
            refine lv_iload hx hb dX7_traceOf_39 (lv_at hl 0 rfl) ?_
            refine W.eq (g2 := F0 m 41 ls [.int (lastN (i + 1) (mTP r n d x1))]) (g_st (gs_i (show nI i = lastN (i + 1) (mTP r n d x1) by first | with_reducible rfl | with_reducible exact nI_add _ _ | (simp only [lastN, mTP, eq_false c_1, c_2, c_3, ↓reduceIte, Bool.false_eq_true, decide_true, decide_false, Bool.not_true, Bool.not_false, Bool.or_true, Bool.true_or, Bool.or_false, Bool.false_or]; done) | (simp only [lastN, mTP, eq_false c_1, c_2, c_3, ↓reduceIte, Bool.false_eq_true, decide_true, decide_false, Bool.not_true, Bool.not_false, Bool.or_true, Bool.true_or, Bool.or_false, Bool.false_or]; with_reducible rfl) | (simp only [lastN, mTP, eq_false c_1, c_2, c_3, ↓reduceIte, Bool.false_eq_true, decide_true, decide_false, Bool.not_true, Bool.not_false, Bool.or_true, Bool.true_or, Bool.or_false, Bool.false_or]; rfl) | (simp [b2i, lastN, mTP, eq_false c_1, c_2, c_3]; done) | rfl) rfl)) ?_
            exact hJ41 _ (show lv_has ls 5 [(4, .int (nI i)), (3, .int (b2i (mBad r n d x1 (-1)))), (2, .int (lastN i (mTP r n d x1))), (0, .ref (z 0)), (1, .int x1)] from lv_sub hl [0, 1, 2, 3, 4] rfl)
          · have c_3 := b2i_t c_3
            refine lv_iload_n hx hb dX7_traceOf_35 rfl (lv_at hl 2 rfl) ?_
            refine lv_goto (tgt := 41) hx hb dX7_traceOf_36 (by decide) ?_
            refine W.eq (g2 := F0 m 41 ls [.int (lastN (i + 1) (mTP r n d x1))]) (g_st (gs_i (show lastN i (mTP r n d x1) = lastN (i + 1) (mTP r n d x1) by first | with_reducible rfl | with_reducible exact nI_add _ _ | (simp only [lastN, mTP, eq_false c_1, c_2, c_3, ↓reduceIte, Bool.false_eq_true, decide_true, decide_false, Bool.not_true, Bool.not_false, Bool.or_true, Bool.true_or, Bool.or_false, Bool.false_or]; done) | (simp only [lastN, mTP, eq_false c_1, c_2, c_3, ↓reduceIte, Bool.false_eq_true, decide_true, decide_false, Bool.not_true, Bool.not_false, Bool.or_true, Bool.true_or, Bool.or_false, Bool.false_or]; with_reducible rfl) | (simp only [lastN, mTP, eq_false c_1, c_2, c_3, ↓reduceIte, Bool.false_eq_true, decide_true, decide_false, Bool.not_true, Bool.not_false, Bool.or_true, Bool.true_or, Bool.or_false, Bool.false_or]; rfl) | (simp [b2i, lastN, mTP, eq_false c_1, c_2, c_3]; done) | rfl) rfl)) ?_
            exact hJ41 _ (show lv_has ls 5 [(4, .int (nI i)), (3, .int (b2i (mBad r n d x1 (-1)))), (2, .int (lastN i (mTP r n d x1))), (0, .ref (z 0)), (1, .int x1)] from lv_sub hl [0, 1, 2, 3, 4] rfl)
  · exact (lv_cv (show lv_has ls 5 [(4, .int (nI 0)), (3, .int (b2i (mBad r n d x1 (-1)))), (2, .int (-1)), (0, .ref (z 0)), (1, .int x1)] from lv_sub hl [0, 1, 2, 3, 4] rfl) (gl_s (gl_s (gl_i (show (-1) = lastN 0 (mTP r n d x1) by first | with_reducible rfl | with_reducible exact nI_add _ _ | (simp only [true_and, ↓reduceIte, Bool.false_eq_true, decide_true, decide_false, Bool.not_true, Bool.not_false, Bool.or_true, Bool.true_or, Bool.or_false, Bool.false_or]; done) | (simp only [true_and, ↓reduceIte, Bool.false_eq_true, decide_true, decide_false, Bool.not_true, Bool.not_false, Bool.or_true, Bool.true_or, Bool.or_false, Bool.false_or]; with_reducible rfl) | (simp only [true_and, ↓reduceIte, Bool.false_eq_true, decide_true, decide_false, Bool.not_true, Bool.not_false, Bool.or_true, Bool.true_or, Bool.or_false, Bool.false_or]; rfl) | (simp [b2i, true_and]; done) | rfl) (gl_s (gl_s rfl))))))

set_option maxHeartbeats 4000000 in
set_option maxRecDepth 100000 in
theorem c_X7_rested (l : Launch) (G : gG) (H0 : Heap) (z : Nat → Nat) (r : Nat → Nat → Int32) (f : Nat → Int32) (hP : va_P G.1 vwCl (wRM G z r f) H0) (x1 : Int32) (p : Nat) (hp : x1 = nI p) (hp2 : p < 6) : gMr l yX7_rested wsX7_rested 0 0 G H0 [.ref (z 0), .int x1] (b2i (mRest r f p)) := by
  refine Met.ofW (cc := cX7_rested) (maxL := 2) (ret := (some .boolean)) (by decide) rfl ?_
  intro p_ e_ s m args below meth c s₁ B hml hv
  obtain ⟨rfl, rfl, hK⟩ := hv
  have hx := B.exec
  have hb := B.bytes
  have hr := B.returns
  have hts := atoms_spec (ws := wsX7_rested) B.pre
  have hown : s.vm.findClass RX7 = some m.cls := findClass_of_methodNamed B.named
  have hlocks := B.notSynchronized
  have hinX7 : ∀ w ∈ wsX70, w ∈ wsX7_rested := by decide +kernel
  have S0 : CallFix p_ m c cX7_rested 2 s _ wsX7_rested RX7 := ⟨hx, hb, hml, hown, hts⟩
  have hl := lv_entry ([.ref (z 0), .int x1]) (n := 2) (Nat.le_of_ble_eq_true rfl)
  rw [lg_entry_eq]
  generalize (lg_sl ([.ref (z 0), .int x1]) ++ List.replicate (2 - (lg_sl ([.ref (z 0), .int x1])).length) Slot.unset).toArray = ls at hl ⊢
  have hl : lv_has ls 2 [(0, .ref (z 0)), (1, .int x1)] := hl
  subst hp
  refine lv_aload_n hx hb dX7_rested_0 rfl (lv_at hl 0 rfl) ?_
  refine va_get (D := G.1) (ci := 7) (v := .ref (z 12)) (C := RX7) (T := TX7) (N := 26) hx hb hts hinX7 hown hK.1 hP 0 rfl rfl 16 (by decide) (hts (.fieldLink RX7 48 "RotaforgeModel" "nights" "[I") (by decide +kernel)) (fun _ h9 => h9) rfl dX7_rested_1 ?_
  refine lv_iload_n hx hb dX7_rested_4 rfl (lv_at hl 1 rfl) ?_
  refine g_iald hx hb hK.1 hP 12 0 rfl rfl p (rfl) (by omega) (by decide) dX7_rested_5 ?_
  refine lv_iconst (v := (-1)) hx hb dX7_rested_6 (by decide +kernel) ?_
  refine lv_icmp_eq (tgt := 43) hx hb dX7_rested_7 (by decide) (fun c_1 => ?_) (fun c_1 => ?_)
  · refine lv_iconst (v := nI 0) hx hb dX7_rested_43 (by decide +kernel) ?_
    have hq : (nI 0) = (b2i (mRest r f p)) := by
      first | with_reducible rfl | with_reducible exact nI_add _ _ | (simp only [mRest, eq_true c_1, ↓reduceIte, Bool.false_eq_true, decide_true, decide_false, Bool.not_true, Bool.not_false, Bool.or_true, Bool.true_or, Bool.or_false, Bool.false_or]; done) | (simp only [mRest, eq_true c_1, ↓reduceIte, Bool.false_eq_true, decide_true, decide_false, Bool.not_true, Bool.not_false, Bool.or_true, Bool.true_or, Bool.or_false, Bool.false_or]; with_reducible rfl) | (simp only [mRest, eq_true c_1, ↓reduceIte, Bool.false_eq_true, decide_true, decide_false, Bool.not_true, Bool.not_false, Bool.or_true, Bool.true_or, Bool.or_false, Bool.false_or]; rfl) | (simp [b2i, mRest, eq_true c_1]; done) | rfl
    exact W.zret (v := nI 0) hx hb hr (z_nar hq) (fun t ht _ => g_ret hq ht) g_no dX7_rested_44
  · refine lv_aload_n hx hb dX7_rested_10 rfl (lv_at hl 0 rfl) ?_
    refine va_get (D := G.1) (ci := 7) (v := .int (f 1)) (C := RX7) (T := TX7) (N := 26) hx hb hts hinX7 hown hK.1 hP 0 rfl rfl 1 (by decide) (hts (.fieldLink RX7 120 "RotaforgeModel" "time" "I") (by decide +kernel)) (fun _ h9 => h9) rfl dX7_rested_11 ?_
    refine lv_aload_n hx hb dX7_rested_14 rfl (lv_at hl 0 rfl) ?_
    refine va_get (D := G.1) (ci := 7) (v := .ref (z 12)) (C := RX7) (T := TX7) (N := 26) hx hb hts hinX7 hown hK.1 hP 0 rfl rfl 16 (by decide) (hts (.fieldLink RX7 48 "RotaforgeModel" "nights" "[I") (by decide +kernel)) (fun _ h9 => h9) rfl dX7_rested_15 ?_
    refine lv_iload_n hx hb dX7_rested_18 rfl (lv_at hl 1 rfl) ?_
    refine g_iald hx hb hK.1 hP 12 0 rfl rfl p (rfl) (by omega) (by decide) dX7_rested_19 ?_
    refine lv_icmp_le (tgt := 43) hx hb dX7_rested_20 (by decide) (fun c_2 => ?_) (fun c_2 => ?_)
    · refine lv_iconst (v := nI 0) hx hb dX7_rested_43 (by decide +kernel) ?_
      have hq : (nI 0) = (b2i (mRest r f p)) := by
        first | with_reducible rfl | with_reducible exact nI_add _ _ | (simp only [mRest, eq_false c_1, eq_true c_2, ↓reduceIte, Bool.false_eq_true, decide_true, decide_false, Bool.not_true, Bool.not_false, Bool.or_true, Bool.true_or, Bool.or_false, Bool.false_or]; done) | (simp only [mRest, eq_false c_1, eq_true c_2, ↓reduceIte, Bool.false_eq_true, decide_true, decide_false, Bool.not_true, Bool.not_false, Bool.or_true, Bool.true_or, Bool.or_false, Bool.false_or]; with_reducible rfl) | (simp only [mRest, eq_false c_1, eq_true c_2, ↓reduceIte, Bool.false_eq_true, decide_true, decide_false, Bool.not_true, Bool.not_false, Bool.or_true, Bool.true_or, Bool.or_false, Bool.false_or]; rfl) | (simp [b2i, mRest, eq_false c_1, eq_true c_2]; done) | rfl
      exact W.zret (v := nI 0) hx hb hr (z_nar hq) (fun t ht _ => g_ret hq ht) g_no dX7_rested_44
    · refine lv_aload_n hx hb dX7_rested_23 rfl (lv_at hl 0 rfl) ?_
      refine va_get (D := G.1) (ci := 7) (v := .int (f 1)) (C := RX7) (T := TX7) (N := 26) hx hb hts hinX7 hown hK.1 hP 0 rfl rfl 1 (by decide) (hts (.fieldLink RX7 120 "RotaforgeModel" "time" "I") (by decide +kernel)) (fun _ h9 => h9) rfl dX7_rested_24 ?_
      refine lv_aload_n hx hb dX7_rested_27 rfl (lv_at hl 0 rfl) ?_
      refine va_get (D := G.1) (ci := 7) (v := .ref (z 12)) (C := RX7) (T := TX7) (N := 26) hx hb hts hinX7 hown hK.1 hP 0 rfl rfl 16 (by decide) (hts (.fieldLink RX7 48 "RotaforgeModel" "nights" "[I") (by decide +kernel)) (fun _ h9 => h9) rfl dX7_rested_28 ?_
      refine lv_iload_n hx hb dX7_rested_31 rfl (lv_at hl 1 rfl) ?_
      refine g_iald hx hb hK.1 hP 12 0 rfl rfl p (rfl) (by omega) (by decide) dX7_rested_32 ?_
      refine lv_bipush (v := nI 12) hx hb dX7_rested_33 (by decide +kernel) ?_
      refine lv_iadd hx hb dX7_rested_35 ?_
      refine lv_icmp_gt (tgt := 43) hx hb dX7_rested_36 (by decide) (fun c_3 => ?_) (fun c_3 => ?_)
      · refine lv_iconst (v := nI 0) hx hb dX7_rested_43 (by decide +kernel) ?_
        have hq : (nI 0) = (b2i (mRest r f p)) := by
          first | with_reducible rfl | with_reducible exact nI_add _ _ | (simp only [mRest, eq_false c_1, eq_false c_2, eq_true c_3, ↓reduceIte, Bool.false_eq_true, decide_true, decide_false, Bool.not_true, Bool.not_false, Bool.or_true, Bool.true_or, Bool.or_false, Bool.false_or]; done) | (simp only [mRest, eq_false c_1, eq_false c_2, eq_true c_3, ↓reduceIte, Bool.false_eq_true, decide_true, decide_false, Bool.not_true, Bool.not_false, Bool.or_true, Bool.true_or, Bool.or_false, Bool.false_or]; with_reducible rfl) | (simp only [mRest, eq_false c_1, eq_false c_2, eq_true c_3, ↓reduceIte, Bool.false_eq_true, decide_true, decide_false, Bool.not_true, Bool.not_false, Bool.or_true, Bool.true_or, Bool.or_false, Bool.false_or]; rfl) | (simp [b2i, mRest, eq_false c_1, eq_false c_2, eq_true c_3]; done) | rfl
        exact W.zret (v := nI 0) hx hb hr (z_nar hq) (fun t ht _ => g_ret hq ht) g_no dX7_rested_44
      · refine lv_iconst (v := nI 1) hx hb dX7_rested_39 (by decide +kernel) ?_
        refine lv_goto (tgt := 44) hx hb dX7_rested_40 (by decide) ?_
        have hq : (nI 1) = (b2i (mRest r f p)) := by
          first | with_reducible rfl | with_reducible exact nI_add _ _ | (simp only [mRest, eq_false c_1, eq_false c_2, eq_false c_3, ↓reduceIte, Bool.false_eq_true, decide_true, decide_false, Bool.not_true, Bool.not_false, Bool.or_true, Bool.true_or, Bool.or_false, Bool.false_or]; done) | (simp only [mRest, eq_false c_1, eq_false c_2, eq_false c_3, ↓reduceIte, Bool.false_eq_true, decide_true, decide_false, Bool.not_true, Bool.not_false, Bool.or_true, Bool.true_or, Bool.or_false, Bool.false_or]; with_reducible rfl) | (simp only [mRest, eq_false c_1, eq_false c_2, eq_false c_3, ↓reduceIte, Bool.false_eq_true, decide_true, decide_false, Bool.not_true, Bool.not_false, Bool.or_true, Bool.true_or, Bool.or_false, Bool.false_or]; rfl) | (simp [b2i, mRest, eq_false c_1, eq_false c_2, eq_false c_3]; done) | rfl
        exact W.zret (v := nI 1) hx hb hr (z_nar hq) (fun t ht _ => g_ret hq ht) g_no dX7_rested_44

set_option maxHeartbeats 4000000 in
set_option maxRecDepth 100000 in
theorem c_X7_open (l : Launch) (G : gG) (H0 : Heap) (z : Nat → Nat) (r : Nat → Nat → Int32) (f : Nat → Int32) (hP : va_P G.1 vwCl (wRM G z r f) H0) (x1 : Int32) (n d k t : Nat) (hM : mOK r f n d k t) : gMr l yX7_open wsX7_open 0 0 G H0 [.ref (z 0), .int x1] (mOpen r k x1) := by
  refine Met.ofW (cc := cX7_open) (maxL := 4) (ret := (some .int)) (by decide) rfl ?_
  intro p_ e_ s m args below meth c s₁ B hml hv
  obtain ⟨rfl, rfl, hK⟩ := hv
  have hx := B.exec
  have hb := B.bytes
  have hr := B.returns
  have hts := atoms_spec (ws := wsX7_open) B.pre
  have hown : s.vm.findClass RX7 = some m.cls := findClass_of_methodNamed B.named
  have hlocks := B.notSynchronized
  have hinX7 : ∀ w ∈ wsX70, w ∈ wsX7_open := by decide +kernel
  have S0 : CallFix p_ m c cX7_open 4 s _ wsX7_open RX7 := ⟨hx, hb, hml, hown, hts⟩
  have hl := lv_entry ([.ref (z 0), .int x1]) (n := 4) (Nat.le_of_ble_eq_true rfl)
  rw [lg_entry_eq]
  generalize (lg_sl ([.ref (z 0), .int x1]) ++ List.replicate (4 - (lg_sl ([.ref (z 0), .int x1])).length) Slot.unset).toArray = ls at hl ⊢
  have hl : lv_has ls 4 [(0, .ref (z 0)), (1, .int x1)] := hl
  obtain ⟨hn, hn2, hd, hd2, hk, hk2, ht, ht2, hh, hm⟩ := id hM
  refine lv_iconst (v := (-1)) hx hb dX7_open_0 (by decide +kernel) ?_
  refine lv_istore_n (lv' := [(2, .int (-1)), (0, .ref (z 0)), (1, .int x1)]) hx hb dX7_open_1 rfl hl (by decide) rfl (fun ls hl => ?_)
  refine lv_iconst (v := nI 0) hx hb dX7_open_2 (by decide +kernel) ?_
  refine lv_istore_n (lv' := [(3, .int (nI 0)), (2, .int (-1)), (0, .ref (z 0)), (1, .int x1)]) hx hb dX7_open_3 rfl hl (by decide) rfl (fun ls hl => ?_)
  refine g_loop _ m 4 4 [] (k) (fun i => [(3, .int (nI i)), (2, .int (lastN i (mOp r x1))), (0, .ref (z 0)), (1, .int x1)]) (fun i => True) (fun i hi4 hI ih4 ls hl => ?_) 0 (Nat.zero_le _) trivial ls ?_
  · have hl : lv_has ls 4 [(3, .int (nI i)), (2, .int (lastN i (mOp r x1))), (0, .ref (z 0)), (1, .int x1)] := hl
    have hI : True := hI
    refine lv_iload_n hx hb dX7_open_4 rfl (lv_at hl 0 rfl) ?_
    refine lv_aload_n hx hb dX7_open_5 rfl (lv_at hl 2 rfl) ?_
    refine va_get (D := G.1) (ci := 7) (v := .int (f 6)) (C := RX7) (T := TX7) (N := 26) hx hb hts hinX7 hown hK.1 hP 0 rfl rfl 20 (by decide) (hts (.fieldLink RX7 82 "RotaforgeModel" "incidentMany" "I") (by decide +kernel)) (fun _ h9 => h9) rfl dX7_open_6 ?_
    refine lv_icmp_ge (tgt := 44) hx hb dX7_open_9 (by decide) (fun c_1 => ?_) (fun c_1 => ?_)
    · have hex : k = i := by
        rw [hk] at c_1
        have h9 := (nI_leI (a := k) (b := i) (by omega) (by omega)).mp c_1
        omega
      subst hex
      refine lv_iload_n hx hb dX7_open_44 rfl (lv_at hl 1 rfl) ?_
      have hq : (lastN k (mOp r x1)) = (mOpen r k x1) := by
        first | with_reducible rfl | with_reducible exact nI_add _ _ | (simp only [lastN, mOp, eq_true c_1, ↓reduceIte, Bool.false_eq_true, decide_true, decide_false, Bool.not_true, Bool.not_false, Bool.or_true, Bool.true_or, Bool.or_false, Bool.false_or]; done) | (simp only [lastN, mOp, eq_true c_1, ↓reduceIte, Bool.false_eq_true, decide_true, decide_false, Bool.not_true, Bool.not_false, Bool.or_true, Bool.true_or, Bool.or_false, Bool.false_or]; with_reducible rfl) | (simp only [lastN, mOp, eq_true c_1, ↓reduceIte, Bool.false_eq_true, decide_true, decide_false, Bool.not_true, Bool.not_false, Bool.or_true, Bool.true_or, Bool.or_false, Bool.false_or]; rfl) | (simp [b2i, lastN, mOp, eq_true c_1]; done) | rfl
      exact W.iret (v := lastN k (mOp r x1)) hx hb hr (fun t ht _ => g_ret hq ht) g_no dX7_open_45
    · have hlt : i < k := by
        rw [hk] at c_1
        have h9 := mt (nI_leI (a := k) (b := i) (by omega) (by omega)).mpr c_1
        omega
      refine lv_aload_n hx hb dX7_open_12 rfl (lv_at hl 2 rfl) ?_
      refine va_get (D := G.1) (ci := 7) (v := .ref (z 15)) (C := RX7) (T := TX7) (N := 26) hx hb hts hinX7 hown hK.1 hP 0 rfl rfl 21 (by decide) (hts (.fieldLink RX7 57 "RotaforgeModel" "rings" "[I") (by decide +kernel)) (fun _ h9 => h9) rfl dX7_open_13 ?_
      refine lv_iload_n hx hb dX7_open_16 rfl (lv_at hl 0 rfl) ?_
      refine g_iald hx hb hK.1 hP 15 0 rfl rfl i (rfl) (by omega) (by decide) dX7_open_17 ?_
      refine lv_iload_n hx hb dX7_open_18 rfl (lv_at hl 3 rfl) ?_
      refine g_join m 37 4 [(3, .int (nI i)), (2, .int (lastN i (mOp r x1))), (0, .ref (z 0)), (1, .int x1)] [.int (lastN (i + 1) (mOp r x1))] (fun ls hl => ?_) (fun hJ37 => ?_)
      · refine lv_istore_n (lv' := [(2, .int (lastN (i + 1) (mOp r x1))), (3, .int (nI i)), (0, .ref (z 0)), (1, .int x1)]) hx hb dX7_open_37 rfl hl (by decide) rfl (fun ls hl => ?_)
        refine lv_iinc (v := (nI i) + nI 1) (lv' := [(3, .int ((nI i) + nI 1)), (2, .int (lastN (i + 1) (mOp r x1))), (0, .ref (z 0)), (1, .int x1)]) hx hb dX7_open_38 hl (k := 1) rfl (congrArg (fun q : Int32 => (nI i) + q) (by decide +kernel)) (by decide) rfl (fun ls hl => ?_)
        refine lv_goto (tgt := 4) hx hb dX7_open_41 (by decide) ?_
        exact ih4 _ (by omega) trivial (lv_cv (show lv_has ls 4 [(3, .int ((nI i) + nI 1)), (2, .int (lastN (i + 1) (mOp r x1))), (0, .ref (z 0)), (1, .int x1)] from lv_sub hl [0, 1, 2, 3] rfl) (gl_i (show (nI i) + nI 1 = nI (i + 1) by first | with_reducible rfl | with_reducible exact nI_add _ _ | (simp only [itN_s i, lastN, mOp, eq_false c_1, ↓reduceIte, Bool.false_eq_true, decide_true, decide_false, Bool.not_true, Bool.not_false, Bool.or_true, Bool.true_or, Bool.or_false, Bool.false_or]; done) | (simp only [itN_s i, lastN, mOp, eq_false c_1, ↓reduceIte, Bool.false_eq_true, decide_true, decide_false, Bool.not_true, Bool.not_false, Bool.or_true, Bool.true_or, Bool.or_false, Bool.false_or]; with_reducible rfl) | (simp only [itN_s i, lastN, mOp, eq_false c_1, ↓reduceIte, Bool.false_eq_true, decide_true, decide_false, Bool.not_true, Bool.not_false, Bool.or_true, Bool.true_or, Bool.or_false, Bool.false_or]; rfl) | (simp [b2i, itN_s i, lastN, mOp, eq_false c_1]; done) | rfl) (gl_s (gl_s (gl_s rfl)))))
      · refine lv_icmp_ne (tgt := 36) hx hb dX7_open_19 (by decide) (fun c_2 => ?_) (fun c_2 => ?_)
        · refine lv_iload_n hx hb dX7_open_36 rfl (lv_at hl 1 rfl) ?_
          refine W.eq (g2 := F0 m 37 ls [.int (lastN (i + 1) (mOp r x1))]) (g_st (gs_i (show lastN i (mOp r x1) = lastN (i + 1) (mOp r x1) by first | with_reducible rfl | with_reducible exact nI_add _ _ | (simp only [lastN, mOp, eq_false c_1, eq_false c_2, ↓reduceIte, Bool.false_eq_true, decide_true, decide_false, Bool.not_true, Bool.not_false, Bool.or_true, Bool.true_or, Bool.or_false, Bool.false_or]; done) | (simp only [lastN, mOp, eq_false c_1, eq_false c_2, ↓reduceIte, Bool.false_eq_true, decide_true, decide_false, Bool.not_true, Bool.not_false, Bool.or_true, Bool.true_or, Bool.or_false, Bool.false_or]; with_reducible rfl) | (simp only [lastN, mOp, eq_false c_1, eq_false c_2, ↓reduceIte, Bool.false_eq_true, decide_true, decide_false, Bool.not_true, Bool.not_false, Bool.or_true, Bool.true_or, Bool.or_false, Bool.false_or]; rfl) | (simp [b2i, lastN, mOp, eq_false c_1, eq_false c_2]; done) | rfl) rfl)) ?_
          exact hJ37 _ (show lv_has ls 4 [(3, .int (nI i)), (2, .int (lastN i (mOp r x1))), (0, .ref (z 0)), (1, .int x1)] from lv_sub hl [0, 1, 2, 3] rfl)
        · refine lv_aload_n hx hb dX7_open_22 rfl (lv_at hl 2 rfl) ?_
          refine va_get (D := G.1) (ci := 7) (v := .ref (z 17)) (C := RX7) (T := TX7) (N := 26) hx hb hts hinX7 hown hK.1 hP 0 rfl rfl 23 (by decide) (hts (.fieldLink RX7 63 "RotaforgeModel" "closeds" "[I") (by decide +kernel)) (fun _ h9 => h9) rfl dX7_open_23 ?_
          refine lv_iload_n hx hb dX7_open_26 rfl (lv_at hl 0 rfl) ?_
          refine g_iald hx hb hK.1 hP 17 0 rfl rfl i (rfl) (by omega) (by decide) dX7_open_27 ?_
          refine lv_iconst (v := (-1)) hx hb dX7_open_28 (by decide +kernel) ?_
          refine lv_icmp_ne (tgt := 36) hx hb dX7_open_29 (by decide) (fun c_3 => ?_) (fun c_3 => ?_)
          · refine lv_iload_n hx hb dX7_open_36 rfl (lv_at hl 1 rfl) ?_
            refine W.eq (g2 := F0 m 37 ls [.int (lastN (i + 1) (mOp r x1))]) (g_st (gs_i (show lastN i (mOp r x1) = lastN (i + 1) (mOp r x1) by first | with_reducible rfl | with_reducible exact nI_add _ _ | (simp only [lastN, mOp, eq_false c_1, eq_true c_2, eq_false c_3, ↓reduceIte, Bool.false_eq_true, decide_true, decide_false, Bool.not_true, Bool.not_false, Bool.or_true, Bool.true_or, Bool.or_false, Bool.false_or]; done) | (simp only [lastN, mOp, eq_false c_1, eq_true c_2, eq_false c_3, ↓reduceIte, Bool.false_eq_true, decide_true, decide_false, Bool.not_true, Bool.not_false, Bool.or_true, Bool.true_or, Bool.or_false, Bool.false_or]; with_reducible rfl) | (simp only [lastN, mOp, eq_false c_1, eq_true c_2, eq_false c_3, ↓reduceIte, Bool.false_eq_true, decide_true, decide_false, Bool.not_true, Bool.not_false, Bool.or_true, Bool.true_or, Bool.or_false, Bool.false_or]; rfl) | (simp [b2i, lastN, mOp, eq_false c_1, eq_true c_2, eq_false c_3]; done) | rfl) rfl)) ?_
            exact hJ37 _ (show lv_has ls 4 [(3, .int (nI i)), (2, .int (lastN i (mOp r x1))), (0, .ref (z 0)), (1, .int x1)] from lv_sub hl [0, 1, 2, 3] rfl)
          · refine lv_iload_n hx hb dX7_open_32 rfl (lv_at hl 0 rfl) ?_
            refine lv_goto (tgt := 37) hx hb dX7_open_33 (by decide) ?_
            refine W.eq (g2 := F0 m 37 ls [.int (lastN (i + 1) (mOp r x1))]) (g_st (gs_i (show nI i = lastN (i + 1) (mOp r x1) by first | with_reducible rfl | with_reducible exact nI_add _ _ | (simp only [lastN, mOp, eq_false c_1, eq_true c_2, eq_true c_3, ↓reduceIte, Bool.false_eq_true, decide_true, decide_false, Bool.not_true, Bool.not_false, Bool.or_true, Bool.true_or, Bool.or_false, Bool.false_or]; done) | (simp only [lastN, mOp, eq_false c_1, eq_true c_2, eq_true c_3, ↓reduceIte, Bool.false_eq_true, decide_true, decide_false, Bool.not_true, Bool.not_false, Bool.or_true, Bool.true_or, Bool.or_false, Bool.false_or]; with_reducible rfl) | (simp only [lastN, mOp, eq_false c_1, eq_true c_2, eq_true c_3, ↓reduceIte, Bool.false_eq_true, decide_true, decide_false, Bool.not_true, Bool.not_false, Bool.or_true, Bool.true_or, Bool.or_false, Bool.false_or]; rfl) | (simp [b2i, lastN, mOp, eq_false c_1, eq_true c_2, eq_true c_3]; done) | rfl) rfl)) ?_
            exact hJ37 _ (show lv_has ls 4 [(3, .int (nI i)), (2, .int (lastN i (mOp r x1))), (0, .ref (z 0)), (1, .int x1)] from lv_sub hl [0, 1, 2, 3] rfl)
  · exact (lv_cv (show lv_has ls 4 [(3, .int (nI 0)), (2, .int (-1)), (0, .ref (z 0)), (1, .int x1)] from lv_sub hl [0, 1, 2, 3] rfl) (gl_s (gl_i (show (-1) = lastN 0 (mOp r x1) by first | with_reducible rfl | with_reducible exact nI_add _ _ | (simp only [lastN, mOp, ↓reduceIte, Bool.false_eq_true, decide_true, decide_false, Bool.not_true, Bool.not_false, Bool.or_true, Bool.true_or, Bool.or_false, Bool.false_or]; done) | (simp only [lastN, mOp, ↓reduceIte, Bool.false_eq_true, decide_true, decide_false, Bool.not_true, Bool.not_false, Bool.or_true, Bool.true_or, Bool.or_false, Bool.false_or]; with_reducible rfl) | (simp only [lastN, mOp, ↓reduceIte, Bool.false_eq_true, decide_true, decide_false, Bool.not_true, Bool.not_false, Bool.or_true, Bool.true_or, Bool.or_false, Bool.false_or]; rfl) | (simp [b2i, lastN, mOp]; done) | rfl) (gl_s (gl_s rfl)))))

set_option maxHeartbeats 4000000 in
set_option maxRecDepth 100000 in
theorem c_X7_isHeldBack (l : Launch) (G : gG) (H0 : Heap) (z : Nat → Nat) (r : Nat → Nat → Int32) (f : Nat → Int32) (hP : va_P G.1 vwCl (wRM G z r f) H0) (x1 : Int32) (x2 : Int32) (n d k t g : Nat) (hM : mOK r f n d k t) (hg : x1 = nI g) (hg2 : g < 4) : gMr l yX7_isHeldBack wsX7_isHeldBack 2 49 G H0 [.ref (z 0), .int x1, .int x2] (b2i (mHeld r f n k g x2)) := by
  refine Met.ofW (cc := cX7_isHeldBack) (maxL := 6) (ret := (some .boolean)) (by decide) rfl ?_
  intro p_ e_ s m args below meth c s₁ B hml hv
  obtain ⟨rfl, rfl, hK⟩ := hv
  have hx := B.exec
  have hb := B.bytes
  have hr := B.returns
  have hts := atoms_spec (ws := wsX7_isHeldBack) B.pre
  have hown : s.vm.findClass RX7 = some m.cls := findClass_of_methodNamed B.named
  have hlocks := B.notSynchronized
  have hinX7 : ∀ w ∈ wsX70, w ∈ wsX7_isHeldBack := by decide +kernel
  have S0 : CallFix p_ m c cX7_isHeldBack 6 s _ wsX7_isHeldBack RX7 := ⟨hx, hb, hml, hown, hts⟩
  have hl := lv_entry ([.ref (z 0), .int x1, .int x2]) (n := 6) (Nat.le_of_ble_eq_true rfl)
  rw [lg_entry_eq]
  generalize (lg_sl ([.ref (z 0), .int x1, .int x2]) ++ List.replicate (6 - (lg_sl ([.ref (z 0), .int x1, .int x2])).length) Slot.unset).toArray = ls at hl ⊢
  have hl : lv_has ls 6 [(0, .ref (z 0)), (1, .int x1), (2, .int x2)] := hl
  obtain ⟨hn, hn2, hd, hd2, hk, hk2, ht, ht2, hh, hm⟩ := id hM
  subst hg
  refine lv_iconst (v := nI 0) hx hb dX7_isHeldBack_0 (by decide +kernel) ?_
  refine lv_istore_n (lv' := [(3, .int (nI 0)), (0, .ref (z 0)), (1, .int (nI g)), (2, .int x2)]) hx hb dX7_isHeldBack_1 rfl hl (by decide) rfl (fun ls hl => ?_)
  refine lv_iload_n hx hb dX7_isHeldBack_2 rfl (lv_at hl 2 rfl) ?_
  refine g_join m 66 6 [(3, .int (b2i (mH0 r f n (nI g) x2))), (0, .ref (z 0)), (1, .int (nI g)), (2, .int x2)] [] (fun ls hl => ?_) (fun hJ66 => ?_)
  · refine lv_iconst (v := nI 0) hx hb dX7_isHeldBack_66 (by decide +kernel) ?_
    refine lv_istore (lv' := [(4, .int (nI 0)), (3, .int (b2i (mH0 r f n (nI g) x2))), (0, .ref (z 0)), (1, .int (nI g)), (2, .int x2)]) hx hb dX7_isHeldBack_67 hl (by decide) rfl (fun ls hl => ?_)
    refine g_loop _ m 69 6 [] (g) (fun i => [(4, .int (nI i)), (3, .int (b2i (itN i (mHI r k) (mH0 r f n (nI g) x2)))), (0, .ref (z 0)), (1, .int (nI g)), (2, .int x2)]) (fun i => True) (fun i hi69 hI ih69 ls hl => ?_) 0 (Nat.zero_le _) trivial ls ?_
    · have hl : lv_has ls 6 [(4, .int (nI i)), (3, .int (b2i (itN i (mHI r k) (mH0 r f n (nI g) x2)))), (0, .ref (z 0)), (1, .int (nI g)), (2, .int x2)] := hl
      have hI : True := hI
      refine lv_iload hx hb dX7_isHeldBack_69 (lv_at hl 0 rfl) ?_
      refine lv_iload_n hx hb dX7_isHeldBack_71 rfl (lv_at hl 3 rfl) ?_
      refine lv_icmp_ge (tgt := 101) hx hb dX7_isHeldBack_72 (by decide) (fun c_1 => ?_) (fun c_1 => ?_)
      · have hex : g = i := by
          have h9 := (nI_leI (a := g) (b := i) (by omega) (by omega)).mp c_1
          omega
        subst hex
        refine lv_iload_n hx hb dX7_isHeldBack_101 rfl (lv_at hl 1 rfl) ?_
        have hq : (b2i (itN g (mHI r k) (mH0 r f n (nI g) x2))) = (b2i (mHeld r f n k g x2)) := by
          first | with_reducible rfl | with_reducible exact nI_add _ _ | (simp only [eq_true c_1, ↓reduceIte, Bool.false_eq_true, decide_true, decide_false, Bool.not_true, Bool.not_false, Bool.or_true, Bool.true_or, Bool.or_false, Bool.false_or]; done) | (simp only [eq_true c_1, ↓reduceIte, Bool.false_eq_true, decide_true, decide_false, Bool.not_true, Bool.not_false, Bool.or_true, Bool.true_or, Bool.or_false, Bool.false_or]; with_reducible rfl) | (simp only [eq_true c_1, ↓reduceIte, Bool.false_eq_true, decide_true, decide_false, Bool.not_true, Bool.not_false, Bool.or_true, Bool.true_or, Bool.or_false, Bool.false_or]; rfl) | (simp [b2i, eq_true c_1]; done) | rfl
        exact W.zret (v := b2i (itN g (mHI r k) (mH0 r f n (nI g) x2))) hx hb hr (z_nar hq) (fun t ht _ => g_ret hq ht) g_no dX7_isHeldBack_102
      · have hlt : i < g := by
          have h9 := mt (nI_leI (a := g) (b := i) (by omega) (by omega)).mpr c_1
          omega
        refine lv_iload_n hx hb dX7_isHeldBack_75 rfl (lv_at hl 1 rfl) ?_
        refine g_join m 94 6 [(4, .int (nI i)), (3, .int (b2i (itN i (mHI r k) (mH0 r f n (nI g) x2)))), (0, .ref (z 0)), (1, .int (nI g)), (2, .int x2)] [.int (b2i (mHI r k i (itN i (mHI r k) (mH0 r f n (nI g) x2))))] (fun ls hl => ?_) (fun hJ94 => ?_)
        · refine lv_istore_n (lv' := [(3, .int (b2i (mHI r k i (itN i (mHI r k) (mH0 r f n (nI g) x2))))), (4, .int (nI i)), (0, .ref (z 0)), (1, .int (nI g)), (2, .int x2)]) hx hb dX7_isHeldBack_94 rfl hl (by decide) rfl (fun ls hl => ?_)
          refine lv_iinc (v := (nI i) + nI 1) (lv' := [(4, .int ((nI i) + nI 1)), (3, .int (b2i (mHI r k i (itN i (mHI r k) (mH0 r f n (nI g) x2))))), (0, .ref (z 0)), (1, .int (nI g)), (2, .int x2)]) hx hb dX7_isHeldBack_95 hl (k := 1) rfl (congrArg (fun q : Int32 => (nI i) + q) (by decide +kernel)) (by decide) rfl (fun ls hl => ?_)
          refine lv_goto (tgt := 69) hx hb dX7_isHeldBack_98 (by decide) ?_
          exact ih69 _ (by omega) trivial (lv_cv (show lv_has ls 6 [(4, .int ((nI i) + nI 1)), (3, .int (b2i (mHI r k i (itN i (mHI r k) (mH0 r f n (nI g) x2))))), (0, .ref (z 0)), (1, .int (nI g)), (2, .int x2)] from lv_sub hl [0, 1, 2, 3, 4] rfl) (gl_i (show (nI i) + nI 1 = nI (i + 1) by first | with_reducible rfl | with_reducible exact nI_add _ _ | (simp only [itN_s i, eq_false c_1, ↓reduceIte, Bool.false_eq_true, decide_true, decide_false, Bool.not_true, Bool.not_false, Bool.or_true, Bool.true_or, Bool.or_false, Bool.false_or]; done) | (simp only [itN_s i, eq_false c_1, ↓reduceIte, Bool.false_eq_true, decide_true, decide_false, Bool.not_true, Bool.not_false, Bool.or_true, Bool.true_or, Bool.or_false, Bool.false_or]; with_reducible rfl) | (simp only [itN_s i, eq_false c_1, ↓reduceIte, Bool.false_eq_true, decide_true, decide_false, Bool.not_true, Bool.not_false, Bool.or_true, Bool.true_or, Bool.or_false, Bool.false_or]; rfl) | (simp [b2i, itN_s i, eq_false c_1]; done) | rfl) (gl_i (show b2i (mHI r k i (itN i (mHI r k) (mH0 r f n (nI g) x2))) = b2i (itN (i + 1) (mHI r k) (mH0 r f n (nI g) x2)) by first | with_reducible rfl | with_reducible exact nI_add _ _ | (simp only [itN_s i, eq_false c_1, ↓reduceIte, Bool.false_eq_true, decide_true, decide_false, Bool.not_true, Bool.not_false, Bool.or_true, Bool.true_or, Bool.or_false, Bool.false_or]; done) | (simp only [itN_s i, eq_false c_1, ↓reduceIte, Bool.false_eq_true, decide_true, decide_false, Bool.not_true, Bool.not_false, Bool.or_true, Bool.true_or, Bool.or_false, Bool.false_or]; with_reducible rfl) | (simp only [itN_s i, eq_false c_1, ↓reduceIte, Bool.false_eq_true, decide_true, decide_false, Bool.not_true, Bool.not_false, Bool.or_true, Bool.true_or, Bool.or_false, Bool.false_or]; rfl) | (simp [b2i, itN_s i, eq_false c_1]; done) | rfl) (gl_s (gl_s (gl_s rfl))))))
        · refine lv_if_ne (tgt := 89) hx hb dX7_isHeldBack_76 (by decide) (fun c_2 => ?_) (fun c_2 => ?_)
          · have c_2 := b2i_t c_2
            refine lv_iconst (v := nI 1) hx hb dX7_isHeldBack_89 (by decide +kernel) ?_
            refine lv_goto (tgt := 94) hx hb dX7_isHeldBack_90 (by decide) ?_
            refine W.eq (g2 := F0 m 94 ls [.int (b2i (mHI r k i (itN i (mHI r k) (mH0 r f n (nI g) x2))))]) (g_st (gs_i (show nI 1 = b2i (mHI r k i (itN i (mHI r k) (mH0 r f n (nI g) x2))) by first | with_reducible rfl | with_reducible exact nI_add _ _ | (simp only [mHI, eq_false c_1, c_2, ↓reduceIte, Bool.false_eq_true, decide_true, decide_false, Bool.not_true, Bool.not_false, Bool.or_true, Bool.true_or, Bool.or_false, Bool.false_or]; done) | (simp only [mHI, eq_false c_1, c_2, ↓reduceIte, Bool.false_eq_true, decide_true, decide_false, Bool.not_true, Bool.not_false, Bool.or_true, Bool.true_or, Bool.or_false, Bool.false_or]; with_reducible rfl) | (simp only [mHI, eq_false c_1, c_2, ↓reduceIte, Bool.false_eq_true, decide_true, decide_false, Bool.not_true, Bool.not_false, Bool.or_true, Bool.true_or, Bool.or_false, Bool.false_or]; rfl) | (simp [b2i, mHI, eq_false c_1, c_2]; done) | rfl) rfl)) ?_
            exact hJ94 _ (show lv_has ls 6 [(4, .int (nI i)), (3, .int (b2i (itN i (mHI r k) (mH0 r f n (nI g) x2)))), (0, .ref (z 0)), (1, .int (nI g)), (2, .int x2)] from lv_sub hl [0, 1, 2, 3, 4] rfl)
          · have c_2 := b2i_f c_2
            refine lv_aload_n hx hb dX7_isHeldBack_79 rfl (lv_at hl 2 rfl) ?_
            refine lv_iload hx hb dX7_isHeldBack_80 (lv_at hl 0 rfl) ?_
            refine g_callC (W.runV (C := RX7) (As := [.int (nI i)]) (rest := []) S0 (c_X7_open l G _ z r f hP (nI i) n d k t hM) (cwV 1 hts gX7_isHeldBack_X7_open rfl rfl rfl (by decide +kernel) ⟨Nat.le_of_ble_eq_true rfl, Nat.le_of_ble_eq_true rfl⟩) (g_preV hK hP (q0 := 0) (ci := 7) (q := (RX7, TX7, 26)) rfl rfl) rfl rfl hl.1 rfl (lv_room (Nat.le_of_ble_eq_true rfl)) dX7_isHeldBack_82 ⟨Nat.zero_le _, Nat.zero_le _⟩) ?_
            refine lv_iconst (v := (-1)) hx hb dX7_isHeldBack_85 (by decide +kernel) ?_
            refine lv_icmp_eq (tgt := 93) hx hb dX7_isHeldBack_86 (by decide) (fun c_3 => ?_) (fun c_3 => ?_)
            · refine lv_iconst (v := nI 0) hx hb dX7_isHeldBack_93 (by decide +kernel) ?_
              refine W.eq (g2 := F0 m 94 ls [.int (b2i (mHI r k i (itN i (mHI r k) (mH0 r f n (nI g) x2))))]) (g_st (gs_i (show nI 0 = b2i (mHI r k i (itN i (mHI r k) (mH0 r f n (nI g) x2))) by first | with_reducible rfl | with_reducible exact nI_add _ _ | (simp only [mHI, eq_false c_1, c_2, eq_true c_3, ↓reduceIte, Bool.false_eq_true, decide_true, decide_false, Bool.not_true, Bool.not_false, Bool.or_true, Bool.true_or, Bool.or_false, Bool.false_or]; done) | (simp only [mHI, eq_false c_1, c_2, eq_true c_3, ↓reduceIte, Bool.false_eq_true, decide_true, decide_false, Bool.not_true, Bool.not_false, Bool.or_true, Bool.true_or, Bool.or_false, Bool.false_or]; with_reducible rfl) | (simp only [mHI, eq_false c_1, c_2, eq_true c_3, ↓reduceIte, Bool.false_eq_true, decide_true, decide_false, Bool.not_true, Bool.not_false, Bool.or_true, Bool.true_or, Bool.or_false, Bool.false_or]; rfl) | (simp [b2i, mHI, eq_false c_1, c_2, eq_true c_3]; done) | rfl) rfl)) ?_
              exact hJ94 _ (show lv_has ls 6 [(4, .int (nI i)), (3, .int (b2i (itN i (mHI r k) (mH0 r f n (nI g) x2)))), (0, .ref (z 0)), (1, .int (nI g)), (2, .int x2)] from lv_sub hl [0, 1, 2, 3, 4] rfl)
            · refine lv_iconst (v := nI 1) hx hb dX7_isHeldBack_89 (by decide +kernel) ?_
              refine lv_goto (tgt := 94) hx hb dX7_isHeldBack_90 (by decide) ?_
              refine W.eq (g2 := F0 m 94 ls [.int (b2i (mHI r k i (itN i (mHI r k) (mH0 r f n (nI g) x2))))]) (g_st (gs_i (show nI 1 = b2i (mHI r k i (itN i (mHI r k) (mH0 r f n (nI g) x2))) by first | with_reducible rfl | with_reducible exact nI_add _ _ | (simp only [mHI, eq_false c_1, c_2, eq_false c_3, ↓reduceIte, Bool.false_eq_true, decide_true, decide_false, Bool.not_true, Bool.not_false, Bool.or_true, Bool.true_or, Bool.or_false, Bool.false_or]; done) | (simp only [mHI, eq_false c_1, c_2, eq_false c_3, ↓reduceIte, Bool.false_eq_true, decide_true, decide_false, Bool.not_true, Bool.not_false, Bool.or_true, Bool.true_or, Bool.or_false, Bool.false_or]; with_reducible rfl) | (simp only [mHI, eq_false c_1, c_2, eq_false c_3, ↓reduceIte, Bool.false_eq_true, decide_true, decide_false, Bool.not_true, Bool.not_false, Bool.or_true, Bool.true_or, Bool.or_false, Bool.false_or]; rfl) | (simp [b2i, mHI, eq_false c_1, c_2, eq_false c_3]; done) | rfl) rfl)) ?_
              exact hJ94 _ (show lv_has ls 6 [(4, .int (nI i)), (3, .int (b2i (itN i (mHI r k) (mH0 r f n (nI g) x2)))), (0, .ref (z 0)), (1, .int (nI g)), (2, .int x2)] from lv_sub hl [0, 1, 2, 3, 4] rfl)
    · exact (lv_cv (show lv_has ls 6 [(4, .int (nI 0)), (3, .int (b2i (mH0 r f n (nI g) x2))), (0, .ref (z 0)), (1, .int (nI g)), (2, .int x2)] from lv_sub hl [0, 1, 2, 3, 4] rfl) (gl_s (gl_i (show b2i (mH0 r f n (nI g) x2) = b2i (itN 0 (mHI r k) (mH0 r f n (nI g) x2)) by first | with_reducible rfl | with_reducible exact nI_add _ _ | (simp only [true_and, ↓reduceIte, Bool.false_eq_true, decide_true, decide_false, Bool.not_true, Bool.not_false, Bool.or_true, Bool.true_or, Bool.or_false, Bool.false_or]; done) | (simp only [true_and, ↓reduceIte, Bool.false_eq_true, decide_true, decide_false, Bool.not_true, Bool.not_false, Bool.or_true, Bool.true_or, Bool.or_false, Bool.false_or]; with_reducible rfl) | (simp only [true_and, ↓reduceIte, Bool.false_eq_true, decide_true, decide_false, Bool.not_true, Bool.not_false, Bool.or_true, Bool.true_or, Bool.or_false, Bool.false_or]; rfl) | (simp [b2i, true_and]; done) | rfl) (gl_s (gl_s (gl_s rfl))))))
  · refine lv_if_le (tgt := 66) hx hb dX7_isHeldBack_3 (by decide) (fun c_4 => ?_) (fun c_4 => ?_)
    · exact hJ66 _ (lv_cv (show lv_has ls 6 [(3, .int (nI 0)), (0, .ref (z 0)), (1, .int (nI g)), (2, .int x2)] from lv_sub hl [0, 1, 2, 3] rfl) (gl_i (show nI 0 = b2i (mH0 r f n (nI g) x2) by first | with_reducible rfl | with_reducible exact nI_add _ _ | (simp only [mH0, eq_true c_4, ↓reduceIte, Bool.false_eq_true, decide_true, decide_false, Bool.not_true, Bool.not_false, Bool.or_true, Bool.true_or, Bool.or_false, Bool.false_or]; done) | (simp only [mH0, eq_true c_4, ↓reduceIte, Bool.false_eq_true, decide_true, decide_false, Bool.not_true, Bool.not_false, Bool.or_true, Bool.true_or, Bool.or_false, Bool.false_or]; with_reducible rfl) | (simp only [mH0, eq_true c_4, ↓reduceIte, Bool.false_eq_true, decide_true, decide_false, Bool.not_true, Bool.not_false, Bool.or_true, Bool.true_or, Bool.or_false, Bool.false_or]; rfl) | (simp [b2i, mH0, eq_true c_4]; done) | rfl) (gl_s (gl_s (gl_s rfl)))))
    · refine lv_aload_n hx hb dX7_isHeldBack_6 rfl (lv_at hl 1 rfl) ?_
      refine lv_iconst (v := nI 1) hx hb dX7_isHeldBack_7 (by decide +kernel) ?_
      refine lv_iload_n hx hb dX7_isHeldBack_8 rfl (lv_at hl 2 rfl) ?_
      refine lv_iconst (v := nI 1) hx hb dX7_isHeldBack_9 (by decide +kernel) ?_
      refine lv_isub hx hb dX7_isHeldBack_10 ?_
      refine lv_iconst (v := (-1)) hx hb dX7_isHeldBack_11 (by decide +kernel) ?_
      refine g_callC (W.runV (C := RX7) (As := [.int (nI 1), .int ((nI g) - (nI 1)), .int (-1)]) (rest := []) S0 (c_X7_latest l G _ z r f hP (nI 1) ((nI g) - (nI 1)) (-1) n d k t hM) (cwV 3 hts gX7_isHeldBack_X7_latest rfl rfl rfl (by decide +kernel) ⟨Nat.le_of_ble_eq_true rfl, Nat.le_of_ble_eq_true rfl⟩) (g_preV hK hP (q0 := 0) (ci := 7) (q := (RX7, TX7, 26)) rfl rfl) rfl rfl hl.1 rfl (lv_room (Nat.le_of_ble_eq_true rfl)) dX7_isHeldBack_12 ⟨Nat.zero_le _, Nat.zero_le _⟩) ?_
      refine lv_istore (lv' := [(4, .int (mLatest r n (nI 1) ((nI g) - (nI 1)) (-1))), (3, .int (nI 0)), (0, .ref (z 0)), (1, .int (nI g)), (2, .int x2)]) hx hb dX7_isHeldBack_15 hl (by decide) rfl (fun ls hl => ?_)
      refine lv_iload hx hb dX7_isHeldBack_17 (lv_at hl 0 rfl) ?_
      refine lv_iconst (v := (-1)) hx hb dX7_isHeldBack_19 (by decide +kernel) ?_
      refine g_join m 34 6 [(4, .int (mLatest r n (nI 1) ((nI g) - (nI 1)) (-1))), (3, .int (nI 0)), (0, .ref (z 0)), (1, .int (nI g)), (2, .int x2)] [.int (mSince r n (nI g - nI 1))] (fun ls hl => ?_) (fun hJ34 => ?_)
      · refine lv_istore (lv' := [(5, .int (mSince r n (nI g - nI 1))), (4, .int (mLatest r n (nI 1) ((nI g) - (nI 1)) (-1))), (3, .int (nI 0)), (0, .ref (z 0)), (1, .int (nI g)), (2, .int x2)]) hx hb dX7_isHeldBack_34 hl (by decide) rfl (fun ls hl => ?_)
        refine lv_aload_n hx hb dX7_isHeldBack_36 rfl (lv_at hl 3 rfl) ?_
        refine lv_iconst (v := nI 1) hx hb dX7_isHeldBack_37 (by decide +kernel) ?_
        refine lv_iload_n hx hb dX7_isHeldBack_38 rfl (lv_at hl 4 rfl) ?_
        refine lv_iconst (v := nI 1) hx hb dX7_isHeldBack_39 (by decide +kernel) ?_
        refine lv_isub hx hb dX7_isHeldBack_40 ?_
        refine lv_iconst (v := (-1)) hx hb dX7_isHeldBack_41 (by decide +kernel) ?_
        refine g_callC (W.runV (C := RX7) (As := [.int (nI 1), .int ((nI g) - (nI 1)), .int (-1)]) (rest := []) S0 (c_X7_valueOf l G _ z r f hP (nI 1) ((nI g) - (nI 1)) (-1) n d k t hM) (cwV 3 hts gX7_isHeldBack_X7_valueOf rfl rfl rfl (by decide +kernel) ⟨Nat.le_of_ble_eq_true rfl, Nat.le_of_ble_eq_true rfl⟩) (g_preV hK hP (q0 := 0) (ci := 7) (q := (RX7, TX7, 26)) rfl rfl) rfl rfl hl.1 rfl (lv_room (Nat.le_of_ble_eq_true rfl)) dX7_isHeldBack_42 ⟨Nat.zero_le _, Nat.zero_le _⟩) ?_
        refine lv_iload_n hx hb dX7_isHeldBack_45 rfl (lv_at hl 5 rfl) ?_
        refine lv_icmp_ne (tgt := 60) hx hb dX7_isHeldBack_46 (by decide) (fun c_5 => ?_) (fun c_5 => ?_)
        · refine lv_iconst (v := nI 1) hx hb dX7_isHeldBack_60 (by decide +kernel) ?_
          refine lv_goto (tgt := 65) hx hb dX7_isHeldBack_61 (by decide) ?_
          refine lv_istore_n (lv' := [(3, .int (nI 1)), (5, .int (mSince r n (nI g - nI 1))), (4, .int (mLatest r n (nI 1) ((nI g) - (nI 1)) (-1))), (0, .ref (z 0)), (1, .int (nI g)), (2, .int x2)]) hx hb dX7_isHeldBack_65 rfl hl (by decide) rfl (fun ls hl => ?_)
          exact hJ66 _ (lv_cv (show lv_has ls 6 [(3, .int (nI 1)), (0, .ref (z 0)), (1, .int (nI g)), (2, .int x2)] from lv_sub hl [0, 3, 4, 5] rfl) (gl_i (show nI 1 = b2i (mH0 r f n (nI g) x2) by first | with_reducible rfl | with_reducible exact nI_add _ _ | (simp only [mH0, eq_false c_4, eq_false c_5, ↓reduceIte, Bool.false_eq_true, decide_true, decide_false, Bool.not_true, Bool.not_false, Bool.or_true, Bool.true_or, Bool.or_false, Bool.false_or]; done) | (simp only [mH0, eq_false c_4, eq_false c_5, ↓reduceIte, Bool.false_eq_true, decide_true, decide_false, Bool.not_true, Bool.not_false, Bool.or_true, Bool.true_or, Bool.or_false, Bool.false_or]; with_reducible rfl) | (simp only [mH0, eq_false c_4, eq_false c_5, ↓reduceIte, Bool.false_eq_true, decide_true, decide_false, Bool.not_true, Bool.not_false, Bool.or_true, Bool.true_or, Bool.or_false, Bool.false_or]; rfl) | (simp [b2i, mH0, eq_false c_4, eq_false c_5]; done) | rfl) (gl_s (gl_s (gl_s rfl)))))
        · refine lv_aload_n hx hb dX7_isHeldBack_49 rfl (lv_at hl 3 rfl) ?_
          refine va_get (D := G.1) (ci := 7) (v := .int (f 1)) (C := RX7) (T := TX7) (N := 26) hx hb hts hinX7 hown hK.1 hP 0 rfl rfl 1 (by decide) (hts (.fieldLink RX7 120 "RotaforgeModel" "time" "I") (by decide +kernel)) (fun _ h9 => h9) rfl dX7_isHeldBack_50 ?_
          refine lv_iload hx hb dX7_isHeldBack_53 (lv_at hl 0 rfl) ?_
          refine lv_isub hx hb dX7_isHeldBack_55 ?_
          refine lv_iconst (v := nI 2) hx hb dX7_isHeldBack_56 (by decide +kernel) ?_
          refine lv_icmp_ge (tgt := 64) hx hb dX7_isHeldBack_57 (by decide) (fun c_6 => ?_) (fun c_6 => ?_)
          · refine lv_iconst (v := nI 0) hx hb dX7_isHeldBack_64 (by decide +kernel) ?_
            refine lv_istore_n (lv' := [(3, .int (nI 0)), (5, .int (mSince r n (nI g - nI 1))), (4, .int (mLatest r n (nI 1) ((nI g) - (nI 1)) (-1))), (0, .ref (z 0)), (1, .int (nI g)), (2, .int x2)]) hx hb dX7_isHeldBack_65 rfl hl (by decide) rfl (fun ls hl => ?_)
            exact hJ66 _ (lv_cv (show lv_has ls 6 [(3, .int (nI 0)), (0, .ref (z 0)), (1, .int (nI g)), (2, .int x2)] from lv_sub hl [0, 3, 4, 5] rfl) (gl_i (show nI 0 = b2i (mH0 r f n (nI g) x2) by first | with_reducible rfl | with_reducible exact nI_add _ _ | (simp only [mH0, eq_false c_4, eq_true c_5, eq_true c_6, ↓reduceIte, Bool.false_eq_true, decide_true, decide_false, Bool.not_true, Bool.not_false, Bool.or_true, Bool.true_or, Bool.or_false, Bool.false_or]; done) | (simp only [mH0, eq_false c_4, eq_true c_5, eq_true c_6, ↓reduceIte, Bool.false_eq_true, decide_true, decide_false, Bool.not_true, Bool.not_false, Bool.or_true, Bool.true_or, Bool.or_false, Bool.false_or]; with_reducible rfl) | (simp only [mH0, eq_false c_4, eq_true c_5, eq_true c_6, ↓reduceIte, Bool.false_eq_true, decide_true, decide_false, Bool.not_true, Bool.not_false, Bool.or_true, Bool.true_or, Bool.or_false, Bool.false_or]; rfl) | (simp [b2i, mH0, eq_false c_4, eq_true c_5, eq_true c_6]; done) | rfl) (gl_s (gl_s (gl_s rfl)))))
          · refine lv_iconst (v := nI 1) hx hb dX7_isHeldBack_60 (by decide +kernel) ?_
            refine lv_goto (tgt := 65) hx hb dX7_isHeldBack_61 (by decide) ?_
            refine lv_istore_n (lv' := [(3, .int (nI 1)), (5, .int (mSince r n (nI g - nI 1))), (4, .int (mLatest r n (nI 1) ((nI g) - (nI 1)) (-1))), (0, .ref (z 0)), (1, .int (nI g)), (2, .int x2)]) hx hb dX7_isHeldBack_65 rfl hl (by decide) rfl (fun ls hl => ?_)
            exact hJ66 _ (lv_cv (show lv_has ls 6 [(3, .int (nI 1)), (0, .ref (z 0)), (1, .int (nI g)), (2, .int x2)] from lv_sub hl [0, 3, 4, 5] rfl) (gl_i (show nI 1 = b2i (mH0 r f n (nI g) x2) by first | with_reducible rfl | with_reducible exact nI_add _ _ | (simp only [mH0, eq_false c_4, eq_true c_5, eq_false c_6, ↓reduceIte, Bool.false_eq_true, decide_true, decide_false, Bool.not_true, Bool.not_false, Bool.or_true, Bool.true_or, Bool.or_false, Bool.false_or]; done) | (simp only [mH0, eq_false c_4, eq_true c_5, eq_false c_6, ↓reduceIte, Bool.false_eq_true, decide_true, decide_false, Bool.not_true, Bool.not_false, Bool.or_true, Bool.true_or, Bool.or_false, Bool.false_or]; with_reducible rfl) | (simp only [mH0, eq_false c_4, eq_true c_5, eq_false c_6, ↓reduceIte, Bool.false_eq_true, decide_true, decide_false, Bool.not_true, Bool.not_false, Bool.or_true, Bool.true_or, Bool.or_false, Bool.false_or]; rfl) | (simp [b2i, mH0, eq_false c_4, eq_true c_5, eq_false c_6]; done) | rfl) (gl_s (gl_s (gl_s rfl)))))
      · refine lv_icmp_ne (tgt := 27) hx hb dX7_isHeldBack_20 (by decide) (fun c_7 => ?_) (fun c_7 => ?_)
        · refine lv_aload_n hx hb dX7_isHeldBack_27 rfl (lv_at hl 2 rfl) ?_
          refine va_get (D := G.1) (ci := 7) (v := .ref (z 9)) (C := RX7) (T := TX7) (N := 26) hx hb hts hinX7 hown hK.1 hP 0 rfl rfl 13 (by decide) (hts (.fieldLink RX7 39 "RotaforgeModel" "times" "[I") (by decide +kernel)) (fun _ h9 => h9) rfl dX7_isHeldBack_28 ?_
          refine lv_iload hx hb dX7_isHeldBack_31 (lv_at hl 0 rfl) ?_
          refine va_iald hx hb hK.1 hP 9 0 rfl rfl (lastN_in c_7 hn2 (by decide)) dX7_isHeldBack_33 ?_
          refine W.eq (g2 := F0 m 34 ls [.int (mSince r n (nI g - nI 1))]) (g_st (gs_i (show (r 8) (mLatest r n (nI 1) ((nI g) - (nI 1)) (-1)).toNatClampNeg = mSince r n (nI g - nI 1) by first | with_reducible rfl | with_reducible exact nI_add _ _ | (simp only [mSince, eq_false c_4, eq_false c_7, ↓reduceIte, Bool.false_eq_true, decide_true, decide_false, Bool.not_true, Bool.not_false, Bool.or_true, Bool.true_or, Bool.or_false, Bool.false_or]; done) | (simp only [mSince, eq_false c_4, eq_false c_7, ↓reduceIte, Bool.false_eq_true, decide_true, decide_false, Bool.not_true, Bool.not_false, Bool.or_true, Bool.true_or, Bool.or_false, Bool.false_or]; with_reducible rfl) | (simp only [mSince, eq_false c_4, eq_false c_7, ↓reduceIte, Bool.false_eq_true, decide_true, decide_false, Bool.not_true, Bool.not_false, Bool.or_true, Bool.true_or, Bool.or_false, Bool.false_or]; rfl) | (simp [b2i, mSince, eq_false c_4, eq_false c_7]; done) | rfl) rfl)) ?_
          exact hJ34 _ (show lv_has ls 6 [(4, .int (mLatest r n (nI 1) ((nI g) - (nI 1)) (-1))), (3, .int (nI 0)), (0, .ref (z 0)), (1, .int (nI g)), (2, .int x2)] from lv_sub hl [0, 1, 2, 3, 4] rfl)
        · refine lv_iconst (v := nI 0) hx hb dX7_isHeldBack_23 (by decide +kernel) ?_
          refine lv_goto (tgt := 34) hx hb dX7_isHeldBack_24 (by decide) ?_
          refine W.eq (g2 := F0 m 34 ls [.int (mSince r n (nI g - nI 1))]) (g_st (gs_i (show nI 0 = mSince r n (nI g - nI 1) by first | with_reducible rfl | with_reducible exact nI_add _ _ | (simp only [mSince, eq_false c_4, eq_true c_7, ↓reduceIte, Bool.false_eq_true, decide_true, decide_false, Bool.not_true, Bool.not_false, Bool.or_true, Bool.true_or, Bool.or_false, Bool.false_or]; done) | (simp only [mSince, eq_false c_4, eq_true c_7, ↓reduceIte, Bool.false_eq_true, decide_true, decide_false, Bool.not_true, Bool.not_false, Bool.or_true, Bool.true_or, Bool.or_false, Bool.false_or]; with_reducible rfl) | (simp only [mSince, eq_false c_4, eq_true c_7, ↓reduceIte, Bool.false_eq_true, decide_true, decide_false, Bool.not_true, Bool.not_false, Bool.or_true, Bool.true_or, Bool.or_false, Bool.false_or]; rfl) | (simp [b2i, mSince, eq_false c_4, eq_true c_7]; done) | rfl) rfl)) ?_
          exact hJ34 _ (show lv_has ls 6 [(4, .int (mLatest r n (nI 1) ((nI g) - (nI 1)) (-1))), (3, .int (nI 0)), (0, .ref (z 0)), (1, .int (nI g)), (2, .int x2)] from lv_sub hl [0, 1, 2, 3, 4] rfl)

set_option maxHeartbeats 4000000 in
set_option maxRecDepth 100000 in
theorem c_X7_nearOf (l : Launch) (G : gG) (H0 : Heap) (z : Nat → Nat) (r : Nat → Nat → Int32) (f : Nat → Int32) (hP : va_P G.1 vwCl (wRM G z r f) H0) (x1 : Int32) (x2 : Int32) (p w : Nat) (hp : x1 = nI p) (hp2 : p < 6) (hw : x2 = nI w) (hw2 : w ≤ 43) : gMr l yX7_nearOf wsX7_nearOf 0 0 G H0 [.ref (z 0), .int x1, .int x2] (mNear r p w) := by
  refine Met.ofW (cc := cX7_nearOf) (maxL := 5) (ret := (some .int)) (by decide) rfl ?_
  intro p_ e_ s m args below meth c s₁ B hml hv
  obtain ⟨rfl, rfl, hK⟩ := hv
  have hx := B.exec
  have hb := B.bytes
  have hr := B.returns
  have hts := atoms_spec (ws := wsX7_nearOf) B.pre
  have hown : s.vm.findClass RX7 = some m.cls := findClass_of_methodNamed B.named
  have hlocks := B.notSynchronized
  have hinX7 : ∀ w ∈ wsX70, w ∈ wsX7_nearOf := by decide +kernel
  have S0 : CallFix p_ m c cX7_nearOf 5 s _ wsX7_nearOf RX7 := ⟨hx, hb, hml, hown, hts⟩
  have hl := lv_entry ([.ref (z 0), .int x1, .int x2]) (n := 5) (Nat.le_of_ble_eq_true rfl)
  rw [lg_entry_eq]
  generalize (lg_sl ([.ref (z 0), .int x1, .int x2]) ++ List.replicate (5 - (lg_sl ([.ref (z 0), .int x1, .int x2])).length) Slot.unset).toArray = ls at hl ⊢
  have hl : lv_has ls 5 [(0, .ref (z 0)), (1, .int x1), (2, .int x2)] := hl
  subst hp
  subst hw
  refine lv_iconst (v := (-1)) hx hb dX7_nearOf_0 (by decide +kernel) ?_
  refine lv_istore_n (lv' := [(3, .int (-1)), (0, .ref (z 0)), (1, .int (nI p)), (2, .int (nI w))]) hx hb dX7_nearOf_1 rfl hl (by decide) rfl (fun ls hl => ?_)
  refine lv_iconst (v := nI 0) hx hb dX7_nearOf_2 (by decide +kernel) ?_
  refine lv_istore (lv' := [(4, .int (nI 0)), (3, .int (-1)), (0, .ref (z 0)), (1, .int (nI p)), (2, .int (nI w))]) hx hb dX7_nearOf_3 hl (by decide) rfl (fun ls hl => ?_)
  refine g_loop _ m 5 5 [] (w) (fun i => [(4, .int (nI i)), (3, .int (lastN i (mNP r p))), (0, .ref (z 0)), (1, .int (nI p)), (2, .int (nI w))]) (fun i => True) (fun i hi5 hI ih5 ls hl => ?_) 0 (Nat.zero_le _) trivial ls ?_
  · have hl : lv_has ls 5 [(4, .int (nI i)), (3, .int (lastN i (mNP r p))), (0, .ref (z 0)), (1, .int (nI p)), (2, .int (nI w))] := hl
    have hI : True := hI
    refine lv_iload hx hb dX7_nearOf_5 (lv_at hl 0 rfl) ?_
    refine lv_iload_n hx hb dX7_nearOf_7 rfl (lv_at hl 4 rfl) ?_
    refine lv_icmp_ge (tgt := 35) hx hb dX7_nearOf_8 (by decide) (fun c_1 => ?_) (fun c_1 => ?_)
    · have hex : w = i := by
        have h9 := (nI_leI (a := w) (b := i) (by omega) (by omega)).mp c_1
        omega
      subst hex
      refine lv_iload_n hx hb dX7_nearOf_35 rfl (lv_at hl 1 rfl) ?_
      refine lv_iconst (v := (-1)) hx hb dX7_nearOf_36 (by decide +kernel) ?_
      refine g_join m 49 5 [(4, .int (nI w)), (3, .int (lastN w (mNP r p))), (0, .ref (z 0)), (1, .int (nI p)), (2, .int (nI w))] [.int (mN1 r p w)] (fun ls hl => ?_) (fun hJ49 => ?_)
      · refine lv_aload_n hx hb dX7_nearOf_49 rfl (lv_at hl 2 rfl) ?_
        refine va_get (D := G.1) (ci := 7) (v := .ref (z 11)) (C := RX7) (T := TX7) (N := 26) hx hb hts hinX7 hown hK.1 hP 0 rfl rfl 15 (by decide) (hts (.fieldLink RX7 45 "RotaforgeModel" "blots" "[I") (by decide +kernel)) (fun _ h9 => h9) rfl dX7_nearOf_50 ?_
        refine lv_iload_n hx hb dX7_nearOf_53 rfl (lv_at hl 3 rfl) ?_
        refine g_iald hx hb hK.1 hP 11 0 rfl rfl p (rfl) (by omega) (by decide) dX7_nearOf_54 ?_
        refine lv_iadd hx hb dX7_nearOf_55 ?_
        have hq : ((mN1 r p w) + ((r 10) p)) = (mNear r p w) := by
          first | with_reducible rfl | with_reducible exact nI_add _ _ | (simp only [eq_true c_1, ↓reduceIte, Bool.false_eq_true, decide_true, decide_false, Bool.not_true, Bool.not_false, Bool.or_true, Bool.true_or, Bool.or_false, Bool.false_or]; done) | (simp only [eq_true c_1, ↓reduceIte, Bool.false_eq_true, decide_true, decide_false, Bool.not_true, Bool.not_false, Bool.or_true, Bool.true_or, Bool.or_false, Bool.false_or]; with_reducible rfl) | (simp only [eq_true c_1, ↓reduceIte, Bool.false_eq_true, decide_true, decide_false, Bool.not_true, Bool.not_false, Bool.or_true, Bool.true_or, Bool.or_false, Bool.false_or]; rfl) | (simp [b2i, eq_true c_1]; done) | rfl
        exact W.iret (v := (mN1 r p w) + ((r 10) p)) hx hb hr (fun t ht _ => g_ret hq ht) g_no dX7_nearOf_56
      · refine lv_icmp_ne (tgt := 46) hx hb dX7_nearOf_37 (by decide) (fun c_2 => ?_) (fun c_2 => ?_)
        · refine lv_iload_n hx hb dX7_nearOf_46 rfl (lv_at hl 4 rfl) ?_
          refine lv_iload_n hx hb dX7_nearOf_47 rfl (lv_at hl 1 rfl) ?_
          refine lv_isub hx hb dX7_nearOf_48 ?_
          refine W.eq (g2 := F0 m 49 ls [.int (mN1 r p w)]) (g_st (gs_i (show (nI w) - (lastN w (mNP r p)) = mN1 r p w by first | with_reducible rfl | with_reducible exact nI_add _ _ | (simp only [mN1, eq_true c_1, eq_false c_2, ↓reduceIte, Bool.false_eq_true, decide_true, decide_false, Bool.not_true, Bool.not_false, Bool.or_true, Bool.true_or, Bool.or_false, Bool.false_or]; done) | (simp only [mN1, eq_true c_1, eq_false c_2, ↓reduceIte, Bool.false_eq_true, decide_true, decide_false, Bool.not_true, Bool.not_false, Bool.or_true, Bool.true_or, Bool.or_false, Bool.false_or]; with_reducible rfl) | (simp only [mN1, eq_true c_1, eq_false c_2, ↓reduceIte, Bool.false_eq_true, decide_true, decide_false, Bool.not_true, Bool.not_false, Bool.or_true, Bool.true_or, Bool.or_false, Bool.false_or]; rfl) | (simp [b2i, mN1, eq_true c_1, eq_false c_2]; done) | rfl) rfl)) ?_
          exact hJ49 _ (show lv_has ls 5 [(4, .int (nI w)), (3, .int (lastN w (mNP r p))), (0, .ref (z 0)), (1, .int (nI p)), (2, .int (nI w))] from lv_sub hl [0, 1, 2, 3, 4] rfl)
        · refine lv_iload_n hx hb dX7_nearOf_40 rfl (lv_at hl 4 rfl) ?_
          refine lv_iconst (v := nI 1) hx hb dX7_nearOf_41 (by decide +kernel) ?_
          refine lv_iadd hx hb dX7_nearOf_42 ?_
          refine lv_goto (tgt := 49) hx hb dX7_nearOf_43 (by decide) ?_
          refine W.eq (g2 := F0 m 49 ls [.int (mN1 r p w)]) (g_st (gs_i (show (nI w) + (nI 1) = mN1 r p w by first | with_reducible rfl | with_reducible exact nI_add _ _ | (simp only [mN1, eq_true c_1, eq_true c_2, ↓reduceIte, Bool.false_eq_true, decide_true, decide_false, Bool.not_true, Bool.not_false, Bool.or_true, Bool.true_or, Bool.or_false, Bool.false_or]; done) | (simp only [mN1, eq_true c_1, eq_true c_2, ↓reduceIte, Bool.false_eq_true, decide_true, decide_false, Bool.not_true, Bool.not_false, Bool.or_true, Bool.true_or, Bool.or_false, Bool.false_or]; with_reducible rfl) | (simp only [mN1, eq_true c_1, eq_true c_2, ↓reduceIte, Bool.false_eq_true, decide_true, decide_false, Bool.not_true, Bool.not_false, Bool.or_true, Bool.true_or, Bool.or_false, Bool.false_or]; rfl) | (simp [b2i, mN1, eq_true c_1, eq_true c_2]; done) | rfl) rfl)) ?_
          exact hJ49 _ (show lv_has ls 5 [(4, .int (nI w)), (3, .int (lastN w (mNP r p))), (0, .ref (z 0)), (1, .int (nI p)), (2, .int (nI w))] from lv_sub hl [0, 1, 2, 3, 4] rfl)
    · have hlt : i < w := by
        have h9 := mt (nI_leI (a := w) (b := i) (by omega) (by omega)).mpr c_1
        omega
      refine lv_aload_n hx hb dX7_nearOf_11 rfl (lv_at hl 2 rfl) ?_
      refine va_get (D := G.1) (ci := 7) (v := .ref (z 10)) (C := RX7) (T := TX7) (N := 26) hx hb hts hinX7 hown hK.1 hP 0 rfl rfl 14 (by decide) (hts (.fieldLink RX7 42 "RotaforgeModel" "holders" "[I") (by decide +kernel)) (fun _ h9 => h9) rfl dX7_nearOf_12 ?_
      refine lv_iload hx hb dX7_nearOf_15 (lv_at hl 0 rfl) ?_
      refine g_iald hx hb hK.1 hP 10 0 rfl rfl i (rfl) (by omega) (by decide) dX7_nearOf_17 ?_
      refine lv_iload_n hx hb dX7_nearOf_18 rfl (lv_at hl 3 rfl) ?_
      refine g_join m 28 5 [(4, .int (nI i)), (3, .int (lastN i (mNP r p))), (0, .ref (z 0)), (1, .int (nI p)), (2, .int (nI w))] [.int (lastN (i + 1) (mNP r p))] (fun ls hl => ?_) (fun hJ28 => ?_)
      · refine lv_istore_n (lv' := [(3, .int (lastN (i + 1) (mNP r p))), (4, .int (nI i)), (0, .ref (z 0)), (1, .int (nI p)), (2, .int (nI w))]) hx hb dX7_nearOf_28 rfl hl (by decide) rfl (fun ls hl => ?_)
        refine lv_iinc (v := (nI i) + nI 1) (lv' := [(4, .int ((nI i) + nI 1)), (3, .int (lastN (i + 1) (mNP r p))), (0, .ref (z 0)), (1, .int (nI p)), (2, .int (nI w))]) hx hb dX7_nearOf_29 hl (k := 1) rfl (congrArg (fun q : Int32 => (nI i) + q) (by decide +kernel)) (by decide) rfl (fun ls hl => ?_)
        refine lv_goto (tgt := 5) hx hb dX7_nearOf_32 (by decide) ?_
        exact ih5 _ (by omega) trivial (lv_cv (show lv_has ls 5 [(4, .int ((nI i) + nI 1)), (3, .int (lastN (i + 1) (mNP r p))), (0, .ref (z 0)), (1, .int (nI p)), (2, .int (nI w))] from lv_sub hl [0, 1, 2, 3, 4] rfl) (gl_i (show (nI i) + nI 1 = nI (i + 1) by first | with_reducible rfl | with_reducible exact nI_add _ _ | (simp only [itN_s i, eq_false c_1, ↓reduceIte, Bool.false_eq_true, decide_true, decide_false, Bool.not_true, Bool.not_false, Bool.or_true, Bool.true_or, Bool.or_false, Bool.false_or]; done) | (simp only [itN_s i, eq_false c_1, ↓reduceIte, Bool.false_eq_true, decide_true, decide_false, Bool.not_true, Bool.not_false, Bool.or_true, Bool.true_or, Bool.or_false, Bool.false_or]; with_reducible rfl) | (simp only [itN_s i, eq_false c_1, ↓reduceIte, Bool.false_eq_true, decide_true, decide_false, Bool.not_true, Bool.not_false, Bool.or_true, Bool.true_or, Bool.or_false, Bool.false_or]; rfl) | (simp [b2i, itN_s i, eq_false c_1]; done) | rfl) (gl_s (gl_s (gl_s (gl_s rfl))))))
      · refine lv_icmp_ne (tgt := 27) hx hb dX7_nearOf_19 (by decide) (fun c_3 => ?_) (fun c_3 => ?_)
        · refine lv_iload_n hx hb dX7_nearOf_27 rfl (lv_at hl 1 rfl) ?_
          refine W.eq (g2 := F0 m 28 ls [.int (lastN (i + 1) (mNP r p))]) (g_st (gs_i (show lastN i (mNP r p) = lastN (i + 1) (mNP r p) by first | with_reducible rfl | with_reducible exact nI_add _ _ | (simp only [lastN, mNP, eq_false c_1, eq_false c_3, ↓reduceIte, Bool.false_eq_true, decide_true, decide_false, Bool.not_true, Bool.not_false, Bool.or_true, Bool.true_or, Bool.or_false, Bool.false_or]; done) | (simp only [lastN, mNP, eq_false c_1, eq_false c_3, ↓reduceIte, Bool.false_eq_true, decide_true, decide_false, Bool.not_true, Bool.not_false, Bool.or_true, Bool.true_or, Bool.or_false, Bool.false_or]; with_reducible rfl) | (simp only [lastN, mNP, eq_false c_1, eq_false c_3, ↓reduceIte, Bool.false_eq_true, decide_true, decide_false, Bool.not_true, Bool.not_false, Bool.or_true, Bool.true_or, Bool.or_false, Bool.false_or]; rfl) | (simp [b2i, lastN, mNP, eq_false c_1, eq_false c_3]; done) | rfl) rfl)) ?_
          exact hJ28 _ (show lv_has ls 5 [(4, .int (nI i)), (3, .int (lastN i (mNP r p))), (0, .ref (z 0)), (1, .int (nI p)), (2, .int (nI w))] from lv_sub hl [0, 1, 2, 3, 4] rfl)
        · refine lv_iload hx hb dX7_nearOf_22 (lv_at hl 0 rfl) ?_
          refine lv_goto (tgt := 28) hx hb dX7_nearOf_24 (by decide) ?_
          refine W.eq (g2 := F0 m 28 ls [.int (lastN (i + 1) (mNP r p))]) (g_st (gs_i (show nI i = lastN (i + 1) (mNP r p) by first | with_reducible rfl | with_reducible exact nI_add _ _ | (simp only [lastN, mNP, eq_false c_1, eq_true c_3, ↓reduceIte, Bool.false_eq_true, decide_true, decide_false, Bool.not_true, Bool.not_false, Bool.or_true, Bool.true_or, Bool.or_false, Bool.false_or]; done) | (simp only [lastN, mNP, eq_false c_1, eq_true c_3, ↓reduceIte, Bool.false_eq_true, decide_true, decide_false, Bool.not_true, Bool.not_false, Bool.or_true, Bool.true_or, Bool.or_false, Bool.false_or]; with_reducible rfl) | (simp only [lastN, mNP, eq_false c_1, eq_true c_3, ↓reduceIte, Bool.false_eq_true, decide_true, decide_false, Bool.not_true, Bool.not_false, Bool.or_true, Bool.true_or, Bool.or_false, Bool.false_or]; rfl) | (simp [b2i, lastN, mNP, eq_false c_1, eq_true c_3]; done) | rfl) rfl)) ?_
          exact hJ28 _ (show lv_has ls 5 [(4, .int (nI i)), (3, .int (lastN i (mNP r p))), (0, .ref (z 0)), (1, .int (nI p)), (2, .int (nI w))] from lv_sub hl [0, 1, 2, 3, 4] rfl)
  · exact (lv_cv (show lv_has ls 5 [(4, .int (nI 0)), (3, .int (-1)), (0, .ref (z 0)), (1, .int (nI p)), (2, .int (nI w))] from lv_sub hl [0, 1, 2, 3, 4] rfl) (gl_s (gl_i (show (-1) = lastN 0 (mNP r p) by first | with_reducible rfl | with_reducible exact nI_add _ _ | (simp only [true_and, ↓reduceIte, Bool.false_eq_true, decide_true, decide_false, Bool.not_true, Bool.not_false, Bool.or_true, Bool.true_or, Bool.or_false, Bool.false_or]; done) | (simp only [true_and, ↓reduceIte, Bool.false_eq_true, decide_true, decide_false, Bool.not_true, Bool.not_false, Bool.or_true, Bool.true_or, Bool.or_false, Bool.false_or]; with_reducible rfl) | (simp only [true_and, ↓reduceIte, Bool.false_eq_true, decide_true, decide_false, Bool.not_true, Bool.not_false, Bool.or_true, Bool.true_or, Bool.or_false, Bool.false_or]; rfl) | (simp [b2i, true_and]; done) | rfl) (gl_s (gl_s (gl_s rfl))))))

set_option maxHeartbeats 4000000 in
set_option maxRecDepth 100000 in
theorem c_X7_called (l : Launch) (G : gG) (H0 : Heap) (z : Nat → Nat) (r : Nat → Nat → Int32) (f : Nat → Int32) (hP : va_P G.1 vwCl (wRM G z r f) H0) (n d k t h : Nat) (hM : mOK r f n d k t) (hh9 : r 9 (t / 14) = nI h) (hh8 : h < 6) : gMr l yX7_called wsX7_called 1 21 G H0 [.ref (z 0)] (mCalled r f t h) := by
  refine Met.ofW (cc := cX7_called) (maxL := 3) (ret := (some .int)) (by decide) rfl ?_
  intro p_ e_ s m args below meth c s₁ B hml hv
  obtain ⟨rfl, rfl, hK⟩ := hv
  have hx := B.exec
  have hb := B.bytes
  have hr := B.returns
  have hts := atoms_spec (ws := wsX7_called) B.pre
  have hown : s.vm.findClass RX7 = some m.cls := findClass_of_methodNamed B.named
  have hlocks := B.notSynchronized
  have hinX7 : ∀ w ∈ wsX70, w ∈ wsX7_called := by decide +kernel
  have S0 : CallFix p_ m c cX7_called 3 s _ wsX7_called RX7 := ⟨hx, hb, hml, hown, hts⟩
  have hl := lv_entry ([.ref (z 0)]) (n := 3) (Nat.le_of_ble_eq_true rfl)
  rw [lg_entry_eq]
  generalize (lg_sl ([.ref (z 0)]) ++ List.replicate (3 - (lg_sl ([.ref (z 0)])).length) Slot.unset).toArray = ls at hl ⊢
  have hl : lv_has ls 3 [(0, .ref (z 0))] := hl
  obtain ⟨hn, hn2, hd, hd2, hk, hk2, ht, ht2, hh, hm⟩ := id hM
  refine lv_aload_n hx hb dX7_called_0 rfl (lv_at hl 0 rfl) ?_
  refine va_get (D := G.1) (ci := 7) (v := .ref (z 10)) (C := RX7) (T := TX7) (N := 26) hx hb hts hinX7 hown hK.1 hP 0 rfl rfl 14 (by decide) (hts (.fieldLink RX7 42 "RotaforgeModel" "holders" "[I") (by decide +kernel)) (fun _ h9 => h9) rfl dX7_called_1 ?_
  refine lv_aload_n hx hb dX7_called_4 rfl (lv_at hl 0 rfl) ?_
  refine va_get (D := G.1) (ci := 7) (v := .int (f 1)) (C := RX7) (T := TX7) (N := 26) hx hb hts hinX7 hown hK.1 hP 0 rfl rfl 1 (by decide) (hts (.fieldLink RX7 120 "RotaforgeModel" "time" "I") (by decide +kernel)) (fun _ h9 => h9) rfl dX7_called_5 ?_
  refine lv_bipush (v := nI 14) hx hb dX7_called_8 (by decide +kernel) ?_
  refine lv_idiv hx hb dX7_called_10 (by decide) ?_
  refine g_iald hx hb hK.1 hP 10 0 rfl rfl (t / 14) (by rw [ht]; exact pk_div (by omega) (by decide) (by decide)) (by omega) (by decide) dX7_called_11 ?_
  refine lv_istore_n (lv' := [(1, .int ((r 9) (t / 14))), (0, .ref (z 0))]) hx hb dX7_called_12 rfl hl (by decide) rfl (fun ls hl => ?_)
  refine lv_aload_n hx hb dX7_called_13 rfl (lv_at hl 1 rfl) ?_
  refine lv_iload_n hx hb dX7_called_14 rfl (lv_at hl 0 rfl) ?_
  refine g_callC (W.runV (C := RX7) (As := [.int ((r 9) (t / 14))]) (rest := []) S0 (c_X7_rested l G _ z r f hP ((r 9) (t / 14)) h hh9 hh8) (cwV 1 hts gX7_called_X7_rested rfl rfl rfl (by decide +kernel) ⟨Nat.le_of_ble_eq_true rfl, Nat.le_of_ble_eq_true rfl⟩) (g_preV hK hP (q0 := 0) (ci := 7) (q := (RX7, TX7, 26)) rfl rfl) rfl rfl hl.1 rfl (lv_room (Nat.le_of_ble_eq_true rfl)) dX7_called_15 ⟨Nat.zero_le _, Nat.zero_le _⟩) ?_
  refine lv_if_ne (tgt := 23) hx hb dX7_called_18 (by decide) (fun c_1 => ?_) (fun c_1 => ?_)
  · have c_1 := b2i_t c_1
    refine lv_iconst (v := (-1)) hx hb dX7_called_23 (by decide +kernel) ?_
    refine lv_istore_n (lv' := [(1, .int (-1)), (0, .ref (z 0))]) hx hb dX7_called_24 rfl hl (by decide) rfl (fun ls hl => ?_)
    refine lv_iconst (v := nI 0) hx hb dX7_called_25 (by decide +kernel) ?_
    refine lv_istore_n (lv' := [(2, .int (nI 0)), (1, .int (-1)), (0, .ref (z 0))]) hx hb dX7_called_26 rfl hl (by decide) rfl (fun ls hl => ?_)
    refine g_loop _ m 27 3 [] (6) (fun i => [(2, .int (nI i)), (1, .int (itN i (mCI r f) (-1))), (0, .ref (z 0))]) (fun i => itN i (mCI r f) (-1) = -1 ∨ ∃ j, j < 6 ∧ itN i (mCI r f) (-1) = nI j) (fun i hi27 hI ih27 ls hl => ?_) 0 (Nat.zero_le _) (by exact Or.inl rfl) ls ?_
    · have hl : lv_has ls 3 [(2, .int (nI i)), (1, .int (itN i (mCI r f) (-1))), (0, .ref (z 0))] := hl
      have hI : itN i (mCI r f) (-1) = -1 ∨ ∃ j, j < 6 ∧ itN i (mCI r f) (-1) = nI j := hI
      refine lv_iload_n hx hb dX7_called_27 rfl (lv_at hl 0 rfl) ?_
      refine lv_bipush (v := nI 6) hx hb dX7_called_28 (by decide +kernel) ?_
      refine lv_icmp_ge (tgt := 73) hx hb dX7_called_30 (by decide) (fun c_2 => ?_) (fun c_2 => ?_)
      · have hex : 6 = i := by
          have h9 := (nI_leI (a := 6) (b := i) (by decide) (by omega)).mp c_2
          omega
        subst hex
        refine lv_iload_n hx hb dX7_called_73 rfl (lv_at hl 1 rfl) ?_
        have hq : (itN 6 (mCI r f) (-1)) = (mCalled r f t h) := by
          unfold mCalled
          simp only [c_1, ↓reduceIte]
        exact W.iret (v := itN 6 (mCI r f) (-1)) hx hb hr (fun t ht _ => g_ret hq ht) g_no dX7_called_74
      · have hlt : i < 6 := by
          have h9 := mt (nI_leI (a := 6) (b := i) (by decide) (by omega)).mpr c_2
          omega
        refine lv_aload_n hx hb dX7_called_33 rfl (lv_at hl 2 rfl) ?_
        refine lv_iload_n hx hb dX7_called_34 rfl (lv_at hl 0 rfl) ?_
        refine g_callC (W.runV (C := RX7) (As := [.int (nI i)]) (rest := []) S0 (c_X7_rested l G _ z r f hP (nI i) i rfl hlt) (cwV 1 hts gX7_called_X7_rested rfl rfl rfl (by decide +kernel) ⟨Nat.le_of_ble_eq_true rfl, Nat.le_of_ble_eq_true rfl⟩) (g_preV hK hP (q0 := 0) (ci := 7) (q := (RX7, TX7, 26)) rfl rfl) rfl rfl hl.1 rfl (lv_room (Nat.le_of_ble_eq_true rfl)) dX7_called_35 ⟨Nat.zero_le _, Nat.zero_le _⟩) ?_
        refine lv_if_ne (tgt := 65) hx hb dX7_called_38 (by decide) (fun c_3 => ?_) (fun c_3 => ?_)
        · have c_3 := b2i_t c_3
          refine lv_iload_n hx hb dX7_called_65 rfl (lv_at hl 1 rfl) ?_
          refine lv_istore_n (lv' := [(1, .int (itN i (mCI r f) (-1))), (2, .int (nI i)), (0, .ref (z 0))]) hx hb dX7_called_66 rfl hl (by decide) rfl (fun ls hl => ?_)
          refine lv_iinc (v := (nI i) + nI 1) (lv' := [(2, .int ((nI i) + nI 1)), (1, .int (itN i (mCI r f) (-1))), (0, .ref (z 0))]) hx hb dX7_called_67 hl (k := 1) rfl (congrArg (fun q : Int32 => (nI i) + q) (by decide +kernel)) (by decide) rfl (fun ls hl => ?_)
          refine lv_goto (tgt := 27) hx hb dX7_called_70 (by decide) ?_
          exact ih27 _ (by omega) (by exact mCI_ok hlt hI) (lv_cv (show lv_has ls 3 [(2, .int ((nI i) + nI 1)), (1, .int (itN i (mCI r f) (-1))), (0, .ref (z 0))] from lv_sub hl [0, 1, 2] rfl) (gl_i (show (nI i) + nI 1 = nI (i + 1) by first | with_reducible rfl | with_reducible exact nI_add _ _ | (simp only [itN_s i, mCI, c_1, eq_false c_2, c_3, ↓reduceIte, Bool.false_eq_true, decide_true, decide_false, Bool.not_true, Bool.not_false, Bool.or_true, Bool.true_or, Bool.or_false, Bool.false_or]; done) | (simp only [itN_s i, mCI, c_1, eq_false c_2, c_3, ↓reduceIte, Bool.false_eq_true, decide_true, decide_false, Bool.not_true, Bool.not_false, Bool.or_true, Bool.true_or, Bool.or_false, Bool.false_or]; with_reducible rfl) | (simp only [itN_s i, mCI, c_1, eq_false c_2, c_3, ↓reduceIte, Bool.false_eq_true, decide_true, decide_false, Bool.not_true, Bool.not_false, Bool.or_true, Bool.true_or, Bool.or_false, Bool.false_or]; rfl) | (simp [b2i, itN_s i, mCI, c_1, eq_false c_2, c_3]; done) | rfl) (gl_i (show itN i (mCI r f) (-1) = itN (i + 1) (mCI r f) (-1) by first | with_reducible rfl | with_reducible exact nI_add _ _ | (simp only [itN_s i, mCI, c_1, eq_false c_2, c_3, ↓reduceIte, Bool.false_eq_true, decide_true, decide_false, Bool.not_true, Bool.not_false, Bool.or_true, Bool.true_or, Bool.or_false, Bool.false_or]; done) | (simp only [itN_s i, mCI, c_1, eq_false c_2, c_3, ↓reduceIte, Bool.false_eq_true, decide_true, decide_false, Bool.not_true, Bool.not_false, Bool.or_true, Bool.true_or, Bool.or_false, Bool.false_or]; with_reducible rfl) | (simp only [itN_s i, mCI, c_1, eq_false c_2, c_3, ↓reduceIte, Bool.false_eq_true, decide_true, decide_false, Bool.not_true, Bool.not_false, Bool.or_true, Bool.true_or, Bool.or_false, Bool.false_or]; rfl) | (simp [b2i, itN_s i, mCI, c_1, eq_false c_2, c_3]; done) | rfl) (gl_s rfl))))
        · have c_3 := b2i_f c_3
          refine lv_iload_n hx hb dX7_called_41 rfl (lv_at hl 1 rfl) ?_
          refine lv_iconst (v := (-1)) hx hb dX7_called_42 (by decide +kernel) ?_
          refine lv_icmp_eq (tgt := 61) hx hb dX7_called_43 (by decide) (fun c_4 => ?_) (fun c_4 => ?_)
          · refine lv_iload_n hx hb dX7_called_61 rfl (lv_at hl 0 rfl) ?_
            refine lv_goto (tgt := 66) hx hb dX7_called_62 (by decide) ?_
            refine lv_istore_n (lv' := [(1, .int (nI i)), (2, .int (nI i)), (0, .ref (z 0))]) hx hb dX7_called_66 rfl hl (by decide) rfl (fun ls hl => ?_)
            refine lv_iinc (v := (nI i) + nI 1) (lv' := [(2, .int ((nI i) + nI 1)), (1, .int (nI i)), (0, .ref (z 0))]) hx hb dX7_called_67 hl (k := 1) rfl (congrArg (fun q : Int32 => (nI i) + q) (by decide +kernel)) (by decide) rfl (fun ls hl => ?_)
            refine lv_goto (tgt := 27) hx hb dX7_called_70 (by decide) ?_
            exact ih27 _ (by omega) (by exact mCI_ok hlt hI) (lv_cv (show lv_has ls 3 [(2, .int ((nI i) + nI 1)), (1, .int (nI i)), (0, .ref (z 0))] from lv_sub hl [0, 1, 2] rfl) (gl_i (show (nI i) + nI 1 = nI (i + 1) by first | with_reducible rfl | with_reducible exact nI_add _ _ | (simp only [itN_s i, mCI, c_1, eq_false c_2, c_3, eq_true c_4, ↓reduceIte, Bool.false_eq_true, decide_true, decide_false, Bool.not_true, Bool.not_false, Bool.or_true, Bool.true_or, Bool.or_false, Bool.false_or]; done) | (simp only [itN_s i, mCI, c_1, eq_false c_2, c_3, eq_true c_4, ↓reduceIte, Bool.false_eq_true, decide_true, decide_false, Bool.not_true, Bool.not_false, Bool.or_true, Bool.true_or, Bool.or_false, Bool.false_or]; with_reducible rfl) | (simp only [itN_s i, mCI, c_1, eq_false c_2, c_3, eq_true c_4, ↓reduceIte, Bool.false_eq_true, decide_true, decide_false, Bool.not_true, Bool.not_false, Bool.or_true, Bool.true_or, Bool.or_false, Bool.false_or]; rfl) | (simp [b2i, itN_s i, mCI, c_1, eq_false c_2, c_3, eq_true c_4]; done) | rfl) (gl_i (show nI i = itN (i + 1) (mCI r f) (-1) by first | with_reducible rfl | with_reducible exact nI_add _ _ | (simp only [itN_s i, mCI, c_1, eq_false c_2, c_3, eq_true c_4, ↓reduceIte, Bool.false_eq_true, decide_true, decide_false, Bool.not_true, Bool.not_false, Bool.or_true, Bool.true_or, Bool.or_false, Bool.false_or]; done) | (simp only [itN_s i, mCI, c_1, eq_false c_2, c_3, eq_true c_4, ↓reduceIte, Bool.false_eq_true, decide_true, decide_false, Bool.not_true, Bool.not_false, Bool.or_true, Bool.true_or, Bool.or_false, Bool.false_or]; with_reducible rfl) | (simp only [itN_s i, mCI, c_1, eq_false c_2, c_3, eq_true c_4, ↓reduceIte, Bool.false_eq_true, decide_true, decide_false, Bool.not_true, Bool.not_false, Bool.or_true, Bool.true_or, Bool.or_false, Bool.false_or]; rfl) | (simp [b2i, itN_s i, mCI, c_1, eq_false c_2, c_3, eq_true c_4]; done) | rfl) (gl_s rfl))))
          · refine lv_aload_n hx hb dX7_called_46 rfl (lv_at hl 2 rfl) ?_
            refine va_get (D := G.1) (ci := 7) (v := .ref (z 11)) (C := RX7) (T := TX7) (N := 26) hx hb hts hinX7 hown hK.1 hP 0 rfl rfl 15 (by decide) (hts (.fieldLink RX7 45 "RotaforgeModel" "blots" "[I") (by decide +kernel)) (fun _ h9 => h9) rfl dX7_called_47 ?_
            refine lv_iload_n hx hb dX7_called_50 rfl (lv_at hl 0 rfl) ?_
            refine g_iald hx hb hK.1 hP 11 0 rfl rfl i (rfl) (by omega) (by decide) dX7_called_51 ?_
            refine lv_aload_n hx hb dX7_called_52 rfl (lv_at hl 2 rfl) ?_
            refine va_get (D := G.1) (ci := 7) (v := .ref (z 11)) (C := RX7) (T := TX7) (N := 26) hx hb hts hinX7 hown hK.1 hP 0 rfl rfl 15 (by decide) (hts (.fieldLink RX7 45 "RotaforgeModel" "blots" "[I") (by decide +kernel)) (fun _ h9 => h9) rfl dX7_called_53 ?_
            refine lv_iload_n hx hb dX7_called_56 rfl (lv_at hl 1 rfl) ?_
            refine g_iald hx hb hK.1 hP 11 0 rfl rfl ((itN i (mCI r f) (-1)).toNatClampNeg) ((q_nn hI c_4 (by decide)).1) ((q_nn hI c_4 (by decide)).2) (by decide) dX7_called_57 ?_
            refine lv_icmp_le (tgt := 65) hx hb dX7_called_58 (by decide) (fun c_5 => ?_) (fun c_5 => ?_)
            · refine lv_iload_n hx hb dX7_called_65 rfl (lv_at hl 1 rfl) ?_
              refine lv_istore_n (lv' := [(1, .int (itN i (mCI r f) (-1))), (2, .int (nI i)), (0, .ref (z 0))]) hx hb dX7_called_66 rfl hl (by decide) rfl (fun ls hl => ?_)
              refine lv_iinc (v := (nI i) + nI 1) (lv' := [(2, .int ((nI i) + nI 1)), (1, .int (itN i (mCI r f) (-1))), (0, .ref (z 0))]) hx hb dX7_called_67 hl (k := 1) rfl (congrArg (fun q : Int32 => (nI i) + q) (by decide +kernel)) (by decide) rfl (fun ls hl => ?_)
              refine lv_goto (tgt := 27) hx hb dX7_called_70 (by decide) ?_
              exact ih27 _ (by omega) (by exact mCI_ok hlt hI) (lv_cv (show lv_has ls 3 [(2, .int ((nI i) + nI 1)), (1, .int (itN i (mCI r f) (-1))), (0, .ref (z 0))] from lv_sub hl [0, 1, 2] rfl) (gl_i (show (nI i) + nI 1 = nI (i + 1) by first | with_reducible rfl | with_reducible exact nI_add _ _ | (simp only [itN_s i, mCI, c_1, eq_false c_2, c_3, eq_false c_4, eq_true c_5, ↓reduceIte, Bool.false_eq_true, decide_true, decide_false, Bool.not_true, Bool.not_false, Bool.or_true, Bool.true_or, Bool.or_false, Bool.false_or]; done) | (simp only [itN_s i, mCI, c_1, eq_false c_2, c_3, eq_false c_4, eq_true c_5, ↓reduceIte, Bool.false_eq_true, decide_true, decide_false, Bool.not_true, Bool.not_false, Bool.or_true, Bool.true_or, Bool.or_false, Bool.false_or]; with_reducible rfl) | (simp only [itN_s i, mCI, c_1, eq_false c_2, c_3, eq_false c_4, eq_true c_5, ↓reduceIte, Bool.false_eq_true, decide_true, decide_false, Bool.not_true, Bool.not_false, Bool.or_true, Bool.true_or, Bool.or_false, Bool.false_or]; rfl) | (simp [b2i, itN_s i, mCI, c_1, eq_false c_2, c_3, eq_false c_4, eq_true c_5]; done) | rfl) (gl_i (show itN i (mCI r f) (-1) = itN (i + 1) (mCI r f) (-1) by first | with_reducible rfl | with_reducible exact nI_add _ _ | (simp only [itN_s i, mCI, c_1, eq_false c_2, c_3, eq_false c_4, eq_true c_5, ↓reduceIte, Bool.false_eq_true, decide_true, decide_false, Bool.not_true, Bool.not_false, Bool.or_true, Bool.true_or, Bool.or_false, Bool.false_or]; done) | (simp only [itN_s i, mCI, c_1, eq_false c_2, c_3, eq_false c_4, eq_true c_5, ↓reduceIte, Bool.false_eq_true, decide_true, decide_false, Bool.not_true, Bool.not_false, Bool.or_true, Bool.true_or, Bool.or_false, Bool.false_or]; with_reducible rfl) | (simp only [itN_s i, mCI, c_1, eq_false c_2, c_3, eq_false c_4, eq_true c_5, ↓reduceIte, Bool.false_eq_true, decide_true, decide_false, Bool.not_true, Bool.not_false, Bool.or_true, Bool.true_or, Bool.or_false, Bool.false_or]; rfl) | (simp [b2i, itN_s i, mCI, c_1, eq_false c_2, c_3, eq_false c_4, eq_true c_5]; done) | rfl) (gl_s rfl))))
            · refine lv_iload_n hx hb dX7_called_61 rfl (lv_at hl 0 rfl) ?_
              refine lv_goto (tgt := 66) hx hb dX7_called_62 (by decide) ?_
              refine lv_istore_n (lv' := [(1, .int (nI i)), (2, .int (nI i)), (0, .ref (z 0))]) hx hb dX7_called_66 rfl hl (by decide) rfl (fun ls hl => ?_)
              refine lv_iinc (v := (nI i) + nI 1) (lv' := [(2, .int ((nI i) + nI 1)), (1, .int (nI i)), (0, .ref (z 0))]) hx hb dX7_called_67 hl (k := 1) rfl (congrArg (fun q : Int32 => (nI i) + q) (by decide +kernel)) (by decide) rfl (fun ls hl => ?_)
              refine lv_goto (tgt := 27) hx hb dX7_called_70 (by decide) ?_
              exact ih27 _ (by omega) (by exact mCI_ok hlt hI) (lv_cv (show lv_has ls 3 [(2, .int ((nI i) + nI 1)), (1, .int (nI i)), (0, .ref (z 0))] from lv_sub hl [0, 1, 2] rfl) (gl_i (show (nI i) + nI 1 = nI (i + 1) by first | with_reducible rfl | with_reducible exact nI_add _ _ | (simp only [itN_s i, mCI, c_1, eq_false c_2, c_3, eq_false c_4, eq_false c_5, ↓reduceIte, Bool.false_eq_true, decide_true, decide_false, Bool.not_true, Bool.not_false, Bool.or_true, Bool.true_or, Bool.or_false, Bool.false_or]; done) | (simp only [itN_s i, mCI, c_1, eq_false c_2, c_3, eq_false c_4, eq_false c_5, ↓reduceIte, Bool.false_eq_true, decide_true, decide_false, Bool.not_true, Bool.not_false, Bool.or_true, Bool.true_or, Bool.or_false, Bool.false_or]; with_reducible rfl) | (simp only [itN_s i, mCI, c_1, eq_false c_2, c_3, eq_false c_4, eq_false c_5, ↓reduceIte, Bool.false_eq_true, decide_true, decide_false, Bool.not_true, Bool.not_false, Bool.or_true, Bool.true_or, Bool.or_false, Bool.false_or]; rfl) | (simp [b2i, itN_s i, mCI, c_1, eq_false c_2, c_3, eq_false c_4, eq_false c_5]; done) | rfl) (gl_i (show nI i = itN (i + 1) (mCI r f) (-1) by first | with_reducible rfl | with_reducible exact nI_add _ _ | (simp only [itN_s i, mCI, c_1, eq_false c_2, c_3, eq_false c_4, eq_false c_5, ↓reduceIte, Bool.false_eq_true, decide_true, decide_false, Bool.not_true, Bool.not_false, Bool.or_true, Bool.true_or, Bool.or_false, Bool.false_or]; done) | (simp only [itN_s i, mCI, c_1, eq_false c_2, c_3, eq_false c_4, eq_false c_5, ↓reduceIte, Bool.false_eq_true, decide_true, decide_false, Bool.not_true, Bool.not_false, Bool.or_true, Bool.true_or, Bool.or_false, Bool.false_or]; with_reducible rfl) | (simp only [itN_s i, mCI, c_1, eq_false c_2, c_3, eq_false c_4, eq_false c_5, ↓reduceIte, Bool.false_eq_true, decide_true, decide_false, Bool.not_true, Bool.not_false, Bool.or_true, Bool.true_or, Bool.or_false, Bool.false_or]; rfl) | (simp [b2i, itN_s i, mCI, c_1, eq_false c_2, c_3, eq_false c_4, eq_false c_5]; done) | rfl) (gl_s rfl))))
    · exact (lv_cv (show lv_has ls 3 [(2, .int (nI 0)), (1, .int (-1)), (0, .ref (z 0))] from lv_sub hl [0, 1, 2] rfl) (gl_s (gl_i (show (-1) = itN 0 (mCI r f) (-1) by first | with_reducible rfl | with_reducible exact nI_add _ _ | (simp only [c_1, ↓reduceIte, Bool.false_eq_true, decide_true, decide_false, Bool.not_true, Bool.not_false, Bool.or_true, Bool.true_or, Bool.or_false, Bool.false_or]; done) | (simp only [c_1, ↓reduceIte, Bool.false_eq_true, decide_true, decide_false, Bool.not_true, Bool.not_false, Bool.or_true, Bool.true_or, Bool.or_false, Bool.false_or]; with_reducible rfl) | (simp only [c_1, ↓reduceIte, Bool.false_eq_true, decide_true, decide_false, Bool.not_true, Bool.not_false, Bool.or_true, Bool.true_or, Bool.or_false, Bool.false_or]; rfl) | (simp [b2i, c_1]; done) | rfl) (gl_s rfl))))
  · have c_1 := b2i_f c_1
    refine lv_iload_n hx hb dX7_called_21 rfl (lv_at hl 0 rfl) ?_
    have hq : ((r 9) (t / 14)) = (mCalled r f t h) := by
      unfold mCalled
      simp only [c_1, ↓reduceIte, Bool.false_eq_true]
    exact W.iret (v := (r 9) (t / 14)) hx hb hr (fun t ht _ => g_ret hq ht) g_no dX7_called_22
