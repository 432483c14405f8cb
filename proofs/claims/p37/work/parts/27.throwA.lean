set_option maxHeartbeats 4000000 in
set_option maxRecDepth 100000 in
theorem c_X6_requirePerson (l : Launch) (hfl : l.stackTraces = false) (G : gG) (H0 : Heap) (x1 : Int32) : gMxv l yX6_requirePerson wsX6_requirePerson 6 90 1 G H0 [.int x1] (kPerson x1) := by
  refine vx_ofW (cc := cX6_requirePerson) (maxL := 1) (ret := none) (by decide) rfl ?_
  intro p_ e_ s m args below meth c s₁ B hml hexc hv
  obtain ⟨rfl, rfl, hK, hX⟩ := hv
  have hx := B.exec
  have hb := B.bytes
  have hr := B.returns
  have hts := atoms_spec (ws := wsX6_requirePerson) B.pre
  have hown : s.vm.findClass RX6 = some m.cls := findClass_of_methodNamed B.named
  have hlocks := B.notSynchronized
  have S0 : CallFix p_ m c cX6_requirePerson 1 s _ wsX6_requirePerson RX6 := ⟨hx, hb, hml, hown, hts⟩
  have hS : va_S (fun _ => False) s.heap s.heap [] := va_S.rf
  have hg169 : ∀ w ∈ (vx_atS RX6 169 xIOB gNm).filter goodWord, w ∈ wsX6_requirePerson := by decide +kernel
  have hl := lv_entry ([.int x1]) (n := 1) (Nat.le_of_ble_eq_true rfl)
  rw [lg_entry_eq]
  generalize (lg_sl ([.int x1]) ++ List.replicate (1 - (lg_sl ([.int x1])).length) Slot.unset).toArray = ls at hl ⊢
  have hl : lv_has ls 1 [(0, .int x1)] := hl
  refine lv_iload_n hx hb dX6_requirePerson_0 rfl (lv_at hl 0 rfl) ?_
  refine lv_if_lt (tgt := 10) hx hb dX6_requirePerson_1 (by decide) (fun c_1 => ?_) (fun c_1 => ?_)
  · have hkv : (kPerson x1) = 1 := by
      first | with_reducible rfl | (simp only [kPerson, c_1, kT, eq_self, ↓reduceIte, Bool.false_eq_true]; done) | (simp only [kPerson, c_1, kT, eq_self, ↓reduceIte, Bool.false_eq_true]; rfl) | (simp [kT, kPerson, c_1]; done)
    exact g_throwS (K := (kPerson x1)) (text := "no such person") hx hb hfl hown hX (by decide) (hts (.classLink RX6 165 xIOB) (by decide +kernel)) (hts (.initialized xIOB) (by decide +kernel)) (fun w hw => hts w (hg169 w hw)) hng169 hgo169 (List.mem_of_getElem? (i := 6) rfl) (by decide) hS (hl.1.trans hml.symm) (by rw [hkv]; decide) (by rw [hkv]; rfl) dX6_requirePerson_10 dX6_requirePerson_13 dX6_requirePerson_14 dX6_requirePerson_16 dX6_requirePerson_19 hexc hlocks ⟨Nat.le_of_ble_eq_true rfl, Nat.le_of_ble_eq_true rfl, Nat.le_of_ble_eq_true rfl, Nat.le_of_ble_eq_true rfl⟩ ⟨Nat.le_of_ble_eq_true rfl, Nat.le_of_ble_eq_true rfl⟩
  · refine lv_iload_n hx hb dX6_requirePerson_4 rfl (lv_at hl 0 rfl) ?_
    refine lv_bipush (v := nI 6) hx hb dX6_requirePerson_5 (by decide +kernel) ?_
    refine lv_icmp_lt (tgt := 20) hx hb dX6_requirePerson_7 (by decide) (fun c_2 => ?_) (fun c_2 => ?_)
    · have hk0 : (kPerson x1) = 0 := by
        first | with_reducible rfl | (simp only [kPerson, c_1, c_2, kT, eq_self, ↓reduceIte, Bool.false_eq_true]; done) | (simp only [kPerson, c_1, c_2, kT, eq_self, ↓reduceIte, Bool.false_eq_true]; rfl) | (simp [kT, kPerson, c_1, c_2]; done)
      refine W.widen (k := 1) (n := 6) (Nat.le_of_ble_eq_true rfl) (Nat.le_of_ble_eq_true rfl) ?_
      refine vx_ret ?_
      exact W.vret hx hb hr (fun t ht _ => ⟨⟨(), rfl, hk0, ht⟩, hS.F ht⟩) (fun z hz => (hS.2.2 z hz).elim) dX6_requirePerson_20
    · have hkv : (kPerson x1) = 1 := by
        first | with_reducible rfl | (simp only [kPerson, c_1, c_2, kT, eq_self, ↓reduceIte, Bool.false_eq_true]; done) | (simp only [kPerson, c_1, c_2, kT, eq_self, ↓reduceIte, Bool.false_eq_true]; rfl) | (simp [kT, kPerson, c_1, c_2]; done)
      exact g_throwS (K := (kPerson x1)) (text := "no such person") hx hb hfl hown hX (by decide) (hts (.classLink RX6 165 xIOB) (by decide +kernel)) (hts (.initialized xIOB) (by decide +kernel)) (fun w hw => hts w (hg169 w hw)) hng169 hgo169 (List.mem_of_getElem? (i := 6) rfl) (by decide) hS (hl.1.trans hml.symm) (by rw [hkv]; decide) (by rw [hkv]; rfl) dX6_requirePerson_10 dX6_requirePerson_13 dX6_requirePerson_14 dX6_requirePerson_16 dX6_requirePerson_19 hexc hlocks ⟨Nat.le_of_ble_eq_true rfl, Nat.le_of_ble_eq_true rfl, Nat.le_of_ble_eq_true rfl, Nat.le_of_ble_eq_true rfl⟩ ⟨Nat.le_of_ble_eq_true rfl, Nat.le_of_ble_eq_true rfl⟩

set_option maxHeartbeats 4000000 in
set_option maxRecDepth 100000 in
theorem c_X6_requireRing (l : Launch) (hfl : l.stackTraces = false) (G : gG) (H0 : Heap) (x1 : Int32) : gMxv l yX6_requireRing wsX6_requireRing 6 90 1 G H0 [.int x1] (kRing x1) := by
  refine vx_ofW (cc := cX6_requireRing) (maxL := 1) (ret := none) (by decide) rfl ?_
  intro p_ e_ s m args below meth c s₁ B hml hexc hv
  obtain ⟨rfl, rfl, hK, hX⟩ := hv
  have hx := B.exec
  have hb := B.bytes
  have hr := B.returns
  have hts := atoms_spec (ws := wsX6_requireRing) B.pre
  have hown : s.vm.findClass RX6 = some m.cls := findClass_of_methodNamed B.named
  have hlocks := B.notSynchronized
  have S0 : CallFix p_ m c cX6_requireRing 1 s _ wsX6_requireRing RX6 := ⟨hx, hb, hml, hown, hts⟩
  have hS : va_S (fun _ => False) s.heap s.heap [] := va_S.rf
  have hg169 : ∀ w ∈ (vx_atS RX6 169 xIOB gNm).filter goodWord, w ∈ wsX6_requireRing := by decide +kernel
  have hl := lv_entry ([.int x1]) (n := 1) (Nat.le_of_ble_eq_true rfl)
  rw [lg_entry_eq]
  generalize (lg_sl ([.int x1]) ++ List.replicate (1 - (lg_sl ([.int x1])).length) Slot.unset).toArray = ls at hl ⊢
  have hl : lv_has ls 1 [(0, .int x1)] := hl
  refine lv_iload_n hx hb dX6_requireRing_0 rfl (lv_at hl 0 rfl) ?_
  refine lv_if_lt (tgt := 9) hx hb dX6_requireRing_1 (by decide) (fun c_1 => ?_) (fun c_1 => ?_)
  · have hkv : (kRing x1) = 1 := by
      first | with_reducible rfl | (simp only [kRing, c_1, kT, eq_self, ↓reduceIte, Bool.false_eq_true]; done) | (simp only [kRing, c_1, kT, eq_self, ↓reduceIte, Bool.false_eq_true]; rfl) | (simp [kT, kRing, c_1]; done)
    exact g_throwS (K := (kRing x1)) (text := "no such ring") hx hb hfl hown hX (by decide) (hts (.classLink RX6 165 xIOB) (by decide +kernel)) (hts (.initialized xIOB) (by decide +kernel)) (fun w hw => hts w (hg169 w hw)) hng169 hgo169 (List.mem_of_getElem? (i := 11) rfl) (by decide) hS (hl.1.trans hml.symm) (by rw [hkv]; decide) (by rw [hkv]; rfl) dX6_requireRing_9 dX6_requireRing_12 dX6_requireRing_13 dX6_requireRing_15 dX6_requireRing_18 hexc hlocks ⟨Nat.le_of_ble_eq_true rfl, Nat.le_of_ble_eq_true rfl, Nat.le_of_ble_eq_true rfl, Nat.le_of_ble_eq_true rfl⟩ ⟨Nat.le_of_ble_eq_true rfl, Nat.le_of_ble_eq_true rfl⟩
  · refine lv_iload_n hx hb dX6_requireRing_4 rfl (lv_at hl 0 rfl) ?_
    refine lv_iconst (v := nI 4) hx hb dX6_requireRing_5 (by decide +kernel) ?_
    refine lv_icmp_lt (tgt := 19) hx hb dX6_requireRing_6 (by decide) (fun c_2 => ?_) (fun c_2 => ?_)
    · have hk0 : (kRing x1) = 0 := by
        first | with_reducible rfl | (simp only [kRing, c_1, c_2, kT, eq_self, ↓reduceIte, Bool.false_eq_true]; done) | (simp only [kRing, c_1, c_2, kT, eq_self, ↓reduceIte, Bool.false_eq_true]; rfl) | (simp [kT, kRing, c_1, c_2]; done)
      refine W.widen (k := 1) (n := 6) (Nat.le_of_ble_eq_true rfl) (Nat.le_of_ble_eq_true rfl) ?_
      refine vx_ret ?_
      exact W.vret hx hb hr (fun t ht _ => ⟨⟨(), rfl, hk0, ht⟩, hS.F ht⟩) (fun z hz => (hS.2.2 z hz).elim) dX6_requireRing_19
    · have hkv : (kRing x1) = 1 := by
        first | with_reducible rfl | (simp only [kRing, c_1, c_2, kT, eq_self, ↓reduceIte, Bool.false_eq_true]; done) | (simp only [kRing, c_1, c_2, kT, eq_self, ↓reduceIte, Bool.false_eq_true]; rfl) | (simp [kT, kRing, c_1, c_2]; done)
      exact g_throwS (K := (kRing x1)) (text := "no such ring") hx hb hfl hown hX (by decide) (hts (.classLink RX6 165 xIOB) (by decide +kernel)) (hts (.initialized xIOB) (by decide +kernel)) (fun w hw => hts w (hg169 w hw)) hng169 hgo169 (List.mem_of_getElem? (i := 11) rfl) (by decide) hS (hl.1.trans hml.symm) (by rw [hkv]; decide) (by rw [hkv]; rfl) dX6_requireRing_9 dX6_requireRing_12 dX6_requireRing_13 dX6_requireRing_15 dX6_requireRing_18 hexc hlocks ⟨Nat.le_of_ble_eq_true rfl, Nat.le_of_ble_eq_true rfl, Nat.le_of_ble_eq_true rfl, Nat.le_of_ble_eq_true rfl⟩ ⟨Nat.le_of_ble_eq_true rfl, Nat.le_of_ble_eq_true rfl⟩

set_option maxHeartbeats 4000000 in
set_option maxRecDepth 100000 in
theorem c_X6_requireSwitch (l : Launch) (hfl : l.stackTraces = false) (G : gG) (H0 : Heap) (x1 : Int32) : gMxv l yX6_requireSwitch wsX6_requireSwitch 6 90 1 G H0 [.int x1] (kSwitch x1) := by
  refine vx_ofW (cc := cX6_requireSwitch) (maxL := 1) (ret := none) (by decide) rfl ?_
  intro p_ e_ s m args below meth c s₁ B hml hexc hv
  obtain ⟨rfl, rfl, hK, hX⟩ := hv
  have hx := B.exec
  have hb := B.bytes
  have hr := B.returns
  have hts := atoms_spec (ws := wsX6_requireSwitch) B.pre
  have hown : s.vm.findClass RX6 = some m.cls := findClass_of_methodNamed B.named
  have hlocks := B.notSynchronized
  have S0 : CallFix p_ m c cX6_requireSwitch 1 s _ wsX6_requireSwitch RX6 := ⟨hx, hb, hml, hown, hts⟩
  have hS : va_S (fun _ => False) s.heap s.heap [] := va_S.rf
  have hg169 : ∀ w ∈ (vx_atS RX6 169 xIOB gNm).filter goodWord, w ∈ wsX6_requireSwitch := by decide +kernel
  have hl := lv_entry ([.int x1]) (n := 1) (Nat.le_of_ble_eq_true rfl)
  rw [lg_entry_eq]
  generalize (lg_sl ([.int x1]) ++ List.replicate (1 - (lg_sl ([.int x1])).length) Slot.unset).toArray = ls at hl ⊢
  have hl : lv_has ls 1 [(0, .int x1)] := hl
  refine lv_iload_n hx hb dX6_requireSwitch_0 rfl (lv_at hl 0 rfl) ?_
  refine g_callC (W.runS (As := [.int x1]) (rest := []) S0 (c_X6_isSwitch l G _ x1) (va_cwS 1 hts gX6_requireSwitch_X6_isSwitch rfl rfl rfl (by decide +kernel) ⟨Nat.le_of_ble_eq_true rfl, Nat.le_of_ble_eq_true rfl⟩) (g_preS hK) rfl rfl hl.1 rfl (lv_room (Nat.le_of_ble_eq_true rfl)) dX6_requireSwitch_1 ⟨Nat.le_of_ble_eq_true rfl, Nat.le_of_ble_eq_true rfl⟩) ?_
  refine lv_if_ne (tgt := 17) hx hb dX6_requireSwitch_4 (by decide) (fun c_1 => ?_) (fun c_1 => ?_)
  · have c_1 := b2i_t c_1
    have hk0 : (kSwitch x1) = 0 := by
      first | with_reducible rfl | (simp only [kSwitch, c_1, kT, eq_self, ↓reduceIte, Bool.false_eq_true]; done) | (simp only [kSwitch, c_1, kT, eq_self, ↓reduceIte, Bool.false_eq_true]; rfl) | (simp [kT, kSwitch, c_1]; done)
    refine W.widen (k := 1) (n := 6) (Nat.le_of_ble_eq_true rfl) (Nat.le_of_ble_eq_true rfl) ?_
    refine vx_ret ?_
    exact W.vret hx hb hr (fun t ht _ => ⟨⟨(), rfl, hk0, ht⟩, hS.F ht⟩) (fun z hz => (hS.2.2 z hz).elim) dX6_requireSwitch_17
  · have c_1 := b2i_f c_1
    have hkv : (kSwitch x1) = 1 := by
      first | with_reducible rfl | (simp only [kSwitch, c_1, kT, eq_self, ↓reduceIte, Bool.false_eq_true]; done) | (simp only [kSwitch, c_1, kT, eq_self, ↓reduceIte, Bool.false_eq_true]; rfl) | (simp [kT, kSwitch, c_1]; done)
    exact g_throwS (K := (kSwitch x1)) (text := "no such switch") hx hb hfl hown hX (by decide) (hts (.classLink RX6 165 xIOB) (by decide +kernel)) (hts (.initialized xIOB) (by decide +kernel)) (fun w hw => hts w (hg169 w hw)) hng169 hgo169 (List.mem_of_getElem? (i := 2) rfl) (by decide) hS (hl.1.trans hml.symm) (by rw [hkv]; decide) (by rw [hkv]; rfl) dX6_requireSwitch_7 dX6_requireSwitch_10 dX6_requireSwitch_11 dX6_requireSwitch_13 dX6_requireSwitch_16 hexc hlocks ⟨Nat.le_of_ble_eq_true rfl, Nat.le_of_ble_eq_true rfl, Nat.le_of_ble_eq_true rfl, Nat.le_of_ble_eq_true rfl⟩ ⟨Nat.le_of_ble_eq_true rfl, Nat.le_of_ble_eq_true rfl⟩

set_option maxHeartbeats 4000000 in
set_option maxRecDepth 100000 in
theorem c_X6_requireVersion (l : Launch) (hfl : l.stackTraces = false) (G : gG) (H0 : Heap) (z : Nat → Nat) (r : Nat → Nat → Int32) (f : Nat → Int32) (hP : va_P G.1 vwCl (wRF G z r f) H0) (x1 : Int32) : gMxv l yX6_requireVersion wsX6_requireVersion 6 90 1 G H0 [.ref (z 0), .int x1] (kBelow (f 0) x1) := by
  refine vx_ofW (cc := cX6_requireVersion) (maxL := 2) (ret := none) (by decide) rfl ?_
  intro p_ e_ s m args below meth c s₁ B hml hexc hv
  obtain ⟨rfl, rfl, hK, hX⟩ := hv
  have hx := B.exec
  have hb := B.bytes
  have hr := B.returns
  have hts := atoms_spec (ws := wsX6_requireVersion) B.pre
  have hown : s.vm.findClass RX6 = some m.cls := findClass_of_methodNamed B.named
  have hlocks := B.notSynchronized
  have hinX6 : ∀ w ∈ wsX60, w ∈ wsX6_requireVersion := by decide +kernel
  have S0 : CallFix p_ m c cX6_requireVersion 2 s _ wsX6_requireVersion RX6 := ⟨hx, hb, hml, hown, hts⟩
  have hS : va_S (fun _ => False) s.heap s.heap [] := va_S.rf
  have hg169 : ∀ w ∈ (vx_atS RX6 169 xIOB gNm).filter goodWord, w ∈ wsX6_requireVersion := by decide +kernel
  have hl := lv_entry ([.ref (z 0), .int x1]) (n := 2) (Nat.le_of_ble_eq_true rfl)
  rw [lg_entry_eq]
  generalize (lg_sl ([.ref (z 0), .int x1]) ++ List.replicate (2 - (lg_sl ([.ref (z 0), .int x1])).length) Slot.unset).toArray = ls at hl ⊢
  have hl : lv_has ls 2 [(0, .ref (z 0)), (1, .int x1)] := hl
  refine lv_iload_n hx hb dX6_requireVersion_0 rfl (lv_at hl 1 rfl) ?_
  refine lv_if_lt (tgt := 12) hx hb dX6_requireVersion_1 (by decide) (fun c_1 => ?_) (fun c_1 => ?_)
  · have hkv : (kBelow (f 0) x1) = 1 := by
      first | with_reducible rfl | (simp only [kBelow, c_1, kT, eq_self, ↓reduceIte, Bool.false_eq_true]; done) | (simp only [kBelow, c_1, kT, eq_self, ↓reduceIte, Bool.false_eq_true]; rfl) | (simp [kT, kBelow, c_1]; done)
    exact g_throwS (K := (kBelow (f 0) x1)) (text := "no such version") hx hb hfl hown hX (by decide) (hts (.classLink RX6 165 xIOB) (by decide +kernel)) (hts (.initialized xIOB) (by decide +kernel)) (fun w hw => hts w (hg169 w hw)) hng169 hgo169 (List.mem_of_getElem? (i := 1) rfl) (by decide) hS (hl.1.trans hml.symm) (by rw [hkv]; decide) (by rw [hkv]; rfl) dX6_requireVersion_12 dX6_requireVersion_15 dX6_requireVersion_16 dX6_requireVersion_18 dX6_requireVersion_21 hexc hlocks ⟨Nat.le_of_ble_eq_true rfl, Nat.le_of_ble_eq_true rfl, Nat.le_of_ble_eq_true rfl, Nat.le_of_ble_eq_true rfl⟩ ⟨Nat.le_of_ble_eq_true rfl, Nat.le_of_ble_eq_true rfl⟩
  · refine lv_iload_n hx hb dX6_requireVersion_4 rfl (lv_at hl 1 rfl) ?_
    refine lv_aload_n hx hb dX6_requireVersion_5 rfl (lv_at hl 0 rfl) ?_
    refine va_get (D := G.1) (ci := 6) (v := .int (f 0)) (C := RX6) (T := TX6) (N := 7) hx hb hts hinX6 hown hK.1 hP 0 rfl rfl 5 (by decide) (hts (.fieldLink RX6 44 "Rotaforge" "built" "I") (by decide +kernel)) (fun _ h9 => h9) rfl dX6_requireVersion_6 ?_
    refine lv_icmp_lt (tgt := 22) hx hb dX6_requireVersion_9 (by decide) (fun c_2 => ?_) (fun c_2 => ?_)
    · have hk0 : (kBelow (f 0) x1) = 0 := by
        first | with_reducible rfl | (simp only [kBelow, c_1, c_2, kT, eq_self, ↓reduceIte, Bool.false_eq_true]; done) | (simp only [kBelow, c_1, c_2, kT, eq_self, ↓reduceIte, Bool.false_eq_true]; rfl) | (simp [kT, kBelow, c_1, c_2]; done)
      refine W.widen (k := 1) (n := 6) (Nat.le_of_ble_eq_true rfl) (Nat.le_of_ble_eq_true rfl) ?_
      refine vx_ret ?_
      exact W.vret hx hb hr (fun t ht _ => ⟨⟨(), rfl, hk0, ht⟩, hS.F ht⟩) (fun z hz => (hS.2.2 z hz).elim) dX6_requireVersion_22
    · have hkv : (kBelow (f 0) x1) = 1 := by
        first | with_reducible rfl | (simp only [kBelow, c_1, c_2, kT, eq_self, ↓reduceIte, Bool.false_eq_true]; done) | (simp only [kBelow, c_1, c_2, kT, eq_self, ↓reduceIte, Bool.false_eq_true]; rfl) | (simp [kT, kBelow, c_1, c_2]; done)
      exact g_throwS (K := (kBelow (f 0) x1)) (text := "no such version") hx hb hfl hown hX (by decide) (hts (.classLink RX6 165 xIOB) (by decide +kernel)) (hts (.initialized xIOB) (by decide +kernel)) (fun w hw => hts w (hg169 w hw)) hng169 hgo169 (List.mem_of_getElem? (i := 1) rfl) (by decide) hS (hl.1.trans hml.symm) (by rw [hkv]; decide) (by rw [hkv]; rfl) dX6_requireVersion_12 dX6_requireVersion_15 dX6_requireVersion_16 dX6_requireVersion_18 dX6_requireVersion_21 hexc hlocks ⟨Nat.le_of_ble_eq_true rfl, Nat.le_of_ble_eq_true rfl, Nat.le_of_ble_eq_true rfl, Nat.le_of_ble_eq_true rfl⟩ ⟨Nat.le_of_ble_eq_true rfl, Nat.le_of_ble_eq_true rfl⟩

set_option maxHeartbeats 4000000 in
set_option maxRecDepth 100000 in
theorem c_X6_requireChange (l : Launch) (hfl : l.stackTraces = false) (G : gG) (H0 : Heap) (z : Nat → Nat) (r : Nat → Nat → Int32) (f : Nat → Int32) (hP : va_P G.1 vwCl (wRF G z r f) H0) (x1 : Int32) : gMxv l yX6_requireChange wsX6_requireChange 6 90 1 G H0 [.ref (z 0), .int x1] (kBelow (f 3) x1) := by
  refine vx_ofW (cc := cX6_requireChange) (maxL := 2) (ret := none) (by decide) rfl ?_
  intro p_ e_ s m args below meth c s₁ B hml hexc hv
  obtain ⟨rfl, rfl, hK, hX⟩ := hv
  have hx := B.exec
  have hb := B.bytes
  have hr := B.returns
  have hts := atoms_spec (ws := wsX6_requireChange) B.pre
  have hown : s.vm.findClass RX6 = some m.cls := findClass_of_methodNamed B.named
  have hlocks := B.notSynchronized
  have hinX6 : ∀ w ∈ wsX60, w ∈ wsX6_requireChange := by decide +kernel
  have S0 : CallFix p_ m c cX6_requireChange 2 s _ wsX6_requireChange RX6 := ⟨hx, hb, hml, hown, hts⟩
  have hS : va_S (fun _ => False) s.heap s.heap [] := va_S.rf
  have hg169 : ∀ w ∈ (vx_atS RX6 169 xIOB gNm).filter goodWord, w ∈ wsX6_requireChange := by decide +kernel
  have hl := lv_entry ([.ref (z 0), .int x1]) (n := 2) (Nat.le_of_ble_eq_true rfl)
  rw [lg_entry_eq]
  generalize (lg_sl ([.ref (z 0), .int x1]) ++ List.replicate (2 - (lg_sl ([.ref (z 0), .int x1])).length) Slot.unset).toArray = ls at hl ⊢
  have hl : lv_has ls 2 [(0, .ref (z 0)), (1, .int x1)] := hl
  refine lv_iload_n hx hb dX6_requireChange_0 rfl (lv_at hl 1 rfl) ?_
  refine lv_if_lt (tgt := 15) hx hb dX6_requireChange_1 (by decide) (fun c_1 => ?_) (fun c_1 => ?_)
  · have hkv : (kBelow (f 3) x1) = 1 := by
      first | with_reducible rfl | (simp only [kBelow, c_1, kT, eq_self, ↓reduceIte, Bool.false_eq_true]; done) | (simp only [kBelow, c_1, kT, eq_self, ↓reduceIte, Bool.false_eq_true]; rfl) | (simp [kT, kBelow, c_1]; done)
    exact g_throwS (K := (kBelow (f 3) x1)) (text := "no such change") hx hb hfl hown hX (by decide) (hts (.classLink RX6 165 xIOB) (by decide +kernel)) (hts (.initialized xIOB) (by decide +kernel)) (fun w hw => hts w (hg169 w hw)) hng169 hgo169 (List.mem_of_getElem? (i := 14) rfl) (by decide) hS (hl.1.trans hml.symm) (by rw [hkv]; decide) (by rw [hkv]; rfl) dX6_requireChange_15 dX6_requireChange_18 dX6_requireChange_19 dX6_requireChange_21 dX6_requireChange_24 hexc hlocks ⟨Nat.le_of_ble_eq_true rfl, Nat.le_of_ble_eq_true rfl, Nat.le_of_ble_eq_true rfl, Nat.le_of_ble_eq_true rfl⟩ ⟨Nat.le_of_ble_eq_true rfl, Nat.le_of_ble_eq_true rfl⟩
  · refine lv_iload_n hx hb dX6_requireChange_4 rfl (lv_at hl 1 rfl) ?_
    refine lv_aload_n hx hb dX6_requireChange_5 rfl (lv_at hl 0 rfl) ?_
    refine va_get (D := G.1) (ci := 6) (v := .ref (z 3)) (C := RX6) (T := TX6) (N := 7) hx hb hts hinX6 hown hK.1 hP 0 rfl rfl 2 (by decide) (hts (.fieldLink RX6 26 "Rotaforge" "changeLog" "LRotaforge$ChangeLog;") (by decide +kernel)) (fun _ h9 => h9) rfl dX6_requireChange_6 ?_
    refine g_callC (W.runV (C := RX0) (As := []) (rest := [.int x1]) S0 (c_X0_total l G _ z r f hP) (cwV 0 hts gX6_requireChange_X0_total rfl rfl rfl (by decide +kernel) ⟨Nat.le_of_ble_eq_true rfl, Nat.le_of_ble_eq_true rfl⟩) (g_preV hK hP (q0 := 3) (ci := 0) (q := (RX0, TX0, 7)) rfl rfl) rfl rfl hl.1 rfl (lv_room (Nat.le_of_ble_eq_true rfl)) dX6_requireChange_9 ⟨Nat.le_of_ble_eq_true rfl, Nat.le_of_ble_eq_true rfl⟩) ?_
    refine lv_icmp_lt (tgt := 25) hx hb dX6_requireChange_12 (by decide) (fun c_2 => ?_) (fun c_2 => ?_)
    · have hk0 : (kBelow (f 3) x1) = 0 := by
        first | with_reducible rfl | (simp only [kBelow, c_1, c_2, kT, eq_self, ↓reduceIte, Bool.false_eq_true]; done) | (simp only [kBelow, c_1, c_2, kT, eq_self, ↓reduceIte, Bool.false_eq_true]; rfl) | (simp [kT, kBelow, c_1, c_2]; done)
      refine W.widen (k := 1) (n := 6) (Nat.le_of_ble_eq_true rfl) (Nat.le_of_ble_eq_true rfl) ?_
      refine vx_ret ?_
      exact W.vret hx hb hr (fun t ht _ => ⟨⟨(), rfl, hk0, ht⟩, hS.F ht⟩) (fun z hz => (hS.2.2 z hz).elim) dX6_requireChange_25
    · have hkv : (kBelow (f 3) x1) = 1 := by
        first | with_reducible rfl | (simp only [kBelow, c_1, c_2, kT, eq_self, ↓reduceIte, Bool.false_eq_true]; done) | (simp only [kBelow, c_1, c_2, kT, eq_self, ↓reduceIte, Bool.false_eq_true]; rfl) | (simp [kT, kBelow, c_1, c_2]; done)
      exact g_throwS (K := (kBelow (f 3) x1)) (text := "no such change") hx hb hfl hown hX (by decide) (hts (.classLink RX6 165 xIOB) (by decide +kernel)) (hts (.initialized xIOB) (by decide +kernel)) (fun w hw => hts w (hg169 w hw)) hng169 hgo169 (List.mem_of_getElem? (i := 14) rfl) (by decide) hS (hl.1.trans hml.symm) (by rw [hkv]; decide) (by rw [hkv]; rfl) dX6_requireChange_15 dX6_requireChange_18 dX6_requireChange_19 dX6_requireChange_21 dX6_requireChange_24 hexc hlocks ⟨Nat.le_of_ble_eq_true rfl, Nat.le_of_ble_eq_true rfl, Nat.le_of_ble_eq_true rfl, Nat.le_of_ble_eq_true rfl⟩ ⟨Nat.le_of_ble_eq_true rfl, Nat.le_of_ble_eq_true rfl⟩

set_option maxHeartbeats 4000000 in
set_option maxRecDepth 100000 in
theorem c_X6_requireIncident (l : Launch) (hfl : l.stackTraces = false) (G : gG) (H0 : Heap) (z : Nat → Nat) (r : Nat → Nat → Int32) (f : Nat → Int32) (hP : va_P G.1 vwCl (wRF G z r f) H0) (x1 : Int32) : gMxv l yX6_requireIncident wsX6_requireIncident 6 90 1 G H0 [.ref (z 0), .int x1] (kBelow (f 4) x1) := by
  refine vx_ofW (cc := cX6_requireIncident) (maxL := 2) (ret := none) (by decide) rfl ?_
  intro p_ e_ s m args below meth c s₁ B hml hexc hv
  obtain ⟨rfl, rfl, hK, hX⟩ := hv
  have hx := B.exec
  have hb := B.bytes
  have hr := B.returns
  have hts := atoms_spec (ws := wsX6_requireIncident) B.pre
  have hown : s.vm.findClass RX6 = some m.cls := findClass_of_methodNamed B.named
  have hlocks := B.notSynchronized
  have hinX6 : ∀ w ∈ wsX60, w ∈ wsX6_requireIncident := by decide +kernel
  have S0 : CallFix p_ m c cX6_requireIncident 2 s _ wsX6_requireIncident RX6 := ⟨hx, hb, hml, hown, hts⟩
  have hS : va_S (fun _ => False) s.heap s.heap [] := va_S.rf
  have hg169 : ∀ w ∈ (vx_atS RX6 169 xIOB gNm).filter goodWord, w ∈ wsX6_requireIncident := by decide +kernel
  have hl := lv_entry ([.ref (z 0), .int x1]) (n := 2) (Nat.le_of_ble_eq_true rfl)
  rw [lg_entry_eq]
  generalize (lg_sl ([.ref (z 0), .int x1]) ++ List.replicate (2 - (lg_sl ([.ref (z 0), .int x1])).length) Slot.unset).toArray = ls at hl ⊢
  have hl : lv_has ls 2 [(0, .ref (z 0)), (1, .int x1)] := hl
  refine lv_iload_n hx hb dX6_requireIncident_0 rfl (lv_at hl 1 rfl) ?_
  refine lv_if_lt (tgt := 15) hx hb dX6_requireIncident_1 (by decide) (fun c_1 => ?_) (fun c_1 => ?_)
  · have hkv : (kBelow (f 4) x1) = 1 := by
      first | with_reducible rfl | (simp only [kBelow, c_1, kT, eq_self, ↓reduceIte, Bool.false_eq_true]; done) | (simp only [kBelow, c_1, kT, eq_self, ↓reduceIte, Bool.false_eq_true]; rfl) | (simp [kT, kBelow, c_1]; done)
    exact g_throwS (K := (kBelow (f 4) x1)) (text := "no such incident") hx hb hfl hown hX (by decide) (hts (.classLink RX6 165 xIOB) (by decide +kernel)) (hts (.initialized xIOB) (by decide +kernel)) (fun w hw => hts w (hg169 w hw)) hng169 hgo169 (List.mem_of_getElem? (i := 20) rfl) (by decide) hS (hl.1.trans hml.symm) (by rw [hkv]; decide) (by rw [hkv]; rfl) dX6_requireIncident_15 dX6_requireIncident_18 dX6_requireIncident_19 dX6_requireIncident_21 dX6_requireIncident_24 hexc hlocks ⟨Nat.le_of_ble_eq_true rfl, Nat.le_of_ble_eq_true rfl, Nat.le_of_ble_eq_true rfl, Nat.le_of_ble_eq_true rfl⟩ ⟨Nat.le_of_ble_eq_true rfl, Nat.le_of_ble_eq_true rfl⟩
  · refine lv_iload_n hx hb dX6_requireIncident_4 rfl (lv_at hl 1 rfl) ?_
    refine lv_aload_n hx hb dX6_requireIncident_5 rfl (lv_at hl 0 rfl) ?_
    refine va_get (D := G.1) (ci := 6) (v := .ref (z 4)) (C := RX6) (T := TX6) (N := 7) hx hb hts hinX6 hown hK.1 hP 0 rfl rfl 3 (by decide) (hts (.fieldLink RX6 33 "Rotaforge" "incidentLog" "LRotaforge$IncidentLog;") (by decide +kernel)) (fun _ h9 => h9) rfl dX6_requireIncident_6 ?_
    refine g_callC (W.runV (C := RX2) (As := []) (rest := [.int x1]) S0 (c_X2_total l G _ z r f hP) (cwV 0 hts gX6_requireIncident_X2_total rfl rfl rfl (by decide +kernel) ⟨Nat.le_of_ble_eq_true rfl, Nat.le_of_ble_eq_true rfl⟩) (g_preV hK hP (q0 := 4) (ci := 2) (q := (RX2, TX2, 7)) rfl rfl) rfl rfl hl.1 rfl (lv_room (Nat.le_of_ble_eq_true rfl)) dX6_requireIncident_9 ⟨Nat.le_of_ble_eq_true rfl, Nat.le_of_ble_eq_true rfl⟩) ?_
    refine lv_icmp_lt (tgt := 25) hx hb dX6_requireIncident_12 (by decide) (fun c_2 => ?_) (fun c_2 => ?_)
    · have hk0 : (kBelow (f 4) x1) = 0 := by
        first | with_reducible rfl | (simp only [kBelow, c_1, c_2, kT, eq_self, ↓reduceIte, Bool.false_eq_true]; done) | (simp only [kBelow, c_1, c_2, kT, eq_self, ↓reduceIte, Bool.false_eq_true]; rfl) | (simp [kT, kBelow, c_1, c_2]; done)
      refine W.widen (k := 1) (n := 6) (Nat.le_of_ble_eq_true rfl) (Nat.le_of_ble_eq_true rfl) ?_
      refine vx_ret ?_
      exact W.vret hx hb hr (fun t ht _ => ⟨⟨(), rfl, hk0, ht⟩, hS.F ht⟩) (fun z hz => (hS.2.2 z hz).elim) dX6_requireIncident_25
    · have hkv : (kBelow (f 4) x1) = 1 := by
        first | with_reducible rfl | (simp only [kBelow, c_1, c_2, kT, eq_self, ↓reduceIte, Bool.false_eq_true]; done) | (simp only [kBelow, c_1, c_2, kT, eq_self, ↓reduceIte, Bool.false_eq_true]; rfl) | (simp [kT, kBelow, c_1, c_2]; done)
      exact g_throwS (K := (kBelow (f 4) x1)) (text := "no such incident") hx hb hfl hown hX (by decide) (hts (.classLink RX6 165 xIOB) (by decide +kernel)) (hts (.initialized xIOB) (by decide +kernel)) (fun w hw => hts w (hg169 w hw)) hng169 hgo169 (List.mem_of_getElem? (i := 20) rfl) (by decide) hS (hl.1.trans hml.symm) (by rw [hkv]; decide) (by rw [hkv]; rfl) dX6_requireIncident_15 dX6_requireIncident_18 dX6_requireIncident_19 dX6_requireIncident_21 dX6_requireIncident_24 hexc hlocks ⟨Nat.le_of_ble_eq_true rfl, Nat.le_of_ble_eq_true rfl, Nat.le_of_ble_eq_true rfl, Nat.le_of_ble_eq_true rfl⟩ ⟨Nat.le_of_ble_eq_true rfl, Nat.le_of_ble_eq_true rfl⟩

set_option maxHeartbeats 4000000 in
set_option maxRecDepth 100000 in
theorem c_X6_requireCanChange (l : Launch) (hfl : l.stackTraces = false) (G : gG) (H0 : Heap) (z : Nat → Nat) (r : Nat → Nat → Int32) (f : Nat → Int32) (hP : va_P G.1 vwCl (wRF G z r f) H0) (x1 : Int32) : gMxv l yX6_requireCanChange wsX6_requireCanChange 6 90 1 G H0 [.ref (z 0), .int x1] (kCan r f x1) := by
  refine vx_ofW (cc := cX6_requireCanChange) (maxL := 2) (ret := none) (by decide) rfl ?_
  intro p_ e_ s m args below meth c s₁ B hml hexc hv
  obtain ⟨rfl, rfl, hK, hX⟩ := hv
  have hx := B.exec
  have hb := B.bytes
  have hr := B.returns
  have hts := atoms_spec (ws := wsX6_requireCanChange) B.pre
  have hown : s.vm.findClass RX6 = some m.cls := findClass_of_methodNamed B.named
  have hlocks := B.notSynchronized
  have hinX6 : ∀ w ∈ wsX60, w ∈ wsX6_requireCanChange := by decide +kernel
  have S0 : CallFix p_ m c cX6_requireCanChange 2 s _ wsX6_requireCanChange RX6 := ⟨hx, hb, hml, hown, hts⟩
  have hS : va_S (fun _ => False) s.heap s.heap [] := va_S.rf
  have hg55 : ∀ w ∈ (vx_atS RX6 55 xISE gNm).filter goodWord, w ∈ wsX6_requireCanChange := by decide +kernel
  have hl := lv_entry ([.ref (z 0), .int x1]) (n := 2) (Nat.le_of_ble_eq_true rfl)
  rw [lg_entry_eq]
  generalize (lg_sl ([.ref (z 0), .int x1]) ++ List.replicate (2 - (lg_sl ([.ref (z 0), .int x1])).length) Slot.unset).toArray = ls at hl ⊢
  have hl : lv_has ls 2 [(0, .ref (z 0)), (1, .int x1)] := hl
  refine lv_aload_n hx hb dX6_requireCanChange_0 rfl (lv_at hl 0 rfl) ?_
  refine va_get (D := G.1) (ci := 6) (v := .ref (z 5)) (C := RX6) (T := TX6) (N := 7) hx hb hts hinX6 hown hK.1 hP 0 rfl rfl 4 (by decide) (hts (.fieldLink RX6 40 "Rotaforge" "rota" "LRotaforge$Rota;") (by decide +kernel)) (fun _ h9 => h9) rfl dX6_requireCanChange_1 ?_
  refine lv_iload_n hx hb dX6_requireCanChange_4 rfl (lv_at hl 1 rfl) ?_
  refine lv_aload_n hx hb dX6_requireCanChange_5 rfl (lv_at hl 0 rfl) ?_
  refine va_get (D := G.1) (ci := 6) (v := .int (f 1)) (C := RX6) (T := TX6) (N := 7) hx hb hts hinX6 hown hK.1 hP 0 rfl rfl 6 (by decide) (hts (.fieldLink RX6 48 "Rotaforge" "now" "I") (by decide +kernel)) (fun _ h9 => h9) rfl dX6_requireCanChange_6 ?_
  refine g_callC (W.runV (C := RX4) (As := [.int x1, .int (f 1)]) (rest := []) S0 (c_X4_isResting l G _ z r f hP x1 (f 1)) (cwV 2 hts gX6_requireCanChange_X4_isResting rfl rfl rfl (by decide +kernel) ⟨Nat.le_of_ble_eq_true rfl, Nat.le_of_ble_eq_true rfl⟩) (g_preV hK hP (q0 := 5) (ci := 4) (q := (RX4, TX4, 6)) rfl rfl) rfl rfl hl.1 rfl (lv_room (Nat.le_of_ble_eq_true rfl)) dX6_requireCanChange_9 ⟨Nat.le_of_ble_eq_true rfl, Nat.le_of_ble_eq_true rfl⟩) ?_
  refine lv_if_eq (tgt := 25) hx hb dX6_requireCanChange_12 (by decide) (fun c_1 => ?_) (fun c_1 => ?_)
  · have c_1 := b2i_f c_1
    refine lv_aload_n hx hb dX6_requireCanChange_25 rfl (lv_at hl 0 rfl) ?_
    refine va_get (D := G.1) (ci := 6) (v := .ref (z 3)) (C := RX6) (T := TX6) (N := 7) hx hb hts hinX6 hown hK.1 hP 0 rfl rfl 2 (by decide) (hts (.fieldLink RX6 26 "Rotaforge" "changeLog" "LRotaforge$ChangeLog;") (by decide +kernel)) (fun _ h9 => h9) rfl dX6_requireCanChange_26 ?_
    refine g_callC (W.runV (C := RX0) (As := []) (rest := []) S0 (c_X0_total l G _ z r f hP) (cwV 0 hts gX6_requireCanChange_X0_total rfl rfl rfl (by decide +kernel) ⟨Nat.le_of_ble_eq_true rfl, Nat.le_of_ble_eq_true rfl⟩) (g_preV hK hP (q0 := 3) (ci := 0) (q := (RX0, TX0, 7)) rfl rfl) rfl rfl hl.1 rfl (lv_room (Nat.le_of_ble_eq_true rfl)) dX6_requireCanChange_29 ⟨Nat.le_of_ble_eq_true rfl, Nat.le_of_ble_eq_true rfl⟩) ?_
    refine lv_sipush (v := nI 200) hx hb dX6_requireCanChange_32 (by decide +kernel) ?_
    refine lv_icmp_lt (tgt := 49) hx hb dX6_requireCanChange_35 (by decide) (fun c_2 => ?_) (fun c_2 => ?_)
    · have hk0 : (kCan r f x1) = 0 := by
        first | with_reducible rfl | (simp only [kCan, c_1, c_2, kT, eq_self, ↓reduceIte, Bool.false_eq_true]; done) | (simp only [kCan, c_1, c_2, kT, eq_self, ↓reduceIte, Bool.false_eq_true]; rfl) | (simp [kT, kCan, c_1, c_2]; done)
      refine W.widen (k := 1) (n := 6) (Nat.le_of_ble_eq_true rfl) (Nat.le_of_ble_eq_true rfl) ?_
      refine vx_ret ?_
      exact W.vret hx hb hr (fun t ht _ => ⟨⟨(), rfl, hk0, ht⟩, hS.F ht⟩) (fun z hz => (hS.2.2 z hz).elim) dX6_requireCanChange_49
    · have hkv : (kCan r f x1) = 3 := by
        first | with_reducible rfl | (simp only [kCan, c_1, c_2, kT, eq_self, ↓reduceIte, Bool.false_eq_true]; done) | (simp only [kCan, c_1, c_2, kT, eq_self, ↓reduceIte, Bool.false_eq_true]; rfl) | (simp [kT, kCan, c_1, c_2]; done)
      exact g_throwSW (K := (kCan r f x1)) (text := "there are 200 changes") hx hb hfl hown hX (by decide) (hts (.classLink RX6 51 xISE) (by decide +kernel)) (hts (.initialized xISE) (by decide +kernel)) (fun w hw => hts w (hg55 w hw)) hng55 hgo55 (List.mem_of_getElem? (i := 9) rfl) (by decide) hS (hl.1.trans hml.symm) (by rw [hkv]; decide) (by rw [hkv]; rfl) dX6_requireCanChange_38 dX6_requireCanChange_41 dX6_requireCanChange_42 dX6_requireCanChange_45 dX6_requireCanChange_48 hexc hlocks ⟨Nat.le_of_ble_eq_true rfl, Nat.le_of_ble_eq_true rfl, Nat.le_of_ble_eq_true rfl, Nat.le_of_ble_eq_true rfl⟩ ⟨Nat.le_of_ble_eq_true rfl, Nat.le_of_ble_eq_true rfl⟩
  · have c_1 := b2i_t c_1
    have hkv : (kCan r f x1) = 3 := by
      first | with_reducible rfl | (simp only [kCan, c_1, kT, eq_self, ↓reduceIte, Bool.false_eq_true]; done) | (simp only [kCan, c_1, kT, eq_self, ↓reduceIte, Bool.false_eq_true]; rfl) | (simp [kT, kCan, c_1]; done)
    exact g_throwS (K := (kCan r f x1)) (text := "the person rests") hx hb hfl hown hX (by decide) (hts (.classLink RX6 51 xISE) (by decide +kernel)) (hts (.initialized xISE) (by decide +kernel)) (fun w hw => hts w (hg55 w hw)) hng55 hgo55 (List.mem_of_getElem? (i := 8) rfl) (by decide) hS (hl.1.trans hml.symm) (by rw [hkv]; decide) (by rw [hkv]; rfl) dX6_requireCanChange_15 dX6_requireCanChange_18 dX6_requireCanChange_19 dX6_requireCanChange_21 dX6_requireCanChange_24 hexc hlocks ⟨Nat.le_of_ble_eq_true rfl, Nat.le_of_ble_eq_true rfl, Nat.le_of_ble_eq_true rfl, Nat.le_of_ble_eq_true rfl⟩ ⟨Nat.le_of_ble_eq_true rfl, Nat.le_of_ble_eq_true rfl⟩

set_option maxHeartbeats 4000000 in
set_option maxRecDepth 100000 in
theorem c_X6_holder (l : Launch) (hfl : l.stackTraces = false) (G : gG) (H0 : Heap) (z : Nat → Nat) (r : Nat → Nat → Int32) (f : Nat → Int32) (hP : va_P G.1 vwCl (wRF G z r f) H0) (x1 : Int32) : gMxr l yX6_holder wsX6_holder 6 90 1 G H0 [.ref (z 0), .int x1] (kHolder f x1) (rAt 42 (r 17) x1) := by
  refine vx_ofW (cc := cX6_holder) (maxL := 2) (ret := (some .int)) (by decide) rfl ?_
  intro p_ e_ s m args below meth c s₁ B hml hexc hv
  obtain ⟨rfl, rfl, hK, hX⟩ := hv
  have hx := B.exec
  have hb := B.bytes
  have hr := B.returns
  have hts := atoms_spec (ws := wsX6_holder) B.pre
  have hown : s.vm.findClass RX6 = some m.cls := findClass_of_methodNamed B.named
  have hlocks := B.notSynchronized
  have hinX6 : ∀ w ∈ wsX60, w ∈ wsX6_holder := by decide +kernel
  have S0 : CallFix p_ m c cX6_holder 2 s _ wsX6_holder RX6 := ⟨hx, hb, hml, hown, hts⟩
  have hS : va_S (fun _ => False) s.heap s.heap [] := va_S.rf
  have hg169 : ∀ w ∈ (vx_atS RX6 169 xIOB gNm).filter goodWord, w ∈ wsX6_holder := by decide +kernel
  have hl := lv_entry ([.ref (z 0), .int x1]) (n := 2) (Nat.le_of_ble_eq_true rfl)
  rw [lg_entry_eq]
  generalize (lg_sl ([.ref (z 0), .int x1]) ++ List.replicate (2 - (lg_sl ([.ref (z 0), .int x1])).length) Slot.unset).toArray = ls at hl ⊢
  have hl : lv_has ls 2 [(0, .ref (z 0)), (1, .int x1)] := hl
  refine lv_iload_n hx hb dX6_holder_0 rfl (lv_at hl 1 rfl) ?_
  refine lv_if_lt (tgt := 14) hx hb dX6_holder_1 (by decide) (fun c_1 => ?_) (fun c_1 => ?_)
  · have hkv : (kHolder f x1) = 1 := by
      first | with_reducible rfl | (simp only [kHolder, c_1, kT, eq_self, ↓reduceIte, Bool.false_eq_true]; done) | (simp only [kHolder, c_1, kT, eq_self, ↓reduceIte, Bool.false_eq_true]; rfl) | (simp [kT, kHolder, c_1]; done)
    exact g_throwS (K := (kHolder f x1)) (text := "no holder is known of such a week") hx hb hfl hown hX (by decide) (hts (.classLink RX6 165 xIOB) (by decide +kernel)) (hts (.initialized xIOB) (by decide +kernel)) (fun w hw => hts w (hg169 w hw)) hng169 hgo169 (List.mem_of_getElem? (i := 19) rfl) (by decide) hS (hl.1.trans hml.symm) (by rw [hkv]; decide) (by rw [hkv]; rfl) dX6_holder_14 dX6_holder_17 dX6_holder_18 dX6_holder_20 dX6_holder_23 hexc hlocks ⟨Nat.le_of_ble_eq_true rfl, Nat.le_of_ble_eq_true rfl, Nat.le_of_ble_eq_true rfl, Nat.le_of_ble_eq_true rfl⟩ ⟨Nat.le_of_ble_eq_true rfl, Nat.le_of_ble_eq_true rfl⟩
  · refine lv_iload_n hx hb dX6_holder_4 rfl (lv_at hl 1 rfl) ?_
    refine lv_aload_n hx hb dX6_holder_5 rfl (lv_at hl 0 rfl) ?_
    refine g_callC (W.runV (C := RX6) (As := []) (rest := [.int x1]) S0 (c_X6_weekNow l G _ z r f hP) (cwV 0 hts gX6_holder_X6_weekNow rfl rfl rfl (by decide +kernel) ⟨Nat.le_of_ble_eq_true rfl, Nat.le_of_ble_eq_true rfl⟩) (g_preV hK hP (q0 := 0) (ci := 6) (q := (RX6, TX6, 7)) rfl rfl) rfl rfl hl.1 rfl (lv_room (Nat.le_of_ble_eq_true rfl)) dX6_holder_6 ⟨Nat.le_of_ble_eq_true rfl, Nat.le_of_ble_eq_true rfl⟩) ?_
    refine lv_iconst (v := nI 1) hx hb dX6_holder_9 (by decide +kernel) ?_
    refine lv_iadd hx hb dX6_holder_10 ?_
    refine lv_icmp_le (tgt := 24) hx hb dX6_holder_11 (by decide) (fun c_2 => ?_) (fun c_2 => ?_)
    · refine lv_aload_n hx hb dX6_holder_24 rfl (lv_at hl 0 rfl) ?_
      refine va_get (D := G.1) (ci := 6) (v := .ref (z 5)) (C := RX6) (T := TX6) (N := 7) hx hb hts hinX6 hown hK.1 hP 0 rfl rfl 4 (by decide) (hts (.fieldLink RX6 40 "Rotaforge" "rota" "LRotaforge$Rota;") (by decide +kernel)) (fun _ h9 => h9) rfl dX6_holder_25 ?_
      refine lv_iload_n hx hb dX6_holder_28 rfl (lv_at hl 1 rfl) ?_
      refine g_callC (W.runV (C := RX4) (As := [.int x1]) (rest := []) S0 (c_X4_holderOf l G _ z r f hP x1) (cwV 1 hts gX6_holder_X4_holderOf rfl rfl rfl (by decide +kernel) ⟨Nat.le_of_ble_eq_true rfl, Nat.le_of_ble_eq_true rfl⟩) (g_preV hK hP (q0 := 5) (ci := 4) (q := (RX4, TX4, 6)) rfl rfl) rfl rfl hl.1 rfl (lv_room (Nat.le_of_ble_eq_true rfl)) dX6_holder_29 ⟨Nat.le_of_ble_eq_true rfl, Nat.le_of_ble_eq_true rfl⟩) ?_
      have hq : (rAt 42 (r 17) x1) = (rAt 42 (r 17) x1) := by
        first | with_reducible rfl | with_reducible exact nI_add _ _ | (simp only [c_1, c_2, ↓reduceIte, Bool.false_eq_true, decide_true, decide_false, Bool.not_true, Bool.not_false, Bool.or_true, Bool.true_or, Bool.or_false, Bool.false_or]; done) | (simp only [c_1, c_2, ↓reduceIte, Bool.false_eq_true, decide_true, decide_false, Bool.not_true, Bool.not_false, Bool.or_true, Bool.true_or, Bool.or_false, Bool.false_or]; with_reducible rfl) | (simp only [c_1, c_2, ↓reduceIte, Bool.false_eq_true, decide_true, decide_false, Bool.not_true, Bool.not_false, Bool.or_true, Bool.true_or, Bool.or_false, Bool.false_or]; rfl) | (simp [b2i, c_1, c_2]; done) | rfl
      have hk0 : (kHolder f x1) = 0 := by
        first | with_reducible rfl | (simp only [kHolder, c_1, c_2, kT, eq_self, ↓reduceIte, Bool.false_eq_true]; done) | (simp only [kHolder, c_1, c_2, kT, eq_self, ↓reduceIte, Bool.false_eq_true]; rfl) | (simp [kT, kHolder, c_1, c_2]; done)
      refine W.widen (k := 1) (n := 6) (Nat.le_of_ble_eq_true rfl) (Nat.le_of_ble_eq_true rfl) ?_
      refine vx_ret ?_
      exact W.iret (v := rAt 42 (r 17) x1) hx hb hr (fun t ht _ => ⟨⟨_, (), rfl, ⟨hk0, hq⟩, ht⟩, hS.F ht⟩) (fun z hz => (hS.2.2 z hz).elim) dX6_holder_32
    · have hkv : (kHolder f x1) = 1 := by
        first | with_reducible rfl | (simp only [kHolder, c_1, c_2, kT, eq_self, ↓reduceIte, Bool.false_eq_true]; done) | (simp only [kHolder, c_1, c_2, kT, eq_self, ↓reduceIte, Bool.false_eq_true]; rfl) | (simp [kT, kHolder, c_1, c_2]; done)
      exact g_throwS (K := (kHolder f x1)) (text := "no holder is known of such a week") hx hb hfl hown hX (by decide) (hts (.classLink RX6 165 xIOB) (by decide +kernel)) (hts (.initialized xIOB) (by decide +kernel)) (fun w hw => hts w (hg169 w hw)) hng169 hgo169 (List.mem_of_getElem? (i := 19) rfl) (by decide) hS (hl.1.trans hml.symm) (by rw [hkv]; decide) (by rw [hkv]; rfl) dX6_holder_14 dX6_holder_17 dX6_holder_18 dX6_holder_20 dX6_holder_23 hexc hlocks ⟨Nat.le_of_ble_eq_true rfl, Nat.le_of_ble_eq_true rfl, Nat.le_of_ble_eq_true rfl, Nat.le_of_ble_eq_true rfl⟩ ⟨Nat.le_of_ble_eq_true rfl, Nat.le_of_ble_eq_true rfl⟩

set_option maxHeartbeats 4000000 in
set_option maxRecDepth 100000 in
theorem c_X6_near (l : Launch) (hfl : l.stackTraces = false) (G : gG) (H0 : Heap) (z : Nat → Nat) (r : Nat → Nat → Int32) (f : Nat → Int32) (hP : va_P G.1 vwCl (wRF G z r f) H0) (x1 : Int32) (t : Nat) (ht9 : f 1 = nI t) (ht8 : t ≤ 560) : gMxr l yX6_near wsX6_near 7 110 1 G H0 [.ref (z 0), .int x1] (kPerson x1) (cNear r x1 (t / 14 + 2)) := by
  refine vx_ofW (cc := cX6_near) (maxL := 2) (ret := (some .int)) (by decide) rfl ?_
  intro p_ e_ s m args below meth c s₁ B hml hexc hv
  obtain ⟨rfl, rfl, hK, hX⟩ := hv
  have hx := B.exec
  have hb := B.bytes
  have hr := B.returns
  have hts := atoms_spec (ws := wsX6_near) B.pre
  have hown : s.vm.findClass RX6 = some m.cls := findClass_of_methodNamed B.named
  have hlocks := B.notSynchronized
  have hinX6 : ∀ w ∈ wsX60, w ∈ wsX6_near := by decide +kernel
  have S0 : CallFix p_ m c cX6_near 2 s _ wsX6_near RX6 := ⟨hx, hb, hml, hown, hts⟩
  have hS : va_S (fun _ => False) s.heap s.heap [] := va_S.rf
  have hl := lv_entry ([.ref (z 0), .int x1]) (n := 2) (Nat.le_of_ble_eq_true rfl)
  rw [lg_entry_eq]
  generalize (lg_sl ([.ref (z 0), .int x1]) ++ List.replicate (2 - (lg_sl ([.ref (z 0), .int x1])).length) Slot.unset).toArray = ls at hl ⊢
  have hl : lv_has ls 2 [(0, .ref (z 0)), (1, .int x1)] := hl
  refine lv_iload_n hx hb dX6_near_0 rfl (lv_at hl 1 rfl) ?_
  refine g_xv (K := (kPerson x1)) (Kc := (kPerson x1)) (vx_runS (As := [.int x1]) (rest := []) S0 (c_X6_requirePerson l hfl G _ x1) (va_cwS 1 hts gX6_near_X6_requirePerson rfl rfl rfl (by decide +kernel) ⟨Nat.le_of_ble_eq_true rfl, Nat.le_of_ble_eq_true rfl⟩) (g_preXS hK hX) rfl rfl hl.1 rfl (lv_room (Nat.le_of_ble_eq_true rfl)) dX6_near_1 ⟨Nat.le_of_ble_eq_true rfl, Nat.le_of_ble_eq_true rfl⟩) hS hexc hlocks (fun c_1 => by have hk9 : (kPerson x1) = (kPerson x1) := (by first | with_reducible rfl | (simp only [c_1, kT, eq_self, ↓reduceIte, Bool.false_eq_true]; done) | (simp only [c_1, kT, eq_self, ↓reduceIte, Bool.false_eq_true]; rfl) | (simp [kT, c_1]; done)); exact ⟨by rw [hk9]; exact c_1, by rw [hk9]⟩) ⟨Nat.le_of_ble_eq_true rfl, Nat.le_of_ble_eq_true rfl⟩ (fun c_1 locs hS => ?_)
  refine lv_aload_n hx hb dX6_near_4 rfl (lv_at hl 0 rfl) ?_
  refine va_get (D := G.1) (ci := 6) (v := .ref (z 5)) (C := RX6) (T := TX6) (N := 7) hx hb hts hinX6 hown hK.1 hP 0 rfl rfl 4 (by decide) (hts (.fieldLink RX6 40 "Rotaforge" "rota" "LRotaforge$Rota;") (by decide +kernel)) (fun _ h9 => h9) rfl dX6_near_5 ?_
  refine lv_iload_n hx hb dX6_near_8 rfl (lv_at hl 1 rfl) ?_
  refine lv_aload_n hx hb dX6_near_9 rfl (lv_at hl 0 rfl) ?_
  refine g_callC (W.runV (C := RX6) (As := []) (rest := [.int x1, .ref (z 5)]) S0 (c_X6_weekNow l G _ z r f hP) (cwV 0 hts gX6_near_X6_weekNow rfl rfl rfl (by decide +kernel) ⟨Nat.le_of_ble_eq_true rfl, Nat.le_of_ble_eq_true rfl⟩) (g_preV hK hP (q0 := 0) (ci := 6) (q := (RX6, TX6, 7)) rfl rfl) rfl rfl hl.1 rfl (lv_room (Nat.le_of_ble_eq_true rfl)) dX6_near_10 ⟨Nat.le_of_ble_eq_true rfl, Nat.le_of_ble_eq_true rfl⟩) ?_
  refine lv_iconst (v := nI 2) hx hb dX6_near_13 (by decide +kernel) ?_
  refine lv_iadd hx hb dX6_near_14 ?_
  refine g_callC (W.runV (C := RX4) (As := [.int x1, .int ((f 1 / nI 14) + (nI 2))]) (rest := []) S0 (c_X4_nearness l G _ z r f hP x1 ((f 1 / nI 14) + (nI 2)) (t / 14 + 2) (by rw [ht9, pk_div (by omega) (by decide) (by decide)]; exact nI_add _ _) (by omega)) (cwV 2 hts gX6_near_X4_nearness rfl rfl rfl (by decide +kernel) ⟨Nat.le_of_ble_eq_true rfl, Nat.le_of_ble_eq_true rfl⟩) (g_preV hK hP (q0 := 5) (ci := 4) (q := (RX4, TX4, 6)) rfl rfl) rfl rfl hl.1 rfl (lv_room (Nat.le_of_ble_eq_true rfl)) dX6_near_15 ⟨Nat.le_of_ble_eq_true rfl, Nat.le_of_ble_eq_true rfl⟩) ?_
  have hq : (cNear r x1 (t / 14 + 2)) = (cNear r x1 (t / 14 + 2)) := by
    first | with_reducible rfl | with_reducible exact nI_add _ _ | (simp only [c_1, ↓reduceIte, Bool.false_eq_true, decide_true, decide_false, Bool.not_true, Bool.not_false, Bool.or_true, Bool.true_or, Bool.or_false, Bool.false_or]; done) | (simp only [c_1, ↓reduceIte, Bool.false_eq_true, decide_true, decide_false, Bool.not_true, Bool.not_false, Bool.or_true, Bool.true_or, Bool.or_false, Bool.false_or]; with_reducible rfl) | (simp only [c_1, ↓reduceIte, Bool.false_eq_true, decide_true, decide_false, Bool.not_true, Bool.not_false, Bool.or_true, Bool.true_or, Bool.or_false, Bool.false_or]; rfl) | (simp [b2i, c_1]; done) | rfl
  have hk0 : (kPerson x1) = 0 := by
    first | with_reducible rfl | (simp only [c_1, kT, eq_self, ↓reduceIte, Bool.false_eq_true]; done) | (simp only [c_1, kT, eq_self, ↓reduceIte, Bool.false_eq_true]; rfl) | (simp [kT, c_1]; done)
  refine W.widen (k := 1) (n := 6) (Nat.le_of_ble_eq_true rfl) (Nat.le_of_ble_eq_true rfl) ?_
  refine vx_ret ?_
  exact W.iret (v := cNear r x1 (t / 14 + 2)) hx hb hr (fun t ht _ => ⟨⟨_, (), rfl, ⟨hk0, hq⟩, ht⟩, hS.F ht⟩) (fun z hz => (hS.2.2 z hz).elim) dX6_near_18

set_option maxHeartbeats 4000000 in
set_option maxRecDepth 100000 in
theorem c_X6_blots (l : Launch) (hfl : l.stackTraces = false) (G : gG) (H0 : Heap) (z : Nat → Nat) (r : Nat → Nat → Int32) (f : Nat → Int32) (hP : va_P G.1 vwCl (wRF G z r f) H0) (x1 : Int32) : gMxr l yX6_blots wsX6_blots 7 110 1 G H0 [.ref (z 0), .int x1] (kPerson x1) (rAt 6 (r 18) x1) := by
  refine vx_ofW (cc := cX6_blots) (maxL := 2) (ret := (some .int)) (by decide) rfl ?_
  intro p_ e_ s m args below meth c s₁ B hml hexc hv
  obtain ⟨rfl, rfl, hK, hX⟩ := hv
  have hx := B.exec
  have hb := B.bytes
  have hr := B.returns
  have hts := atoms_spec (ws := wsX6_blots) B.pre
  have hown : s.vm.findClass RX6 = some m.cls := findClass_of_methodNamed B.named
  have hlocks := B.notSynchronized
  have hinX6 : ∀ w ∈ wsX60, w ∈ wsX6_blots := by decide +kernel
  have S0 : CallFix p_ m c cX6_blots 2 s _ wsX6_blots RX6 := ⟨hx, hb, hml, hown, hts⟩
  have hS : va_S (fun _ => False) s.heap s.heap [] := va_S.rf
  have hl := lv_entry ([.ref (z 0), .int x1]) (n := 2) (Nat.le_of_ble_eq_true rfl)
  rw [lg_entry_eq]
  generalize (lg_sl ([.ref (z 0), .int x1]) ++ List.replicate (2 - (lg_sl ([.ref (z 0), .int x1])).length) Slot.unset).toArray = ls at hl ⊢
  have hl : lv_has ls 2 [(0, .ref (z 0)), (1, .int x1)] := hl
  refine lv_iload_n hx hb dX6_blots_0 rfl (lv_at hl 1 rfl) ?_
  refine g_xv (K := (kPerson x1)) (Kc := (kPerson x1)) (vx_runS (As := [.int x1]) (rest := []) S0 (c_X6_requirePerson l hfl G _ x1) (va_cwS 1 hts gX6_blots_X6_requirePerson rfl rfl rfl (by decide +kernel) ⟨Nat.le_of_ble_eq_true rfl, Nat.le_of_ble_eq_true rfl⟩) (g_preXS hK hX) rfl rfl hl.1 rfl (lv_room (Nat.le_of_ble_eq_true rfl)) dX6_blots_1 ⟨Nat.le_of_ble_eq_true rfl, Nat.le_of_ble_eq_true rfl⟩) hS hexc hlocks (fun c_1 => by have hk9 : (kPerson x1) = (kPerson x1) := (by first | with_reducible rfl | (simp only [c_1, kT, eq_self, ↓reduceIte, Bool.false_eq_true]; done) | (simp only [c_1, kT, eq_self, ↓reduceIte, Bool.false_eq_true]; rfl) | (simp [kT, c_1]; done)); exact ⟨by rw [hk9]; exact c_1, by rw [hk9]⟩) ⟨Nat.le_of_ble_eq_true rfl, Nat.le_of_ble_eq_true rfl⟩ (fun c_1 locs hS => ?_)
  refine lv_aload_n hx hb dX6_blots_4 rfl (lv_at hl 0 rfl) ?_
  refine va_get (D := G.1) (ci := 6) (v := .ref (z 5)) (C := RX6) (T := TX6) (N := 7) hx hb hts hinX6 hown hK.1 hP 0 rfl rfl 4 (by decide) (hts (.fieldLink RX6 40 "Rotaforge" "rota" "LRotaforge$Rota;") (by decide +kernel)) (fun _ h9 => h9) rfl dX6_blots_5 ?_
  refine lv_iload_n hx hb dX6_blots_8 rfl (lv_at hl 1 rfl) ?_
  refine g_callC (W.runV (C := RX4) (As := [.int x1]) (rest := []) S0 (c_X4_blotsOf l G _ z r f hP x1) (cwV 1 hts gX6_blots_X4_blotsOf rfl rfl rfl (by decide +kernel) ⟨Nat.le_of_ble_eq_true rfl, Nat.le_of_ble_eq_true rfl⟩) (g_preV hK hP (q0 := 5) (ci := 4) (q := (RX4, TX4, 6)) rfl rfl) rfl rfl hl.1 rfl (lv_room (Nat.le_of_ble_eq_true rfl)) dX6_blots_9 ⟨Nat.le_of_ble_eq_true rfl, Nat.le_of_ble_eq_true rfl⟩) ?_
  have hq : (rAt 6 (r 18) x1) = (rAt 6 (r 18) x1) := by
    first | with_reducible rfl | with_reducible exact nI_add _ _ | (simp only [c_1, ↓reduceIte, Bool.false_eq_true, decide_true, decide_false, Bool.not_true, Bool.not_false, Bool.or_true, Bool.true_or, Bool.or_false, Bool.false_or]; done) | (simp only [c_1, ↓reduceIte, Bool.false_eq_true, decide_true, decide_false, Bool.not_true, Bool.not_false, Bool.or_true, Bool.true_or, Bool.or_false, Bool.false_or]; with_reducible rfl) | (simp only [c_1, ↓reduceIte, Bool.false_eq_true, decide_true, decide_false, Bool.not_true, Bool.not_false, Bool.or_true, Bool.true_or, Bool.or_false, Bool.false_or]; rfl) | (simp [b2i, c_1]; done) | rfl
  have hk0 : (kPerson x1) = 0 := by
    first | with_reducible rfl | (simp only [c_1, kT, eq_self, ↓reduceIte, Bool.false_eq_true]; done) | (simp only [c_1, kT, eq_self, ↓reduceIte, Bool.false_eq_true]; rfl) | (simp [kT, c_1]; done)
  refine W.widen (k := 1) (n := 6) (Nat.le_of_ble_eq_true rfl) (Nat.le_of_ble_eq_true rfl) ?_
  refine vx_ret ?_
  exact W.iret (v := rAt 6 (r 18) x1) hx hb hr (fun t ht _ => ⟨⟨_, (), rfl, ⟨hk0, hq⟩, ht⟩, hS.F ht⟩) (fun z hz => (hS.2.2 z hz).elim) dX6_blots_12

set_option maxHeartbeats 4000000 in
set_option maxRecDepth 100000 in
theorem c_X6_rests (l : Launch) (hfl : l.stackTraces = false) (G : gG) (H0 : Heap) (z : Nat → Nat) (r : Nat → Nat → Int32) (f : Nat → Int32) (hP : va_P G.1 vwCl (wRF G z r f) H0) (x1 : Int32) : gMxr l yX6_rests wsX6_rests 7 110 1 G H0 [.ref (z 0), .int x1] (kPerson x1) (b2i (cRest r x1 (f 1))) := by
  refine vx_ofW (cc := cX6_rests) (maxL := 2) (ret := (some .boolean)) (by decide) rfl ?_
  intro p_ e_ s m args below meth c s₁ B hml hexc hv
  obtain ⟨rfl, rfl, hK, hX⟩ := hv
  have hx := B.exec
  have hb := B.bytes
  have hr := B.returns
  have hts := atoms_spec (ws := wsX6_rests) B.pre
  have hown : s.vm.findClass RX6 = some m.cls := findClass_of_methodNamed B.named
  have hlocks := B.notSynchronized
  have hinX6 : ∀ w ∈ wsX60, w ∈ wsX6_rests := by decide +kernel
  have S0 : CallFix p_ m c cX6_rests 2 s _ wsX6_rests RX6 := ⟨hx, hb, hml, hown, hts⟩
  have hS : va_S (fun _ => False) s.heap s.heap [] := va_S.rf
  have hl := lv_entry ([.ref (z 0), .int x1]) (n := 2) (Nat.le_of_ble_eq_true rfl)
  rw [lg_entry_eq]
  generalize (lg_sl ([.ref (z 0), .int x1]) ++ List.replicate (2 - (lg_sl ([.ref (z 0), .int x1])).length) Slot.unset).toArray = ls at hl ⊢
  have hl : lv_has ls 2 [(0, .ref (z 0)), (1, .int x1)] := hl
  refine lv_iload_n hx hb dX6_rests_0 rfl (lv_at hl 1 rfl) ?_
  refine g_xv (K := (kPerson x1)) (Kc := (kPerson x1)) (vx_runS (As := [.int x1]) (rest := []) S0 (c_X6_requirePerson l hfl G _ x1) (va_cwS 1 hts gX6_rests_X6_requirePerson rfl rfl rfl (by decide +kernel) ⟨Nat.le_of_ble_eq_true rfl, Nat.le_of_ble_eq_true rfl⟩) (g_preXS hK hX) rfl rfl hl.1 rfl (lv_room (Nat.le_of_ble_eq_true rfl)) dX6_rests_1 ⟨Nat.le_of_ble_eq_true rfl, Nat.le_of_ble_eq_true rfl⟩) hS hexc hlocks (fun c_1 => by have hk9 : (kPerson x1) = (kPerson x1) := (by first | with_reducible rfl | (simp only [c_1, kT, eq_self, ↓reduceIte, Bool.false_eq_true]; done) | (simp only [c_1, kT, eq_self, ↓reduceIte, Bool.false_eq_true]; rfl) | (simp [kT, c_1]; done)); exact ⟨by rw [hk9]; exact c_1, by rw [hk9]⟩) ⟨Nat.le_of_ble_eq_true rfl, Nat.le_of_ble_eq_true rfl⟩ (fun c_1 locs hS => ?_)
  refine lv_aload_n hx hb dX6_rests_4 rfl (lv_at hl 0 rfl) ?_
  refine va_get (D := G.1) (ci := 6) (v := .ref (z 5)) (C := RX6) (T := TX6) (N := 7) hx hb hts hinX6 hown hK.1 hP 0 rfl rfl 4 (by decide) (hts (.fieldLink RX6 40 "Rotaforge" "rota" "LRotaforge$Rota;") (by decide +kernel)) (fun _ h9 => h9) rfl dX6_rests_5 ?_
  refine lv_iload_n hx hb dX6_rests_8 rfl (lv_at hl 1 rfl) ?_
  refine lv_aload_n hx hb dX6_rests_9 rfl (lv_at hl 0 rfl) ?_
  refine va_get (D := G.1) (ci := 6) (v := .int (f 1)) (C := RX6) (T := TX6) (N := 7) hx hb hts hinX6 hown hK.1 hP 0 rfl rfl 6 (by decide) (hts (.fieldLink RX6 48 "Rotaforge" "now" "I") (by decide +kernel)) (fun _ h9 => h9) rfl dX6_rests_10 ?_
  refine g_callC (W.runV (C := RX4) (As := [.int x1, .int (f 1)]) (rest := []) S0 (c_X4_isResting l G _ z r f hP x1 (f 1)) (cwV 2 hts gX6_rests_X4_isResting rfl rfl rfl (by decide +kernel) ⟨Nat.le_of_ble_eq_true rfl, Nat.le_of_ble_eq_true rfl⟩) (g_preV hK hP (q0 := 5) (ci := 4) (q := (RX4, TX4, 6)) rfl rfl) rfl rfl hl.1 rfl (lv_room (Nat.le_of_ble_eq_true rfl)) dX6_rests_13 ⟨Nat.le_of_ble_eq_true rfl, Nat.le_of_ble_eq_true rfl⟩) ?_
  have hq : (b2i (cRest r x1 (f 1))) = (b2i (cRest r x1 (f 1))) := by
    first | with_reducible rfl | with_reducible exact nI_add _ _ | (simp only [c_1, ↓reduceIte, Bool.false_eq_true, decide_true, decide_false, Bool.not_true, Bool.not_false, Bool.or_true, Bool.true_or, Bool.or_false, Bool.false_or]; done) | (simp only [c_1, ↓reduceIte, Bool.false_eq_true, decide_true, decide_false, Bool.not_true, Bool.not_false, Bool.or_true, Bool.true_or, Bool.or_false, Bool.false_or]; with_reducible rfl) | (simp only [c_1, ↓reduceIte, Bool.false_eq_true, decide_true, decide_false, Bool.not_true, Bool.not_false, Bool.or_true, Bool.true_or, Bool.or_false, Bool.false_or]; rfl) | (simp [b2i, c_1]; done) | rfl
  have hk0 : (kPerson x1) = 0 := by
    first | with_reducible rfl | (simp only [c_1, kT, eq_self, ↓reduceIte, Bool.false_eq_true]; done) | (simp only [c_1, kT, eq_self, ↓reduceIte, Bool.false_eq_true]; rfl) | (simp [kT, c_1]; done)
  refine W.widen (k := 1) (n := 6) (Nat.le_of_ble_eq_true rfl) (Nat.le_of_ble_eq_true rfl) ?_
  refine vx_ret ?_
  exact W.zret (v := b2i (cRest r x1 (f 1))) hx hb hr (z_nar hq) (fun t ht _ => ⟨⟨_, (), rfl, ⟨hk0, hq⟩, ht⟩, hS.F ht⟩) (fun z hz => (hS.2.2 z hz).elim) dX6_rests_16

set_option maxHeartbeats 4000000 in
set_option maxRecDepth 100000 in
theorem c_X6_calls (l : Launch) (hfl : l.stackTraces = false) (G : gG) (H0 : Heap) (z : Nat → Nat) (r : Nat → Nat → Int32) (f : Nat → Int32) (hP : va_P G.1 vwCl (wRF G z r f) H0) (x1 : Int32) (x2 : Bool) : gMxr l yX6_calls wsX6_calls 7 110 1 G H0 [.ref (z 0), .int x1, .int (b2i x2)] (kPerson x1) (if x2 then rAt 6 (r 21) x1 else rAt 6 (r 20) x1) := by
  refine vx_ofW (cc := cX6_calls) (maxL := 3) (ret := (some .int)) (by decide) rfl ?_
  intro p_ e_ s m args below meth c s₁ B hml hexc hv
  obtain ⟨rfl, rfl, hK, hX⟩ := hv
  have hx := B.exec
  have hb := B.bytes
  have hr := B.returns
  have hts := atoms_spec (ws := wsX6_calls) B.pre
  have hown : s.vm.findClass RX6 = some m.cls := findClass_of_methodNamed B.named
  have hlocks := B.notSynchronized
  have hinX6 : ∀ w ∈ wsX60, w ∈ wsX6_calls := by decide +kernel
  have S0 : CallFix p_ m c cX6_calls 3 s _ wsX6_calls RX6 := ⟨hx, hb, hml, hown, hts⟩
  have hS : va_S (fun _ => False) s.heap s.heap [] := va_S.rf
  have hl := lv_entry ([.ref (z 0), .int x1, .int (b2i x2)]) (n := 3) (Nat.le_of_ble_eq_true rfl)
  rw [lg_entry_eq]
  generalize (lg_sl ([.ref (z 0), .int x1, .int (b2i x2)]) ++ List.replicate (3 - (lg_sl ([.ref (z 0), .int x1, .int (b2i x2)])).length) Slot.unset).toArray = ls at hl ⊢
  have hl : lv_has ls 3 [(0, .ref (z 0)), (1, .int x1), (2, .int (b2i x2))] := hl
  refine lv_iload_n hx hb dX6_calls_0 rfl (lv_at hl 1 rfl) ?_
  refine g_xv (K := (kPerson x1)) (Kc := (kPerson x1)) (vx_runS (As := [.int x1]) (rest := []) S0 (c_X6_requirePerson l hfl G _ x1) (va_cwS 1 hts gX6_calls_X6_requirePerson rfl rfl rfl (by decide +kernel) ⟨Nat.le_of_ble_eq_true rfl, Nat.le_of_ble_eq_true rfl⟩) (g_preXS hK hX) rfl rfl hl.1 rfl (lv_room (Nat.le_of_ble_eq_true rfl)) dX6_calls_1 ⟨Nat.le_of_ble_eq_true rfl, Nat.le_of_ble_eq_true rfl⟩) hS hexc hlocks (fun c_1 => by have hk9 : (kPerson x1) = (kPerson x1) := (by first | with_reducible rfl | (simp only [c_1, kT, eq_self, ↓reduceIte, Bool.false_eq_true]; done) | (simp only [c_1, kT, eq_self, ↓reduceIte, Bool.false_eq_true]; rfl) | (simp [kT, c_1]; done)); exact ⟨by rw [hk9]; exact c_1, by rw [hk9]⟩) ⟨Nat.le_of_ble_eq_true rfl, Nat.le_of_ble_eq_true rfl⟩ (fun c_1 locs hS => ?_)
  refine lv_aload_n hx hb dX6_calls_4 rfl (lv_at hl 0 rfl) ?_
  refine va_get (D := G.1) (ci := 6) (v := .ref (z 5)) (C := RX6) (T := TX6) (N := 7) hx hb hts hinX6 hown hK.1 hP 0 rfl rfl 4 (by decide) (hts (.fieldLink RX6 40 "Rotaforge" "rota" "LRotaforge$Rota;") (by decide +kernel)) (fun _ h9 => h9) rfl dX6_calls_5 ?_
  refine lv_iload_n hx hb dX6_calls_8 rfl (lv_at hl 1 rfl) ?_
  refine lv_iload_n hx hb dX6_calls_9 rfl (lv_at hl 2 rfl) ?_
  refine g_callC (W.runV (C := RX4) (As := [.int x1, .int (b2i x2)]) (rest := []) S0 (c_X4_callCount l G _ z r f hP x1 x2) (cwV 2 hts gX6_calls_X4_callCount rfl rfl rfl (by decide +kernel) ⟨Nat.le_of_ble_eq_true rfl, Nat.le_of_ble_eq_true rfl⟩) (g_preV hK hP (q0 := 5) (ci := 4) (q := (RX4, TX4, 6)) rfl rfl) rfl rfl hl.1 rfl (lv_room (Nat.le_of_ble_eq_true rfl)) dX6_calls_10 ⟨Nat.le_of_ble_eq_true rfl, Nat.le_of_ble_eq_true rfl⟩) ?_
  have hq : (if x2 then rAt 6 (r 21) x1 else rAt 6 (r 20) x1) = (if x2 then rAt 6 (r 21) x1 else rAt 6 (r 20) x1) := by
    first | with_reducible rfl | with_reducible exact nI_add _ _ | (simp only [c_1, ↓reduceIte, Bool.false_eq_true, decide_true, decide_false, Bool.not_true, Bool.not_false, Bool.or_true, Bool.true_or, Bool.or_false, Bool.false_or]; done) | (simp only [c_1, ↓reduceIte, Bool.false_eq_true, decide_true, decide_false, Bool.not_true, Bool.not_false, Bool.or_true, Bool.true_or, Bool.or_false, Bool.false_or]; with_reducible rfl) | (simp only [c_1, ↓reduceIte, Bool.false_eq_true, decide_true, decide_false, Bool.not_true, Bool.not_false, Bool.or_true, Bool.true_or, Bool.or_false, Bool.false_or]; rfl) | (simp [b2i, c_1]; done) | rfl
  have hk0 : (kPerson x1) = 0 := by
    first | with_reducible rfl | (simp only [c_1, kT, eq_self, ↓reduceIte, Bool.false_eq_true]; done) | (simp only [c_1, kT, eq_self, ↓reduceIte, Bool.false_eq_true]; rfl) | (simp [kT, c_1]; done)
  refine W.widen (k := 1) (n := 6) (Nat.le_of_ble_eq_true rfl) (Nat.le_of_ble_eq_true rfl) ?_
  refine vx_ret ?_
  exact W.iret (v := if x2 then rAt 6 (r 21) x1 else rAt 6 (r 20) x1) hx hb hr (fun t ht _ => ⟨⟨_, (), rfl, ⟨hk0, hq⟩, ht⟩, hS.F ht⟩) (fun z hz => (hS.2.2 z hz).elim) dX6_calls_13

set_option maxHeartbeats 4000000 in
set_option maxRecDepth 100000 in
theorem c_X6_version (l : Launch) (hfl : l.stackTraces = false) (G : gG) (H0 : Heap) (z : Nat → Nat) (r : Nat → Nat → Int32) (f : Nat → Int32) (hP : va_P G.1 vwCl (wRF G z r f) H0) (x1 : Int32) : gMxr l yX6_version wsX6_version 7 110 1 G H0 [.ref (z 0), .int x1] (kRing x1) (cRuns r x1) := by
  refine vx_ofW (cc := cX6_version) (maxL := 2) (ret := (some .int)) (by decide) rfl ?_
  intro p_ e_ s m args below meth c s₁ B hml hexc hv
  obtain ⟨rfl, rfl, hK, hX⟩ := hv
  have hx := B.exec
  have hb := B.bytes
  have hr := B.returns
  have hts := atoms_spec (ws := wsX6_version) B.pre
  have hown : s.vm.findClass RX6 = some m.cls := findClass_of_methodNamed B.named
  have hlocks := B.notSynchronized
  have S0 : CallFix p_ m c cX6_version 2 s _ wsX6_version RX6 := ⟨hx, hb, hml, hown, hts⟩
  have hS : va_S (fun _ => False) s.heap s.heap [] := va_S.rf
  have hl := lv_entry ([.ref (z 0), .int x1]) (n := 2) (Nat.le_of_ble_eq_true rfl)
  rw [lg_entry_eq]
  generalize (lg_sl ([.ref (z 0), .int x1]) ++ List.replicate (2 - (lg_sl ([.ref (z 0), .int x1])).length) Slot.unset).toArray = ls at hl ⊢
  have hl : lv_has ls 2 [(0, .ref (z 0)), (1, .int x1)] := hl
  refine lv_iload_n hx hb dX6_version_0 rfl (lv_at hl 1 rfl) ?_
  refine g_xv (K := (kRing x1)) (Kc := (kRing x1)) (vx_runS (As := [.int x1]) (rest := []) S0 (c_X6_requireRing l hfl G _ x1) (va_cwS 1 hts gX6_version_X6_requireRing rfl rfl rfl (by decide +kernel) ⟨Nat.le_of_ble_eq_true rfl, Nat.le_of_ble_eq_true rfl⟩) (g_preXS hK hX) rfl rfl hl.1 rfl (lv_room (Nat.le_of_ble_eq_true rfl)) dX6_version_1 ⟨Nat.le_of_ble_eq_true rfl, Nat.le_of_ble_eq_true rfl⟩) hS hexc hlocks (fun c_1 => by have hk9 : (kRing x1) = (kRing x1) := (by first | with_reducible rfl | (simp only [c_1, kT, eq_self, ↓reduceIte, Bool.false_eq_true]; done) | (simp only [c_1, kT, eq_self, ↓reduceIte, Bool.false_eq_true]; rfl) | (simp [kT, c_1]; done)); exact ⟨by rw [hk9]; exact c_1, by rw [hk9]⟩) ⟨Nat.le_of_ble_eq_true rfl, Nat.le_of_ble_eq_true rfl⟩ (fun c_1 locs hS => ?_)
  refine lv_aload_n hx hb dX6_version_4 rfl (lv_at hl 0 rfl) ?_
  refine lv_iload_n hx hb dX6_version_5 rfl (lv_at hl 1 rfl) ?_
  refine g_callC (W.runV (C := RX6) (As := [.int x1]) (rest := []) S0 (c_X6_runs l G _ z r f hP x1) (cwV 1 hts gX6_version_X6_runs rfl rfl rfl (by decide +kernel) ⟨Nat.le_of_ble_eq_true rfl, Nat.le_of_ble_eq_true rfl⟩) (g_preV hK hP (q0 := 0) (ci := 6) (q := (RX6, TX6, 7)) rfl rfl) rfl rfl hl.1 rfl (lv_room (Nat.le_of_ble_eq_true rfl)) dX6_version_6 ⟨Nat.le_of_ble_eq_true rfl, Nat.le_of_ble_eq_true rfl⟩) ?_
  have hq : (cRuns r x1) = (cRuns r x1) := by
    first | with_reducible rfl | with_reducible exact nI_add _ _ | (simp only [c_1, ↓reduceIte, Bool.false_eq_true, decide_true, decide_false, Bool.not_true, Bool.not_false, Bool.or_true, Bool.true_or, Bool.or_false, Bool.false_or]; done) | (simp only [c_1, ↓reduceIte, Bool.false_eq_true, decide_true, decide_false, Bool.not_true, Bool.not_false, Bool.or_true, Bool.true_or, Bool.or_false, Bool.false_or]; with_reducible rfl) | (simp only [c_1, ↓reduceIte, Bool.false_eq_true, decide_true, decide_false, Bool.not_true, Bool.not_false, Bool.or_true, Bool.true_or, Bool.or_false, Bool.false_or]; rfl) | (simp [b2i, c_1]; done) | rfl
  have hk0 : (kRing x1) = 0 := by
    first | with_reducible rfl | (simp only [c_1, kT, eq_self, ↓reduceIte, Bool.false_eq_true]; done) | (simp only [c_1, kT, eq_self, ↓reduceIte, Bool.false_eq_true]; rfl) | (simp [kT, c_1]; done)
  refine W.widen (k := 1) (n := 6) (Nat.le_of_ble_eq_true rfl) (Nat.le_of_ble_eq_true rfl) ?_
  refine vx_ret ?_
  exact W.iret (v := cRuns r x1) hx hb hr (fun t ht _ => ⟨⟨_, (), rfl, ⟨hk0, hq⟩, ht⟩, hS.F ht⟩) (fun z hz => (hS.2.2 z hz).elim) dX6_version_9

set_option maxHeartbeats 4000000 in
set_option maxRecDepth 100000 in
theorem c_X6_level (l : Launch) (hfl : l.stackTraces = false) (G : gG) (H0 : Heap) (z : Nat → Nat) (r : Nat → Nat → Int32) (f : Nat → Int32) (hP : va_P G.1 vwCl (wRF G z r f) H0) (x1 : Int32) : gMxr l yX6_level wsX6_level 7 110 1 G H0 [.ref (z 0), .int x1] (kSwitch x1) (cValueNow r x1) := by
  refine vx_ofW (cc := cX6_level) (maxL := 2) (ret := (some .int)) (by decide) rfl ?_
  intro p_ e_ s m args below meth c s₁ B hml hexc hv
  obtain ⟨rfl, rfl, hK, hX⟩ := hv
  have hx := B.exec
  have hb := B.bytes
  have hr := B.returns
  have hts := atoms_spec (ws := wsX6_level) B.pre
  have hown : s.vm.findClass RX6 = some m.cls := findClass_of_methodNamed B.named
  have hlocks := B.notSynchronized
  have hinX6 : ∀ w ∈ wsX60, w ∈ wsX6_level := by decide +kernel
  have S0 : CallFix p_ m c cX6_level 2 s _ wsX6_level RX6 := ⟨hx, hb, hml, hown, hts⟩
  have hS : va_S (fun _ => False) s.heap s.heap [] := va_S.rf
  have hl := lv_entry ([.ref (z 0), .int x1]) (n := 2) (Nat.le_of_ble_eq_true rfl)
  rw [lg_entry_eq]
  generalize (lg_sl ([.ref (z 0), .int x1]) ++ List.replicate (2 - (lg_sl ([.ref (z 0), .int x1])).length) Slot.unset).toArray = ls at hl ⊢
  have hl : lv_has ls 2 [(0, .ref (z 0)), (1, .int x1)] := hl
  refine lv_iload_n hx hb dX6_level_0 rfl (lv_at hl 1 rfl) ?_
  refine g_xv (K := (kSwitch x1)) (Kc := (kSwitch x1)) (vx_runS (As := [.int x1]) (rest := []) S0 (c_X6_requireSwitch l hfl G _ x1) (va_cwS 1 hts gX6_level_X6_requireSwitch rfl rfl rfl (by decide +kernel) ⟨Nat.le_of_ble_eq_true rfl, Nat.le_of_ble_eq_true rfl⟩) (g_preXS hK hX) rfl rfl hl.1 rfl (lv_room (Nat.le_of_ble_eq_true rfl)) dX6_level_1 ⟨Nat.le_of_ble_eq_true rfl, Nat.le_of_ble_eq_true rfl⟩) hS hexc hlocks (fun c_1 => by have hk9 : (kSwitch x1) = (kSwitch x1) := (by first | with_reducible rfl | (simp only [c_1, kT, eq_self, ↓reduceIte, Bool.false_eq_true]; done) | (simp only [c_1, kT, eq_self, ↓reduceIte, Bool.false_eq_true]; rfl) | (simp [kT, c_1]; done)); exact ⟨by rw [hk9]; exact c_1, by rw [hk9]⟩) ⟨Nat.le_of_ble_eq_true rfl, Nat.le_of_ble_eq_true rfl⟩ (fun c_1 locs hS => ?_)
  refine lv_aload_n hx hb dX6_level_4 rfl (lv_at hl 0 rfl) ?_
  refine va_get (D := G.1) (ci := 6) (v := .ref (z 3)) (C := RX6) (T := TX6) (N := 7) hx hb hts hinX6 hown hK.1 hP 0 rfl rfl 2 (by decide) (hts (.fieldLink RX6 26 "Rotaforge" "changeLog" "LRotaforge$ChangeLog;") (by decide +kernel)) (fun _ h9 => h9) rfl dX6_level_5 ?_
  refine lv_iload_n hx hb dX6_level_8 rfl (lv_at hl 1 rfl) ?_
  refine g_callC (W.runV (C := RX0) (As := [.int x1]) (rest := []) S0 (c_X0_valueNow l G _ z r f hP x1) (cwV 1 hts gX6_level_X0_valueNow rfl rfl rfl (by decide +kernel) ⟨Nat.le_of_ble_eq_true rfl, Nat.le_of_ble_eq_true rfl⟩) (g_preV hK hP (q0 := 3) (ci := 0) (q := (RX0, TX0, 7)) rfl rfl) rfl rfl hl.1 rfl (lv_room (Nat.le_of_ble_eq_true rfl)) dX6_level_9 ⟨Nat.le_of_ble_eq_true rfl, Nat.le_of_ble_eq_true rfl⟩) ?_
  have hq : (cValueNow r x1) = (cValueNow r x1) := by
    first | with_reducible rfl | with_reducible exact nI_add _ _ | (simp only [c_1, ↓reduceIte, Bool.false_eq_true, decide_true, decide_false, Bool.not_true, Bool.not_false, Bool.or_true, Bool.true_or, Bool.or_false, Bool.false_or]; done) | (simp only [c_1, ↓reduceIte, Bool.false_eq_true, decide_true, decide_false, Bool.not_true, Bool.not_false, Bool.or_true, Bool.true_or, Bool.or_false, Bool.false_or]; with_reducible rfl) | (simp only [c_1, ↓reduceIte, Bool.false_eq_true, decide_true, decide_false, Bool.not_true, Bool.not_false, Bool.or_true, Bool.true_or, Bool.or_false, Bool.false_or]; rfl) | (simp [b2i, c_1]; done) | rfl
  have hk0 : (kSwitch x1) = 0 := by
    first | with_reducible rfl | (simp only [c_1, kT, eq_self, ↓reduceIte, Bool.false_eq_true]; done) | (simp only [c_1, kT, eq_self, ↓reduceIte, Bool.false_eq_true]; rfl) | (simp [kT, c_1]; done)
  refine W.widen (k := 1) (n := 6) (Nat.le_of_ble_eq_true rfl) (Nat.le_of_ble_eq_true rfl) ?_
  refine vx_ret ?_
  exact W.iret (v := cValueNow r x1) hx hb hr (fun t ht _ => ⟨⟨_, (), rfl, ⟨hk0, hq⟩, ht⟩, hS.F ht⟩) (fun z hz => (hS.2.2 z hz).elim) dX6_level_12

set_option maxHeartbeats 4000000 in
set_option maxRecDepth 100000 in
theorem c_X6_isOn (l : Launch) (hfl : l.stackTraces = false) (G : gG) (H0 : Heap) (z : Nat → Nat) (r : Nat → Nat → Int32) (f : Nat → Int32) (hP : va_P G.1 vwCl (wRF G z r f) H0) (x1 : Int32) (x2 : Int32) : gMxr l yX6_isOn wsX6_isOn 7 110 2 G H0 [.ref (z 0), .int x1, .int x2] (kT (kSwitch x1) (kRing x2)) (b2i (cHasBit (cOn r (cSet r x2)) x1)) := by
  refine vx_ofW (cc := cX6_isOn) (maxL := 3) (ret := (some .boolean)) (by decide) rfl ?_
  intro p_ e_ s m args below meth c s₁ B hml hexc hv
  obtain ⟨rfl, rfl, hK, hX⟩ := hv
  have hx := B.exec
  have hb := B.bytes
  have hr := B.returns
  have hts := atoms_spec (ws := wsX6_isOn) B.pre
  have hown : s.vm.findClass RX6 = some m.cls := findClass_of_methodNamed B.named
  have hlocks := B.notSynchronized
  have hinX6 : ∀ w ∈ wsX60, w ∈ wsX6_isOn := by decide +kernel
  have S0 : CallFix p_ m c cX6_isOn 3 s _ wsX6_isOn RX6 := ⟨hx, hb, hml, hown, hts⟩
  have hS : va_S (fun _ => False) s.heap s.heap [] := va_S.rf
  have hl := lv_entry ([.ref (z 0), .int x1, .int x2]) (n := 3) (Nat.le_of_ble_eq_true rfl)
  rw [lg_entry_eq]
  generalize (lg_sl ([.ref (z 0), .int x1, .int x2]) ++ List.replicate (3 - (lg_sl ([.ref (z 0), .int x1, .int x2])).length) Slot.unset).toArray = ls at hl ⊢
  have hl : lv_has ls 3 [(0, .ref (z 0)), (1, .int x1), (2, .int x2)] := hl
  refine lv_iload_n hx hb dX6_isOn_0 rfl (lv_at hl 1 rfl) ?_
  refine g_xv (K := (kT (kSwitch x1) (kRing x2))) (Kc := (kSwitch x1)) (vx_runS (As := [.int x1]) (rest := []) S0 (c_X6_requireSwitch l hfl G _ x1) (va_cwS 1 hts gX6_isOn_X6_requireSwitch rfl rfl rfl (by decide +kernel) ⟨Nat.le_of_ble_eq_true rfl, Nat.le_of_ble_eq_true rfl⟩) (g_preXS hK hX) rfl rfl hl.1 rfl (lv_room (Nat.le_of_ble_eq_true rfl)) dX6_isOn_1 ⟨Nat.le_of_ble_eq_true rfl, Nat.le_of_ble_eq_true rfl⟩) hS hexc hlocks (fun c_1 => by have hk9 : (kT (kSwitch x1) (kRing x2)) = (kSwitch x1) := (by first | with_reducible rfl | (simp only [c_1, kT, eq_self, ↓reduceIte, Bool.false_eq_true]; done) | (simp only [c_1, kT, eq_self, ↓reduceIte, Bool.false_eq_true]; rfl) | (simp [kT, c_1]; done)); exact ⟨by rw [hk9]; exact c_1, by rw [hk9]⟩) ⟨Nat.le_of_ble_eq_true rfl, Nat.le_of_ble_eq_true rfl⟩ (fun c_1 locs hS => ?_)
  refine lv_iload_n hx hb dX6_isOn_4 rfl (lv_at hl 2 rfl) ?_
  refine g_xv (K := (kT (kSwitch x1) (kRing x2))) (Kc := (kRing x2)) (vx_runS (As := [.int x2]) (rest := []) S0 (c_X6_requireRing l hfl G _ x2) (va_cwS 1 hts gX6_isOn_X6_requireRing rfl rfl rfl (by decide +kernel) ⟨Nat.le_of_ble_eq_true rfl, Nat.le_of_ble_eq_true rfl⟩) (g_preXS hK hX) rfl rfl hl.1 rfl (lv_room (Nat.le_of_ble_eq_true rfl)) dX6_isOn_5 ⟨Nat.le_of_ble_eq_true rfl, Nat.le_of_ble_eq_true rfl⟩) hS hexc hlocks (fun c_2 => by have hk9 : (kT (kSwitch x1) (kRing x2)) = (kRing x2) := (by first | with_reducible rfl | (simp only [c_1, c_2, kT, eq_self, ↓reduceIte, Bool.false_eq_true]; done) | (simp only [c_1, c_2, kT, eq_self, ↓reduceIte, Bool.false_eq_true]; rfl) | (simp [kT, c_1, c_2]; done)); exact ⟨by rw [hk9]; exact c_2, by rw [hk9]⟩) ⟨Nat.le_of_ble_eq_true rfl, Nat.le_of_ble_eq_true rfl⟩ (fun c_2 locs hS => ?_)
  refine lv_aload_n hx hb dX6_isOn_8 rfl (lv_at hl 0 rfl) ?_
  refine va_get (D := G.1) (ci := 6) (v := .ref (z 1)) (C := RX6) (T := TX6) (N := 7) hx hb hts hinX6 hown hK.1 hP 0 rfl rfl 0 (by decide) (hts (.fieldLink RX6 12 "Rotaforge" "needMap" "LRotaforge$Needs;") (by decide +kernel)) (fun _ h9 => h9) rfl dX6_isOn_9 ?_
  refine lv_aload_n hx hb dX6_isOn_12 rfl (lv_at hl 0 rfl) ?_
  refine lv_iload_n hx hb dX6_isOn_13 rfl (lv_at hl 2 rfl) ?_
  refine g_callC (W.runV (C := RX6) (As := [.int x2]) (rest := [.ref (z 1)]) S0 (c_X6_setIn l G _ z r f hP x2) (cwV 1 hts gX6_isOn_X6_setIn rfl rfl rfl (by decide +kernel) ⟨Nat.le_of_ble_eq_true rfl, Nat.le_of_ble_eq_true rfl⟩) (g_preV hK hP (q0 := 0) (ci := 6) (q := (RX6, TX6, 7)) rfl rfl) rfl rfl hl.1 rfl (lv_room (Nat.le_of_ble_eq_true rfl)) dX6_isOn_14 ⟨Nat.le_of_ble_eq_true rfl, Nat.le_of_ble_eq_true rfl⟩) ?_
  refine g_callC (W.runV (C := RX3) (As := [.int (cSet r x2)]) (rest := []) S0 (c_X3_onAmong l G _ z r f hP (cSet r x2)) (cwV 1 hts gX6_isOn_X3_onAmong rfl rfl rfl (by decide +kernel) ⟨Nat.le_of_ble_eq_true rfl, Nat.le_of_ble_eq_true rfl⟩) (g_preV hK hP (q0 := 1) (ci := 3) (q := (RX3, TX3, 2)) rfl rfl) rfl rfl hl.1 rfl (lv_room (Nat.le_of_ble_eq_true rfl)) dX6_isOn_17 ⟨Nat.le_of_ble_eq_true rfl, Nat.le_of_ble_eq_true rfl⟩) ?_
  refine lv_iload_n hx hb dX6_isOn_20 rfl (lv_at hl 1 rfl) ?_
  refine g_callC (W.runS (As := [.int (cOn r (cSet r x2)), .int x1]) (rest := []) S0 (c_X6_hasBit l G _ (cOn r (cSet r x2)) x1) (va_cwS 2 hts gX6_isOn_X6_hasBit rfl rfl rfl (by decide +kernel) ⟨Nat.le_of_ble_eq_true rfl, Nat.le_of_ble_eq_true rfl⟩) (g_preS hK) rfl rfl hl.1 rfl (lv_room (Nat.le_of_ble_eq_true rfl)) dX6_isOn_21 ⟨Nat.le_of_ble_eq_true rfl, Nat.le_of_ble_eq_true rfl⟩) ?_
  have hq : (b2i (cHasBit (cOn r (cSet r x2)) x1)) = (b2i (cHasBit (cOn r (cSet r x2)) x1)) := by
    first | with_reducible rfl | with_reducible exact nI_add _ _ | (simp only [c_1, c_2, ↓reduceIte, Bool.false_eq_true, decide_true, decide_false, Bool.not_true, Bool.not_false, Bool.or_true, Bool.true_or, Bool.or_false, Bool.false_or]; done) | (simp only [c_1, c_2, ↓reduceIte, Bool.false_eq_true, decide_true, decide_false, Bool.not_true, Bool.not_false, Bool.or_true, Bool.true_or, Bool.or_false, Bool.false_or]; with_reducible rfl) | (simp only [c_1, c_2, ↓reduceIte, Bool.false_eq_true, decide_true, decide_false, Bool.not_true, Bool.not_false, Bool.or_true, Bool.true_or, Bool.or_false, Bool.false_or]; rfl) | (simp [b2i, c_1, c_2]; done) | rfl
  have hk0 : (kT (kSwitch x1) (kRing x2)) = 0 := by
    first | with_reducible rfl | (simp only [c_1, c_2, kT, eq_self, ↓reduceIte, Bool.false_eq_true]; done) | (simp only [c_1, c_2, kT, eq_self, ↓reduceIte, Bool.false_eq_true]; rfl) | (simp [kT, c_1, c_2]; done)
  refine W.widen (k := 2) (n := 12) (Nat.le_of_ble_eq_true rfl) (Nat.le_of_ble_eq_true rfl) ?_
  refine vx_ret ?_
  exact W.zret (v := b2i (cHasBit (cOn r (cSet r x2)) x1)) hx hb hr (z_nar hq) (fun t ht _ => ⟨⟨_, (), rfl, ⟨hk0, hq⟩, ht⟩, hS.F ht⟩) (fun z hz => (hS.2.2 z hz).elim) dX6_isOn_24

set_option maxHeartbeats 4000000 in
set_option maxRecDepth 100000 in
theorem c_X6_isFaulty (l : Launch) (hfl : l.stackTraces = false) (G : gG) (H0 : Heap) (z : Nat → Nat) (r : Nat → Nat → Int32) (f : Nat → Int32) (hP : va_P G.1 vwCl (wRF G z r f) H0) (x1 : Int32) : gMxr l yX6_isFaulty wsX6_isFaulty 7 110 1 G H0 [.ref (z 0), .int x1] (kRing x1) (b2i (cFault r x1)) := by
  refine vx_ofW (cc := cX6_isFaulty) (maxL := 2) (ret := (some .boolean)) (by decide) rfl ?_
  intro p_ e_ s m args below meth c s₁ B hml hexc hv
  obtain ⟨rfl, rfl, hK, hX⟩ := hv
  have hx := B.exec
  have hb := B.bytes
  have hr := B.returns
  have hts := atoms_spec (ws := wsX6_isFaulty) B.pre
  have hown : s.vm.findClass RX6 = some m.cls := findClass_of_methodNamed B.named
  have hlocks := B.notSynchronized
  have S0 : CallFix p_ m c cX6_isFaulty 2 s _ wsX6_isFaulty RX6 := ⟨hx, hb, hml, hown, hts⟩
  have hS : va_S (fun _ => False) s.heap s.heap [] := va_S.rf
  have hl := lv_entry ([.ref (z 0), .int x1]) (n := 2) (Nat.le_of_ble_eq_true rfl)
  rw [lg_entry_eq]
  generalize (lg_sl ([.ref (z 0), .int x1]) ++ List.replicate (2 - (lg_sl ([.ref (z 0), .int x1])).length) Slot.unset).toArray = ls at hl ⊢
  have hl : lv_has ls 2 [(0, .ref (z 0)), (1, .int x1)] := hl
  refine lv_iload_n hx hb dX6_isFaulty_0 rfl (lv_at hl 1 rfl) ?_
  refine g_xv (K := (kRing x1)) (Kc := (kRing x1)) (vx_runS (As := [.int x1]) (rest := []) S0 (c_X6_requireRing l hfl G _ x1) (va_cwS 1 hts gX6_isFaulty_X6_requireRing rfl rfl rfl (by decide +kernel) ⟨Nat.le_of_ble_eq_true rfl, Nat.le_of_ble_eq_true rfl⟩) (g_preXS hK hX) rfl rfl hl.1 rfl (lv_room (Nat.le_of_ble_eq_true rfl)) dX6_isFaulty_1 ⟨Nat.le_of_ble_eq_true rfl, Nat.le_of_ble_eq_true rfl⟩) hS hexc hlocks (fun c_1 => by have hk9 : (kRing x1) = (kRing x1) := (by first | with_reducible rfl | (simp only [c_1, kT, eq_self, ↓reduceIte, Bool.false_eq_true]; done) | (simp only [c_1, kT, eq_self, ↓reduceIte, Bool.false_eq_true]; rfl) | (simp [kT, c_1]; done)); exact ⟨by rw [hk9]; exact c_1, by rw [hk9]⟩) ⟨Nat.le_of_ble_eq_true rfl, Nat.le_of_ble_eq_true rfl⟩ (fun c_1 locs hS => ?_)
  refine lv_aload_n hx hb dX6_isFaulty_4 rfl (lv_at hl 0 rfl) ?_
  refine lv_iload_n hx hb dX6_isFaulty_5 rfl (lv_at hl 1 rfl) ?_
  refine g_callC (W.runV (C := RX6) (As := [.int x1]) (rest := []) S0 (c_X6_showsFault l G _ z r f hP x1) (cwV 1 hts gX6_isFaulty_X6_showsFault rfl rfl rfl (by decide +kernel) ⟨Nat.le_of_ble_eq_true rfl, Nat.le_of_ble_eq_true rfl⟩) (g_preV hK hP (q0 := 0) (ci := 6) (q := (RX6, TX6, 7)) rfl rfl) rfl rfl hl.1 rfl (lv_room (Nat.le_of_ble_eq_true rfl)) dX6_isFaulty_6 ⟨Nat.le_of_ble_eq_true rfl, Nat.le_of_ble_eq_true rfl⟩) ?_
  have hq : (b2i (cFault r x1)) = (b2i (cFault r x1)) := by
    first | with_reducible rfl | with_reducible exact nI_add _ _ | (simp only [c_1, ↓reduceIte, Bool.false_eq_true, decide_true, decide_false, Bool.not_true, Bool.not_false, Bool.or_true, Bool.true_or, Bool.or_false, Bool.false_or]; done) | (simp only [c_1, ↓reduceIte, Bool.false_eq_true, decide_true, decide_false, Bool.not_true, Bool.not_false, Bool.or_true, Bool.true_or, Bool.or_false, Bool.false_or]; with_reducible rfl) | (simp only [c_1, ↓reduceIte, Bool.false_eq_true, decide_true, decide_false, Bool.not_true, Bool.not_false, Bool.or_true, Bool.true_or, Bool.or_false, Bool.false_or]; rfl) | (simp [b2i, c_1]; done) | rfl
  have hk0 : (kRing x1) = 0 := by
    first | with_reducible rfl | (simp only [c_1, kT, eq_self, ↓reduceIte, Bool.false_eq_true]; done) | (simp only [c_1, kT, eq_self, ↓reduceIte, Bool.false_eq_true]; rfl) | (simp [kT, c_1]; done)
  refine W.widen (k := 1) (n := 6) (Nat.le_of_ble_eq_true rfl) (Nat.le_of_ble_eq_true rfl) ?_
  refine vx_ret ?_
  exact W.zret (v := b2i (cFault r x1)) hx hb hr (z_nar hq) (fun t ht _ => ⟨⟨_, (), rfl, ⟨hk0, hq⟩, ht⟩, hS.F ht⟩) (fun z hz => (hS.2.2 z hz).elim) dX6_isFaulty_9

set_option maxHeartbeats 4000000 in
set_option maxRecDepth 100000 in
theorem c_X6_rollable (l : Launch) (hfl : l.stackTraces = false) (G : gG) (H0 : Heap) (z : Nat → Nat) (r : Nat → Nat → Int32) (f : Nat → Int32) (hP : va_P G.1 vwCl (wRF G z r f) H0) (x1 : Int32) : gMxr l yX6_rollable wsX6_rollable 7 110 1 G H0 [.ref (z 0), .int x1] (kRing x1) (cRollable r f x1) := by
  refine vx_ofW (cc := cX6_rollable) (maxL := 3) (ret := (some .int)) (by decide) rfl ?_
  intro p_ e_ s m args below meth c s₁ B hml hexc hv
  obtain ⟨rfl, rfl, hK, hX⟩ := hv
  have hx := B.exec
  have hb := B.bytes
  have hr := B.returns
  have hts := atoms_spec (ws := wsX6_rollable) B.pre
  have hown : s.vm.findClass RX6 = some m.cls := findClass_of_methodNamed B.named
  have hlocks := B.notSynchronized
  have hinX6 : ∀ w ∈ wsX60, w ∈ wsX6_rollable := by decide +kernel
  have S0 : CallFix p_ m c cX6_rollable 3 s _ wsX6_rollable RX6 := ⟨hx, hb, hml, hown, hts⟩
  have hS : va_S (fun _ => False) s.heap s.heap [] := va_S.rf
  have hl := lv_entry ([.ref (z 0), .int x1]) (n := 3) (Nat.le_of_ble_eq_true rfl)
  rw [lg_entry_eq]
  generalize (lg_sl ([.ref (z 0), .int x1]) ++ List.replicate (3 - (lg_sl ([.ref (z 0), .int x1])).length) Slot.unset).toArray = ls at hl ⊢
  have hl : lv_has ls 3 [(0, .ref (z 0)), (1, .int x1)] := hl
  refine lv_iload_n hx hb dX6_rollable_0 rfl (lv_at hl 1 rfl) ?_
  refine g_xv (K := (kRing x1)) (Kc := (kRing x1)) (vx_runS (As := [.int x1]) (rest := []) S0 (c_X6_requireRing l hfl G _ x1) (va_cwS 1 hts gX6_rollable_X6_requireRing rfl rfl rfl (by decide +kernel) ⟨Nat.le_of_ble_eq_true rfl, Nat.le_of_ble_eq_true rfl⟩) (g_preXS hK hX) rfl rfl hl.1 rfl (lv_room (Nat.le_of_ble_eq_true rfl)) dX6_rollable_1 ⟨Nat.le_of_ble_eq_true rfl, Nat.le_of_ble_eq_true rfl⟩) hS hexc hlocks (fun c_1 => by have hk9 : (kRing x1) = (kRing x1) := (by first | with_reducible rfl | (simp only [c_1, kT, eq_self, ↓reduceIte, Bool.false_eq_true]; done) | (simp only [c_1, kT, eq_self, ↓reduceIte, Bool.false_eq_true]; rfl) | (simp [kT, c_1]; done)); exact ⟨by rw [hk9]; exact c_1, by rw [hk9]⟩) ⟨Nat.le_of_ble_eq_true rfl, Nat.le_of_ble_eq_true rfl⟩ (fun c_1 locs hS => ?_)
  refine lv_iload_n hx hb dX6_rollable_4 rfl (lv_at hl 1 rfl) ?_
  refine g_join m 24 3 [(0, .ref (z 0)), (1, .int x1)] [.int (cNx r f x1)] (fun ls hl => ?_) (fun hJ24 => ?_)
  · refine lv_istore_n (lv' := [(2, .int (cNx r f x1)), (0, .ref (z 0)), (1, .int x1)]) hx hb dX6_rollable_24 rfl hl (by decide) rfl (fun ls hl => ?_)
    refine lv_aload_n hx hb dX6_rollable_25 rfl (lv_at hl 1 rfl) ?_
    refine lv_iload_n hx hb dX6_rollable_26 rfl (lv_at hl 2 rfl) ?_
    refine g_callC (W.runV (C := RX6) (As := [.int x1]) (rest := []) S0 (c_X6_runs l G _ z r f hP x1) (cwV 1 hts gX6_rollable_X6_runs rfl rfl rfl (by decide +kernel) ⟨Nat.le_of_ble_eq_true rfl, Nat.le_of_ble_eq_true rfl⟩) (g_preV hK hP (q0 := 0) (ci := 6) (q := (RX6, TX6, 7)) rfl rfl) rfl rfl hl.1 rfl (lv_room (Nat.le_of_ble_eq_true rfl)) dX6_rollable_27 ⟨Nat.le_of_ble_eq_true rfl, Nat.le_of_ble_eq_true rfl⟩) ?_
    refine lv_iload_n hx hb dX6_rollable_30 rfl (lv_at hl 0 rfl) ?_
    refine lv_icmp_eq (tgt := 43) hx hb dX6_rollable_31 (by decide) (fun c_2 => ?_) (fun c_2 => ?_)
    · refine lv_iconst (v := (-1)) hx hb dX6_rollable_43 (by decide +kernel) ?_
      refine lv_goto (tgt := 48) hx hb dX6_rollable_44 (by decide) ?_
      have hq : (-1) = (cRollable r f x1) := by
        show _ = (if cRuns r x1 = cNx r f x1 then -1 else if cHeld r f x1 (cNx r f x1) (cN x1) then -1 else cNx r f x1)
        simp only [c_1, c_2, ↓reduceIte, Bool.false_eq_true]
      have hk0 : (kRing x1) = 0 := by
        first | with_reducible rfl | (simp only [c_1, c_2, kT, eq_self, ↓reduceIte, Bool.false_eq_true]; done) | (simp only [c_1, c_2, kT, eq_self, ↓reduceIte, Bool.false_eq_true]; rfl) | (simp [kT, c_1, c_2]; done)
      refine W.widen (k := 1) (n := 6) (Nat.le_of_ble_eq_true rfl) (Nat.le_of_ble_eq_true rfl) ?_
      refine vx_ret ?_
      exact W.iret (v := (-1)) hx hb hr (fun t ht _ => ⟨⟨_, (), rfl, ⟨hk0, hq⟩, ht⟩, hS.F ht⟩) (fun z hz => (hS.2.2 z hz).elim) dX6_rollable_48
    · refine lv_aload_n hx hb dX6_rollable_34 rfl (lv_at hl 1 rfl) ?_
      refine lv_iload_n hx hb dX6_rollable_35 rfl (lv_at hl 2 rfl) ?_
      refine lv_iload_n hx hb dX6_rollable_36 rfl (lv_at hl 0 rfl) ?_
      refine g_callC (W.runV (C := RX6) (As := [.int x1, .int (cNx r f x1)]) (rest := []) S0 (c_X6_isHeldBack l G _ z r f hP x1 (cNx r f x1) (cN x1) (kRing_ok c_1).1 (Nat.lt_trans (kRing_ok c_1).2 (by decide))) (cwV 2 hts gX6_rollable_X6_isHeldBack rfl rfl rfl (by decide +kernel) ⟨Nat.le_of_ble_eq_true rfl, Nat.le_of_ble_eq_true rfl⟩) (g_preV hK hP (q0 := 0) (ci := 6) (q := (RX6, TX6, 7)) rfl rfl) rfl rfl hl.1 rfl (lv_room (Nat.le_of_ble_eq_true rfl)) dX6_rollable_37 ⟨Nat.le_of_ble_eq_true rfl, Nat.le_of_ble_eq_true rfl⟩) ?_
      refine lv_if_eq (tgt := 47) hx hb dX6_rollable_40 (by decide) (fun c_3 => ?_) (fun c_3 => ?_)
      · have c_3 := b2i_f c_3
        refine lv_iload_n hx hb dX6_rollable_47 rfl (lv_at hl 0 rfl) ?_
        have hq : (cNx r f x1) = (cRollable r f x1) := by
          show _ = (if cRuns r x1 = cNx r f x1 then -1 else if cHeld r f x1 (cNx r f x1) (cN x1) then -1 else cNx r f x1)
          simp only [c_1, c_2, c_3, ↓reduceIte, Bool.false_eq_true]
        have hk0 : (kRing x1) = 0 := by
          first | with_reducible rfl | (simp only [c_1, c_2, c_3, kT, eq_self, ↓reduceIte, Bool.false_eq_true]; done) | (simp only [c_1, c_2, c_3, kT, eq_self, ↓reduceIte, Bool.false_eq_true]; rfl) | (simp [kT, c_1, c_2, c_3]; done)
        refine W.widen (k := 1) (n := 6) (Nat.le_of_ble_eq_true rfl) (Nat.le_of_ble_eq_true rfl) ?_
        refine vx_ret ?_
        exact W.iret (v := cNx r f x1) hx hb hr (fun t ht _ => ⟨⟨_, (), rfl, ⟨hk0, hq⟩, ht⟩, hS.F ht⟩) (fun z hz => (hS.2.2 z hz).elim) dX6_rollable_48
      · have c_3 := b2i_t c_3
        refine lv_iconst (v := (-1)) hx hb dX6_rollable_43 (by decide +kernel) ?_
        refine lv_goto (tgt := 48) hx hb dX6_rollable_44 (by decide) ?_
        have hq : (-1) = (cRollable r f x1) := by
          show _ = (if cRuns r x1 = cNx r f x1 then -1 else if cHeld r f x1 (cNx r f x1) (cN x1) then -1 else cNx r f x1)
          simp only [c_1, c_2, c_3, ↓reduceIte, Bool.false_eq_true]
        have hk0 : (kRing x1) = 0 := by
          first | with_reducible rfl | (simp only [c_1, c_2, c_3, kT, eq_self, ↓reduceIte, Bool.false_eq_true]; done) | (simp only [c_1, c_2, c_3, kT, eq_self, ↓reduceIte, Bool.false_eq_true]; rfl) | (simp [kT, c_1, c_2, c_3]; done)
        refine W.widen (k := 1) (n := 6) (Nat.le_of_ble_eq_true rfl) (Nat.le_of_ble_eq_true rfl) ?_
        refine vx_ret ?_
        exact W.iret (v := (-1)) hx hb hr (fun t ht _ => ⟨⟨_, (), rfl, ⟨hk0, hq⟩, ht⟩, hS.F ht⟩) (fun z hz => (hS.2.2 z hz).elim) dX6_rollable_48
  · refine lv_if_ne (tgt := 17) hx hb dX6_rollable_5 (by decide) (fun c_4 => ?_) (fun c_4 => ?_)
    · refine lv_aload_n hx hb dX6_rollable_17 rfl (lv_at hl 0 rfl) ?_
      refine lv_iload_n hx hb dX6_rollable_18 rfl (lv_at hl 1 rfl) ?_
      refine lv_iconst (v := nI 1) hx hb dX6_rollable_19 (by decide +kernel) ?_
      refine lv_isub hx hb dX6_rollable_20 ?_
      refine g_callC (W.runV (C := RX6) (As := [.int (x1 - (nI 1))]) (rest := []) S0 (c_X6_runs l G _ z r f hP (x1 - (nI 1))) (cwV 1 hts gX6_rollable_X6_runs rfl rfl rfl (by decide +kernel) ⟨Nat.le_of_ble_eq_true rfl, Nat.le_of_ble_eq_true rfl⟩) (g_preV hK hP (q0 := 0) (ci := 6) (q := (RX6, TX6, 7)) rfl rfl) rfl rfl hl.1 rfl (lv_room (Nat.le_of_ble_eq_true rfl)) dX6_rollable_21 ⟨Nat.le_of_ble_eq_true rfl, Nat.le_of_ble_eq_true rfl⟩) ?_
      refine W.eq (g2 := F0 m 24 ls [.int (cNx r f x1)]) (g_st (gs_i (show cRuns r (x1 - (nI 1)) = cNx r f x1 by first | with_reducible rfl | with_reducible exact nI_add _ _ | (simp only [cNx, c_1, c_4, ↓reduceIte, Bool.false_eq_true, decide_true, decide_false, Bool.not_true, Bool.not_false, Bool.or_true, Bool.true_or, Bool.or_false, Bool.false_or]; done) | (simp only [cNx, c_1, c_4, ↓reduceIte, Bool.false_eq_true, decide_true, decide_false, Bool.not_true, Bool.not_false, Bool.or_true, Bool.true_or, Bool.or_false, Bool.false_or]; with_reducible rfl) | (simp only [cNx, c_1, c_4, ↓reduceIte, Bool.false_eq_true, decide_true, decide_false, Bool.not_true, Bool.not_false, Bool.or_true, Bool.true_or, Bool.or_false, Bool.false_or]; rfl) | (simp [b2i, cNx, c_1, c_4]; done) | rfl) rfl)) ?_
      exact hJ24 _ (show lv_has ls 3 [(0, .ref (z 0)), (1, .int x1)] from lv_sub hl [0, 1] rfl)
    · refine lv_aload_n hx hb dX6_rollable_8 rfl (lv_at hl 0 rfl) ?_
      refine va_get (D := G.1) (ci := 6) (v := .int (f 0)) (C := RX6) (T := TX6) (N := 7) hx hb hts hinX6 hown hK.1 hP 0 rfl rfl 5 (by decide) (hts (.fieldLink RX6 44 "Rotaforge" "built" "I") (by decide +kernel)) (fun _ h9 => h9) rfl dX6_rollable_9 ?_
      refine lv_iconst (v := nI 1) hx hb dX6_rollable_12 (by decide +kernel) ?_
      refine lv_isub hx hb dX6_rollable_13 ?_
      refine lv_goto (tgt := 24) hx hb dX6_rollable_14 (by decide) ?_
      refine W.eq (g2 := F0 m 24 ls [.int (cNx r f x1)]) (g_st (gs_i (show (f 0) - (nI 1) = cNx r f x1 by first | with_reducible rfl | with_reducible exact nI_add _ _ | (simp only [cNx, c_1, c_4, ↓reduceIte, Bool.false_eq_true, decide_true, decide_false, Bool.not_true, Bool.not_false, Bool.or_true, Bool.true_or, Bool.or_false, Bool.false_or]; done) | (simp only [cNx, c_1, c_4, ↓reduceIte, Bool.false_eq_true, decide_true, decide_false, Bool.not_true, Bool.not_false, Bool.or_true, Bool.true_or, Bool.or_false, Bool.false_or]; with_reducible rfl) | (simp only [cNx, c_1, c_4, ↓reduceIte, Bool.false_eq_true, decide_true, decide_false, Bool.not_true, Bool.not_false, Bool.or_true, Bool.true_or, Bool.or_false, Bool.false_or]; rfl) | (simp [b2i, cNx, c_1, c_4]; done) | rfl) rfl)) ?_
      exact hJ24 _ (show lv_has ls 3 [(0, .ref (z 0)), (1, .int x1)] from lv_sub hl [0, 1] rfl)

set_option maxHeartbeats 4000000 in
set_option maxRecDepth 100000 in
theorem c_X6_change (l : Launch) (hfl : l.stackTraces = false) (G : gG) (H0 : Heap) (z : Nat → Nat) (r : Nat → Nat → Int32) (f : Nat → Int32) (hP : va_P G.1 vwCl (wRF G z r f) H0) (x1 : Int32) : gMxr l yX6_change wsX6_change 7 111 1 G H0 [.ref (z 0), .int x1] (kBelow (f 3) x1) (cChange r x1) := by
  refine vx_ofW (cc := cX6_change) (maxL := 4) (ret := (some .int)) (by decide) rfl ?_
  intro p_ e_ s m args below meth c s₁ B hml hexc hv
  obtain ⟨rfl, rfl, hK, hX⟩ := hv
  have hx := B.exec
  have hb := B.bytes
  have hr := B.returns
  have hts := atoms_spec (ws := wsX6_change) B.pre
  have hown : s.vm.findClass RX6 = some m.cls := findClass_of_methodNamed B.named
  have hlocks := B.notSynchronized
  have hinX6 : ∀ w ∈ wsX60, w ∈ wsX6_change := by decide +kernel
  have S0 : CallFix p_ m c cX6_change 4 s _ wsX6_change RX6 := ⟨hx, hb, hml, hown, hts⟩
  have hS : va_S (fun _ => False) s.heap s.heap [] := va_S.rf
  have hl := lv_entry ([.ref (z 0), .int x1]) (n := 4) (Nat.le_of_ble_eq_true rfl)
  rw [lg_entry_eq]
  generalize (lg_sl ([.ref (z 0), .int x1]) ++ List.replicate (4 - (lg_sl ([.ref (z 0), .int x1])).length) Slot.unset).toArray = ls at hl ⊢
  have hl : lv_has ls 4 [(0, .ref (z 0)), (1, .int x1)] := hl
  refine lv_aload_n hx hb dX6_change_0 rfl (lv_at hl 0 rfl) ?_
  refine lv_iload_n hx hb dX6_change_1 rfl (lv_at hl 1 rfl) ?_
  refine g_xv (K := (kBelow (f 3) x1)) (Kc := (kBelow (f 3) x1)) (vx_runV (C := RX6) (As := [.int x1]) (rest := []) S0 (c_X6_requireChange l hfl G _ z r f hP x1) (cwV 1 hts gX6_change_X6_requireChange rfl rfl rfl (by decide +kernel) ⟨Nat.le_of_ble_eq_true rfl, Nat.le_of_ble_eq_true rfl⟩) (g_preXV hK hX hP (q0 := 0) (ci := 6) (q := (RX6, TX6, 7)) rfl rfl) rfl rfl hl.1 rfl (lv_room (Nat.le_of_ble_eq_true rfl)) dX6_change_2 ⟨Nat.le_of_ble_eq_true rfl, Nat.le_of_ble_eq_true rfl⟩) hS hexc hlocks (fun c_1 => by have hk9 : (kBelow (f 3) x1) = (kBelow (f 3) x1) := (by first | with_reducible rfl | (simp only [c_1, kT, eq_self, ↓reduceIte, Bool.false_eq_true]; done) | (simp only [c_1, kT, eq_self, ↓reduceIte, Bool.false_eq_true]; rfl) | (simp [kT, c_1]; done)); exact ⟨by rw [hk9]; exact c_1, by rw [hk9]⟩) ⟨Nat.le_of_ble_eq_true rfl, Nat.le_of_ble_eq_true rfl⟩ (fun c_1 locs hS => ?_)
  refine lv_aload_n hx hb dX6_change_5 rfl (lv_at hl 0 rfl) ?_
  refine va_get (D := G.1) (ci := 6) (v := .ref (z 3)) (C := RX6) (T := TX6) (N := 7) hx hb hts hinX6 hown hK.1 hP 0 rfl rfl 2 (by decide) (hts (.fieldLink RX6 26 "Rotaforge" "changeLog" "LRotaforge$ChangeLog;") (by decide +kernel)) (fun _ h9 => h9) rfl dX6_change_6 ?_
  refine lv_iload_n hx hb dX6_change_9 rfl (lv_at hl 1 rfl) ?_
  refine g_callC (W.runV (C := RX0) (As := [.int x1]) (rest := []) S0 (c_X0_subjectOf l G _ z r f hP x1) (cwV 1 hts gX6_change_X0_subjectOf rfl rfl rfl (by decide +kernel) ⟨Nat.le_of_ble_eq_true rfl, Nat.le_of_ble_eq_true rfl⟩) (g_preV hK hP (q0 := 3) (ci := 0) (q := (RX0, TX0, 7)) rfl rfl) rfl rfl hl.1 rfl (lv_room (Nat.le_of_ble_eq_true rfl)) dX6_change_10 ⟨Nat.le_of_ble_eq_true rfl, Nat.le_of_ble_eq_true rfl⟩) ?_
  refine lv_istore_n (lv' := [(2, .int (rAt 200 (r 7) x1)), (0, .ref (z 0)), (1, .int x1)]) hx hb dX6_change_13 rfl hl (by decide) rfl (fun ls hl => ?_)
  refine lv_sipush (v := nI 10000) hx hb dX6_change_14 (by decide +kernel) ?_
  refine lv_aload_n hx hb dX6_change_17 rfl (lv_at hl 1 rfl) ?_
  refine va_get (D := G.1) (ci := 6) (v := .ref (z 3)) (C := RX6) (T := TX6) (N := 7) hx hb hts hinX6 hown hK.1 hP 0 rfl rfl 2 (by decide) (hts (.fieldLink RX6 26 "Rotaforge" "changeLog" "LRotaforge$ChangeLog;") (by decide +kernel)) (fun _ h9 => h9) rfl dX6_change_18 ?_
  refine lv_iload_n hx hb dX6_change_21 rfl (lv_at hl 2 rfl) ?_
  refine g_callC (W.runV (C := RX0) (As := [.int x1]) (rest := [.int (nI 10000)]) S0 (c_X0_personOf l G _ z r f hP x1) (cwV 1 hts gX6_change_X0_personOf rfl rfl rfl (by decide +kernel) ⟨Nat.le_of_ble_eq_true rfl, Nat.le_of_ble_eq_true rfl⟩) (g_preV hK hP (q0 := 3) (ci := 0) (q := (RX0, TX0, 7)) rfl rfl) rfl rfl hl.1 rfl (lv_room (Nat.le_of_ble_eq_true rfl)) dX6_change_22 ⟨Nat.le_of_ble_eq_true rfl, Nat.le_of_ble_eq_true rfl⟩) ?_
  refine lv_imul hx hb dX6_change_25 ?_
  refine lv_aload_n hx hb dX6_change_26 rfl (lv_at hl 1 rfl) ?_
  refine va_get (D := G.1) (ci := 6) (v := .ref (z 3)) (C := RX6) (T := TX6) (N := 7) hx hb hts hinX6 hown hK.1 hP 0 rfl rfl 2 (by decide) (hts (.fieldLink RX6 26 "Rotaforge" "changeLog" "LRotaforge$ChangeLog;") (by decide +kernel)) (fun _ h9 => h9) rfl dX6_change_27 ?_
  refine lv_iload_n hx hb dX6_change_30 rfl (lv_at hl 2 rfl) ?_
  refine g_callC (W.runV (C := RX0) (As := [.int x1]) (rest := [.int ((nI 10000) * (rAt 200 (r 5) x1))]) S0 (c_X0_valueOf l G _ z r f hP x1) (cwV 1 hts gX6_change_X0_valueOf rfl rfl rfl (by decide +kernel) ⟨Nat.le_of_ble_eq_true rfl, Nat.le_of_ble_eq_true rfl⟩) (g_preV hK hP (q0 := 3) (ci := 0) (q := (RX0, TX0, 7)) rfl rfl) rfl rfl hl.1 rfl (lv_room (Nat.le_of_ble_eq_true rfl)) dX6_change_31 ⟨Nat.le_of_ble_eq_true rfl, Nat.le_of_ble_eq_true rfl⟩) ?_
  refine lv_iadd hx hb dX6_change_34 ?_
  refine lv_istore_n (lv' := [(3, .int (((nI 10000) * (rAt 200 (r 5) x1)) + (rAt 200 (r 8) x1))), (2, .int (rAt 200 (r 7) x1)), (0, .ref (z 0)), (1, .int x1)]) hx hb dX6_change_35 rfl hl (by decide) rfl (fun ls hl => ?_)
  refine lv_iload_n hx hb dX6_change_36 rfl (lv_at hl 1 rfl) ?_
  refine g_callC (W.runS (As := [.int (rAt 200 (r 7) x1)]) (rest := []) S0 (c_X6_isSwitch l G _ (rAt 200 (r 7) x1)) (va_cwS 1 hts gX6_change_X6_isSwitch rfl rfl rfl (by decide +kernel) ⟨Nat.le_of_ble_eq_true rfl, Nat.le_of_ble_eq_true rfl⟩) (g_preS hK) rfl rfl hl.1 rfl (lv_room (Nat.le_of_ble_eq_true rfl)) dX6_change_37 ⟨Nat.le_of_ble_eq_true rfl, Nat.le_of_ble_eq_true rfl⟩) ?_
  refine lv_if_eq (tgt := 50) hx hb dX6_change_40 (by decide) (fun c_2 => ?_) (fun c_2 => ?_)
  · have c_2 := b2i_f c_2
    refine lv_iload_n hx hb dX6_change_50 rfl (lv_at hl 0 rfl) ?_
    refine lv_sipush (v := nI 1000) hx hb dX6_change_51 (by decide +kernel) ?_
    refine lv_iadd hx hb dX6_change_54 ?_
    refine lv_bipush (v := nI 100) hx hb dX6_change_55 (by decide +kernel) ?_
    refine lv_iload_n hx hb dX6_change_57 rfl (lv_at hl 1 rfl) ?_
    refine lv_bipush (v := nI 8) hx hb dX6_change_58 (by decide +kernel) ?_
    refine lv_isub hx hb dX6_change_60 ?_
    refine lv_imul hx hb dX6_change_61 ?_
    refine lv_iadd hx hb dX6_change_62 ?_
    have hq : (((((nI 10000) * (rAt 200 (r 5) x1)) + (rAt 200 (r 8) x1)) + (nI 1000)) + ((nI 100) * ((rAt 200 (r 7) x1) - (nI 8)))) = (cChange r x1) := by
      first | with_reducible rfl | with_reducible exact nI_add _ _ | (simp only [cChange, c_1, c_2, ↓reduceIte, Bool.false_eq_true, decide_true, decide_false, Bool.not_true, Bool.not_false, Bool.or_true, Bool.true_or, Bool.or_false, Bool.false_or]; done) | (simp only [cChange, c_1, c_2, ↓reduceIte, Bool.false_eq_true, decide_true, decide_false, Bool.not_true, Bool.not_false, Bool.or_true, Bool.true_or, Bool.or_false, Bool.false_or]; with_reducible rfl) | (simp only [cChange, c_1, c_2, ↓reduceIte, Bool.false_eq_true, decide_true, decide_false, Bool.not_true, Bool.not_false, Bool.or_true, Bool.true_or, Bool.or_false, Bool.false_or]; rfl) | (simp [b2i, cChange, c_1, c_2]; done) | rfl
    have hk0 : (kBelow (f 3) x1) = 0 := by
      first | with_reducible rfl | (simp only [c_1, c_2, kT, eq_self, ↓reduceIte, Bool.false_eq_true]; done) | (simp only [c_1, c_2, kT, eq_self, ↓reduceIte, Bool.false_eq_true]; rfl) | (simp [kT, c_1, c_2]; done)
    refine W.widen (k := 1) (n := 6) (Nat.le_of_ble_eq_true rfl) (Nat.le_of_ble_eq_true rfl) ?_
    refine vx_ret ?_
    exact W.iret (v := ((((nI 10000) * (rAt 200 (r 5) x1)) + (rAt 200 (r 8) x1)) + (nI 1000)) + ((nI 100) * ((rAt 200 (r 7) x1) - (nI 8)))) hx hb hr (fun t ht _ => ⟨⟨_, (), rfl, ⟨hk0, hq⟩, ht⟩, hS.F ht⟩) (fun z hz => (hS.2.2 z hz).elim) dX6_change_63
  · have c_2 := b2i_t c_2
    refine lv_iload_n hx hb dX6_change_43 rfl (lv_at hl 0 rfl) ?_
    refine lv_bipush (v := nI 100) hx hb dX6_change_44 (by decide +kernel) ?_
    refine lv_iload_n hx hb dX6_change_46 rfl (lv_at hl 1 rfl) ?_
    refine lv_imul hx hb dX6_change_47 ?_
    refine lv_iadd hx hb dX6_change_48 ?_
    have hq : ((((nI 10000) * (rAt 200 (r 5) x1)) + (rAt 200 (r 8) x1)) + ((nI 100) * (rAt 200 (r 7) x1))) = (cChange r x1) := by
      first | with_reducible rfl | with_reducible exact nI_add _ _ | (simp only [cChange, c_1, c_2, ↓reduceIte, Bool.false_eq_true, decide_true, decide_false, Bool.not_true, Bool.not_false, Bool.or_true, Bool.true_or, Bool.or_false, Bool.false_or]; done) | (simp only [cChange, c_1, c_2, ↓reduceIte, Bool.false_eq_true, decide_true, decide_false, Bool.not_true, Bool.not_false, Bool.or_true, Bool.true_or, Bool.or_false, Bool.false_or]; with_reducible rfl) | (simp only [cChange, c_1, c_2, ↓reduceIte, Bool.false_eq_true, decide_true, decide_false, Bool.not_true, Bool.not_false, Bool.or_true, Bool.true_or, Bool.or_false, Bool.false_or]; rfl) | (simp [b2i, cChange, c_1, c_2]; done) | rfl
    have hk0 : (kBelow (f 3) x1) = 0 := by
      first | with_reducible rfl | (simp only [c_1, c_2, kT, eq_self, ↓reduceIte, Bool.false_eq_true]; done) | (simp only [c_1, c_2, kT, eq_self, ↓reduceIte, Bool.false_eq_true]; rfl) | (simp [kT, c_1, c_2]; done)
    refine W.widen (k := 1) (n := 6) (Nat.le_of_ble_eq_true rfl) (Nat.le_of_ble_eq_true rfl) ?_
    refine vx_ret ?_
    exact W.iret (v := (((nI 10000) * (rAt 200 (r 5) x1)) + (rAt 200 (r 8) x1)) + ((nI 100) * (rAt 200 (r 7) x1))) hx hb hr (fun t ht _ => ⟨⟨_, (), rfl, ⟨hk0, hq⟩, ht⟩, hS.F ht⟩) (fun z hz => (hS.2.2 z hz).elim) dX6_change_49

set_option maxHeartbeats 4000000 in
set_option maxRecDepth 100000 in
theorem c_X6_madeAt (l : Launch) (hfl : l.stackTraces = false) (G : gG) (H0 : Heap) (z : Nat → Nat) (r : Nat → Nat → Int32) (f : Nat → Int32) (hP : va_P G.1 vwCl (wRF G z r f) H0) (x1 : Int32) : gMxr l yX6_madeAt wsX6_madeAt 7 111 1 G H0 [.ref (z 0), .int x1] (kBelow (f 3) x1) (rAt 200 (r 6) x1) := by
  refine vx_ofW (cc := cX6_madeAt) (maxL := 2) (ret := (some .int)) (by decide) rfl ?_
  intro p_ e_ s m args below meth c s₁ B hml hexc hv
  obtain ⟨rfl, rfl, hK, hX⟩ := hv
  have hx := B.exec
  have hb := B.bytes
  have hr := B.returns
  have hts := atoms_spec (ws := wsX6_madeAt) B.pre
  have hown : s.vm.findClass RX6 = some m.cls := findClass_of_methodNamed B.named
  have hlocks := B.notSynchronized
  have hinX6 : ∀ w ∈ wsX60, w ∈ wsX6_madeAt := by decide +kernel
  have S0 : CallFix p_ m c cX6_madeAt 2 s _ wsX6_madeAt RX6 := ⟨hx, hb, hml, hown, hts⟩
  have hS : va_S (fun _ => False) s.heap s.heap [] := va_S.rf
  have hl := lv_entry ([.ref (z 0), .int x1]) (n := 2) (Nat.le_of_ble_eq_true rfl)
  rw [lg_entry_eq]
  generalize (lg_sl ([.ref (z 0), .int x1]) ++ List.replicate (2 - (lg_sl ([.ref (z 0), .int x1])).length) Slot.unset).toArray = ls at hl ⊢
  have hl : lv_has ls 2 [(0, .ref (z 0)), (1, .int x1)] := hl
  refine lv_aload_n hx hb dX6_madeAt_0 rfl (lv_at hl 0 rfl) ?_
  refine lv_iload_n hx hb dX6_madeAt_1 rfl (lv_at hl 1 rfl) ?_
  refine g_xv (K := (kBelow (f 3) x1)) (Kc := (kBelow (f 3) x1)) (vx_runV (C := RX6) (As := [.int x1]) (rest := []) S0 (c_X6_requireChange l hfl G _ z r f hP x1) (cwV 1 hts gX6_madeAt_X6_requireChange rfl rfl rfl (by decide +kernel) ⟨Nat.le_of_ble_eq_true rfl, Nat.le_of_ble_eq_true rfl⟩) (g_preXV hK hX hP (q0 := 0) (ci := 6) (q := (RX6, TX6, 7)) rfl rfl) rfl rfl hl.1 rfl (lv_room (Nat.le_of_ble_eq_true rfl)) dX6_madeAt_2 ⟨Nat.le_of_ble_eq_true rfl, Nat.le_of_ble_eq_true rfl⟩) hS hexc hlocks (fun c_1 => by have hk9 : (kBelow (f 3) x1) = (kBelow (f 3) x1) := (by first | with_reducible rfl | (simp only [c_1, kT, eq_self, ↓reduceIte, Bool.false_eq_true]; done) | (simp only [c_1, kT, eq_self, ↓reduceIte, Bool.false_eq_true]; rfl) | (simp [kT, c_1]; done)); exact ⟨by rw [hk9]; exact c_1, by rw [hk9]⟩) ⟨Nat.le_of_ble_eq_true rfl, Nat.le_of_ble_eq_true rfl⟩ (fun c_1 locs hS => ?_)
  refine lv_aload_n hx hb dX6_madeAt_5 rfl (lv_at hl 0 rfl) ?_
  refine va_get (D := G.1) (ci := 6) (v := .ref (z 3)) (C := RX6) (T := TX6) (N := 7) hx hb hts hinX6 hown hK.1 hP 0 rfl rfl 2 (by decide) (hts (.fieldLink RX6 26 "Rotaforge" "changeLog" "LRotaforge$ChangeLog;") (by decide +kernel)) (fun _ h9 => h9) rfl dX6_madeAt_6 ?_
  refine lv_iload_n hx hb dX6_madeAt_9 rfl (lv_at hl 1 rfl) ?_
  refine g_callC (W.runV (C := RX0) (As := [.int x1]) (rest := []) S0 (c_X0_timeOf l G _ z r f hP x1) (cwV 1 hts gX6_madeAt_X0_timeOf rfl rfl rfl (by decide +kernel) ⟨Nat.le_of_ble_eq_true rfl, Nat.le_of_ble_eq_true rfl⟩) (g_preV hK hP (q0 := 3) (ci := 0) (q := (RX0, TX0, 7)) rfl rfl) rfl rfl hl.1 rfl (lv_room (Nat.le_of_ble_eq_true rfl)) dX6_madeAt_10 ⟨Nat.le_of_ble_eq_true rfl, Nat.le_of_ble_eq_true rfl⟩) ?_
  have hq : (rAt 200 (r 6) x1) = (rAt 200 (r 6) x1) := by
    first | with_reducible rfl | with_reducible exact nI_add _ _ | (simp only [c_1, ↓reduceIte, Bool.false_eq_true, decide_true, decide_false, Bool.not_true, Bool.not_false, Bool.or_true, Bool.true_or, Bool.or_false, Bool.false_or]; done) | (simp only [c_1, ↓reduceIte, Bool.false_eq_true, decide_true, decide_false, Bool.not_true, Bool.not_false, Bool.or_true, Bool.true_or, Bool.or_false, Bool.false_or]; with_reducible rfl) | (simp only [c_1, ↓reduceIte, Bool.false_eq_true, decide_true, decide_false, Bool.not_true, Bool.not_false, Bool.or_true, Bool.true_or, Bool.or_false, Bool.false_or]; rfl) | (simp [b2i, c_1]; done) | rfl
  have hk0 : (kBelow (f 3) x1) = 0 := by
    first | with_reducible rfl | (simp only [c_1, kT, eq_self, ↓reduceIte, Bool.false_eq_true]; done) | (simp only [c_1, kT, eq_self, ↓reduceIte, Bool.false_eq_true]; rfl) | (simp [kT, c_1]; done)
  refine W.widen (k := 1) (n := 6) (Nat.le_of_ble_eq_true rfl) (Nat.le_of_ble_eq_true rfl) ?_
  refine vx_ret ?_
  exact W.iret (v := rAt 200 (r 6) x1) hx hb hr (fun t ht _ => ⟨⟨_, (), rfl, ⟨hk0, hq⟩, ht⟩, hS.F ht⟩) (fun z hz => (hS.2.2 z hz).elim) dX6_madeAt_13

set_option maxHeartbeats 4000000 in
set_option maxRecDepth 100000 in
theorem c_X6_heals (l : Launch) (hfl : l.stackTraces = false) (G : gG) (H0 : Heap) (z : Nat → Nat) (r : Nat → Nat → Int32) (f : Nat → Int32) (hP : va_P G.1 vwCl (wRF G z r f) H0) (x1 : Int32) (x2 : Int32) : gMxr l yX6_heals wsX6_heals 7 111 2 G H0 [.ref (z 0), .int x1, .int x2] (kT (kBelow (f 3) x1) (kRing x2)) (b2i (cHeals r x1 x2)) := by
  refine vx_ofW (cc := cX6_heals) (maxL := 3) (ret := (some .boolean)) (by decide) rfl ?_
  intro p_ e_ s m args below meth c s₁ B hml hexc hv
  obtain ⟨rfl, rfl, hK, hX⟩ := hv
  have hx := B.exec
  have hb := B.bytes
  have hr := B.returns
  have hts := atoms_spec (ws := wsX6_heals) B.pre
  have hown : s.vm.findClass RX6 = some m.cls := findClass_of_methodNamed B.named
  have hlocks := B.notSynchronized
  have S0 : CallFix p_ m c cX6_heals 3 s _ wsX6_heals RX6 := ⟨hx, hb, hml, hown, hts⟩
  have hS : va_S (fun _ => False) s.heap s.heap [] := va_S.rf
  have hl := lv_entry ([.ref (z 0), .int x1, .int x2]) (n := 3) (Nat.le_of_ble_eq_true rfl)
  rw [lg_entry_eq]
  generalize (lg_sl ([.ref (z 0), .int x1, .int x2]) ++ List.replicate (3 - (lg_sl ([.ref (z 0), .int x1, .int x2])).length) Slot.unset).toArray = ls at hl ⊢
  have hl : lv_has ls 3 [(0, .ref (z 0)), (1, .int x1), (2, .int x2)] := hl
  refine lv_aload_n hx hb dX6_heals_0 rfl (lv_at hl 0 rfl) ?_
  refine lv_iload_n hx hb dX6_heals_1 rfl (lv_at hl 1 rfl) ?_
  refine g_xv (K := (kT (kBelow (f 3) x1) (kRing x2))) (Kc := (kBelow (f 3) x1)) (vx_runV (C := RX6) (As := [.int x1]) (rest := []) S0 (c_X6_requireChange l hfl G _ z r f hP x1) (cwV 1 hts gX6_heals_X6_requireChange rfl rfl rfl (by decide +kernel) ⟨Nat.le_of_ble_eq_true rfl, Nat.le_of_ble_eq_true rfl⟩) (g_preXV hK hX hP (q0 := 0) (ci := 6) (q := (RX6, TX6, 7)) rfl rfl) rfl rfl hl.1 rfl (lv_room (Nat.le_of_ble_eq_true rfl)) dX6_heals_2 ⟨Nat.le_of_ble_eq_true rfl, Nat.le_of_ble_eq_true rfl⟩) hS hexc hlocks (fun c_1 => by have hk9 : (kT (kBelow (f 3) x1) (kRing x2)) = (kBelow (f 3) x1) := (by first | with_reducible rfl | (simp only [c_1, kT, eq_self, ↓reduceIte, Bool.false_eq_true]; done) | (simp only [c_1, kT, eq_self, ↓reduceIte, Bool.false_eq_true]; rfl) | (simp [kT, c_1]; done)); exact ⟨by rw [hk9]; exact c_1, by rw [hk9]⟩) ⟨Nat.le_of_ble_eq_true rfl, Nat.le_of_ble_eq_true rfl⟩ (fun c_1 locs hS => ?_)
  refine lv_iload_n hx hb dX6_heals_5 rfl (lv_at hl 2 rfl) ?_
  refine g_xv (K := (kT (kBelow (f 3) x1) (kRing x2))) (Kc := (kRing x2)) (vx_runS (As := [.int x2]) (rest := []) S0 (c_X6_requireRing l hfl G _ x2) (va_cwS 1 hts gX6_heals_X6_requireRing rfl rfl rfl (by decide +kernel) ⟨Nat.le_of_ble_eq_true rfl, Nat.le_of_ble_eq_true rfl⟩) (g_preXS hK hX) rfl rfl hl.1 rfl (lv_room (Nat.le_of_ble_eq_true rfl)) dX6_heals_6 ⟨Nat.le_of_ble_eq_true rfl, Nat.le_of_ble_eq_true rfl⟩) hS hexc hlocks (fun c_2 => by have hk9 : (kT (kBelow (f 3) x1) (kRing x2)) = (kRing x2) := (by first | with_reducible rfl | (simp only [c_1, c_2, kT, eq_self, ↓reduceIte, Bool.false_eq_true]; done) | (simp only [c_1, c_2, kT, eq_self, ↓reduceIte, Bool.false_eq_true]; rfl) | (simp [kT, c_1, c_2]; done)); exact ⟨by rw [hk9]; exact c_2, by rw [hk9]⟩) ⟨Nat.le_of_ble_eq_true rfl, Nat.le_of_ble_eq_true rfl⟩ (fun c_2 locs hS => ?_)
  refine lv_aload_n hx hb dX6_heals_9 rfl (lv_at hl 0 rfl) ?_
  refine lv_iload_n hx hb dX6_heals_10 rfl (lv_at hl 2 rfl) ?_
  refine g_callC (W.runV (C := RX6) (As := [.int x2]) (rest := []) S0 (c_X6_showsFault l G _ z r f hP x2) (cwV 1 hts gX6_heals_X6_showsFault rfl rfl rfl (by decide +kernel) ⟨Nat.le_of_ble_eq_true rfl, Nat.le_of_ble_eq_true rfl⟩) (g_preV hK hP (q0 := 0) (ci := 6) (q := (RX6, TX6, 7)) rfl rfl) rfl rfl hl.1 rfl (lv_room (Nat.le_of_ble_eq_true rfl)) dX6_heals_11 ⟨Nat.le_of_ble_eq_true rfl, Nat.le_of_ble_eq_true rfl⟩) ?_
  refine lv_if_eq (tgt := 30) hx hb dX6_heals_14 (by decide) (fun c_3 => ?_) (fun c_3 => ?_)
  · have c_3 := b2i_f c_3
    refine lv_iconst (v := nI 0) hx hb dX6_heals_30 (by decide +kernel) ?_
    have hq : (nI 0) = (b2i (cHeals r x1 x2)) := by
      first | with_reducible rfl | with_reducible exact nI_add _ _ | (simp only [cHeals, c_1, c_2, c_3, ↓reduceIte, Bool.false_eq_true, decide_true, decide_false, Bool.not_true, Bool.not_false, Bool.or_true, Bool.true_or, Bool.or_false, Bool.false_or]; done) | (simp only [cHeals, c_1, c_2, c_3, ↓reduceIte, Bool.false_eq_true, decide_true, decide_false, Bool.not_true, Bool.not_false, Bool.or_true, Bool.true_or, Bool.or_false, Bool.false_or]; with_reducible rfl) | (simp only [cHeals, c_1, c_2, c_3, ↓reduceIte, Bool.false_eq_true, decide_true, decide_false, Bool.not_true, Bool.not_false, Bool.or_true, Bool.true_or, Bool.or_false, Bool.false_or]; rfl) | (simp [b2i, cHeals, c_1, c_2, c_3]; done) | rfl
    have hk0 : (kT (kBelow (f 3) x1) (kRing x2)) = 0 := by
      first | with_reducible rfl | (simp only [c_1, c_2, c_3, kT, eq_self, ↓reduceIte, Bool.false_eq_true]; done) | (simp only [c_1, c_2, c_3, kT, eq_self, ↓reduceIte, Bool.false_eq_true]; rfl) | (simp [kT, c_1, c_2, c_3]; done)
    refine W.widen (k := 2) (n := 12) (Nat.le_of_ble_eq_true rfl) (Nat.le_of_ble_eq_true rfl) ?_
    refine vx_ret ?_
    exact W.zret (v := nI 0) hx hb hr (z_nar hq) (fun t ht _ => ⟨⟨_, (), rfl, ⟨hk0, hq⟩, ht⟩, hS.F ht⟩) (fun z hz => (hS.2.2 z hz).elim) dX6_heals_31
  · have c_3 := b2i_t c_3
    refine lv_aload_n hx hb dX6_heals_17 rfl (lv_at hl 0 rfl) ?_
    refine lv_iload_n hx hb dX6_heals_18 rfl (lv_at hl 1 rfl) ?_
    refine lv_iload_n hx hb dX6_heals_19 rfl (lv_at hl 2 rfl) ?_
    refine g_callC (W.runV (C := RX6) (As := [.int x1, .int x2]) (rest := []) S0 (c_X6_showsFaultWithout l G _ z r f hP x1 x2) (cwV 2 hts gX6_heals_X6_showsFaultWithout rfl rfl rfl (by decide +kernel) ⟨Nat.le_of_ble_eq_true rfl, Nat.le_of_ble_eq_true rfl⟩) (g_preV hK hP (q0 := 0) (ci := 6) (q := (RX6, TX6, 7)) rfl rfl) rfl rfl hl.1 rfl (lv_room (Nat.le_of_ble_eq_true rfl)) dX6_heals_20 ⟨Nat.le_of_ble_eq_true rfl, Nat.le_of_ble_eq_true rfl⟩) ?_
    refine lv_if_ne (tgt := 30) hx hb dX6_heals_23 (by decide) (fun c_4 => ?_) (fun c_4 => ?_)
    · have c_4 := b2i_t c_4
      refine lv_iconst (v := nI 0) hx hb dX6_heals_30 (by decide +kernel) ?_
      have hq : (nI 0) = (b2i (cHeals r x1 x2)) := by
        first | with_reducible rfl | with_reducible exact nI_add _ _ | (simp only [cHeals, c_1, c_2, c_3, c_4, ↓reduceIte, Bool.false_eq_true, decide_true, decide_false, Bool.not_true, Bool.not_false, Bool.or_true, Bool.true_or, Bool.or_false, Bool.false_or]; done) | (simp only [cHeals, c_1, c_2, c_3, c_4, ↓reduceIte, Bool.false_eq_true, decide_true, decide_false, Bool.not_true, Bool.not_false, Bool.or_true, Bool.true_or, Bool.or_false, Bool.false_or]; with_reducible rfl) | (simp only [cHeals, c_1, c_2, c_3, c_4, ↓reduceIte, Bool.false_eq_true, decide_true, decide_false, Bool.not_true, Bool.not_false, Bool.or_true, Bool.true_or, Bool.or_false, Bool.false_or]; rfl) | (simp [b2i, cHeals, c_1, c_2, c_3, c_4]; done) | rfl
      have hk0 : (kT (kBelow (f 3) x1) (kRing x2)) = 0 := by
        first | with_reducible rfl | (simp only [c_1, c_2, c_3, c_4, kT, eq_self, ↓reduceIte, Bool.false_eq_true]; done) | (simp only [c_1, c_2, c_3, c_4, kT, eq_self, ↓reduceIte, Bool.false_eq_true]; rfl) | (simp [kT, c_1, c_2, c_3, c_4]; done)
      refine W.widen (k := 2) (n := 12) (Nat.le_of_ble_eq_true rfl) (Nat.le_of_ble_eq_true rfl) ?_
      refine vx_ret ?_
      exact W.zret (v := nI 0) hx hb hr (z_nar hq) (fun t ht _ => ⟨⟨_, (), rfl, ⟨hk0, hq⟩, ht⟩, hS.F ht⟩) (fun z hz => (hS.2.2 z hz).elim) dX6_heals_31
    · have c_4 := b2i_f c_4
      refine lv_iconst (v := nI 1) hx hb dX6_heals_26 (by decide +kernel) ?_
      refine lv_goto (tgt := 31) hx hb dX6_heals_27 (by decide) ?_
      have hq : (nI 1) = (b2i (cHeals r x1 x2)) := by
        first | with_reducible rfl | with_reducible exact nI_add _ _ | (simp only [cHeals, c_1, c_2, c_3, c_4, ↓reduceIte, Bool.false_eq_true, decide_true, decide_false, Bool.not_true, Bool.not_false, Bool.or_true, Bool.true_or, Bool.or_false, Bool.false_or]; done) | (simp only [cHeals, c_1, c_2, c_3, c_4, ↓reduceIte, Bool.false_eq_true, decide_true, decide_false, Bool.not_true, Bool.not_false, Bool.or_true, Bool.true_or, Bool.or_false, Bool.false_or]; with_reducible rfl) | (simp only [cHeals, c_1, c_2, c_3, c_4, ↓reduceIte, Bool.false_eq_true, decide_true, decide_false, Bool.not_true, Bool.not_false, Bool.or_true, Bool.true_or, Bool.or_false, Bool.false_or]; rfl) | (simp [b2i, cHeals, c_1, c_2, c_3, c_4]; done) | rfl
      have hk0 : (kT (kBelow (f 3) x1) (kRing x2)) = 0 := by
        first | with_reducible rfl | (simp only [c_1, c_2, c_3, c_4, kT, eq_self, ↓reduceIte, Bool.false_eq_true]; done) | (simp only [c_1, c_2, c_3, c_4, kT, eq_self, ↓reduceIte, Bool.false_eq_true]; rfl) | (simp [kT, c_1, c_2, c_3, c_4]; done)
      refine W.widen (k := 2) (n := 12) (Nat.le_of_ble_eq_true rfl) (Nat.le_of_ble_eq_true rfl) ?_
      refine vx_ret ?_
      exact W.zret (v := nI 1) hx hb hr (z_nar hq) (fun t ht _ => ⟨⟨_, (), rfl, ⟨hk0, hq⟩, ht⟩, hS.F ht⟩) (fun z hz => (hS.2.2 z hz).elim) dX6_heals_31

set_option maxHeartbeats 4000000 in
set_option maxRecDepth 100000 in
theorem c_X6_trace (l : Launch) (hfl : l.stackTraces = false) (G : gG) (H0 : Heap) (z : Nat → Nat) (r : Nat → Nat → Int32) (f : Nat → Int32) (hP : va_P G.1 vwCl (wRF G z r f) H0) (x1 : Int32) : gMxr l yX6_trace wsX6_trace 7 117 1 G H0 [.ref (z 0), .int x1] (kRing x1) (cLatest r x1) := by
  refine vx_ofW (cc := cX6_trace) (maxL := 2) (ret := (some .int)) (by decide) rfl ?_
  intro p_ e_ s m args below meth c s₁ B hml hexc hv
  obtain ⟨rfl, rfl, hK, hX⟩ := hv
  have hx := B.exec
  have hb := B.bytes
  have hr := B.returns
  have hts := atoms_spec (ws := wsX6_trace) B.pre
  have hown : s.vm.findClass RX6 = some m.cls := findClass_of_methodNamed B.named
  have hlocks := B.notSynchronized
  have S0 : CallFix p_ m c cX6_trace 2 s _ wsX6_trace RX6 := ⟨hx, hb, hml, hown, hts⟩
  have hS : va_S (fun _ => False) s.heap s.heap [] := va_S.rf
  have hl := lv_entry ([.ref (z 0), .int x1]) (n := 2) (Nat.le_of_ble_eq_true rfl)
  rw [lg_entry_eq]
  generalize (lg_sl ([.ref (z 0), .int x1]) ++ List.replicate (2 - (lg_sl ([.ref (z 0), .int x1])).length) Slot.unset).toArray = ls at hl ⊢
  have hl : lv_has ls 2 [(0, .ref (z 0)), (1, .int x1)] := hl
  refine lv_iload_n hx hb dX6_trace_0 rfl (lv_at hl 1 rfl) ?_
  refine g_xv (K := (kRing x1)) (Kc := (kRing x1)) (vx_runS (As := [.int x1]) (rest := []) S0 (c_X6_requireRing l hfl G _ x1) (va_cwS 1 hts gX6_trace_X6_requireRing rfl rfl rfl (by decide +kernel) ⟨Nat.le_of_ble_eq_true rfl, Nat.le_of_ble_eq_true rfl⟩) (g_preXS hK hX) rfl rfl hl.1 rfl (lv_room (Nat.le_of_ble_eq_true rfl)) dX6_trace_1 ⟨Nat.le_of_ble_eq_true rfl, Nat.le_of_ble_eq_true rfl⟩) hS hexc hlocks (fun c_1 => by have hk9 : (kRing x1) = (kRing x1) := (by first | with_reducible rfl | (simp only [c_1, kT, eq_self, ↓reduceIte, Bool.false_eq_true]; done) | (simp only [c_1, kT, eq_self, ↓reduceIte, Bool.false_eq_true]; rfl) | (simp [kT, c_1]; done)); exact ⟨by rw [hk9]; exact c_1, by rw [hk9]⟩) ⟨Nat.le_of_ble_eq_true rfl, Nat.le_of_ble_eq_true rfl⟩ (fun c_1 locs hS => ?_)
  refine lv_aload_n hx hb dX6_trace_4 rfl (lv_at hl 0 rfl) ?_
  refine lv_iload_n hx hb dX6_trace_5 rfl (lv_at hl 1 rfl) ?_
  refine g_callC (W.runV (C := RX6) (As := [.int x1]) (rest := []) S0 (c_X6_latestHealing l G _ z r f hP x1) (cwV 1 hts gX6_trace_X6_latestHealing rfl rfl rfl (by decide +kernel) ⟨Nat.le_of_ble_eq_true rfl, Nat.le_of_ble_eq_true rfl⟩) (g_preV hK hP (q0 := 0) (ci := 6) (q := (RX6, TX6, 7)) rfl rfl) rfl rfl hl.1 rfl (lv_room (Nat.le_of_ble_eq_true rfl)) dX6_trace_6 ⟨Nat.le_of_ble_eq_true rfl, Nat.le_of_ble_eq_true rfl⟩) ?_
  have hq : (cLatest r x1) = (cLatest r x1) := by
    first | with_reducible rfl | with_reducible exact nI_add _ _ | (simp only [c_1, ↓reduceIte, Bool.false_eq_true, decide_true, decide_false, Bool.not_true, Bool.not_false, Bool.or_true, Bool.true_or, Bool.or_false, Bool.false_or]; done) | (simp only [c_1, ↓reduceIte, Bool.false_eq_true, decide_true, decide_false, Bool.not_true, Bool.not_false, Bool.or_true, Bool.true_or, Bool.or_false, Bool.false_or]; with_reducible rfl) | (simp only [c_1, ↓reduceIte, Bool.false_eq_true, decide_true, decide_false, Bool.not_true, Bool.not_false, Bool.or_true, Bool.true_or, Bool.or_false, Bool.false_or]; rfl) | (simp [b2i, c_1]; done) | rfl
  have hk0 : (kRing x1) = 0 := by
    first | with_reducible rfl | (simp only [c_1, kT, eq_self, ↓reduceIte, Bool.false_eq_true]; done) | (simp only [c_1, kT, eq_self, ↓reduceIte, Bool.false_eq_true]; rfl) | (simp [kT, c_1]; done)
  refine W.widen (k := 1) (n := 6) (Nat.le_of_ble_eq_true rfl) (Nat.le_of_ble_eq_true rfl) ?_
  refine vx_ret ?_
  exact W.iret (v := cLatest r x1) hx hb hr (fun t ht _ => ⟨⟨_, (), rfl, ⟨hk0, hq⟩, ht⟩, hS.F ht⟩) (fun z hz => (hS.2.2 z hz).elim) dX6_trace_9

set_option maxHeartbeats 4000000 in
set_option maxRecDepth 100000 in
theorem c_X6_traceByTrying (l : Launch) (hfl : l.stackTraces = false) (G : gG) (H0 : Heap) (z : Nat → Nat) (r : Nat → Nat → Int32) (f : Nat → Int32) (hP : va_P G.1 vwCl (wRF G z r f) H0) (x1 : Int32) (n : Nat) (hn9 : f 3 = nI n) (hn8 : n ≤ 200) : gMxr l yX6_traceByTrying wsX6_traceByTrying 7 110 1 G H0 [.ref (z 0), .int x1] (kRing x1) (cTry r n x1) := by
  refine vx_ofW (cc := cX6_traceByTrying) (maxL := 3) (ret := (some .int)) (by decide) rfl ?_
  intro p_ e_ s m args below meth c s₁ B hml hexc hv
  obtain ⟨rfl, rfl, hK, hX⟩ := hv
  have hx := B.exec
  have hb := B.bytes
  have hr := B.returns
  have hts := atoms_spec (ws := wsX6_traceByTrying) B.pre
  have hown : s.vm.findClass RX6 = some m.cls := findClass_of_methodNamed B.named
  have hlocks := B.notSynchronized
  have hinX6 : ∀ w ∈ wsX60, w ∈ wsX6_traceByTrying := by decide +kernel
  have S0 : CallFix p_ m c cX6_traceByTrying 3 s _ wsX6_traceByTrying RX6 := ⟨hx, hb, hml, hown, hts⟩
  have hS : va_S (fun _ => False) s.heap s.heap [] := va_S.rf
  have hl := lv_entry ([.ref (z 0), .int x1]) (n := 3) (Nat.le_of_ble_eq_true rfl)
  rw [lg_entry_eq]
  generalize (lg_sl ([.ref (z 0), .int x1]) ++ List.replicate (3 - (lg_sl ([.ref (z 0), .int x1])).length) Slot.unset).toArray = ls at hl ⊢
  have hl : lv_has ls 3 [(0, .ref (z 0)), (1, .int x1)] := hl
  refine lv_iload_n hx hb dX6_traceByTrying_0 rfl (lv_at hl 1 rfl) ?_
  refine g_xv (K := (kRing x1)) (Kc := (kRing x1)) (vx_runS (As := [.int x1]) (rest := []) S0 (c_X6_requireRing l hfl G _ x1) (va_cwS 1 hts gX6_traceByTrying_X6_requireRing rfl rfl rfl (by decide +kernel) ⟨Nat.le_of_ble_eq_true rfl, Nat.le_of_ble_eq_true rfl⟩) (g_preXS hK hX) rfl rfl hl.1 rfl (lv_room (Nat.le_of_ble_eq_true rfl)) dX6_traceByTrying_1 ⟨Nat.le_of_ble_eq_true rfl, Nat.le_of_ble_eq_true rfl⟩) hS hexc hlocks (fun c_1 => by have hk9 : (kRing x1) = (kRing x1) := (by first | with_reducible rfl | (simp only [c_1, kT, eq_self, ↓reduceIte, Bool.false_eq_true]; done) | (simp only [c_1, kT, eq_self, ↓reduceIte, Bool.false_eq_true]; rfl) | (simp [kT, c_1]; done)); exact ⟨by rw [hk9]; exact c_1, by rw [hk9]⟩) ⟨Nat.le_of_ble_eq_true rfl, Nat.le_of_ble_eq_true rfl⟩ (fun c_1 locs hS => ?_)
  refine lv_aload_n hx hb dX6_traceByTrying_4 rfl (lv_at hl 0 rfl) ?_
  refine lv_iload_n hx hb dX6_traceByTrying_5 rfl (lv_at hl 1 rfl) ?_
  refine g_callC (W.runV (C := RX6) (As := [.int x1]) (rest := []) S0 (c_X6_showsFault l G _ z r f hP x1) (cwV 1 hts gX6_traceByTrying_X6_showsFault rfl rfl rfl (by decide +kernel) ⟨Nat.le_of_ble_eq_true rfl, Nat.le_of_ble_eq_true rfl⟩) (g_preV hK hP (q0 := 0) (ci := 6) (q := (RX6, TX6, 7)) rfl rfl) rfl rfl hl.1 rfl (lv_room (Nat.le_of_ble_eq_true rfl)) dX6_traceByTrying_6 ⟨Nat.le_of_ble_eq_true rfl, Nat.le_of_ble_eq_true rfl⟩) ?_
  refine lv_if_ne (tgt := 14) hx hb dX6_traceByTrying_9 (by decide) (fun c_2 => ?_) (fun c_2 => ?_)
  · have c_2 := b2i_t c_2
    refine lv_aload_n hx hb dX6_traceByTrying_14 rfl (lv_at hl 0 rfl) ?_
    refine va_get (D := G.1) (ci := 6) (v := .ref (z 3)) (C := RX6) (T := TX6) (N := 7) hx hb hts hinX6 hown hK.1 hP 0 rfl rfl 2 (by decide) (hts (.fieldLink RX6 26 "Rotaforge" "changeLog" "LRotaforge$ChangeLog;") (by decide +kernel)) (fun _ h9 => h9) rfl dX6_traceByTrying_15 ?_
    refine g_callC (W.runV (C := RX0) (As := []) (rest := []) S0 (c_X0_total l G _ z r f hP) (cwV 0 hts gX6_traceByTrying_X0_total rfl rfl rfl (by decide +kernel) ⟨Nat.le_of_ble_eq_true rfl, Nat.le_of_ble_eq_true rfl⟩) (g_preV hK hP (q0 := 3) (ci := 0) (q := (RX0, TX0, 7)) rfl rfl) rfl rfl hl.1 rfl (lv_room (Nat.le_of_ble_eq_true rfl)) dX6_traceByTrying_18 ⟨Nat.le_of_ble_eq_true rfl, Nat.le_of_ble_eq_true rfl⟩) ?_
    refine lv_iconst (v := nI 1) hx hb dX6_traceByTrying_21 (by decide +kernel) ?_
    refine lv_isub hx hb dX6_traceByTrying_22 ?_
    refine lv_istore_n (lv' := [(2, .int ((f 3) - (nI 1))), (0, .ref (z 0)), (1, .int x1)]) hx hb dX6_traceByTrying_23 rfl hl (by decide) rfl (fun ls hl => ?_)
    refine g_loop _ m 24 3 [] (n) (fun i => [(2, .int (nI (n - i) - nI 1)), (0, .ref (z 0)), (1, .int x1)]) (fun i => ∀ j, n - i ≤ j → j < n → (fun j => !cFW r (nI j) x1) j = false) (fun i hi24 hI ih24 ls hl => ?_) 0 (Nat.zero_le _) (by intro j h1 h2; omega) ls ?_
    · have hl : lv_has ls 3 [(2, .int (nI (n - i) - nI 1)), (0, .ref (z 0)), (1, .int x1)] := hl
      have hI : ∀ j, n - i ≤ j → j < n → (fun j => !cFW r (nI j) x1) j = false := hI
      refine lv_iload_n hx hb dX6_traceByTrying_24 rfl (lv_at hl 0 rfl) ?_
      refine lv_if_lt (tgt := 45) hx hb dX6_traceByTrying_25 (by decide) (fun c_3 => ?_) (fun c_3 => ?_)
      · have hex : n = i := by
          have h9 : ¬ 0 < n - i := fun h => absurd c_3 (by rw [show n - i = (n - i - 1) + 1 from by omega, ← nI_add, show nI (n - i - 1) + nI 1 - nI 1 = nI (n - i - 1) from by simp]; exact nI_pos (by omega))
          omega
        have hN : lastN n (fun j => !cFW r (nI j) x1) = -1 := lastN_none (fun j hj => hI j (by omega) hj)
        refine lv_iconst (v := (-1)) hx hb dX6_traceByTrying_45 (by decide +kernel) ?_
        have hq : (-1) = (cTry r n x1) := by
          simp only [cTry, c_1, c_2, c_3, ↓reduceIte]
          exact hN.symm
        have hk0 : (kRing x1) = 0 := by
          first | with_reducible rfl | (simp only [c_1, c_2, c_3, kT, eq_self, ↓reduceIte, Bool.false_eq_true]; done) | (simp only [c_1, c_2, c_3, kT, eq_self, ↓reduceIte, Bool.false_eq_true]; rfl) | (simp [kT, c_1, c_2, c_3]; done)
        refine W.widen (k := 1) (n := 6) (Nat.le_of_ble_eq_true rfl) (Nat.le_of_ble_eq_true rfl) ?_
        refine vx_ret ?_
        exact W.iret (v := (-1)) hx hb hr (fun t ht _ => ⟨⟨_, (), rfl, ⟨hk0, hq⟩, ht⟩, hS.F ht⟩) (fun z hz => (hS.2.2 z hz).elim) dX6_traceByTrying_46
      · have hlt : i < n := by
          have h9 : ¬ i = n := fun h => c_3 (by subst h; rw [Nat.sub_self]; decide)
          omega
        have eR : nI (n - i) - nI 1 = nI (n - i - 1) := by rw [show n - i = (n - i - 1) + 1 from by omega, ← nI_add]; simp
        rw [eR] at hl
        refine lv_aload_n hx hb dX6_traceByTrying_28 rfl (lv_at hl 1 rfl) ?_
        refine lv_iload_n hx hb dX6_traceByTrying_29 rfl (lv_at hl 0 rfl) ?_
        refine lv_iload_n hx hb dX6_traceByTrying_30 rfl (lv_at hl 2 rfl) ?_
        refine g_callC (W.runV (C := RX6) (As := [.int (nI (n - i - 1)), .int x1]) (rest := []) S0 (c_X6_showsFaultWithout l G _ z r f hP (nI (n - i - 1)) x1) (cwV 2 hts gX6_traceByTrying_X6_showsFaultWithout rfl rfl rfl (by decide +kernel) ⟨Nat.le_of_ble_eq_true rfl, Nat.le_of_ble_eq_true rfl⟩) (g_preV hK hP (q0 := 0) (ci := 6) (q := (RX6, TX6, 7)) rfl rfl) rfl rfl hl.1 rfl (lv_room (Nat.le_of_ble_eq_true rfl)) dX6_traceByTrying_31 ⟨Nat.le_of_ble_eq_true rfl, Nat.le_of_ble_eq_true rfl⟩) ?_
        refine lv_if_ne (tgt := 39) hx hb dX6_traceByTrying_34 (by decide) (fun c_4 => ?_) (fun c_4 => ?_)
        · have c_4 := b2i_t c_4
          refine lv_iinc (v := (nI (n - i - 1)) + (-1)) (lv' := [(2, .int ((nI (n - i - 1)) + (-1))), (0, .ref (z 0)), (1, .int x1)]) hx hb dX6_traceByTrying_39 hl (k := 0) rfl (congrArg (fun q : Int32 => (nI (n - i - 1)) + q) (by decide +kernel)) (by decide) rfl (fun ls hl => ?_)
          refine lv_goto (tgt := 24) hx hb dX6_traceByTrying_42 (by decide) ?_
          exact ih24 _ (by omega) (by intro j h1 h2; exact if h3 : j = n - i - 1 then (by rw [h3]; simp only [c_1, c_2, c_3, c_4, Bool.not_true]) else hI j (by omega) h2) (lv_cv (show lv_has ls 3 [(2, .int ((nI (n - i - 1)) + (-1))), (0, .ref (z 0)), (1, .int x1)] from lv_sub hl [0, 1, 2] rfl) (gl_i (show (nI (n - i - 1)) + (-1) = nI (n - (i + 1)) - nI 1 by rw [show n - (i + 1) = n - i - 1 from by omega]; exact x_m1 _) (gl_s (gl_s rfl))))
        · have c_4 := b2i_f c_4
          refine lv_iload_n hx hb dX6_traceByTrying_37 rfl (lv_at hl 0 rfl) ?_
          have hq : (nI (n - i - 1)) = (cTry r n x1) := by
            have hN : lastN n (fun j => !cFW r (nI j) x1) = nI (n - i - 1) := lastN_eq (by omega) (by simp only [c_1, c_2, c_3, c_4, Bool.not_false]) (fun j h1 h2 => hI j (by omega) h2)
            simp only [cTry, c_1, c_2, c_3, c_4, ↓reduceIte]
            exact hN.symm
          have hk0 : (kRing x1) = 0 := by
            first | with_reducible rfl | (simp only [c_1, c_2, c_3, c_4, kT, eq_self, ↓reduceIte, Bool.false_eq_true]; done) | (simp only [c_1, c_2, c_3, c_4, kT, eq_self, ↓reduceIte, Bool.false_eq_true]; rfl) | (simp [kT, c_1, c_2, c_3, c_4]; done)
          refine W.widen (k := 1) (n := 6) (Nat.le_of_ble_eq_true rfl) (Nat.le_of_ble_eq_true rfl) ?_
          refine vx_ret ?_
          exact W.iret (v := nI (n - i - 1)) hx hb hr (fun t ht _ => ⟨⟨_, (), rfl, ⟨hk0, hq⟩, ht⟩, hS.F ht⟩) (fun z hz => (hS.2.2 z hz).elim) dX6_traceByTrying_38
    · exact (lv_cv (show lv_has ls 3 [(2, .int ((f 3) - (nI 1))), (0, .ref (z 0)), (1, .int x1)] from lv_sub hl [0, 1, 2] rfl) (gl_i (show (f 3) - (nI 1) = nI (n - 0) - nI 1 by rw [Nat.sub_zero, hn9]) (gl_s (gl_s rfl))))
  · have c_2 := b2i_f c_2
    refine lv_iconst (v := (-1)) hx hb dX6_traceByTrying_12 (by decide +kernel) ?_
    have hq : (-1) = (cTry r n x1) := by
      first | with_reducible rfl | with_reducible exact nI_add _ _ | (simp only [cTry, c_1, c_2, ↓reduceIte, Bool.false_eq_true, decide_true, decide_false, Bool.not_true, Bool.not_false, Bool.or_true, Bool.true_or, Bool.or_false, Bool.false_or]; done) | (simp only [cTry, c_1, c_2, ↓reduceIte, Bool.false_eq_true, decide_true, decide_false, Bool.not_true, Bool.not_false, Bool.or_true, Bool.true_or, Bool.or_false, Bool.false_or]; with_reducible rfl) | (simp only [cTry, c_1, c_2, ↓reduceIte, Bool.false_eq_true, decide_true, decide_false, Bool.not_true, Bool.not_false, Bool.or_true, Bool.true_or, Bool.or_false, Bool.false_or]; rfl) | (simp [b2i, cTry, c_1, c_2]; done) | rfl
    have hk0 : (kRing x1) = 0 := by
      first | with_reducible rfl | (simp only [c_1, c_2, kT, eq_self, ↓reduceIte, Bool.false_eq_true]; done) | (simp only [c_1, c_2, kT, eq_self, ↓reduceIte, Bool.false_eq_true]; rfl) | (simp [kT, c_1, c_2]; done)
    refine W.widen (k := 1) (n := 6) (Nat.le_of_ble_eq_true rfl) (Nat.le_of_ble_eq_true rfl) ?_
    refine vx_ret ?_
    exact W.iret (v := (-1)) hx hb hr (fun t ht _ => ⟨⟨_, (), rfl, ⟨hk0, hq⟩, ht⟩, hS.F ht⟩) (fun z hz => (hS.2.2 z hz).elim) dX6_traceByTrying_13

set_option maxHeartbeats 4000000 in
set_option maxRecDepth 100000 in
theorem c_X6_openIn (l : Launch) (hfl : l.stackTraces = false) (G : gG) (H0 : Heap) (z : Nat → Nat) (r : Nat → Nat → Int32) (f : Nat → Int32) (hP : va_P G.1 vwCl (wRF G z r f) H0) (x1 : Int32) : gMxr l yX6_openIn wsX6_openIn 7 110 1 G H0 [.ref (z 0), .int x1] (kRing x1) (rAt 4 (r 16) x1) := by
  refine vx_ofW (cc := cX6_openIn) (maxL := 2) (ret := (some .int)) (by decide) rfl ?_
  intro p_ e_ s m args below meth c s₁ B hml hexc hv
  obtain ⟨rfl, rfl, hK, hX⟩ := hv
  have hx := B.exec
  have hb := B.bytes
  have hr := B.returns
  have hts := atoms_spec (ws := wsX6_openIn) B.pre
  have hown : s.vm.findClass RX6 = some m.cls := findClass_of_methodNamed B.named
  have hlocks := B.notSynchronized
  have hinX6 : ∀ w ∈ wsX60, w ∈ wsX6_openIn := by decide +kernel
  have S0 : CallFix p_ m c cX6_openIn 2 s _ wsX6_openIn RX6 := ⟨hx, hb, hml, hown, hts⟩
  have hS : va_S (fun _ => False) s.heap s.heap [] := va_S.rf
  have hl := lv_entry ([.ref (z 0), .int x1]) (n := 2) (Nat.le_of_ble_eq_true rfl)
  rw [lg_entry_eq]
  generalize (lg_sl ([.ref (z 0), .int x1]) ++ List.replicate (2 - (lg_sl ([.ref (z 0), .int x1])).length) Slot.unset).toArray = ls at hl ⊢
  have hl : lv_has ls 2 [(0, .ref (z 0)), (1, .int x1)] := hl
  refine lv_iload_n hx hb dX6_openIn_0 rfl (lv_at hl 1 rfl) ?_
  refine g_xv (K := (kRing x1)) (Kc := (kRing x1)) (vx_runS (As := [.int x1]) (rest := []) S0 (c_X6_requireRing l hfl G _ x1) (va_cwS 1 hts gX6_openIn_X6_requireRing rfl rfl rfl (by decide +kernel) ⟨Nat.le_of_ble_eq_true rfl, Nat.le_of_ble_eq_true rfl⟩) (g_preXS hK hX) rfl rfl hl.1 rfl (lv_room (Nat.le_of_ble_eq_true rfl)) dX6_openIn_1 ⟨Nat.le_of_ble_eq_true rfl, Nat.le_of_ble_eq_true rfl⟩) hS hexc hlocks (fun c_1 => by have hk9 : (kRing x1) = (kRing x1) := (by first | with_reducible rfl | (simp only [c_1, kT, eq_self, ↓reduceIte, Bool.false_eq_true]; done) | (simp only [c_1, kT, eq_self, ↓reduceIte, Bool.false_eq_true]; rfl) | (simp [kT, c_1]; done)); exact ⟨by rw [hk9]; exact c_1, by rw [hk9]⟩) ⟨Nat.le_of_ble_eq_true rfl, Nat.le_of_ble_eq_true rfl⟩ (fun c_1 locs hS => ?_)
  refine lv_aload_n hx hb dX6_openIn_4 rfl (lv_at hl 0 rfl) ?_
  refine va_get (D := G.1) (ci := 6) (v := .ref (z 4)) (C := RX6) (T := TX6) (N := 7) hx hb hts hinX6 hown hK.1 hP 0 rfl rfl 3 (by decide) (hts (.fieldLink RX6 33 "Rotaforge" "incidentLog" "LRotaforge$IncidentLog;") (by decide +kernel)) (fun _ h9 => h9) rfl dX6_openIn_5 ?_
  refine lv_iload_n hx hb dX6_openIn_8 rfl (lv_at hl 1 rfl) ?_
  refine g_callC (W.runV (C := RX2) (As := [.int x1]) (rest := []) S0 (c_X2_openOf l G _ z r f hP x1) (cwV 1 hts gX6_openIn_X2_openOf rfl rfl rfl (by decide +kernel) ⟨Nat.le_of_ble_eq_true rfl, Nat.le_of_ble_eq_true rfl⟩) (g_preV hK hP (q0 := 4) (ci := 2) (q := (RX2, TX2, 7)) rfl rfl) rfl rfl hl.1 rfl (lv_room (Nat.le_of_ble_eq_true rfl)) dX6_openIn_9 ⟨Nat.le_of_ble_eq_true rfl, Nat.le_of_ble_eq_true rfl⟩) ?_
  have hq : (rAt 4 (r 16) x1) = (rAt 4 (r 16) x1) := by
    first | with_reducible rfl | with_reducible exact nI_add _ _ | (simp only [c_1, ↓reduceIte, Bool.false_eq_true, decide_true, decide_false, Bool.not_true, Bool.not_false, Bool.or_true, Bool.true_or, Bool.or_false, Bool.false_or]; done) | (simp only [c_1, ↓reduceIte, Bool.false_eq_true, decide_true, decide_false, Bool.not_true, Bool.not_false, Bool.or_true, Bool.true_or, Bool.or_false, Bool.false_or]; with_reducible rfl) | (simp only [c_1, ↓reduceIte, Bool.false_eq_true, decide_true, decide_false, Bool.not_true, Bool.not_false, Bool.or_true, Bool.true_or, Bool.or_false, Bool.false_or]; rfl) | (simp [b2i, c_1]; done) | rfl
  have hk0 : (kRing x1) = 0 := by
    first | with_reducible rfl | (simp only [c_1, kT, eq_self, ↓reduceIte, Bool.false_eq_true]; done) | (simp only [c_1, kT, eq_self, ↓reduceIte, Bool.false_eq_true]; rfl) | (simp [kT, c_1]; done)
  refine W.widen (k := 1) (n := 6) (Nat.le_of_ble_eq_true rfl) (Nat.le_of_ble_eq_true rfl) ?_
  refine vx_ret ?_
  exact W.iret (v := rAt 4 (r 16) x1) hx hb hr (fun t ht _ => ⟨⟨_, (), rfl, ⟨hk0, hq⟩, ht⟩, hS.F ht⟩) (fun z hz => (hS.2.2 z hz).elim) dX6_openIn_12

set_option maxHeartbeats 4000000 in
set_option maxRecDepth 100000 in
theorem c_X6_openedAt (l : Launch) (hfl : l.stackTraces = false) (G : gG) (H0 : Heap) (z : Nat → Nat) (r : Nat → Nat → Int32) (f : Nat → Int32) (hP : va_P G.1 vwCl (wRF G z r f) H0) (x1 : Int32) : gMxr l yX6_openedAt wsX6_openedAt 7 111 1 G H0 [.ref (z 0), .int x1] (kBelow (f 4) x1) (nI 10 * rAt 200 (r 12) x1 + rAt 200 (r 11) x1) := by
  refine vx_ofW (cc := cX6_openedAt) (maxL := 2) (ret := (some .int)) (by decide) rfl ?_
  intro p_ e_ s m args below meth c s₁ B hml hexc hv
  obtain ⟨rfl, rfl, hK, hX⟩ := hv
  have hx := B.exec
  have hb := B.bytes
  have hr := B.returns
  have hts := atoms_spec (ws := wsX6_openedAt) B.pre
  have hown : s.vm.findClass RX6 = some m.cls := findClass_of_methodNamed B.named
  have hlocks := B.notSynchronized
  have hinX6 : ∀ w ∈ wsX60, w ∈ wsX6_openedAt := by decide +kernel
  have S0 : CallFix p_ m c cX6_openedAt 2 s _ wsX6_openedAt RX6 := ⟨hx, hb, hml, hown, hts⟩
  have hS : va_S (fun _ => False) s.heap s.heap [] := va_S.rf
  have hl := lv_entry ([.ref (z 0), .int x1]) (n := 2) (Nat.le_of_ble_eq_true rfl)
  rw [lg_entry_eq]
  generalize (lg_sl ([.ref (z 0), .int x1]) ++ List.replicate (2 - (lg_sl ([.ref (z 0), .int x1])).length) Slot.unset).toArray = ls at hl ⊢
  have hl : lv_has ls 2 [(0, .ref (z 0)), (1, .int x1)] := hl
  refine lv_aload_n hx hb dX6_openedAt_0 rfl (lv_at hl 0 rfl) ?_
  refine lv_iload_n hx hb dX6_openedAt_1 rfl (lv_at hl 1 rfl) ?_
  refine g_xv (K := (kBelow (f 4) x1)) (Kc := (kBelow (f 4) x1)) (vx_runV (C := RX6) (As := [.int x1]) (rest := []) S0 (c_X6_requireIncident l hfl G _ z r f hP x1) (cwV 1 hts gX6_openedAt_X6_requireIncident rfl rfl rfl (by decide +kernel) ⟨Nat.le_of_ble_eq_true rfl, Nat.le_of_ble_eq_true rfl⟩) (g_preXV hK hX hP (q0 := 0) (ci := 6) (q := (RX6, TX6, 7)) rfl rfl) rfl rfl hl.1 rfl (lv_room (Nat.le_of_ble_eq_true rfl)) dX6_openedAt_2 ⟨Nat.le_of_ble_eq_true rfl, Nat.le_of_ble_eq_true rfl⟩) hS hexc hlocks (fun c_1 => by have hk9 : (kBelow (f 4) x1) = (kBelow (f 4) x1) := (by first | with_reducible rfl | (simp only [c_1, kT, eq_self, ↓reduceIte, Bool.false_eq_true]; done) | (simp only [c_1, kT, eq_self, ↓reduceIte, Bool.false_eq_true]; rfl) | (simp [kT, c_1]; done)); exact ⟨by rw [hk9]; exact c_1, by rw [hk9]⟩) ⟨Nat.le_of_ble_eq_true rfl, Nat.le_of_ble_eq_true rfl⟩ (fun c_1 locs hS => ?_)
  refine lv_bipush (v := nI 10) hx hb dX6_openedAt_5 (by decide +kernel) ?_
  refine lv_aload_n hx hb dX6_openedAt_7 rfl (lv_at hl 0 rfl) ?_
  refine va_get (D := G.1) (ci := 6) (v := .ref (z 4)) (C := RX6) (T := TX6) (N := 7) hx hb hts hinX6 hown hK.1 hP 0 rfl rfl 3 (by decide) (hts (.fieldLink RX6 33 "Rotaforge" "incidentLog" "LRotaforge$IncidentLog;") (by decide +kernel)) (fun _ h9 => h9) rfl dX6_openedAt_8 ?_
  refine lv_iload_n hx hb dX6_openedAt_11 rfl (lv_at hl 1 rfl) ?_
  refine g_callC (W.runV (C := RX2) (As := [.int x1]) (rest := [.int (nI 10)]) S0 (c_X2_startOf l G _ z r f hP x1) (cwV 1 hts gX6_openedAt_X2_startOf rfl rfl rfl (by decide +kernel) ⟨Nat.le_of_ble_eq_true rfl, Nat.le_of_ble_eq_true rfl⟩) (g_preV hK hP (q0 := 4) (ci := 2) (q := (RX2, TX2, 7)) rfl rfl) rfl rfl hl.1 rfl (lv_room (Nat.le_of_ble_eq_true rfl)) dX6_openedAt_12 ⟨Nat.le_of_ble_eq_true rfl, Nat.le_of_ble_eq_true rfl⟩) ?_
  refine lv_imul hx hb dX6_openedAt_15 ?_
  refine lv_aload_n hx hb dX6_openedAt_16 rfl (lv_at hl 0 rfl) ?_
  refine va_get (D := G.1) (ci := 6) (v := .ref (z 4)) (C := RX6) (T := TX6) (N := 7) hx hb hts hinX6 hown hK.1 hP 0 rfl rfl 3 (by decide) (hts (.fieldLink RX6 33 "Rotaforge" "incidentLog" "LRotaforge$IncidentLog;") (by decide +kernel)) (fun _ h9 => h9) rfl dX6_openedAt_17 ?_
  refine lv_iload_n hx hb dX6_openedAt_20 rfl (lv_at hl 1 rfl) ?_
  refine g_callC (W.runV (C := RX2) (As := [.int x1]) (rest := [.int ((nI 10) * (rAt 200 (r 12) x1))]) S0 (c_X2_ringOf l G _ z r f hP x1) (cwV 1 hts gX6_openedAt_X2_ringOf rfl rfl rfl (by decide +kernel) ⟨Nat.le_of_ble_eq_true rfl, Nat.le_of_ble_eq_true rfl⟩) (g_preV hK hP (q0 := 4) (ci := 2) (q := (RX2, TX2, 7)) rfl rfl) rfl rfl hl.1 rfl (lv_room (Nat.le_of_ble_eq_true rfl)) dX6_openedAt_21 ⟨Nat.le_of_ble_eq_true rfl, Nat.le_of_ble_eq_true rfl⟩) ?_
  refine lv_iadd hx hb dX6_openedAt_24 ?_
  have hq : (((nI 10) * (rAt 200 (r 12) x1)) + (rAt 200 (r 11) x1)) = (nI 10 * rAt 200 (r 12) x1 + rAt 200 (r 11) x1) := by
    first | with_reducible rfl | with_reducible exact nI_add _ _ | (simp only [c_1, ↓reduceIte, Bool.false_eq_true, decide_true, decide_false, Bool.not_true, Bool.not_false, Bool.or_true, Bool.true_or, Bool.or_false, Bool.false_or]; done) | (simp only [c_1, ↓reduceIte, Bool.false_eq_true, decide_true, decide_false, Bool.not_true, Bool.not_false, Bool.or_true, Bool.true_or, Bool.or_false, Bool.false_or]; with_reducible rfl) | (simp only [c_1, ↓reduceIte, Bool.false_eq_true, decide_true, decide_false, Bool.not_true, Bool.not_false, Bool.or_true, Bool.true_or, Bool.or_false, Bool.false_or]; rfl) | (simp [b2i, c_1]; done) | rfl
  have hk0 : (kBelow (f 4) x1) = 0 := by
    first | with_reducible rfl | (simp only [c_1, kT, eq_self, ↓reduceIte, Bool.false_eq_true]; done) | (simp only [c_1, kT, eq_self, ↓reduceIte, Bool.false_eq_true]; rfl) | (simp [kT, c_1]; done)
  refine W.widen (k := 1) (n := 6) (Nat.le_of_ble_eq_true rfl) (Nat.le_of_ble_eq_true rfl) ?_
  refine vx_ret ?_
  exact W.iret (v := ((nI 10) * (rAt 200 (r 12) x1)) + (rAt 200 (r 11) x1)) hx hb hr (fun t ht _ => ⟨⟨_, (), rfl, ⟨hk0, hq⟩, ht⟩, hS.F ht⟩) (fun z hz => (hS.2.2 z hz).elim) dX6_openedAt_25

set_option maxHeartbeats 4000000 in
set_option maxRecDepth 100000 in
theorem c_X6_closedAt (l : Launch) (hfl : l.stackTraces = false) (G : gG) (H0 : Heap) (z : Nat → Nat) (r : Nat → Nat → Int32) (f : Nat → Int32) (hP : va_P G.1 vwCl (wRF G z r f) H0) (x1 : Int32) : gMxr l yX6_closedAt wsX6_closedAt 7 111 1 G H0 [.ref (z 0), .int x1] (kBelow (f 4) x1) (rAt 200 (r 13) x1) := by
  refine vx_ofW (cc := cX6_closedAt) (maxL := 2) (ret := (some .int)) (by decide) rfl ?_
  intro p_ e_ s m args below meth c s₁ B hml hexc hv
  obtain ⟨rfl, rfl, hK, hX⟩ := hv
  have hx := B.exec
  have hb := B.bytes
  have hr := B.returns
  have hts := atoms_spec (ws := wsX6_closedAt) B.pre
  have hown : s.vm.findClass RX6 = some m.cls := findClass_of_methodNamed B.named
  have hlocks := B.notSynchronized
  have hinX6 : ∀ w ∈ wsX60, w ∈ wsX6_closedAt := by decide +kernel
  have S0 : CallFix p_ m c cX6_closedAt 2 s _ wsX6_closedAt RX6 := ⟨hx, hb, hml, hown, hts⟩
  have hS : va_S (fun _ => False) s.heap s.heap [] := va_S.rf
  have hl := lv_entry ([.ref (z 0), .int x1]) (n := 2) (Nat.le_of_ble_eq_true rfl)
  rw [lg_entry_eq]
  generalize (lg_sl ([.ref (z 0), .int x1]) ++ List.replicate (2 - (lg_sl ([.ref (z 0), .int x1])).length) Slot.unset).toArray = ls at hl ⊢
  have hl : lv_has ls 2 [(0, .ref (z 0)), (1, .int x1)] := hl
  refine lv_aload_n hx hb dX6_closedAt_0 rfl (lv_at hl 0 rfl) ?_
  refine lv_iload_n hx hb dX6_closedAt_1 rfl (lv_at hl 1 rfl) ?_
  refine g_xv (K := (kBelow (f 4) x1)) (Kc := (kBelow (f 4) x1)) (vx_runV (C := RX6) (As := [.int x1]) (rest := []) S0 (c_X6_requireIncident l hfl G _ z r f hP x1) (cwV 1 hts gX6_closedAt_X6_requireIncident rfl rfl rfl (by decide +kernel) ⟨Nat.le_of_ble_eq_true rfl, Nat.le_of_ble_eq_true rfl⟩) (g_preXV hK hX hP (q0 := 0) (ci := 6) (q := (RX6, TX6, 7)) rfl rfl) rfl rfl hl.1 rfl (lv_room (Nat.le_of_ble_eq_true rfl)) dX6_closedAt_2 ⟨Nat.le_of_ble_eq_true rfl, Nat.le_of_ble_eq_true rfl⟩) hS hexc hlocks (fun c_1 => by have hk9 : (kBelow (f 4) x1) = (kBelow (f 4) x1) := (by first | with_reducible rfl | (simp only [c_1, kT, eq_self, ↓reduceIte, Bool.false_eq_true]; done) | (simp only [c_1, kT, eq_self, ↓reduceIte, Bool.false_eq_true]; rfl) | (simp [kT, c_1]; done)); exact ⟨by rw [hk9]; exact c_1, by rw [hk9]⟩) ⟨Nat.le_of_ble_eq_true rfl, Nat.le_of_ble_eq_true rfl⟩ (fun c_1 locs hS => ?_)
  refine lv_aload_n hx hb dX6_closedAt_5 rfl (lv_at hl 0 rfl) ?_
  refine va_get (D := G.1) (ci := 6) (v := .ref (z 4)) (C := RX6) (T := TX6) (N := 7) hx hb hts hinX6 hown hK.1 hP 0 rfl rfl 3 (by decide) (hts (.fieldLink RX6 33 "Rotaforge" "incidentLog" "LRotaforge$IncidentLog;") (by decide +kernel)) (fun _ h9 => h9) rfl dX6_closedAt_6 ?_
  refine lv_iload_n hx hb dX6_closedAt_9 rfl (lv_at hl 1 rfl) ?_
  refine g_callC (W.runV (C := RX2) (As := [.int x1]) (rest := []) S0 (c_X2_endOf l G _ z r f hP x1) (cwV 1 hts gX6_closedAt_X2_endOf rfl rfl rfl (by decide +kernel) ⟨Nat.le_of_ble_eq_true rfl, Nat.le_of_ble_eq_true rfl⟩) (g_preV hK hP (q0 := 4) (ci := 2) (q := (RX2, TX2, 7)) rfl rfl) rfl rfl hl.1 rfl (lv_room (Nat.le_of_ble_eq_true rfl)) dX6_closedAt_10 ⟨Nat.le_of_ble_eq_true rfl, Nat.le_of_ble_eq_true rfl⟩) ?_
  have hq : (rAt 200 (r 13) x1) = (rAt 200 (r 13) x1) := by
    first | with_reducible rfl | with_reducible exact nI_add _ _ | (simp only [c_1, ↓reduceIte, Bool.false_eq_true, decide_true, decide_false, Bool.not_true, Bool.not_false, Bool.or_true, Bool.true_or, Bool.or_false, Bool.false_or]; done) | (simp only [c_1, ↓reduceIte, Bool.false_eq_true, decide_true, decide_false, Bool.not_true, Bool.not_false, Bool.or_true, Bool.true_or, Bool.or_false, Bool.false_or]; with_reducible rfl) | (simp only [c_1, ↓reduceIte, Bool.false_eq_true, decide_true, decide_false, Bool.not_true, Bool.not_false, Bool.or_true, Bool.true_or, Bool.or_false, Bool.false_or]; rfl) | (simp [b2i, c_1]; done) | rfl
  have hk0 : (kBelow (f 4) x1) = 0 := by
    first | with_reducible rfl | (simp only [c_1, kT, eq_self, ↓reduceIte, Bool.false_eq_true]; done) | (simp only [c_1, kT, eq_self, ↓reduceIte, Bool.false_eq_true]; rfl) | (simp [kT, c_1]; done)
  refine W.widen (k := 1) (n := 6) (Nat.le_of_ble_eq_true rfl) (Nat.le_of_ble_eq_true rfl) ?_
  refine vx_ret ?_
  exact W.iret (v := rAt 200 (r 13) x1) hx hb hr (fun t ht _ => ⟨⟨_, (), rfl, ⟨hk0, hq⟩, ht⟩, hS.F ht⟩) (fun z hz => (hS.2.2 z hz).elim) dX6_closedAt_13
