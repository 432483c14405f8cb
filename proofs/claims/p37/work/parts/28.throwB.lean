theorem cPass_s (n : Nat) (q : gRF) : cPass (n + 1) q = cHalf (cPass n q) := rfl
theorem cHalf_eq (q : gRF) : cHalf q = (cCIR (itN 4 cStep (cBeg q)).1 (itN 4 cStep (cBeg q)).2 (cInc q.2) (cInc (itN 4 cStep (cBeg q)).2 - cInc q.2), cCIF (itN 4 cStep (cBeg q)).1 (itN 4 cStep (cBeg q)).2) := by simp only [cHalf, cRings]
set_option maxHeartbeats 4000000 in
set_option maxRecDepth 100000 in
theorem c_X6_build (l : Launch) (hfl : l.stackTraces = false) (G : gG) (H0 : Heap) (z : Nat → Nat) (hz : gDis z 50) (r : Nat → Nat → Int32) (f : Nat → Int32) (hP : va_P G.1 vwCl (wRF G z r f) H0) : gMxw l yX6_build wsX6_build 6 90 1 G H0 [.ref (z 0)] (kBuild f) (f 0 + nI 1 - nI 1) (wRF G z r (upF f 0 (f 0 + nI 1))) (gF z 50) := by
  refine vx_ofW (cc := cX6_build) (maxL := 1) (ret := (some .int)) (by decide) rfl ?_
  intro p_ e_ s m args below meth c s₁ B hml hexc hv
  obtain ⟨rfl, rfl, hK, hX⟩ := hv
  have hx := B.exec
  have hb := B.bytes
  have hr := B.returns
  have hts := atoms_spec (ws := wsX6_build) B.pre
  have hown : s.vm.findClass RX6 = some m.cls := findClass_of_methodNamed B.named
  have hlocks := B.notSynchronized
  have hinX6 : ∀ w ∈ wsX60, w ∈ wsX6_build := by decide +kernel
  have S0 : CallFix p_ m c cX6_build 1 s _ wsX6_build RX6 := ⟨hx, hb, hml, hown, hts⟩
  have hS : va_S (fun _ => False) s.heap s.heap [] := va_S.rf
  have hg55 : ∀ w ∈ (vx_atS RX6 55 xISE gNm).filter goodWord, w ∈ wsX6_build := by decide +kernel
  have hl := lv_entry ([.ref (z 0)]) (n := 1) (Nat.le_of_ble_eq_true rfl)
  rw [lg_entry_eq]
  generalize (lg_sl ([.ref (z 0)]) ++ List.replicate (1 - (lg_sl ([.ref (z 0)])).length) Slot.unset).toArray = ls at hl ⊢
  have hl : lv_has ls 1 [(0, .ref (z 0))] := hl
  refine lv_aload_n hx hb dX6_build_0 rfl (lv_at hl 0 rfl) ?_
  refine va_get (D := G.1) (ci := 6) (v := .int (f 0)) (C := RX6) (T := TX6) (N := 7) hx hb hts hinX6 hown hK.1 hP 0 rfl rfl 5 (by decide) (hts (.fieldLink RX6 44 "Rotaforge" "built" "I") (by decide +kernel)) (fun _ h9 => h9) rfl dX6_build_1 ?_
  refine lv_bipush (v := nI 20) hx hb dX6_build_4 (by decide +kernel) ?_
  refine lv_icmp_lt (tgt := 19) hx hb dX6_build_6 (by decide) (fun c_1 => ?_) (fun c_1 => ?_)
  · refine lv_aload_n hx hb dX6_build_19 rfl (lv_at hl 0 rfl) ?_
    refine lv_dup hx hb dX6_build_20 rfl ?_
    refine va_get (D := G.1) (ci := 6) (v := .int (f 0)) (C := RX6) (T := TX6) (N := 7) hx hb hts hinX6 hown hK.1 hP 0 rfl rfl 5 (by decide) (hts (.fieldLink RX6 44 "Rotaforge" "built" "I") (by decide +kernel)) (fun _ h9 => h9) rfl dX6_build_21 ?_
    refine lv_iconst (v := nI 1) hx hb dX6_build_24 (by decide +kernel) ?_
    refine lv_iadd hx hb dX6_build_25 ?_
    have hS := gS_up (A := gF z 50) hS
    have hD : va_D (gF z 50) (wRF G z r f) := gD_RF hz
    refine va_put (D := G.1) (ci := 6) (v := .int ((f 0) + (nI 1))) (ty := .int) (C := RX6) (T := TX6) (N := 7) hx hb hts hinX6 tyX6 tyX6_ok nmX6 hown hK.1 hP hD hS 0 rfl rfl 5 (by decide) (hts (.fieldLink RX6 44 "Rotaforge" "built" "I") (by decide +kernel)) (fun _ h9 => h9) rfl (by decide +kernel) rfl rfl (Nat.le_of_ble_eq_true rfl) dX6_build_26 (fun H locs hP hD hS => ?_)
    have hP : va_P G.1 vwCl (wRF G z r (upF f 0 ((f 0) + (nI 1)))) H := gPs_0 hP
    have hD : va_D (gF z 50) (wRF G z r (upF f 0 ((f 0) + (nI 1)))) := gD_RF hz
    refine lv_aload_n hx hb dX6_build_29 rfl (lv_at hl 0 rfl) ?_
    refine va_get (D := G.1) (ci := 6) (v := .int ((f 0) + (nI 1))) (C := RX6) (T := TX6) (N := 7) hx hb hts hinX6 hown hK.1 hP 0 rfl rfl 5 (by decide) (hts (.fieldLink RX6 44 "Rotaforge" "built" "I") (by decide +kernel)) (fun _ h9 => h9) rfl dX6_build_30 ?_
    refine lv_iconst (v := nI 1) hx hb dX6_build_33 (by decide +kernel) ?_
    refine lv_isub hx hb dX6_build_34 ?_
    have hq : (((f 0) + (nI 1)) - (nI 1)) = (f 0 + nI 1 - nI 1) := by
      first | with_reducible rfl | with_reducible exact nI_add _ _ | (simp only [eq_true c_1, ↓reduceIte, Bool.false_eq_true, decide_true, decide_false, Bool.not_true, Bool.not_false, Bool.or_true, Bool.true_or, Bool.or_false, Bool.false_or]; done) | (simp only [eq_true c_1, ↓reduceIte, Bool.false_eq_true, decide_true, decide_false, Bool.not_true, Bool.not_false, Bool.or_true, Bool.true_or, Bool.or_false, Bool.false_or]; with_reducible rfl) | (simp only [eq_true c_1, ↓reduceIte, Bool.false_eq_true, decide_true, decide_false, Bool.not_true, Bool.not_false, Bool.or_true, Bool.true_or, Bool.or_false, Bool.false_or]; rfl) | (simp [b2i, eq_true c_1]; done) | rfl
    have hk0 : (kBuild f) = 0 := by
      first | with_reducible rfl | (simp only [kBuild, eq_true c_1, kT, eq_self, ↓reduceIte, Bool.false_eq_true]; done) | (simp only [kBuild, eq_true c_1, kT, eq_self, ↓reduceIte, Bool.false_eq_true]; rfl) | (simp [kT, kBuild, eq_true c_1]; done)
    have hPf : va_P G.1 vwCl (wRF G z r (upF f 0 (f 0 + nI 1))) H := by
      have e1 : r = r := by first | with_reducible rfl | (simp only [eq_true c_1, ↓reduceIte, Bool.false_eq_true]; done) | (simp only [eq_true c_1, ↓reduceIte, Bool.false_eq_true]; rfl) | rfl
      have e2 : upF f 0 (f 0 + nI 1) = upF f 0 ((f 0) + (nI 1)) := by first | with_reducible rfl | (simp only [eq_true c_1, ↓reduceIte, Bool.false_eq_true]; done) | (simp only [eq_true c_1, ↓reduceIte, Bool.false_eq_true]; rfl) | rfl
      rw [e1, e2]; exact hP
    refine W.widen (k := 1) (n := 6) (Nat.le_of_ble_eq_true rfl) (Nat.le_of_ble_eq_true rfl) ?_
    refine vx_ret ?_
    exact W.iret (v := ((f 0) + (nI 1)) - (nI 1)) hx hb hr (fun t ht _ => ⟨⟨_, (), rfl, ⟨hk0, hq⟩, g_hp ht hPf⟩, hS.F ht⟩) hS.2.2 dX6_build_35
  · have hkv : (kBuild f) = 3 := by
      first | with_reducible rfl | (simp only [kBuild, eq_false c_1, kT, eq_self, ↓reduceIte, Bool.false_eq_true]; done) | (simp only [kBuild, eq_false c_1, kT, eq_self, ↓reduceIte, Bool.false_eq_true]; rfl) | (simp [kT, kBuild, eq_false c_1]; done)
    exact g_throwS (K := (kBuild f)) (text := "there are 20 versions") hx hb hfl hown hX (by decide) (hts (.classLink RX6 51 xISE) (by decide +kernel)) (hts (.initialized xISE) (by decide +kernel)) (fun w hw => hts w (hg55 w hw)) hng55 hgo55 (List.mem_of_getElem? (i := 0) rfl) (by decide) hS (hl.1.trans hml.symm) (by rw [hkv]; decide) (by rw [hkv]; rfl) dX6_build_9 dX6_build_12 dX6_build_13 dX6_build_15 dX6_build_18 hexc hlocks ⟨Nat.le_of_ble_eq_true rfl, Nat.le_of_ble_eq_true rfl, Nat.le_of_ble_eq_true rfl, Nat.le_of_ble_eq_true rfl⟩ ⟨Nat.le_of_ble_eq_true rfl, Nat.le_of_ble_eq_true rfl⟩

set_option maxHeartbeats 4000000 in
set_option maxRecDepth 100000 in
theorem c_X6_defect (l : Launch) (hfl : l.stackTraces = false) (G : gG) (H0 : Heap) (z : Nat → Nat) (hz : gDis z 50) (r : Nat → Nat → Int32) (f : Nat → Int32) (hP : va_P G.1 vwCl (wRF G z r f) H0) (x1 : Int32) (x2 : Int32) (x3 : Bool) : gMxw l yX6_defect wsX6_defect 7 111 3 G H0 [.ref (z 0), .int x1, .int x2, .int (b2i x3)] (kDefect f x1 x2) (f 2 + nI 1) (wRF G z (cDefR r x1 x2 x3) (upF f 2 (f 2 + nI 1))) (gF z 50) := by
  refine vx_ofW (cc := cX6_defect) (maxL := 4) (ret := (some .int)) (by decide) rfl ?_
  intro p_ e_ s m args below meth c s₁ B hml hexc hv
  obtain ⟨rfl, rfl, hK, hX⟩ := hv
  have hx := B.exec
  have hb := B.bytes
  have hr := B.returns
  have hts := atoms_spec (ws := wsX6_defect) B.pre
  have hown : s.vm.findClass RX6 = some m.cls := findClass_of_methodNamed B.named
  have hlocks := B.notSynchronized
  have hinX6 : ∀ w ∈ wsX60, w ∈ wsX6_defect := by decide +kernel
  have S0 : CallFix p_ m c cX6_defect 4 s _ wsX6_defect RX6 := ⟨hx, hb, hml, hown, hts⟩
  have hS : va_S (fun _ => False) s.heap s.heap [] := va_S.rf
  have hg55 : ∀ w ∈ (vx_atS RX6 55 xISE gNm).filter goodWord, w ∈ wsX6_defect := by decide +kernel
  have hl := lv_entry ([.ref (z 0), .int x1, .int x2, .int (b2i x3)]) (n := 4) (Nat.le_of_ble_eq_true rfl)
  rw [lg_entry_eq]
  generalize (lg_sl ([.ref (z 0), .int x1, .int x2, .int (b2i x3)]) ++ List.replicate (4 - (lg_sl ([.ref (z 0), .int x1, .int x2, .int (b2i x3)])).length) Slot.unset).toArray = ls at hl ⊢
  have hl : lv_has ls 4 [(0, .ref (z 0)), (1, .int x1), (2, .int x2), (3, .int (b2i x3))] := hl
  refine lv_aload_n hx hb dX6_defect_0 rfl (lv_at hl 0 rfl) ?_
  refine lv_iload_n hx hb dX6_defect_1 rfl (lv_at hl 1 rfl) ?_
  refine g_xv (K := (kDefect f x1 x2)) (Kc := (kBelow (f 0) x1)) (vx_runV (C := RX6) (As := [.int x1]) (rest := []) S0 (c_X6_requireVersion l hfl G _ z r f hP x1) (cwV 1 hts gX6_defect_X6_requireVersion rfl rfl rfl (by decide +kernel) ⟨Nat.le_of_ble_eq_true rfl, Nat.le_of_ble_eq_true rfl⟩) (g_preXV hK hX hP (q0 := 0) (ci := 6) (q := (RX6, TX6, 7)) rfl rfl) rfl rfl hl.1 rfl (lv_room (Nat.le_of_ble_eq_true rfl)) dX6_defect_2 ⟨Nat.le_of_ble_eq_true rfl, Nat.le_of_ble_eq_true rfl⟩) hS hexc hlocks (fun c_1 => by have hk9 : (kDefect f x1 x2) = (kBelow (f 0) x1) := (by first | with_reducible rfl | (simp only [kDefect, c_1, kT, eq_self, ↓reduceIte, Bool.false_eq_true]; done) | (simp only [kDefect, c_1, kT, eq_self, ↓reduceIte, Bool.false_eq_true]; rfl) | (simp [kT, kDefect, c_1]; done)); exact ⟨by rw [hk9]; exact c_1, by rw [hk9]⟩) ⟨Nat.le_of_ble_eq_true rfl, Nat.le_of_ble_eq_true rfl⟩ (fun c_1 locs hS => ?_)
  refine lv_iload_n hx hb dX6_defect_5 rfl (lv_at hl 2 rfl) ?_
  refine lv_iconst (v := (-1)) hx hb dX6_defect_6 (by decide +kernel) ?_
  refine lv_icmp_eq (tgt := 14) hx hb dX6_defect_7 (by decide) (fun c_2 => ?_) (fun c_2 => ?_)
  · refine lv_aload_n hx hb dX6_defect_14 rfl (lv_at hl 0 rfl) ?_
    refine va_get (D := G.1) (ci := 6) (v := .ref (z 2)) (C := RX6) (T := TX6) (N := 7) hx hb hts hinX6 hown hK.1 hP 0 rfl rfl 1 (by decide) (hts (.fieldLink RX6 19 "Rotaforge" "defects" "LRotaforge$Defects;") (by decide +kernel)) (fun _ h9 => h9) rfl dX6_defect_15 ?_
    refine g_callC (W.runV (C := RX1) (As := []) (rest := []) S0 (c_X1_total l G _ z r f hP) (cwV 0 hts gX6_defect_X1_total rfl rfl rfl (by decide +kernel) ⟨Nat.le_of_ble_eq_true rfl, Nat.le_of_ble_eq_true rfl⟩) (g_preV hK hP (q0 := 2) (ci := 1) (q := (RX1, TX1, 4)) rfl rfl) rfl rfl hl.1 rfl (lv_room (Nat.le_of_ble_eq_true rfl)) dX6_defect_18 ⟨Nat.le_of_ble_eq_true rfl, Nat.le_of_ble_eq_true rfl⟩) ?_
    refine lv_bipush (v := nI 24) hx hb dX6_defect_21 (by decide +kernel) ?_
    refine lv_icmp_lt (tgt := 36) hx hb dX6_defect_23 (by decide) (fun c_3 => ?_) (fun c_3 => ?_)
    · refine lv_aload_n hx hb dX6_defect_36 rfl (lv_at hl 0 rfl) ?_
      refine va_get (D := G.1) (ci := 6) (v := .ref (z 2)) (C := RX6) (T := TX6) (N := 7) hx hb hts hinX6 hown hK.1 hP 0 rfl rfl 1 (by decide) (hts (.fieldLink RX6 19 "Rotaforge" "defects" "LRotaforge$Defects;") (by decide +kernel)) (fun _ h9 => h9) rfl dX6_defect_37 ?_
      refine lv_iload_n hx hb dX6_defect_40 rfl (lv_at hl 1 rfl) ?_
      refine lv_iload_n hx hb dX6_defect_41 rfl (lv_at hl 2 rfl) ?_
      refine lv_iload_n hx hb dX6_defect_42 rfl (lv_at hl 3 rfl) ?_
      have hS := gS_up (A := gF z 50) hS
      have hD : va_D (gF z 50) (wRF G z r f) := gD_RF hz
      refine g_callwv (va_runV (C := RX1) (As := [.int x1, .int x2, .int (b2i x3)]) (rest := []) S0 (c_X1_add l G _ z hz r f hP x1 x2 x3) (cwV 3 hts gX6_defect_X1_add rfl rfl rfl (by decide +kernel) ⟨Nat.le_of_ble_eq_true rfl, Nat.le_of_ble_eq_true rfl⟩) (g_preV hK hP (q0 := 2) (ci := 1) (q := (RX1, TX1, 4)) rfl rfl) rfl rfl hl.1 rfl (lv_room (Nat.le_of_ble_eq_true rfl)) dX6_defect_43 ⟨Nat.le_of_ble_eq_true rfl, Nat.le_of_ble_eq_true rfl⟩) hS (fun _ h => h) (fun _ h => h) (fun H locs hP _ hS => ?_)
      have hP : va_P G.1 vwCl (wRF G z (cDefR r x1 x2 x3) (upF f 2 (f 2 + nI 1))) H := hP
      have hD : va_D (gF z 50) (wRF G z (cDefR r x1 x2 x3) (upF f 2 (f 2 + nI 1))) := gD_RF hz
      refine lv_aload_n hx hb dX6_defect_46 rfl (lv_at hl 0 rfl) ?_
      refine va_get (D := G.1) (ci := 6) (v := .ref (z 2)) (C := RX6) (T := TX6) (N := 7) hx hb hts hinX6 hown hK.1 hP 0 rfl rfl 1 (by decide) (hts (.fieldLink RX6 19 "Rotaforge" "defects" "LRotaforge$Defects;") (by decide +kernel)) (fun _ h9 => h9) rfl dX6_defect_47 ?_
      refine g_callC (W.runV (C := RX1) (As := []) (rest := []) S0 (c_X1_total l G _ z (cDefR r x1 x2 x3) (upF f 2 (f 2 + nI 1)) hP) (cwV 0 hts gX6_defect_X1_total rfl rfl rfl (by decide +kernel) ⟨Nat.le_of_ble_eq_true rfl, Nat.le_of_ble_eq_true rfl⟩) (g_preV hK hP (q0 := 2) (ci := 1) (q := (RX1, TX1, 4)) rfl rfl) rfl rfl hl.1 rfl (lv_room (Nat.le_of_ble_eq_true rfl)) dX6_defect_50 ⟨Nat.le_of_ble_eq_true rfl, Nat.le_of_ble_eq_true rfl⟩) ?_
      have hq : ((upF f 2 (f 2 + nI 1)) 2) = (f 2 + nI 1) := by
        first | with_reducible rfl | with_reducible exact nI_add _ _ | (simp only [c_1, eq_true c_2, eq_true c_3, ↓reduceIte, Bool.false_eq_true, decide_true, decide_false, Bool.not_true, Bool.not_false, Bool.or_true, Bool.true_or, Bool.or_false, Bool.false_or]; done) | (simp only [c_1, eq_true c_2, eq_true c_3, ↓reduceIte, Bool.false_eq_true, decide_true, decide_false, Bool.not_true, Bool.not_false, Bool.or_true, Bool.true_or, Bool.or_false, Bool.false_or]; with_reducible rfl) | (simp only [c_1, eq_true c_2, eq_true c_3, ↓reduceIte, Bool.false_eq_true, decide_true, decide_false, Bool.not_true, Bool.not_false, Bool.or_true, Bool.true_or, Bool.or_false, Bool.false_or]; rfl) | (simp [b2i, c_1, eq_true c_2, eq_true c_3]; done) | rfl
      have hk0 : (kDefect f x1 x2) = 0 := by
        first | with_reducible rfl | (simp only [kDefect, c_1, eq_true c_2, eq_true c_3, kT, eq_self, ↓reduceIte, Bool.false_eq_true]; done) | (simp only [kDefect, c_1, eq_true c_2, eq_true c_3, kT, eq_self, ↓reduceIte, Bool.false_eq_true]; rfl) | (simp [kT, kDefect, c_1, eq_true c_2, eq_true c_3]; done)
      have hPf : va_P G.1 vwCl (wRF G z (cDefR r x1 x2 x3) (upF f 2 (f 2 + nI 1))) H := by
        have e1 : cDefR r x1 x2 x3 = cDefR r x1 x2 x3 := by first | with_reducible rfl | (simp only [c_1, eq_true c_2, eq_true c_3, ↓reduceIte, Bool.false_eq_true]; done) | (simp only [c_1, eq_true c_2, eq_true c_3, ↓reduceIte, Bool.false_eq_true]; rfl) | rfl
        have e2 : upF f 2 (f 2 + nI 1) = upF f 2 (f 2 + nI 1) := by first | with_reducible rfl | (simp only [c_1, eq_true c_2, eq_true c_3, ↓reduceIte, Bool.false_eq_true]; done) | (simp only [c_1, eq_true c_2, eq_true c_3, ↓reduceIte, Bool.false_eq_true]; rfl) | rfl
        rw [e1, e2]; exact hP
      refine W.widen (k := 3) (n := 18) (Nat.le_of_ble_eq_true rfl) (Nat.le_of_ble_eq_true rfl) ?_
      refine vx_ret ?_
      exact W.iret (v := (upF f 2 (f 2 + nI 1)) 2) hx hb hr (fun t ht _ => ⟨⟨_, (), rfl, ⟨hk0, hq⟩, g_hp ht hPf⟩, hS.F ht⟩) hS.2.2 dX6_defect_53
    · have hkv : (kDefect f x1 x2) = 3 := by
        first | with_reducible rfl | (simp only [kDefect, c_1, eq_true c_2, eq_false c_3, kT, eq_self, ↓reduceIte, Bool.false_eq_true]; done) | (simp only [kDefect, c_1, eq_true c_2, eq_false c_3, kT, eq_self, ↓reduceIte, Bool.false_eq_true]; rfl) | (simp [kT, kDefect, c_1, eq_true c_2, eq_false c_3]; done)
      exact g_throwS (K := (kDefect f x1 x2)) (text := "there are 24 defects") hx hb hfl hown hX (by decide) (hts (.classLink RX6 51 xISE) (by decide +kernel)) (hts (.initialized xISE) (by decide +kernel)) (fun w hw => hts w (hg55 w hw)) hng55 hgo55 (List.mem_of_getElem? (i := 3) rfl) (by decide) hS (hl.1.trans hml.symm) (by rw [hkv]; decide) (by rw [hkv]; rfl) dX6_defect_26 dX6_defect_29 dX6_defect_30 dX6_defect_32 dX6_defect_35 hexc hlocks ⟨Nat.le_of_ble_eq_true rfl, Nat.le_of_ble_eq_true rfl, Nat.le_of_ble_eq_true rfl, Nat.le_of_ble_eq_true rfl⟩ ⟨Nat.le_of_ble_eq_true rfl, Nat.le_of_ble_eq_true rfl⟩
  · refine lv_iload_n hx hb dX6_defect_10 rfl (lv_at hl 2 rfl) ?_
    refine g_xv (K := (kDefect f x1 x2)) (Kc := (kSwitch x2)) (vx_runS (As := [.int x2]) (rest := []) S0 (c_X6_requireSwitch l hfl G _ x2) (va_cwS 1 hts gX6_defect_X6_requireSwitch rfl rfl rfl (by decide +kernel) ⟨Nat.le_of_ble_eq_true rfl, Nat.le_of_ble_eq_true rfl⟩) (g_preXS hK hX) rfl rfl hl.1 rfl (lv_room (Nat.le_of_ble_eq_true rfl)) dX6_defect_11 ⟨Nat.le_of_ble_eq_true rfl, Nat.le_of_ble_eq_true rfl⟩) hS hexc hlocks (fun c_4 => by have hk9 : (kDefect f x1 x2) = (kSwitch x2) := (by first | with_reducible rfl | (simp only [kDefect, c_1, eq_false c_2, c_4, kT, eq_self, ↓reduceIte, Bool.false_eq_true]; done) | (simp only [kDefect, c_1, eq_false c_2, c_4, kT, eq_self, ↓reduceIte, Bool.false_eq_true]; rfl) | (simp [kT, kDefect, c_1, eq_false c_2, c_4]; done)); exact ⟨by rw [hk9]; exact c_4, by rw [hk9]⟩) ⟨Nat.le_of_ble_eq_true rfl, Nat.le_of_ble_eq_true rfl⟩ (fun c_4 locs hS => ?_)
    refine lv_aload_n hx hb dX6_defect_14 rfl (lv_at hl 0 rfl) ?_
    refine va_get (D := G.1) (ci := 6) (v := .ref (z 2)) (C := RX6) (T := TX6) (N := 7) hx hb hts hinX6 hown hK.1 hP 0 rfl rfl 1 (by decide) (hts (.fieldLink RX6 19 "Rotaforge" "defects" "LRotaforge$Defects;") (by decide +kernel)) (fun _ h9 => h9) rfl dX6_defect_15 ?_
    refine g_callC (W.runV (C := RX1) (As := []) (rest := []) S0 (c_X1_total l G _ z r f hP) (cwV 0 hts gX6_defect_X1_total rfl rfl rfl (by decide +kernel) ⟨Nat.le_of_ble_eq_true rfl, Nat.le_of_ble_eq_true rfl⟩) (g_preV hK hP (q0 := 2) (ci := 1) (q := (RX1, TX1, 4)) rfl rfl) rfl rfl hl.1 rfl (lv_room (Nat.le_of_ble_eq_true rfl)) dX6_defect_18 ⟨Nat.le_of_ble_eq_true rfl, Nat.le_of_ble_eq_true rfl⟩) ?_
    refine lv_bipush (v := nI 24) hx hb dX6_defect_21 (by decide +kernel) ?_
    refine lv_icmp_lt (tgt := 36) hx hb dX6_defect_23 (by decide) (fun c_5 => ?_) (fun c_5 => ?_)
    · refine lv_aload_n hx hb dX6_defect_36 rfl (lv_at hl 0 rfl) ?_
      refine va_get (D := G.1) (ci := 6) (v := .ref (z 2)) (C := RX6) (T := TX6) (N := 7) hx hb hts hinX6 hown hK.1 hP 0 rfl rfl 1 (by decide) (hts (.fieldLink RX6 19 "Rotaforge" "defects" "LRotaforge$Defects;") (by decide +kernel)) (fun _ h9 => h9) rfl dX6_defect_37 ?_
      refine lv_iload_n hx hb dX6_defect_40 rfl (lv_at hl 1 rfl) ?_
      refine lv_iload_n hx hb dX6_defect_41 rfl (lv_at hl 2 rfl) ?_
      refine lv_iload_n hx hb dX6_defect_42 rfl (lv_at hl 3 rfl) ?_
      have hS := gS_up (A := gF z 50) hS
      have hD : va_D (gF z 50) (wRF G z r f) := gD_RF hz
      refine g_callwv (va_runV (C := RX1) (As := [.int x1, .int x2, .int (b2i x3)]) (rest := []) S0 (c_X1_add l G _ z hz r f hP x1 x2 x3) (cwV 3 hts gX6_defect_X1_add rfl rfl rfl (by decide +kernel) ⟨Nat.le_of_ble_eq_true rfl, Nat.le_of_ble_eq_true rfl⟩) (g_preV hK hP (q0 := 2) (ci := 1) (q := (RX1, TX1, 4)) rfl rfl) rfl rfl hl.1 rfl (lv_room (Nat.le_of_ble_eq_true rfl)) dX6_defect_43 ⟨Nat.le_of_ble_eq_true rfl, Nat.le_of_ble_eq_true rfl⟩) hS (fun _ h => h) (fun _ h => h) (fun H locs hP _ hS => ?_)
      have hP : va_P G.1 vwCl (wRF G z (cDefR r x1 x2 x3) (upF f 2 (f 2 + nI 1))) H := hP
      have hD : va_D (gF z 50) (wRF G z (cDefR r x1 x2 x3) (upF f 2 (f 2 + nI 1))) := gD_RF hz
      refine lv_aload_n hx hb dX6_defect_46 rfl (lv_at hl 0 rfl) ?_
      refine va_get (D := G.1) (ci := 6) (v := .ref (z 2)) (C := RX6) (T := TX6) (N := 7) hx hb hts hinX6 hown hK.1 hP 0 rfl rfl 1 (by decide) (hts (.fieldLink RX6 19 "Rotaforge" "defects" "LRotaforge$Defects;") (by decide +kernel)) (fun _ h9 => h9) rfl dX6_defect_47 ?_
      refine g_callC (W.runV (C := RX1) (As := []) (rest := []) S0 (c_X1_total l G _ z (cDefR r x1 x2 x3) (upF f 2 (f 2 + nI 1)) hP) (cwV 0 hts gX6_defect_X1_total rfl rfl rfl (by decide +kernel) ⟨Nat.le_of_ble_eq_true rfl, Nat.le_of_ble_eq_true rfl⟩) (g_preV hK hP (q0 := 2) (ci := 1) (q := (RX1, TX1, 4)) rfl rfl) rfl rfl hl.1 rfl (lv_room (Nat.le_of_ble_eq_true rfl)) dX6_defect_50 ⟨Nat.le_of_ble_eq_true rfl, Nat.le_of_ble_eq_true rfl⟩) ?_
      have hq : ((upF f 2 (f 2 + nI 1)) 2) = (f 2 + nI 1) := by
        first | with_reducible rfl | with_reducible exact nI_add _ _ | (simp only [c_1, eq_false c_2, c_4, eq_true c_5, ↓reduceIte, Bool.false_eq_true, decide_true, decide_false, Bool.not_true, Bool.not_false, Bool.or_true, Bool.true_or, Bool.or_false, Bool.false_or]; done) | (simp only [c_1, eq_false c_2, c_4, eq_true c_5, ↓reduceIte, Bool.false_eq_true, decide_true, decide_false, Bool.not_true, Bool.not_false, Bool.or_true, Bool.true_or, Bool.or_false, Bool.false_or]; with_reducible rfl) | (simp only [c_1, eq_false c_2, c_4, eq_true c_5, ↓reduceIte, Bool.false_eq_true, decide_true, decide_false, Bool.not_true, Bool.not_false, Bool.or_true, Bool.true_or, Bool.or_false, Bool.false_or]; rfl) | (simp [b2i, c_1, eq_false c_2, c_4, eq_true c_5]; done) | rfl
      have hk0 : (kDefect f x1 x2) = 0 := by
        first | with_reducible rfl | (simp only [kDefect, c_1, eq_false c_2, c_4, eq_true c_5, kT, eq_self, ↓reduceIte, Bool.false_eq_true]; done) | (simp only [kDefect, c_1, eq_false c_2, c_4, eq_true c_5, kT, eq_self, ↓reduceIte, Bool.false_eq_true]; rfl) | (simp [kT, kDefect, c_1, eq_false c_2, c_4, eq_true c_5]; done)
      have hPf : va_P G.1 vwCl (wRF G z (cDefR r x1 x2 x3) (upF f 2 (f 2 + nI 1))) H := by
        have e1 : cDefR r x1 x2 x3 = cDefR r x1 x2 x3 := by first | with_reducible rfl | (simp only [c_1, eq_false c_2, c_4, eq_true c_5, ↓reduceIte, Bool.false_eq_true]; done) | (simp only [c_1, eq_false c_2, c_4, eq_true c_5, ↓reduceIte, Bool.false_eq_true]; rfl) | rfl
        have e2 : upF f 2 (f 2 + nI 1) = upF f 2 (f 2 + nI 1) := by first | with_reducible rfl | (simp only [c_1, eq_false c_2, c_4, eq_true c_5, ↓reduceIte, Bool.false_eq_true]; done) | (simp only [c_1, eq_false c_2, c_4, eq_true c_5, ↓reduceIte, Bool.false_eq_true]; rfl) | rfl
        rw [e1, e2]; exact hP
      refine W.widen (k := 3) (n := 18) (Nat.le_of_ble_eq_true rfl) (Nat.le_of_ble_eq_true rfl) ?_
      refine vx_ret ?_
      exact W.iret (v := (upF f 2 (f 2 + nI 1)) 2) hx hb hr (fun t ht _ => ⟨⟨_, (), rfl, ⟨hk0, hq⟩, g_hp ht hPf⟩, hS.F ht⟩) hS.2.2 dX6_defect_53
    · have hkv : (kDefect f x1 x2) = 3 := by
        first | with_reducible rfl | (simp only [kDefect, c_1, eq_false c_2, c_4, eq_false c_5, kT, eq_self, ↓reduceIte, Bool.false_eq_true]; done) | (simp only [kDefect, c_1, eq_false c_2, c_4, eq_false c_5, kT, eq_self, ↓reduceIte, Bool.false_eq_true]; rfl) | (simp [kT, kDefect, c_1, eq_false c_2, c_4, eq_false c_5]; done)
      exact g_throwS (K := (kDefect f x1 x2)) (text := "there are 24 defects") hx hb hfl hown hX (by decide) (hts (.classLink RX6 51 xISE) (by decide +kernel)) (hts (.initialized xISE) (by decide +kernel)) (fun w hw => hts w (hg55 w hw)) hng55 hgo55 (List.mem_of_getElem? (i := 3) rfl) (by decide) hS (hl.1.trans hml.symm) (by rw [hkv]; decide) (by rw [hkv]; rfl) dX6_defect_26 dX6_defect_29 dX6_defect_30 dX6_defect_32 dX6_defect_35 hexc hlocks ⟨Nat.le_of_ble_eq_true rfl, Nat.le_of_ble_eq_true rfl, Nat.le_of_ble_eq_true rfl, Nat.le_of_ble_eq_true rfl⟩ ⟨Nat.le_of_ble_eq_true rfl, Nat.le_of_ble_eq_true rfl⟩

set_option maxHeartbeats 4000000 in
set_option maxRecDepth 100000 in
theorem c_X6_need (l : Launch) (hfl : l.stackTraces = false) (G : gG) (H0 : Heap) (z : Nat → Nat) (hz : gDis z 50) (r : Nat → Nat → Int32) (f : Nat → Int32) (hP : va_P G.1 vwCl (wRF G z r f) H0) (x1 : Int32) (x2 : Int32) (x3 : Bool) : gMxw l yX6_need wsX6_need 7 110 3 G H0 [.ref (z 0), .int x1, .int x2, .int (b2i x3)] (kNeed r x1 x2 x3) (cBitCount (rAt 8 (cPutN r x1 x2 x3 0) x1)) (wRF G z (cPutW (cPutN r x1 x2 x3) 8) f) (gF z 50) := by
  refine vx_ofW (cc := cX6_need) (maxL := 4) (ret := (some .int)) (by decide) rfl ?_
  intro p_ e_ s m args below meth c s₁ B hml hexc hv
  obtain ⟨rfl, rfl, hK, hX⟩ := hv
  have hx := B.exec
  have hb := B.bytes
  have hr := B.returns
  have hts := atoms_spec (ws := wsX6_need) B.pre
  have hown : s.vm.findClass RX6 = some m.cls := findClass_of_methodNamed B.named
  have hlocks := B.notSynchronized
  have hinX6 : ∀ w ∈ wsX60, w ∈ wsX6_need := by decide +kernel
  have S0 : CallFix p_ m c cX6_need 4 s _ wsX6_need RX6 := ⟨hx, hb, hml, hown, hts⟩
  have hS : va_S (fun _ => False) s.heap s.heap [] := va_S.rf
  have hg55 : ∀ w ∈ (vx_atS RX6 55 xISE gNm).filter goodWord, w ∈ wsX6_need := by decide +kernel
  have hg79 : ∀ w ∈ (vx_atS RX6 79 xIAE gNm).filter goodWord, w ∈ wsX6_need := by decide +kernel
  have hl := lv_entry ([.ref (z 0), .int x1, .int x2, .int (b2i x3)]) (n := 4) (Nat.le_of_ble_eq_true rfl)
  rw [lg_entry_eq]
  generalize (lg_sl ([.ref (z 0), .int x1, .int x2, .int (b2i x3)]) ++ List.replicate (4 - (lg_sl ([.ref (z 0), .int x1, .int x2, .int (b2i x3)])).length) Slot.unset).toArray = ls at hl ⊢
  have hl : lv_has ls 4 [(0, .ref (z 0)), (1, .int x1), (2, .int x2), (3, .int (b2i x3))] := hl
  refine lv_iload_n hx hb dX6_need_0 rfl (lv_at hl 1 rfl) ?_
  refine g_xv (K := (kNeed r x1 x2 x3)) (Kc := (kSwitch x1)) (vx_runS (As := [.int x1]) (rest := []) S0 (c_X6_requireSwitch l hfl G _ x1) (va_cwS 1 hts gX6_need_X6_requireSwitch rfl rfl rfl (by decide +kernel) ⟨Nat.le_of_ble_eq_true rfl, Nat.le_of_ble_eq_true rfl⟩) (g_preXS hK hX) rfl rfl hl.1 rfl (lv_room (Nat.le_of_ble_eq_true rfl)) dX6_need_1 ⟨Nat.le_of_ble_eq_true rfl, Nat.le_of_ble_eq_true rfl⟩) hS hexc hlocks (fun c_1 => by have hk9 : (kNeed r x1 x2 x3) = (kSwitch x1) := (by first | with_reducible rfl | (simp only [kNeed, c_1, kT, eq_self, ↓reduceIte, Bool.false_eq_true]; done) | (simp only [kNeed, c_1, kT, eq_self, ↓reduceIte, Bool.false_eq_true]; rfl) | (simp [kT, kNeed, c_1]; done)); exact ⟨by rw [hk9]; exact c_1, by rw [hk9]⟩) ⟨Nat.le_of_ble_eq_true rfl, Nat.le_of_ble_eq_true rfl⟩ (fun c_1 locs hS => ?_)
  refine lv_iload_n hx hb dX6_need_4 rfl (lv_at hl 2 rfl) ?_
  refine g_xv (K := (kNeed r x1 x2 x3)) (Kc := (kSwitch x2)) (vx_runS (As := [.int x2]) (rest := []) S0 (c_X6_requireSwitch l hfl G _ x2) (va_cwS 1 hts gX6_need_X6_requireSwitch rfl rfl rfl (by decide +kernel) ⟨Nat.le_of_ble_eq_true rfl, Nat.le_of_ble_eq_true rfl⟩) (g_preXS hK hX) rfl rfl hl.1 rfl (lv_room (Nat.le_of_ble_eq_true rfl)) dX6_need_5 ⟨Nat.le_of_ble_eq_true rfl, Nat.le_of_ble_eq_true rfl⟩) hS hexc hlocks (fun c_2 => by have hk9 : (kNeed r x1 x2 x3) = (kSwitch x2) := (by first | with_reducible rfl | (simp only [kNeed, c_1, c_2, kT, eq_self, ↓reduceIte, Bool.false_eq_true]; done) | (simp only [kNeed, c_1, c_2, kT, eq_self, ↓reduceIte, Bool.false_eq_true]; rfl) | (simp [kT, kNeed, c_1, c_2]; done)); exact ⟨by rw [hk9]; exact c_2, by rw [hk9]⟩) ⟨Nat.le_of_ble_eq_true rfl, Nat.le_of_ble_eq_true rfl⟩ (fun c_2 locs hS => ?_)
  refine lv_iload_n hx hb dX6_need_8 rfl (lv_at hl 1 rfl) ?_
  refine lv_iload_n hx hb dX6_need_9 rfl (lv_at hl 2 rfl) ?_
  refine lv_icmp_ne (tgt := 23) hx hb dX6_need_10 (by decide) (fun c_3 => ?_) (fun c_3 => ?_)
  · refine lv_iload_n hx hb dX6_need_23 rfl (lv_at hl 3 rfl) ?_
    refine lv_if_eq (tgt := 49) hx hb dX6_need_24 (by decide) (fun c_4 => ?_) (fun c_4 => ?_)
    · have c_4 := b2i_f c_4
      refine lv_aload_n hx hb dX6_need_49 rfl (lv_at hl 0 rfl) ?_
      refine va_get (D := G.1) (ci := 6) (v := .ref (z 1)) (C := RX6) (T := TX6) (N := 7) hx hb hts hinX6 hown hK.1 hP 0 rfl rfl 0 (by decide) (hts (.fieldLink RX6 12 "Rotaforge" "needMap" "LRotaforge$Needs;") (by decide +kernel)) (fun _ h9 => h9) rfl dX6_need_50 ?_
      refine lv_iload_n hx hb dX6_need_53 rfl (lv_at hl 1 rfl) ?_
      refine lv_iload_n hx hb dX6_need_54 rfl (lv_at hl 2 rfl) ?_
      refine lv_iload_n hx hb dX6_need_55 rfl (lv_at hl 3 rfl) ?_
      have hS := gS_up (A := gF z 50) hS
      have hD : va_D (gF z 50) (wRF G z r f) := gD_RF hz
      refine g_callwv (va_runV (C := RX3) (As := [.int x1, .int x2, .int (b2i x3)]) (rest := []) S0 (c_X3_put l G _ z hz r f hP x1 x2 x3) (cwV 3 hts gX6_need_X3_put rfl rfl rfl (by decide +kernel) ⟨Nat.le_of_ble_eq_true rfl, Nat.le_of_ble_eq_true rfl⟩) (g_preV hK hP (q0 := 1) (ci := 3) (q := (RX3, TX3, 2)) rfl rfl) rfl rfl hl.1 rfl (lv_room (Nat.le_of_ble_eq_true rfl)) dX6_need_56 ⟨Nat.le_of_ble_eq_true rfl, Nat.le_of_ble_eq_true rfl⟩) hS (fun _ h => h) (fun _ h => h) (fun H locs hP _ hS => ?_)
      have hP : va_P G.1 vwCl (wRF G z (cPutW (cPutN r x1 x2 x3) 8) f) H := hP
      have hD : va_D (gF z 50) (wRF G z (cPutW (cPutN r x1 x2 x3) 8) f) := gD_RF hz
      refine lv_aload_n hx hb dX6_need_59 rfl (lv_at hl 0 rfl) ?_
      refine va_get (D := G.1) (ci := 6) (v := .ref (z 1)) (C := RX6) (T := TX6) (N := 7) hx hb hts hinX6 hown hK.1 hP 0 rfl rfl 0 (by decide) (hts (.fieldLink RX6 12 "Rotaforge" "needMap" "LRotaforge$Needs;") (by decide +kernel)) (fun _ h9 => h9) rfl dX6_need_60 ?_
      refine lv_iload_n hx hb dX6_need_63 rfl (lv_at hl 1 rfl) ?_
      refine g_callC (W.runV (C := RX3) (As := [.int x1]) (rest := []) S0 (c_X3_directCount l G _ z (cPutW (cPutN r x1 x2 x3) 8) f hP x1) (cwV 1 hts gX6_need_X3_directCount rfl rfl rfl (by decide +kernel) ⟨Nat.le_of_ble_eq_true rfl, Nat.le_of_ble_eq_true rfl⟩) (g_preV hK hP (q0 := 1) (ci := 3) (q := (RX3, TX3, 2)) rfl rfl) rfl rfl hl.1 rfl (lv_room (Nat.le_of_ble_eq_true rfl)) dX6_need_64 ⟨Nat.le_of_ble_eq_true rfl, Nat.le_of_ble_eq_true rfl⟩) ?_
      have hq : (cBitCount (rAt 8 ((cPutW (cPutN r x1 x2 x3) 8) 0) x1)) = (cBitCount (rAt 8 (cPutN r x1 x2 x3 0) x1)) := by
        first | with_reducible rfl | with_reducible exact nI_add _ _ | (simp only [c_1, c_2, eq_false c_3, c_4, ↓reduceIte, Bool.false_eq_true, decide_true, decide_false, Bool.not_true, Bool.not_false, Bool.or_true, Bool.true_or, Bool.or_false, Bool.false_or]; done) | (simp only [c_1, c_2, eq_false c_3, c_4, ↓reduceIte, Bool.false_eq_true, decide_true, decide_false, Bool.not_true, Bool.not_false, Bool.or_true, Bool.true_or, Bool.or_false, Bool.false_or]; with_reducible rfl) | (simp only [c_1, c_2, eq_false c_3, c_4, ↓reduceIte, Bool.false_eq_true, decide_true, decide_false, Bool.not_true, Bool.not_false, Bool.or_true, Bool.true_or, Bool.or_false, Bool.false_or]; rfl) | (simp [b2i, c_1, c_2, eq_false c_3, c_4]; done) | rfl
      have hk0 : (kNeed r x1 x2 x3) = 0 := by
        first | with_reducible rfl | (simp only [kNeed, c_1, c_2, eq_false c_3, c_4, kT, eq_self, ↓reduceIte, Bool.false_eq_true]; done) | (simp only [kNeed, c_1, c_2, eq_false c_3, c_4, kT, eq_self, ↓reduceIte, Bool.false_eq_true]; rfl) | (simp [kT, kNeed, c_1, c_2, eq_false c_3, c_4]; done)
      have hPf : va_P G.1 vwCl (wRF G z (cPutW (cPutN r x1 x2 x3) 8) f) H := by
        have e1 : cPutW (cPutN r x1 x2 x3) 8 = cPutW (cPutN r x1 x2 x3) 8 := by first | with_reducible rfl | (simp only [c_1, c_2, eq_false c_3, c_4, ↓reduceIte, Bool.false_eq_true]; done) | (simp only [c_1, c_2, eq_false c_3, c_4, ↓reduceIte, Bool.false_eq_true]; rfl) | rfl
        have e2 : f = f := by first | with_reducible rfl | (simp only [c_1, c_2, eq_false c_3, c_4, ↓reduceIte, Bool.false_eq_true]; done) | (simp only [c_1, c_2, eq_false c_3, c_4, ↓reduceIte, Bool.false_eq_true]; rfl) | rfl
        rw [e1, e2]; exact hP
      refine W.widen (k := 3) (n := 18) (Nat.le_of_ble_eq_true rfl) (Nat.le_of_ble_eq_true rfl) ?_
      refine vx_ret ?_
      exact W.iret (v := cBitCount (rAt 8 ((cPutW (cPutN r x1 x2 x3) 8) 0) x1)) hx hb hr (fun t ht _ => ⟨⟨_, (), rfl, ⟨hk0, hq⟩, g_hp ht hPf⟩, hS.F ht⟩) hS.2.2 dX6_need_67
    · have c_4 := b2i_t c_4
      refine lv_aload_n hx hb dX6_need_27 rfl (lv_at hl 0 rfl) ?_
      refine va_get (D := G.1) (ci := 6) (v := .ref (z 1)) (C := RX6) (T := TX6) (N := 7) hx hb hts hinX6 hown hK.1 hP 0 rfl rfl 0 (by decide) (hts (.fieldLink RX6 12 "Rotaforge" "needMap" "LRotaforge$Needs;") (by decide +kernel)) (fun _ h9 => h9) rfl dX6_need_28 ?_
      refine lv_iload_n hx hb dX6_need_31 rfl (lv_at hl 2 rfl) ?_
      refine lv_iload_n hx hb dX6_need_32 rfl (lv_at hl 1 rfl) ?_
      refine g_callC (W.runV (C := RX3) (As := [.int x2, .int x1]) (rest := []) S0 (c_X3_reaches l G _ z r f hP x2 x1) (cwV 2 hts gX6_need_X3_reaches rfl rfl rfl (by decide +kernel) ⟨Nat.le_of_ble_eq_true rfl, Nat.le_of_ble_eq_true rfl⟩) (g_preV hK hP (q0 := 1) (ci := 3) (q := (RX3, TX3, 2)) rfl rfl) rfl rfl hl.1 rfl (lv_room (Nat.le_of_ble_eq_true rfl)) dX6_need_33 ⟨Nat.le_of_ble_eq_true rfl, Nat.le_of_ble_eq_true rfl⟩) ?_
      refine lv_if_eq (tgt := 49) hx hb dX6_need_36 (by decide) (fun c_5 => ?_) (fun c_5 => ?_)
      · have c_5 := b2i_f c_5
        refine lv_aload_n hx hb dX6_need_49 rfl (lv_at hl 0 rfl) ?_
        refine va_get (D := G.1) (ci := 6) (v := .ref (z 1)) (C := RX6) (T := TX6) (N := 7) hx hb hts hinX6 hown hK.1 hP 0 rfl rfl 0 (by decide) (hts (.fieldLink RX6 12 "Rotaforge" "needMap" "LRotaforge$Needs;") (by decide +kernel)) (fun _ h9 => h9) rfl dX6_need_50 ?_
        refine lv_iload_n hx hb dX6_need_53 rfl (lv_at hl 1 rfl) ?_
        refine lv_iload_n hx hb dX6_need_54 rfl (lv_at hl 2 rfl) ?_
        refine lv_iload_n hx hb dX6_need_55 rfl (lv_at hl 3 rfl) ?_
        have hS := gS_up (A := gF z 50) hS
        have hD : va_D (gF z 50) (wRF G z r f) := gD_RF hz
        refine g_callwv (va_runV (C := RX3) (As := [.int x1, .int x2, .int (b2i x3)]) (rest := []) S0 (c_X3_put l G _ z hz r f hP x1 x2 x3) (cwV 3 hts gX6_need_X3_put rfl rfl rfl (by decide +kernel) ⟨Nat.le_of_ble_eq_true rfl, Nat.le_of_ble_eq_true rfl⟩) (g_preV hK hP (q0 := 1) (ci := 3) (q := (RX3, TX3, 2)) rfl rfl) rfl rfl hl.1 rfl (lv_room (Nat.le_of_ble_eq_true rfl)) dX6_need_56 ⟨Nat.le_of_ble_eq_true rfl, Nat.le_of_ble_eq_true rfl⟩) hS (fun _ h => h) (fun _ h => h) (fun H locs hP _ hS => ?_)
        have hP : va_P G.1 vwCl (wRF G z (cPutW (cPutN r x1 x2 x3) 8) f) H := hP
        have hD : va_D (gF z 50) (wRF G z (cPutW (cPutN r x1 x2 x3) 8) f) := gD_RF hz
        refine lv_aload_n hx hb dX6_need_59 rfl (lv_at hl 0 rfl) ?_
        refine va_get (D := G.1) (ci := 6) (v := .ref (z 1)) (C := RX6) (T := TX6) (N := 7) hx hb hts hinX6 hown hK.1 hP 0 rfl rfl 0 (by decide) (hts (.fieldLink RX6 12 "Rotaforge" "needMap" "LRotaforge$Needs;") (by decide +kernel)) (fun _ h9 => h9) rfl dX6_need_60 ?_
        refine lv_iload_n hx hb dX6_need_63 rfl (lv_at hl 1 rfl) ?_
        refine g_callC (W.runV (C := RX3) (As := [.int x1]) (rest := []) S0 (c_X3_directCount l G _ z (cPutW (cPutN r x1 x2 x3) 8) f hP x1) (cwV 1 hts gX6_need_X3_directCount rfl rfl rfl (by decide +kernel) ⟨Nat.le_of_ble_eq_true rfl, Nat.le_of_ble_eq_true rfl⟩) (g_preV hK hP (q0 := 1) (ci := 3) (q := (RX3, TX3, 2)) rfl rfl) rfl rfl hl.1 rfl (lv_room (Nat.le_of_ble_eq_true rfl)) dX6_need_64 ⟨Nat.le_of_ble_eq_true rfl, Nat.le_of_ble_eq_true rfl⟩) ?_
        have hq : (cBitCount (rAt 8 ((cPutW (cPutN r x1 x2 x3) 8) 0) x1)) = (cBitCount (rAt 8 (cPutN r x1 x2 x3 0) x1)) := by
          first | with_reducible rfl | with_reducible exact nI_add _ _ | (simp only [c_1, c_2, eq_false c_3, c_4, c_5, ↓reduceIte, Bool.false_eq_true, decide_true, decide_false, Bool.not_true, Bool.not_false, Bool.or_true, Bool.true_or, Bool.or_false, Bool.false_or]; done) | (simp only [c_1, c_2, eq_false c_3, c_4, c_5, ↓reduceIte, Bool.false_eq_true, decide_true, decide_false, Bool.not_true, Bool.not_false, Bool.or_true, Bool.true_or, Bool.or_false, Bool.false_or]; with_reducible rfl) | (simp only [c_1, c_2, eq_false c_3, c_4, c_5, ↓reduceIte, Bool.false_eq_true, decide_true, decide_false, Bool.not_true, Bool.not_false, Bool.or_true, Bool.true_or, Bool.or_false, Bool.false_or]; rfl) | (simp [b2i, c_1, c_2, eq_false c_3, c_4, c_5]; done) | rfl
        have hk0 : (kNeed r x1 x2 x3) = 0 := by
          first | with_reducible rfl | (simp only [kNeed, c_1, c_2, eq_false c_3, c_4, c_5, kT, eq_self, ↓reduceIte, Bool.false_eq_true]; done) | (simp only [kNeed, c_1, c_2, eq_false c_3, c_4, c_5, kT, eq_self, ↓reduceIte, Bool.false_eq_true]; rfl) | (simp [kT, kNeed, c_1, c_2, eq_false c_3, c_4, c_5]; done)
        have hPf : va_P G.1 vwCl (wRF G z (cPutW (cPutN r x1 x2 x3) 8) f) H := by
          have e1 : cPutW (cPutN r x1 x2 x3) 8 = cPutW (cPutN r x1 x2 x3) 8 := by first | with_reducible rfl | (simp only [c_1, c_2, eq_false c_3, c_4, c_5, ↓reduceIte, Bool.false_eq_true]; done) | (simp only [c_1, c_2, eq_false c_3, c_4, c_5, ↓reduceIte, Bool.false_eq_true]; rfl) | rfl
          have e2 : f = f := by first | with_reducible rfl | (simp only [c_1, c_2, eq_false c_3, c_4, c_5, ↓reduceIte, Bool.false_eq_true]; done) | (simp only [c_1, c_2, eq_false c_3, c_4, c_5, ↓reduceIte, Bool.false_eq_true]; rfl) | rfl
          rw [e1, e2]; exact hP
        refine W.widen (k := 3) (n := 18) (Nat.le_of_ble_eq_true rfl) (Nat.le_of_ble_eq_true rfl) ?_
        refine vx_ret ?_
        exact W.iret (v := cBitCount (rAt 8 ((cPutW (cPutN r x1 x2 x3) 8) 0) x1)) hx hb hr (fun t ht _ => ⟨⟨_, (), rfl, ⟨hk0, hq⟩, g_hp ht hPf⟩, hS.F ht⟩) hS.2.2 dX6_need_67
      · have c_5 := b2i_t c_5
        have hkv : (kNeed r x1 x2 x3) = 3 := by
          first | with_reducible rfl | (simp only [kNeed, c_1, c_2, eq_false c_3, c_4, c_5, kT, eq_self, ↓reduceIte, Bool.false_eq_true]; done) | (simp only [kNeed, c_1, c_2, eq_false c_3, c_4, c_5, kT, eq_self, ↓reduceIte, Bool.false_eq_true]; rfl) | (simp [kT, kNeed, c_1, c_2, eq_false c_3, c_4, c_5]; done)
        exact g_throwS (K := (kNeed r x1 x2 x3)) (text := "the other switch needs this one") hx hb hfl hown hX (by decide) (hts (.classLink RX6 51 xISE) (by decide +kernel)) (hts (.initialized xISE) (by decide +kernel)) (fun w hw => hts w (hg55 w hw)) hng55 hgo55 (List.mem_of_getElem? (i := 5) rfl) (by decide) hS (hl.1.trans hml.symm) (by rw [hkv]; decide) (by rw [hkv]; rfl) dX6_need_39 dX6_need_42 dX6_need_43 dX6_need_45 dX6_need_48 hexc hlocks ⟨Nat.le_of_ble_eq_true rfl, Nat.le_of_ble_eq_true rfl, Nat.le_of_ble_eq_true rfl, Nat.le_of_ble_eq_true rfl⟩ ⟨Nat.le_of_ble_eq_true rfl, Nat.le_of_ble_eq_true rfl⟩
  · have hkv : (kNeed r x1 x2 x3) = 2 := by
      first | with_reducible rfl | (simp only [kNeed, c_1, c_2, eq_true c_3, kT, eq_self, ↓reduceIte, Bool.false_eq_true]; done) | (simp only [kNeed, c_1, c_2, eq_true c_3, kT, eq_self, ↓reduceIte, Bool.false_eq_true]; rfl) | (simp [kT, kNeed, c_1, c_2, eq_true c_3]; done)
    exact g_throwS (K := (kNeed r x1 x2 x3)) (text := "a switch does not need itself") hx hb hfl hown hX (by decide) (hts (.classLink RX6 75 xIAE) (by decide +kernel)) (hts (.initialized xIAE) (by decide +kernel)) (fun w hw => hts w (hg79 w hw)) hng79 hgo79 (List.mem_of_getElem? (i := 4) rfl) (by decide) hS (hl.1.trans hml.symm) (by rw [hkv]; decide) (by rw [hkv]; rfl) dX6_need_13 dX6_need_16 dX6_need_17 dX6_need_19 dX6_need_22 hexc hlocks ⟨Nat.le_of_ble_eq_true rfl, Nat.le_of_ble_eq_true rfl, Nat.le_of_ble_eq_true rfl, Nat.le_of_ble_eq_true rfl⟩ ⟨Nat.le_of_ble_eq_true rfl, Nat.le_of_ble_eq_true rfl⟩

set_option maxHeartbeats 4000000 in
set_option maxRecDepth 100000 in
theorem c_X6_turn (l : Launch) (hfl : l.stackTraces = false) (G : gG) (H0 : Heap) (z : Nat → Nat) (hz : gDis z 50) (r : Nat → Nat → Int32) (f : Nat → Int32) (hP : va_P G.1 vwCl (wRF G z r f) H0) (x1 : Int32) (x2 : Int32) (x3 : Int32) : gMxw l yX6_turn wsX6_turn 7 111 4 G H0 [.ref (z 0), .int x1, .int x2, .int x3] (kTurn r f x1 x2 x3) (f 3) (wRF G z (cAddR r f x1 (f 1) x2 x3) (upF f 3 (f 3 + nI 1))) (gF z 50) := by
  refine vx_ofW (cc := cX6_turn) (maxL := 4) (ret := (some .int)) (by decide) rfl ?_
  intro p_ e_ s m args below meth c s₁ B hml hexc hv
  obtain ⟨rfl, rfl, hK, hX⟩ := hv
  have hx := B.exec
  have hb := B.bytes
  have hr := B.returns
  have hts := atoms_spec (ws := wsX6_turn) B.pre
  have hown : s.vm.findClass RX6 = some m.cls := findClass_of_methodNamed B.named
  have hlocks := B.notSynchronized
  have hinX6 : ∀ w ∈ wsX60, w ∈ wsX6_turn := by decide +kernel
  have S0 : CallFix p_ m c cX6_turn 4 s _ wsX6_turn RX6 := ⟨hx, hb, hml, hown, hts⟩
  have hS : va_S (fun _ => False) s.heap s.heap [] := va_S.rf
  have hg55 : ∀ w ∈ (vx_atS RX6 55 xISE gNm).filter goodWord, w ∈ wsX6_turn := by decide +kernel
  have hg79 : ∀ w ∈ (vx_atS RX6 79 xIAE gNm).filter goodWord, w ∈ wsX6_turn := by decide +kernel
  have hl := lv_entry ([.ref (z 0), .int x1, .int x2, .int x3]) (n := 4) (Nat.le_of_ble_eq_true rfl)
  rw [lg_entry_eq]
  generalize (lg_sl ([.ref (z 0), .int x1, .int x2, .int x3]) ++ List.replicate (4 - (lg_sl ([.ref (z 0), .int x1, .int x2, .int x3])).length) Slot.unset).toArray = ls at hl ⊢
  have hl : lv_has ls 4 [(0, .ref (z 0)), (1, .int x1), (2, .int x2), (3, .int x3)] := hl
  refine lv_iload_n hx hb dX6_turn_0 rfl (lv_at hl 1 rfl) ?_
  refine g_xv (K := (kTurn r f x1 x2 x3)) (Kc := (kPerson x1)) (vx_runS (As := [.int x1]) (rest := []) S0 (c_X6_requirePerson l hfl G _ x1) (va_cwS 1 hts gX6_turn_X6_requirePerson rfl rfl rfl (by decide +kernel) ⟨Nat.le_of_ble_eq_true rfl, Nat.le_of_ble_eq_true rfl⟩) (g_preXS hK hX) rfl rfl hl.1 rfl (lv_room (Nat.le_of_ble_eq_true rfl)) dX6_turn_1 ⟨Nat.le_of_ble_eq_true rfl, Nat.le_of_ble_eq_true rfl⟩) hS hexc hlocks (fun c_1 => by have hk9 : (kTurn r f x1 x2 x3) = (kPerson x1) := (by first | with_reducible rfl | (simp only [kTurn, c_1, kT, eq_self, ↓reduceIte, Bool.false_eq_true]; done) | (simp only [kTurn, c_1, kT, eq_self, ↓reduceIte, Bool.false_eq_true]; rfl) | (simp [kT, kTurn, c_1]; done)); exact ⟨by rw [hk9]; exact c_1, by rw [hk9]⟩) ⟨Nat.le_of_ble_eq_true rfl, Nat.le_of_ble_eq_true rfl⟩ (fun c_1 locs hS => ?_)
  refine lv_iload_n hx hb dX6_turn_4 rfl (lv_at hl 2 rfl) ?_
  refine g_xv (K := (kTurn r f x1 x2 x3)) (Kc := (kSwitch x2)) (vx_runS (As := [.int x2]) (rest := []) S0 (c_X6_requireSwitch l hfl G _ x2) (va_cwS 1 hts gX6_turn_X6_requireSwitch rfl rfl rfl (by decide +kernel) ⟨Nat.le_of_ble_eq_true rfl, Nat.le_of_ble_eq_true rfl⟩) (g_preXS hK hX) rfl rfl hl.1 rfl (lv_room (Nat.le_of_ble_eq_true rfl)) dX6_turn_5 ⟨Nat.le_of_ble_eq_true rfl, Nat.le_of_ble_eq_true rfl⟩) hS hexc hlocks (fun c_2 => by have hk9 : (kTurn r f x1 x2 x3) = (kSwitch x2) := (by first | with_reducible rfl | (simp only [kTurn, c_1, c_2, kT, eq_self, ↓reduceIte, Bool.false_eq_true]; done) | (simp only [kTurn, c_1, c_2, kT, eq_self, ↓reduceIte, Bool.false_eq_true]; rfl) | (simp [kT, kTurn, c_1, c_2]; done)); exact ⟨by rw [hk9]; exact c_2, by rw [hk9]⟩) ⟨Nat.le_of_ble_eq_true rfl, Nat.le_of_ble_eq_true rfl⟩ (fun c_2 locs hS => ?_)
  refine lv_iload_n hx hb dX6_turn_8 rfl (lv_at hl 3 rfl) ?_
  refine lv_if_lt (tgt := 17) hx hb dX6_turn_9 (by decide) (fun c_3 => ?_) (fun c_3 => ?_)
  · have hkv : (kTurn r f x1 x2 x3) = 2 := by
      first | with_reducible rfl | (simp only [kTurn, c_1, c_2, eq_true c_3, kT, eq_self, ↓reduceIte, Bool.false_eq_true]; done) | (simp only [kTurn, c_1, c_2, eq_true c_3, kT, eq_self, ↓reduceIte, Bool.false_eq_true]; rfl) | (simp [kT, kTurn, c_1, c_2, eq_true c_3]; done)
    exact g_throwS (K := (kTurn r f x1 x2 x3)) (text := "a level is 0 to 4") hx hb hfl hown hX (by decide) (hts (.classLink RX6 75 xIAE) (by decide +kernel)) (hts (.initialized xIAE) (by decide +kernel)) (fun w hw => hts w (hg79 w hw)) hng79 hgo79 (List.mem_of_getElem? (i := 7) rfl) (by decide) hS (hl.1.trans hml.symm) (by rw [hkv]; decide) (by rw [hkv]; rfl) dX6_turn_17 dX6_turn_20 dX6_turn_21 dX6_turn_23 dX6_turn_26 hexc hlocks ⟨Nat.le_of_ble_eq_true rfl, Nat.le_of_ble_eq_true rfl, Nat.le_of_ble_eq_true rfl, Nat.le_of_ble_eq_true rfl⟩ ⟨Nat.le_of_ble_eq_true rfl, Nat.le_of_ble_eq_true rfl⟩
  · refine lv_iload_n hx hb dX6_turn_12 rfl (lv_at hl 3 rfl) ?_
    refine lv_iconst (v := nI 4) hx hb dX6_turn_13 (by decide +kernel) ?_
    refine lv_icmp_le (tgt := 27) hx hb dX6_turn_14 (by decide) (fun c_4 => ?_) (fun c_4 => ?_)
    · refine lv_aload_n hx hb dX6_turn_27 rfl (lv_at hl 0 rfl) ?_
      refine lv_iload_n hx hb dX6_turn_28 rfl (lv_at hl 1 rfl) ?_
      refine g_xv (K := (kTurn r f x1 x2 x3)) (Kc := (kCan r f x1)) (vx_runV (C := RX6) (As := [.int x1]) (rest := []) S0 (c_X6_requireCanChange l hfl G _ z r f hP x1) (cwV 1 hts gX6_turn_X6_requireCanChange rfl rfl rfl (by decide +kernel) ⟨Nat.le_of_ble_eq_true rfl, Nat.le_of_ble_eq_true rfl⟩) (g_preXV hK hX hP (q0 := 0) (ci := 6) (q := (RX6, TX6, 7)) rfl rfl) rfl rfl hl.1 rfl (lv_room (Nat.le_of_ble_eq_true rfl)) dX6_turn_29 ⟨Nat.le_of_ble_eq_true rfl, Nat.le_of_ble_eq_true rfl⟩) hS hexc hlocks (fun c_5 => by have hk9 : (kTurn r f x1 x2 x3) = (kCan r f x1) := (by first | with_reducible rfl | (simp only [kTurn, c_1, c_2, eq_false c_3, eq_true c_4, c_5, kT, eq_self, ↓reduceIte, Bool.false_eq_true]; done) | (simp only [kTurn, c_1, c_2, eq_false c_3, eq_true c_4, c_5, kT, eq_self, ↓reduceIte, Bool.false_eq_true]; rfl) | (simp [kT, kTurn, c_1, c_2, eq_false c_3, eq_true c_4, c_5]; done)); exact ⟨by rw [hk9]; exact c_5, by rw [hk9]⟩) ⟨Nat.le_of_ble_eq_true rfl, Nat.le_of_ble_eq_true rfl⟩ (fun c_5 locs hS => ?_)
      refine lv_aload_n hx hb dX6_turn_32 rfl (lv_at hl 0 rfl) ?_
      refine va_get (D := G.1) (ci := 6) (v := .ref (z 3)) (C := RX6) (T := TX6) (N := 7) hx hb hts hinX6 hown hK.1 hP 0 rfl rfl 2 (by decide) (hts (.fieldLink RX6 26 "Rotaforge" "changeLog" "LRotaforge$ChangeLog;") (by decide +kernel)) (fun _ h9 => h9) rfl dX6_turn_33 ?_
      refine lv_iload_n hx hb dX6_turn_36 rfl (lv_at hl 2 rfl) ?_
      refine g_callC (W.runV (C := RX0) (As := [.int x2]) (rest := []) S0 (c_X0_valueNow l G _ z r f hP x2) (cwV 1 hts gX6_turn_X0_valueNow rfl rfl rfl (by decide +kernel) ⟨Nat.le_of_ble_eq_true rfl, Nat.le_of_ble_eq_true rfl⟩) (g_preV hK hP (q0 := 3) (ci := 0) (q := (RX0, TX0, 7)) rfl rfl) rfl rfl hl.1 rfl (lv_room (Nat.le_of_ble_eq_true rfl)) dX6_turn_37 ⟨Nat.le_of_ble_eq_true rfl, Nat.le_of_ble_eq_true rfl⟩) ?_
      refine lv_iload_n hx hb dX6_turn_40 rfl (lv_at hl 3 rfl) ?_
      refine lv_icmp_ne (tgt := 54) hx hb dX6_turn_41 (by decide) (fun c_6 => ?_) (fun c_6 => ?_)
      · refine lv_aload_n hx hb dX6_turn_54 rfl (lv_at hl 0 rfl) ?_
        refine va_get (D := G.1) (ci := 6) (v := .ref (z 3)) (C := RX6) (T := TX6) (N := 7) hx hb hts hinX6 hown hK.1 hP 0 rfl rfl 2 (by decide) (hts (.fieldLink RX6 26 "Rotaforge" "changeLog" "LRotaforge$ChangeLog;") (by decide +kernel)) (fun _ h9 => h9) rfl dX6_turn_55 ?_
        refine lv_iload_n hx hb dX6_turn_58 rfl (lv_at hl 1 rfl) ?_
        refine lv_aload_n hx hb dX6_turn_59 rfl (lv_at hl 0 rfl) ?_
        refine va_get (D := G.1) (ci := 6) (v := .int (f 1)) (C := RX6) (T := TX6) (N := 7) hx hb hts hinX6 hown hK.1 hP 0 rfl rfl 6 (by decide) (hts (.fieldLink RX6 48 "Rotaforge" "now" "I") (by decide +kernel)) (fun _ h9 => h9) rfl dX6_turn_60 ?_
        refine lv_iload_n hx hb dX6_turn_63 rfl (lv_at hl 2 rfl) ?_
        refine lv_iload_n hx hb dX6_turn_64 rfl (lv_at hl 3 rfl) ?_
        have hS := gS_up (A := gF z 50) hS
        have hD : va_D (gF z 50) (wRF G z r f) := gD_RF hz
        refine g_callw (va_runV (C := RX0) (As := [.int x1, .int (f 1), .int x2, .int x3]) (rest := []) S0 (c_X0_add l G _ z hz r f hP x1 (f 1) x2 x3) (cwV 4 hts gX6_turn_X0_add rfl rfl rfl (by decide +kernel) ⟨Nat.le_of_ble_eq_true rfl, Nat.le_of_ble_eq_true rfl⟩) (g_preV hK hP (q0 := 3) (ci := 0) (q := (RX0, TX0, 7)) rfl rfl) rfl rfl hl.1 rfl (lv_room (Nat.le_of_ble_eq_true rfl)) dX6_turn_65 ⟨Nat.le_of_ble_eq_true rfl, Nat.le_of_ble_eq_true rfl⟩) hS (fun _ h => h) (fun _ h => h) (fun H locs hP _ hS => ?_)
        have hP : va_P G.1 vwCl (wRF G z (cAddR r f x1 (f 1) x2 x3) (upF f 3 (f 3 + nI 1))) H := hP
        have hD : va_D (gF z 50) (wRF G z (cAddR r f x1 (f 1) x2 x3) (upF f 3 (f 3 + nI 1))) := gD_RF hz
        have hq : (f 3) = (f 3) := by
          first | with_reducible rfl | with_reducible exact nI_add _ _ | (simp only [c_1, c_2, eq_false c_3, eq_true c_4, c_5, eq_false c_6, ↓reduceIte, Bool.false_eq_true, decide_true, decide_false, Bool.not_true, Bool.not_false, Bool.or_true, Bool.true_or, Bool.or_false, Bool.false_or]; done) | (simp only [c_1, c_2, eq_false c_3, eq_true c_4, c_5, eq_false c_6, ↓reduceIte, Bool.false_eq_true, decide_true, decide_false, Bool.not_true, Bool.not_false, Bool.or_true, Bool.true_or, Bool.or_false, Bool.false_or]; with_reducible rfl) | (simp only [c_1, c_2, eq_false c_3, eq_true c_4, c_5, eq_false c_6, ↓reduceIte, Bool.false_eq_true, decide_true, decide_false, Bool.not_true, Bool.not_false, Bool.or_true, Bool.true_or, Bool.or_false, Bool.false_or]; rfl) | (simp [b2i, c_1, c_2, eq_false c_3, eq_true c_4, c_5, eq_false c_6]; done) | rfl
        have hk0 : (kTurn r f x1 x2 x3) = 0 := by
          first | with_reducible rfl | (simp only [kTurn, c_1, c_2, eq_false c_3, eq_true c_4, c_5, eq_false c_6, kT, eq_self, ↓reduceIte, Bool.false_eq_true]; done) | (simp only [kTurn, c_1, c_2, eq_false c_3, eq_true c_4, c_5, eq_false c_6, kT, eq_self, ↓reduceIte, Bool.false_eq_true]; rfl) | (simp [kT, kTurn, c_1, c_2, eq_false c_3, eq_true c_4, c_5, eq_false c_6]; done)
        have hPf : va_P G.1 vwCl (wRF G z (cAddR r f x1 (f 1) x2 x3) (upF f 3 (f 3 + nI 1))) H := by
          have e1 : cAddR r f x1 (f 1) x2 x3 = cAddR r f x1 (f 1) x2 x3 := by first | with_reducible rfl | (simp only [c_1, c_2, eq_false c_3, eq_true c_4, c_5, eq_false c_6, ↓reduceIte, Bool.false_eq_true]; done) | (simp only [c_1, c_2, eq_false c_3, eq_true c_4, c_5, eq_false c_6, ↓reduceIte, Bool.false_eq_true]; rfl) | rfl
          have e2 : upF f 3 (f 3 + nI 1) = upF f 3 (f 3 + nI 1) := by first | with_reducible rfl | (simp only [c_1, c_2, eq_false c_3, eq_true c_4, c_5, eq_false c_6, ↓reduceIte, Bool.false_eq_true]; done) | (simp only [c_1, c_2, eq_false c_3, eq_true c_4, c_5, eq_false c_6, ↓reduceIte, Bool.false_eq_true]; rfl) | rfl
          rw [e1, e2]; exact hP
        refine W.widen (k := 4) (n := 24) (Nat.le_of_ble_eq_true rfl) (Nat.le_of_ble_eq_true rfl) ?_
        refine vx_ret ?_
        exact W.iret (v := f 3) hx hb hr (fun t ht _ => ⟨⟨_, (), rfl, ⟨hk0, hq⟩, g_hp ht hPf⟩, hS.F ht⟩) hS.2.2 dX6_turn_68
      · have hkv : (kTurn r f x1 x2 x3) = 3 := by
          first | with_reducible rfl | (simp only [kTurn, c_1, c_2, eq_false c_3, eq_true c_4, c_5, eq_true c_6, kT, eq_self, ↓reduceIte, Bool.false_eq_true]; done) | (simp only [kTurn, c_1, c_2, eq_false c_3, eq_true c_4, c_5, eq_true c_6, kT, eq_self, ↓reduceIte, Bool.false_eq_true]; rfl) | (simp [kT, kTurn, c_1, c_2, eq_false c_3, eq_true c_4, c_5, eq_true c_6]; done)
        exact g_throwS (K := (kTurn r f x1 x2 x3)) (text := "the switch has this level") hx hb hfl hown hX (by decide) (hts (.classLink RX6 51 xISE) (by decide +kernel)) (hts (.initialized xISE) (by decide +kernel)) (fun w hw => hts w (hg55 w hw)) hng55 hgo55 (List.mem_of_getElem? (i := 10) rfl) (by decide) hS (hl.1.trans hml.symm) (by rw [hkv]; decide) (by rw [hkv]; rfl) dX6_turn_44 dX6_turn_47 dX6_turn_48 dX6_turn_50 dX6_turn_53 hexc hlocks ⟨Nat.le_of_ble_eq_true rfl, Nat.le_of_ble_eq_true rfl, Nat.le_of_ble_eq_true rfl, Nat.le_of_ble_eq_true rfl⟩ ⟨Nat.le_of_ble_eq_true rfl, Nat.le_of_ble_eq_true rfl⟩
    · have hkv : (kTurn r f x1 x2 x3) = 2 := by
        first | with_reducible rfl | (simp only [kTurn, c_1, c_2, eq_false c_3, eq_false c_4, kT, eq_self, ↓reduceIte, Bool.false_eq_true]; done) | (simp only [kTurn, c_1, c_2, eq_false c_3, eq_false c_4, kT, eq_self, ↓reduceIte, Bool.false_eq_true]; rfl) | (simp [kT, kTurn, c_1, c_2, eq_false c_3, eq_false c_4]; done)
      exact g_throwS (K := (kTurn r f x1 x2 x3)) (text := "a level is 0 to 4") hx hb hfl hown hX (by decide) (hts (.classLink RX6 75 xIAE) (by decide +kernel)) (hts (.initialized xIAE) (by decide +kernel)) (fun w hw => hts w (hg79 w hw)) hng79 hgo79 (List.mem_of_getElem? (i := 7) rfl) (by decide) hS (hl.1.trans hml.symm) (by rw [hkv]; decide) (by rw [hkv]; rfl) dX6_turn_17 dX6_turn_20 dX6_turn_21 dX6_turn_23 dX6_turn_26 hexc hlocks ⟨Nat.le_of_ble_eq_true rfl, Nat.le_of_ble_eq_true rfl, Nat.le_of_ble_eq_true rfl, Nat.le_of_ble_eq_true rfl⟩ ⟨Nat.le_of_ble_eq_true rfl, Nat.le_of_ble_eq_true rfl⟩

set_option maxHeartbeats 4000000 in
set_option maxRecDepth 100000 in
theorem c_X6_roll (l : Launch) (hfl : l.stackTraces = false) (G : gG) (H0 : Heap) (z : Nat → Nat) (hz : gDis z 50) (r : Nat → Nat → Int32) (f : Nat → Int32) (hP : va_P G.1 vwCl (wRF G z r f) H0) (x1 : Int32) (x2 : Int32) (x3 : Int32) : gMxw l yX6_roll wsX6_roll 7 111 5 G H0 [.ref (z 0), .int x1, .int x2, .int x3] (kRoll r f x1 x2 x3) (f 3) (wRF G z (cAddR r f x1 (f 1) (cSubj x2) x3) (upF f 3 (f 3 + nI 1))) (gF z 50) := by
  refine vx_ofW (cc := cX6_roll) (maxL := 4) (ret := (some .int)) (by decide) rfl ?_
  intro p_ e_ s m args below meth c s₁ B hml hexc hv
  obtain ⟨rfl, rfl, hK, hX⟩ := hv
  have hx := B.exec
  have hb := B.bytes
  have hr := B.returns
  have hts := atoms_spec (ws := wsX6_roll) B.pre
  have hown : s.vm.findClass RX6 = some m.cls := findClass_of_methodNamed B.named
  have hlocks := B.notSynchronized
  have hinX6 : ∀ w ∈ wsX60, w ∈ wsX6_roll := by decide +kernel
  have S0 : CallFix p_ m c cX6_roll 4 s _ wsX6_roll RX6 := ⟨hx, hb, hml, hown, hts⟩
  have hS : va_S (fun _ => False) s.heap s.heap [] := va_S.rf
  have hg55 : ∀ w ∈ (vx_atS RX6 55 xISE gNm).filter goodWord, w ∈ wsX6_roll := by decide +kernel
  have hl := lv_entry ([.ref (z 0), .int x1, .int x2, .int x3]) (n := 4) (Nat.le_of_ble_eq_true rfl)
  rw [lg_entry_eq]
  generalize (lg_sl ([.ref (z 0), .int x1, .int x2, .int x3]) ++ List.replicate (4 - (lg_sl ([.ref (z 0), .int x1, .int x2, .int x3])).length) Slot.unset).toArray = ls at hl ⊢
  have hl : lv_has ls 4 [(0, .ref (z 0)), (1, .int x1), (2, .int x2), (3, .int x3)] := hl
  refine lv_iload_n hx hb dX6_roll_0 rfl (lv_at hl 1 rfl) ?_
  refine g_xv (K := (kRoll r f x1 x2 x3)) (Kc := (kPerson x1)) (vx_runS (As := [.int x1]) (rest := []) S0 (c_X6_requirePerson l hfl G _ x1) (va_cwS 1 hts gX6_roll_X6_requirePerson rfl rfl rfl (by decide +kernel) ⟨Nat.le_of_ble_eq_true rfl, Nat.le_of_ble_eq_true rfl⟩) (g_preXS hK hX) rfl rfl hl.1 rfl (lv_room (Nat.le_of_ble_eq_true rfl)) dX6_roll_1 ⟨Nat.le_of_ble_eq_true rfl, Nat.le_of_ble_eq_true rfl⟩) hS hexc hlocks (fun c_1 => by have hk9 : (kRoll r f x1 x2 x3) = (kPerson x1) := (by first | with_reducible rfl | (simp only [kRoll, c_1, kT, eq_self, ↓reduceIte, Bool.false_eq_true]; done) | (simp only [kRoll, c_1, kT, eq_self, ↓reduceIte, Bool.false_eq_true]; rfl) | (simp [kT, kRoll, c_1]; done)); exact ⟨by rw [hk9]; exact c_1, by rw [hk9]⟩) ⟨Nat.le_of_ble_eq_true rfl, Nat.le_of_ble_eq_true rfl⟩ (fun c_1 locs hS => ?_)
  refine lv_iload_n hx hb dX6_roll_4 rfl (lv_at hl 2 rfl) ?_
  refine g_xv (K := (kRoll r f x1 x2 x3)) (Kc := (kRing x2)) (vx_runS (As := [.int x2]) (rest := []) S0 (c_X6_requireRing l hfl G _ x2) (va_cwS 1 hts gX6_roll_X6_requireRing rfl rfl rfl (by decide +kernel) ⟨Nat.le_of_ble_eq_true rfl, Nat.le_of_ble_eq_true rfl⟩) (g_preXS hK hX) rfl rfl hl.1 rfl (lv_room (Nat.le_of_ble_eq_true rfl)) dX6_roll_5 ⟨Nat.le_of_ble_eq_true rfl, Nat.le_of_ble_eq_true rfl⟩) hS hexc hlocks (fun c_2 => by have hk9 : (kRoll r f x1 x2 x3) = (kRing x2) := (by first | with_reducible rfl | (simp only [kRoll, c_1, c_2, kT, eq_self, ↓reduceIte, Bool.false_eq_true]; done) | (simp only [kRoll, c_1, c_2, kT, eq_self, ↓reduceIte, Bool.false_eq_true]; rfl) | (simp [kT, kRoll, c_1, c_2]; done)); exact ⟨by rw [hk9]; exact c_2, by rw [hk9]⟩) ⟨Nat.le_of_ble_eq_true rfl, Nat.le_of_ble_eq_true rfl⟩ (fun c_2 locs hS => ?_)
  refine lv_aload_n hx hb dX6_roll_8 rfl (lv_at hl 0 rfl) ?_
  refine lv_iload_n hx hb dX6_roll_9 rfl (lv_at hl 3 rfl) ?_
  refine g_xv (K := (kRoll r f x1 x2 x3)) (Kc := (kBelow (f 0) x3)) (vx_runV (C := RX6) (As := [.int x3]) (rest := []) S0 (c_X6_requireVersion l hfl G _ z r f hP x3) (cwV 1 hts gX6_roll_X6_requireVersion rfl rfl rfl (by decide +kernel) ⟨Nat.le_of_ble_eq_true rfl, Nat.le_of_ble_eq_true rfl⟩) (g_preXV hK hX hP (q0 := 0) (ci := 6) (q := (RX6, TX6, 7)) rfl rfl) rfl rfl hl.1 rfl (lv_room (Nat.le_of_ble_eq_true rfl)) dX6_roll_10 ⟨Nat.le_of_ble_eq_true rfl, Nat.le_of_ble_eq_true rfl⟩) hS hexc hlocks (fun c_3 => by have hk9 : (kRoll r f x1 x2 x3) = (kBelow (f 0) x3) := (by first | with_reducible rfl | (simp only [kRoll, c_1, c_2, c_3, kT, eq_self, ↓reduceIte, Bool.false_eq_true]; done) | (simp only [kRoll, c_1, c_2, c_3, kT, eq_self, ↓reduceIte, Bool.false_eq_true]; rfl) | (simp [kT, kRoll, c_1, c_2, c_3]; done)); exact ⟨by rw [hk9]; exact c_3, by rw [hk9]⟩) ⟨Nat.le_of_ble_eq_true rfl, Nat.le_of_ble_eq_true rfl⟩ (fun c_3 locs hS => ?_)
  refine lv_aload_n hx hb dX6_roll_13 rfl (lv_at hl 0 rfl) ?_
  refine lv_iload_n hx hb dX6_roll_14 rfl (lv_at hl 1 rfl) ?_
  refine g_xv (K := (kRoll r f x1 x2 x3)) (Kc := (kCan r f x1)) (vx_runV (C := RX6) (As := [.int x1]) (rest := []) S0 (c_X6_requireCanChange l hfl G _ z r f hP x1) (cwV 1 hts gX6_roll_X6_requireCanChange rfl rfl rfl (by decide +kernel) ⟨Nat.le_of_ble_eq_true rfl, Nat.le_of_ble_eq_true rfl⟩) (g_preXV hK hX hP (q0 := 0) (ci := 6) (q := (RX6, TX6, 7)) rfl rfl) rfl rfl hl.1 rfl (lv_room (Nat.le_of_ble_eq_true rfl)) dX6_roll_15 ⟨Nat.le_of_ble_eq_true rfl, Nat.le_of_ble_eq_true rfl⟩) hS hexc hlocks (fun c_4 => by have hk9 : (kRoll r f x1 x2 x3) = (kCan r f x1) := (by first | with_reducible rfl | (simp only [kRoll, c_1, c_2, c_3, c_4, kT, eq_self, ↓reduceIte, Bool.false_eq_true]; done) | (simp only [kRoll, c_1, c_2, c_3, c_4, kT, eq_self, ↓reduceIte, Bool.false_eq_true]; rfl) | (simp [kT, kRoll, c_1, c_2, c_3, c_4]; done)); exact ⟨by rw [hk9]; exact c_4, by rw [hk9]⟩) ⟨Nat.le_of_ble_eq_true rfl, Nat.le_of_ble_eq_true rfl⟩ (fun c_4 locs hS => ?_)
  refine lv_aload_n hx hb dX6_roll_18 rfl (lv_at hl 0 rfl) ?_
  refine lv_iload_n hx hb dX6_roll_19 rfl (lv_at hl 2 rfl) ?_
  refine g_callC (W.runV (C := RX6) (As := [.int x2]) (rest := []) S0 (c_X6_runs l G _ z r f hP x2) (cwV 1 hts gX6_roll_X6_runs rfl rfl rfl (by decide +kernel) ⟨Nat.le_of_ble_eq_true rfl, Nat.le_of_ble_eq_true rfl⟩) (g_preV hK hP (q0 := 0) (ci := 6) (q := (RX6, TX6, 7)) rfl rfl) rfl rfl hl.1 rfl (lv_room (Nat.le_of_ble_eq_true rfl)) dX6_roll_20 ⟨Nat.le_of_ble_eq_true rfl, Nat.le_of_ble_eq_true rfl⟩) ?_
  refine lv_iload_n hx hb dX6_roll_23 rfl (lv_at hl 3 rfl) ?_
  refine lv_icmp_ne (tgt := 37) hx hb dX6_roll_24 (by decide) (fun c_5 => ?_) (fun c_5 => ?_)
  · refine lv_aload_n hx hb dX6_roll_37 rfl (lv_at hl 0 rfl) ?_
    refine lv_iload_n hx hb dX6_roll_38 rfl (lv_at hl 2 rfl) ?_
    refine lv_iload_n hx hb dX6_roll_39 rfl (lv_at hl 3 rfl) ?_
    refine g_callC (W.runV (C := RX6) (As := [.int x2, .int x3]) (rest := []) S0 (c_X6_isHeldBack l G _ z r f hP x2 x3 (cN x2) (kRing_ok c_2).1 (Nat.lt_trans (kRing_ok c_2).2 (by decide))) (cwV 2 hts gX6_roll_X6_isHeldBack rfl rfl rfl (by decide +kernel) ⟨Nat.le_of_ble_eq_true rfl, Nat.le_of_ble_eq_true rfl⟩) (g_preV hK hP (q0 := 0) (ci := 6) (q := (RX6, TX6, 7)) rfl rfl) rfl rfl hl.1 rfl (lv_room (Nat.le_of_ble_eq_true rfl)) dX6_roll_40 ⟨Nat.le_of_ble_eq_true rfl, Nat.le_of_ble_eq_true rfl⟩) ?_
    refine lv_if_eq (tgt := 56) hx hb dX6_roll_43 (by decide) (fun c_6 => ?_) (fun c_6 => ?_)
    · have c_6 := b2i_f c_6
      refine lv_aload_n hx hb dX6_roll_56 rfl (lv_at hl 0 rfl) ?_
      refine va_get (D := G.1) (ci := 6) (v := .ref (z 3)) (C := RX6) (T := TX6) (N := 7) hx hb hts hinX6 hown hK.1 hP 0 rfl rfl 2 (by decide) (hts (.fieldLink RX6 26 "Rotaforge" "changeLog" "LRotaforge$ChangeLog;") (by decide +kernel)) (fun _ h9 => h9) rfl dX6_roll_57 ?_
      refine lv_iload_n hx hb dX6_roll_60 rfl (lv_at hl 1 rfl) ?_
      refine lv_aload_n hx hb dX6_roll_61 rfl (lv_at hl 0 rfl) ?_
      refine va_get (D := G.1) (ci := 6) (v := .int (f 1)) (C := RX6) (T := TX6) (N := 7) hx hb hts hinX6 hown hK.1 hP 0 rfl rfl 6 (by decide) (hts (.fieldLink RX6 48 "Rotaforge" "now" "I") (by decide +kernel)) (fun _ h9 => h9) rfl dX6_roll_62 ?_
      refine lv_iload_n hx hb dX6_roll_65 rfl (lv_at hl 2 rfl) ?_
      refine g_callC (W.runS (As := [.int x2]) (rest := [.int (f 1), .int x1, .ref (z 3)]) S0 (c_X6_subjectOfRing l G _ x2) (va_cwS 1 hts gX6_roll_X6_subjectOfRing rfl rfl rfl (by decide +kernel) ⟨Nat.le_of_ble_eq_true rfl, Nat.le_of_ble_eq_true rfl⟩) (g_preS hK) rfl rfl hl.1 rfl (lv_room (Nat.le_of_ble_eq_true rfl)) dX6_roll_66 ⟨Nat.le_of_ble_eq_true rfl, Nat.le_of_ble_eq_true rfl⟩) ?_
      refine lv_iload_n hx hb dX6_roll_69 rfl (lv_at hl 3 rfl) ?_
      have hS := gS_up (A := gF z 50) hS
      have hD : va_D (gF z 50) (wRF G z r f) := gD_RF hz
      refine g_callw (va_runV (C := RX0) (As := [.int x1, .int (f 1), .int (cSubj x2), .int x3]) (rest := []) S0 (c_X0_add l G _ z hz r f hP x1 (f 1) (cSubj x2) x3) (cwV 4 hts gX6_roll_X0_add rfl rfl rfl (by decide +kernel) ⟨Nat.le_of_ble_eq_true rfl, Nat.le_of_ble_eq_true rfl⟩) (g_preV hK hP (q0 := 3) (ci := 0) (q := (RX0, TX0, 7)) rfl rfl) rfl rfl hl.1 rfl (lv_room (Nat.le_of_ble_eq_true rfl)) dX6_roll_70 ⟨Nat.le_of_ble_eq_true rfl, Nat.le_of_ble_eq_true rfl⟩) hS (fun _ h => h) (fun _ h => h) (fun H locs hP _ hS => ?_)
      have hP : va_P G.1 vwCl (wRF G z (cAddR r f x1 (f 1) (cSubj x2) x3) (upF f 3 (f 3 + nI 1))) H := hP
      have hD : va_D (gF z 50) (wRF G z (cAddR r f x1 (f 1) (cSubj x2) x3) (upF f 3 (f 3 + nI 1))) := gD_RF hz
      have hq : (f 3) = (f 3) := by
        first | with_reducible rfl | with_reducible exact nI_add _ _ | (simp only [c_1, c_2, c_3, c_4, eq_false c_5, c_6, ↓reduceIte, Bool.false_eq_true, decide_true, decide_false, Bool.not_true, Bool.not_false, Bool.or_true, Bool.true_or, Bool.or_false, Bool.false_or]; done) | (simp only [c_1, c_2, c_3, c_4, eq_false c_5, c_6, ↓reduceIte, Bool.false_eq_true, decide_true, decide_false, Bool.not_true, Bool.not_false, Bool.or_true, Bool.true_or, Bool.or_false, Bool.false_or]; with_reducible rfl) | (simp only [c_1, c_2, c_3, c_4, eq_false c_5, c_6, ↓reduceIte, Bool.false_eq_true, decide_true, decide_false, Bool.not_true, Bool.not_false, Bool.or_true, Bool.true_or, Bool.or_false, Bool.false_or]; rfl) | (simp [b2i, c_1, c_2, c_3, c_4, eq_false c_5, c_6]; done) | rfl
      have hk0 : (kRoll r f x1 x2 x3) = 0 := by
        first | with_reducible rfl | (simp only [kRoll, c_1, c_2, c_3, c_4, eq_false c_5, c_6, kT, eq_self, ↓reduceIte, Bool.false_eq_true]; done) | (simp only [kRoll, c_1, c_2, c_3, c_4, eq_false c_5, c_6, kT, eq_self, ↓reduceIte, Bool.false_eq_true]; rfl) | (simp [kT, kRoll, c_1, c_2, c_3, c_4, eq_false c_5, c_6]; done)
      have hPf : va_P G.1 vwCl (wRF G z (cAddR r f x1 (f 1) (cSubj x2) x3) (upF f 3 (f 3 + nI 1))) H := by
        have e1 : cAddR r f x1 (f 1) (cSubj x2) x3 = cAddR r f x1 (f 1) (cSubj x2) x3 := by first | with_reducible rfl | (simp only [c_1, c_2, c_3, c_4, eq_false c_5, c_6, ↓reduceIte, Bool.false_eq_true]; done) | (simp only [c_1, c_2, c_3, c_4, eq_false c_5, c_6, ↓reduceIte, Bool.false_eq_true]; rfl) | rfl
        have e2 : upF f 3 (f 3 + nI 1) = upF f 3 (f 3 + nI 1) := by first | with_reducible rfl | (simp only [c_1, c_2, c_3, c_4, eq_false c_5, c_6, ↓reduceIte, Bool.false_eq_true]; done) | (simp only [c_1, c_2, c_3, c_4, eq_false c_5, c_6, ↓reduceIte, Bool.false_eq_true]; rfl) | rfl
        rw [e1, e2]; exact hP
      refine W.widen (k := 5) (n := 30) (Nat.le_of_ble_eq_true rfl) (Nat.le_of_ble_eq_true rfl) ?_
      refine vx_ret ?_
      exact W.iret (v := f 3) hx hb hr (fun t ht _ => ⟨⟨_, (), rfl, ⟨hk0, hq⟩, g_hp ht hPf⟩, hS.F ht⟩) hS.2.2 dX6_roll_73
    · have c_6 := b2i_t c_6
      have hkv : (kRoll r f x1 x2 x3) = 3 := by
        first | with_reducible rfl | (simp only [kRoll, c_1, c_2, c_3, c_4, eq_false c_5, c_6, kT, eq_self, ↓reduceIte, Bool.false_eq_true]; done) | (simp only [kRoll, c_1, c_2, c_3, c_4, eq_false c_5, c_6, kT, eq_self, ↓reduceIte, Bool.false_eq_true]; rfl) | (simp [kT, kRoll, c_1, c_2, c_3, c_4, eq_false c_5, c_6]; done)
      exact g_throwS (K := (kRoll r f x1 x2 x3)) (text := "the ring is held back") hx hb hfl hown hX (by decide) (hts (.classLink RX6 51 xISE) (by decide +kernel)) (hts (.initialized xISE) (by decide +kernel)) (fun w hw => hts w (hg55 w hw)) hng55 hgo55 (List.mem_of_getElem? (i := 13) rfl) (by decide) hS (hl.1.trans hml.symm) (by rw [hkv]; decide) (by rw [hkv]; rfl) dX6_roll_46 dX6_roll_49 dX6_roll_50 dX6_roll_52 dX6_roll_55 hexc hlocks ⟨Nat.le_of_ble_eq_true rfl, Nat.le_of_ble_eq_true rfl, Nat.le_of_ble_eq_true rfl, Nat.le_of_ble_eq_true rfl⟩ ⟨Nat.le_of_ble_eq_true rfl, Nat.le_of_ble_eq_true rfl⟩
  · have hkv : (kRoll r f x1 x2 x3) = 3 := by
      first | with_reducible rfl | (simp only [kRoll, c_1, c_2, c_3, c_4, eq_true c_5, kT, eq_self, ↓reduceIte, Bool.false_eq_true]; done) | (simp only [kRoll, c_1, c_2, c_3, c_4, eq_true c_5, kT, eq_self, ↓reduceIte, Bool.false_eq_true]; rfl) | (simp [kT, kRoll, c_1, c_2, c_3, c_4, eq_true c_5]; done)
    exact g_throwS (K := (kRoll r f x1 x2 x3)) (text := "the ring runs this version") hx hb hfl hown hX (by decide) (hts (.classLink RX6 51 xISE) (by decide +kernel)) (hts (.initialized xISE) (by decide +kernel)) (fun w hw => hts w (hg55 w hw)) hng55 hgo55 (List.mem_of_getElem? (i := 12) rfl) (by decide) hS (hl.1.trans hml.symm) (by rw [hkv]; decide) (by rw [hkv]; rfl) dX6_roll_27 dX6_roll_30 dX6_roll_31 dX6_roll_33 dX6_roll_36 hexc hlocks ⟨Nat.le_of_ble_eq_true rfl, Nat.le_of_ble_eq_true rfl, Nat.le_of_ble_eq_true rfl, Nat.le_of_ble_eq_true rfl⟩ ⟨Nat.le_of_ble_eq_true rfl, Nat.le_of_ble_eq_true rfl⟩

set_option maxHeartbeats 4000000 in
set_option maxRecDepth 100000 in
theorem c_X6_revert (l : Launch) (hfl : l.stackTraces = false) (G : gG) (H0 : Heap) (z : Nat → Nat) (hz : gDis z 50) (r : Nat → Nat → Int32) (f : Nat → Int32) (hP : va_P G.1 vwCl (wRF G z r f) H0) (x1 : Int32) (x2 : Int32) : gMxw l yX6_revert wsX6_revert 7 111 4 G H0 [.ref (z 0), .int x1, .int x2] (kRevert r f x1 x2) (f 3) (wRF G z (cAddR r f x1 (f 1) (rAt 200 (r 7) x2) (cWithout r x2)) (upF f 3 (f 3 + nI 1))) (gF z 50) := by
  refine vx_ofW (cc := cX6_revert) (maxL := 4) (ret := (some .int)) (by decide) rfl ?_
  intro p_ e_ s m args below meth c s₁ B hml hexc hv
  obtain ⟨rfl, rfl, hK, hX⟩ := hv
  have hx := B.exec
  have hb := B.bytes
  have hr := B.returns
  have hts := atoms_spec (ws := wsX6_revert) B.pre
  have hown : s.vm.findClass RX6 = some m.cls := findClass_of_methodNamed B.named
  have hlocks := B.notSynchronized
  have hinX6 : ∀ w ∈ wsX60, w ∈ wsX6_revert := by decide +kernel
  have S0 : CallFix p_ m c cX6_revert 4 s _ wsX6_revert RX6 := ⟨hx, hb, hml, hown, hts⟩
  have hS : va_S (fun _ => False) s.heap s.heap [] := va_S.rf
  have hg55 : ∀ w ∈ (vx_atS RX6 55 xISE gNm).filter goodWord, w ∈ wsX6_revert := by decide +kernel
  have hl := lv_entry ([.ref (z 0), .int x1, .int x2]) (n := 4) (Nat.le_of_ble_eq_true rfl)
  rw [lg_entry_eq]
  generalize (lg_sl ([.ref (z 0), .int x1, .int x2]) ++ List.replicate (4 - (lg_sl ([.ref (z 0), .int x1, .int x2])).length) Slot.unset).toArray = ls at hl ⊢
  have hl : lv_has ls 4 [(0, .ref (z 0)), (1, .int x1), (2, .int x2)] := hl
  refine lv_iload_n hx hb dX6_revert_0 rfl (lv_at hl 1 rfl) ?_
  refine g_xv (K := (kRevert r f x1 x2)) (Kc := (kPerson x1)) (vx_runS (As := [.int x1]) (rest := []) S0 (c_X6_requirePerson l hfl G _ x1) (va_cwS 1 hts gX6_revert_X6_requirePerson rfl rfl rfl (by decide +kernel) ⟨Nat.le_of_ble_eq_true rfl, Nat.le_of_ble_eq_true rfl⟩) (g_preXS hK hX) rfl rfl hl.1 rfl (lv_room (Nat.le_of_ble_eq_true rfl)) dX6_revert_1 ⟨Nat.le_of_ble_eq_true rfl, Nat.le_of_ble_eq_true rfl⟩) hS hexc hlocks (fun c_1 => by have hk9 : (kRevert r f x1 x2) = (kPerson x1) := (by first | with_reducible rfl | (simp only [kRevert, c_1, kT, eq_self, ↓reduceIte, Bool.false_eq_true]; done) | (simp only [kRevert, c_1, kT, eq_self, ↓reduceIte, Bool.false_eq_true]; rfl) | (simp [kT, kRevert, c_1]; done)); exact ⟨by rw [hk9]; exact c_1, by rw [hk9]⟩) ⟨Nat.le_of_ble_eq_true rfl, Nat.le_of_ble_eq_true rfl⟩ (fun c_1 locs hS => ?_)
  refine lv_aload_n hx hb dX6_revert_4 rfl (lv_at hl 0 rfl) ?_
  refine lv_iload_n hx hb dX6_revert_5 rfl (lv_at hl 2 rfl) ?_
  refine g_xv (K := (kRevert r f x1 x2)) (Kc := (kBelow (f 3) x2)) (vx_runV (C := RX6) (As := [.int x2]) (rest := []) S0 (c_X6_requireChange l hfl G _ z r f hP x2) (cwV 1 hts gX6_revert_X6_requireChange rfl rfl rfl (by decide +kernel) ⟨Nat.le_of_ble_eq_true rfl, Nat.le_of_ble_eq_true rfl⟩) (g_preXV hK hX hP (q0 := 0) (ci := 6) (q := (RX6, TX6, 7)) rfl rfl) rfl rfl hl.1 rfl (lv_room (Nat.le_of_ble_eq_true rfl)) dX6_revert_6 ⟨Nat.le_of_ble_eq_true rfl, Nat.le_of_ble_eq_true rfl⟩) hS hexc hlocks (fun c_2 => by have hk9 : (kRevert r f x1 x2) = (kBelow (f 3) x2) := (by first | with_reducible rfl | (simp only [kRevert, c_1, c_2, kT, eq_self, ↓reduceIte, Bool.false_eq_true]; done) | (simp only [kRevert, c_1, c_2, kT, eq_self, ↓reduceIte, Bool.false_eq_true]; rfl) | (simp [kT, kRevert, c_1, c_2]; done)); exact ⟨by rw [hk9]; exact c_2, by rw [hk9]⟩) ⟨Nat.le_of_ble_eq_true rfl, Nat.le_of_ble_eq_true rfl⟩ (fun c_2 locs hS => ?_)
  refine lv_aload_n hx hb dX6_revert_9 rfl (lv_at hl 0 rfl) ?_
  refine lv_iload_n hx hb dX6_revert_10 rfl (lv_at hl 1 rfl) ?_
  refine g_xv (K := (kRevert r f x1 x2)) (Kc := (kCan r f x1)) (vx_runV (C := RX6) (As := [.int x1]) (rest := []) S0 (c_X6_requireCanChange l hfl G _ z r f hP x1) (cwV 1 hts gX6_revert_X6_requireCanChange rfl rfl rfl (by decide +kernel) ⟨Nat.le_of_ble_eq_true rfl, Nat.le_of_ble_eq_true rfl⟩) (g_preXV hK hX hP (q0 := 0) (ci := 6) (q := (RX6, TX6, 7)) rfl rfl) rfl rfl hl.1 rfl (lv_room (Nat.le_of_ble_eq_true rfl)) dX6_revert_11 ⟨Nat.le_of_ble_eq_true rfl, Nat.le_of_ble_eq_true rfl⟩) hS hexc hlocks (fun c_3 => by have hk9 : (kRevert r f x1 x2) = (kCan r f x1) := (by first | with_reducible rfl | (simp only [kRevert, c_1, c_2, c_3, kT, eq_self, ↓reduceIte, Bool.false_eq_true]; done) | (simp only [kRevert, c_1, c_2, c_3, kT, eq_self, ↓reduceIte, Bool.false_eq_true]; rfl) | (simp [kT, kRevert, c_1, c_2, c_3]; done)); exact ⟨by rw [hk9]; exact c_3, by rw [hk9]⟩) ⟨Nat.le_of_ble_eq_true rfl, Nat.le_of_ble_eq_true rfl⟩ (fun c_3 locs hS => ?_)
  refine lv_aload_n hx hb dX6_revert_14 rfl (lv_at hl 0 rfl) ?_
  refine va_get (D := G.1) (ci := 6) (v := .ref (z 3)) (C := RX6) (T := TX6) (N := 7) hx hb hts hinX6 hown hK.1 hP 0 rfl rfl 2 (by decide) (hts (.fieldLink RX6 26 "Rotaforge" "changeLog" "LRotaforge$ChangeLog;") (by decide +kernel)) (fun _ h9 => h9) rfl dX6_revert_15 ?_
  refine lv_iload_n hx hb dX6_revert_18 rfl (lv_at hl 2 rfl) ?_
  refine g_callC (W.runV (C := RX0) (As := [.int x2]) (rest := []) S0 (c_X0_subjectOf l G _ z r f hP x2) (cwV 1 hts gX6_revert_X0_subjectOf rfl rfl rfl (by decide +kernel) ⟨Nat.le_of_ble_eq_true rfl, Nat.le_of_ble_eq_true rfl⟩) (g_preV hK hP (q0 := 3) (ci := 0) (q := (RX0, TX0, 7)) rfl rfl) rfl rfl hl.1 rfl (lv_room (Nat.le_of_ble_eq_true rfl)) dX6_revert_19 ⟨Nat.le_of_ble_eq_true rfl, Nat.le_of_ble_eq_true rfl⟩) ?_
  refine lv_istore_n (lv' := [(3, .int (rAt 200 (r 7) x2)), (0, .ref (z 0)), (1, .int x1), (2, .int x2)]) hx hb dX6_revert_22 rfl hl (by decide) rfl (fun ls hl => ?_)
  refine lv_aload_n hx hb dX6_revert_23 rfl (lv_at hl 1 rfl) ?_
  refine va_get (D := G.1) (ci := 6) (v := .ref (z 3)) (C := RX6) (T := TX6) (N := 7) hx hb hts hinX6 hown hK.1 hP 0 rfl rfl 2 (by decide) (hts (.fieldLink RX6 26 "Rotaforge" "changeLog" "LRotaforge$ChangeLog;") (by decide +kernel)) (fun _ h9 => h9) rfl dX6_revert_24 ?_
  refine lv_iload_n hx hb dX6_revert_27 rfl (lv_at hl 0 rfl) ?_
  refine g_callC (W.runV (C := RX0) (As := [.int (rAt 200 (r 7) x2)]) (rest := []) S0 (c_X0_latestOf l G _ z r f hP (rAt 200 (r 7) x2)) (cwV 1 hts gX6_revert_X0_latestOf rfl rfl rfl (by decide +kernel) ⟨Nat.le_of_ble_eq_true rfl, Nat.le_of_ble_eq_true rfl⟩) (g_preV hK hP (q0 := 3) (ci := 0) (q := (RX0, TX0, 7)) rfl rfl) rfl rfl hl.1 rfl (lv_room (Nat.le_of_ble_eq_true rfl)) dX6_revert_28 ⟨Nat.le_of_ble_eq_true rfl, Nat.le_of_ble_eq_true rfl⟩) ?_
  refine lv_iload_n hx hb dX6_revert_31 rfl (lv_at hl 3 rfl) ?_
  refine lv_icmp_eq (tgt := 45) hx hb dX6_revert_32 (by decide) (fun c_4 => ?_) (fun c_4 => ?_)
  · refine lv_aload_n hx hb dX6_revert_45 rfl (lv_at hl 1 rfl) ?_
    refine va_get (D := G.1) (ci := 6) (v := .ref (z 3)) (C := RX6) (T := TX6) (N := 7) hx hb hts hinX6 hown hK.1 hP 0 rfl rfl 2 (by decide) (hts (.fieldLink RX6 26 "Rotaforge" "changeLog" "LRotaforge$ChangeLog;") (by decide +kernel)) (fun _ h9 => h9) rfl dX6_revert_46 ?_
    refine lv_iload_n hx hb dX6_revert_49 rfl (lv_at hl 2 rfl) ?_
    refine lv_aload_n hx hb dX6_revert_50 rfl (lv_at hl 1 rfl) ?_
    refine va_get (D := G.1) (ci := 6) (v := .int (f 1)) (C := RX6) (T := TX6) (N := 7) hx hb hts hinX6 hown hK.1 hP 0 rfl rfl 6 (by decide) (hts (.fieldLink RX6 48 "Rotaforge" "now" "I") (by decide +kernel)) (fun _ h9 => h9) rfl dX6_revert_51 ?_
    refine lv_iload_n hx hb dX6_revert_54 rfl (lv_at hl 0 rfl) ?_
    refine lv_aload_n hx hb dX6_revert_55 rfl (lv_at hl 1 rfl) ?_
    refine va_get (D := G.1) (ci := 6) (v := .ref (z 3)) (C := RX6) (T := TX6) (N := 7) hx hb hts hinX6 hown hK.1 hP 0 rfl rfl 2 (by decide) (hts (.fieldLink RX6 26 "Rotaforge" "changeLog" "LRotaforge$ChangeLog;") (by decide +kernel)) (fun _ h9 => h9) rfl dX6_revert_56 ?_
    refine lv_iload_n hx hb dX6_revert_59 rfl (lv_at hl 3 rfl) ?_
    refine g_callC (W.runV (C := RX0) (As := [.int x2]) (rest := [.int (rAt 200 (r 7) x2), .int (f 1), .int x1, .ref (z 3)]) S0 (c_X0_valueWithout l G _ z r f hP x2) (cwV 1 hts gX6_revert_X0_valueWithout rfl rfl rfl (by decide +kernel) ⟨Nat.le_of_ble_eq_true rfl, Nat.le_of_ble_eq_true rfl⟩) (g_preV hK hP (q0 := 3) (ci := 0) (q := (RX0, TX0, 7)) rfl rfl) rfl rfl hl.1 rfl (lv_room (Nat.le_of_ble_eq_true rfl)) dX6_revert_60 ⟨Nat.le_of_ble_eq_true rfl, Nat.le_of_ble_eq_true rfl⟩) ?_
    have hS := gS_up (A := gF z 50) hS
    have hD : va_D (gF z 50) (wRF G z r f) := gD_RF hz
    refine g_callw (va_runV (C := RX0) (As := [.int x1, .int (f 1), .int (rAt 200 (r 7) x2), .int (cWithout r x2)]) (rest := []) S0 (c_X0_add l G _ z hz r f hP x1 (f 1) (rAt 200 (r 7) x2) (cWithout r x2)) (cwV 4 hts gX6_revert_X0_add rfl rfl rfl (by decide +kernel) ⟨Nat.le_of_ble_eq_true rfl, Nat.le_of_ble_eq_true rfl⟩) (g_preV hK hP (q0 := 3) (ci := 0) (q := (RX0, TX0, 7)) rfl rfl) rfl rfl hl.1 rfl (lv_room (Nat.le_of_ble_eq_true rfl)) dX6_revert_63 ⟨Nat.le_of_ble_eq_true rfl, Nat.le_of_ble_eq_true rfl⟩) hS (fun _ h => h) (fun _ h => h) (fun H locs hP _ hS => ?_)
    have hP : va_P G.1 vwCl (wRF G z (cAddR r f x1 (f 1) (rAt 200 (r 7) x2) (cWithout r x2)) (upF f 3 (f 3 + nI 1))) H := hP
    have hD : va_D (gF z 50) (wRF G z (cAddR r f x1 (f 1) (rAt 200 (r 7) x2) (cWithout r x2)) (upF f 3 (f 3 + nI 1))) := gD_RF hz
    have hq : (f 3) = (f 3) := by
      first | with_reducible rfl | with_reducible exact nI_add _ _ | (simp only [c_1, c_2, c_3, eq_true c_4, ↓reduceIte, Bool.false_eq_true, decide_true, decide_false, Bool.not_true, Bool.not_false, Bool.or_true, Bool.true_or, Bool.or_false, Bool.false_or]; done) | (simp only [c_1, c_2, c_3, eq_true c_4, ↓reduceIte, Bool.false_eq_true, decide_true, decide_false, Bool.not_true, Bool.not_false, Bool.or_true, Bool.true_or, Bool.or_false, Bool.false_or]; with_reducible rfl) | (simp only [c_1, c_2, c_3, eq_true c_4, ↓reduceIte, Bool.false_eq_true, decide_true, decide_false, Bool.not_true, Bool.not_false, Bool.or_true, Bool.true_or, Bool.or_false, Bool.false_or]; rfl) | (simp [b2i, c_1, c_2, c_3, eq_true c_4]; done) | rfl
    have hk0 : (kRevert r f x1 x2) = 0 := by
      first | with_reducible rfl | (simp only [kRevert, c_1, c_2, c_3, eq_true c_4, kT, eq_self, ↓reduceIte, Bool.false_eq_true]; done) | (simp only [kRevert, c_1, c_2, c_3, eq_true c_4, kT, eq_self, ↓reduceIte, Bool.false_eq_true]; rfl) | (simp [kT, kRevert, c_1, c_2, c_3, eq_true c_4]; done)
    have hPf : va_P G.1 vwCl (wRF G z (cAddR r f x1 (f 1) (rAt 200 (r 7) x2) (cWithout r x2)) (upF f 3 (f 3 + nI 1))) H := by
      have e1 : cAddR r f x1 (f 1) (rAt 200 (r 7) x2) (cWithout r x2) = cAddR r f x1 (f 1) (rAt 200 (r 7) x2) (cWithout r x2) := by first | with_reducible rfl | (simp only [c_1, c_2, c_3, eq_true c_4, ↓reduceIte, Bool.false_eq_true]; done) | (simp only [c_1, c_2, c_3, eq_true c_4, ↓reduceIte, Bool.false_eq_true]; rfl) | rfl
      have e2 : upF f 3 (f 3 + nI 1) = upF f 3 (f 3 + nI 1) := by first | with_reducible rfl | (simp only [c_1, c_2, c_3, eq_true c_4, ↓reduceIte, Bool.false_eq_true]; done) | (simp only [c_1, c_2, c_3, eq_true c_4, ↓reduceIte, Bool.false_eq_true]; rfl) | rfl
      rw [e1, e2]; exact hP
    refine W.widen (k := 4) (n := 24) (Nat.le_of_ble_eq_true rfl) (Nat.le_of_ble_eq_true rfl) ?_
    refine vx_ret ?_
    exact W.iret (v := f 3) hx hb hr (fun t ht _ => ⟨⟨_, (), rfl, ⟨hk0, hq⟩, g_hp ht hPf⟩, hS.F ht⟩) hS.2.2 dX6_revert_66
  · have hkv : (kRevert r f x1 x2) = 3 := by
      first | with_reducible rfl | (simp only [kRevert, c_1, c_2, c_3, eq_false c_4, kT, eq_self, ↓reduceIte, Bool.false_eq_true]; done) | (simp only [kRevert, c_1, c_2, c_3, eq_false c_4, kT, eq_self, ↓reduceIte, Bool.false_eq_true]; rfl) | (simp [kT, kRevert, c_1, c_2, c_3, eq_false c_4]; done)
    exact g_throwS (K := (kRevert r f x1 x2)) (text := "a later change is of the same switch or ring") hx hb hfl hown hX (by decide) (hts (.classLink RX6 51 xISE) (by decide +kernel)) (hts (.initialized xISE) (by decide +kernel)) (fun w hw => hts w (hg55 w hw)) hng55 hgo55 (List.mem_of_getElem? (i := 15) rfl) (by decide) hS (hl.1.trans hml.symm) (by rw [hkv]; decide) (by rw [hkv]; rfl) dX6_revert_35 dX6_revert_38 dX6_revert_39 dX6_revert_41 dX6_revert_44 hexc hlocks ⟨Nat.le_of_ble_eq_true rfl, Nat.le_of_ble_eq_true rfl, Nat.le_of_ble_eq_true rfl, Nat.le_of_ble_eq_true rfl⟩ ⟨Nat.le_of_ble_eq_true rfl, Nat.le_of_ble_eq_true rfl⟩

set_option maxHeartbeats 4000000 in
set_option maxRecDepth 100000 in
theorem c_X6_takeOver (l : Launch) (hfl : l.stackTraces = false) (G : gG) (H0 : Heap) (z : Nat → Nat) (hz : gDis z 50) (r : Nat → Nat → Int32) (f : Nat → Int32) (hP : va_P G.1 vwCl (wRF G z r f) H0) (x1 : Int32) : gMxw l yX6_takeOver wsX6_takeOver 7 110 2 G H0 [.ref (z 0), .int x1] (kTake r f x1) (rAt 42 (r 17) (f 1 / nI 14 + nI 1)) (wRF G z (upR r 17 (rPut 42 (r 17) (f 1 / nI 14 + nI 1) x1)) f) (gF z 50) := by
  refine vx_ofW (cc := cX6_takeOver) (maxL := 4) (ret := (some .int)) (by decide) rfl ?_
  intro p_ e_ s m args below meth c s₁ B hml hexc hv
  obtain ⟨rfl, rfl, hK, hX⟩ := hv
  have hx := B.exec
  have hb := B.bytes
  have hr := B.returns
  have hts := atoms_spec (ws := wsX6_takeOver) B.pre
  have hown : s.vm.findClass RX6 = some m.cls := findClass_of_methodNamed B.named
  have hlocks := B.notSynchronized
  have hinX6 : ∀ w ∈ wsX60, w ∈ wsX6_takeOver := by decide +kernel
  have S0 : CallFix p_ m c cX6_takeOver 4 s _ wsX6_takeOver RX6 := ⟨hx, hb, hml, hown, hts⟩
  have hS : va_S (fun _ => False) s.heap s.heap [] := va_S.rf
  have hg55 : ∀ w ∈ (vx_atS RX6 55 xISE gNm).filter goodWord, w ∈ wsX6_takeOver := by decide +kernel
  have hl := lv_entry ([.ref (z 0), .int x1]) (n := 4) (Nat.le_of_ble_eq_true rfl)
  rw [lg_entry_eq]
  generalize (lg_sl ([.ref (z 0), .int x1]) ++ List.replicate (4 - (lg_sl ([.ref (z 0), .int x1])).length) Slot.unset).toArray = ls at hl ⊢
  have hl : lv_has ls 4 [(0, .ref (z 0)), (1, .int x1)] := hl
  refine lv_iload_n hx hb dX6_takeOver_0 rfl (lv_at hl 1 rfl) ?_
  refine g_xv (K := (kTake r f x1)) (Kc := (kPerson x1)) (vx_runS (As := [.int x1]) (rest := []) S0 (c_X6_requirePerson l hfl G _ x1) (va_cwS 1 hts gX6_takeOver_X6_requirePerson rfl rfl rfl (by decide +kernel) ⟨Nat.le_of_ble_eq_true rfl, Nat.le_of_ble_eq_true rfl⟩) (g_preXS hK hX) rfl rfl hl.1 rfl (lv_room (Nat.le_of_ble_eq_true rfl)) dX6_takeOver_1 ⟨Nat.le_of_ble_eq_true rfl, Nat.le_of_ble_eq_true rfl⟩) hS hexc hlocks (fun c_1 => by have hk9 : (kTake r f x1) = (kPerson x1) := (by first | with_reducible rfl | (simp only [kTake, c_1, kT, eq_self, ↓reduceIte, Bool.false_eq_true]; done) | (simp only [kTake, c_1, kT, eq_self, ↓reduceIte, Bool.false_eq_true]; rfl) | (simp [kT, kTake, c_1]; done)); exact ⟨by rw [hk9]; exact c_1, by rw [hk9]⟩) ⟨Nat.le_of_ble_eq_true rfl, Nat.le_of_ble_eq_true rfl⟩ (fun c_1 locs hS => ?_)
  refine lv_aload_n hx hb dX6_takeOver_4 rfl (lv_at hl 0 rfl) ?_
  refine g_callC (W.runV (C := RX6) (As := []) (rest := []) S0 (c_X6_weekNow l G _ z r f hP) (cwV 0 hts gX6_takeOver_X6_weekNow rfl rfl rfl (by decide +kernel) ⟨Nat.le_of_ble_eq_true rfl, Nat.le_of_ble_eq_true rfl⟩) (g_preV hK hP (q0 := 0) (ci := 6) (q := (RX6, TX6, 7)) rfl rfl) rfl rfl hl.1 rfl (lv_room (Nat.le_of_ble_eq_true rfl)) dX6_takeOver_5 ⟨Nat.le_of_ble_eq_true rfl, Nat.le_of_ble_eq_true rfl⟩) ?_
  refine lv_iconst (v := nI 1) hx hb dX6_takeOver_8 (by decide +kernel) ?_
  refine lv_iadd hx hb dX6_takeOver_9 ?_
  refine lv_istore_n (lv' := [(2, .int ((f 1 / nI 14) + (nI 1))), (0, .ref (z 0)), (1, .int x1)]) hx hb dX6_takeOver_10 rfl hl (by decide) rfl (fun ls hl => ?_)
  refine lv_aload_n hx hb dX6_takeOver_11 rfl (lv_at hl 1 rfl) ?_
  refine va_get (D := G.1) (ci := 6) (v := .ref (z 5)) (C := RX6) (T := TX6) (N := 7) hx hb hts hinX6 hown hK.1 hP 0 rfl rfl 4 (by decide) (hts (.fieldLink RX6 40 "Rotaforge" "rota" "LRotaforge$Rota;") (by decide +kernel)) (fun _ h9 => h9) rfl dX6_takeOver_12 ?_
  refine lv_iload_n hx hb dX6_takeOver_15 rfl (lv_at hl 0 rfl) ?_
  refine g_callC (W.runV (C := RX4) (As := [.int ((f 1 / nI 14) + (nI 1))]) (rest := []) S0 (c_X4_holderOf l G _ z r f hP ((f 1 / nI 14) + (nI 1))) (cwV 1 hts gX6_takeOver_X4_holderOf rfl rfl rfl (by decide +kernel) ⟨Nat.le_of_ble_eq_true rfl, Nat.le_of_ble_eq_true rfl⟩) (g_preV hK hP (q0 := 5) (ci := 4) (q := (RX4, TX4, 6)) rfl rfl) rfl rfl hl.1 rfl (lv_room (Nat.le_of_ble_eq_true rfl)) dX6_takeOver_16 ⟨Nat.le_of_ble_eq_true rfl, Nat.le_of_ble_eq_true rfl⟩) ?_
  refine lv_istore_n (lv' := [(3, .int (rAt 42 (r 17) ((f 1 / nI 14) + (nI 1)))), (2, .int ((f 1 / nI 14) + (nI 1))), (0, .ref (z 0)), (1, .int x1)]) hx hb dX6_takeOver_19 rfl hl (by decide) rfl (fun ls hl => ?_)
  refine lv_iload_n hx hb dX6_takeOver_20 rfl (lv_at hl 3 rfl) ?_
  refine lv_iload_n hx hb dX6_takeOver_21 rfl (lv_at hl 0 rfl) ?_
  refine lv_icmp_eq (tgt := 40) hx hb dX6_takeOver_22 (by decide) (fun c_2 => ?_) (fun c_2 => ?_)
  · have hkv : (kTake r f x1) = 3 := by
      first | with_reducible rfl | (simp only [kTake, c_1, eq_true c_2, kT, eq_self, ↓reduceIte, Bool.false_eq_true]; done) | (simp only [kTake, c_1, eq_true c_2, kT, eq_self, ↓reduceIte, Bool.false_eq_true]; rfl) | (simp [kT, kTake, c_1, eq_true c_2]; done)
    exact g_throwS (K := (kTake r f x1)) (text := "the person is the holder of this week or of the next one") hx hb hfl hown hX (by decide) (hts (.classLink RX6 51 xISE) (by decide +kernel)) (hts (.initialized xISE) (by decide +kernel)) (fun w hw => hts w (hg55 w hw)) hng55 hgo55 (List.mem_of_getElem? (i := 16) rfl) (by decide) hS (hl.1.trans hml.symm) (by rw [hkv]; decide) (by rw [hkv]; rfl) dX6_takeOver_40 dX6_takeOver_43 dX6_takeOver_44 dX6_takeOver_46 dX6_takeOver_49 hexc hlocks ⟨Nat.le_of_ble_eq_true rfl, Nat.le_of_ble_eq_true rfl, Nat.le_of_ble_eq_true rfl, Nat.le_of_ble_eq_true rfl⟩ ⟨Nat.le_of_ble_eq_true rfl, Nat.le_of_ble_eq_true rfl⟩
  · refine lv_iload_n hx hb dX6_takeOver_25 rfl (lv_at hl 3 rfl) ?_
    refine lv_aload_n hx hb dX6_takeOver_26 rfl (lv_at hl 2 rfl) ?_
    refine va_get (D := G.1) (ci := 6) (v := .ref (z 5)) (C := RX6) (T := TX6) (N := 7) hx hb hts hinX6 hown hK.1 hP 0 rfl rfl 4 (by decide) (hts (.fieldLink RX6 40 "Rotaforge" "rota" "LRotaforge$Rota;") (by decide +kernel)) (fun _ h9 => h9) rfl dX6_takeOver_27 ?_
    refine lv_aload_n hx hb dX6_takeOver_30 rfl (lv_at hl 2 rfl) ?_
    refine g_callC (W.runV (C := RX6) (As := []) (rest := [.ref (z 5), .int x1]) S0 (c_X6_weekNow l G _ z r f hP) (cwV 0 hts gX6_takeOver_X6_weekNow rfl rfl rfl (by decide +kernel) ⟨Nat.le_of_ble_eq_true rfl, Nat.le_of_ble_eq_true rfl⟩) (g_preV hK hP (q0 := 0) (ci := 6) (q := (RX6, TX6, 7)) rfl rfl) rfl rfl hl.1 rfl (lv_room (Nat.le_of_ble_eq_true rfl)) dX6_takeOver_31 ⟨Nat.le_of_ble_eq_true rfl, Nat.le_of_ble_eq_true rfl⟩) ?_
    refine g_callC (W.runV (C := RX4) (As := [.int (f 1 / nI 14)]) (rest := [.int x1]) S0 (c_X4_holderOf l G _ z r f hP (f 1 / nI 14)) (cwV 1 hts gX6_takeOver_X4_holderOf rfl rfl rfl (by decide +kernel) ⟨Nat.le_of_ble_eq_true rfl, Nat.le_of_ble_eq_true rfl⟩) (g_preV hK hP (q0 := 5) (ci := 4) (q := (RX4, TX4, 6)) rfl rfl) rfl rfl hl.1 rfl (lv_room (Nat.le_of_ble_eq_true rfl)) dX6_takeOver_34 ⟨Nat.le_of_ble_eq_true rfl, Nat.le_of_ble_eq_true rfl⟩) ?_
    refine lv_icmp_ne (tgt := 50) hx hb dX6_takeOver_37 (by decide) (fun c_3 => ?_) (fun c_3 => ?_)
    · refine lv_aload_n hx hb dX6_takeOver_50 rfl (lv_at hl 2 rfl) ?_
      refine va_get (D := G.1) (ci := 6) (v := .ref (z 5)) (C := RX6) (T := TX6) (N := 7) hx hb hts hinX6 hown hK.1 hP 0 rfl rfl 4 (by decide) (hts (.fieldLink RX6 40 "Rotaforge" "rota" "LRotaforge$Rota;") (by decide +kernel)) (fun _ h9 => h9) rfl dX6_takeOver_51 ?_
      refine lv_iload_n hx hb dX6_takeOver_54 rfl (lv_at hl 1 rfl) ?_
      refine lv_iload_n hx hb dX6_takeOver_55 rfl (lv_at hl 3 rfl) ?_
      have hS := gS_up (A := gF z 50) hS
      have hD : va_D (gF z 50) (wRF G z r f) := gD_RF hz
      refine g_callwv (va_runV (C := RX4) (As := [.int ((f 1 / nI 14) + (nI 1)), .int x1]) (rest := []) S0 (c_X4_giveWeek l G _ z hz r f hP ((f 1 / nI 14) + (nI 1)) x1) (cwV 2 hts gX6_takeOver_X4_giveWeek rfl rfl rfl (by decide +kernel) ⟨Nat.le_of_ble_eq_true rfl, Nat.le_of_ble_eq_true rfl⟩) (g_preV hK hP (q0 := 5) (ci := 4) (q := (RX4, TX4, 6)) rfl rfl) rfl rfl hl.1 rfl (lv_room (Nat.le_of_ble_eq_true rfl)) dX6_takeOver_56 ⟨Nat.le_of_ble_eq_true rfl, Nat.le_of_ble_eq_true rfl⟩) hS (fun _ h => h) (fun _ h => h) (fun H locs hP _ hS => ?_)
      have hP : va_P G.1 vwCl (wRF G z (upR r 17 (rPut 42 (r 17) ((f 1 / nI 14) + (nI 1)) x1)) f) H := hP
      have hD : va_D (gF z 50) (wRF G z (upR r 17 (rPut 42 (r 17) ((f 1 / nI 14) + (nI 1)) x1)) f) := gD_RF hz
      refine lv_iload_n hx hb dX6_takeOver_59 rfl (lv_at hl 0 rfl) ?_
      have hq : (rAt 42 (r 17) ((f 1 / nI 14) + (nI 1))) = (rAt 42 (r 17) (f 1 / nI 14 + nI 1)) := by
        first | with_reducible rfl | with_reducible exact nI_add _ _ | (simp only [c_1, eq_false c_2, eq_false c_3, ↓reduceIte, Bool.false_eq_true, decide_true, decide_false, Bool.not_true, Bool.not_false, Bool.or_true, Bool.true_or, Bool.or_false, Bool.false_or]; done) | (simp only [c_1, eq_false c_2, eq_false c_3, ↓reduceIte, Bool.false_eq_true, decide_true, decide_false, Bool.not_true, Bool.not_false, Bool.or_true, Bool.true_or, Bool.or_false, Bool.false_or]; with_reducible rfl) | (simp only [c_1, eq_false c_2, eq_false c_3, ↓reduceIte, Bool.false_eq_true, decide_true, decide_false, Bool.not_true, Bool.not_false, Bool.or_true, Bool.true_or, Bool.or_false, Bool.false_or]; rfl) | (simp [b2i, c_1, eq_false c_2, eq_false c_3]; done) | rfl
      have hk0 : (kTake r f x1) = 0 := by
        first | with_reducible rfl | (simp only [kTake, c_1, eq_false c_2, eq_false c_3, kT, eq_self, ↓reduceIte, Bool.false_eq_true]; done) | (simp only [kTake, c_1, eq_false c_2, eq_false c_3, kT, eq_self, ↓reduceIte, Bool.false_eq_true]; rfl) | (simp [kT, kTake, c_1, eq_false c_2, eq_false c_3]; done)
      have hPf : va_P G.1 vwCl (wRF G z (upR r 17 (rPut 42 (r 17) (f 1 / nI 14 + nI 1) x1)) f) H := by
        have e1 : upR r 17 (rPut 42 (r 17) (f 1 / nI 14 + nI 1) x1) = upR r 17 (rPut 42 (r 17) ((f 1 / nI 14) + (nI 1)) x1) := by first | with_reducible rfl | (simp only [c_1, eq_false c_2, eq_false c_3, ↓reduceIte, Bool.false_eq_true]; done) | (simp only [c_1, eq_false c_2, eq_false c_3, ↓reduceIte, Bool.false_eq_true]; rfl) | rfl
        have e2 : f = f := by first | with_reducible rfl | (simp only [c_1, eq_false c_2, eq_false c_3, ↓reduceIte, Bool.false_eq_true]; done) | (simp only [c_1, eq_false c_2, eq_false c_3, ↓reduceIte, Bool.false_eq_true]; rfl) | rfl
        rw [e1, e2]; exact hP
      refine W.widen (k := 2) (n := 12) (Nat.le_of_ble_eq_true rfl) (Nat.le_of_ble_eq_true rfl) ?_
      refine vx_ret ?_
      exact W.iret (v := rAt 42 (r 17) ((f 1 / nI 14) + (nI 1))) hx hb hr (fun t ht _ => ⟨⟨_, (), rfl, ⟨hk0, hq⟩, g_hp ht hPf⟩, hS.F ht⟩) hS.2.2 dX6_takeOver_60
    · have hkv : (kTake r f x1) = 3 := by
        first | with_reducible rfl | (simp only [kTake, c_1, eq_false c_2, eq_true c_3, kT, eq_self, ↓reduceIte, Bool.false_eq_true]; done) | (simp only [kTake, c_1, eq_false c_2, eq_true c_3, kT, eq_self, ↓reduceIte, Bool.false_eq_true]; rfl) | (simp [kT, kTake, c_1, eq_false c_2, eq_true c_3]; done)
      exact g_throwS (K := (kTake r f x1)) (text := "the person is the holder of this week or of the next one") hx hb hfl hown hX (by decide) (hts (.classLink RX6 51 xISE) (by decide +kernel)) (hts (.initialized xISE) (by decide +kernel)) (fun w hw => hts w (hg55 w hw)) hng55 hgo55 (List.mem_of_getElem? (i := 16) rfl) (by decide) hS (hl.1.trans hml.symm) (by rw [hkv]; decide) (by rw [hkv]; rfl) dX6_takeOver_40 dX6_takeOver_43 dX6_takeOver_44 dX6_takeOver_46 dX6_takeOver_49 hexc hlocks ⟨Nat.le_of_ble_eq_true rfl, Nat.le_of_ble_eq_true rfl, Nat.le_of_ble_eq_true rfl, Nat.le_of_ble_eq_true rfl⟩ ⟨Nat.le_of_ble_eq_true rfl, Nat.le_of_ble_eq_true rfl⟩
