set_option maxHeartbeats 4000000 in
set_option maxRecDepth 100000 in
theorem c_X0_add (l : Launch) (G : gG) (H0 : Heap) (z : Nat → Nat) (hz : gDis z 50) (r : Nat → Nat → Int32) (f : Nat → Int32) (hP : va_P G.1 vwCl (wRF G z r f) H0) (x1 : Int32) (x2 : Int32) (x3 : Int32) (x4 : Int32) : gMw l yX0_add wsX0_add 1 22 G H0 [.ref (z 3), .int x1, .int x2, .int x3, .int x4] (f 3) (wRF G z (cAddR r f x1 x2 x3 x4) (upF f 3 (f 3 + nI 1))) (gF z 50) := by
  refine Met.ofW (cc := cX0_add) (maxL := 6) (ret := (some .int)) (by decide) rfl ?_
  intro p_ e_ s m args below meth c s₁ B hml hv
  obtain ⟨rfl, rfl, hK⟩ := hv
  have hx := B.exec
  have hb := B.bytes
  have hr := B.returns
  have hts := atoms_spec (ws := wsX0_add) B.pre
  have hown : s.vm.findClass RX0 = some m.cls := findClass_of_methodNamed B.named
  have hlocks := B.notSynchronized
  have hinX0 : ∀ w ∈ wsX00, w ∈ wsX0_add := by decide +kernel
  have S0 : CallFix p_ m c cX0_add 6 s _ wsX0_add RX0 := ⟨hx, hb, hml, hown, hts⟩
  have hD : va_D (gF z 50) (wRF G z r f) := gD_RF hz
  have hS : va_S (gF z 50) s.heap s.heap [] := va_S.rf
  have hl := lv_entry ([.ref (z 3), .int x1, .int x2, .int x3, .int x4]) (n := 6) (Nat.le_of_ble_eq_true rfl)
  rw [lg_entry_eq]
  generalize (lg_sl ([.ref (z 3), .int x1, .int x2, .int x3, .int x4]) ++ List.replicate (6 - (lg_sl ([.ref (z 3), .int x1, .int x2, .int x3, .int x4])).length) Slot.unset).toArray = ls at hl ⊢
  have hl : lv_has ls 6 [(0, .ref (z 3)), (1, .int x1), (2, .int x2), (3, .int x3), (4, .int x4)] := hl
  refine lv_aload_n hx hb dX0_add_0 rfl (lv_at hl 0 rfl) ?_
  refine va_get (D := G.1) (ci := 0) (v := .int (f 3)) (C := RX0) (T := TX0) (N := 7) hx hb hts hinX0 hown hK.1 hP 3 rfl rfl 6 (by decide) (hts (.fieldLink RX0 35 "Rotaforge$ChangeLog" "count" "I") (by decide +kernel)) (fun _ h9 => h9) rfl dX0_add_1 ?_
  refine lv_istore (lv' := [(5, .int (f 3)), (0, .ref (z 3)), (1, .int x1), (2, .int x2), (3, .int x3), (4, .int x4)]) hx hb dX0_add_4 hl (by decide) rfl (fun ls hl => ?_)
  refine lv_aload_n hx hb dX0_add_6 rfl (lv_at hl 1 rfl) ?_
  refine va_get (D := G.1) (ci := 0) (v := .ref (z 11)) (C := RX0) (T := TX0) (N := 7) hx hb hts hinX0 hown hK.1 hP 3 rfl rfl 0 (by decide) (hts (.fieldLink RX0 14 "Rotaforge$ChangeLog" "persons" "LRotaforge$Row;") (by decide +kernel)) (fun _ h9 => h9) rfl dX0_add_7 ?_
  refine lv_iload hx hb dX0_add_10 (lv_at hl 0 rfl) ?_
  refine lv_iload_n hx hb dX0_add_12 rfl (lv_at hl 2 rfl) ?_
  refine g_callp (va_runV (C := RX5) (As := [.int (f 3), .int x1]) (rest := []) S0 (c_X5_put l G _ (z 11) (z 33) 200 (r 5) (by decide) (hP.sub (ws' := wRow1 G (z 11) (z 33) 200 (r 5)) [11, 33] rfl) (f 3) x1) (cwV 2 hts gX0_add_X5_put rfl rfl rfl (by decide +kernel) ⟨Nat.le_of_ble_eq_true rfl, Nat.le_of_ble_eq_true rfl⟩) (g_preV hK hP (q0 := 11) (ci := 5) (q := (RX5, TX5, 1)) rfl rfl) rfl rfl hl.1 rfl (lv_room (Nat.le_of_ble_eq_true rfl)) dX0_add_13 ⟨Nat.zero_le _, Nat.zero_le _⟩) hS (gF_k 33 (by decide)) (fun H locs hat hk hS => ?_)
  have hP : va_P G.1 vwCl (wRF G z (upR r 5 (rPut 200 (r 5) (f 3) x1)) f) H := gPr_5 (gP_set hP hD (p := 33) rfl hat hk)
  have hD : va_D (gF z 50) (wRF G z (upR r 5 (rPut 200 (r 5) (f 3) x1)) f) := gD_RF hz
  refine lv_aload_n hx hb dX0_add_16 rfl (lv_at hl 1 rfl) ?_
  refine va_get (D := G.1) (ci := 0) (v := .ref (z 12)) (C := RX0) (T := TX0) (N := 7) hx hb hts hinX0 hown hK.1 hP 3 rfl rfl 1 (by decide) (hts (.fieldLink RX0 20 "Rotaforge$ChangeLog" "times" "LRotaforge$Row;") (by decide +kernel)) (fun _ h9 => h9) rfl dX0_add_17 ?_
  refine lv_iload hx hb dX0_add_20 (lv_at hl 0 rfl) ?_
  refine lv_iload_n hx hb dX0_add_22 rfl (lv_at hl 3 rfl) ?_
  refine g_callp (va_runV (C := RX5) (As := [.int (f 3), .int x2]) (rest := []) S0 (c_X5_put l G _ (z 12) (z 34) 200 (r 6) (by decide) (hP.sub (ws' := wRow1 G (z 12) (z 34) 200 (r 6)) [12, 34] rfl) (f 3) x2) (cwV 2 hts gX0_add_X5_put rfl rfl rfl (by decide +kernel) ⟨Nat.le_of_ble_eq_true rfl, Nat.le_of_ble_eq_true rfl⟩) (g_preV hK hP (q0 := 12) (ci := 5) (q := (RX5, TX5, 1)) rfl rfl) rfl rfl hl.1 rfl (lv_room (Nat.le_of_ble_eq_true rfl)) dX0_add_23 ⟨Nat.zero_le _, Nat.zero_le _⟩) hS (gF_k 34 (by decide)) (fun H locs hat hk hS => ?_)
  have hP : va_P G.1 vwCl (wRF G z (upR (upR r 5 (rPut 200 (r 5) (f 3) x1)) 6 (rPut 200 (r 6) (f 3) x2)) f) H := gPr_6 (gP_set hP hD (p := 34) rfl hat hk)
  have hD : va_D (gF z 50) (wRF G z (upR (upR r 5 (rPut 200 (r 5) (f 3) x1)) 6 (rPut 200 (r 6) (f 3) x2)) f) := gD_RF hz
  refine lv_aload_n hx hb dX0_add_26 rfl (lv_at hl 1 rfl) ?_
  refine va_get (D := G.1) (ci := 0) (v := .ref (z 13)) (C := RX0) (T := TX0) (N := 7) hx hb hts hinX0 hown hK.1 hP 3 rfl rfl 2 (by decide) (hts (.fieldLink RX0 23 "Rotaforge$ChangeLog" "subjects" "LRotaforge$Row;") (by decide +kernel)) (fun _ h9 => h9) rfl dX0_add_27 ?_
  refine lv_iload hx hb dX0_add_30 (lv_at hl 0 rfl) ?_
  refine lv_iload_n hx hb dX0_add_32 rfl (lv_at hl 4 rfl) ?_
  refine g_callp (va_runV (C := RX5) (As := [.int (f 3), .int x3]) (rest := []) S0 (c_X5_put l G _ (z 13) (z 35) 200 (r 7) (by decide) (hP.sub (ws' := wRow1 G (z 13) (z 35) 200 (r 7)) [13, 35] rfl) (f 3) x3) (cwV 2 hts gX0_add_X5_put rfl rfl rfl (by decide +kernel) ⟨Nat.le_of_ble_eq_true rfl, Nat.le_of_ble_eq_true rfl⟩) (g_preV hK hP (q0 := 13) (ci := 5) (q := (RX5, TX5, 1)) rfl rfl) rfl rfl hl.1 rfl (lv_room (Nat.le_of_ble_eq_true rfl)) dX0_add_33 ⟨Nat.zero_le _, Nat.zero_le _⟩) hS (gF_k 35 (by decide)) (fun H locs hat hk hS => ?_)
  have hP : va_P G.1 vwCl (wRF G z (upR (upR (upR r 5 (rPut 200 (r 5) (f 3) x1)) 6 (rPut 200 (r 6) (f 3) x2)) 7 (rPut 200 (r 7) (f 3) x3)) f) H := gPr_7 (gP_set hP hD (p := 35) rfl hat hk)
  have hD : va_D (gF z 50) (wRF G z (upR (upR (upR r 5 (rPut 200 (r 5) (f 3) x1)) 6 (rPut 200 (r 6) (f 3) x2)) 7 (rPut 200 (r 7) (f 3) x3)) f) := gD_RF hz
  refine lv_aload_n hx hb dX0_add_36 rfl (lv_at hl 1 rfl) ?_
  refine va_get (D := G.1) (ci := 0) (v := .ref (z 14)) (C := RX0) (T := TX0) (N := 7) hx hb hts hinX0 hown hK.1 hP 3 rfl rfl 3 (by decide) (hts (.fieldLink RX0 26 "Rotaforge$ChangeLog" "values" "LRotaforge$Row;") (by decide +kernel)) (fun _ h9 => h9) rfl dX0_add_37 ?_
  refine lv_iload hx hb dX0_add_40 (lv_at hl 0 rfl) ?_
  refine lv_iload hx hb dX0_add_42 (lv_at hl 5 rfl) ?_
  refine g_callp (va_runV (C := RX5) (As := [.int (f 3), .int x4]) (rest := []) S0 (c_X5_put l G _ (z 14) (z 36) 200 (r 8) (by decide) (hP.sub (ws' := wRow1 G (z 14) (z 36) 200 (r 8)) [14, 36] rfl) (f 3) x4) (cwV 2 hts gX0_add_X5_put rfl rfl rfl (by decide +kernel) ⟨Nat.le_of_ble_eq_true rfl, Nat.le_of_ble_eq_true rfl⟩) (g_preV hK hP (q0 := 14) (ci := 5) (q := (RX5, TX5, 1)) rfl rfl) rfl rfl hl.1 rfl (lv_room (Nat.le_of_ble_eq_true rfl)) dX0_add_44 ⟨Nat.zero_le _, Nat.zero_le _⟩) hS (gF_k 36 (by decide)) (fun H locs hat hk hS => ?_)
  have hP : va_P G.1 vwCl (wRF G z (upR (upR (upR (upR r 5 (rPut 200 (r 5) (f 3) x1)) 6 (rPut 200 (r 6) (f 3) x2)) 7 (rPut 200 (r 7) (f 3) x3)) 8 (rPut 200 (r 8) (f 3) x4)) f) H := gPr_8 (gP_set hP hD (p := 36) rfl hat hk)
  have hD : va_D (gF z 50) (wRF G z (upR (upR (upR (upR r 5 (rPut 200 (r 5) (f 3) x1)) 6 (rPut 200 (r 6) (f 3) x2)) 7 (rPut 200 (r 7) (f 3) x3)) 8 (rPut 200 (r 8) (f 3) x4)) f) := gD_RF hz
  refine lv_aload_n hx hb dX0_add_47 rfl (lv_at hl 1 rfl) ?_
  refine va_get (D := G.1) (ci := 0) (v := .ref (z 15)) (C := RX0) (T := TX0) (N := 7) hx hb hts hinX0 hown hK.1 hP 3 rfl rfl 4 (by decide) (hts (.fieldLink RX0 29 "Rotaforge$ChangeLog" "earlier" "LRotaforge$Row;") (by decide +kernel)) (fun _ h9 => h9) rfl dX0_add_48 ?_
  refine lv_iload hx hb dX0_add_51 (lv_at hl 0 rfl) ?_
  refine lv_aload_n hx hb dX0_add_53 rfl (lv_at hl 1 rfl) ?_
  refine va_get (D := G.1) (ci := 0) (v := .ref (z 16)) (C := RX0) (T := TX0) (N := 7) hx hb hts hinX0 hown hK.1 hP 3 rfl rfl 5 (by decide) (hts (.fieldLink RX0 32 "Rotaforge$ChangeLog" "latest" "LRotaforge$Row;") (by decide +kernel)) (fun _ h9 => h9) rfl dX0_add_54 ?_
  refine lv_iload_n hx hb dX0_add_57 rfl (lv_at hl 4 rfl) ?_
  refine g_callC (W.runV (C := RX5) (As := [.int x3]) (rest := [.int (f 3), .ref (z 15)]) S0 (c_X5_at l G _ (z 16) (z 38) 12 (r 10) (by decide) (hP.sub (ws' := wRow1 G (z 16) (z 38) 12 (r 10)) [16, 38] rfl) x3) (cwV 1 hts gX0_add_X5_at rfl rfl rfl (by decide +kernel) ⟨Nat.le_of_ble_eq_true rfl, Nat.le_of_ble_eq_true rfl⟩) (g_preV hK hP (q0 := 16) (ci := 5) (q := (RX5, TX5, 1)) rfl rfl) rfl rfl hl.1 rfl (lv_room (Nat.le_of_ble_eq_true rfl)) dX0_add_58 ⟨Nat.zero_le _, Nat.zero_le _⟩) ?_
  refine g_callp (va_runV (C := RX5) (As := [.int (f 3), .int (rAt 12 (r 10) x3)]) (rest := []) S0 (c_X5_put l G _ (z 15) (z 37) 200 (r 9) (by decide) (hP.sub (ws' := wRow1 G (z 15) (z 37) 200 (r 9)) [15, 37] rfl) (f 3) (rAt 12 (r 10) x3)) (cwV 2 hts gX0_add_X5_put rfl rfl rfl (by decide +kernel) ⟨Nat.le_of_ble_eq_true rfl, Nat.le_of_ble_eq_true rfl⟩) (g_preV hK hP (q0 := 15) (ci := 5) (q := (RX5, TX5, 1)) rfl rfl) rfl rfl hl.1 rfl (lv_room (Nat.le_of_ble_eq_true rfl)) dX0_add_61 ⟨Nat.zero_le _, Nat.zero_le _⟩) hS (gF_k 37 (by decide)) (fun H locs hat hk hS => ?_)
  have hP : va_P G.1 vwCl (wRF G z (upR (upR (upR (upR (upR r 5 (rPut 200 (r 5) (f 3) x1)) 6 (rPut 200 (r 6) (f 3) x2)) 7 (rPut 200 (r 7) (f 3) x3)) 8 (rPut 200 (r 8) (f 3) x4)) 9 (rPut 200 (r 9) (f 3) (rAt 12 (r 10) x3))) f) H := gPr_9 (gP_set hP hD (p := 37) rfl hat hk)
  have hD : va_D (gF z 50) (wRF G z (upR (upR (upR (upR (upR r 5 (rPut 200 (r 5) (f 3) x1)) 6 (rPut 200 (r 6) (f 3) x2)) 7 (rPut 200 (r 7) (f 3) x3)) 8 (rPut 200 (r 8) (f 3) x4)) 9 (rPut 200 (r 9) (f 3) (rAt 12 (r 10) x3))) f) := gD_RF hz
  refine lv_aload_n hx hb dX0_add_64 rfl (lv_at hl 1 rfl) ?_
  refine va_get (D := G.1) (ci := 0) (v := .ref (z 16)) (C := RX0) (T := TX0) (N := 7) hx hb hts hinX0 hown hK.1 hP 3 rfl rfl 5 (by decide) (hts (.fieldLink RX0 32 "Rotaforge$ChangeLog" "latest" "LRotaforge$Row;") (by decide +kernel)) (fun _ h9 => h9) rfl dX0_add_65 ?_
  refine lv_iload_n hx hb dX0_add_68 rfl (lv_at hl 4 rfl) ?_
  refine lv_iload hx hb dX0_add_69 (lv_at hl 0 rfl) ?_
  refine g_callp (va_runV (C := RX5) (As := [.int x3, .int (f 3)]) (rest := []) S0 (c_X5_put l G _ (z 16) (z 38) 12 (r 10) (by decide) (hP.sub (ws' := wRow1 G (z 16) (z 38) 12 (r 10)) [16, 38] rfl) x3 (f 3)) (cwV 2 hts gX0_add_X5_put rfl rfl rfl (by decide +kernel) ⟨Nat.le_of_ble_eq_true rfl, Nat.le_of_ble_eq_true rfl⟩) (g_preV hK hP (q0 := 16) (ci := 5) (q := (RX5, TX5, 1)) rfl rfl) rfl rfl hl.1 rfl (lv_room (Nat.le_of_ble_eq_true rfl)) dX0_add_71 ⟨Nat.zero_le _, Nat.zero_le _⟩) hS (gF_k 38 (by decide)) (fun H locs hat hk hS => ?_)
  have hP : va_P G.1 vwCl (wRF G z (upR (upR (upR (upR (upR (upR r 5 (rPut 200 (r 5) (f 3) x1)) 6 (rPut 200 (r 6) (f 3) x2)) 7 (rPut 200 (r 7) (f 3) x3)) 8 (rPut 200 (r 8) (f 3) x4)) 9 (rPut 200 (r 9) (f 3) (rAt 12 (r 10) x3))) 10 (rPut 12 (r 10) x3 (f 3))) f) H := gPr_10 (gP_set hP hD (p := 38) rfl hat hk)
  have hD : va_D (gF z 50) (wRF G z (upR (upR (upR (upR (upR (upR r 5 (rPut 200 (r 5) (f 3) x1)) 6 (rPut 200 (r 6) (f 3) x2)) 7 (rPut 200 (r 7) (f 3) x3)) 8 (rPut 200 (r 8) (f 3) x4)) 9 (rPut 200 (r 9) (f 3) (rAt 12 (r 10) x3))) 10 (rPut 12 (r 10) x3 (f 3))) f) := gD_RF hz
  refine lv_aload_n hx hb dX0_add_74 rfl (lv_at hl 1 rfl) ?_
  refine lv_dup hx hb dX0_add_75 rfl ?_
  refine va_get (D := G.1) (ci := 0) (v := .int (f 3)) (C := RX0) (T := TX0) (N := 7) hx hb hts hinX0 hown hK.1 hP 3 rfl rfl 6 (by decide) (hts (.fieldLink RX0 35 "Rotaforge$ChangeLog" "count" "I") (by decide +kernel)) (fun _ h9 => h9) rfl dX0_add_76 ?_
  refine lv_iconst (v := nI 1) hx hb dX0_add_79 (by decide +kernel) ?_
  refine lv_iadd hx hb dX0_add_80 ?_
  refine va_put (D := G.1) (ci := 0) (v := .int ((f 3) + (nI 1))) (ty := .int) (C := RX0) (T := TX0) (N := 7) hx hb hts hinX0 tyX0 tyX0_ok nmX0 hown hK.1 hP hD hS 3 rfl rfl 6 (by decide) (hts (.fieldLink RX0 35 "Rotaforge$ChangeLog" "count" "I") (by decide +kernel)) (fun _ h9 => h9) rfl (by decide +kernel) rfl rfl (Nat.le_of_ble_eq_true rfl) dX0_add_81 (fun H locs hP hD hS => ?_)
  have hP : va_P G.1 vwCl (wRF G z (upR (upR (upR (upR (upR (upR r 5 (rPut 200 (r 5) (f 3) x1)) 6 (rPut 200 (r 6) (f 3) x2)) 7 (rPut 200 (r 7) (f 3) x3)) 8 (rPut 200 (r 8) (f 3) x4)) 9 (rPut 200 (r 9) (f 3) (rAt 12 (r 10) x3))) 10 (rPut 12 (r 10) x3 (f 3))) (upF f 3 ((f 3) + (nI 1)))) H := gPs_3 hP
  have hD : va_D (gF z 50) (wRF G z (upR (upR (upR (upR (upR (upR r 5 (rPut 200 (r 5) (f 3) x1)) 6 (rPut 200 (r 6) (f 3) x2)) 7 (rPut 200 (r 7) (f 3) x3)) 8 (rPut 200 (r 8) (f 3) x4)) 9 (rPut 200 (r 9) (f 3) (rAt 12 (r 10) x3))) 10 (rPut 12 (r 10) x3 (f 3))) (upF f 3 ((f 3) + (nI 1)))) := gD_RF hz
  refine lv_iload hx hb dX0_add_84 (lv_at hl 0 rfl) ?_
  have hq : (f 3) = (f 3) := by
    first | with_reducible rfl | with_reducible exact nI_add _ _ | (simp only [cAddR, ↓reduceIte, Bool.false_eq_true, decide_true, decide_false, Bool.not_true, Bool.not_false, Bool.or_true, Bool.true_or, Bool.or_false, Bool.false_or]; done) | (simp only [cAddR, ↓reduceIte, Bool.false_eq_true, decide_true, decide_false, Bool.not_true, Bool.not_false, Bool.or_true, Bool.true_or, Bool.or_false, Bool.false_or]; with_reducible rfl) | (simp only [cAddR, ↓reduceIte, Bool.false_eq_true, decide_true, decide_false, Bool.not_true, Bool.not_false, Bool.or_true, Bool.true_or, Bool.or_false, Bool.false_or]; rfl) | (simp [b2i, cAddR]; done) | rfl
  have hPf : va_P G.1 vwCl (wRF G z (cAddR r f x1 x2 x3 x4) (upF f 3 (f 3 + nI 1))) H := by
    have e1 : cAddR r f x1 x2 x3 x4 = upR (upR (upR (upR (upR (upR r 5 (rPut 200 (r 5) (f 3) x1)) 6 (rPut 200 (r 6) (f 3) x2)) 7 (rPut 200 (r 7) (f 3) x3)) 8 (rPut 200 (r 8) (f 3) x4)) 9 (rPut 200 (r 9) (f 3) (rAt 12 (r 10) x3))) 10 (rPut 12 (r 10) x3 (f 3)) := by first | with_reducible rfl | (simp only [cAddR, ↓reduceIte, Bool.false_eq_true]; done) | (simp only [cAddR, ↓reduceIte, Bool.false_eq_true]; rfl) | rfl
    have e2 : upF f 3 (f 3 + nI 1) = upF f 3 ((f 3) + (nI 1)) := by first | with_reducible rfl | (simp only [cAddR, ↓reduceIte, Bool.false_eq_true]; done) | (simp only [cAddR, ↓reduceIte, Bool.false_eq_true]; rfl) | rfl
    rw [e1, e2]; exact hP
  exact W.iret (v := (f 3)) hx hb hr (fun t ht _ => ⟨⟨_, (), rfl, hq, g_hp ht hPf⟩, hS.F ht⟩) hS.2.2 dX0_add_86

set_option maxHeartbeats 4000000 in
set_option maxRecDepth 100000 in
theorem c_X1_add (l : Launch) (G : gG) (H0 : Heap) (z : Nat → Nat) (hz : gDis z 50) (r : Nat → Nat → Int32) (f : Nat → Int32) (hP : va_P G.1 vwCl (wRF G z r f) H0) (x1 : Int32) (x2 : Int32) (x3 : Bool) : gMwv l yX1_add wsX1_add 1 22 G H0 [.ref (z 2), .int x1, .int x2, .int (b2i x3)] (wRF G z (cDefR r x1 x2 x3) (upF f 2 (f 2 + nI 1))) (gF z 50) := by
  refine Met.ofW (cc := cX1_add) (maxL := 4) (ret := none) (by decide) rfl ?_
  intro p_ e_ s m args below meth c s₁ B hml hv
  obtain ⟨rfl, rfl, hK⟩ := hv
  have hx := B.exec
  have hb := B.bytes
  have hr := B.returns
  have hts := atoms_spec (ws := wsX1_add) B.pre
  have hown : s.vm.findClass RX1 = some m.cls := findClass_of_methodNamed B.named
  have hlocks := B.notSynchronized
  have hinX1 : ∀ w ∈ wsX10, w ∈ wsX1_add := by decide +kernel
  have S0 : CallFix p_ m c cX1_add 4 s _ wsX1_add RX1 := ⟨hx, hb, hml, hown, hts⟩
  have hD : va_D (gF z 50) (wRF G z r f) := gD_RF hz
  have hS : va_S (gF z 50) s.heap s.heap [] := va_S.rf
  have hl := lv_entry ([.ref (z 2), .int x1, .int x2, .int (b2i x3)]) (n := 4) (Nat.le_of_ble_eq_true rfl)
  rw [lg_entry_eq]
  generalize (lg_sl ([.ref (z 2), .int x1, .int x2, .int (b2i x3)]) ++ List.replicate (4 - (lg_sl ([.ref (z 2), .int x1, .int x2, .int (b2i x3)])).length) Slot.unset).toArray = ls at hl ⊢
  have hl : lv_has ls 4 [(0, .ref (z 2)), (1, .int x1), (2, .int x2), (3, .int (b2i x3))] := hl
  refine lv_aload_n hx hb dX1_add_0 rfl (lv_at hl 0 rfl) ?_
  refine lv_dup hx hb dX1_add_1 rfl ?_
  refine va_get (D := G.1) (ci := 1) (v := .int (f 2)) (C := RX1) (T := TX1) (N := 4) hx hb hts hinX1 hown hK.1 hP 2 rfl rfl 3 (by decide) (hts (.fieldLink RX1 26 "Rotaforge$Defects" "count" "I") (by decide +kernel)) (fun _ h9 => h9) rfl dX1_add_2 ?_
  refine lv_iconst (v := nI 1) hx hb dX1_add_5 (by decide +kernel) ?_
  refine lv_iadd hx hb dX1_add_6 ?_
  refine va_put (D := G.1) (ci := 1) (v := .int ((f 2) + (nI 1))) (ty := .int) (C := RX1) (T := TX1) (N := 4) hx hb hts hinX1 tyX1 tyX1_ok nmX1 hown hK.1 hP hD hS 2 rfl rfl 3 (by decide) (hts (.fieldLink RX1 26 "Rotaforge$Defects" "count" "I") (by decide +kernel)) (fun _ h9 => h9) rfl (by decide +kernel) rfl rfl (Nat.le_of_ble_eq_true rfl) dX1_add_7 (fun H locs hP hD hS => ?_)
  have hP : va_P G.1 vwCl (wRF G z r (upF f 2 ((f 2) + (nI 1)))) H := gPs_2 hP
  have hD : va_D (gF z 50) (wRF G z r (upF f 2 ((f 2) + (nI 1)))) := gD_RF hz
  refine lv_iload_n hx hb dX1_add_10 rfl (lv_at hl 2 rfl) ?_
  refine lv_iconst (v := (-1)) hx hb dX1_add_11 (by decide +kernel) ?_
  refine lv_icmp_ne (tgt := 27) hx hb dX1_add_12 (by decide) (fun c_1 => ?_) (fun c_1 => ?_)
  · refine lv_iload_n hx hb dX1_add_27 rfl (lv_at hl 3 rfl) ?_
    refine lv_if_eq (tgt := 55) hx hb dX1_add_28 (by decide) (fun c_2 => ?_) (fun c_2 => ?_)
    · have c_2 := b2i_f c_2
      refine lv_aload_n hx hb dX1_add_55 rfl (lv_at hl 0 rfl) ?_
      refine va_get (D := G.1) (ci := 1) (v := .ref (z 10)) (C := RX1) (T := TX1) (N := 4) hx hb hts hinX1 hown hK.1 hP 2 rfl rfl 2 (by decide) (hts (.fieldLink RX1 23 "Rotaforge$Defects" "whereOff" "LRotaforge$Row;") (by decide +kernel)) (fun _ h9 => h9) rfl dX1_add_56 ?_
      refine lv_iload_n hx hb dX1_add_59 rfl (lv_at hl 1 rfl) ?_
      refine lv_aload_n hx hb dX1_add_60 rfl (lv_at hl 0 rfl) ?_
      refine va_get (D := G.1) (ci := 1) (v := .ref (z 10)) (C := RX1) (T := TX1) (N := 4) hx hb hts hinX1 hown hK.1 hP 2 rfl rfl 2 (by decide) (hts (.fieldLink RX1 23 "Rotaforge$Defects" "whereOff" "LRotaforge$Row;") (by decide +kernel)) (fun _ h9 => h9) rfl dX1_add_61 ?_
      refine lv_iload_n hx hb dX1_add_64 rfl (lv_at hl 1 rfl) ?_
      refine g_callC (W.runV (C := RX5) (As := [.int x1]) (rest := [.int x1, .ref (z 10)]) S0 (c_X5_at l G _ (z 10) (z 32) 20 (r 4) (by decide) (hP.sub (ws' := wRow1 G (z 10) (z 32) 20 (r 4)) [10, 32] rfl) x1) (cwV 1 hts gX1_add_X5_at rfl rfl rfl (by decide +kernel) ⟨Nat.le_of_ble_eq_true rfl, Nat.le_of_ble_eq_true rfl⟩) (g_preV hK hP (q0 := 10) (ci := 5) (q := (RX5, TX5, 1)) rfl rfl) rfl rfl hl.1 rfl (lv_room (Nat.le_of_ble_eq_true rfl)) dX1_add_65 ⟨Nat.zero_le _, Nat.zero_le _⟩) ?_
      refine lv_iload_n hx hb dX1_add_68 rfl (lv_at hl 2 rfl) ?_
      refine lv_iconst (v := nI 1) hx hb dX1_add_69 (by decide +kernel) ?_
      refine g_callR (va_runSN (As := [.int (rAt 20 (r 4) x1), .int x2, .int (b2i true)]) (rest := [.int x1, .ref (z 10)]) S0 (c_X6_withBit l G _ (rAt 20 (r 4) x1) x2 true) ⟨va_cnB (own := RX1) (host := "Rotaforge") (index := 37) 3 hts gX1_add_X6_withBit_n37 rfl rfl rfl hK.2.1 (hts (.initialized RX6) (by decide +kernel)) (by decide +kernel) ⟨Nat.le_of_ble_eq_true rfl, Nat.le_of_ble_eq_true rfl⟩, hts (.static yX6_withBit) (by decide +kernel), trivial⟩ (g_preS hK) rfl rfl hl.1 rfl (lv_room (Nat.le_of_ble_eq_true rfl)) dX1_add_70 ⟨Nat.zero_le _, Nat.zero_le _⟩) ?_
      refine g_callp (va_runV (C := RX5) (As := [.int x1, .int (cWithBit (rAt 20 (r 4) x1) x2 true)]) (rest := []) S0 (c_X5_put l G _ (z 10) (z 32) 20 (r 4) (by decide) (hP.sub (ws' := wRow1 G (z 10) (z 32) 20 (r 4)) [10, 32] rfl) x1 (cWithBit (rAt 20 (r 4) x1) x2 true)) (cwV 2 hts gX1_add_X5_put rfl rfl rfl (by decide +kernel) ⟨Nat.le_of_ble_eq_true rfl, Nat.le_of_ble_eq_true rfl⟩) (g_preV hK hP (q0 := 10) (ci := 5) (q := (RX5, TX5, 1)) rfl rfl) rfl rfl hl.1 rfl (lv_room (Nat.le_of_ble_eq_true rfl)) dX1_add_73 ⟨Nat.zero_le _, Nat.zero_le _⟩) hS (gF_k 32 (by decide)) (fun H locs hat hk hS => ?_)
      have hP : va_P G.1 vwCl (wRF G z (upR r 4 (rPut 20 (r 4) x1 (cWithBit (rAt 20 (r 4) x1) x2 true))) (upF f 2 ((f 2) + (nI 1)))) H := gPr_4 (gP_set hP hD (p := 32) rfl hat hk)
      have hD : va_D (gF z 50) (wRF G z (upR r 4 (rPut 20 (r 4) x1 (cWithBit (rAt 20 (r 4) x1) x2 true))) (upF f 2 ((f 2) + (nI 1)))) := gD_RF hz
      have hPf : va_P G.1 vwCl (wRF G z (cDefR r x1 x2 x3) (upF f 2 (f 2 + nI 1))) H := by
        have e1 : cDefR r x1 x2 x3 = upR r 4 (rPut 20 (r 4) x1 (cWithBit (rAt 20 (r 4) x1) x2 true)) := by first | with_reducible rfl | (simp only [cDefR, c_1, c_2, ↓reduceIte, Bool.false_eq_true]; done) | (simp only [cDefR, c_1, c_2, ↓reduceIte, Bool.false_eq_true]; rfl) | rfl
        have e2 : upF f 2 (f 2 + nI 1) = upF f 2 ((f 2) + (nI 1)) := by first | with_reducible rfl | (simp only [cDefR, c_1, c_2, ↓reduceIte, Bool.false_eq_true]; done) | (simp only [cDefR, c_1, c_2, ↓reduceIte, Bool.false_eq_true]; rfl) | rfl
        rw [e1, e2]; exact hP
      exact W.vret hx hb hr (fun t ht _ => ⟨⟨(), rfl, trivial, g_hp ht hPf⟩, hS.F ht⟩) hS.2.2 dX1_add_76
    · have c_2 := b2i_t c_2
      refine lv_aload_n hx hb dX1_add_31 rfl (lv_at hl 0 rfl) ?_
      refine va_get (D := G.1) (ci := 1) (v := .ref (z 9)) (C := RX1) (T := TX1) (N := 4) hx hb hts hinX1 hown hK.1 hP 2 rfl rfl 1 (by decide) (hts (.fieldLink RX1 20 "Rotaforge$Defects" "whereOn" "LRotaforge$Row;") (by decide +kernel)) (fun _ h9 => h9) rfl dX1_add_32 ?_
      refine lv_iload_n hx hb dX1_add_35 rfl (lv_at hl 1 rfl) ?_
      refine lv_aload_n hx hb dX1_add_36 rfl (lv_at hl 0 rfl) ?_
      refine va_get (D := G.1) (ci := 1) (v := .ref (z 9)) (C := RX1) (T := TX1) (N := 4) hx hb hts hinX1 hown hK.1 hP 2 rfl rfl 1 (by decide) (hts (.fieldLink RX1 20 "Rotaforge$Defects" "whereOn" "LRotaforge$Row;") (by decide +kernel)) (fun _ h9 => h9) rfl dX1_add_37 ?_
      refine lv_iload_n hx hb dX1_add_40 rfl (lv_at hl 1 rfl) ?_
      refine g_callC (W.runV (C := RX5) (As := [.int x1]) (rest := [.int x1, .ref (z 9)]) S0 (c_X5_at l G _ (z 9) (z 31) 20 (r 3) (by decide) (hP.sub (ws' := wRow1 G (z 9) (z 31) 20 (r 3)) [9, 31] rfl) x1) (cwV 1 hts gX1_add_X5_at rfl rfl rfl (by decide +kernel) ⟨Nat.le_of_ble_eq_true rfl, Nat.le_of_ble_eq_true rfl⟩) (g_preV hK hP (q0 := 9) (ci := 5) (q := (RX5, TX5, 1)) rfl rfl) rfl rfl hl.1 rfl (lv_room (Nat.le_of_ble_eq_true rfl)) dX1_add_41 ⟨Nat.zero_le _, Nat.zero_le _⟩) ?_
      refine lv_iload_n hx hb dX1_add_44 rfl (lv_at hl 2 rfl) ?_
      refine lv_iconst (v := nI 1) hx hb dX1_add_45 (by decide +kernel) ?_
      refine g_callR (va_runSN (As := [.int (rAt 20 (r 3) x1), .int x2, .int (b2i true)]) (rest := [.int x1, .ref (z 9)]) S0 (c_X6_withBit l G _ (rAt 20 (r 3) x1) x2 true) ⟨va_cnB (own := RX1) (host := "Rotaforge") (index := 37) 3 hts gX1_add_X6_withBit_n37 rfl rfl rfl hK.2.1 (hts (.initialized RX6) (by decide +kernel)) (by decide +kernel) ⟨Nat.le_of_ble_eq_true rfl, Nat.le_of_ble_eq_true rfl⟩, hts (.static yX6_withBit) (by decide +kernel), trivial⟩ (g_preS hK) rfl rfl hl.1 rfl (lv_room (Nat.le_of_ble_eq_true rfl)) dX1_add_46 ⟨Nat.zero_le _, Nat.zero_le _⟩) ?_
      refine g_callp (va_runV (C := RX5) (As := [.int x1, .int (cWithBit (rAt 20 (r 3) x1) x2 true)]) (rest := []) S0 (c_X5_put l G _ (z 9) (z 31) 20 (r 3) (by decide) (hP.sub (ws' := wRow1 G (z 9) (z 31) 20 (r 3)) [9, 31] rfl) x1 (cWithBit (rAt 20 (r 3) x1) x2 true)) (cwV 2 hts gX1_add_X5_put rfl rfl rfl (by decide +kernel) ⟨Nat.le_of_ble_eq_true rfl, Nat.le_of_ble_eq_true rfl⟩) (g_preV hK hP (q0 := 9) (ci := 5) (q := (RX5, TX5, 1)) rfl rfl) rfl rfl hl.1 rfl (lv_room (Nat.le_of_ble_eq_true rfl)) dX1_add_49 ⟨Nat.zero_le _, Nat.zero_le _⟩) hS (gF_k 31 (by decide)) (fun H locs hat hk hS => ?_)
      have hP : va_P G.1 vwCl (wRF G z (upR r 3 (rPut 20 (r 3) x1 (cWithBit (rAt 20 (r 3) x1) x2 true))) (upF f 2 ((f 2) + (nI 1)))) H := gPr_3 (gP_set hP hD (p := 31) rfl hat hk)
      have hD : va_D (gF z 50) (wRF G z (upR r 3 (rPut 20 (r 3) x1 (cWithBit (rAt 20 (r 3) x1) x2 true))) (upF f 2 ((f 2) + (nI 1)))) := gD_RF hz
      refine lv_goto (tgt := 76) hx hb dX1_add_52 (by decide) ?_
      have hPf : va_P G.1 vwCl (wRF G z (cDefR r x1 x2 x3) (upF f 2 (f 2 + nI 1))) H := by
        have e1 : cDefR r x1 x2 x3 = upR r 3 (rPut 20 (r 3) x1 (cWithBit (rAt 20 (r 3) x1) x2 true)) := by first | with_reducible rfl | (simp only [cDefR, c_1, c_2, ↓reduceIte, Bool.false_eq_true]; done) | (simp only [cDefR, c_1, c_2, ↓reduceIte, Bool.false_eq_true]; rfl) | rfl
        have e2 : upF f 2 (f 2 + nI 1) = upF f 2 ((f 2) + (nI 1)) := by first | with_reducible rfl | (simp only [cDefR, c_1, c_2, ↓reduceIte, Bool.false_eq_true]; done) | (simp only [cDefR, c_1, c_2, ↓reduceIte, Bool.false_eq_true]; rfl) | rfl
        rw [e1, e2]; exact hP
      exact W.vret hx hb hr (fun t ht _ => ⟨⟨(), rfl, trivial, g_hp ht hPf⟩, hS.F ht⟩) hS.2.2 dX1_add_76
  · refine lv_aload_n hx hb dX1_add_15 rfl (lv_at hl 0 rfl) ?_
    refine va_get (D := G.1) (ci := 1) (v := .ref (z 8)) (C := RX1) (T := TX1) (N := 4) hx hb hts hinX1 hown hK.1 hP 2 rfl rfl 0 (by decide) (hts (.fieldLink RX1 14 "Rotaforge$Defects" "always" "LRotaforge$Row;") (by decide +kernel)) (fun _ h9 => h9) rfl dX1_add_16 ?_
    refine lv_iload_n hx hb dX1_add_19 rfl (lv_at hl 1 rfl) ?_
    refine lv_iconst (v := nI 1) hx hb dX1_add_20 (by decide +kernel) ?_
    refine g_callp (va_runV (C := RX5) (As := [.int x1, .int (nI 1)]) (rest := []) S0 (c_X5_put l G _ (z 8) (z 30) 20 (r 2) (by decide) (hP.sub (ws' := wRow1 G (z 8) (z 30) 20 (r 2)) [8, 30] rfl) x1 (nI 1)) (cwV 2 hts gX1_add_X5_put rfl rfl rfl (by decide +kernel) ⟨Nat.le_of_ble_eq_true rfl, Nat.le_of_ble_eq_true rfl⟩) (g_preV hK hP (q0 := 8) (ci := 5) (q := (RX5, TX5, 1)) rfl rfl) rfl rfl hl.1 rfl (lv_room (Nat.le_of_ble_eq_true rfl)) dX1_add_21 ⟨Nat.zero_le _, Nat.zero_le _⟩) hS (gF_k 30 (by decide)) (fun H locs hat hk hS => ?_)
    have hP : va_P G.1 vwCl (wRF G z (upR r 2 (rPut 20 (r 2) x1 (nI 1))) (upF f 2 ((f 2) + (nI 1)))) H := gPr_2 (gP_set hP hD (p := 30) rfl hat hk)
    have hD : va_D (gF z 50) (wRF G z (upR r 2 (rPut 20 (r 2) x1 (nI 1))) (upF f 2 ((f 2) + (nI 1)))) := gD_RF hz
    refine lv_goto (tgt := 76) hx hb dX1_add_24 (by decide) ?_
    have hPf : va_P G.1 vwCl (wRF G z (cDefR r x1 x2 x3) (upF f 2 (f 2 + nI 1))) H := by
      have e1 : cDefR r x1 x2 x3 = upR r 2 (rPut 20 (r 2) x1 (nI 1)) := by first | with_reducible rfl | (simp only [cDefR, c_1, ↓reduceIte, Bool.false_eq_true]; done) | (simp only [cDefR, c_1, ↓reduceIte, Bool.false_eq_true]; rfl) | rfl
      have e2 : upF f 2 (f 2 + nI 1) = upF f 2 ((f 2) + (nI 1)) := by first | with_reducible rfl | (simp only [cDefR, c_1, ↓reduceIte, Bool.false_eq_true]; done) | (simp only [cDefR, c_1, ↓reduceIte, Bool.false_eq_true]; rfl) | rfl
      rw [e1, e2]; exact hP
    exact W.vret hx hb hr (fun t ht _ => ⟨⟨(), rfl, trivial, g_hp ht hPf⟩, hS.F ht⟩) hS.2.2 dX1_add_76

set_option maxHeartbeats 4000000 in
set_option maxRecDepth 100000 in
theorem c_X2_open (l : Launch) (G : gG) (H0 : Heap) (z : Nat → Nat) (hz : gDis z 50) (r : Nat → Nat → Int32) (f : Nat → Int32) (hP : va_P G.1 vwCl (wRF G z r f) H0) (x1 : Int32) (x2 : Int32) (x3 : Int32) : gMwv l yX2_open wsX2_open 1 22 G H0 [.ref (z 4), .int x1, .int x2, .int x3] (wRF G z (cOpenR r f x1 x2 x3) (upF f 4 (f 4 + nI 1))) (gF z 50) := by
  refine Met.ofW (cc := cX2_open) (maxL := 4) (ret := none) (by decide) rfl ?_
  intro p_ e_ s m args below meth c s₁ B hml hv
  obtain ⟨rfl, rfl, hK⟩ := hv
  have hx := B.exec
  have hb := B.bytes
  have hr := B.returns
  have hts := atoms_spec (ws := wsX2_open) B.pre
  have hown : s.vm.findClass RX2 = some m.cls := findClass_of_methodNamed B.named
  have hlocks := B.notSynchronized
  have hinX2 : ∀ w ∈ wsX20, w ∈ wsX2_open := by decide +kernel
  have S0 : CallFix p_ m c cX2_open 4 s _ wsX2_open RX2 := ⟨hx, hb, hml, hown, hts⟩
  have hD : va_D (gF z 50) (wRF G z r f) := gD_RF hz
  have hS : va_S (gF z 50) s.heap s.heap [] := va_S.rf
  have hl := lv_entry ([.ref (z 4), .int x1, .int x2, .int x3]) (n := 4) (Nat.le_of_ble_eq_true rfl)
  rw [lg_entry_eq]
  generalize (lg_sl ([.ref (z 4), .int x1, .int x2, .int x3]) ++ List.replicate (4 - (lg_sl ([.ref (z 4), .int x1, .int x2, .int x3])).length) Slot.unset).toArray = ls at hl ⊢
  have hl : lv_has ls 4 [(0, .ref (z 4)), (1, .int x1), (2, .int x2), (3, .int x3)] := hl
  refine lv_aload_n hx hb dX2_open_0 rfl (lv_at hl 0 rfl) ?_
  refine va_get (D := G.1) (ci := 2) (v := .ref (z 17)) (C := RX2) (T := TX2) (N := 7) hx hb hts hinX2 hown hK.1 hP 4 rfl rfl 0 (by decide) (hts (.fieldLink RX2 14 "Rotaforge$IncidentLog" "rings" "LRotaforge$Row;") (by decide +kernel)) (fun _ h9 => h9) rfl dX2_open_1 ?_
  refine lv_aload_n hx hb dX2_open_4 rfl (lv_at hl 0 rfl) ?_
  refine va_get (D := G.1) (ci := 2) (v := .int (f 4)) (C := RX2) (T := TX2) (N := 7) hx hb hts hinX2 hown hK.1 hP 4 rfl rfl 6 (by decide) (hts (.fieldLink RX2 35 "Rotaforge$IncidentLog" "count" "I") (by decide +kernel)) (fun _ h9 => h9) rfl dX2_open_5 ?_
  refine lv_iload_n hx hb dX2_open_8 rfl (lv_at hl 1 rfl) ?_
  refine g_callp (va_runV (C := RX5) (As := [.int (f 4), .int x1]) (rest := []) S0 (c_X5_put l G _ (z 17) (z 39) 200 (r 11) (by decide) (hP.sub (ws' := wRow1 G (z 17) (z 39) 200 (r 11)) [17, 39] rfl) (f 4) x1) (cwV 2 hts gX2_open_X5_put rfl rfl rfl (by decide +kernel) ⟨Nat.le_of_ble_eq_true rfl, Nat.le_of_ble_eq_true rfl⟩) (g_preV hK hP (q0 := 17) (ci := 5) (q := (RX5, TX5, 1)) rfl rfl) rfl rfl hl.1 rfl (lv_room (Nat.le_of_ble_eq_true rfl)) dX2_open_9 ⟨Nat.zero_le _, Nat.zero_le _⟩) hS (gF_k 39 (by decide)) (fun H locs hat hk hS => ?_)
  have hP : va_P G.1 vwCl (wRF G z (upR r 11 (rPut 200 (r 11) (f 4) x1)) f) H := gPr_11 (gP_set hP hD (p := 39) rfl hat hk)
  have hD : va_D (gF z 50) (wRF G z (upR r 11 (rPut 200 (r 11) (f 4) x1)) f) := gD_RF hz
  refine lv_aload_n hx hb dX2_open_12 rfl (lv_at hl 0 rfl) ?_
  refine va_get (D := G.1) (ci := 2) (v := .ref (z 18)) (C := RX2) (T := TX2) (N := 7) hx hb hts hinX2 hown hK.1 hP 4 rfl rfl 1 (by decide) (hts (.fieldLink RX2 20 "Rotaforge$IncidentLog" "starts" "LRotaforge$Row;") (by decide +kernel)) (fun _ h9 => h9) rfl dX2_open_13 ?_
  refine lv_aload_n hx hb dX2_open_16 rfl (lv_at hl 0 rfl) ?_
  refine va_get (D := G.1) (ci := 2) (v := .int (f 4)) (C := RX2) (T := TX2) (N := 7) hx hb hts hinX2 hown hK.1 hP 4 rfl rfl 6 (by decide) (hts (.fieldLink RX2 35 "Rotaforge$IncidentLog" "count" "I") (by decide +kernel)) (fun _ h9 => h9) rfl dX2_open_17 ?_
  refine lv_iload_n hx hb dX2_open_20 rfl (lv_at hl 2 rfl) ?_
  refine g_callp (va_runV (C := RX5) (As := [.int (f 4), .int x2]) (rest := []) S0 (c_X5_put l G _ (z 18) (z 40) 200 (r 12) (by decide) (hP.sub (ws' := wRow1 G (z 18) (z 40) 200 (r 12)) [18, 40] rfl) (f 4) x2) (cwV 2 hts gX2_open_X5_put rfl rfl rfl (by decide +kernel) ⟨Nat.le_of_ble_eq_true rfl, Nat.le_of_ble_eq_true rfl⟩) (g_preV hK hP (q0 := 18) (ci := 5) (q := (RX5, TX5, 1)) rfl rfl) rfl rfl hl.1 rfl (lv_room (Nat.le_of_ble_eq_true rfl)) dX2_open_21 ⟨Nat.zero_le _, Nat.zero_le _⟩) hS (gF_k 40 (by decide)) (fun H locs hat hk hS => ?_)
  have hP : va_P G.1 vwCl (wRF G z (upR (upR r 11 (rPut 200 (r 11) (f 4) x1)) 12 (rPut 200 (r 12) (f 4) x2)) f) H := gPr_12 (gP_set hP hD (p := 40) rfl hat hk)
  have hD : va_D (gF z 50) (wRF G z (upR (upR r 11 (rPut 200 (r 11) (f 4) x1)) 12 (rPut 200 (r 12) (f 4) x2)) f) := gD_RF hz
  refine lv_aload_n hx hb dX2_open_24 rfl (lv_at hl 0 rfl) ?_
  refine va_get (D := G.1) (ci := 2) (v := .ref (z 20)) (C := RX2) (T := TX2) (N := 7) hx hb hts hinX2 hown hK.1 hP 4 rfl rfl 3 (by decide) (hts (.fieldLink RX2 26 "Rotaforge$IncidentLog" "causes" "LRotaforge$Row;") (by decide +kernel)) (fun _ h9 => h9) rfl dX2_open_25 ?_
  refine lv_aload_n hx hb dX2_open_28 rfl (lv_at hl 0 rfl) ?_
  refine va_get (D := G.1) (ci := 2) (v := .int (f 4)) (C := RX2) (T := TX2) (N := 7) hx hb hts hinX2 hown hK.1 hP 4 rfl rfl 6 (by decide) (hts (.fieldLink RX2 35 "Rotaforge$IncidentLog" "count" "I") (by decide +kernel)) (fun _ h9 => h9) rfl dX2_open_29 ?_
  refine lv_iload_n hx hb dX2_open_32 rfl (lv_at hl 3 rfl) ?_
  refine g_callp (va_runV (C := RX5) (As := [.int (f 4), .int x3]) (rest := []) S0 (c_X5_put l G _ (z 20) (z 42) 200 (r 14) (by decide) (hP.sub (ws' := wRow1 G (z 20) (z 42) 200 (r 14)) [20, 42] rfl) (f 4) x3) (cwV 2 hts gX2_open_X5_put rfl rfl rfl (by decide +kernel) ⟨Nat.le_of_ble_eq_true rfl, Nat.le_of_ble_eq_true rfl⟩) (g_preV hK hP (q0 := 20) (ci := 5) (q := (RX5, TX5, 1)) rfl rfl) rfl rfl hl.1 rfl (lv_room (Nat.le_of_ble_eq_true rfl)) dX2_open_33 ⟨Nat.zero_le _, Nat.zero_le _⟩) hS (gF_k 42 (by decide)) (fun H locs hat hk hS => ?_)
  have hP : va_P G.1 vwCl (wRF G z (upR (upR (upR r 11 (rPut 200 (r 11) (f 4) x1)) 12 (rPut 200 (r 12) (f 4) x2)) 14 (rPut 200 (r 14) (f 4) x3)) f) H := gPr_14 (gP_set hP hD (p := 42) rfl hat hk)
  have hD : va_D (gF z 50) (wRF G z (upR (upR (upR r 11 (rPut 200 (r 11) (f 4) x1)) 12 (rPut 200 (r 12) (f 4) x2)) 14 (rPut 200 (r 14) (f 4) x3)) f) := gD_RF hz
  refine lv_aload_n hx hb dX2_open_36 rfl (lv_at hl 0 rfl) ?_
  refine va_get (D := G.1) (ci := 2) (v := .ref (z 22)) (C := RX2) (T := TX2) (N := 7) hx hb hts hinX2 hown hK.1 hP 4 rfl rfl 5 (by decide) (hts (.fieldLink RX2 32 "Rotaforge$IncidentLog" "openByRing" "LRotaforge$Row;") (by decide +kernel)) (fun _ h9 => h9) rfl dX2_open_37 ?_
  refine lv_iload_n hx hb dX2_open_40 rfl (lv_at hl 1 rfl) ?_
  refine lv_aload_n hx hb dX2_open_41 rfl (lv_at hl 0 rfl) ?_
  refine va_get (D := G.1) (ci := 2) (v := .int (f 4)) (C := RX2) (T := TX2) (N := 7) hx hb hts hinX2 hown hK.1 hP 4 rfl rfl 6 (by decide) (hts (.fieldLink RX2 35 "Rotaforge$IncidentLog" "count" "I") (by decide +kernel)) (fun _ h9 => h9) rfl dX2_open_42 ?_
  refine g_callp (va_runV (C := RX5) (As := [.int x1, .int (f 4)]) (rest := []) S0 (c_X5_put l G _ (z 22) (z 44) 4 (r 16) (by decide) (hP.sub (ws' := wRow1 G (z 22) (z 44) 4 (r 16)) [22, 44] rfl) x1 (f 4)) (cwV 2 hts gX2_open_X5_put rfl rfl rfl (by decide +kernel) ⟨Nat.le_of_ble_eq_true rfl, Nat.le_of_ble_eq_true rfl⟩) (g_preV hK hP (q0 := 22) (ci := 5) (q := (RX5, TX5, 1)) rfl rfl) rfl rfl hl.1 rfl (lv_room (Nat.le_of_ble_eq_true rfl)) dX2_open_45 ⟨Nat.zero_le _, Nat.zero_le _⟩) hS (gF_k 44 (by decide)) (fun H locs hat hk hS => ?_)
  have hP : va_P G.1 vwCl (wRF G z (upR (upR (upR (upR r 11 (rPut 200 (r 11) (f 4) x1)) 12 (rPut 200 (r 12) (f 4) x2)) 14 (rPut 200 (r 14) (f 4) x3)) 16 (rPut 4 (r 16) x1 (f 4))) f) H := gPr_16 (gP_set hP hD (p := 44) rfl hat hk)
  have hD : va_D (gF z 50) (wRF G z (upR (upR (upR (upR r 11 (rPut 200 (r 11) (f 4) x1)) 12 (rPut 200 (r 12) (f 4) x2)) 14 (rPut 200 (r 14) (f 4) x3)) 16 (rPut 4 (r 16) x1 (f 4))) f) := gD_RF hz
  refine lv_aload_n hx hb dX2_open_48 rfl (lv_at hl 0 rfl) ?_
  refine lv_dup hx hb dX2_open_49 rfl ?_
  refine va_get (D := G.1) (ci := 2) (v := .int (f 4)) (C := RX2) (T := TX2) (N := 7) hx hb hts hinX2 hown hK.1 hP 4 rfl rfl 6 (by decide) (hts (.fieldLink RX2 35 "Rotaforge$IncidentLog" "count" "I") (by decide +kernel)) (fun _ h9 => h9) rfl dX2_open_50 ?_
  refine lv_iconst (v := nI 1) hx hb dX2_open_53 (by decide +kernel) ?_
  refine lv_iadd hx hb dX2_open_54 ?_
  refine va_put (D := G.1) (ci := 2) (v := .int ((f 4) + (nI 1))) (ty := .int) (C := RX2) (T := TX2) (N := 7) hx hb hts hinX2 tyX2 tyX2_ok nmX2 hown hK.1 hP hD hS 4 rfl rfl 6 (by decide) (hts (.fieldLink RX2 35 "Rotaforge$IncidentLog" "count" "I") (by decide +kernel)) (fun _ h9 => h9) rfl (by decide +kernel) rfl rfl (Nat.le_of_ble_eq_true rfl) dX2_open_55 (fun H locs hP hD hS => ?_)
  have hP : va_P G.1 vwCl (wRF G z (upR (upR (upR (upR r 11 (rPut 200 (r 11) (f 4) x1)) 12 (rPut 200 (r 12) (f 4) x2)) 14 (rPut 200 (r 14) (f 4) x3)) 16 (rPut 4 (r 16) x1 (f 4))) (upF f 4 ((f 4) + (nI 1)))) H := gPs_4 hP
  have hD : va_D (gF z 50) (wRF G z (upR (upR (upR (upR r 11 (rPut 200 (r 11) (f 4) x1)) 12 (rPut 200 (r 12) (f 4) x2)) 14 (rPut 200 (r 14) (f 4) x3)) 16 (rPut 4 (r 16) x1 (f 4))) (upF f 4 ((f 4) + (nI 1)))) := gD_RF hz
  have hPf : va_P G.1 vwCl (wRF G z (cOpenR r f x1 x2 x3) (upF f 4 (f 4 + nI 1))) H := by
    have e1 : cOpenR r f x1 x2 x3 = upR (upR (upR (upR r 11 (rPut 200 (r 11) (f 4) x1)) 12 (rPut 200 (r 12) (f 4) x2)) 14 (rPut 200 (r 14) (f 4) x3)) 16 (rPut 4 (r 16) x1 (f 4)) := by first | with_reducible rfl | (simp only [cOpenR, ↓reduceIte, Bool.false_eq_true]; done) | (simp only [cOpenR, ↓reduceIte, Bool.false_eq_true]; rfl) | rfl
    have e2 : upF f 4 (f 4 + nI 1) = upF f 4 ((f 4) + (nI 1)) := by first | with_reducible rfl | (simp only [cOpenR, ↓reduceIte, Bool.false_eq_true]; done) | (simp only [cOpenR, ↓reduceIte, Bool.false_eq_true]; rfl) | rfl
    rw [e1, e2]; exact hP
  exact W.vret hx hb hr (fun t ht _ => ⟨⟨(), rfl, trivial, g_hp ht hPf⟩, hS.F ht⟩) hS.2.2 dX2_open_58

set_option maxHeartbeats 4000000 in
set_option maxRecDepth 100000 in
theorem c_X2_close (l : Launch) (G : gG) (H0 : Heap) (z : Nat → Nat) (hz : gDis z 50) (r : Nat → Nat → Int32) (f : Nat → Int32) (hP : va_P G.1 vwCl (wRF G z r f) H0) (x1 : Int32) (x2 : Int32) : gMwv l yX2_close wsX2_close 1 22 G H0 [.ref (z 4), .int x1, .int x2] (wRF G z (cCloseR r x1 x2) f) (gF z 50) := by
  refine Met.ofW (cc := cX2_close) (maxL := 4) (ret := none) (by decide) rfl ?_
  intro p_ e_ s m args below meth c s₁ B hml hv
  obtain ⟨rfl, rfl, hK⟩ := hv
  have hx := B.exec
  have hb := B.bytes
  have hr := B.returns
  have hts := atoms_spec (ws := wsX2_close) B.pre
  have hown : s.vm.findClass RX2 = some m.cls := findClass_of_methodNamed B.named
  have hlocks := B.notSynchronized
  have hinX2 : ∀ w ∈ wsX20, w ∈ wsX2_close := by decide +kernel
  have S0 : CallFix p_ m c cX2_close 4 s _ wsX2_close RX2 := ⟨hx, hb, hml, hown, hts⟩
  have hD : va_D (gF z 50) (wRF G z r f) := gD_RF hz
  have hS : va_S (gF z 50) s.heap s.heap [] := va_S.rf
  have hl := lv_entry ([.ref (z 4), .int x1, .int x2]) (n := 4) (Nat.le_of_ble_eq_true rfl)
  rw [lg_entry_eq]
  generalize (lg_sl ([.ref (z 4), .int x1, .int x2]) ++ List.replicate (4 - (lg_sl ([.ref (z 4), .int x1, .int x2])).length) Slot.unset).toArray = ls at hl ⊢
  have hl : lv_has ls 4 [(0, .ref (z 4)), (1, .int x1), (2, .int x2)] := hl
  refine lv_aload_n hx hb dX2_close_0 rfl (lv_at hl 0 rfl) ?_
  refine va_get (D := G.1) (ci := 2) (v := .ref (z 22)) (C := RX2) (T := TX2) (N := 7) hx hb hts hinX2 hown hK.1 hP 4 rfl rfl 5 (by decide) (hts (.fieldLink RX2 32 "Rotaforge$IncidentLog" "openByRing" "LRotaforge$Row;") (by decide +kernel)) (fun _ h9 => h9) rfl dX2_close_1 ?_
  refine lv_iload_n hx hb dX2_close_4 rfl (lv_at hl 1 rfl) ?_
  refine g_callC (W.runV (C := RX5) (As := [.int x1]) (rest := []) S0 (c_X5_at l G _ (z 22) (z 44) 4 (r 16) (by decide) (hP.sub (ws' := wRow1 G (z 22) (z 44) 4 (r 16)) [22, 44] rfl) x1) (cwV 1 hts gX2_close_X5_at rfl rfl rfl (by decide +kernel) ⟨Nat.le_of_ble_eq_true rfl, Nat.le_of_ble_eq_true rfl⟩) (g_preV hK hP (q0 := 22) (ci := 5) (q := (RX5, TX5, 1)) rfl rfl) rfl rfl hl.1 rfl (lv_room (Nat.le_of_ble_eq_true rfl)) dX2_close_5 ⟨Nat.zero_le _, Nat.zero_le _⟩) ?_
  refine lv_istore_n (lv' := [(3, .int (rAt 4 (r 16) x1)), (0, .ref (z 4)), (1, .int x1), (2, .int x2)]) hx hb dX2_close_8 rfl hl (by decide) rfl (fun ls hl => ?_)
  refine lv_iload_n hx hb dX2_close_9 rfl (lv_at hl 0 rfl) ?_
  refine lv_iconst (v := (-1)) hx hb dX2_close_10 (by decide +kernel) ?_
  refine lv_icmp_eq (tgt := 32) hx hb dX2_close_11 (by decide) (fun c_1 => ?_) (fun c_1 => ?_)
  · have hPf : va_P G.1 vwCl (wRF G z (cCloseR r x1 x2) f) s.heap := by
      have e1 : cCloseR r x1 x2 = r := by first | with_reducible rfl | (simp only [cCloseR, c_1, ↓reduceIte, Bool.false_eq_true]; done) | (simp only [cCloseR, c_1, ↓reduceIte, Bool.false_eq_true]; rfl) | rfl
      have e2 : f = f := by first | with_reducible rfl | (simp only [cCloseR, c_1, ↓reduceIte, Bool.false_eq_true]; done) | (simp only [cCloseR, c_1, ↓reduceIte, Bool.false_eq_true]; rfl) | rfl
      rw [e1, e2]; exact hP
    exact W.vret hx hb hr (fun t ht _ => ⟨⟨(), rfl, trivial, g_hp ht hPf⟩, hS.F ht⟩) hS.2.2 dX2_close_32
  · refine lv_aload_n hx hb dX2_close_14 rfl (lv_at hl 1 rfl) ?_
    refine va_get (D := G.1) (ci := 2) (v := .ref (z 19)) (C := RX2) (T := TX2) (N := 7) hx hb hts hinX2 hown hK.1 hP 4 rfl rfl 2 (by decide) (hts (.fieldLink RX2 23 "Rotaforge$IncidentLog" "ends" "LRotaforge$Row;") (by decide +kernel)) (fun _ h9 => h9) rfl dX2_close_15 ?_
    refine lv_iload_n hx hb dX2_close_18 rfl (lv_at hl 0 rfl) ?_
    refine lv_iload_n hx hb dX2_close_19 rfl (lv_at hl 3 rfl) ?_
    refine g_callp (va_runV (C := RX5) (As := [.int (rAt 4 (r 16) x1), .int x2]) (rest := []) S0 (c_X5_put l G _ (z 19) (z 41) 200 (r 13) (by decide) (hP.sub (ws' := wRow1 G (z 19) (z 41) 200 (r 13)) [19, 41] rfl) (rAt 4 (r 16) x1) x2) (cwV 2 hts gX2_close_X5_put rfl rfl rfl (by decide +kernel) ⟨Nat.le_of_ble_eq_true rfl, Nat.le_of_ble_eq_true rfl⟩) (g_preV hK hP (q0 := 19) (ci := 5) (q := (RX5, TX5, 1)) rfl rfl) rfl rfl hl.1 rfl (lv_room (Nat.le_of_ble_eq_true rfl)) dX2_close_20 ⟨Nat.zero_le _, Nat.zero_le _⟩) hS (gF_k 41 (by decide)) (fun H locs hat hk hS => ?_)
    have hP : va_P G.1 vwCl (wRF G z (upR r 13 (rPut 200 (r 13) (rAt 4 (r 16) x1) x2)) f) H := gPr_13 (gP_set hP hD (p := 41) rfl hat hk)
    have hD : va_D (gF z 50) (wRF G z (upR r 13 (rPut 200 (r 13) (rAt 4 (r 16) x1) x2)) f) := gD_RF hz
    refine lv_aload_n hx hb dX2_close_23 rfl (lv_at hl 1 rfl) ?_
    refine va_get (D := G.1) (ci := 2) (v := .ref (z 22)) (C := RX2) (T := TX2) (N := 7) hx hb hts hinX2 hown hK.1 hP 4 rfl rfl 5 (by decide) (hts (.fieldLink RX2 32 "Rotaforge$IncidentLog" "openByRing" "LRotaforge$Row;") (by decide +kernel)) (fun _ h9 => h9) rfl dX2_close_24 ?_
    refine lv_iload_n hx hb dX2_close_27 rfl (lv_at hl 2 rfl) ?_
    refine lv_iconst (v := (-1)) hx hb dX2_close_28 (by decide +kernel) ?_
    refine g_callp (va_runV (C := RX5) (As := [.int x1, .int (-1)]) (rest := []) S0 (c_X5_put l G _ (z 22) (z 44) 4 (r 16) (by decide) (hP.sub (ws' := wRow1 G (z 22) (z 44) 4 (r 16)) [22, 44] rfl) x1 (-1)) (cwV 2 hts gX2_close_X5_put rfl rfl rfl (by decide +kernel) ⟨Nat.le_of_ble_eq_true rfl, Nat.le_of_ble_eq_true rfl⟩) (g_preV hK hP (q0 := 22) (ci := 5) (q := (RX5, TX5, 1)) rfl rfl) rfl rfl hl.1 rfl (lv_room (Nat.le_of_ble_eq_true rfl)) dX2_close_29 ⟨Nat.zero_le _, Nat.zero_le _⟩) hS (gF_k 44 (by decide)) (fun H locs hat hk hS => ?_)
    have hP : va_P G.1 vwCl (wRF G z (upR (upR r 13 (rPut 200 (r 13) (rAt 4 (r 16) x1) x2)) 16 (rPut 4 (r 16) x1 (-1))) f) H := gPr_16 (gP_set hP hD (p := 44) rfl hat hk)
    have hD : va_D (gF z 50) (wRF G z (upR (upR r 13 (rPut 200 (r 13) (rAt 4 (r 16) x1) x2)) 16 (rPut 4 (r 16) x1 (-1))) f) := gD_RF hz
    have hPf : va_P G.1 vwCl (wRF G z (cCloseR r x1 x2) f) H := by
      have e1 : cCloseR r x1 x2 = upR (upR r 13 (rPut 200 (r 13) (rAt 4 (r 16) x1) x2)) 16 (rPut 4 (r 16) x1 (-1)) := by first | with_reducible rfl | (simp only [cCloseR, c_1, ↓reduceIte, Bool.false_eq_true]; done) | (simp only [cCloseR, c_1, ↓reduceIte, Bool.false_eq_true]; rfl) | rfl
      have e2 : f = f := by first | with_reducible rfl | (simp only [cCloseR, c_1, ↓reduceIte, Bool.false_eq_true]; done) | (simp only [cCloseR, c_1, ↓reduceIte, Bool.false_eq_true]; rfl) | rfl
      rw [e1, e2]; exact hP
    exact W.vret hx hb hr (fun t ht _ => ⟨⟨(), rfl, trivial, g_hp ht hPf⟩, hS.F ht⟩) hS.2.2 dX2_close_32

set_option maxHeartbeats 4000000 in
set_option maxRecDepth 100000 in
theorem c_X2_noteWoken (l : Launch) (G : gG) (H0 : Heap) (z : Nat → Nat) (hz : gDis z 50) (r : Nat → Nat → Int32) (f : Nat → Int32) (hP : va_P G.1 vwCl (wRF G z r f) H0) (x1 : Int32) (x2 : Int32) (a n : Nat) (ha : x1 = nI a) (hn : f 4 = nI (a + n)) (hb9 : a + n ≤ 200) : gMwv l yX2_noteWoken wsX2_noteWoken 1 22 G H0 [.ref (z 4), .int x1, .int x2] (wRF G z (cNoteR r a n x2) f) (gF z 50) := by
  refine Met.ofW (cc := cX2_noteWoken) (maxL := 4) (ret := none) (by decide) rfl ?_
  intro p_ e_ s m args below meth c s₁ B hml hv
  obtain ⟨rfl, rfl, hK⟩ := hv
  have hx := B.exec
  have hb := B.bytes
  have hr := B.returns
  have hts := atoms_spec (ws := wsX2_noteWoken) B.pre
  have hown : s.vm.findClass RX2 = some m.cls := findClass_of_methodNamed B.named
  have hlocks := B.notSynchronized
  have hinX2 : ∀ w ∈ wsX20, w ∈ wsX2_noteWoken := by decide +kernel
  have S0 : CallFix p_ m c cX2_noteWoken 4 s _ wsX2_noteWoken RX2 := ⟨hx, hb, hml, hown, hts⟩
  have hD : va_D (gF z 50) (wRF G z r f) := gD_RF hz
  have hS : va_S (gF z 50) s.heap s.heap [] := va_S.rf
  have hl := lv_entry ([.ref (z 4), .int x1, .int x2]) (n := 4) (Nat.le_of_ble_eq_true rfl)
  rw [lg_entry_eq]
  generalize (lg_sl ([.ref (z 4), .int x1, .int x2]) ++ List.replicate (4 - (lg_sl ([.ref (z 4), .int x1, .int x2])).length) Slot.unset).toArray = ls at hl ⊢
  have hl : lv_has ls 4 [(0, .ref (z 4)), (1, .int x1), (2, .int x2)] := hl
  subst ha
  refine lv_iload_n hx hb dX2_noteWoken_0 rfl (lv_at hl 1 rfl) ?_
  refine lv_istore_n (lv' := [(3, .int (nI a)), (0, .ref (z 4)), (1, .int (nI a)), (2, .int x2)]) hx hb dX2_noteWoken_1 rfl hl (by decide) rfl (fun ls hl => ?_)
  refine g_loopW (fun H locs g => W p_ l e_ _ s m _ below meth c H locs _ _ _ g) m 2 4 [] (n) (fun i => [(3, .int (nI (a + i))), (0, .ref (z 4)), (1, .int (nI a)), (2, .int x2)]) (fun i H locs => va_P G.1 vwCl (wRF G z (cNoteR r a i x2) f) H ∧ va_S (gF z 50) s.heap H locs ∧ True) (fun i H locs hi2 hI ih2 ls hl => ?_) 0 _ _ (Nat.zero_le _) ⟨(show va_P G.1 vwCl (wRF G z (cNoteR r a 0 x2) f) s.heap from hP), hS, trivial⟩ ls ?_
  · obtain ⟨hP, hS, hI⟩ := hI
    have hP : va_P G.1 vwCl (wRF G z (cNoteR r a i x2) f) H := hP
    have hD : va_D (gF z 50) (wRF G z (cNoteR r a i x2) f) := gD_RF hz
    have hl : lv_has ls 4 [(3, .int (nI (a + i))), (0, .ref (z 4)), (1, .int (nI a)), (2, .int x2)] := hl
    have hI : True := hI
    refine lv_iload_n hx hb dX2_noteWoken_2 rfl (lv_at hl 0 rfl) ?_
    refine lv_aload_n hx hb dX2_noteWoken_3 rfl (lv_at hl 1 rfl) ?_
    refine va_get (D := G.1) (ci := 2) (v := .int (f 4)) (C := RX2) (T := TX2) (N := 7) hx hb hts hinX2 hown hK.1 hP 4 rfl rfl 6 (by decide) (hts (.fieldLink RX2 35 "Rotaforge$IncidentLog" "count" "I") (by decide +kernel)) (fun _ h9 => h9) rfl dX2_noteWoken_4 ?_
    refine lv_icmp_ge (tgt := 25) hx hb dX2_noteWoken_7 (by decide) (fun c_1 => ?_) (fun c_1 => ?_)
    · have hex : n = i := by
        rw [hn] at c_1
        have h9 := (nI_leI (a := a + n) (b := a + i) (by omega) (by omega)).mp c_1
        omega
      subst hex
      have hPf : va_P G.1 vwCl (wRF G z (cNoteR r a n x2) f) H := by
        exact hP
      exact W.vret hx hb hr (fun t ht _ => ⟨⟨(), rfl, trivial, g_hp ht hPf⟩, hS.F ht⟩) hS.2.2 dX2_noteWoken_25
    · have hlt : i < n := by
        rw [hn] at c_1
        have h9 := mt (nI_leI (a := a + n) (b := a + i) (by omega) (by omega)).mpr c_1
        omega
      refine lv_aload_n hx hb dX2_noteWoken_10 rfl (lv_at hl 1 rfl) ?_
      refine va_get (D := G.1) (ci := 2) (v := .ref (z 21)) (C := RX2) (T := TX2) (N := 7) hx hb hts hinX2 hown hK.1 hP 4 rfl rfl 4 (by decide) (hts (.fieldLink RX2 29 "Rotaforge$IncidentLog" "woken" "LRotaforge$Row;") (by decide +kernel)) (fun _ h9 => h9) rfl dX2_noteWoken_11 ?_
      refine lv_iload_n hx hb dX2_noteWoken_14 rfl (lv_at hl 0 rfl) ?_
      refine lv_iload_n hx hb dX2_noteWoken_15 rfl (lv_at hl 3 rfl) ?_
      refine g_callp (va_runV (C := RX5) (As := [.int (nI (a + i)), .int x2]) (rest := []) S0 (c_X5_put l G _ (z 21) (z 43) 200 ((cNoteR r a i x2) 15) (by decide) (hP.sub (ws' := wRow1 G (z 21) (z 43) 200 ((cNoteR r a i x2) 15)) [21, 43] rfl) (nI (a + i)) x2) (cwV 2 hts gX2_noteWoken_X5_put rfl rfl rfl (by decide +kernel) ⟨Nat.le_of_ble_eq_true rfl, Nat.le_of_ble_eq_true rfl⟩) (g_preV hK hP (q0 := 21) (ci := 5) (q := (RX5, TX5, 1)) rfl rfl) rfl rfl hl.1 rfl (lv_room (Nat.le_of_ble_eq_true rfl)) dX2_noteWoken_16 ⟨Nat.zero_le _, Nat.zero_le _⟩) hS (gF_k 43 (by decide)) (fun H locs hat hk hS => ?_)
      have hP : va_P G.1 vwCl (wRF G z (upR (cNoteR r a i x2) 15 (rPut 200 ((cNoteR r a i x2) 15) (nI (a + i)) x2)) f) H := gPr_15 (gP_set hP hD (p := 43) rfl hat hk)
      have hD : va_D (gF z 50) (wRF G z (upR (cNoteR r a i x2) 15 (rPut 200 ((cNoteR r a i x2) 15) (nI (a + i)) x2)) f) := gD_RF hz
      refine lv_iinc (v := (nI (a + i)) + nI 1) (lv' := [(3, .int ((nI (a + i)) + nI 1)), (0, .ref (z 4)), (1, .int (nI a)), (2, .int x2)]) hx hb dX2_noteWoken_19 hl (k := 0) rfl (congrArg (fun q : Int32 => (nI (a + i)) + q) (by decide +kernel)) (by decide) rfl (fun ls hl => ?_)
      refine lv_goto (tgt := 2) hx hb dX2_noteWoken_22 (by decide) ?_
      have hPn : va_P G.1 vwCl (wRF G z (cNoteR r a (i + 1) x2) f) H := by
        exact hP
      exact ih2 _ _ _ (by omega) ⟨hPn, hS, trivial⟩ (lv_cv (show lv_has ls 4 [(3, .int ((nI (a + i)) + nI 1)), (0, .ref (z 4)), (1, .int (nI a)), (2, .int x2)] from lv_sub hl [0, 1, 2, 3] rfl) (gl_i (show (nI (a + i)) + nI 1 = nI (a + (i + 1)) by rw [nI_add, Nat.add_assoc]) (gl_s (gl_s (gl_s rfl)))))
  · exact (lv_cv (show lv_has ls 4 [(3, .int (nI a)), (0, .ref (z 4)), (1, .int (nI a)), (2, .int x2)] from lv_sub hl [0, 1, 2, 3] rfl) (gl_i (show nI a = nI (a + 0) by first | with_reducible rfl | with_reducible exact nI_add _ _ | (simp only [true_and, ↓reduceIte, Bool.false_eq_true, decide_true, decide_false, Bool.not_true, Bool.not_false, Bool.or_true, Bool.true_or, Bool.or_false, Bool.false_or]; done) | (simp only [true_and, ↓reduceIte, Bool.false_eq_true, decide_true, decide_false, Bool.not_true, Bool.not_false, Bool.or_true, Bool.true_or, Bool.or_false, Bool.false_or]; with_reducible rfl) | (simp only [true_and, ↓reduceIte, Bool.false_eq_true, decide_true, decide_false, Bool.not_true, Bool.not_false, Bool.or_true, Bool.true_or, Bool.or_false, Bool.false_or]; rfl) | (simp [b2i, true_and]; done) | rfl) (gl_s (gl_s (gl_s rfl)))))

set_option maxHeartbeats 4000000 in
set_option maxRecDepth 100000 in
theorem c_X3_put (l : Launch) (G : gG) (H0 : Heap) (z : Nat → Nat) (hz : gDis z 50) (r : Nat → Nat → Int32) (f : Nat → Int32) (hP : va_P G.1 vwCl (wRF G z r f) H0) (x1 : Int32) (x2 : Int32) (x3 : Bool) : gMwv l yX3_put wsX3_put 2 45 G H0 [.ref (z 1), .int x1, .int x2, .int (b2i x3)] (wRF G z (cPutW (cPutN r x1 x2 x3) 8) f) (gF z 50) := by
  refine Met.ofW (cc := cX3_put) (maxL := 5) (ret := none) (by decide) rfl ?_
  intro p_ e_ s m args below meth c s₁ B hml hv
  obtain ⟨rfl, rfl, hK⟩ := hv
  have hx := B.exec
  have hb := B.bytes
  have hr := B.returns
  have hts := atoms_spec (ws := wsX3_put) B.pre
  have hown : s.vm.findClass RX3 = some m.cls := findClass_of_methodNamed B.named
  have hlocks := B.notSynchronized
  have hinX3 : ∀ w ∈ wsX30, w ∈ wsX3_put := by decide +kernel
  have S0 : CallFix p_ m c cX3_put 5 s _ wsX3_put RX3 := ⟨hx, hb, hml, hown, hts⟩
  have hD : va_D (gF z 50) (wRF G z r f) := gD_RF hz
  have hS : va_S (gF z 50) s.heap s.heap [] := va_S.rf
  have hl := lv_entry ([.ref (z 1), .int x1, .int x2, .int (b2i x3)]) (n := 5) (Nat.le_of_ble_eq_true rfl)
  rw [lg_entry_eq]
  generalize (lg_sl ([.ref (z 1), .int x1, .int x2, .int (b2i x3)]) ++ List.replicate (5 - (lg_sl ([.ref (z 1), .int x1, .int x2, .int (b2i x3)])).length) Slot.unset).toArray = ls at hl ⊢
  have hl : lv_has ls 5 [(0, .ref (z 1)), (1, .int x1), (2, .int x2), (3, .int (b2i x3))] := hl
  refine lv_aload_n hx hb dX3_put_0 rfl (lv_at hl 0 rfl) ?_
  refine va_get (D := G.1) (ci := 3) (v := .ref (z 6)) (C := RX3) (T := TX3) (N := 2) hx hb hts hinX3 hown hK.1 hP 1 rfl rfl 0 (by decide) (hts (.fieldLink RX3 14 "Rotaforge$Needs" "direct" "LRotaforge$Row;") (by decide +kernel)) (fun _ h9 => h9) rfl dX3_put_1 ?_
  refine lv_iload_n hx hb dX3_put_4 rfl (lv_at hl 1 rfl) ?_
  refine lv_aload_n hx hb dX3_put_5 rfl (lv_at hl 0 rfl) ?_
  refine va_get (D := G.1) (ci := 3) (v := .ref (z 6)) (C := RX3) (T := TX3) (N := 2) hx hb hts hinX3 hown hK.1 hP 1 rfl rfl 0 (by decide) (hts (.fieldLink RX3 14 "Rotaforge$Needs" "direct" "LRotaforge$Row;") (by decide +kernel)) (fun _ h9 => h9) rfl dX3_put_6 ?_
  refine lv_iload_n hx hb dX3_put_9 rfl (lv_at hl 1 rfl) ?_
  refine g_callC (W.runV (C := RX5) (As := [.int x1]) (rest := [.int x1, .ref (z 6)]) S0 (c_X5_at l G _ (z 6) (z 28) 8 (r 0) (by decide) (hP.sub (ws' := wRow1 G (z 6) (z 28) 8 (r 0)) [6, 28] rfl) x1) (cwV 1 hts gX3_put_X5_at rfl rfl rfl (by decide +kernel) ⟨Nat.le_of_ble_eq_true rfl, Nat.le_of_ble_eq_true rfl⟩) (g_preV hK hP (q0 := 6) (ci := 5) (q := (RX5, TX5, 1)) rfl rfl) rfl rfl hl.1 rfl (lv_room (Nat.le_of_ble_eq_true rfl)) dX3_put_10 ⟨Nat.zero_le _, Nat.zero_le _⟩) ?_
  refine lv_iload_n hx hb dX3_put_13 rfl (lv_at hl 2 rfl) ?_
  refine lv_iload_n hx hb dX3_put_14 rfl (lv_at hl 3 rfl) ?_
  refine g_callR (va_runSN (As := [.int (rAt 8 (r 0) x1), .int x2, .int (b2i x3)]) (rest := [.int x1, .ref (z 6)]) S0 (c_X6_withBit l G _ (rAt 8 (r 0) x1) x2 x3) ⟨va_cnB (own := RX3) (host := "Rotaforge") (index := 39) 3 hts gX3_put_X6_withBit_n39 rfl rfl rfl hK.2.2.2 (hts (.initialized RX6) (by decide +kernel)) (by decide +kernel) ⟨Nat.le_of_ble_eq_true rfl, Nat.le_of_ble_eq_true rfl⟩, hts (.static yX6_withBit) (by decide +kernel), trivial⟩ (g_preS hK) rfl rfl hl.1 rfl (lv_room (Nat.le_of_ble_eq_true rfl)) dX3_put_15 ⟨Nat.zero_le _, Nat.zero_le _⟩) ?_
  refine g_callp (va_runV (C := RX5) (As := [.int x1, .int (cWithBit (rAt 8 (r 0) x1) x2 x3)]) (rest := []) S0 (c_X5_put l G _ (z 6) (z 28) 8 (r 0) (by decide) (hP.sub (ws' := wRow1 G (z 6) (z 28) 8 (r 0)) [6, 28] rfl) x1 (cWithBit (rAt 8 (r 0) x1) x2 x3)) (cwV 2 hts gX3_put_X5_put rfl rfl rfl (by decide +kernel) ⟨Nat.le_of_ble_eq_true rfl, Nat.le_of_ble_eq_true rfl⟩) (g_preV hK hP (q0 := 6) (ci := 5) (q := (RX5, TX5, 1)) rfl rfl) rfl rfl hl.1 rfl (lv_room (Nat.le_of_ble_eq_true rfl)) dX3_put_18 ⟨Nat.zero_le _, Nat.zero_le _⟩) hS (gF_k 28 (by decide)) (fun H locs hat hk hS => ?_)
  have hP : va_P G.1 vwCl (wRF G z (upR r 0 (rPut 8 (r 0) x1 (cWithBit (rAt 8 (r 0) x1) x2 x3))) f) H := gPr_0 (gP_set hP hD (p := 28) rfl hat hk)
  have hD : va_D (gF z 50) (wRF G z (upR r 0 (rPut 8 (r 0) x1 (cWithBit (rAt 8 (r 0) x1) x2 x3))) f) := gD_RF hz
  refine lv_iconst (v := nI 0) hx hb dX3_put_21 (by decide +kernel) ?_
  refine lv_istore (lv' := [(4, .int (nI 0)), (0, .ref (z 1)), (1, .int x1), (2, .int x2), (3, .int (b2i x3))]) hx hb dX3_put_22 hl (by decide) rfl (fun ls hl => ?_)
  refine g_loopW (fun H locs g => W p_ l e_ _ s m _ below meth c H locs _ _ _ g) m 24 5 [] (8) (fun i => [(4, .int (nI i)), (0, .ref (z 1)), (1, .int x1), (2, .int x2), (3, .int (b2i x3))]) (fun i H locs => va_P G.1 vwCl (wRF G z (cPutW (cPutN r x1 x2 x3) i) f) H ∧ va_S (gF z 50) s.heap H locs ∧ True) (fun i H locs hi24 hI ih24 ls hl => ?_) 0 _ _ (Nat.zero_le _) ⟨hP, hS, trivial⟩ ls ?_
  · obtain ⟨hP, hS, hI⟩ := hI
    have hP : va_P G.1 vwCl (wRF G z (cPutW (cPutN r x1 x2 x3) i) f) H := hP
    have hD : va_D (gF z 50) (wRF G z (cPutW (cPutN r x1 x2 x3) i) f) := gD_RF hz
    have hl : lv_has ls 5 [(4, .int (nI i)), (0, .ref (z 1)), (1, .int x1), (2, .int x2), (3, .int (b2i x3))] := hl
    have hI : True := hI
    refine lv_iload hx hb dX3_put_24 (lv_at hl 0 rfl) ?_
    refine lv_bipush (v := nI 8) hx hb dX3_put_26 (by decide +kernel) ?_
    refine lv_icmp_ge (tgt := 52) hx hb dX3_put_28 (by decide) (fun c_1 => ?_) (fun c_1 => ?_)
    · have hex : 8 = i := by
        have h9 := (nI_leI (a := 8) (b := i) (by decide) (by omega)).mp c_1
        omega
      subst hex
      have hPf : va_P G.1 vwCl (wRF G z (cPutW (cPutN r x1 x2 x3) 8) f) H := by
        exact hP
      exact W.vret hx hb hr (fun t ht _ => ⟨⟨(), rfl, trivial, g_hp ht hPf⟩, hS.F ht⟩) hS.2.2 dX3_put_52
    · have hlt : i < 8 := by
        have h9 := mt (nI_leI (a := 8) (b := i) (by decide) (by omega)).mpr c_1
        omega
      refine lv_aload_n hx hb dX3_put_31 rfl (lv_at hl 1 rfl) ?_
      refine va_get (D := G.1) (ci := 3) (v := .ref (z 7)) (C := RX3) (T := TX3) (N := 2) hx hb hts hinX3 hown hK.1 hP 1 rfl rfl 1 (by decide) (hts (.fieldLink RX3 20 "Rotaforge$Needs" "whole" "LRotaforge$Row;") (by decide +kernel)) (fun _ h9 => h9) rfl dX3_put_32 ?_
      refine lv_iload hx hb dX3_put_35 (lv_at hl 0 rfl) ?_
      refine lv_aload_n hx hb dX3_put_37 rfl (lv_at hl 1 rfl) ?_
      refine lv_iload hx hb dX3_put_38 (lv_at hl 0 rfl) ?_
      refine g_callC (W.runV (C := RX3) (As := [.int (nI i)]) (rest := [.int (nI i), .ref (z 7)]) S0 (c_X3_gather l G _ z (cPutW (cPutN r x1 x2 x3) i) f hP (nI i)) (cwV 1 hts gX3_put_X3_gather rfl rfl rfl (by decide +kernel) ⟨Nat.le_of_ble_eq_true rfl, Nat.le_of_ble_eq_true rfl⟩) (g_preV hK hP (q0 := 1) (ci := 3) (q := (RX3, TX3, 2)) rfl rfl) rfl rfl hl.1 rfl (lv_room (Nat.le_of_ble_eq_true rfl)) dX3_put_40 ⟨Nat.zero_le _, Nat.zero_le _⟩) ?_
      refine g_callp (va_runV (C := RX5) (As := [.int (nI i), .int (cGather (cPutW (cPutN r x1 x2 x3) i) (nI i))]) (rest := []) S0 (c_X5_put l G _ (z 7) (z 29) 8 ((cPutW (cPutN r x1 x2 x3) i) 1) (by decide) (hP.sub (ws' := wRow1 G (z 7) (z 29) 8 ((cPutW (cPutN r x1 x2 x3) i) 1)) [7, 29] rfl) (nI i) (cGather (cPutW (cPutN r x1 x2 x3) i) (nI i))) (cwV 2 hts gX3_put_X5_put rfl rfl rfl (by decide +kernel) ⟨Nat.le_of_ble_eq_true rfl, Nat.le_of_ble_eq_true rfl⟩) (g_preV hK hP (q0 := 7) (ci := 5) (q := (RX5, TX5, 1)) rfl rfl) rfl rfl hl.1 rfl (lv_room (Nat.le_of_ble_eq_true rfl)) dX3_put_43 ⟨Nat.zero_le _, Nat.zero_le _⟩) hS (gF_k 29 (by decide)) (fun H locs hat hk hS => ?_)
      have hP : va_P G.1 vwCl (wRF G z (upR (cPutW (cPutN r x1 x2 x3) i) 1 (rPut 8 ((cPutW (cPutN r x1 x2 x3) i) 1) (nI i) (cGather (cPutW (cPutN r x1 x2 x3) i) (nI i)))) f) H := gPr_1 (gP_set hP hD (p := 29) rfl hat hk)
      have hD : va_D (gF z 50) (wRF G z (upR (cPutW (cPutN r x1 x2 x3) i) 1 (rPut 8 ((cPutW (cPutN r x1 x2 x3) i) 1) (nI i) (cGather (cPutW (cPutN r x1 x2 x3) i) (nI i)))) f) := gD_RF hz
      refine lv_iinc (v := (nI i) + nI 1) (lv' := [(4, .int ((nI i) + nI 1)), (0, .ref (z 1)), (1, .int x1), (2, .int x2), (3, .int (b2i x3))]) hx hb dX3_put_46 hl (k := 0) rfl (congrArg (fun q : Int32 => (nI i) + q) (by decide +kernel)) (by decide) rfl (fun ls hl => ?_)
      refine lv_goto (tgt := 24) hx hb dX3_put_49 (by decide) ?_
      have hPn : va_P G.1 vwCl (wRF G z (cPutW (cPutN r x1 x2 x3) (i + 1)) f) H := by
        exact hP
      exact ih24 _ _ _ (by omega) ⟨hPn, hS, trivial⟩ (lv_cv (show lv_has ls 5 [(4, .int ((nI i) + nI 1)), (0, .ref (z 1)), (1, .int x1), (2, .int x2), (3, .int (b2i x3))] from lv_sub hl [0, 1, 2, 3, 4] rfl) (gl_i (show (nI i) + nI 1 = nI (i + 1) by first | with_reducible rfl | with_reducible exact nI_add _ _ | (simp only [itN_s i, c_1, ↓reduceIte, Bool.false_eq_true, decide_true, decide_false, Bool.not_true, Bool.not_false, Bool.or_true, Bool.true_or, Bool.or_false, Bool.false_or]; done) | (simp only [itN_s i, c_1, ↓reduceIte, Bool.false_eq_true, decide_true, decide_false, Bool.not_true, Bool.not_false, Bool.or_true, Bool.true_or, Bool.or_false, Bool.false_or]; with_reducible rfl) | (simp only [itN_s i, c_1, ↓reduceIte, Bool.false_eq_true, decide_true, decide_false, Bool.not_true, Bool.not_false, Bool.or_true, Bool.true_or, Bool.or_false, Bool.false_or]; rfl) | (simp [b2i, itN_s i, c_1]; done) | rfl) (gl_s (gl_s (gl_s (gl_s rfl))))))
  · exact (show lv_has ls 5 [(4, .int (nI 0)), (0, .ref (z 1)), (1, .int x1), (2, .int x2), (3, .int (b2i x3))] from lv_sub hl [0, 1, 2, 3, 4] rfl)

set_option maxHeartbeats 4000000 in
set_option maxRecDepth 100000 in
theorem c_X4_giveWeek (l : Launch) (G : gG) (H0 : Heap) (z : Nat → Nat) (hz : gDis z 50) (r : Nat → Nat → Int32) (f : Nat → Int32) (hP : va_P G.1 vwCl (wRF G z r f) H0) (x1 : Int32) (x2 : Int32) : gMwv l yX4_giveWeek wsX4_giveWeek 1 22 G H0 [.ref (z 5), .int x1, .int x2] (wRF G z (upR r 17 (rPut 42 (r 17) x1 x2)) f) (gF z 50) := by
  refine Met.ofW (cc := cX4_giveWeek) (maxL := 3) (ret := none) (by decide) rfl ?_
  intro p_ e_ s m args below meth c s₁ B hml hv
  obtain ⟨rfl, rfl, hK⟩ := hv
  have hx := B.exec
  have hb := B.bytes
  have hr := B.returns
  have hts := atoms_spec (ws := wsX4_giveWeek) B.pre
  have hown : s.vm.findClass RX4 = some m.cls := findClass_of_methodNamed B.named
  have hlocks := B.notSynchronized
  have hinX4 : ∀ w ∈ wsX40, w ∈ wsX4_giveWeek := by decide +kernel
  have S0 : CallFix p_ m c cX4_giveWeek 3 s _ wsX4_giveWeek RX4 := ⟨hx, hb, hml, hown, hts⟩
  have hD : va_D (gF z 50) (wRF G z r f) := gD_RF hz
  have hS : va_S (gF z 50) s.heap s.heap [] := va_S.rf
  have hl := lv_entry ([.ref (z 5), .int x1, .int x2]) (n := 3) (Nat.le_of_ble_eq_true rfl)
  rw [lg_entry_eq]
  generalize (lg_sl ([.ref (z 5), .int x1, .int x2]) ++ List.replicate (3 - (lg_sl ([.ref (z 5), .int x1, .int x2])).length) Slot.unset).toArray = ls at hl ⊢
  have hl : lv_has ls 3 [(0, .ref (z 5)), (1, .int x1), (2, .int x2)] := hl
  refine lv_aload_n hx hb dX4_giveWeek_0 rfl (lv_at hl 0 rfl) ?_
  refine va_get (D := G.1) (ci := 4) (v := .ref (z 23)) (C := RX4) (T := TX4) (N := 6) hx hb hts hinX4 hown hK.1 hP 5 rfl rfl 0 (by decide) (hts (.fieldLink RX4 14 "Rotaforge$Rota" "holders" "LRotaforge$Row;") (by decide +kernel)) (fun _ h9 => h9) rfl dX4_giveWeek_1 ?_
  refine lv_iload_n hx hb dX4_giveWeek_4 rfl (lv_at hl 1 rfl) ?_
  refine lv_iload_n hx hb dX4_giveWeek_5 rfl (lv_at hl 2 rfl) ?_
  refine g_callp (va_runV (C := RX5) (As := [.int x1, .int x2]) (rest := []) S0 (c_X5_put l G _ (z 23) (z 45) 42 (r 17) (by decide) (hP.sub (ws' := wRow1 G (z 23) (z 45) 42 (r 17)) [23, 45] rfl) x1 x2) (cwV 2 hts gX4_giveWeek_X5_put rfl rfl rfl (by decide +kernel) ⟨Nat.le_of_ble_eq_true rfl, Nat.le_of_ble_eq_true rfl⟩) (g_preV hK hP (q0 := 23) (ci := 5) (q := (RX5, TX5, 1)) rfl rfl) rfl rfl hl.1 rfl (lv_room (Nat.le_of_ble_eq_true rfl)) dX4_giveWeek_6 ⟨Nat.zero_le _, Nat.zero_le _⟩) hS (gF_k 45 (by decide)) (fun H locs hat hk hS => ?_)
  have hP : va_P G.1 vwCl (wRF G z (upR r 17 (rPut 42 (r 17) x1 x2)) f) H := gPr_17 (gP_set hP hD (p := 45) rfl hat hk)
  have hD : va_D (gF z 50) (wRF G z (upR r 17 (rPut 42 (r 17) x1 x2)) f) := gD_RF hz
  have hPf : va_P G.1 vwCl (wRF G z (upR r 17 (rPut 42 (r 17) x1 x2)) f) H := by
    have e1 : upR r 17 (rPut 42 (r 17) x1 x2) = upR r 17 (rPut 42 (r 17) x1 x2) := by first | with_reducible rfl | (simp only [true_and, ↓reduceIte, Bool.false_eq_true]; done) | (simp only [true_and, ↓reduceIte, Bool.false_eq_true]; rfl) | rfl
    have e2 : f = f := by first | with_reducible rfl | (simp only [true_and, ↓reduceIte, Bool.false_eq_true]; done) | (simp only [true_and, ↓reduceIte, Bool.false_eq_true]; rfl) | rfl
    rw [e1, e2]; exact hP
  exact W.vret hx hb hr (fun t ht _ => ⟨⟨(), rfl, trivial, g_hp ht hPf⟩, hS.F ht⟩) hS.2.2 dX4_giveWeek_9

set_option maxHeartbeats 4000000 in
set_option maxRecDepth 100000 in
theorem c_X4_addBlot (l : Launch) (G : gG) (H0 : Heap) (z : Nat → Nat) (hz : gDis z 50) (r : Nat → Nat → Int32) (f : Nat → Int32) (hP : va_P G.1 vwCl (wRF G z r f) H0) (x1 : Int32) : gMwv l yX4_addBlot wsX4_addBlot 1 22 G H0 [.ref (z 5), .int x1] (wRF G z (upR r 18 (rPut 6 (r 18) x1 (rAt 6 (r 18) x1 + nI 1))) f) (gF z 50) := by
  refine Met.ofW (cc := cX4_addBlot) (maxL := 2) (ret := none) (by decide) rfl ?_
  intro p_ e_ s m args below meth c s₁ B hml hv
  obtain ⟨rfl, rfl, hK⟩ := hv
  have hx := B.exec
  have hb := B.bytes
  have hr := B.returns
  have hts := atoms_spec (ws := wsX4_addBlot) B.pre
  have hown : s.vm.findClass RX4 = some m.cls := findClass_of_methodNamed B.named
  have hlocks := B.notSynchronized
  have hinX4 : ∀ w ∈ wsX40, w ∈ wsX4_addBlot := by decide +kernel
  have S0 : CallFix p_ m c cX4_addBlot 2 s _ wsX4_addBlot RX4 := ⟨hx, hb, hml, hown, hts⟩
  have hD : va_D (gF z 50) (wRF G z r f) := gD_RF hz
  have hS : va_S (gF z 50) s.heap s.heap [] := va_S.rf
  have hl := lv_entry ([.ref (z 5), .int x1]) (n := 2) (Nat.le_of_ble_eq_true rfl)
  rw [lg_entry_eq]
  generalize (lg_sl ([.ref (z 5), .int x1]) ++ List.replicate (2 - (lg_sl ([.ref (z 5), .int x1])).length) Slot.unset).toArray = ls at hl ⊢
  have hl : lv_has ls 2 [(0, .ref (z 5)), (1, .int x1)] := hl
  refine lv_aload_n hx hb dX4_addBlot_0 rfl (lv_at hl 0 rfl) ?_
  refine va_get (D := G.1) (ci := 4) (v := .ref (z 24)) (C := RX4) (T := TX4) (N := 6) hx hb hts hinX4 hown hK.1 hP 5 rfl rfl 1 (by decide) (hts (.fieldLink RX4 23 "Rotaforge$Rota" "blotCounts" "LRotaforge$Row;") (by decide +kernel)) (fun _ h9 => h9) rfl dX4_addBlot_1 ?_
  refine lv_iload_n hx hb dX4_addBlot_4 rfl (lv_at hl 1 rfl) ?_
  refine lv_aload_n hx hb dX4_addBlot_5 rfl (lv_at hl 0 rfl) ?_
  refine va_get (D := G.1) (ci := 4) (v := .ref (z 24)) (C := RX4) (T := TX4) (N := 6) hx hb hts hinX4 hown hK.1 hP 5 rfl rfl 1 (by decide) (hts (.fieldLink RX4 23 "Rotaforge$Rota" "blotCounts" "LRotaforge$Row;") (by decide +kernel)) (fun _ h9 => h9) rfl dX4_addBlot_6 ?_
  refine lv_iload_n hx hb dX4_addBlot_9 rfl (lv_at hl 1 rfl) ?_
  refine g_callC (W.runV (C := RX5) (As := [.int x1]) (rest := [.int x1, .ref (z 24)]) S0 (c_X5_at l G _ (z 24) (z 46) 6 (r 18) (by decide) (hP.sub (ws' := wRow1 G (z 24) (z 46) 6 (r 18)) [24, 46] rfl) x1) (cwV 1 hts gX4_addBlot_X5_at rfl rfl rfl (by decide +kernel) ⟨Nat.le_of_ble_eq_true rfl, Nat.le_of_ble_eq_true rfl⟩) (g_preV hK hP (q0 := 24) (ci := 5) (q := (RX5, TX5, 1)) rfl rfl) rfl rfl hl.1 rfl (lv_room (Nat.le_of_ble_eq_true rfl)) dX4_addBlot_10 ⟨Nat.zero_le _, Nat.zero_le _⟩) ?_
  refine lv_iconst (v := nI 1) hx hb dX4_addBlot_13 (by decide +kernel) ?_
  refine lv_iadd hx hb dX4_addBlot_14 ?_
  refine g_callp (va_runV (C := RX5) (As := [.int x1, .int ((rAt 6 (r 18) x1) + (nI 1))]) (rest := []) S0 (c_X5_put l G _ (z 24) (z 46) 6 (r 18) (by decide) (hP.sub (ws' := wRow1 G (z 24) (z 46) 6 (r 18)) [24, 46] rfl) x1 ((rAt 6 (r 18) x1) + (nI 1))) (cwV 2 hts gX4_addBlot_X5_put rfl rfl rfl (by decide +kernel) ⟨Nat.le_of_ble_eq_true rfl, Nat.le_of_ble_eq_true rfl⟩) (g_preV hK hP (q0 := 24) (ci := 5) (q := (RX5, TX5, 1)) rfl rfl) rfl rfl hl.1 rfl (lv_room (Nat.le_of_ble_eq_true rfl)) dX4_addBlot_15 ⟨Nat.zero_le _, Nat.zero_le _⟩) hS (gF_k 46 (by decide)) (fun H locs hat hk hS => ?_)
  have hP : va_P G.1 vwCl (wRF G z (upR r 18 (rPut 6 (r 18) x1 ((rAt 6 (r 18) x1) + (nI 1)))) f) H := gPr_18 (gP_set hP hD (p := 46) rfl hat hk)
  have hD : va_D (gF z 50) (wRF G z (upR r 18 (rPut 6 (r 18) x1 ((rAt 6 (r 18) x1) + (nI 1)))) f) := gD_RF hz
  have hPf : va_P G.1 vwCl (wRF G z (upR r 18 (rPut 6 (r 18) x1 (rAt 6 (r 18) x1 + nI 1))) f) H := by
    have e1 : upR r 18 (rPut 6 (r 18) x1 (rAt 6 (r 18) x1 + nI 1)) = upR r 18 (rPut 6 (r 18) x1 ((rAt 6 (r 18) x1) + (nI 1))) := by first | with_reducible rfl | (simp only [true_and, ↓reduceIte, Bool.false_eq_true]; done) | (simp only [true_and, ↓reduceIte, Bool.false_eq_true]; rfl) | rfl
    have e2 : f = f := by first | with_reducible rfl | (simp only [true_and, ↓reduceIte, Bool.false_eq_true]; done) | (simp only [true_and, ↓reduceIte, Bool.false_eq_true]; rfl) | rfl
    rw [e1, e2]; exact hP
  exact W.vret hx hb hr (fun t ht _ => ⟨⟨(), rfl, trivial, g_hp ht hPf⟩, hS.F ht⟩) hS.2.2 dX4_addBlot_18

set_option maxHeartbeats 4000000 in
set_option maxRecDepth 100000 in
theorem c_X4_beginWeek (l : Launch) (G : gG) (H0 : Heap) (z : Nat → Nat) (hz : gDis z 50) (r : Nat → Nat → Int32) (f : Nat → Int32) (hP : va_P G.1 vwCl (wRF G z r f) H0) (x1 : Int32) (w : Nat) (hw1 : x1 = nI w) (hw2 : w < 99) : gMwv l yX4_beginWeek wsX4_beginWeek 3 70 G H0 [.ref (z 5), .int x1] (wRF G z (cWeekR r w) f) (gF z 50) := by
  refine Met.ofW (cc := cX4_beginWeek) (maxL := 2) (ret := none) (by decide) rfl ?_
  intro p_ e_ s m args below meth c s₁ B hml hv
  obtain ⟨rfl, rfl, hK⟩ := hv
  have hx := B.exec
  have hb := B.bytes
  have hr := B.returns
  have hts := atoms_spec (ws := wsX4_beginWeek) B.pre
  have hown : s.vm.findClass RX4 = some m.cls := findClass_of_methodNamed B.named
  have hlocks := B.notSynchronized
  have hinX4 : ∀ w ∈ wsX40, w ∈ wsX4_beginWeek := by decide +kernel
  have S0 : CallFix p_ m c cX4_beginWeek 2 s _ wsX4_beginWeek RX4 := ⟨hx, hb, hml, hown, hts⟩
  have hD : va_D (gF z 50) (wRF G z r f) := gD_RF hz
  have hS : va_S (gF z 50) s.heap s.heap [] := va_S.rf
  have hl := lv_entry ([.ref (z 5), .int x1]) (n := 2) (Nat.le_of_ble_eq_true rfl)
  rw [lg_entry_eq]
  generalize (lg_sl ([.ref (z 5), .int x1]) ++ List.replicate (2 - (lg_sl ([.ref (z 5), .int x1])).length) Slot.unset).toArray = ls at hl ⊢
  have hl : lv_has ls 2 [(0, .ref (z 5)), (1, .int x1)] := hl
  subst hw1
  refine lv_aload_n hx hb dX4_beginWeek_0 rfl (lv_at hl 0 rfl) ?_
  refine va_get (D := G.1) (ci := 4) (v := .ref (z 24)) (C := RX4) (T := TX4) (N := 6) hx hb hts hinX4 hown hK.1 hP 5 rfl rfl 1 (by decide) (hts (.fieldLink RX4 23 "Rotaforge$Rota" "blotCounts" "LRotaforge$Row;") (by decide +kernel)) (fun _ h9 => h9) rfl dX4_beginWeek_1 ?_
  refine lv_aload_n hx hb dX4_beginWeek_4 rfl (lv_at hl 0 rfl) ?_
  refine va_get (D := G.1) (ci := 4) (v := .ref (z 23)) (C := RX4) (T := TX4) (N := 6) hx hb hts hinX4 hown hK.1 hP 5 rfl rfl 0 (by decide) (hts (.fieldLink RX4 14 "Rotaforge$Rota" "holders" "LRotaforge$Row;") (by decide +kernel)) (fun _ h9 => h9) rfl dX4_beginWeek_5 ?_
  refine lv_iload_n hx hb dX4_beginWeek_8 rfl (lv_at hl 1 rfl) ?_
  refine g_callC (W.runV (C := RX5) (As := [.int (nI w)]) (rest := [.ref (z 24)]) S0 (c_X5_at l G _ (z 23) (z 45) 42 (r 17) (by decide) (hP.sub (ws' := wRow1 G (z 23) (z 45) 42 (r 17)) [23, 45] rfl) (nI w)) (cwV 1 hts gX4_beginWeek_X5_at rfl rfl rfl (by decide +kernel) ⟨Nat.le_of_ble_eq_true rfl, Nat.le_of_ble_eq_true rfl⟩) (g_preV hK hP (q0 := 23) (ci := 5) (q := (RX5, TX5, 1)) rfl rfl) rfl rfl hl.1 rfl (lv_room (Nat.le_of_ble_eq_true rfl)) dX4_beginWeek_9 ⟨Nat.zero_le _, Nat.zero_le _⟩) ?_
  refine lv_iconst (v := nI 0) hx hb dX4_beginWeek_12 (by decide +kernel) ?_
  refine g_callp (va_runV (C := RX5) (As := [.int (rAt 42 (r 17) (nI w)), .int (nI 0)]) (rest := []) S0 (c_X5_put l G _ (z 24) (z 46) 6 (r 18) (by decide) (hP.sub (ws' := wRow1 G (z 24) (z 46) 6 (r 18)) [24, 46] rfl) (rAt 42 (r 17) (nI w)) (nI 0)) (cwV 2 hts gX4_beginWeek_X5_put rfl rfl rfl (by decide +kernel) ⟨Nat.le_of_ble_eq_true rfl, Nat.le_of_ble_eq_true rfl⟩) (g_preV hK hP (q0 := 24) (ci := 5) (q := (RX5, TX5, 1)) rfl rfl) rfl rfl hl.1 rfl (lv_room (Nat.le_of_ble_eq_true rfl)) dX4_beginWeek_13 ⟨Nat.zero_le _, Nat.zero_le _⟩) hS (gF_k 46 (by decide)) (fun H locs hat hk hS => ?_)
  have hP : va_P G.1 vwCl (wRF G z (upR r 18 (rPut 6 (r 18) (rAt 42 (r 17) (nI w)) (nI 0))) f) H := gPr_18 (gP_set hP hD (p := 46) rfl hat hk)
  have hD : va_D (gF z 50) (wRF G z (upR r 18 (rPut 6 (r 18) (rAt 42 (r 17) (nI w)) (nI 0))) f) := gD_RF hz
  refine lv_aload_n hx hb dX4_beginWeek_16 rfl (lv_at hl 0 rfl) ?_
  refine va_get (D := G.1) (ci := 4) (v := .ref (z 23)) (C := RX4) (T := TX4) (N := 6) hx hb hts hinX4 hown hK.1 hP 5 rfl rfl 0 (by decide) (hts (.fieldLink RX4 14 "Rotaforge$Rota" "holders" "LRotaforge$Row;") (by decide +kernel)) (fun _ h9 => h9) rfl dX4_beginWeek_17 ?_
  refine lv_iload_n hx hb dX4_beginWeek_20 rfl (lv_at hl 1 rfl) ?_
  refine lv_iconst (v := nI 1) hx hb dX4_beginWeek_21 (by decide +kernel) ?_
  refine lv_iadd hx hb dX4_beginWeek_22 ?_
  refine lv_aload_n hx hb dX4_beginWeek_23 rfl (lv_at hl 0 rfl) ?_
  refine lv_iload_n hx hb dX4_beginWeek_24 rfl (lv_at hl 1 rfl) ?_
  refine lv_iconst (v := nI 1) hx hb dX4_beginWeek_25 (by decide +kernel) ?_
  refine lv_iadd hx hb dX4_beginWeek_26 ?_
  refine g_callC (W.runV (C := RX4) (As := [.int ((nI w) + (nI 1))]) (rest := [.int ((nI w) + (nI 1)), .ref (z 23)]) S0 (c_X4_nearestTo l G _ z (upR r 18 (rPut 6 (r 18) (rAt 42 (r 17) (nI w)) (nI 0))) f hP ((nI w) + (nI 1)) (w + 1) (nI_add w 1) (by omega)) (cwV 1 hts gX4_beginWeek_X4_nearestTo rfl rfl rfl (by decide +kernel) ⟨Nat.le_of_ble_eq_true rfl, Nat.le_of_ble_eq_true rfl⟩) (g_preV hK hP (q0 := 5) (ci := 4) (q := (RX4, TX4, 6)) rfl rfl) rfl rfl hl.1 rfl (lv_room (Nat.le_of_ble_eq_true rfl)) dX4_beginWeek_27 ⟨Nat.zero_le _, Nat.zero_le _⟩) ?_
  refine g_callp (va_runV (C := RX5) (As := [.int ((nI w) + (nI 1)), .int (cNearest (upR r 18 (rPut 6 (r 18) (rAt 42 (r 17) (nI w)) (nI 0))) (w + 1))]) (rest := []) S0 (c_X5_put l G _ (z 23) (z 45) 42 (r 17) (by decide) (hP.sub (ws' := wRow1 G (z 23) (z 45) 42 (r 17)) [23, 45] rfl) ((nI w) + (nI 1)) (cNearest (upR r 18 (rPut 6 (r 18) (rAt 42 (r 17) (nI w)) (nI 0))) (w + 1))) (cwV 2 hts gX4_beginWeek_X5_put rfl rfl rfl (by decide +kernel) ⟨Nat.le_of_ble_eq_true rfl, Nat.le_of_ble_eq_true rfl⟩) (g_preV hK hP (q0 := 23) (ci := 5) (q := (RX5, TX5, 1)) rfl rfl) rfl rfl hl.1 rfl (lv_room (Nat.le_of_ble_eq_true rfl)) dX4_beginWeek_30 ⟨Nat.zero_le _, Nat.zero_le _⟩) hS (gF_k 45 (by decide)) (fun H locs hat hk hS => ?_)
  have hP : va_P G.1 vwCl (wRF G z (upR (upR r 18 (rPut 6 (r 18) (rAt 42 (r 17) (nI w)) (nI 0))) 17 (rPut 42 (r 17) ((nI w) + (nI 1)) (cNearest (upR r 18 (rPut 6 (r 18) (rAt 42 (r 17) (nI w)) (nI 0))) (w + 1)))) f) H := gPr_17 (gP_set hP hD (p := 45) rfl hat hk)
  have hD : va_D (gF z 50) (wRF G z (upR (upR r 18 (rPut 6 (r 18) (rAt 42 (r 17) (nI w)) (nI 0))) 17 (rPut 42 (r 17) ((nI w) + (nI 1)) (cNearest (upR r 18 (rPut 6 (r 18) (rAt 42 (r 17) (nI w)) (nI 0))) (w + 1)))) f) := gD_RF hz
  have hPf : va_P G.1 vwCl (wRF G z (cWeekR r w) f) H := by
    exact hP
  exact W.vret hx hb hr (fun t ht _ => ⟨⟨(), rfl, trivial, g_hp ht hPf⟩, hS.F ht⟩) hS.2.2 dX4_beginWeek_33

set_option maxHeartbeats 4000000 in
set_option maxRecDepth 100000 in
theorem c_X4_callAt (l : Launch) (G : gG) (H0 : Heap) (z : Nat → Nat) (hz : gDis z 50) (r : Nat → Nat → Int32) (f : Nat → Int32) (hP : va_P G.1 vwCl (wRF G z r f) H0) (x1 : Int32) : gMw l yX4_callAt wsX4_callAt 3 69 G H0 [.ref (z 5), .int x1] (cDuty r x1) (wRF G z (cCallR r x1) (cCallF r f x1)) (gF z 50) := by
  refine Met.ofW (cc := cX4_callAt) (maxL := 3) (ret := (some .int)) (by decide) rfl ?_
  intro p_ e_ s m args below meth c s₁ B hml hv
  obtain ⟨rfl, rfl, hK⟩ := hv
  have hx := B.exec
  have hb := B.bytes
  have hr := B.returns
  have hts := atoms_spec (ws := wsX4_callAt) B.pre
  have hown : s.vm.findClass RX4 = some m.cls := findClass_of_methodNamed B.named
  have hlocks := B.notSynchronized
  have hinX4 : ∀ w ∈ wsX40, w ∈ wsX4_callAt := by decide +kernel
  have S0 : CallFix p_ m c cX4_callAt 3 s _ wsX4_callAt RX4 := ⟨hx, hb, hml, hown, hts⟩
  have hD : va_D (gF z 50) (wRF G z r f) := gD_RF hz
  have hS : va_S (gF z 50) s.heap s.heap [] := va_S.rf
  have hl := lv_entry ([.ref (z 5), .int x1]) (n := 3) (Nat.le_of_ble_eq_true rfl)
  rw [lg_entry_eq]
  generalize (lg_sl ([.ref (z 5), .int x1]) ++ List.replicate (3 - (lg_sl ([.ref (z 5), .int x1])).length) Slot.unset).toArray = ls at hl ⊢
  have hl : lv_has ls 3 [(0, .ref (z 5)), (1, .int x1)] := hl
  refine lv_aload_n hx hb dX4_callAt_0 rfl (lv_at hl 0 rfl) ?_
  refine lv_iload_n hx hb dX4_callAt_1 rfl (lv_at hl 1 rfl) ?_
  refine g_callC (W.runV (C := RX4) (As := [.int x1]) (rest := []) S0 (c_X4_dutyAt l G _ z r f hP x1) (cwV 1 hts gX4_callAt_X4_dutyAt rfl rfl rfl (by decide +kernel) ⟨Nat.le_of_ble_eq_true rfl, Nat.le_of_ble_eq_true rfl⟩) (g_preV hK hP (q0 := 5) (ci := 4) (q := (RX4, TX4, 6)) rfl rfl) rfl rfl hl.1 rfl (lv_room (Nat.le_of_ble_eq_true rfl)) dX4_callAt_2 ⟨Nat.zero_le _, Nat.zero_le _⟩) ?_
  refine lv_istore_n (lv' := [(2, .int (cDuty r x1)), (0, .ref (z 5)), (1, .int x1)]) hx hb dX4_callAt_5 rfl hl (by decide) rfl (fun ls hl => ?_)
  refine lv_iload_n hx hb dX4_callAt_6 rfl (lv_at hl 0 rfl) ?_
  refine lv_iconst (v := (-1)) hx hb dX4_callAt_7 (by decide +kernel) ?_
  refine lv_icmp_ne (tgt := 24) hx hb dX4_callAt_8 (by decide) (fun c_1 => ?_) (fun c_1 => ?_)
  · refine lv_iload_n hx hb dX4_callAt_24 rfl (lv_at hl 2 rfl) ?_
    refine lv_iconst (v := nI 2) hx hb dX4_callAt_25 (by decide +kernel) ?_
    refine lv_irem hx hb dX4_callAt_26 (by decide) ?_
    refine lv_if_ne (tgt := 51) hx hb dX4_callAt_27 (by decide) (fun c_2 => ?_) (fun c_2 => ?_)
    · refine lv_aload_n hx hb dX4_callAt_51 rfl (lv_at hl 1 rfl) ?_
      refine va_get (D := G.1) (ci := 4) (v := .ref (z 27)) (C := RX4) (T := TX4) (N := 6) hx hb hts hinX4 hown hK.1 hP 5 rfl rfl 4 (by decide) (hts (.fieldLink RX4 32 "Rotaforge$Rota" "nightCalls" "LRotaforge$Row;") (by decide +kernel)) (fun _ h9 => h9) rfl dX4_callAt_52 ?_
      refine lv_iload_n hx hb dX4_callAt_55 rfl (lv_at hl 0 rfl) ?_
      refine lv_aload_n hx hb dX4_callAt_56 rfl (lv_at hl 1 rfl) ?_
      refine va_get (D := G.1) (ci := 4) (v := .ref (z 27)) (C := RX4) (T := TX4) (N := 6) hx hb hts hinX4 hown hK.1 hP 5 rfl rfl 4 (by decide) (hts (.fieldLink RX4 32 "Rotaforge$Rota" "nightCalls" "LRotaforge$Row;") (by decide +kernel)) (fun _ h9 => h9) rfl dX4_callAt_57 ?_
      refine lv_iload_n hx hb dX4_callAt_60 rfl (lv_at hl 0 rfl) ?_
      refine g_callC (W.runV (C := RX5) (As := [.int (cDuty r x1)]) (rest := [.int (cDuty r x1), .ref (z 27)]) S0 (c_X5_at l G _ (z 27) (z 49) 6 (r 21) (by decide) (hP.sub (ws' := wRow1 G (z 27) (z 49) 6 (r 21)) [27, 49] rfl) (cDuty r x1)) (cwV 1 hts gX4_callAt_X5_at rfl rfl rfl (by decide +kernel) ⟨Nat.le_of_ble_eq_true rfl, Nat.le_of_ble_eq_true rfl⟩) (g_preV hK hP (q0 := 27) (ci := 5) (q := (RX5, TX5, 1)) rfl rfl) rfl rfl hl.1 rfl (lv_room (Nat.le_of_ble_eq_true rfl)) dX4_callAt_61 ⟨Nat.zero_le _, Nat.zero_le _⟩) ?_
      refine lv_iconst (v := nI 1) hx hb dX4_callAt_64 (by decide +kernel) ?_
      refine lv_iadd hx hb dX4_callAt_65 ?_
      refine g_callp (va_runV (C := RX5) (As := [.int (cDuty r x1), .int ((rAt 6 (r 21) (cDuty r x1)) + (nI 1))]) (rest := []) S0 (c_X5_put l G _ (z 27) (z 49) 6 (r 21) (by decide) (hP.sub (ws' := wRow1 G (z 27) (z 49) 6 (r 21)) [27, 49] rfl) (cDuty r x1) ((rAt 6 (r 21) (cDuty r x1)) + (nI 1))) (cwV 2 hts gX4_callAt_X5_put rfl rfl rfl (by decide +kernel) ⟨Nat.le_of_ble_eq_true rfl, Nat.le_of_ble_eq_true rfl⟩) (g_preV hK hP (q0 := 27) (ci := 5) (q := (RX5, TX5, 1)) rfl rfl) rfl rfl hl.1 rfl (lv_room (Nat.le_of_ble_eq_true rfl)) dX4_callAt_66 ⟨Nat.zero_le _, Nat.zero_le _⟩) hS (gF_k 49 (by decide)) (fun H locs hat hk hS => ?_)
      have hP : va_P G.1 vwCl (wRF G z (upR r 21 (rPut 6 (r 21) (cDuty r x1) ((rAt 6 (r 21) (cDuty r x1)) + (nI 1)))) f) H := gPr_21 (gP_set hP hD (p := 49) rfl hat hk)
      have hD : va_D (gF z 50) (wRF G z (upR r 21 (rPut 6 (r 21) (cDuty r x1) ((rAt 6 (r 21) (cDuty r x1)) + (nI 1)))) f) := gD_RF hz
      refine lv_aload_n hx hb dX4_callAt_69 rfl (lv_at hl 1 rfl) ?_
      refine va_get (D := G.1) (ci := 4) (v := .ref (z 25)) (C := RX4) (T := TX4) (N := 6) hx hb hts hinX4 hown hK.1 hP 5 rfl rfl 2 (by decide) (hts (.fieldLink RX4 26 "Rotaforge$Rota" "restEnds" "LRotaforge$Row;") (by decide +kernel)) (fun _ h9 => h9) rfl dX4_callAt_70 ?_
      refine lv_iload_n hx hb dX4_callAt_73 rfl (lv_at hl 0 rfl) ?_
      refine lv_iload_n hx hb dX4_callAt_74 rfl (lv_at hl 2 rfl) ?_
      refine lv_bipush (v := nI 12) hx hb dX4_callAt_75 (by decide +kernel) ?_
      refine lv_iadd hx hb dX4_callAt_77 ?_
      refine g_callp (va_runV (C := RX5) (As := [.int (cDuty r x1), .int (x1 + (nI 12))]) (rest := []) S0 (c_X5_put l G _ (z 25) (z 47) 6 (r 19) (by decide) (hP.sub (ws' := wRow1 G (z 25) (z 47) 6 (r 19)) [25, 47] rfl) (cDuty r x1) (x1 + (nI 12))) (cwV 2 hts gX4_callAt_X5_put rfl rfl rfl (by decide +kernel) ⟨Nat.le_of_ble_eq_true rfl, Nat.le_of_ble_eq_true rfl⟩) (g_preV hK hP (q0 := 25) (ci := 5) (q := (RX5, TX5, 1)) rfl rfl) rfl rfl hl.1 rfl (lv_room (Nat.le_of_ble_eq_true rfl)) dX4_callAt_78 ⟨Nat.zero_le _, Nat.zero_le _⟩) hS (gF_k 47 (by decide)) (fun H locs hat hk hS => ?_)
      have hP : va_P G.1 vwCl (wRF G z (upR (upR r 21 (rPut 6 (r 21) (cDuty r x1) ((rAt 6 (r 21) (cDuty r x1)) + (nI 1)))) 19 (rPut 6 (r 19) (cDuty r x1) (x1 + (nI 12)))) f) H := gPr_19 (gP_set hP hD (p := 47) rfl hat hk)
      have hD : va_D (gF z 50) (wRF G z (upR (upR r 21 (rPut 6 (r 21) (cDuty r x1) ((rAt 6 (r 21) (cDuty r x1)) + (nI 1)))) 19 (rPut 6 (r 19) (cDuty r x1) (x1 + (nI 12)))) f) := gD_RF hz
      refine lv_iload_n hx hb dX4_callAt_81 rfl (lv_at hl 0 rfl) ?_
      have hq : (cDuty r x1) = (cDuty r x1) := by
        first | with_reducible rfl | with_reducible exact nI_add _ _ | (simp only [cCallR, cCallF, c_1, c_2, ↓reduceIte, Bool.false_eq_true, decide_true, decide_false, Bool.not_true, Bool.not_false, Bool.or_true, Bool.true_or, Bool.or_false, Bool.false_or]; done) | (simp only [cCallR, cCallF, c_1, c_2, ↓reduceIte, Bool.false_eq_true, decide_true, decide_false, Bool.not_true, Bool.not_false, Bool.or_true, Bool.true_or, Bool.or_false, Bool.false_or]; with_reducible rfl) | (simp only [cCallR, cCallF, c_1, c_2, ↓reduceIte, Bool.false_eq_true, decide_true, decide_false, Bool.not_true, Bool.not_false, Bool.or_true, Bool.true_or, Bool.or_false, Bool.false_or]; rfl) | (simp [b2i, cCallR, cCallF, c_1, c_2]; done) | rfl
      have hPf : va_P G.1 vwCl (wRF G z (cCallR r x1) (cCallF r f x1)) H := by
        have e1 : cCallR r x1 = upR (upR r 21 (rPut 6 (r 21) (cDuty r x1) ((rAt 6 (r 21) (cDuty r x1)) + (nI 1)))) 19 (rPut 6 (r 19) (cDuty r x1) (x1 + (nI 12))) := by first | with_reducible rfl | (simp only [cCallR, cCallF, c_1, c_2, ↓reduceIte, Bool.false_eq_true]; done) | (simp only [cCallR, cCallF, c_1, c_2, ↓reduceIte, Bool.false_eq_true]; rfl) | rfl
        have e2 : cCallF r f x1 = f := by first | with_reducible rfl | (simp only [cCallR, cCallF, c_1, c_2, ↓reduceIte, Bool.false_eq_true]; done) | (simp only [cCallR, cCallF, c_1, c_2, ↓reduceIte, Bool.false_eq_true]; rfl) | rfl
        rw [e1, e2]; exact hP
      exact W.iret (v := cDuty r x1) hx hb hr (fun t ht _ => ⟨⟨_, (), rfl, hq, g_hp ht hPf⟩, hS.F ht⟩) hS.2.2 dX4_callAt_82
    · refine lv_aload_n hx hb dX4_callAt_30 rfl (lv_at hl 1 rfl) ?_
      refine va_get (D := G.1) (ci := 4) (v := .ref (z 26)) (C := RX4) (T := TX4) (N := 6) hx hb hts hinX4 hown hK.1 hP 5 rfl rfl 3 (by decide) (hts (.fieldLink RX4 29 "Rotaforge$Rota" "dayCalls" "LRotaforge$Row;") (by decide +kernel)) (fun _ h9 => h9) rfl dX4_callAt_31 ?_
      refine lv_iload_n hx hb dX4_callAt_34 rfl (lv_at hl 0 rfl) ?_
      refine lv_aload_n hx hb dX4_callAt_35 rfl (lv_at hl 1 rfl) ?_
      refine va_get (D := G.1) (ci := 4) (v := .ref (z 26)) (C := RX4) (T := TX4) (N := 6) hx hb hts hinX4 hown hK.1 hP 5 rfl rfl 3 (by decide) (hts (.fieldLink RX4 29 "Rotaforge$Rota" "dayCalls" "LRotaforge$Row;") (by decide +kernel)) (fun _ h9 => h9) rfl dX4_callAt_36 ?_
      refine lv_iload_n hx hb dX4_callAt_39 rfl (lv_at hl 0 rfl) ?_
      refine g_callC (W.runV (C := RX5) (As := [.int (cDuty r x1)]) (rest := [.int (cDuty r x1), .ref (z 26)]) S0 (c_X5_at l G _ (z 26) (z 48) 6 (r 20) (by decide) (hP.sub (ws' := wRow1 G (z 26) (z 48) 6 (r 20)) [26, 48] rfl) (cDuty r x1)) (cwV 1 hts gX4_callAt_X5_at rfl rfl rfl (by decide +kernel) ⟨Nat.le_of_ble_eq_true rfl, Nat.le_of_ble_eq_true rfl⟩) (g_preV hK hP (q0 := 26) (ci := 5) (q := (RX5, TX5, 1)) rfl rfl) rfl rfl hl.1 rfl (lv_room (Nat.le_of_ble_eq_true rfl)) dX4_callAt_40 ⟨Nat.zero_le _, Nat.zero_le _⟩) ?_
      refine lv_iconst (v := nI 1) hx hb dX4_callAt_43 (by decide +kernel) ?_
      refine lv_iadd hx hb dX4_callAt_44 ?_
      refine g_callp (va_runV (C := RX5) (As := [.int (cDuty r x1), .int ((rAt 6 (r 20) (cDuty r x1)) + (nI 1))]) (rest := []) S0 (c_X5_put l G _ (z 26) (z 48) 6 (r 20) (by decide) (hP.sub (ws' := wRow1 G (z 26) (z 48) 6 (r 20)) [26, 48] rfl) (cDuty r x1) ((rAt 6 (r 20) (cDuty r x1)) + (nI 1))) (cwV 2 hts gX4_callAt_X5_put rfl rfl rfl (by decide +kernel) ⟨Nat.le_of_ble_eq_true rfl, Nat.le_of_ble_eq_true rfl⟩) (g_preV hK hP (q0 := 26) (ci := 5) (q := (RX5, TX5, 1)) rfl rfl) rfl rfl hl.1 rfl (lv_room (Nat.le_of_ble_eq_true rfl)) dX4_callAt_45 ⟨Nat.zero_le _, Nat.zero_le _⟩) hS (gF_k 48 (by decide)) (fun H locs hat hk hS => ?_)
      have hP : va_P G.1 vwCl (wRF G z (upR r 20 (rPut 6 (r 20) (cDuty r x1) ((rAt 6 (r 20) (cDuty r x1)) + (nI 1)))) f) H := gPr_20 (gP_set hP hD (p := 48) rfl hat hk)
      have hD : va_D (gF z 50) (wRF G z (upR r 20 (rPut 6 (r 20) (cDuty r x1) ((rAt 6 (r 20) (cDuty r x1)) + (nI 1)))) f) := gD_RF hz
      refine lv_goto (tgt := 81) hx hb dX4_callAt_48 (by decide) ?_
      refine lv_iload_n hx hb dX4_callAt_81 rfl (lv_at hl 0 rfl) ?_
      have hq : (cDuty r x1) = (cDuty r x1) := by
        first | with_reducible rfl | with_reducible exact nI_add _ _ | (simp only [cCallR, cCallF, c_1, c_2, ↓reduceIte, Bool.false_eq_true, decide_true, decide_false, Bool.not_true, Bool.not_false, Bool.or_true, Bool.true_or, Bool.or_false, Bool.false_or]; done) | (simp only [cCallR, cCallF, c_1, c_2, ↓reduceIte, Bool.false_eq_true, decide_true, decide_false, Bool.not_true, Bool.not_false, Bool.or_true, Bool.true_or, Bool.or_false, Bool.false_or]; with_reducible rfl) | (simp only [cCallR, cCallF, c_1, c_2, ↓reduceIte, Bool.false_eq_true, decide_true, decide_false, Bool.not_true, Bool.not_false, Bool.or_true, Bool.true_or, Bool.or_false, Bool.false_or]; rfl) | (simp [b2i, cCallR, cCallF, c_1, c_2]; done) | rfl
      have hPf : va_P G.1 vwCl (wRF G z (cCallR r x1) (cCallF r f x1)) H := by
        have e1 : cCallR r x1 = upR r 20 (rPut 6 (r 20) (cDuty r x1) ((rAt 6 (r 20) (cDuty r x1)) + (nI 1))) := by first | with_reducible rfl | (simp only [cCallR, cCallF, c_1, c_2, ↓reduceIte, Bool.false_eq_true]; done) | (simp only [cCallR, cCallF, c_1, c_2, ↓reduceIte, Bool.false_eq_true]; rfl) | rfl
        have e2 : cCallF r f x1 = f := by first | with_reducible rfl | (simp only [cCallR, cCallF, c_1, c_2, ↓reduceIte, Bool.false_eq_true]; done) | (simp only [cCallR, cCallF, c_1, c_2, ↓reduceIte, Bool.false_eq_true]; rfl) | rfl
        rw [e1, e2]; exact hP
      exact W.iret (v := cDuty r x1) hx hb hr (fun t ht _ => ⟨⟨_, (), rfl, hq, g_hp ht hPf⟩, hS.F ht⟩) hS.2.2 dX4_callAt_82
  · refine lv_aload_n hx hb dX4_callAt_11 rfl (lv_at hl 1 rfl) ?_
    refine lv_dup hx hb dX4_callAt_12 rfl ?_
    refine va_get (D := G.1) (ci := 4) (v := .int (f 5)) (C := RX4) (T := TX4) (N := 6) hx hb hts hinX4 hown hK.1 hP 5 rfl rfl 5 (by decide) (hts (.fieldLink RX4 35 "Rotaforge$Rota" "missedCalls" "I") (by decide +kernel)) (fun _ h9 => h9) rfl dX4_callAt_13 ?_
    refine lv_iconst (v := nI 1) hx hb dX4_callAt_16 (by decide +kernel) ?_
    refine lv_iadd hx hb dX4_callAt_17 ?_
    refine va_put (D := G.1) (ci := 4) (v := .int ((f 5) + (nI 1))) (ty := .int) (C := RX4) (T := TX4) (N := 6) hx hb hts hinX4 tyX4 tyX4_ok nmX4 hown hK.1 hP hD hS 5 rfl rfl 5 (by decide) (hts (.fieldLink RX4 35 "Rotaforge$Rota" "missedCalls" "I") (by decide +kernel)) (fun _ h9 => h9) rfl (by decide +kernel) rfl rfl (Nat.le_of_ble_eq_true rfl) dX4_callAt_18 (fun H locs hP hD hS => ?_)
    have hP : va_P G.1 vwCl (wRF G z r (upF f 5 ((f 5) + (nI 1)))) H := gPs_5 hP
    have hD : va_D (gF z 50) (wRF G z r (upF f 5 ((f 5) + (nI 1)))) := gD_RF hz
    refine lv_goto (tgt := 81) hx hb dX4_callAt_21 (by decide) ?_
    refine lv_iload_n hx hb dX4_callAt_81 rfl (lv_at hl 0 rfl) ?_
    have hq : (cDuty r x1) = (cDuty r x1) := by
      first | with_reducible rfl | with_reducible exact nI_add _ _ | (simp only [cCallR, cCallF, c_1, ↓reduceIte, Bool.false_eq_true, decide_true, decide_false, Bool.not_true, Bool.not_false, Bool.or_true, Bool.true_or, Bool.or_false, Bool.false_or]; done) | (simp only [cCallR, cCallF, c_1, ↓reduceIte, Bool.false_eq_true, decide_true, decide_false, Bool.not_true, Bool.not_false, Bool.or_true, Bool.true_or, Bool.or_false, Bool.false_or]; with_reducible rfl) | (simp only [cCallR, cCallF, c_1, ↓reduceIte, Bool.false_eq_true, decide_true, decide_false, Bool.not_true, Bool.not_false, Bool.or_true, Bool.true_or, Bool.or_false, Bool.false_or]; rfl) | (simp [b2i, cCallR, cCallF, c_1]; done) | rfl
    have hPf : va_P G.1 vwCl (wRF G z (cCallR r x1) (cCallF r f x1)) H := by
      have e1 : cCallR r x1 = r := by first | with_reducible rfl | (simp only [cCallR, cCallF, c_1, ↓reduceIte, Bool.false_eq_true]; done) | (simp only [cCallR, cCallF, c_1, ↓reduceIte, Bool.false_eq_true]; rfl) | rfl
      have e2 : cCallF r f x1 = upF f 5 ((f 5) + (nI 1)) := by first | with_reducible rfl | (simp only [cCallR, cCallF, c_1, ↓reduceIte, Bool.false_eq_true]; done) | (simp only [cCallR, cCallF, c_1, ↓reduceIte, Bool.false_eq_true]; rfl) | rfl
      rw [e1, e2]; exact hP
    exact W.iret (v := cDuty r x1) hx hb hr (fun t ht _ => ⟨⟨_, (), rfl, hq, g_hp ht hPf⟩, hS.F ht⟩) hS.2.2 dX4_callAt_82

set_option maxHeartbeats 4000000 in
set_option maxRecDepth 100000 in
theorem c_X6_beginHalf (l : Launch) (G : gG) (H0 : Heap) (z : Nat → Nat) (hz : gDis z 50) (r : Nat → Nat → Int32) (f : Nat → Int32) (hP : va_P G.1 vwCl (wRF G z r f) H0) (t : Nat) (ht9 : f 1 = nI t) (ht8 : t < 1000) : gMwv l yX6_beginHalf wsX6_beginHalf 4 91 G H0 [.ref (z 0)] (wRF G z (cBegR r t) (upF f 1 (f 1 + nI 1))) (gF z 50) := by
  refine Met.ofW (cc := cX6_beginHalf) (maxL := 1) (ret := none) (by decide) rfl ?_
  intro p_ e_ s m args below meth c s₁ B hml hv
  obtain ⟨rfl, rfl, hK⟩ := hv
  have hx := B.exec
  have hb := B.bytes
  have hr := B.returns
  have hts := atoms_spec (ws := wsX6_beginHalf) B.pre
  have hown : s.vm.findClass RX6 = some m.cls := findClass_of_methodNamed B.named
  have hlocks := B.notSynchronized
  have hinX6 : ∀ w ∈ wsX60, w ∈ wsX6_beginHalf := by decide +kernel
  have S0 : CallFix p_ m c cX6_beginHalf 1 s _ wsX6_beginHalf RX6 := ⟨hx, hb, hml, hown, hts⟩
  have hD : va_D (gF z 50) (wRF G z r f) := gD_RF hz
  have hS : va_S (gF z 50) s.heap s.heap [] := va_S.rf
  have hl := lv_entry ([.ref (z 0)]) (n := 1) (Nat.le_of_ble_eq_true rfl)
  rw [lg_entry_eq]
  generalize (lg_sl ([.ref (z 0)]) ++ List.replicate (1 - (lg_sl ([.ref (z 0)])).length) Slot.unset).toArray = ls at hl ⊢
  have hl : lv_has ls 1 [(0, .ref (z 0))] := hl
  refine lv_aload_n hx hb dX6_beginHalf_0 rfl (lv_at hl 0 rfl) ?_
  refine lv_dup hx hb dX6_beginHalf_1 rfl ?_
  refine va_get (D := G.1) (ci := 6) (v := .int (f 1)) (C := RX6) (T := TX6) (N := 7) hx hb hts hinX6 hown hK.1 hP 0 rfl rfl 6 (by decide) (hts (.fieldLink RX6 48 "Rotaforge" "now" "I") (by decide +kernel)) (fun _ h9 => h9) rfl dX6_beginHalf_2 ?_
  refine lv_iconst (v := nI 1) hx hb dX6_beginHalf_5 (by decide +kernel) ?_
  refine lv_iadd hx hb dX6_beginHalf_6 ?_
  refine va_put (D := G.1) (ci := 6) (v := .int ((f 1) + (nI 1))) (ty := .int) (C := RX6) (T := TX6) (N := 7) hx hb hts hinX6 tyX6 tyX6_ok nmX6 hown hK.1 hP hD hS 0 rfl rfl 6 (by decide) (hts (.fieldLink RX6 48 "Rotaforge" "now" "I") (by decide +kernel)) (fun _ h9 => h9) rfl (by decide +kernel) rfl rfl (Nat.le_of_ble_eq_true rfl) dX6_beginHalf_7 (fun H locs hP hD hS => ?_)
  have hP : va_P G.1 vwCl (wRF G z r (upF f 1 ((f 1) + (nI 1)))) H := gPs_1 hP
  have hD : va_D (gF z 50) (wRF G z r (upF f 1 ((f 1) + (nI 1)))) := gD_RF hz
  refine lv_aload_n hx hb dX6_beginHalf_10 rfl (lv_at hl 0 rfl) ?_
  refine va_get (D := G.1) (ci := 6) (v := .int ((f 1) + (nI 1))) (C := RX6) (T := TX6) (N := 7) hx hb hts hinX6 hown hK.1 hP 0 rfl rfl 6 (by decide) (hts (.fieldLink RX6 48 "Rotaforge" "now" "I") (by decide +kernel)) (fun _ h9 => h9) rfl dX6_beginHalf_11 ?_
  refine lv_bipush (v := nI 14) hx hb dX6_beginHalf_14 (by decide +kernel) ?_
  refine lv_irem hx hb dX6_beginHalf_16 (by decide) ?_
  refine lv_if_ne (tgt := 31) hx hb dX6_beginHalf_17 (by decide) (fun c_1 => ?_) (fun c_1 => ?_)
  · have hm : ¬ (t + 1) % 14 = 0 := fun h => c_1 (by rw [ht9, nI_add, pk_rem (by omega) (by decide) (by decide), h]; rfl)
    have hPf : va_P G.1 vwCl (wRF G z (cBegR r t) (upF f 1 (f 1 + nI 1))) H := by
      unfold cBegR
      simp only [hm, ↓reduceIte]
      exact hP
    exact W.vret hx hb hr (fun t ht _ => ⟨⟨(), rfl, trivial, g_hp ht hPf⟩, hS.F ht⟩) hS.2.2 dX6_beginHalf_31
  · have hm : (t + 1) % 14 = 0 := by
      rw [ht9, nI_add, pk_rem (by omega) (by decide) (by decide)] at c_1
      have h9 : ¬ 0 < (t + 1) % 14 := fun h => nI_ne0 h (by omega) c_1
      omega
    refine lv_aload_n hx hb dX6_beginHalf_20 rfl (lv_at hl 0 rfl) ?_
    refine va_get (D := G.1) (ci := 6) (v := .ref (z 5)) (C := RX6) (T := TX6) (N := 7) hx hb hts hinX6 hown hK.1 hP 0 rfl rfl 4 (by decide) (hts (.fieldLink RX6 40 "Rotaforge" "rota" "LRotaforge$Rota;") (by decide +kernel)) (fun _ h9 => h9) rfl dX6_beginHalf_21 ?_
    refine lv_aload_n hx hb dX6_beginHalf_24 rfl (lv_at hl 0 rfl) ?_
    refine g_callC (W.runV (C := RX6) (As := []) (rest := [.ref (z 5)]) S0 (c_X6_weekNow l G _ z r (upF f 1 ((f 1) + (nI 1))) hP) (cwV 0 hts gX6_beginHalf_X6_weekNow rfl rfl rfl (by decide +kernel) ⟨Nat.le_of_ble_eq_true rfl, Nat.le_of_ble_eq_true rfl⟩) (g_preV hK hP (q0 := 0) (ci := 6) (q := (RX6, TX6, 7)) rfl rfl) rfl rfl hl.1 rfl (lv_room (Nat.le_of_ble_eq_true rfl)) dX6_beginHalf_25 ⟨Nat.zero_le _, Nat.zero_le _⟩) ?_
    refine g_callwv (va_runV (C := RX4) (As := [.int ((upF f 1 ((f 1) + (nI 1))) 1 / nI 14)]) (rest := []) S0 (c_X4_beginWeek l G _ z hz r (upF f 1 ((f 1) + (nI 1))) hP ((upF f 1 ((f 1) + (nI 1))) 1 / nI 14) ((t + 1) / 14) (by show (f 1 + nI 1) / nI 14 = _; rw [ht9, nI_add]; exact pk_div (by omega) (by decide) (by decide)) (by omega)) (cwV 1 hts gX6_beginHalf_X4_beginWeek rfl rfl rfl (by decide +kernel) ⟨Nat.le_of_ble_eq_true rfl, Nat.le_of_ble_eq_true rfl⟩) (g_preV hK hP (q0 := 5) (ci := 4) (q := (RX4, TX4, 6)) rfl rfl) rfl rfl hl.1 rfl (lv_room (Nat.le_of_ble_eq_true rfl)) dX6_beginHalf_28 ⟨Nat.zero_le _, Nat.zero_le _⟩) hS (fun _ h => h) (fun _ h => h) (fun H locs hP _ hS => ?_)
    have hP : va_P G.1 vwCl (wRF G z (cWeekR r ((t + 1) / 14)) (upF f 1 ((f 1) + (nI 1)))) H := hP
    have hD : va_D (gF z 50) (wRF G z (cWeekR r ((t + 1) / 14)) (upF f 1 ((f 1) + (nI 1)))) := gD_RF hz
    have hPf : va_P G.1 vwCl (wRF G z (cBegR r t) (upF f 1 (f 1 + nI 1))) H := by
      unfold cBegR
      simp only [hm, ↓reduceIte]
      exact hP
    exact W.vret hx hb hr (fun t ht _ => ⟨⟨(), rfl, trivial, g_hp ht hPf⟩, hS.F ht⟩) hS.2.2 dX6_beginHalf_31

set_option maxHeartbeats 4000000 in
set_option maxRecDepth 100000 in
theorem c_X6_settleRing (l : Launch) (G : gG) (H0 : Heap) (z : Nat → Nat) (hz : gDis z 50) (r : Nat → Nat → Int32) (f : Nat → Int32) (hP : va_P G.1 vwCl (wRF G z r f) H0) (x1 : Int32) : gMwv l yX6_settleRing wsX6_settleRing 5 117 G H0 [.ref (z 0), .int x1] (wRF G z (cSetR r f x1) (cSetF r f x1)) (gF z 50) := by
  refine Met.ofW (cc := cX6_settleRing) (maxL := 3) (ret := none) (by decide) rfl ?_
  intro p_ e_ s m args below meth c s₁ B hml hv
  obtain ⟨rfl, rfl, hK⟩ := hv
  have hx := B.exec
  have hb := B.bytes
  have hr := B.returns
  have hts := atoms_spec (ws := wsX6_settleRing) B.pre
  have hown : s.vm.findClass RX6 = some m.cls := findClass_of_methodNamed B.named
  have hlocks := B.notSynchronized
  have hinX6 : ∀ w ∈ wsX60, w ∈ wsX6_settleRing := by decide +kernel
  have S0 : CallFix p_ m c cX6_settleRing 3 s _ wsX6_settleRing RX6 := ⟨hx, hb, hml, hown, hts⟩
  have hD : va_D (gF z 50) (wRF G z r f) := gD_RF hz
  have hS : va_S (gF z 50) s.heap s.heap [] := va_S.rf
  have hl := lv_entry ([.ref (z 0), .int x1]) (n := 3) (Nat.le_of_ble_eq_true rfl)
  rw [lg_entry_eq]
  generalize (lg_sl ([.ref (z 0), .int x1]) ++ List.replicate (3 - (lg_sl ([.ref (z 0), .int x1])).length) Slot.unset).toArray = ls at hl ⊢
  have hl : lv_has ls 3 [(0, .ref (z 0)), (1, .int x1)] := hl
  refine lv_aload_n hx hb dX6_settleRing_0 rfl (lv_at hl 0 rfl) ?_
  refine lv_iload_n hx hb dX6_settleRing_1 rfl (lv_at hl 1 rfl) ?_
  refine g_callC (W.runV (C := RX6) (As := [.int x1]) (rest := []) S0 (c_X6_showsFault l G _ z r f hP x1) (cwV 1 hts gX6_settleRing_X6_showsFault rfl rfl rfl (by decide +kernel) ⟨Nat.le_of_ble_eq_true rfl, Nat.le_of_ble_eq_true rfl⟩) (g_preV hK hP (q0 := 0) (ci := 6) (q := (RX6, TX6, 7)) rfl rfl) rfl rfl hl.1 rfl (lv_room (Nat.le_of_ble_eq_true rfl)) dX6_settleRing_2 ⟨Nat.zero_le _, Nat.zero_le _⟩) ?_
  refine lv_if_ne (tgt := 21) hx hb dX6_settleRing_5 (by decide) (fun c_1 => ?_) (fun c_1 => ?_)
  · have c_1 := b2i_t c_1
    refine lv_aload_n hx hb dX6_settleRing_21 rfl (lv_at hl 0 rfl) ?_
    refine va_get (D := G.1) (ci := 6) (v := .ref (z 4)) (C := RX6) (T := TX6) (N := 7) hx hb hts hinX6 hown hK.1 hP 0 rfl rfl 3 (by decide) (hts (.fieldLink RX6 33 "Rotaforge" "incidentLog" "LRotaforge$IncidentLog;") (by decide +kernel)) (fun _ h9 => h9) rfl dX6_settleRing_22 ?_
    refine lv_iload_n hx hb dX6_settleRing_25 rfl (lv_at hl 1 rfl) ?_
    refine g_callC (W.runV (C := RX2) (As := [.int x1]) (rest := []) S0 (c_X2_openOf l G _ z r f hP x1) (cwV 1 hts gX6_settleRing_X2_openOf rfl rfl rfl (by decide +kernel) ⟨Nat.le_of_ble_eq_true rfl, Nat.le_of_ble_eq_true rfl⟩) (g_preV hK hP (q0 := 4) (ci := 2) (q := (RX2, TX2, 7)) rfl rfl) rfl rfl hl.1 rfl (lv_room (Nat.le_of_ble_eq_true rfl)) dX6_settleRing_26 ⟨Nat.zero_le _, Nat.zero_le _⟩) ?_
    refine lv_iconst (v := (-1)) hx hb dX6_settleRing_29 (by decide +kernel) ?_
    refine lv_icmp_ne (tgt := 46) hx hb dX6_settleRing_30 (by decide) (fun c_2 => ?_) (fun c_2 => ?_)
    · have hPf : va_P G.1 vwCl (wRF G z (cSetR r f x1) (cSetF r f x1)) s.heap := by
        have e1 : cSetR r f x1 = r := by first | with_reducible rfl | (simp only [cSetR, cSetF, c_1, c_2, ↓reduceIte, Bool.false_eq_true]; done) | (simp only [cSetR, cSetF, c_1, c_2, ↓reduceIte, Bool.false_eq_true]; rfl) | rfl
        have e2 : cSetF r f x1 = f := by first | with_reducible rfl | (simp only [cSetR, cSetF, c_1, c_2, ↓reduceIte, Bool.false_eq_true]; done) | (simp only [cSetR, cSetF, c_1, c_2, ↓reduceIte, Bool.false_eq_true]; rfl) | rfl
        rw [e1, e2]; exact hP
      exact W.vret hx hb hr (fun t ht _ => ⟨⟨(), rfl, trivial, g_hp ht hPf⟩, hS.F ht⟩) hS.2.2 dX6_settleRing_46
    · refine lv_aload_n hx hb dX6_settleRing_33 rfl (lv_at hl 0 rfl) ?_
      refine va_get (D := G.1) (ci := 6) (v := .ref (z 4)) (C := RX6) (T := TX6) (N := 7) hx hb hts hinX6 hown hK.1 hP 0 rfl rfl 3 (by decide) (hts (.fieldLink RX6 33 "Rotaforge" "incidentLog" "LRotaforge$IncidentLog;") (by decide +kernel)) (fun _ h9 => h9) rfl dX6_settleRing_34 ?_
      refine g_callC (W.runV (C := RX2) (As := []) (rest := []) S0 (c_X2_total l G _ z r f hP) (cwV 0 hts gX6_settleRing_X2_total rfl rfl rfl (by decide +kernel) ⟨Nat.le_of_ble_eq_true rfl, Nat.le_of_ble_eq_true rfl⟩) (g_preV hK hP (q0 := 4) (ci := 2) (q := (RX2, TX2, 7)) rfl rfl) rfl rfl hl.1 rfl (lv_room (Nat.le_of_ble_eq_true rfl)) dX6_settleRing_37 ⟨Nat.zero_le _, Nat.zero_le _⟩) ?_
      refine lv_sipush (v := nI 200) hx hb dX6_settleRing_40 (by decide +kernel) ?_
      refine lv_icmp_lt (tgt := 47) hx hb dX6_settleRing_43 (by decide) (fun c_3 => ?_) (fun c_3 => ?_)
      · refine lv_aload_n hx hb dX6_settleRing_47 rfl (lv_at hl 0 rfl) ?_
        refine lv_iload_n hx hb dX6_settleRing_48 rfl (lv_at hl 1 rfl) ?_
        refine g_callC (W.runV (C := RX6) (As := [.int x1]) (rest := []) S0 (c_X6_latestHealing l G _ z r f hP x1) (cwV 1 hts gX6_settleRing_X6_latestHealing rfl rfl rfl (by decide +kernel) ⟨Nat.le_of_ble_eq_true rfl, Nat.le_of_ble_eq_true rfl⟩) (g_preV hK hP (q0 := 0) (ci := 6) (q := (RX6, TX6, 7)) rfl rfl) rfl rfl hl.1 rfl (lv_room (Nat.le_of_ble_eq_true rfl)) dX6_settleRing_49 ⟨Nat.zero_le _, Nat.zero_le _⟩) ?_
        refine lv_istore_n (lv' := [(2, .int (cLatest r x1)), (0, .ref (z 0)), (1, .int x1)]) hx hb dX6_settleRing_52 rfl hl (by decide) rfl (fun ls hl => ?_)
        refine lv_aload_n hx hb dX6_settleRing_53 rfl (lv_at hl 1 rfl) ?_
        refine va_get (D := G.1) (ci := 6) (v := .ref (z 4)) (C := RX6) (T := TX6) (N := 7) hx hb hts hinX6 hown hK.1 hP 0 rfl rfl 3 (by decide) (hts (.fieldLink RX6 33 "Rotaforge" "incidentLog" "LRotaforge$IncidentLog;") (by decide +kernel)) (fun _ h9 => h9) rfl dX6_settleRing_54 ?_
        refine lv_iload_n hx hb dX6_settleRing_57 rfl (lv_at hl 2 rfl) ?_
        refine lv_aload_n hx hb dX6_settleRing_58 rfl (lv_at hl 1 rfl) ?_
        refine va_get (D := G.1) (ci := 6) (v := .int (f 1)) (C := RX6) (T := TX6) (N := 7) hx hb hts hinX6 hown hK.1 hP 0 rfl rfl 6 (by decide) (hts (.fieldLink RX6 48 "Rotaforge" "now" "I") (by decide +kernel)) (fun _ h9 => h9) rfl dX6_settleRing_59 ?_
        refine lv_iload_n hx hb dX6_settleRing_62 rfl (lv_at hl 0 rfl) ?_
        refine g_callwv (va_runV (C := RX2) (As := [.int x1, .int (f 1), .int (cLatest r x1)]) (rest := []) S0 (c_X2_open l G _ z hz r f hP x1 (f 1) (cLatest r x1)) (cwV 3 hts gX6_settleRing_X2_open rfl rfl rfl (by decide +kernel) ⟨Nat.le_of_ble_eq_true rfl, Nat.le_of_ble_eq_true rfl⟩) (g_preV hK hP (q0 := 4) (ci := 2) (q := (RX2, TX2, 7)) rfl rfl) rfl rfl hl.1 rfl (lv_room (Nat.le_of_ble_eq_true rfl)) dX6_settleRing_63 ⟨Nat.zero_le _, Nat.zero_le _⟩) hS (fun _ h => h) (fun _ h => h) (fun H locs hP _ hS => ?_)
        have hP : va_P G.1 vwCl (wRF G z (cOpenR r f x1 (f 1) (cLatest r x1)) (upF f 4 (f 4 + nI 1))) H := hP
        have hD : va_D (gF z 50) (wRF G z (cOpenR r f x1 (f 1) (cLatest r x1)) (upF f 4 (f 4 + nI 1))) := gD_RF hz
        refine lv_iload_n hx hb dX6_settleRing_66 rfl (lv_at hl 0 rfl) ?_
        refine lv_iconst (v := (-1)) hx hb dX6_settleRing_67 (by decide +kernel) ?_
        refine lv_icmp_eq (tgt := 86) hx hb dX6_settleRing_68 (by decide) (fun c_4 => ?_) (fun c_4 => ?_)
        · have hPf : va_P G.1 vwCl (wRF G z (cSetR r f x1) (cSetF r f x1)) H := by
            have e1 : cSetR r f x1 = cOpenR r f x1 (f 1) (cLatest r x1) := by first | with_reducible rfl | (simp only [cSetR, cSetF, c_1, c_2, c_3, c_4, ↓reduceIte, Bool.false_eq_true]; done) | (simp only [cSetR, cSetF, c_1, c_2, c_3, c_4, ↓reduceIte, Bool.false_eq_true]; rfl) | rfl
            have e2 : cSetF r f x1 = upF f 4 (f 4 + nI 1) := by first | with_reducible rfl | (simp only [cSetR, cSetF, c_1, c_2, c_3, c_4, ↓reduceIte, Bool.false_eq_true]; done) | (simp only [cSetR, cSetF, c_1, c_2, c_3, c_4, ↓reduceIte, Bool.false_eq_true]; rfl) | rfl
            rw [e1, e2]; exact hP
          exact W.vret hx hb hr (fun t ht _ => ⟨⟨(), rfl, trivial, g_hp ht hPf⟩, hS.F ht⟩) hS.2.2 dX6_settleRing_86
        · refine lv_aload_n hx hb dX6_settleRing_71 rfl (lv_at hl 1 rfl) ?_
          refine va_get (D := G.1) (ci := 6) (v := .ref (z 5)) (C := RX6) (T := TX6) (N := 7) hx hb hts hinX6 hown hK.1 hP 0 rfl rfl 4 (by decide) (hts (.fieldLink RX6 40 "Rotaforge" "rota" "LRotaforge$Rota;") (by decide +kernel)) (fun _ h9 => h9) rfl dX6_settleRing_72 ?_
          refine lv_aload_n hx hb dX6_settleRing_75 rfl (lv_at hl 1 rfl) ?_
          refine va_get (D := G.1) (ci := 6) (v := .ref (z 3)) (C := RX6) (T := TX6) (N := 7) hx hb hts hinX6 hown hK.1 hP 0 rfl rfl 2 (by decide) (hts (.fieldLink RX6 26 "Rotaforge" "changeLog" "LRotaforge$ChangeLog;") (by decide +kernel)) (fun _ h9 => h9) rfl dX6_settleRing_76 ?_
          refine lv_iload_n hx hb dX6_settleRing_79 rfl (lv_at hl 0 rfl) ?_
          refine g_callC (W.runV (C := RX0) (As := [.int (cLatest r x1)]) (rest := [.ref (z 5)]) S0 (c_X0_personOf l G _ z (cOpenR r f x1 (f 1) (cLatest r x1)) (upF f 4 (f 4 + nI 1)) hP (cLatest r x1)) (cwV 1 hts gX6_settleRing_X0_personOf rfl rfl rfl (by decide +kernel) ⟨Nat.le_of_ble_eq_true rfl, Nat.le_of_ble_eq_true rfl⟩) (g_preV hK hP (q0 := 3) (ci := 0) (q := (RX0, TX0, 7)) rfl rfl) rfl rfl hl.1 rfl (lv_room (Nat.le_of_ble_eq_true rfl)) dX6_settleRing_80 ⟨Nat.zero_le _, Nat.zero_le _⟩) ?_
          refine g_callwv (va_runV (C := RX4) (As := [.int (rAt 200 ((cOpenR r f x1 (f 1) (cLatest r x1)) 5) (cLatest r x1))]) (rest := []) S0 (c_X4_addBlot l G _ z hz (cOpenR r f x1 (f 1) (cLatest r x1)) (upF f 4 (f 4 + nI 1)) hP (rAt 200 ((cOpenR r f x1 (f 1) (cLatest r x1)) 5) (cLatest r x1))) (cwV 1 hts gX6_settleRing_X4_addBlot rfl rfl rfl (by decide +kernel) ⟨Nat.le_of_ble_eq_true rfl, Nat.le_of_ble_eq_true rfl⟩) (g_preV hK hP (q0 := 5) (ci := 4) (q := (RX4, TX4, 6)) rfl rfl) rfl rfl hl.1 rfl (lv_room (Nat.le_of_ble_eq_true rfl)) dX6_settleRing_83 ⟨Nat.zero_le _, Nat.zero_le _⟩) hS (fun _ h => h) (fun _ h => h) (fun H locs hP _ hS => ?_)
          have hP : va_P G.1 vwCl (wRF G z (upR (cOpenR r f x1 (f 1) (cLatest r x1)) 18 (rPut 6 ((cOpenR r f x1 (f 1) (cLatest r x1)) 18) (rAt 200 ((cOpenR r f x1 (f 1) (cLatest r x1)) 5) (cLatest r x1)) (rAt 6 ((cOpenR r f x1 (f 1) (cLatest r x1)) 18) (rAt 200 ((cOpenR r f x1 (f 1) (cLatest r x1)) 5) (cLatest r x1)) + nI 1))) (upF f 4 (f 4 + nI 1))) H := hP
          have hD : va_D (gF z 50) (wRF G z (upR (cOpenR r f x1 (f 1) (cLatest r x1)) 18 (rPut 6 ((cOpenR r f x1 (f 1) (cLatest r x1)) 18) (rAt 200 ((cOpenR r f x1 (f 1) (cLatest r x1)) 5) (cLatest r x1)) (rAt 6 ((cOpenR r f x1 (f 1) (cLatest r x1)) 18) (rAt 200 ((cOpenR r f x1 (f 1) (cLatest r x1)) 5) (cLatest r x1)) + nI 1))) (upF f 4 (f 4 + nI 1))) := gD_RF hz
          have hPf : va_P G.1 vwCl (wRF G z (cSetR r f x1) (cSetF r f x1)) H := by
            have e1 : cSetR r f x1 = upR (cOpenR r f x1 (f 1) (cLatest r x1)) 18 (rPut 6 ((cOpenR r f x1 (f 1) (cLatest r x1)) 18) (rAt 200 ((cOpenR r f x1 (f 1) (cLatest r x1)) 5) (cLatest r x1)) (rAt 6 ((cOpenR r f x1 (f 1) (cLatest r x1)) 18) (rAt 200 ((cOpenR r f x1 (f 1) (cLatest r x1)) 5) (cLatest r x1)) + nI 1)) := by first | with_reducible rfl | (simp only [cSetR, cSetF, c_1, c_2, c_3, c_4, ↓reduceIte, Bool.false_eq_true]; done) | (simp only [cSetR, cSetF, c_1, c_2, c_3, c_4, ↓reduceIte, Bool.false_eq_true]; rfl) | rfl
            have e2 : cSetF r f x1 = (upF f 4 (f 4 + nI 1)) := by first | with_reducible rfl | (simp only [cSetR, cSetF, c_1, c_2, c_3, c_4, ↓reduceIte, Bool.false_eq_true]; done) | (simp only [cSetR, cSetF, c_1, c_2, c_3, c_4, ↓reduceIte, Bool.false_eq_true]; rfl) | rfl
            rw [e1, e2]; exact hP
          exact W.vret hx hb hr (fun t ht _ => ⟨⟨(), rfl, trivial, g_hp ht hPf⟩, hS.F ht⟩) hS.2.2 dX6_settleRing_86
      · have hPf : va_P G.1 vwCl (wRF G z (cSetR r f x1) (cSetF r f x1)) s.heap := by
          have e1 : cSetR r f x1 = r := by first | with_reducible rfl | (simp only [cSetR, cSetF, c_1, c_2, c_3, ↓reduceIte, Bool.false_eq_true]; done) | (simp only [cSetR, cSetF, c_1, c_2, c_3, ↓reduceIte, Bool.false_eq_true]; rfl) | rfl
          have e2 : cSetF r f x1 = f := by first | with_reducible rfl | (simp only [cSetR, cSetF, c_1, c_2, c_3, ↓reduceIte, Bool.false_eq_true]; done) | (simp only [cSetR, cSetF, c_1, c_2, c_3, ↓reduceIte, Bool.false_eq_true]; rfl) | rfl
          rw [e1, e2]; exact hP
        exact W.vret hx hb hr (fun t ht _ => ⟨⟨(), rfl, trivial, g_hp ht hPf⟩, hS.F ht⟩) hS.2.2 dX6_settleRing_46
  · have c_1 := b2i_f c_1
    refine lv_aload_n hx hb dX6_settleRing_8 rfl (lv_at hl 0 rfl) ?_
    refine va_get (D := G.1) (ci := 6) (v := .ref (z 4)) (C := RX6) (T := TX6) (N := 7) hx hb hts hinX6 hown hK.1 hP 0 rfl rfl 3 (by decide) (hts (.fieldLink RX6 33 "Rotaforge" "incidentLog" "LRotaforge$IncidentLog;") (by decide +kernel)) (fun _ h9 => h9) rfl dX6_settleRing_9 ?_
    refine lv_iload_n hx hb dX6_settleRing_12 rfl (lv_at hl 1 rfl) ?_
    refine lv_aload_n hx hb dX6_settleRing_13 rfl (lv_at hl 0 rfl) ?_
    refine va_get (D := G.1) (ci := 6) (v := .int (f 1)) (C := RX6) (T := TX6) (N := 7) hx hb hts hinX6 hown hK.1 hP 0 rfl rfl 6 (by decide) (hts (.fieldLink RX6 48 "Rotaforge" "now" "I") (by decide +kernel)) (fun _ h9 => h9) rfl dX6_settleRing_14 ?_
    refine g_callwv (va_runV (C := RX2) (As := [.int x1, .int (f 1)]) (rest := []) S0 (c_X2_close l G _ z hz r f hP x1 (f 1)) (cwV 2 hts gX6_settleRing_X2_close rfl rfl rfl (by decide +kernel) ⟨Nat.le_of_ble_eq_true rfl, Nat.le_of_ble_eq_true rfl⟩) (g_preV hK hP (q0 := 4) (ci := 2) (q := (RX2, TX2, 7)) rfl rfl) rfl rfl hl.1 rfl (lv_room (Nat.le_of_ble_eq_true rfl)) dX6_settleRing_17 ⟨Nat.zero_le _, Nat.zero_le _⟩) hS (fun _ h => h) (fun _ h => h) (fun H locs hP _ hS => ?_)
    have hP : va_P G.1 vwCl (wRF G z (cCloseR r x1 (f 1)) f) H := hP
    have hD : va_D (gF z 50) (wRF G z (cCloseR r x1 (f 1)) f) := gD_RF hz
    have hPf : va_P G.1 vwCl (wRF G z (cSetR r f x1) (cSetF r f x1)) H := by
      have e1 : cSetR r f x1 = cCloseR r x1 (f 1) := by first | with_reducible rfl | (simp only [cSetR, cSetF, c_1, ↓reduceIte, Bool.false_eq_true]; done) | (simp only [cSetR, cSetF, c_1, ↓reduceIte, Bool.false_eq_true]; rfl) | rfl
      have e2 : cSetF r f x1 = f := by first | with_reducible rfl | (simp only [cSetR, cSetF, c_1, ↓reduceIte, Bool.false_eq_true]; done) | (simp only [cSetR, cSetF, c_1, ↓reduceIte, Bool.false_eq_true]; rfl) | rfl
      rw [e1, e2]; exact hP
    exact W.vret hx hb hr (fun t ht _ => ⟨⟨(), rfl, trivial, g_hp ht hPf⟩, hS.F ht⟩) hS.2.2 dX6_settleRing_20

set_option maxHeartbeats 4000000 in
set_option maxRecDepth 100000 in
theorem c_X6_callIfOpen (l : Launch) (G : gG) (H0 : Heap) (z : Nat → Nat) (hz : gDis z 50) (r : Nat → Nat → Int32) (f : Nat → Int32) (hP : va_P G.1 vwCl (wRF G z r f) H0) (x1 : Int32) (a n : Nat) (ha : x1 = nI a) (hn : f 4 = nI (a + n)) (hb9 : a + n ≤ 200) : gMwv l yX6_callIfOpen wsX6_callIfOpen 4 91 G H0 [.ref (z 0), .int x1] (wRF G z (cCIR r f a n) (cCIF r f)) (gF z 50) := by
  refine Met.ofW (cc := cX6_callIfOpen) (maxL := 2) (ret := none) (by decide) rfl ?_
  intro p_ e_ s m args below meth c s₁ B hml hv
  obtain ⟨rfl, rfl, hK⟩ := hv
  have hx := B.exec
  have hb := B.bytes
  have hr := B.returns
  have hts := atoms_spec (ws := wsX6_callIfOpen) B.pre
  have hown : s.vm.findClass RX6 = some m.cls := findClass_of_methodNamed B.named
  have hlocks := B.notSynchronized
  have hinX6 : ∀ w ∈ wsX60, w ∈ wsX6_callIfOpen := by decide +kernel
  have S0 : CallFix p_ m c cX6_callIfOpen 2 s _ wsX6_callIfOpen RX6 := ⟨hx, hb, hml, hown, hts⟩
  have hD : va_D (gF z 50) (wRF G z r f) := gD_RF hz
  have hS : va_S (gF z 50) s.heap s.heap [] := va_S.rf
  have hl := lv_entry ([.ref (z 0), .int x1]) (n := 2) (Nat.le_of_ble_eq_true rfl)
  rw [lg_entry_eq]
  generalize (lg_sl ([.ref (z 0), .int x1]) ++ List.replicate (2 - (lg_sl ([.ref (z 0), .int x1])).length) Slot.unset).toArray = ls at hl ⊢
  have hl : lv_has ls 2 [(0, .ref (z 0)), (1, .int x1)] := hl
  refine lv_aload_n hx hb dX6_callIfOpen_0 rfl (lv_at hl 0 rfl) ?_
  refine va_get (D := G.1) (ci := 6) (v := .ref (z 4)) (C := RX6) (T := TX6) (N := 7) hx hb hts hinX6 hown hK.1 hP 0 rfl rfl 3 (by decide) (hts (.fieldLink RX6 33 "Rotaforge" "incidentLog" "LRotaforge$IncidentLog;") (by decide +kernel)) (fun _ h9 => h9) rfl dX6_callIfOpen_1 ?_
  refine lv_iconst (v := nI 4) hx hb dX6_callIfOpen_4 (by decide +kernel) ?_
  refine g_callC (W.runV (C := RX2) (As := [.int (nI 4)]) (rest := []) S0 (c_X2_anyOpenBelow l G _ z r f hP (nI 4) 4 rfl (by decide)) (cwV 1 hts gX6_callIfOpen_X2_anyOpenBelow rfl rfl rfl (by decide +kernel) ⟨Nat.le_of_ble_eq_true rfl, Nat.le_of_ble_eq_true rfl⟩) (g_preV hK hP (q0 := 4) (ci := 2) (q := (RX2, TX2, 7)) rfl rfl) rfl rfl hl.1 rfl (lv_room (Nat.le_of_ble_eq_true rfl)) dX6_callIfOpen_5 ⟨Nat.zero_le _, Nat.zero_le _⟩) ?_
  refine lv_if_eq (tgt := 30) hx hb dX6_callIfOpen_8 (by decide) (fun c_1 => ?_) (fun c_1 => ?_)
  · have c_1 := b2i_f c_1
    have hPf : va_P G.1 vwCl (wRF G z (cCIR r f a n) (cCIF r f)) s.heap := by
      have e1 : cCIR r f a n = r := by first | with_reducible rfl | (simp only [cCIR, cCIF, c_1, ↓reduceIte, Bool.false_eq_true]; done) | (simp only [cCIR, cCIF, c_1, ↓reduceIte, Bool.false_eq_true]; rfl) | rfl
      have e2 : cCIF r f = f := by first | with_reducible rfl | (simp only [cCIR, cCIF, c_1, ↓reduceIte, Bool.false_eq_true]; done) | (simp only [cCIR, cCIF, c_1, ↓reduceIte, Bool.false_eq_true]; rfl) | rfl
      rw [e1, e2]; exact hP
    exact W.vret hx hb hr (fun t ht _ => ⟨⟨(), rfl, trivial, g_hp ht hPf⟩, hS.F ht⟩) hS.2.2 dX6_callIfOpen_30
  · have c_1 := b2i_t c_1
    refine lv_aload_n hx hb dX6_callIfOpen_11 rfl (lv_at hl 0 rfl) ?_
    refine va_get (D := G.1) (ci := 6) (v := .ref (z 4)) (C := RX6) (T := TX6) (N := 7) hx hb hts hinX6 hown hK.1 hP 0 rfl rfl 3 (by decide) (hts (.fieldLink RX6 33 "Rotaforge" "incidentLog" "LRotaforge$IncidentLog;") (by decide +kernel)) (fun _ h9 => h9) rfl dX6_callIfOpen_12 ?_
    refine lv_iload_n hx hb dX6_callIfOpen_15 rfl (lv_at hl 1 rfl) ?_
    refine lv_aload_n hx hb dX6_callIfOpen_16 rfl (lv_at hl 0 rfl) ?_
    refine va_get (D := G.1) (ci := 6) (v := .ref (z 5)) (C := RX6) (T := TX6) (N := 7) hx hb hts hinX6 hown hK.1 hP 0 rfl rfl 4 (by decide) (hts (.fieldLink RX6 40 "Rotaforge" "rota" "LRotaforge$Rota;") (by decide +kernel)) (fun _ h9 => h9) rfl dX6_callIfOpen_17 ?_
    refine lv_aload_n hx hb dX6_callIfOpen_20 rfl (lv_at hl 0 rfl) ?_
    refine va_get (D := G.1) (ci := 6) (v := .int (f 1)) (C := RX6) (T := TX6) (N := 7) hx hb hts hinX6 hown hK.1 hP 0 rfl rfl 6 (by decide) (hts (.fieldLink RX6 48 "Rotaforge" "now" "I") (by decide +kernel)) (fun _ h9 => h9) rfl dX6_callIfOpen_21 ?_
    refine g_callw (va_runV (C := RX4) (As := [.int (f 1)]) (rest := [.int x1, .ref (z 4)]) S0 (c_X4_callAt l G _ z hz r f hP (f 1)) (cwV 1 hts gX6_callIfOpen_X4_callAt rfl rfl rfl (by decide +kernel) ⟨Nat.le_of_ble_eq_true rfl, Nat.le_of_ble_eq_true rfl⟩) (g_preV hK hP (q0 := 5) (ci := 4) (q := (RX4, TX4, 6)) rfl rfl) rfl rfl hl.1 rfl (lv_room (Nat.le_of_ble_eq_true rfl)) dX6_callIfOpen_24 ⟨Nat.zero_le _, Nat.zero_le _⟩) hS (fun _ h => h) (fun _ h => h) (fun H locs hP _ hS => ?_)
    have hP : va_P G.1 vwCl (wRF G z (cCallR r (f 1)) (cCallF r f (f 1))) H := hP
    have hD : va_D (gF z 50) (wRF G z (cCallR r (f 1)) (cCallF r f (f 1))) := gD_RF hz
    refine g_callwv (va_runV (C := RX2) (As := [.int x1, .int (cDuty r (f 1))]) (rest := []) S0 (c_X2_noteWoken l G _ z hz (cCallR r (f 1)) (cCallF r f (f 1)) hP x1 (cDuty r (f 1)) a n ha (by show cCallF r f (f 1) 4 = _; unfold cCallF; split <;> exact hn) hb9) (cwV 2 hts gX6_callIfOpen_X2_noteWoken rfl rfl rfl (by decide +kernel) ⟨Nat.le_of_ble_eq_true rfl, Nat.le_of_ble_eq_true rfl⟩) (g_preV hK hP (q0 := 4) (ci := 2) (q := (RX2, TX2, 7)) rfl rfl) rfl rfl hl.1 rfl (lv_room (Nat.le_of_ble_eq_true rfl)) dX6_callIfOpen_27 ⟨Nat.zero_le _, Nat.zero_le _⟩) hS (fun _ h => h) (fun _ h => h) (fun H locs hP _ hS => ?_)
    have hP : va_P G.1 vwCl (wRF G z (cNoteR (cCallR r (f 1)) a n (cDuty r (f 1))) (cCallF r f (f 1))) H := hP
    have hD : va_D (gF z 50) (wRF G z (cNoteR (cCallR r (f 1)) a n (cDuty r (f 1))) (cCallF r f (f 1))) := gD_RF hz
    have hPf : va_P G.1 vwCl (wRF G z (cCIR r f a n) (cCIF r f)) H := by
      have e1 : cCIR r f a n = cNoteR (cCallR r (f 1)) a n (cDuty r (f 1)) := by first | with_reducible rfl | (simp only [cCIR, cCIF, c_1, ↓reduceIte, Bool.false_eq_true]; done) | (simp only [cCIR, cCIF, c_1, ↓reduceIte, Bool.false_eq_true]; rfl) | rfl
      have e2 : cCIF r f = (cCallF r f (f 1)) := by first | with_reducible rfl | (simp only [cCIR, cCIF, c_1, ↓reduceIte, Bool.false_eq_true]; done) | (simp only [cCIR, cCIF, c_1, ↓reduceIte, Bool.false_eq_true]; rfl) | rfl
      rw [e1, e2]; exact hP
    exact W.vret hx hb hr (fun t ht _ => ⟨⟨(), rfl, trivial, g_hp ht hPf⟩, hS.F ht⟩) hS.2.2 dX6_callIfOpen_30
