set_option maxHeartbeats 4000000 in
set_option maxRecDepth 100000 in
theorem c_X7_turn (l : Launch) (G : gG) (H0 : Heap) (z : Nat → Nat) (hz : gDis z 20) (r : Nat → Nat → Int32) (f : Nat → Int32) (hP : va_P G.1 vwCl (wRM G z r f) H0) (x1 : Int32) (x2 : Int32) (x3 : Int32) (n d k t : Nat) (hM : mOK r f n d k t) : gMw l yX7_turn wsX7_turn 2 49 G H0 [.ref (z 0), .int x1, .int x2, .int x3] ((mTurnQ r f n x1 x2 x3).2) (wRM G z ((mTurnQ r f n x1 x2 x3).1.1) ((mTurnQ r f n x1 x2 x3).1.2)) (gF z 20) := by
  refine Met.ofW (cc := cX7_turn) (maxL := 4) (ret := (some .int)) (by decide) rfl ?_
  intro p_ e_ s m args below meth c s₁ B hml hv
  obtain ⟨rfl, rfl, hK⟩ := hv
  have hx := B.exec
  have hb := B.bytes
  have hr := B.returns
  have hts := atoms_spec (ws := wsX7_turn) B.pre
  have hown : s.vm.findClass RX7 = some m.cls := findClass_of_methodNamed B.named
  have hlocks := B.notSynchronized
  have hinX7 : ∀ w ∈ wsX70, w ∈ wsX7_turn := by decide +kernel
  have S0 : CallFix p_ m c cX7_turn 4 s _ wsX7_turn RX7 := ⟨hx, hb, hml, hown, hts⟩
  have hD : va_D (gF z 20) (wRM G z r f) := gD_RM hz
  have hS : va_S (gF z 20) s.heap s.heap [] := va_S.rf
  have hl := lv_entry ([.ref (z 0), .int x1, .int x2, .int x3]) (n := 4) (Nat.le_of_ble_eq_true rfl)
  rw [lg_entry_eq]
  generalize (lg_sl ([.ref (z 0), .int x1, .int x2, .int x3]) ++ List.replicate (4 - (lg_sl ([.ref (z 0), .int x1, .int x2, .int x3])).length) Slot.unset).toArray = ls at hl ⊢
  have hl : lv_has ls 4 [(0, .ref (z 0)), (1, .int x1), (2, .int x2), (3, .int x3)] := hl
  obtain ⟨hn, hn2, hd, hd2, hk, hk2, ht, ht2, hh, hm⟩ := id hM
  refine lv_aload_n hx hb dX7_turn_0 rfl (lv_at hl 0 rfl) ?_
  refine lv_iload_n hx hb dX7_turn_1 rfl (lv_at hl 1 rfl) ?_
  refine g_callC (W.runS (As := [.int x1]) (rest := [.ref (z 0)]) S0 (c_X7_isPerson l G _ x1) (va_cwS 1 hts gX7_turn_X7_isPerson rfl rfl rfl (by decide +kernel) ⟨Nat.le_of_ble_eq_true rfl, Nat.le_of_ble_eq_true rfl⟩) (g_preS hK) rfl rfl hl.1 rfl (lv_room (Nat.le_of_ble_eq_true rfl)) dX7_turn_2 ⟨Nat.zero_le _, Nat.zero_le _⟩) ?_
  refine lv_if_eq (tgt := 15) hx hb dX7_turn_5 (by decide) (fun c_1 => ?_) (fun c_1 => ?_)
  · have c_1 := b2i_f c_1
    refine lv_iconst (v := nI 1) hx hb dX7_turn_15 (by decide +kernel) ?_
    refine lv_goto (tgt := 33) hx hb dX7_turn_16 (by decide) ?_
    refine va_put (D := G.1) (ci := 7) (v := .int (nI 1)) (ty := .int) (C := RX7) (T := TX7) (N := 26) hx hb hts hinX7 tyX7 tyX7_ok nmX7 hown hK.1 hP hD hS 0 rfl rfl 0 (by decide) (hts (.fieldLink RX7 72 "RotaforgeModel" "thrown" "I") (by decide +kernel)) (fun _ h9 => h9) rfl (by decide +kernel) rfl rfl (Nat.le_of_ble_eq_true rfl) dX7_turn_33 (fun H locs hP hD hS => ?_)
    have hP : va_P G.1 vwCl (wRM G z r (upF f 0 (nI 1))) H := gMs_0 hP
    have hD : va_D (gF z 20) (wRM G z r (upF f 0 (nI 1))) := gD_RM hz
    refine lv_aload_n hx hb dX7_turn_36 rfl (lv_at hl 0 rfl) ?_
    refine va_get (D := G.1) (ci := 7) (v := .int (nI 1)) (C := RX7) (T := TX7) (N := 26) hx hb hts hinX7 hown hK.1 hP 0 rfl rfl 0 (by decide) (hts (.fieldLink RX7 72 "RotaforgeModel" "thrown" "I") (by decide +kernel)) (fun _ h9 => h9) rfl dX7_turn_37 ?_
    refine lv_if_le (tgt := 45) hx hb dX7_turn_40 (by decide) (fun c_2 => ?_) (fun c_2 => ?_)
    · exact absurd c_2 (by decide)
    · refine lv_iconst (v := nI 0) hx hb dX7_turn_43 (by decide +kernel) ?_
      have hq : (nI 0) = ((mTurnQ r f n x1 x2 x3).2) := by
        first | with_reducible rfl | with_reducible exact nI_add _ _ | (simp only [upF_uu, mTurnQ, c_1, eq_false c_2, ↓reduceIte, Bool.false_eq_true, decide_true, decide_false, Bool.not_true, Bool.not_false, Bool.or_true, Bool.true_or, Bool.or_false, Bool.false_or]; done) | (simp only [upF_uu, mTurnQ, c_1, eq_false c_2, ↓reduceIte, Bool.false_eq_true, decide_true, decide_false, Bool.not_true, Bool.not_false, Bool.or_true, Bool.true_or, Bool.or_false, Bool.false_or]; with_reducible rfl) | (simp only [upF_uu, mTurnQ, c_1, eq_false c_2, ↓reduceIte, Bool.false_eq_true, decide_true, decide_false, Bool.not_true, Bool.not_false, Bool.or_true, Bool.true_or, Bool.or_false, Bool.false_or]; rfl) | (simp [b2i, upF_uu, mTurnQ, c_1, eq_false c_2]; done) | rfl
      have hPf : va_P G.1 vwCl (wRM G z ((mTurnQ r f n x1 x2 x3).1.1) ((mTurnQ r f n x1 x2 x3).1.2)) H := by
        have e1 : (mTurnQ r f n x1 x2 x3).1.1 = r := by first | with_reducible rfl | (simp only [upF_uu, mTurnQ, c_1, eq_false c_2, ↓reduceIte, Bool.false_eq_true]; done) | (simp only [upF_uu, mTurnQ, c_1, eq_false c_2, ↓reduceIte, Bool.false_eq_true]; rfl) | rfl
        have e2 : (mTurnQ r f n x1 x2 x3).1.2 = upF f 0 (nI 1) := by first | with_reducible rfl | (simp only [upF_uu, mTurnQ, c_1, eq_false c_2, ↓reduceIte, Bool.false_eq_true]; done) | (simp only [upF_uu, mTurnQ, c_1, eq_false c_2, ↓reduceIte, Bool.false_eq_true]; rfl) | rfl
        rw [e1, e2]; exact hP
      exact W.iret (v := nI 0) hx hb hr (fun t ht _ => ⟨⟨_, (), rfl, hq, g_hp ht hPf⟩, hS.F ht⟩) hS.2.2 dX7_turn_44
  · have c_1 := b2i_t c_1
    refine lv_iload_n hx hb dX7_turn_8 rfl (lv_at hl 2 rfl) ?_
    refine g_callC (W.runS (As := [.int x2]) (rest := [.ref (z 0)]) S0 (c_X7_isSwitch l G _ x2) (va_cwS 1 hts gX7_turn_X7_isSwitch rfl rfl rfl (by decide +kernel) ⟨Nat.le_of_ble_eq_true rfl, Nat.le_of_ble_eq_true rfl⟩) (g_preS hK) rfl rfl hl.1 rfl (lv_room (Nat.le_of_ble_eq_true rfl)) dX7_turn_9 ⟨Nat.zero_le _, Nat.zero_le _⟩) ?_
    refine lv_if_ne (tgt := 19) hx hb dX7_turn_12 (by decide) (fun c_3 => ?_) (fun c_3 => ?_)
    · have c_3 := b2i_t c_3
      refine lv_iload_n hx hb dX7_turn_19 rfl (lv_at hl 3 rfl) ?_
      refine lv_iconst (v := nI 0) hx hb dX7_turn_20 (by decide +kernel) ?_
      refine lv_iconst (v := nI 4) hx hb dX7_turn_21 (by decide +kernel) ?_
      refine g_callC (W.runS (As := [.int x3, .int (nI 0), .int (nI 4)]) (rest := [.ref (z 0)]) S0 (c_X7_in l G _ x3 (nI 0) (nI 4)) (va_cwS 3 hts gX7_turn_X7_in rfl rfl rfl (by decide +kernel) ⟨Nat.le_of_ble_eq_true rfl, Nat.le_of_ble_eq_true rfl⟩) (g_preS hK) rfl rfl hl.1 rfl (lv_room (Nat.le_of_ble_eq_true rfl)) dX7_turn_22 ⟨Nat.zero_le _, Nat.zero_le _⟩) ?_
      refine lv_if_eq (tgt := 32) hx hb dX7_turn_25 (by decide) (fun c_4 => ?_) (fun c_4 => ?_)
      · have c_4 := b2i_f c_4
        refine lv_iconst (v := nI 2) hx hb dX7_turn_32 (by decide +kernel) ?_
        refine va_put (D := G.1) (ci := 7) (v := .int (nI 2)) (ty := .int) (C := RX7) (T := TX7) (N := 26) hx hb hts hinX7 tyX7 tyX7_ok nmX7 hown hK.1 hP hD hS 0 rfl rfl 0 (by decide) (hts (.fieldLink RX7 72 "RotaforgeModel" "thrown" "I") (by decide +kernel)) (fun _ h9 => h9) rfl (by decide +kernel) rfl rfl (Nat.le_of_ble_eq_true rfl) dX7_turn_33 (fun H locs hP hD hS => ?_)
        have hP : va_P G.1 vwCl (wRM G z r (upF f 0 (nI 2))) H := gMs_0 hP
        have hD : va_D (gF z 20) (wRM G z r (upF f 0 (nI 2))) := gD_RM hz
        refine lv_aload_n hx hb dX7_turn_36 rfl (lv_at hl 0 rfl) ?_
        refine va_get (D := G.1) (ci := 7) (v := .int (nI 2)) (C := RX7) (T := TX7) (N := 26) hx hb hts hinX7 hown hK.1 hP 0 rfl rfl 0 (by decide) (hts (.fieldLink RX7 72 "RotaforgeModel" "thrown" "I") (by decide +kernel)) (fun _ h9 => h9) rfl dX7_turn_37 ?_
        refine lv_if_le (tgt := 45) hx hb dX7_turn_40 (by decide) (fun c_5 => ?_) (fun c_5 => ?_)
        · exact absurd c_5 (by decide)
        · refine lv_iconst (v := nI 0) hx hb dX7_turn_43 (by decide +kernel) ?_
          have hq : (nI 0) = ((mTurnQ r f n x1 x2 x3).2) := by
            first | with_reducible rfl | with_reducible exact nI_add _ _ | (simp only [upF_uu, mTurnQ, c_1, c_3, c_4, eq_false c_5, ↓reduceIte, Bool.false_eq_true, decide_true, decide_false, Bool.not_true, Bool.not_false, Bool.or_true, Bool.true_or, Bool.or_false, Bool.false_or]; done) | (simp only [upF_uu, mTurnQ, c_1, c_3, c_4, eq_false c_5, ↓reduceIte, Bool.false_eq_true, decide_true, decide_false, Bool.not_true, Bool.not_false, Bool.or_true, Bool.true_or, Bool.or_false, Bool.false_or]; with_reducible rfl) | (simp only [upF_uu, mTurnQ, c_1, c_3, c_4, eq_false c_5, ↓reduceIte, Bool.false_eq_true, decide_true, decide_false, Bool.not_true, Bool.not_false, Bool.or_true, Bool.true_or, Bool.or_false, Bool.false_or]; rfl) | (simp [b2i, upF_uu, mTurnQ, c_1, c_3, c_4, eq_false c_5]; done) | rfl
          have hPf : va_P G.1 vwCl (wRM G z ((mTurnQ r f n x1 x2 x3).1.1) ((mTurnQ r f n x1 x2 x3).1.2)) H := by
            have e1 : (mTurnQ r f n x1 x2 x3).1.1 = r := by first | with_reducible rfl | (simp only [upF_uu, mTurnQ, c_1, c_3, c_4, eq_false c_5, ↓reduceIte, Bool.false_eq_true]; done) | (simp only [upF_uu, mTurnQ, c_1, c_3, c_4, eq_false c_5, ↓reduceIte, Bool.false_eq_true]; rfl) | rfl
            have e2 : (mTurnQ r f n x1 x2 x3).1.2 = upF f 0 (nI 2) := by first | with_reducible rfl | (simp only [upF_uu, mTurnQ, c_1, c_3, c_4, eq_false c_5, ↓reduceIte, Bool.false_eq_true]; done) | (simp only [upF_uu, mTurnQ, c_1, c_3, c_4, eq_false c_5, ↓reduceIte, Bool.false_eq_true]; rfl) | rfl
            rw [e1, e2]; exact hP
          exact W.iret (v := nI 0) hx hb hr (fun t ht _ => ⟨⟨_, (), rfl, hq, g_hp ht hPf⟩, hS.F ht⟩) hS.2.2 dX7_turn_44
      · have c_4 := b2i_t c_4
        refine lv_iconst (v := nI 0) hx hb dX7_turn_28 (by decide +kernel) ?_
        refine lv_goto (tgt := 33) hx hb dX7_turn_29 (by decide) ?_
        refine va_put (D := G.1) (ci := 7) (v := .int (nI 0)) (ty := .int) (C := RX7) (T := TX7) (N := 26) hx hb hts hinX7 tyX7 tyX7_ok nmX7 hown hK.1 hP hD hS 0 rfl rfl 0 (by decide) (hts (.fieldLink RX7 72 "RotaforgeModel" "thrown" "I") (by decide +kernel)) (fun _ h9 => h9) rfl (by decide +kernel) rfl rfl (Nat.le_of_ble_eq_true rfl) dX7_turn_33 (fun H locs hP hD hS => ?_)
        have hP : va_P G.1 vwCl (wRM G z r (upF f 0 (nI 0))) H := gMs_0 hP
        have hD : va_D (gF z 20) (wRM G z r (upF f 0 (nI 0))) := gD_RM hz
        refine lv_aload_n hx hb dX7_turn_36 rfl (lv_at hl 0 rfl) ?_
        refine va_get (D := G.1) (ci := 7) (v := .int (nI 0)) (C := RX7) (T := TX7) (N := 26) hx hb hts hinX7 hown hK.1 hP 0 rfl rfl 0 (by decide) (hts (.fieldLink RX7 72 "RotaforgeModel" "thrown" "I") (by decide +kernel)) (fun _ h9 => h9) rfl dX7_turn_37 ?_
        refine lv_if_le (tgt := 45) hx hb dX7_turn_40 (by decide) (fun c_6 => ?_) (fun c_6 => ?_)
        · refine lv_aload_n hx hb dX7_turn_45 rfl (lv_at hl 0 rfl) ?_
          refine lv_aload_n hx hb dX7_turn_46 rfl (lv_at hl 0 rfl) ?_
          refine lv_iload_n hx hb dX7_turn_47 rfl (lv_at hl 1 rfl) ?_
          refine g_callC (r := (b2i (mRest r f (cN x1)))) (W.runV (C := RX7) (As := [.int x1]) (rest := [.ref (z 0)]) S0 (c_X7_rested l G _ z r (upF f 0 (nI 0)) hP x1 (cN x1) (mIn_le c_1 (by decide)).1 (Nat.lt_of_le_of_lt (mIn_le c_1 (by decide)).2 (by decide))) (cwV 1 hts gX7_turn_X7_rested rfl rfl rfl (by decide +kernel) ⟨Nat.le_of_ble_eq_true rfl, Nat.le_of_ble_eq_true rfl⟩) (g_preV hK hP (q0 := 0) (ci := 7) (q := (RX7, TX7, 26)) rfl rfl) rfl rfl hl.1 rfl (lv_room (Nat.le_of_ble_eq_true rfl)) dX7_turn_48 ⟨Nat.zero_le _, Nat.zero_le _⟩) ?_
          refine lv_if_ne (tgt := 75) hx hb dX7_turn_51 (by decide) (fun c_7 => ?_) (fun c_7 => ?_)
          · have c_7 := b2i_t c_7
            refine lv_iconst (v := nI 3) hx hb dX7_turn_75 (by decide +kernel) ?_
            refine lv_goto (tgt := 80) hx hb dX7_turn_76 (by decide) ?_
            refine va_put (D := G.1) (ci := 7) (v := .int (nI 3)) (ty := .int) (C := RX7) (T := TX7) (N := 26) hx hb hts hinX7 tyX7 tyX7_ok nmX7 hown hK.1 hP hD hS 0 rfl rfl 0 (by decide) (hts (.fieldLink RX7 72 "RotaforgeModel" "thrown" "I") (by decide +kernel)) (fun _ h9 => h9) rfl (by decide +kernel) rfl rfl (Nat.le_of_ble_eq_true rfl) dX7_turn_80 (fun H locs hP hD hS => ?_)
            have hP : va_P G.1 vwCl (wRM G z r (upF (upF f 0 (nI 0)) 0 (nI 3))) H := gMs_0 hP
            have hD : va_D (gF z 20) (wRM G z r (upF (upF f 0 (nI 0)) 0 (nI 3))) := gD_RM hz
            refine lv_aload_n hx hb dX7_turn_83 rfl (lv_at hl 0 rfl) ?_
            refine va_get (D := G.1) (ci := 7) (v := .int (nI 3)) (C := RX7) (T := TX7) (N := 26) hx hb hts hinX7 hown hK.1 hP 0 rfl rfl 0 (by decide) (hts (.fieldLink RX7 72 "RotaforgeModel" "thrown" "I") (by decide +kernel)) (fun _ h9 => h9) rfl dX7_turn_84 ?_
            refine lv_if_le (tgt := 94) hx hb dX7_turn_87 (by decide) (fun c_8 => ?_) (fun c_8 => ?_)
            · exact absurd c_8 (by decide)
            · refine lv_iconst (v := nI 0) hx hb dX7_turn_90 (by decide +kernel) ?_
              refine lv_goto (tgt := 102) hx hb dX7_turn_91 (by decide) ?_
              have hq : (nI 0) = ((mTurnQ r f n x1 x2 x3).2) := by
                first | with_reducible rfl | with_reducible exact nI_add _ _ | (simp only [upF_uu, mTurnQ, c_1, c_3, c_4, eq_true c_6, c_7, eq_false c_8, ↓reduceIte, Bool.false_eq_true, decide_true, decide_false, Bool.not_true, Bool.not_false, Bool.or_true, Bool.true_or, Bool.or_false, Bool.false_or]; done) | (simp only [upF_uu, mTurnQ, c_1, c_3, c_4, eq_true c_6, c_7, eq_false c_8, ↓reduceIte, Bool.false_eq_true, decide_true, decide_false, Bool.not_true, Bool.not_false, Bool.or_true, Bool.true_or, Bool.or_false, Bool.false_or]; with_reducible rfl) | (simp only [upF_uu, mTurnQ, c_1, c_3, c_4, eq_true c_6, c_7, eq_false c_8, ↓reduceIte, Bool.false_eq_true, decide_true, decide_false, Bool.not_true, Bool.not_false, Bool.or_true, Bool.true_or, Bool.or_false, Bool.false_or]; rfl) | (simp [b2i, upF_uu, mTurnQ, c_1, c_3, c_4, eq_true c_6, c_7, eq_false c_8]; done) | rfl
              have hPf : va_P G.1 vwCl (wRM G z ((mTurnQ r f n x1 x2 x3).1.1) ((mTurnQ r f n x1 x2 x3).1.2)) H := by
                have e1 : (mTurnQ r f n x1 x2 x3).1.1 = r := by first | with_reducible rfl | (simp only [upF_uu, mTurnQ, c_1, c_3, c_4, eq_true c_6, c_7, eq_false c_8, ↓reduceIte, Bool.false_eq_true]; done) | (simp only [upF_uu, mTurnQ, c_1, c_3, c_4, eq_true c_6, c_7, eq_false c_8, ↓reduceIte, Bool.false_eq_true]; rfl) | rfl
                have e2 : (mTurnQ r f n x1 x2 x3).1.2 = upF (upF f 0 (nI 0)) 0 (nI 3) := by first | with_reducible rfl | (simp only [upF_uu, mTurnQ, c_1, c_3, c_4, eq_true c_6, c_7, eq_false c_8, ↓reduceIte, Bool.false_eq_true]; done) | (simp only [upF_uu, mTurnQ, c_1, c_3, c_4, eq_true c_6, c_7, eq_false c_8, ↓reduceIte, Bool.false_eq_true]; rfl) | rfl
                rw [e1, e2]; exact hP
              exact W.iret (v := nI 0) hx hb hr (fun t ht _ => ⟨⟨_, (), rfl, hq, g_hp ht hPf⟩, hS.F ht⟩) hS.2.2 dX7_turn_102
          · have c_7 := b2i_f c_7
            refine lv_aload_n hx hb dX7_turn_54 rfl (lv_at hl 0 rfl) ?_
            refine lv_iconst (v := nI 0) hx hb dX7_turn_55 (by decide +kernel) ?_
            refine lv_iload_n hx hb dX7_turn_56 rfl (lv_at hl 2 rfl) ?_
            refine lv_iconst (v := (-1)) hx hb dX7_turn_57 (by decide +kernel) ?_
            refine g_callC (W.runV (C := RX7) (As := [.int (nI 0), .int x2, .int (-1)]) (rest := [.ref (z 0)]) S0 (c_X7_valueOf l G _ z r (upF f 0 (nI 0)) hP (nI 0) x2 (-1) n d k t hM) (cwV 3 hts gX7_turn_X7_valueOf rfl rfl rfl (by decide +kernel) ⟨Nat.le_of_ble_eq_true rfl, Nat.le_of_ble_eq_true rfl⟩) (g_preV hK hP (q0 := 0) (ci := 7) (q := (RX7, TX7, 26)) rfl rfl) rfl rfl hl.1 rfl (lv_room (Nat.le_of_ble_eq_true rfl)) dX7_turn_58 ⟨Nat.zero_le _, Nat.zero_le _⟩) ?_
            refine lv_iload_n hx hb dX7_turn_61 rfl (lv_at hl 3 rfl) ?_
            refine lv_icmp_eq (tgt := 75) hx hb dX7_turn_62 (by decide) (fun c_9 => ?_) (fun c_9 => ?_)
            · refine lv_iconst (v := nI 3) hx hb dX7_turn_75 (by decide +kernel) ?_
              refine lv_goto (tgt := 80) hx hb dX7_turn_76 (by decide) ?_
              refine va_put (D := G.1) (ci := 7) (v := .int (nI 3)) (ty := .int) (C := RX7) (T := TX7) (N := 26) hx hb hts hinX7 tyX7 tyX7_ok nmX7 hown hK.1 hP hD hS 0 rfl rfl 0 (by decide) (hts (.fieldLink RX7 72 "RotaforgeModel" "thrown" "I") (by decide +kernel)) (fun _ h9 => h9) rfl (by decide +kernel) rfl rfl (Nat.le_of_ble_eq_true rfl) dX7_turn_80 (fun H locs hP hD hS => ?_)
              have hP : va_P G.1 vwCl (wRM G z r (upF (upF f 0 (nI 0)) 0 (nI 3))) H := gMs_0 hP
              have hD : va_D (gF z 20) (wRM G z r (upF (upF f 0 (nI 0)) 0 (nI 3))) := gD_RM hz
              refine lv_aload_n hx hb dX7_turn_83 rfl (lv_at hl 0 rfl) ?_
              refine va_get (D := G.1) (ci := 7) (v := .int (nI 3)) (C := RX7) (T := TX7) (N := 26) hx hb hts hinX7 hown hK.1 hP 0 rfl rfl 0 (by decide) (hts (.fieldLink RX7 72 "RotaforgeModel" "thrown" "I") (by decide +kernel)) (fun _ h9 => h9) rfl dX7_turn_84 ?_
              refine lv_if_le (tgt := 94) hx hb dX7_turn_87 (by decide) (fun c_10 => ?_) (fun c_10 => ?_)
              · exact absurd c_10 (by decide)
              · refine lv_iconst (v := nI 0) hx hb dX7_turn_90 (by decide +kernel) ?_
                refine lv_goto (tgt := 102) hx hb dX7_turn_91 (by decide) ?_
                have hq : (nI 0) = ((mTurnQ r f n x1 x2 x3).2) := by
                  first | with_reducible rfl | with_reducible exact nI_add _ _ | (simp only [upF_uu, mTurnQ, c_1, c_3, c_4, eq_true c_6, c_7, eq_true c_9, eq_false c_10, ↓reduceIte, Bool.false_eq_true, decide_true, decide_false, Bool.not_true, Bool.not_false, Bool.or_true, Bool.true_or, Bool.or_false, Bool.false_or]; done) | (simp only [upF_uu, mTurnQ, c_1, c_3, c_4, eq_true c_6, c_7, eq_true c_9, eq_false c_10, ↓reduceIte, Bool.false_eq_true, decide_true, decide_false, Bool.not_true, Bool.not_false, Bool.or_true, Bool.true_or, Bool.or_false, Bool.false_or]; with_reducible rfl) | (simp only [upF_uu, mTurnQ, c_1, c_3, c_4, eq_true c_6, c_7, eq_true c_9, eq_false c_10, ↓reduceIte, Bool.false_eq_true, decide_true, decide_false, Bool.not_true, Bool.not_false, Bool.or_true, Bool.true_or, Bool.or_false, Bool.false_or]; rfl) | (simp [b2i, upF_uu, mTurnQ, c_1, c_3, c_4, eq_true c_6, c_7, eq_true c_9, eq_false c_10]; done) | rfl
                have hPf : va_P G.1 vwCl (wRM G z ((mTurnQ r f n x1 x2 x3).1.1) ((mTurnQ r f n x1 x2 x3).1.2)) H := by
                  have e1 : (mTurnQ r f n x1 x2 x3).1.1 = r := by first | with_reducible rfl | (simp only [upF_uu, mTurnQ, c_1, c_3, c_4, eq_true c_6, c_7, eq_true c_9, eq_false c_10, ↓reduceIte, Bool.false_eq_true]; done) | (simp only [upF_uu, mTurnQ, c_1, c_3, c_4, eq_true c_6, c_7, eq_true c_9, eq_false c_10, ↓reduceIte, Bool.false_eq_true]; rfl) | rfl
                  have e2 : (mTurnQ r f n x1 x2 x3).1.2 = upF (upF f 0 (nI 0)) 0 (nI 3) := by first | with_reducible rfl | (simp only [upF_uu, mTurnQ, c_1, c_3, c_4, eq_true c_6, c_7, eq_true c_9, eq_false c_10, ↓reduceIte, Bool.false_eq_true]; done) | (simp only [upF_uu, mTurnQ, c_1, c_3, c_4, eq_true c_6, c_7, eq_true c_9, eq_false c_10, ↓reduceIte, Bool.false_eq_true]; rfl) | rfl
                  rw [e1, e2]; exact hP
                exact W.iret (v := nI 0) hx hb hr (fun t ht _ => ⟨⟨_, (), rfl, hq, g_hp ht hPf⟩, hS.F ht⟩) hS.2.2 dX7_turn_102
            · refine lv_aload_n hx hb dX7_turn_65 rfl (lv_at hl 0 rfl) ?_
              refine va_get (D := G.1) (ci := 7) (v := .int (f 4)) (C := RX7) (T := TX7) (N := 26) hx hb hts hinX7 hown hK.1 hP 0 rfl rfl 8 (by decide) (hts (.fieldLink RX7 79 "RotaforgeModel" "changeMany" "I") (by decide +kernel)) (fun _ h9 => h9) rfl dX7_turn_66 ?_
              refine lv_sipush (v := nI 200) hx hb dX7_turn_69 (by decide +kernel) ?_
              refine lv_icmp_ne (tgt := 79) hx hb dX7_turn_72 (by decide) (fun c_11 => ?_) (fun c_11 => ?_)
              · refine lv_iconst (v := nI 0) hx hb dX7_turn_79 (by decide +kernel) ?_
                refine va_put (D := G.1) (ci := 7) (v := .int (nI 0)) (ty := .int) (C := RX7) (T := TX7) (N := 26) hx hb hts hinX7 tyX7 tyX7_ok nmX7 hown hK.1 hP hD hS 0 rfl rfl 0 (by decide) (hts (.fieldLink RX7 72 "RotaforgeModel" "thrown" "I") (by decide +kernel)) (fun _ h9 => h9) rfl (by decide +kernel) rfl rfl (Nat.le_of_ble_eq_true rfl) dX7_turn_80 (fun H locs hP hD hS => ?_)
                have hP : va_P G.1 vwCl (wRM G z r (upF (upF f 0 (nI 0)) 0 (nI 0))) H := gMs_0 hP
                have hD : va_D (gF z 20) (wRM G z r (upF (upF f 0 (nI 0)) 0 (nI 0))) := gD_RM hz
                refine lv_aload_n hx hb dX7_turn_83 rfl (lv_at hl 0 rfl) ?_
                refine va_get (D := G.1) (ci := 7) (v := .int (nI 0)) (C := RX7) (T := TX7) (N := 26) hx hb hts hinX7 hown hK.1 hP 0 rfl rfl 0 (by decide) (hts (.fieldLink RX7 72 "RotaforgeModel" "thrown" "I") (by decide +kernel)) (fun _ h9 => h9) rfl dX7_turn_84 ?_
                refine lv_if_le (tgt := 94) hx hb dX7_turn_87 (by decide) (fun c_12 => ?_) (fun c_12 => ?_)
                · refine lv_aload_n hx hb dX7_turn_94 rfl (lv_at hl 0 rfl) ?_
                  refine lv_iload_n hx hb dX7_turn_95 rfl (lv_at hl 1 rfl) ?_
                  refine lv_iconst (v := nI 0) hx hb dX7_turn_96 (by decide +kernel) ?_
                  refine lv_iload_n hx hb dX7_turn_97 rfl (lv_at hl 2 rfl) ?_
                  refine lv_iload_n hx hb dX7_turn_98 rfl (lv_at hl 3 rfl) ?_
                  refine g_callw (va_runV (C := RX7) (As := [.int x1, .int (nI 0), .int x2, .int x3]) (rest := []) S0 (c_X7_makes l G _ z hz r (upF (upF f 0 (nI 0)) 0 (nI 0)) hP x1 (nI 0) x2 x3 n d k t hM (by have h9 : ¬ n = 200 := fun h => c_11 (by rw [← h]; exact hn); omega)) (cwV 4 hts gX7_turn_X7_makes rfl rfl rfl (by decide +kernel) ⟨Nat.le_of_ble_eq_true rfl, Nat.le_of_ble_eq_true rfl⟩) (g_preV hK hP (q0 := 0) (ci := 7) (q := (RX7, TX7, 26)) rfl rfl) rfl rfl hl.1 rfl (lv_room (Nat.le_of_ble_eq_true rfl)) dX7_turn_99 ⟨Nat.zero_le _, Nat.zero_le _⟩) hS (fun _ h => h) (fun _ h => h) (fun H locs hP _ hS => ?_)
                  have hP : va_P G.1 vwCl (wRM G z (mMakeR r (upF (upF f 0 (nI 0)) 0 (nI 0)) n x1 (nI 0) x2 x3) (upF (upF (upF f 0 (nI 0)) 0 (nI 0)) 4 ((upF (upF f 0 (nI 0)) 0 (nI 0)) 4 + nI 1))) H := hP
                  have hD : va_D (gF z 20) (wRM G z (mMakeR r (upF (upF f 0 (nI 0)) 0 (nI 0)) n x1 (nI 0) x2 x3) (upF (upF (upF f 0 (nI 0)) 0 (nI 0)) 4 ((upF (upF f 0 (nI 0)) 0 (nI 0)) 4 + nI 1))) := gD_RM hz
                  have hq : ((upF (upF f 0 (nI 0)) 0 (nI 0)) 4 + nI 1 - nI 1) = ((mTurnQ r f n x1 x2 x3).2) := by
                    first | with_reducible rfl | with_reducible exact nI_add _ _ | (simp only [upF_uu, mTurnQ, c_1, c_3, c_4, eq_true c_6, c_7, eq_false c_9, eq_false c_11, eq_true c_12, ↓reduceIte, Bool.false_eq_true, decide_true, decide_false, Bool.not_true, Bool.not_false, Bool.or_true, Bool.true_or, Bool.or_false, Bool.false_or]; done) | (simp only [upF_uu, mTurnQ, c_1, c_3, c_4, eq_true c_6, c_7, eq_false c_9, eq_false c_11, eq_true c_12, ↓reduceIte, Bool.false_eq_true, decide_true, decide_false, Bool.not_true, Bool.not_false, Bool.or_true, Bool.true_or, Bool.or_false, Bool.false_or]; with_reducible rfl) | (simp only [upF_uu, mTurnQ, c_1, c_3, c_4, eq_true c_6, c_7, eq_false c_9, eq_false c_11, eq_true c_12, ↓reduceIte, Bool.false_eq_true, decide_true, decide_false, Bool.not_true, Bool.not_false, Bool.or_true, Bool.true_or, Bool.or_false, Bool.false_or]; rfl) | (simp [b2i, upF_uu, mTurnQ, c_1, c_3, c_4, eq_true c_6, c_7, eq_false c_9, eq_false c_11, eq_true c_12]; done) | rfl
                  have hPf : va_P G.1 vwCl (wRM G z ((mTurnQ r f n x1 x2 x3).1.1) ((mTurnQ r f n x1 x2 x3).1.2)) H := by
                    have e1 : (mTurnQ r f n x1 x2 x3).1.1 = mMakeR r (upF (upF f 0 (nI 0)) 0 (nI 0)) n x1 (nI 0) x2 x3 := by first | with_reducible rfl | (simp only [upF_uu, mTurnQ, c_1, c_3, c_4, eq_true c_6, c_7, eq_false c_9, eq_false c_11, eq_true c_12, ↓reduceIte, Bool.false_eq_true]; done) | (simp only [upF_uu, mTurnQ, c_1, c_3, c_4, eq_true c_6, c_7, eq_false c_9, eq_false c_11, eq_true c_12, ↓reduceIte, Bool.false_eq_true]; rfl) | rfl
                    have e2 : (mTurnQ r f n x1 x2 x3).1.2 = upF (upF (upF f 0 (nI 0)) 0 (nI 0)) 4 ((upF (upF f 0 (nI 0)) 0 (nI 0)) 4 + nI 1) := by first | with_reducible rfl | (simp only [upF_uu, mTurnQ, c_1, c_3, c_4, eq_true c_6, c_7, eq_false c_9, eq_false c_11, eq_true c_12, ↓reduceIte, Bool.false_eq_true]; done) | (simp only [upF_uu, mTurnQ, c_1, c_3, c_4, eq_true c_6, c_7, eq_false c_9, eq_false c_11, eq_true c_12, ↓reduceIte, Bool.false_eq_true]; rfl) | rfl
                    rw [e1, e2]; exact hP
                  exact W.iret (v := (upF (upF f 0 (nI 0)) 0 (nI 0)) 4 + nI 1 - nI 1) hx hb hr (fun t ht _ => ⟨⟨_, (), rfl, hq, g_hp ht hPf⟩, hS.F ht⟩) hS.2.2 dX7_turn_102
                · exact absurd (by decide) c_12
              · refine lv_iconst (v := nI 3) hx hb dX7_turn_75 (by decide +kernel) ?_
                refine lv_goto (tgt := 80) hx hb dX7_turn_76 (by decide) ?_
                refine va_put (D := G.1) (ci := 7) (v := .int (nI 3)) (ty := .int) (C := RX7) (T := TX7) (N := 26) hx hb hts hinX7 tyX7 tyX7_ok nmX7 hown hK.1 hP hD hS 0 rfl rfl 0 (by decide) (hts (.fieldLink RX7 72 "RotaforgeModel" "thrown" "I") (by decide +kernel)) (fun _ h9 => h9) rfl (by decide +kernel) rfl rfl (Nat.le_of_ble_eq_true rfl) dX7_turn_80 (fun H locs hP hD hS => ?_)
                have hP : va_P G.1 vwCl (wRM G z r (upF (upF f 0 (nI 0)) 0 (nI 3))) H := gMs_0 hP
                have hD : va_D (gF z 20) (wRM G z r (upF (upF f 0 (nI 0)) 0 (nI 3))) := gD_RM hz
                refine lv_aload_n hx hb dX7_turn_83 rfl (lv_at hl 0 rfl) ?_
                refine va_get (D := G.1) (ci := 7) (v := .int (nI 3)) (C := RX7) (T := TX7) (N := 26) hx hb hts hinX7 hown hK.1 hP 0 rfl rfl 0 (by decide) (hts (.fieldLink RX7 72 "RotaforgeModel" "thrown" "I") (by decide +kernel)) (fun _ h9 => h9) rfl dX7_turn_84 ?_
                refine lv_if_le (tgt := 94) hx hb dX7_turn_87 (by decide) (fun c_13 => ?_) (fun c_13 => ?_)
                · exact absurd c_13 (by decide)
                · refine lv_iconst (v := nI 0) hx hb dX7_turn_90 (by decide +kernel) ?_
                  refine lv_goto (tgt := 102) hx hb dX7_turn_91 (by decide) ?_
                  have hq : (nI 0) = ((mTurnQ r f n x1 x2 x3).2) := by
                    first | with_reducible rfl | with_reducible exact nI_add _ _ | (simp only [upF_uu, mTurnQ, c_1, c_3, c_4, eq_true c_6, c_7, eq_false c_9, eq_true c_11, eq_false c_13, ↓reduceIte, Bool.false_eq_true, decide_true, decide_false, Bool.not_true, Bool.not_false, Bool.or_true, Bool.true_or, Bool.or_false, Bool.false_or]; done) | (simp only [upF_uu, mTurnQ, c_1, c_3, c_4, eq_true c_6, c_7, eq_false c_9, eq_true c_11, eq_false c_13, ↓reduceIte, Bool.false_eq_true, decide_true, decide_false, Bool.not_true, Bool.not_false, Bool.or_true, Bool.true_or, Bool.or_false, Bool.false_or]; with_reducible rfl) | (simp only [upF_uu, mTurnQ, c_1, c_3, c_4, eq_true c_6, c_7, eq_false c_9, eq_true c_11, eq_false c_13, ↓reduceIte, Bool.false_eq_true, decide_true, decide_false, Bool.not_true, Bool.not_false, Bool.or_true, Bool.true_or, Bool.or_false, Bool.false_or]; rfl) | (simp [b2i, upF_uu, mTurnQ, c_1, c_3, c_4, eq_true c_6, c_7, eq_false c_9, eq_true c_11, eq_false c_13]; done) | rfl
                  have hPf : va_P G.1 vwCl (wRM G z ((mTurnQ r f n x1 x2 x3).1.1) ((mTurnQ r f n x1 x2 x3).1.2)) H := by
                    have e1 : (mTurnQ r f n x1 x2 x3).1.1 = r := by first | with_reducible rfl | (simp only [upF_uu, mTurnQ, c_1, c_3, c_4, eq_true c_6, c_7, eq_false c_9, eq_true c_11, eq_false c_13, ↓reduceIte, Bool.false_eq_true]; done) | (simp only [upF_uu, mTurnQ, c_1, c_3, c_4, eq_true c_6, c_7, eq_false c_9, eq_true c_11, eq_false c_13, ↓reduceIte, Bool.false_eq_true]; rfl) | rfl
                    have e2 : (mTurnQ r f n x1 x2 x3).1.2 = upF (upF f 0 (nI 0)) 0 (nI 3) := by first | with_reducible rfl | (simp only [upF_uu, mTurnQ, c_1, c_3, c_4, eq_true c_6, c_7, eq_false c_9, eq_true c_11, eq_false c_13, ↓reduceIte, Bool.false_eq_true]; done) | (simp only [upF_uu, mTurnQ, c_1, c_3, c_4, eq_true c_6, c_7, eq_false c_9, eq_true c_11, eq_false c_13, ↓reduceIte, Bool.false_eq_true]; rfl) | rfl
                    rw [e1, e2]; exact hP
                  exact W.iret (v := nI 0) hx hb hr (fun t ht _ => ⟨⟨_, (), rfl, hq, g_hp ht hPf⟩, hS.F ht⟩) hS.2.2 dX7_turn_102
        · exact absurd (by decide) c_6
    · have c_3 := b2i_f c_3
      refine lv_iconst (v := nI 1) hx hb dX7_turn_15 (by decide +kernel) ?_
      refine lv_goto (tgt := 33) hx hb dX7_turn_16 (by decide) ?_
      refine va_put (D := G.1) (ci := 7) (v := .int (nI 1)) (ty := .int) (C := RX7) (T := TX7) (N := 26) hx hb hts hinX7 tyX7 tyX7_ok nmX7 hown hK.1 hP hD hS 0 rfl rfl 0 (by decide) (hts (.fieldLink RX7 72 "RotaforgeModel" "thrown" "I") (by decide +kernel)) (fun _ h9 => h9) rfl (by decide +kernel) rfl rfl (Nat.le_of_ble_eq_true rfl) dX7_turn_33 (fun H locs hP hD hS => ?_)
      have hP : va_P G.1 vwCl (wRM G z r (upF f 0 (nI 1))) H := gMs_0 hP
      have hD : va_D (gF z 20) (wRM G z r (upF f 0 (nI 1))) := gD_RM hz
      refine lv_aload_n hx hb dX7_turn_36 rfl (lv_at hl 0 rfl) ?_
      refine va_get (D := G.1) (ci := 7) (v := .int (nI 1)) (C := RX7) (T := TX7) (N := 26) hx hb hts hinX7 hown hK.1 hP 0 rfl rfl 0 (by decide) (hts (.fieldLink RX7 72 "RotaforgeModel" "thrown" "I") (by decide +kernel)) (fun _ h9 => h9) rfl dX7_turn_37 ?_
      refine lv_if_le (tgt := 45) hx hb dX7_turn_40 (by decide) (fun c_14 => ?_) (fun c_14 => ?_)
      · exact absurd c_14 (by decide)
      · refine lv_iconst (v := nI 0) hx hb dX7_turn_43 (by decide +kernel) ?_
        have hq : (nI 0) = ((mTurnQ r f n x1 x2 x3).2) := by
          first | with_reducible rfl | with_reducible exact nI_add _ _ | (simp only [upF_uu, mTurnQ, c_1, c_3, eq_false c_14, ↓reduceIte, Bool.false_eq_true, decide_true, decide_false, Bool.not_true, Bool.not_false, Bool.or_true, Bool.true_or, Bool.or_false, Bool.false_or]; done) | (simp only [upF_uu, mTurnQ, c_1, c_3, eq_false c_14, ↓reduceIte, Bool.false_eq_true, decide_true, decide_false, Bool.not_true, Bool.not_false, Bool.or_true, Bool.true_or, Bool.or_false, Bool.false_or]; with_reducible rfl) | (simp only [upF_uu, mTurnQ, c_1, c_3, eq_false c_14, ↓reduceIte, Bool.false_eq_true, decide_true, decide_false, Bool.not_true, Bool.not_false, Bool.or_true, Bool.true_or, Bool.or_false, Bool.false_or]; rfl) | (simp [b2i, upF_uu, mTurnQ, c_1, c_3, eq_false c_14]; done) | rfl
        have hPf : va_P G.1 vwCl (wRM G z ((mTurnQ r f n x1 x2 x3).1.1) ((mTurnQ r f n x1 x2 x3).1.2)) H := by
          have e1 : (mTurnQ r f n x1 x2 x3).1.1 = r := by first | with_reducible rfl | (simp only [upF_uu, mTurnQ, c_1, c_3, eq_false c_14, ↓reduceIte, Bool.false_eq_true]; done) | (simp only [upF_uu, mTurnQ, c_1, c_3, eq_false c_14, ↓reduceIte, Bool.false_eq_true]; rfl) | rfl
          have e2 : (mTurnQ r f n x1 x2 x3).1.2 = upF f 0 (nI 1) := by first | with_reducible rfl | (simp only [upF_uu, mTurnQ, c_1, c_3, eq_false c_14, ↓reduceIte, Bool.false_eq_true]; done) | (simp only [upF_uu, mTurnQ, c_1, c_3, eq_false c_14, ↓reduceIte, Bool.false_eq_true]; rfl) | rfl
          rw [e1, e2]; exact hP
        exact W.iret (v := nI 0) hx hb hr (fun t ht _ => ⟨⟨_, (), rfl, hq, g_hp ht hPf⟩, hS.F ht⟩) hS.2.2 dX7_turn_44

set_option maxHeartbeats 4000000 in
set_option maxRecDepth 100000 in
theorem c_X7_roll (l : Launch) (G : gG) (H0 : Heap) (z : Nat → Nat) (hz : gDis z 20) (r : Nat → Nat → Int32) (f : Nat → Int32) (hP : va_P G.1 vwCl (wRM G z r f) H0) (x1 : Int32) (x2 : Int32) (x3 : Int32) (n d k t : Nat) (hM : mOK r f n d k t) : gMw l yX7_roll wsX7_roll 3 74 G H0 [.ref (z 0), .int x1, .int x2, .int x3] ((mRollQ r f n k x1 x2 x3).2) (wRM G z ((mRollQ r f n k x1 x2 x3).1.1) ((mRollQ r f n k x1 x2 x3).1.2)) (gF z 20) := by
  refine Met.ofW (cc := cX7_roll) (maxL := 5) (ret := (some .int)) (by decide) rfl ?_
  intro p_ e_ s m args below meth c s₁ B hml hv
  obtain ⟨rfl, rfl, hK⟩ := hv
  have hx := B.exec
  have hb := B.bytes
  have hr := B.returns
  have hts := atoms_spec (ws := wsX7_roll) B.pre
  have hown : s.vm.findClass RX7 = some m.cls := findClass_of_methodNamed B.named
  have hlocks := B.notSynchronized
  have hinX7 : ∀ w ∈ wsX70, w ∈ wsX7_roll := by decide +kernel
  have S0 : CallFix p_ m c cX7_roll 5 s _ wsX7_roll RX7 := ⟨hx, hb, hml, hown, hts⟩
  have hD : va_D (gF z 20) (wRM G z r f) := gD_RM hz
  have hS : va_S (gF z 20) s.heap s.heap [] := va_S.rf
  have hl := lv_entry ([.ref (z 0), .int x1, .int x2, .int x3]) (n := 5) (Nat.le_of_ble_eq_true rfl)
  rw [lg_entry_eq]
  generalize (lg_sl ([.ref (z 0), .int x1, .int x2, .int x3]) ++ List.replicate (5 - (lg_sl ([.ref (z 0), .int x1, .int x2, .int x3])).length) Slot.unset).toArray = ls at hl ⊢
  have hl : lv_has ls 5 [(0, .ref (z 0)), (1, .int x1), (2, .int x2), (3, .int x3)] := hl
  obtain ⟨hn, hn2, hd, hd2, hk, hk2, ht, ht2, hh, hm⟩ := id hM
  refine lv_aload_n hx hb dX7_roll_0 rfl (lv_at hl 0 rfl) ?_
  refine lv_iload_n hx hb dX7_roll_1 rfl (lv_at hl 1 rfl) ?_
  refine g_callC (W.runS (As := [.int x1]) (rest := [.ref (z 0)]) S0 (c_X7_isPerson l G _ x1) (va_cwS 1 hts gX7_roll_X7_isPerson rfl rfl rfl (by decide +kernel) ⟨Nat.le_of_ble_eq_true rfl, Nat.le_of_ble_eq_true rfl⟩) (g_preS hK) rfl rfl hl.1 rfl (lv_room (Nat.le_of_ble_eq_true rfl)) dX7_roll_2 ⟨Nat.zero_le _, Nat.zero_le _⟩) ?_
  refine lv_if_eq (tgt := 23) hx hb dX7_roll_5 (by decide) (fun c_1 => ?_) (fun c_1 => ?_)
  · have c_1 := b2i_f c_1
    refine lv_iconst (v := nI 1) hx hb dX7_roll_23 (by decide +kernel) ?_
    refine lv_goto (tgt := 28) hx hb dX7_roll_24 (by decide) ?_
    refine va_put (D := G.1) (ci := 7) (v := .int (nI 1)) (ty := .int) (C := RX7) (T := TX7) (N := 26) hx hb hts hinX7 tyX7 tyX7_ok nmX7 hown hK.1 hP hD hS 0 rfl rfl 0 (by decide) (hts (.fieldLink RX7 72 "RotaforgeModel" "thrown" "I") (by decide +kernel)) (fun _ h9 => h9) rfl (by decide +kernel) rfl rfl (Nat.le_of_ble_eq_true rfl) dX7_roll_28 (fun H locs hP hD hS => ?_)
    have hP : va_P G.1 vwCl (wRM G z r (upF f 0 (nI 1))) H := gMs_0 hP
    have hD : va_D (gF z 20) (wRM G z r (upF f 0 (nI 1))) := gD_RM hz
    refine lv_aload_n hx hb dX7_roll_31 rfl (lv_at hl 0 rfl) ?_
    refine va_get (D := G.1) (ci := 7) (v := .int (nI 1)) (C := RX7) (T := TX7) (N := 26) hx hb hts hinX7 hown hK.1 hP 0 rfl rfl 0 (by decide) (hts (.fieldLink RX7 72 "RotaforgeModel" "thrown" "I") (by decide +kernel)) (fun _ h9 => h9) rfl dX7_roll_32 ?_
    refine lv_if_le (tgt := 40) hx hb dX7_roll_35 (by decide) (fun c_2 => ?_) (fun c_2 => ?_)
    · exact absurd c_2 (by decide)
    · refine lv_iconst (v := nI 0) hx hb dX7_roll_38 (by decide +kernel) ?_
      have hq : (nI 0) = ((mRollQ r f n k x1 x2 x3).2) := by
        first | with_reducible rfl | with_reducible exact nI_add _ _ | (simp only [upF_uu, mRollQ, c_1, eq_false c_2, ↓reduceIte, Bool.false_eq_true, decide_true, decide_false, Bool.not_true, Bool.not_false, Bool.or_true, Bool.true_or, Bool.or_false, Bool.false_or]; done) | (simp only [upF_uu, mRollQ, c_1, eq_false c_2, ↓reduceIte, Bool.false_eq_true, decide_true, decide_false, Bool.not_true, Bool.not_false, Bool.or_true, Bool.true_or, Bool.or_false, Bool.false_or]; with_reducible rfl) | (simp only [upF_uu, mRollQ, c_1, eq_false c_2, ↓reduceIte, Bool.false_eq_true, decide_true, decide_false, Bool.not_true, Bool.not_false, Bool.or_true, Bool.true_or, Bool.or_false, Bool.false_or]; rfl) | (simp [b2i, upF_uu, mRollQ, c_1, eq_false c_2]; done) | rfl
      have hPf : va_P G.1 vwCl (wRM G z ((mRollQ r f n k x1 x2 x3).1.1) ((mRollQ r f n k x1 x2 x3).1.2)) H := by
        have e1 : (mRollQ r f n k x1 x2 x3).1.1 = r := by first | with_reducible rfl | (simp only [upF_uu, mRollQ, c_1, eq_false c_2, ↓reduceIte, Bool.false_eq_true]; done) | (simp only [upF_uu, mRollQ, c_1, eq_false c_2, ↓reduceIte, Bool.false_eq_true]; rfl) | rfl
        have e2 : (mRollQ r f n k x1 x2 x3).1.2 = upF f 0 (nI 1) := by first | with_reducible rfl | (simp only [upF_uu, mRollQ, c_1, eq_false c_2, ↓reduceIte, Bool.false_eq_true]; done) | (simp only [upF_uu, mRollQ, c_1, eq_false c_2, ↓reduceIte, Bool.false_eq_true]; rfl) | rfl
        rw [e1, e2]; exact hP
      exact W.iret (v := nI 0) hx hb hr (fun t ht _ => ⟨⟨_, (), rfl, hq, g_hp ht hPf⟩, hS.F ht⟩) hS.2.2 dX7_roll_39
  · have c_1 := b2i_t c_1
    refine lv_iload_n hx hb dX7_roll_8 rfl (lv_at hl 2 rfl) ?_
    refine g_callC (W.runS (As := [.int x2]) (rest := [.ref (z 0)]) S0 (c_X7_isRing l G _ x2) (va_cwS 1 hts gX7_roll_X7_isRing rfl rfl rfl (by decide +kernel) ⟨Nat.le_of_ble_eq_true rfl, Nat.le_of_ble_eq_true rfl⟩) (g_preS hK) rfl rfl hl.1 rfl (lv_room (Nat.le_of_ble_eq_true rfl)) dX7_roll_9 ⟨Nat.zero_le _, Nat.zero_le _⟩) ?_
    refine lv_if_eq (tgt := 23) hx hb dX7_roll_12 (by decide) (fun c_3 => ?_) (fun c_3 => ?_)
    · have c_3 := b2i_f c_3
      refine lv_iconst (v := nI 1) hx hb dX7_roll_23 (by decide +kernel) ?_
      refine lv_goto (tgt := 28) hx hb dX7_roll_24 (by decide) ?_
      refine va_put (D := G.1) (ci := 7) (v := .int (nI 1)) (ty := .int) (C := RX7) (T := TX7) (N := 26) hx hb hts hinX7 tyX7 tyX7_ok nmX7 hown hK.1 hP hD hS 0 rfl rfl 0 (by decide) (hts (.fieldLink RX7 72 "RotaforgeModel" "thrown" "I") (by decide +kernel)) (fun _ h9 => h9) rfl (by decide +kernel) rfl rfl (Nat.le_of_ble_eq_true rfl) dX7_roll_28 (fun H locs hP hD hS => ?_)
      have hP : va_P G.1 vwCl (wRM G z r (upF f 0 (nI 1))) H := gMs_0 hP
      have hD : va_D (gF z 20) (wRM G z r (upF f 0 (nI 1))) := gD_RM hz
      refine lv_aload_n hx hb dX7_roll_31 rfl (lv_at hl 0 rfl) ?_
      refine va_get (D := G.1) (ci := 7) (v := .int (nI 1)) (C := RX7) (T := TX7) (N := 26) hx hb hts hinX7 hown hK.1 hP 0 rfl rfl 0 (by decide) (hts (.fieldLink RX7 72 "RotaforgeModel" "thrown" "I") (by decide +kernel)) (fun _ h9 => h9) rfl dX7_roll_32 ?_
      refine lv_if_le (tgt := 40) hx hb dX7_roll_35 (by decide) (fun c_4 => ?_) (fun c_4 => ?_)
      · exact absurd c_4 (by decide)
      · refine lv_iconst (v := nI 0) hx hb dX7_roll_38 (by decide +kernel) ?_
        have hq : (nI 0) = ((mRollQ r f n k x1 x2 x3).2) := by
          first | with_reducible rfl | with_reducible exact nI_add _ _ | (simp only [upF_uu, mRollQ, c_1, c_3, eq_false c_4, ↓reduceIte, Bool.false_eq_true, decide_true, decide_false, Bool.not_true, Bool.not_false, Bool.or_true, Bool.true_or, Bool.or_false, Bool.false_or]; done) | (simp only [upF_uu, mRollQ, c_1, c_3, eq_false c_4, ↓reduceIte, Bool.false_eq_true, decide_true, decide_false, Bool.not_true, Bool.not_false, Bool.or_true, Bool.true_or, Bool.or_false, Bool.false_or]; with_reducible rfl) | (simp only [upF_uu, mRollQ, c_1, c_3, eq_false c_4, ↓reduceIte, Bool.false_eq_true, decide_true, decide_false, Bool.not_true, Bool.not_false, Bool.or_true, Bool.true_or, Bool.or_false, Bool.false_or]; rfl) | (simp [b2i, upF_uu, mRollQ, c_1, c_3, eq_false c_4]; done) | rfl
        have hPf : va_P G.1 vwCl (wRM G z ((mRollQ r f n k x1 x2 x3).1.1) ((mRollQ r f n k x1 x2 x3).1.2)) H := by
          have e1 : (mRollQ r f n k x1 x2 x3).1.1 = r := by first | with_reducible rfl | (simp only [upF_uu, mRollQ, c_1, c_3, eq_false c_4, ↓reduceIte, Bool.false_eq_true]; done) | (simp only [upF_uu, mRollQ, c_1, c_3, eq_false c_4, ↓reduceIte, Bool.false_eq_true]; rfl) | rfl
          have e2 : (mRollQ r f n k x1 x2 x3).1.2 = upF f 0 (nI 1) := by first | with_reducible rfl | (simp only [upF_uu, mRollQ, c_1, c_3, eq_false c_4, ↓reduceIte, Bool.false_eq_true]; done) | (simp only [upF_uu, mRollQ, c_1, c_3, eq_false c_4, ↓reduceIte, Bool.false_eq_true]; rfl) | rfl
          rw [e1, e2]; exact hP
        exact W.iret (v := nI 0) hx hb hr (fun t ht _ => ⟨⟨_, (), rfl, hq, g_hp ht hPf⟩, hS.F ht⟩) hS.2.2 dX7_roll_39
    · have c_3 := b2i_t c_3
      refine lv_aload_n hx hb dX7_roll_15 rfl (lv_at hl 0 rfl) ?_
      refine lv_iload_n hx hb dX7_roll_16 rfl (lv_at hl 3 rfl) ?_
      refine g_callC (W.runV (C := RX7) (As := [.int x3]) (rest := [.ref (z 0)]) S0 (c_X7_isVersion l G _ z r f hP x3) (cwV 1 hts gX7_roll_X7_isVersion rfl rfl rfl (by decide +kernel) ⟨Nat.le_of_ble_eq_true rfl, Nat.le_of_ble_eq_true rfl⟩) (g_preV hK hP (q0 := 0) (ci := 7) (q := (RX7, TX7, 26)) rfl rfl) rfl rfl hl.1 rfl (lv_room (Nat.le_of_ble_eq_true rfl)) dX7_roll_17 ⟨Nat.zero_le _, Nat.zero_le _⟩) ?_
      refine lv_if_ne (tgt := 27) hx hb dX7_roll_20 (by decide) (fun c_5 => ?_) (fun c_5 => ?_)
      · have c_5 := b2i_t c_5
        refine lv_iconst (v := nI 0) hx hb dX7_roll_27 (by decide +kernel) ?_
        refine va_put (D := G.1) (ci := 7) (v := .int (nI 0)) (ty := .int) (C := RX7) (T := TX7) (N := 26) hx hb hts hinX7 tyX7 tyX7_ok nmX7 hown hK.1 hP hD hS 0 rfl rfl 0 (by decide) (hts (.fieldLink RX7 72 "RotaforgeModel" "thrown" "I") (by decide +kernel)) (fun _ h9 => h9) rfl (by decide +kernel) rfl rfl (Nat.le_of_ble_eq_true rfl) dX7_roll_28 (fun H locs hP hD hS => ?_)
        have hP : va_P G.1 vwCl (wRM G z r (upF f 0 (nI 0))) H := gMs_0 hP
        have hD : va_D (gF z 20) (wRM G z r (upF f 0 (nI 0))) := gD_RM hz
        refine lv_aload_n hx hb dX7_roll_31 rfl (lv_at hl 0 rfl) ?_
        refine va_get (D := G.1) (ci := 7) (v := .int (nI 0)) (C := RX7) (T := TX7) (N := 26) hx hb hts hinX7 hown hK.1 hP 0 rfl rfl 0 (by decide) (hts (.fieldLink RX7 72 "RotaforgeModel" "thrown" "I") (by decide +kernel)) (fun _ h9 => h9) rfl dX7_roll_32 ?_
        refine lv_if_le (tgt := 40) hx hb dX7_roll_35 (by decide) (fun c_6 => ?_) (fun c_6 => ?_)
        · refine lv_aload_n hx hb dX7_roll_40 rfl (lv_at hl 0 rfl) ?_
          refine lv_iload_n hx hb dX7_roll_41 rfl (lv_at hl 1 rfl) ?_
          refine g_callC (r := (b2i (mRest r f (cN x1)))) (W.runV (C := RX7) (As := [.int x1]) (rest := []) S0 (c_X7_rested l G _ z r (upF f 0 (nI 0)) hP x1 (cN x1) (mIn_le c_1 (by decide)).1 (Nat.lt_of_le_of_lt (mIn_le c_1 (by decide)).2 (by decide))) (cwV 1 hts gX7_roll_X7_rested rfl rfl rfl (by decide +kernel) ⟨Nat.le_of_ble_eq_true rfl, Nat.le_of_ble_eq_true rfl⟩) (g_preV hK hP (q0 := 0) (ci := 7) (q := (RX7, TX7, 26)) rfl rfl) rfl rfl hl.1 rfl (lv_room (Nat.le_of_ble_eq_true rfl)) dX7_roll_42 ⟨Nat.zero_le _, Nat.zero_le _⟩) ?_
          refine lv_if_ne (tgt := 78) hx hb dX7_roll_45 (by decide) (fun c_7 => ?_) (fun c_7 => ?_)
          · have c_7 := b2i_t c_7
            refine lv_iconst (v := nI 1) hx hb dX7_roll_78 (by decide +kernel) ?_
            refine lv_goto (tgt := 83) hx hb dX7_roll_79 (by decide) ?_
            refine lv_istore (lv' := [(4, .int (nI 1)), (0, .ref (z 0)), (1, .int x1), (2, .int x2), (3, .int x3)]) hx hb dX7_roll_83 hl (by decide) rfl (fun ls hl => ?_)
            refine lv_aload_n hx hb dX7_roll_85 rfl (lv_at hl 1 rfl) ?_
            refine lv_iload hx hb dX7_roll_86 (lv_at hl 0 rfl) ?_
            refine lv_if_eq (tgt := 95) hx hb dX7_roll_88 (by decide) (fun c_8 => ?_) (fun c_8 => ?_)
            · exact absurd c_8 (by decide)
            · refine lv_iconst (v := nI 2) hx hb dX7_roll_91 (by decide +kernel) ?_
              refine lv_goto (tgt := 96) hx hb dX7_roll_92 (by decide) ?_
              refine va_put (D := G.1) (ci := 7) (v := .int (nI 2)) (ty := .int) (C := RX7) (T := TX7) (N := 26) hx hb hts hinX7 tyX7 tyX7_ok nmX7 hown hK.1 hP hD hS 0 rfl rfl 0 (by decide) (hts (.fieldLink RX7 72 "RotaforgeModel" "thrown" "I") (by decide +kernel)) (fun _ h9 => h9) rfl (by decide +kernel) rfl rfl (Nat.le_of_ble_eq_true rfl) dX7_roll_96 (fun H locs hP hD hS => ?_)
              have hP : va_P G.1 vwCl (wRM G z r (upF (upF f 0 (nI 0)) 0 (nI 2))) H := gMs_0 hP
              have hD : va_D (gF z 20) (wRM G z r (upF (upF f 0 (nI 0)) 0 (nI 2))) := gD_RM hz
              refine lv_aload_n hx hb dX7_roll_99 rfl (lv_at hl 1 rfl) ?_
              refine va_get (D := G.1) (ci := 7) (v := .int (nI 2)) (C := RX7) (T := TX7) (N := 26) hx hb hts hinX7 hown hK.1 hP 0 rfl rfl 0 (by decide) (hts (.fieldLink RX7 72 "RotaforgeModel" "thrown" "I") (by decide +kernel)) (fun _ h9 => h9) rfl dX7_roll_100 ?_
              refine lv_if_le (tgt := 110) hx hb dX7_roll_103 (by decide) (fun c_9 => ?_) (fun c_9 => ?_)
              · exact absurd c_9 (by decide)
              · refine lv_iconst (v := nI 0) hx hb dX7_roll_106 (by decide +kernel) ?_
                refine lv_goto (tgt := 118) hx hb dX7_roll_107 (by decide) ?_
                have hq : (nI 0) = ((mRollQ r f n k x1 x2 x3).2) := by
                  first | with_reducible rfl | with_reducible exact nI_add _ _ | (simp only [upF_uu, mRollQ, c_1, c_3, c_5, eq_true c_6, c_7, eq_false c_8, eq_false c_9, ↓reduceIte, Bool.false_eq_true, decide_true, decide_false, Bool.not_true, Bool.not_false, Bool.or_true, Bool.true_or, Bool.or_false, Bool.false_or]; done) | (simp only [upF_uu, mRollQ, c_1, c_3, c_5, eq_true c_6, c_7, eq_false c_8, eq_false c_9, ↓reduceIte, Bool.false_eq_true, decide_true, decide_false, Bool.not_true, Bool.not_false, Bool.or_true, Bool.true_or, Bool.or_false, Bool.false_or]; with_reducible rfl) | (simp only [upF_uu, mRollQ, c_1, c_3, c_5, eq_true c_6, c_7, eq_false c_8, eq_false c_9, ↓reduceIte, Bool.false_eq_true, decide_true, decide_false, Bool.not_true, Bool.not_false, Bool.or_true, Bool.true_or, Bool.or_false, Bool.false_or]; rfl) | (simp [b2i, upF_uu, mRollQ, c_1, c_3, c_5, eq_true c_6, c_7, eq_false c_8, eq_false c_9]; done) | rfl
                have hPf : va_P G.1 vwCl (wRM G z ((mRollQ r f n k x1 x2 x3).1.1) ((mRollQ r f n k x1 x2 x3).1.2)) H := by
                  have e1 : (mRollQ r f n k x1 x2 x3).1.1 = r := by first | with_reducible rfl | (simp only [upF_uu, mRollQ, c_1, c_3, c_5, eq_true c_6, c_7, eq_false c_8, eq_false c_9, ↓reduceIte, Bool.false_eq_true]; done) | (simp only [upF_uu, mRollQ, c_1, c_3, c_5, eq_true c_6, c_7, eq_false c_8, eq_false c_9, ↓reduceIte, Bool.false_eq_true]; rfl) | rfl
                  have e2 : (mRollQ r f n k x1 x2 x3).1.2 = upF (upF f 0 (nI 0)) 0 (nI 2) := by first | with_reducible rfl | (simp only [upF_uu, mRollQ, c_1, c_3, c_5, eq_true c_6, c_7, eq_false c_8, eq_false c_9, ↓reduceIte, Bool.false_eq_true]; done) | (simp only [upF_uu, mRollQ, c_1, c_3, c_5, eq_true c_6, c_7, eq_false c_8, eq_false c_9, ↓reduceIte, Bool.false_eq_true]; rfl) | rfl
                  rw [e1, e2]; exact hP
                exact W.iret (v := nI 0) hx hb hr (fun t ht _ => ⟨⟨_, (), rfl, hq, g_hp ht hPf⟩, hS.F ht⟩) hS.2.2 dX7_roll_118
          · have c_7 := b2i_f c_7
            refine lv_aload_n hx hb dX7_roll_48 rfl (lv_at hl 0 rfl) ?_
            refine lv_iconst (v := nI 1) hx hb dX7_roll_49 (by decide +kernel) ?_
            refine lv_iload_n hx hb dX7_roll_50 rfl (lv_at hl 2 rfl) ?_
            refine lv_iconst (v := (-1)) hx hb dX7_roll_51 (by decide +kernel) ?_
            refine g_callC (W.runV (C := RX7) (As := [.int (nI 1), .int x2, .int (-1)]) (rest := []) S0 (c_X7_valueOf l G _ z r (upF f 0 (nI 0)) hP (nI 1) x2 (-1) n d k t hM) (cwV 3 hts gX7_roll_X7_valueOf rfl rfl rfl (by decide +kernel) ⟨Nat.le_of_ble_eq_true rfl, Nat.le_of_ble_eq_true rfl⟩) (g_preV hK hP (q0 := 0) (ci := 7) (q := (RX7, TX7, 26)) rfl rfl) rfl rfl hl.1 rfl (lv_room (Nat.le_of_ble_eq_true rfl)) dX7_roll_52 ⟨Nat.zero_le _, Nat.zero_le _⟩) ?_
            refine lv_iload_n hx hb dX7_roll_55 rfl (lv_at hl 3 rfl) ?_
            refine lv_icmp_eq (tgt := 78) hx hb dX7_roll_56 (by decide) (fun c_10 => ?_) (fun c_10 => ?_)
            · refine lv_iconst (v := nI 1) hx hb dX7_roll_78 (by decide +kernel) ?_
              refine lv_goto (tgt := 83) hx hb dX7_roll_79 (by decide) ?_
              refine lv_istore (lv' := [(4, .int (nI 1)), (0, .ref (z 0)), (1, .int x1), (2, .int x2), (3, .int x3)]) hx hb dX7_roll_83 hl (by decide) rfl (fun ls hl => ?_)
              refine lv_aload_n hx hb dX7_roll_85 rfl (lv_at hl 1 rfl) ?_
              refine lv_iload hx hb dX7_roll_86 (lv_at hl 0 rfl) ?_
              refine lv_if_eq (tgt := 95) hx hb dX7_roll_88 (by decide) (fun c_11 => ?_) (fun c_11 => ?_)
              · exact absurd c_11 (by decide)
              · refine lv_iconst (v := nI 2) hx hb dX7_roll_91 (by decide +kernel) ?_
                refine lv_goto (tgt := 96) hx hb dX7_roll_92 (by decide) ?_
                refine va_put (D := G.1) (ci := 7) (v := .int (nI 2)) (ty := .int) (C := RX7) (T := TX7) (N := 26) hx hb hts hinX7 tyX7 tyX7_ok nmX7 hown hK.1 hP hD hS 0 rfl rfl 0 (by decide) (hts (.fieldLink RX7 72 "RotaforgeModel" "thrown" "I") (by decide +kernel)) (fun _ h9 => h9) rfl (by decide +kernel) rfl rfl (Nat.le_of_ble_eq_true rfl) dX7_roll_96 (fun H locs hP hD hS => ?_)
                have hP : va_P G.1 vwCl (wRM G z r (upF (upF f 0 (nI 0)) 0 (nI 2))) H := gMs_0 hP
                have hD : va_D (gF z 20) (wRM G z r (upF (upF f 0 (nI 0)) 0 (nI 2))) := gD_RM hz
                refine lv_aload_n hx hb dX7_roll_99 rfl (lv_at hl 1 rfl) ?_
                refine va_get (D := G.1) (ci := 7) (v := .int (nI 2)) (C := RX7) (T := TX7) (N := 26) hx hb hts hinX7 hown hK.1 hP 0 rfl rfl 0 (by decide) (hts (.fieldLink RX7 72 "RotaforgeModel" "thrown" "I") (by decide +kernel)) (fun _ h9 => h9) rfl dX7_roll_100 ?_
                refine lv_if_le (tgt := 110) hx hb dX7_roll_103 (by decide) (fun c_12 => ?_) (fun c_12 => ?_)
                · exact absurd c_12 (by decide)
                · refine lv_iconst (v := nI 0) hx hb dX7_roll_106 (by decide +kernel) ?_
                  refine lv_goto (tgt := 118) hx hb dX7_roll_107 (by decide) ?_
                  have hq : (nI 0) = ((mRollQ r f n k x1 x2 x3).2) := by
                    first | with_reducible rfl | with_reducible exact nI_add _ _ | (simp only [upF_uu, mRollQ, c_1, c_3, c_5, eq_true c_6, c_7, eq_true c_10, eq_false c_11, eq_false c_12, ↓reduceIte, Bool.false_eq_true, decide_true, decide_false, Bool.not_true, Bool.not_false, Bool.or_true, Bool.true_or, Bool.or_false, Bool.false_or]; done) | (simp only [upF_uu, mRollQ, c_1, c_3, c_5, eq_true c_6, c_7, eq_true c_10, eq_false c_11, eq_false c_12, ↓reduceIte, Bool.false_eq_true, decide_true, decide_false, Bool.not_true, Bool.not_false, Bool.or_true, Bool.true_or, Bool.or_false, Bool.false_or]; with_reducible rfl) | (simp only [upF_uu, mRollQ, c_1, c_3, c_5, eq_true c_6, c_7, eq_true c_10, eq_false c_11, eq_false c_12, ↓reduceIte, Bool.false_eq_true, decide_true, decide_false, Bool.not_true, Bool.not_false, Bool.or_true, Bool.true_or, Bool.or_false, Bool.false_or]; rfl) | (simp [b2i, upF_uu, mRollQ, c_1, c_3, c_5, eq_true c_6, c_7, eq_true c_10, eq_false c_11, eq_false c_12]; done) | rfl
                  have hPf : va_P G.1 vwCl (wRM G z ((mRollQ r f n k x1 x2 x3).1.1) ((mRollQ r f n k x1 x2 x3).1.2)) H := by
                    have e1 : (mRollQ r f n k x1 x2 x3).1.1 = r := by first | with_reducible rfl | (simp only [upF_uu, mRollQ, c_1, c_3, c_5, eq_true c_6, c_7, eq_true c_10, eq_false c_11, eq_false c_12, ↓reduceIte, Bool.false_eq_true]; done) | (simp only [upF_uu, mRollQ, c_1, c_3, c_5, eq_true c_6, c_7, eq_true c_10, eq_false c_11, eq_false c_12, ↓reduceIte, Bool.false_eq_true]; rfl) | rfl
                    have e2 : (mRollQ r f n k x1 x2 x3).1.2 = upF (upF f 0 (nI 0)) 0 (nI 2) := by first | with_reducible rfl | (simp only [upF_uu, mRollQ, c_1, c_3, c_5, eq_true c_6, c_7, eq_true c_10, eq_false c_11, eq_false c_12, ↓reduceIte, Bool.false_eq_true]; done) | (simp only [upF_uu, mRollQ, c_1, c_3, c_5, eq_true c_6, c_7, eq_true c_10, eq_false c_11, eq_false c_12, ↓reduceIte, Bool.false_eq_true]; rfl) | rfl
                    rw [e1, e2]; exact hP
                  exact W.iret (v := nI 0) hx hb hr (fun t ht _ => ⟨⟨_, (), rfl, hq, g_hp ht hPf⟩, hS.F ht⟩) hS.2.2 dX7_roll_118
            · refine lv_aload_n hx hb dX7_roll_59 rfl (lv_at hl 0 rfl) ?_
              refine va_get (D := G.1) (ci := 7) (v := .int (f 4)) (C := RX7) (T := TX7) (N := 26) hx hb hts hinX7 hown hK.1 hP 0 rfl rfl 8 (by decide) (hts (.fieldLink RX7 79 "RotaforgeModel" "changeMany" "I") (by decide +kernel)) (fun _ h9 => h9) rfl dX7_roll_60 ?_
              refine lv_sipush (v := nI 200) hx hb dX7_roll_63 (by decide +kernel) ?_
              refine lv_icmp_eq (tgt := 78) hx hb dX7_roll_66 (by decide) (fun c_13 => ?_) (fun c_13 => ?_)
              · refine lv_iconst (v := nI 1) hx hb dX7_roll_78 (by decide +kernel) ?_
                refine lv_goto (tgt := 83) hx hb dX7_roll_79 (by decide) ?_
                refine lv_istore (lv' := [(4, .int (nI 1)), (0, .ref (z 0)), (1, .int x1), (2, .int x2), (3, .int x3)]) hx hb dX7_roll_83 hl (by decide) rfl (fun ls hl => ?_)
                refine lv_aload_n hx hb dX7_roll_85 rfl (lv_at hl 1 rfl) ?_
                refine lv_iload hx hb dX7_roll_86 (lv_at hl 0 rfl) ?_
                refine lv_if_eq (tgt := 95) hx hb dX7_roll_88 (by decide) (fun c_14 => ?_) (fun c_14 => ?_)
                · exact absurd c_14 (by decide)
                · refine lv_iconst (v := nI 2) hx hb dX7_roll_91 (by decide +kernel) ?_
                  refine lv_goto (tgt := 96) hx hb dX7_roll_92 (by decide) ?_
                  refine va_put (D := G.1) (ci := 7) (v := .int (nI 2)) (ty := .int) (C := RX7) (T := TX7) (N := 26) hx hb hts hinX7 tyX7 tyX7_ok nmX7 hown hK.1 hP hD hS 0 rfl rfl 0 (by decide) (hts (.fieldLink RX7 72 "RotaforgeModel" "thrown" "I") (by decide +kernel)) (fun _ h9 => h9) rfl (by decide +kernel) rfl rfl (Nat.le_of_ble_eq_true rfl) dX7_roll_96 (fun H locs hP hD hS => ?_)
                  have hP : va_P G.1 vwCl (wRM G z r (upF (upF f 0 (nI 0)) 0 (nI 2))) H := gMs_0 hP
                  have hD : va_D (gF z 20) (wRM G z r (upF (upF f 0 (nI 0)) 0 (nI 2))) := gD_RM hz
                  refine lv_aload_n hx hb dX7_roll_99 rfl (lv_at hl 1 rfl) ?_
                  refine va_get (D := G.1) (ci := 7) (v := .int (nI 2)) (C := RX7) (T := TX7) (N := 26) hx hb hts hinX7 hown hK.1 hP 0 rfl rfl 0 (by decide) (hts (.fieldLink RX7 72 "RotaforgeModel" "thrown" "I") (by decide +kernel)) (fun _ h9 => h9) rfl dX7_roll_100 ?_
                  refine lv_if_le (tgt := 110) hx hb dX7_roll_103 (by decide) (fun c_15 => ?_) (fun c_15 => ?_)
                  · exact absurd c_15 (by decide)
                  · refine lv_iconst (v := nI 0) hx hb dX7_roll_106 (by decide +kernel) ?_
                    refine lv_goto (tgt := 118) hx hb dX7_roll_107 (by decide) ?_
                    have hq : (nI 0) = ((mRollQ r f n k x1 x2 x3).2) := by
                      first | with_reducible rfl | with_reducible exact nI_add _ _ | (simp only [upF_uu, mRollQ, c_1, c_3, c_5, eq_true c_6, c_7, eq_false c_10, eq_true c_13, eq_false c_14, eq_false c_15, ↓reduceIte, Bool.false_eq_true, decide_true, decide_false, Bool.not_true, Bool.not_false, Bool.or_true, Bool.true_or, Bool.or_false, Bool.false_or]; done) | (simp only [upF_uu, mRollQ, c_1, c_3, c_5, eq_true c_6, c_7, eq_false c_10, eq_true c_13, eq_false c_14, eq_false c_15, ↓reduceIte, Bool.false_eq_true, decide_true, decide_false, Bool.not_true, Bool.not_false, Bool.or_true, Bool.true_or, Bool.or_false, Bool.false_or]; with_reducible rfl) | (simp only [upF_uu, mRollQ, c_1, c_3, c_5, eq_true c_6, c_7, eq_false c_10, eq_true c_13, eq_false c_14, eq_false c_15, ↓reduceIte, Bool.false_eq_true, decide_true, decide_false, Bool.not_true, Bool.not_false, Bool.or_true, Bool.true_or, Bool.or_false, Bool.false_or]; rfl) | (simp [b2i, upF_uu, mRollQ, c_1, c_3, c_5, eq_true c_6, c_7, eq_false c_10, eq_true c_13, eq_false c_14, eq_false c_15]; done) | rfl
                    have hPf : va_P G.1 vwCl (wRM G z ((mRollQ r f n k x1 x2 x3).1.1) ((mRollQ r f n k x1 x2 x3).1.2)) H := by
                      have e1 : (mRollQ r f n k x1 x2 x3).1.1 = r := by first | with_reducible rfl | (simp only [upF_uu, mRollQ, c_1, c_3, c_5, eq_true c_6, c_7, eq_false c_10, eq_true c_13, eq_false c_14, eq_false c_15, ↓reduceIte, Bool.false_eq_true]; done) | (simp only [upF_uu, mRollQ, c_1, c_3, c_5, eq_true c_6, c_7, eq_false c_10, eq_true c_13, eq_false c_14, eq_false c_15, ↓reduceIte, Bool.false_eq_true]; rfl) | rfl
                      have e2 : (mRollQ r f n k x1 x2 x3).1.2 = upF (upF f 0 (nI 0)) 0 (nI 2) := by first | with_reducible rfl | (simp only [upF_uu, mRollQ, c_1, c_3, c_5, eq_true c_6, c_7, eq_false c_10, eq_true c_13, eq_false c_14, eq_false c_15, ↓reduceIte, Bool.false_eq_true]; done) | (simp only [upF_uu, mRollQ, c_1, c_3, c_5, eq_true c_6, c_7, eq_false c_10, eq_true c_13, eq_false c_14, eq_false c_15, ↓reduceIte, Bool.false_eq_true]; rfl) | rfl
                      rw [e1, e2]; exact hP
                    exact W.iret (v := nI 0) hx hb hr (fun t ht _ => ⟨⟨_, (), rfl, hq, g_hp ht hPf⟩, hS.F ht⟩) hS.2.2 dX7_roll_118
              · refine lv_aload_n hx hb dX7_roll_69 rfl (lv_at hl 0 rfl) ?_
                refine lv_iload_n hx hb dX7_roll_70 rfl (lv_at hl 2 rfl) ?_
                refine lv_iload_n hx hb dX7_roll_71 rfl (lv_at hl 3 rfl) ?_
                refine g_callC (r := (b2i (mHeld r f n k (cN x2) x3))) (W.runV (C := RX7) (As := [.int x2, .int x3]) (rest := []) S0 (c_X7_isHeldBack l G _ z r (upF f 0 (nI 0)) hP x2 x3 n d k t (cN x2) hM (mIn_le c_3 (by decide)).1 (Nat.lt_of_le_of_lt (mIn_le c_3 (by decide)).2 (by decide))) (cwV 2 hts gX7_roll_X7_isHeldBack rfl rfl rfl (by decide +kernel) ⟨Nat.le_of_ble_eq_true rfl, Nat.le_of_ble_eq_true rfl⟩) (g_preV hK hP (q0 := 0) (ci := 7) (q := (RX7, TX7, 26)) rfl rfl) rfl rfl hl.1 rfl (lv_room (Nat.le_of_ble_eq_true rfl)) dX7_roll_72 ⟨Nat.zero_le _, Nat.zero_le _⟩) ?_
                refine lv_if_eq (tgt := 82) hx hb dX7_roll_75 (by decide) (fun c_16 => ?_) (fun c_16 => ?_)
                · have c_16 := b2i_f c_16
                  refine lv_iconst (v := nI 0) hx hb dX7_roll_82 (by decide +kernel) ?_
                  refine lv_istore (lv' := [(4, .int (nI 0)), (0, .ref (z 0)), (1, .int x1), (2, .int x2), (3, .int x3)]) hx hb dX7_roll_83 hl (by decide) rfl (fun ls hl => ?_)
                  refine lv_aload_n hx hb dX7_roll_85 rfl (lv_at hl 1 rfl) ?_
                  refine lv_iload hx hb dX7_roll_86 (lv_at hl 0 rfl) ?_
                  refine lv_if_eq (tgt := 95) hx hb dX7_roll_88 (by decide) (fun c_17 => ?_) (fun c_17 => ?_)
                  · refine lv_iconst (v := nI 0) hx hb dX7_roll_95 (by decide +kernel) ?_
                    refine va_put (D := G.1) (ci := 7) (v := .int (nI 0)) (ty := .int) (C := RX7) (T := TX7) (N := 26) hx hb hts hinX7 tyX7 tyX7_ok nmX7 hown hK.1 hP hD hS 0 rfl rfl 0 (by decide) (hts (.fieldLink RX7 72 "RotaforgeModel" "thrown" "I") (by decide +kernel)) (fun _ h9 => h9) rfl (by decide +kernel) rfl rfl (Nat.le_of_ble_eq_true rfl) dX7_roll_96 (fun H locs hP hD hS => ?_)
                    have hP : va_P G.1 vwCl (wRM G z r (upF (upF f 0 (nI 0)) 0 (nI 0))) H := gMs_0 hP
                    have hD : va_D (gF z 20) (wRM G z r (upF (upF f 0 (nI 0)) 0 (nI 0))) := gD_RM hz
                    refine lv_aload_n hx hb dX7_roll_99 rfl (lv_at hl 1 rfl) ?_
                    refine va_get (D := G.1) (ci := 7) (v := .int (nI 0)) (C := RX7) (T := TX7) (N := 26) hx hb hts hinX7 hown hK.1 hP 0 rfl rfl 0 (by decide) (hts (.fieldLink RX7 72 "RotaforgeModel" "thrown" "I") (by decide +kernel)) (fun _ h9 => h9) rfl dX7_roll_100 ?_
                    refine lv_if_le (tgt := 110) hx hb dX7_roll_103 (by decide) (fun c_18 => ?_) (fun c_18 => ?_)
                    · refine lv_aload_n hx hb dX7_roll_110 rfl (lv_at hl 1 rfl) ?_
                      refine lv_iload_n hx hb dX7_roll_111 rfl (lv_at hl 2 rfl) ?_
                      refine lv_iconst (v := nI 1) hx hb dX7_roll_112 (by decide +kernel) ?_
                      refine lv_iload_n hx hb dX7_roll_113 rfl (lv_at hl 3 rfl) ?_
                      refine lv_iload_n hx hb dX7_roll_114 rfl (lv_at hl 4 rfl) ?_
                      refine g_callw (va_runV (C := RX7) (As := [.int x1, .int (nI 1), .int x2, .int x3]) (rest := []) S0 (c_X7_makes l G _ z hz r (upF (upF f 0 (nI 0)) 0 (nI 0)) hP x1 (nI 1) x2 x3 n d k t hM (by have h9 : ¬ n = 200 := fun h => c_13 (by rw [← h]; exact hn); omega)) (cwV 4 hts gX7_roll_X7_makes rfl rfl rfl (by decide +kernel) ⟨Nat.le_of_ble_eq_true rfl, Nat.le_of_ble_eq_true rfl⟩) (g_preV hK hP (q0 := 0) (ci := 7) (q := (RX7, TX7, 26)) rfl rfl) rfl rfl hl.1 rfl (lv_room (Nat.le_of_ble_eq_true rfl)) dX7_roll_115 ⟨Nat.zero_le _, Nat.zero_le _⟩) hS (fun _ h => h) (fun _ h => h) (fun H locs hP _ hS => ?_)
                      have hP : va_P G.1 vwCl (wRM G z (mMakeR r (upF (upF f 0 (nI 0)) 0 (nI 0)) n x1 (nI 1) x2 x3) (upF (upF (upF f 0 (nI 0)) 0 (nI 0)) 4 ((upF (upF f 0 (nI 0)) 0 (nI 0)) 4 + nI 1))) H := hP
                      have hD : va_D (gF z 20) (wRM G z (mMakeR r (upF (upF f 0 (nI 0)) 0 (nI 0)) n x1 (nI 1) x2 x3) (upF (upF (upF f 0 (nI 0)) 0 (nI 0)) 4 ((upF (upF f 0 (nI 0)) 0 (nI 0)) 4 + nI 1))) := gD_RM hz
                      have hq : ((upF (upF f 0 (nI 0)) 0 (nI 0)) 4 + nI 1 - nI 1) = ((mRollQ r f n k x1 x2 x3).2) := by
                        first | with_reducible rfl | with_reducible exact nI_add _ _ | (simp only [upF_uu, mRollQ, c_1, c_3, c_5, eq_true c_6, c_7, eq_false c_10, eq_false c_13, c_16, eq_true c_17, eq_true c_18, ↓reduceIte, Bool.false_eq_true, decide_true, decide_false, Bool.not_true, Bool.not_false, Bool.or_true, Bool.true_or, Bool.or_false, Bool.false_or]; done) | (simp only [upF_uu, mRollQ, c_1, c_3, c_5, eq_true c_6, c_7, eq_false c_10, eq_false c_13, c_16, eq_true c_17, eq_true c_18, ↓reduceIte, Bool.false_eq_true, decide_true, decide_false, Bool.not_true, Bool.not_false, Bool.or_true, Bool.true_or, Bool.or_false, Bool.false_or]; with_reducible rfl) | (simp only [upF_uu, mRollQ, c_1, c_3, c_5, eq_true c_6, c_7, eq_false c_10, eq_false c_13, c_16, eq_true c_17, eq_true c_18, ↓reduceIte, Bool.false_eq_true, decide_true, decide_false, Bool.not_true, Bool.not_false, Bool.or_true, Bool.true_or, Bool.or_false, Bool.false_or]; rfl) | (simp [b2i, upF_uu, mRollQ, c_1, c_3, c_5, eq_true c_6, c_7, eq_false c_10, eq_false c_13, c_16, eq_true c_17, eq_true c_18]; done) | rfl
                      have hPf : va_P G.1 vwCl (wRM G z ((mRollQ r f n k x1 x2 x3).1.1) ((mRollQ r f n k x1 x2 x3).1.2)) H := by
                        have e1 : (mRollQ r f n k x1 x2 x3).1.1 = mMakeR r (upF (upF f 0 (nI 0)) 0 (nI 0)) n x1 (nI 1) x2 x3 := by first | with_reducible rfl | (simp only [upF_uu, mRollQ, c_1, c_3, c_5, eq_true c_6, c_7, eq_false c_10, eq_false c_13, c_16, eq_true c_17, eq_true c_18, ↓reduceIte, Bool.false_eq_true]; done) | (simp only [upF_uu, mRollQ, c_1, c_3, c_5, eq_true c_6, c_7, eq_false c_10, eq_false c_13, c_16, eq_true c_17, eq_true c_18, ↓reduceIte, Bool.false_eq_true]; rfl) | rfl
                        have e2 : (mRollQ r f n k x1 x2 x3).1.2 = upF (upF (upF f 0 (nI 0)) 0 (nI 0)) 4 ((upF (upF f 0 (nI 0)) 0 (nI 0)) 4 + nI 1) := by first | with_reducible rfl | (simp only [upF_uu, mRollQ, c_1, c_3, c_5, eq_true c_6, c_7, eq_false c_10, eq_false c_13, c_16, eq_true c_17, eq_true c_18, ↓reduceIte, Bool.false_eq_true]; done) | (simp only [upF_uu, mRollQ, c_1, c_3, c_5, eq_true c_6, c_7, eq_false c_10, eq_false c_13, c_16, eq_true c_17, eq_true c_18, ↓reduceIte, Bool.false_eq_true]; rfl) | rfl
                        rw [e1, e2]; exact hP
                      exact W.iret (v := (upF (upF f 0 (nI 0)) 0 (nI 0)) 4 + nI 1 - nI 1) hx hb hr (fun t ht _ => ⟨⟨_, (), rfl, hq, g_hp ht hPf⟩, hS.F ht⟩) hS.2.2 dX7_roll_118
                    · exact absurd (by decide) c_18
                  · exact absurd (by decide) c_17
                · have c_16 := b2i_t c_16
                  refine lv_iconst (v := nI 1) hx hb dX7_roll_78 (by decide +kernel) ?_
                  refine lv_goto (tgt := 83) hx hb dX7_roll_79 (by decide) ?_
                  refine lv_istore (lv' := [(4, .int (nI 1)), (0, .ref (z 0)), (1, .int x1), (2, .int x2), (3, .int x3)]) hx hb dX7_roll_83 hl (by decide) rfl (fun ls hl => ?_)
                  refine lv_aload_n hx hb dX7_roll_85 rfl (lv_at hl 1 rfl) ?_
                  refine lv_iload hx hb dX7_roll_86 (lv_at hl 0 rfl) ?_
                  refine lv_if_eq (tgt := 95) hx hb dX7_roll_88 (by decide) (fun c_19 => ?_) (fun c_19 => ?_)
                  · exact absurd c_19 (by decide)
                  · refine lv_iconst (v := nI 2) hx hb dX7_roll_91 (by decide +kernel) ?_
                    refine lv_goto (tgt := 96) hx hb dX7_roll_92 (by decide) ?_
                    refine va_put (D := G.1) (ci := 7) (v := .int (nI 2)) (ty := .int) (C := RX7) (T := TX7) (N := 26) hx hb hts hinX7 tyX7 tyX7_ok nmX7 hown hK.1 hP hD hS 0 rfl rfl 0 (by decide) (hts (.fieldLink RX7 72 "RotaforgeModel" "thrown" "I") (by decide +kernel)) (fun _ h9 => h9) rfl (by decide +kernel) rfl rfl (Nat.le_of_ble_eq_true rfl) dX7_roll_96 (fun H locs hP hD hS => ?_)
                    have hP : va_P G.1 vwCl (wRM G z r (upF (upF f 0 (nI 0)) 0 (nI 2))) H := gMs_0 hP
                    have hD : va_D (gF z 20) (wRM G z r (upF (upF f 0 (nI 0)) 0 (nI 2))) := gD_RM hz
                    refine lv_aload_n hx hb dX7_roll_99 rfl (lv_at hl 1 rfl) ?_
                    refine va_get (D := G.1) (ci := 7) (v := .int (nI 2)) (C := RX7) (T := TX7) (N := 26) hx hb hts hinX7 hown hK.1 hP 0 rfl rfl 0 (by decide) (hts (.fieldLink RX7 72 "RotaforgeModel" "thrown" "I") (by decide +kernel)) (fun _ h9 => h9) rfl dX7_roll_100 ?_
                    refine lv_if_le (tgt := 110) hx hb dX7_roll_103 (by decide) (fun c_20 => ?_) (fun c_20 => ?_)
                    · exact absurd c_20 (by decide)
                    · refine lv_iconst (v := nI 0) hx hb dX7_roll_106 (by decide +kernel) ?_
                      refine lv_goto (tgt := 118) hx hb dX7_roll_107 (by decide) ?_
                      have hq : (nI 0) = ((mRollQ r f n k x1 x2 x3).2) := by
                        first | with_reducible rfl | with_reducible exact nI_add _ _ | (simp only [upF_uu, mRollQ, c_1, c_3, c_5, eq_true c_6, c_7, eq_false c_10, eq_false c_13, c_16, eq_false c_19, eq_false c_20, ↓reduceIte, Bool.false_eq_true, decide_true, decide_false, Bool.not_true, Bool.not_false, Bool.or_true, Bool.true_or, Bool.or_false, Bool.false_or]; done) | (simp only [upF_uu, mRollQ, c_1, c_3, c_5, eq_true c_6, c_7, eq_false c_10, eq_false c_13, c_16, eq_false c_19, eq_false c_20, ↓reduceIte, Bool.false_eq_true, decide_true, decide_false, Bool.not_true, Bool.not_false, Bool.or_true, Bool.true_or, Bool.or_false, Bool.false_or]; with_reducible rfl) | (simp only [upF_uu, mRollQ, c_1, c_3, c_5, eq_true c_6, c_7, eq_false c_10, eq_false c_13, c_16, eq_false c_19, eq_false c_20, ↓reduceIte, Bool.false_eq_true, decide_true, decide_false, Bool.not_true, Bool.not_false, Bool.or_true, Bool.true_or, Bool.or_false, Bool.false_or]; rfl) | (simp [b2i, upF_uu, mRollQ, c_1, c_3, c_5, eq_true c_6, c_7, eq_false c_10, eq_false c_13, c_16, eq_false c_19, eq_false c_20]; done) | rfl
                      have hPf : va_P G.1 vwCl (wRM G z ((mRollQ r f n k x1 x2 x3).1.1) ((mRollQ r f n k x1 x2 x3).1.2)) H := by
                        have e1 : (mRollQ r f n k x1 x2 x3).1.1 = r := by first | with_reducible rfl | (simp only [upF_uu, mRollQ, c_1, c_3, c_5, eq_true c_6, c_7, eq_false c_10, eq_false c_13, c_16, eq_false c_19, eq_false c_20, ↓reduceIte, Bool.false_eq_true]; done) | (simp only [upF_uu, mRollQ, c_1, c_3, c_5, eq_true c_6, c_7, eq_false c_10, eq_false c_13, c_16, eq_false c_19, eq_false c_20, ↓reduceIte, Bool.false_eq_true]; rfl) | rfl
                        have e2 : (mRollQ r f n k x1 x2 x3).1.2 = upF (upF f 0 (nI 0)) 0 (nI 2) := by first | with_reducible rfl | (simp only [upF_uu, mRollQ, c_1, c_3, c_5, eq_true c_6, c_7, eq_false c_10, eq_false c_13, c_16, eq_false c_19, eq_false c_20, ↓reduceIte, Bool.false_eq_true]; done) | (simp only [upF_uu, mRollQ, c_1, c_3, c_5, eq_true c_6, c_7, eq_false c_10, eq_false c_13, c_16, eq_false c_19, eq_false c_20, ↓reduceIte, Bool.false_eq_true]; rfl) | rfl
                        rw [e1, e2]; exact hP
                      exact W.iret (v := nI 0) hx hb hr (fun t ht _ => ⟨⟨_, (), rfl, hq, g_hp ht hPf⟩, hS.F ht⟩) hS.2.2 dX7_roll_118
        · exact absurd (by decide) c_6
      · have c_5 := b2i_f c_5
        refine lv_iconst (v := nI 1) hx hb dX7_roll_23 (by decide +kernel) ?_
        refine lv_goto (tgt := 28) hx hb dX7_roll_24 (by decide) ?_
        refine va_put (D := G.1) (ci := 7) (v := .int (nI 1)) (ty := .int) (C := RX7) (T := TX7) (N := 26) hx hb hts hinX7 tyX7 tyX7_ok nmX7 hown hK.1 hP hD hS 0 rfl rfl 0 (by decide) (hts (.fieldLink RX7 72 "RotaforgeModel" "thrown" "I") (by decide +kernel)) (fun _ h9 => h9) rfl (by decide +kernel) rfl rfl (Nat.le_of_ble_eq_true rfl) dX7_roll_28 (fun H locs hP hD hS => ?_)
        have hP : va_P G.1 vwCl (wRM G z r (upF f 0 (nI 1))) H := gMs_0 hP
        have hD : va_D (gF z 20) (wRM G z r (upF f 0 (nI 1))) := gD_RM hz
        refine lv_aload_n hx hb dX7_roll_31 rfl (lv_at hl 0 rfl) ?_
        refine va_get (D := G.1) (ci := 7) (v := .int (nI 1)) (C := RX7) (T := TX7) (N := 26) hx hb hts hinX7 hown hK.1 hP 0 rfl rfl 0 (by decide) (hts (.fieldLink RX7 72 "RotaforgeModel" "thrown" "I") (by decide +kernel)) (fun _ h9 => h9) rfl dX7_roll_32 ?_
        refine lv_if_le (tgt := 40) hx hb dX7_roll_35 (by decide) (fun c_21 => ?_) (fun c_21 => ?_)
        · exact absurd c_21 (by decide)
        · refine lv_iconst (v := nI 0) hx hb dX7_roll_38 (by decide +kernel) ?_
          have hq : (nI 0) = ((mRollQ r f n k x1 x2 x3).2) := by
            first | with_reducible rfl | with_reducible exact nI_add _ _ | (simp only [upF_uu, mRollQ, c_1, c_3, c_5, eq_false c_21, ↓reduceIte, Bool.false_eq_true, decide_true, decide_false, Bool.not_true, Bool.not_false, Bool.or_true, Bool.true_or, Bool.or_false, Bool.false_or]; done) | (simp only [upF_uu, mRollQ, c_1, c_3, c_5, eq_false c_21, ↓reduceIte, Bool.false_eq_true, decide_true, decide_false, Bool.not_true, Bool.not_false, Bool.or_true, Bool.true_or, Bool.or_false, Bool.false_or]; with_reducible rfl) | (simp only [upF_uu, mRollQ, c_1, c_3, c_5, eq_false c_21, ↓reduceIte, Bool.false_eq_true, decide_true, decide_false, Bool.not_true, Bool.not_false, Bool.or_true, Bool.true_or, Bool.or_false, Bool.false_or]; rfl) | (simp [b2i, upF_uu, mRollQ, c_1, c_3, c_5, eq_false c_21]; done) | rfl
          have hPf : va_P G.1 vwCl (wRM G z ((mRollQ r f n k x1 x2 x3).1.1) ((mRollQ r f n k x1 x2 x3).1.2)) H := by
            have e1 : (mRollQ r f n k x1 x2 x3).1.1 = r := by first | with_reducible rfl | (simp only [upF_uu, mRollQ, c_1, c_3, c_5, eq_false c_21, ↓reduceIte, Bool.false_eq_true]; done) | (simp only [upF_uu, mRollQ, c_1, c_3, c_5, eq_false c_21, ↓reduceIte, Bool.false_eq_true]; rfl) | rfl
            have e2 : (mRollQ r f n k x1 x2 x3).1.2 = upF f 0 (nI 1) := by first | with_reducible rfl | (simp only [upF_uu, mRollQ, c_1, c_3, c_5, eq_false c_21, ↓reduceIte, Bool.false_eq_true]; done) | (simp only [upF_uu, mRollQ, c_1, c_3, c_5, eq_false c_21, ↓reduceIte, Bool.false_eq_true]; rfl) | rfl
            rw [e1, e2]; exact hP
          exact W.iret (v := nI 0) hx hb hr (fun t ht _ => ⟨⟨_, (), rfl, hq, g_hp ht hPf⟩, hS.F ht⟩) hS.2.2 dX7_roll_39

set_option maxHeartbeats 4000000 in
set_option maxRecDepth 100000 in
theorem c_X7_revert (l : Launch) (G : gG) (H0 : Heap) (z : Nat → Nat) (hz : gDis z 20) (r : Nat → Nat → Int32) (f : Nat → Int32) (hP : va_P G.1 vwCl (wRM G z r f) H0) (x1 : Int32) (x2 : Int32) (n d k t : Nat) (hM : mOK r f n d k t) : gMw l yX7_revert wsX7_revert 2 49 G H0 [.ref (z 0), .int x1, .int x2] ((mRevQ r f n x1 x2).2) (wRM G z ((mRevQ r f n x1 x2).1.1) ((mRevQ r f n x1 x2).1.2)) (gF z 20) := by
  refine Met.ofW (cc := cX7_revert) (maxL := 4) (ret := (some .int)) (by decide) rfl ?_
  intro p_ e_ s m args below meth c s₁ B hml hv
  obtain ⟨rfl, rfl, hK⟩ := hv
  have hx := B.exec
  have hb := B.bytes
  have hr := B.returns
  have hts := atoms_spec (ws := wsX7_revert) B.pre
  have hown : s.vm.findClass RX7 = some m.cls := findClass_of_methodNamed B.named
  have hlocks := B.notSynchronized
  have hinX7 : ∀ w ∈ wsX70, w ∈ wsX7_revert := by decide +kernel
  have S0 : CallFix p_ m c cX7_revert 4 s _ wsX7_revert RX7 := ⟨hx, hb, hml, hown, hts⟩
  have hD : va_D (gF z 20) (wRM G z r f) := gD_RM hz
  have hS : va_S (gF z 20) s.heap s.heap [] := va_S.rf
  have hl := lv_entry ([.ref (z 0), .int x1, .int x2]) (n := 4) (Nat.le_of_ble_eq_true rfl)
  rw [lg_entry_eq]
  generalize (lg_sl ([.ref (z 0), .int x1, .int x2]) ++ List.replicate (4 - (lg_sl ([.ref (z 0), .int x1, .int x2])).length) Slot.unset).toArray = ls at hl ⊢
  have hl : lv_has ls 4 [(0, .ref (z 0)), (1, .int x1), (2, .int x2)] := hl
  obtain ⟨hn, hn2, hd, hd2, hk, hk2, ht, ht2, hh, hm⟩ := id hM
  refine lv_aload_n hx hb dX7_revert_0 rfl (lv_at hl 0 rfl) ?_
  refine lv_iload_n hx hb dX7_revert_1 rfl (lv_at hl 1 rfl) ?_
  refine g_callC (W.runS (As := [.int x1]) (rest := [.ref (z 0)]) S0 (c_X7_isPerson l G _ x1) (va_cwS 1 hts gX7_revert_X7_isPerson rfl rfl rfl (by decide +kernel) ⟨Nat.le_of_ble_eq_true rfl, Nat.le_of_ble_eq_true rfl⟩) (g_preS hK) rfl rfl hl.1 rfl (lv_room (Nat.le_of_ble_eq_true rfl)) dX7_revert_2 ⟨Nat.zero_le _, Nat.zero_le _⟩) ?_
  refine lv_if_eq (tgt := 20) hx hb dX7_revert_5 (by decide) (fun c_1 => ?_) (fun c_1 => ?_)
  · have c_1 := b2i_f c_1
    refine lv_iconst (v := nI 1) hx hb dX7_revert_20 (by decide +kernel) ?_
    refine va_put (D := G.1) (ci := 7) (v := .int (nI 1)) (ty := .int) (C := RX7) (T := TX7) (N := 26) hx hb hts hinX7 tyX7 tyX7_ok nmX7 hown hK.1 hP hD hS 0 rfl rfl 0 (by decide) (hts (.fieldLink RX7 72 "RotaforgeModel" "thrown" "I") (by decide +kernel)) (fun _ h9 => h9) rfl (by decide +kernel) rfl rfl (Nat.le_of_ble_eq_true rfl) dX7_revert_21 (fun H locs hP hD hS => ?_)
    have hP : va_P G.1 vwCl (wRM G z r (upF f 0 (nI 1))) H := gMs_0 hP
    have hD : va_D (gF z 20) (wRM G z r (upF f 0 (nI 1))) := gD_RM hz
    refine lv_aload_n hx hb dX7_revert_24 rfl (lv_at hl 0 rfl) ?_
    refine va_get (D := G.1) (ci := 7) (v := .int (nI 1)) (C := RX7) (T := TX7) (N := 26) hx hb hts hinX7 hown hK.1 hP 0 rfl rfl 0 (by decide) (hts (.fieldLink RX7 72 "RotaforgeModel" "thrown" "I") (by decide +kernel)) (fun _ h9 => h9) rfl dX7_revert_25 ?_
    refine lv_if_le (tgt := 33) hx hb dX7_revert_28 (by decide) (fun c_2 => ?_) (fun c_2 => ?_)
    · exact absurd c_2 (by decide)
    · refine lv_iconst (v := nI 0) hx hb dX7_revert_31 (by decide +kernel) ?_
      have hq : (nI 0) = ((mRevQ r f n x1 x2).2) := by
        first | with_reducible rfl | with_reducible exact nI_add _ _ | (simp only [upF_uu, mRevQ, c_1, eq_false c_2, ↓reduceIte, Bool.false_eq_true, decide_true, decide_false, Bool.not_true, Bool.not_false, Bool.or_true, Bool.true_or, Bool.or_false, Bool.false_or]; done) | (simp only [upF_uu, mRevQ, c_1, eq_false c_2, ↓reduceIte, Bool.false_eq_true, decide_true, decide_false, Bool.not_true, Bool.not_false, Bool.or_true, Bool.true_or, Bool.or_false, Bool.false_or]; with_reducible rfl) | (simp only [upF_uu, mRevQ, c_1, eq_false c_2, ↓reduceIte, Bool.false_eq_true, decide_true, decide_false, Bool.not_true, Bool.not_false, Bool.or_true, Bool.true_or, Bool.or_false, Bool.false_or]; rfl) | (simp [b2i, upF_uu, mRevQ, c_1, eq_false c_2]; done) | rfl
      have hPf : va_P G.1 vwCl (wRM G z ((mRevQ r f n x1 x2).1.1) ((mRevQ r f n x1 x2).1.2)) H := by
        have e1 : (mRevQ r f n x1 x2).1.1 = r := by first | with_reducible rfl | (simp only [upF_uu, mRevQ, c_1, eq_false c_2, ↓reduceIte, Bool.false_eq_true]; done) | (simp only [upF_uu, mRevQ, c_1, eq_false c_2, ↓reduceIte, Bool.false_eq_true]; rfl) | rfl
        have e2 : (mRevQ r f n x1 x2).1.2 = upF f 0 (nI 1) := by first | with_reducible rfl | (simp only [upF_uu, mRevQ, c_1, eq_false c_2, ↓reduceIte, Bool.false_eq_true]; done) | (simp only [upF_uu, mRevQ, c_1, eq_false c_2, ↓reduceIte, Bool.false_eq_true]; rfl) | rfl
        rw [e1, e2]; exact hP
      exact W.iret (v := nI 0) hx hb hr (fun t ht _ => ⟨⟨_, (), rfl, hq, g_hp ht hPf⟩, hS.F ht⟩) hS.2.2 dX7_revert_32
  · have c_1 := b2i_t c_1
    refine lv_aload_n hx hb dX7_revert_8 rfl (lv_at hl 0 rfl) ?_
    refine lv_iload_n hx hb dX7_revert_9 rfl (lv_at hl 2 rfl) ?_
    refine g_callC (W.runV (C := RX7) (As := [.int x2]) (rest := [.ref (z 0)]) S0 (c_X7_isChange l G _ z r f hP x2) (cwV 1 hts gX7_revert_X7_isChange rfl rfl rfl (by decide +kernel) ⟨Nat.le_of_ble_eq_true rfl, Nat.le_of_ble_eq_true rfl⟩) (g_preV hK hP (q0 := 0) (ci := 7) (q := (RX7, TX7, 26)) rfl rfl) rfl rfl hl.1 rfl (lv_room (Nat.le_of_ble_eq_true rfl)) dX7_revert_10 ⟨Nat.zero_le _, Nat.zero_le _⟩) ?_
    refine lv_if_eq (tgt := 20) hx hb dX7_revert_13 (by decide) (fun c_3 => ?_) (fun c_3 => ?_)
    · have c_3 := b2i_f c_3
      refine lv_iconst (v := nI 1) hx hb dX7_revert_20 (by decide +kernel) ?_
      refine va_put (D := G.1) (ci := 7) (v := .int (nI 1)) (ty := .int) (C := RX7) (T := TX7) (N := 26) hx hb hts hinX7 tyX7 tyX7_ok nmX7 hown hK.1 hP hD hS 0 rfl rfl 0 (by decide) (hts (.fieldLink RX7 72 "RotaforgeModel" "thrown" "I") (by decide +kernel)) (fun _ h9 => h9) rfl (by decide +kernel) rfl rfl (Nat.le_of_ble_eq_true rfl) dX7_revert_21 (fun H locs hP hD hS => ?_)
      have hP : va_P G.1 vwCl (wRM G z r (upF f 0 (nI 1))) H := gMs_0 hP
      have hD : va_D (gF z 20) (wRM G z r (upF f 0 (nI 1))) := gD_RM hz
      refine lv_aload_n hx hb dX7_revert_24 rfl (lv_at hl 0 rfl) ?_
      refine va_get (D := G.1) (ci := 7) (v := .int (nI 1)) (C := RX7) (T := TX7) (N := 26) hx hb hts hinX7 hown hK.1 hP 0 rfl rfl 0 (by decide) (hts (.fieldLink RX7 72 "RotaforgeModel" "thrown" "I") (by decide +kernel)) (fun _ h9 => h9) rfl dX7_revert_25 ?_
      refine lv_if_le (tgt := 33) hx hb dX7_revert_28 (by decide) (fun c_4 => ?_) (fun c_4 => ?_)
      · exact absurd c_4 (by decide)
      · refine lv_iconst (v := nI 0) hx hb dX7_revert_31 (by decide +kernel) ?_
        have hq : (nI 0) = ((mRevQ r f n x1 x2).2) := by
          first | with_reducible rfl | with_reducible exact nI_add _ _ | (simp only [upF_uu, mRevQ, c_1, c_3, eq_false c_4, ↓reduceIte, Bool.false_eq_true, decide_true, decide_false, Bool.not_true, Bool.not_false, Bool.or_true, Bool.true_or, Bool.or_false, Bool.false_or]; done) | (simp only [upF_uu, mRevQ, c_1, c_3, eq_false c_4, ↓reduceIte, Bool.false_eq_true, decide_true, decide_false, Bool.not_true, Bool.not_false, Bool.or_true, Bool.true_or, Bool.or_false, Bool.false_or]; with_reducible rfl) | (simp only [upF_uu, mRevQ, c_1, c_3, eq_false c_4, ↓reduceIte, Bool.false_eq_true, decide_true, decide_false, Bool.not_true, Bool.not_false, Bool.or_true, Bool.true_or, Bool.or_false, Bool.false_or]; rfl) | (simp [b2i, upF_uu, mRevQ, c_1, c_3, eq_false c_4]; done) | rfl
        have hPf : va_P G.1 vwCl (wRM G z ((mRevQ r f n x1 x2).1.1) ((mRevQ r f n x1 x2).1.2)) H := by
          have e1 : (mRevQ r f n x1 x2).1.1 = r := by first | with_reducible rfl | (simp only [upF_uu, mRevQ, c_1, c_3, eq_false c_4, ↓reduceIte, Bool.false_eq_true]; done) | (simp only [upF_uu, mRevQ, c_1, c_3, eq_false c_4, ↓reduceIte, Bool.false_eq_true]; rfl) | rfl
          have e2 : (mRevQ r f n x1 x2).1.2 = upF f 0 (nI 1) := by first | with_reducible rfl | (simp only [upF_uu, mRevQ, c_1, c_3, eq_false c_4, ↓reduceIte, Bool.false_eq_true]; done) | (simp only [upF_uu, mRevQ, c_1, c_3, eq_false c_4, ↓reduceIte, Bool.false_eq_true]; rfl) | rfl
          rw [e1, e2]; exact hP
        exact W.iret (v := nI 0) hx hb hr (fun t ht _ => ⟨⟨_, (), rfl, hq, g_hp ht hPf⟩, hS.F ht⟩) hS.2.2 dX7_revert_32
    · have c_3 := b2i_t c_3
      refine lv_iconst (v := nI 0) hx hb dX7_revert_16 (by decide +kernel) ?_
      refine lv_goto (tgt := 21) hx hb dX7_revert_17 (by decide) ?_
      refine va_put (D := G.1) (ci := 7) (v := .int (nI 0)) (ty := .int) (C := RX7) (T := TX7) (N := 26) hx hb hts hinX7 tyX7 tyX7_ok nmX7 hown hK.1 hP hD hS 0 rfl rfl 0 (by decide) (hts (.fieldLink RX7 72 "RotaforgeModel" "thrown" "I") (by decide +kernel)) (fun _ h9 => h9) rfl (by decide +kernel) rfl rfl (Nat.le_of_ble_eq_true rfl) dX7_revert_21 (fun H locs hP hD hS => ?_)
      have hP : va_P G.1 vwCl (wRM G z r (upF f 0 (nI 0))) H := gMs_0 hP
      have hD : va_D (gF z 20) (wRM G z r (upF f 0 (nI 0))) := gD_RM hz
      refine lv_aload_n hx hb dX7_revert_24 rfl (lv_at hl 0 rfl) ?_
      refine va_get (D := G.1) (ci := 7) (v := .int (nI 0)) (C := RX7) (T := TX7) (N := 26) hx hb hts hinX7 hown hK.1 hP 0 rfl rfl 0 (by decide) (hts (.fieldLink RX7 72 "RotaforgeModel" "thrown" "I") (by decide +kernel)) (fun _ h9 => h9) rfl dX7_revert_25 ?_
      refine lv_if_le (tgt := 33) hx hb dX7_revert_28 (by decide) (fun c_5 => ?_) (fun c_5 => ?_)
      · refine lv_aload_n hx hb dX7_revert_33 rfl (lv_at hl 0 rfl) ?_
        refine lv_iload_n hx hb dX7_revert_34 rfl (lv_at hl 1 rfl) ?_
        refine g_callC (r := (b2i (mRest r f (cN x1)))) (W.runV (C := RX7) (As := [.int x1]) (rest := []) S0 (c_X7_rested l G _ z r (upF f 0 (nI 0)) hP x1 (cN x1) (mIn_le c_1 (by decide)).1 (Nat.lt_of_le_of_lt (mIn_le c_1 (by decide)).2 (by decide))) (cwV 1 hts gX7_revert_X7_rested rfl rfl rfl (by decide +kernel) ⟨Nat.le_of_ble_eq_true rfl, Nat.le_of_ble_eq_true rfl⟩) (g_preV hK hP (q0 := 0) (ci := 7) (q := (RX7, TX7, 26)) rfl rfl) rfl rfl hl.1 rfl (lv_room (Nat.le_of_ble_eq_true rfl)) dX7_revert_35 ⟨Nat.zero_le _, Nat.zero_le _⟩) ?_
        refine lv_if_ne (tgt := 72) hx hb dX7_revert_38 (by decide) (fun c_6 => ?_) (fun c_6 => ?_)
        · have c_6 := b2i_t c_6
          refine lv_iconst (v := nI 1) hx hb dX7_revert_72 (by decide +kernel) ?_
          refine lv_goto (tgt := 77) hx hb dX7_revert_73 (by decide) ?_
          refine lv_istore_n (lv' := [(3, .int (nI 1)), (0, .ref (z 0)), (1, .int x1), (2, .int x2)]) hx hb dX7_revert_77 rfl hl (by decide) rfl (fun ls hl => ?_)
          refine lv_aload_n hx hb dX7_revert_78 rfl (lv_at hl 1 rfl) ?_
          refine lv_iload_n hx hb dX7_revert_79 rfl (lv_at hl 0 rfl) ?_
          refine lv_if_eq (tgt := 87) hx hb dX7_revert_80 (by decide) (fun c_7 => ?_) (fun c_7 => ?_)
          · exact absurd c_7 (by decide)
          · refine lv_iconst (v := nI 2) hx hb dX7_revert_83 (by decide +kernel) ?_
            refine lv_goto (tgt := 88) hx hb dX7_revert_84 (by decide) ?_
            refine va_put (D := G.1) (ci := 7) (v := .int (nI 2)) (ty := .int) (C := RX7) (T := TX7) (N := 26) hx hb hts hinX7 tyX7 tyX7_ok nmX7 hown hK.1 hP hD hS 0 rfl rfl 0 (by decide) (hts (.fieldLink RX7 72 "RotaforgeModel" "thrown" "I") (by decide +kernel)) (fun _ h9 => h9) rfl (by decide +kernel) rfl rfl (Nat.le_of_ble_eq_true rfl) dX7_revert_88 (fun H locs hP hD hS => ?_)
            have hP : va_P G.1 vwCl (wRM G z r (upF (upF f 0 (nI 0)) 0 (nI 2))) H := gMs_0 hP
            have hD : va_D (gF z 20) (wRM G z r (upF (upF f 0 (nI 0)) 0 (nI 2))) := gD_RM hz
            refine lv_aload_n hx hb dX7_revert_91 rfl (lv_at hl 1 rfl) ?_
            refine va_get (D := G.1) (ci := 7) (v := .int (nI 2)) (C := RX7) (T := TX7) (N := 26) hx hb hts hinX7 hown hK.1 hP 0 rfl rfl 0 (by decide) (hts (.fieldLink RX7 72 "RotaforgeModel" "thrown" "I") (by decide +kernel)) (fun _ h9 => h9) rfl dX7_revert_92 ?_
            refine lv_if_le (tgt := 102) hx hb dX7_revert_95 (by decide) (fun c_8 => ?_) (fun c_8 => ?_)
            · exact absurd c_8 (by decide)
            · refine lv_iconst (v := nI 0) hx hb dX7_revert_98 (by decide +kernel) ?_
              refine lv_goto (tgt := 136) hx hb dX7_revert_99 (by decide) ?_
              have hq : (nI 0) = ((mRevQ r f n x1 x2).2) := by
                first | with_reducible rfl | with_reducible exact nI_add _ _ | (simp only [upF_uu, mRevQ, c_1, c_3, eq_true c_5, c_6, eq_false c_7, eq_false c_8, ↓reduceIte, Bool.false_eq_true, decide_true, decide_false, Bool.not_true, Bool.not_false, Bool.or_true, Bool.true_or, Bool.or_false, Bool.false_or]; done) | (simp only [upF_uu, mRevQ, c_1, c_3, eq_true c_5, c_6, eq_false c_7, eq_false c_8, ↓reduceIte, Bool.false_eq_true, decide_true, decide_false, Bool.not_true, Bool.not_false, Bool.or_true, Bool.true_or, Bool.or_false, Bool.false_or]; with_reducible rfl) | (simp only [upF_uu, mRevQ, c_1, c_3, eq_true c_5, c_6, eq_false c_7, eq_false c_8, ↓reduceIte, Bool.false_eq_true, decide_true, decide_false, Bool.not_true, Bool.not_false, Bool.or_true, Bool.true_or, Bool.or_false, Bool.false_or]; rfl) | (simp [b2i, upF_uu, mRevQ, c_1, c_3, eq_true c_5, c_6, eq_false c_7, eq_false c_8]; done) | rfl
              have hPf : va_P G.1 vwCl (wRM G z ((mRevQ r f n x1 x2).1.1) ((mRevQ r f n x1 x2).1.2)) H := by
                have e1 : (mRevQ r f n x1 x2).1.1 = r := by first | with_reducible rfl | (simp only [upF_uu, mRevQ, c_1, c_3, eq_true c_5, c_6, eq_false c_7, eq_false c_8, ↓reduceIte, Bool.false_eq_true]; done) | (simp only [upF_uu, mRevQ, c_1, c_3, eq_true c_5, c_6, eq_false c_7, eq_false c_8, ↓reduceIte, Bool.false_eq_true]; rfl) | rfl
                have e2 : (mRevQ r f n x1 x2).1.2 = upF (upF f 0 (nI 0)) 0 (nI 2) := by first | with_reducible rfl | (simp only [upF_uu, mRevQ, c_1, c_3, eq_true c_5, c_6, eq_false c_7, eq_false c_8, ↓reduceIte, Bool.false_eq_true]; done) | (simp only [upF_uu, mRevQ, c_1, c_3, eq_true c_5, c_6, eq_false c_7, eq_false c_8, ↓reduceIte, Bool.false_eq_true]; rfl) | rfl
                rw [e1, e2]; exact hP
              exact W.iret (v := nI 0) hx hb hr (fun t ht _ => ⟨⟨_, (), rfl, hq, g_hp ht hPf⟩, hS.F ht⟩) hS.2.2 dX7_revert_136
        · have c_6 := b2i_f c_6
          refine lv_aload_n hx hb dX7_revert_41 rfl (lv_at hl 0 rfl) ?_
          refine lv_aload_n hx hb dX7_revert_42 rfl (lv_at hl 0 rfl) ?_
          refine va_get (D := G.1) (ci := 7) (v := .ref (z 6)) (C := RX7) (T := TX7) (N := 26) hx hb hts hinX7 hown hK.1 hP 0 rfl rfl 10 (by decide) (hts (.fieldLink RX7 30 "RotaforgeModel" "sorts" "[I") (by decide +kernel)) (fun _ h9 => h9) rfl dX7_revert_43 ?_
          refine lv_iload_n hx hb dX7_revert_46 rfl (lv_at hl 2 rfl) ?_
          refine g_iald hx hb hK.1 hP 6 0 rfl rfl (cN x2) ((mIn_lt hn c_3 (by omega)).1) ((Nat.lt_of_lt_of_le (mIn_lt hn c_3 (by omega)).2 hn2)) (by decide) dX7_revert_47 ?_
          refine lv_aload_n hx hb dX7_revert_48 rfl (lv_at hl 0 rfl) ?_
          refine va_get (D := G.1) (ci := 7) (v := .ref (z 7)) (C := RX7) (T := TX7) (N := 26) hx hb hts hinX7 hown hK.1 hP 0 rfl rfl 11 (by decide) (hts (.fieldLink RX7 33 "RotaforgeModel" "targets" "[I") (by decide +kernel)) (fun _ h9 => h9) rfl dX7_revert_49 ?_
          refine lv_iload_n hx hb dX7_revert_52 rfl (lv_at hl 2 rfl) ?_
          refine g_iald hx hb hK.1 hP 7 0 rfl rfl (cN x2) ((mIn_lt hn c_3 (by omega)).1) ((Nat.lt_of_lt_of_le (mIn_lt hn c_3 (by omega)).2 hn2)) (by decide) dX7_revert_53 ?_
          refine lv_iconst (v := (-1)) hx hb dX7_revert_54 (by decide +kernel) ?_
          refine g_callC (W.runV (C := RX7) (As := [.int ((r 5) (cN x2)), .int ((r 6) (cN x2)), .int (-1)]) (rest := []) S0 (c_X7_latest l G _ z r (upF f 0 (nI 0)) hP ((r 5) (cN x2)) ((r 6) (cN x2)) (-1) n d k t hM) (cwV 3 hts gX7_revert_X7_latest rfl rfl rfl (by decide +kernel) ⟨Nat.le_of_ble_eq_true rfl, Nat.le_of_ble_eq_true rfl⟩) (g_preV hK hP (q0 := 0) (ci := 7) (q := (RX7, TX7, 26)) rfl rfl) rfl rfl hl.1 rfl (lv_room (Nat.le_of_ble_eq_true rfl)) dX7_revert_55 ⟨Nat.zero_le _, Nat.zero_le _⟩) ?_
          refine lv_iload_n hx hb dX7_revert_58 rfl (lv_at hl 2 rfl) ?_
          refine lv_icmp_ne (tgt := 72) hx hb dX7_revert_59 (by decide) (fun c_9 => ?_) (fun c_9 => ?_)
          · refine lv_iconst (v := nI 1) hx hb dX7_revert_72 (by decide +kernel) ?_
            refine lv_goto (tgt := 77) hx hb dX7_revert_73 (by decide) ?_
            refine lv_istore_n (lv' := [(3, .int (nI 1)), (0, .ref (z 0)), (1, .int x1), (2, .int x2)]) hx hb dX7_revert_77 rfl hl (by decide) rfl (fun ls hl => ?_)
            refine lv_aload_n hx hb dX7_revert_78 rfl (lv_at hl 1 rfl) ?_
            refine lv_iload_n hx hb dX7_revert_79 rfl (lv_at hl 0 rfl) ?_
            refine lv_if_eq (tgt := 87) hx hb dX7_revert_80 (by decide) (fun c_10 => ?_) (fun c_10 => ?_)
            · exact absurd c_10 (by decide)
            · refine lv_iconst (v := nI 2) hx hb dX7_revert_83 (by decide +kernel) ?_
              refine lv_goto (tgt := 88) hx hb dX7_revert_84 (by decide) ?_
              refine va_put (D := G.1) (ci := 7) (v := .int (nI 2)) (ty := .int) (C := RX7) (T := TX7) (N := 26) hx hb hts hinX7 tyX7 tyX7_ok nmX7 hown hK.1 hP hD hS 0 rfl rfl 0 (by decide) (hts (.fieldLink RX7 72 "RotaforgeModel" "thrown" "I") (by decide +kernel)) (fun _ h9 => h9) rfl (by decide +kernel) rfl rfl (Nat.le_of_ble_eq_true rfl) dX7_revert_88 (fun H locs hP hD hS => ?_)
              have hP : va_P G.1 vwCl (wRM G z r (upF (upF f 0 (nI 0)) 0 (nI 2))) H := gMs_0 hP
              have hD : va_D (gF z 20) (wRM G z r (upF (upF f 0 (nI 0)) 0 (nI 2))) := gD_RM hz
              refine lv_aload_n hx hb dX7_revert_91 rfl (lv_at hl 1 rfl) ?_
              refine va_get (D := G.1) (ci := 7) (v := .int (nI 2)) (C := RX7) (T := TX7) (N := 26) hx hb hts hinX7 hown hK.1 hP 0 rfl rfl 0 (by decide) (hts (.fieldLink RX7 72 "RotaforgeModel" "thrown" "I") (by decide +kernel)) (fun _ h9 => h9) rfl dX7_revert_92 ?_
              refine lv_if_le (tgt := 102) hx hb dX7_revert_95 (by decide) (fun c_11 => ?_) (fun c_11 => ?_)
              · exact absurd c_11 (by decide)
              · refine lv_iconst (v := nI 0) hx hb dX7_revert_98 (by decide +kernel) ?_
                refine lv_goto (tgt := 136) hx hb dX7_revert_99 (by decide) ?_
                have hq : (nI 0) = ((mRevQ r f n x1 x2).2) := by
                  first | with_reducible rfl | with_reducible exact nI_add _ _ | (simp only [upF_uu, mRevQ, c_1, c_3, eq_true c_5, c_6, eq_false c_9, eq_false c_10, eq_false c_11, ↓reduceIte, Bool.false_eq_true, decide_true, decide_false, Bool.not_true, Bool.not_false, Bool.or_true, Bool.true_or, Bool.or_false, Bool.false_or]; done) | (simp only [upF_uu, mRevQ, c_1, c_3, eq_true c_5, c_6, eq_false c_9, eq_false c_10, eq_false c_11, ↓reduceIte, Bool.false_eq_true, decide_true, decide_false, Bool.not_true, Bool.not_false, Bool.or_true, Bool.true_or, Bool.or_false, Bool.false_or]; with_reducible rfl) | (simp only [upF_uu, mRevQ, c_1, c_3, eq_true c_5, c_6, eq_false c_9, eq_false c_10, eq_false c_11, ↓reduceIte, Bool.false_eq_true, decide_true, decide_false, Bool.not_true, Bool.not_false, Bool.or_true, Bool.true_or, Bool.or_false, Bool.false_or]; rfl) | (simp [b2i, upF_uu, mRevQ, c_1, c_3, eq_true c_5, c_6, eq_false c_9, eq_false c_10, eq_false c_11]; done) | rfl
                have hPf : va_P G.1 vwCl (wRM G z ((mRevQ r f n x1 x2).1.1) ((mRevQ r f n x1 x2).1.2)) H := by
                  have e1 : (mRevQ r f n x1 x2).1.1 = r := by first | with_reducible rfl | (simp only [upF_uu, mRevQ, c_1, c_3, eq_true c_5, c_6, eq_false c_9, eq_false c_10, eq_false c_11, ↓reduceIte, Bool.false_eq_true]; done) | (simp only [upF_uu, mRevQ, c_1, c_3, eq_true c_5, c_6, eq_false c_9, eq_false c_10, eq_false c_11, ↓reduceIte, Bool.false_eq_true]; rfl) | rfl
                  have e2 : (mRevQ r f n x1 x2).1.2 = upF (upF f 0 (nI 0)) 0 (nI 2) := by first | with_reducible rfl | (simp only [upF_uu, mRevQ, c_1, c_3, eq_true c_5, c_6, eq_false c_9, eq_false c_10, eq_false c_11, ↓reduceIte, Bool.false_eq_true]; done) | (simp only [upF_uu, mRevQ, c_1, c_3, eq_true c_5, c_6, eq_false c_9, eq_false c_10, eq_false c_11, ↓reduceIte, Bool.false_eq_true]; rfl) | rfl
                  rw [e1, e2]; exact hP
                exact W.iret (v := nI 0) hx hb hr (fun t ht _ => ⟨⟨_, (), rfl, hq, g_hp ht hPf⟩, hS.F ht⟩) hS.2.2 dX7_revert_136
          · refine lv_aload_n hx hb dX7_revert_62 rfl (lv_at hl 0 rfl) ?_
            refine va_get (D := G.1) (ci := 7) (v := .int (f 4)) (C := RX7) (T := TX7) (N := 26) hx hb hts hinX7 hown hK.1 hP 0 rfl rfl 8 (by decide) (hts (.fieldLink RX7 79 "RotaforgeModel" "changeMany" "I") (by decide +kernel)) (fun _ h9 => h9) rfl dX7_revert_63 ?_
            refine lv_sipush (v := nI 200) hx hb dX7_revert_66 (by decide +kernel) ?_
            refine lv_icmp_ne (tgt := 76) hx hb dX7_revert_69 (by decide) (fun c_12 => ?_) (fun c_12 => ?_)
            · refine lv_iconst (v := nI 0) hx hb dX7_revert_76 (by decide +kernel) ?_
              refine lv_istore_n (lv' := [(3, .int (nI 0)), (0, .ref (z 0)), (1, .int x1), (2, .int x2)]) hx hb dX7_revert_77 rfl hl (by decide) rfl (fun ls hl => ?_)
              refine lv_aload_n hx hb dX7_revert_78 rfl (lv_at hl 1 rfl) ?_
              refine lv_iload_n hx hb dX7_revert_79 rfl (lv_at hl 0 rfl) ?_
              refine lv_if_eq (tgt := 87) hx hb dX7_revert_80 (by decide) (fun c_13 => ?_) (fun c_13 => ?_)
              · refine lv_iconst (v := nI 0) hx hb dX7_revert_87 (by decide +kernel) ?_
                refine va_put (D := G.1) (ci := 7) (v := .int (nI 0)) (ty := .int) (C := RX7) (T := TX7) (N := 26) hx hb hts hinX7 tyX7 tyX7_ok nmX7 hown hK.1 hP hD hS 0 rfl rfl 0 (by decide) (hts (.fieldLink RX7 72 "RotaforgeModel" "thrown" "I") (by decide +kernel)) (fun _ h9 => h9) rfl (by decide +kernel) rfl rfl (Nat.le_of_ble_eq_true rfl) dX7_revert_88 (fun H locs hP hD hS => ?_)
                have hP : va_P G.1 vwCl (wRM G z r (upF (upF f 0 (nI 0)) 0 (nI 0))) H := gMs_0 hP
                have hD : va_D (gF z 20) (wRM G z r (upF (upF f 0 (nI 0)) 0 (nI 0))) := gD_RM hz
                refine lv_aload_n hx hb dX7_revert_91 rfl (lv_at hl 1 rfl) ?_
                refine va_get (D := G.1) (ci := 7) (v := .int (nI 0)) (C := RX7) (T := TX7) (N := 26) hx hb hts hinX7 hown hK.1 hP 0 rfl rfl 0 (by decide) (hts (.fieldLink RX7 72 "RotaforgeModel" "thrown" "I") (by decide +kernel)) (fun _ h9 => h9) rfl dX7_revert_92 ?_
                refine lv_if_le (tgt := 102) hx hb dX7_revert_95 (by decide) (fun c_14 => ?_) (fun c_14 => ?_)
                · refine lv_aload_n hx hb dX7_revert_102 rfl (lv_at hl 1 rfl) ?_
                  refine lv_iload_n hx hb dX7_revert_103 rfl (lv_at hl 2 rfl) ?_
                  refine lv_aload_n hx hb dX7_revert_104 rfl (lv_at hl 1 rfl) ?_
                  refine va_get (D := G.1) (ci := 7) (v := .ref (z 6)) (C := RX7) (T := TX7) (N := 26) hx hb hts hinX7 hown hK.1 hP 0 rfl rfl 10 (by decide) (hts (.fieldLink RX7 30 "RotaforgeModel" "sorts" "[I") (by decide +kernel)) (fun _ h9 => h9) rfl dX7_revert_105 ?_
                  refine lv_iload_n hx hb dX7_revert_108 rfl (lv_at hl 3 rfl) ?_
                  refine g_iald hx hb hK.1 hP 6 0 rfl rfl (cN x2) ((mIn_lt hn c_3 (by omega)).1) ((Nat.lt_of_lt_of_le (mIn_lt hn c_3 (by omega)).2 hn2)) (by decide) dX7_revert_109 ?_
                  refine lv_aload_n hx hb dX7_revert_110 rfl (lv_at hl 1 rfl) ?_
                  refine va_get (D := G.1) (ci := 7) (v := .ref (z 7)) (C := RX7) (T := TX7) (N := 26) hx hb hts hinX7 hown hK.1 hP 0 rfl rfl 11 (by decide) (hts (.fieldLink RX7 33 "RotaforgeModel" "targets" "[I") (by decide +kernel)) (fun _ h9 => h9) rfl dX7_revert_111 ?_
                  refine lv_iload_n hx hb dX7_revert_114 rfl (lv_at hl 3 rfl) ?_
                  refine g_iald hx hb hK.1 hP 7 0 rfl rfl (cN x2) ((mIn_lt hn c_3 (by omega)).1) ((Nat.lt_of_lt_of_le (mIn_lt hn c_3 (by omega)).2 hn2)) (by decide) dX7_revert_115 ?_
                  refine lv_aload_n hx hb dX7_revert_116 rfl (lv_at hl 1 rfl) ?_
                  refine lv_aload_n hx hb dX7_revert_117 rfl (lv_at hl 1 rfl) ?_
                  refine va_get (D := G.1) (ci := 7) (v := .ref (z 6)) (C := RX7) (T := TX7) (N := 26) hx hb hts hinX7 hown hK.1 hP 0 rfl rfl 10 (by decide) (hts (.fieldLink RX7 30 "RotaforgeModel" "sorts" "[I") (by decide +kernel)) (fun _ h9 => h9) rfl dX7_revert_118 ?_
                  refine lv_iload_n hx hb dX7_revert_121 rfl (lv_at hl 3 rfl) ?_
                  refine g_iald hx hb hK.1 hP 6 0 rfl rfl (cN x2) ((mIn_lt hn c_3 (by omega)).1) ((Nat.lt_of_lt_of_le (mIn_lt hn c_3 (by omega)).2 hn2)) (by decide) dX7_revert_122 ?_
                  refine lv_aload_n hx hb dX7_revert_123 rfl (lv_at hl 1 rfl) ?_
                  refine va_get (D := G.1) (ci := 7) (v := .ref (z 7)) (C := RX7) (T := TX7) (N := 26) hx hb hts hinX7 hown hK.1 hP 0 rfl rfl 11 (by decide) (hts (.fieldLink RX7 33 "RotaforgeModel" "targets" "[I") (by decide +kernel)) (fun _ h9 => h9) rfl dX7_revert_124 ?_
                  refine lv_iload_n hx hb dX7_revert_127 rfl (lv_at hl 3 rfl) ?_
                  refine g_iald hx hb hK.1 hP 7 0 rfl rfl (cN x2) ((mIn_lt hn c_3 (by omega)).1) ((Nat.lt_of_lt_of_le (mIn_lt hn c_3 (by omega)).2 hn2)) (by decide) dX7_revert_128 ?_
                  refine lv_iload_n hx hb dX7_revert_129 rfl (lv_at hl 3 rfl) ?_
                  refine g_callC (W.runV (C := RX7) (As := [.int ((r 5) (cN x2)), .int ((r 6) (cN x2)), .int x2]) (rest := [.int ((r 6) (cN x2)), .int ((r 5) (cN x2)), .int x1, .ref (z 0)]) S0 (c_X7_valueOf l G _ z r (upF (upF f 0 (nI 0)) 0 (nI 0)) hP ((r 5) (cN x2)) ((r 6) (cN x2)) x2 n d k t hM) (cwV 3 hts gX7_revert_X7_valueOf rfl rfl rfl (by decide +kernel) ⟨Nat.le_of_ble_eq_true rfl, Nat.le_of_ble_eq_true rfl⟩) (g_preV hK hP (q0 := 0) (ci := 7) (q := (RX7, TX7, 26)) rfl rfl) rfl rfl hl.1 rfl (lv_room (Nat.le_of_ble_eq_true rfl)) dX7_revert_130 ⟨Nat.zero_le _, Nat.zero_le _⟩) ?_
                  refine g_callw (va_runV (C := RX7) (As := [.int x1, .int ((r 5) (cN x2)), .int ((r 6) (cN x2)), .int (mVal r n ((r 5) (cN x2)) ((r 6) (cN x2)) x2)]) (rest := []) S0 (c_X7_makes l G _ z hz r (upF (upF f 0 (nI 0)) 0 (nI 0)) hP x1 ((r 5) (cN x2)) ((r 6) (cN x2)) (mVal r n ((r 5) (cN x2)) ((r 6) (cN x2)) x2) n d k t hM (by have h9 : ¬ n = 200 := fun h => c_12 (by rw [← h]; exact hn); omega)) (cwV 4 hts gX7_revert_X7_makes rfl rfl rfl (by decide +kernel) ⟨Nat.le_of_ble_eq_true rfl, Nat.le_of_ble_eq_true rfl⟩) (g_preV hK hP (q0 := 0) (ci := 7) (q := (RX7, TX7, 26)) rfl rfl) rfl rfl hl.1 rfl (lv_room (Nat.le_of_ble_eq_true rfl)) dX7_revert_133 ⟨Nat.zero_le _, Nat.zero_le _⟩) hS (fun _ h => h) (fun _ h => h) (fun H locs hP _ hS => ?_)
                  have hP : va_P G.1 vwCl (wRM G z (mMakeR r (upF (upF f 0 (nI 0)) 0 (nI 0)) n x1 ((r 5) (cN x2)) ((r 6) (cN x2)) (mVal r n ((r 5) (cN x2)) ((r 6) (cN x2)) x2)) (upF (upF (upF f 0 (nI 0)) 0 (nI 0)) 4 ((upF (upF f 0 (nI 0)) 0 (nI 0)) 4 + nI 1))) H := hP
                  have hD : va_D (gF z 20) (wRM G z (mMakeR r (upF (upF f 0 (nI 0)) 0 (nI 0)) n x1 ((r 5) (cN x2)) ((r 6) (cN x2)) (mVal r n ((r 5) (cN x2)) ((r 6) (cN x2)) x2)) (upF (upF (upF f 0 (nI 0)) 0 (nI 0)) 4 ((upF (upF f 0 (nI 0)) 0 (nI 0)) 4 + nI 1))) := gD_RM hz
                  have hq : ((upF (upF f 0 (nI 0)) 0 (nI 0)) 4 + nI 1 - nI 1) = ((mRevQ r f n x1 x2).2) := by
                    first | with_reducible rfl | with_reducible exact nI_add _ _ | (simp only [upF_uu, mRevQ, c_1, c_3, eq_true c_5, c_6, eq_true c_9, eq_false c_12, eq_true c_13, eq_true c_14, ↓reduceIte, Bool.false_eq_true, decide_true, decide_false, Bool.not_true, Bool.not_false, Bool.or_true, Bool.true_or, Bool.or_false, Bool.false_or]; done) | (simp only [upF_uu, mRevQ, c_1, c_3, eq_true c_5, c_6, eq_true c_9, eq_false c_12, eq_true c_13, eq_true c_14, ↓reduceIte, Bool.false_eq_true, decide_true, decide_false, Bool.not_true, Bool.not_false, Bool.or_true, Bool.true_or, Bool.or_false, Bool.false_or]; with_reducible rfl) | (simp only [upF_uu, mRevQ, c_1, c_3, eq_true c_5, c_6, eq_true c_9, eq_false c_12, eq_true c_13, eq_true c_14, ↓reduceIte, Bool.false_eq_true, decide_true, decide_false, Bool.not_true, Bool.not_false, Bool.or_true, Bool.true_or, Bool.or_false, Bool.false_or]; rfl) | (simp [b2i, upF_uu, mRevQ, c_1, c_3, eq_true c_5, c_6, eq_true c_9, eq_false c_12, eq_true c_13, eq_true c_14]; done) | rfl
                  have hPf : va_P G.1 vwCl (wRM G z ((mRevQ r f n x1 x2).1.1) ((mRevQ r f n x1 x2).1.2)) H := by
                    have e1 : (mRevQ r f n x1 x2).1.1 = mMakeR r (upF (upF f 0 (nI 0)) 0 (nI 0)) n x1 ((r 5) (cN x2)) ((r 6) (cN x2)) (mVal r n ((r 5) (cN x2)) ((r 6) (cN x2)) x2) := by first | with_reducible rfl | (simp only [upF_uu, mRevQ, c_1, c_3, eq_true c_5, c_6, eq_true c_9, eq_false c_12, eq_true c_13, eq_true c_14, ↓reduceIte, Bool.false_eq_true]; done) | (simp only [upF_uu, mRevQ, c_1, c_3, eq_true c_5, c_6, eq_true c_9, eq_false c_12, eq_true c_13, eq_true c_14, ↓reduceIte, Bool.false_eq_true]; rfl) | rfl
                    have e2 : (mRevQ r f n x1 x2).1.2 = upF (upF (upF f 0 (nI 0)) 0 (nI 0)) 4 ((upF (upF f 0 (nI 0)) 0 (nI 0)) 4 + nI 1) := by first | with_reducible rfl | (simp only [upF_uu, mRevQ, c_1, c_3, eq_true c_5, c_6, eq_true c_9, eq_false c_12, eq_true c_13, eq_true c_14, ↓reduceIte, Bool.false_eq_true]; done) | (simp only [upF_uu, mRevQ, c_1, c_3, eq_true c_5, c_6, eq_true c_9, eq_false c_12, eq_true c_13, eq_true c_14, ↓reduceIte, Bool.false_eq_true]; rfl) | rfl
                    rw [e1, e2]; exact hP
                  exact W.iret (v := (upF (upF f 0 (nI 0)) 0 (nI 0)) 4 + nI 1 - nI 1) hx hb hr (fun t ht _ => ⟨⟨_, (), rfl, hq, g_hp ht hPf⟩, hS.F ht⟩) hS.2.2 dX7_revert_136
                · exact absurd (by decide) c_14
              · exact absurd (by decide) c_13
            · refine lv_iconst (v := nI 1) hx hb dX7_revert_72 (by decide +kernel) ?_
              refine lv_goto (tgt := 77) hx hb dX7_revert_73 (by decide) ?_
              refine lv_istore_n (lv' := [(3, .int (nI 1)), (0, .ref (z 0)), (1, .int x1), (2, .int x2)]) hx hb dX7_revert_77 rfl hl (by decide) rfl (fun ls hl => ?_)
              refine lv_aload_n hx hb dX7_revert_78 rfl (lv_at hl 1 rfl) ?_
              refine lv_iload_n hx hb dX7_revert_79 rfl (lv_at hl 0 rfl) ?_
              refine lv_if_eq (tgt := 87) hx hb dX7_revert_80 (by decide) (fun c_15 => ?_) (fun c_15 => ?_)
              · exact absurd c_15 (by decide)
              · refine lv_iconst (v := nI 2) hx hb dX7_revert_83 (by decide +kernel) ?_
                refine lv_goto (tgt := 88) hx hb dX7_revert_84 (by decide) ?_
                refine va_put (D := G.1) (ci := 7) (v := .int (nI 2)) (ty := .int) (C := RX7) (T := TX7) (N := 26) hx hb hts hinX7 tyX7 tyX7_ok nmX7 hown hK.1 hP hD hS 0 rfl rfl 0 (by decide) (hts (.fieldLink RX7 72 "RotaforgeModel" "thrown" "I") (by decide +kernel)) (fun _ h9 => h9) rfl (by decide +kernel) rfl rfl (Nat.le_of_ble_eq_true rfl) dX7_revert_88 (fun H locs hP hD hS => ?_)
                have hP : va_P G.1 vwCl (wRM G z r (upF (upF f 0 (nI 0)) 0 (nI 2))) H := gMs_0 hP
                have hD : va_D (gF z 20) (wRM G z r (upF (upF f 0 (nI 0)) 0 (nI 2))) := gD_RM hz
                refine lv_aload_n hx hb dX7_revert_91 rfl (lv_at hl 1 rfl) ?_
                refine va_get (D := G.1) (ci := 7) (v := .int (nI 2)) (C := RX7) (T := TX7) (N := 26) hx hb hts hinX7 hown hK.1 hP 0 rfl rfl 0 (by decide) (hts (.fieldLink RX7 72 "RotaforgeModel" "thrown" "I") (by decide +kernel)) (fun _ h9 => h9) rfl dX7_revert_92 ?_
                refine lv_if_le (tgt := 102) hx hb dX7_revert_95 (by decide) (fun c_16 => ?_) (fun c_16 => ?_)
                · exact absurd c_16 (by decide)
                · refine lv_iconst (v := nI 0) hx hb dX7_revert_98 (by decide +kernel) ?_
                  refine lv_goto (tgt := 136) hx hb dX7_revert_99 (by decide) ?_
                  have hq : (nI 0) = ((mRevQ r f n x1 x2).2) := by
                    first | with_reducible rfl | with_reducible exact nI_add _ _ | (simp only [upF_uu, mRevQ, c_1, c_3, eq_true c_5, c_6, eq_true c_9, eq_true c_12, eq_false c_15, eq_false c_16, ↓reduceIte, Bool.false_eq_true, decide_true, decide_false, Bool.not_true, Bool.not_false, Bool.or_true, Bool.true_or, Bool.or_false, Bool.false_or]; done) | (simp only [upF_uu, mRevQ, c_1, c_3, eq_true c_5, c_6, eq_true c_9, eq_true c_12, eq_false c_15, eq_false c_16, ↓reduceIte, Bool.false_eq_true, decide_true, decide_false, Bool.not_true, Bool.not_false, Bool.or_true, Bool.true_or, Bool.or_false, Bool.false_or]; with_reducible rfl) | (simp only [upF_uu, mRevQ, c_1, c_3, eq_true c_5, c_6, eq_true c_9, eq_true c_12, eq_false c_15, eq_false c_16, ↓reduceIte, Bool.false_eq_true, decide_true, decide_false, Bool.not_true, Bool.not_false, Bool.or_true, Bool.true_or, Bool.or_false, Bool.false_or]; rfl) | (simp [b2i, upF_uu, mRevQ, c_1, c_3, eq_true c_5, c_6, eq_true c_9, eq_true c_12, eq_false c_15, eq_false c_16]; done) | rfl
                  have hPf : va_P G.1 vwCl (wRM G z ((mRevQ r f n x1 x2).1.1) ((mRevQ r f n x1 x2).1.2)) H := by
                    have e1 : (mRevQ r f n x1 x2).1.1 = r := by first | with_reducible rfl | (simp only [upF_uu, mRevQ, c_1, c_3, eq_true c_5, c_6, eq_true c_9, eq_true c_12, eq_false c_15, eq_false c_16, ↓reduceIte, Bool.false_eq_true]; done) | (simp only [upF_uu, mRevQ, c_1, c_3, eq_true c_5, c_6, eq_true c_9, eq_true c_12, eq_false c_15, eq_false c_16, ↓reduceIte, Bool.false_eq_true]; rfl) | rfl
                    have e2 : (mRevQ r f n x1 x2).1.2 = upF (upF f 0 (nI 0)) 0 (nI 2) := by first | with_reducible rfl | (simp only [upF_uu, mRevQ, c_1, c_3, eq_true c_5, c_6, eq_true c_9, eq_true c_12, eq_false c_15, eq_false c_16, ↓reduceIte, Bool.false_eq_true]; done) | (simp only [upF_uu, mRevQ, c_1, c_3, eq_true c_5, c_6, eq_true c_9, eq_true c_12, eq_false c_15, eq_false c_16, ↓reduceIte, Bool.false_eq_true]; rfl) | rfl
                    rw [e1, e2]; exact hP
                  exact W.iret (v := nI 0) hx hb hr (fun t ht _ => ⟨⟨_, (), rfl, hq, g_hp ht hPf⟩, hS.F ht⟩) hS.2.2 dX7_revert_136
      · exact absurd (by decide) c_5

set_option maxHeartbeats 4000000 in
set_option maxRecDepth 100000 in
theorem c_X7_takeOver (l : Launch) (G : gG) (H0 : Heap) (z : Nat → Nat) (hz : gDis z 20) (r : Nat → Nat → Int32) (f : Nat → Int32) (hP : va_P G.1 vwCl (wRM G z r f) H0) (x1 : Int32) (n d k t : Nat) (hM : mOK r f n d k t) : gMw l yX7_takeOver wsX7_takeOver 2 42 G H0 [.ref (z 0), .int x1] ((mTakeQ r f t x1).2) (wRM G z ((mTakeQ r f t x1).1.1) ((mTakeQ r f t x1).1.2)) (gF z 20) := by
  refine Met.ofW (cc := cX7_takeOver) (maxL := 4) (ret := (some .int)) (by decide) rfl ?_
  intro p_ e_ s m args below meth c s₁ B hml hv
  obtain ⟨rfl, rfl, hK⟩ := hv
  have hx := B.exec
  have hb := B.bytes
  have hr := B.returns
  have hts := atoms_spec (ws := wsX7_takeOver) B.pre
  have hown : s.vm.findClass RX7 = some m.cls := findClass_of_methodNamed B.named
  have hlocks := B.notSynchronized
  have hinX7 : ∀ w ∈ wsX70, w ∈ wsX7_takeOver := by decide +kernel
  have S0 : CallFix p_ m c cX7_takeOver 4 s _ wsX7_takeOver RX7 := ⟨hx, hb, hml, hown, hts⟩
  have hD : va_D (gF z 20) (wRM G z r f) := gD_RM hz
  have hS : va_S (gF z 20) s.heap s.heap [] := va_S.rf
  have hl := lv_entry ([.ref (z 0), .int x1]) (n := 4) (Nat.le_of_ble_eq_true rfl)
  rw [lg_entry_eq]
  generalize (lg_sl ([.ref (z 0), .int x1]) ++ List.replicate (4 - (lg_sl ([.ref (z 0), .int x1])).length) Slot.unset).toArray = ls at hl ⊢
  have hl : lv_has ls 4 [(0, .ref (z 0)), (1, .int x1)] := hl
  obtain ⟨hn, hn2, hd, hd2, hk, hk2, ht, ht2, hh, hm⟩ := id hM
  refine lv_iload_n hx hb dX7_takeOver_0 rfl (lv_at hl 1 rfl) ?_
  refine g_callC (W.runS (As := [.int x1]) (rest := []) S0 (c_X7_isPerson l G _ x1) (va_cwS 1 hts gX7_takeOver_X7_isPerson rfl rfl rfl (by decide +kernel) ⟨Nat.le_of_ble_eq_true rfl, Nat.le_of_ble_eq_true rfl⟩) (g_preS hK) rfl rfl hl.1 rfl (lv_room (Nat.le_of_ble_eq_true rfl)) dX7_takeOver_1 ⟨Nat.zero_le _, Nat.zero_le _⟩) ?_
  refine lv_if_ne (tgt := 13) hx hb dX7_takeOver_4 (by decide) (fun c_1 => ?_) (fun c_1 => ?_)
  · have c_1 := b2i_t c_1
    refine lv_aload_n hx hb dX7_takeOver_13 rfl (lv_at hl 0 rfl) ?_
    refine va_get (D := G.1) (ci := 7) (v := .int (f 1)) (C := RX7) (T := TX7) (N := 26) hx hb hts hinX7 hown hK.1 hP 0 rfl rfl 1 (by decide) (hts (.fieldLink RX7 120 "RotaforgeModel" "time" "I") (by decide +kernel)) (fun _ h9 => h9) rfl dX7_takeOver_14 ?_
    refine lv_bipush (v := nI 14) hx hb dX7_takeOver_17 (by decide +kernel) ?_
    refine lv_idiv hx hb dX7_takeOver_19 (by decide) ?_
    refine lv_istore_n (lv' := [(2, .int ((f 1) / (nI 14))), (0, .ref (z 0)), (1, .int x1)]) hx hb dX7_takeOver_20 rfl hl (by decide) rfl (fun ls hl => ?_)
    refine lv_aload_n hx hb dX7_takeOver_21 rfl (lv_at hl 1 rfl) ?_
    refine lv_aload_n hx hb dX7_takeOver_22 rfl (lv_at hl 1 rfl) ?_
    refine va_get (D := G.1) (ci := 7) (v := .ref (z 10)) (C := RX7) (T := TX7) (N := 26) hx hb hts hinX7 hown hK.1 hP 0 rfl rfl 14 (by decide) (hts (.fieldLink RX7 42 "RotaforgeModel" "holders" "[I") (by decide +kernel)) (fun _ h9 => h9) rfl dX7_takeOver_23 ?_
    refine lv_iload_n hx hb dX7_takeOver_26 rfl (lv_at hl 0 rfl) ?_
    refine g_iald hx hb hK.1 hP 10 0 rfl rfl (t / 14) ((by show f 1 / nI 14 = _; rw [ht]; exact pk_div (by omega) (by decide) (by decide))) (by omega) (by decide) dX7_takeOver_27 ?_
    refine lv_iload_n hx hb dX7_takeOver_28 rfl (lv_at hl 2 rfl) ?_
    refine lv_icmp_eq (tgt := 44) hx hb dX7_takeOver_29 (by decide) (fun c_2 => ?_) (fun c_2 => ?_)
    · refine lv_iconst (v := nI 2) hx hb dX7_takeOver_44 (by decide +kernel) ?_
      refine lv_goto (tgt := 49) hx hb dX7_takeOver_45 (by decide) ?_
      refine va_put (D := G.1) (ci := 7) (v := .int (nI 2)) (ty := .int) (C := RX7) (T := TX7) (N := 26) hx hb hts hinX7 tyX7 tyX7_ok nmX7 hown hK.1 hP hD hS 0 rfl rfl 0 (by decide) (hts (.fieldLink RX7 72 "RotaforgeModel" "thrown" "I") (by decide +kernel)) (fun _ h9 => h9) rfl (by decide +kernel) rfl rfl (Nat.le_of_ble_eq_true rfl) dX7_takeOver_49 (fun H locs hP hD hS => ?_)
      have hP : va_P G.1 vwCl (wRM G z r (upF f 0 (nI 2))) H := gMs_0 hP
      have hD : va_D (gF z 20) (wRM G z r (upF f 0 (nI 2))) := gD_RM hz
      refine lv_aload_n hx hb dX7_takeOver_52 rfl (lv_at hl 1 rfl) ?_
      refine va_get (D := G.1) (ci := 7) (v := .int (nI 2)) (C := RX7) (T := TX7) (N := 26) hx hb hts hinX7 hown hK.1 hP 0 rfl rfl 0 (by decide) (hts (.fieldLink RX7 72 "RotaforgeModel" "thrown" "I") (by decide +kernel)) (fun _ h9 => h9) rfl dX7_takeOver_53 ?_
      refine lv_if_le (tgt := 61) hx hb dX7_takeOver_56 (by decide) (fun c_3 => ?_) (fun c_3 => ?_)
      · exact absurd c_3 (by decide)
      · refine lv_iconst (v := nI 0) hx hb dX7_takeOver_59 (by decide +kernel) ?_
        have hq : (nI 0) = ((mTakeQ r f t x1).2) := by
          first | with_reducible rfl | with_reducible exact nI_add _ _ | (simp only [upF_uu, mTakeQ, c_1, eq_true c_2, eq_false c_3, ↓reduceIte, Bool.false_eq_true, decide_true, decide_false, Bool.not_true, Bool.not_false, Bool.or_true, Bool.true_or, Bool.or_false, Bool.false_or]; done) | (simp only [upF_uu, mTakeQ, c_1, eq_true c_2, eq_false c_3, ↓reduceIte, Bool.false_eq_true, decide_true, decide_false, Bool.not_true, Bool.not_false, Bool.or_true, Bool.true_or, Bool.or_false, Bool.false_or]; with_reducible rfl) | (simp only [upF_uu, mTakeQ, c_1, eq_true c_2, eq_false c_3, ↓reduceIte, Bool.false_eq_true, decide_true, decide_false, Bool.not_true, Bool.not_false, Bool.or_true, Bool.true_or, Bool.or_false, Bool.false_or]; rfl) | (simp [b2i, upF_uu, mTakeQ, c_1, eq_true c_2, eq_false c_3]; done) | rfl
        have hPf : va_P G.1 vwCl (wRM G z ((mTakeQ r f t x1).1.1) ((mTakeQ r f t x1).1.2)) H := by
          have e1 : (mTakeQ r f t x1).1.1 = r := by first | with_reducible rfl | (simp only [upF_uu, mTakeQ, c_1, eq_true c_2, eq_false c_3, ↓reduceIte, Bool.false_eq_true]; done) | (simp only [upF_uu, mTakeQ, c_1, eq_true c_2, eq_false c_3, ↓reduceIte, Bool.false_eq_true]; rfl) | rfl
          have e2 : (mTakeQ r f t x1).1.2 = upF f 0 (nI 2) := by first | with_reducible rfl | (simp only [upF_uu, mTakeQ, c_1, eq_true c_2, eq_false c_3, ↓reduceIte, Bool.false_eq_true]; done) | (simp only [upF_uu, mTakeQ, c_1, eq_true c_2, eq_false c_3, ↓reduceIte, Bool.false_eq_true]; rfl) | rfl
          rw [e1, e2]; exact hP
        exact W.iret (v := nI 0) hx hb hr (fun t ht _ => ⟨⟨_, (), rfl, hq, g_hp ht hPf⟩, hS.F ht⟩) hS.2.2 dX7_takeOver_60
    · refine lv_aload_n hx hb dX7_takeOver_32 rfl (lv_at hl 1 rfl) ?_
      refine va_get (D := G.1) (ci := 7) (v := .ref (z 10)) (C := RX7) (T := TX7) (N := 26) hx hb hts hinX7 hown hK.1 hP 0 rfl rfl 14 (by decide) (hts (.fieldLink RX7 42 "RotaforgeModel" "holders" "[I") (by decide +kernel)) (fun _ h9 => h9) rfl dX7_takeOver_33 ?_
      refine lv_iload_n hx hb dX7_takeOver_36 rfl (lv_at hl 0 rfl) ?_
      refine lv_iconst (v := nI 1) hx hb dX7_takeOver_37 (by decide +kernel) ?_
      refine lv_iadd hx hb dX7_takeOver_38 ?_
      refine g_iald hx hb hK.1 hP 10 0 rfl rfl (t / 14 + 1) ((by show f 1 / nI 14 + nI 1 = _; rw [ht, pk_div (by omega) (by decide) (by decide)]; exact nI_add _ _)) (by omega) (by decide) dX7_takeOver_39 ?_
      refine lv_iload_n hx hb dX7_takeOver_40 rfl (lv_at hl 2 rfl) ?_
      refine lv_icmp_ne (tgt := 48) hx hb dX7_takeOver_41 (by decide) (fun c_4 => ?_) (fun c_4 => ?_)
      · refine lv_iconst (v := nI 0) hx hb dX7_takeOver_48 (by decide +kernel) ?_
        refine va_put (D := G.1) (ci := 7) (v := .int (nI 0)) (ty := .int) (C := RX7) (T := TX7) (N := 26) hx hb hts hinX7 tyX7 tyX7_ok nmX7 hown hK.1 hP hD hS 0 rfl rfl 0 (by decide) (hts (.fieldLink RX7 72 "RotaforgeModel" "thrown" "I") (by decide +kernel)) (fun _ h9 => h9) rfl (by decide +kernel) rfl rfl (Nat.le_of_ble_eq_true rfl) dX7_takeOver_49 (fun H locs hP hD hS => ?_)
        have hP : va_P G.1 vwCl (wRM G z r (upF f 0 (nI 0))) H := gMs_0 hP
        have hD : va_D (gF z 20) (wRM G z r (upF f 0 (nI 0))) := gD_RM hz
        refine lv_aload_n hx hb dX7_takeOver_52 rfl (lv_at hl 1 rfl) ?_
        refine va_get (D := G.1) (ci := 7) (v := .int (nI 0)) (C := RX7) (T := TX7) (N := 26) hx hb hts hinX7 hown hK.1 hP 0 rfl rfl 0 (by decide) (hts (.fieldLink RX7 72 "RotaforgeModel" "thrown" "I") (by decide +kernel)) (fun _ h9 => h9) rfl dX7_takeOver_53 ?_
        refine lv_if_le (tgt := 61) hx hb dX7_takeOver_56 (by decide) (fun c_5 => ?_) (fun c_5 => ?_)
        · refine lv_aload_n hx hb dX7_takeOver_61 rfl (lv_at hl 1 rfl) ?_
          refine va_get (D := G.1) (ci := 7) (v := .ref (z 10)) (C := RX7) (T := TX7) (N := 26) hx hb hts hinX7 hown hK.1 hP 0 rfl rfl 14 (by decide) (hts (.fieldLink RX7 42 "RotaforgeModel" "holders" "[I") (by decide +kernel)) (fun _ h9 => h9) rfl dX7_takeOver_62 ?_
          refine lv_iload_n hx hb dX7_takeOver_65 rfl (lv_at hl 0 rfl) ?_
          refine lv_iconst (v := nI 1) hx hb dX7_takeOver_66 (by decide +kernel) ?_
          refine lv_iadd hx hb dX7_takeOver_67 ?_
          refine g_iald hx hb hK.1 hP 10 0 rfl rfl (t / 14 + 1) ((by show f 1 / nI 14 + nI 1 = _; rw [ht, pk_div (by omega) (by decide) (by decide)]; exact nI_add _ _)) (by omega) (by decide) dX7_takeOver_68 ?_
          refine lv_istore_n (lv' := [(3, .int ((r 9) (t / 14 + 1))), (2, .int ((f 1) / (nI 14))), (0, .ref (z 0)), (1, .int x1)]) hx hb dX7_takeOver_69 rfl hl (by decide) rfl (fun ls hl => ?_)
          refine lv_aload_n hx hb dX7_takeOver_70 rfl (lv_at hl 2 rfl) ?_
          refine va_get (D := G.1) (ci := 7) (v := .ref (z 10)) (C := RX7) (T := TX7) (N := 26) hx hb hts hinX7 hown hK.1 hP 0 rfl rfl 14 (by decide) (hts (.fieldLink RX7 42 "RotaforgeModel" "holders" "[I") (by decide +kernel)) (fun _ h9 => h9) rfl dX7_takeOver_71 ?_
          refine lv_iload_n hx hb dX7_takeOver_74 rfl (lv_at hl 1 rfl) ?_
          refine lv_iconst (v := nI 1) hx hb dX7_takeOver_75 (by decide +kernel) ?_
          refine lv_iadd hx hb dX7_takeOver_76 ?_
          refine lv_iload_n hx hb dX7_takeOver_77 rfl (lv_at hl 3 rfl) ?_
          refine g_iast hx hb hK.1 hP hD hS 10 0 rfl rfl (t / 14 + 1) ((by show f 1 / nI 14 + nI 1 = _; rw [ht, pk_div (by omega) (by decide) (by decide)]; exact nI_add _ _)) (by omega) (by decide) dX7_takeOver_78 (fun H locs hP hD hS => ?_)
          have hP : va_P G.1 vwCl (wRM G z (upR r 9 (upd (r 9) (t / 14 + 1) x1)) (upF f 0 (nI 0))) H := gMr_9 hP
          have hD : va_D (gF z 20) (wRM G z (upR r 9 (upd (r 9) (t / 14 + 1) x1)) (upF f 0 (nI 0))) := gD_RM hz
          refine lv_iload_n hx hb dX7_takeOver_79 rfl (lv_at hl 0 rfl) ?_
          have hq : ((r 9) (t / 14 + 1)) = ((mTakeQ r f t x1).2) := by
            first | with_reducible rfl | with_reducible exact nI_add _ _ | (simp only [upF_uu, mTakeQ, c_1, eq_false c_2, eq_false c_4, eq_true c_5, ↓reduceIte, Bool.false_eq_true, decide_true, decide_false, Bool.not_true, Bool.not_false, Bool.or_true, Bool.true_or, Bool.or_false, Bool.false_or]; done) | (simp only [upF_uu, mTakeQ, c_1, eq_false c_2, eq_false c_4, eq_true c_5, ↓reduceIte, Bool.false_eq_true, decide_true, decide_false, Bool.not_true, Bool.not_false, Bool.or_true, Bool.true_or, Bool.or_false, Bool.false_or]; with_reducible rfl) | (simp only [upF_uu, mTakeQ, c_1, eq_false c_2, eq_false c_4, eq_true c_5, ↓reduceIte, Bool.false_eq_true, decide_true, decide_false, Bool.not_true, Bool.not_false, Bool.or_true, Bool.true_or, Bool.or_false, Bool.false_or]; rfl) | (simp [b2i, upF_uu, mTakeQ, c_1, eq_false c_2, eq_false c_4, eq_true c_5]; done) | rfl
          have hPf : va_P G.1 vwCl (wRM G z ((mTakeQ r f t x1).1.1) ((mTakeQ r f t x1).1.2)) H := by
            have e1 : (mTakeQ r f t x1).1.1 = upR r 9 (upd (r 9) (t / 14 + 1) x1) := by first | with_reducible rfl | (simp only [upF_uu, mTakeQ, c_1, eq_false c_2, eq_false c_4, eq_true c_5, ↓reduceIte, Bool.false_eq_true]; done) | (simp only [upF_uu, mTakeQ, c_1, eq_false c_2, eq_false c_4, eq_true c_5, ↓reduceIte, Bool.false_eq_true]; rfl) | rfl
            have e2 : (mTakeQ r f t x1).1.2 = upF f 0 (nI 0) := by first | with_reducible rfl | (simp only [upF_uu, mTakeQ, c_1, eq_false c_2, eq_false c_4, eq_true c_5, ↓reduceIte, Bool.false_eq_true]; done) | (simp only [upF_uu, mTakeQ, c_1, eq_false c_2, eq_false c_4, eq_true c_5, ↓reduceIte, Bool.false_eq_true]; rfl) | rfl
            rw [e1, e2]; exact hP
          exact W.iret (v := (r 9) (t / 14 + 1)) hx hb hr (fun t ht _ => ⟨⟨_, (), rfl, hq, g_hp ht hPf⟩, hS.F ht⟩) hS.2.2 dX7_takeOver_80
        · exact absurd (by decide) c_5
      · refine lv_iconst (v := nI 2) hx hb dX7_takeOver_44 (by decide +kernel) ?_
        refine lv_goto (tgt := 49) hx hb dX7_takeOver_45 (by decide) ?_
        refine va_put (D := G.1) (ci := 7) (v := .int (nI 2)) (ty := .int) (C := RX7) (T := TX7) (N := 26) hx hb hts hinX7 tyX7 tyX7_ok nmX7 hown hK.1 hP hD hS 0 rfl rfl 0 (by decide) (hts (.fieldLink RX7 72 "RotaforgeModel" "thrown" "I") (by decide +kernel)) (fun _ h9 => h9) rfl (by decide +kernel) rfl rfl (Nat.le_of_ble_eq_true rfl) dX7_takeOver_49 (fun H locs hP hD hS => ?_)
        have hP : va_P G.1 vwCl (wRM G z r (upF f 0 (nI 2))) H := gMs_0 hP
        have hD : va_D (gF z 20) (wRM G z r (upF f 0 (nI 2))) := gD_RM hz
        refine lv_aload_n hx hb dX7_takeOver_52 rfl (lv_at hl 1 rfl) ?_
        refine va_get (D := G.1) (ci := 7) (v := .int (nI 2)) (C := RX7) (T := TX7) (N := 26) hx hb hts hinX7 hown hK.1 hP 0 rfl rfl 0 (by decide) (hts (.fieldLink RX7 72 "RotaforgeModel" "thrown" "I") (by decide +kernel)) (fun _ h9 => h9) rfl dX7_takeOver_53 ?_
        refine lv_if_le (tgt := 61) hx hb dX7_takeOver_56 (by decide) (fun c_6 => ?_) (fun c_6 => ?_)
        · exact absurd c_6 (by decide)
        · refine lv_iconst (v := nI 0) hx hb dX7_takeOver_59 (by decide +kernel) ?_
          have hq : (nI 0) = ((mTakeQ r f t x1).2) := by
            first | with_reducible rfl | with_reducible exact nI_add _ _ | (simp only [upF_uu, mTakeQ, c_1, eq_false c_2, eq_true c_4, eq_false c_6, ↓reduceIte, Bool.false_eq_true, decide_true, decide_false, Bool.not_true, Bool.not_false, Bool.or_true, Bool.true_or, Bool.or_false, Bool.false_or]; done) | (simp only [upF_uu, mTakeQ, c_1, eq_false c_2, eq_true c_4, eq_false c_6, ↓reduceIte, Bool.false_eq_true, decide_true, decide_false, Bool.not_true, Bool.not_false, Bool.or_true, Bool.true_or, Bool.or_false, Bool.false_or]; with_reducible rfl) | (simp only [upF_uu, mTakeQ, c_1, eq_false c_2, eq_true c_4, eq_false c_6, ↓reduceIte, Bool.false_eq_true, decide_true, decide_false, Bool.not_true, Bool.not_false, Bool.or_true, Bool.true_or, Bool.or_false, Bool.false_or]; rfl) | (simp [b2i, upF_uu, mTakeQ, c_1, eq_false c_2, eq_true c_4, eq_false c_6]; done) | rfl
          have hPf : va_P G.1 vwCl (wRM G z ((mTakeQ r f t x1).1.1) ((mTakeQ r f t x1).1.2)) H := by
            have e1 : (mTakeQ r f t x1).1.1 = r := by first | with_reducible rfl | (simp only [upF_uu, mTakeQ, c_1, eq_false c_2, eq_true c_4, eq_false c_6, ↓reduceIte, Bool.false_eq_true]; done) | (simp only [upF_uu, mTakeQ, c_1, eq_false c_2, eq_true c_4, eq_false c_6, ↓reduceIte, Bool.false_eq_true]; rfl) | rfl
            have e2 : (mTakeQ r f t x1).1.2 = upF f 0 (nI 2) := by first | with_reducible rfl | (simp only [upF_uu, mTakeQ, c_1, eq_false c_2, eq_true c_4, eq_false c_6, ↓reduceIte, Bool.false_eq_true]; done) | (simp only [upF_uu, mTakeQ, c_1, eq_false c_2, eq_true c_4, eq_false c_6, ↓reduceIte, Bool.false_eq_true]; rfl) | rfl
            rw [e1, e2]; exact hP
          exact W.iret (v := nI 0) hx hb hr (fun t ht _ => ⟨⟨_, (), rfl, hq, g_hp ht hPf⟩, hS.F ht⟩) hS.2.2 dX7_takeOver_60
  · have c_1 := b2i_f c_1
    refine lv_aload_n hx hb dX7_takeOver_7 rfl (lv_at hl 0 rfl) ?_
    refine lv_iconst (v := nI 1) hx hb dX7_takeOver_8 (by decide +kernel) ?_
    refine g_callw (va_runV (C := RX7) (As := [.int (nI 1)]) (rest := []) S0 (c_X7_fails l G _ z hz r f hP (nI 1)) (cwV 1 hts gX7_takeOver_X7_fails rfl rfl rfl (by decide +kernel) ⟨Nat.le_of_ble_eq_true rfl, Nat.le_of_ble_eq_true rfl⟩) (g_preV hK hP (q0 := 0) (ci := 7) (q := (RX7, TX7, 26)) rfl rfl) rfl rfl hl.1 rfl (lv_room (Nat.le_of_ble_eq_true rfl)) dX7_takeOver_9 ⟨Nat.zero_le _, Nat.zero_le _⟩) hS (fun _ h => h) (fun _ h => h) (fun H locs hP _ hS => ?_)
    have hP : va_P G.1 vwCl (wRM G z r (upF f 0 (nI 1))) H := hP
    have hD : va_D (gF z 20) (wRM G z r (upF f 0 (nI 1))) := gD_RM hz
    have hq : (nI 0) = ((mTakeQ r f t x1).2) := by
      first | with_reducible rfl | with_reducible exact nI_add _ _ | (simp only [upF_uu, mTakeQ, c_1, ↓reduceIte, Bool.false_eq_true, decide_true, decide_false, Bool.not_true, Bool.not_false, Bool.or_true, Bool.true_or, Bool.or_false, Bool.false_or]; done) | (simp only [upF_uu, mTakeQ, c_1, ↓reduceIte, Bool.false_eq_true, decide_true, decide_false, Bool.not_true, Bool.not_false, Bool.or_true, Bool.true_or, Bool.or_false, Bool.false_or]; with_reducible rfl) | (simp only [upF_uu, mTakeQ, c_1, ↓reduceIte, Bool.false_eq_true, decide_true, decide_false, Bool.not_true, Bool.not_false, Bool.or_true, Bool.true_or, Bool.or_false, Bool.false_or]; rfl) | (simp [b2i, upF_uu, mTakeQ, c_1]; done) | rfl
    have hPf : va_P G.1 vwCl (wRM G z ((mTakeQ r f t x1).1.1) ((mTakeQ r f t x1).1.2)) H := by
      have e1 : (mTakeQ r f t x1).1.1 = r := by first | with_reducible rfl | (simp only [upF_uu, mTakeQ, c_1, ↓reduceIte, Bool.false_eq_true]; done) | (simp only [upF_uu, mTakeQ, c_1, ↓reduceIte, Bool.false_eq_true]; rfl) | rfl
      have e2 : (mTakeQ r f t x1).1.2 = upF f 0 (nI 1) := by first | with_reducible rfl | (simp only [upF_uu, mTakeQ, c_1, ↓reduceIte, Bool.false_eq_true]; done) | (simp only [upF_uu, mTakeQ, c_1, ↓reduceIte, Bool.false_eq_true]; rfl) | rfl
      rw [e1, e2]; exact hP
    exact W.iret (v := nI 0) hx hb hr (fun t ht _ => ⟨⟨_, (), rfl, hq, g_hp ht hPf⟩, hS.F ht⟩) hS.2.2 dX7_takeOver_12

set_option maxHeartbeats 4000000 in
set_option maxRecDepth 100000 in
theorem c_X7_defect (l : Launch) (G : gG) (H0 : Heap) (z : Nat → Nat) (hz : gDis z 20) (r : Nat → Nat → Int32) (f : Nat → Int32) (hP : va_P G.1 vwCl (wRM G z r f) H0) (x1 : Int32) (x2 : Int32) (x3 : Bool) (n d k t : Nat) (hM : mOK r f n d k t) : gMw l yX7_defect wsX7_defect 2 43 G H0 [.ref (z 0), .int x1, .int x2, .int (b2i x3)] ((mDefQ r f d x1 x2 x3).2) (wRM G z ((mDefQ r f d x1 x2 x3).1.1) ((mDefQ r f d x1 x2 x3).1.2)) (gF z 20) := by
  refine Met.ofW (cc := cX7_defect) (maxL := 4) (ret := (some .int)) (by decide) rfl ?_
  intro p_ e_ s m args below meth c s₁ B hml hv
  obtain ⟨rfl, rfl, hK⟩ := hv
  have hx := B.exec
  have hb := B.bytes
  have hr := B.returns
  have hts := atoms_spec (ws := wsX7_defect) B.pre
  have hown : s.vm.findClass RX7 = some m.cls := findClass_of_methodNamed B.named
  have hlocks := B.notSynchronized
  have hinX7 : ∀ w ∈ wsX70, w ∈ wsX7_defect := by decide +kernel
  have S0 : CallFix p_ m c cX7_defect 4 s _ wsX7_defect RX7 := ⟨hx, hb, hml, hown, hts⟩
  have hD : va_D (gF z 20) (wRM G z r f) := gD_RM hz
  have hS : va_S (gF z 20) s.heap s.heap [] := va_S.rf
  have hl := lv_entry ([.ref (z 0), .int x1, .int x2, .int (b2i x3)]) (n := 4) (Nat.le_of_ble_eq_true rfl)
  rw [lg_entry_eq]
  generalize (lg_sl ([.ref (z 0), .int x1, .int x2, .int (b2i x3)]) ++ List.replicate (4 - (lg_sl ([.ref (z 0), .int x1, .int x2, .int (b2i x3)])).length) Slot.unset).toArray = ls at hl ⊢
  have hl : lv_has ls 4 [(0, .ref (z 0)), (1, .int x1), (2, .int x2), (3, .int (b2i x3))] := hl
  obtain ⟨hn, hn2, hd, hd2, hk, hk2, ht, ht2, hh, hm⟩ := id hM
  refine lv_aload_n hx hb dX7_defect_0 rfl (lv_at hl 0 rfl) ?_
  refine lv_aload_n hx hb dX7_defect_1 rfl (lv_at hl 0 rfl) ?_
  refine lv_iload_n hx hb dX7_defect_2 rfl (lv_at hl 1 rfl) ?_
  refine g_callC (W.runV (C := RX7) (As := [.int x1]) (rest := [.ref (z 0)]) S0 (c_X7_isVersion l G _ z r f hP x1) (cwV 1 hts gX7_defect_X7_isVersion rfl rfl rfl (by decide +kernel) ⟨Nat.le_of_ble_eq_true rfl, Nat.le_of_ble_eq_true rfl⟩) (g_preV hK hP (q0 := 0) (ci := 7) (q := (RX7, TX7, 26)) rfl rfl) rfl rfl hl.1 rfl (lv_room (Nat.le_of_ble_eq_true rfl)) dX7_defect_3 ⟨Nat.zero_le _, Nat.zero_le _⟩) ?_
  refine lv_if_eq (tgt := 21) hx hb dX7_defect_6 (by decide) (fun c_1 => ?_) (fun c_1 => ?_)
  · have c_1 := b2i_f c_1
    refine lv_iconst (v := nI 1) hx hb dX7_defect_21 (by decide +kernel) ?_
    refine lv_goto (tgt := 39) hx hb dX7_defect_22 (by decide) ?_
    refine va_put (D := G.1) (ci := 7) (v := .int (nI 1)) (ty := .int) (C := RX7) (T := TX7) (N := 26) hx hb hts hinX7 tyX7 tyX7_ok nmX7 hown hK.1 hP hD hS 0 rfl rfl 0 (by decide) (hts (.fieldLink RX7 72 "RotaforgeModel" "thrown" "I") (by decide +kernel)) (fun _ h9 => h9) rfl (by decide +kernel) rfl rfl (Nat.le_of_ble_eq_true rfl) dX7_defect_39 (fun H locs hP hD hS => ?_)
    have hP : va_P G.1 vwCl (wRM G z r (upF f 0 (nI 1))) H := gMs_0 hP
    have hD : va_D (gF z 20) (wRM G z r (upF f 0 (nI 1))) := gD_RM hz
    refine lv_aload_n hx hb dX7_defect_42 rfl (lv_at hl 0 rfl) ?_
    refine va_get (D := G.1) (ci := 7) (v := .int (nI 1)) (C := RX7) (T := TX7) (N := 26) hx hb hts hinX7 hown hK.1 hP 0 rfl rfl 0 (by decide) (hts (.fieldLink RX7 72 "RotaforgeModel" "thrown" "I") (by decide +kernel)) (fun _ h9 => h9) rfl dX7_defect_43 ?_
    refine lv_if_le (tgt := 51) hx hb dX7_defect_46 (by decide) (fun c_2 => ?_) (fun c_2 => ?_)
    · exact absurd c_2 (by decide)
    · refine lv_iconst (v := nI 0) hx hb dX7_defect_49 (by decide +kernel) ?_
      have hq : (nI 0) = ((mDefQ r f d x1 x2 x3).2) := by
        first | with_reducible rfl | with_reducible exact nI_add _ _ | (simp only [upF_uu, mDefQ, mDefR, c_1, eq_false c_2, ↓reduceIte, Bool.false_eq_true, decide_true, decide_false, Bool.not_true, Bool.not_false, Bool.or_true, Bool.true_or, Bool.or_false, Bool.false_or]; done) | (simp only [upF_uu, mDefQ, mDefR, c_1, eq_false c_2, ↓reduceIte, Bool.false_eq_true, decide_true, decide_false, Bool.not_true, Bool.not_false, Bool.or_true, Bool.true_or, Bool.or_false, Bool.false_or]; with_reducible rfl) | (simp only [upF_uu, mDefQ, mDefR, c_1, eq_false c_2, ↓reduceIte, Bool.false_eq_true, decide_true, decide_false, Bool.not_true, Bool.not_false, Bool.or_true, Bool.true_or, Bool.or_false, Bool.false_or]; rfl) | (simp [b2i, upF_uu, mDefQ, mDefR, c_1, eq_false c_2]; done) | rfl
      have hPf : va_P G.1 vwCl (wRM G z ((mDefQ r f d x1 x2 x3).1.1) ((mDefQ r f d x1 x2 x3).1.2)) H := by
        have e1 : (mDefQ r f d x1 x2 x3).1.1 = r := by first | with_reducible rfl | (simp only [upF_uu, mDefQ, mDefR, c_1, eq_false c_2, ↓reduceIte, Bool.false_eq_true]; done) | (simp only [upF_uu, mDefQ, mDefR, c_1, eq_false c_2, ↓reduceIte, Bool.false_eq_true]; rfl) | rfl
        have e2 : (mDefQ r f d x1 x2 x3).1.2 = upF f 0 (nI 1) := by first | with_reducible rfl | (simp only [upF_uu, mDefQ, mDefR, c_1, eq_false c_2, ↓reduceIte, Bool.false_eq_true]; done) | (simp only [upF_uu, mDefQ, mDefR, c_1, eq_false c_2, ↓reduceIte, Bool.false_eq_true]; rfl) | rfl
        rw [e1, e2]; exact hP
      exact W.iret (v := nI 0) hx hb hr (fun t ht _ => ⟨⟨_, (), rfl, hq, g_hp ht hPf⟩, hS.F ht⟩) hS.2.2 dX7_defect_50
  · have c_1 := b2i_t c_1
    refine lv_iload_n hx hb dX7_defect_9 rfl (lv_at hl 2 rfl) ?_
    refine lv_iconst (v := (-1)) hx hb dX7_defect_10 (by decide +kernel) ?_
    refine lv_icmp_eq (tgt := 25) hx hb dX7_defect_11 (by decide) (fun c_3 => ?_) (fun c_3 => ?_)
    · refine lv_aload_n hx hb dX7_defect_25 rfl (lv_at hl 0 rfl) ?_
      refine va_get (D := G.1) (ci := 7) (v := .int (f 3)) (C := RX7) (T := TX7) (N := 26) hx hb hts hinX7 hown hK.1 hP 0 rfl rfl 4 (by decide) (hts (.fieldLink RX7 92 "RotaforgeModel" "defectMany" "I") (by decide +kernel)) (fun _ h9 => h9) rfl dX7_defect_26 ?_
      refine lv_bipush (v := nI 24) hx hb dX7_defect_29 (by decide +kernel) ?_
      refine lv_icmp_ne (tgt := 38) hx hb dX7_defect_31 (by decide) (fun c_4 => ?_) (fun c_4 => ?_)
      · refine lv_iconst (v := nI 0) hx hb dX7_defect_38 (by decide +kernel) ?_
        refine va_put (D := G.1) (ci := 7) (v := .int (nI 0)) (ty := .int) (C := RX7) (T := TX7) (N := 26) hx hb hts hinX7 tyX7 tyX7_ok nmX7 hown hK.1 hP hD hS 0 rfl rfl 0 (by decide) (hts (.fieldLink RX7 72 "RotaforgeModel" "thrown" "I") (by decide +kernel)) (fun _ h9 => h9) rfl (by decide +kernel) rfl rfl (Nat.le_of_ble_eq_true rfl) dX7_defect_39 (fun H locs hP hD hS => ?_)
        have hP : va_P G.1 vwCl (wRM G z r (upF f 0 (nI 0))) H := gMs_0 hP
        have hD : va_D (gF z 20) (wRM G z r (upF f 0 (nI 0))) := gD_RM hz
        refine lv_aload_n hx hb dX7_defect_42 rfl (lv_at hl 0 rfl) ?_
        refine va_get (D := G.1) (ci := 7) (v := .int (nI 0)) (C := RX7) (T := TX7) (N := 26) hx hb hts hinX7 hown hK.1 hP 0 rfl rfl 0 (by decide) (hts (.fieldLink RX7 72 "RotaforgeModel" "thrown" "I") (by decide +kernel)) (fun _ h9 => h9) rfl dX7_defect_43 ?_
        refine lv_if_le (tgt := 51) hx hb dX7_defect_46 (by decide) (fun c_5 => ?_) (fun c_5 => ?_)
        · refine lv_aload_n hx hb dX7_defect_51 rfl (lv_at hl 0 rfl) ?_
          refine va_get (D := G.1) (ci := 7) (v := .ref (z 2)) (C := RX7) (T := TX7) (N := 26) hx hb hts hinX7 hown hK.1 hP 0 rfl rfl 5 (by decide) (hts (.fieldLink RX7 17 "RotaforgeModel" "defectVersions" "[I") (by decide +kernel)) (fun _ h9 => h9) rfl dX7_defect_52 ?_
          refine lv_aload_n hx hb dX7_defect_55 rfl (lv_at hl 0 rfl) ?_
          refine va_get (D := G.1) (ci := 7) (v := .int (f 3)) (C := RX7) (T := TX7) (N := 26) hx hb hts hinX7 hown hK.1 hP 0 rfl rfl 4 (by decide) (hts (.fieldLink RX7 92 "RotaforgeModel" "defectMany" "I") (by decide +kernel)) (fun _ h9 => h9) rfl dX7_defect_56 ?_
          refine lv_iload_n hx hb dX7_defect_59 rfl (lv_at hl 1 rfl) ?_
          refine g_iast hx hb hK.1 hP hD hS 2 0 rfl rfl d (hd) ((by have h9 : ¬ d = 24 := fun h => c_4 (by rw [← h]; exact hd); omega)) (by decide) dX7_defect_60 (fun H locs hP hD hS => ?_)
          have hP : va_P G.1 vwCl (wRM G z (upR r 1 (upd (r 1) d x1)) (upF f 0 (nI 0))) H := gMr_1 hP
          have hD : va_D (gF z 20) (wRM G z (upR r 1 (upd (r 1) d x1)) (upF f 0 (nI 0))) := gD_RM hz
          refine lv_aload_n hx hb dX7_defect_61 rfl (lv_at hl 0 rfl) ?_
          refine va_get (D := G.1) (ci := 7) (v := .ref (z 3)) (C := RX7) (T := TX7) (N := 26) hx hb hts hinX7 hown hK.1 hP 0 rfl rfl 6 (by decide) (hts (.fieldLink RX7 20 "RotaforgeModel" "defectSwitches" "[I") (by decide +kernel)) (fun _ h9 => h9) rfl dX7_defect_62 ?_
          refine lv_aload_n hx hb dX7_defect_65 rfl (lv_at hl 0 rfl) ?_
          refine va_get (D := G.1) (ci := 7) (v := .int (f 3)) (C := RX7) (T := TX7) (N := 26) hx hb hts hinX7 hown hK.1 hP 0 rfl rfl 4 (by decide) (hts (.fieldLink RX7 92 "RotaforgeModel" "defectMany" "I") (by decide +kernel)) (fun _ h9 => h9) rfl dX7_defect_66 ?_
          refine lv_iload_n hx hb dX7_defect_69 rfl (lv_at hl 2 rfl) ?_
          refine g_iast hx hb hK.1 hP hD hS 3 0 rfl rfl d (hd) ((by have h9 : ¬ d = 24 := fun h => c_4 (by rw [← h]; exact hd); omega)) (by decide) dX7_defect_70 (fun H locs hP hD hS => ?_)
          have hP : va_P G.1 vwCl (wRM G z (upR (upR r 1 (upd (r 1) d x1)) 2 (upd (r 2) d x2)) (upF f 0 (nI 0))) H := gMr_2 hP
          have hD : va_D (gF z 20) (wRM G z (upR (upR r 1 (upd (r 1) d x1)) 2 (upd (r 2) d x2)) (upF f 0 (nI 0))) := gD_RM hz
          refine lv_aload_n hx hb dX7_defect_71 rfl (lv_at hl 0 rfl) ?_
          refine va_get (D := G.1) (ci := 7) (v := .ref (z 4)) (C := RX7) (T := TX7) (N := 26) hx hb hts hinX7 hown hK.1 hP 0 rfl rfl 7 (by decide) (hts (.fieldLink RX7 23 "RotaforgeModel" "defectOns" "[Z") (by decide +kernel)) (fun _ h9 => h9) rfl dX7_defect_72 ?_
          refine lv_aload_n hx hb dX7_defect_75 rfl (lv_at hl 0 rfl) ?_
          refine va_get (D := G.1) (ci := 7) (v := .int (f 3)) (C := RX7) (T := TX7) (N := 26) hx hb hts hinX7 hown hK.1 hP 0 rfl rfl 4 (by decide) (hts (.fieldLink RX7 92 "RotaforgeModel" "defectMany" "I") (by decide +kernel)) (fun _ h9 => h9) rfl dX7_defect_76 ?_
          refine lv_iload_n hx hb dX7_defect_79 rfl (lv_at hl 3 rfl) ?_
          refine g_zast hx hb hK.1 hP hD hS 4 1 rfl rfl d (hd) ((by have h9 : ¬ d = 24 := fun h => c_4 (by rw [← h]; exact hd); omega)) (by decide) ((by cases x3 <;> rfl)) dX7_defect_80 (fun H locs hP hD hS => ?_)
          have hP : va_P G.1 vwCl (wRM G z (upR (upR (upR r 1 (upd (r 1) d x1)) 2 (upd (r 2) d x2)) 3 (upd (r 3) d (b2i x3))) (upF f 0 (nI 0))) H := gMr_3 hP
          have hD : va_D (gF z 20) (wRM G z (upR (upR (upR r 1 (upd (r 1) d x1)) 2 (upd (r 2) d x2)) 3 (upd (r 3) d (b2i x3))) (upF f 0 (nI 0))) := gD_RM hz
          refine lv_aload_n hx hb dX7_defect_81 rfl (lv_at hl 0 rfl) ?_
          refine lv_dup hx hb dX7_defect_82 rfl ?_
          refine va_get (D := G.1) (ci := 7) (v := .int (f 3)) (C := RX7) (T := TX7) (N := 26) hx hb hts hinX7 hown hK.1 hP 0 rfl rfl 4 (by decide) (hts (.fieldLink RX7 92 "RotaforgeModel" "defectMany" "I") (by decide +kernel)) (fun _ h9 => h9) rfl dX7_defect_83 ?_
          refine lv_iconst (v := nI 1) hx hb dX7_defect_86 (by decide +kernel) ?_
          refine lv_iadd hx hb dX7_defect_87 ?_
          refine va_put (D := G.1) (ci := 7) (v := .int ((f 3) + (nI 1))) (ty := .int) (C := RX7) (T := TX7) (N := 26) hx hb hts hinX7 tyX7 tyX7_ok nmX7 hown hK.1 hP hD hS 0 rfl rfl 4 (by decide) (hts (.fieldLink RX7 92 "RotaforgeModel" "defectMany" "I") (by decide +kernel)) (fun _ h9 => h9) rfl (by decide +kernel) rfl rfl (Nat.le_of_ble_eq_true rfl) dX7_defect_88 (fun H locs hP hD hS => ?_)
          have hP : va_P G.1 vwCl (wRM G z (upR (upR (upR r 1 (upd (r 1) d x1)) 2 (upd (r 2) d x2)) 3 (upd (r 3) d (b2i x3))) (upF (upF f 0 (nI 0)) 3 ((f 3) + (nI 1)))) H := gMs_3 hP
          have hD : va_D (gF z 20) (wRM G z (upR (upR (upR r 1 (upd (r 1) d x1)) 2 (upd (r 2) d x2)) 3 (upd (r 3) d (b2i x3))) (upF (upF f 0 (nI 0)) 3 ((f 3) + (nI 1)))) := gD_RM hz
          refine lv_aload_n hx hb dX7_defect_91 rfl (lv_at hl 0 rfl) ?_
          refine va_get (D := G.1) (ci := 7) (v := .int ((f 3) + (nI 1))) (C := RX7) (T := TX7) (N := 26) hx hb hts hinX7 hown hK.1 hP 0 rfl rfl 4 (by decide) (hts (.fieldLink RX7 92 "RotaforgeModel" "defectMany" "I") (by decide +kernel)) (fun _ h9 => h9) rfl dX7_defect_92 ?_
          have hq : ((f 3) + (nI 1)) = ((mDefQ r f d x1 x2 x3).2) := by
            first | with_reducible rfl | with_reducible exact nI_add _ _ | (simp only [upF_uu, mDefQ, mDefR, c_1, eq_true c_3, eq_false c_4, eq_true c_5, ↓reduceIte, Bool.false_eq_true, decide_true, decide_false, Bool.not_true, Bool.not_false, Bool.or_true, Bool.true_or, Bool.or_false, Bool.false_or]; done) | (simp only [upF_uu, mDefQ, mDefR, c_1, eq_true c_3, eq_false c_4, eq_true c_5, ↓reduceIte, Bool.false_eq_true, decide_true, decide_false, Bool.not_true, Bool.not_false, Bool.or_true, Bool.true_or, Bool.or_false, Bool.false_or]; with_reducible rfl) | (simp only [upF_uu, mDefQ, mDefR, c_1, eq_true c_3, eq_false c_4, eq_true c_5, ↓reduceIte, Bool.false_eq_true, decide_true, decide_false, Bool.not_true, Bool.not_false, Bool.or_true, Bool.true_or, Bool.or_false, Bool.false_or]; rfl) | (simp [b2i, upF_uu, mDefQ, mDefR, c_1, eq_true c_3, eq_false c_4, eq_true c_5]; done) | rfl
          have hPf : va_P G.1 vwCl (wRM G z ((mDefQ r f d x1 x2 x3).1.1) ((mDefQ r f d x1 x2 x3).1.2)) H := by
            have e1 : (mDefQ r f d x1 x2 x3).1.1 = upR (upR (upR r 1 (upd (r 1) d x1)) 2 (upd (r 2) d x2)) 3 (upd (r 3) d (b2i x3)) := by first | with_reducible rfl | (simp only [upF_uu, mDefQ, mDefR, c_1, eq_true c_3, eq_false c_4, eq_true c_5, ↓reduceIte, Bool.false_eq_true]; done) | (simp only [upF_uu, mDefQ, mDefR, c_1, eq_true c_3, eq_false c_4, eq_true c_5, ↓reduceIte, Bool.false_eq_true]; rfl) | rfl
            have e2 : (mDefQ r f d x1 x2 x3).1.2 = upF (upF f 0 (nI 0)) 3 ((f 3) + (nI 1)) := by first | with_reducible rfl | (simp only [upF_uu, mDefQ, mDefR, c_1, eq_true c_3, eq_false c_4, eq_true c_5, ↓reduceIte, Bool.false_eq_true]; done) | (simp only [upF_uu, mDefQ, mDefR, c_1, eq_true c_3, eq_false c_4, eq_true c_5, ↓reduceIte, Bool.false_eq_true]; rfl) | rfl
            rw [e1, e2]; exact hP
          exact W.iret (v := ((f 3) + (nI 1))) hx hb hr (fun t ht _ => ⟨⟨_, (), rfl, hq, g_hp ht hPf⟩, hS.F ht⟩) hS.2.2 dX7_defect_95
        · exact absurd (by decide) c_5
      · refine lv_iconst (v := nI 2) hx hb dX7_defect_34 (by decide +kernel) ?_
        refine lv_goto (tgt := 39) hx hb dX7_defect_35 (by decide) ?_
        refine va_put (D := G.1) (ci := 7) (v := .int (nI 2)) (ty := .int) (C := RX7) (T := TX7) (N := 26) hx hb hts hinX7 tyX7 tyX7_ok nmX7 hown hK.1 hP hD hS 0 rfl rfl 0 (by decide) (hts (.fieldLink RX7 72 "RotaforgeModel" "thrown" "I") (by decide +kernel)) (fun _ h9 => h9) rfl (by decide +kernel) rfl rfl (Nat.le_of_ble_eq_true rfl) dX7_defect_39 (fun H locs hP hD hS => ?_)
        have hP : va_P G.1 vwCl (wRM G z r (upF f 0 (nI 2))) H := gMs_0 hP
        have hD : va_D (gF z 20) (wRM G z r (upF f 0 (nI 2))) := gD_RM hz
        refine lv_aload_n hx hb dX7_defect_42 rfl (lv_at hl 0 rfl) ?_
        refine va_get (D := G.1) (ci := 7) (v := .int (nI 2)) (C := RX7) (T := TX7) (N := 26) hx hb hts hinX7 hown hK.1 hP 0 rfl rfl 0 (by decide) (hts (.fieldLink RX7 72 "RotaforgeModel" "thrown" "I") (by decide +kernel)) (fun _ h9 => h9) rfl dX7_defect_43 ?_
        refine lv_if_le (tgt := 51) hx hb dX7_defect_46 (by decide) (fun c_6 => ?_) (fun c_6 => ?_)
        · exact absurd c_6 (by decide)
        · refine lv_iconst (v := nI 0) hx hb dX7_defect_49 (by decide +kernel) ?_
          have hq : (nI 0) = ((mDefQ r f d x1 x2 x3).2) := by
            first | with_reducible rfl | with_reducible exact nI_add _ _ | (simp only [upF_uu, mDefQ, mDefR, c_1, eq_true c_3, eq_true c_4, eq_false c_6, ↓reduceIte, Bool.false_eq_true, decide_true, decide_false, Bool.not_true, Bool.not_false, Bool.or_true, Bool.true_or, Bool.or_false, Bool.false_or]; done) | (simp only [upF_uu, mDefQ, mDefR, c_1, eq_true c_3, eq_true c_4, eq_false c_6, ↓reduceIte, Bool.false_eq_true, decide_true, decide_false, Bool.not_true, Bool.not_false, Bool.or_true, Bool.true_or, Bool.or_false, Bool.false_or]; with_reducible rfl) | (simp only [upF_uu, mDefQ, mDefR, c_1, eq_true c_3, eq_true c_4, eq_false c_6, ↓reduceIte, Bool.false_eq_true, decide_true, decide_false, Bool.not_true, Bool.not_false, Bool.or_true, Bool.true_or, Bool.or_false, Bool.false_or]; rfl) | (simp [b2i, upF_uu, mDefQ, mDefR, c_1, eq_true c_3, eq_true c_4, eq_false c_6]; done) | rfl
          have hPf : va_P G.1 vwCl (wRM G z ((mDefQ r f d x1 x2 x3).1.1) ((mDefQ r f d x1 x2 x3).1.2)) H := by
            have e1 : (mDefQ r f d x1 x2 x3).1.1 = r := by first | with_reducible rfl | (simp only [upF_uu, mDefQ, mDefR, c_1, eq_true c_3, eq_true c_4, eq_false c_6, ↓reduceIte, Bool.false_eq_true]; done) | (simp only [upF_uu, mDefQ, mDefR, c_1, eq_true c_3, eq_true c_4, eq_false c_6, ↓reduceIte, Bool.false_eq_true]; rfl) | rfl
            have e2 : (mDefQ r f d x1 x2 x3).1.2 = upF f 0 (nI 2) := by first | with_reducible rfl | (simp only [upF_uu, mDefQ, mDefR, c_1, eq_true c_3, eq_true c_4, eq_false c_6, ↓reduceIte, Bool.false_eq_true]; done) | (simp only [upF_uu, mDefQ, mDefR, c_1, eq_true c_3, eq_true c_4, eq_false c_6, ↓reduceIte, Bool.false_eq_true]; rfl) | rfl
            rw [e1, e2]; exact hP
          exact W.iret (v := nI 0) hx hb hr (fun t ht _ => ⟨⟨_, (), rfl, hq, g_hp ht hPf⟩, hS.F ht⟩) hS.2.2 dX7_defect_50
    · refine lv_iload_n hx hb dX7_defect_14 rfl (lv_at hl 2 rfl) ?_
      refine g_callC (W.runS (As := [.int x2]) (rest := [.ref (z 0)]) S0 (c_X7_isSwitch l G _ x2) (va_cwS 1 hts gX7_defect_X7_isSwitch rfl rfl rfl (by decide +kernel) ⟨Nat.le_of_ble_eq_true rfl, Nat.le_of_ble_eq_true rfl⟩) (g_preS hK) rfl rfl hl.1 rfl (lv_room (Nat.le_of_ble_eq_true rfl)) dX7_defect_15 ⟨Nat.zero_le _, Nat.zero_le _⟩) ?_
      refine lv_if_ne (tgt := 25) hx hb dX7_defect_18 (by decide) (fun c_7 => ?_) (fun c_7 => ?_)
      · have c_7 := b2i_t c_7
        refine lv_aload_n hx hb dX7_defect_25 rfl (lv_at hl 0 rfl) ?_
        refine va_get (D := G.1) (ci := 7) (v := .int (f 3)) (C := RX7) (T := TX7) (N := 26) hx hb hts hinX7 hown hK.1 hP 0 rfl rfl 4 (by decide) (hts (.fieldLink RX7 92 "RotaforgeModel" "defectMany" "I") (by decide +kernel)) (fun _ h9 => h9) rfl dX7_defect_26 ?_
        refine lv_bipush (v := nI 24) hx hb dX7_defect_29 (by decide +kernel) ?_
        refine lv_icmp_ne (tgt := 38) hx hb dX7_defect_31 (by decide) (fun c_8 => ?_) (fun c_8 => ?_)
        · refine lv_iconst (v := nI 0) hx hb dX7_defect_38 (by decide +kernel) ?_
          refine va_put (D := G.1) (ci := 7) (v := .int (nI 0)) (ty := .int) (C := RX7) (T := TX7) (N := 26) hx hb hts hinX7 tyX7 tyX7_ok nmX7 hown hK.1 hP hD hS 0 rfl rfl 0 (by decide) (hts (.fieldLink RX7 72 "RotaforgeModel" "thrown" "I") (by decide +kernel)) (fun _ h9 => h9) rfl (by decide +kernel) rfl rfl (Nat.le_of_ble_eq_true rfl) dX7_defect_39 (fun H locs hP hD hS => ?_)
          have hP : va_P G.1 vwCl (wRM G z r (upF f 0 (nI 0))) H := gMs_0 hP
          have hD : va_D (gF z 20) (wRM G z r (upF f 0 (nI 0))) := gD_RM hz
          refine lv_aload_n hx hb dX7_defect_42 rfl (lv_at hl 0 rfl) ?_
          refine va_get (D := G.1) (ci := 7) (v := .int (nI 0)) (C := RX7) (T := TX7) (N := 26) hx hb hts hinX7 hown hK.1 hP 0 rfl rfl 0 (by decide) (hts (.fieldLink RX7 72 "RotaforgeModel" "thrown" "I") (by decide +kernel)) (fun _ h9 => h9) rfl dX7_defect_43 ?_
          refine lv_if_le (tgt := 51) hx hb dX7_defect_46 (by decide) (fun c_9 => ?_) (fun c_9 => ?_)
          · refine lv_aload_n hx hb dX7_defect_51 rfl (lv_at hl 0 rfl) ?_
            refine va_get (D := G.1) (ci := 7) (v := .ref (z 2)) (C := RX7) (T := TX7) (N := 26) hx hb hts hinX7 hown hK.1 hP 0 rfl rfl 5 (by decide) (hts (.fieldLink RX7 17 "RotaforgeModel" "defectVersions" "[I") (by decide +kernel)) (fun _ h9 => h9) rfl dX7_defect_52 ?_
            refine lv_aload_n hx hb dX7_defect_55 rfl (lv_at hl 0 rfl) ?_
            refine va_get (D := G.1) (ci := 7) (v := .int (f 3)) (C := RX7) (T := TX7) (N := 26) hx hb hts hinX7 hown hK.1 hP 0 rfl rfl 4 (by decide) (hts (.fieldLink RX7 92 "RotaforgeModel" "defectMany" "I") (by decide +kernel)) (fun _ h9 => h9) rfl dX7_defect_56 ?_
            refine lv_iload_n hx hb dX7_defect_59 rfl (lv_at hl 1 rfl) ?_
            refine g_iast hx hb hK.1 hP hD hS 2 0 rfl rfl d (hd) ((by have h9 : ¬ d = 24 := fun h => c_8 (by rw [← h]; exact hd); omega)) (by decide) dX7_defect_60 (fun H locs hP hD hS => ?_)
            have hP : va_P G.1 vwCl (wRM G z (upR r 1 (upd (r 1) d x1)) (upF f 0 (nI 0))) H := gMr_1 hP
            have hD : va_D (gF z 20) (wRM G z (upR r 1 (upd (r 1) d x1)) (upF f 0 (nI 0))) := gD_RM hz
            refine lv_aload_n hx hb dX7_defect_61 rfl (lv_at hl 0 rfl) ?_
            refine va_get (D := G.1) (ci := 7) (v := .ref (z 3)) (C := RX7) (T := TX7) (N := 26) hx hb hts hinX7 hown hK.1 hP 0 rfl rfl 6 (by decide) (hts (.fieldLink RX7 20 "RotaforgeModel" "defectSwitches" "[I") (by decide +kernel)) (fun _ h9 => h9) rfl dX7_defect_62 ?_
            refine lv_aload_n hx hb dX7_defect_65 rfl (lv_at hl 0 rfl) ?_
            refine va_get (D := G.1) (ci := 7) (v := .int (f 3)) (C := RX7) (T := TX7) (N := 26) hx hb hts hinX7 hown hK.1 hP 0 rfl rfl 4 (by decide) (hts (.fieldLink RX7 92 "RotaforgeModel" "defectMany" "I") (by decide +kernel)) (fun _ h9 => h9) rfl dX7_defect_66 ?_
            refine lv_iload_n hx hb dX7_defect_69 rfl (lv_at hl 2 rfl) ?_
            refine g_iast hx hb hK.1 hP hD hS 3 0 rfl rfl d (hd) ((by have h9 : ¬ d = 24 := fun h => c_8 (by rw [← h]; exact hd); omega)) (by decide) dX7_defect_70 (fun H locs hP hD hS => ?_)
            have hP : va_P G.1 vwCl (wRM G z (upR (upR r 1 (upd (r 1) d x1)) 2 (upd (r 2) d x2)) (upF f 0 (nI 0))) H := gMr_2 hP
            have hD : va_D (gF z 20) (wRM G z (upR (upR r 1 (upd (r 1) d x1)) 2 (upd (r 2) d x2)) (upF f 0 (nI 0))) := gD_RM hz
            refine lv_aload_n hx hb dX7_defect_71 rfl (lv_at hl 0 rfl) ?_
            refine va_get (D := G.1) (ci := 7) (v := .ref (z 4)) (C := RX7) (T := TX7) (N := 26) hx hb hts hinX7 hown hK.1 hP 0 rfl rfl 7 (by decide) (hts (.fieldLink RX7 23 "RotaforgeModel" "defectOns" "[Z") (by decide +kernel)) (fun _ h9 => h9) rfl dX7_defect_72 ?_
            refine lv_aload_n hx hb dX7_defect_75 rfl (lv_at hl 0 rfl) ?_
            refine va_get (D := G.1) (ci := 7) (v := .int (f 3)) (C := RX7) (T := TX7) (N := 26) hx hb hts hinX7 hown hK.1 hP 0 rfl rfl 4 (by decide) (hts (.fieldLink RX7 92 "RotaforgeModel" "defectMany" "I") (by decide +kernel)) (fun _ h9 => h9) rfl dX7_defect_76 ?_
            refine lv_iload_n hx hb dX7_defect_79 rfl (lv_at hl 3 rfl) ?_
            refine g_zast hx hb hK.1 hP hD hS 4 1 rfl rfl d (hd) ((by have h9 : ¬ d = 24 := fun h => c_8 (by rw [← h]; exact hd); omega)) (by decide) ((by cases x3 <;> rfl)) dX7_defect_80 (fun H locs hP hD hS => ?_)
            have hP : va_P G.1 vwCl (wRM G z (upR (upR (upR r 1 (upd (r 1) d x1)) 2 (upd (r 2) d x2)) 3 (upd (r 3) d (b2i x3))) (upF f 0 (nI 0))) H := gMr_3 hP
            have hD : va_D (gF z 20) (wRM G z (upR (upR (upR r 1 (upd (r 1) d x1)) 2 (upd (r 2) d x2)) 3 (upd (r 3) d (b2i x3))) (upF f 0 (nI 0))) := gD_RM hz
            refine lv_aload_n hx hb dX7_defect_81 rfl (lv_at hl 0 rfl) ?_
            refine lv_dup hx hb dX7_defect_82 rfl ?_
            refine va_get (D := G.1) (ci := 7) (v := .int (f 3)) (C := RX7) (T := TX7) (N := 26) hx hb hts hinX7 hown hK.1 hP 0 rfl rfl 4 (by decide) (hts (.fieldLink RX7 92 "RotaforgeModel" "defectMany" "I") (by decide +kernel)) (fun _ h9 => h9) rfl dX7_defect_83 ?_
            refine lv_iconst (v := nI 1) hx hb dX7_defect_86 (by decide +kernel) ?_
            refine lv_iadd hx hb dX7_defect_87 ?_
            refine va_put (D := G.1) (ci := 7) (v := .int ((f 3) + (nI 1))) (ty := .int) (C := RX7) (T := TX7) (N := 26) hx hb hts hinX7 tyX7 tyX7_ok nmX7 hown hK.1 hP hD hS 0 rfl rfl 4 (by decide) (hts (.fieldLink RX7 92 "RotaforgeModel" "defectMany" "I") (by decide +kernel)) (fun _ h9 => h9) rfl (by decide +kernel) rfl rfl (Nat.le_of_ble_eq_true rfl) dX7_defect_88 (fun H locs hP hD hS => ?_)
            have hP : va_P G.1 vwCl (wRM G z (upR (upR (upR r 1 (upd (r 1) d x1)) 2 (upd (r 2) d x2)) 3 (upd (r 3) d (b2i x3))) (upF (upF f 0 (nI 0)) 3 ((f 3) + (nI 1)))) H := gMs_3 hP
            have hD : va_D (gF z 20) (wRM G z (upR (upR (upR r 1 (upd (r 1) d x1)) 2 (upd (r 2) d x2)) 3 (upd (r 3) d (b2i x3))) (upF (upF f 0 (nI 0)) 3 ((f 3) + (nI 1)))) := gD_RM hz
            refine lv_aload_n hx hb dX7_defect_91 rfl (lv_at hl 0 rfl) ?_
            refine va_get (D := G.1) (ci := 7) (v := .int ((f 3) + (nI 1))) (C := RX7) (T := TX7) (N := 26) hx hb hts hinX7 hown hK.1 hP 0 rfl rfl 4 (by decide) (hts (.fieldLink RX7 92 "RotaforgeModel" "defectMany" "I") (by decide +kernel)) (fun _ h9 => h9) rfl dX7_defect_92 ?_
            have hq : ((f 3) + (nI 1)) = ((mDefQ r f d x1 x2 x3).2) := by
              first | with_reducible rfl | with_reducible exact nI_add _ _ | (simp only [upF_uu, mDefQ, mDefR, c_1, eq_false c_3, c_7, eq_false c_8, eq_true c_9, ↓reduceIte, Bool.false_eq_true, decide_true, decide_false, Bool.not_true, Bool.not_false, Bool.or_true, Bool.true_or, Bool.or_false, Bool.false_or]; done) | (simp only [upF_uu, mDefQ, mDefR, c_1, eq_false c_3, c_7, eq_false c_8, eq_true c_9, ↓reduceIte, Bool.false_eq_true, decide_true, decide_false, Bool.not_true, Bool.not_false, Bool.or_true, Bool.true_or, Bool.or_false, Bool.false_or]; with_reducible rfl) | (simp only [upF_uu, mDefQ, mDefR, c_1, eq_false c_3, c_7, eq_false c_8, eq_true c_9, ↓reduceIte, Bool.false_eq_true, decide_true, decide_false, Bool.not_true, Bool.not_false, Bool.or_true, Bool.true_or, Bool.or_false, Bool.false_or]; rfl) | (simp [b2i, upF_uu, mDefQ, mDefR, c_1, eq_false c_3, c_7, eq_false c_8, eq_true c_9]; done) | rfl
            have hPf : va_P G.1 vwCl (wRM G z ((mDefQ r f d x1 x2 x3).1.1) ((mDefQ r f d x1 x2 x3).1.2)) H := by
              have e1 : (mDefQ r f d x1 x2 x3).1.1 = upR (upR (upR r 1 (upd (r 1) d x1)) 2 (upd (r 2) d x2)) 3 (upd (r 3) d (b2i x3)) := by first | with_reducible rfl | (simp only [upF_uu, mDefQ, mDefR, c_1, eq_false c_3, c_7, eq_false c_8, eq_true c_9, ↓reduceIte, Bool.false_eq_true]; done) | (simp only [upF_uu, mDefQ, mDefR, c_1, eq_false c_3, c_7, eq_false c_8, eq_true c_9, ↓reduceIte, Bool.false_eq_true]; rfl) | rfl
              have e2 : (mDefQ r f d x1 x2 x3).1.2 = upF (upF f 0 (nI 0)) 3 ((f 3) + (nI 1)) := by first | with_reducible rfl | (simp only [upF_uu, mDefQ, mDefR, c_1, eq_false c_3, c_7, eq_false c_8, eq_true c_9, ↓reduceIte, Bool.false_eq_true]; done) | (simp only [upF_uu, mDefQ, mDefR, c_1, eq_false c_3, c_7, eq_false c_8, eq_true c_9, ↓reduceIte, Bool.false_eq_true]; rfl) | rfl
              rw [e1, e2]; exact hP
            exact W.iret (v := ((f 3) + (nI 1))) hx hb hr (fun t ht _ => ⟨⟨_, (), rfl, hq, g_hp ht hPf⟩, hS.F ht⟩) hS.2.2 dX7_defect_95
          · exact absurd (by decide) c_9
        · refine lv_iconst (v := nI 2) hx hb dX7_defect_34 (by decide +kernel) ?_
          refine lv_goto (tgt := 39) hx hb dX7_defect_35 (by decide) ?_
          refine va_put (D := G.1) (ci := 7) (v := .int (nI 2)) (ty := .int) (C := RX7) (T := TX7) (N := 26) hx hb hts hinX7 tyX7 tyX7_ok nmX7 hown hK.1 hP hD hS 0 rfl rfl 0 (by decide) (hts (.fieldLink RX7 72 "RotaforgeModel" "thrown" "I") (by decide +kernel)) (fun _ h9 => h9) rfl (by decide +kernel) rfl rfl (Nat.le_of_ble_eq_true rfl) dX7_defect_39 (fun H locs hP hD hS => ?_)
          have hP : va_P G.1 vwCl (wRM G z r (upF f 0 (nI 2))) H := gMs_0 hP
          have hD : va_D (gF z 20) (wRM G z r (upF f 0 (nI 2))) := gD_RM hz
          refine lv_aload_n hx hb dX7_defect_42 rfl (lv_at hl 0 rfl) ?_
          refine va_get (D := G.1) (ci := 7) (v := .int (nI 2)) (C := RX7) (T := TX7) (N := 26) hx hb hts hinX7 hown hK.1 hP 0 rfl rfl 0 (by decide) (hts (.fieldLink RX7 72 "RotaforgeModel" "thrown" "I") (by decide +kernel)) (fun _ h9 => h9) rfl dX7_defect_43 ?_
          refine lv_if_le (tgt := 51) hx hb dX7_defect_46 (by decide) (fun c_10 => ?_) (fun c_10 => ?_)
          · exact absurd c_10 (by decide)
          · refine lv_iconst (v := nI 0) hx hb dX7_defect_49 (by decide +kernel) ?_
            have hq : (nI 0) = ((mDefQ r f d x1 x2 x3).2) := by
              first | with_reducible rfl | with_reducible exact nI_add _ _ | (simp only [upF_uu, mDefQ, mDefR, c_1, eq_false c_3, c_7, eq_true c_8, eq_false c_10, ↓reduceIte, Bool.false_eq_true, decide_true, decide_false, Bool.not_true, Bool.not_false, Bool.or_true, Bool.true_or, Bool.or_false, Bool.false_or]; done) | (simp only [upF_uu, mDefQ, mDefR, c_1, eq_false c_3, c_7, eq_true c_8, eq_false c_10, ↓reduceIte, Bool.false_eq_true, decide_true, decide_false, Bool.not_true, Bool.not_false, Bool.or_true, Bool.true_or, Bool.or_false, Bool.false_or]; with_reducible rfl) | (simp only [upF_uu, mDefQ, mDefR, c_1, eq_false c_3, c_7, eq_true c_8, eq_false c_10, ↓reduceIte, Bool.false_eq_true, decide_true, decide_false, Bool.not_true, Bool.not_false, Bool.or_true, Bool.true_or, Bool.or_false, Bool.false_or]; rfl) | (simp [b2i, upF_uu, mDefQ, mDefR, c_1, eq_false c_3, c_7, eq_true c_8, eq_false c_10]; done) | rfl
            have hPf : va_P G.1 vwCl (wRM G z ((mDefQ r f d x1 x2 x3).1.1) ((mDefQ r f d x1 x2 x3).1.2)) H := by
              have e1 : (mDefQ r f d x1 x2 x3).1.1 = r := by first | with_reducible rfl | (simp only [upF_uu, mDefQ, mDefR, c_1, eq_false c_3, c_7, eq_true c_8, eq_false c_10, ↓reduceIte, Bool.false_eq_true]; done) | (simp only [upF_uu, mDefQ, mDefR, c_1, eq_false c_3, c_7, eq_true c_8, eq_false c_10, ↓reduceIte, Bool.false_eq_true]; rfl) | rfl
              have e2 : (mDefQ r f d x1 x2 x3).1.2 = upF f 0 (nI 2) := by first | with_reducible rfl | (simp only [upF_uu, mDefQ, mDefR, c_1, eq_false c_3, c_7, eq_true c_8, eq_false c_10, ↓reduceIte, Bool.false_eq_true]; done) | (simp only [upF_uu, mDefQ, mDefR, c_1, eq_false c_3, c_7, eq_true c_8, eq_false c_10, ↓reduceIte, Bool.false_eq_true]; rfl) | rfl
              rw [e1, e2]; exact hP
            exact W.iret (v := nI 0) hx hb hr (fun t ht _ => ⟨⟨_, (), rfl, hq, g_hp ht hPf⟩, hS.F ht⟩) hS.2.2 dX7_defect_50
      · have c_7 := b2i_f c_7
        refine lv_iconst (v := nI 1) hx hb dX7_defect_21 (by decide +kernel) ?_
        refine lv_goto (tgt := 39) hx hb dX7_defect_22 (by decide) ?_
        refine va_put (D := G.1) (ci := 7) (v := .int (nI 1)) (ty := .int) (C := RX7) (T := TX7) (N := 26) hx hb hts hinX7 tyX7 tyX7_ok nmX7 hown hK.1 hP hD hS 0 rfl rfl 0 (by decide) (hts (.fieldLink RX7 72 "RotaforgeModel" "thrown" "I") (by decide +kernel)) (fun _ h9 => h9) rfl (by decide +kernel) rfl rfl (Nat.le_of_ble_eq_true rfl) dX7_defect_39 (fun H locs hP hD hS => ?_)
        have hP : va_P G.1 vwCl (wRM G z r (upF f 0 (nI 1))) H := gMs_0 hP
        have hD : va_D (gF z 20) (wRM G z r (upF f 0 (nI 1))) := gD_RM hz
        refine lv_aload_n hx hb dX7_defect_42 rfl (lv_at hl 0 rfl) ?_
        refine va_get (D := G.1) (ci := 7) (v := .int (nI 1)) (C := RX7) (T := TX7) (N := 26) hx hb hts hinX7 hown hK.1 hP 0 rfl rfl 0 (by decide) (hts (.fieldLink RX7 72 "RotaforgeModel" "thrown" "I") (by decide +kernel)) (fun _ h9 => h9) rfl dX7_defect_43 ?_
        refine lv_if_le (tgt := 51) hx hb dX7_defect_46 (by decide) (fun c_11 => ?_) (fun c_11 => ?_)
        · exact absurd c_11 (by decide)
        · refine lv_iconst (v := nI 0) hx hb dX7_defect_49 (by decide +kernel) ?_
          have hq : (nI 0) = ((mDefQ r f d x1 x2 x3).2) := by
            first | with_reducible rfl | with_reducible exact nI_add _ _ | (simp only [upF_uu, mDefQ, mDefR, c_1, eq_false c_3, c_7, eq_false c_11, ↓reduceIte, Bool.false_eq_true, decide_true, decide_false, Bool.not_true, Bool.not_false, Bool.or_true, Bool.true_or, Bool.or_false, Bool.false_or]; done) | (simp only [upF_uu, mDefQ, mDefR, c_1, eq_false c_3, c_7, eq_false c_11, ↓reduceIte, Bool.false_eq_true, decide_true, decide_false, Bool.not_true, Bool.not_false, Bool.or_true, Bool.true_or, Bool.or_false, Bool.false_or]; with_reducible rfl) | (simp only [upF_uu, mDefQ, mDefR, c_1, eq_false c_3, c_7, eq_false c_11, ↓reduceIte, Bool.false_eq_true, decide_true, decide_false, Bool.not_true, Bool.not_false, Bool.or_true, Bool.true_or, Bool.or_false, Bool.false_or]; rfl) | (simp [b2i, upF_uu, mDefQ, mDefR, c_1, eq_false c_3, c_7, eq_false c_11]; done) | rfl
          have hPf : va_P G.1 vwCl (wRM G z ((mDefQ r f d x1 x2 x3).1.1) ((mDefQ r f d x1 x2 x3).1.2)) H := by
            have e1 : (mDefQ r f d x1 x2 x3).1.1 = r := by first | with_reducible rfl | (simp only [upF_uu, mDefQ, mDefR, c_1, eq_false c_3, c_7, eq_false c_11, ↓reduceIte, Bool.false_eq_true]; done) | (simp only [upF_uu, mDefQ, mDefR, c_1, eq_false c_3, c_7, eq_false c_11, ↓reduceIte, Bool.false_eq_true]; rfl) | rfl
            have e2 : (mDefQ r f d x1 x2 x3).1.2 = upF f 0 (nI 1) := by first | with_reducible rfl | (simp only [upF_uu, mDefQ, mDefR, c_1, eq_false c_3, c_7, eq_false c_11, ↓reduceIte, Bool.false_eq_true]; done) | (simp only [upF_uu, mDefQ, mDefR, c_1, eq_false c_3, c_7, eq_false c_11, ↓reduceIte, Bool.false_eq_true]; rfl) | rfl
            rw [e1, e2]; exact hP
          exact W.iret (v := nI 0) hx hb hr (fun t ht _ => ⟨⟨_, (), rfl, hq, g_hp ht hPf⟩, hS.F ht⟩) hS.2.2 dX7_defect_50

set_option maxHeartbeats 4000000 in
set_option maxRecDepth 100000 in
theorem c_X7_need (l : Launch) (G : gG) (H0 : Heap) (z : Nat → Nat) (hz : gDis z 20) (r : Nat → Nat → Int32) (f : Nat → Int32) (hP : va_P G.1 vwCl (wRM G z r f) H0) (x1 : Int32) (x2 : Int32) (x3 : Bool) (n d k t : Nat) (hM : mOK r f n d k t) : gMw l yX7_need wsX7_need 2 42 G H0 [.ref (z 0), .int x1, .int x2, .int (b2i x3)] ((mNeedQ r f x1 x2 x3).2) (wRM G z ((mNeedQ r f x1 x2 x3).1.1) ((mNeedQ r f x1 x2 x3).1.2)) (gF z 20) := by
  refine Met.ofW (cc := cX7_need) (maxL := 4) (ret := (some .int)) (by decide) rfl ?_
  intro p_ e_ s m args below meth c s₁ B hml hv
  obtain ⟨rfl, rfl, hK⟩ := hv
  have hx := B.exec
  have hb := B.bytes
  have hr := B.returns
  have hts := atoms_spec (ws := wsX7_need) B.pre
  have hown : s.vm.findClass RX7 = some m.cls := findClass_of_methodNamed B.named
  have hlocks := B.notSynchronized
  have hinX7 : ∀ w ∈ wsX70, w ∈ wsX7_need := by decide +kernel
  have S0 : CallFix p_ m c cX7_need 4 s _ wsX7_need RX7 := ⟨hx, hb, hml, hown, hts⟩
  have hD : va_D (gF z 20) (wRM G z r f) := gD_RM hz
  have hS : va_S (gF z 20) s.heap s.heap [] := va_S.rf
  have hl := lv_entry ([.ref (z 0), .int x1, .int x2, .int (b2i x3)]) (n := 4) (Nat.le_of_ble_eq_true rfl)
  rw [lg_entry_eq]
  generalize (lg_sl ([.ref (z 0), .int x1, .int x2, .int (b2i x3)]) ++ List.replicate (4 - (lg_sl ([.ref (z 0), .int x1, .int x2, .int (b2i x3)])).length) Slot.unset).toArray = ls at hl ⊢
  have hl : lv_has ls 4 [(0, .ref (z 0)), (1, .int x1), (2, .int x2), (3, .int (b2i x3))] := hl
  obtain ⟨hn, hn2, hd, hd2, hk, hk2, ht, ht2, hh, hm⟩ := id hM
  refine lv_aload_n hx hb dX7_need_0 rfl (lv_at hl 0 rfl) ?_
  refine lv_iload_n hx hb dX7_need_1 rfl (lv_at hl 1 rfl) ?_
  refine g_callC (W.runS (As := [.int x1]) (rest := [.ref (z 0)]) S0 (c_X7_isSwitch l G _ x1) (va_cwS 1 hts gX7_need_X7_isSwitch rfl rfl rfl (by decide +kernel) ⟨Nat.le_of_ble_eq_true rfl, Nat.le_of_ble_eq_true rfl⟩) (g_preS hK) rfl rfl hl.1 rfl (lv_room (Nat.le_of_ble_eq_true rfl)) dX7_need_2 ⟨Nat.zero_le _, Nat.zero_le _⟩) ?_
  refine lv_if_eq (tgt := 15) hx hb dX7_need_5 (by decide) (fun c_1 => ?_) (fun c_1 => ?_)
  · have c_1 := b2i_f c_1
    refine lv_iconst (v := nI 1) hx hb dX7_need_15 (by decide +kernel) ?_
    refine lv_goto (tgt := 29) hx hb dX7_need_16 (by decide) ?_
    refine va_put (D := G.1) (ci := 7) (v := .int (nI 1)) (ty := .int) (C := RX7) (T := TX7) (N := 26) hx hb hts hinX7 tyX7 tyX7_ok nmX7 hown hK.1 hP hD hS 0 rfl rfl 0 (by decide) (hts (.fieldLink RX7 72 "RotaforgeModel" "thrown" "I") (by decide +kernel)) (fun _ h9 => h9) rfl (by decide +kernel) rfl rfl (Nat.le_of_ble_eq_true rfl) dX7_need_29 (fun H locs hP hD hS => ?_)
    have hP : va_P G.1 vwCl (wRM G z r (upF f 0 (nI 1))) H := gMs_0 hP
    have hD : va_D (gF z 20) (wRM G z r (upF f 0 (nI 1))) := gD_RM hz
    refine lv_aload_n hx hb dX7_need_32 rfl (lv_at hl 0 rfl) ?_
    refine va_get (D := G.1) (ci := 7) (v := .int (nI 1)) (C := RX7) (T := TX7) (N := 26) hx hb hts hinX7 hown hK.1 hP 0 rfl rfl 0 (by decide) (hts (.fieldLink RX7 72 "RotaforgeModel" "thrown" "I") (by decide +kernel)) (fun _ h9 => h9) rfl dX7_need_33 ?_
    refine lv_if_le (tgt := 41) hx hb dX7_need_36 (by decide) (fun c_2 => ?_) (fun c_2 => ?_)
    · exact absurd c_2 (by decide)
    · refine lv_iconst (v := nI 0) hx hb dX7_need_39 (by decide +kernel) ?_
      have hq : (nI 0) = ((mNeedQ r f x1 x2 x3).2) := by
        first | with_reducible rfl | with_reducible exact nI_add _ _ | (simp only [upF_uu, mNeedQ, mNdG, mNdR, mNdV, c_1, eq_false c_2, ↓reduceIte, Bool.false_eq_true, decide_true, decide_false, Bool.not_true, Bool.not_false, Bool.or_true, Bool.true_or, Bool.or_false, Bool.false_or]; done) | (simp only [upF_uu, mNeedQ, mNdG, mNdR, mNdV, c_1, eq_false c_2, ↓reduceIte, Bool.false_eq_true, decide_true, decide_false, Bool.not_true, Bool.not_false, Bool.or_true, Bool.true_or, Bool.or_false, Bool.false_or]; with_reducible rfl) | (simp only [upF_uu, mNeedQ, mNdG, mNdR, mNdV, c_1, eq_false c_2, ↓reduceIte, Bool.false_eq_true, decide_true, decide_false, Bool.not_true, Bool.not_false, Bool.or_true, Bool.true_or, Bool.or_false, Bool.false_or]; rfl) | (simp [b2i, upF_uu, mNeedQ, mNdG, mNdR, mNdV, c_1, eq_false c_2]; done) | rfl
      have hPf : va_P G.1 vwCl (wRM G z ((mNeedQ r f x1 x2 x3).1.1) ((mNeedQ r f x1 x2 x3).1.2)) H := by
        have e1 : (mNeedQ r f x1 x2 x3).1.1 = r := by first | with_reducible rfl | (simp only [upF_uu, mNeedQ, mNdG, mNdR, mNdV, c_1, eq_false c_2, ↓reduceIte, Bool.false_eq_true]; done) | (simp only [upF_uu, mNeedQ, mNdG, mNdR, mNdV, c_1, eq_false c_2, ↓reduceIte, Bool.false_eq_true]; rfl) | rfl
        have e2 : (mNeedQ r f x1 x2 x3).1.2 = upF f 0 (nI 1) := by first | with_reducible rfl | (simp only [upF_uu, mNeedQ, mNdG, mNdR, mNdV, c_1, eq_false c_2, ↓reduceIte, Bool.false_eq_true]; done) | (simp only [upF_uu, mNeedQ, mNdG, mNdR, mNdV, c_1, eq_false c_2, ↓reduceIte, Bool.false_eq_true]; rfl) | rfl
        rw [e1, e2]; exact hP
      exact W.iret (v := nI 0) hx hb hr (fun t ht _ => ⟨⟨_, (), rfl, hq, g_hp ht hPf⟩, hS.F ht⟩) hS.2.2 dX7_need_40
  · have c_1 := b2i_t c_1
    refine lv_iload_n hx hb dX7_need_8 rfl (lv_at hl 2 rfl) ?_
    refine g_callC (W.runS (As := [.int x2]) (rest := [.ref (z 0)]) S0 (c_X7_isSwitch l G _ x2) (va_cwS 1 hts gX7_need_X7_isSwitch rfl rfl rfl (by decide +kernel) ⟨Nat.le_of_ble_eq_true rfl, Nat.le_of_ble_eq_true rfl⟩) (g_preS hK) rfl rfl hl.1 rfl (lv_room (Nat.le_of_ble_eq_true rfl)) dX7_need_9 ⟨Nat.zero_le _, Nat.zero_le _⟩) ?_
    refine lv_if_ne (tgt := 19) hx hb dX7_need_12 (by decide) (fun c_3 => ?_) (fun c_3 => ?_)
    · have c_3 := b2i_t c_3
      refine lv_iload_n hx hb dX7_need_19 rfl (lv_at hl 1 rfl) ?_
      refine lv_iload_n hx hb dX7_need_20 rfl (lv_at hl 2 rfl) ?_
      refine lv_icmp_ne (tgt := 28) hx hb dX7_need_21 (by decide) (fun c_4 => ?_) (fun c_4 => ?_)
      · refine lv_iconst (v := nI 0) hx hb dX7_need_28 (by decide +kernel) ?_
        refine va_put (D := G.1) (ci := 7) (v := .int (nI 0)) (ty := .int) (C := RX7) (T := TX7) (N := 26) hx hb hts hinX7 tyX7 tyX7_ok nmX7 hown hK.1 hP hD hS 0 rfl rfl 0 (by decide) (hts (.fieldLink RX7 72 "RotaforgeModel" "thrown" "I") (by decide +kernel)) (fun _ h9 => h9) rfl (by decide +kernel) rfl rfl (Nat.le_of_ble_eq_true rfl) dX7_need_29 (fun H locs hP hD hS => ?_)
        have hP : va_P G.1 vwCl (wRM G z r (upF f 0 (nI 0))) H := gMs_0 hP
        have hD : va_D (gF z 20) (wRM G z r (upF f 0 (nI 0))) := gD_RM hz
        refine lv_aload_n hx hb dX7_need_32 rfl (lv_at hl 0 rfl) ?_
        refine va_get (D := G.1) (ci := 7) (v := .int (nI 0)) (C := RX7) (T := TX7) (N := 26) hx hb hts hinX7 hown hK.1 hP 0 rfl rfl 0 (by decide) (hts (.fieldLink RX7 72 "RotaforgeModel" "thrown" "I") (by decide +kernel)) (fun _ h9 => h9) rfl dX7_need_33 ?_
        refine lv_if_le (tgt := 41) hx hb dX7_need_36 (by decide) (fun c_5 => ?_) (fun c_5 => ?_)
        · refine lv_iload_n hx hb dX7_need_41 rfl (lv_at hl 3 rfl) ?_
          refine lv_if_eq (tgt := 64) hx hb dX7_need_42 (by decide) (fun c_6 => ?_) (fun c_6 => ?_)
          · have c_6 := b2i_f c_6
            refine lv_aload_n hx hb dX7_need_64 rfl (lv_at hl 0 rfl) ?_
            refine va_get (D := G.1) (ci := 7) (v := .ref (z 1)) (C := RX7) (T := TX7) (N := 26) hx hb hts hinX7 hown hK.1 hP 0 rfl rfl 3 (by decide) (hts (.fieldLink RX7 13 "RotaforgeModel" "needs" "[I") (by decide +kernel)) (fun _ h9 => h9) rfl dX7_need_65 ?_
            refine lv_iload_n hx hb dX7_need_68 rfl (lv_at hl 1 rfl) ?_
            refine lv_iload_n hx hb dX7_need_69 rfl (lv_at hl 3 rfl) ?_
            refine lv_if_eq (tgt := 86) hx hb dX7_need_70 (by decide) (fun c_7 => ?_) (fun c_7 => ?_)
            · have c_7 := b2i_f c_7
              refine lv_aload_n hx hb dX7_need_86 rfl (lv_at hl 0 rfl) ?_
              refine va_get (D := G.1) (ci := 7) (v := .ref (z 1)) (C := RX7) (T := TX7) (N := 26) hx hb hts hinX7 hown hK.1 hP 0 rfl rfl 3 (by decide) (hts (.fieldLink RX7 13 "RotaforgeModel" "needs" "[I") (by decide +kernel)) (fun _ h9 => h9) rfl dX7_need_87 ?_
              refine lv_iload_n hx hb dX7_need_90 rfl (lv_at hl 1 rfl) ?_
              refine g_iald hx hb hK.1 hP 1 0 rfl rfl (cN x1) ((mIn_le c_1 (by decide)).1) ((Nat.lt_of_le_of_lt (mIn_le c_1 (by decide)).2 (by decide))) (by decide) dX7_need_91 ?_
              refine lv_iconst (v := nI 1) hx hb dX7_need_92 (by decide +kernel) ?_
              refine lv_iload_n hx hb dX7_need_93 rfl (lv_at hl 2 rfl) ?_
              refine lv_ishl hx hb dX7_need_94 ?_
              refine lv_iconst (v := (-1)) hx hb dX7_need_95 (by decide +kernel) ?_
              refine lv_ixor hx hb dX7_need_96 ?_
              refine lv_iand hx hb dX7_need_97 ?_
              refine g_iast hx hb hK.1 hP hD hS 1 0 rfl rfl (cN x1) ((mIn_le c_1 (by decide)).1) ((Nat.lt_of_le_of_lt (mIn_le c_1 (by decide)).2 (by decide))) (by decide) dX7_need_98 (fun H locs hP hD hS => ?_)
              have hP : va_P G.1 vwCl (wRM G z (upR r 0 (upd (r 0) (cN x1) (((r 0) (cN x1)) &&& (((nI 1) <<< (x2 &&& 31)) ^^^ (-1))))) (upF f 0 (nI 0))) H := gMr_0 hP
              have hD : va_D (gF z 20) (wRM G z (upR r 0 (upd (r 0) (cN x1) (((r 0) (cN x1)) &&& (((nI 1) <<< (x2 &&& 31)) ^^^ (-1))))) (upF f 0 (nI 0))) := gD_RM hz
              refine lv_aload_n hx hb dX7_need_99 rfl (lv_at hl 0 rfl) ?_
              refine va_get (D := G.1) (ci := 7) (v := .ref (z 1)) (C := RX7) (T := TX7) (N := 26) hx hb hts hinX7 hown hK.1 hP 0 rfl rfl 3 (by decide) (hts (.fieldLink RX7 13 "RotaforgeModel" "needs" "[I") (by decide +kernel)) (fun _ h9 => h9) rfl dX7_need_100 ?_
              refine lv_iload_n hx hb dX7_need_103 rfl (lv_at hl 1 rfl) ?_
              refine g_iald hx hb hK.1 hP 1 0 rfl rfl (cN x1) ((mIn_le c_1 (by decide)).1) ((Nat.lt_of_le_of_lt (mIn_le c_1 (by decide)).2 (by decide))) (by decide) dX7_need_104 ?_
              refine g_callC (W.runS (As := [.int ((upd (r 0) (cN x1) (((r 0) (cN x1)) &&& (((nI 1) <<< (x2 &&& 31)) ^^^ (-1)))) (cN x1))]) (rest := []) S0 (c_X7_bits l G _ ((upd (r 0) (cN x1) (((r 0) (cN x1)) &&& (((nI 1) <<< (x2 &&& 31)) ^^^ (-1)))) (cN x1))) (va_cwS 1 hts gX7_need_X7_bits rfl rfl rfl (by decide +kernel) ⟨Nat.le_of_ble_eq_true rfl, Nat.le_of_ble_eq_true rfl⟩) (g_preS hK) rfl rfl hl.1 rfl (lv_room (Nat.le_of_ble_eq_true rfl)) dX7_need_105 ⟨Nat.zero_le _, Nat.zero_le _⟩) ?_
              have hq : (mBits ((upd (r 0) (cN x1) (((r 0) (cN x1)) &&& (((nI 1) <<< (x2 &&& 31)) ^^^ (-1)))) (cN x1))) = ((mNeedQ r f x1 x2 x3).2) := by
                first | with_reducible rfl | with_reducible exact nI_add _ _ | (simp only [upF_uu, mNeedQ, mNdG, mNdR, mNdV, c_1, c_3, eq_false c_4, eq_true c_5, c_6, c_7, ↓reduceIte, Bool.false_eq_true, decide_true, decide_false, Bool.not_true, Bool.not_false, Bool.or_true, Bool.true_or, Bool.or_false, Bool.false_or]; done) | (simp only [upF_uu, mNeedQ, mNdG, mNdR, mNdV, c_1, c_3, eq_false c_4, eq_true c_5, c_6, c_7, ↓reduceIte, Bool.false_eq_true, decide_true, decide_false, Bool.not_true, Bool.not_false, Bool.or_true, Bool.true_or, Bool.or_false, Bool.false_or]; with_reducible rfl) | (simp only [upF_uu, mNeedQ, mNdG, mNdR, mNdV, c_1, c_3, eq_false c_4, eq_true c_5, c_6, c_7, ↓reduceIte, Bool.false_eq_true, decide_true, decide_false, Bool.not_true, Bool.not_false, Bool.or_true, Bool.true_or, Bool.or_false, Bool.false_or]; rfl) | (simp [b2i, upF_uu, mNeedQ, mNdG, mNdR, mNdV, c_1, c_3, eq_false c_4, eq_true c_5, c_6, c_7]; done) | rfl
              have hPf : va_P G.1 vwCl (wRM G z ((mNeedQ r f x1 x2 x3).1.1) ((mNeedQ r f x1 x2 x3).1.2)) H := by
                have e1 : (mNeedQ r f x1 x2 x3).1.1 = upR r 0 (upd (r 0) (cN x1) (((r 0) (cN x1)) &&& (((nI 1) <<< (x2 &&& 31)) ^^^ (-1)))) := by first | with_reducible rfl | (simp only [upF_uu, mNeedQ, mNdG, mNdR, mNdV, c_1, c_3, eq_false c_4, eq_true c_5, c_6, c_7, ↓reduceIte, Bool.false_eq_true]; done) | (simp only [upF_uu, mNeedQ, mNdG, mNdR, mNdV, c_1, c_3, eq_false c_4, eq_true c_5, c_6, c_7, ↓reduceIte, Bool.false_eq_true]; rfl) | rfl
                have e2 : (mNeedQ r f x1 x2 x3).1.2 = upF f 0 (nI 0) := by first | with_reducible rfl | (simp only [upF_uu, mNeedQ, mNdG, mNdR, mNdV, c_1, c_3, eq_false c_4, eq_true c_5, c_6, c_7, ↓reduceIte, Bool.false_eq_true]; done) | (simp only [upF_uu, mNeedQ, mNdG, mNdR, mNdV, c_1, c_3, eq_false c_4, eq_true c_5, c_6, c_7, ↓reduceIte, Bool.false_eq_true]; rfl) | rfl
                rw [e1, e2]; exact hP
              exact W.iret (v := mBits ((upd (r 0) (cN x1) (((r 0) (cN x1)) &&& (((nI 1) <<< (x2 &&& 31)) ^^^ (-1)))) (cN x1))) hx hb hr (fun t ht _ => ⟨⟨_, (), rfl, hq, g_hp ht hPf⟩, hS.F ht⟩) hS.2.2 dX7_need_108
            · have c_7 := b2i_t c_7
              rw [c_6] at c_7
              cases c_7
          · have c_6 := b2i_t c_6
            refine lv_aload_n hx hb dX7_need_45 rfl (lv_at hl 0 rfl) ?_
            refine lv_iload_n hx hb dX7_need_46 rfl (lv_at hl 2 rfl) ?_
            refine g_callC (W.runV (C := RX7) (As := [.int x2]) (rest := []) S0 (c_X7_reach l G _ z r (upF f 0 (nI 0)) hP x2 (cN x2) (mIn_le c_3 (by decide)).1 (Nat.lt_of_le_of_lt (mIn_le c_3 (by decide)).2 (by decide))) (cwV 1 hts gX7_need_X7_reach rfl rfl rfl (by decide +kernel) ⟨Nat.le_of_ble_eq_true rfl, Nat.le_of_ble_eq_true rfl⟩) (g_preV hK hP (q0 := 0) (ci := 7) (q := (RX7, TX7, 26)) rfl rfl) rfl rfl hl.1 rfl (lv_room (Nat.le_of_ble_eq_true rfl)) dX7_need_47 ⟨Nat.zero_le _, Nat.zero_le _⟩) ?_
            refine lv_iload_n hx hb dX7_need_50 rfl (lv_at hl 1 rfl) ?_
            refine lv_ishr hx hb dX7_need_51 ?_
            refine lv_iconst (v := nI 1) hx hb dX7_need_52 (by decide +kernel) ?_
            refine lv_iand hx hb dX7_need_53 ?_
            refine lv_iconst (v := nI 1) hx hb dX7_need_54 (by decide +kernel) ?_
            refine lv_icmp_ne (tgt := 64) hx hb dX7_need_55 (by decide) (fun c_8 => ?_) (fun c_8 => ?_)
            · refine lv_aload_n hx hb dX7_need_64 rfl (lv_at hl 0 rfl) ?_
              refine va_get (D := G.1) (ci := 7) (v := .ref (z 1)) (C := RX7) (T := TX7) (N := 26) hx hb hts hinX7 hown hK.1 hP 0 rfl rfl 3 (by decide) (hts (.fieldLink RX7 13 "RotaforgeModel" "needs" "[I") (by decide +kernel)) (fun _ h9 => h9) rfl dX7_need_65 ?_
              refine lv_iload_n hx hb dX7_need_68 rfl (lv_at hl 1 rfl) ?_
              refine lv_iload_n hx hb dX7_need_69 rfl (lv_at hl 3 rfl) ?_
              refine lv_if_eq (tgt := 86) hx hb dX7_need_70 (by decide) (fun c_9 => ?_) (fun c_9 => ?_)
              · have c_9 := b2i_f c_9
                rw [c_6] at c_9
                cases c_9
              · have c_9 := b2i_t c_9
                refine lv_aload_n hx hb dX7_need_73 rfl (lv_at hl 0 rfl) ?_
                refine va_get (D := G.1) (ci := 7) (v := .ref (z 1)) (C := RX7) (T := TX7) (N := 26) hx hb hts hinX7 hown hK.1 hP 0 rfl rfl 3 (by decide) (hts (.fieldLink RX7 13 "RotaforgeModel" "needs" "[I") (by decide +kernel)) (fun _ h9 => h9) rfl dX7_need_74 ?_
                refine lv_iload_n hx hb dX7_need_77 rfl (lv_at hl 1 rfl) ?_
                refine g_iald hx hb hK.1 hP 1 0 rfl rfl (cN x1) ((mIn_le c_1 (by decide)).1) ((Nat.lt_of_le_of_lt (mIn_le c_1 (by decide)).2 (by decide))) (by decide) dX7_need_78 ?_
                refine lv_iconst (v := nI 1) hx hb dX7_need_79 (by decide +kernel) ?_
                refine lv_iload_n hx hb dX7_need_80 rfl (lv_at hl 2 rfl) ?_
                refine lv_ishl hx hb dX7_need_81 ?_
                refine lv_ior hx hb dX7_need_82 ?_
                refine lv_goto (tgt := 98) hx hb dX7_need_83 (by decide) ?_
                refine g_iast hx hb hK.1 hP hD hS 1 0 rfl rfl (cN x1) ((mIn_le c_1 (by decide)).1) ((Nat.lt_of_le_of_lt (mIn_le c_1 (by decide)).2 (by decide))) (by decide) dX7_need_98 (fun H locs hP hD hS => ?_)
                have hP : va_P G.1 vwCl (wRM G z (upR r 0 (upd (r 0) (cN x1) (((r 0) (cN x1)) ||| ((nI 1) <<< (x2 &&& 31))))) (upF f 0 (nI 0))) H := gMr_0 hP
                have hD : va_D (gF z 20) (wRM G z (upR r 0 (upd (r 0) (cN x1) (((r 0) (cN x1)) ||| ((nI 1) <<< (x2 &&& 31))))) (upF f 0 (nI 0))) := gD_RM hz
                refine lv_aload_n hx hb dX7_need_99 rfl (lv_at hl 0 rfl) ?_
                refine va_get (D := G.1) (ci := 7) (v := .ref (z 1)) (C := RX7) (T := TX7) (N := 26) hx hb hts hinX7 hown hK.1 hP 0 rfl rfl 3 (by decide) (hts (.fieldLink RX7 13 "RotaforgeModel" "needs" "[I") (by decide +kernel)) (fun _ h9 => h9) rfl dX7_need_100 ?_
                refine lv_iload_n hx hb dX7_need_103 rfl (lv_at hl 1 rfl) ?_
                refine g_iald hx hb hK.1 hP 1 0 rfl rfl (cN x1) ((mIn_le c_1 (by decide)).1) ((Nat.lt_of_le_of_lt (mIn_le c_1 (by decide)).2 (by decide))) (by decide) dX7_need_104 ?_
                refine g_callC (W.runS (As := [.int ((upd (r 0) (cN x1) (((r 0) (cN x1)) ||| ((nI 1) <<< (x2 &&& 31)))) (cN x1))]) (rest := []) S0 (c_X7_bits l G _ ((upd (r 0) (cN x1) (((r 0) (cN x1)) ||| ((nI 1) <<< (x2 &&& 31)))) (cN x1))) (va_cwS 1 hts gX7_need_X7_bits rfl rfl rfl (by decide +kernel) ⟨Nat.le_of_ble_eq_true rfl, Nat.le_of_ble_eq_true rfl⟩) (g_preS hK) rfl rfl hl.1 rfl (lv_room (Nat.le_of_ble_eq_true rfl)) dX7_need_105 ⟨Nat.zero_le _, Nat.zero_le _⟩) ?_
                have hq : (mBits ((upd (r 0) (cN x1) (((r 0) (cN x1)) ||| ((nI 1) <<< (x2 &&& 31)))) (cN x1))) = ((mNeedQ r f x1 x2 x3).2) := by
                  first | with_reducible rfl | with_reducible exact nI_add _ _ | (simp only [upF_uu, mNeedQ, mNdG, mNdR, mNdV, c_1, c_3, eq_false c_4, eq_true c_5, c_6, eq_false c_8, c_9, ↓reduceIte, Bool.false_eq_true, decide_true, decide_false, Bool.not_true, Bool.not_false, Bool.or_true, Bool.true_or, Bool.or_false, Bool.false_or]; done) | (simp only [upF_uu, mNeedQ, mNdG, mNdR, mNdV, c_1, c_3, eq_false c_4, eq_true c_5, c_6, eq_false c_8, c_9, ↓reduceIte, Bool.false_eq_true, decide_true, decide_false, Bool.not_true, Bool.not_false, Bool.or_true, Bool.true_or, Bool.or_false, Bool.false_or]; with_reducible rfl) | (simp only [upF_uu, mNeedQ, mNdG, mNdR, mNdV, c_1, c_3, eq_false c_4, eq_true c_5, c_6, eq_false c_8, c_9, ↓reduceIte, Bool.false_eq_true, decide_true, decide_false, Bool.not_true, Bool.not_false, Bool.or_true, Bool.true_or, Bool.or_false, Bool.false_or]; rfl) | (simp [b2i, upF_uu, mNeedQ, mNdG, mNdR, mNdV, c_1, c_3, eq_false c_4, eq_true c_5, c_6, eq_false c_8, c_9]; done) | rfl
                have hPf : va_P G.1 vwCl (wRM G z ((mNeedQ r f x1 x2 x3).1.1) ((mNeedQ r f x1 x2 x3).1.2)) H := by
                  have e1 : (mNeedQ r f x1 x2 x3).1.1 = upR r 0 (upd (r 0) (cN x1) (((r 0) (cN x1)) ||| ((nI 1) <<< (x2 &&& 31)))) := by first | with_reducible rfl | (simp only [upF_uu, mNeedQ, mNdG, mNdR, mNdV, c_1, c_3, eq_false c_4, eq_true c_5, c_6, eq_false c_8, c_9, ↓reduceIte, Bool.false_eq_true]; done) | (simp only [upF_uu, mNeedQ, mNdG, mNdR, mNdV, c_1, c_3, eq_false c_4, eq_true c_5, c_6, eq_false c_8, c_9, ↓reduceIte, Bool.false_eq_true]; rfl) | rfl
                  have e2 : (mNeedQ r f x1 x2 x3).1.2 = upF f 0 (nI 0) := by first | with_reducible rfl | (simp only [upF_uu, mNeedQ, mNdG, mNdR, mNdV, c_1, c_3, eq_false c_4, eq_true c_5, c_6, eq_false c_8, c_9, ↓reduceIte, Bool.false_eq_true]; done) | (simp only [upF_uu, mNeedQ, mNdG, mNdR, mNdV, c_1, c_3, eq_false c_4, eq_true c_5, c_6, eq_false c_8, c_9, ↓reduceIte, Bool.false_eq_true]; rfl) | rfl
                  rw [e1, e2]; exact hP
                exact W.iret (v := mBits ((upd (r 0) (cN x1) (((r 0) (cN x1)) ||| ((nI 1) <<< (x2 &&& 31)))) (cN x1))) hx hb hr (fun t ht _ => ⟨⟨_, (), rfl, hq, g_hp ht hPf⟩, hS.F ht⟩) hS.2.2 dX7_need_108
            · refine lv_aload_n hx hb dX7_need_58 rfl (lv_at hl 0 rfl) ?_
              refine lv_iconst (v := nI 3) hx hb dX7_need_59 (by decide +kernel) ?_
              refine g_callw (va_runV (C := RX7) (As := [.int (nI 3)]) (rest := []) S0 (c_X7_fails l G _ z hz r (upF f 0 (nI 0)) hP (nI 3)) (cwV 1 hts gX7_need_X7_fails rfl rfl rfl (by decide +kernel) ⟨Nat.le_of_ble_eq_true rfl, Nat.le_of_ble_eq_true rfl⟩) (g_preV hK hP (q0 := 0) (ci := 7) (q := (RX7, TX7, 26)) rfl rfl) rfl rfl hl.1 rfl (lv_room (Nat.le_of_ble_eq_true rfl)) dX7_need_60 ⟨Nat.zero_le _, Nat.zero_le _⟩) hS (fun _ h => h) (fun _ h => h) (fun H locs hP _ hS => ?_)
              have hP : va_P G.1 vwCl (wRM G z r (upF (upF f 0 (nI 0)) 0 (nI 3))) H := hP
              have hD : va_D (gF z 20) (wRM G z r (upF (upF f 0 (nI 0)) 0 (nI 3))) := gD_RM hz
              have hq : (nI 0) = ((mNeedQ r f x1 x2 x3).2) := by
                first | with_reducible rfl | with_reducible exact nI_add _ _ | (simp only [upF_uu, mNeedQ, mNdG, mNdR, mNdV, c_1, c_3, eq_false c_4, eq_true c_5, c_6, eq_true c_8, ↓reduceIte, Bool.false_eq_true, decide_true, decide_false, Bool.not_true, Bool.not_false, Bool.or_true, Bool.true_or, Bool.or_false, Bool.false_or]; done) | (simp only [upF_uu, mNeedQ, mNdG, mNdR, mNdV, c_1, c_3, eq_false c_4, eq_true c_5, c_6, eq_true c_8, ↓reduceIte, Bool.false_eq_true, decide_true, decide_false, Bool.not_true, Bool.not_false, Bool.or_true, Bool.true_or, Bool.or_false, Bool.false_or]; with_reducible rfl) | (simp only [upF_uu, mNeedQ, mNdG, mNdR, mNdV, c_1, c_3, eq_false c_4, eq_true c_5, c_6, eq_true c_8, ↓reduceIte, Bool.false_eq_true, decide_true, decide_false, Bool.not_true, Bool.not_false, Bool.or_true, Bool.true_or, Bool.or_false, Bool.false_or]; rfl) | (simp [b2i, upF_uu, mNeedQ, mNdG, mNdR, mNdV, c_1, c_3, eq_false c_4, eq_true c_5, c_6, eq_true c_8]; done) | rfl
              have hPf : va_P G.1 vwCl (wRM G z ((mNeedQ r f x1 x2 x3).1.1) ((mNeedQ r f x1 x2 x3).1.2)) H := by
                have e1 : (mNeedQ r f x1 x2 x3).1.1 = r := by first | with_reducible rfl | (simp only [upF_uu, mNeedQ, mNdG, mNdR, mNdV, c_1, c_3, eq_false c_4, eq_true c_5, c_6, eq_true c_8, ↓reduceIte, Bool.false_eq_true]; done) | (simp only [upF_uu, mNeedQ, mNdG, mNdR, mNdV, c_1, c_3, eq_false c_4, eq_true c_5, c_6, eq_true c_8, ↓reduceIte, Bool.false_eq_true]; rfl) | rfl
                have e2 : (mNeedQ r f x1 x2 x3).1.2 = upF (upF f 0 (nI 0)) 0 (nI 3) := by first | with_reducible rfl | (simp only [upF_uu, mNeedQ, mNdG, mNdR, mNdV, c_1, c_3, eq_false c_4, eq_true c_5, c_6, eq_true c_8, ↓reduceIte, Bool.false_eq_true]; done) | (simp only [upF_uu, mNeedQ, mNdG, mNdR, mNdV, c_1, c_3, eq_false c_4, eq_true c_5, c_6, eq_true c_8, ↓reduceIte, Bool.false_eq_true]; rfl) | rfl
                rw [e1, e2]; exact hP
              exact W.iret (v := nI 0) hx hb hr (fun t ht _ => ⟨⟨_, (), rfl, hq, g_hp ht hPf⟩, hS.F ht⟩) hS.2.2 dX7_need_63
        · exact absurd (by decide) c_5
      · refine lv_iconst (v := nI 2) hx hb dX7_need_24 (by decide +kernel) ?_
        refine lv_goto (tgt := 29) hx hb dX7_need_25 (by decide) ?_
        refine va_put (D := G.1) (ci := 7) (v := .int (nI 2)) (ty := .int) (C := RX7) (T := TX7) (N := 26) hx hb hts hinX7 tyX7 tyX7_ok nmX7 hown hK.1 hP hD hS 0 rfl rfl 0 (by decide) (hts (.fieldLink RX7 72 "RotaforgeModel" "thrown" "I") (by decide +kernel)) (fun _ h9 => h9) rfl (by decide +kernel) rfl rfl (Nat.le_of_ble_eq_true rfl) dX7_need_29 (fun H locs hP hD hS => ?_)
        have hP : va_P G.1 vwCl (wRM G z r (upF f 0 (nI 2))) H := gMs_0 hP
        have hD : va_D (gF z 20) (wRM G z r (upF f 0 (nI 2))) := gD_RM hz
        refine lv_aload_n hx hb dX7_need_32 rfl (lv_at hl 0 rfl) ?_
        refine va_get (D := G.1) (ci := 7) (v := .int (nI 2)) (C := RX7) (T := TX7) (N := 26) hx hb hts hinX7 hown hK.1 hP 0 rfl rfl 0 (by decide) (hts (.fieldLink RX7 72 "RotaforgeModel" "thrown" "I") (by decide +kernel)) (fun _ h9 => h9) rfl dX7_need_33 ?_
        refine lv_if_le (tgt := 41) hx hb dX7_need_36 (by decide) (fun c_10 => ?_) (fun c_10 => ?_)
        · exact absurd c_10 (by decide)
        · refine lv_iconst (v := nI 0) hx hb dX7_need_39 (by decide +kernel) ?_
          have hq : (nI 0) = ((mNeedQ r f x1 x2 x3).2) := by
            first | with_reducible rfl | with_reducible exact nI_add _ _ | (simp only [upF_uu, mNeedQ, mNdG, mNdR, mNdV, c_1, c_3, eq_true c_4, eq_false c_10, ↓reduceIte, Bool.false_eq_true, decide_true, decide_false, Bool.not_true, Bool.not_false, Bool.or_true, Bool.true_or, Bool.or_false, Bool.false_or]; done) | (simp only [upF_uu, mNeedQ, mNdG, mNdR, mNdV, c_1, c_3, eq_true c_4, eq_false c_10, ↓reduceIte, Bool.false_eq_true, decide_true, decide_false, Bool.not_true, Bool.not_false, Bool.or_true, Bool.true_or, Bool.or_false, Bool.false_or]; with_reducible rfl) | (simp only [upF_uu, mNeedQ, mNdG, mNdR, mNdV, c_1, c_3, eq_true c_4, eq_false c_10, ↓reduceIte, Bool.false_eq_true, decide_true, decide_false, Bool.not_true, Bool.not_false, Bool.or_true, Bool.true_or, Bool.or_false, Bool.false_or]; rfl) | (simp [b2i, upF_uu, mNeedQ, mNdG, mNdR, mNdV, c_1, c_3, eq_true c_4, eq_false c_10]; done) | rfl
          have hPf : va_P G.1 vwCl (wRM G z ((mNeedQ r f x1 x2 x3).1.1) ((mNeedQ r f x1 x2 x3).1.2)) H := by
            have e1 : (mNeedQ r f x1 x2 x3).1.1 = r := by first | with_reducible rfl | (simp only [upF_uu, mNeedQ, mNdG, mNdR, mNdV, c_1, c_3, eq_true c_4, eq_false c_10, ↓reduceIte, Bool.false_eq_true]; done) | (simp only [upF_uu, mNeedQ, mNdG, mNdR, mNdV, c_1, c_3, eq_true c_4, eq_false c_10, ↓reduceIte, Bool.false_eq_true]; rfl) | rfl
            have e2 : (mNeedQ r f x1 x2 x3).1.2 = upF f 0 (nI 2) := by first | with_reducible rfl | (simp only [upF_uu, mNeedQ, mNdG, mNdR, mNdV, c_1, c_3, eq_true c_4, eq_false c_10, ↓reduceIte, Bool.false_eq_true]; done) | (simp only [upF_uu, mNeedQ, mNdG, mNdR, mNdV, c_1, c_3, eq_true c_4, eq_false c_10, ↓reduceIte, Bool.false_eq_true]; rfl) | rfl
            rw [e1, e2]; exact hP
          exact W.iret (v := nI 0) hx hb hr (fun t ht _ => ⟨⟨_, (), rfl, hq, g_hp ht hPf⟩, hS.F ht⟩) hS.2.2 dX7_need_40
    · have c_3 := b2i_f c_3
      refine lv_iconst (v := nI 1) hx hb dX7_need_15 (by decide +kernel) ?_
      refine lv_goto (tgt := 29) hx hb dX7_need_16 (by decide) ?_
      refine va_put (D := G.1) (ci := 7) (v := .int (nI 1)) (ty := .int) (C := RX7) (T := TX7) (N := 26) hx hb hts hinX7 tyX7 tyX7_ok nmX7 hown hK.1 hP hD hS 0 rfl rfl 0 (by decide) (hts (.fieldLink RX7 72 "RotaforgeModel" "thrown" "I") (by decide +kernel)) (fun _ h9 => h9) rfl (by decide +kernel) rfl rfl (Nat.le_of_ble_eq_true rfl) dX7_need_29 (fun H locs hP hD hS => ?_)
      have hP : va_P G.1 vwCl (wRM G z r (upF f 0 (nI 1))) H := gMs_0 hP
      have hD : va_D (gF z 20) (wRM G z r (upF f 0 (nI 1))) := gD_RM hz
      refine lv_aload_n hx hb dX7_need_32 rfl (lv_at hl 0 rfl) ?_
      refine va_get (D := G.1) (ci := 7) (v := .int (nI 1)) (C := RX7) (T := TX7) (N := 26) hx hb hts hinX7 hown hK.1 hP 0 rfl rfl 0 (by decide) (hts (.fieldLink RX7 72 "RotaforgeModel" "thrown" "I") (by decide +kernel)) (fun _ h9 => h9) rfl dX7_need_33 ?_
      refine lv_if_le (tgt := 41) hx hb dX7_need_36 (by decide) (fun c_11 => ?_) (fun c_11 => ?_)
      · exact absurd c_11 (by decide)
      · refine lv_iconst (v := nI 0) hx hb dX7_need_39 (by decide +kernel) ?_
        have hq : (nI 0) = ((mNeedQ r f x1 x2 x3).2) := by
          first | with_reducible rfl | with_reducible exact nI_add _ _ | (simp only [upF_uu, mNeedQ, mNdG, mNdR, mNdV, c_1, c_3, eq_false c_11, ↓reduceIte, Bool.false_eq_true, decide_true, decide_false, Bool.not_true, Bool.not_false, Bool.or_true, Bool.true_or, Bool.or_false, Bool.false_or]; done) | (simp only [upF_uu, mNeedQ, mNdG, mNdR, mNdV, c_1, c_3, eq_false c_11, ↓reduceIte, Bool.false_eq_true, decide_true, decide_false, Bool.not_true, Bool.not_false, Bool.or_true, Bool.true_or, Bool.or_false, Bool.false_or]; with_reducible rfl) | (simp only [upF_uu, mNeedQ, mNdG, mNdR, mNdV, c_1, c_3, eq_false c_11, ↓reduceIte, Bool.false_eq_true, decide_true, decide_false, Bool.not_true, Bool.not_false, Bool.or_true, Bool.true_or, Bool.or_false, Bool.false_or]; rfl) | (simp [b2i, upF_uu, mNeedQ, mNdG, mNdR, mNdV, c_1, c_3, eq_false c_11]; done) | rfl
        have hPf : va_P G.1 vwCl (wRM G z ((mNeedQ r f x1 x2 x3).1.1) ((mNeedQ r f x1 x2 x3).1.2)) H := by
          have e1 : (mNeedQ r f x1 x2 x3).1.1 = r := by first | with_reducible rfl | (simp only [upF_uu, mNeedQ, mNdG, mNdR, mNdV, c_1, c_3, eq_false c_11, ↓reduceIte, Bool.false_eq_true]; done) | (simp only [upF_uu, mNeedQ, mNdG, mNdR, mNdV, c_1, c_3, eq_false c_11, ↓reduceIte, Bool.false_eq_true]; rfl) | rfl
          have e2 : (mNeedQ r f x1 x2 x3).1.2 = upF f 0 (nI 1) := by first | with_reducible rfl | (simp only [upF_uu, mNeedQ, mNdG, mNdR, mNdV, c_1, c_3, eq_false c_11, ↓reduceIte, Bool.false_eq_true]; done) | (simp only [upF_uu, mNeedQ, mNdG, mNdR, mNdV, c_1, c_3, eq_false c_11, ↓reduceIte, Bool.false_eq_true]; rfl) | rfl
          rw [e1, e2]; exact hP
        exact W.iret (v := nI 0) hx hb hr (fun t ht _ => ⟨⟨_, (), rfl, hq, g_hp ht hPf⟩, hS.F ht⟩) hS.2.2 dX7_need_40

set_option maxHeartbeats 4000000 in
set_option maxRecDepth 100000 in
theorem c_X7_pass (l : Launch) (G : gG) (H0 : Heap) (z : Nat → Nat) (hz : gDis z 20) (r : Nat → Nat → Int32) (f : Nat → Int32) (hP : va_P G.1 vwCl (wRM G z r f) H0) (x1 : Int32) (n d k t : Nat) (hM : mOK r f n d k t) : gMw l yX7_pass wsX7_pass 7 172 G H0 [.ref (z 0), .int x1] (mPassA r f n d x1) (wRM G z ((mPassQ r f n d x1).1) ((mPassQ r f n d x1).2)) (gF z 20) := by
  refine Met.ofW (cc := cX7_pass) (maxL := 4) (ret := (some .int)) (by decide) rfl ?_
  intro p_ e_ s m args below meth c s₁ B hml hv
  obtain ⟨rfl, rfl, hK⟩ := hv
  have hx := B.exec
  have hb := B.bytes
  have hr := B.returns
  have hts := atoms_spec (ws := wsX7_pass) B.pre
  have hown : s.vm.findClass RX7 = some m.cls := findClass_of_methodNamed B.named
  have hlocks := B.notSynchronized
  have hinX7 : ∀ w ∈ wsX70, w ∈ wsX7_pass := by decide +kernel
  have S0 : CallFix p_ m c cX7_pass 4 s _ wsX7_pass RX7 := ⟨hx, hb, hml, hown, hts⟩
  have hD : va_D (gF z 20) (wRM G z r f) := gD_RM hz
  have hS : va_S (gF z 20) s.heap s.heap [] := va_S.rf
  have hl := lv_entry ([.ref (z 0), .int x1]) (n := 4) (Nat.le_of_ble_eq_true rfl)
  rw [lg_entry_eq]
  generalize (lg_sl ([.ref (z 0), .int x1]) ++ List.replicate (4 - (lg_sl ([.ref (z 0), .int x1])).length) Slot.unset).toArray = ls at hl ⊢
  have hl : lv_has ls 4 [(0, .ref (z 0)), (1, .int x1)] := hl
  obtain ⟨hn, hn2, hd, hd2, hk, hk2, ht, ht2, hh, hm⟩ := id hM
  refine lv_aload_n hx hb dX7_pass_0 rfl (lv_at hl 0 rfl) ?_
  refine lv_iload_n hx hb dX7_pass_1 rfl (lv_at hl 1 rfl) ?_
  refine lv_iconst (v := nI 1) hx hb dX7_pass_2 (by decide +kernel) ?_
  refine lv_bipush (v := nI 28) hx hb dX7_pass_3 (by decide +kernel) ?_
  refine g_callC (W.runS (As := [.int x1, .int (nI 1), .int (nI 28)]) (rest := [.ref (z 0)]) S0 (c_X7_in l G _ x1 (nI 1) (nI 28)) (va_cwS 3 hts gX7_pass_X7_in rfl rfl rfl (by decide +kernel) ⟨Nat.le_of_ble_eq_true rfl, Nat.le_of_ble_eq_true rfl⟩) (g_preS hK) rfl rfl hl.1 rfl (lv_room (Nat.le_of_ble_eq_true rfl)) dX7_pass_5 ⟨Nat.zero_le _, Nat.zero_le _⟩) ?_
  refine lv_if_ne (tgt := 15) hx hb dX7_pass_8 (by decide) (fun c_1 => ?_) (fun c_1 => ?_)
  · have c_1 := b2i_t c_1
    refine lv_aload_n hx hb dX7_pass_15 rfl (lv_at hl 0 rfl) ?_
    refine va_get (D := G.1) (ci := 7) (v := .int (f 1)) (C := RX7) (T := TX7) (N := 26) hx hb hts hinX7 hown hK.1 hP 0 rfl rfl 1 (by decide) (hts (.fieldLink RX7 120 "RotaforgeModel" "time" "I") (by decide +kernel)) (fun _ h9 => h9) rfl dX7_pass_16 ?_
    refine lv_iload_n hx hb dX7_pass_19 rfl (lv_at hl 1 rfl) ?_
    refine lv_iadd hx hb dX7_pass_20 ?_
    refine lv_sipush (v := nI 560) hx hb dX7_pass_21 (by decide +kernel) ?_
    refine lv_icmp_le (tgt := 31) hx hb dX7_pass_24 (by decide) (fun c_2 => ?_) (fun c_2 => ?_)
    · refine lv_iconst (v := nI 0) hx hb dX7_pass_31 (by decide +kernel) ?_
      refine va_put (D := G.1) (ci := 7) (v := .int (nI 0)) (ty := .int) (C := RX7) (T := TX7) (N := 26) hx hb hts hinX7 tyX7 tyX7_ok nmX7 hown hK.1 hP hD hS 0 rfl rfl 0 (by decide) (hts (.fieldLink RX7 72 "RotaforgeModel" "thrown" "I") (by decide +kernel)) (fun _ h9 => h9) rfl (by decide +kernel) rfl rfl (Nat.le_of_ble_eq_true rfl) dX7_pass_32 (fun H locs hP hD hS => ?_)
      have hP : va_P G.1 vwCl (wRM G z r (upF f 0 (nI 0))) H := gMs_0 hP
      have hD : va_D (gF z 20) (wRM G z r (upF f 0 (nI 0))) := gD_RM hz
      refine lv_aload_n hx hb dX7_pass_35 rfl (lv_at hl 0 rfl) ?_
      refine va_get (D := G.1) (ci := 7) (v := .int (nI 0)) (C := RX7) (T := TX7) (N := 26) hx hb hts hinX7 hown hK.1 hP 0 rfl rfl 0 (by decide) (hts (.fieldLink RX7 72 "RotaforgeModel" "thrown" "I") (by decide +kernel)) (fun _ h9 => h9) rfl dX7_pass_36 ?_
      refine lv_if_le (tgt := 44) hx hb dX7_pass_39 (by decide) (fun c_3 => ?_) (fun c_3 => ?_)
      · have hxi : x1 = nI (cN x1) ∧ cN x1 ≤ 28 := by
          have h9 : mIn x1 (nI 0) (nI 28) = true := by
            have h8 := c_1
            unfold mIn at h8 ⊢
            split at h8
            · cases h8
            · rename_i h7
              rw [if_neg (fun h => h7 (by rw [Int32.lt_iff_toInt_lt] at h ⊢; rw [nI_toInt (by decide)] at h ⊢; omega))]
              exact h8
          exact mIn_le h9 (by decide)
        have htn : t + cN x1 ≤ 560 := by
          have h9 : f 1 + x1 ≤ nI 560 := by assumption
          rw [ht, hxi.1, nI_add] at h9
          exact (nI_leI (by omega) (by decide)).mp h9
        have hM0 : mG n d t ((r, upF f 0 (nI 0)) : gRF) := (mG_k (q := ((r, upF f 0 (nI 0)) : gRF)) (k := k) hM).1
        refine lv_aload_n hx hb dX7_pass_44 rfl (lv_at hl 0 rfl) ?_
        refine va_get (D := G.1) (ci := 7) (v := .int (f 6)) (C := RX7) (T := TX7) (N := 26) hx hb hts hinX7 hown hK.1 hP 0 rfl rfl 20 (by decide) (hts (.fieldLink RX7 82 "RotaforgeModel" "incidentMany" "I") (by decide +kernel)) (fun _ h9 => h9) rfl dX7_pass_45 ?_
        refine lv_istore_n (lv' := [(2, .int (f 6)), (0, .ref (z 0)), (1, .int x1)]) hx hb dX7_pass_48 rfl hl (by decide) rfl (fun ls hl => ?_)
        refine lv_iconst (v := nI 0) hx hb dX7_pass_49 (by decide +kernel) ?_
        refine lv_istore_n (lv' := [(3, .int (nI 0)), (2, .int (f 6)), (0, .ref (z 0)), (1, .int x1)]) hx hb dX7_pass_50 rfl hl (by decide) rfl (fun ls hl => ?_)
        refine g_loopW (fun H locs g => W p_ l e_ _ s m _ below meth c H locs _ _ _ g) m 51 4 [] ((cN x1)) (fun i => [(3, .int (nI i)), (2, .int (f 6)), (0, .ref (z 0)), (1, .int x1)]) (fun i H locs => va_P G.1 vwCl (wRM G z ((mPass n d i (r, upF f 0 (nI 0))).1) ((mPass n d i (r, upF f 0 (nI 0))).2)) H ∧ va_S (gF z 20) s.heap H locs ∧ True) (fun i H locs hi51 hI ih51 ls hl => ?_) 0 _ _ (Nat.zero_le _) ⟨hP, hS, trivial⟩ ls ?_
        · obtain ⟨hP, hS, hI⟩ := hI
          have hP : va_P G.1 vwCl (wRM G z ((mPass n d i (r, upF f 0 (nI 0))).1) ((mPass n d i (r, upF f 0 (nI 0))).2)) H := hP
          have hD : va_D (gF z 20) (wRM G z ((mPass n d i (r, upF f 0 (nI 0))).1) ((mPass n d i (r, upF f 0 (nI 0))).2)) := gD_RM hz
          have hl : lv_has ls 4 [(3, .int (nI i)), (2, .int (f 6)), (0, .ref (z 0)), (1, .int x1)] := hl
          have hI : True := hI
          have hMi := mPass_ok hM0 i (by omega)
          refine lv_iload_n hx hb dX7_pass_51 rfl (lv_at hl 0 rfl) ?_
          refine lv_iload_n hx hb dX7_pass_52 rfl (lv_at hl 3 rfl) ?_
          refine lv_icmp_ge (tgt := 66) hx hb dX7_pass_53 (by decide) (fun c_4 => ?_) (fun c_4 => ?_)
          · have hex : cN x1 = i := by
              rw [hxi.1] at c_4
              have h9 := (nI_leI (a := cN x1) (b := i) (by omega) (by omega)).mp c_4
              omega
            subst hex
            refine lv_aload_n hx hb dX7_pass_66 rfl (lv_at hl 2 rfl) ?_
            refine va_get (D := G.1) (ci := 7) (v := .int (((mPass n d (cN x1) (r, upF f 0 (nI 0))).2) 6)) (C := RX7) (T := TX7) (N := 26) hx hb hts hinX7 hown hK.1 hP 0 rfl rfl 20 (by decide) (hts (.fieldLink RX7 82 "RotaforgeModel" "incidentMany" "I") (by decide +kernel)) (fun _ h9 => h9) rfl dX7_pass_67 ?_
            refine lv_iload_n hx hb dX7_pass_70 rfl (lv_at hl 1 rfl) ?_
            refine lv_isub hx hb dX7_pass_71 ?_
            have hq : ((((mPass n d (cN x1) (r, upF f 0 (nI 0))).2) 6) - (f 6)) = (mPassA r f n d x1) := by
              first | with_reducible rfl | with_reducible exact nI_add _ _ | (simp only [upF_uu, mPassA, mPassQ, c_1, eq_true c_2, eq_true c_3, eq_true c_4, ↓reduceIte, Bool.false_eq_true, decide_true, decide_false, Bool.not_true, Bool.not_false, Bool.or_true, Bool.true_or, Bool.or_false, Bool.false_or]; done) | (simp only [upF_uu, mPassA, mPassQ, c_1, eq_true c_2, eq_true c_3, eq_true c_4, ↓reduceIte, Bool.false_eq_true, decide_true, decide_false, Bool.not_true, Bool.not_false, Bool.or_true, Bool.true_or, Bool.or_false, Bool.false_or]; with_reducible rfl) | (simp only [upF_uu, mPassA, mPassQ, c_1, eq_true c_2, eq_true c_3, eq_true c_4, ↓reduceIte, Bool.false_eq_true, decide_true, decide_false, Bool.not_true, Bool.not_false, Bool.or_true, Bool.true_or, Bool.or_false, Bool.false_or]; rfl) | (simp [b2i, upF_uu, mPassA, mPassQ, c_1, eq_true c_2, eq_true c_3, eq_true c_4]; done) | rfl
            have hPf : va_P G.1 vwCl (wRM G z ((mPassQ r f n d x1).1) ((mPassQ r f n d x1).2)) H := by
              have e1 : (mPassQ r f n d x1).1 = (mPass n d (cN x1) (r, upF f 0 (nI 0))).1 := by first | with_reducible rfl | (simp only [upF_uu, mPassA, mPassQ, c_1, eq_true c_2, eq_true c_3, eq_true c_4, ↓reduceIte, Bool.false_eq_true]; done) | (simp only [upF_uu, mPassA, mPassQ, c_1, eq_true c_2, eq_true c_3, eq_true c_4, ↓reduceIte, Bool.false_eq_true]; rfl) | rfl
              have e2 : (mPassQ r f n d x1).2 = (mPass n d (cN x1) (r, upF f 0 (nI 0))).2 := by first | with_reducible rfl | (simp only [upF_uu, mPassA, mPassQ, c_1, eq_true c_2, eq_true c_3, eq_true c_4, ↓reduceIte, Bool.false_eq_true]; done) | (simp only [upF_uu, mPassA, mPassQ, c_1, eq_true c_2, eq_true c_3, eq_true c_4, ↓reduceIte, Bool.false_eq_true]; rfl) | rfl
              rw [e1, e2]; exact hP
            exact W.iret (v := (((mPass n d (cN x1) (r, upF f 0 (nI 0))).2) 6) - (f 6)) hx hb hr (fun t ht _ => ⟨⟨_, (), rfl, hq, g_hp ht hPf⟩, hS.F ht⟩) hS.2.2 dX7_pass_72
          · have hlt : i < cN x1 := by
              rw [hxi.1] at c_4
              have h9 := mt (nI_leI (a := cN x1) (b := i) (by omega) (by omega)).mpr c_4
              omega
            refine lv_aload_n hx hb dX7_pass_56 rfl (lv_at hl 2 rfl) ?_
            refine g_callwv (va_runV (C := RX7) (As := []) (rest := []) S0 (c_X7_half l G _ z hz ((mPass n d i (r, upF f 0 (nI 0))).1) ((mPass n d i (r, upF f 0 (nI 0))).2) hP n d (kOf (mPass n d i (r, upF f 0 (nI 0))).2) (t + i) hMi (by omega)) (cwV 0 hts gX7_pass_X7_half rfl rfl rfl (by decide +kernel) ⟨Nat.le_of_ble_eq_true rfl, Nat.le_of_ble_eq_true rfl⟩) (g_preV hK hP (q0 := 0) (ci := 7) (q := (RX7, TX7, 26)) rfl rfl) rfl rfl hl.1 rfl (lv_room (Nat.le_of_ble_eq_true rfl)) dX7_pass_57 ⟨Nat.zero_le _, Nat.zero_le _⟩) hS (fun _ h => h) (fun _ h => h) (fun H locs hP _ hS => ?_)
            have hP : va_P G.1 vwCl (wRM G z ((mHalf n d (((mPass n d i (r, upF f 0 (nI 0))).1), ((mPass n d i (r, upF f 0 (nI 0))).2))).1) ((mHalf n d (((mPass n d i (r, upF f 0 (nI 0))).1), ((mPass n d i (r, upF f 0 (nI 0))).2))).2)) H := hP
            have hD : va_D (gF z 20) (wRM G z ((mHalf n d (((mPass n d i (r, upF f 0 (nI 0))).1), ((mPass n d i (r, upF f 0 (nI 0))).2))).1) ((mHalf n d (((mPass n d i (r, upF f 0 (nI 0))).1), ((mPass n d i (r, upF f 0 (nI 0))).2))).2)) := gD_RM hz
            refine lv_iinc (v := (nI i) + nI 1) (lv' := [(3, .int ((nI i) + nI 1)), (2, .int (f 6)), (0, .ref (z 0)), (1, .int x1)]) hx hb dX7_pass_60 hl (k := 0) rfl (congrArg (fun q : Int32 => (nI i) + q) (by decide +kernel)) (by decide) rfl (fun ls hl => ?_)
            refine lv_goto (tgt := 51) hx hb dX7_pass_63 (by decide) ?_
            have hPn : va_P G.1 vwCl (wRM G z ((mPass n d (i + 1) (r, upF f 0 (nI 0))).1) ((mPass n d (i + 1) (r, upF f 0 (nI 0))).2)) H := by
              rw [mPass_s]
              exact hP
            exact ih51 _ _ _ (by omega) ⟨hPn, hS, trivial⟩ (lv_cv (show lv_has ls 4 [(3, .int ((nI i) + nI 1)), (2, .int (f 6)), (0, .ref (z 0)), (1, .int x1)] from lv_sub hl [0, 1, 2, 3] rfl) (gl_i (show (nI i) + nI 1 = nI (i + 1) by first | with_reducible rfl | with_reducible exact nI_add _ _ | (simp only [itN_s i, upF_uu, mPassA, mPassQ, c_1, eq_true c_2, eq_true c_3, eq_false c_4, ↓reduceIte, Bool.false_eq_true, decide_true, decide_false, Bool.not_true, Bool.not_false, Bool.or_true, Bool.true_or, Bool.or_false, Bool.false_or]; done) | (simp only [itN_s i, upF_uu, mPassA, mPassQ, c_1, eq_true c_2, eq_true c_3, eq_false c_4, ↓reduceIte, Bool.false_eq_true, decide_true, decide_false, Bool.not_true, Bool.not_false, Bool.or_true, Bool.true_or, Bool.or_false, Bool.false_or]; with_reducible rfl) | (simp only [itN_s i, upF_uu, mPassA, mPassQ, c_1, eq_true c_2, eq_true c_3, eq_false c_4, ↓reduceIte, Bool.false_eq_true, decide_true, decide_false, Bool.not_true, Bool.not_false, Bool.or_true, Bool.true_or, Bool.or_false, Bool.false_or]; rfl) | (simp [b2i, itN_s i, upF_uu, mPassA, mPassQ, c_1, eq_true c_2, eq_true c_3, eq_false c_4]; done) | rfl) (gl_s (gl_s (gl_s rfl)))))
        · exact (show lv_has ls 4 [(3, .int (nI 0)), (2, .int (f 6)), (0, .ref (z 0)), (1, .int x1)] from lv_sub hl [0, 1, 2, 3] rfl)
      · exact absurd (by decide) c_3
    · refine lv_iconst (v := nI 2) hx hb dX7_pass_27 (by decide +kernel) ?_
      refine lv_goto (tgt := 32) hx hb dX7_pass_28 (by decide) ?_
      refine va_put (D := G.1) (ci := 7) (v := .int (nI 2)) (ty := .int) (C := RX7) (T := TX7) (N := 26) hx hb hts hinX7 tyX7 tyX7_ok nmX7 hown hK.1 hP hD hS 0 rfl rfl 0 (by decide) (hts (.fieldLink RX7 72 "RotaforgeModel" "thrown" "I") (by decide +kernel)) (fun _ h9 => h9) rfl (by decide +kernel) rfl rfl (Nat.le_of_ble_eq_true rfl) dX7_pass_32 (fun H locs hP hD hS => ?_)
      have hP : va_P G.1 vwCl (wRM G z r (upF f 0 (nI 2))) H := gMs_0 hP
      have hD : va_D (gF z 20) (wRM G z r (upF f 0 (nI 2))) := gD_RM hz
      refine lv_aload_n hx hb dX7_pass_35 rfl (lv_at hl 0 rfl) ?_
      refine va_get (D := G.1) (ci := 7) (v := .int (nI 2)) (C := RX7) (T := TX7) (N := 26) hx hb hts hinX7 hown hK.1 hP 0 rfl rfl 0 (by decide) (hts (.fieldLink RX7 72 "RotaforgeModel" "thrown" "I") (by decide +kernel)) (fun _ h9 => h9) rfl dX7_pass_36 ?_
      refine lv_if_le (tgt := 44) hx hb dX7_pass_39 (by decide) (fun c_5 => ?_) (fun c_5 => ?_)
      · exact absurd c_5 (by decide)
      · refine lv_iconst (v := nI 0) hx hb dX7_pass_42 (by decide +kernel) ?_
        have hq : (nI 0) = (mPassA r f n d x1) := by
          first | with_reducible rfl | with_reducible exact nI_add _ _ | (simp only [upF_uu, mPassA, mPassQ, c_1, eq_false c_2, eq_false c_5, ↓reduceIte, Bool.false_eq_true, decide_true, decide_false, Bool.not_true, Bool.not_false, Bool.or_true, Bool.true_or, Bool.or_false, Bool.false_or]; done) | (simp only [upF_uu, mPassA, mPassQ, c_1, eq_false c_2, eq_false c_5, ↓reduceIte, Bool.false_eq_true, decide_true, decide_false, Bool.not_true, Bool.not_false, Bool.or_true, Bool.true_or, Bool.or_false, Bool.false_or]; with_reducible rfl) | (simp only [upF_uu, mPassA, mPassQ, c_1, eq_false c_2, eq_false c_5, ↓reduceIte, Bool.false_eq_true, decide_true, decide_false, Bool.not_true, Bool.not_false, Bool.or_true, Bool.true_or, Bool.or_false, Bool.false_or]; rfl) | (simp [b2i, upF_uu, mPassA, mPassQ, c_1, eq_false c_2, eq_false c_5]; done) | rfl
        have hPf : va_P G.1 vwCl (wRM G z ((mPassQ r f n d x1).1) ((mPassQ r f n d x1).2)) H := by
          have e1 : (mPassQ r f n d x1).1 = r := by first | with_reducible rfl | (simp only [upF_uu, mPassA, mPassQ, c_1, eq_false c_2, eq_false c_5, ↓reduceIte, Bool.false_eq_true]; done) | (simp only [upF_uu, mPassA, mPassQ, c_1, eq_false c_2, eq_false c_5, ↓reduceIte, Bool.false_eq_true]; rfl) | rfl
          have e2 : (mPassQ r f n d x1).2 = upF f 0 (nI 2) := by first | with_reducible rfl | (simp only [upF_uu, mPassA, mPassQ, c_1, eq_false c_2, eq_false c_5, ↓reduceIte, Bool.false_eq_true]; done) | (simp only [upF_uu, mPassA, mPassQ, c_1, eq_false c_2, eq_false c_5, ↓reduceIte, Bool.false_eq_true]; rfl) | rfl
          rw [e1, e2]; exact hP
        exact W.iret (v := nI 0) hx hb hr (fun t ht _ => ⟨⟨_, (), rfl, hq, g_hp ht hPf⟩, hS.F ht⟩) hS.2.2 dX7_pass_43
  · have c_1 := b2i_f c_1
    refine lv_iconst (v := nI 1) hx hb dX7_pass_11 (by decide +kernel) ?_
    refine lv_goto (tgt := 32) hx hb dX7_pass_12 (by decide) ?_
    refine va_put (D := G.1) (ci := 7) (v := .int (nI 1)) (ty := .int) (C := RX7) (T := TX7) (N := 26) hx hb hts hinX7 tyX7 tyX7_ok nmX7 hown hK.1 hP hD hS 0 rfl rfl 0 (by decide) (hts (.fieldLink RX7 72 "RotaforgeModel" "thrown" "I") (by decide +kernel)) (fun _ h9 => h9) rfl (by decide +kernel) rfl rfl (Nat.le_of_ble_eq_true rfl) dX7_pass_32 (fun H locs hP hD hS => ?_)
    have hP : va_P G.1 vwCl (wRM G z r (upF f 0 (nI 1))) H := gMs_0 hP
    have hD : va_D (gF z 20) (wRM G z r (upF f 0 (nI 1))) := gD_RM hz
    refine lv_aload_n hx hb dX7_pass_35 rfl (lv_at hl 0 rfl) ?_
    refine va_get (D := G.1) (ci := 7) (v := .int (nI 1)) (C := RX7) (T := TX7) (N := 26) hx hb hts hinX7 hown hK.1 hP 0 rfl rfl 0 (by decide) (hts (.fieldLink RX7 72 "RotaforgeModel" "thrown" "I") (by decide +kernel)) (fun _ h9 => h9) rfl dX7_pass_36 ?_
    refine lv_if_le (tgt := 44) hx hb dX7_pass_39 (by decide) (fun c_6 => ?_) (fun c_6 => ?_)
    · exact absurd c_6 (by decide)
    · refine lv_iconst (v := nI 0) hx hb dX7_pass_42 (by decide +kernel) ?_
      have hq : (nI 0) = (mPassA r f n d x1) := by
        first | with_reducible rfl | with_reducible exact nI_add _ _ | (simp only [upF_uu, mPassA, mPassQ, c_1, eq_false c_6, ↓reduceIte, Bool.false_eq_true, decide_true, decide_false, Bool.not_true, Bool.not_false, Bool.or_true, Bool.true_or, Bool.or_false, Bool.false_or]; done) | (simp only [upF_uu, mPassA, mPassQ, c_1, eq_false c_6, ↓reduceIte, Bool.false_eq_true, decide_true, decide_false, Bool.not_true, Bool.not_false, Bool.or_true, Bool.true_or, Bool.or_false, Bool.false_or]; with_reducible rfl) | (simp only [upF_uu, mPassA, mPassQ, c_1, eq_false c_6, ↓reduceIte, Bool.false_eq_true, decide_true, decide_false, Bool.not_true, Bool.not_false, Bool.or_true, Bool.true_or, Bool.or_false, Bool.false_or]; rfl) | (simp [b2i, upF_uu, mPassA, mPassQ, c_1, eq_false c_6]; done) | rfl
      have hPf : va_P G.1 vwCl (wRM G z ((mPassQ r f n d x1).1) ((mPassQ r f n d x1).2)) H := by
        have e1 : (mPassQ r f n d x1).1 = r := by first | with_reducible rfl | (simp only [upF_uu, mPassA, mPassQ, c_1, eq_false c_6, ↓reduceIte, Bool.false_eq_true]; done) | (simp only [upF_uu, mPassA, mPassQ, c_1, eq_false c_6, ↓reduceIte, Bool.false_eq_true]; rfl) | rfl
        have e2 : (mPassQ r f n d x1).2 = upF f 0 (nI 1) := by first | with_reducible rfl | (simp only [upF_uu, mPassA, mPassQ, c_1, eq_false c_6, ↓reduceIte, Bool.false_eq_true]; done) | (simp only [upF_uu, mPassA, mPassQ, c_1, eq_false c_6, ↓reduceIte, Bool.false_eq_true]; rfl) | rfl
        rw [e1, e2]; exact hP
      exact W.iret (v := nI 0) hx hb hr (fun t ht _ => ⟨⟨_, (), rfl, hq, g_hp ht hPf⟩, hS.F ht⟩) hS.2.2 dX7_pass_43
