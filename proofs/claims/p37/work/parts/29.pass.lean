theorem g_cast {D : va_G} {cl : List vw_C} {G : gG} {z : Nat → Nat} {q : gRF} {X : Nat → Nat → Int32} {Y : Nat → Int32} {H : Heap} (h : q = (X, Y)) (hP : va_P D cl (wRF G z X Y) H) : va_P D cl (wRF G z q.1 q.2) H := by
  subst h
  exact hP
set_option maxHeartbeats 4000000 in
set_option maxRecDepth 100000 in
theorem c_X6_pass (l : Launch) (hfl : l.stackTraces = false) (G : gG) (H0 : Heap) (z : Nat → Nat) (hz : gDis z 50) (r : Nat → Nat → Int32) (f : Nat → Int32) (hP : va_P G.1 vwCl (wRF G z r f) H0) (x1 : Int32) (t a : Nat) (ht9 : f 1 = nI t) (ht8 : t ≤ 560) (ha9 : f 4 = nI a) (ha8 : a ≤ 200) : gMxw l yX6_pass wsX6_pass 6 139 1 G H0 [.ref (z 0), .int x1] (kPass f x1) ((cPass (cN x1) (r, f)).2 4 - f 4) (wRF G z ((cPass (cN x1) (r, f)).1) ((cPass (cN x1) (r, f)).2)) (gF z 50) := by
  refine vx_ofW (cc := cX6_pass) (maxL := 6) (ret := (some .int)) (by decide) rfl ?_
  intro p_ e_ s m args below meth c s₁ B hml hexc hv
  obtain ⟨rfl, rfl, hK, hX⟩ := hv
  have hx := B.exec
  have hb := B.bytes
  have hr := B.returns
  have hts := atoms_spec (ws := wsX6_pass) B.pre
  have hown : s.vm.findClass RX6 = some m.cls := findClass_of_methodNamed B.named
  have hlocks := B.notSynchronized
  have hinX6 : ∀ w ∈ wsX60, w ∈ wsX6_pass := by decide +kernel
  have S0 : CallFix p_ m c cX6_pass 6 s _ wsX6_pass RX6 := ⟨hx, hb, hml, hown, hts⟩
  have hS : va_S (fun _ => False) s.heap s.heap [] := va_S.rf
  have hg55 : ∀ w ∈ (vx_atS RX6 55 xISE gNm).filter goodWord, w ∈ wsX6_pass := by decide +kernel
  have hg79 : ∀ w ∈ (vx_atS RX6 79 xIAE gNm).filter goodWord, w ∈ wsX6_pass := by decide +kernel
  have hl := lv_entry ([.ref (z 0), .int x1]) (n := 6) (Nat.le_of_ble_eq_true rfl)
  rw [lg_entry_eq]
  generalize (lg_sl ([.ref (z 0), .int x1]) ++ List.replicate (6 - (lg_sl ([.ref (z 0), .int x1])).length) Slot.unset).toArray = ls at hl ⊢
  have hl : lv_has ls 6 [(0, .ref (z 0)), (1, .int x1)] := hl
  refine lv_iload_n hx hb dX6_pass_0 rfl (lv_at hl 1 rfl) ?_
  refine lv_iconst (v := nI 1) hx hb dX6_pass_1 (by decide +kernel) ?_
  refine lv_icmp_lt (tgt := 11) hx hb dX6_pass_2 (by decide) (fun c_1 => ?_) (fun c_1 => ?_)
  · have hkv : (kPass f x1) = 2 := by
      first | with_reducible rfl | (simp only [kPass, eq_true c_1, kT, eq_self, ↓reduceIte, Bool.false_eq_true]; done) | (simp only [kPass, eq_true c_1, kT, eq_self, ↓reduceIte, Bool.false_eq_true]; rfl) | (simp [kT, kPass, eq_true c_1]; done)
    exact g_throwS (K := (kPass f x1)) (text := "1 to 28 halves pass") hx hb hfl hown hX (by decide) (hts (.classLink RX6 75 xIAE) (by decide +kernel)) (hts (.initialized xIAE) (by decide +kernel)) (fun w hw => hts w (hg79 w hw)) hng79 hgo79 (List.mem_of_getElem? (i := 17) rfl) (by decide) hS (hl.1.trans hml.symm) (by rw [hkv]; decide) (by rw [hkv]; rfl) dX6_pass_11 dX6_pass_14 dX6_pass_15 dX6_pass_17 dX6_pass_20 hexc hlocks ⟨Nat.le_of_ble_eq_true rfl, Nat.le_of_ble_eq_true rfl, Nat.le_of_ble_eq_true rfl, Nat.le_of_ble_eq_true rfl⟩ ⟨Nat.le_of_ble_eq_true rfl, Nat.le_of_ble_eq_true rfl⟩
  · refine lv_iload_n hx hb dX6_pass_5 rfl (lv_at hl 1 rfl) ?_
    refine lv_bipush (v := nI 28) hx hb dX6_pass_6 (by decide +kernel) ?_
    refine lv_icmp_le (tgt := 21) hx hb dX6_pass_8 (by decide) (fun c_2 => ?_) (fun c_2 => ?_)
    · refine lv_aload_n hx hb dX6_pass_21 rfl (lv_at hl 0 rfl) ?_
      refine va_get (D := G.1) (ci := 6) (v := .int (f 1)) (C := RX6) (T := TX6) (N := 7) hx hb hts hinX6 hown hK.1 hP 0 rfl rfl 6 (by decide) (hts (.fieldLink RX6 48 "Rotaforge" "now" "I") (by decide +kernel)) (fun _ h9 => h9) rfl dX6_pass_22 ?_
      refine lv_iload_n hx hb dX6_pass_25 rfl (lv_at hl 1 rfl) ?_
      refine lv_iadd hx hb dX6_pass_26 ?_
      refine lv_sipush (v := nI 560) hx hb dX6_pass_27 (by decide +kernel) ?_
      refine lv_icmp_le (tgt := 43) hx hb dX6_pass_30 (by decide) (fun c_3 => ?_) (fun c_3 => ?_)
      · have hx9 : ¬ x1 < 0 := fun h => c_1 (by rw [Int32.lt_iff_toInt_lt] at h ⊢; rw [nI_toInt (by decide)]; rw [Int32.toInt_zero] at h; omega)
        have hxn : x1 = nI (cN x1) := nI_cN hx9
        have hxb : cN x1 < 2 ^ 31 := by obtain ⟨j, hj, e⟩ := nI_of hx9; show x1.toNatClampNeg < _; rw [e, nI_clamp hj]; exact hj
        have hxm : cN x1 ≤ 28 := by have h9 := c_2; rw [hxn] at h9; exact (nI_leI hxb (by decide)).mp h9
        have htn : t + cN x1 ≤ 560 := by have h9 := c_3; rw [ht9, hxn, nI_add] at h9; exact (nI_leI (by omega) (by decide)).mp h9
        refine lv_aload_n hx hb dX6_pass_43 rfl (lv_at hl 0 rfl) ?_
        refine va_get (D := G.1) (ci := 6) (v := .ref (z 4)) (C := RX6) (T := TX6) (N := 7) hx hb hts hinX6 hown hK.1 hP 0 rfl rfl 3 (by decide) (hts (.fieldLink RX6 33 "Rotaforge" "incidentLog" "LRotaforge$IncidentLog;") (by decide +kernel)) (fun _ h9 => h9) rfl dX6_pass_44 ?_
        refine g_callC (W.runV (C := RX2) (As := []) (rest := []) S0 (c_X2_total l G _ z r f hP) (cwV 0 hts gX6_pass_X2_total rfl rfl rfl (by decide +kernel) ⟨Nat.le_of_ble_eq_true rfl, Nat.le_of_ble_eq_true rfl⟩) (g_preV hK hP (q0 := 4) (ci := 2) (q := (RX2, TX2, 7)) rfl rfl) rfl rfl hl.1 rfl (lv_room (Nat.le_of_ble_eq_true rfl)) dX6_pass_47 ⟨Nat.le_of_ble_eq_true rfl, Nat.le_of_ble_eq_true rfl⟩) ?_
        refine lv_istore_n (lv' := [(2, .int (f 4)), (0, .ref (z 0)), (1, .int x1)]) hx hb dX6_pass_50 rfl hl (by decide) rfl (fun ls hl => ?_)
        refine lv_iconst (v := nI 0) hx hb dX6_pass_51 (by decide +kernel) ?_
        refine lv_istore_n (lv' := [(3, .int (nI 0)), (2, .int (f 4)), (0, .ref (z 0)), (1, .int x1)]) hx hb dX6_pass_52 rfl hl (by decide) rfl (fun ls hl => ?_)
        have hS := gS_up (A := gF z 50) hS
        have hD : va_D (gF z 50) (wRF G z r f) := gD_RF hz
        refine g_loopW (fun H locs g => W p_ l e_ _ s m _ below meth c H locs _ _ _ g) m 53 6 [] ((cN x1)) (fun k => [(3, .int (nI k)), (2, .int (f 4)), (0, .ref (z 0)), (1, .int x1)]) (fun k H locs => va_P G.1 vwCl (wRF G z ((cPass k (r, f)).1) ((cPass k (r, f)).2)) H ∧ va_S (gF z 50) s.heap H locs ∧ True) (fun k H locs hi53 hI ih53 ls hl => ?_) 0 _ _ (Nat.zero_le _) ⟨hP, hS, trivial⟩ ls ?_
        · obtain ⟨hP, hS, hI⟩ := hI
          have hP : va_P G.1 vwCl (wRF G z ((cPass k (r, f)).1) ((cPass k (r, f)).2)) H := hP
          have hD : va_D (gF z 50) (wRF G z ((cPass k (r, f)).1) ((cPass k (r, f)).2)) := gD_RF hz
          have hl : lv_has ls 6 [(3, .int (nI k)), (2, .int (f 4)), (0, .ref (z 0)), (1, .int x1)] := hl
          have hI : True := hI
          obtain ⟨⟨a1, hq1, hq2, hq3⟩, hq4⟩ := cPass_ok (q := (r, f)) ht9 ha9 ha8 k
          have hT : (cPass k (r, f)).2 1 = nI (cTime (cPass k (r, f)).2) := by show _ = nI ((cPass k (r, f)).2 1).toNatClampNeg; rw [hq4, nI_clamp (by omega)]
          have hT2 : cTime (cPass k (r, f)).2 < 1000 := by show ((cPass k (r, f)).2 1).toNatClampNeg < _; rw [hq4, nI_clamp (by omega)]; omega
          have hC : (cPass k (r, f)).2 4 = nI (cInc (cPass k (r, f)).2) := by show _ = nI ((cPass k (r, f)).2 4).toNatClampNeg; rw [hq1, nI_clamp (by omega)]
          have hC1 : cInc (cPass k (r, f)).2 = a1 := by show ((cPass k (r, f)).2 4).toNatClampNeg = _; rw [hq1, nI_clamp (by omega)]
          obtain ⟨⟨a2, hs1, hs2, hs3⟩, hs4⟩ := cSteps_ok (q := cBeg (cPass k (r, f))) (a := a1) hq1 hq3 4
          have hC2 : cInc (itN 4 cStep (cBeg (cPass k (r, f)))).2 = a2 := by show ((itN 4 cStep (cBeg (cPass k (r, f)))).2 4).toNatClampNeg = _; rw [show (itN 4 cStep (cBeg (cPass k (r, f)))).2 4 = nI a2 from hs1, nI_clamp (by omega)]
          have hC3 : (itN 4 cStep (cBeg (cPass k (r, f)))).2 4 = nI (cInc (cPass k (r, f)).2 + (cInc (itN 4 cStep (cBeg (cPass k (r, f)))).2 - cInc (cPass k (r, f)).2)) := by rw [hC2, hC1, show a1 + (a2 - a1) = a2 from by omega]; exact hs1
          have hC4 : cInc (cPass k (r, f)).2 + (cInc (itN 4 cStep (cBeg (cPass k (r, f)))).2 - cInc (cPass k (r, f)).2) ≤ 200 := by rw [hC2, hC1]; omega
          refine lv_iload_n hx hb dX6_pass_53 rfl (lv_at hl 0 rfl) ?_
          refine lv_iload_n hx hb dX6_pass_54 rfl (lv_at hl 3 rfl) ?_
          refine lv_icmp_ge (tgt := 104) hx hb dX6_pass_55 (by decide) (fun c_4 => ?_) (fun c_4 => ?_)
          · have hex : cN x1 = k := by
              rw [hxn] at c_4
              have h9 := (nI_leI (a := cN x1) (b := k) (by omega) (by omega)).mp c_4
              omega
            subst hex
            refine lv_aload_n hx hb dX6_pass_104 rfl (lv_at hl 2 rfl) ?_
            refine va_get (D := G.1) (ci := 6) (v := .ref (z 4)) (C := RX6) (T := TX6) (N := 7) hx hb hts hinX6 hown hK.1 hP 0 rfl rfl 3 (by decide) (hts (.fieldLink RX6 33 "Rotaforge" "incidentLog" "LRotaforge$IncidentLog;") (by decide +kernel)) (fun _ h9 => h9) rfl dX6_pass_105 ?_
            refine g_callC (W.runV (C := RX2) (As := []) (rest := []) S0 (c_X2_total l G _ z ((cPass (cN x1) (r, f)).1) ((cPass (cN x1) (r, f)).2) hP) (cwV 0 hts gX6_pass_X2_total rfl rfl rfl (by decide +kernel) ⟨Nat.le_of_ble_eq_true rfl, Nat.le_of_ble_eq_true rfl⟩) (g_preV hK hP (q0 := 4) (ci := 2) (q := (RX2, TX2, 7)) rfl rfl) rfl rfl hl.1 rfl (lv_room (Nat.le_of_ble_eq_true rfl)) dX6_pass_108 ⟨Nat.le_of_ble_eq_true rfl, Nat.le_of_ble_eq_true rfl⟩) ?_
            refine lv_iload_n hx hb dX6_pass_111 rfl (lv_at hl 1 rfl) ?_
            refine lv_isub hx hb dX6_pass_112 ?_
            have hq : ((((cPass (cN x1) (r, f)).2) 4) - (f 4)) = ((cPass (cN x1) (r, f)).2 4 - f 4) := by
              first | with_reducible rfl | with_reducible exact nI_add _ _ | (simp only [eq_false c_1, eq_true c_2, eq_true c_3, eq_true c_4, ↓reduceIte, Bool.false_eq_true, decide_true, decide_false, Bool.not_true, Bool.not_false, Bool.or_true, Bool.true_or, Bool.or_false, Bool.false_or]; done) | (simp only [eq_false c_1, eq_true c_2, eq_true c_3, eq_true c_4, ↓reduceIte, Bool.false_eq_true, decide_true, decide_false, Bool.not_true, Bool.not_false, Bool.or_true, Bool.true_or, Bool.or_false, Bool.false_or]; with_reducible rfl) | (simp only [eq_false c_1, eq_true c_2, eq_true c_3, eq_true c_4, ↓reduceIte, Bool.false_eq_true, decide_true, decide_false, Bool.not_true, Bool.not_false, Bool.or_true, Bool.true_or, Bool.or_false, Bool.false_or]; rfl) | (simp [b2i, eq_false c_1, eq_true c_2, eq_true c_3, eq_true c_4]; done) | rfl
            have hk0 : (kPass f x1) = 0 := by
              first | with_reducible rfl | (simp only [kPass, eq_false c_1, eq_true c_2, eq_true c_3, eq_true c_4, kT, eq_self, ↓reduceIte, Bool.false_eq_true]; done) | (simp only [kPass, eq_false c_1, eq_true c_2, eq_true c_3, eq_true c_4, kT, eq_self, ↓reduceIte, Bool.false_eq_true]; rfl) | (simp [kT, kPass, eq_false c_1, eq_true c_2, eq_true c_3, eq_true c_4]; done)
            have hPf : va_P G.1 vwCl (wRF G z ((cPass (cN x1) (r, f)).1) ((cPass (cN x1) (r, f)).2)) H := by
              exact hP
            refine W.widen (k := 1) (n := 6) (Nat.le_of_ble_eq_true rfl) (Nat.le_of_ble_eq_true rfl) ?_
            refine vx_ret ?_
            exact W.iret (v := (((cPass (cN x1) (r, f)).2) 4) - (f 4)) hx hb hr (fun t ht _ => ⟨⟨_, (), rfl, ⟨hk0, hq⟩, g_hp ht hPf⟩, hS.F ht⟩) hS.2.2 dX6_pass_113
          · have hlt : k < cN x1 := by
              rw [hxn] at c_4
              have h9 := mt (nI_leI (a := cN x1) (b := k) (by omega) (by omega)).mpr c_4
              omega
            refine lv_aload_n hx hb dX6_pass_58 rfl (lv_at hl 2 rfl) ?_
            refine va_get (D := G.1) (ci := 6) (v := .ref (z 4)) (C := RX6) (T := TX6) (N := 7) hx hb hts hinX6 hown hK.1 hP 0 rfl rfl 3 (by decide) (hts (.fieldLink RX6 33 "Rotaforge" "incidentLog" "LRotaforge$IncidentLog;") (by decide +kernel)) (fun _ h9 => h9) rfl dX6_pass_59 ?_
            refine g_callC (W.runV (C := RX2) (As := []) (rest := []) S0 (c_X2_total l G _ z ((cPass k (r, f)).1) ((cPass k (r, f)).2) hP) (cwV 0 hts gX6_pass_X2_total rfl rfl rfl (by decide +kernel) ⟨Nat.le_of_ble_eq_true rfl, Nat.le_of_ble_eq_true rfl⟩) (g_preV hK hP (q0 := 4) (ci := 2) (q := (RX2, TX2, 7)) rfl rfl) rfl rfl hl.1 rfl (lv_room (Nat.le_of_ble_eq_true rfl)) dX6_pass_62 ⟨Nat.le_of_ble_eq_true rfl, Nat.le_of_ble_eq_true rfl⟩) ?_
            refine lv_istore (lv' := [(4, .int (((cPass k (r, f)).2) 4)), (3, .int (nI k)), (2, .int (f 4)), (0, .ref (z 0)), (1, .int x1)]) hx hb dX6_pass_65 hl (by decide) rfl (fun ls hl => ?_)
            refine lv_aload_n hx hb dX6_pass_67 rfl (lv_at hl 3 rfl) ?_
            refine g_callwv (va_runV (C := RX6) (As := []) (rest := []) S0 (c_X6_beginHalf l G _ z hz ((cPass k (r, f)).1) ((cPass k (r, f)).2) hP (cTime (cPass k (r, f)).2) hT hT2) (cwV 0 hts gX6_pass_X6_beginHalf rfl rfl rfl (by decide +kernel) ⟨Nat.le_of_ble_eq_true rfl, Nat.le_of_ble_eq_true rfl⟩) (g_preV hK hP (q0 := 0) (ci := 6) (q := (RX6, TX6, 7)) rfl rfl) rfl rfl hl.1 rfl (lv_room (Nat.le_of_ble_eq_true rfl)) dX6_pass_68 ⟨Nat.le_of_ble_eq_true rfl, Nat.le_of_ble_eq_true rfl⟩) hS (fun _ h => h) (fun _ h => h) (fun H locs hP _ hS => ?_)
            have hP : va_P G.1 vwCl (wRF G z (cBegR ((cPass k (r, f)).1) (cTime (cPass k (r, f)).2)) (upF ((cPass k (r, f)).2) 1 (((cPass k (r, f)).2) 1 + nI 1))) H := hP
            have hD : va_D (gF z 50) (wRF G z (cBegR ((cPass k (r, f)).1) (cTime (cPass k (r, f)).2)) (upF ((cPass k (r, f)).2) 1 (((cPass k (r, f)).2) 1 + nI 1))) := gD_RF hz
            refine lv_iconst (v := nI 0) hx hb dX6_pass_71 (by decide +kernel) ?_
            refine lv_istore (lv' := [(5, .int (nI 0)), (4, .int (((cPass k (r, f)).2) 4)), (3, .int (nI k)), (2, .int (f 4)), (0, .ref (z 0)), (1, .int x1)]) hx hb dX6_pass_72 hl (by decide) rfl (fun ls hl => ?_)
            refine g_loopW (fun H locs g => W p_ l e_ _ s m _ below meth c H locs _ _ _ g) m 74 6 [] (4) (fun i => [(5, .int (nI i)), (4, .int (((cPass k (r, f)).2) 4)), (3, .int (nI k)), (2, .int (f 4)), (0, .ref (z 0)), (1, .int x1)]) (fun i H locs => va_P G.1 vwCl (wRF G z ((itN i cStep (cBeg (cPass k (r, f)))).1) ((itN i cStep (cBeg (cPass k (r, f)))).2)) H ∧ va_S (gF z 50) s.heap H locs ∧ True) (fun i H locs hi74 hI ih74 ls hl => ?_) 0 _ _ (Nat.zero_le _) ⟨hP, hS, trivial⟩ ls ?_
            · obtain ⟨hP, hS, hI⟩ := hI
              have hP : va_P G.1 vwCl (wRF G z ((itN i cStep (cBeg (cPass k (r, f)))).1) ((itN i cStep (cBeg (cPass k (r, f)))).2)) H := hP
              have hD : va_D (gF z 50) (wRF G z ((itN i cStep (cBeg (cPass k (r, f)))).1) ((itN i cStep (cBeg (cPass k (r, f)))).2)) := gD_RF hz
              have hl : lv_has ls 6 [(5, .int (nI i)), (4, .int (((cPass k (r, f)).2) 4)), (3, .int (nI k)), (2, .int (f 4)), (0, .ref (z 0)), (1, .int x1)] := hl
              have hI : True := hI
              refine lv_iload hx hb dX6_pass_74 (lv_at hl 0 rfl) ?_
              refine lv_iconst (v := nI 4) hx hb dX6_pass_76 (by decide +kernel) ?_
              refine lv_icmp_ge (tgt := 92) hx hb dX6_pass_77 (by decide) (fun c_5 => ?_) (fun c_5 => ?_)
              · have hex : 4 = i := by
                  have h9 := (nI_leI (a := 4) (b := i) (by decide) (by omega)).mp c_5
                  omega
                subst hex
                refine lv_aload_n hx hb dX6_pass_92 rfl (lv_at hl 4 rfl) ?_
                refine lv_iload hx hb dX6_pass_93 (lv_at hl 1 rfl) ?_
                refine g_callwv (va_runV (C := RX6) (As := [.int (((cPass k (r, f)).2) 4)]) (rest := []) S0 (c_X6_callIfOpen l G _ z hz ((itN 4 cStep (cBeg (cPass k (r, f)))).1) ((itN 4 cStep (cBeg (cPass k (r, f)))).2) hP (((cPass k (r, f)).2) 4) (cInc (cPass k (r, f)).2) (cInc (itN 4 cStep (cBeg (cPass k (r, f)))).2 - cInc (cPass k (r, f)).2) hC hC3 hC4) (cwV 1 hts gX6_pass_X6_callIfOpen rfl rfl rfl (by decide +kernel) ⟨Nat.le_of_ble_eq_true rfl, Nat.le_of_ble_eq_true rfl⟩) (g_preV hK hP (q0 := 0) (ci := 6) (q := (RX6, TX6, 7)) rfl rfl) rfl rfl hl.1 rfl (lv_room (Nat.le_of_ble_eq_true rfl)) dX6_pass_95 ⟨Nat.le_of_ble_eq_true rfl, Nat.le_of_ble_eq_true rfl⟩) hS (fun _ h => h) (fun _ h => h) (fun H locs hP _ hS => ?_)
                have hP : va_P G.1 vwCl (wRF G z (cCIR ((itN 4 cStep (cBeg (cPass k (r, f)))).1) ((itN 4 cStep (cBeg (cPass k (r, f)))).2) (cInc (cPass k (r, f)).2) (cInc (itN 4 cStep (cBeg (cPass k (r, f)))).2 - cInc (cPass k (r, f)).2)) (cCIF ((itN 4 cStep (cBeg (cPass k (r, f)))).1) ((itN 4 cStep (cBeg (cPass k (r, f)))).2))) H := hP
                have hD : va_D (gF z 50) (wRF G z (cCIR ((itN 4 cStep (cBeg (cPass k (r, f)))).1) ((itN 4 cStep (cBeg (cPass k (r, f)))).2) (cInc (cPass k (r, f)).2) (cInc (itN 4 cStep (cBeg (cPass k (r, f)))).2 - cInc (cPass k (r, f)).2)) (cCIF ((itN 4 cStep (cBeg (cPass k (r, f)))).1) ((itN 4 cStep (cBeg (cPass k (r, f)))).2))) := gD_RF hz
                refine lv_iinc (v := (nI k) + nI 1) (lv' := [(3, .int ((nI k) + nI 1)), (5, .int (nI 4)), (4, .int (((cPass k (r, f)).2) 4)), (2, .int (f 4)), (0, .ref (z 0)), (1, .int x1)]) hx hb dX6_pass_98 hl (k := 2) rfl (congrArg (fun q : Int32 => (nI k) + q) (by decide +kernel)) (by decide) rfl (fun ls hl => ?_)
                refine lv_goto (tgt := 53) hx hb dX6_pass_101 (by decide) ?_
                have hPn : va_P G.1 vwCl (wRF G z ((cPass (k + 1) (r, f)).1) ((cPass (k + 1) (r, f)).2)) H := by
                  exact g_cast (q := cPass (k + 1) (r, f)) ((cPass_s k (r, f)).trans (cHalf_eq _)) hP
                exact ih53 _ _ _ (by omega) ⟨hPn, hS, trivial⟩ (lv_cv (show lv_has ls 6 [(3, .int ((nI k) + nI 1)), (2, .int (f 4)), (0, .ref (z 0)), (1, .int x1)] from lv_sub hl [0, 3, 4, 5] rfl) (gl_i (show (nI k) + nI 1 = nI (k + 1) by first | with_reducible rfl | with_reducible exact nI_add _ _ | (simp only [itN_s k, eq_false c_1, eq_true c_2, eq_true c_3, eq_false c_4, eq_true c_5, ↓reduceIte, Bool.false_eq_true, decide_true, decide_false, Bool.not_true, Bool.not_false, Bool.or_true, Bool.true_or, Bool.or_false, Bool.false_or]; done) | (simp only [itN_s k, eq_false c_1, eq_true c_2, eq_true c_3, eq_false c_4, eq_true c_5, ↓reduceIte, Bool.false_eq_true, decide_true, decide_false, Bool.not_true, Bool.not_false, Bool.or_true, Bool.true_or, Bool.or_false, Bool.false_or]; with_reducible rfl) | (simp only [itN_s k, eq_false c_1, eq_true c_2, eq_true c_3, eq_false c_4, eq_true c_5, ↓reduceIte, Bool.false_eq_true, decide_true, decide_false, Bool.not_true, Bool.not_false, Bool.or_true, Bool.true_or, Bool.or_false, Bool.false_or]; rfl) | (simp [b2i, itN_s k, eq_false c_1, eq_true c_2, eq_true c_3, eq_false c_4, eq_true c_5]; done) | rfl) (gl_s (gl_s (gl_s rfl)))))
              · have hlt : i < 4 := by
                  have h9 := mt (nI_leI (a := 4) (b := i) (by decide) (by omega)).mpr c_5
                  omega
                refine lv_aload_n hx hb dX6_pass_80 rfl (lv_at hl 4 rfl) ?_
                refine lv_iload hx hb dX6_pass_81 (lv_at hl 0 rfl) ?_
                refine g_callwv (va_runV (C := RX6) (As := [.int (nI i)]) (rest := []) S0 (c_X6_settleRing l G _ z hz ((itN i cStep (cBeg (cPass k (r, f)))).1) ((itN i cStep (cBeg (cPass k (r, f)))).2) hP (nI i)) (cwV 1 hts gX6_pass_X6_settleRing rfl rfl rfl (by decide +kernel) ⟨Nat.le_of_ble_eq_true rfl, Nat.le_of_ble_eq_true rfl⟩) (g_preV hK hP (q0 := 0) (ci := 6) (q := (RX6, TX6, 7)) rfl rfl) rfl rfl hl.1 rfl (lv_room (Nat.le_of_ble_eq_true rfl)) dX6_pass_83 ⟨Nat.le_of_ble_eq_true rfl, Nat.le_of_ble_eq_true rfl⟩) hS (fun _ h => h) (fun _ h => h) (fun H locs hP _ hS => ?_)
                have hP : va_P G.1 vwCl (wRF G z (cSetR ((itN i cStep (cBeg (cPass k (r, f)))).1) ((itN i cStep (cBeg (cPass k (r, f)))).2) (nI i)) (cSetF ((itN i cStep (cBeg (cPass k (r, f)))).1) ((itN i cStep (cBeg (cPass k (r, f)))).2) (nI i))) H := hP
                have hD : va_D (gF z 50) (wRF G z (cSetR ((itN i cStep (cBeg (cPass k (r, f)))).1) ((itN i cStep (cBeg (cPass k (r, f)))).2) (nI i)) (cSetF ((itN i cStep (cBeg (cPass k (r, f)))).1) ((itN i cStep (cBeg (cPass k (r, f)))).2) (nI i))) := gD_RF hz
                refine lv_iinc (v := (nI i) + nI 1) (lv' := [(5, .int ((nI i) + nI 1)), (4, .int (((cPass k (r, f)).2) 4)), (3, .int (nI k)), (2, .int (f 4)), (0, .ref (z 0)), (1, .int x1)]) hx hb dX6_pass_86 hl (k := 0) rfl (congrArg (fun q : Int32 => (nI i) + q) (by decide +kernel)) (by decide) rfl (fun ls hl => ?_)
                refine lv_goto (tgt := 74) hx hb dX6_pass_89 (by decide) ?_
                have hPn : va_P G.1 vwCl (wRF G z ((itN (i + 1) cStep (cBeg (cPass k (r, f)))).1) ((itN (i + 1) cStep (cBeg (cPass k (r, f)))).2)) H := by
                  exact hP
                exact ih74 _ _ _ (by omega) ⟨hPn, hS, trivial⟩ (lv_cv (show lv_has ls 6 [(5, .int ((nI i) + nI 1)), (4, .int (((cPass k (r, f)).2) 4)), (3, .int (nI k)), (2, .int (f 4)), (0, .ref (z 0)), (1, .int x1)] from lv_sub hl [0, 1, 2, 3, 4, 5] rfl) (gl_i (show (nI i) + nI 1 = nI (i + 1) by first | with_reducible rfl | with_reducible exact nI_add _ _ | (simp only [itN_s i, eq_false c_1, eq_true c_2, eq_true c_3, eq_false c_4, eq_false c_5, ↓reduceIte, Bool.false_eq_true, decide_true, decide_false, Bool.not_true, Bool.not_false, Bool.or_true, Bool.true_or, Bool.or_false, Bool.false_or]; done) | (simp only [itN_s i, eq_false c_1, eq_true c_2, eq_true c_3, eq_false c_4, eq_false c_5, ↓reduceIte, Bool.false_eq_true, decide_true, decide_false, Bool.not_true, Bool.not_false, Bool.or_true, Bool.true_or, Bool.or_false, Bool.false_or]; with_reducible rfl) | (simp only [itN_s i, eq_false c_1, eq_true c_2, eq_true c_3, eq_false c_4, eq_false c_5, ↓reduceIte, Bool.false_eq_true, decide_true, decide_false, Bool.not_true, Bool.not_false, Bool.or_true, Bool.true_or, Bool.or_false, Bool.false_or]; rfl) | (simp [b2i, itN_s i, eq_false c_1, eq_true c_2, eq_true c_3, eq_false c_4, eq_false c_5]; done) | rfl) (gl_s (gl_s (gl_s (gl_s (gl_s rfl)))))))
            · exact (show lv_has ls 6 [(5, .int (nI 0)), (4, .int (((cPass k (r, f)).2) 4)), (3, .int (nI k)), (2, .int (f 4)), (0, .ref (z 0)), (1, .int x1)] from lv_sub hl [0, 1, 2, 3, 4, 5] rfl)
        · exact (show lv_has ls 6 [(3, .int (nI 0)), (2, .int (f 4)), (0, .ref (z 0)), (1, .int x1)] from lv_sub hl [0, 1, 2, 3] rfl)
      · have hkv : (kPass f x1) = 3 := by
          first | with_reducible rfl | (simp only [kPass, eq_false c_1, eq_true c_2, eq_false c_3, kT, eq_self, ↓reduceIte, Bool.false_eq_true]; done) | (simp only [kPass, eq_false c_1, eq_true c_2, eq_false c_3, kT, eq_self, ↓reduceIte, Bool.false_eq_true]; rfl) | (simp [kT, kPass, eq_false c_1, eq_true c_2, eq_false c_3]; done)
        exact g_throwS (K := (kPass f x1)) (text := "the time would be above 560") hx hb hfl hown hX (by decide) (hts (.classLink RX6 51 xISE) (by decide +kernel)) (hts (.initialized xISE) (by decide +kernel)) (fun w hw => hts w (hg55 w hw)) hng55 hgo55 (List.mem_of_getElem? (i := 18) rfl) (by decide) hS (hl.1.trans hml.symm) (by rw [hkv]; decide) (by rw [hkv]; rfl) dX6_pass_33 dX6_pass_36 dX6_pass_37 dX6_pass_39 dX6_pass_42 hexc hlocks ⟨Nat.le_of_ble_eq_true rfl, Nat.le_of_ble_eq_true rfl, Nat.le_of_ble_eq_true rfl, Nat.le_of_ble_eq_true rfl⟩ ⟨Nat.le_of_ble_eq_true rfl, Nat.le_of_ble_eq_true rfl⟩
    · have hkv : (kPass f x1) = 2 := by
        first | with_reducible rfl | (simp only [kPass, eq_false c_1, eq_false c_2, kT, eq_self, ↓reduceIte, Bool.false_eq_true]; done) | (simp only [kPass, eq_false c_1, eq_false c_2, kT, eq_self, ↓reduceIte, Bool.false_eq_true]; rfl) | (simp [kT, kPass, eq_false c_1, eq_false c_2]; done)
      exact g_throwS (K := (kPass f x1)) (text := "1 to 28 halves pass") hx hb hfl hown hX (by decide) (hts (.classLink RX6 75 xIAE) (by decide +kernel)) (hts (.initialized xIAE) (by decide +kernel)) (fun w hw => hts w (hg79 w hw)) hng79 hgo79 (List.mem_of_getElem? (i := 17) rfl) (by decide) hS (hl.1.trans hml.symm) (by rw [hkv]; decide) (by rw [hkv]; rfl) dX6_pass_11 dX6_pass_14 dX6_pass_15 dX6_pass_17 dX6_pass_20 hexc hlocks ⟨Nat.le_of_ble_eq_true rfl, Nat.le_of_ble_eq_true rfl, Nat.le_of_ble_eq_true rfl, Nat.le_of_ble_eq_true rfl⟩ ⟨Nat.le_of_ble_eq_true rfl, Nat.le_of_ble_eq_true rfl⟩
