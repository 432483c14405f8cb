set_option maxHeartbeats 4000000 in
set_option maxRecDepth 100000 in
theorem c_X7_half (l : Launch) (G : gG) (H0 : Heap) (z : Nat → Nat) (hz : gDis z 20) (r : Nat → Nat → Int32) (f : Nat → Int32) (hP : va_P G.1 vwCl (wRM G z r f) H0) (n d k t : Nat) (hM : mOK r f n d k t) (ht9 : t < 560) : gMwv l yX7_half wsX7_half 6 147 G H0 [.ref (z 0)] (wRM G z ((mHalf n d (r, f)).1) ((mHalf n d (r, f)).2)) (gF z 20) := by
  refine Met.ofW (cc := cX7_half) (maxL := 6) (ret := none) (by decide) rfl ?_
  intro p_ e_ s m args below meth c s₁ B hml hv
  obtain ⟨rfl, rfl, hK⟩ := hv
  have hx := B.exec
  have hb := B.bytes
  have hr := B.returns
  have hts := atoms_spec (ws := wsX7_half) B.pre
  have hown : s.vm.findClass RX7 = some m.cls := findClass_of_methodNamed B.named
  have hlocks := B.notSynchronized
  have hinX7 : ∀ w ∈ wsX70, w ∈ wsX7_half := by decide +kernel
  have S0 : CallFix p_ m c cX7_half 6 s _ wsX7_half RX7 := ⟨hx, hb, hml, hown, hts⟩
  have hD : va_D (gF z 20) (wRM G z r f) := gD_RM hz
  have hS : va_S (gF z 20) s.heap s.heap [] := va_S.rf
  have hl := lv_entry ([.ref (z 0)]) (n := 6) (Nat.le_of_ble_eq_true rfl)
  rw [lg_entry_eq]
  generalize (lg_sl ([.ref (z 0)]) ++ List.replicate (6 - (lg_sl ([.ref (z 0)])).length) Slot.unset).toArray = ls at hl ⊢
  have hl : lv_has ls 6 [(0, .ref (z 0))] := hl
  obtain ⟨hn, hn2, hd, hd2, hk, hk2, ht, ht2, hh, hm⟩ := id hM
  have hT : cTime f = t := by show (f 1).toNatClampNeg = t; rw [ht, nI_clamp (by omega)]
  have hB := mB0_ok (q := (r, f)) hM ht9
  have hBg := (mG_k hB).1
  have hBk := (mG_k hB).2
  have hK0 : kOf f = k := by show (f 6).toNatClampNeg = k; rw [hk, nI_clamp (by omega)]
  refine g_joinW (fun H locs g => W p_ l e_ _ s m _ below meth c H locs _ _ _ g) m 31 6 [(0, .ref (z 0))] [] (fun H locs => va_P G.1 vwCl (wRM G z ((mB0 (r, f)).1) ((mB0 (r, f)).2)) H ∧ va_S (gF z 20) s.heap H locs ∧ True) (fun H locs hI ls hl => ?_) (fun hJ31 => ?_)
  · obtain ⟨hP, hS, -⟩ := hI
    have hD : va_D (gF z 20) (wRM G z ((mB0 (r, f)).1) ((mB0 (r, f)).2)) := gD_RM hz
    refine lv_aload_n hx hb dX7_half_31 rfl (lv_at hl 0 rfl) ?_
    refine va_get (D := G.1) (ci := 7) (v := .int (((mB0 (r, f)).2) 6)) (C := RX7) (T := TX7) (N := 26) hx hb hts hinX7 hown hK.1 hP 0 rfl rfl 20 (by decide) (hts (.fieldLink RX7 82 "RotaforgeModel" "incidentMany" "I") (by decide +kernel)) (fun _ h9 => h9) rfl dX7_half_32 ?_
    refine lv_istore_n (lv' := [(1, .int (((mB0 (r, f)).2) 6)), (0, .ref (z 0))]) hx hb dX7_half_35 rfl hl (by decide) rfl (fun ls hl => ?_)
    refine lv_iconst (v := nI 0) hx hb dX7_half_36 (by decide +kernel) ?_
    refine lv_istore_n (lv' := [(2, .int (nI 0)), (1, .int (((mB0 (r, f)).2) 6)), (0, .ref (z 0))]) hx hb dX7_half_37 rfl hl (by decide) rfl (fun ls hl => ?_)
    refine lv_iconst (v := nI 0) hx hb dX7_half_38 (by decide +kernel) ?_
    refine lv_istore_n (lv' := [(3, .int (nI 0)), (2, .int (nI 0)), (1, .int (((mB0 (r, f)).2) 6)), (0, .ref (z 0))]) hx hb dX7_half_39 rfl hl (by decide) rfl (fun ls hl => ?_)
    refine g_loopW (fun H locs g => W p_ l e_ _ s m _ below meth c H locs _ _ _ g) m 40 6 [] (4) (fun i => [(3, .int (nI i)), (2, .int (b2i ((mZ n d (r, f) i).2))), (1, .int (((mB0 (r, f)).2) 6)), (0, .ref (z 0))]) (fun i H locs => va_P G.1 vwCl (wRM G z ((mZ n d (r, f) i).1.1) ((mZ n d (r, f) i).1.2)) H ∧ va_S (gF z 20) s.heap H locs ∧ True) (fun i H locs hi40 hI ih40 ls hl => ?_) 0 _ _ (Nat.zero_le _) ⟨hP, hS, trivial⟩ ls ?_
    · obtain ⟨hP, hS, hI⟩ := hI
      have hP : va_P G.1 vwCl (wRM G z ((mZ n d (r, f) i).1.1) ((mZ n d (r, f) i).1.2)) H := hP
      have hD : va_D (gF z 20) (wRM G z ((mZ n d (r, f) i).1.1) ((mZ n d (r, f) i).1.2)) := gD_RM hz
      have hl : lv_has ls 6 [(3, .int (nI i)), (2, .int (b2i ((mZ n d (r, f) i).2))), (1, .int (((mB0 (r, f)).2) 6)), (0, .ref (z 0))] := hl
      have hI : True := hI
      obtain ⟨hZg, hZk⟩ := mZ_ok (n := n) (d := d) (q := (r, f)) hBg i
      refine lv_iload_n hx hb dX7_half_40 rfl (lv_at hl 0 rfl) ?_
      refine lv_iconst (v := nI 4) hx hb dX7_half_41 (by decide +kernel) ?_
      refine lv_icmp_ge (tgt := 133) hx hb dX7_half_42 (by decide) (fun c_1 => ?_) (fun c_1 => ?_)
      · have hex : 4 = i := by
          have h9 := (nI_leI (a := 4) (b := i) (by decide) (by omega)).mp c_1
          omega
        subst hex
        refine lv_iload_n hx hb dX7_half_133 rfl (lv_at hl 1 rfl) ?_
        refine lv_if_eq (tgt := 142) hx hb dX7_half_134 (by decide) (fun c_2 => ?_) (fun c_2 => ?_)
        · have c_2 := b2i_f c_2
          have hPf : va_P G.1 vwCl (wRM G z ((mHalf n d (r, f)).1) ((mHalf n d (r, f)).2)) H := by
            exact g_castM (q := mHalf n d (r, f)) (by unfold mHalf; rw [show cTime ((r, f) : gRF).2 = t from hT, show kOf ((r, f) : gRF).2 = k from hK0]; simp only [eq_true c_1, c_2, ↓reduceIte, Bool.false_eq_true]) hP
          exact W.vret hx hb hr (fun t ht _ => ⟨⟨(), rfl, trivial, g_hp ht hPf⟩, hS.F ht⟩) hS.2.2 dX7_half_142
        · have c_2 := b2i_t c_2
          obtain ⟨h, hw1, hw2⟩ := hZg.2.2.2.2.2.2.2.2.1 ((t + 1) / 14) (by omega)
          have hh7 : (mZ n d (r, f) 4).1.1 9 ((t + 1) / 14) = nI ((mZ n d (r, f) 4).1.1 9 ((t + 1) / 14)).toNatClampNeg := (n_tn hw2 (by omega)).1
          have hh6 : ((mZ n d (r, f) 4).1.1 9 ((t + 1) / 14)).toNatClampNeg < 6 := by rw [(n_tn hw2 (by omega)).2]; exact hw1
          refine lv_aload_n hx hb dX7_half_137 rfl (lv_at hl 3 rfl) ?_
          refine lv_iload_n hx hb dX7_half_138 rfl (lv_at hl 2 rfl) ?_
          refine g_callwv (va_runV (C := RX7) (As := [.int (((mB0 (r, f)).2) 6)]) (rest := []) S0 (c_X7_rings l G _ z hz ((mZ n d (r, f) 4).1.1) ((mZ n d (r, f) 4).1.2) hP (((mB0 (r, f)).2) 6) n d (kOf (mZ n d (r, f) 4).1.2) (t + 1) ((mZ n d (r, f) 4).1.1 9 ((t + 1) / 14)).toNatClampNeg k (kOf (mZ n d (r, f) 4).1.2 - k) hZg hh7 hh6 hB.2.2.2.2.1 (by have h9 : kOf (mB0 (r, f)).2 = k := hBk; omega)) (cwV 1 hts gX7_half_X7_rings rfl rfl rfl (by decide +kernel) ⟨Nat.le_of_ble_eq_true rfl, Nat.le_of_ble_eq_true rfl⟩) (g_preV hK hP (q0 := 0) (ci := 7) (q := (RX7, TX7, 26)) rfl rfl) rfl rfl hl.1 rfl (lv_room (Nat.le_of_ble_eq_true rfl)) dX7_half_139 ⟨Nat.zero_le _, Nat.zero_le _⟩) hS (fun _ h => h) (fun _ h => h) (fun H locs hP _ hS => ?_)
          have hP : va_P G.1 vwCl (wRM G z (mRgR ((mZ n d (r, f) 4).1.1) ((mZ n d (r, f) 4).1.2) (t + 1) (((mZ n d (r, f) 4).1.1 9 ((t + 1) / 14)).toNatClampNeg) k (kOf (mZ n d (r, f) 4).1.2 - k)) (mRgF ((mZ n d (r, f) 4).1.1) ((mZ n d (r, f) 4).1.2) (t + 1) (((mZ n d (r, f) 4).1.1 9 ((t + 1) / 14)).toNatClampNeg))) H := hP
          have hD : va_D (gF z 20) (wRM G z (mRgR ((mZ n d (r, f) 4).1.1) ((mZ n d (r, f) 4).1.2) (t + 1) (((mZ n d (r, f) 4).1.1 9 ((t + 1) / 14)).toNatClampNeg) k (kOf (mZ n d (r, f) 4).1.2 - k)) (mRgF ((mZ n d (r, f) 4).1.1) ((mZ n d (r, f) 4).1.2) (t + 1) (((mZ n d (r, f) 4).1.1 9 ((t + 1) / 14)).toNatClampNeg))) := gD_RM hz
          have hPf : va_P G.1 vwCl (wRM G z ((mHalf n d (r, f)).1) ((mHalf n d (r, f)).2)) H := by
            exact g_castM (q := mHalf n d (r, f)) (by unfold mHalf; rw [show cTime ((r, f) : gRF).2 = t from hT, show kOf ((r, f) : gRF).2 = k from hK0]; simp only [eq_true c_1, c_2, ↓reduceIte, Bool.false_eq_true]) hP
          exact W.vret hx hb hr (fun t ht _ => ⟨⟨(), rfl, trivial, g_hp ht hPf⟩, hS.F ht⟩) hS.2.2 dX7_half_142
      · have hlt : i < 4 := by
          have h9 := mt (nI_leI (a := 4) (b := i) (by decide) (by omega)).mpr c_1
          omega
        refine g_joinW (fun H locs g => W p_ l e_ _ s m _ below meth c H locs _ _ _ g) m 108 6 [(3, .int (nI i)), (2, .int (b2i ((mZ n d (r, f) i).2))), (1, .int (((mB0 (r, f)).2) 6)), (0, .ref (z 0))] [] (fun H locs => va_P G.1 vwCl (wRM G z ((mSt n d i (mZ n d (r, f) i).1).1) ((mSt n d i (mZ n d (r, f) i).1).2)) H ∧ va_S (gF z 20) s.heap H locs ∧ True) (fun H locs hI ls hl => ?_) (fun hJ108 => ?_)
        · obtain ⟨hP, hS, -⟩ := hI
          have hD : va_D (gF z 20) (wRM G z ((mSt n d i (mZ n d (r, f) i).1).1) ((mSt n d i (mZ n d (r, f) i).1).2)) := gD_RM hz
          obtain ⟨hSg, hSk⟩ := mSt_ok (i := i) hZg
          refine lv_iload_n hx hb dX7_half_108 rfl (lv_at hl 1 rfl) ?_
          refine lv_if_ne (tgt := 121) hx hb dX7_half_109 (by decide) (fun c_3 => ?_) (fun c_3 => ?_)
          · have c_3 := b2i_t c_3
            refine lv_iconst (v := nI 1) hx hb dX7_half_121 (by decide +kernel) ?_
            refine lv_goto (tgt := 126) hx hb dX7_half_122 (by decide) ?_
            refine lv_istore_n (lv' := [(2, .int (nI 1)), (3, .int (nI i)), (1, .int (((mB0 (r, f)).2) 6)), (0, .ref (z 0))]) hx hb dX7_half_126 rfl hl (by decide) rfl (fun ls hl => ?_)
            refine lv_iinc (v := (nI i) + nI 1) (lv' := [(3, .int ((nI i) + nI 1)), (2, .int (nI 1)), (1, .int (((mB0 (r, f)).2) 6)), (0, .ref (z 0))]) hx hb dX7_half_127 hl (k := 1) rfl (congrArg (fun q : Int32 => (nI i) + q) (by decide +kernel)) (by decide) rfl (fun ls hl => ?_)
            refine lv_goto (tgt := 40) hx hb dX7_half_130 (by decide) ?_
            have hPn : va_P G.1 vwCl (wRM G z ((mZ n d (r, f) (i + 1)).1.1) ((mZ n d (r, f) (i + 1)).1.2)) H := by
              rw [mZ_s]
              exact hP
            exact ih40 _ _ _ (by omega) ⟨hPn, hS, trivial⟩ (lv_cv (show lv_has ls 6 [(3, .int ((nI i) + nI 1)), (2, .int (nI 1)), (1, .int (((mB0 (r, f)).2) 6)), (0, .ref (z 0))] from lv_sub hl [0, 1, 2, 3] rfl) (gl_i (show (nI i) + nI 1 = nI (i + 1) by first | with_reducible rfl | with_reducible exact nI_add _ _ | (simp only [itN_s i, mZ_s, mSA, eq_false c_1, c_3, ↓reduceIte, Bool.false_eq_true, decide_true, decide_false, Bool.not_true, Bool.not_false, Bool.or_true, Bool.true_or, Bool.or_false, Bool.false_or]; done) | (simp only [itN_s i, mZ_s, mSA, eq_false c_1, c_3, ↓reduceIte, Bool.false_eq_true, decide_true, decide_false, Bool.not_true, Bool.not_false, Bool.or_true, Bool.true_or, Bool.or_false, Bool.false_or]; with_reducible rfl) | (simp only [itN_s i, mZ_s, mSA, eq_false c_1, c_3, ↓reduceIte, Bool.false_eq_true, decide_true, decide_false, Bool.not_true, Bool.not_false, Bool.or_true, Bool.true_or, Bool.or_false, Bool.false_or]; rfl) | (simp [b2i, itN_s i, mZ_s, mSA, eq_false c_1, c_3]; done) | rfl) (gl_i (show nI 1 = b2i ((mZ n d (r, f) (i + 1)).2) by rw [mZ_s]; simp only [mSA, eq_false c_1, c_3, ↓reduceIte, Bool.false_eq_true]; rfl) (gl_s (gl_s rfl)))))
          · have c_3 := b2i_f c_3
            refine lv_aload_n hx hb dX7_half_112 rfl (lv_at hl 3 rfl) ?_
            refine lv_iload_n hx hb dX7_half_113 rfl (lv_at hl 0 rfl) ?_
            refine g_callC (W.runV (C := RX7) (As := [.int (nI i)]) (rest := []) S0 (c_X7_open l G _ z ((mSt n d i (mZ n d (r, f) i).1).1) ((mSt n d i (mZ n d (r, f) i).1).2) hP (nI i) n d (kOf (mSt n d i (mZ n d (r, f) i).1).2) (t + 1) hSg) (cwV 1 hts gX7_half_X7_open rfl rfl rfl (by decide +kernel) ⟨Nat.le_of_ble_eq_true rfl, Nat.le_of_ble_eq_true rfl⟩) (g_preV hK hP (q0 := 0) (ci := 7) (q := (RX7, TX7, 26)) rfl rfl) rfl rfl hl.1 rfl (lv_room (Nat.le_of_ble_eq_true rfl)) dX7_half_114 ⟨Nat.zero_le _, Nat.zero_le _⟩) ?_
            refine lv_iconst (v := (-1)) hx hb dX7_half_117 (by decide +kernel) ?_
            refine lv_icmp_eq (tgt := 125) hx hb dX7_half_118 (by decide) (fun c_4 => ?_) (fun c_4 => ?_)
            · refine lv_iconst (v := nI 0) hx hb dX7_half_125 (by decide +kernel) ?_
              refine lv_istore_n (lv' := [(2, .int (nI 0)), (3, .int (nI i)), (1, .int (((mB0 (r, f)).2) 6)), (0, .ref (z 0))]) hx hb dX7_half_126 rfl hl (by decide) rfl (fun ls hl => ?_)
              refine lv_iinc (v := (nI i) + nI 1) (lv' := [(3, .int ((nI i) + nI 1)), (2, .int (nI 0)), (1, .int (((mB0 (r, f)).2) 6)), (0, .ref (z 0))]) hx hb dX7_half_127 hl (k := 1) rfl (congrArg (fun q : Int32 => (nI i) + q) (by decide +kernel)) (by decide) rfl (fun ls hl => ?_)
              refine lv_goto (tgt := 40) hx hb dX7_half_130 (by decide) ?_
              have hPn : va_P G.1 vwCl (wRM G z ((mZ n d (r, f) (i + 1)).1.1) ((mZ n d (r, f) (i + 1)).1.2)) H := by
                rw [mZ_s]
                exact hP
              exact ih40 _ _ _ (by omega) ⟨hPn, hS, trivial⟩ (lv_cv (show lv_has ls 6 [(3, .int ((nI i) + nI 1)), (2, .int (nI 0)), (1, .int (((mB0 (r, f)).2) 6)), (0, .ref (z 0))] from lv_sub hl [0, 1, 2, 3] rfl) (gl_i (show (nI i) + nI 1 = nI (i + 1) by first | with_reducible rfl | with_reducible exact nI_add _ _ | (simp only [itN_s i, mZ_s, mSA, eq_false c_1, c_3, eq_true c_4, ↓reduceIte, Bool.false_eq_true, decide_true, decide_false, Bool.not_true, Bool.not_false, Bool.or_true, Bool.true_or, Bool.or_false, Bool.false_or]; done) | (simp only [itN_s i, mZ_s, mSA, eq_false c_1, c_3, eq_true c_4, ↓reduceIte, Bool.false_eq_true, decide_true, decide_false, Bool.not_true, Bool.not_false, Bool.or_true, Bool.true_or, Bool.or_false, Bool.false_or]; with_reducible rfl) | (simp only [itN_s i, mZ_s, mSA, eq_false c_1, c_3, eq_true c_4, ↓reduceIte, Bool.false_eq_true, decide_true, decide_false, Bool.not_true, Bool.not_false, Bool.or_true, Bool.true_or, Bool.or_false, Bool.false_or]; rfl) | (simp [b2i, itN_s i, mZ_s, mSA, eq_false c_1, c_3, eq_true c_4]; done) | rfl) (gl_i (show nI 0 = b2i ((mZ n d (r, f) (i + 1)).2) by rw [mZ_s]; simp only [mSA, eq_false c_1, c_3, eq_true c_4, ↓reduceIte, Bool.false_eq_true]; rfl) (gl_s (gl_s rfl)))))
            · refine lv_iconst (v := nI 1) hx hb dX7_half_121 (by decide +kernel) ?_
              refine lv_goto (tgt := 126) hx hb dX7_half_122 (by decide) ?_
              refine lv_istore_n (lv' := [(2, .int (nI 1)), (3, .int (nI i)), (1, .int (((mB0 (r, f)).2) 6)), (0, .ref (z 0))]) hx hb dX7_half_126 rfl hl (by decide) rfl (fun ls hl => ?_)
              refine lv_iinc (v := (nI i) + nI 1) (lv' := [(3, .int ((nI i) + nI 1)), (2, .int (nI 1)), (1, .int (((mB0 (r, f)).2) 6)), (0, .ref (z 0))]) hx hb dX7_half_127 hl (k := 1) rfl (congrArg (fun q : Int32 => (nI i) + q) (by decide +kernel)) (by decide) rfl (fun ls hl => ?_)
              refine lv_goto (tgt := 40) hx hb dX7_half_130 (by decide) ?_
              have hPn : va_P G.1 vwCl (wRM G z ((mZ n d (r, f) (i + 1)).1.1) ((mZ n d (r, f) (i + 1)).1.2)) H := by
                rw [mZ_s]
                exact hP
              exact ih40 _ _ _ (by omega) ⟨hPn, hS, trivial⟩ (lv_cv (show lv_has ls 6 [(3, .int ((nI i) + nI 1)), (2, .int (nI 1)), (1, .int (((mB0 (r, f)).2) 6)), (0, .ref (z 0))] from lv_sub hl [0, 1, 2, 3] rfl) (gl_i (show (nI i) + nI 1 = nI (i + 1) by first | with_reducible rfl | with_reducible exact nI_add _ _ | (simp only [itN_s i, mZ_s, mSA, eq_false c_1, c_3, eq_false c_4, ↓reduceIte, Bool.false_eq_true, decide_true, decide_false, Bool.not_true, Bool.not_false, Bool.or_true, Bool.true_or, Bool.or_false, Bool.false_or]; done) | (simp only [itN_s i, mZ_s, mSA, eq_false c_1, c_3, eq_false c_4, ↓reduceIte, Bool.false_eq_true, decide_true, decide_false, Bool.not_true, Bool.not_false, Bool.or_true, Bool.true_or, Bool.or_false, Bool.false_or]; with_reducible rfl) | (simp only [itN_s i, mZ_s, mSA, eq_false c_1, c_3, eq_false c_4, ↓reduceIte, Bool.false_eq_true, decide_true, decide_false, Bool.not_true, Bool.not_false, Bool.or_true, Bool.true_or, Bool.or_false, Bool.false_or]; rfl) | (simp [b2i, itN_s i, mZ_s, mSA, eq_false c_1, c_3, eq_false c_4]; done) | rfl) (gl_i (show nI 1 = b2i ((mZ n d (r, f) (i + 1)).2) by rw [mZ_s]; simp only [mSA, eq_false c_1, c_3, eq_false c_4, ↓reduceIte, Bool.false_eq_true]; rfl) (gl_s (gl_s rfl)))))
        · refine lv_aload_n hx hb dX7_half_45 rfl (lv_at hl 3 rfl) ?_
          refine lv_iload_n hx hb dX7_half_46 rfl (lv_at hl 0 rfl) ?_
          refine g_callC (W.runV (C := RX7) (As := [.int (nI i)]) (rest := []) S0 (c_X7_open l G _ z ((mZ n d (r, f) i).1.1) ((mZ n d (r, f) i).1.2) hP (nI i) n d (kOf (mZ n d (r, f) i).1.2) (t + 1) hZg) (cwV 1 hts gX7_half_X7_open rfl rfl rfl (by decide +kernel) ⟨Nat.le_of_ble_eq_true rfl, Nat.le_of_ble_eq_true rfl⟩) (g_preV hK hP (q0 := 0) (ci := 7) (q := (RX7, TX7, 26)) rfl rfl) rfl rfl hl.1 rfl (lv_room (Nat.le_of_ble_eq_true rfl)) dX7_half_47 ⟨Nat.zero_le _, Nat.zero_le _⟩) ?_
          refine lv_istore (lv' := [(4, .int (mOpen ((mZ n d (r, f) i).1.1) (kOf (mZ n d (r, f) i).1.2) (nI i))), (3, .int (nI i)), (2, .int (b2i ((mZ n d (r, f) i).2))), (1, .int (((mB0 (r, f)).2) 6)), (0, .ref (z 0))]) hx hb dX7_half_50 hl (by decide) rfl (fun ls hl => ?_)
          refine lv_aload_n hx hb dX7_half_52 rfl (lv_at hl 4 rfl) ?_
          refine lv_iload_n hx hb dX7_half_53 rfl (lv_at hl 1 rfl) ?_
          refine lv_iconst (v := (-1)) hx hb dX7_half_54 (by decide +kernel) ?_
          refine g_callC (W.runV (C := RX7) (As := [.int (nI i), .int (-1)]) (rest := []) S0 (c_X7_isBad l G _ z ((mZ n d (r, f) i).1.1) ((mZ n d (r, f) i).1.2) hP (nI i) (-1) n d (kOf (mZ n d (r, f) i).1.2) (t + 1) hZg) (cwV 2 hts gX7_half_X7_isBad rfl rfl rfl (by decide +kernel) ⟨Nat.le_of_ble_eq_true rfl, Nat.le_of_ble_eq_true rfl⟩) (g_preV hK hP (q0 := 0) (ci := 7) (q := (RX7, TX7, 26)) rfl rfl) rfl rfl hl.1 rfl (lv_room (Nat.le_of_ble_eq_true rfl)) dX7_half_55 ⟨Nat.zero_le _, Nat.zero_le _⟩) ?_
          refine lv_istore (lv' := [(5, .int (b2i (mBad ((mZ n d (r, f) i).1.1) n d (nI i) (-1)))), (4, .int (mOpen ((mZ n d (r, f) i).1.1) (kOf (mZ n d (r, f) i).1.2) (nI i))), (3, .int (nI i)), (2, .int (b2i ((mZ n d (r, f) i).2))), (1, .int (((mB0 (r, f)).2) 6)), (0, .ref (z 0))]) hx hb dX7_half_58 hl (by decide) rfl (fun ls hl => ?_)
          refine lv_iload hx hb dX7_half_60 (lv_at hl 1 rfl) ?_
          refine lv_iconst (v := (-1)) hx hb dX7_half_62 (by decide +kernel) ?_
          refine lv_icmp_eq (tgt := 82) hx hb dX7_half_63 (by decide) (fun c_5 => ?_) (fun c_5 => ?_)
          · refine lv_iload hx hb dX7_half_82 (lv_at hl 1 rfl) ?_
            refine lv_iconst (v := (-1)) hx hb dX7_half_84 (by decide +kernel) ?_
            refine lv_icmp_ne (tgt := 108) hx hb dX7_half_85 (by decide) (fun c_6 => ?_) (fun c_6 => ?_)
            · exact absurd c_5 c_6
            · refine lv_iload hx hb dX7_half_88 (lv_at hl 0 rfl) ?_
              refine lv_if_eq (tgt := 108) hx hb dX7_half_90 (by decide) (fun c_7 => ?_) (fun c_7 => ?_)
              · have c_7 := b2i_f c_7
                have hPn : va_P G.1 vwCl (wRM G z ((mSt n d i (mZ n d (r, f) i).1).1) ((mSt n d i (mZ n d (r, f) i).1).2)) H := by
                  exact g_castM (q := mSt n d i (mZ n d (r, f) i).1) (by unfold mSt; simp only [mStR, mStF, eq_false c_1, eq_true c_5, eq_true c_6, c_7, ↓reduceIte, Bool.false_eq_true]) hP
                exact hJ108 _ _ ⟨hPn, hS, trivial⟩ _ (show lv_has ls 6 [(3, .int (nI i)), (2, .int (b2i ((mZ n d (r, f) i).2))), (1, .int (((mB0 (r, f)).2) 6)), (0, .ref (z 0))] from lv_sub hl [2, 3, 4, 5] rfl)
              · have c_7 := b2i_t c_7
                refine lv_aload_n hx hb dX7_half_93 rfl (lv_at hl 5 rfl) ?_
                refine va_get (D := G.1) (ci := 7) (v := .int (((mZ n d (r, f) i).1.2) 6)) (C := RX7) (T := TX7) (N := 26) hx hb hts hinX7 hown hK.1 hP 0 rfl rfl 20 (by decide) (hts (.fieldLink RX7 82 "RotaforgeModel" "incidentMany" "I") (by decide +kernel)) (fun _ h9 => h9) rfl dX7_half_94 ?_
                refine lv_sipush (v := nI 200) hx hb dX7_half_97 (by decide +kernel) ?_
                refine lv_icmp_ge (tgt := 108) hx hb dX7_half_100 (by decide) (fun c_8 => ?_) (fun c_8 => ?_)
                · have hPn : va_P G.1 vwCl (wRM G z ((mSt n d i (mZ n d (r, f) i).1).1) ((mSt n d i (mZ n d (r, f) i).1).2)) H := by
                    exact g_castM (q := mSt n d i (mZ n d (r, f) i).1) (by unfold mSt; simp only [mStR, mStF, eq_false c_1, eq_true c_5, eq_true c_6, c_7, eq_true c_8, ↓reduceIte, Bool.false_eq_true]) hP
                  exact hJ108 _ _ ⟨hPn, hS, trivial⟩ _ (show lv_has ls 6 [(3, .int (nI i)), (2, .int (b2i ((mZ n d (r, f) i).2))), (1, .int (((mB0 (r, f)).2) 6)), (0, .ref (z 0))] from lv_sub hl [2, 3, 4, 5] rfl)
                · refine lv_aload_n hx hb dX7_half_103 rfl (lv_at hl 5 rfl) ?_
                  refine lv_iload_n hx hb dX7_half_104 rfl (lv_at hl 2 rfl) ?_
                  refine g_callwv (va_runV (C := RX7) (As := [.int (nI i)]) (rest := []) S0 (c_X7_opens l G _ z hz ((mZ n d (r, f) i).1.1) ((mZ n d (r, f) i).1.2) hP (nI i) n d (kOf (mZ n d (r, f) i).1.2) (t + 1) hZg (by have h9 := mt (nI_leI (a := 200) (b := kOf (mZ n d (r, f) i).1.2) (by decide) (by have := hZg.2.2.2.2.2.1; omega)).mpr (by rw [← hZg.2.2.2.2.1]; exact c_8); omega)) (cwV 1 hts gX7_half_X7_opens rfl rfl rfl (by decide +kernel) ⟨Nat.le_of_ble_eq_true rfl, Nat.le_of_ble_eq_true rfl⟩) (g_preV hK hP (q0 := 0) (ci := 7) (q := (RX7, TX7, 26)) rfl rfl) rfl rfl hl.1 rfl (lv_room (Nat.le_of_ble_eq_true rfl)) dX7_half_105 ⟨Nat.zero_le _, Nat.zero_le _⟩) hS (fun _ h => h) (fun _ h => h) (fun H locs hP _ hS => ?_)
                  have hP : va_P G.1 vwCl (wRM G z (mOpenR ((mZ n d (r, f) i).1.1) ((mZ n d (r, f) i).1.2) n d (kOf (mZ n d (r, f) i).1.2) (nI i)) (upF ((mZ n d (r, f) i).1.2) 6 (((mZ n d (r, f) i).1.2) 6 + nI 1))) H := hP
                  have hD : va_D (gF z 20) (wRM G z (mOpenR ((mZ n d (r, f) i).1.1) ((mZ n d (r, f) i).1.2) n d (kOf (mZ n d (r, f) i).1.2) (nI i)) (upF ((mZ n d (r, f) i).1.2) 6 (((mZ n d (r, f) i).1.2) 6 + nI 1))) := gD_RM hz
                  have hPn : va_P G.1 vwCl (wRM G z ((mSt n d i (mZ n d (r, f) i).1).1) ((mSt n d i (mZ n d (r, f) i).1).2)) H := by
                    exact g_castM (q := mSt n d i (mZ n d (r, f) i).1) (by unfold mSt; simp only [mStR, mStF, eq_false c_1, eq_true c_5, eq_true c_6, c_7, eq_false c_8, ↓reduceIte, Bool.false_eq_true]) hP
                  exact hJ108 _ _ ⟨hPn, hS, trivial⟩ _ (show lv_has ls 6 [(3, .int (nI i)), (2, .int (b2i ((mZ n d (r, f) i).2))), (1, .int (((mB0 (r, f)).2) 6)), (0, .ref (z 0))] from lv_sub hl [2, 3, 4, 5] rfl)
          · refine lv_iload hx hb dX7_half_66 (lv_at hl 0 rfl) ?_
            refine lv_if_ne (tgt := 82) hx hb dX7_half_68 (by decide) (fun c_9 => ?_) (fun c_9 => ?_)
            · have c_9 := b2i_t c_9
              refine lv_iload hx hb dX7_half_82 (lv_at hl 1 rfl) ?_
              refine lv_iconst (v := (-1)) hx hb dX7_half_84 (by decide +kernel) ?_
              refine lv_icmp_ne (tgt := 108) hx hb dX7_half_85 (by decide) (fun c_10 => ?_) (fun c_10 => ?_)
              · have hPn : va_P G.1 vwCl (wRM G z ((mSt n d i (mZ n d (r, f) i).1).1) ((mSt n d i (mZ n d (r, f) i).1).2)) H := by
                  exact g_castM (q := mSt n d i (mZ n d (r, f) i).1) (by unfold mSt; simp only [mStR, mStF, eq_false c_1, eq_false c_5, c_9, eq_false c_10, ↓reduceIte, Bool.false_eq_true]) hP
                exact hJ108 _ _ ⟨hPn, hS, trivial⟩ _ (show lv_has ls 6 [(3, .int (nI i)), (2, .int (b2i ((mZ n d (r, f) i).2))), (1, .int (((mB0 (r, f)).2) 6)), (0, .ref (z 0))] from lv_sub hl [2, 3, 4, 5] rfl)
              · exact absurd c_10 c_5
            · have c_9 := b2i_f c_9
              refine lv_aload_n hx hb dX7_half_71 rfl (lv_at hl 5 rfl) ?_
              refine va_get (D := G.1) (ci := 7) (v := .ref (z 17)) (C := RX7) (T := TX7) (N := 26) hx hb hts hinX7 hown hK.1 hP 0 rfl rfl 23 (by decide) (hts (.fieldLink RX7 63 "RotaforgeModel" "closeds" "[I") (by decide +kernel)) (fun _ h9 => h9) rfl dX7_half_72 ?_
              refine lv_iload hx hb dX7_half_75 (lv_at hl 1 rfl) ?_
              refine lv_aload_n hx hb dX7_half_77 rfl (lv_at hl 5 rfl) ?_
              refine va_get (D := G.1) (ci := 7) (v := .int (((mZ n d (r, f) i).1.2) 1)) (C := RX7) (T := TX7) (N := 26) hx hb hts hinX7 hown hK.1 hP 0 rfl rfl 1 (by decide) (hts (.fieldLink RX7 120 "RotaforgeModel" "time" "I") (by decide +kernel)) (fun _ h9 => h9) rfl dX7_half_78 ?_
              refine g_iast hx hb hK.1 hP hD hS 17 0 rfl rfl ((mOpen (mZ n d (r, f) i).1.1 (kOf (mZ n d (r, f) i).1.2) (nI i)).toNatClampNeg) ((mOpen_in hZg.2.2.2.2.2.1 c_5).1) (Nat.lt_of_lt_of_le (mOpen_in hZg.2.2.2.2.2.1 c_5).2 hZg.2.2.2.2.2.1) (by decide) dX7_half_81 (fun H locs hP hD hS => ?_)
              have hP : va_P G.1 vwCl (wRM G z (upR ((mZ n d (r, f) i).1.1) 16 (upd (((mZ n d (r, f) i).1.1) 16) ((mOpen (mZ n d (r, f) i).1.1 (kOf (mZ n d (r, f) i).1.2) (nI i)).toNatClampNeg) (((mZ n d (r, f) i).1.2) 1))) ((mZ n d (r, f) i).1.2)) H := gMr_16 hP
              have hD : va_D (gF z 20) (wRM G z (upR ((mZ n d (r, f) i).1.1) 16 (upd (((mZ n d (r, f) i).1.1) 16) ((mOpen (mZ n d (r, f) i).1.1 (kOf (mZ n d (r, f) i).1.2) (nI i)).toNatClampNeg) (((mZ n d (r, f) i).1.2) 1))) ((mZ n d (r, f) i).1.2)) := gD_RM hz
              refine lv_iload hx hb dX7_half_82 (lv_at hl 1 rfl) ?_
              refine lv_iconst (v := (-1)) hx hb dX7_half_84 (by decide +kernel) ?_
              refine lv_icmp_ne (tgt := 108) hx hb dX7_half_85 (by decide) (fun c_11 => ?_) (fun c_11 => ?_)
              · have hPn : va_P G.1 vwCl (wRM G z ((mSt n d i (mZ n d (r, f) i).1).1) ((mSt n d i (mZ n d (r, f) i).1).2)) H := by
                  exact g_castM (q := mSt n d i (mZ n d (r, f) i).1) (by unfold mSt; simp only [mStR, mStF, eq_false c_1, eq_false c_5, c_9, eq_false c_11, ↓reduceIte, Bool.false_eq_true]) hP
                exact hJ108 _ _ ⟨hPn, hS, trivial⟩ _ (show lv_has ls 6 [(3, .int (nI i)), (2, .int (b2i ((mZ n d (r, f) i).2))), (1, .int (((mB0 (r, f)).2) 6)), (0, .ref (z 0))] from lv_sub hl [2, 3, 4, 5] rfl)
              · exact absurd c_11 c_5
    · exact (lv_cv (show lv_has ls 6 [(3, .int (nI 0)), (2, .int (nI 0)), (1, .int (((mB0 (r, f)).2) 6)), (0, .ref (z 0))] from lv_sub hl [0, 1, 2, 3] rfl) (gl_s (gl_i (show nI 0 = b2i ((mZ n d (r, f) 0).2) by first | with_reducible rfl | with_reducible exact nI_add _ _ | (simp only [true_and, ↓reduceIte, Bool.false_eq_true, decide_true, decide_false, Bool.not_true, Bool.not_false, Bool.or_true, Bool.true_or, Bool.or_false, Bool.false_or]; done) | (simp only [true_and, ↓reduceIte, Bool.false_eq_true, decide_true, decide_false, Bool.not_true, Bool.not_false, Bool.or_true, Bool.true_or, Bool.or_false, Bool.false_or]; with_reducible rfl) | (simp only [true_and, ↓reduceIte, Bool.false_eq_true, decide_true, decide_false, Bool.not_true, Bool.not_false, Bool.or_true, Bool.true_or, Bool.or_false, Bool.false_or]; rfl) | (simp [b2i, true_and]; done) | rfl) (gl_s (gl_s rfl)))))
  · refine lv_aload_n hx hb dX7_half_0 rfl (lv_at hl 0 rfl) ?_
    refine lv_dup hx hb dX7_half_1 rfl ?_
    refine va_get (D := G.1) (ci := 7) (v := .int (f 1)) (C := RX7) (T := TX7) (N := 26) hx hb hts hinX7 hown hK.1 hP 0 rfl rfl 1 (by decide) (hts (.fieldLink RX7 120 "RotaforgeModel" "time" "I") (by decide +kernel)) (fun _ h9 => h9) rfl dX7_half_2 ?_
    refine lv_iconst (v := nI 1) hx hb dX7_half_5 (by decide +kernel) ?_
    refine lv_iadd hx hb dX7_half_6 ?_
    refine va_put (D := G.1) (ci := 7) (v := .int ((f 1) + (nI 1))) (ty := .int) (C := RX7) (T := TX7) (N := 26) hx hb hts hinX7 tyX7 tyX7_ok nmX7 hown hK.1 hP hD hS 0 rfl rfl 1 (by decide) (hts (.fieldLink RX7 120 "RotaforgeModel" "time" "I") (by decide +kernel)) (fun _ h9 => h9) rfl (by decide +kernel) rfl rfl (Nat.le_of_ble_eq_true rfl) dX7_half_7 (fun H locs hP hD hS => ?_)
    have hP : va_P G.1 vwCl (wRM G z r (upF f 1 ((f 1) + (nI 1)))) H := gMs_1 hP
    have hD : va_D (gF z 20) (wRM G z r (upF f 1 ((f 1) + (nI 1)))) := gD_RM hz
    refine lv_aload_n hx hb dX7_half_10 rfl (lv_at hl 0 rfl) ?_
    refine va_get (D := G.1) (ci := 7) (v := .int ((f 1) + (nI 1))) (C := RX7) (T := TX7) (N := 26) hx hb hts hinX7 hown hK.1 hP 0 rfl rfl 1 (by decide) (hts (.fieldLink RX7 120 "RotaforgeModel" "time" "I") (by decide +kernel)) (fun _ h9 => h9) rfl dX7_half_11 ?_
    refine lv_bipush (v := nI 14) hx hb dX7_half_14 (by decide +kernel) ?_
    refine lv_irem hx hb dX7_half_16 (by decide) ?_
    refine lv_if_ne (tgt := 31) hx hb dX7_half_17 (by decide) (fun c_12 => ?_) (fun c_12 => ?_)
    · have hm9 : ¬ (t + 1) % 14 = 0 := fun h => c_12 (by rw [ht, nI_add, pk_rem (by omega) (by decide) (by decide), h]; rfl)
      have hPn : va_P G.1 vwCl (wRM G z ((mB0 (r, f)).1) ((mB0 (r, f)).2)) H := by
        exact g_castM (q := mB0 (r, f)) (by unfold mB0; rw [show cTime ((r, f) : gRF).2 = t from hT]; simp only [hm9, ↓reduceIte]; first | rfl | skip) hP
      exact hJ31 _ _ ⟨hPn, hS, trivial⟩ _ (show lv_has ls 6 [(0, .ref (z 0))] from lv_sub hl [0] rfl)
    · have hm9 : (t + 1) % 14 = 0 := by
        rw [ht, nI_add, pk_rem (by omega) (by decide) (by decide)] at c_12
        have h9 : ¬ 0 < (t + 1) % 14 := fun h => nI_ne0 h (by omega) c_12
        omega
      obtain ⟨h, hw1, hw2⟩ := hh ((t + 1) / 14) (by omega)
      have hh7 : r 9 ((t + 1) / 14) = nI (r 9 ((t + 1) / 14)).toNatClampNeg := (n_tn hw2 (by omega)).1
      have hh6 : (r 9 ((t + 1) / 14)).toNatClampNeg < 6 := by rw [(n_tn hw2 (by omega)).2]; exact hw1
      refine lv_aload_n hx hb dX7_half_20 rfl (lv_at hl 0 rfl) ?_
      refine lv_aload_n hx hb dX7_half_21 rfl (lv_at hl 0 rfl) ?_
      refine va_get (D := G.1) (ci := 7) (v := .int ((f 1) + (nI 1))) (C := RX7) (T := TX7) (N := 26) hx hb hts hinX7 hown hK.1 hP 0 rfl rfl 1 (by decide) (hts (.fieldLink RX7 120 "RotaforgeModel" "time" "I") (by decide +kernel)) (fun _ h9 => h9) rfl dX7_half_22 ?_
      refine lv_bipush (v := nI 14) hx hb dX7_half_25 (by decide +kernel) ?_
      refine lv_idiv hx hb dX7_half_27 (by decide) ?_
      refine g_callwv (va_runV (C := RX7) (As := [.int (((f 1) + (nI 1)) / (nI 14))]) (rest := []) S0 (c_X7_begins l G _ z hz r (upF f 1 ((f 1) + (nI 1))) hP (((f 1) + (nI 1)) / (nI 14)) (r 9 ((t + 1) / 14)).toNatClampNeg ((t + 1) / 14) (by rw [ht, nI_add]; exact pk_div (by omega) (by decide) (by decide)) (by omega) hh7 hh6) (cwV 1 hts gX7_half_X7_begins rfl rfl rfl (by decide +kernel) ⟨Nat.le_of_ble_eq_true rfl, Nat.le_of_ble_eq_true rfl⟩) (g_preV hK hP (q0 := 0) (ci := 7) (q := (RX7, TX7, 26)) rfl rfl) rfl rfl hl.1 rfl (lv_room (Nat.le_of_ble_eq_true rfl)) dX7_half_28 ⟨Nat.zero_le _, Nat.zero_le _⟩) hS (fun _ h => h) (fun _ h => h) (fun H locs hP _ hS => ?_)
      have hP : va_P G.1 vwCl (wRM G z (mBegR r ((r 9 ((t + 1) / 14)).toNatClampNeg) ((t + 1) / 14)) (upF f 1 ((f 1) + (nI 1)))) H := hP
      have hD : va_D (gF z 20) (wRM G z (mBegR r ((r 9 ((t + 1) / 14)).toNatClampNeg) ((t + 1) / 14)) (upF f 1 ((f 1) + (nI 1)))) := gD_RM hz
      have hPn : va_P G.1 vwCl (wRM G z ((mB0 (r, f)).1) ((mB0 (r, f)).2)) H := by
        exact g_castM (q := mB0 (r, f)) (by unfold mB0; rw [show cTime ((r, f) : gRF).2 = t from hT]; simp only [hm9, ↓reduceIte]; first | rfl | skip) hP
      exact hJ31 _ _ ⟨hPn, hS, trivial⟩ _ (show lv_has ls 6 [(0, .ref (z 0))] from lv_sub hl [0] rfl)
