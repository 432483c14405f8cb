def mOpR (r : Nat → Nat → Int32) (f : Nat → Int32) (n d k : Nat) (x : Int32) : Nat → Nat → Int32 :=
  upR (upR (upR (upR (upR r 14 (upd (r 14) k x)) 15 (upd (r 15) k (f 1))) 16 (upd (r 16) k (-1))) 17 (upd (r 17) k (mTrace r n d x))) 18 (upd (r 18) k (-1))
def mMk (r : Nat → Nat → Int32) (T : Int32) : Nat := (r 4 T.toNatClampNeg).toNatClampNeg
def mOpenR (r : Nat → Nat → Int32) (f : Nat → Int32) (n d k : Nat) (x : Int32) : Nat → Nat → Int32 :=
  if mTrace r n d x = -1 then mOpR r f n d k x else upR (mOpR r f n d k x) 10 (upd (r 10) (mMk r (mTrace r n d x)) (r 10 (mMk r (mTrace r n d x)) + nI 1))
def mFiR (r : Nat → Nat → Int32) (a b : Nat) (x : Int32) : Nat → Nat → Int32 := upR r 18 (itN b (fun j g => upd g (a + j) x) (r 18))
def mRgR (r : Nat → Nat → Int32) (f : Nat → Int32) (t h a b : Nat) : Nat → Nat → Int32 :=
  if mCalled r f t h = -1 then mFiR r a b (mCalled r f t h)
  else if f 1 - f 1 / nI 2 * nI 2 = 0 then upR (mFiR r a b (mCalled r f t h)) 12 (upd (r 12) (mCalled r f t h).toNatClampNeg (r 12 (mCalled r f t h).toNatClampNeg + nI 1))
  else upR (upR (mFiR r a b (mCalled r f t h)) 13 (upd (r 13) (mCalled r f t h).toNatClampNeg (r 13 (mCalled r f t h).toNatClampNeg + nI 1))) 11 (upd (r 11) (mCalled r f t h).toNatClampNeg (f 1))
def mRgF (r : Nat → Nat → Int32) (f : Nat → Int32) (t h : Nat) : Nat → Int32 := if mCalled r f t h = -1 then upF f 5 (f 5 + nI 1) else f
theorem mTrace_in {r : Nat → Nat → Int32} {n d : Nat} {x : Int32} (h : ¬ mTrace r n d x = -1) : ∃ j, j < n ∧ mTrace r n d x = nI j := by
  unfold mTrace at h ⊢
  split
  · rename_i h1
    rw [if_pos h1] at h
    obtain ⟨j, h2, h3, -⟩ := lastN_ex h
    exact ⟨j, h2, h3⟩
  · rename_i h1
    rw [if_neg h1] at h
    exact absurd rfl h
theorem itN_or {α : Type} {P : α → Prop} {g : Nat → α → α} {a : α} (h0 : P a) (N : Nat) (hs : ∀ i q, i < N → P q → P (g i q)) : P (itN N g a) := by
  induction N with
  | zero => exact h0
  | succ n ih => exact hs n _ (by omega) (ih (fun i q hi => hs i q (by omega)))
theorem mCalled_ok {r : Nat → Nat → Int32} {f : Nat → Int32} {t h : Nat} (hh : r 9 (t / 14) = nI h) (h6 : h < 6) : mCalled r f t h = -1 ∨ ∃ j, j < 6 ∧ mCalled r f t h = nI j := by
  unfold mCalled
  split
  · exact itN_or (P := fun q => q = -1 ∨ ∃ j, j < 6 ∧ q = nI j) (Or.inl rfl) 6 (fun i q hi hq => mCI_ok hi hq)
  · exact Or.inr ⟨h, h6, hh⟩
theorem mMk_ok {r : Nat → Nat → Int32} {n d : Nat} {x : Int32} (hm : ∀ c, c < n → ∃ m, m < 6 ∧ r 4 c = nI m) (hn : n < 2 ^ 31) (h : ¬ mTrace r n d x = -1) : r 4 (mTrace r n d x).toNatClampNeg = nI (mMk r (mTrace r n d x)) ∧ mMk r (mTrace r n d x) < 6 := by
  obtain ⟨j, h1, h2⟩ := mTrace_in h
  obtain ⟨m, h3, h4⟩ := hm j h1
  unfold mMk
  rw [h2, nI_clamp (by omega), h4, nI_clamp (by omega)]
  exact ⟨rfl, h3⟩
set_option maxHeartbeats 4000000 in
set_option maxRecDepth 100000 in
theorem c_X7_fails (l : Launch) (G : gG) (H0 : Heap) (z : Nat → Nat) (hz : gDis z 20) (r : Nat → Nat → Int32) (f : Nat → Int32) (hP : va_P G.1 vwCl (wRM G z r f) H0) (x1 : Int32) : gMw l yX7_fails wsX7_fails 0 0 G H0 [.ref (z 0), .int x1] (nI 0) (wRM G z r (upF f 0 x1)) (gF z 20) := by
  refine Met.ofW (cc := cX7_fails) (maxL := 2) (ret := (some .int)) (by decide) rfl ?_
  intro p_ e_ s m args below meth c s₁ B hml hv
  obtain ⟨rfl, rfl, hK⟩ := hv
  have hx := B.exec
  have hb := B.bytes
  have hr := B.returns
  have hts := atoms_spec (ws := wsX7_fails) B.pre
  have hown : s.vm.findClass RX7 = some m.cls := findClass_of_methodNamed B.named
  have hlocks := B.notSynchronized
  have hinX7 : ∀ w ∈ wsX70, w ∈ wsX7_fails := by decide +kernel
  have S0 : CallFix p_ m c cX7_fails 2 s _ wsX7_fails RX7 := ⟨hx, hb, hml, hown, hts⟩
  have hD : va_D (gF z 20) (wRM G z r f) := gD_RM hz
  have hS : va_S (gF z 20) s.heap s.heap [] := va_S.rf
  have hl := lv_entry ([.ref (z 0), .int x1]) (n := 2) (Nat.le_of_ble_eq_true rfl)
  rw [lg_entry_eq]
  generalize (lg_sl ([.ref (z 0), .int x1]) ++ List.replicate (2 - (lg_sl ([.ref (z 0), .int x1])).length) Slot.unset).toArray = ls at hl ⊢
  have hl : lv_has ls 2 [(0, .ref (z 0)), (1, .int x1)] := hl
  refine lv_aload_n hx hb dX7_fails_0 rfl (lv_at hl 0 rfl) ?_
  refine lv_iload_n hx hb dX7_fails_1 rfl (lv_at hl 1 rfl) ?_
  refine va_put (D := G.1) (ci := 7) (v := .int x1) (ty := .int) (C := RX7) (T := TX7) (N := 26) hx hb hts hinX7 tyX7 tyX7_ok nmX7 hown hK.1 hP hD hS 0 rfl rfl 0 (by decide) (hts (.fieldLink RX7 72 "RotaforgeModel" "thrown" "I") (by decide +kernel)) (fun _ h9 => h9) rfl (by decide +kernel) rfl rfl (Nat.le_of_ble_eq_true rfl) dX7_fails_2 (fun H locs hP hD hS => ?_)
  have hP : va_P G.1 vwCl (wRM G z r (upF f 0 x1)) H := gMs_0 hP
  have hD : va_D (gF z 20) (wRM G z r (upF f 0 x1)) := gD_RM hz
  refine lv_iconst (v := nI 0) hx hb dX7_fails_5 (by decide +kernel) ?_
  have hq : (nI 0) = (nI 0) := by
    first | with_reducible rfl | with_reducible exact nI_add _ _ | (simp only [true_and, ↓reduceIte, Bool.false_eq_true, decide_true, decide_false, Bool.not_true, Bool.not_false, Bool.or_true, Bool.true_or, Bool.or_false, Bool.false_or]; done) | (simp only [true_and, ↓reduceIte, Bool.false_eq_true, decide_true, decide_false, Bool.not_true, Bool.not_false, Bool.or_true, Bool.true_or, Bool.or_false, Bool.false_or]; with_reducible rfl) | (simp only [true_and, ↓reduceIte, Bool.false_eq_true, decide_true, decide_false, Bool.not_true, Bool.not_false, Bool.or_true, Bool.true_or, Bool.or_false, Bool.false_or]; rfl) | (simp [b2i, true_and]; done) | rfl
  have hPf : va_P G.1 vwCl (wRM G z r (upF f 0 x1)) H := by
    have e1 : r = r := by first | with_reducible rfl | (simp only [true_and, ↓reduceIte, Bool.false_eq_true]; done) | (simp only [true_and, ↓reduceIte, Bool.false_eq_true]; rfl) | rfl
    have e2 : upF f 0 x1 = upF f 0 x1 := by first | with_reducible rfl | (simp only [true_and, ↓reduceIte, Bool.false_eq_true]; done) | (simp only [true_and, ↓reduceIte, Bool.false_eq_true]; rfl) | rfl
    rw [e1, e2]; exact hP
  exact W.iret (v := nI 0) hx hb hr (fun t ht _ => ⟨⟨_, (), rfl, hq, g_hp ht hPf⟩, hS.F ht⟩) hS.2.2 dX7_fails_6

set_option maxHeartbeats 4000000 in
set_option maxRecDepth 100000 in
theorem c_X7_makes (l : Launch) (G : gG) (H0 : Heap) (z : Nat → Nat) (hz : gDis z 20) (r : Nat → Nat → Int32) (f : Nat → Int32) (hP : va_P G.1 vwCl (wRM G z r f) H0) (x1 : Int32) (x2 : Int32) (x3 : Int32) (x4 : Int32) (n d k t : Nat) (hM : mOK r f n d k t) (hn9 : n < 200) : gMw l yX7_makes wsX7_makes 0 0 G H0 [.ref (z 0), .int x1, .int x2, .int x3, .int x4] (f 4 + nI 1 - nI 1) (wRM G z (mMakeR r f n x1 x2 x3 x4) (upF f 4 (f 4 + nI 1))) (gF z 20) := by
  refine Met.ofW (cc := cX7_makes) (maxL := 5) (ret := (some .int)) (by decide) rfl ?_
  intro p_ e_ s m args below meth c s₁ B hml hv
  obtain ⟨rfl, rfl, hK⟩ := hv
  have hx := B.exec
  have hb := B.bytes
  have hr := B.returns
  have hts := atoms_spec (ws := wsX7_makes) B.pre
  have hown : s.vm.findClass RX7 = some m.cls := findClass_of_methodNamed B.named
  have hlocks := B.notSynchronized
  have hinX7 : ∀ w ∈ wsX70, w ∈ wsX7_makes := by decide +kernel
  have S0 : CallFix p_ m c cX7_makes 5 s _ wsX7_makes RX7 := ⟨hx, hb, hml, hown, hts⟩
  have hD : va_D (gF z 20) (wRM G z r f) := gD_RM hz
  have hS : va_S (gF z 20) s.heap s.heap [] := va_S.rf
  have hl := lv_entry ([.ref (z 0), .int x1, .int x2, .int x3, .int x4]) (n := 5) (Nat.le_of_ble_eq_true rfl)
  rw [lg_entry_eq]
  generalize (lg_sl ([.ref (z 0), .int x1, .int x2, .int x3, .int x4]) ++ List.replicate (5 - (lg_sl ([.ref (z 0), .int x1, .int x2, .int x3, .int x4])).length) Slot.unset).toArray = ls at hl ⊢
  have hl : lv_has ls 5 [(0, .ref (z 0)), (1, .int x1), (2, .int x2), (3, .int x3), (4, .int x4)] := hl
  obtain ⟨hn, hn2, hd, hd2, hk, hk2, ht, ht2, hh, hm⟩ := id hM
  refine lv_aload_n hx hb dX7_makes_0 rfl (lv_at hl 0 rfl) ?_
  refine va_get (D := G.1) (ci := 7) (v := .ref (z 5)) (C := RX7) (T := TX7) (N := 26) hx hb hts hinX7 hown hK.1 hP 0 rfl rfl 9 (by decide) (hts (.fieldLink RX7 27 "RotaforgeModel" "makers" "[I") (by decide +kernel)) (fun _ h9 => h9) rfl dX7_makes_1 ?_
  refine lv_aload_n hx hb dX7_makes_4 rfl (lv_at hl 0 rfl) ?_
  refine va_get (D := G.1) (ci := 7) (v := .int (f 4)) (C := RX7) (T := TX7) (N := 26) hx hb hts hinX7 hown hK.1 hP 0 rfl rfl 8 (by decide) (hts (.fieldLink RX7 79 "RotaforgeModel" "changeMany" "I") (by decide +kernel)) (fun _ h9 => h9) rfl dX7_makes_5 ?_
  refine lv_iload_n hx hb dX7_makes_8 rfl (lv_at hl 1 rfl) ?_
  refine g_iast hx hb hK.1 hP hD hS 5 0 rfl rfl n (hn) (by omega) (by decide) dX7_makes_9 (fun H locs hP hD hS => ?_)
  have hP : va_P G.1 vwCl (wRM G z (upR r 4 (upd (r 4) n x1)) f) H := gMr_4 hP
  have hD : va_D (gF z 20) (wRM G z (upR r 4 (upd (r 4) n x1)) f) := gD_RM hz
  refine lv_aload_n hx hb dX7_makes_10 rfl (lv_at hl 0 rfl) ?_
  refine va_get (D := G.1) (ci := 7) (v := .ref (z 6)) (C := RX7) (T := TX7) (N := 26) hx hb hts hinX7 hown hK.1 hP 0 rfl rfl 10 (by decide) (hts (.fieldLink RX7 30 "RotaforgeModel" "sorts" "[I") (by decide +kernel)) (fun _ h9 => h9) rfl dX7_makes_11 ?_
  refine lv_aload_n hx hb dX7_makes_14 rfl (lv_at hl 0 rfl) ?_
  refine va_get (D := G.1) (ci := 7) (v := .int (f 4)) (C := RX7) (T := TX7) (N := 26) hx hb hts hinX7 hown hK.1 hP 0 rfl rfl 8 (by decide) (hts (.fieldLink RX7 79 "RotaforgeModel" "changeMany" "I") (by decide +kernel)) (fun _ h9 => h9) rfl dX7_makes_15 ?_
  refine lv_iload_n hx hb dX7_makes_18 rfl (lv_at hl 2 rfl) ?_
  refine g_iast hx hb hK.1 hP hD hS 6 0 rfl rfl n (hn) (by omega) (by decide) dX7_makes_19 (fun H locs hP hD hS => ?_)
  have hP : va_P G.1 vwCl (wRM G z (upR (upR r 4 (upd (r 4) n x1)) 5 (upd (r 5) n x2)) f) H := gMr_5 hP
  have hD : va_D (gF z 20) (wRM G z (upR (upR r 4 (upd (r 4) n x1)) 5 (upd (r 5) n x2)) f) := gD_RM hz
  refine lv_aload_n hx hb dX7_makes_20 rfl (lv_at hl 0 rfl) ?_
  refine va_get (D := G.1) (ci := 7) (v := .ref (z 7)) (C := RX7) (T := TX7) (N := 26) hx hb hts hinX7 hown hK.1 hP 0 rfl rfl 11 (by decide) (hts (.fieldLink RX7 33 "RotaforgeModel" "targets" "[I") (by decide +kernel)) (fun _ h9 => h9) rfl dX7_makes_21 ?_
  refine lv_aload_n hx hb dX7_makes_24 rfl (lv_at hl 0 rfl) ?_
  refine va_get (D := G.1) (ci := 7) (v := .int (f 4)) (C := RX7) (T := TX7) (N := 26) hx hb hts hinX7 hown hK.1 hP 0 rfl rfl 8 (by decide) (hts (.fieldLink RX7 79 "RotaforgeModel" "changeMany" "I") (by decide +kernel)) (fun _ h9 => h9) rfl dX7_makes_25 ?_
  refine lv_iload_n hx hb dX7_makes_28 rfl (lv_at hl 3 rfl) ?_
  refine g_iast hx hb hK.1 hP hD hS 7 0 rfl rfl n (hn) (by omega) (by decide) dX7_makes_29 (fun H locs hP hD hS => ?_)
  have hP : va_P G.1 vwCl (wRM G z (upR (upR (upR r 4 (upd (r 4) n x1)) 5 (upd (r 5) n x2)) 6 (upd (r 6) n x3)) f) H := gMr_6 hP
  have hD : va_D (gF z 20) (wRM G z (upR (upR (upR r 4 (upd (r 4) n x1)) 5 (upd (r 5) n x2)) 6 (upd (r 6) n x3)) f) := gD_RM hz
  refine lv_aload_n hx hb dX7_makes_30 rfl (lv_at hl 0 rfl) ?_
  refine va_get (D := G.1) (ci := 7) (v := .ref (z 8)) (C := RX7) (T := TX7) (N := 26) hx hb hts hinX7 hown hK.1 hP 0 rfl rfl 12 (by decide) (hts (.fieldLink RX7 36 "RotaforgeModel" "values" "[I") (by decide +kernel)) (fun _ h9 => h9) rfl dX7_makes_31 ?_
  refine lv_aload_n hx hb dX7_makes_34 rfl (lv_at hl 0 rfl) ?_
  refine va_get (D := G.1) (ci := 7) (v := .int (f 4)) (C := RX7) (T := TX7) (N := 26) hx hb hts hinX7 hown hK.1 hP 0 rfl rfl 8 (by decide) (hts (.fieldLink RX7 79 "RotaforgeModel" "changeMany" "I") (by decide +kernel)) (fun _ h9 => h9) rfl dX7_makes_35 ?_
  refine lv_iload hx hb dX7_makes_38 (lv_at hl 4 rfl) ?_
  refine g_iast hx hb hK.1 hP hD hS 8 0 rfl rfl n (hn) (by omega) (by decide) dX7_makes_40 (fun H locs hP hD hS => ?_)
  have hP : va_P G.1 vwCl (wRM G z (upR (upR (upR (upR r 4 (upd (r 4) n x1)) 5 (upd (r 5) n x2)) 6 (upd (r 6) n x3)) 7 (upd (r 7) n x4)) f) H := gMr_7 hP
  have hD : va_D (gF z 20) (wRM G z (upR (upR (upR (upR r 4 (upd (r 4) n x1)) 5 (upd (r 5) n x2)) 6 (upd (r 6) n x3)) 7 (upd (r 7) n x4)) f) := gD_RM hz
  refine lv_aload_n hx hb dX7_makes_41 rfl (lv_at hl 0 rfl) ?_
  refine va_get (D := G.1) (ci := 7) (v := .ref (z 9)) (C := RX7) (T := TX7) (N := 26) hx hb hts hinX7 hown hK.1 hP 0 rfl rfl 13 (by decide) (hts (.fieldLink RX7 39 "RotaforgeModel" "times" "[I") (by decide +kernel)) (fun _ h9 => h9) rfl dX7_makes_42 ?_
  refine lv_aload_n hx hb dX7_makes_45 rfl (lv_at hl 0 rfl) ?_
  refine va_get (D := G.1) (ci := 7) (v := .int (f 4)) (C := RX7) (T := TX7) (N := 26) hx hb hts hinX7 hown hK.1 hP 0 rfl rfl 8 (by decide) (hts (.fieldLink RX7 79 "RotaforgeModel" "changeMany" "I") (by decide +kernel)) (fun _ h9 => h9) rfl dX7_makes_46 ?_
  refine lv_aload_n hx hb dX7_makes_49 rfl (lv_at hl 0 rfl) ?_
  refine va_get (D := G.1) (ci := 7) (v := .int (f 1)) (C := RX7) (T := TX7) (N := 26) hx hb hts hinX7 hown hK.1 hP 0 rfl rfl 1 (by decide) (hts (.fieldLink RX7 120 "RotaforgeModel" "time" "I") (by decide +kernel)) (fun _ h9 => h9) rfl dX7_makes_50 ?_
  refine g_iast hx hb hK.1 hP hD hS 9 0 rfl rfl n (hn) (by omega) (by decide) dX7_makes_53 (fun H locs hP hD hS => ?_)
  have hP : va_P G.1 vwCl (wRM G z (upR (upR (upR (upR (upR r 4 (upd (r 4) n x1)) 5 (upd (r 5) n x2)) 6 (upd (r 6) n x3)) 7 (upd (r 7) n x4)) 8 (upd (r 8) n (f 1))) f) H := gMr_8 hP
  have hD : va_D (gF z 20) (wRM G z (upR (upR (upR (upR (upR r 4 (upd (r 4) n x1)) 5 (upd (r 5) n x2)) 6 (upd (r 6) n x3)) 7 (upd (r 7) n x4)) 8 (upd (r 8) n (f 1))) f) := gD_RM hz
  refine lv_aload_n hx hb dX7_makes_54 rfl (lv_at hl 0 rfl) ?_
  refine lv_dup hx hb dX7_makes_55 rfl ?_
  refine va_get (D := G.1) (ci := 7) (v := .int (f 4)) (C := RX7) (T := TX7) (N := 26) hx hb hts hinX7 hown hK.1 hP 0 rfl rfl 8 (by decide) (hts (.fieldLink RX7 79 "RotaforgeModel" "changeMany" "I") (by decide +kernel)) (fun _ h9 => h9) rfl dX7_makes_56 ?_
  refine lv_iconst (v := nI 1) hx hb dX7_makes_59 (by decide +kernel) ?_
  refine lv_iadd hx hb dX7_makes_60 ?_
  refine va_put (D := G.1) (ci := 7) (v := .int ((f 4) + (nI 1))) (ty := .int) (C := RX7) (T := TX7) (N := 26) hx hb hts hinX7 tyX7 tyX7_ok nmX7 hown hK.1 hP hD hS 0 rfl rfl 8 (by decide) (hts (.fieldLink RX7 79 "RotaforgeModel" "changeMany" "I") (by decide +kernel)) (fun _ h9 => h9) rfl (by decide +kernel) rfl rfl (Nat.le_of_ble_eq_true rfl) dX7_makes_61 (fun H locs hP hD hS => ?_)
  have hP : va_P G.1 vwCl (wRM G z (upR (upR (upR (upR (upR r 4 (upd (r 4) n x1)) 5 (upd (r 5) n x2)) 6 (upd (r 6) n x3)) 7 (upd (r 7) n x4)) 8 (upd (r 8) n (f 1))) (upF f 4 ((f 4) + (nI 1)))) H := gMs_4 hP
  have hD : va_D (gF z 20) (wRM G z (upR (upR (upR (upR (upR r 4 (upd (r 4) n x1)) 5 (upd (r 5) n x2)) 6 (upd (r 6) n x3)) 7 (upd (r 7) n x4)) 8 (upd (r 8) n (f 1))) (upF f 4 ((f 4) + (nI 1)))) := gD_RM hz
  refine lv_aload_n hx hb dX7_makes_64 rfl (lv_at hl 0 rfl) ?_
  refine va_get (D := G.1) (ci := 7) (v := .int ((f 4) + (nI 1))) (C := RX7) (T := TX7) (N := 26) hx hb hts hinX7 hown hK.1 hP 0 rfl rfl 8 (by decide) (hts (.fieldLink RX7 79 "RotaforgeModel" "changeMany" "I") (by decide +kernel)) (fun _ h9 => h9) rfl dX7_makes_65 ?_
  refine lv_iconst (v := nI 1) hx hb dX7_makes_68 (by decide +kernel) ?_
  refine lv_isub hx hb dX7_makes_69 ?_
  have hq : (((f 4) + (nI 1)) - (nI 1)) = (f 4 + nI 1 - nI 1) := by
    first | with_reducible rfl | with_reducible exact nI_add _ _ | (simp only [mMakeR, ↓reduceIte, Bool.false_eq_true, decide_true, decide_false, Bool.not_true, Bool.not_false, Bool.or_true, Bool.true_or, Bool.or_false, Bool.false_or]; done) | (simp only [mMakeR, ↓reduceIte, Bool.false_eq_true, decide_true, decide_false, Bool.not_true, Bool.not_false, Bool.or_true, Bool.true_or, Bool.or_false, Bool.false_or]; with_reducible rfl) | (simp only [mMakeR, ↓reduceIte, Bool.false_eq_true, decide_true, decide_false, Bool.not_true, Bool.not_false, Bool.or_true, Bool.true_or, Bool.or_false, Bool.false_or]; rfl) | (simp [b2i, mMakeR]; done) | rfl
  have hPf : va_P G.1 vwCl (wRM G z (mMakeR r f n x1 x2 x3 x4) (upF f 4 (f 4 + nI 1))) H := by
    have e1 : mMakeR r f n x1 x2 x3 x4 = upR (upR (upR (upR (upR r 4 (upd (r 4) n x1)) 5 (upd (r 5) n x2)) 6 (upd (r 6) n x3)) 7 (upd (r 7) n x4)) 8 (upd (r 8) n (f 1)) := by first | with_reducible rfl | (simp only [mMakeR, ↓reduceIte, Bool.false_eq_true]; done) | (simp only [mMakeR, ↓reduceIte, Bool.false_eq_true]; rfl) | rfl
    have e2 : upF f 4 (f 4 + nI 1) = upF f 4 ((f 4) + (nI 1)) := by first | with_reducible rfl | (simp only [mMakeR, ↓reduceIte, Bool.false_eq_true]; done) | (simp only [mMakeR, ↓reduceIte, Bool.false_eq_true]; rfl) | rfl
    rw [e1, e2]; exact hP
  exact W.iret (v := ((f 4) + (nI 1)) - (nI 1)) hx hb hr (fun t ht _ => ⟨⟨_, (), rfl, hq, g_hp ht hPf⟩, hS.F ht⟩) hS.2.2 dX7_makes_70

set_option maxHeartbeats 4000000 in
set_option maxRecDepth 100000 in
theorem c_X7_begins (l : Launch) (G : gG) (H0 : Heap) (z : Nat → Nat) (hz : gDis z 20) (r : Nat → Nat → Int32) (f : Nat → Int32) (hP : va_P G.1 vwCl (wRM G z r f) H0) (x1 : Int32) (h w : Nat) (hw : x1 = nI w) (hw2 : w ≤ 41) (hh9 : r 9 w = nI h) (hh8 : h < 6) : gMwv l yX7_begins wsX7_begins 1 24 G H0 [.ref (z 0), .int x1] (wRM G z (mBegR r h w) f) (gF z 20) := by
  refine Met.ofW (cc := cX7_begins) (maxL := 5) (ret := none) (by decide) rfl ?_
  intro p_ e_ s m args below meth c s₁ B hml hv
  obtain ⟨rfl, rfl, hK⟩ := hv
  have hx := B.exec
  have hb := B.bytes
  have hr := B.returns
  have hts := atoms_spec (ws := wsX7_begins) B.pre
  have hown : s.vm.findClass RX7 = some m.cls := findClass_of_methodNamed B.named
  have hlocks := B.notSynchronized
  have hinX7 : ∀ w ∈ wsX70, w ∈ wsX7_begins := by decide +kernel
  have S0 : CallFix p_ m c cX7_begins 5 s _ wsX7_begins RX7 := ⟨hx, hb, hml, hown, hts⟩
  have hD : va_D (gF z 20) (wRM G z r f) := gD_RM hz
  have hS : va_S (gF z 20) s.heap s.heap [] := va_S.rf
  have hl := lv_entry ([.ref (z 0), .int x1]) (n := 5) (Nat.le_of_ble_eq_true rfl)
  rw [lg_entry_eq]
  generalize (lg_sl ([.ref (z 0), .int x1]) ++ List.replicate (5 - (lg_sl ([.ref (z 0), .int x1])).length) Slot.unset).toArray = ls at hl ⊢
  have hl : lv_has ls 5 [(0, .ref (z 0)), (1, .int x1)] := hl
  subst hw
  refine lv_aload_n hx hb dX7_begins_0 rfl (lv_at hl 0 rfl) ?_
  refine va_get (D := G.1) (ci := 7) (v := .ref (z 11)) (C := RX7) (T := TX7) (N := 26) hx hb hts hinX7 hown hK.1 hP 0 rfl rfl 15 (by decide) (hts (.fieldLink RX7 45 "RotaforgeModel" "blots" "[I") (by decide +kernel)) (fun _ h9 => h9) rfl dX7_begins_1 ?_
  refine lv_aload_n hx hb dX7_begins_4 rfl (lv_at hl 0 rfl) ?_
  refine va_get (D := G.1) (ci := 7) (v := .ref (z 10)) (C := RX7) (T := TX7) (N := 26) hx hb hts hinX7 hown hK.1 hP 0 rfl rfl 14 (by decide) (hts (.fieldLink RX7 42 "RotaforgeModel" "holders" "[I") (by decide +kernel)) (fun _ h9 => h9) rfl dX7_begins_5 ?_
  refine lv_iload_n hx hb dX7_begins_8 rfl (lv_at hl 1 rfl) ?_
  refine g_iald hx hb hK.1 hP 10 0 rfl rfl w (rfl) (by omega) (by decide) dX7_begins_9 ?_
  refine lv_iconst (v := nI 0) hx hb dX7_begins_10 (by decide +kernel) ?_
  refine g_iast hx hb hK.1 hP hD hS 11 0 rfl rfl h (hh9) (by omega) (by decide) dX7_begins_11 (fun H locs hP hD hS => ?_)
  have hP : va_P G.1 vwCl (wRM G z (upR r 10 (upd (r 10) h (nI 0))) f) H := gMr_10 hP
  have hD : va_D (gF z 20) (wRM G z (upR r 10 (upd (r 10) h (nI 0))) f) := gD_RM hz
  refine lv_iconst (v := (-1)) hx hb dX7_begins_12 (by decide +kernel) ?_
  refine lv_istore_n (lv' := [(2, .int (-1)), (0, .ref (z 0)), (1, .int (nI w))]) hx hb dX7_begins_13 rfl hl (by decide) rfl (fun ls hl => ?_)
  refine lv_iconst (v := nI 5) hx hb dX7_begins_14 (by decide +kernel) ?_
  refine lv_istore_n (lv' := [(3, .int (nI 5)), (2, .int (-1)), (0, .ref (z 0)), (1, .int (nI w))]) hx hb dX7_begins_15 rfl hl (by decide) rfl (fun ls hl => ?_)
  refine g_loopW (fun H locs g => W p_ l e_ _ s m _ below meth c H locs _ _ _ g) m 16 5 [] (6) (fun i => [(3, .int (nI (6 - i) - nI 1)), (2, .int (itN i (mBgI (mBg0 r h) w) (-1))), (0, .ref (z 0)), (1, .int (nI w))]) (fun i H locs => va_P G.1 vwCl (wRM G z (mBg0 r h) f) H ∧ va_S (gF z 20) s.heap H locs ∧ (itN i (mBgI (mBg0 r h) w) (-1) = -1 ∨ ∃ j, j < 6 ∧ itN i (mBgI (mBg0 r h) w) (-1) = nI j)) (fun i H locs hi16 hI ih16 ls hl => ?_) 0 _ _ (Nat.zero_le _) ⟨hP, hS, (by exact Or.inl rfl)⟩ ls ?_
  · obtain ⟨hP, hS, hI⟩ := hI
    have hP : va_P G.1 vwCl (wRM G z (mBg0 r h) f) H := hP
    have hD : va_D (gF z 20) (wRM G z (mBg0 r h) f) := gD_RM hz
    have hl : lv_has ls 5 [(3, .int (nI (6 - i) - nI 1)), (2, .int (itN i (mBgI (mBg0 r h) w) (-1))), (0, .ref (z 0)), (1, .int (nI w))] := hl
    have hI : itN i (mBgI (mBg0 r h) w) (-1) = -1 ∨ ∃ j, j < 6 ∧ itN i (mBgI (mBg0 r h) w) (-1) = nI j := hI
    refine lv_iload_n hx hb dX7_begins_16 rfl (lv_at hl 0 rfl) ?_
    refine lv_if_lt (tgt := 78) hx hb dX7_begins_17 (by decide) (fun c_1 => ?_) (fun c_1 => ?_)
    · have hex : 6 = i := by
        have h9 : ¬ 0 < 6 - i := fun h => absurd c_1 (by rw [show 6 - i = (6 - i - 1) + 1 from by omega, ← nI_add, show nI (6 - i - 1) + nI 1 - nI 1 = nI (6 - i - 1) from by simp]; exact nI_pos (by omega))
        omega
      subst hex
      refine lv_aload_n hx hb dX7_begins_78 rfl (lv_at hl 2 rfl) ?_
      refine va_get (D := G.1) (ci := 7) (v := .ref (z 10)) (C := RX7) (T := TX7) (N := 26) hx hb hts hinX7 hown hK.1 hP 0 rfl rfl 14 (by decide) (hts (.fieldLink RX7 42 "RotaforgeModel" "holders" "[I") (by decide +kernel)) (fun _ h9 => h9) rfl dX7_begins_79 ?_
      refine lv_iload_n hx hb dX7_begins_82 rfl (lv_at hl 3 rfl) ?_
      refine lv_iconst (v := nI 1) hx hb dX7_begins_83 (by decide +kernel) ?_
      refine lv_iadd hx hb dX7_begins_84 ?_
      refine lv_iload_n hx hb dX7_begins_85 rfl (lv_at hl 1 rfl) ?_
      refine g_iast hx hb hK.1 hP hD hS 10 0 rfl rfl (w + 1) (nI_add w 1) (by omega) (by decide) dX7_begins_86 (fun H locs hP hD hS => ?_)
      have hP : va_P G.1 vwCl (wRM G z (upR (mBg0 r h) 9 (upd ((mBg0 r h) 9) (w + 1) (itN 6 (mBgI (mBg0 r h) w) (-1)))) f) H := gMr_9 hP
      have hD : va_D (gF z 20) (wRM G z (upR (mBg0 r h) 9 (upd ((mBg0 r h) 9) (w + 1) (itN 6 (mBgI (mBg0 r h) w) (-1)))) f) := gD_RM hz
      have hPf : va_P G.1 vwCl (wRM G z (mBegR r h w) f) H := by
        exact hP
      exact W.vret hx hb hr (fun t ht _ => ⟨⟨(), rfl, trivial, g_hp ht hPf⟩, hS.F ht⟩) hS.2.2 dX7_begins_87
    · have hlt : i < 6 := by
        have h9 : ¬ i = 6 := fun h => c_1 (by subst h; rw [Nat.sub_self]; decide)
        omega
      have eR : nI (6 - i) - nI 1 = nI (5 - i) := by rw [show 6 - i = (5 - i) + 1 from by omega, ← nI_add]; simp
      rw [eR] at hl
      refine lv_iload_n hx hb dX7_begins_20 rfl (lv_at hl 0 rfl) ?_
      refine lv_aload_n hx hb dX7_begins_21 rfl (lv_at hl 2 rfl) ?_
      refine va_get (D := G.1) (ci := 7) (v := .ref (z 10)) (C := RX7) (T := TX7) (N := 26) hx hb hts hinX7 hown hK.1 hP 0 rfl rfl 14 (by decide) (hts (.fieldLink RX7 42 "RotaforgeModel" "holders" "[I") (by decide +kernel)) (fun _ h9 => h9) rfl dX7_begins_22 ?_
      refine lv_iload_n hx hb dX7_begins_25 rfl (lv_at hl 3 rfl) ?_
      refine g_iald hx hb hK.1 hP 10 0 rfl rfl w (rfl) (by omega) (by decide) dX7_begins_26 ?_
      refine lv_icmp_eq (tgt := 58) hx hb dX7_begins_27 (by decide) (fun c_2 => ?_) (fun c_2 => ?_)
      · refine lv_iconst (v := nI 0) hx hb dX7_begins_58 (by decide +kernel) ?_
        refine lv_istore (lv' := [(4, .int (nI 0)), (3, .int (nI (5 - i))), (2, .int (itN i (mBgI (mBg0 r h) w) (-1))), (0, .ref (z 0)), (1, .int (nI w))]) hx hb dX7_begins_59 hl (by decide) rfl (fun ls hl => ?_)
        refine lv_iload hx hb dX7_begins_61 (lv_at hl 0 rfl) ?_
        refine lv_if_eq (tgt := 70) hx hb dX7_begins_63 (by decide) (fun c_3 => ?_) (fun c_3 => ?_)
        · refine lv_iload_n hx hb dX7_begins_70 rfl (lv_at hl 2 rfl) ?_
          refine lv_istore_n (lv' := [(2, .int (itN i (mBgI (mBg0 r h) w) (-1))), (4, .int (nI 0)), (3, .int (nI (5 - i))), (0, .ref (z 0)), (1, .int (nI w))]) hx hb dX7_begins_71 rfl hl (by decide) rfl (fun ls hl => ?_)
          refine lv_iinc (v := (nI (5 - i)) + (-1)) (lv' := [(3, .int ((nI (5 - i)) + (-1))), (2, .int (itN i (mBgI (mBg0 r h) w) (-1))), (4, .int (nI 0)), (0, .ref (z 0)), (1, .int (nI w))]) hx hb dX7_begins_72 hl (k := 2) rfl (congrArg (fun q : Int32 => (nI (5 - i)) + q) (by decide +kernel)) (by decide) rfl (fun ls hl => ?_)
          refine lv_goto (tgt := 16) hx hb dX7_begins_75 (by decide) ?_
          have hPn : va_P G.1 vwCl (wRM G z (mBg0 r h) f) H := by
            exact hP
          exact ih16 _ _ _ (by omega) ⟨hPn, hS, (by exact mBgI_ok hI)⟩ (lv_cv (show lv_has ls 5 [(3, .int ((nI (5 - i)) + (-1))), (2, .int (itN i (mBgI (mBg0 r h) w) (-1))), (0, .ref (z 0)), (1, .int (nI w))] from lv_sub hl [0, 1, 3, 4] rfl) (gl_i (show (nI (5 - i)) + (-1) = nI (6 - (i + 1)) - nI 1 by rw [show 6 - (i + 1) = 5 - i from by omega]; exact x_m1 _) (gl_i (show itN i (mBgI (mBg0 r h) w) (-1) = itN (i + 1) (mBgI (mBg0 r h) w) (-1) by first | with_reducible rfl | with_reducible exact nI_add _ _ | (simp only [itN_s i, mBgI, eq_false c_1, eq_true c_2, eq_true c_3, ↓reduceIte, Bool.false_eq_true, decide_true, decide_false, Bool.not_true, Bool.not_false, Bool.or_true, Bool.true_or, Bool.or_false, Bool.false_or]; done) | (simp only [itN_s i, mBgI, eq_false c_1, eq_true c_2, eq_true c_3, ↓reduceIte, Bool.false_eq_true, decide_true, decide_false, Bool.not_true, Bool.not_false, Bool.or_true, Bool.true_or, Bool.or_false, Bool.false_or]; with_reducible rfl) | (simp only [itN_s i, mBgI, eq_false c_1, eq_true c_2, eq_true c_3, ↓reduceIte, Bool.false_eq_true, decide_true, decide_false, Bool.not_true, Bool.not_false, Bool.or_true, Bool.true_or, Bool.or_false, Bool.false_or]; rfl) | (simp [b2i, itN_s i, mBgI, eq_false c_1, eq_true c_2, eq_true c_3]; done) | rfl) (gl_s (gl_s rfl)))))
        · exact absurd (by decide) c_3
      · refine lv_iload_n hx hb dX7_begins_30 rfl (lv_at hl 1 rfl) ?_
        refine lv_iconst (v := (-1)) hx hb dX7_begins_31 (by decide +kernel) ?_
        refine lv_icmp_eq (tgt := 54) hx hb dX7_begins_32 (by decide) (fun c_4 => ?_) (fun c_4 => ?_)
        · refine lv_iconst (v := nI 1) hx hb dX7_begins_54 (by decide +kernel) ?_
          refine lv_goto (tgt := 59) hx hb dX7_begins_55 (by decide) ?_
          refine lv_istore (lv' := [(4, .int (nI 1)), (3, .int (nI (5 - i))), (2, .int (itN i (mBgI (mBg0 r h) w) (-1))), (0, .ref (z 0)), (1, .int (nI w))]) hx hb dX7_begins_59 hl (by decide) rfl (fun ls hl => ?_)
          refine lv_iload hx hb dX7_begins_61 (lv_at hl 0 rfl) ?_
          refine lv_if_eq (tgt := 70) hx hb dX7_begins_63 (by decide) (fun c_5 => ?_) (fun c_5 => ?_)
          · exact absurd c_5 (by decide)
          · refine lv_iload_n hx hb dX7_begins_66 rfl (lv_at hl 1 rfl) ?_
            refine lv_goto (tgt := 71) hx hb dX7_begins_67 (by decide) ?_
            refine lv_istore_n (lv' := [(2, .int (nI (5 - i))), (4, .int (nI 1)), (3, .int (nI (5 - i))), (0, .ref (z 0)), (1, .int (nI w))]) hx hb dX7_begins_71 rfl hl (by decide) rfl (fun ls hl => ?_)
            refine lv_iinc (v := (nI (5 - i)) + (-1)) (lv' := [(3, .int ((nI (5 - i)) + (-1))), (2, .int (nI (5 - i))), (4, .int (nI 1)), (0, .ref (z 0)), (1, .int (nI w))]) hx hb dX7_begins_72 hl (k := 2) rfl (congrArg (fun q : Int32 => (nI (5 - i)) + q) (by decide +kernel)) (by decide) rfl (fun ls hl => ?_)
            refine lv_goto (tgt := 16) hx hb dX7_begins_75 (by decide) ?_
            have hPn : va_P G.1 vwCl (wRM G z (mBg0 r h) f) H := by
              exact hP
            exact ih16 _ _ _ (by omega) ⟨hPn, hS, (by exact mBgI_ok hI)⟩ (lv_cv (show lv_has ls 5 [(3, .int ((nI (5 - i)) + (-1))), (2, .int (nI (5 - i))), (0, .ref (z 0)), (1, .int (nI w))] from lv_sub hl [0, 1, 3, 4] rfl) (gl_i (show (nI (5 - i)) + (-1) = nI (6 - (i + 1)) - nI 1 by rw [show 6 - (i + 1) = 5 - i from by omega]; exact x_m1 _) (gl_i (show nI (5 - i) = itN (i + 1) (mBgI (mBg0 r h) w) (-1) by first | with_reducible rfl | with_reducible exact nI_add _ _ | (simp only [itN_s i, mBgI, eq_false c_1, eq_false c_2, eq_true c_4, eq_false c_5, ↓reduceIte, Bool.false_eq_true, decide_true, decide_false, Bool.not_true, Bool.not_false, Bool.or_true, Bool.true_or, Bool.or_false, Bool.false_or]; done) | (simp only [itN_s i, mBgI, eq_false c_1, eq_false c_2, eq_true c_4, eq_false c_5, ↓reduceIte, Bool.false_eq_true, decide_true, decide_false, Bool.not_true, Bool.not_false, Bool.or_true, Bool.true_or, Bool.or_false, Bool.false_or]; with_reducible rfl) | (simp only [itN_s i, mBgI, eq_false c_1, eq_false c_2, eq_true c_4, eq_false c_5, ↓reduceIte, Bool.false_eq_true, decide_true, decide_false, Bool.not_true, Bool.not_false, Bool.or_true, Bool.true_or, Bool.or_false, Bool.false_or]; rfl) | (simp [b2i, itN_s i, mBgI, eq_false c_1, eq_false c_2, eq_true c_4, eq_false c_5]; done) | rfl) (gl_s (gl_s rfl)))))
        · refine lv_aload_n hx hb dX7_begins_35 rfl (lv_at hl 2 rfl) ?_
          refine lv_iload_n hx hb dX7_begins_36 rfl (lv_at hl 0 rfl) ?_
          refine lv_iload_n hx hb dX7_begins_37 rfl (lv_at hl 3 rfl) ?_
          refine lv_iconst (v := nI 1) hx hb dX7_begins_38 (by decide +kernel) ?_
          refine lv_iadd hx hb dX7_begins_39 ?_
          refine g_callC (W.runV (C := RX7) (As := [.int (nI (5 - i)), .int ((nI w) + (nI 1))]) (rest := []) S0 (c_X7_nearOf l G _ z (mBg0 r h) f hP (nI (5 - i)) ((nI w) + (nI 1)) (5 - i) (w + 1) rfl (by omega) (nI_add w 1) (by omega)) (cwV 2 hts gX7_begins_X7_nearOf rfl rfl rfl (by decide +kernel) ⟨Nat.le_of_ble_eq_true rfl, Nat.le_of_ble_eq_true rfl⟩) (g_preV hK hP (q0 := 0) (ci := 7) (q := (RX7, TX7, 26)) rfl rfl) rfl rfl hl.1 rfl (lv_room (Nat.le_of_ble_eq_true rfl)) dX7_begins_40 ⟨Nat.zero_le _, Nat.zero_le _⟩) ?_
          refine lv_aload_n hx hb dX7_begins_43 rfl (lv_at hl 2 rfl) ?_
          refine lv_iload_n hx hb dX7_begins_44 rfl (lv_at hl 1 rfl) ?_
          refine lv_iload_n hx hb dX7_begins_45 rfl (lv_at hl 3 rfl) ?_
          refine lv_iconst (v := nI 1) hx hb dX7_begins_46 (by decide +kernel) ?_
          refine lv_iadd hx hb dX7_begins_47 ?_
          refine g_callC (W.runV (C := RX7) (As := [.int (itN i (mBgI (mBg0 r h) w) (-1)), .int ((nI w) + (nI 1))]) (rest := [.int (mNear (mBg0 r h) (5 - i) (w + 1))]) S0 (c_X7_nearOf l G _ z (mBg0 r h) f hP (itN i (mBgI (mBg0 r h) w) (-1)) ((nI w) + (nI 1)) (itN i (mBgI (mBg0 r h) w) (-1)).toNatClampNeg (w + 1) (q_nn hI c_4 (by decide)).1 (q_nn hI c_4 (by decide)).2 (nI_add w 1) (by omega)) (cwV 2 hts gX7_begins_X7_nearOf rfl rfl rfl (by decide +kernel) ⟨Nat.le_of_ble_eq_true rfl, Nat.le_of_ble_eq_true rfl⟩) (g_preV hK hP (q0 := 0) (ci := 7) (q := (RX7, TX7, 26)) rfl rfl) rfl rfl hl.1 rfl (lv_room (Nat.le_of_ble_eq_true rfl)) dX7_begins_48 ⟨Nat.zero_le _, Nat.zero_le _⟩) ?_
          refine lv_icmp_lt (tgt := 58) hx hb dX7_begins_51 (by decide) (fun c_6 => ?_) (fun c_6 => ?_)
          · refine lv_iconst (v := nI 0) hx hb dX7_begins_58 (by decide +kernel) ?_
            refine lv_istore (lv' := [(4, .int (nI 0)), (3, .int (nI (5 - i))), (2, .int (itN i (mBgI (mBg0 r h) w) (-1))), (0, .ref (z 0)), (1, .int (nI w))]) hx hb dX7_begins_59 hl (by decide) rfl (fun ls hl => ?_)
            refine lv_iload hx hb dX7_begins_61 (lv_at hl 0 rfl) ?_
            refine lv_if_eq (tgt := 70) hx hb dX7_begins_63 (by decide) (fun c_7 => ?_) (fun c_7 => ?_)
            · refine lv_iload_n hx hb dX7_begins_70 rfl (lv_at hl 2 rfl) ?_
              refine lv_istore_n (lv' := [(2, .int (itN i (mBgI (mBg0 r h) w) (-1))), (4, .int (nI 0)), (3, .int (nI (5 - i))), (0, .ref (z 0)), (1, .int (nI w))]) hx hb dX7_begins_71 rfl hl (by decide) rfl (fun ls hl => ?_)
              refine lv_iinc (v := (nI (5 - i)) + (-1)) (lv' := [(3, .int ((nI (5 - i)) + (-1))), (2, .int (itN i (mBgI (mBg0 r h) w) (-1))), (4, .int (nI 0)), (0, .ref (z 0)), (1, .int (nI w))]) hx hb dX7_begins_72 hl (k := 2) rfl (congrArg (fun q : Int32 => (nI (5 - i)) + q) (by decide +kernel)) (by decide) rfl (fun ls hl => ?_)
              refine lv_goto (tgt := 16) hx hb dX7_begins_75 (by decide) ?_
              have hPn : va_P G.1 vwCl (wRM G z (mBg0 r h) f) H := by
                exact hP
              exact ih16 _ _ _ (by omega) ⟨hPn, hS, (by exact mBgI_ok hI)⟩ (lv_cv (show lv_has ls 5 [(3, .int ((nI (5 - i)) + (-1))), (2, .int (itN i (mBgI (mBg0 r h) w) (-1))), (0, .ref (z 0)), (1, .int (nI w))] from lv_sub hl [0, 1, 3, 4] rfl) (gl_i (show (nI (5 - i)) + (-1) = nI (6 - (i + 1)) - nI 1 by rw [show 6 - (i + 1) = 5 - i from by omega]; exact x_m1 _) (gl_i (show itN i (mBgI (mBg0 r h) w) (-1) = itN (i + 1) (mBgI (mBg0 r h) w) (-1) by first | with_reducible rfl | with_reducible exact nI_add _ _ | (simp only [itN_s i, mBgI, eq_false c_1, eq_false c_2, eq_false c_4, eq_true c_6, eq_true c_7, ↓reduceIte, Bool.false_eq_true, decide_true, decide_false, Bool.not_true, Bool.not_false, Bool.or_true, Bool.true_or, Bool.or_false, Bool.false_or]; done) | (simp only [itN_s i, mBgI, eq_false c_1, eq_false c_2, eq_false c_4, eq_true c_6, eq_true c_7, ↓reduceIte, Bool.false_eq_true, decide_true, decide_false, Bool.not_true, Bool.not_false, Bool.or_true, Bool.true_or, Bool.or_false, Bool.false_or]; with_reducible rfl) | (simp only [itN_s i, mBgI, eq_false c_1, eq_false c_2, eq_false c_4, eq_true c_6, eq_true c_7, ↓reduceIte, Bool.false_eq_true, decide_true, decide_false, Bool.not_true, Bool.not_false, Bool.or_true, Bool.true_or, Bool.or_false, Bool.false_or]; rfl) | (simp [b2i, itN_s i, mBgI, eq_false c_1, eq_false c_2, eq_false c_4, eq_true c_6, eq_true c_7]; done) | rfl) (gl_s (gl_s rfl)))))
            · exact absurd (by decide) c_7
          · refine lv_iconst (v := nI 1) hx hb dX7_begins_54 (by decide +kernel) ?_
            refine lv_goto (tgt := 59) hx hb dX7_begins_55 (by decide) ?_
            refine lv_istore (lv' := [(4, .int (nI 1)), (3, .int (nI (5 - i))), (2, .int (itN i (mBgI (mBg0 r h) w) (-1))), (0, .ref (z 0)), (1, .int (nI w))]) hx hb dX7_begins_59 hl (by decide) rfl (fun ls hl => ?_)
            refine lv_iload hx hb dX7_begins_61 (lv_at hl 0 rfl) ?_
            refine lv_if_eq (tgt := 70) hx hb dX7_begins_63 (by decide) (fun c_8 => ?_) (fun c_8 => ?_)
            · exact absurd c_8 (by decide)
            · refine lv_iload_n hx hb dX7_begins_66 rfl (lv_at hl 1 rfl) ?_
              refine lv_goto (tgt := 71) hx hb dX7_begins_67 (by decide) ?_
              refine lv_istore_n (lv' := [(2, .int (nI (5 - i))), (4, .int (nI 1)), (3, .int (nI (5 - i))), (0, .ref (z 0)), (1, .int (nI w))]) hx hb dX7_begins_71 rfl hl (by decide) rfl (fun ls hl => ?_)
              refine lv_iinc (v := (nI (5 - i)) + (-1)) (lv' := [(3, .int ((nI (5 - i)) + (-1))), (2, .int (nI (5 - i))), (4, .int (nI 1)), (0, .ref (z 0)), (1, .int (nI w))]) hx hb dX7_begins_72 hl (k := 2) rfl (congrArg (fun q : Int32 => (nI (5 - i)) + q) (by decide +kernel)) (by decide) rfl (fun ls hl => ?_)
              refine lv_goto (tgt := 16) hx hb dX7_begins_75 (by decide) ?_
              have hPn : va_P G.1 vwCl (wRM G z (mBg0 r h) f) H := by
                exact hP
              exact ih16 _ _ _ (by omega) ⟨hPn, hS, (by exact mBgI_ok hI)⟩ (lv_cv (show lv_has ls 5 [(3, .int ((nI (5 - i)) + (-1))), (2, .int (nI (5 - i))), (0, .ref (z 0)), (1, .int (nI w))] from lv_sub hl [0, 1, 3, 4] rfl) (gl_i (show (nI (5 - i)) + (-1) = nI (6 - (i + 1)) - nI 1 by rw [show 6 - (i + 1) = 5 - i from by omega]; exact x_m1 _) (gl_i (show nI (5 - i) = itN (i + 1) (mBgI (mBg0 r h) w) (-1) by first | with_reducible rfl | with_reducible exact nI_add _ _ | (simp only [itN_s i, mBgI, eq_false c_1, eq_false c_2, eq_false c_4, eq_false c_6, eq_false c_8, ↓reduceIte, Bool.false_eq_true, decide_true, decide_false, Bool.not_true, Bool.not_false, Bool.or_true, Bool.true_or, Bool.or_false, Bool.false_or]; done) | (simp only [itN_s i, mBgI, eq_false c_1, eq_false c_2, eq_false c_4, eq_false c_6, eq_false c_8, ↓reduceIte, Bool.false_eq_true, decide_true, decide_false, Bool.not_true, Bool.not_false, Bool.or_true, Bool.true_or, Bool.or_false, Bool.false_or]; with_reducible rfl) | (simp only [itN_s i, mBgI, eq_false c_1, eq_false c_2, eq_false c_4, eq_false c_6, eq_false c_8, ↓reduceIte, Bool.false_eq_true, decide_true, decide_false, Bool.not_true, Bool.not_false, Bool.or_true, Bool.true_or, Bool.or_false, Bool.false_or]; rfl) | (simp [b2i, itN_s i, mBgI, eq_false c_1, eq_false c_2, eq_false c_4, eq_false c_6, eq_false c_8]; done) | rfl) (gl_s (gl_s rfl)))))
  · exact (lv_cv (show lv_has ls 5 [(3, .int (nI 5)), (2, .int (-1)), (0, .ref (z 0)), (1, .int (nI w))] from lv_sub hl [0, 1, 2, 3] rfl) (gl_i (show nI 5 = nI (6 - 0) - nI 1 by decide) (gl_i (show (-1) = itN 0 (mBgI (mBg0 r h) w) (-1) by first | with_reducible rfl | with_reducible exact nI_add _ _ | (simp only [true_and, ↓reduceIte, Bool.false_eq_true, decide_true, decide_false, Bool.not_true, Bool.not_false, Bool.or_true, Bool.true_or, Bool.or_false, Bool.false_or]; done) | (simp only [true_and, ↓reduceIte, Bool.false_eq_true, decide_true, decide_false, Bool.not_true, Bool.not_false, Bool.or_true, Bool.true_or, Bool.or_false, Bool.false_or]; with_reducible rfl) | (simp only [true_and, ↓reduceIte, Bool.false_eq_true, decide_true, decide_false, Bool.not_true, Bool.not_false, Bool.or_true, Bool.true_or, Bool.or_false, Bool.false_or]; rfl) | (simp [b2i, true_and]; done) | rfl) (gl_s (gl_s rfl)))))

set_option maxHeartbeats 4000000 in
set_option maxRecDepth 100000 in
theorem c_X7_opens (l : Launch) (G : gG) (H0 : Heap) (z : Nat → Nat) (hz : gDis z 20) (r : Nat → Nat → Int32) (f : Nat → Int32) (hP : va_P G.1 vwCl (wRM G z r f) H0) (x1 : Int32) (n d k t : Nat) (hM : mOK r f n d k t) (hk9 : k < 200) : gMwv l yX7_opens wsX7_opens 5 125 G H0 [.ref (z 0), .int x1] (wRM G z (mOpenR r f n d k x1) (upF f 6 (f 6 + nI 1))) (gF z 20) := by
  refine Met.ofW (cc := cX7_opens) (maxL := 3) (ret := none) (by decide) rfl ?_
  intro p_ e_ s m args below meth c s₁ B hml hv
  obtain ⟨rfl, rfl, hK⟩ := hv
  have hx := B.exec
  have hb := B.bytes
  have hr := B.returns
  have hts := atoms_spec (ws := wsX7_opens) B.pre
  have hown : s.vm.findClass RX7 = some m.cls := findClass_of_methodNamed B.named
  have hlocks := B.notSynchronized
  have hinX7 : ∀ w ∈ wsX70, w ∈ wsX7_opens := by decide +kernel
  have S0 : CallFix p_ m c cX7_opens 3 s _ wsX7_opens RX7 := ⟨hx, hb, hml, hown, hts⟩
  have hD : va_D (gF z 20) (wRM G z r f) := gD_RM hz
  have hS : va_S (gF z 20) s.heap s.heap [] := va_S.rf
  have hl := lv_entry ([.ref (z 0), .int x1]) (n := 3) (Nat.le_of_ble_eq_true rfl)
  rw [lg_entry_eq]
  generalize (lg_sl ([.ref (z 0), .int x1]) ++ List.replicate (3 - (lg_sl ([.ref (z 0), .int x1])).length) Slot.unset).toArray = ls at hl ⊢
  have hl : lv_has ls 3 [(0, .ref (z 0)), (1, .int x1)] := hl
  obtain ⟨hn, hn2, hd, hd2, hk, hk2, ht, ht2, hh, hm⟩ := id hM
  refine lv_aload_n hx hb dX7_opens_0 rfl (lv_at hl 0 rfl) ?_
  refine lv_iload_n hx hb dX7_opens_1 rfl (lv_at hl 1 rfl) ?_
  refine g_callC (W.runV (C := RX7) (As := [.int x1]) (rest := []) S0 (c_X7_traceOf l G _ z r f hP x1 n d k t hM) (cwV 1 hts gX7_opens_X7_traceOf rfl rfl rfl (by decide +kernel) ⟨Nat.le_of_ble_eq_true rfl, Nat.le_of_ble_eq_true rfl⟩) (g_preV hK hP (q0 := 0) (ci := 7) (q := (RX7, TX7, 26)) rfl rfl) rfl rfl hl.1 rfl (lv_room (Nat.le_of_ble_eq_true rfl)) dX7_opens_2 ⟨Nat.zero_le _, Nat.zero_le _⟩) ?_
  refine lv_istore_n (lv' := [(2, .int (mTrace r n d x1)), (0, .ref (z 0)), (1, .int x1)]) hx hb dX7_opens_5 rfl hl (by decide) rfl (fun ls hl => ?_)
  refine lv_aload_n hx hb dX7_opens_6 rfl (lv_at hl 1 rfl) ?_
  refine va_get (D := G.1) (ci := 7) (v := .ref (z 15)) (C := RX7) (T := TX7) (N := 26) hx hb hts hinX7 hown hK.1 hP 0 rfl rfl 21 (by decide) (hts (.fieldLink RX7 57 "RotaforgeModel" "rings" "[I") (by decide +kernel)) (fun _ h9 => h9) rfl dX7_opens_7 ?_
  refine lv_aload_n hx hb dX7_opens_10 rfl (lv_at hl 1 rfl) ?_
  refine va_get (D := G.1) (ci := 7) (v := .int (f 6)) (C := RX7) (T := TX7) (N := 26) hx hb hts hinX7 hown hK.1 hP 0 rfl rfl 20 (by decide) (hts (.fieldLink RX7 82 "RotaforgeModel" "incidentMany" "I") (by decide +kernel)) (fun _ h9 => h9) rfl dX7_opens_11 ?_
  refine lv_iload_n hx hb dX7_opens_14 rfl (lv_at hl 2 rfl) ?_
  refine g_iast hx hb hK.1 hP hD hS 15 0 rfl rfl k (hk) (by omega) (by decide) dX7_opens_15 (fun H locs hP hD hS => ?_)
  have hP : va_P G.1 vwCl (wRM G z (upR r 14 (upd (r 14) k x1)) f) H := gMr_14 hP
  have hD : va_D (gF z 20) (wRM G z (upR r 14 (upd (r 14) k x1)) f) := gD_RM hz
  refine lv_aload_n hx hb dX7_opens_16 rfl (lv_at hl 1 rfl) ?_
  refine va_get (D := G.1) (ci := 7) (v := .ref (z 16)) (C := RX7) (T := TX7) (N := 26) hx hb hts hinX7 hown hK.1 hP 0 rfl rfl 22 (by decide) (hts (.fieldLink RX7 60 "RotaforgeModel" "openeds" "[I") (by decide +kernel)) (fun _ h9 => h9) rfl dX7_opens_17 ?_
  refine lv_aload_n hx hb dX7_opens_20 rfl (lv_at hl 1 rfl) ?_
  refine va_get (D := G.1) (ci := 7) (v := .int (f 6)) (C := RX7) (T := TX7) (N := 26) hx hb hts hinX7 hown hK.1 hP 0 rfl rfl 20 (by decide) (hts (.fieldLink RX7 82 "RotaforgeModel" "incidentMany" "I") (by decide +kernel)) (fun _ h9 => h9) rfl dX7_opens_21 ?_
  refine lv_aload_n hx hb dX7_opens_24 rfl (lv_at hl 1 rfl) ?_
  refine va_get (D := G.1) (ci := 7) (v := .int (f 1)) (C := RX7) (T := TX7) (N := 26) hx hb hts hinX7 hown hK.1 hP 0 rfl rfl 1 (by decide) (hts (.fieldLink RX7 120 "RotaforgeModel" "time" "I") (by decide +kernel)) (fun _ h9 => h9) rfl dX7_opens_25 ?_
  refine g_iast hx hb hK.1 hP hD hS 16 0 rfl rfl k (hk) (by omega) (by decide) dX7_opens_28 (fun H locs hP hD hS => ?_)
  have hP : va_P G.1 vwCl (wRM G z (upR (upR r 14 (upd (r 14) k x1)) 15 (upd (r 15) k (f 1))) f) H := gMr_15 hP
  have hD : va_D (gF z 20) (wRM G z (upR (upR r 14 (upd (r 14) k x1)) 15 (upd (r 15) k (f 1))) f) := gD_RM hz
  refine lv_aload_n hx hb dX7_opens_29 rfl (lv_at hl 1 rfl) ?_
  refine va_get (D := G.1) (ci := 7) (v := .ref (z 17)) (C := RX7) (T := TX7) (N := 26) hx hb hts hinX7 hown hK.1 hP 0 rfl rfl 23 (by decide) (hts (.fieldLink RX7 63 "RotaforgeModel" "closeds" "[I") (by decide +kernel)) (fun _ h9 => h9) rfl dX7_opens_30 ?_
  refine lv_aload_n hx hb dX7_opens_33 rfl (lv_at hl 1 rfl) ?_
  refine va_get (D := G.1) (ci := 7) (v := .int (f 6)) (C := RX7) (T := TX7) (N := 26) hx hb hts hinX7 hown hK.1 hP 0 rfl rfl 20 (by decide) (hts (.fieldLink RX7 82 "RotaforgeModel" "incidentMany" "I") (by decide +kernel)) (fun _ h9 => h9) rfl dX7_opens_34 ?_
  refine lv_iconst (v := (-1)) hx hb dX7_opens_37 (by decide +kernel) ?_
  refine g_iast hx hb hK.1 hP hD hS 17 0 rfl rfl k (hk) (by omega) (by decide) dX7_opens_38 (fun H locs hP hD hS => ?_)
  have hP : va_P G.1 vwCl (wRM G z (upR (upR (upR r 14 (upd (r 14) k x1)) 15 (upd (r 15) k (f 1))) 16 (upd (r 16) k (-1))) f) H := gMr_16 hP
  have hD : va_D (gF z 20) (wRM G z (upR (upR (upR r 14 (upd (r 14) k x1)) 15 (upd (r 15) k (f 1))) 16 (upd (r 16) k (-1))) f) := gD_RM hz
  refine lv_aload_n hx hb dX7_opens_39 rfl (lv_at hl 1 rfl) ?_
  refine va_get (D := G.1) (ci := 7) (v := .ref (z 18)) (C := RX7) (T := TX7) (N := 26) hx hb hts hinX7 hown hK.1 hP 0 rfl rfl 24 (by decide) (hts (.fieldLink RX7 66 "RotaforgeModel" "traced" "[I") (by decide +kernel)) (fun _ h9 => h9) rfl dX7_opens_40 ?_
  refine lv_aload_n hx hb dX7_opens_43 rfl (lv_at hl 1 rfl) ?_
  refine va_get (D := G.1) (ci := 7) (v := .int (f 6)) (C := RX7) (T := TX7) (N := 26) hx hb hts hinX7 hown hK.1 hP 0 rfl rfl 20 (by decide) (hts (.fieldLink RX7 82 "RotaforgeModel" "incidentMany" "I") (by decide +kernel)) (fun _ h9 => h9) rfl dX7_opens_44 ?_
  refine lv_iload_n hx hb dX7_opens_47 rfl (lv_at hl 0 rfl) ?_
  refine g_iast hx hb hK.1 hP hD hS 18 0 rfl rfl k (hk) (by omega) (by decide) dX7_opens_48 (fun H locs hP hD hS => ?_)
  have hP : va_P G.1 vwCl (wRM G z (upR (upR (upR (upR r 14 (upd (r 14) k x1)) 15 (upd (r 15) k (f 1))) 16 (upd (r 16) k (-1))) 17 (upd (r 17) k (mTrace r n d x1))) f) H := gMr_17 hP
  have hD : va_D (gF z 20) (wRM G z (upR (upR (upR (upR r 14 (upd (r 14) k x1)) 15 (upd (r 15) k (f 1))) 16 (upd (r 16) k (-1))) 17 (upd (r 17) k (mTrace r n d x1))) f) := gD_RM hz
  refine lv_aload_n hx hb dX7_opens_49 rfl (lv_at hl 1 rfl) ?_
  refine va_get (D := G.1) (ci := 7) (v := .ref (z 19)) (C := RX7) (T := TX7) (N := 26) hx hb hts hinX7 hown hK.1 hP 0 rfl rfl 25 (by decide) (hts (.fieldLink RX7 69 "RotaforgeModel" "firsts" "[I") (by decide +kernel)) (fun _ h9 => h9) rfl dX7_opens_50 ?_
  refine lv_aload_n hx hb dX7_opens_53 rfl (lv_at hl 1 rfl) ?_
  refine va_get (D := G.1) (ci := 7) (v := .int (f 6)) (C := RX7) (T := TX7) (N := 26) hx hb hts hinX7 hown hK.1 hP 0 rfl rfl 20 (by decide) (hts (.fieldLink RX7 82 "RotaforgeModel" "incidentMany" "I") (by decide +kernel)) (fun _ h9 => h9) rfl dX7_opens_54 ?_
  refine lv_iconst (v := (-1)) hx hb dX7_opens_57 (by decide +kernel) ?_
  refine g_iast hx hb hK.1 hP hD hS 19 0 rfl rfl k (hk) (by omega) (by decide) dX7_opens_58 (fun H locs hP hD hS => ?_)
  have hP : va_P G.1 vwCl (wRM G z (upR (upR (upR (upR (upR r 14 (upd (r 14) k x1)) 15 (upd (r 15) k (f 1))) 16 (upd (r 16) k (-1))) 17 (upd (r 17) k (mTrace r n d x1))) 18 (upd (r 18) k (-1))) f) H := gMr_18 hP
  have hD : va_D (gF z 20) (wRM G z (upR (upR (upR (upR (upR r 14 (upd (r 14) k x1)) 15 (upd (r 15) k (f 1))) 16 (upd (r 16) k (-1))) 17 (upd (r 17) k (mTrace r n d x1))) 18 (upd (r 18) k (-1))) f) := gD_RM hz
  refine lv_aload_n hx hb dX7_opens_59 rfl (lv_at hl 1 rfl) ?_
  refine lv_dup hx hb dX7_opens_60 rfl ?_
  refine va_get (D := G.1) (ci := 7) (v := .int (f 6)) (C := RX7) (T := TX7) (N := 26) hx hb hts hinX7 hown hK.1 hP 0 rfl rfl 20 (by decide) (hts (.fieldLink RX7 82 "RotaforgeModel" "incidentMany" "I") (by decide +kernel)) (fun _ h9 => h9) rfl dX7_opens_61 ?_
  refine lv_iconst (v := nI 1) hx hb dX7_opens_64 (by decide +kernel) ?_
  refine lv_iadd hx hb dX7_opens_65 ?_
  refine va_put (D := G.1) (ci := 7) (v := .int ((f 6) + (nI 1))) (ty := .int) (C := RX7) (T := TX7) (N := 26) hx hb hts hinX7 tyX7 tyX7_ok nmX7 hown hK.1 hP hD hS 0 rfl rfl 20 (by decide) (hts (.fieldLink RX7 82 "RotaforgeModel" "incidentMany" "I") (by decide +kernel)) (fun _ h9 => h9) rfl (by decide +kernel) rfl rfl (Nat.le_of_ble_eq_true rfl) dX7_opens_66 (fun H locs hP hD hS => ?_)
  have hP : va_P G.1 vwCl (wRM G z (upR (upR (upR (upR (upR r 14 (upd (r 14) k x1)) 15 (upd (r 15) k (f 1))) 16 (upd (r 16) k (-1))) 17 (upd (r 17) k (mTrace r n d x1))) 18 (upd (r 18) k (-1))) (upF f 6 ((f 6) + (nI 1)))) H := gMs_6 hP
  have hD : va_D (gF z 20) (wRM G z (upR (upR (upR (upR (upR r 14 (upd (r 14) k x1)) 15 (upd (r 15) k (f 1))) 16 (upd (r 16) k (-1))) 17 (upd (r 17) k (mTrace r n d x1))) 18 (upd (r 18) k (-1))) (upF f 6 ((f 6) + (nI 1)))) := gD_RM hz
  refine lv_iload_n hx hb dX7_opens_69 rfl (lv_at hl 0 rfl) ?_
  refine lv_iconst (v := (-1)) hx hb dX7_opens_70 (by decide +kernel) ?_
  refine lv_icmp_eq (tgt := 89) hx hb dX7_opens_71 (by decide) (fun c_1 => ?_) (fun c_1 => ?_)
  · have hPf : va_P G.1 vwCl (wRM G z (mOpenR r f n d k x1) (upF f 6 (f 6 + nI 1))) H := by
      unfold mOpenR
      simp only [eq_true c_1, ↓reduceIte]
      exact hP
    exact W.vret hx hb hr (fun t ht _ => ⟨⟨(), rfl, trivial, g_hp ht hPf⟩, hS.F ht⟩) hS.2.2 dX7_opens_89
  · refine lv_aload_n hx hb dX7_opens_74 rfl (lv_at hl 1 rfl) ?_
    refine va_get (D := G.1) (ci := 7) (v := .ref (z 11)) (C := RX7) (T := TX7) (N := 26) hx hb hts hinX7 hown hK.1 hP 0 rfl rfl 15 (by decide) (hts (.fieldLink RX7 45 "RotaforgeModel" "blots" "[I") (by decide +kernel)) (fun _ h9 => h9) rfl dX7_opens_75 ?_
    refine lv_aload_n hx hb dX7_opens_78 rfl (lv_at hl 1 rfl) ?_
    refine va_get (D := G.1) (ci := 7) (v := .ref (z 5)) (C := RX7) (T := TX7) (N := 26) hx hb hts hinX7 hown hK.1 hP 0 rfl rfl 9 (by decide) (hts (.fieldLink RX7 27 "RotaforgeModel" "makers" "[I") (by decide +kernel)) (fun _ h9 => h9) rfl dX7_opens_79 ?_
    refine lv_iload_n hx hb dX7_opens_82 rfl (lv_at hl 0 rfl) ?_
    refine va_iald hx hb hK.1 hP 5 0 rfl rfl (by obtain ⟨j, h1, h2⟩ := mTrace_in c_1; rw [h2]; exact vp_in_nI (by omega) (by decide)) dX7_opens_83 ?_
    refine lv_dup2_11 hx hb dX7_opens_84 rfl rfl ?_
    refine g_iald hx hb hK.1 hP 11 0 rfl rfl (mMk r (mTrace r n d x1)) ((mMk_ok hm (by omega) c_1).1) ((mMk_ok hm (by omega) c_1).2) (by decide) dX7_opens_85 ?_
    refine lv_iconst (v := nI 1) hx hb dX7_opens_86 (by decide +kernel) ?_
    refine lv_iadd hx hb dX7_opens_87 ?_
    refine g_iast hx hb hK.1 hP hD hS 11 0 rfl rfl (mMk r (mTrace r n d x1)) ((mMk_ok hm (by omega) c_1).1) ((mMk_ok hm (by omega) c_1).2) (by decide) dX7_opens_88 (fun H locs hP hD hS => ?_)
    have hP : va_P G.1 vwCl (wRM G z (upR (upR (upR (upR (upR (upR r 14 (upd (r 14) k x1)) 15 (upd (r 15) k (f 1))) 16 (upd (r 16) k (-1))) 17 (upd (r 17) k (mTrace r n d x1))) 18 (upd (r 18) k (-1))) 10 (upd (r 10) (mMk r (mTrace r n d x1)) (((r 10) (mMk r (mTrace r n d x1))) + (nI 1)))) (upF f 6 ((f 6) + (nI 1)))) H := gMr_10 hP
    have hD : va_D (gF z 20) (wRM G z (upR (upR (upR (upR (upR (upR r 14 (upd (r 14) k x1)) 15 (upd (r 15) k (f 1))) 16 (upd (r 16) k (-1))) 17 (upd (r 17) k (mTrace r n d x1))) 18 (upd (r 18) k (-1))) 10 (upd (r 10) (mMk r (mTrace r n d x1)) (((r 10) (mMk r (mTrace r n d x1))) + (nI 1)))) (upF f 6 ((f 6) + (nI 1)))) := gD_RM hz
    have hPf : va_P G.1 vwCl (wRM G z (mOpenR r f n d k x1) (upF f 6 (f 6 + nI 1))) H := by
      unfold mOpenR
      simp only [eq_false c_1, ↓reduceIte]
      exact hP
    exact W.vret hx hb hr (fun t ht _ => ⟨⟨(), rfl, trivial, g_hp ht hPf⟩, hS.F ht⟩) hS.2.2 dX7_opens_89

set_option maxHeartbeats 4000000 in
set_option maxRecDepth 100000 in
theorem c_X7_rings (l : Launch) (G : gG) (H0 : Heap) (z : Nat → Nat) (hz : gDis z 20) (r : Nat → Nat → Int32) (f : Nat → Int32) (hP : va_P G.1 vwCl (wRM G z r f) H0) (x1 : Int32) (n d k t h a b : Nat) (hM : mOK r f n d k t) (hh9 : r 9 (t / 14) = nI h) (hh8 : h < 6) (ha : x1 = nI a) (hb9 : k = a + b) : gMwv l yX7_rings wsX7_rings 2 43 G H0 [.ref (z 0), .int x1] (wRM G z (mRgR r f t h a b) (mRgF r f t h)) (gF z 20) := by
  refine Met.ofW (cc := cX7_rings) (maxL := 4) (ret := none) (by decide) rfl ?_
  intro p_ e_ s m args below meth c s₁ B hml hv
  obtain ⟨rfl, rfl, hK⟩ := hv
  have hx := B.exec
  have hb := B.bytes
  have hr := B.returns
  have hts := atoms_spec (ws := wsX7_rings) B.pre
  have hown : s.vm.findClass RX7 = some m.cls := findClass_of_methodNamed B.named
  have hlocks := B.notSynchronized
  have hinX7 : ∀ w ∈ wsX70, w ∈ wsX7_rings := by decide +kernel
  have S0 : CallFix p_ m c cX7_rings 4 s _ wsX7_rings RX7 := ⟨hx, hb, hml, hown, hts⟩
  have hD : va_D (gF z 20) (wRM G z r f) := gD_RM hz
  have hS : va_S (gF z 20) s.heap s.heap [] := va_S.rf
  have hl := lv_entry ([.ref (z 0), .int x1]) (n := 4) (Nat.le_of_ble_eq_true rfl)
  rw [lg_entry_eq]
  generalize (lg_sl ([.ref (z 0), .int x1]) ++ List.replicate (4 - (lg_sl ([.ref (z 0), .int x1])).length) Slot.unset).toArray = ls at hl ⊢
  have hl : lv_has ls 4 [(0, .ref (z 0)), (1, .int x1)] := hl
  obtain ⟨hn, hn2, hd, hd2, hk, hk2, ht, ht2, hh, hm⟩ := id hM
  subst ha
  refine lv_aload_n hx hb dX7_rings_0 rfl (lv_at hl 0 rfl) ?_
  refine g_callC (W.runV (C := RX7) (As := []) (rest := []) S0 (c_X7_called l G _ z r f hP n d k t h hM hh9 hh8) (cwV 0 hts gX7_rings_X7_called rfl rfl rfl (by decide +kernel) ⟨Nat.le_of_ble_eq_true rfl, Nat.le_of_ble_eq_true rfl⟩) (g_preV hK hP (q0 := 0) (ci := 7) (q := (RX7, TX7, 26)) rfl rfl) rfl rfl hl.1 rfl (lv_room (Nat.le_of_ble_eq_true rfl)) dX7_rings_1 ⟨Nat.zero_le _, Nat.zero_le _⟩) ?_
  refine lv_istore_n (lv' := [(2, .int (mCalled r f t h)), (0, .ref (z 0)), (1, .int (nI a))]) hx hb dX7_rings_4 rfl hl (by decide) rfl (fun ls hl => ?_)
  refine lv_iload_n hx hb dX7_rings_5 rfl (lv_at hl 2 rfl) ?_
  refine lv_istore_n (lv' := [(3, .int (nI a)), (2, .int (mCalled r f t h)), (0, .ref (z 0)), (1, .int (nI a))]) hx hb dX7_rings_6 rfl hl (by decide) rfl (fun ls hl => ?_)
  refine g_loopW (fun H locs g => W p_ l e_ _ s m _ below meth c H locs _ _ _ g) m 7 4 [] (b) (fun i => [(3, .int (nI (a + i))), (2, .int (mCalled r f t h)), (0, .ref (z 0)), (1, .int (nI a))]) (fun i H locs => va_P G.1 vwCl (wRM G z (mFiR r a i (mCalled r f t h)) f) H ∧ va_S (gF z 20) s.heap H locs ∧ True) (fun i H locs hi7 hI ih7 ls hl => ?_) 0 _ _ (Nat.zero_le _) ⟨hP, hS, trivial⟩ ls ?_
  · obtain ⟨hP, hS, hI⟩ := hI
    have hP : va_P G.1 vwCl (wRM G z (mFiR r a i (mCalled r f t h)) f) H := hP
    have hD : va_D (gF z 20) (wRM G z (mFiR r a i (mCalled r f t h)) f) := gD_RM hz
    have hl : lv_has ls 4 [(3, .int (nI (a + i))), (2, .int (mCalled r f t h)), (0, .ref (z 0)), (1, .int (nI a))] := hl
    have hI : True := hI
    refine lv_iload_n hx hb dX7_rings_7 rfl (lv_at hl 0 rfl) ?_
    refine lv_aload_n hx hb dX7_rings_8 rfl (lv_at hl 2 rfl) ?_
    refine va_get (D := G.1) (ci := 7) (v := .int (f 6)) (C := RX7) (T := TX7) (N := 26) hx hb hts hinX7 hown hK.1 hP 0 rfl rfl 20 (by decide) (hts (.fieldLink RX7 82 "RotaforgeModel" "incidentMany" "I") (by decide +kernel)) (fun _ h9 => h9) rfl dX7_rings_9 ?_
    refine lv_icmp_ge (tgt := 28) hx hb dX7_rings_12 (by decide) (fun c_1 => ?_) (fun c_1 => ?_)
    · have hex : b = i := by
        rw [hk] at c_1
        have h9 := (nI_leI (a := k) (b := a + i) (by omega) (by omega)).mp c_1
        omega
      subst hex
      refine lv_iload_n hx hb dX7_rings_28 rfl (lv_at hl 1 rfl) ?_
      refine lv_iconst (v := (-1)) hx hb dX7_rings_29 (by decide +kernel) ?_
      refine lv_icmp_ne (tgt := 46) hx hb dX7_rings_30 (by decide) (fun c_2 => ?_) (fun c_2 => ?_)
      · have HNE := c_2
        refine lv_aload_n hx hb dX7_rings_46 rfl (lv_at hl 2 rfl) ?_
        refine va_get (D := G.1) (ci := 7) (v := .int (f 1)) (C := RX7) (T := TX7) (N := 26) hx hb hts hinX7 hown hK.1 hP 0 rfl rfl 1 (by decide) (hts (.fieldLink RX7 120 "RotaforgeModel" "time" "I") (by decide +kernel)) (fun _ h9 => h9) rfl dX7_rings_47 ?_
        refine lv_iconst (v := nI 2) hx hb dX7_rings_50 (by decide +kernel) ?_
        refine lv_irem hx hb dX7_rings_51 (by decide) ?_
        refine lv_if_ne (tgt := 68) hx hb dX7_rings_52 (by decide) (fun c_3 => ?_) (fun c_3 => ?_)
        · refine lv_aload_n hx hb dX7_rings_68 rfl (lv_at hl 2 rfl) ?_
          refine va_get (D := G.1) (ci := 7) (v := .ref (z 14)) (C := RX7) (T := TX7) (N := 26) hx hb hts hinX7 hown hK.1 hP 0 rfl rfl 18 (by decide) (hts (.fieldLink RX7 54 "RotaforgeModel" "nightCalls" "[I") (by decide +kernel)) (fun _ h9 => h9) rfl dX7_rings_69 ?_
          refine lv_iload_n hx hb dX7_rings_72 rfl (lv_at hl 1 rfl) ?_
          refine lv_dup2_11 hx hb dX7_rings_73 rfl rfl ?_
          refine g_iald hx hb hK.1 hP 14 0 rfl rfl ((mCalled r f t h).toNatClampNeg) ((q_nn (mCalled_ok hh9 hh8) HNE (by decide)).1) ((q_nn (mCalled_ok hh9 hh8) HNE (by decide)).2) (by decide) dX7_rings_74 ?_
          refine lv_iconst (v := nI 1) hx hb dX7_rings_75 (by decide +kernel) ?_
          refine lv_iadd hx hb dX7_rings_76 ?_
          refine g_iast hx hb hK.1 hP hD hS 14 0 rfl rfl ((mCalled r f t h).toNatClampNeg) ((q_nn (mCalled_ok hh9 hh8) HNE (by decide)).1) ((q_nn (mCalled_ok hh9 hh8) HNE (by decide)).2) (by decide) dX7_rings_77 (fun H locs hP hD hS => ?_)
          have hP : va_P G.1 vwCl (wRM G z (upR (mFiR r a b (mCalled r f t h)) 13 (upd ((mFiR r a b (mCalled r f t h)) 13) ((mCalled r f t h).toNatClampNeg) ((((mFiR r a b (mCalled r f t h)) 13) ((mCalled r f t h).toNatClampNeg)) + (nI 1)))) f) H := gMr_13 hP
          have hD : va_D (gF z 20) (wRM G z (upR (mFiR r a b (mCalled r f t h)) 13 (upd ((mFiR r a b (mCalled r f t h)) 13) ((mCalled r f t h).toNatClampNeg) ((((mFiR r a b (mCalled r f t h)) 13) ((mCalled r f t h).toNatClampNeg)) + (nI 1)))) f) := gD_RM hz
          refine lv_aload_n hx hb dX7_rings_78 rfl (lv_at hl 2 rfl) ?_
          refine va_get (D := G.1) (ci := 7) (v := .ref (z 12)) (C := RX7) (T := TX7) (N := 26) hx hb hts hinX7 hown hK.1 hP 0 rfl rfl 16 (by decide) (hts (.fieldLink RX7 48 "RotaforgeModel" "nights" "[I") (by decide +kernel)) (fun _ h9 => h9) rfl dX7_rings_79 ?_
          refine lv_iload_n hx hb dX7_rings_82 rfl (lv_at hl 1 rfl) ?_
          refine lv_aload_n hx hb dX7_rings_83 rfl (lv_at hl 2 rfl) ?_
          refine va_get (D := G.1) (ci := 7) (v := .int (f 1)) (C := RX7) (T := TX7) (N := 26) hx hb hts hinX7 hown hK.1 hP 0 rfl rfl 1 (by decide) (hts (.fieldLink RX7 120 "RotaforgeModel" "time" "I") (by decide +kernel)) (fun _ h9 => h9) rfl dX7_rings_84 ?_
          refine g_iast hx hb hK.1 hP hD hS 12 0 rfl rfl ((mCalled r f t h).toNatClampNeg) ((q_nn (mCalled_ok hh9 hh8) HNE (by decide)).1) ((q_nn (mCalled_ok hh9 hh8) HNE (by decide)).2) (by decide) dX7_rings_87 (fun H locs hP hD hS => ?_)
          have hP : va_P G.1 vwCl (wRM G z (upR (upR (mFiR r a b (mCalled r f t h)) 13 (upd ((mFiR r a b (mCalled r f t h)) 13) ((mCalled r f t h).toNatClampNeg) ((((mFiR r a b (mCalled r f t h)) 13) ((mCalled r f t h).toNatClampNeg)) + (nI 1)))) 11 (upd ((mFiR r a b (mCalled r f t h)) 11) ((mCalled r f t h).toNatClampNeg) (f 1))) f) H := gMr_11 hP
          have hD : va_D (gF z 20) (wRM G z (upR (upR (mFiR r a b (mCalled r f t h)) 13 (upd ((mFiR r a b (mCalled r f t h)) 13) ((mCalled r f t h).toNatClampNeg) ((((mFiR r a b (mCalled r f t h)) 13) ((mCalled r f t h).toNatClampNeg)) + (nI 1)))) 11 (upd ((mFiR r a b (mCalled r f t h)) 11) ((mCalled r f t h).toNatClampNeg) (f 1))) f) := gD_RM hz
          have hPf : va_P G.1 vwCl (wRM G z (mRgR r f t h a b) (mRgF r f t h)) H := by
            unfold mRgR mRgF
            simp only [eq_true c_1, eq_false c_2, eq_false c_3, ↓reduceIte]
            exact hP
          exact W.vret hx hb hr (fun t ht _ => ⟨⟨(), rfl, trivial, g_hp ht hPf⟩, hS.F ht⟩) hS.2.2 dX7_rings_88
        · refine lv_aload_n hx hb dX7_rings_55 rfl (lv_at hl 2 rfl) ?_
          refine va_get (D := G.1) (ci := 7) (v := .ref (z 13)) (C := RX7) (T := TX7) (N := 26) hx hb hts hinX7 hown hK.1 hP 0 rfl rfl 17 (by decide) (hts (.fieldLink RX7 51 "RotaforgeModel" "dayCalls" "[I") (by decide +kernel)) (fun _ h9 => h9) rfl dX7_rings_56 ?_
          refine lv_iload_n hx hb dX7_rings_59 rfl (lv_at hl 1 rfl) ?_
          refine lv_dup2_11 hx hb dX7_rings_60 rfl rfl ?_
          refine g_iald hx hb hK.1 hP 13 0 rfl rfl ((mCalled r f t h).toNatClampNeg) ((q_nn (mCalled_ok hh9 hh8) HNE (by decide)).1) ((q_nn (mCalled_ok hh9 hh8) HNE (by decide)).2) (by decide) dX7_rings_61 ?_
          refine lv_iconst (v := nI 1) hx hb dX7_rings_62 (by decide +kernel) ?_
          refine lv_iadd hx hb dX7_rings_63 ?_
          refine g_iast hx hb hK.1 hP hD hS 13 0 rfl rfl ((mCalled r f t h).toNatClampNeg) ((q_nn (mCalled_ok hh9 hh8) HNE (by decide)).1) ((q_nn (mCalled_ok hh9 hh8) HNE (by decide)).2) (by decide) dX7_rings_64 (fun H locs hP hD hS => ?_)
          have hP : va_P G.1 vwCl (wRM G z (upR (mFiR r a b (mCalled r f t h)) 12 (upd ((mFiR r a b (mCalled r f t h)) 12) ((mCalled r f t h).toNatClampNeg) ((((mFiR r a b (mCalled r f t h)) 12) ((mCalled r f t h).toNatClampNeg)) + (nI 1)))) f) H := gMr_12 hP
          have hD : va_D (gF z 20) (wRM G z (upR (mFiR r a b (mCalled r f t h)) 12 (upd ((mFiR r a b (mCalled r f t h)) 12) ((mCalled r f t h).toNatClampNeg) ((((mFiR r a b (mCalled r f t h)) 12) ((mCalled r f t h).toNatClampNeg)) + (nI 1)))) f) := gD_RM hz
          refine lv_goto (tgt := 88) hx hb dX7_rings_65 (by decide) ?_
          have hPf : va_P G.1 vwCl (wRM G z (mRgR r f t h a b) (mRgF r f t h)) H := by
            unfold mRgR mRgF
            simp only [eq_true c_1, eq_false c_2, eq_true c_3, ↓reduceIte]
            exact hP
          exact W.vret hx hb hr (fun t ht _ => ⟨⟨(), rfl, trivial, g_hp ht hPf⟩, hS.F ht⟩) hS.2.2 dX7_rings_88
      · refine lv_aload_n hx hb dX7_rings_33 rfl (lv_at hl 2 rfl) ?_
        refine lv_dup hx hb dX7_rings_34 rfl ?_
        refine va_get (D := G.1) (ci := 7) (v := .int (f 5)) (C := RX7) (T := TX7) (N := 26) hx hb hts hinX7 hown hK.1 hP 0 rfl rfl 19 (by decide) (hts (.fieldLink RX7 155 "RotaforgeModel" "missed" "I") (by decide +kernel)) (fun _ h9 => h9) rfl dX7_rings_35 ?_
        refine lv_iconst (v := nI 1) hx hb dX7_rings_38 (by decide +kernel) ?_
        refine lv_iadd hx hb dX7_rings_39 ?_
        refine va_put (D := G.1) (ci := 7) (v := .int ((f 5) + (nI 1))) (ty := .int) (C := RX7) (T := TX7) (N := 26) hx hb hts hinX7 tyX7 tyX7_ok nmX7 hown hK.1 hP hD hS 0 rfl rfl 19 (by decide) (hts (.fieldLink RX7 155 "RotaforgeModel" "missed" "I") (by decide +kernel)) (fun _ h9 => h9) rfl (by decide +kernel) rfl rfl (Nat.le_of_ble_eq_true rfl) dX7_rings_40 (fun H locs hP hD hS => ?_)
        have hP : va_P G.1 vwCl (wRM G z (mFiR r a b (mCalled r f t h)) (upF f 5 ((f 5) + (nI 1)))) H := gMs_5 hP
        have hD : va_D (gF z 20) (wRM G z (mFiR r a b (mCalled r f t h)) (upF f 5 ((f 5) + (nI 1)))) := gD_RM hz
        refine lv_goto (tgt := 88) hx hb dX7_rings_43 (by decide) ?_
        have hPf : va_P G.1 vwCl (wRM G z (mRgR r f t h a b) (mRgF r f t h)) H := by
          unfold mRgR mRgF
          simp only [eq_true c_1, eq_true c_2, ↓reduceIte]
          exact hP
        exact W.vret hx hb hr (fun t ht _ => ⟨⟨(), rfl, trivial, g_hp ht hPf⟩, hS.F ht⟩) hS.2.2 dX7_rings_88
    · have hlt : i < b := by
        rw [hk] at c_1
        have h9 := mt (nI_leI (a := k) (b := a + i) (by omega) (by omega)).mpr c_1
        omega
      refine lv_aload_n hx hb dX7_rings_15 rfl (lv_at hl 2 rfl) ?_
      refine va_get (D := G.1) (ci := 7) (v := .ref (z 19)) (C := RX7) (T := TX7) (N := 26) hx hb hts hinX7 hown hK.1 hP 0 rfl rfl 25 (by decide) (hts (.fieldLink RX7 69 "RotaforgeModel" "firsts" "[I") (by decide +kernel)) (fun _ h9 => h9) rfl dX7_rings_16 ?_
      refine lv_iload_n hx hb dX7_rings_19 rfl (lv_at hl 0 rfl) ?_
      refine lv_iload_n hx hb dX7_rings_20 rfl (lv_at hl 1 rfl) ?_
      refine g_iast hx hb hK.1 hP hD hS 19 0 rfl rfl (a + i) (rfl) (by omega) (by decide) dX7_rings_21 (fun H locs hP hD hS => ?_)
      have hP : va_P G.1 vwCl (wRM G z (upR (mFiR r a i (mCalled r f t h)) 18 (upd ((mFiR r a i (mCalled r f t h)) 18) (a + i) (mCalled r f t h))) f) H := gMr_18 hP
      have hD : va_D (gF z 20) (wRM G z (upR (mFiR r a i (mCalled r f t h)) 18 (upd ((mFiR r a i (mCalled r f t h)) 18) (a + i) (mCalled r f t h))) f) := gD_RM hz
      refine lv_iinc (v := (nI (a + i)) + nI 1) (lv' := [(3, .int ((nI (a + i)) + nI 1)), (2, .int (mCalled r f t h)), (0, .ref (z 0)), (1, .int (nI a))]) hx hb dX7_rings_22 hl (k := 0) rfl (congrArg (fun q : Int32 => (nI (a + i)) + q) (by decide +kernel)) (by decide) rfl (fun ls hl => ?_)
      refine lv_goto (tgt := 7) hx hb dX7_rings_25 (by decide) ?_
      have hPn : va_P G.1 vwCl (wRM G z (mFiR r a (i + 1) (mCalled r f t h)) f) H := by
        exact hP
      exact ih7 _ _ _ (by omega) ⟨hPn, hS, trivial⟩ (lv_cv (show lv_has ls 4 [(3, .int ((nI (a + i)) + nI 1)), (2, .int (mCalled r f t h)), (0, .ref (z 0)), (1, .int (nI a))] from lv_sub hl [0, 1, 2, 3] rfl) (gl_i (show (nI (a + i)) + nI 1 = nI (a + (i + 1)) by rw [nI_add, Nat.add_assoc]) (gl_s (gl_s (gl_s rfl)))))
  · exact (lv_cv (show lv_has ls 4 [(3, .int (nI a)), (2, .int (mCalled r f t h)), (0, .ref (z 0)), (1, .int (nI a))] from lv_sub hl [0, 1, 2, 3] rfl) (gl_i (show nI a = nI (a + 0) by first | with_reducible rfl | with_reducible exact nI_add _ _ | (simp only [true_and, ↓reduceIte, Bool.false_eq_true, decide_true, decide_false, Bool.not_true, Bool.not_false, Bool.or_true, Bool.true_or, Bool.or_false, Bool.false_or]; done) | (simp only [true_and, ↓reduceIte, Bool.false_eq_true, decide_true, decide_false, Bool.not_true, Bool.not_false, Bool.or_true, Bool.true_or, Bool.or_false, Bool.false_or]; with_reducible rfl) | (simp only [true_and, ↓reduceIte, Bool.false_eq_true, decide_true, decide_false, Bool.not_true, Bool.not_false, Bool.or_true, Bool.true_or, Bool.or_false, Bool.false_or]; rfl) | (simp [b2i, true_and]; done) | rfl) (gl_s (gl_s (gl_s rfl)))))
