def gO (z : Nat → Nat) (o : Nat) : Nat → Prop := fun q => gF z 50 q ∨ q = o
def gCode (c1 c2 c3 : Int32) (K : Nat) : Int32 := if K = 0 then nI 0 else if K = 1 then c1 else if K = 2 then c2 else c3
abbrev gOut (G : gG) (o : Nat) (g : Nat → Int64) : Nat × va_E := (o, .inl (gJ G, 1, .inr (.inl g)))
abbrev gML (l : Launch) (y : MethodName) (ws : List Cond) (fr lo mc : Nat) (G : gG) (H0 : Heap) (z : Nat → Nat) (o : Nat) (av : List Value) (K : Nat) (code E : Int32) (w' w0 : va_W) : Prop := Met l y ws { frames := fr, cells := mc, slots := 6 * mc, locals := lo } (gPx G H0 av) (va_Qi (fun (x : Int32) (_ : Nat → Int64) => x = code) (fun g t => va_P G.1 vwCl (if K = 0 then w' else w0) t.heap ∧ va_at G.1 vwCl (gOut G o g) t.heap ∧ (K = 0 → g 0 = E.toInt64)) (gO z o)) mc (6 * mc) (gO z o)
theorem gO_P {D : va_G} {cl : List vw_C} {x : Nat × va_E} {H : Heap} (h : va_at D cl x H) : va_P D cl [x] H := fun k q hk => by
  have h1 : k < 1 := (List.getElem?_eq_some_iff.mp hk).1
  have h2 : k = 0 := by omega
  subst h2
  cases hk
  exact h
theorem gO_no {z : Nat → Nat} {o : Nat} (h : ∀ k, k < 50 → ¬ o = z k) : ¬ gF z 50 o := fun ⟨k, hk, e⟩ => h k hk e
theorem gO_D {G : gG} {z : Nat → Nat} {o : Nat} {r : Nat → Nat → Int32} {f : Nat → Int32} {x : va_E} (hz : gDis z 50) (h : ∀ k, k < 50 → ¬ o = z k) : va_D (gO z o) (wRF G z r f ++ [(o, x)]) := by
  have h1 : va_D (gF z 50) (wRF G z r f) := gD_RF hz
  refine va_D.app (h1.weaken (fun k q hq _ => Or.inl (h1.2 k q hq))) ⟨fun i j p q hi hj _ => ?_, fun k q hk => ?_⟩ (fun i j p q hi hj e => ?_)
  · have h1 : i < 1 := (List.getElem?_eq_some_iff.mp hi).1
    have h2 : j < 1 := (List.getElem?_eq_some_iff.mp hj).1
    omega
  · have h1 : k < 1 := (List.getElem?_eq_some_iff.mp hk).1
    have h2 : k = 0 := by omega
    subst h2
    cases hk
    exact Or.inr rfl
  · have h3 : j < 1 := (List.getElem?_eq_some_iff.mp hj).1
    have h2 : j = 0 := by omega
    subst h2
    cases hj
    have h4 := h1.2 i p hi
    rw [show p.1 = o from e] at h4
    exact gO_no h h4
theorem gO_l {D : va_G} {cl : List vw_C} {G : gG} {z : Nat → Nat} {r : Nat → Nat → Int32} {f : Nat → Int32} {x y : Nat × va_E} {H : Heap} (h : va_P D cl ((wRF G z r f ++ [x]).set 50 y) H) : va_P D cl (wRF G z r f) H := h.sub (List.range 50) rfl
theorem gO_u (g : Nat → Int64) (x : Int64) : vp_updL g (nI 0).toNatClampNeg x 0 = x := rfl
set_option maxHeartbeats 4000000 in
set_option maxRecDepth 100000 in
theorem c_L_build (l : Launch) (hfl : l.stackTraces = false) (G : gG) (H0 : Heap) (z : Nat → Nat) (hz : gDis z 50) (r : Nat → Nat → Int32) (f : Nat → Int32) (hP : va_P G.1 vwCl (wRF G z r f) H0) (o : Nat) (g0 : Nat → Int64) (hO : va_at G.1 vwCl (gOut G o g0) H0) (hoz : ∀ k, k < 50 → ¬ o = z k) (hK9 : (kBuild f) = 0 ∨ (kBuild f) = 3) : gML l yL_build wsL_build 7 110 1 G H0 z o [.ref (z 0), .ref o] (kBuild f) (gCode (nI 0) (nI 0) (nI 1) (kBuild f)) (f 0 + nI 1 - nI 1) (wRF G z r (upF f 0 (f 0 + nI 1))) (wRF G z r f) := by
  refine va_MetW (cc := cL_build) (maxL := 3) (ret := (some .int)) (hh := [(0, 8, 11, 13)]) (by decide) rfl ?_
  intro p_ e_ s m args below meth c s₁ B hml hv
  obtain ⟨rfl, rfl, hK, hX⟩ := hv
  have hx := B.exec
  have hb := B.bytes
  have hr := B.returns
  have hts := atoms_spec (ws := wsL_build) B.pre
  have hown : s.vm.findClass RL = some m.cls := findClass_of_methodNamed B.named
  have hlocks := B.notSynchronized
  have hnt : c.exceptionTable.toList = tableOf [(0, 8, 11, 13)] := vx_table (x := yL_build) B (hts (.codeWith yL_build cL_build 3 (some .int) [(0, 8, 11, 13)]) List.mem_cons_self)
  have S0 : CallFix p_ m c cL_build 3 s _ wsL_build RL := ⟨hx, hb, hml, hown, hts⟩
  have hS : va_S (gO z o) s.heap s.heap [] := va_S.rf
  have hl := lv_entry ([.ref (z 0), .ref o]) (n := 3) (Nat.le_of_ble_eq_true rfl)
  rw [lg_entry_eq]
  generalize (lg_sl ([.ref (z 0), .ref o]) ++ List.replicate (3 - (lg_sl ([.ref (z 0), .ref o])).length) Slot.unset).toArray = ls at hl ⊢
  have hl : lv_has ls 3 [(0, .ref (z 0)), (1, .ref o)] := hl
  refine lv_aload_n hx hb dL_build_0 rfl (lv_at hl 1 rfl) ?_
  refine lv_iconst (v := nI 0) hx hb dL_build_1 (by decide +kernel) ?_
  refine lv_aload_n hx hb dL_build_2 rfl (lv_at hl 0 rfl) ?_
  refine vx_calli (vx_runV (C := RX6) (As := []) (rest := [.int (nI 0), .ref o]) S0 (c_X6_build l hfl G _ z hz r f hP) (cwV 0 hts gL_build_X6_build rfl rfl rfl (by decide +kernel) ⟨Nat.le_of_ble_eq_true rfl, Nat.le_of_ble_eq_true rfl⟩) (g_preXV hK hX hP (q0 := 0) (ci := 6) (q := (RX6, TX6, 7)) rfl rfl) rfl rfl hl.1 rfl (lv_room (Nat.le_of_ble_eq_true rfl)) dL_build_3 ⟨Nat.le_of_ble_eq_true rfl, Nat.le_of_ble_eq_true rfl⟩) hS (fun q _ h => Or.inl h) (fun q h => Or.inl h) (fun _ _ h => h.elim) (fun E ce q9 u t H1 locs1 ht hvm hk0 hE hz1 hkeep hS1 hcell hv hcl => ?_) (fun x9 u t H1 locs1 ht hvm hpost hB hz1 hkeep hS1 => ?_)
  · have hP1 : va_P G.1 vwCl (wRF G z r f) H1 := hP.kept (fun k q hq => hkeep q.1 (hP k q hq).lt (fun h => h))
    have hO1 : va_at G.1 vwCl (gOut G o g0) H1 := hO.kept (hkeep o hO.lt (fun h => h))
    rcases hK9 with h9 | h9
    · exact absurd h9 hk0
    · have hE1 : E = xISE := hE.trans (by rw [h9]; rfl)
      subst hE1
      refine vx_catch hown [] ⟨0, 8, 11, 13⟩ [] hnt (fun z hz => absurd hz List.not_mem_nil) rfl (by show ¬ (13 : Nat) = 0; decide) (hts (.classLink RL 13 xISE) (by decide +kernel)) (va_Nw.use rfl (hX.2.2.1 xISE (by decide))) hcell hv hcl ?_
      refine lv_astore_n (lv' := [(2, .ref q9), (0, .ref (z 0)), (1, .ref o)]) hx hb dL_build_11 rfl hl (by decide) rfl (fun ls hl => ?_)
      refine lv_iconst (v := nI 1) hx hb dL_build_12 (by decide +kernel) ?_
      refine W.widen (k := 1) (n := 6) (Nat.le_of_ble_eq_true rfl) (Nat.le_of_ble_eq_true rfl) ?_
      exact W.iret (v := nI 1) hx hb hr (fun t ht _ => ⟨⟨_, g0, rfl, (show nI 1 = gCode (nI 0) (nI 0) (nI 1) (kBuild f) from by rw [h9]; rfl), ⟨(by rw [ht, if_neg hk0]; exact hP1), (by rw [ht]; exact hO1), fun h => absurd h hk0⟩⟩, hS1.F ht⟩) hS1.2.2 dL_build_13
  · obtain ⟨h9, h10⟩ := hpost
    have hP1 : va_P G.1 vwCl (wRF G z r (upF f 0 (f 0 + nI 1))) H1 := by rw [← ht]; exact hB
    have hO1 : va_at G.1 vwCl (gOut G o g0) H1 := hO.kept (hkeep o hO.lt (gO_no hoz))
    have hP2 : va_P G.1 vwCl ((wRF G z r (upF f 0 (f 0 + nI 1))) ++ [gOut G o g0]) H1 := va_P.app hP1 (gO_P hO1)
    have hD2 : va_D (gO z o) ((wRF G z r (upF f 0 (f 0 + nI 1))) ++ [gOut G o g0]) := gO_D hz hoz
    refine lv_i2l (v := x9.toInt64) hx hb dL_build_6 rfl ?_
    refine va_last hx hb hK.1 hP2 hD2 hS1 50 2 rfl rfl (vp_in_nI (by decide) (by decide)) dL_build_7 (fun H2 locs2 hP3 hD3 hS3 => ?_)
    refine lv_goto (tgt := 14) hx hb dL_build_8 (by decide) ?_
    refine lv_iconst (v := nI 0) hx hb dL_build_14 (by decide +kernel) ?_
    refine W.widen (k := 1) (n := 6) (Nat.le_of_ble_eq_true rfl) (Nat.le_of_ble_eq_true rfl) ?_
    exact W.iret (v := nI 0) hx hb hr (fun t ht _ => ⟨⟨_, _, rfl, (show nI 0 = gCode (nI 0) (nI 0) (nI 1) (kBuild f) from by rw [h9]; rfl), ⟨(by rw [ht, if_pos h9]; exact gO_l hP3), (by rw [ht]; exact hP3 50 _ rfl), fun _ => (gO_u _ _).trans (congrArg Int32.toInt64 h10)⟩⟩, hS3.F ht⟩) hS3.2.2 dL_build_15
set_option maxHeartbeats 4000000 in
set_option maxRecDepth 100000 in
theorem c_L_defect (l : Launch) (hfl : l.stackTraces = false) (G : gG) (H0 : Heap) (z : Nat → Nat) (hz : gDis z 50) (r : Nat → Nat → Int32) (f : Nat → Int32) (hP : va_P G.1 vwCl (wRF G z r f) H0) (o : Nat) (g0 : Nat → Int64) (hO : va_at G.1 vwCl (gOut G o g0) H0) (hoz : ∀ k, k < 50 → ¬ o = z k) (x1 : Int32) (x2 : Int32) (x3 : Bool) (hK9 : (kDefect f x1 x2) = 0 ∨ (kDefect f x1 x2) = 1 ∨ (kDefect f x1 x2) = 3) : gML l yL_defect wsL_defect 8 134 3 G H0 z o [.ref (z 0), .int x1, .int x2, .int (b2i x3), .ref o] (kDefect f x1 x2) (gCode (nI 1) (nI 0) (nI 2) (kDefect f x1 x2)) (f 2 + nI 1) (wRF G z (cDefR r x1 x2 x3) (upF f 2 (f 2 + nI 1))) (wRF G z r f) := by
  refine va_MetW (cc := cL_defect) (maxL := 6) (ret := (some .int)) (hh := [(0, 12, 15, 19), (0, 12, 19, 13)]) (by decide) rfl ?_
  intro p_ e_ s m args below meth c s₁ B hml hv
  obtain ⟨rfl, rfl, hK, hX⟩ := hv
  have hx := B.exec
  have hb := B.bytes
  have hr := B.returns
  have hts := atoms_spec (ws := wsL_defect) B.pre
  have hown : s.vm.findClass RL = some m.cls := findClass_of_methodNamed B.named
  have hlocks := B.notSynchronized
  have hnt : c.exceptionTable.toList = tableOf [(0, 12, 15, 19), (0, 12, 19, 13)] := vx_table (x := yL_defect) B (hts (.codeWith yL_defect cL_defect 6 (some .int) [(0, 12, 15, 19), (0, 12, 19, 13)]) List.mem_cons_self)
  have S0 : CallFix p_ m c cL_defect 6 s _ wsL_defect RL := ⟨hx, hb, hml, hown, hts⟩
  have hS : va_S (gO z o) s.heap s.heap [] := va_S.rf
  have hl := lv_entry ([.ref (z 0), .int x1, .int x2, .int (b2i x3), .ref o]) (n := 6) (Nat.le_of_ble_eq_true rfl)
  rw [lg_entry_eq]
  generalize (lg_sl ([.ref (z 0), .int x1, .int x2, .int (b2i x3), .ref o]) ++ List.replicate (6 - (lg_sl ([.ref (z 0), .int x1, .int x2, .int (b2i x3), .ref o])).length) Slot.unset).toArray = ls at hl ⊢
  have hl : lv_has ls 6 [(0, .ref (z 0)), (1, .int x1), (2, .int x2), (3, .int (b2i x3)), (4, .ref o)] := hl
  refine lv_aload hx hb dL_defect_0 (lv_at hl 4 rfl) ?_
  refine lv_iconst (v := nI 0) hx hb dL_defect_2 (by decide +kernel) ?_
  refine lv_aload_n hx hb dL_defect_3 rfl (lv_at hl 0 rfl) ?_
  refine lv_iload_n hx hb dL_defect_4 rfl (lv_at hl 1 rfl) ?_
  refine lv_iload_n hx hb dL_defect_5 rfl (lv_at hl 2 rfl) ?_
  refine lv_iload_n hx hb dL_defect_6 rfl (lv_at hl 3 rfl) ?_
  refine vx_calli (vx_runV (C := RX6) (As := [.int x1, .int x2, .int (b2i x3)]) (rest := [.int (nI 0), .ref o]) S0 (c_X6_defect l hfl G _ z hz r f hP x1 x2 x3) (cwV 3 hts gL_defect_X6_defect rfl rfl rfl (by decide +kernel) ⟨Nat.le_of_ble_eq_true rfl, Nat.le_of_ble_eq_true rfl⟩) (g_preXV hK hX hP (q0 := 0) (ci := 6) (q := (RX6, TX6, 7)) rfl rfl) rfl rfl hl.1 rfl (lv_room (Nat.le_of_ble_eq_true rfl)) dL_defect_7 ⟨Nat.le_of_ble_eq_true rfl, Nat.le_of_ble_eq_true rfl⟩) hS (fun q _ h => Or.inl h) (fun q h => Or.inl h) (fun _ _ h => h.elim) (fun E ce q9 u t H1 locs1 ht hvm hk0 hE hz1 hkeep hS1 hcell hv hcl => ?_) (fun x9 u t H1 locs1 ht hvm hpost hB hz1 hkeep hS1 => ?_)
  · have hP1 : va_P G.1 vwCl (wRF G z r f) H1 := hP.kept (fun k q hq => hkeep q.1 (hP k q hq).lt (fun h => h))
    have hO1 : va_at G.1 vwCl (gOut G o g0) H1 := hO.kept (hkeep o hO.lt (fun h => h))
    rcases hK9 with h9 | h9 | h9
    · exact absurd h9 hk0
    · have hE1 : E = xIOB := hE.trans (by rw [h9]; rfl)
      subst hE1
      refine vx_catch hown [] ⟨0, 12, 15, 19⟩ [⟨0, 12, 19, 13⟩] hnt (fun z hz => absurd hz List.not_mem_nil) rfl (by show ¬ (19 : Nat) = 0; decide) (hts (.classLink RL 19 xIOB) (by decide +kernel)) (va_Nw.use rfl (hX.2.2.1 xIOB (by decide))) hcell hv hcl ?_
      refine lv_astore (lv' := [(5, .ref q9), (0, .ref (z 0)), (1, .int x1), (2, .int x2), (3, .int (b2i x3)), (4, .ref o)]) hx hb dL_defect_15 hl (by decide) rfl (fun ls hl => ?_)
      refine lv_iconst (v := nI 1) hx hb dL_defect_17 (by decide +kernel) ?_
      refine W.widen (k := 3) (n := 18) (Nat.le_of_ble_eq_true rfl) (Nat.le_of_ble_eq_true rfl) ?_
      exact W.iret (v := nI 1) hx hb hr (fun t ht _ => ⟨⟨_, g0, rfl, (show nI 1 = gCode (nI 1) (nI 0) (nI 2) (kDefect f x1 x2) from by rw [h9]; rfl), ⟨(by rw [ht, if_neg hk0]; exact hP1), (by rw [ht]; exact hO1), fun h => absurd h hk0⟩⟩, hS1.F ht⟩) hS1.2.2 dL_defect_18
    · have hE1 : E = xISE := hE.trans (by rw [h9]; rfl)
      subst hE1
      refine vx_catch hown [⟨0, 12, 15, 19⟩] ⟨0, 12, 19, 13⟩ [] hnt ?_ rfl (by show ¬ (13 : Nat) = 0; decide) (hts (.classLink RL 13 xISE) (by decide +kernel)) (va_Nw.use rfl (hX.2.2.1 xISE (by decide))) hcell hv hcl ?_
      · intro z hz
        have hz1 := List.mem_singleton.mp hz
        subst hz1
        exact Or.inr ⟨(by show ¬ (19 : Nat) = 0; decide), xIOB, hts (.classLink RL 19 xIOB) (by decide +kernel), hX.2.2.2.1.1⟩
      refine lv_astore (lv' := [(5, .ref q9), (0, .ref (z 0)), (1, .int x1), (2, .int x2), (3, .int (b2i x3)), (4, .ref o)]) hx hb dL_defect_19 hl (by decide) rfl (fun ls hl => ?_)
      refine lv_iconst (v := nI 2) hx hb dL_defect_21 (by decide +kernel) ?_
      refine W.widen (k := 3) (n := 18) (Nat.le_of_ble_eq_true rfl) (Nat.le_of_ble_eq_true rfl) ?_
      exact W.iret (v := nI 2) hx hb hr (fun t ht _ => ⟨⟨_, g0, rfl, (show nI 2 = gCode (nI 1) (nI 0) (nI 2) (kDefect f x1 x2) from by rw [h9]; rfl), ⟨(by rw [ht, if_neg hk0]; exact hP1), (by rw [ht]; exact hO1), fun h => absurd h hk0⟩⟩, hS1.F ht⟩) hS1.2.2 dL_defect_22
  · obtain ⟨h9, h10⟩ := hpost
    have hP1 : va_P G.1 vwCl (wRF G z (cDefR r x1 x2 x3) (upF f 2 (f 2 + nI 1))) H1 := by rw [← ht]; exact hB
    have hO1 : va_at G.1 vwCl (gOut G o g0) H1 := hO.kept (hkeep o hO.lt (gO_no hoz))
    have hP2 : va_P G.1 vwCl ((wRF G z (cDefR r x1 x2 x3) (upF f 2 (f 2 + nI 1))) ++ [gOut G o g0]) H1 := va_P.app hP1 (gO_P hO1)
    have hD2 : va_D (gO z o) ((wRF G z (cDefR r x1 x2 x3) (upF f 2 (f 2 + nI 1))) ++ [gOut G o g0]) := gO_D hz hoz
    refine lv_i2l (v := x9.toInt64) hx hb dL_defect_10 rfl ?_
    refine va_last hx hb hK.1 hP2 hD2 hS1 50 2 rfl rfl (vp_in_nI (by decide) (by decide)) dL_defect_11 (fun H2 locs2 hP3 hD3 hS3 => ?_)
    refine lv_goto (tgt := 23) hx hb dL_defect_12 (by decide) ?_
    refine lv_iconst (v := nI 0) hx hb dL_defect_23 (by decide +kernel) ?_
    refine W.widen (k := 3) (n := 18) (Nat.le_of_ble_eq_true rfl) (Nat.le_of_ble_eq_true rfl) ?_
    exact W.iret (v := nI 0) hx hb hr (fun t ht _ => ⟨⟨_, _, rfl, (show nI 0 = gCode (nI 1) (nI 0) (nI 2) (kDefect f x1 x2) from by rw [h9]; rfl), ⟨(by rw [ht, if_pos h9]; exact gO_l hP3), (by rw [ht]; exact hP3 50 _ rfl), fun _ => (gO_u _ _).trans (congrArg Int32.toInt64 h10)⟩⟩, hS3.F ht⟩) hS3.2.2 dL_defect_24
set_option maxHeartbeats 4000000 in
set_option maxRecDepth 100000 in
theorem c_L_need (l : Launch) (hfl : l.stackTraces = false) (G : gG) (H0 : Heap) (z : Nat → Nat) (hz : gDis z 50) (r : Nat → Nat → Int32) (f : Nat → Int32) (hP : va_P G.1 vwCl (wRF G z r f) H0) (o : Nat) (g0 : Nat → Int64) (hO : va_at G.1 vwCl (gOut G o g0) H0) (hoz : ∀ k, k < 50 → ¬ o = z k) (x1 : Int32) (x2 : Int32) (x3 : Bool) (hK9 : (kNeed r x1 x2 x3) = 0 ∨ (kNeed r x1 x2 x3) = 1 ∨ (kNeed r x1 x2 x3) = 2 ∨ (kNeed r x1 x2 x3) = 3) : gML l yL_need wsL_need 8 133 3 G H0 z o [.ref (z 0), .int x1, .int x2, .int (b2i x3), .ref o] (kNeed r x1 x2 x3) (gCode (nI 1) (nI 2) (nI 3) (kNeed r x1 x2 x3)) (cBitCount (rAt 8 (cPutN r x1 x2 x3 0) x1)) (wRF G z (cPutW (cPutN r x1 x2 x3) 8) f) (wRF G z r f) := by
  refine va_MetW (cc := cL_need) (maxL := 6) (ret := (some .int)) (hh := [(0, 12, 15, 19), (0, 12, 19, 24), (0, 12, 23, 13)]) (by decide) rfl ?_
  intro p_ e_ s m args below meth c s₁ B hml hv
  obtain ⟨rfl, rfl, hK, hX⟩ := hv
  have hx := B.exec
  have hb := B.bytes
  have hr := B.returns
  have hts := atoms_spec (ws := wsL_need) B.pre
  have hown : s.vm.findClass RL = some m.cls := findClass_of_methodNamed B.named
  have hlocks := B.notSynchronized
  have hnt : c.exceptionTable.toList = tableOf [(0, 12, 15, 19), (0, 12, 19, 24), (0, 12, 23, 13)] := vx_table (x := yL_need) B (hts (.codeWith yL_need cL_need 6 (some .int) [(0, 12, 15, 19), (0, 12, 19, 24), (0, 12, 23, 13)]) List.mem_cons_self)
  have S0 : CallFix p_ m c cL_need 6 s _ wsL_need RL := ⟨hx, hb, hml, hown, hts⟩
  have hS : va_S (gO z o) s.heap s.heap [] := va_S.rf
  have hl := lv_entry ([.ref (z 0), .int x1, .int x2, .int (b2i x3), .ref o]) (n := 6) (Nat.le_of_ble_eq_true rfl)
  rw [lg_entry_eq]
  generalize (lg_sl ([.ref (z 0), .int x1, .int x2, .int (b2i x3), .ref o]) ++ List.replicate (6 - (lg_sl ([.ref (z 0), .int x1, .int x2, .int (b2i x3), .ref o])).length) Slot.unset).toArray = ls at hl ⊢
  have hl : lv_has ls 6 [(0, .ref (z 0)), (1, .int x1), (2, .int x2), (3, .int (b2i x3)), (4, .ref o)] := hl
  refine lv_aload hx hb dL_need_0 (lv_at hl 4 rfl) ?_
  refine lv_iconst (v := nI 0) hx hb dL_need_2 (by decide +kernel) ?_
  refine lv_aload_n hx hb dL_need_3 rfl (lv_at hl 0 rfl) ?_
  refine lv_iload_n hx hb dL_need_4 rfl (lv_at hl 1 rfl) ?_
  refine lv_iload_n hx hb dL_need_5 rfl (lv_at hl 2 rfl) ?_
  refine lv_iload_n hx hb dL_need_6 rfl (lv_at hl 3 rfl) ?_
  refine vx_calli (vx_runV (C := RX6) (As := [.int x1, .int x2, .int (b2i x3)]) (rest := [.int (nI 0), .ref o]) S0 (c_X6_need l hfl G _ z hz r f hP x1 x2 x3) (cwV 3 hts gL_need_X6_need rfl rfl rfl (by decide +kernel) ⟨Nat.le_of_ble_eq_true rfl, Nat.le_of_ble_eq_true rfl⟩) (g_preXV hK hX hP (q0 := 0) (ci := 6) (q := (RX6, TX6, 7)) rfl rfl) rfl rfl hl.1 rfl (lv_room (Nat.le_of_ble_eq_true rfl)) dL_need_7 ⟨Nat.le_of_ble_eq_true rfl, Nat.le_of_ble_eq_true rfl⟩) hS (fun q _ h => Or.inl h) (fun q h => Or.inl h) (fun _ _ h => h.elim) (fun E ce q9 u t H1 locs1 ht hvm hk0 hE hz1 hkeep hS1 hcell hv hcl => ?_) (fun x9 u t H1 locs1 ht hvm hpost hB hz1 hkeep hS1 => ?_)
  · have hP1 : va_P G.1 vwCl (wRF G z r f) H1 := hP.kept (fun k q hq => hkeep q.1 (hP k q hq).lt (fun h => h))
    have hO1 : va_at G.1 vwCl (gOut G o g0) H1 := hO.kept (hkeep o hO.lt (fun h => h))
    rcases hK9 with h9 | h9 | h9 | h9
    · exact absurd h9 hk0
    · have hE1 : E = xIOB := hE.trans (by rw [h9]; rfl)
      subst hE1
      refine vx_catch hown [] ⟨0, 12, 15, 19⟩ [⟨0, 12, 19, 24⟩, ⟨0, 12, 23, 13⟩] hnt (fun z hz => absurd hz List.not_mem_nil) rfl (by show ¬ (19 : Nat) = 0; decide) (hts (.classLink RL 19 xIOB) (by decide +kernel)) (va_Nw.use rfl (hX.2.2.1 xIOB (by decide))) hcell hv hcl ?_
      refine lv_astore (lv' := [(5, .ref q9), (0, .ref (z 0)), (1, .int x1), (2, .int x2), (3, .int (b2i x3)), (4, .ref o)]) hx hb dL_need_15 hl (by decide) rfl (fun ls hl => ?_)
      refine lv_iconst (v := nI 1) hx hb dL_need_17 (by decide +kernel) ?_
      refine W.widen (k := 3) (n := 18) (Nat.le_of_ble_eq_true rfl) (Nat.le_of_ble_eq_true rfl) ?_
      exact W.iret (v := nI 1) hx hb hr (fun t ht _ => ⟨⟨_, g0, rfl, (show nI 1 = gCode (nI 1) (nI 2) (nI 3) (kNeed r x1 x2 x3) from by rw [h9]; rfl), ⟨(by rw [ht, if_neg hk0]; exact hP1), (by rw [ht]; exact hO1), fun h => absurd h hk0⟩⟩, hS1.F ht⟩) hS1.2.2 dL_need_18
    · have hE1 : E = xIAE := hE.trans (by rw [h9]; rfl)
      subst hE1
      refine vx_catch hown [⟨0, 12, 15, 19⟩] ⟨0, 12, 19, 24⟩ [⟨0, 12, 23, 13⟩] hnt ?_ rfl (by show ¬ (24 : Nat) = 0; decide) (hts (.classLink RL 24 xIAE) (by decide +kernel)) (va_Nw.use rfl (hX.2.2.1 xIAE (by decide))) hcell hv hcl ?_
      · intro z hz
        have hz1 := List.mem_singleton.mp hz
        subst hz1
        exact Or.inr ⟨(by show ¬ (19 : Nat) = 0; decide), xIOB, hts (.classLink RL 19 xIOB) (by decide +kernel), hX.2.2.2.1.2.2⟩
      refine lv_astore (lv' := [(5, .ref q9), (0, .ref (z 0)), (1, .int x1), (2, .int x2), (3, .int (b2i x3)), (4, .ref o)]) hx hb dL_need_19 hl (by decide) rfl (fun ls hl => ?_)
      refine lv_iconst (v := nI 2) hx hb dL_need_21 (by decide +kernel) ?_
      refine W.widen (k := 3) (n := 18) (Nat.le_of_ble_eq_true rfl) (Nat.le_of_ble_eq_true rfl) ?_
      exact W.iret (v := nI 2) hx hb hr (fun t ht _ => ⟨⟨_, g0, rfl, (show nI 2 = gCode (nI 1) (nI 2) (nI 3) (kNeed r x1 x2 x3) from by rw [h9]; rfl), ⟨(by rw [ht, if_neg hk0]; exact hP1), (by rw [ht]; exact hO1), fun h => absurd h hk0⟩⟩, hS1.F ht⟩) hS1.2.2 dL_need_22
    · have hE1 : E = xISE := hE.trans (by rw [h9]; rfl)
      subst hE1
      refine vx_catch hown [⟨0, 12, 15, 19⟩, ⟨0, 12, 19, 24⟩] ⟨0, 12, 23, 13⟩ [] hnt ?_ rfl (by show ¬ (13 : Nat) = 0; decide) (hts (.classLink RL 13 xISE) (by decide +kernel)) (va_Nw.use rfl (hX.2.2.1 xISE (by decide))) hcell hv hcl ?_
      · intro z hz
        rcases List.mem_cons.mp hz with hz | hz
        · subst hz
          exact Or.inr ⟨(by show ¬ (19 : Nat) = 0; decide), xIOB, hts (.classLink RL 19 xIOB) (by decide +kernel), hX.2.2.2.1.1⟩
        · have hz1 := List.mem_singleton.mp hz
          subst hz1
          exact Or.inr ⟨(by show ¬ (24 : Nat) = 0; decide), xIAE, hts (.classLink RL 24 xIAE) (by decide +kernel), hX.2.2.2.1.2.1⟩
      refine lv_astore (lv' := [(5, .ref q9), (0, .ref (z 0)), (1, .int x1), (2, .int x2), (3, .int (b2i x3)), (4, .ref o)]) hx hb dL_need_23 hl (by decide) rfl (fun ls hl => ?_)
      refine lv_iconst (v := nI 3) hx hb dL_need_25 (by decide +kernel) ?_
      refine W.widen (k := 3) (n := 18) (Nat.le_of_ble_eq_true rfl) (Nat.le_of_ble_eq_true rfl) ?_
      exact W.iret (v := nI 3) hx hb hr (fun t ht _ => ⟨⟨_, g0, rfl, (show nI 3 = gCode (nI 1) (nI 2) (nI 3) (kNeed r x1 x2 x3) from by rw [h9]; rfl), ⟨(by rw [ht, if_neg hk0]; exact hP1), (by rw [ht]; exact hO1), fun h => absurd h hk0⟩⟩, hS1.F ht⟩) hS1.2.2 dL_need_26
  · obtain ⟨h9, h10⟩ := hpost
    have hP1 : va_P G.1 vwCl (wRF G z (cPutW (cPutN r x1 x2 x3) 8) f) H1 := by rw [← ht]; exact hB
    have hO1 : va_at G.1 vwCl (gOut G o g0) H1 := hO.kept (hkeep o hO.lt (gO_no hoz))
    have hP2 : va_P G.1 vwCl ((wRF G z (cPutW (cPutN r x1 x2 x3) 8) f) ++ [gOut G o g0]) H1 := va_P.app hP1 (gO_P hO1)
    have hD2 : va_D (gO z o) ((wRF G z (cPutW (cPutN r x1 x2 x3) 8) f) ++ [gOut G o g0]) := gO_D hz hoz
    refine lv_i2l (v := x9.toInt64) hx hb dL_need_10 rfl ?_
    refine va_last hx hb hK.1 hP2 hD2 hS1 50 2 rfl rfl (vp_in_nI (by decide) (by decide)) dL_need_11 (fun H2 locs2 hP3 hD3 hS3 => ?_)
    refine lv_goto (tgt := 27) hx hb dL_need_12 (by decide) ?_
    refine lv_iconst (v := nI 0) hx hb dL_need_27 (by decide +kernel) ?_
    refine W.widen (k := 3) (n := 18) (Nat.le_of_ble_eq_true rfl) (Nat.le_of_ble_eq_true rfl) ?_
    exact W.iret (v := nI 0) hx hb hr (fun t ht _ => ⟨⟨_, _, rfl, (show nI 0 = gCode (nI 1) (nI 2) (nI 3) (kNeed r x1 x2 x3) from by rw [h9]; rfl), ⟨(by rw [ht, if_pos h9]; exact gO_l hP3), (by rw [ht]; exact hP3 50 _ rfl), fun _ => (gO_u _ _).trans (congrArg Int32.toInt64 h10)⟩⟩, hS3.F ht⟩) hS3.2.2 dL_need_28
set_option maxHeartbeats 4000000 in
set_option maxRecDepth 100000 in
theorem c_L_turn (l : Launch) (hfl : l.stackTraces = false) (G : gG) (H0 : Heap) (z : Nat → Nat) (hz : gDis z 50) (r : Nat → Nat → Int32) (f : Nat → Int32) (hP : va_P G.1 vwCl (wRF G z r f) H0) (o : Nat) (g0 : Nat → Int64) (hO : va_at G.1 vwCl (gOut G o g0) H0) (hoz : ∀ k, k < 50 → ¬ o = z k) (x1 : Int32) (x2 : Int32) (x3 : Int32) (hK9 : (kTurn r f x1 x2 x3) = 0 ∨ (kTurn r f x1 x2 x3) = 1 ∨ (kTurn r f x1 x2 x3) = 2 ∨ (kTurn r f x1 x2 x3) = 3) : gML l yL_turn wsL_turn 8 134 4 G H0 z o [.ref (z 0), .int x1, .int x2, .int x3, .ref o] (kTurn r f x1 x2 x3) (gCode (nI 1) (nI 2) (nI 3) (kTurn r f x1 x2 x3)) (f 3) (wRF G z (cAddR r f x1 (f 1) x2 x3) (upF f 3 (f 3 + nI 1))) (wRF G z r f) := by
  refine va_MetW (cc := cL_turn) (maxL := 6) (ret := (some .int)) (hh := [(0, 12, 15, 19), (0, 12, 19, 24), (0, 12, 23, 13)]) (by decide) rfl ?_
  intro p_ e_ s m args below meth c s₁ B hml hv
  obtain ⟨rfl, rfl, hK, hX⟩ := hv
  have hx := B.exec
  have hb := B.bytes
  have hr := B.returns
  have hts := atoms_spec (ws := wsL_turn) B.pre
  have hown : s.vm.findClass RL = some m.cls := findClass_of_methodNamed B.named
  have hlocks := B.notSynchronized
  have hnt : c.exceptionTable.toList = tableOf [(0, 12, 15, 19), (0, 12, 19, 24), (0, 12, 23, 13)] := vx_table (x := yL_turn) B (hts (.codeWith yL_turn cL_turn 6 (some .int) [(0, 12, 15, 19), (0, 12, 19, 24), (0, 12, 23, 13)]) List.mem_cons_self)
  have S0 : CallFix p_ m c cL_turn 6 s _ wsL_turn RL := ⟨hx, hb, hml, hown, hts⟩
  have hS : va_S (gO z o) s.heap s.heap [] := va_S.rf
  have hl := lv_entry ([.ref (z 0), .int x1, .int x2, .int x3, .ref o]) (n := 6) (Nat.le_of_ble_eq_true rfl)
  rw [lg_entry_eq]
  generalize (lg_sl ([.ref (z 0), .int x1, .int x2, .int x3, .ref o]) ++ List.replicate (6 - (lg_sl ([.ref (z 0), .int x1, .int x2, .int x3, .ref o])).length) Slot.unset).toArray = ls at hl ⊢
  have hl : lv_has ls 6 [(0, .ref (z 0)), (1, .int x1), (2, .int x2), (3, .int x3), (4, .ref o)] := hl
  refine lv_aload hx hb dL_turn_0 (lv_at hl 4 rfl) ?_
  refine lv_iconst (v := nI 0) hx hb dL_turn_2 (by decide +kernel) ?_
  refine lv_aload_n hx hb dL_turn_3 rfl (lv_at hl 0 rfl) ?_
  refine lv_iload_n hx hb dL_turn_4 rfl (lv_at hl 1 rfl) ?_
  refine lv_iload_n hx hb dL_turn_5 rfl (lv_at hl 2 rfl) ?_
  refine lv_iload_n hx hb dL_turn_6 rfl (lv_at hl 3 rfl) ?_
  refine vx_calli (vx_runV (C := RX6) (As := [.int x1, .int x2, .int x3]) (rest := [.int (nI 0), .ref o]) S0 (c_X6_turn l hfl G _ z hz r f hP x1 x2 x3) (cwV 3 hts gL_turn_X6_turn rfl rfl rfl (by decide +kernel) ⟨Nat.le_of_ble_eq_true rfl, Nat.le_of_ble_eq_true rfl⟩) (g_preXV hK hX hP (q0 := 0) (ci := 6) (q := (RX6, TX6, 7)) rfl rfl) rfl rfl hl.1 rfl (lv_room (Nat.le_of_ble_eq_true rfl)) dL_turn_7 ⟨Nat.le_of_ble_eq_true rfl, Nat.le_of_ble_eq_true rfl⟩) hS (fun q _ h => Or.inl h) (fun q h => Or.inl h) (fun _ _ h => h.elim) (fun E ce q9 u t H1 locs1 ht hvm hk0 hE hz1 hkeep hS1 hcell hv hcl => ?_) (fun x9 u t H1 locs1 ht hvm hpost hB hz1 hkeep hS1 => ?_)
  · have hP1 : va_P G.1 vwCl (wRF G z r f) H1 := hP.kept (fun k q hq => hkeep q.1 (hP k q hq).lt (fun h => h))
    have hO1 : va_at G.1 vwCl (gOut G o g0) H1 := hO.kept (hkeep o hO.lt (fun h => h))
    rcases hK9 with h9 | h9 | h9 | h9
    · exact absurd h9 hk0
    · have hE1 : E = xIOB := hE.trans (by rw [h9]; rfl)
      subst hE1
      refine vx_catch hown [] ⟨0, 12, 15, 19⟩ [⟨0, 12, 19, 24⟩, ⟨0, 12, 23, 13⟩] hnt (fun z hz => absurd hz List.not_mem_nil) rfl (by show ¬ (19 : Nat) = 0; decide) (hts (.classLink RL 19 xIOB) (by decide +kernel)) (va_Nw.use rfl (hX.2.2.1 xIOB (by decide))) hcell hv hcl ?_
      refine lv_astore (lv' := [(5, .ref q9), (0, .ref (z 0)), (1, .int x1), (2, .int x2), (3, .int x3), (4, .ref o)]) hx hb dL_turn_15 hl (by decide) rfl (fun ls hl => ?_)
      refine lv_iconst (v := nI 1) hx hb dL_turn_17 (by decide +kernel) ?_
      refine W.widen (k := 4) (n := 24) (Nat.le_of_ble_eq_true rfl) (Nat.le_of_ble_eq_true rfl) ?_
      exact W.iret (v := nI 1) hx hb hr (fun t ht _ => ⟨⟨_, g0, rfl, (show nI 1 = gCode (nI 1) (nI 2) (nI 3) (kTurn r f x1 x2 x3) from by rw [h9]; rfl), ⟨(by rw [ht, if_neg hk0]; exact hP1), (by rw [ht]; exact hO1), fun h => absurd h hk0⟩⟩, hS1.F ht⟩) hS1.2.2 dL_turn_18
    · have hE1 : E = xIAE := hE.trans (by rw [h9]; rfl)
      subst hE1
      refine vx_catch hown [⟨0, 12, 15, 19⟩] ⟨0, 12, 19, 24⟩ [⟨0, 12, 23, 13⟩] hnt ?_ rfl (by show ¬ (24 : Nat) = 0; decide) (hts (.classLink RL 24 xIAE) (by decide +kernel)) (va_Nw.use rfl (hX.2.2.1 xIAE (by decide))) hcell hv hcl ?_
      · intro z hz
        have hz1 := List.mem_singleton.mp hz
        subst hz1
        exact Or.inr ⟨(by show ¬ (19 : Nat) = 0; decide), xIOB, hts (.classLink RL 19 xIOB) (by decide +kernel), hX.2.2.2.1.2.2⟩
      refine lv_astore (lv' := [(5, .ref q9), (0, .ref (z 0)), (1, .int x1), (2, .int x2), (3, .int x3), (4, .ref o)]) hx hb dL_turn_19 hl (by decide) rfl (fun ls hl => ?_)
      refine lv_iconst (v := nI 2) hx hb dL_turn_21 (by decide +kernel) ?_
      refine W.widen (k := 4) (n := 24) (Nat.le_of_ble_eq_true rfl) (Nat.le_of_ble_eq_true rfl) ?_
      exact W.iret (v := nI 2) hx hb hr (fun t ht _ => ⟨⟨_, g0, rfl, (show nI 2 = gCode (nI 1) (nI 2) (nI 3) (kTurn r f x1 x2 x3) from by rw [h9]; rfl), ⟨(by rw [ht, if_neg hk0]; exact hP1), (by rw [ht]; exact hO1), fun h => absurd h hk0⟩⟩, hS1.F ht⟩) hS1.2.2 dL_turn_22
    · have hE1 : E = xISE := hE.trans (by rw [h9]; rfl)
      subst hE1
      refine vx_catch hown [⟨0, 12, 15, 19⟩, ⟨0, 12, 19, 24⟩] ⟨0, 12, 23, 13⟩ [] hnt ?_ rfl (by show ¬ (13 : Nat) = 0; decide) (hts (.classLink RL 13 xISE) (by decide +kernel)) (va_Nw.use rfl (hX.2.2.1 xISE (by decide))) hcell hv hcl ?_
      · intro z hz
        rcases List.mem_cons.mp hz with hz | hz
        · subst hz
          exact Or.inr ⟨(by show ¬ (19 : Nat) = 0; decide), xIOB, hts (.classLink RL 19 xIOB) (by decide +kernel), hX.2.2.2.1.1⟩
        · have hz1 := List.mem_singleton.mp hz
          subst hz1
          exact Or.inr ⟨(by show ¬ (24 : Nat) = 0; decide), xIAE, hts (.classLink RL 24 xIAE) (by decide +kernel), hX.2.2.2.1.2.1⟩
      refine lv_astore (lv' := [(5, .ref q9), (0, .ref (z 0)), (1, .int x1), (2, .int x2), (3, .int x3), (4, .ref o)]) hx hb dL_turn_23 hl (by decide) rfl (fun ls hl => ?_)
      refine lv_iconst (v := nI 3) hx hb dL_turn_25 (by decide +kernel) ?_
      refine W.widen (k := 4) (n := 24) (Nat.le_of_ble_eq_true rfl) (Nat.le_of_ble_eq_true rfl) ?_
      exact W.iret (v := nI 3) hx hb hr (fun t ht _ => ⟨⟨_, g0, rfl, (show nI 3 = gCode (nI 1) (nI 2) (nI 3) (kTurn r f x1 x2 x3) from by rw [h9]; rfl), ⟨(by rw [ht, if_neg hk0]; exact hP1), (by rw [ht]; exact hO1), fun h => absurd h hk0⟩⟩, hS1.F ht⟩) hS1.2.2 dL_turn_26
  · obtain ⟨h9, h10⟩ := hpost
    have hP1 : va_P G.1 vwCl (wRF G z (cAddR r f x1 (f 1) x2 x3) (upF f 3 (f 3 + nI 1))) H1 := by rw [← ht]; exact hB
    have hO1 : va_at G.1 vwCl (gOut G o g0) H1 := hO.kept (hkeep o hO.lt (gO_no hoz))
    have hP2 : va_P G.1 vwCl ((wRF G z (cAddR r f x1 (f 1) x2 x3) (upF f 3 (f 3 + nI 1))) ++ [gOut G o g0]) H1 := va_P.app hP1 (gO_P hO1)
    have hD2 : va_D (gO z o) ((wRF G z (cAddR r f x1 (f 1) x2 x3) (upF f 3 (f 3 + nI 1))) ++ [gOut G o g0]) := gO_D hz hoz
    refine lv_i2l (v := x9.toInt64) hx hb dL_turn_10 rfl ?_
    refine va_last hx hb hK.1 hP2 hD2 hS1 50 2 rfl rfl (vp_in_nI (by decide) (by decide)) dL_turn_11 (fun H2 locs2 hP3 hD3 hS3 => ?_)
    refine lv_goto (tgt := 27) hx hb dL_turn_12 (by decide) ?_
    refine lv_iconst (v := nI 0) hx hb dL_turn_27 (by decide +kernel) ?_
    refine W.widen (k := 4) (n := 24) (Nat.le_of_ble_eq_true rfl) (Nat.le_of_ble_eq_true rfl) ?_
    exact W.iret (v := nI 0) hx hb hr (fun t ht _ => ⟨⟨_, _, rfl, (show nI 0 = gCode (nI 1) (nI 2) (nI 3) (kTurn r f x1 x2 x3) from by rw [h9]; rfl), ⟨(by rw [ht, if_pos h9]; exact gO_l hP3), (by rw [ht]; exact hP3 50 _ rfl), fun _ => (gO_u _ _).trans (congrArg Int32.toInt64 h10)⟩⟩, hS3.F ht⟩) hS3.2.2 dL_turn_28
set_option maxHeartbeats 4000000 in
set_option maxRecDepth 100000 in
theorem c_L_roll (l : Launch) (hfl : l.stackTraces = false) (G : gG) (H0 : Heap) (z : Nat → Nat) (hz : gDis z 50) (r : Nat → Nat → Int32) (f : Nat → Int32) (hP : va_P G.1 vwCl (wRF G z r f) H0) (o : Nat) (g0 : Nat → Int64) (hO : va_at G.1 vwCl (gOut G o g0) H0) (hoz : ∀ k, k < 50 → ¬ o = z k) (x1 : Int32) (x2 : Int32) (x3 : Int32) (hK9 : (kRoll r f x1 x2 x3) = 0 ∨ (kRoll r f x1 x2 x3) = 1 ∨ (kRoll r f x1 x2 x3) = 3) : gML l yL_roll wsL_roll 8 134 5 G H0 z o [.ref (z 0), .int x1, .int x2, .int x3, .ref o] (kRoll r f x1 x2 x3) (gCode (nI 1) (nI 0) (nI 2) (kRoll r f x1 x2 x3)) (f 3) (wRF G z (cAddR r f x1 (f 1) (cSubj x2) x3) (upF f 3 (f 3 + nI 1))) (wRF G z r f) := by
  refine va_MetW (cc := cL_roll) (maxL := 6) (ret := (some .int)) (hh := [(0, 12, 15, 19), (0, 12, 19, 13)]) (by decide) rfl ?_
  intro p_ e_ s m args below meth c s₁ B hml hv
  obtain ⟨rfl, rfl, hK, hX⟩ := hv
  have hx := B.exec
  have hb := B.bytes
  have hr := B.returns
  have hts := atoms_spec (ws := wsL_roll) B.pre
  have hown : s.vm.findClass RL = some m.cls := findClass_of_methodNamed B.named
  have hlocks := B.notSynchronized
  have hnt : c.exceptionTable.toList = tableOf [(0, 12, 15, 19), (0, 12, 19, 13)] := vx_table (x := yL_roll) B (hts (.codeWith yL_roll cL_roll 6 (some .int) [(0, 12, 15, 19), (0, 12, 19, 13)]) List.mem_cons_self)
  have S0 : CallFix p_ m c cL_roll 6 s _ wsL_roll RL := ⟨hx, hb, hml, hown, hts⟩
  have hS : va_S (gO z o) s.heap s.heap [] := va_S.rf
  have hl := lv_entry ([.ref (z 0), .int x1, .int x2, .int x3, .ref o]) (n := 6) (Nat.le_of_ble_eq_true rfl)
  rw [lg_entry_eq]
  generalize (lg_sl ([.ref (z 0), .int x1, .int x2, .int x3, .ref o]) ++ List.replicate (6 - (lg_sl ([.ref (z 0), .int x1, .int x2, .int x3, .ref o])).length) Slot.unset).toArray = ls at hl ⊢
  have hl : lv_has ls 6 [(0, .ref (z 0)), (1, .int x1), (2, .int x2), (3, .int x3), (4, .ref o)] := hl
  refine lv_aload hx hb dL_roll_0 (lv_at hl 4 rfl) ?_
  refine lv_iconst (v := nI 0) hx hb dL_roll_2 (by decide +kernel) ?_
  refine lv_aload_n hx hb dL_roll_3 rfl (lv_at hl 0 rfl) ?_
  refine lv_iload_n hx hb dL_roll_4 rfl (lv_at hl 1 rfl) ?_
  refine lv_iload_n hx hb dL_roll_5 rfl (lv_at hl 2 rfl) ?_
  refine lv_iload_n hx hb dL_roll_6 rfl (lv_at hl 3 rfl) ?_
  refine vx_calli (vx_runV (C := RX6) (As := [.int x1, .int x2, .int x3]) (rest := [.int (nI 0), .ref o]) S0 (c_X6_roll l hfl G _ z hz r f hP x1 x2 x3) (cwV 3 hts gL_roll_X6_roll rfl rfl rfl (by decide +kernel) ⟨Nat.le_of_ble_eq_true rfl, Nat.le_of_ble_eq_true rfl⟩) (g_preXV hK hX hP (q0 := 0) (ci := 6) (q := (RX6, TX6, 7)) rfl rfl) rfl rfl hl.1 rfl (lv_room (Nat.le_of_ble_eq_true rfl)) dL_roll_7 ⟨Nat.le_of_ble_eq_true rfl, Nat.le_of_ble_eq_true rfl⟩) hS (fun q _ h => Or.inl h) (fun q h => Or.inl h) (fun _ _ h => h.elim) (fun E ce q9 u t H1 locs1 ht hvm hk0 hE hz1 hkeep hS1 hcell hv hcl => ?_) (fun x9 u t H1 locs1 ht hvm hpost hB hz1 hkeep hS1 => ?_)
  · have hP1 : va_P G.1 vwCl (wRF G z r f) H1 := hP.kept (fun k q hq => hkeep q.1 (hP k q hq).lt (fun h => h))
    have hO1 : va_at G.1 vwCl (gOut G o g0) H1 := hO.kept (hkeep o hO.lt (fun h => h))
    rcases hK9 with h9 | h9 | h9
    · exact absurd h9 hk0
    · have hE1 : E = xIOB := hE.trans (by rw [h9]; rfl)
      subst hE1
      refine vx_catch hown [] ⟨0, 12, 15, 19⟩ [⟨0, 12, 19, 13⟩] hnt (fun z hz => absurd hz List.not_mem_nil) rfl (by show ¬ (19 : Nat) = 0; decide) (hts (.classLink RL 19 xIOB) (by decide +kernel)) (va_Nw.use rfl (hX.2.2.1 xIOB (by decide))) hcell hv hcl ?_
      refine lv_astore (lv' := [(5, .ref q9), (0, .ref (z 0)), (1, .int x1), (2, .int x2), (3, .int x3), (4, .ref o)]) hx hb dL_roll_15 hl (by decide) rfl (fun ls hl => ?_)
      refine lv_iconst (v := nI 1) hx hb dL_roll_17 (by decide +kernel) ?_
      refine W.widen (k := 5) (n := 30) (Nat.le_of_ble_eq_true rfl) (Nat.le_of_ble_eq_true rfl) ?_
      exact W.iret (v := nI 1) hx hb hr (fun t ht _ => ⟨⟨_, g0, rfl, (show nI 1 = gCode (nI 1) (nI 0) (nI 2) (kRoll r f x1 x2 x3) from by rw [h9]; rfl), ⟨(by rw [ht, if_neg hk0]; exact hP1), (by rw [ht]; exact hO1), fun h => absurd h hk0⟩⟩, hS1.F ht⟩) hS1.2.2 dL_roll_18
    · have hE1 : E = xISE := hE.trans (by rw [h9]; rfl)
      subst hE1
      refine vx_catch hown [⟨0, 12, 15, 19⟩] ⟨0, 12, 19, 13⟩ [] hnt ?_ rfl (by show ¬ (13 : Nat) = 0; decide) (hts (.classLink RL 13 xISE) (by decide +kernel)) (va_Nw.use rfl (hX.2.2.1 xISE (by decide))) hcell hv hcl ?_
      · intro z hz
        have hz1 := List.mem_singleton.mp hz
        subst hz1
        exact Or.inr ⟨(by show ¬ (19 : Nat) = 0; decide), xIOB, hts (.classLink RL 19 xIOB) (by decide +kernel), hX.2.2.2.1.1⟩
      refine lv_astore (lv' := [(5, .ref q9), (0, .ref (z 0)), (1, .int x1), (2, .int x2), (3, .int x3), (4, .ref o)]) hx hb dL_roll_19 hl (by decide) rfl (fun ls hl => ?_)
      refine lv_iconst (v := nI 2) hx hb dL_roll_21 (by decide +kernel) ?_
      refine W.widen (k := 5) (n := 30) (Nat.le_of_ble_eq_true rfl) (Nat.le_of_ble_eq_true rfl) ?_
      exact W.iret (v := nI 2) hx hb hr (fun t ht _ => ⟨⟨_, g0, rfl, (show nI 2 = gCode (nI 1) (nI 0) (nI 2) (kRoll r f x1 x2 x3) from by rw [h9]; rfl), ⟨(by rw [ht, if_neg hk0]; exact hP1), (by rw [ht]; exact hO1), fun h => absurd h hk0⟩⟩, hS1.F ht⟩) hS1.2.2 dL_roll_22
  · obtain ⟨h9, h10⟩ := hpost
    have hP1 : va_P G.1 vwCl (wRF G z (cAddR r f x1 (f 1) (cSubj x2) x3) (upF f 3 (f 3 + nI 1))) H1 := by rw [← ht]; exact hB
    have hO1 : va_at G.1 vwCl (gOut G o g0) H1 := hO.kept (hkeep o hO.lt (gO_no hoz))
    have hP2 : va_P G.1 vwCl ((wRF G z (cAddR r f x1 (f 1) (cSubj x2) x3) (upF f 3 (f 3 + nI 1))) ++ [gOut G o g0]) H1 := va_P.app hP1 (gO_P hO1)
    have hD2 : va_D (gO z o) ((wRF G z (cAddR r f x1 (f 1) (cSubj x2) x3) (upF f 3 (f 3 + nI 1))) ++ [gOut G o g0]) := gO_D hz hoz
    refine lv_i2l (v := x9.toInt64) hx hb dL_roll_10 rfl ?_
    refine va_last hx hb hK.1 hP2 hD2 hS1 50 2 rfl rfl (vp_in_nI (by decide) (by decide)) dL_roll_11 (fun H2 locs2 hP3 hD3 hS3 => ?_)
    refine lv_goto (tgt := 23) hx hb dL_roll_12 (by decide) ?_
    refine lv_iconst (v := nI 0) hx hb dL_roll_23 (by decide +kernel) ?_
    refine W.widen (k := 5) (n := 30) (Nat.le_of_ble_eq_true rfl) (Nat.le_of_ble_eq_true rfl) ?_
    exact W.iret (v := nI 0) hx hb hr (fun t ht _ => ⟨⟨_, _, rfl, (show nI 0 = gCode (nI 1) (nI 0) (nI 2) (kRoll r f x1 x2 x3) from by rw [h9]; rfl), ⟨(by rw [ht, if_pos h9]; exact gO_l hP3), (by rw [ht]; exact hP3 50 _ rfl), fun _ => (gO_u _ _).trans (congrArg Int32.toInt64 h10)⟩⟩, hS3.F ht⟩) hS3.2.2 dL_roll_24
set_option maxHeartbeats 4000000 in
set_option maxRecDepth 100000 in
theorem c_L_revert (l : Launch) (hfl : l.stackTraces = false) (G : gG) (H0 : Heap) (z : Nat → Nat) (hz : gDis z 50) (r : Nat → Nat → Int32) (f : Nat → Int32) (hP : va_P G.1 vwCl (wRF G z r f) H0) (o : Nat) (g0 : Nat → Int64) (hO : va_at G.1 vwCl (gOut G o g0) H0) (hoz : ∀ k, k < 50 → ¬ o = z k) (x1 : Int32) (x2 : Int32) (hK9 : (kRevert r f x1 x2) = 0 ∨ (kRevert r f x1 x2) = 1 ∨ (kRevert r f x1 x2) = 3) : gML l yL_revert wsL_revert 8 134 4 G H0 z o [.ref (z 0), .int x1, .int x2, .ref o] (kRevert r f x1 x2) (gCode (nI 1) (nI 0) (nI 2) (kRevert r f x1 x2)) (f 3) (wRF G z (cAddR r f x1 (f 1) (rAt 200 (r 7) x2) (cWithout r x2)) (upF f 3 (f 3 + nI 1))) (wRF G z r f) := by
  refine va_MetW (cc := cL_revert) (maxL := 5) (ret := (some .int)) (hh := [(0, 10, 13, 19), (0, 10, 17, 13)]) (by decide) rfl ?_
  intro p_ e_ s m args below meth c s₁ B hml hv
  obtain ⟨rfl, rfl, hK, hX⟩ := hv
  have hx := B.exec
  have hb := B.bytes
  have hr := B.returns
  have hts := atoms_spec (ws := wsL_revert) B.pre
  have hown : s.vm.findClass RL = some m.cls := findClass_of_methodNamed B.named
  have hlocks := B.notSynchronized
  have hnt : c.exceptionTable.toList = tableOf [(0, 10, 13, 19), (0, 10, 17, 13)] := vx_table (x := yL_revert) B (hts (.codeWith yL_revert cL_revert 5 (some .int) [(0, 10, 13, 19), (0, 10, 17, 13)]) List.mem_cons_self)
  have S0 : CallFix p_ m c cL_revert 5 s _ wsL_revert RL := ⟨hx, hb, hml, hown, hts⟩
  have hS : va_S (gO z o) s.heap s.heap [] := va_S.rf
  have hl := lv_entry ([.ref (z 0), .int x1, .int x2, .ref o]) (n := 5) (Nat.le_of_ble_eq_true rfl)
  rw [lg_entry_eq]
  generalize (lg_sl ([.ref (z 0), .int x1, .int x2, .ref o]) ++ List.replicate (5 - (lg_sl ([.ref (z 0), .int x1, .int x2, .ref o])).length) Slot.unset).toArray = ls at hl ⊢
  have hl : lv_has ls 5 [(0, .ref (z 0)), (1, .int x1), (2, .int x2), (3, .ref o)] := hl
  refine lv_aload_n hx hb dL_revert_0 rfl (lv_at hl 3 rfl) ?_
  refine lv_iconst (v := nI 0) hx hb dL_revert_1 (by decide +kernel) ?_
  refine lv_aload_n hx hb dL_revert_2 rfl (lv_at hl 0 rfl) ?_
  refine lv_iload_n hx hb dL_revert_3 rfl (lv_at hl 1 rfl) ?_
  refine lv_iload_n hx hb dL_revert_4 rfl (lv_at hl 2 rfl) ?_
  refine vx_calli (vx_runV (C := RX6) (As := [.int x1, .int x2]) (rest := [.int (nI 0), .ref o]) S0 (c_X6_revert l hfl G _ z hz r f hP x1 x2) (cwV 2 hts gL_revert_X6_revert rfl rfl rfl (by decide +kernel) ⟨Nat.le_of_ble_eq_true rfl, Nat.le_of_ble_eq_true rfl⟩) (g_preXV hK hX hP (q0 := 0) (ci := 6) (q := (RX6, TX6, 7)) rfl rfl) rfl rfl hl.1 rfl (lv_room (Nat.le_of_ble_eq_true rfl)) dL_revert_5 ⟨Nat.le_of_ble_eq_true rfl, Nat.le_of_ble_eq_true rfl⟩) hS (fun q _ h => Or.inl h) (fun q h => Or.inl h) (fun _ _ h => h.elim) (fun E ce q9 u t H1 locs1 ht hvm hk0 hE hz1 hkeep hS1 hcell hv hcl => ?_) (fun x9 u t H1 locs1 ht hvm hpost hB hz1 hkeep hS1 => ?_)
  · have hP1 : va_P G.1 vwCl (wRF G z r f) H1 := hP.kept (fun k q hq => hkeep q.1 (hP k q hq).lt (fun h => h))
    have hO1 : va_at G.1 vwCl (gOut G o g0) H1 := hO.kept (hkeep o hO.lt (fun h => h))
    rcases hK9 with h9 | h9 | h9
    · exact absurd h9 hk0
    · have hE1 : E = xIOB := hE.trans (by rw [h9]; rfl)
      subst hE1
      refine vx_catch hown [] ⟨0, 10, 13, 19⟩ [⟨0, 10, 17, 13⟩] hnt (fun z hz => absurd hz List.not_mem_nil) rfl (by show ¬ (19 : Nat) = 0; decide) (hts (.classLink RL 19 xIOB) (by decide +kernel)) (va_Nw.use rfl (hX.2.2.1 xIOB (by decide))) hcell hv hcl ?_
      refine lv_astore (lv' := [(4, .ref q9), (0, .ref (z 0)), (1, .int x1), (2, .int x2), (3, .ref o)]) hx hb dL_revert_13 hl (by decide) rfl (fun ls hl => ?_)
      refine lv_iconst (v := nI 1) hx hb dL_revert_15 (by decide +kernel) ?_
      refine W.widen (k := 4) (n := 24) (Nat.le_of_ble_eq_true rfl) (Nat.le_of_ble_eq_true rfl) ?_
      exact W.iret (v := nI 1) hx hb hr (fun t ht _ => ⟨⟨_, g0, rfl, (show nI 1 = gCode (nI 1) (nI 0) (nI 2) (kRevert r f x1 x2) from by rw [h9]; rfl), ⟨(by rw [ht, if_neg hk0]; exact hP1), (by rw [ht]; exact hO1), fun h => absurd h hk0⟩⟩, hS1.F ht⟩) hS1.2.2 dL_revert_16
    · have hE1 : E = xISE := hE.trans (by rw [h9]; rfl)
      subst hE1
      refine vx_catch hown [⟨0, 10, 13, 19⟩] ⟨0, 10, 17, 13⟩ [] hnt ?_ rfl (by show ¬ (13 : Nat) = 0; decide) (hts (.classLink RL 13 xISE) (by decide +kernel)) (va_Nw.use rfl (hX.2.2.1 xISE (by decide))) hcell hv hcl ?_
      · intro z hz
        have hz1 := List.mem_singleton.mp hz
        subst hz1
        exact Or.inr ⟨(by show ¬ (19 : Nat) = 0; decide), xIOB, hts (.classLink RL 19 xIOB) (by decide +kernel), hX.2.2.2.1.1⟩
      refine lv_astore (lv' := [(4, .ref q9), (0, .ref (z 0)), (1, .int x1), (2, .int x2), (3, .ref o)]) hx hb dL_revert_17 hl (by decide) rfl (fun ls hl => ?_)
      refine lv_iconst (v := nI 2) hx hb dL_revert_19 (by decide +kernel) ?_
      refine W.widen (k := 4) (n := 24) (Nat.le_of_ble_eq_true rfl) (Nat.le_of_ble_eq_true rfl) ?_
      exact W.iret (v := nI 2) hx hb hr (fun t ht _ => ⟨⟨_, g0, rfl, (show nI 2 = gCode (nI 1) (nI 0) (nI 2) (kRevert r f x1 x2) from by rw [h9]; rfl), ⟨(by rw [ht, if_neg hk0]; exact hP1), (by rw [ht]; exact hO1), fun h => absurd h hk0⟩⟩, hS1.F ht⟩) hS1.2.2 dL_revert_20
  · obtain ⟨h9, h10⟩ := hpost
    have hP1 : va_P G.1 vwCl (wRF G z (cAddR r f x1 (f 1) (rAt 200 (r 7) x2) (cWithout r x2)) (upF f 3 (f 3 + nI 1))) H1 := by rw [← ht]; exact hB
    have hO1 : va_at G.1 vwCl (gOut G o g0) H1 := hO.kept (hkeep o hO.lt (gO_no hoz))
    have hP2 : va_P G.1 vwCl ((wRF G z (cAddR r f x1 (f 1) (rAt 200 (r 7) x2) (cWithout r x2)) (upF f 3 (f 3 + nI 1))) ++ [gOut G o g0]) H1 := va_P.app hP1 (gO_P hO1)
    have hD2 : va_D (gO z o) ((wRF G z (cAddR r f x1 (f 1) (rAt 200 (r 7) x2) (cWithout r x2)) (upF f 3 (f 3 + nI 1))) ++ [gOut G o g0]) := gO_D hz hoz
    refine lv_i2l (v := x9.toInt64) hx hb dL_revert_8 rfl ?_
    refine va_last hx hb hK.1 hP2 hD2 hS1 50 2 rfl rfl (vp_in_nI (by decide) (by decide)) dL_revert_9 (fun H2 locs2 hP3 hD3 hS3 => ?_)
    refine lv_goto (tgt := 21) hx hb dL_revert_10 (by decide) ?_
    refine lv_iconst (v := nI 0) hx hb dL_revert_21 (by decide +kernel) ?_
    refine W.widen (k := 4) (n := 24) (Nat.le_of_ble_eq_true rfl) (Nat.le_of_ble_eq_true rfl) ?_
    exact W.iret (v := nI 0) hx hb hr (fun t ht _ => ⟨⟨_, _, rfl, (show nI 0 = gCode (nI 1) (nI 0) (nI 2) (kRevert r f x1 x2) from by rw [h9]; rfl), ⟨(by rw [ht, if_pos h9]; exact gO_l hP3), (by rw [ht]; exact hP3 50 _ rfl), fun _ => (gO_u _ _).trans (congrArg Int32.toInt64 h10)⟩⟩, hS3.F ht⟩) hS3.2.2 dL_revert_22
set_option maxHeartbeats 4000000 in
set_option maxRecDepth 100000 in
theorem c_L_takeOver (l : Launch) (hfl : l.stackTraces = false) (G : gG) (H0 : Heap) (z : Nat → Nat) (hz : gDis z 50) (r : Nat → Nat → Int32) (f : Nat → Int32) (hP : va_P G.1 vwCl (wRF G z r f) H0) (o : Nat) (g0 : Nat → Int64) (hO : va_at G.1 vwCl (gOut G o g0) H0) (hoz : ∀ k, k < 50 → ¬ o = z k) (x1 : Int32) (hK9 : (kTake r f x1) = 0 ∨ (kTake r f x1) = 1 ∨ (kTake r f x1) = 3) : gML l yL_takeOver wsL_takeOver 8 133 2 G H0 z o [.ref (z 0), .int x1, .ref o] (kTake r f x1) (gCode (nI 1) (nI 0) (nI 2) (kTake r f x1)) (rAt 42 (r 17) (f 1 / nI 14 + nI 1)) (wRF G z (upR r 17 (rPut 42 (r 17) (f 1 / nI 14 + nI 1) x1)) f) (wRF G z r f) := by
  refine va_MetW (cc := cL_takeOver) (maxL := 4) (ret := (some .int)) (hh := [(0, 9, 12, 19), (0, 9, 15, 13)]) (by decide) rfl ?_
  intro p_ e_ s m args below meth c s₁ B hml hv
  obtain ⟨rfl, rfl, hK, hX⟩ := hv
  have hx := B.exec
  have hb := B.bytes
  have hr := B.returns
  have hts := atoms_spec (ws := wsL_takeOver) B.pre
  have hown : s.vm.findClass RL = some m.cls := findClass_of_methodNamed B.named
  have hlocks := B.notSynchronized
  have hnt : c.exceptionTable.toList = tableOf [(0, 9, 12, 19), (0, 9, 15, 13)] := vx_table (x := yL_takeOver) B (hts (.codeWith yL_takeOver cL_takeOver 4 (some .int) [(0, 9, 12, 19), (0, 9, 15, 13)]) List.mem_cons_self)
  have S0 : CallFix p_ m c cL_takeOver 4 s _ wsL_takeOver RL := ⟨hx, hb, hml, hown, hts⟩
  have hS : va_S (gO z o) s.heap s.heap [] := va_S.rf
  have hl := lv_entry ([.ref (z 0), .int x1, .ref o]) (n := 4) (Nat.le_of_ble_eq_true rfl)
  rw [lg_entry_eq]
  generalize (lg_sl ([.ref (z 0), .int x1, .ref o]) ++ List.replicate (4 - (lg_sl ([.ref (z 0), .int x1, .ref o])).length) Slot.unset).toArray = ls at hl ⊢
  have hl : lv_has ls 4 [(0, .ref (z 0)), (1, .int x1), (2, .ref o)] := hl
  refine lv_aload_n hx hb dL_takeOver_0 rfl (lv_at hl 2 rfl) ?_
  refine lv_iconst (v := nI 0) hx hb dL_takeOver_1 (by decide +kernel) ?_
  refine lv_aload_n hx hb dL_takeOver_2 rfl (lv_at hl 0 rfl) ?_
  refine lv_iload_n hx hb dL_takeOver_3 rfl (lv_at hl 1 rfl) ?_
  refine vx_calli (vx_runV (C := RX6) (As := [.int x1]) (rest := [.int (nI 0), .ref o]) S0 (c_X6_takeOver l hfl G _ z hz r f hP x1) (cwV 1 hts gL_takeOver_X6_takeOver rfl rfl rfl (by decide +kernel) ⟨Nat.le_of_ble_eq_true rfl, Nat.le_of_ble_eq_true rfl⟩) (g_preXV hK hX hP (q0 := 0) (ci := 6) (q := (RX6, TX6, 7)) rfl rfl) rfl rfl hl.1 rfl (lv_room (Nat.le_of_ble_eq_true rfl)) dL_takeOver_4 ⟨Nat.le_of_ble_eq_true rfl, Nat.le_of_ble_eq_true rfl⟩) hS (fun q _ h => Or.inl h) (fun q h => Or.inl h) (fun _ _ h => h.elim) (fun E ce q9 u t H1 locs1 ht hvm hk0 hE hz1 hkeep hS1 hcell hv hcl => ?_) (fun x9 u t H1 locs1 ht hvm hpost hB hz1 hkeep hS1 => ?_)
  · have hP1 : va_P G.1 vwCl (wRF G z r f) H1 := hP.kept (fun k q hq => hkeep q.1 (hP k q hq).lt (fun h => h))
    have hO1 : va_at G.1 vwCl (gOut G o g0) H1 := hO.kept (hkeep o hO.lt (fun h => h))
    rcases hK9 with h9 | h9 | h9
    · exact absurd h9 hk0
    · have hE1 : E = xIOB := hE.trans (by rw [h9]; rfl)
      subst hE1
      refine vx_catch hown [] ⟨0, 9, 12, 19⟩ [⟨0, 9, 15, 13⟩] hnt (fun z hz => absurd hz List.not_mem_nil) rfl (by show ¬ (19 : Nat) = 0; decide) (hts (.classLink RL 19 xIOB) (by decide +kernel)) (va_Nw.use rfl (hX.2.2.1 xIOB (by decide))) hcell hv hcl ?_
      refine lv_astore_n (lv' := [(3, .ref q9), (0, .ref (z 0)), (1, .int x1), (2, .ref o)]) hx hb dL_takeOver_12 rfl hl (by decide) rfl (fun ls hl => ?_)
      refine lv_iconst (v := nI 1) hx hb dL_takeOver_13 (by decide +kernel) ?_
      refine W.widen (k := 2) (n := 12) (Nat.le_of_ble_eq_true rfl) (Nat.le_of_ble_eq_true rfl) ?_
      exact W.iret (v := nI 1) hx hb hr (fun t ht _ => ⟨⟨_, g0, rfl, (show nI 1 = gCode (nI 1) (nI 0) (nI 2) (kTake r f x1) from by rw [h9]; rfl), ⟨(by rw [ht, if_neg hk0]; exact hP1), (by rw [ht]; exact hO1), fun h => absurd h hk0⟩⟩, hS1.F ht⟩) hS1.2.2 dL_takeOver_14
    · have hE1 : E = xISE := hE.trans (by rw [h9]; rfl)
      subst hE1
      refine vx_catch hown [⟨0, 9, 12, 19⟩] ⟨0, 9, 15, 13⟩ [] hnt ?_ rfl (by show ¬ (13 : Nat) = 0; decide) (hts (.classLink RL 13 xISE) (by decide +kernel)) (va_Nw.use rfl (hX.2.2.1 xISE (by decide))) hcell hv hcl ?_
      · intro z hz
        have hz1 := List.mem_singleton.mp hz
        subst hz1
        exact Or.inr ⟨(by show ¬ (19 : Nat) = 0; decide), xIOB, hts (.classLink RL 19 xIOB) (by decide +kernel), hX.2.2.2.1.1⟩
      refine lv_astore_n (lv' := [(3, .ref q9), (0, .ref (z 0)), (1, .int x1), (2, .ref o)]) hx hb dL_takeOver_15 rfl hl (by decide) rfl (fun ls hl => ?_)
      refine lv_iconst (v := nI 2) hx hb dL_takeOver_16 (by decide +kernel) ?_
      refine W.widen (k := 2) (n := 12) (Nat.le_of_ble_eq_true rfl) (Nat.le_of_ble_eq_true rfl) ?_
      exact W.iret (v := nI 2) hx hb hr (fun t ht _ => ⟨⟨_, g0, rfl, (show nI 2 = gCode (nI 1) (nI 0) (nI 2) (kTake r f x1) from by rw [h9]; rfl), ⟨(by rw [ht, if_neg hk0]; exact hP1), (by rw [ht]; exact hO1), fun h => absurd h hk0⟩⟩, hS1.F ht⟩) hS1.2.2 dL_takeOver_17
  · obtain ⟨h9, h10⟩ := hpost
    have hP1 : va_P G.1 vwCl (wRF G z (upR r 17 (rPut 42 (r 17) (f 1 / nI 14 + nI 1) x1)) f) H1 := by rw [← ht]; exact hB
    have hO1 : va_at G.1 vwCl (gOut G o g0) H1 := hO.kept (hkeep o hO.lt (gO_no hoz))
    have hP2 : va_P G.1 vwCl ((wRF G z (upR r 17 (rPut 42 (r 17) (f 1 / nI 14 + nI 1) x1)) f) ++ [gOut G o g0]) H1 := va_P.app hP1 (gO_P hO1)
    have hD2 : va_D (gO z o) ((wRF G z (upR r 17 (rPut 42 (r 17) (f 1 / nI 14 + nI 1) x1)) f) ++ [gOut G o g0]) := gO_D hz hoz
    refine lv_i2l (v := x9.toInt64) hx hb dL_takeOver_7 rfl ?_
    refine va_last hx hb hK.1 hP2 hD2 hS1 50 2 rfl rfl (vp_in_nI (by decide) (by decide)) dL_takeOver_8 (fun H2 locs2 hP3 hD3 hS3 => ?_)
    refine lv_goto (tgt := 18) hx hb dL_takeOver_9 (by decide) ?_
    refine lv_iconst (v := nI 0) hx hb dL_takeOver_18 (by decide +kernel) ?_
    refine W.widen (k := 2) (n := 12) (Nat.le_of_ble_eq_true rfl) (Nat.le_of_ble_eq_true rfl) ?_
    exact W.iret (v := nI 0) hx hb hr (fun t ht _ => ⟨⟨_, _, rfl, (show nI 0 = gCode (nI 1) (nI 0) (nI 2) (kTake r f x1) from by rw [h9]; rfl), ⟨(by rw [ht, if_pos h9]; exact gO_l hP3), (by rw [ht]; exact hP3 50 _ rfl), fun _ => (gO_u _ _).trans (congrArg Int32.toInt64 h10)⟩⟩, hS3.F ht⟩) hS3.2.2 dL_takeOver_19
set_option maxHeartbeats 4000000 in
set_option maxRecDepth 100000 in
theorem c_L_pass (l : Launch) (hfl : l.stackTraces = false) (G : gG) (H0 : Heap) (z : Nat → Nat) (hz : gDis z 50) (r : Nat → Nat → Int32) (f : Nat → Int32) (hP : va_P G.1 vwCl (wRF G z r f) H0) (o : Nat) (g0 : Nat → Int64) (hO : va_at G.1 vwCl (gOut G o g0) H0) (hoz : ∀ k, k < 50 → ¬ o = z k) (x1 : Int32) (t a : Nat) (ht9 : f 1 = nI t) (ht8 : t ≤ 560) (ha9 : f 4 = nI a) (ha8 : a ≤ 200) (hK9 : (kPass f x1) = 0 ∨ (kPass f x1) = 2 ∨ (kPass f x1) = 3) : gML l yL_pass wsL_pass 7 164 1 G H0 z o [.ref (z 0), .int x1, .ref o] (kPass f x1) (gCode (nI 0) (nI 1) (nI 2) (kPass f x1)) ((cPass (cN x1) (r, f)).2 4 - f 4) (wRF G z ((cPass (cN x1) (r, f)).1) ((cPass (cN x1) (r, f)).2)) (wRF G z r f) := by
  refine va_MetW (cc := cL_pass) (maxL := 4) (ret := (some .int)) (hh := [(0, 9, 12, 24), (0, 9, 15, 13)]) (by decide) rfl ?_
  intro p_ e_ s m args below meth c s₁ B hml hv
  obtain ⟨rfl, rfl, hK, hX⟩ := hv
  have hx := B.exec
  have hb := B.bytes
  have hr := B.returns
  have hts := atoms_spec (ws := wsL_pass) B.pre
  have hown : s.vm.findClass RL = some m.cls := findClass_of_methodNamed B.named
  have hlocks := B.notSynchronized
  have hnt : c.exceptionTable.toList = tableOf [(0, 9, 12, 24), (0, 9, 15, 13)] := vx_table (x := yL_pass) B (hts (.codeWith yL_pass cL_pass 4 (some .int) [(0, 9, 12, 24), (0, 9, 15, 13)]) List.mem_cons_self)
  have S0 : CallFix p_ m c cL_pass 4 s _ wsL_pass RL := ⟨hx, hb, hml, hown, hts⟩
  have hS : va_S (gO z o) s.heap s.heap [] := va_S.rf
  have hl := lv_entry ([.ref (z 0), .int x1, .ref o]) (n := 4) (Nat.le_of_ble_eq_true rfl)
  rw [lg_entry_eq]
  generalize (lg_sl ([.ref (z 0), .int x1, .ref o]) ++ List.replicate (4 - (lg_sl ([.ref (z 0), .int x1, .ref o])).length) Slot.unset).toArray = ls at hl ⊢
  have hl : lv_has ls 4 [(0, .ref (z 0)), (1, .int x1), (2, .ref o)] := hl
  refine lv_aload_n hx hb dL_pass_0 rfl (lv_at hl 2 rfl) ?_
  refine lv_iconst (v := nI 0) hx hb dL_pass_1 (by decide +kernel) ?_
  refine lv_aload_n hx hb dL_pass_2 rfl (lv_at hl 0 rfl) ?_
  refine lv_iload_n hx hb dL_pass_3 rfl (lv_at hl 1 rfl) ?_
  refine vx_calli (vx_runV (C := RX6) (As := [.int x1]) (rest := [.int (nI 0), .ref o]) S0 (c_X6_pass l hfl G _ z hz r f hP x1 t a ht9 ht8 ha9 ha8) (cwV 1 hts gL_pass_X6_pass rfl rfl rfl (by decide +kernel) ⟨Nat.le_of_ble_eq_true rfl, Nat.le_of_ble_eq_true rfl⟩) (g_preXV hK hX hP (q0 := 0) (ci := 6) (q := (RX6, TX6, 7)) rfl rfl) rfl rfl hl.1 rfl (lv_room (Nat.le_of_ble_eq_true rfl)) dL_pass_4 ⟨Nat.le_of_ble_eq_true rfl, Nat.le_of_ble_eq_true rfl⟩) hS (fun q _ h => Or.inl h) (fun q h => Or.inl h) (fun _ _ h => h.elim) (fun E ce q9 u t H1 locs1 ht hvm hk0 hE hz1 hkeep hS1 hcell hv hcl => ?_) (fun x9 u t H1 locs1 ht hvm hpost hB hz1 hkeep hS1 => ?_)
  · have hP1 : va_P G.1 vwCl (wRF G z r f) H1 := hP.kept (fun k q hq => hkeep q.1 (hP k q hq).lt (fun h => h))
    have hO1 : va_at G.1 vwCl (gOut G o g0) H1 := hO.kept (hkeep o hO.lt (fun h => h))
    rcases hK9 with h9 | h9 | h9
    · exact absurd h9 hk0
    · have hE1 : E = xIAE := hE.trans (by rw [h9]; rfl)
      subst hE1
      refine vx_catch hown [] ⟨0, 9, 12, 24⟩ [⟨0, 9, 15, 13⟩] hnt (fun z hz => absurd hz List.not_mem_nil) rfl (by show ¬ (24 : Nat) = 0; decide) (hts (.classLink RL 24 xIAE) (by decide +kernel)) (va_Nw.use rfl (hX.2.2.1 xIAE (by decide))) hcell hv hcl ?_
      refine lv_astore_n (lv' := [(3, .ref q9), (0, .ref (z 0)), (1, .int x1), (2, .ref o)]) hx hb dL_pass_12 rfl hl (by decide) rfl (fun ls hl => ?_)
      refine lv_iconst (v := nI 1) hx hb dL_pass_13 (by decide +kernel) ?_
      refine W.widen (k := 1) (n := 6) (Nat.le_of_ble_eq_true rfl) (Nat.le_of_ble_eq_true rfl) ?_
      exact W.iret (v := nI 1) hx hb hr (fun t ht _ => ⟨⟨_, g0, rfl, (show nI 1 = gCode (nI 0) (nI 1) (nI 2) (kPass f x1) from by rw [h9]; rfl), ⟨(by rw [ht, if_neg hk0]; exact hP1), (by rw [ht]; exact hO1), fun h => absurd h hk0⟩⟩, hS1.F ht⟩) hS1.2.2 dL_pass_14
    · have hE1 : E = xISE := hE.trans (by rw [h9]; rfl)
      subst hE1
      refine vx_catch hown [⟨0, 9, 12, 24⟩] ⟨0, 9, 15, 13⟩ [] hnt ?_ rfl (by show ¬ (13 : Nat) = 0; decide) (hts (.classLink RL 13 xISE) (by decide +kernel)) (va_Nw.use rfl (hX.2.2.1 xISE (by decide))) hcell hv hcl ?_
      · intro z hz
        have hz1 := List.mem_singleton.mp hz
        subst hz1
        exact Or.inr ⟨(by show ¬ (24 : Nat) = 0; decide), xIAE, hts (.classLink RL 24 xIAE) (by decide +kernel), hX.2.2.2.1.2.1⟩
      refine lv_astore_n (lv' := [(3, .ref q9), (0, .ref (z 0)), (1, .int x1), (2, .ref o)]) hx hb dL_pass_15 rfl hl (by decide) rfl (fun ls hl => ?_)
      refine lv_iconst (v := nI 2) hx hb dL_pass_16 (by decide +kernel) ?_
      refine W.widen (k := 1) (n := 6) (Nat.le_of_ble_eq_true rfl) (Nat.le_of_ble_eq_true rfl) ?_
      exact W.iret (v := nI 2) hx hb hr (fun t ht _ => ⟨⟨_, g0, rfl, (show nI 2 = gCode (nI 0) (nI 1) (nI 2) (kPass f x1) from by rw [h9]; rfl), ⟨(by rw [ht, if_neg hk0]; exact hP1), (by rw [ht]; exact hO1), fun h => absurd h hk0⟩⟩, hS1.F ht⟩) hS1.2.2 dL_pass_17
  · obtain ⟨h9, h10⟩ := hpost
    have hP1 : va_P G.1 vwCl (wRF G z ((cPass (cN x1) (r, f)).1) ((cPass (cN x1) (r, f)).2)) H1 := by rw [← ht]; exact hB
    have hO1 : va_at G.1 vwCl (gOut G o g0) H1 := hO.kept (hkeep o hO.lt (gO_no hoz))
    have hP2 : va_P G.1 vwCl ((wRF G z ((cPass (cN x1) (r, f)).1) ((cPass (cN x1) (r, f)).2)) ++ [gOut G o g0]) H1 := va_P.app hP1 (gO_P hO1)
    have hD2 : va_D (gO z o) ((wRF G z ((cPass (cN x1) (r, f)).1) ((cPass (cN x1) (r, f)).2)) ++ [gOut G o g0]) := gO_D hz hoz
    refine lv_i2l (v := x9.toInt64) hx hb dL_pass_7 rfl ?_
    refine va_last hx hb hK.1 hP2 hD2 hS1 50 2 rfl rfl (vp_in_nI (by decide) (by decide)) dL_pass_8 (fun H2 locs2 hP3 hD3 hS3 => ?_)
    refine lv_goto (tgt := 18) hx hb dL_pass_9 (by decide) ?_
    refine lv_iconst (v := nI 0) hx hb dL_pass_18 (by decide +kernel) ?_
    refine W.widen (k := 1) (n := 6) (Nat.le_of_ble_eq_true rfl) (Nat.le_of_ble_eq_true rfl) ?_
    exact W.iret (v := nI 0) hx hb hr (fun t ht _ => ⟨⟨_, _, rfl, (show nI 0 = gCode (nI 0) (nI 1) (nI 2) (kPass f x1) from by rw [h9]; rfl), ⟨(by rw [ht, if_pos h9]; exact gO_l hP3), (by rw [ht]; exact hP3 50 _ rfl), fun _ => (gO_u _ _).trans (congrArg Int32.toInt64 h10)⟩⟩, hS3.F ht⟩) hS3.2.2 dL_pass_19
set_option maxHeartbeats 4000000 in
set_option maxRecDepth 100000 in
theorem c_L_holder (l : Launch) (hfl : l.stackTraces = false) (G : gG) (H0 : Heap) (z : Nat → Nat) (hz : gDis z 50) (r : Nat → Nat → Int32) (f : Nat → Int32) (hP : va_P G.1 vwCl (wRF G z r f) H0) (o : Nat) (g0 : Nat → Int64) (hO : va_at G.1 vwCl (gOut G o g0) H0) (hoz : ∀ k, k < 50 → ¬ o = z k) (x1 : Int32) (hK9 : (kHolder f x1) = 0 ∨ (kHolder f x1) = 1) : gML l yL_holder wsL_holder 7 111 1 G H0 z o [.ref (z 0), .int x1, .ref o] (kHolder f x1) (gCode (nI 1) (nI 0) (nI 0) (kHolder f x1)) (rAt 42 (r 17) x1) (wRF G z r f) (wRF G z r f) := by
  refine va_MetW (cc := cL_holder) (maxL := 4) (ret := (some .int)) (hh := [(0, 9, 12, 19)]) (by decide) rfl ?_
  intro p_ e_ s m args below meth c s₁ B hml hv
  obtain ⟨rfl, rfl, hK, hX⟩ := hv
  have hx := B.exec
  have hb := B.bytes
  have hr := B.returns
  have hts := atoms_spec (ws := wsL_holder) B.pre
  have hown : s.vm.findClass RL = some m.cls := findClass_of_methodNamed B.named
  have hlocks := B.notSynchronized
  have hnt : c.exceptionTable.toList = tableOf [(0, 9, 12, 19)] := vx_table (x := yL_holder) B (hts (.codeWith yL_holder cL_holder 4 (some .int) [(0, 9, 12, 19)]) List.mem_cons_self)
  have S0 : CallFix p_ m c cL_holder 4 s _ wsL_holder RL := ⟨hx, hb, hml, hown, hts⟩
  have hS : va_S (gO z o) s.heap s.heap [] := va_S.rf
  have hl := lv_entry ([.ref (z 0), .int x1, .ref o]) (n := 4) (Nat.le_of_ble_eq_true rfl)
  rw [lg_entry_eq]
  generalize (lg_sl ([.ref (z 0), .int x1, .ref o]) ++ List.replicate (4 - (lg_sl ([.ref (z 0), .int x1, .ref o])).length) Slot.unset).toArray = ls at hl ⊢
  have hl : lv_has ls 4 [(0, .ref (z 0)), (1, .int x1), (2, .ref o)] := hl
  refine lv_aload_n hx hb dL_holder_0 rfl (lv_at hl 2 rfl) ?_
  refine lv_iconst (v := nI 0) hx hb dL_holder_1 (by decide +kernel) ?_
  refine lv_aload_n hx hb dL_holder_2 rfl (lv_at hl 0 rfl) ?_
  refine lv_iload_n hx hb dL_holder_3 rfl (lv_at hl 1 rfl) ?_
  refine vx_calli (vx_runV (C := RX6) (As := [.int x1]) (rest := [.int (nI 0), .ref o]) S0 (c_X6_holder l hfl G _ z r f hP x1) (cwV 1 hts gL_holder_X6_holder rfl rfl rfl (by decide +kernel) ⟨Nat.le_of_ble_eq_true rfl, Nat.le_of_ble_eq_true rfl⟩) (g_preXV hK hX hP (q0 := 0) (ci := 6) (q := (RX6, TX6, 7)) rfl rfl) rfl rfl hl.1 rfl (lv_room (Nat.le_of_ble_eq_true rfl)) dL_holder_4 ⟨Nat.le_of_ble_eq_true rfl, Nat.le_of_ble_eq_true rfl⟩) hS (fun q _ h => h.elim) (fun q h => h.elim) (fun _ _ h => h.elim) (fun E ce q9 u t H1 locs1 ht hvm hk0 hE hz1 hkeep hS1 hcell hv hcl => ?_) (fun x9 u t H1 locs1 ht hvm hpost hB hz1 hkeep hS1 => ?_)
  · have hP1 : va_P G.1 vwCl (wRF G z r f) H1 := hP.kept (fun k q hq => hkeep q.1 (hP k q hq).lt (fun h => h))
    have hO1 : va_at G.1 vwCl (gOut G o g0) H1 := hO.kept (hkeep o hO.lt (fun h => h))
    rcases hK9 with h9 | h9
    · exact absurd h9 hk0
    · have hE1 : E = xIOB := hE.trans (by rw [h9]; rfl)
      subst hE1
      refine vx_catch hown [] ⟨0, 9, 12, 19⟩ [] hnt (fun z hz => absurd hz List.not_mem_nil) rfl (by show ¬ (19 : Nat) = 0; decide) (hts (.classLink RL 19 xIOB) (by decide +kernel)) (va_Nw.use rfl (hX.2.2.1 xIOB (by decide))) hcell hv hcl ?_
      refine lv_astore_n (lv' := [(3, .ref q9), (0, .ref (z 0)), (1, .int x1), (2, .ref o)]) hx hb dL_holder_12 rfl hl (by decide) rfl (fun ls hl => ?_)
      refine lv_iconst (v := nI 1) hx hb dL_holder_13 (by decide +kernel) ?_
      refine W.widen (k := 1) (n := 6) (Nat.le_of_ble_eq_true rfl) (Nat.le_of_ble_eq_true rfl) ?_
      exact W.iret (v := nI 1) hx hb hr (fun t ht _ => ⟨⟨_, g0, rfl, (show nI 1 = gCode (nI 1) (nI 0) (nI 0) (kHolder f x1) from by rw [h9]; rfl), ⟨(by rw [ht, if_neg hk0]; exact hP1), (by rw [ht]; exact hO1), fun h => absurd h hk0⟩⟩, hS1.F ht⟩) hS1.2.2 dL_holder_14
  · obtain ⟨h9, h10⟩ := hpost
    have h8 : H1 = s.heap := ht.symm.trans hB
    subst h8
    have hP1 := hP
    have hO1 := hO
    have hP2 : va_P G.1 vwCl ((wRF G z r f) ++ [gOut G o g0]) s.heap := va_P.app hP1 (gO_P hO1)
    have hD2 : va_D (gO z o) ((wRF G z r f) ++ [gOut G o g0]) := gO_D hz hoz
    refine lv_i2l (v := x9.toInt64) hx hb dL_holder_7 rfl ?_
    refine va_last hx hb hK.1 hP2 hD2 hS1 50 2 rfl rfl (vp_in_nI (by decide) (by decide)) dL_holder_8 (fun H2 locs2 hP3 hD3 hS3 => ?_)
    refine lv_goto (tgt := 15) hx hb dL_holder_9 (by decide) ?_
    refine lv_iconst (v := nI 0) hx hb dL_holder_15 (by decide +kernel) ?_
    refine W.widen (k := 1) (n := 6) (Nat.le_of_ble_eq_true rfl) (Nat.le_of_ble_eq_true rfl) ?_
    exact W.iret (v := nI 0) hx hb hr (fun t ht _ => ⟨⟨_, _, rfl, (show nI 0 = gCode (nI 1) (nI 0) (nI 0) (kHolder f x1) from by rw [h9]; rfl), ⟨(by rw [ht, if_pos h9]; exact gO_l hP3), (by rw [ht]; exact hP3 50 _ rfl), fun _ => (gO_u _ _).trans (congrArg Int32.toInt64 h10)⟩⟩, hS3.F ht⟩) hS3.2.2 dL_holder_16
set_option maxHeartbeats 4000000 in
set_option maxRecDepth 100000 in
theorem c_L_near (l : Launch) (hfl : l.stackTraces = false) (G : gG) (H0 : Heap) (z : Nat → Nat) (hz : gDis z 50) (r : Nat → Nat → Int32) (f : Nat → Int32) (hP : va_P G.1 vwCl (wRF G z r f) H0) (o : Nat) (g0 : Nat → Int64) (hO : va_at G.1 vwCl (gOut G o g0) H0) (hoz : ∀ k, k < 50 → ¬ o = z k) (x1 : Int32) (t : Nat) (ht9 : f 1 = nI t) (ht8 : t ≤ 560) (hK9 : (kPerson x1) = 0 ∨ (kPerson x1) = 1) : gML l yL_near wsL_near 8 131 1 G H0 z o [.ref (z 0), .int x1, .ref o] (kPerson x1) (gCode (nI 1) (nI 0) (nI 0) (kPerson x1)) (cNear r x1 (t / 14 + 2)) (wRF G z r f) (wRF G z r f) := by
  refine va_MetW (cc := cL_near) (maxL := 4) (ret := (some .int)) (hh := [(0, 9, 12, 19)]) (by decide) rfl ?_
  intro p_ e_ s m args below meth c s₁ B hml hv
  obtain ⟨rfl, rfl, hK, hX⟩ := hv
  have hx := B.exec
  have hb := B.bytes
  have hr := B.returns
  have hts := atoms_spec (ws := wsL_near) B.pre
  have hown : s.vm.findClass RL = some m.cls := findClass_of_methodNamed B.named
  have hlocks := B.notSynchronized
  have hnt : c.exceptionTable.toList = tableOf [(0, 9, 12, 19)] := vx_table (x := yL_near) B (hts (.codeWith yL_near cL_near 4 (some .int) [(0, 9, 12, 19)]) List.mem_cons_self)
  have S0 : CallFix p_ m c cL_near 4 s _ wsL_near RL := ⟨hx, hb, hml, hown, hts⟩
  have hS : va_S (gO z o) s.heap s.heap [] := va_S.rf
  have hl := lv_entry ([.ref (z 0), .int x1, .ref o]) (n := 4) (Nat.le_of_ble_eq_true rfl)
  rw [lg_entry_eq]
  generalize (lg_sl ([.ref (z 0), .int x1, .ref o]) ++ List.replicate (4 - (lg_sl ([.ref (z 0), .int x1, .ref o])).length) Slot.unset).toArray = ls at hl ⊢
  have hl : lv_has ls 4 [(0, .ref (z 0)), (1, .int x1), (2, .ref o)] := hl
  refine lv_aload_n hx hb dL_near_0 rfl (lv_at hl 2 rfl) ?_
  refine lv_iconst (v := nI 0) hx hb dL_near_1 (by decide +kernel) ?_
  refine lv_aload_n hx hb dL_near_2 rfl (lv_at hl 0 rfl) ?_
  refine lv_iload_n hx hb dL_near_3 rfl (lv_at hl 1 rfl) ?_
  refine vx_calli (vx_runV (C := RX6) (As := [.int x1]) (rest := [.int (nI 0), .ref o]) S0 (c_X6_near l hfl G _ z r f hP x1 t ht9 ht8) (cwV 1 hts gL_near_X6_near rfl rfl rfl (by decide +kernel) ⟨Nat.le_of_ble_eq_true rfl, Nat.le_of_ble_eq_true rfl⟩) (g_preXV hK hX hP (q0 := 0) (ci := 6) (q := (RX6, TX6, 7)) rfl rfl) rfl rfl hl.1 rfl (lv_room (Nat.le_of_ble_eq_true rfl)) dL_near_4 ⟨Nat.le_of_ble_eq_true rfl, Nat.le_of_ble_eq_true rfl⟩) hS (fun q _ h => h.elim) (fun q h => h.elim) (fun _ _ h => h.elim) (fun E ce q9 u t H1 locs1 ht hvm hk0 hE hz1 hkeep hS1 hcell hv hcl => ?_) (fun x9 u t H1 locs1 ht hvm hpost hB hz1 hkeep hS1 => ?_)
  · have hP1 : va_P G.1 vwCl (wRF G z r f) H1 := hP.kept (fun k q hq => hkeep q.1 (hP k q hq).lt (fun h => h))
    have hO1 : va_at G.1 vwCl (gOut G o g0) H1 := hO.kept (hkeep o hO.lt (fun h => h))
    rcases hK9 with h9 | h9
    · exact absurd h9 hk0
    · have hE1 : E = xIOB := hE.trans (by rw [h9]; rfl)
      subst hE1
      refine vx_catch hown [] ⟨0, 9, 12, 19⟩ [] hnt (fun z hz => absurd hz List.not_mem_nil) rfl (by show ¬ (19 : Nat) = 0; decide) (hts (.classLink RL 19 xIOB) (by decide +kernel)) (va_Nw.use rfl (hX.2.2.1 xIOB (by decide))) hcell hv hcl ?_
      refine lv_astore_n (lv' := [(3, .ref q9), (0, .ref (z 0)), (1, .int x1), (2, .ref o)]) hx hb dL_near_12 rfl hl (by decide) rfl (fun ls hl => ?_)
      refine lv_iconst (v := nI 1) hx hb dL_near_13 (by decide +kernel) ?_
      refine W.widen (k := 1) (n := 6) (Nat.le_of_ble_eq_true rfl) (Nat.le_of_ble_eq_true rfl) ?_
      exact W.iret (v := nI 1) hx hb hr (fun t ht _ => ⟨⟨_, g0, rfl, (show nI 1 = gCode (nI 1) (nI 0) (nI 0) (kPerson x1) from by rw [h9]; rfl), ⟨(by rw [ht, if_neg hk0]; exact hP1), (by rw [ht]; exact hO1), fun h => absurd h hk0⟩⟩, hS1.F ht⟩) hS1.2.2 dL_near_14
  · obtain ⟨h9, h10⟩ := hpost
    have h8 : H1 = s.heap := ht.symm.trans hB
    subst h8
    have hP1 := hP
    have hO1 := hO
    have hP2 : va_P G.1 vwCl ((wRF G z r f) ++ [gOut G o g0]) s.heap := va_P.app hP1 (gO_P hO1)
    have hD2 : va_D (gO z o) ((wRF G z r f) ++ [gOut G o g0]) := gO_D hz hoz
    refine lv_i2l (v := x9.toInt64) hx hb dL_near_7 rfl ?_
    refine va_last hx hb hK.1 hP2 hD2 hS1 50 2 rfl rfl (vp_in_nI (by decide) (by decide)) dL_near_8 (fun H2 locs2 hP3 hD3 hS3 => ?_)
    refine lv_goto (tgt := 15) hx hb dL_near_9 (by decide) ?_
    refine lv_iconst (v := nI 0) hx hb dL_near_15 (by decide +kernel) ?_
    refine W.widen (k := 1) (n := 6) (Nat.le_of_ble_eq_true rfl) (Nat.le_of_ble_eq_true rfl) ?_
    exact W.iret (v := nI 0) hx hb hr (fun t ht _ => ⟨⟨_, _, rfl, (show nI 0 = gCode (nI 1) (nI 0) (nI 0) (kPerson x1) from by rw [h9]; rfl), ⟨(by rw [ht, if_pos h9]; exact gO_l hP3), (by rw [ht]; exact hP3 50 _ rfl), fun _ => (gO_u _ _).trans (congrArg Int32.toInt64 h10)⟩⟩, hS3.F ht⟩) hS3.2.2 dL_near_16
set_option maxHeartbeats 4000000 in
set_option maxRecDepth 100000 in
theorem c_L_blots (l : Launch) (hfl : l.stackTraces = false) (G : gG) (H0 : Heap) (z : Nat → Nat) (hz : gDis z 50) (r : Nat → Nat → Int32) (f : Nat → Int32) (hP : va_P G.1 vwCl (wRF G z r f) H0) (o : Nat) (g0 : Nat → Int64) (hO : va_at G.1 vwCl (gOut G o g0) H0) (hoz : ∀ k, k < 50 → ¬ o = z k) (x1 : Int32) (hK9 : (kPerson x1) = 0 ∨ (kPerson x1) = 1) : gML l yL_blots wsL_blots 8 131 1 G H0 z o [.ref (z 0), .int x1, .ref o] (kPerson x1) (gCode (nI 1) (nI 0) (nI 0) (kPerson x1)) (rAt 6 (r 18) x1) (wRF G z r f) (wRF G z r f) := by
  refine va_MetW (cc := cL_blots) (maxL := 4) (ret := (some .int)) (hh := [(0, 9, 12, 19)]) (by decide) rfl ?_
  intro p_ e_ s m args below meth c s₁ B hml hv
  obtain ⟨rfl, rfl, hK, hX⟩ := hv
  have hx := B.exec
  have hb := B.bytes
  have hr := B.returns
  have hts := atoms_spec (ws := wsL_blots) B.pre
  have hown : s.vm.findClass RL = some m.cls := findClass_of_methodNamed B.named
  have hlocks := B.notSynchronized
  have hnt : c.exceptionTable.toList = tableOf [(0, 9, 12, 19)] := vx_table (x := yL_blots) B (hts (.codeWith yL_blots cL_blots 4 (some .int) [(0, 9, 12, 19)]) List.mem_cons_self)
  have S0 : CallFix p_ m c cL_blots 4 s _ wsL_blots RL := ⟨hx, hb, hml, hown, hts⟩
  have hS : va_S (gO z o) s.heap s.heap [] := va_S.rf
  have hl := lv_entry ([.ref (z 0), .int x1, .ref o]) (n := 4) (Nat.le_of_ble_eq_true rfl)
  rw [lg_entry_eq]
  generalize (lg_sl ([.ref (z 0), .int x1, .ref o]) ++ List.replicate (4 - (lg_sl ([.ref (z 0), .int x1, .ref o])).length) Slot.unset).toArray = ls at hl ⊢
  have hl : lv_has ls 4 [(0, .ref (z 0)), (1, .int x1), (2, .ref o)] := hl
  refine lv_aload_n hx hb dL_blots_0 rfl (lv_at hl 2 rfl) ?_
  refine lv_iconst (v := nI 0) hx hb dL_blots_1 (by decide +kernel) ?_
  refine lv_aload_n hx hb dL_blots_2 rfl (lv_at hl 0 rfl) ?_
  refine lv_iload_n hx hb dL_blots_3 rfl (lv_at hl 1 rfl) ?_
  refine vx_calli (vx_runV (C := RX6) (As := [.int x1]) (rest := [.int (nI 0), .ref o]) S0 (c_X6_blots l hfl G _ z r f hP x1) (cwV 1 hts gL_blots_X6_blots rfl rfl rfl (by decide +kernel) ⟨Nat.le_of_ble_eq_true rfl, Nat.le_of_ble_eq_true rfl⟩) (g_preXV hK hX hP (q0 := 0) (ci := 6) (q := (RX6, TX6, 7)) rfl rfl) rfl rfl hl.1 rfl (lv_room (Nat.le_of_ble_eq_true rfl)) dL_blots_4 ⟨Nat.le_of_ble_eq_true rfl, Nat.le_of_ble_eq_true rfl⟩) hS (fun q _ h => h.elim) (fun q h => h.elim) (fun _ _ h => h.elim) (fun E ce q9 u t H1 locs1 ht hvm hk0 hE hz1 hkeep hS1 hcell hv hcl => ?_) (fun x9 u t H1 locs1 ht hvm hpost hB hz1 hkeep hS1 => ?_)
  · have hP1 : va_P G.1 vwCl (wRF G z r f) H1 := hP.kept (fun k q hq => hkeep q.1 (hP k q hq).lt (fun h => h))
    have hO1 : va_at G.1 vwCl (gOut G o g0) H1 := hO.kept (hkeep o hO.lt (fun h => h))
    rcases hK9 with h9 | h9
    · exact absurd h9 hk0
    · have hE1 : E = xIOB := hE.trans (by rw [h9]; rfl)
      subst hE1
      refine vx_catch hown [] ⟨0, 9, 12, 19⟩ [] hnt (fun z hz => absurd hz List.not_mem_nil) rfl (by show ¬ (19 : Nat) = 0; decide) (hts (.classLink RL 19 xIOB) (by decide +kernel)) (va_Nw.use rfl (hX.2.2.1 xIOB (by decide))) hcell hv hcl ?_
      refine lv_astore_n (lv' := [(3, .ref q9), (0, .ref (z 0)), (1, .int x1), (2, .ref o)]) hx hb dL_blots_12 rfl hl (by decide) rfl (fun ls hl => ?_)
      refine lv_iconst (v := nI 1) hx hb dL_blots_13 (by decide +kernel) ?_
      refine W.widen (k := 1) (n := 6) (Nat.le_of_ble_eq_true rfl) (Nat.le_of_ble_eq_true rfl) ?_
      exact W.iret (v := nI 1) hx hb hr (fun t ht _ => ⟨⟨_, g0, rfl, (show nI 1 = gCode (nI 1) (nI 0) (nI 0) (kPerson x1) from by rw [h9]; rfl), ⟨(by rw [ht, if_neg hk0]; exact hP1), (by rw [ht]; exact hO1), fun h => absurd h hk0⟩⟩, hS1.F ht⟩) hS1.2.2 dL_blots_14
  · obtain ⟨h9, h10⟩ := hpost
    have h8 : H1 = s.heap := ht.symm.trans hB
    subst h8
    have hP1 := hP
    have hO1 := hO
    have hP2 : va_P G.1 vwCl ((wRF G z r f) ++ [gOut G o g0]) s.heap := va_P.app hP1 (gO_P hO1)
    have hD2 : va_D (gO z o) ((wRF G z r f) ++ [gOut G o g0]) := gO_D hz hoz
    refine lv_i2l (v := x9.toInt64) hx hb dL_blots_7 rfl ?_
    refine va_last hx hb hK.1 hP2 hD2 hS1 50 2 rfl rfl (vp_in_nI (by decide) (by decide)) dL_blots_8 (fun H2 locs2 hP3 hD3 hS3 => ?_)
    refine lv_goto (tgt := 15) hx hb dL_blots_9 (by decide) ?_
    refine lv_iconst (v := nI 0) hx hb dL_blots_15 (by decide +kernel) ?_
    refine W.widen (k := 1) (n := 6) (Nat.le_of_ble_eq_true rfl) (Nat.le_of_ble_eq_true rfl) ?_
    exact W.iret (v := nI 0) hx hb hr (fun t ht _ => ⟨⟨_, _, rfl, (show nI 0 = gCode (nI 1) (nI 0) (nI 0) (kPerson x1) from by rw [h9]; rfl), ⟨(by rw [ht, if_pos h9]; exact gO_l hP3), (by rw [ht]; exact hP3 50 _ rfl), fun _ => (gO_u _ _).trans (congrArg Int32.toInt64 h10)⟩⟩, hS3.F ht⟩) hS3.2.2 dL_blots_16
set_option maxHeartbeats 4000000 in
set_option maxRecDepth 100000 in
theorem c_L_rests (l : Launch) (hfl : l.stackTraces = false) (G : gG) (H0 : Heap) (z : Nat → Nat) (hz : gDis z 50) (r : Nat → Nat → Int32) (f : Nat → Int32) (hP : va_P G.1 vwCl (wRF G z r f) H0) (o : Nat) (g0 : Nat → Int64) (hO : va_at G.1 vwCl (gOut G o g0) H0) (hoz : ∀ k, k < 50 → ¬ o = z k) (x1 : Int32) (hK9 : (kPerson x1) = 0 ∨ (kPerson x1) = 1) : gML l yL_rests wsL_rests 8 131 1 G H0 z o [.ref (z 0), .int x1, .ref o] (kPerson x1) (gCode (nI 1) (nI 0) (nI 0) (kPerson x1)) (b2i (cRest r x1 (f 1))) (wRF G z r f) (wRF G z r f) := by
  refine va_MetW (cc := cL_rests) (maxL := 4) (ret := (some .int)) (hh := [(0, 16, 19, 19)]) (by decide) rfl ?_
  intro p_ e_ s m args below meth c s₁ B hml hv
  obtain ⟨rfl, rfl, hK, hX⟩ := hv
  have hx := B.exec
  have hb := B.bytes
  have hr := B.returns
  have hts := atoms_spec (ws := wsL_rests) B.pre
  have hown : s.vm.findClass RL = some m.cls := findClass_of_methodNamed B.named
  have hlocks := B.notSynchronized
  have hnt : c.exceptionTable.toList = tableOf [(0, 16, 19, 19)] := vx_table (x := yL_rests) B (hts (.codeWith yL_rests cL_rests 4 (some .int) [(0, 16, 19, 19)]) List.mem_cons_self)
  have S0 : CallFix p_ m c cL_rests 4 s _ wsL_rests RL := ⟨hx, hb, hml, hown, hts⟩
  have hS : va_S (gO z o) s.heap s.heap [] := va_S.rf
  have hl := lv_entry ([.ref (z 0), .int x1, .ref o]) (n := 4) (Nat.le_of_ble_eq_true rfl)
  rw [lg_entry_eq]
  generalize (lg_sl ([.ref (z 0), .int x1, .ref o]) ++ List.replicate (4 - (lg_sl ([.ref (z 0), .int x1, .ref o])).length) Slot.unset).toArray = ls at hl ⊢
  have hl : lv_has ls 4 [(0, .ref (z 0)), (1, .int x1), (2, .ref o)] := hl
  refine lv_aload_n hx hb dL_rests_0 rfl (lv_at hl 2 rfl) ?_
  refine lv_iconst (v := nI 0) hx hb dL_rests_1 (by decide +kernel) ?_
  refine lv_aload_n hx hb dL_rests_2 rfl (lv_at hl 0 rfl) ?_
  refine lv_iload_n hx hb dL_rests_3 rfl (lv_at hl 1 rfl) ?_
  refine vx_calli (vx_runV (C := RX6) (As := [.int x1]) (rest := [.int (nI 0), .ref o]) S0 (c_X6_rests l hfl G _ z r f hP x1) (cwV 1 hts gL_rests_X6_rests rfl rfl rfl (by decide +kernel) ⟨Nat.le_of_ble_eq_true rfl, Nat.le_of_ble_eq_true rfl⟩) (g_preXV hK hX hP (q0 := 0) (ci := 6) (q := (RX6, TX6, 7)) rfl rfl) rfl rfl hl.1 rfl (lv_room (Nat.le_of_ble_eq_true rfl)) dL_rests_4 ⟨Nat.le_of_ble_eq_true rfl, Nat.le_of_ble_eq_true rfl⟩) hS (fun q _ h => h.elim) (fun q h => h.elim) (fun _ _ h => h.elim) (fun E ce q9 u t H1 locs1 ht hvm hk0 hE hz1 hkeep hS1 hcell hv hcl => ?_) (fun x9 u t H1 locs1 ht hvm hpost hB hz1 hkeep hS1 => ?_)
  · have hP1 : va_P G.1 vwCl (wRF G z r f) H1 := hP.kept (fun k q hq => hkeep q.1 (hP k q hq).lt (fun h => h))
    have hO1 : va_at G.1 vwCl (gOut G o g0) H1 := hO.kept (hkeep o hO.lt (fun h => h))
    rcases hK9 with h9 | h9
    · exact absurd h9 hk0
    · have hE1 : E = xIOB := hE.trans (by rw [h9]; rfl)
      subst hE1
      refine vx_catch hown [] ⟨0, 16, 19, 19⟩ [] hnt (fun z hz => absurd hz List.not_mem_nil) rfl (by show ¬ (19 : Nat) = 0; decide) (hts (.classLink RL 19 xIOB) (by decide +kernel)) (va_Nw.use rfl (hX.2.2.1 xIOB (by decide))) hcell hv hcl ?_
      refine lv_astore_n (lv' := [(3, .ref q9), (0, .ref (z 0)), (1, .int x1), (2, .ref o)]) hx hb dL_rests_19 rfl hl (by decide) rfl (fun ls hl => ?_)
      refine lv_iconst (v := nI 1) hx hb dL_rests_20 (by decide +kernel) ?_
      refine W.widen (k := 1) (n := 6) (Nat.le_of_ble_eq_true rfl) (Nat.le_of_ble_eq_true rfl) ?_
      exact W.iret (v := nI 1) hx hb hr (fun t ht _ => ⟨⟨_, g0, rfl, (show nI 1 = gCode (nI 1) (nI 0) (nI 0) (kPerson x1) from by rw [h9]; rfl), ⟨(by rw [ht, if_neg hk0]; exact hP1), (by rw [ht]; exact hO1), fun h => absurd h hk0⟩⟩, hS1.F ht⟩) hS1.2.2 dL_rests_21
  · obtain ⟨h9, h10⟩ := hpost
    have h8 : H1 = s.heap := ht.symm.trans hB
    subst h8
    have hP1 := hP
    have hO1 := hO
    have hP2 : va_P G.1 vwCl ((wRF G z r f) ++ [gOut G o g0]) s.heap := va_P.app hP1 (gO_P hO1)
    have hD2 : va_D (gO z o) ((wRF G z r f) ++ [gOut G o g0]) := gO_D hz hoz
    refine lv_if_eq (tgt := 14) hx hb dL_rests_7 (by decide) (fun c_1 => ?_) (fun c_1 => ?_)
    · have c_1 := b2i_f (h10.symm.trans c_1)
      refine lv_lconst (v := 0) hx hb dL_rests_14 rfl ?_
      refine va_last hx hb hK.1 hP2 hD2 hS1 50 2 rfl rfl (vp_in_nI (by decide) (by decide)) dL_rests_15 (fun H2 locs2 hP3 hD3 hS3 => ?_)
      refine lv_goto (tgt := 22) hx hb dL_rests_16 (by decide) ?_
      refine lv_iconst (v := nI 0) hx hb dL_rests_22 (by decide +kernel) ?_
      refine W.widen (k := 1) (n := 6) (Nat.le_of_ble_eq_true rfl) (Nat.le_of_ble_eq_true rfl) ?_
      exact W.iret (v := nI 0) hx hb hr (fun t ht _ => ⟨⟨_, _, rfl, (show nI 0 = gCode (nI 1) (nI 0) (nI 0) (kPerson x1) from by rw [h9]; rfl), ⟨(by rw [ht, if_pos h9]; exact gO_l hP3), (by rw [ht]; exact hP3 50 _ rfl), fun _ => (gO_u _ _).trans (by rw [c_1]; rfl)⟩⟩, hS3.F ht⟩) hS3.2.2 dL_rests_23
    · have c_1 := b2i_t (fun h11 => c_1 (h10.trans h11))
      refine lv_lconst (v := 1) hx hb dL_rests_10 rfl ?_
      refine lv_goto (tgt := 15) hx hb dL_rests_11 (by decide) ?_
      refine va_last hx hb hK.1 hP2 hD2 hS1 50 2 rfl rfl (vp_in_nI (by decide) (by decide)) dL_rests_15 (fun H2 locs2 hP3 hD3 hS3 => ?_)
      refine lv_goto (tgt := 22) hx hb dL_rests_16 (by decide) ?_
      refine lv_iconst (v := nI 0) hx hb dL_rests_22 (by decide +kernel) ?_
      refine W.widen (k := 1) (n := 6) (Nat.le_of_ble_eq_true rfl) (Nat.le_of_ble_eq_true rfl) ?_
      exact W.iret (v := nI 0) hx hb hr (fun t ht _ => ⟨⟨_, _, rfl, (show nI 0 = gCode (nI 1) (nI 0) (nI 0) (kPerson x1) from by rw [h9]; rfl), ⟨(by rw [ht, if_pos h9]; exact gO_l hP3), (by rw [ht]; exact hP3 50 _ rfl), fun _ => (gO_u _ _).trans (by rw [c_1]; rfl)⟩⟩, hS3.F ht⟩) hS3.2.2 dL_rests_23
set_option maxHeartbeats 4000000 in
set_option maxRecDepth 100000 in
theorem c_L_calls (l : Launch) (hfl : l.stackTraces = false) (G : gG) (H0 : Heap) (z : Nat → Nat) (hz : gDis z 50) (r : Nat → Nat → Int32) (f : Nat → Int32) (hP : va_P G.1 vwCl (wRF G z r f) H0) (o : Nat) (g0 : Nat → Int64) (hO : va_at G.1 vwCl (gOut G o g0) H0) (hoz : ∀ k, k < 50 → ¬ o = z k) (x1 : Int32) (x2 : Bool) (hK9 : (kPerson x1) = 0 ∨ (kPerson x1) = 1) : gML l yL_calls wsL_calls 8 132 1 G H0 z o [.ref (z 0), .int x1, .int (b2i x2), .ref o] (kPerson x1) (gCode (nI 1) (nI 0) (nI 0) (kPerson x1)) (if x2 then rAt 6 (r 21) x1 else rAt 6 (r 20) x1) (wRF G z r f) (wRF G z r f) := by
  refine va_MetW (cc := cL_calls) (maxL := 5) (ret := (some .int)) (hh := [(0, 10, 13, 19)]) (by decide) rfl ?_
  intro p_ e_ s m args below meth c s₁ B hml hv
  obtain ⟨rfl, rfl, hK, hX⟩ := hv
  have hx := B.exec
  have hb := B.bytes
  have hr := B.returns
  have hts := atoms_spec (ws := wsL_calls) B.pre
  have hown : s.vm.findClass RL = some m.cls := findClass_of_methodNamed B.named
  have hlocks := B.notSynchronized
  have hnt : c.exceptionTable.toList = tableOf [(0, 10, 13, 19)] := vx_table (x := yL_calls) B (hts (.codeWith yL_calls cL_calls 5 (some .int) [(0, 10, 13, 19)]) List.mem_cons_self)
  have S0 : CallFix p_ m c cL_calls 5 s _ wsL_calls RL := ⟨hx, hb, hml, hown, hts⟩
  have hS : va_S (gO z o) s.heap s.heap [] := va_S.rf
  have hl := lv_entry ([.ref (z 0), .int x1, .int (b2i x2), .ref o]) (n := 5) (Nat.le_of_ble_eq_true rfl)
  rw [lg_entry_eq]
  generalize (lg_sl ([.ref (z 0), .int x1, .int (b2i x2), .ref o]) ++ List.replicate (5 - (lg_sl ([.ref (z 0), .int x1, .int (b2i x2), .ref o])).length) Slot.unset).toArray = ls at hl ⊢
  have hl : lv_has ls 5 [(0, .ref (z 0)), (1, .int x1), (2, .int (b2i x2)), (3, .ref o)] := hl
  refine lv_aload_n hx hb dL_calls_0 rfl (lv_at hl 3 rfl) ?_
  refine lv_iconst (v := nI 0) hx hb dL_calls_1 (by decide +kernel) ?_
  refine lv_aload_n hx hb dL_calls_2 rfl (lv_at hl 0 rfl) ?_
  refine lv_iload_n hx hb dL_calls_3 rfl (lv_at hl 1 rfl) ?_
  refine lv_iload_n hx hb dL_calls_4 rfl (lv_at hl 2 rfl) ?_
  refine vx_calli (vx_runV (C := RX6) (As := [.int x1, .int (b2i x2)]) (rest := [.int (nI 0), .ref o]) S0 (c_X6_calls l hfl G _ z r f hP x1 x2) (cwV 2 hts gL_calls_X6_calls rfl rfl rfl (by decide +kernel) ⟨Nat.le_of_ble_eq_true rfl, Nat.le_of_ble_eq_true rfl⟩) (g_preXV hK hX hP (q0 := 0) (ci := 6) (q := (RX6, TX6, 7)) rfl rfl) rfl rfl hl.1 rfl (lv_room (Nat.le_of_ble_eq_true rfl)) dL_calls_5 ⟨Nat.le_of_ble_eq_true rfl, Nat.le_of_ble_eq_true rfl⟩) hS (fun q _ h => h.elim) (fun q h => h.elim) (fun _ _ h => h.elim) (fun E ce q9 u t H1 locs1 ht hvm hk0 hE hz1 hkeep hS1 hcell hv hcl => ?_) (fun x9 u t H1 locs1 ht hvm hpost hB hz1 hkeep hS1 => ?_)
  · have hP1 : va_P G.1 vwCl (wRF G z r f) H1 := hP.kept (fun k q hq => hkeep q.1 (hP k q hq).lt (fun h => h))
    have hO1 : va_at G.1 vwCl (gOut G o g0) H1 := hO.kept (hkeep o hO.lt (fun h => h))
    rcases hK9 with h9 | h9
    · exact absurd h9 hk0
    · have hE1 : E = xIOB := hE.trans (by rw [h9]; rfl)
      subst hE1
      refine vx_catch hown [] ⟨0, 10, 13, 19⟩ [] hnt (fun z hz => absurd hz List.not_mem_nil) rfl (by show ¬ (19 : Nat) = 0; decide) (hts (.classLink RL 19 xIOB) (by decide +kernel)) (va_Nw.use rfl (hX.2.2.1 xIOB (by decide))) hcell hv hcl ?_
      refine lv_astore (lv' := [(4, .ref q9), (0, .ref (z 0)), (1, .int x1), (2, .int (b2i x2)), (3, .ref o)]) hx hb dL_calls_13 hl (by decide) rfl (fun ls hl => ?_)
      refine lv_iconst (v := nI 1) hx hb dL_calls_15 (by decide +kernel) ?_
      refine W.widen (k := 1) (n := 6) (Nat.le_of_ble_eq_true rfl) (Nat.le_of_ble_eq_true rfl) ?_
      exact W.iret (v := nI 1) hx hb hr (fun t ht _ => ⟨⟨_, g0, rfl, (show nI 1 = gCode (nI 1) (nI 0) (nI 0) (kPerson x1) from by rw [h9]; rfl), ⟨(by rw [ht, if_neg hk0]; exact hP1), (by rw [ht]; exact hO1), fun h => absurd h hk0⟩⟩, hS1.F ht⟩) hS1.2.2 dL_calls_16
  · obtain ⟨h9, h10⟩ := hpost
    have h8 : H1 = s.heap := ht.symm.trans hB
    subst h8
    have hP1 := hP
    have hO1 := hO
    have hP2 : va_P G.1 vwCl ((wRF G z r f) ++ [gOut G o g0]) s.heap := va_P.app hP1 (gO_P hO1)
    have hD2 : va_D (gO z o) ((wRF G z r f) ++ [gOut G o g0]) := gO_D hz hoz
    refine lv_i2l (v := x9.toInt64) hx hb dL_calls_8 rfl ?_
    refine va_last hx hb hK.1 hP2 hD2 hS1 50 2 rfl rfl (vp_in_nI (by decide) (by decide)) dL_calls_9 (fun H2 locs2 hP3 hD3 hS3 => ?_)
    refine lv_goto (tgt := 17) hx hb dL_calls_10 (by decide) ?_
    refine lv_iconst (v := nI 0) hx hb dL_calls_17 (by decide +kernel) ?_
    refine W.widen (k := 1) (n := 6) (Nat.le_of_ble_eq_true rfl) (Nat.le_of_ble_eq_true rfl) ?_
    exact W.iret (v := nI 0) hx hb hr (fun t ht _ => ⟨⟨_, _, rfl, (show nI 0 = gCode (nI 1) (nI 0) (nI 0) (kPerson x1) from by rw [h9]; rfl), ⟨(by rw [ht, if_pos h9]; exact gO_l hP3), (by rw [ht]; exact hP3 50 _ rfl), fun _ => (gO_u _ _).trans (congrArg Int32.toInt64 h10)⟩⟩, hS3.F ht⟩) hS3.2.2 dL_calls_18
set_option maxHeartbeats 4000000 in
set_option maxRecDepth 100000 in
theorem c_L_version (l : Launch) (hfl : l.stackTraces = false) (G : gG) (H0 : Heap) (z : Nat → Nat) (hz : gDis z 50) (r : Nat → Nat → Int32) (f : Nat → Int32) (hP : va_P G.1 vwCl (wRF G z r f) H0) (o : Nat) (g0 : Nat → Int64) (hO : va_at G.1 vwCl (gOut G o g0) H0) (hoz : ∀ k, k < 50 → ¬ o = z k) (x1 : Int32) (hK9 : (kRing x1) = 0 ∨ (kRing x1) = 1) : gML l yL_version wsL_version 8 131 1 G H0 z o [.ref (z 0), .int x1, .ref o] (kRing x1) (gCode (nI 1) (nI 0) (nI 0) (kRing x1)) (cRuns r x1) (wRF G z r f) (wRF G z r f) := by
  refine va_MetW (cc := cL_version) (maxL := 4) (ret := (some .int)) (hh := [(0, 9, 12, 19)]) (by decide) rfl ?_
  intro p_ e_ s m args below meth c s₁ B hml hv
  obtain ⟨rfl, rfl, hK, hX⟩ := hv
  have hx := B.exec
  have hb := B.bytes
  have hr := B.returns
  have hts := atoms_spec (ws := wsL_version) B.pre
  have hown : s.vm.findClass RL = some m.cls := findClass_of_methodNamed B.named
  have hlocks := B.notSynchronized
  have hnt : c.exceptionTable.toList = tableOf [(0, 9, 12, 19)] := vx_table (x := yL_version) B (hts (.codeWith yL_version cL_version 4 (some .int) [(0, 9, 12, 19)]) List.mem_cons_self)
  have S0 : CallFix p_ m c cL_version 4 s _ wsL_version RL := ⟨hx, hb, hml, hown, hts⟩
  have hS : va_S (gO z o) s.heap s.heap [] := va_S.rf
  have hl := lv_entry ([.ref (z 0), .int x1, .ref o]) (n := 4) (Nat.le_of_ble_eq_true rfl)
  rw [lg_entry_eq]
  generalize (lg_sl ([.ref (z 0), .int x1, .ref o]) ++ List.replicate (4 - (lg_sl ([.ref (z 0), .int x1, .ref o])).length) Slot.unset).toArray = ls at hl ⊢
  have hl : lv_has ls 4 [(0, .ref (z 0)), (1, .int x1), (2, .ref o)] := hl
  refine lv_aload_n hx hb dL_version_0 rfl (lv_at hl 2 rfl) ?_
  refine lv_iconst (v := nI 0) hx hb dL_version_1 (by decide +kernel) ?_
  refine lv_aload_n hx hb dL_version_2 rfl (lv_at hl 0 rfl) ?_
  refine lv_iload_n hx hb dL_version_3 rfl (lv_at hl 1 rfl) ?_
  refine vx_calli (vx_runV (C := RX6) (As := [.int x1]) (rest := [.int (nI 0), .ref o]) S0 (c_X6_version l hfl G _ z r f hP x1) (cwV 1 hts gL_version_X6_version rfl rfl rfl (by decide +kernel) ⟨Nat.le_of_ble_eq_true rfl, Nat.le_of_ble_eq_true rfl⟩) (g_preXV hK hX hP (q0 := 0) (ci := 6) (q := (RX6, TX6, 7)) rfl rfl) rfl rfl hl.1 rfl (lv_room (Nat.le_of_ble_eq_true rfl)) dL_version_4 ⟨Nat.le_of_ble_eq_true rfl, Nat.le_of_ble_eq_true rfl⟩) hS (fun q _ h => h.elim) (fun q h => h.elim) (fun _ _ h => h.elim) (fun E ce q9 u t H1 locs1 ht hvm hk0 hE hz1 hkeep hS1 hcell hv hcl => ?_) (fun x9 u t H1 locs1 ht hvm hpost hB hz1 hkeep hS1 => ?_)
  · have hP1 : va_P G.1 vwCl (wRF G z r f) H1 := hP.kept (fun k q hq => hkeep q.1 (hP k q hq).lt (fun h => h))
    have hO1 : va_at G.1 vwCl (gOut G o g0) H1 := hO.kept (hkeep o hO.lt (fun h => h))
    rcases hK9 with h9 | h9
    · exact absurd h9 hk0
    · have hE1 : E = xIOB := hE.trans (by rw [h9]; rfl)
      subst hE1
      refine vx_catch hown [] ⟨0, 9, 12, 19⟩ [] hnt (fun z hz => absurd hz List.not_mem_nil) rfl (by show ¬ (19 : Nat) = 0; decide) (hts (.classLink RL 19 xIOB) (by decide +kernel)) (va_Nw.use rfl (hX.2.2.1 xIOB (by decide))) hcell hv hcl ?_
      refine lv_astore_n (lv' := [(3, .ref q9), (0, .ref (z 0)), (1, .int x1), (2, .ref o)]) hx hb dL_version_12 rfl hl (by decide) rfl (fun ls hl => ?_)
      refine lv_iconst (v := nI 1) hx hb dL_version_13 (by decide +kernel) ?_
      refine W.widen (k := 1) (n := 6) (Nat.le_of_ble_eq_true rfl) (Nat.le_of_ble_eq_true rfl) ?_
      exact W.iret (v := nI 1) hx hb hr (fun t ht _ => ⟨⟨_, g0, rfl, (show nI 1 = gCode (nI 1) (nI 0) (nI 0) (kRing x1) from by rw [h9]; rfl), ⟨(by rw [ht, if_neg hk0]; exact hP1), (by rw [ht]; exact hO1), fun h => absurd h hk0⟩⟩, hS1.F ht⟩) hS1.2.2 dL_version_14
  · obtain ⟨h9, h10⟩ := hpost
    have h8 : H1 = s.heap := ht.symm.trans hB
    subst h8
    have hP1 := hP
    have hO1 := hO
    have hP2 : va_P G.1 vwCl ((wRF G z r f) ++ [gOut G o g0]) s.heap := va_P.app hP1 (gO_P hO1)
    have hD2 : va_D (gO z o) ((wRF G z r f) ++ [gOut G o g0]) := gO_D hz hoz
    refine lv_i2l (v := x9.toInt64) hx hb dL_version_7 rfl ?_
    refine va_last hx hb hK.1 hP2 hD2 hS1 50 2 rfl rfl (vp_in_nI (by decide) (by decide)) dL_version_8 (fun H2 locs2 hP3 hD3 hS3 => ?_)
    refine lv_goto (tgt := 15) hx hb dL_version_9 (by decide) ?_
    refine lv_iconst (v := nI 0) hx hb dL_version_15 (by decide +kernel) ?_
    refine W.widen (k := 1) (n := 6) (Nat.le_of_ble_eq_true rfl) (Nat.le_of_ble_eq_true rfl) ?_
    exact W.iret (v := nI 0) hx hb hr (fun t ht _ => ⟨⟨_, _, rfl, (show nI 0 = gCode (nI 1) (nI 0) (nI 0) (kRing x1) from by rw [h9]; rfl), ⟨(by rw [ht, if_pos h9]; exact gO_l hP3), (by rw [ht]; exact hP3 50 _ rfl), fun _ => (gO_u _ _).trans (congrArg Int32.toInt64 h10)⟩⟩, hS3.F ht⟩) hS3.2.2 dL_version_16
set_option maxHeartbeats 4000000 in
set_option maxRecDepth 100000 in
theorem c_L_level (l : Launch) (hfl : l.stackTraces = false) (G : gG) (H0 : Heap) (z : Nat → Nat) (hz : gDis z 50) (r : Nat → Nat → Int32) (f : Nat → Int32) (hP : va_P G.1 vwCl (wRF G z r f) H0) (o : Nat) (g0 : Nat → Int64) (hO : va_at G.1 vwCl (gOut G o g0) H0) (hoz : ∀ k, k < 50 → ¬ o = z k) (x1 : Int32) (hK9 : (kSwitch x1) = 0 ∨ (kSwitch x1) = 1) : gML l yL_level wsL_level 8 131 1 G H0 z o [.ref (z 0), .int x1, .ref o] (kSwitch x1) (gCode (nI 1) (nI 0) (nI 0) (kSwitch x1)) (cValueNow r x1) (wRF G z r f) (wRF G z r f) := by
  refine va_MetW (cc := cL_level) (maxL := 4) (ret := (some .int)) (hh := [(0, 9, 12, 19)]) (by decide) rfl ?_
  intro p_ e_ s m args below meth c s₁ B hml hv
  obtain ⟨rfl, rfl, hK, hX⟩ := hv
  have hx := B.exec
  have hb := B.bytes
  have hr := B.returns
  have hts := atoms_spec (ws := wsL_level) B.pre
  have hown : s.vm.findClass RL = some m.cls := findClass_of_methodNamed B.named
  have hlocks := B.notSynchronized
  have hnt : c.exceptionTable.toList = tableOf [(0, 9, 12, 19)] := vx_table (x := yL_level) B (hts (.codeWith yL_level cL_level 4 (some .int) [(0, 9, 12, 19)]) List.mem_cons_self)
  have S0 : CallFix p_ m c cL_level 4 s _ wsL_level RL := ⟨hx, hb, hml, hown, hts⟩
  have hS : va_S (gO z o) s.heap s.heap [] := va_S.rf
  have hl := lv_entry ([.ref (z 0), .int x1, .ref o]) (n := 4) (Nat.le_of_ble_eq_true rfl)
  rw [lg_entry_eq]
  generalize (lg_sl ([.ref (z 0), .int x1, .ref o]) ++ List.replicate (4 - (lg_sl ([.ref (z 0), .int x1, .ref o])).length) Slot.unset).toArray = ls at hl ⊢
  have hl : lv_has ls 4 [(0, .ref (z 0)), (1, .int x1), (2, .ref o)] := hl
  refine lv_aload_n hx hb dL_level_0 rfl (lv_at hl 2 rfl) ?_
  refine lv_iconst (v := nI 0) hx hb dL_level_1 (by decide +kernel) ?_
  refine lv_aload_n hx hb dL_level_2 rfl (lv_at hl 0 rfl) ?_
  refine lv_iload_n hx hb dL_level_3 rfl (lv_at hl 1 rfl) ?_
  refine vx_calli (vx_runV (C := RX6) (As := [.int x1]) (rest := [.int (nI 0), .ref o]) S0 (c_X6_level l hfl G _ z r f hP x1) (cwV 1 hts gL_level_X6_level rfl rfl rfl (by decide +kernel) ⟨Nat.le_of_ble_eq_true rfl, Nat.le_of_ble_eq_true rfl⟩) (g_preXV hK hX hP (q0 := 0) (ci := 6) (q := (RX6, TX6, 7)) rfl rfl) rfl rfl hl.1 rfl (lv_room (Nat.le_of_ble_eq_true rfl)) dL_level_4 ⟨Nat.le_of_ble_eq_true rfl, Nat.le_of_ble_eq_true rfl⟩) hS (fun q _ h => h.elim) (fun q h => h.elim) (fun _ _ h => h.elim) (fun E ce q9 u t H1 locs1 ht hvm hk0 hE hz1 hkeep hS1 hcell hv hcl => ?_) (fun x9 u t H1 locs1 ht hvm hpost hB hz1 hkeep hS1 => ?_)
  · have hP1 : va_P G.1 vwCl (wRF G z r f) H1 := hP.kept (fun k q hq => hkeep q.1 (hP k q hq).lt (fun h => h))
    have hO1 : va_at G.1 vwCl (gOut G o g0) H1 := hO.kept (hkeep o hO.lt (fun h => h))
    rcases hK9 with h9 | h9
    · exact absurd h9 hk0
    · have hE1 : E = xIOB := hE.trans (by rw [h9]; rfl)
      subst hE1
      refine vx_catch hown [] ⟨0, 9, 12, 19⟩ [] hnt (fun z hz => absurd hz List.not_mem_nil) rfl (by show ¬ (19 : Nat) = 0; decide) (hts (.classLink RL 19 xIOB) (by decide +kernel)) (va_Nw.use rfl (hX.2.2.1 xIOB (by decide))) hcell hv hcl ?_
      refine lv_astore_n (lv' := [(3, .ref q9), (0, .ref (z 0)), (1, .int x1), (2, .ref o)]) hx hb dL_level_12 rfl hl (by decide) rfl (fun ls hl => ?_)
      refine lv_iconst (v := nI 1) hx hb dL_level_13 (by decide +kernel) ?_
      refine W.widen (k := 1) (n := 6) (Nat.le_of_ble_eq_true rfl) (Nat.le_of_ble_eq_true rfl) ?_
      exact W.iret (v := nI 1) hx hb hr (fun t ht _ => ⟨⟨_, g0, rfl, (show nI 1 = gCode (nI 1) (nI 0) (nI 0) (kSwitch x1) from by rw [h9]; rfl), ⟨(by rw [ht, if_neg hk0]; exact hP1), (by rw [ht]; exact hO1), fun h => absurd h hk0⟩⟩, hS1.F ht⟩) hS1.2.2 dL_level_14
  · obtain ⟨h9, h10⟩ := hpost
    have h8 : H1 = s.heap := ht.symm.trans hB
    subst h8
    have hP1 := hP
    have hO1 := hO
    have hP2 : va_P G.1 vwCl ((wRF G z r f) ++ [gOut G o g0]) s.heap := va_P.app hP1 (gO_P hO1)
    have hD2 : va_D (gO z o) ((wRF G z r f) ++ [gOut G o g0]) := gO_D hz hoz
    refine lv_i2l (v := x9.toInt64) hx hb dL_level_7 rfl ?_
    refine va_last hx hb hK.1 hP2 hD2 hS1 50 2 rfl rfl (vp_in_nI (by decide) (by decide)) dL_level_8 (fun H2 locs2 hP3 hD3 hS3 => ?_)
    refine lv_goto (tgt := 15) hx hb dL_level_9 (by decide) ?_
    refine lv_iconst (v := nI 0) hx hb dL_level_15 (by decide +kernel) ?_
    refine W.widen (k := 1) (n := 6) (Nat.le_of_ble_eq_true rfl) (Nat.le_of_ble_eq_true rfl) ?_
    exact W.iret (v := nI 0) hx hb hr (fun t ht _ => ⟨⟨_, _, rfl, (show nI 0 = gCode (nI 1) (nI 0) (nI 0) (kSwitch x1) from by rw [h9]; rfl), ⟨(by rw [ht, if_pos h9]; exact gO_l hP3), (by rw [ht]; exact hP3 50 _ rfl), fun _ => (gO_u _ _).trans (congrArg Int32.toInt64 h10)⟩⟩, hS3.F ht⟩) hS3.2.2 dL_level_16
set_option maxHeartbeats 4000000 in
set_option maxRecDepth 100000 in
theorem c_L_isOn (l : Launch) (hfl : l.stackTraces = false) (G : gG) (H0 : Heap) (z : Nat → Nat) (hz : gDis z 50) (r : Nat → Nat → Int32) (f : Nat → Int32) (hP : va_P G.1 vwCl (wRF G z r f) H0) (o : Nat) (g0 : Nat → Int64) (hO : va_at G.1 vwCl (gOut G o g0) H0) (hoz : ∀ k, k < 50 → ¬ o = z k) (x1 : Int32) (x2 : Int32) (hK9 : (kT (kSwitch x1) (kRing x2)) = 0 ∨ (kT (kSwitch x1) (kRing x2)) = 1) : gML l yL_isOn wsL_isOn 8 132 2 G H0 z o [.ref (z 0), .int x1, .int x2, .ref o] (kT (kSwitch x1) (kRing x2)) (gCode (nI 1) (nI 0) (nI 0) (kT (kSwitch x1) (kRing x2))) (b2i (cHasBit (cOn r (cSet r x2)) x1)) (wRF G z r f) (wRF G z r f) := by
  refine va_MetW (cc := cL_isOn) (maxL := 5) (ret := (some .int)) (hh := [(0, 17, 20, 19)]) (by decide) rfl ?_
  intro p_ e_ s m args below meth c s₁ B hml hv
  obtain ⟨rfl, rfl, hK, hX⟩ := hv
  have hx := B.exec
  have hb := B.bytes
  have hr := B.returns
  have hts := atoms_spec (ws := wsL_isOn) B.pre
  have hown : s.vm.findClass RL = some m.cls := findClass_of_methodNamed B.named
  have hlocks := B.notSynchronized
  have hnt : c.exceptionTable.toList = tableOf [(0, 17, 20, 19)] := vx_table (x := yL_isOn) B (hts (.codeWith yL_isOn cL_isOn 5 (some .int) [(0, 17, 20, 19)]) List.mem_cons_self)
  have S0 : CallFix p_ m c cL_isOn 5 s _ wsL_isOn RL := ⟨hx, hb, hml, hown, hts⟩
  have hS : va_S (gO z o) s.heap s.heap [] := va_S.rf
  have hl := lv_entry ([.ref (z 0), .int x1, .int x2, .ref o]) (n := 5) (Nat.le_of_ble_eq_true rfl)
  rw [lg_entry_eq]
  generalize (lg_sl ([.ref (z 0), .int x1, .int x2, .ref o]) ++ List.replicate (5 - (lg_sl ([.ref (z 0), .int x1, .int x2, .ref o])).length) Slot.unset).toArray = ls at hl ⊢
  have hl : lv_has ls 5 [(0, .ref (z 0)), (1, .int x1), (2, .int x2), (3, .ref o)] := hl
  refine lv_aload_n hx hb dL_isOn_0 rfl (lv_at hl 3 rfl) ?_
  refine lv_iconst (v := nI 0) hx hb dL_isOn_1 (by decide +kernel) ?_
  refine lv_aload_n hx hb dL_isOn_2 rfl (lv_at hl 0 rfl) ?_
  refine lv_iload_n hx hb dL_isOn_3 rfl (lv_at hl 1 rfl) ?_
  refine lv_iload_n hx hb dL_isOn_4 rfl (lv_at hl 2 rfl) ?_
  refine vx_calli (vx_runV (C := RX6) (As := [.int x1, .int x2]) (rest := [.int (nI 0), .ref o]) S0 (c_X6_isOn l hfl G _ z r f hP x1 x2) (cwV 2 hts gL_isOn_X6_isOn rfl rfl rfl (by decide +kernel) ⟨Nat.le_of_ble_eq_true rfl, Nat.le_of_ble_eq_true rfl⟩) (g_preXV hK hX hP (q0 := 0) (ci := 6) (q := (RX6, TX6, 7)) rfl rfl) rfl rfl hl.1 rfl (lv_room (Nat.le_of_ble_eq_true rfl)) dL_isOn_5 ⟨Nat.le_of_ble_eq_true rfl, Nat.le_of_ble_eq_true rfl⟩) hS (fun q _ h => h.elim) (fun q h => h.elim) (fun _ _ h => h.elim) (fun E ce q9 u t H1 locs1 ht hvm hk0 hE hz1 hkeep hS1 hcell hv hcl => ?_) (fun x9 u t H1 locs1 ht hvm hpost hB hz1 hkeep hS1 => ?_)
  · have hP1 : va_P G.1 vwCl (wRF G z r f) H1 := hP.kept (fun k q hq => hkeep q.1 (hP k q hq).lt (fun h => h))
    have hO1 : va_at G.1 vwCl (gOut G o g0) H1 := hO.kept (hkeep o hO.lt (fun h => h))
    rcases hK9 with h9 | h9
    · exact absurd h9 hk0
    · have hE1 : E = xIOB := hE.trans (by rw [h9]; rfl)
      subst hE1
      refine vx_catch hown [] ⟨0, 17, 20, 19⟩ [] hnt (fun z hz => absurd hz List.not_mem_nil) rfl (by show ¬ (19 : Nat) = 0; decide) (hts (.classLink RL 19 xIOB) (by decide +kernel)) (va_Nw.use rfl (hX.2.2.1 xIOB (by decide))) hcell hv hcl ?_
      refine lv_astore (lv' := [(4, .ref q9), (0, .ref (z 0)), (1, .int x1), (2, .int x2), (3, .ref o)]) hx hb dL_isOn_20 hl (by decide) rfl (fun ls hl => ?_)
      refine lv_iconst (v := nI 1) hx hb dL_isOn_22 (by decide +kernel) ?_
      refine W.widen (k := 2) (n := 12) (Nat.le_of_ble_eq_true rfl) (Nat.le_of_ble_eq_true rfl) ?_
      exact W.iret (v := nI 1) hx hb hr (fun t ht _ => ⟨⟨_, g0, rfl, (show nI 1 = gCode (nI 1) (nI 0) (nI 0) (kT (kSwitch x1) (kRing x2)) from by rw [h9]; rfl), ⟨(by rw [ht, if_neg hk0]; exact hP1), (by rw [ht]; exact hO1), fun h => absurd h hk0⟩⟩, hS1.F ht⟩) hS1.2.2 dL_isOn_23
  · obtain ⟨h9, h10⟩ := hpost
    have h8 : H1 = s.heap := ht.symm.trans hB
    subst h8
    have hP1 := hP
    have hO1 := hO
    have hP2 : va_P G.1 vwCl ((wRF G z r f) ++ [gOut G o g0]) s.heap := va_P.app hP1 (gO_P hO1)
    have hD2 : va_D (gO z o) ((wRF G z r f) ++ [gOut G o g0]) := gO_D hz hoz
    refine lv_if_eq (tgt := 15) hx hb dL_isOn_8 (by decide) (fun c_1 => ?_) (fun c_1 => ?_)
    · have c_1 := b2i_f (h10.symm.trans c_1)
      refine lv_lconst (v := 0) hx hb dL_isOn_15 rfl ?_
      refine va_last hx hb hK.1 hP2 hD2 hS1 50 2 rfl rfl (vp_in_nI (by decide) (by decide)) dL_isOn_16 (fun H2 locs2 hP3 hD3 hS3 => ?_)
      refine lv_goto (tgt := 24) hx hb dL_isOn_17 (by decide) ?_
      refine lv_iconst (v := nI 0) hx hb dL_isOn_24 (by decide +kernel) ?_
      refine W.widen (k := 2) (n := 12) (Nat.le_of_ble_eq_true rfl) (Nat.le_of_ble_eq_true rfl) ?_
      exact W.iret (v := nI 0) hx hb hr (fun t ht _ => ⟨⟨_, _, rfl, (show nI 0 = gCode (nI 1) (nI 0) (nI 0) (kT (kSwitch x1) (kRing x2)) from by rw [h9]; rfl), ⟨(by rw [ht, if_pos h9]; exact gO_l hP3), (by rw [ht]; exact hP3 50 _ rfl), fun _ => (gO_u _ _).trans (by rw [c_1]; rfl)⟩⟩, hS3.F ht⟩) hS3.2.2 dL_isOn_25
    · have c_1 := b2i_t (fun h11 => c_1 (h10.trans h11))
      refine lv_lconst (v := 1) hx hb dL_isOn_11 rfl ?_
      refine lv_goto (tgt := 16) hx hb dL_isOn_12 (by decide) ?_
      refine va_last hx hb hK.1 hP2 hD2 hS1 50 2 rfl rfl (vp_in_nI (by decide) (by decide)) dL_isOn_16 (fun H2 locs2 hP3 hD3 hS3 => ?_)
      refine lv_goto (tgt := 24) hx hb dL_isOn_17 (by decide) ?_
      refine lv_iconst (v := nI 0) hx hb dL_isOn_24 (by decide +kernel) ?_
      refine W.widen (k := 2) (n := 12) (Nat.le_of_ble_eq_true rfl) (Nat.le_of_ble_eq_true rfl) ?_
      exact W.iret (v := nI 0) hx hb hr (fun t ht _ => ⟨⟨_, _, rfl, (show nI 0 = gCode (nI 1) (nI 0) (nI 0) (kT (kSwitch x1) (kRing x2)) from by rw [h9]; rfl), ⟨(by rw [ht, if_pos h9]; exact gO_l hP3), (by rw [ht]; exact hP3 50 _ rfl), fun _ => (gO_u _ _).trans (by rw [c_1]; rfl)⟩⟩, hS3.F ht⟩) hS3.2.2 dL_isOn_25
set_option maxHeartbeats 4000000 in
set_option maxRecDepth 100000 in
theorem c_L_isFaulty (l : Launch) (hfl : l.stackTraces = false) (G : gG) (H0 : Heap) (z : Nat → Nat) (hz : gDis z 50) (r : Nat → Nat → Int32) (f : Nat → Int32) (hP : va_P G.1 vwCl (wRF G z r f) H0) (o : Nat) (g0 : Nat → Int64) (hO : va_at G.1 vwCl (gOut G o g0) H0) (hoz : ∀ k, k < 50 → ¬ o = z k) (x1 : Int32) (hK9 : (kRing x1) = 0 ∨ (kRing x1) = 1) : gML l yL_isFaulty wsL_isFaulty 8 131 1 G H0 z o [.ref (z 0), .int x1, .ref o] (kRing x1) (gCode (nI 1) (nI 0) (nI 0) (kRing x1)) (b2i (cFault r x1)) (wRF G z r f) (wRF G z r f) := by
  refine va_MetW (cc := cL_isFaulty) (maxL := 4) (ret := (some .int)) (hh := [(0, 16, 19, 19)]) (by decide) rfl ?_
  intro p_ e_ s m args below meth c s₁ B hml hv
  obtain ⟨rfl, rfl, hK, hX⟩ := hv
  have hx := B.exec
  have hb := B.bytes
  have hr := B.returns
  have hts := atoms_spec (ws := wsL_isFaulty) B.pre
  have hown : s.vm.findClass RL = some m.cls := findClass_of_methodNamed B.named
  have hlocks := B.notSynchronized
  have hnt : c.exceptionTable.toList = tableOf [(0, 16, 19, 19)] := vx_table (x := yL_isFaulty) B (hts (.codeWith yL_isFaulty cL_isFaulty 4 (some .int) [(0, 16, 19, 19)]) List.mem_cons_self)
  have S0 : CallFix p_ m c cL_isFaulty 4 s _ wsL_isFaulty RL := ⟨hx, hb, hml, hown, hts⟩
  have hS : va_S (gO z o) s.heap s.heap [] := va_S.rf
  have hl := lv_entry ([.ref (z 0), .int x1, .ref o]) (n := 4) (Nat.le_of_ble_eq_true rfl)
  rw [lg_entry_eq]
  generalize (lg_sl ([.ref (z 0), .int x1, .ref o]) ++ List.replicate (4 - (lg_sl ([.ref (z 0), .int x1, .ref o])).length) Slot.unset).toArray = ls at hl ⊢
  have hl : lv_has ls 4 [(0, .ref (z 0)), (1, .int x1), (2, .ref o)] := hl
  refine lv_aload_n hx hb dL_isFaulty_0 rfl (lv_at hl 2 rfl) ?_
  refine lv_iconst (v := nI 0) hx hb dL_isFaulty_1 (by decide +kernel) ?_
  refine lv_aload_n hx hb dL_isFaulty_2 rfl (lv_at hl 0 rfl) ?_
  refine lv_iload_n hx hb dL_isFaulty_3 rfl (lv_at hl 1 rfl) ?_
  refine vx_calli (vx_runV (C := RX6) (As := [.int x1]) (rest := [.int (nI 0), .ref o]) S0 (c_X6_isFaulty l hfl G _ z r f hP x1) (cwV 1 hts gL_isFaulty_X6_isFaulty rfl rfl rfl (by decide +kernel) ⟨Nat.le_of_ble_eq_true rfl, Nat.le_of_ble_eq_true rfl⟩) (g_preXV hK hX hP (q0 := 0) (ci := 6) (q := (RX6, TX6, 7)) rfl rfl) rfl rfl hl.1 rfl (lv_room (Nat.le_of_ble_eq_true rfl)) dL_isFaulty_4 ⟨Nat.le_of_ble_eq_true rfl, Nat.le_of_ble_eq_true rfl⟩) hS (fun q _ h => h.elim) (fun q h => h.elim) (fun _ _ h => h.elim) (fun E ce q9 u t H1 locs1 ht hvm hk0 hE hz1 hkeep hS1 hcell hv hcl => ?_) (fun x9 u t H1 locs1 ht hvm hpost hB hz1 hkeep hS1 => ?_)
  · have hP1 : va_P G.1 vwCl (wRF G z r f) H1 := hP.kept (fun k q hq => hkeep q.1 (hP k q hq).lt (fun h => h))
    have hO1 : va_at G.1 vwCl (gOut G o g0) H1 := hO.kept (hkeep o hO.lt (fun h => h))
    rcases hK9 with h9 | h9
    · exact absurd h9 hk0
    · have hE1 : E = xIOB := hE.trans (by rw [h9]; rfl)
      subst hE1
      refine vx_catch hown [] ⟨0, 16, 19, 19⟩ [] hnt (fun z hz => absurd hz List.not_mem_nil) rfl (by show ¬ (19 : Nat) = 0; decide) (hts (.classLink RL 19 xIOB) (by decide +kernel)) (va_Nw.use rfl (hX.2.2.1 xIOB (by decide))) hcell hv hcl ?_
      refine lv_astore_n (lv' := [(3, .ref q9), (0, .ref (z 0)), (1, .int x1), (2, .ref o)]) hx hb dL_isFaulty_19 rfl hl (by decide) rfl (fun ls hl => ?_)
      refine lv_iconst (v := nI 1) hx hb dL_isFaulty_20 (by decide +kernel) ?_
      refine W.widen (k := 1) (n := 6) (Nat.le_of_ble_eq_true rfl) (Nat.le_of_ble_eq_true rfl) ?_
      exact W.iret (v := nI 1) hx hb hr (fun t ht _ => ⟨⟨_, g0, rfl, (show nI 1 = gCode (nI 1) (nI 0) (nI 0) (kRing x1) from by rw [h9]; rfl), ⟨(by rw [ht, if_neg hk0]; exact hP1), (by rw [ht]; exact hO1), fun h => absurd h hk0⟩⟩, hS1.F ht⟩) hS1.2.2 dL_isFaulty_21
  · obtain ⟨h9, h10⟩ := hpost
    have h8 : H1 = s.heap := ht.symm.trans hB
    subst h8
    have hP1 := hP
    have hO1 := hO
    have hP2 : va_P G.1 vwCl ((wRF G z r f) ++ [gOut G o g0]) s.heap := va_P.app hP1 (gO_P hO1)
    have hD2 : va_D (gO z o) ((wRF G z r f) ++ [gOut G o g0]) := gO_D hz hoz
    refine lv_if_eq (tgt := 14) hx hb dL_isFaulty_7 (by decide) (fun c_1 => ?_) (fun c_1 => ?_)
    · have c_1 := b2i_f (h10.symm.trans c_1)
      refine lv_lconst (v := 0) hx hb dL_isFaulty_14 rfl ?_
      refine va_last hx hb hK.1 hP2 hD2 hS1 50 2 rfl rfl (vp_in_nI (by decide) (by decide)) dL_isFaulty_15 (fun H2 locs2 hP3 hD3 hS3 => ?_)
      refine lv_goto (tgt := 22) hx hb dL_isFaulty_16 (by decide) ?_
      refine lv_iconst (v := nI 0) hx hb dL_isFaulty_22 (by decide +kernel) ?_
      refine W.widen (k := 1) (n := 6) (Nat.le_of_ble_eq_true rfl) (Nat.le_of_ble_eq_true rfl) ?_
      exact W.iret (v := nI 0) hx hb hr (fun t ht _ => ⟨⟨_, _, rfl, (show nI 0 = gCode (nI 1) (nI 0) (nI 0) (kRing x1) from by rw [h9]; rfl), ⟨(by rw [ht, if_pos h9]; exact gO_l hP3), (by rw [ht]; exact hP3 50 _ rfl), fun _ => (gO_u _ _).trans (by rw [c_1]; rfl)⟩⟩, hS3.F ht⟩) hS3.2.2 dL_isFaulty_23
    · have c_1 := b2i_t (fun h11 => c_1 (h10.trans h11))
      refine lv_lconst (v := 1) hx hb dL_isFaulty_10 rfl ?_
      refine lv_goto (tgt := 15) hx hb dL_isFaulty_11 (by decide) ?_
      refine va_last hx hb hK.1 hP2 hD2 hS1 50 2 rfl rfl (vp_in_nI (by decide) (by decide)) dL_isFaulty_15 (fun H2 locs2 hP3 hD3 hS3 => ?_)
      refine lv_goto (tgt := 22) hx hb dL_isFaulty_16 (by decide) ?_
      refine lv_iconst (v := nI 0) hx hb dL_isFaulty_22 (by decide +kernel) ?_
      refine W.widen (k := 1) (n := 6) (Nat.le_of_ble_eq_true rfl) (Nat.le_of_ble_eq_true rfl) ?_
      exact W.iret (v := nI 0) hx hb hr (fun t ht _ => ⟨⟨_, _, rfl, (show nI 0 = gCode (nI 1) (nI 0) (nI 0) (kRing x1) from by rw [h9]; rfl), ⟨(by rw [ht, if_pos h9]; exact gO_l hP3), (by rw [ht]; exact hP3 50 _ rfl), fun _ => (gO_u _ _).trans (by rw [c_1]; rfl)⟩⟩, hS3.F ht⟩) hS3.2.2 dL_isFaulty_23
set_option maxHeartbeats 4000000 in
set_option maxRecDepth 100000 in
theorem c_L_rollable (l : Launch) (hfl : l.stackTraces = false) (G : gG) (H0 : Heap) (z : Nat → Nat) (hz : gDis z 50) (r : Nat → Nat → Int32) (f : Nat → Int32) (hP : va_P G.1 vwCl (wRF G z r f) H0) (o : Nat) (g0 : Nat → Int64) (hO : va_at G.1 vwCl (gOut G o g0) H0) (hoz : ∀ k, k < 50 → ¬ o = z k) (x1 : Int32) (hK9 : (kRing x1) = 0 ∨ (kRing x1) = 1) : gML l yL_rollable wsL_rollable 8 132 1 G H0 z o [.ref (z 0), .int x1, .ref o] (kRing x1) (gCode (nI 1) (nI 0) (nI 0) (kRing x1)) (cRollable r f x1) (wRF G z r f) (wRF G z r f) := by
  refine va_MetW (cc := cL_rollable) (maxL := 4) (ret := (some .int)) (hh := [(0, 9, 12, 19)]) (by decide) rfl ?_
  intro p_ e_ s m args below meth c s₁ B hml hv
  obtain ⟨rfl, rfl, hK, hX⟩ := hv
  have hx := B.exec
  have hb := B.bytes
  have hr := B.returns
  have hts := atoms_spec (ws := wsL_rollable) B.pre
  have hown : s.vm.findClass RL = some m.cls := findClass_of_methodNamed B.named
  have hlocks := B.notSynchronized
  have hnt : c.exceptionTable.toList = tableOf [(0, 9, 12, 19)] := vx_table (x := yL_rollable) B (hts (.codeWith yL_rollable cL_rollable 4 (some .int) [(0, 9, 12, 19)]) List.mem_cons_self)
  have S0 : CallFix p_ m c cL_rollable 4 s _ wsL_rollable RL := ⟨hx, hb, hml, hown, hts⟩
  have hS : va_S (gO z o) s.heap s.heap [] := va_S.rf
  have hl := lv_entry ([.ref (z 0), .int x1, .ref o]) (n := 4) (Nat.le_of_ble_eq_true rfl)
  rw [lg_entry_eq]
  generalize (lg_sl ([.ref (z 0), .int x1, .ref o]) ++ List.replicate (4 - (lg_sl ([.ref (z 0), .int x1, .ref o])).length) Slot.unset).toArray = ls at hl ⊢
  have hl : lv_has ls 4 [(0, .ref (z 0)), (1, .int x1), (2, .ref o)] := hl
  refine lv_aload_n hx hb dL_rollable_0 rfl (lv_at hl 2 rfl) ?_
  refine lv_iconst (v := nI 0) hx hb dL_rollable_1 (by decide +kernel) ?_
  refine lv_aload_n hx hb dL_rollable_2 rfl (lv_at hl 0 rfl) ?_
  refine lv_iload_n hx hb dL_rollable_3 rfl (lv_at hl 1 rfl) ?_
  refine vx_calli (vx_runV (C := RX6) (As := [.int x1]) (rest := [.int (nI 0), .ref o]) S0 (c_X6_rollable l hfl G _ z r f hP x1) (cwV 1 hts gL_rollable_X6_rollable rfl rfl rfl (by decide +kernel) ⟨Nat.le_of_ble_eq_true rfl, Nat.le_of_ble_eq_true rfl⟩) (g_preXV hK hX hP (q0 := 0) (ci := 6) (q := (RX6, TX6, 7)) rfl rfl) rfl rfl hl.1 rfl (lv_room (Nat.le_of_ble_eq_true rfl)) dL_rollable_4 ⟨Nat.le_of_ble_eq_true rfl, Nat.le_of_ble_eq_true rfl⟩) hS (fun q _ h => h.elim) (fun q h => h.elim) (fun _ _ h => h.elim) (fun E ce q9 u t H1 locs1 ht hvm hk0 hE hz1 hkeep hS1 hcell hv hcl => ?_) (fun x9 u t H1 locs1 ht hvm hpost hB hz1 hkeep hS1 => ?_)
  · have hP1 : va_P G.1 vwCl (wRF G z r f) H1 := hP.kept (fun k q hq => hkeep q.1 (hP k q hq).lt (fun h => h))
    have hO1 : va_at G.1 vwCl (gOut G o g0) H1 := hO.kept (hkeep o hO.lt (fun h => h))
    rcases hK9 with h9 | h9
    · exact absurd h9 hk0
    · have hE1 : E = xIOB := hE.trans (by rw [h9]; rfl)
      subst hE1
      refine vx_catch hown [] ⟨0, 9, 12, 19⟩ [] hnt (fun z hz => absurd hz List.not_mem_nil) rfl (by show ¬ (19 : Nat) = 0; decide) (hts (.classLink RL 19 xIOB) (by decide +kernel)) (va_Nw.use rfl (hX.2.2.1 xIOB (by decide))) hcell hv hcl ?_
      refine lv_astore_n (lv' := [(3, .ref q9), (0, .ref (z 0)), (1, .int x1), (2, .ref o)]) hx hb dL_rollable_12 rfl hl (by decide) rfl (fun ls hl => ?_)
      refine lv_iconst (v := nI 1) hx hb dL_rollable_13 (by decide +kernel) ?_
      refine W.widen (k := 1) (n := 6) (Nat.le_of_ble_eq_true rfl) (Nat.le_of_ble_eq_true rfl) ?_
      exact W.iret (v := nI 1) hx hb hr (fun t ht _ => ⟨⟨_, g0, rfl, (show nI 1 = gCode (nI 1) (nI 0) (nI 0) (kRing x1) from by rw [h9]; rfl), ⟨(by rw [ht, if_neg hk0]; exact hP1), (by rw [ht]; exact hO1), fun h => absurd h hk0⟩⟩, hS1.F ht⟩) hS1.2.2 dL_rollable_14
  · obtain ⟨h9, h10⟩ := hpost
    have h8 : H1 = s.heap := ht.symm.trans hB
    subst h8
    have hP1 := hP
    have hO1 := hO
    have hP2 : va_P G.1 vwCl ((wRF G z r f) ++ [gOut G o g0]) s.heap := va_P.app hP1 (gO_P hO1)
    have hD2 : va_D (gO z o) ((wRF G z r f) ++ [gOut G o g0]) := gO_D hz hoz
    refine lv_i2l (v := x9.toInt64) hx hb dL_rollable_7 rfl ?_
    refine va_last hx hb hK.1 hP2 hD2 hS1 50 2 rfl rfl (vp_in_nI (by decide) (by decide)) dL_rollable_8 (fun H2 locs2 hP3 hD3 hS3 => ?_)
    refine lv_goto (tgt := 15) hx hb dL_rollable_9 (by decide) ?_
    refine lv_iconst (v := nI 0) hx hb dL_rollable_15 (by decide +kernel) ?_
    refine W.widen (k := 1) (n := 6) (Nat.le_of_ble_eq_true rfl) (Nat.le_of_ble_eq_true rfl) ?_
    exact W.iret (v := nI 0) hx hb hr (fun t ht _ => ⟨⟨_, _, rfl, (show nI 0 = gCode (nI 1) (nI 0) (nI 0) (kRing x1) from by rw [h9]; rfl), ⟨(by rw [ht, if_pos h9]; exact gO_l hP3), (by rw [ht]; exact hP3 50 _ rfl), fun _ => (gO_u _ _).trans (congrArg Int32.toInt64 h10)⟩⟩, hS3.F ht⟩) hS3.2.2 dL_rollable_16
set_option maxHeartbeats 4000000 in
set_option maxRecDepth 100000 in
theorem c_L_change (l : Launch) (hfl : l.stackTraces = false) (G : gG) (H0 : Heap) (z : Nat → Nat) (hz : gDis z 50) (r : Nat → Nat → Int32) (f : Nat → Int32) (hP : va_P G.1 vwCl (wRF G z r f) H0) (o : Nat) (g0 : Nat → Int64) (hO : va_at G.1 vwCl (gOut G o g0) H0) (hoz : ∀ k, k < 50 → ¬ o = z k) (x1 : Int32) (hK9 : (kBelow (f 3) x1) = 0 ∨ (kBelow (f 3) x1) = 1) : gML l yL_change wsL_change 8 134 1 G H0 z o [.ref (z 0), .int x1, .ref o] (kBelow (f 3) x1) (gCode (nI 1) (nI 0) (nI 0) (kBelow (f 3) x1)) (cChange r x1) (wRF G z r f) (wRF G z r f) := by
  refine va_MetW (cc := cL_change) (maxL := 4) (ret := (some .int)) (hh := [(0, 9, 12, 19)]) (by decide) rfl ?_
  intro p_ e_ s m args below meth c s₁ B hml hv
  obtain ⟨rfl, rfl, hK, hX⟩ := hv
  have hx := B.exec
  have hb := B.bytes
  have hr := B.returns
  have hts := atoms_spec (ws := wsL_change) B.pre
  have hown : s.vm.findClass RL = some m.cls := findClass_of_methodNamed B.named
  have hlocks := B.notSynchronized
  have hnt : c.exceptionTable.toList = tableOf [(0, 9, 12, 19)] := vx_table (x := yL_change) B (hts (.codeWith yL_change cL_change 4 (some .int) [(0, 9, 12, 19)]) List.mem_cons_self)
  have S0 : CallFix p_ m c cL_change 4 s _ wsL_change RL := ⟨hx, hb, hml, hown, hts⟩
  have hS : va_S (gO z o) s.heap s.heap [] := va_S.rf
  have hl := lv_entry ([.ref (z 0), .int x1, .ref o]) (n := 4) (Nat.le_of_ble_eq_true rfl)
  rw [lg_entry_eq]
  generalize (lg_sl ([.ref (z 0), .int x1, .ref o]) ++ List.replicate (4 - (lg_sl ([.ref (z 0), .int x1, .ref o])).length) Slot.unset).toArray = ls at hl ⊢
  have hl : lv_has ls 4 [(0, .ref (z 0)), (1, .int x1), (2, .ref o)] := hl
  refine lv_aload_n hx hb dL_change_0 rfl (lv_at hl 2 rfl) ?_
  refine lv_iconst (v := nI 0) hx hb dL_change_1 (by decide +kernel) ?_
  refine lv_aload_n hx hb dL_change_2 rfl (lv_at hl 0 rfl) ?_
  refine lv_iload_n hx hb dL_change_3 rfl (lv_at hl 1 rfl) ?_
  refine vx_calli (vx_runV (C := RX6) (As := [.int x1]) (rest := [.int (nI 0), .ref o]) S0 (c_X6_change l hfl G _ z r f hP x1) (cwV 1 hts gL_change_X6_change rfl rfl rfl (by decide +kernel) ⟨Nat.le_of_ble_eq_true rfl, Nat.le_of_ble_eq_true rfl⟩) (g_preXV hK hX hP (q0 := 0) (ci := 6) (q := (RX6, TX6, 7)) rfl rfl) rfl rfl hl.1 rfl (lv_room (Nat.le_of_ble_eq_true rfl)) dL_change_4 ⟨Nat.le_of_ble_eq_true rfl, Nat.le_of_ble_eq_true rfl⟩) hS (fun q _ h => h.elim) (fun q h => h.elim) (fun _ _ h => h.elim) (fun E ce q9 u t H1 locs1 ht hvm hk0 hE hz1 hkeep hS1 hcell hv hcl => ?_) (fun x9 u t H1 locs1 ht hvm hpost hB hz1 hkeep hS1 => ?_)
  · have hP1 : va_P G.1 vwCl (wRF G z r f) H1 := hP.kept (fun k q hq => hkeep q.1 (hP k q hq).lt (fun h => h))
    have hO1 : va_at G.1 vwCl (gOut G o g0) H1 := hO.kept (hkeep o hO.lt (fun h => h))
    rcases hK9 with h9 | h9
    · exact absurd h9 hk0
    · have hE1 : E = xIOB := hE.trans (by rw [h9]; rfl)
      subst hE1
      refine vx_catch hown [] ⟨0, 9, 12, 19⟩ [] hnt (fun z hz => absurd hz List.not_mem_nil) rfl (by show ¬ (19 : Nat) = 0; decide) (hts (.classLink RL 19 xIOB) (by decide +kernel)) (va_Nw.use rfl (hX.2.2.1 xIOB (by decide))) hcell hv hcl ?_
      refine lv_astore_n (lv' := [(3, .ref q9), (0, .ref (z 0)), (1, .int x1), (2, .ref o)]) hx hb dL_change_12 rfl hl (by decide) rfl (fun ls hl => ?_)
      refine lv_iconst (v := nI 1) hx hb dL_change_13 (by decide +kernel) ?_
      refine W.widen (k := 1) (n := 6) (Nat.le_of_ble_eq_true rfl) (Nat.le_of_ble_eq_true rfl) ?_
      exact W.iret (v := nI 1) hx hb hr (fun t ht _ => ⟨⟨_, g0, rfl, (show nI 1 = gCode (nI 1) (nI 0) (nI 0) (kBelow (f 3) x1) from by rw [h9]; rfl), ⟨(by rw [ht, if_neg hk0]; exact hP1), (by rw [ht]; exact hO1), fun h => absurd h hk0⟩⟩, hS1.F ht⟩) hS1.2.2 dL_change_14
  · obtain ⟨h9, h10⟩ := hpost
    have h8 : H1 = s.heap := ht.symm.trans hB
    subst h8
    have hP1 := hP
    have hO1 := hO
    have hP2 : va_P G.1 vwCl ((wRF G z r f) ++ [gOut G o g0]) s.heap := va_P.app hP1 (gO_P hO1)
    have hD2 : va_D (gO z o) ((wRF G z r f) ++ [gOut G o g0]) := gO_D hz hoz
    refine lv_i2l (v := x9.toInt64) hx hb dL_change_7 rfl ?_
    refine va_last hx hb hK.1 hP2 hD2 hS1 50 2 rfl rfl (vp_in_nI (by decide) (by decide)) dL_change_8 (fun H2 locs2 hP3 hD3 hS3 => ?_)
    refine lv_goto (tgt := 15) hx hb dL_change_9 (by decide) ?_
    refine lv_iconst (v := nI 0) hx hb dL_change_15 (by decide +kernel) ?_
    refine W.widen (k := 1) (n := 6) (Nat.le_of_ble_eq_true rfl) (Nat.le_of_ble_eq_true rfl) ?_
    exact W.iret (v := nI 0) hx hb hr (fun t ht _ => ⟨⟨_, _, rfl, (show nI 0 = gCode (nI 1) (nI 0) (nI 0) (kBelow (f 3) x1) from by rw [h9]; rfl), ⟨(by rw [ht, if_pos h9]; exact gO_l hP3), (by rw [ht]; exact hP3 50 _ rfl), fun _ => (gO_u _ _).trans (congrArg Int32.toInt64 h10)⟩⟩, hS3.F ht⟩) hS3.2.2 dL_change_16
set_option maxHeartbeats 4000000 in
set_option maxRecDepth 100000 in
theorem c_L_madeAt (l : Launch) (hfl : l.stackTraces = false) (G : gG) (H0 : Heap) (z : Nat → Nat) (hz : gDis z 50) (r : Nat → Nat → Int32) (f : Nat → Int32) (hP : va_P G.1 vwCl (wRF G z r f) H0) (o : Nat) (g0 : Nat → Int64) (hO : va_at G.1 vwCl (gOut G o g0) H0) (hoz : ∀ k, k < 50 → ¬ o = z k) (x1 : Int32) (hK9 : (kBelow (f 3) x1) = 0 ∨ (kBelow (f 3) x1) = 1) : gML l yL_madeAt wsL_madeAt 8 132 1 G H0 z o [.ref (z 0), .int x1, .ref o] (kBelow (f 3) x1) (gCode (nI 1) (nI 0) (nI 0) (kBelow (f 3) x1)) (rAt 200 (r 6) x1) (wRF G z r f) (wRF G z r f) := by
  refine va_MetW (cc := cL_madeAt) (maxL := 4) (ret := (some .int)) (hh := [(0, 9, 12, 19)]) (by decide) rfl ?_
  intro p_ e_ s m args below meth c s₁ B hml hv
  obtain ⟨rfl, rfl, hK, hX⟩ := hv
  have hx := B.exec
  have hb := B.bytes
  have hr := B.returns
  have hts := atoms_spec (ws := wsL_madeAt) B.pre
  have hown : s.vm.findClass RL = some m.cls := findClass_of_methodNamed B.named
  have hlocks := B.notSynchronized
  have hnt : c.exceptionTable.toList = tableOf [(0, 9, 12, 19)] := vx_table (x := yL_madeAt) B (hts (.codeWith yL_madeAt cL_madeAt 4 (some .int) [(0, 9, 12, 19)]) List.mem_cons_self)
  have S0 : CallFix p_ m c cL_madeAt 4 s _ wsL_madeAt RL := ⟨hx, hb, hml, hown, hts⟩
  have hS : va_S (gO z o) s.heap s.heap [] := va_S.rf
  have hl := lv_entry ([.ref (z 0), .int x1, .ref o]) (n := 4) (Nat.le_of_ble_eq_true rfl)
  rw [lg_entry_eq]
  generalize (lg_sl ([.ref (z 0), .int x1, .ref o]) ++ List.replicate (4 - (lg_sl ([.ref (z 0), .int x1, .ref o])).length) Slot.unset).toArray = ls at hl ⊢
  have hl : lv_has ls 4 [(0, .ref (z 0)), (1, .int x1), (2, .ref o)] := hl
  refine lv_aload_n hx hb dL_madeAt_0 rfl (lv_at hl 2 rfl) ?_
  refine lv_iconst (v := nI 0) hx hb dL_madeAt_1 (by decide +kernel) ?_
  refine lv_aload_n hx hb dL_madeAt_2 rfl (lv_at hl 0 rfl) ?_
  refine lv_iload_n hx hb dL_madeAt_3 rfl (lv_at hl 1 rfl) ?_
  refine vx_calli (vx_runV (C := RX6) (As := [.int x1]) (rest := [.int (nI 0), .ref o]) S0 (c_X6_madeAt l hfl G _ z r f hP x1) (cwV 1 hts gL_madeAt_X6_madeAt rfl rfl rfl (by decide +kernel) ⟨Nat.le_of_ble_eq_true rfl, Nat.le_of_ble_eq_true rfl⟩) (g_preXV hK hX hP (q0 := 0) (ci := 6) (q := (RX6, TX6, 7)) rfl rfl) rfl rfl hl.1 rfl (lv_room (Nat.le_of_ble_eq_true rfl)) dL_madeAt_4 ⟨Nat.le_of_ble_eq_true rfl, Nat.le_of_ble_eq_true rfl⟩) hS (fun q _ h => h.elim) (fun q h => h.elim) (fun _ _ h => h.elim) (fun E ce q9 u t H1 locs1 ht hvm hk0 hE hz1 hkeep hS1 hcell hv hcl => ?_) (fun x9 u t H1 locs1 ht hvm hpost hB hz1 hkeep hS1 => ?_)
  · have hP1 : va_P G.1 vwCl (wRF G z r f) H1 := hP.kept (fun k q hq => hkeep q.1 (hP k q hq).lt (fun h => h))
    have hO1 : va_at G.1 vwCl (gOut G o g0) H1 := hO.kept (hkeep o hO.lt (fun h => h))
    rcases hK9 with h9 | h9
    · exact absurd h9 hk0
    · have hE1 : E = xIOB := hE.trans (by rw [h9]; rfl)
      subst hE1
      refine vx_catch hown [] ⟨0, 9, 12, 19⟩ [] hnt (fun z hz => absurd hz List.not_mem_nil) rfl (by show ¬ (19 : Nat) = 0; decide) (hts (.classLink RL 19 xIOB) (by decide +kernel)) (va_Nw.use rfl (hX.2.2.1 xIOB (by decide))) hcell hv hcl ?_
      refine lv_astore_n (lv' := [(3, .ref q9), (0, .ref (z 0)), (1, .int x1), (2, .ref o)]) hx hb dL_madeAt_12 rfl hl (by decide) rfl (fun ls hl => ?_)
      refine lv_iconst (v := nI 1) hx hb dL_madeAt_13 (by decide +kernel) ?_
      refine W.widen (k := 1) (n := 6) (Nat.le_of_ble_eq_true rfl) (Nat.le_of_ble_eq_true rfl) ?_
      exact W.iret (v := nI 1) hx hb hr (fun t ht _ => ⟨⟨_, g0, rfl, (show nI 1 = gCode (nI 1) (nI 0) (nI 0) (kBelow (f 3) x1) from by rw [h9]; rfl), ⟨(by rw [ht, if_neg hk0]; exact hP1), (by rw [ht]; exact hO1), fun h => absurd h hk0⟩⟩, hS1.F ht⟩) hS1.2.2 dL_madeAt_14
  · obtain ⟨h9, h10⟩ := hpost
    have h8 : H1 = s.heap := ht.symm.trans hB
    subst h8
    have hP1 := hP
    have hO1 := hO
    have hP2 : va_P G.1 vwCl ((wRF G z r f) ++ [gOut G o g0]) s.heap := va_P.app hP1 (gO_P hO1)
    have hD2 : va_D (gO z o) ((wRF G z r f) ++ [gOut G o g0]) := gO_D hz hoz
    refine lv_i2l (v := x9.toInt64) hx hb dL_madeAt_7 rfl ?_
    refine va_last hx hb hK.1 hP2 hD2 hS1 50 2 rfl rfl (vp_in_nI (by decide) (by decide)) dL_madeAt_8 (fun H2 locs2 hP3 hD3 hS3 => ?_)
    refine lv_goto (tgt := 15) hx hb dL_madeAt_9 (by decide) ?_
    refine lv_iconst (v := nI 0) hx hb dL_madeAt_15 (by decide +kernel) ?_
    refine W.widen (k := 1) (n := 6) (Nat.le_of_ble_eq_true rfl) (Nat.le_of_ble_eq_true rfl) ?_
    exact W.iret (v := nI 0) hx hb hr (fun t ht _ => ⟨⟨_, _, rfl, (show nI 0 = gCode (nI 1) (nI 0) (nI 0) (kBelow (f 3) x1) from by rw [h9]; rfl), ⟨(by rw [ht, if_pos h9]; exact gO_l hP3), (by rw [ht]; exact hP3 50 _ rfl), fun _ => (gO_u _ _).trans (congrArg Int32.toInt64 h10)⟩⟩, hS3.F ht⟩) hS3.2.2 dL_madeAt_16
set_option maxHeartbeats 4000000 in
set_option maxRecDepth 100000 in
theorem c_L_heals (l : Launch) (hfl : l.stackTraces = false) (G : gG) (H0 : Heap) (z : Nat → Nat) (hz : gDis z 50) (r : Nat → Nat → Int32) (f : Nat → Int32) (hP : va_P G.1 vwCl (wRF G z r f) H0) (o : Nat) (g0 : Nat → Int64) (hO : va_at G.1 vwCl (gOut G o g0) H0) (hoz : ∀ k, k < 50 → ¬ o = z k) (x1 : Int32) (x2 : Int32) (hK9 : (kT (kBelow (f 3) x1) (kRing x2)) = 0 ∨ (kT (kBelow (f 3) x1) (kRing x2)) = 1) : gML l yL_heals wsL_heals 8 133 2 G H0 z o [.ref (z 0), .int x1, .int x2, .ref o] (kT (kBelow (f 3) x1) (kRing x2)) (gCode (nI 1) (nI 0) (nI 0) (kT (kBelow (f 3) x1) (kRing x2))) (b2i (cHeals r x1 x2)) (wRF G z r f) (wRF G z r f) := by
  refine va_MetW (cc := cL_heals) (maxL := 5) (ret := (some .int)) (hh := [(0, 17, 20, 19)]) (by decide) rfl ?_
  intro p_ e_ s m args below meth c s₁ B hml hv
  obtain ⟨rfl, rfl, hK, hX⟩ := hv
  have hx := B.exec
  have hb := B.bytes
  have hr := B.returns
  have hts := atoms_spec (ws := wsL_heals) B.pre
  have hown : s.vm.findClass RL = some m.cls := findClass_of_methodNamed B.named
  have hlocks := B.notSynchronized
  have hnt : c.exceptionTable.toList = tableOf [(0, 17, 20, 19)] := vx_table (x := yL_heals) B (hts (.codeWith yL_heals cL_heals 5 (some .int) [(0, 17, 20, 19)]) List.mem_cons_self)
  have S0 : CallFix p_ m c cL_heals 5 s _ wsL_heals RL := ⟨hx, hb, hml, hown, hts⟩
  have hS : va_S (gO z o) s.heap s.heap [] := va_S.rf
  have hl := lv_entry ([.ref (z 0), .int x1, .int x2, .ref o]) (n := 5) (Nat.le_of_ble_eq_true rfl)
  rw [lg_entry_eq]
  generalize (lg_sl ([.ref (z 0), .int x1, .int x2, .ref o]) ++ List.replicate (5 - (lg_sl ([.ref (z 0), .int x1, .int x2, .ref o])).length) Slot.unset).toArray = ls at hl ⊢
  have hl : lv_has ls 5 [(0, .ref (z 0)), (1, .int x1), (2, .int x2), (3, .ref o)] := hl
  refine lv_aload_n hx hb dL_heals_0 rfl (lv_at hl 3 rfl) ?_
  refine lv_iconst (v := nI 0) hx hb dL_heals_1 (by decide +kernel) ?_
  refine lv_aload_n hx hb dL_heals_2 rfl (lv_at hl 0 rfl) ?_
  refine lv_iload_n hx hb dL_heals_3 rfl (lv_at hl 1 rfl) ?_
  refine lv_iload_n hx hb dL_heals_4 rfl (lv_at hl 2 rfl) ?_
  refine vx_calli (vx_runV (C := RX6) (As := [.int x1, .int x2]) (rest := [.int (nI 0), .ref o]) S0 (c_X6_heals l hfl G _ z r f hP x1 x2) (cwV 2 hts gL_heals_X6_heals rfl rfl rfl (by decide +kernel) ⟨Nat.le_of_ble_eq_true rfl, Nat.le_of_ble_eq_true rfl⟩) (g_preXV hK hX hP (q0 := 0) (ci := 6) (q := (RX6, TX6, 7)) rfl rfl) rfl rfl hl.1 rfl (lv_room (Nat.le_of_ble_eq_true rfl)) dL_heals_5 ⟨Nat.le_of_ble_eq_true rfl, Nat.le_of_ble_eq_true rfl⟩) hS (fun q _ h => h.elim) (fun q h => h.elim) (fun _ _ h => h.elim) (fun E ce q9 u t H1 locs1 ht hvm hk0 hE hz1 hkeep hS1 hcell hv hcl => ?_) (fun x9 u t H1 locs1 ht hvm hpost hB hz1 hkeep hS1 => ?_)
  · have hP1 : va_P G.1 vwCl (wRF G z r f) H1 := hP.kept (fun k q hq => hkeep q.1 (hP k q hq).lt (fun h => h))
    have hO1 : va_at G.1 vwCl (gOut G o g0) H1 := hO.kept (hkeep o hO.lt (fun h => h))
    rcases hK9 with h9 | h9
    · exact absurd h9 hk0
    · have hE1 : E = xIOB := hE.trans (by rw [h9]; rfl)
      subst hE1
      refine vx_catch hown [] ⟨0, 17, 20, 19⟩ [] hnt (fun z hz => absurd hz List.not_mem_nil) rfl (by show ¬ (19 : Nat) = 0; decide) (hts (.classLink RL 19 xIOB) (by decide +kernel)) (va_Nw.use rfl (hX.2.2.1 xIOB (by decide))) hcell hv hcl ?_
      refine lv_astore (lv' := [(4, .ref q9), (0, .ref (z 0)), (1, .int x1), (2, .int x2), (3, .ref o)]) hx hb dL_heals_20 hl (by decide) rfl (fun ls hl => ?_)
      refine lv_iconst (v := nI 1) hx hb dL_heals_22 (by decide +kernel) ?_
      refine W.widen (k := 2) (n := 12) (Nat.le_of_ble_eq_true rfl) (Nat.le_of_ble_eq_true rfl) ?_
      exact W.iret (v := nI 1) hx hb hr (fun t ht _ => ⟨⟨_, g0, rfl, (show nI 1 = gCode (nI 1) (nI 0) (nI 0) (kT (kBelow (f 3) x1) (kRing x2)) from by rw [h9]; rfl), ⟨(by rw [ht, if_neg hk0]; exact hP1), (by rw [ht]; exact hO1), fun h => absurd h hk0⟩⟩, hS1.F ht⟩) hS1.2.2 dL_heals_23
  · obtain ⟨h9, h10⟩ := hpost
    have h8 : H1 = s.heap := ht.symm.trans hB
    subst h8
    have hP1 := hP
    have hO1 := hO
    have hP2 : va_P G.1 vwCl ((wRF G z r f) ++ [gOut G o g0]) s.heap := va_P.app hP1 (gO_P hO1)
    have hD2 : va_D (gO z o) ((wRF G z r f) ++ [gOut G o g0]) := gO_D hz hoz
    refine lv_if_eq (tgt := 15) hx hb dL_heals_8 (by decide) (fun c_1 => ?_) (fun c_1 => ?_)
    · have c_1 := b2i_f (h10.symm.trans c_1)
      refine lv_lconst (v := 0) hx hb dL_heals_15 rfl ?_
      refine va_last hx hb hK.1 hP2 hD2 hS1 50 2 rfl rfl (vp_in_nI (by decide) (by decide)) dL_heals_16 (fun H2 locs2 hP3 hD3 hS3 => ?_)
      refine lv_goto (tgt := 24) hx hb dL_heals_17 (by decide) ?_
      refine lv_iconst (v := nI 0) hx hb dL_heals_24 (by decide +kernel) ?_
      refine W.widen (k := 2) (n := 12) (Nat.le_of_ble_eq_true rfl) (Nat.le_of_ble_eq_true rfl) ?_
      exact W.iret (v := nI 0) hx hb hr (fun t ht _ => ⟨⟨_, _, rfl, (show nI 0 = gCode (nI 1) (nI 0) (nI 0) (kT (kBelow (f 3) x1) (kRing x2)) from by rw [h9]; rfl), ⟨(by rw [ht, if_pos h9]; exact gO_l hP3), (by rw [ht]; exact hP3 50 _ rfl), fun _ => (gO_u _ _).trans (by rw [c_1]; rfl)⟩⟩, hS3.F ht⟩) hS3.2.2 dL_heals_25
    · have c_1 := b2i_t (fun h11 => c_1 (h10.trans h11))
      refine lv_lconst (v := 1) hx hb dL_heals_11 rfl ?_
      refine lv_goto (tgt := 16) hx hb dL_heals_12 (by decide) ?_
      refine va_last hx hb hK.1 hP2 hD2 hS1 50 2 rfl rfl (vp_in_nI (by decide) (by decide)) dL_heals_16 (fun H2 locs2 hP3 hD3 hS3 => ?_)
      refine lv_goto (tgt := 24) hx hb dL_heals_17 (by decide) ?_
      refine lv_iconst (v := nI 0) hx hb dL_heals_24 (by decide +kernel) ?_
      refine W.widen (k := 2) (n := 12) (Nat.le_of_ble_eq_true rfl) (Nat.le_of_ble_eq_true rfl) ?_
      exact W.iret (v := nI 0) hx hb hr (fun t ht _ => ⟨⟨_, _, rfl, (show nI 0 = gCode (nI 1) (nI 0) (nI 0) (kT (kBelow (f 3) x1) (kRing x2)) from by rw [h9]; rfl), ⟨(by rw [ht, if_pos h9]; exact gO_l hP3), (by rw [ht]; exact hP3 50 _ rfl), fun _ => (gO_u _ _).trans (by rw [c_1]; rfl)⟩⟩, hS3.F ht⟩) hS3.2.2 dL_heals_25
set_option maxHeartbeats 4000000 in
set_option maxRecDepth 100000 in
theorem c_L_trace (l : Launch) (hfl : l.stackTraces = false) (G : gG) (H0 : Heap) (z : Nat → Nat) (hz : gDis z 50) (r : Nat → Nat → Int32) (f : Nat → Int32) (hP : va_P G.1 vwCl (wRF G z r f) H0) (o : Nat) (g0 : Nat → Int64) (hO : va_at G.1 vwCl (gOut G o g0) H0) (hoz : ∀ k, k < 50 → ¬ o = z k) (x1 : Int32) (hK9 : (kRing x1) = 0 ∨ (kRing x1) = 1) : gML l yL_trace wsL_trace 8 138 1 G H0 z o [.ref (z 0), .int x1, .ref o] (kRing x1) (gCode (nI 1) (nI 0) (nI 0) (kRing x1)) (cLatest r x1) (wRF G z r f) (wRF G z r f) := by
  refine va_MetW (cc := cL_trace) (maxL := 4) (ret := (some .int)) (hh := [(0, 9, 12, 19)]) (by decide) rfl ?_
  intro p_ e_ s m args below meth c s₁ B hml hv
  obtain ⟨rfl, rfl, hK, hX⟩ := hv
  have hx := B.exec
  have hb := B.bytes
  have hr := B.returns
  have hts := atoms_spec (ws := wsL_trace) B.pre
  have hown : s.vm.findClass RL = some m.cls := findClass_of_methodNamed B.named
  have hlocks := B.notSynchronized
  have hnt : c.exceptionTable.toList = tableOf [(0, 9, 12, 19)] := vx_table (x := yL_trace) B (hts (.codeWith yL_trace cL_trace 4 (some .int) [(0, 9, 12, 19)]) List.mem_cons_self)
  have S0 : CallFix p_ m c cL_trace 4 s _ wsL_trace RL := ⟨hx, hb, hml, hown, hts⟩
  have hS : va_S (gO z o) s.heap s.heap [] := va_S.rf
  have hl := lv_entry ([.ref (z 0), .int x1, .ref o]) (n := 4) (Nat.le_of_ble_eq_true rfl)
  rw [lg_entry_eq]
  generalize (lg_sl ([.ref (z 0), .int x1, .ref o]) ++ List.replicate (4 - (lg_sl ([.ref (z 0), .int x1, .ref o])).length) Slot.unset).toArray = ls at hl ⊢
  have hl : lv_has ls 4 [(0, .ref (z 0)), (1, .int x1), (2, .ref o)] := hl
  refine lv_aload_n hx hb dL_trace_0 rfl (lv_at hl 2 rfl) ?_
  refine lv_iconst (v := nI 0) hx hb dL_trace_1 (by decide +kernel) ?_
  refine lv_aload_n hx hb dL_trace_2 rfl (lv_at hl 0 rfl) ?_
  refine lv_iload_n hx hb dL_trace_3 rfl (lv_at hl 1 rfl) ?_
  refine vx_calli (vx_runV (C := RX6) (As := [.int x1]) (rest := [.int (nI 0), .ref o]) S0 (c_X6_trace l hfl G _ z r f hP x1) (cwV 1 hts gL_trace_X6_trace rfl rfl rfl (by decide +kernel) ⟨Nat.le_of_ble_eq_true rfl, Nat.le_of_ble_eq_true rfl⟩) (g_preXV hK hX hP (q0 := 0) (ci := 6) (q := (RX6, TX6, 7)) rfl rfl) rfl rfl hl.1 rfl (lv_room (Nat.le_of_ble_eq_true rfl)) dL_trace_4 ⟨Nat.le_of_ble_eq_true rfl, Nat.le_of_ble_eq_true rfl⟩) hS (fun q _ h => h.elim) (fun q h => h.elim) (fun _ _ h => h.elim) (fun E ce q9 u t H1 locs1 ht hvm hk0 hE hz1 hkeep hS1 hcell hv hcl => ?_) (fun x9 u t H1 locs1 ht hvm hpost hB hz1 hkeep hS1 => ?_)
  · have hP1 : va_P G.1 vwCl (wRF G z r f) H1 := hP.kept (fun k q hq => hkeep q.1 (hP k q hq).lt (fun h => h))
    have hO1 : va_at G.1 vwCl (gOut G o g0) H1 := hO.kept (hkeep o hO.lt (fun h => h))
    rcases hK9 with h9 | h9
    · exact absurd h9 hk0
    · have hE1 : E = xIOB := hE.trans (by rw [h9]; rfl)
      subst hE1
      refine vx_catch hown [] ⟨0, 9, 12, 19⟩ [] hnt (fun z hz => absurd hz List.not_mem_nil) rfl (by show ¬ (19 : Nat) = 0; decide) (hts (.classLink RL 19 xIOB) (by decide +kernel)) (va_Nw.use rfl (hX.2.2.1 xIOB (by decide))) hcell hv hcl ?_
      refine lv_astore_n (lv' := [(3, .ref q9), (0, .ref (z 0)), (1, .int x1), (2, .ref o)]) hx hb dL_trace_12 rfl hl (by decide) rfl (fun ls hl => ?_)
      refine lv_iconst (v := nI 1) hx hb dL_trace_13 (by decide +kernel) ?_
      refine W.widen (k := 1) (n := 6) (Nat.le_of_ble_eq_true rfl) (Nat.le_of_ble_eq_true rfl) ?_
      exact W.iret (v := nI 1) hx hb hr (fun t ht _ => ⟨⟨_, g0, rfl, (show nI 1 = gCode (nI 1) (nI 0) (nI 0) (kRing x1) from by rw [h9]; rfl), ⟨(by rw [ht, if_neg hk0]; exact hP1), (by rw [ht]; exact hO1), fun h => absurd h hk0⟩⟩, hS1.F ht⟩) hS1.2.2 dL_trace_14
  · obtain ⟨h9, h10⟩ := hpost
    have h8 : H1 = s.heap := ht.symm.trans hB
    subst h8
    have hP1 := hP
    have hO1 := hO
    have hP2 : va_P G.1 vwCl ((wRF G z r f) ++ [gOut G o g0]) s.heap := va_P.app hP1 (gO_P hO1)
    have hD2 : va_D (gO z o) ((wRF G z r f) ++ [gOut G o g0]) := gO_D hz hoz
    refine lv_i2l (v := x9.toInt64) hx hb dL_trace_7 rfl ?_
    refine va_last hx hb hK.1 hP2 hD2 hS1 50 2 rfl rfl (vp_in_nI (by decide) (by decide)) dL_trace_8 (fun H2 locs2 hP3 hD3 hS3 => ?_)
    refine lv_goto (tgt := 15) hx hb dL_trace_9 (by decide) ?_
    refine lv_iconst (v := nI 0) hx hb dL_trace_15 (by decide +kernel) ?_
    refine W.widen (k := 1) (n := 6) (Nat.le_of_ble_eq_true rfl) (Nat.le_of_ble_eq_true rfl) ?_
    exact W.iret (v := nI 0) hx hb hr (fun t ht _ => ⟨⟨_, _, rfl, (show nI 0 = gCode (nI 1) (nI 0) (nI 0) (kRing x1) from by rw [h9]; rfl), ⟨(by rw [ht, if_pos h9]; exact gO_l hP3), (by rw [ht]; exact hP3 50 _ rfl), fun _ => (gO_u _ _).trans (congrArg Int32.toInt64 h10)⟩⟩, hS3.F ht⟩) hS3.2.2 dL_trace_16
set_option maxHeartbeats 4000000 in
set_option maxRecDepth 100000 in
theorem c_L_traceByTrying (l : Launch) (hfl : l.stackTraces = false) (G : gG) (H0 : Heap) (z : Nat → Nat) (hz : gDis z 50) (r : Nat → Nat → Int32) (f : Nat → Int32) (hP : va_P G.1 vwCl (wRF G z r f) H0) (o : Nat) (g0 : Nat → Int64) (hO : va_at G.1 vwCl (gOut G o g0) H0) (hoz : ∀ k, k < 50 → ¬ o = z k) (x1 : Int32) (n : Nat) (hn9 : f 3 = nI n) (hn8 : n ≤ 200) (hK9 : (kRing x1) = 0 ∨ (kRing x1) = 1) : gML l yL_traceByTrying wsL_traceByTrying 8 132 1 G H0 z o [.ref (z 0), .int x1, .ref o] (kRing x1) (gCode (nI 1) (nI 0) (nI 0) (kRing x1)) (cTry r n x1) (wRF G z r f) (wRF G z r f) := by
  refine va_MetW (cc := cL_traceByTrying) (maxL := 4) (ret := (some .int)) (hh := [(0, 9, 12, 19)]) (by decide) rfl ?_
  intro p_ e_ s m args below meth c s₁ B hml hv
  obtain ⟨rfl, rfl, hK, hX⟩ := hv
  have hx := B.exec
  have hb := B.bytes
  have hr := B.returns
  have hts := atoms_spec (ws := wsL_traceByTrying) B.pre
  have hown : s.vm.findClass RL = some m.cls := findClass_of_methodNamed B.named
  have hlocks := B.notSynchronized
  have hnt : c.exceptionTable.toList = tableOf [(0, 9, 12, 19)] := vx_table (x := yL_traceByTrying) B (hts (.codeWith yL_traceByTrying cL_traceByTrying 4 (some .int) [(0, 9, 12, 19)]) List.mem_cons_self)
  have S0 : CallFix p_ m c cL_traceByTrying 4 s _ wsL_traceByTrying RL := ⟨hx, hb, hml, hown, hts⟩
  have hS : va_S (gO z o) s.heap s.heap [] := va_S.rf
  have hl := lv_entry ([.ref (z 0), .int x1, .ref o]) (n := 4) (Nat.le_of_ble_eq_true rfl)
  rw [lg_entry_eq]
  generalize (lg_sl ([.ref (z 0), .int x1, .ref o]) ++ List.replicate (4 - (lg_sl ([.ref (z 0), .int x1, .ref o])).length) Slot.unset).toArray = ls at hl ⊢
  have hl : lv_has ls 4 [(0, .ref (z 0)), (1, .int x1), (2, .ref o)] := hl
  refine lv_aload_n hx hb dL_traceByTrying_0 rfl (lv_at hl 2 rfl) ?_
  refine lv_iconst (v := nI 0) hx hb dL_traceByTrying_1 (by decide +kernel) ?_
  refine lv_aload_n hx hb dL_traceByTrying_2 rfl (lv_at hl 0 rfl) ?_
  refine lv_iload_n hx hb dL_traceByTrying_3 rfl (lv_at hl 1 rfl) ?_
  refine vx_calli (vx_runV (C := RX6) (As := [.int x1]) (rest := [.int (nI 0), .ref o]) S0 (c_X6_traceByTrying l hfl G _ z r f hP x1 n hn9 hn8) (cwV 1 hts gL_traceByTrying_X6_traceByTrying rfl rfl rfl (by decide +kernel) ⟨Nat.le_of_ble_eq_true rfl, Nat.le_of_ble_eq_true rfl⟩) (g_preXV hK hX hP (q0 := 0) (ci := 6) (q := (RX6, TX6, 7)) rfl rfl) rfl rfl hl.1 rfl (lv_room (Nat.le_of_ble_eq_true rfl)) dL_traceByTrying_4 ⟨Nat.le_of_ble_eq_true rfl, Nat.le_of_ble_eq_true rfl⟩) hS (fun q _ h => h.elim) (fun q h => h.elim) (fun _ _ h => h.elim) (fun E ce q9 u t H1 locs1 ht hvm hk0 hE hz1 hkeep hS1 hcell hv hcl => ?_) (fun x9 u t H1 locs1 ht hvm hpost hB hz1 hkeep hS1 => ?_)
  · have hP1 : va_P G.1 vwCl (wRF G z r f) H1 := hP.kept (fun k q hq => hkeep q.1 (hP k q hq).lt (fun h => h))
    have hO1 : va_at G.1 vwCl (gOut G o g0) H1 := hO.kept (hkeep o hO.lt (fun h => h))
    rcases hK9 with h9 | h9
    · exact absurd h9 hk0
    · have hE1 : E = xIOB := hE.trans (by rw [h9]; rfl)
      subst hE1
      refine vx_catch hown [] ⟨0, 9, 12, 19⟩ [] hnt (fun z hz => absurd hz List.not_mem_nil) rfl (by show ¬ (19 : Nat) = 0; decide) (hts (.classLink RL 19 xIOB) (by decide +kernel)) (va_Nw.use rfl (hX.2.2.1 xIOB (by decide))) hcell hv hcl ?_
      refine lv_astore_n (lv' := [(3, .ref q9), (0, .ref (z 0)), (1, .int x1), (2, .ref o)]) hx hb dL_traceByTrying_12 rfl hl (by decide) rfl (fun ls hl => ?_)
      refine lv_iconst (v := nI 1) hx hb dL_traceByTrying_13 (by decide +kernel) ?_
      refine W.widen (k := 1) (n := 6) (Nat.le_of_ble_eq_true rfl) (Nat.le_of_ble_eq_true rfl) ?_
      exact W.iret (v := nI 1) hx hb hr (fun t ht _ => ⟨⟨_, g0, rfl, (show nI 1 = gCode (nI 1) (nI 0) (nI 0) (kRing x1) from by rw [h9]; rfl), ⟨(by rw [ht, if_neg hk0]; exact hP1), (by rw [ht]; exact hO1), fun h => absurd h hk0⟩⟩, hS1.F ht⟩) hS1.2.2 dL_traceByTrying_14
  · obtain ⟨h9, h10⟩ := hpost
    have h8 : H1 = s.heap := ht.symm.trans hB
    subst h8
    have hP1 := hP
    have hO1 := hO
    have hP2 : va_P G.1 vwCl ((wRF G z r f) ++ [gOut G o g0]) s.heap := va_P.app hP1 (gO_P hO1)
    have hD2 : va_D (gO z o) ((wRF G z r f) ++ [gOut G o g0]) := gO_D hz hoz
    refine lv_i2l (v := x9.toInt64) hx hb dL_traceByTrying_7 rfl ?_
    refine va_last hx hb hK.1 hP2 hD2 hS1 50 2 rfl rfl (vp_in_nI (by decide) (by decide)) dL_traceByTrying_8 (fun H2 locs2 hP3 hD3 hS3 => ?_)
    refine lv_goto (tgt := 15) hx hb dL_traceByTrying_9 (by decide) ?_
    refine lv_iconst (v := nI 0) hx hb dL_traceByTrying_15 (by decide +kernel) ?_
    refine W.widen (k := 1) (n := 6) (Nat.le_of_ble_eq_true rfl) (Nat.le_of_ble_eq_true rfl) ?_
    exact W.iret (v := nI 0) hx hb hr (fun t ht _ => ⟨⟨_, _, rfl, (show nI 0 = gCode (nI 1) (nI 0) (nI 0) (kRing x1) from by rw [h9]; rfl), ⟨(by rw [ht, if_pos h9]; exact gO_l hP3), (by rw [ht]; exact hP3 50 _ rfl), fun _ => (gO_u _ _).trans (congrArg Int32.toInt64 h10)⟩⟩, hS3.F ht⟩) hS3.2.2 dL_traceByTrying_16
set_option maxHeartbeats 4000000 in
set_option maxRecDepth 100000 in
theorem c_L_openIn (l : Launch) (hfl : l.stackTraces = false) (G : gG) (H0 : Heap) (z : Nat → Nat) (hz : gDis z 50) (r : Nat → Nat → Int32) (f : Nat → Int32) (hP : va_P G.1 vwCl (wRF G z r f) H0) (o : Nat) (g0 : Nat → Int64) (hO : va_at G.1 vwCl (gOut G o g0) H0) (hoz : ∀ k, k < 50 → ¬ o = z k) (x1 : Int32) (hK9 : (kRing x1) = 0 ∨ (kRing x1) = 1) : gML l yL_openIn wsL_openIn 8 131 1 G H0 z o [.ref (z 0), .int x1, .ref o] (kRing x1) (gCode (nI 1) (nI 0) (nI 0) (kRing x1)) (rAt 4 (r 16) x1) (wRF G z r f) (wRF G z r f) := by
  refine va_MetW (cc := cL_openIn) (maxL := 4) (ret := (some .int)) (hh := [(0, 9, 12, 19)]) (by decide) rfl ?_
  intro p_ e_ s m args below meth c s₁ B hml hv
  obtain ⟨rfl, rfl, hK, hX⟩ := hv
  have hx := B.exec
  have hb := B.bytes
  have hr := B.returns
  have hts := atoms_spec (ws := wsL_openIn) B.pre
  have hown : s.vm.findClass RL = some m.cls := findClass_of_methodNamed B.named
  have hlocks := B.notSynchronized
  have hnt : c.exceptionTable.toList = tableOf [(0, 9, 12, 19)] := vx_table (x := yL_openIn) B (hts (.codeWith yL_openIn cL_openIn 4 (some .int) [(0, 9, 12, 19)]) List.mem_cons_self)
  have S0 : CallFix p_ m c cL_openIn 4 s _ wsL_openIn RL := ⟨hx, hb, hml, hown, hts⟩
  have hS : va_S (gO z o) s.heap s.heap [] := va_S.rf
  have hl := lv_entry ([.ref (z 0), .int x1, .ref o]) (n := 4) (Nat.le_of_ble_eq_true rfl)
  rw [lg_entry_eq]
  generalize (lg_sl ([.ref (z 0), .int x1, .ref o]) ++ List.replicate (4 - (lg_sl ([.ref (z 0), .int x1, .ref o])).length) Slot.unset).toArray = ls at hl ⊢
  have hl : lv_has ls 4 [(0, .ref (z 0)), (1, .int x1), (2, .ref o)] := hl
  refine lv_aload_n hx hb dL_openIn_0 rfl (lv_at hl 2 rfl) ?_
  refine lv_iconst (v := nI 0) hx hb dL_openIn_1 (by decide +kernel) ?_
  refine lv_aload_n hx hb dL_openIn_2 rfl (lv_at hl 0 rfl) ?_
  refine lv_iload_n hx hb dL_openIn_3 rfl (lv_at hl 1 rfl) ?_
  refine vx_calli (vx_runV (C := RX6) (As := [.int x1]) (rest := [.int (nI 0), .ref o]) S0 (c_X6_openIn l hfl G _ z r f hP x1) (cwV 1 hts gL_openIn_X6_openIn rfl rfl rfl (by decide +kernel) ⟨Nat.le_of_ble_eq_true rfl, Nat.le_of_ble_eq_true rfl⟩) (g_preXV hK hX hP (q0 := 0) (ci := 6) (q := (RX6, TX6, 7)) rfl rfl) rfl rfl hl.1 rfl (lv_room (Nat.le_of_ble_eq_true rfl)) dL_openIn_4 ⟨Nat.le_of_ble_eq_true rfl, Nat.le_of_ble_eq_true rfl⟩) hS (fun q _ h => h.elim) (fun q h => h.elim) (fun _ _ h => h.elim) (fun E ce q9 u t H1 locs1 ht hvm hk0 hE hz1 hkeep hS1 hcell hv hcl => ?_) (fun x9 u t H1 locs1 ht hvm hpost hB hz1 hkeep hS1 => ?_)
  · have hP1 : va_P G.1 vwCl (wRF G z r f) H1 := hP.kept (fun k q hq => hkeep q.1 (hP k q hq).lt (fun h => h))
    have hO1 : va_at G.1 vwCl (gOut G o g0) H1 := hO.kept (hkeep o hO.lt (fun h => h))
    rcases hK9 with h9 | h9
    · exact absurd h9 hk0
    · have hE1 : E = xIOB := hE.trans (by rw [h9]; rfl)
      subst hE1
      refine vx_catch hown [] ⟨0, 9, 12, 19⟩ [] hnt (fun z hz => absurd hz List.not_mem_nil) rfl (by show ¬ (19 : Nat) = 0; decide) (hts (.classLink RL 19 xIOB) (by decide +kernel)) (va_Nw.use rfl (hX.2.2.1 xIOB (by decide))) hcell hv hcl ?_
      refine lv_astore_n (lv' := [(3, .ref q9), (0, .ref (z 0)), (1, .int x1), (2, .ref o)]) hx hb dL_openIn_12 rfl hl (by decide) rfl (fun ls hl => ?_)
      refine lv_iconst (v := nI 1) hx hb dL_openIn_13 (by decide +kernel) ?_
      refine W.widen (k := 1) (n := 6) (Nat.le_of_ble_eq_true rfl) (Nat.le_of_ble_eq_true rfl) ?_
      exact W.iret (v := nI 1) hx hb hr (fun t ht _ => ⟨⟨_, g0, rfl, (show nI 1 = gCode (nI 1) (nI 0) (nI 0) (kRing x1) from by rw [h9]; rfl), ⟨(by rw [ht, if_neg hk0]; exact hP1), (by rw [ht]; exact hO1), fun h => absurd h hk0⟩⟩, hS1.F ht⟩) hS1.2.2 dL_openIn_14
  · obtain ⟨h9, h10⟩ := hpost
    have h8 : H1 = s.heap := ht.symm.trans hB
    subst h8
    have hP1 := hP
    have hO1 := hO
    have hP2 : va_P G.1 vwCl ((wRF G z r f) ++ [gOut G o g0]) s.heap := va_P.app hP1 (gO_P hO1)
    have hD2 : va_D (gO z o) ((wRF G z r f) ++ [gOut G o g0]) := gO_D hz hoz
    refine lv_i2l (v := x9.toInt64) hx hb dL_openIn_7 rfl ?_
    refine va_last hx hb hK.1 hP2 hD2 hS1 50 2 rfl rfl (vp_in_nI (by decide) (by decide)) dL_openIn_8 (fun H2 locs2 hP3 hD3 hS3 => ?_)
    refine lv_goto (tgt := 15) hx hb dL_openIn_9 (by decide) ?_
    refine lv_iconst (v := nI 0) hx hb dL_openIn_15 (by decide +kernel) ?_
    refine W.widen (k := 1) (n := 6) (Nat.le_of_ble_eq_true rfl) (Nat.le_of_ble_eq_true rfl) ?_
    exact W.iret (v := nI 0) hx hb hr (fun t ht _ => ⟨⟨_, _, rfl, (show nI 0 = gCode (nI 1) (nI 0) (nI 0) (kRing x1) from by rw [h9]; rfl), ⟨(by rw [ht, if_pos h9]; exact gO_l hP3), (by rw [ht]; exact hP3 50 _ rfl), fun _ => (gO_u _ _).trans (congrArg Int32.toInt64 h10)⟩⟩, hS3.F ht⟩) hS3.2.2 dL_openIn_16
set_option maxHeartbeats 4000000 in
set_option maxRecDepth 100000 in
theorem c_L_openedAt (l : Launch) (hfl : l.stackTraces = false) (G : gG) (H0 : Heap) (z : Nat → Nat) (hz : gDis z 50) (r : Nat → Nat → Int32) (f : Nat → Int32) (hP : va_P G.1 vwCl (wRF G z r f) H0) (o : Nat) (g0 : Nat → Int64) (hO : va_at G.1 vwCl (gOut G o g0) H0) (hoz : ∀ k, k < 50 → ¬ o = z k) (x1 : Int32) (hK9 : (kBelow (f 4) x1) = 0 ∨ (kBelow (f 4) x1) = 1) : gML l yL_openedAt wsL_openedAt 8 132 1 G H0 z o [.ref (z 0), .int x1, .ref o] (kBelow (f 4) x1) (gCode (nI 1) (nI 0) (nI 0) (kBelow (f 4) x1)) (nI 10 * rAt 200 (r 12) x1 + rAt 200 (r 11) x1) (wRF G z r f) (wRF G z r f) := by
  refine va_MetW (cc := cL_openedAt) (maxL := 4) (ret := (some .int)) (hh := [(0, 9, 12, 19)]) (by decide) rfl ?_
  intro p_ e_ s m args below meth c s₁ B hml hv
  obtain ⟨rfl, rfl, hK, hX⟩ := hv
  have hx := B.exec
  have hb := B.bytes
  have hr := B.returns
  have hts := atoms_spec (ws := wsL_openedAt) B.pre
  have hown : s.vm.findClass RL = some m.cls := findClass_of_methodNamed B.named
  have hlocks := B.notSynchronized
  have hnt : c.exceptionTable.toList = tableOf [(0, 9, 12, 19)] := vx_table (x := yL_openedAt) B (hts (.codeWith yL_openedAt cL_openedAt 4 (some .int) [(0, 9, 12, 19)]) List.mem_cons_self)
  have S0 : CallFix p_ m c cL_openedAt 4 s _ wsL_openedAt RL := ⟨hx, hb, hml, hown, hts⟩
  have hS : va_S (gO z o) s.heap s.heap [] := va_S.rf
  have hl := lv_entry ([.ref (z 0), .int x1, .ref o]) (n := 4) (Nat.le_of_ble_eq_true rfl)
  rw [lg_entry_eq]
  generalize (lg_sl ([.ref (z 0), .int x1, .ref o]) ++ List.replicate (4 - (lg_sl ([.ref (z 0), .int x1, .ref o])).length) Slot.unset).toArray = ls at hl ⊢
  have hl : lv_has ls 4 [(0, .ref (z 0)), (1, .int x1), (2, .ref o)] := hl
  refine lv_aload_n hx hb dL_openedAt_0 rfl (lv_at hl 2 rfl) ?_
  refine lv_iconst (v := nI 0) hx hb dL_openedAt_1 (by decide +kernel) ?_
  refine lv_aload_n hx hb dL_openedAt_2 rfl (lv_at hl 0 rfl) ?_
  refine lv_iload_n hx hb dL_openedAt_3 rfl (lv_at hl 1 rfl) ?_
  refine vx_calli (vx_runV (C := RX6) (As := [.int x1]) (rest := [.int (nI 0), .ref o]) S0 (c_X6_openedAt l hfl G _ z r f hP x1) (cwV 1 hts gL_openedAt_X6_openedAt rfl rfl rfl (by decide +kernel) ⟨Nat.le_of_ble_eq_true rfl, Nat.le_of_ble_eq_true rfl⟩) (g_preXV hK hX hP (q0 := 0) (ci := 6) (q := (RX6, TX6, 7)) rfl rfl) rfl rfl hl.1 rfl (lv_room (Nat.le_of_ble_eq_true rfl)) dL_openedAt_4 ⟨Nat.le_of_ble_eq_true rfl, Nat.le_of_ble_eq_true rfl⟩) hS (fun q _ h => h.elim) (fun q h => h.elim) (fun _ _ h => h.elim) (fun E ce q9 u t H1 locs1 ht hvm hk0 hE hz1 hkeep hS1 hcell hv hcl => ?_) (fun x9 u t H1 locs1 ht hvm hpost hB hz1 hkeep hS1 => ?_)
  · have hP1 : va_P G.1 vwCl (wRF G z r f) H1 := hP.kept (fun k q hq => hkeep q.1 (hP k q hq).lt (fun h => h))
    have hO1 : va_at G.1 vwCl (gOut G o g0) H1 := hO.kept (hkeep o hO.lt (fun h => h))
    rcases hK9 with h9 | h9
    · exact absurd h9 hk0
    · have hE1 : E = xIOB := hE.trans (by rw [h9]; rfl)
      subst hE1
      refine vx_catch hown [] ⟨0, 9, 12, 19⟩ [] hnt (fun z hz => absurd hz List.not_mem_nil) rfl (by show ¬ (19 : Nat) = 0; decide) (hts (.classLink RL 19 xIOB) (by decide +kernel)) (va_Nw.use rfl (hX.2.2.1 xIOB (by decide))) hcell hv hcl ?_
      refine lv_astore_n (lv' := [(3, .ref q9), (0, .ref (z 0)), (1, .int x1), (2, .ref o)]) hx hb dL_openedAt_12 rfl hl (by decide) rfl (fun ls hl => ?_)
      refine lv_iconst (v := nI 1) hx hb dL_openedAt_13 (by decide +kernel) ?_
      refine W.widen (k := 1) (n := 6) (Nat.le_of_ble_eq_true rfl) (Nat.le_of_ble_eq_true rfl) ?_
      exact W.iret (v := nI 1) hx hb hr (fun t ht _ => ⟨⟨_, g0, rfl, (show nI 1 = gCode (nI 1) (nI 0) (nI 0) (kBelow (f 4) x1) from by rw [h9]; rfl), ⟨(by rw [ht, if_neg hk0]; exact hP1), (by rw [ht]; exact hO1), fun h => absurd h hk0⟩⟩, hS1.F ht⟩) hS1.2.2 dL_openedAt_14
  · obtain ⟨h9, h10⟩ := hpost
    have h8 : H1 = s.heap := ht.symm.trans hB
    subst h8
    have hP1 := hP
    have hO1 := hO
    have hP2 : va_P G.1 vwCl ((wRF G z r f) ++ [gOut G o g0]) s.heap := va_P.app hP1 (gO_P hO1)
    have hD2 : va_D (gO z o) ((wRF G z r f) ++ [gOut G o g0]) := gO_D hz hoz
    refine lv_i2l (v := x9.toInt64) hx hb dL_openedAt_7 rfl ?_
    refine va_last hx hb hK.1 hP2 hD2 hS1 50 2 rfl rfl (vp_in_nI (by decide) (by decide)) dL_openedAt_8 (fun H2 locs2 hP3 hD3 hS3 => ?_)
    refine lv_goto (tgt := 15) hx hb dL_openedAt_9 (by decide) ?_
    refine lv_iconst (v := nI 0) hx hb dL_openedAt_15 (by decide +kernel) ?_
    refine W.widen (k := 1) (n := 6) (Nat.le_of_ble_eq_true rfl) (Nat.le_of_ble_eq_true rfl) ?_
    exact W.iret (v := nI 0) hx hb hr (fun t ht _ => ⟨⟨_, _, rfl, (show nI 0 = gCode (nI 1) (nI 0) (nI 0) (kBelow (f 4) x1) from by rw [h9]; rfl), ⟨(by rw [ht, if_pos h9]; exact gO_l hP3), (by rw [ht]; exact hP3 50 _ rfl), fun _ => (gO_u _ _).trans (congrArg Int32.toInt64 h10)⟩⟩, hS3.F ht⟩) hS3.2.2 dL_openedAt_16
set_option maxHeartbeats 4000000 in
set_option maxRecDepth 100000 in
theorem c_L_closedAt (l : Launch) (hfl : l.stackTraces = false) (G : gG) (H0 : Heap) (z : Nat → Nat) (hz : gDis z 50) (r : Nat → Nat → Int32) (f : Nat → Int32) (hP : va_P G.1 vwCl (wRF G z r f) H0) (o : Nat) (g0 : Nat → Int64) (hO : va_at G.1 vwCl (gOut G o g0) H0) (hoz : ∀ k, k < 50 → ¬ o = z k) (x1 : Int32) (hK9 : (kBelow (f 4) x1) = 0 ∨ (kBelow (f 4) x1) = 1) : gML l yL_closedAt wsL_closedAt 8 132 1 G H0 z o [.ref (z 0), .int x1, .ref o] (kBelow (f 4) x1) (gCode (nI 1) (nI 0) (nI 0) (kBelow (f 4) x1)) (rAt 200 (r 13) x1) (wRF G z r f) (wRF G z r f) := by
  refine va_MetW (cc := cL_closedAt) (maxL := 4) (ret := (some .int)) (hh := [(0, 9, 12, 19)]) (by decide) rfl ?_
  intro p_ e_ s m args below meth c s₁ B hml hv
  obtain ⟨rfl, rfl, hK, hX⟩ := hv
  have hx := B.exec
  have hb := B.bytes
  have hr := B.returns
  have hts := atoms_spec (ws := wsL_closedAt) B.pre
  have hown : s.vm.findClass RL = some m.cls := findClass_of_methodNamed B.named
  have hlocks := B.notSynchronized
  have hnt : c.exceptionTable.toList = tableOf [(0, 9, 12, 19)] := vx_table (x := yL_closedAt) B (hts (.codeWith yL_closedAt cL_closedAt 4 (some .int) [(0, 9, 12, 19)]) List.mem_cons_self)
  have S0 : CallFix p_ m c cL_closedAt 4 s _ wsL_closedAt RL := ⟨hx, hb, hml, hown, hts⟩
  have hS : va_S (gO z o) s.heap s.heap [] := va_S.rf
  have hl := lv_entry ([.ref (z 0), .int x1, .ref o]) (n := 4) (Nat.le_of_ble_eq_true rfl)
  rw [lg_entry_eq]
  generalize (lg_sl ([.ref (z 0), .int x1, .ref o]) ++ List.replicate (4 - (lg_sl ([.ref (z 0), .int x1, .ref o])).length) Slot.unset).toArray = ls at hl ⊢
  have hl : lv_has ls 4 [(0, .ref (z 0)), (1, .int x1), (2, .ref o)] := hl
  refine lv_aload_n hx hb dL_closedAt_0 rfl (lv_at hl 2 rfl) ?_
  refine lv_iconst (v := nI 0) hx hb dL_closedAt_1 (by decide +kernel) ?_
  refine lv_aload_n hx hb dL_closedAt_2 rfl (lv_at hl 0 rfl) ?_
  refine lv_iload_n hx hb dL_closedAt_3 rfl (lv_at hl 1 rfl) ?_
  refine vx_calli (vx_runV (C := RX6) (As := [.int x1]) (rest := [.int (nI 0), .ref o]) S0 (c_X6_closedAt l hfl G _ z r f hP x1) (cwV 1 hts gL_closedAt_X6_closedAt rfl rfl rfl (by decide +kernel) ⟨Nat.le_of_ble_eq_true rfl, Nat.le_of_ble_eq_true rfl⟩) (g_preXV hK hX hP (q0 := 0) (ci := 6) (q := (RX6, TX6, 7)) rfl rfl) rfl rfl hl.1 rfl (lv_room (Nat.le_of_ble_eq_true rfl)) dL_closedAt_4 ⟨Nat.le_of_ble_eq_true rfl, Nat.le_of_ble_eq_true rfl⟩) hS (fun q _ h => h.elim) (fun q h => h.elim) (fun _ _ h => h.elim) (fun E ce q9 u t H1 locs1 ht hvm hk0 hE hz1 hkeep hS1 hcell hv hcl => ?_) (fun x9 u t H1 locs1 ht hvm hpost hB hz1 hkeep hS1 => ?_)
  · have hP1 : va_P G.1 vwCl (wRF G z r f) H1 := hP.kept (fun k q hq => hkeep q.1 (hP k q hq).lt (fun h => h))
    have hO1 : va_at G.1 vwCl (gOut G o g0) H1 := hO.kept (hkeep o hO.lt (fun h => h))
    rcases hK9 with h9 | h9
    · exact absurd h9 hk0
    · have hE1 : E = xIOB := hE.trans (by rw [h9]; rfl)
      subst hE1
      refine vx_catch hown [] ⟨0, 9, 12, 19⟩ [] hnt (fun z hz => absurd hz List.not_mem_nil) rfl (by show ¬ (19 : Nat) = 0; decide) (hts (.classLink RL 19 xIOB) (by decide +kernel)) (va_Nw.use rfl (hX.2.2.1 xIOB (by decide))) hcell hv hcl ?_
      refine lv_astore_n (lv' := [(3, .ref q9), (0, .ref (z 0)), (1, .int x1), (2, .ref o)]) hx hb dL_closedAt_12 rfl hl (by decide) rfl (fun ls hl => ?_)
      refine lv_iconst (v := nI 1) hx hb dL_closedAt_13 (by decide +kernel) ?_
      refine W.widen (k := 1) (n := 6) (Nat.le_of_ble_eq_true rfl) (Nat.le_of_ble_eq_true rfl) ?_
      exact W.iret (v := nI 1) hx hb hr (fun t ht _ => ⟨⟨_, g0, rfl, (show nI 1 = gCode (nI 1) (nI 0) (nI 0) (kBelow (f 4) x1) from by rw [h9]; rfl), ⟨(by rw [ht, if_neg hk0]; exact hP1), (by rw [ht]; exact hO1), fun h => absurd h hk0⟩⟩, hS1.F ht⟩) hS1.2.2 dL_closedAt_14
  · obtain ⟨h9, h10⟩ := hpost
    have h8 : H1 = s.heap := ht.symm.trans hB
    subst h8
    have hP1 := hP
    have hO1 := hO
    have hP2 : va_P G.1 vwCl ((wRF G z r f) ++ [gOut G o g0]) s.heap := va_P.app hP1 (gO_P hO1)
    have hD2 : va_D (gO z o) ((wRF G z r f) ++ [gOut G o g0]) := gO_D hz hoz
    refine lv_i2l (v := x9.toInt64) hx hb dL_closedAt_7 rfl ?_
    refine va_last hx hb hK.1 hP2 hD2 hS1 50 2 rfl rfl (vp_in_nI (by decide) (by decide)) dL_closedAt_8 (fun H2 locs2 hP3 hD3 hS3 => ?_)
    refine lv_goto (tgt := 15) hx hb dL_closedAt_9 (by decide) ?_
    refine lv_iconst (v := nI 0) hx hb dL_closedAt_15 (by decide +kernel) ?_
    refine W.widen (k := 1) (n := 6) (Nat.le_of_ble_eq_true rfl) (Nat.le_of_ble_eq_true rfl) ?_
    exact W.iret (v := nI 0) hx hb hr (fun t ht _ => ⟨⟨_, _, rfl, (show nI 0 = gCode (nI 1) (nI 0) (nI 0) (kBelow (f 4) x1) from by rw [h9]; rfl), ⟨(by rw [ht, if_pos h9]; exact gO_l hP3), (by rw [ht]; exact hP3 50 _ rfl), fun _ => (gO_u _ _).trans (congrArg Int32.toInt64 h10)⟩⟩, hS3.F ht⟩) hS3.2.2 dL_closedAt_16
set_option maxHeartbeats 4000000 in
set_option maxRecDepth 100000 in
theorem c_L_tracedTo (l : Launch) (hfl : l.stackTraces = false) (G : gG) (H0 : Heap) (z : Nat → Nat) (hz : gDis z 50) (r : Nat → Nat → Int32) (f : Nat → Int32) (hP : va_P G.1 vwCl (wRF G z r f) H0) (o : Nat) (g0 : Nat → Int64) (hO : va_at G.1 vwCl (gOut G o g0) H0) (hoz : ∀ k, k < 50 → ¬ o = z k) (x1 : Int32) (hK9 : (kBelow (f 4) x1) = 0 ∨ (kBelow (f 4) x1) = 1) : gML l yL_tracedTo wsL_tracedTo 8 132 1 G H0 z o [.ref (z 0), .int x1, .ref o] (kBelow (f 4) x1) (gCode (nI 1) (nI 0) (nI 0) (kBelow (f 4) x1)) (rAt 200 (r 14) x1) (wRF G z r f) (wRF G z r f) := by
  refine va_MetW (cc := cL_tracedTo) (maxL := 4) (ret := (some .int)) (hh := [(0, 9, 12, 19)]) (by decide) rfl ?_
  intro p_ e_ s m args below meth c s₁ B hml hv
  obtain ⟨rfl, rfl, hK, hX⟩ := hv
  have hx := B.exec
  have hb := B.bytes
  have hr := B.returns
  have hts := atoms_spec (ws := wsL_tracedTo) B.pre
  have hown : s.vm.findClass RL = some m.cls := findClass_of_methodNamed B.named
  have hlocks := B.notSynchronized
  have hnt : c.exceptionTable.toList = tableOf [(0, 9, 12, 19)] := vx_table (x := yL_tracedTo) B (hts (.codeWith yL_tracedTo cL_tracedTo 4 (some .int) [(0, 9, 12, 19)]) List.mem_cons_self)
  have S0 : CallFix p_ m c cL_tracedTo 4 s _ wsL_tracedTo RL := ⟨hx, hb, hml, hown, hts⟩
  have hS : va_S (gO z o) s.heap s.heap [] := va_S.rf
  have hl := lv_entry ([.ref (z 0), .int x1, .ref o]) (n := 4) (Nat.le_of_ble_eq_true rfl)
  rw [lg_entry_eq]
  generalize (lg_sl ([.ref (z 0), .int x1, .ref o]) ++ List.replicate (4 - (lg_sl ([.ref (z 0), .int x1, .ref o])).length) Slot.unset).toArray = ls at hl ⊢
  have hl : lv_has ls 4 [(0, .ref (z 0)), (1, .int x1), (2, .ref o)] := hl
  refine lv_aload_n hx hb dL_tracedTo_0 rfl (lv_at hl 2 rfl) ?_
  refine lv_iconst (v := nI 0) hx hb dL_tracedTo_1 (by decide +kernel) ?_
  refine lv_aload_n hx hb dL_tracedTo_2 rfl (lv_at hl 0 rfl) ?_
  refine lv_iload_n hx hb dL_tracedTo_3 rfl (lv_at hl 1 rfl) ?_
  refine vx_calli (vx_runV (C := RX6) (As := [.int x1]) (rest := [.int (nI 0), .ref o]) S0 (c_X6_tracedTo l hfl G _ z r f hP x1) (cwV 1 hts gL_tracedTo_X6_tracedTo rfl rfl rfl (by decide +kernel) ⟨Nat.le_of_ble_eq_true rfl, Nat.le_of_ble_eq_true rfl⟩) (g_preXV hK hX hP (q0 := 0) (ci := 6) (q := (RX6, TX6, 7)) rfl rfl) rfl rfl hl.1 rfl (lv_room (Nat.le_of_ble_eq_true rfl)) dL_tracedTo_4 ⟨Nat.le_of_ble_eq_true rfl, Nat.le_of_ble_eq_true rfl⟩) hS (fun q _ h => h.elim) (fun q h => h.elim) (fun _ _ h => h.elim) (fun E ce q9 u t H1 locs1 ht hvm hk0 hE hz1 hkeep hS1 hcell hv hcl => ?_) (fun x9 u t H1 locs1 ht hvm hpost hB hz1 hkeep hS1 => ?_)
  · have hP1 : va_P G.1 vwCl (wRF G z r f) H1 := hP.kept (fun k q hq => hkeep q.1 (hP k q hq).lt (fun h => h))
    have hO1 : va_at G.1 vwCl (gOut G o g0) H1 := hO.kept (hkeep o hO.lt (fun h => h))
    rcases hK9 with h9 | h9
    · exact absurd h9 hk0
    · have hE1 : E = xIOB := hE.trans (by rw [h9]; rfl)
      subst hE1
      refine vx_catch hown [] ⟨0, 9, 12, 19⟩ [] hnt (fun z hz => absurd hz List.not_mem_nil) rfl (by show ¬ (19 : Nat) = 0; decide) (hts (.classLink RL 19 xIOB) (by decide +kernel)) (va_Nw.use rfl (hX.2.2.1 xIOB (by decide))) hcell hv hcl ?_
      refine lv_astore_n (lv' := [(3, .ref q9), (0, .ref (z 0)), (1, .int x1), (2, .ref o)]) hx hb dL_tracedTo_12 rfl hl (by decide) rfl (fun ls hl => ?_)
      refine lv_iconst (v := nI 1) hx hb dL_tracedTo_13 (by decide +kernel) ?_
      refine W.widen (k := 1) (n := 6) (Nat.le_of_ble_eq_true rfl) (Nat.le_of_ble_eq_true rfl) ?_
      exact W.iret (v := nI 1) hx hb hr (fun t ht _ => ⟨⟨_, g0, rfl, (show nI 1 = gCode (nI 1) (nI 0) (nI 0) (kBelow (f 4) x1) from by rw [h9]; rfl), ⟨(by rw [ht, if_neg hk0]; exact hP1), (by rw [ht]; exact hO1), fun h => absurd h hk0⟩⟩, hS1.F ht⟩) hS1.2.2 dL_tracedTo_14
  · obtain ⟨h9, h10⟩ := hpost
    have h8 : H1 = s.heap := ht.symm.trans hB
    subst h8
    have hP1 := hP
    have hO1 := hO
    have hP2 : va_P G.1 vwCl ((wRF G z r f) ++ [gOut G o g0]) s.heap := va_P.app hP1 (gO_P hO1)
    have hD2 : va_D (gO z o) ((wRF G z r f) ++ [gOut G o g0]) := gO_D hz hoz
    refine lv_i2l (v := x9.toInt64) hx hb dL_tracedTo_7 rfl ?_
    refine va_last hx hb hK.1 hP2 hD2 hS1 50 2 rfl rfl (vp_in_nI (by decide) (by decide)) dL_tracedTo_8 (fun H2 locs2 hP3 hD3 hS3 => ?_)
    refine lv_goto (tgt := 15) hx hb dL_tracedTo_9 (by decide) ?_
    refine lv_iconst (v := nI 0) hx hb dL_tracedTo_15 (by decide +kernel) ?_
    refine W.widen (k := 1) (n := 6) (Nat.le_of_ble_eq_true rfl) (Nat.le_of_ble_eq_true rfl) ?_
    exact W.iret (v := nI 0) hx hb hr (fun t ht _ => ⟨⟨_, _, rfl, (show nI 0 = gCode (nI 1) (nI 0) (nI 0) (kBelow (f 4) x1) from by rw [h9]; rfl), ⟨(by rw [ht, if_pos h9]; exact gO_l hP3), (by rw [ht]; exact hP3 50 _ rfl), fun _ => (gO_u _ _).trans (congrArg Int32.toInt64 h10)⟩⟩, hS3.F ht⟩) hS3.2.2 dL_tracedTo_16
set_option maxHeartbeats 4000000 in
set_option maxRecDepth 100000 in
theorem c_L_firstCalled (l : Launch) (hfl : l.stackTraces = false) (G : gG) (H0 : Heap) (z : Nat → Nat) (hz : gDis z 50) (r : Nat → Nat → Int32) (f : Nat → Int32) (hP : va_P G.1 vwCl (wRF G z r f) H0) (o : Nat) (g0 : Nat → Int64) (hO : va_at G.1 vwCl (gOut G o g0) H0) (hoz : ∀ k, k < 50 → ¬ o = z k) (x1 : Int32) (hK9 : (kBelow (f 4) x1) = 0 ∨ (kBelow (f 4) x1) = 1) : gML l yL_firstCalled wsL_firstCalled 8 132 1 G H0 z o [.ref (z 0), .int x1, .ref o] (kBelow (f 4) x1) (gCode (nI 1) (nI 0) (nI 0) (kBelow (f 4) x1)) (rAt 200 (r 15) x1) (wRF G z r f) (wRF G z r f) := by
  refine va_MetW (cc := cL_firstCalled) (maxL := 4) (ret := (some .int)) (hh := [(0, 9, 12, 19)]) (by decide) rfl ?_
  intro p_ e_ s m args below meth c s₁ B hml hv
  obtain ⟨rfl, rfl, hK, hX⟩ := hv
  have hx := B.exec
  have hb := B.bytes
  have hr := B.returns
  have hts := atoms_spec (ws := wsL_firstCalled) B.pre
  have hown : s.vm.findClass RL = some m.cls := findClass_of_methodNamed B.named
  have hlocks := B.notSynchronized
  have hnt : c.exceptionTable.toList = tableOf [(0, 9, 12, 19)] := vx_table (x := yL_firstCalled) B (hts (.codeWith yL_firstCalled cL_firstCalled 4 (some .int) [(0, 9, 12, 19)]) List.mem_cons_self)
  have S0 : CallFix p_ m c cL_firstCalled 4 s _ wsL_firstCalled RL := ⟨hx, hb, hml, hown, hts⟩
  have hS : va_S (gO z o) s.heap s.heap [] := va_S.rf
  have hl := lv_entry ([.ref (z 0), .int x1, .ref o]) (n := 4) (Nat.le_of_ble_eq_true rfl)
  rw [lg_entry_eq]
  generalize (lg_sl ([.ref (z 0), .int x1, .ref o]) ++ List.replicate (4 - (lg_sl ([.ref (z 0), .int x1, .ref o])).length) Slot.unset).toArray = ls at hl ⊢
  have hl : lv_has ls 4 [(0, .ref (z 0)), (1, .int x1), (2, .ref o)] := hl
  refine lv_aload_n hx hb dL_firstCalled_0 rfl (lv_at hl 2 rfl) ?_
  refine lv_iconst (v := nI 0) hx hb dL_firstCalled_1 (by decide +kernel) ?_
  refine lv_aload_n hx hb dL_firstCalled_2 rfl (lv_at hl 0 rfl) ?_
  refine lv_iload_n hx hb dL_firstCalled_3 rfl (lv_at hl 1 rfl) ?_
  refine vx_calli (vx_runV (C := RX6) (As := [.int x1]) (rest := [.int (nI 0), .ref o]) S0 (c_X6_firstCalled l hfl G _ z r f hP x1) (cwV 1 hts gL_firstCalled_X6_firstCalled rfl rfl rfl (by decide +kernel) ⟨Nat.le_of_ble_eq_true rfl, Nat.le_of_ble_eq_true rfl⟩) (g_preXV hK hX hP (q0 := 0) (ci := 6) (q := (RX6, TX6, 7)) rfl rfl) rfl rfl hl.1 rfl (lv_room (Nat.le_of_ble_eq_true rfl)) dL_firstCalled_4 ⟨Nat.le_of_ble_eq_true rfl, Nat.le_of_ble_eq_true rfl⟩) hS (fun q _ h => h.elim) (fun q h => h.elim) (fun _ _ h => h.elim) (fun E ce q9 u t H1 locs1 ht hvm hk0 hE hz1 hkeep hS1 hcell hv hcl => ?_) (fun x9 u t H1 locs1 ht hvm hpost hB hz1 hkeep hS1 => ?_)
  · have hP1 : va_P G.1 vwCl (wRF G z r f) H1 := hP.kept (fun k q hq => hkeep q.1 (hP k q hq).lt (fun h => h))
    have hO1 : va_at G.1 vwCl (gOut G o g0) H1 := hO.kept (hkeep o hO.lt (fun h => h))
    rcases hK9 with h9 | h9
    · exact absurd h9 hk0
    · have hE1 : E = xIOB := hE.trans (by rw [h9]; rfl)
      subst hE1
      refine vx_catch hown [] ⟨0, 9, 12, 19⟩ [] hnt (fun z hz => absurd hz List.not_mem_nil) rfl (by show ¬ (19 : Nat) = 0; decide) (hts (.classLink RL 19 xIOB) (by decide +kernel)) (va_Nw.use rfl (hX.2.2.1 xIOB (by decide))) hcell hv hcl ?_
      refine lv_astore_n (lv' := [(3, .ref q9), (0, .ref (z 0)), (1, .int x1), (2, .ref o)]) hx hb dL_firstCalled_12 rfl hl (by decide) rfl (fun ls hl => ?_)
      refine lv_iconst (v := nI 1) hx hb dL_firstCalled_13 (by decide +kernel) ?_
      refine W.widen (k := 1) (n := 6) (Nat.le_of_ble_eq_true rfl) (Nat.le_of_ble_eq_true rfl) ?_
      exact W.iret (v := nI 1) hx hb hr (fun t ht _ => ⟨⟨_, g0, rfl, (show nI 1 = gCode (nI 1) (nI 0) (nI 0) (kBelow (f 4) x1) from by rw [h9]; rfl), ⟨(by rw [ht, if_neg hk0]; exact hP1), (by rw [ht]; exact hO1), fun h => absurd h hk0⟩⟩, hS1.F ht⟩) hS1.2.2 dL_firstCalled_14
  · obtain ⟨h9, h10⟩ := hpost
    have h8 : H1 = s.heap := ht.symm.trans hB
    subst h8
    have hP1 := hP
    have hO1 := hO
    have hP2 : va_P G.1 vwCl ((wRF G z r f) ++ [gOut G o g0]) s.heap := va_P.app hP1 (gO_P hO1)
    have hD2 : va_D (gO z o) ((wRF G z r f) ++ [gOut G o g0]) := gO_D hz hoz
    refine lv_i2l (v := x9.toInt64) hx hb dL_firstCalled_7 rfl ?_
    refine va_last hx hb hK.1 hP2 hD2 hS1 50 2 rfl rfl (vp_in_nI (by decide) (by decide)) dL_firstCalled_8 (fun H2 locs2 hP3 hD3 hS3 => ?_)
    refine lv_goto (tgt := 15) hx hb dL_firstCalled_9 (by decide) ?_
    refine lv_iconst (v := nI 0) hx hb dL_firstCalled_15 (by decide +kernel) ?_
    refine W.widen (k := 1) (n := 6) (Nat.le_of_ble_eq_true rfl) (Nat.le_of_ble_eq_true rfl) ?_
    exact W.iret (v := nI 0) hx hb hr (fun t ht _ => ⟨⟨_, _, rfl, (show nI 0 = gCode (nI 1) (nI 0) (nI 0) (kBelow (f 4) x1) from by rw [h9]; rfl), ⟨(by rw [ht, if_pos h9]; exact gO_l hP3), (by rw [ht]; exact hP3 50 _ rfl), fun _ => (gO_u _ _).trans (congrArg Int32.toInt64 h10)⟩⟩, hS3.F ht⟩) hS3.2.2 dL_firstCalled_16
