def lwF (p : Program) (l : Launch) (s : State) (m : MethodId) (meth : Method) (c : Code) (b L : Nat) (xs : Nat → Int32) (G : gG) : Prop :=
  (p.tables.exec = Jvm.exec ∧ c.code = code ∧ meth.sig.returnType = ret ∧ c.maxLocals = 7 ∧ s.vm.findClass RL = some m.cls ∧ (∀ w ∈ wsL_law, w.before #[Value.ref b] s = true) ∧ va_X b L xs s s.heap ∧ b < s.heap.size ∧ meth.locks = false) ∧ l.stackTraces = false ∧ gK G s ∧ gX G s s.heap ∧ gB G = s.heap.size ∧ L ≤ 2048
def lwZ (s : State) (zc zm : Nat → Nat) (o : Nat) : Prop := gDis zc 50 ∧ gDis zm 20 ∧ (∀ i j, i < 50 → j < 20 → ¬ zc i = zm j) ∧ (∀ k, k < 50 → ¬ o = zc k) ∧ (∀ k, k < 20 → ¬ o = zm k) ∧ (∀ k, k < 50 → s.heap.size ≤ zc k) ∧ (∀ k, k < 20 → s.heap.size ≤ zm k) ∧ s.heap.size ≤ o
def lwH (G : gG) (s : State) (zc zm : Nat → Nat) (o : Nat) (q p : gRF) (g : Nat → Int64) (H : Heap) (locs : List Loc) : Prop := va_P G.1 vwCl (wRF G zc q.1 q.2) H ∧ va_P G.1 vwCl (wRM G zm p.1 p.2) H ∧ va_at G.1 vwCl (gOut G o g) H ∧ va_S (fun q => s.heap.size ≤ q) s.heap H locs
def lwLs (b : Nat) (zc zm : Nat → Nat) (o i : Nat) : List (Nat × Value) := [(4, .int (nI (4 * i))), (3, .ref o), (2, .ref (zm 0)), (1, .ref (zc 0)), (0, .ref b)]
theorem law_Xat {G : gG} {s : State} {H : Heap} {locs : List Loc} (hX : gX G s s.heap) (hB : gB G = s.heap.size) (hS : va_S (fun q => s.heap.size ≤ q) s.heap H locs) : gX G s H := hX.kept (fun q h1 h2 => hS.2.1 q h1 (by
  show ¬ s.heap.size ≤ q
  rw [← hB]
  exact h2))
theorem wRF_in {G : gG} {z : Nat → Nat} {r : Nat → Nat → Int32} {f : Nat → Int32} (hz : gDis z 50) {k : Nat} {x : Nat × va_E} (h : (wRF G z r f)[k]? = some x) : gF z 50 x.1 := (gD_RF hz).2 k x h
theorem wRM_in {G : gG} {z : Nat → Nat} {r : Nat → Nat → Int32} {f : Nat → Int32} (hz : gDis z 20) {k : Nat} {x : Nat × va_E} (h : (wRM G z r f)[k]? = some x) : gF z 20 x.1 := (gD_RM hz).2 k x h
section S97
variable {p_ : Program} {e_ : Env} {l : Launch} {s : State} {m : MethodId} {below : List Frame} {meth : Method} {c : Code} {b L : Nat} {xs : Nat → Int32} {G : gG} {zc zm : Nat → Nat} {o : Nat} {q q2 p p2 : gRF} {g : Nat → Int64} {H : Heap} {locs : List Loc} {cells slots pc : Nat} {ls : Array Slot} {rest : List Value} {Q : State → Prop}
theorem law_S0 (F : lwF p_ l s m meth c b L xs G) : CallFix p_ m c code 7 s #[Value.ref b] wsL_law RL := ⟨F.1.1, F.1.2.1, F.1.2.2.2.1, F.1.2.2.2.2.1, F.1.2.2.2.2.2.1⟩
/-- a call of a helper: the class's world goes on, or stays where it threw -/
theorem law_c1 (F : lwF p_ l s m meth c b L xs G) (Z : lwZ s zc zm o) {K : Nat} {cd E A0 : Int32} {p9 : gRF} (_hs : simOK q q2 p9 K cd E A0) (hH : lwH G s zc zm o q p g H locs) {y : MethodName} {bytes : ByteArray} {maxL idx n fr lo mc : Nat} {hh : List (Nat × Nat × Nat × Nat)} {ws : List Cond} {As : List Value} (hM : gML l y ws fr lo mc G H zc o As K cd E (wRF G zc q2.1 q2.2) (wRF G zc q.1 q.2)) (cw : vx_CSW room_1 s #[Value.ref b] RL idx y bytes maxL (some .int) hh ws { frames := fr, cells := mc, slots := 6 * mc, locals := lo } mc (6 * mc) n) (hn : As.length = n) (hls : ls.size = 7) (hdg : decode code pc = .ok (.invokestatic idx, 3)) (hrm : (rest.map fun v => v.category).sum ≤ 8) (hcl : cells + mc ≤ 601024 ∧ slots + 6 * mc ≤ 7293034)
    (kk : ∀ (g2 : Nat → Int64) (H1 : Heap) (locs1 : List Loc), lwH G s zc zm o (if K = 0 then q2 else q) p g2 H1 locs1 → (K = 0 → g2 0 = E.toInt64) → W p_ l e_ room_1 s m #[Value.ref b] below meth c H1 locs1 (cells + mc) (slots + 6 * mc) Q (F0 m (pc + 3) ls (.int cd :: rest))) : W p_ l e_ room_1 s m #[Value.ref b] below meth c H locs cells slots Q (F0 m pc ls (As.reverse ++ rest)) := by
  obtain ⟨hPc, hPm, hO, hS⟩ := hH
  obtain ⟨-, hfl, hK, hX, hB, -⟩ := id F
  obtain ⟨z1, z2, z3, z4, z5, z6, z7, z8⟩ := id Z
  have hin : ∀ q, gO zc o q → s.heap.size ≤ q := fun q hq => by
    rcases hq with ⟨k, hk, e⟩ | e
    · rw [e]; exact z6 k hk
    · rw [e]; exact z8
  refine va_calli (vx_runSW (law_S0 F) hM cw (g_preXS hK (law_Xat hX hB hS)) rfl hn hls rfl (lv_room hrm) hdg hcl) hS (fun q _ h => hin q h) (fun q h => hin q h) (fun r g2 t H1 locs1 ht _ hw hBt _ hk1 hS1 => ?_)
  obtain ⟨b1, b2, b3⟩ := hBt
  rw [ht] at b1 b2
  have hw : r = cd := hw
  subst hw
  refine kk g2 H1 locs1 ⟨?_, hPm.kept (fun k x hx => hk1 x.1 (hPm k x hx).lt ?_), b2, hS1⟩ b3
  · by_cases e : K = 0
    · rw [if_pos e] at b1 ⊢; exact b1
    · rw [if_neg e] at b1 ⊢; exact b1
  · intro hq
    obtain ⟨j, hj, ej⟩ := wRM_in z2 hx
    rcases hq with ⟨i, hi, ei⟩ | ei
    · exact z3 i j hi hj (ei.symm.trans ej)
    · exact z5 j hj (ei.symm.trans ej)
/-- a call of the reference -/
theorem law_c2 (F : lwF p_ l s m meth c b L xs G) (Z : lwZ s zc zm o) {q8 q9 : gRF} {K : Nat} {cd E A : Int32} (_hs : simOK q8 q9 p2 K cd E A) (hH : lwH G s zc zm o q p g H locs) {y : MethodName} {bytes : ByteArray} {maxL idx n fr lo : Nat} {ws : List Cond} {As : List Value} (hM : gMw l y ws fr lo G H (.ref (zm 0) :: As) A (wRM G zm p2.1 p2.2) (gF zm 20)) {ty : FieldType} (cw : CallW room_1 s #[Value.ref b] RL RX7 idx y bytes maxL (some ty) ws { frames := fr, cells := 0, slots := 0, locals := lo } 0 0 n) (hn : As.length = n) (hls : ls.size = 7) (hdg : decode code pc = .ok (.invokevirtual idx, 3)) (hrm : (rest.map fun v => v.category).sum ≤ 8) (hcl : cells + 0 ≤ 601024 ∧ slots + 0 ≤ 7293034)
    (kk : ∀ (H1 : Heap) (locs1 : List Loc), lwH G s zc zm o q p2 g H1 locs1 → W p_ l e_ room_1 s m #[Value.ref b] below meth c H1 locs1 cells slots Q (F0 m (pc + 3) ls (.int A :: rest))) : W p_ l e_ room_1 s m #[Value.ref b] below meth c H locs cells slots Q (F0 m pc ls (As.reverse ++ .ref (zm 0) :: rest)) := by
  obtain ⟨hPc, hPm, hO, hS⟩ := hH
  obtain ⟨-, hfl, hK, hX, hB, -⟩ := id F
  obtain ⟨z1, z2, z3, z4, z5, z6, z7, z8⟩ := id Z
  have hin : ∀ q, gF zm 20 q → s.heap.size ≤ q := fun q hq => by
    obtain ⟨k, hk, e⟩ := hq
    rw [e]; exact z7 k hk
  refine va_calli (va_runV (C := RX7) (law_S0 F) hM cw (g_preV hK hPm (q0 := 0) (ci := 7) (q := (RX7, TX7, 26)) rfl rfl) rfl hn hls rfl (lv_room hrm) hdg hcl) hS (fun q _ h => hin q h) (fun q h => hin q h) (fun r _ t H1 locs1 ht _ hw hBt _ hk1 hS1 => ?_)
  have hw : r = A := hw
  subst hw
  have b1 : va_P G.1 vwCl (wRM G zm p2.1 p2.2) H1 := by rw [← ht]; exact hBt
  refine kk H1 locs1 ⟨hPc.kept (fun k x hx => hk1 x.1 (hPc k x hx).lt ?_), b1, hO.kept (hk1 o hO.lt ?_), hS1⟩
  · intro hq
    obtain ⟨i, hi, ei⟩ := wRF_in z1 hx
    obtain ⟨j, hj, ej⟩ := hq
    exact z3 i j hi hj (ei.symm.trans ej)
  · intro hq
    obtain ⟨j, hj, ej⟩ := hq
    exact z5 j hj ej
/-- a call of the reference, bare -/
theorem law_c2d (F : lwF p_ l s m meth c b L xs G) (Z : lwZ s zc zm o) {A : Int32} (hH : lwH G s zc zm o q p g H locs) {y : MethodName} {bytes : ByteArray} {maxL idx n fr lo : Nat} {ws : List Cond} {As : List Value} (hM : gMw l y ws fr lo G H (.ref (zm 0) :: As) A (wRM G zm p2.1 p2.2) (gF zm 20)) {ty : FieldType} (cw : CallW room_1 s #[Value.ref b] RL RX7 idx y bytes maxL (some ty) ws { frames := fr, cells := 0, slots := 0, locals := lo } 0 0 n) (hn : As.length = n) (hls : ls.size = 7) (hdg : decode code pc = .ok (.invokevirtual idx, 3)) (hrm : (rest.map fun v => v.category).sum ≤ 8) (hcl : cells + 0 ≤ 601024 ∧ slots + 0 ≤ 7293034)
    (kk : ∀ (H1 : Heap) (locs1 : List Loc), lwH G s zc zm o q p2 g H1 locs1 → W p_ l e_ room_1 s m #[Value.ref b] below meth c H1 locs1 cells slots Q (F0 m (pc + 3) ls (.int A :: rest))) : W p_ l e_ room_1 s m #[Value.ref b] below meth c H locs cells slots Q (F0 m pc ls (As.reverse ++ .ref (zm 0) :: rest)) := by
  obtain ⟨hPc, hPm, hO, hS⟩ := hH
  obtain ⟨-, hfl, hK, hX, hB, -⟩ := id F
  obtain ⟨z1, z2, z3, z4, z5, z6, z7, z8⟩ := id Z
  have hin : ∀ q, gF zm 20 q → s.heap.size ≤ q := fun q hq => by
    obtain ⟨k, hk, e⟩ := hq
    rw [e]; exact z7 k hk
  refine va_calli (va_runV (C := RX7) (law_S0 F) hM cw (g_preV hK hPm (q0 := 0) (ci := 7) (q := (RX7, TX7, 26)) rfl rfl) rfl hn hls rfl (lv_room hrm) hdg hcl) hS (fun q _ h => hin q h) (fun q h => hin q h) (fun r _ t H1 locs1 ht _ hw hBt _ hk1 hS1 => ?_)
  have hw : r = A := hw
  subst hw
  have b1 : va_P G.1 vwCl (wRM G zm p2.1 p2.2) H1 := by rw [← ht]; exact hBt
  refine kk H1 locs1 ⟨hPc.kept (fun k x hx => hk1 x.1 (hPc k x hx).lt ?_), b1, hO.kept (hk1 o hO.lt ?_), hS1⟩
  · intro hq
    obtain ⟨i, hi, ei⟩ := wRF_in z1 hx
    obtain ⟨j, hj, ej⟩ := hq
    exact z3 i j hi hj (ei.symm.trans ej)
  · intro hq
    obtain ⟨j, hj, ej⟩ := hq
    exact z5 j hj ej
/-- what the reference threw -/
theorem law_c3 (F : lwF p_ l s m meth c b L xs G) (hH : lwH G s zc zm o q p g H locs) (hls : ls.size = 7) (hdg : decode code pc = .ok (.invokevirtual 117, 3)) (hrm : (rest.map fun v => v.category).sum ≤ 8) (hcl : cells + 0 ≤ 601024 ∧ slots + 0 ≤ 7293034)
    (kk : W p_ l e_ room_1 s m #[Value.ref b] below meth c H locs cells slots Q (F0 m (pc + 3) ls (.int (p.2 0) :: rest))) : W p_ l e_ room_1 s m #[Value.ref b] below meth c H locs cells slots Q (F0 m pc ls (.ref (zm 0) :: rest)) := by
  obtain ⟨hPc, hPm, hO, hS⟩ := hH
  obtain ⟨-, hfl, hK, hX, hB, -⟩ := id F
  exact g_callR (va_runV (C := RX7) (As := []) (rest := rest) (law_S0 F) (c_X7_thrown l G H zm p.1 p.2 hPm) (cwV 0 (law_S0 F).2.2.2.2 gL_law_X7_thrown rfl rfl rfl (by decide +kernel) ⟨Nat.le_of_ble_eq_true rfl, Nat.le_of_ble_eq_true rfl⟩) (g_preV hK hPm (q0 := 0) (ci := 7) (q := (RX7, TX7, 26)) rfl rfl) rfl rfl hls rfl (lv_room hrm) hdg hcl) kk
/-- a reader of the class, called straight -/
theorem law_c4 (F : lwF p_ l s m meth c b L xs G) (hH : lwH G s zc zm o q p g H locs) {y : MethodName} {bytes : ByteArray} {maxL idx fr lo : Nat} {ws : List Cond} {E : Int32} (hM : gMr l y ws fr lo G H [.ref (zc 0)] E) (cw : CallW room_1 s #[Value.ref b] RL RX6 idx y bytes maxL (some .int) ws { frames := fr, cells := 0, slots := 0, locals := lo } 0 0 0) (hls : ls.size = 7) (hdg : decode code pc = .ok (.invokevirtual idx, 3)) (hrm : (rest.map fun v => v.category).sum ≤ 8) (hcl : cells + 0 ≤ 601024 ∧ slots + 0 ≤ 7293034)
    (kk : W p_ l e_ room_1 s m #[Value.ref b] below meth c H locs cells slots Q (F0 m (pc + 3) ls (.int E :: rest))) : W p_ l e_ room_1 s m #[Value.ref b] below meth c H locs cells slots Q (F0 m pc ls (.ref (zc 0) :: rest)) := by
  obtain ⟨hPc, hPm, hO, hS⟩ := hH
  obtain ⟨-, hfl, hK, hX, hB, -⟩ := id F
  exact g_callR (va_runV (C := RX6) (As := []) (rest := rest) (law_S0 F) hM cw (g_preV hK hPc (q0 := 0) (ci := 6) (q := (RX6, TX6, 7)) rfl rfl) rfl rfl hls rfl (lv_room hrm) hdg hcl) kk
/-- a place of the script is pushed -/
theorem law_arg (F : lwF p_ l s m meth c b L xs G) (hH : lwH G s zc zm o q p g H locs) {i j : Nat} {n : Int} {L1 : List (Nat × Value)} (hl : lv_has ls 7 L1) (k0 k4 : Nat) (hk0 : L1[k0]? = some (0, .ref b)) (hk4 : L1[k4]? = some (4, .int (nI (4 * i)))) (hi : 4 * i + j < L) (hn : Int32.ofInt n = nI j) (d0 : decode code pc = .ok (.aload_n 0, 1)) (d1 : decode code (pc + 1) = .ok (.iload 4, 2)) (d3 : decode code (pc + 1 + 2) = .ok (.iconst n, 1)) (d4 : decode code (pc + 1 + 2 + 1) = .ok (.iadd, 1)) (d5 : decode code (pc + 1 + 2 + 1 + 1) = .ok (.iaload, 1))
    (kk : W p_ l e_ room_1 s m #[Value.ref b] below meth c H locs cells slots Q (F0 m (pc + 1 + 2 + 1 + 1 + 1) ls (.int (xs (4 * i + j)) :: rest))) : W p_ l e_ room_1 s m #[Value.ref b] below meth c H locs cells slots Q (F0 m pc ls rest) := by
  obtain ⟨hPc, hPm, hO, hS⟩ := hH
  obtain ⟨⟨hx, hb, hr, hml, hown, hts, hX, hbl, hlocks⟩, -, -, -, -, hL⟩ := id F
  refine lv_aload_n hx hb d0 rfl (lv_at hl k0 hk0) ?_
  refine lv_iload hx hb d1 (lv_at hl k4 hk4) ?_
  refine lv_iconst hx hb d3 hn ?_
  refine lv_iadd hx hb d4 ?_
  rw [nI_add]
  refine va_sld hx hb hX hbl (Nat.not_le.mpr hbl) hS (vp_in_nI hi (by omega)) d5 ?_
  rw [nI_clamp (by omega)]
  exact kk
/-- 'not 0' as a truth -/
theorem law_bool (F : lwF p_ l s m meth c b L xs G) {x : Int32} {t1 t2 : Nat} {o1 o2 : Int} (d0 : decode code pc = .ok (.ifCond .eq o1, 3)) (e1 : (pc : Int) + o1 = (t1 : Int)) (d3 : decode code (pc + 3) = .ok (.iconst 1, 1)) (d4 : decode code (pc + 3 + 1) = .ok (.goto o2, 3)) (e2 : ((pc + 3 + 1 : Nat) : Int) + o2 = (t2 : Int)) (d7 : decode code t1 = .ok (.iconst 0, 1)) (e3 : t1 + 1 = t2)
    (kk : W p_ l e_ room_1 s m #[Value.ref b] below meth c H locs cells slots Q (F0 m t2 ls (.int (b2i (!decide (x = 0))) :: rest))) : W p_ l e_ room_1 s m #[Value.ref b] below meth c H locs cells slots Q (F0 m pc ls (.int x :: rest)) := by
  obtain ⟨⟨hx, hb, -⟩, -⟩ := id F
  refine lv_if_eq (tgt := t1) hx hb d0 e1 (fun h => ?_) (fun h => ?_)
  · refine lv_iconst (v := nI 0) hx hb d7 (by decide +kernel) ?_
    rw [e3]
    rw [decide_eq_true h] at kk
    exact kk
  · refine lv_iconst (v := nI 1) hx hb d3 (by decide +kernel) ?_
    refine lv_goto (tgt := t2) hx hb d4 e2 ?_
    rw [decide_eq_false h] at kk
    exact kk
end S97
